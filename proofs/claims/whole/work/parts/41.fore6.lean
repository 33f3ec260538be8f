/-! longs: powers, the shared divisor; mould; vintages -/
theorem lgc {a b : Nat} (ha : a < 2 ^ 63) (hb : b < 2 ^ 63) : lg_cmp (lN a) (lN b) = if b < a then 1 else if a = b then 0 else -1 := by
  unfold lg_cmp
  have h1 : (lN a > lN b) ↔ b < a := pk_lLT hb ha
  have h2 : (lN a = lN b) ↔ a = b := pk_lEQ ha hb
  by_cases q : b < a
  · rw [if_pos (h1.mpr q), if_pos q]
  · rw [if_neg (fun z => q (h1.mp z)), if_neg q]
    by_cases q2 : a = b
    · rw [if_pos (h2.mpr q2), if_pos q2]
    · rw [if_neg (fun z => q2 (h2.mp z)), if_neg q2]
theorem lN_ne0 {b : Nat} (h0 : 0 < b) (hb : b < 2 ^ 63) : ¬ lN b = 0 := fun z => by
  have := (pk_lEQ (b := 0) hb (by decide)).mp z
  omega
/-- Euclid is through in f steps -/
def euc : Nat → Nat → Nat → Bool
  | 0, _, b => decide (b = 0)
  | f + 1, a, b => decide (b = 0) || euc f b (a % b)
theorem euc_mono : ∀ (f m a b : Nat), euc f a b = true → euc (f + m) a b = true
  | 0, m, a, b, h => by
    have hb : b = 0 := by simpa [euc] using h
    subst hb
    cases m <;> simp [euc]
  | f + 1, m, a, b, h => by
    rw [show f + 1 + m = (f + m) + 1 by omega]
    unfold euc at h ⊢
    rcases Bool.or_eq_true _ _ ▸ h with h | h
    · simp [h]
    · simp [euc_mono f m b (a % b) h]
theorem euc_ok : ∀ (s a b : Nat), b < 2 ^ s → euc (2 * s) a b = true
  | 0, a, b, h => by
    have : b = 0 := by simpa using h
    simp [euc, this]
  | s + 1, a, b, h => by
    rw [show 2 * (s + 1) = (2 * s + 1) + 1 by omega]
    unfold euc
    by_cases hb : b = 0
    · simp [hb]
    · have h1 : a % b < b := Nat.mod_lt _ (by omega)
      rw [decide_eq_false hb, Bool.false_or]
      unfold euc
      by_cases hr : a % b = 0
      · simp [hr]
      · rw [decide_eq_false hr, Bool.false_or]
        apply euc_ok s
        have h2 : b % (a % b) < a % b := Nat.mod_lt _ (by omega)
        have h3 := Nat.div_add_mod b (a % b)
        have h4 : 1 ≤ b / (a % b) := Nat.div_pos (by omega) (by omega)
        have h5 : a % b ≤ (a % b) * (b / (a % b)) := Nat.le_mul_of_pos_right _ h4
        have e : 2 ^ (s + 1) = 2 ^ s + 2 ^ s := by rw [Nat.pow_succ]; omega
        omega
def mdf (V : Cel) (w : Nat → Bool) (j nt p pp o s : Nat) : Nat := if subW w o = 0 ∧ o.testBit j = true ∧ V.brk nt p (fun i => o.testBit i) j = true then s + (10 - pp) ^ (ctN o) * pp ^ (ct (fun i => w i && !o.testBit i) 8) else s
def Cel.mdA (V : Cel) (j nt p pp : Nat) : Nat := itr (mdf V (V.th 0) j nt p pp) 0 256
def Cel.mdB (V : Cel) : Nat := 10 ^ ct (V.th 0) 8
theorem pw_le {b t : Nat} (hb : b ≤ 10) (ht : t ≤ 8) : b ^ t ≤ 100000000 := by
  have h1 : b ^ t ≤ 10 ^ t := Nat.pow_le_pow_left hb t
  have h2 : (10 : Nat) ^ t ≤ 10 ^ 8 := Nat.pow_le_pow_right (by decide) ht
  have h3 : (10 : Nat) ^ 8 = 100000000 := by decide
  omega
theorem md_leB (V : Cel) (w : Nat → Bool) (j nt p pp B : Nat) (hB : ∀ k, (10 - pp) ^ ctN k * pp ^ ct (fun i => w i && !k.testBit i) 8 ≤ B) : ∀ k, itr (mdf V w j nt p pp) 0 k ≤ k * B := by
  intro k
  induction k with
  | zero => exact Nat.zero_le _
  | succ k ih =>
    have hk := hB k
    rw [Nat.succ_mul]
    show mdf V w j nt p pp k (itr (mdf V w j nt p pp) 0 k) ≤ _
    generalize itr (mdf V w j nt p pp) 0 k = y at ih ⊢
    unfold mdf
    split
    · exact Nat.add_le_add ih hk
    · exact Nat.le_trans ih (Nat.le_add_right _ _)
theorem md_le (V : Cel) (w : Nat → Bool) (j nt p pp : Nat) (hp : pp ≤ 10) : itr (mdf V w j nt p pp) 0 256 < 2 ^ 62 := by
  have h := md_leB V w j nt p pp (100000000 * 100000000) (fun k => Nat.mul_le_mul (pw_le (b := 10 - pp) (t := ctN k) (by omega) (ct_le _ 8)) (pw_le (b := pp) (t := ct (fun i => w i && !k.testBit i) 8) hp (ct_le _ 8))) 256
  have h2 : 256 * (100000000 * 100000000) < 2 ^ 62 := by decide
  omega
section Fore6
variable {sk : Nat → SK} {g : Nat → Nat → Int32} {n c : Nat} {V : Cel} {Q : Option Value → SH → Prop} {d kc ks : Nat} {h : SH} {bf im : Nat → Option Nat} {above below : Int64} {w : Nat → Bool}
theorem power_loop {b t : Nat} (ht : t < 100) (k : Q (some (.long (lN (b ^ t)))) h) : ∀ m i, i + m = t → T MX4_power d kc ks 5 [(0, .long (lN b)), (2, .int (nI t)), (3, .long (lN (b ^ i))), (5, .int (nI i))] [] h Q := by
  intro m
  induction m with
  | zero =>
    intro i hi
    refine T_iload (pc2 := 7) dX4_power_5 rfl rfl ?_
    refine T_iload_n (pc2 := 8) dX4_power_7 rfl rfl ?_
    first | refine N_icmpge (pc2 := 11) (tgt := 21) dX4_power_8 (by decide) (by with_reducible rfl) (by with_reducible rfl) (by omega) (by omega) rfl (fun c8 => ?_) (fun c8 => ?_) | refine T_icmpge (pc2 := 11) (tgt := 21) dX4_power_8 (by decide) rfl (fun c8 => ?_) (fun c8 => ?_)
    · refine T_lload_n (pc2 := 22) dX4_power_21 rfl rfl ?_
      refine T_lret dX4_power_22 rfl ?_
      rw [show i = t by omega]
      exact k
    · exact absurd (by omega) c8
  | succ m ih =>
    intro i hi
    refine T_iload (pc2 := 7) dX4_power_5 rfl rfl ?_
    refine T_iload_n (pc2 := 8) dX4_power_7 rfl rfl ?_
    first | refine N_icmpge (pc2 := 11) (tgt := 21) dX4_power_8 (by decide) (by with_reducible rfl) (by with_reducible rfl) (by omega) (by omega) rfl (fun c8 => ?_) (fun c8 => ?_) | refine T_icmpge (pc2 := 11) (tgt := 21) dX4_power_8 (by decide) rfl (fun c8 => ?_) (fun c8 => ?_)
    · exact absurd c8 (by omega)
    · refine T_lload_n (pc2 := 12) dX4_power_11 rfl rfl ?_
      refine T_lload_n (pc2 := 13) dX4_power_12 rfl rfl ?_
      refine T_lmul (pc2 := 14) dX4_power_13 rfl ?_
      rw [lN_mul, ← Nat.pow_succ]
      refine T_lstore_n (pc2 := 15) dX4_power_14 (by decide) rfl ?_
      first | refine N_iinc (pc2 := 18) dX4_power_15 rfl (by with_reducible rfl) ic1 (by decide) rfl ?_ | refine T_iinc (pc2 := 18) dX4_power_15 rfl rfl (by decide) rfl ?_
      refine T_goto (tgt := 5) dX4_power_18 (by decide) ?_
      refine T_sub (lks (i := 0) rfl (lks (i := 2) rfl (lks (i := 3) rfl (lks (i := 5) rfl lk0)))) ?_
      exact ih (i + 1) (by omega)
theorem c_power {b t : Nat} (ht : t < 100) (k : Q (some (.long (lN (b ^ t)))) h) : Calls MX4_power d 0 0 [.long (lN b), .int (nI t)] h Q := by
  refine Calls.of (by decide +kernel) (Nat.le_of_ble_eq_true rfl) ?_
  refine T_lconst (pc2 := 1) (v := lN 1) dX4_power_0 rfl rfl ?_
  refine T_lstore_n (pc2 := 2) dX4_power_1 (by decide) rfl ?_
  refine T_iconst (pc2 := 3) dX4_power_2 ic0 rfl ?_
  refine T_istore (pc2 := 5) dX4_power_3 (by decide) rfl ?_
  refine T_sub (lks (i := 0) rfl (lks (i := 2) rfl (lks (i := 3) rfl (lks (i := 5) rfl lk0)))) ?_
  exact power_loop ht k t 0 (by omega)
theorem gcd_loop {G : Nat} (k : Q (some (.long (lN G))) h) : ∀ f a b i, euc f a b = true → i + f ≤ 100 → a < 2 ^ 63 → b < 2 ^ 63 → Nat.gcd a b = G → T MX4_sharedDivisor d kc ks 9 [(4, .long (lN a)), (6, .long (lN b)), (8, .int (nI i))] [] h Q := by
  intro f
  induction f with
  | zero =>
    intro a b i he hi ha hb hG
    have hb0 : b = 0 := by simpa [euc] using he
    subst hb0
    have hx : T MX4_sharedDivisor d kc ks 44 [(4, .long (lN a)), (6, .long (lN 0)), (8, .int (nI i))] [] h Q := by
      refine T_lload (pc2 := 46) dX4_sharedDivisor_44 rfl rfl ?_
      refine T_lret dX4_sharedDivisor_46 rfl ?_
      rw [Nat.gcd_zero_right] at hG
      rw [hG]
      exact k
    refine T_iload (pc2 := 11) dX4_sharedDivisor_9 rfl rfl ?_
    refine T_bipush (pc2 := 13) dX4_sharedDivisor_11 bp100 rfl ?_
    first | refine N_icmpge (pc2 := 16) (tgt := 44) dX4_sharedDivisor_13 (by decide) (by with_reducible rfl) (by with_reducible rfl) (by omega) (by omega) rfl (fun c13 => ?_) (fun c13 => ?_) | refine T_icmpge (pc2 := 16) (tgt := 44) dX4_sharedDivisor_13 (by decide) rfl (fun c13 => ?_) (fun c13 => ?_)
    · exact hx
    · refine T_lload (pc2 := 18) dX4_sharedDivisor_16 rfl rfl ?_
      refine T_lconst (pc2 := 19) (v := lN 0) dX4_sharedDivisor_18 rfl rfl ?_
      refine T_lcmp (pc2 := 20) dX4_sharedDivisor_19 rfl ?_
      rw [lgc (by decide) (by decide), if_neg (by decide), if_pos rfl]
      refine T_ifeq (pc2 := 23) (tgt := 44) dX4_sharedDivisor_20 (by decide) rfl (fun c20 => ?_) (fun c20 => ?_)
      · exact hx
      · exact absurd rfl c20
  | succ f ih =>
    intro a b i he hi ha hb hG
    refine T_iload (pc2 := 11) dX4_sharedDivisor_9 rfl rfl ?_
    refine T_bipush (pc2 := 13) dX4_sharedDivisor_11 bp100 rfl ?_
    first | refine N_icmpge (pc2 := 16) (tgt := 44) dX4_sharedDivisor_13 (by decide) (by with_reducible rfl) (by with_reducible rfl) (by omega) (by omega) rfl (fun c13 => ?_) (fun c13 => ?_) | refine T_icmpge (pc2 := 16) (tgt := 44) dX4_sharedDivisor_13 (by decide) rfl (fun c13 => ?_) (fun c13 => ?_)
    · exact absurd c13 (by omega)
    · refine T_lload (pc2 := 18) dX4_sharedDivisor_16 rfl rfl ?_
      refine T_lconst (pc2 := 19) (v := lN 0) dX4_sharedDivisor_18 rfl rfl ?_
      refine T_lcmp (pc2 := 20) dX4_sharedDivisor_19 rfl ?_
      rw [lgc hb (by decide)]
      by_cases hb0 : b = 0
      · subst hb0
        rw [if_neg (by decide), if_pos rfl]
        refine T_ifeq (pc2 := 23) (tgt := 44) dX4_sharedDivisor_20 (by decide) rfl (fun c20 => ?_) (fun c20 => ?_)
        · refine T_lload (pc2 := 46) dX4_sharedDivisor_44 rfl rfl ?_
          refine T_lret dX4_sharedDivisor_46 rfl ?_
          rw [Nat.gcd_zero_right] at hG
          rw [hG]
          exact k
        · exact absurd rfl c20
      · rw [if_pos (by omega)]
        refine T_ifeq (pc2 := 23) (tgt := 44) dX4_sharedDivisor_20 (by decide) rfl (fun c20 => ?_) (fun c20 => ?_)
        · exact absurd c20 (by decide)
        · have hne := lN_ne0 (show 0 < b by omega) hb
          refine T_lload (pc2 := 25) dX4_sharedDivisor_23 rfl rfl ?_
          refine T_lload (pc2 := 27) dX4_sharedDivisor_25 rfl rfl ?_
          refine T_lrem (pc2 := 28) dX4_sharedDivisor_27 (by first | assumption | decide) rfl ?_
          rw [pk_lRem ha (by omega) hb]
          refine T_lstore (pc2 := 30) dX4_sharedDivisor_28 (by decide) rfl ?_
          refine T_lload (pc2 := 32) dX4_sharedDivisor_30 rfl rfl ?_
          refine T_lstore (pc2 := 34) dX4_sharedDivisor_32 (by decide) rfl ?_
          refine T_lload (pc2 := 36) dX4_sharedDivisor_34 rfl rfl ?_
          refine T_lstore (pc2 := 38) dX4_sharedDivisor_36 (by decide) rfl ?_
          first | refine N_iinc (pc2 := 41) dX4_sharedDivisor_38 rfl (by with_reducible rfl) ic1 (by decide) rfl ?_ | refine T_iinc (pc2 := 41) dX4_sharedDivisor_38 rfl rfl (by decide) rfl ?_
          refine T_goto (tgt := 9) dX4_sharedDivisor_41 (by decide) ?_
          refine T_sub (lks (i := 4) rfl (lks (i := 6) rfl (lks (i := 8) rfl lk0))) ?_
          have hr : a % b < b := Nat.mod_lt _ (by omega)
          refine ih b (a % b) (i + 1) ?_ (by omega) hb (by omega) ?_
          · unfold euc at he
            rw [decide_eq_false hb0, Bool.false_or] at he
            exact he
          · rw [← hG, Nat.gcd_comm a b, Nat.gcd_rec b a, Nat.gcd_comm]
theorem c_gcd {a b : Nat} (ha : a < 2 ^ 63) (hb : b < 2 ^ 40) (k : Q (some (.long (lN (Nat.gcd a b)))) h) : Calls MX4_sharedDivisor d 0 0 [.long (lN a), .long (lN b)] h Q := by
  refine Calls.of (by decide +kernel) (Nat.le_of_ble_eq_true rfl) ?_
  refine T_lload_n (pc2 := 1) dX4_sharedDivisor_0 rfl rfl ?_
  refine T_lstore (pc2 := 3) dX4_sharedDivisor_1 (by decide) rfl ?_
  refine T_lload_n (pc2 := 4) dX4_sharedDivisor_3 rfl rfl ?_
  refine T_lstore (pc2 := 6) dX4_sharedDivisor_4 (by decide) rfl ?_
  refine T_iconst (pc2 := 7) dX4_sharedDivisor_6 ic0 rfl ?_
  refine T_istore (pc2 := 9) dX4_sharedDivisor_7 (by decide) rfl ?_
  refine T_sub (lks (i := 4) rfl (lks (i := 6) rfl (lks (i := 8) rfl lk0))) ?_
  exact gcd_loop k 80 a b 0 (euc_ok 40 a b hb) (by omega) ha (Nat.lt_trans hb (by decide)) rfl
/-- what the search for the mould leaves: the shape with two longs -/
theorem mould_loop {j nt p pp : Nat} (hJ : V.J ≤ 8) (hj : j < 8) (hn : nt < 12) (hp : p < V.J) (hpp : pp ≤ 10) (bl : Int64)
    (kk : ∀ g2 sk2, Sh sk2 n bf im (lN (itr (mdf V w j nt p pp) 0 256)) bl → (∀ i, i ≠ 34 → sk2 i = sk i) → Fr 35 36 g g2 → T MX4_findMould (d + 3) kc ks 130 [(0, .ref 34)] [] (HP sk2 g2 n) Q) :
    ∀ m o g2 sk2, o + m = 256 → Sh sk2 n bf im (lN (itr (mdf V w j nt p pp) 0 o)) bl → (∀ i, i ≠ 34 → sk2 i = sk i) → tunedE g2 V → Fr 35 36 g g2 → T MX4_findMould (d + 3) kc ks 38 [(0, .ref 34), (2, .int (nI j)), (3, .int (nI nt)), (4, .int (nI p)), (5, .int (nI pp)), (6, .int (nI (bm w 8))), (7, .int (nI o))] [] (HP sk2 g2 n) Q := by
  intro m
  induction m with
  | zero =>
    intro o g2 sk2 ho S hsk hE hf
    refine T_iload (pc2 := 40) dX4_findMould_38 rfl rfl ?_
    refine T_sipush (pc2 := 43) dX4_findMould_40 sp256 rfl ?_
    first | refine N_icmpge (pc2 := 46) (tgt := 130) dX4_findMould_43 (by decide) (by with_reducible rfl) (by with_reducible rfl) (by omega) (by omega) rfl (fun c43 => ?_) (fun c43 => ?_) | refine T_icmpge (pc2 := 46) (tgt := 130) dX4_findMould_43 (by decide) rfl (fun c43 => ?_) (fun c43 => ?_)
    · refine T_sub (lks (i := 0) rfl lk0) ?_
      have : o = 256 := by omega
      subst this
      exact kk g2 sk2 S hsk hf
    · exact absurd (by omega) c43
  | succ m ih =>
    intro o g2 sk2 ho S hsk hE hf
    have hstep : itr (mdf V w j nt p pp) 0 (o + 1) = mdf V w j nt p pp o (itr (mdf V w j nt p pp) 0 o) := rfl
    have hself : bm (fun i => o.testBit i) 8 = o := bm_self (k := 8) (show o < 2 ^ 8 by omega)
    have hno : ∀ g3, ¬ (subW w o = 0 ∧ o.testBit j = true ∧ V.brk nt p (fun i => o.testBit i) j = true) → tunedE g3 V → Fr 35 36 g g3 → T MX4_findMould (d + 3) kc ks 124 [(0, .ref 34), (2, .int (nI j)), (3, .int (nI nt)), (4, .int (nI p)), (5, .int (nI pp)), (6, .int (nI (bm w 8))), (7, .int (nI o))] [] (HP sk2 g3 n) Q := by
      intro g3 hc hE3 hf3
      first | refine N_iinc (pc2 := 127) dX4_findMould_124 rfl (by with_reducible rfl) ic1 (by decide) rfl ?_ | refine T_iinc (pc2 := 127) dX4_findMould_124 rfl rfl (by decide) rfl ?_
      refine T_goto (tgt := 38) dX4_findMould_127 (by decide) ?_
      refine T_sub (lks (i := 0) rfl (lks (i := 2) rfl (lks (i := 3) rfl (lks (i := 4) rfl (lks (i := 5) rfl (lks (i := 6) rfl (lks (i := 7) rfl lk0))))))) ?_
      have hx : itr (mdf V w j nt p pp) 0 (o + 1) = itr (mdf V w j nt p pp) 0 o := by
        rw [hstep]
        exact if_neg hc
      exact ih (o + 1) g3 sk2 (by omega) (by rw [hx]; exact S) hsk hE3 hf3
    refine T_iload (pc2 := 40) dX4_findMould_38 rfl rfl ?_
    refine T_sipush (pc2 := 43) dX4_findMould_40 sp256 rfl ?_
    first | refine N_icmpge (pc2 := 46) (tgt := 130) dX4_findMould_43 (by decide) (by with_reducible rfl) (by with_reducible rfl) (by omega) (by omega) rfl (fun c43 => ?_) (fun c43 => ?_) | refine T_icmpge (pc2 := 46) (tgt := 130) dX4_findMould_43 (by decide) rfl (fun c43 => ?_) (fun c43 => ?_)
    · exact absurd c43 (by omega)
    · refine T_iload (pc2 := 48) dX4_findMould_46 rfl rfl ?_
      refine T_iload (pc2 := 50) dX4_findMould_48 rfl rfl ?_
      refine T_iconst (pc2 := 51) dX4_findMould_50 icm1 rfl ?_
      refine T_ixor (pc2 := 52) dX4_findMould_51 rfl ?_
      refine T_iand (pc2 := 53) dX4_findMould_52 rfl ?_
      have q1 : nI o &&& (nI (bm w 8) ^^^ (-1)) = nI (subW w o) := by
        have := bm_not (fun j => o.testBit j) w 8
        rw [hself] at this
        exact this
      rw [q1]
      have hlt : subW w o < 2 ^ 31 := bm_le _ (by decide)
      first | refine B_ifne1 (tgt := 124) dX4_findMould_53 (by with_reducible rfl) (by decide) ?_ | refine B_ifne0 (pc2 := 56) (tgt := 124) dX4_findMould_53 (by with_reducible rfl) (by decide) rfl ?_ | refine N_ifne (pc2 := 56) (tgt := 124) dX4_findMould_53 (by with_reducible rfl) (by decide) (by omega) rfl (fun c53 => ?_) (fun c53 => ?_) | refine T_ifne (pc2 := 56) (tgt := 124) dX4_findMould_53 (by decide) rfl (fun c53 => ?_) (fun c53 => ?_)
      · exact hno g2 (fun z => c53 z.1) hE hf
      · refine T_iload (pc2 := 58) dX4_findMould_56 rfl rfl ?_
        refine T_iload_n (pc2 := 59) dX4_findMould_58 rfl rfl ?_
        refine C_SN2 (pc2 := 62) (mc := 0) (ms := 0) dX4_findMould_59 csX7_has mnX4_75 (Nat.le_of_ble_eq_true rfl) rfl ?_
        have hc1 := c_has (d := d + 2) (h := HP sk2 g2 n) (p := fun i => o.testBit i) (k := 8) (i := j) (Q := fun r h2 => T MX4_findMould (d + 3) kc ks 62 [(0, .ref 34), (2, .int (nI j)), (3, .int (nI nt)), (4, .int (nI p)), (5, .int (nI pp)), (6, .int (nI (bm w 8))), (7, .int (nI o))] (r.toList ++ []) h2 Q) (by decide) hj
        rw [hself] at hc1
        refine hc1 (fun h1 => ?_) (fun h1 => ?_)
        · first | refine B_ifeq1 (pc2 := 65) (tgt := 124) dX4_findMould_62 (by with_reducible rfl) (by decide) rfl ?_ | refine B_ifeq0 (tgt := 124) dX4_findMould_62 (by with_reducible rfl) (by decide) ?_ | refine N_ifeq (pc2 := 65) (tgt := 124) dX4_findMould_62 (by with_reducible rfl) (by decide) (by omega) rfl (fun c62 => ?_) (fun c62 => ?_) | refine T_ifeq (pc2 := 65) (tgt := 124) dX4_findMould_62 (by decide) rfl (fun c62 => ?_) (fun c62 => ?_)
          refine T_aload_n (pc2 := 66) dX4_findMould_65 rfl rfl ?_
          refine G_getR (pc2 := 69) dX4_findMould_66 flX4_12 (sh34 S) rfl rfl ?_
          refine T_iload_n (pc2 := 70) dX4_findMould_69 rfl rfl ?_
          refine T_iload (pc2 := 72) dX4_findMould_70 rfl rfl ?_
          refine T_iload (pc2 := 74) dX4_findMould_72 rfl rfl ?_
          refine C_V3 (pc2 := 77) (mc := 0) (ms := 0) dX4_findMould_74 cvX3_broken mlX4_33 (isO.h (sh35 S) _) (Nat.le_of_ble_eq_true rfl) rfl ?_
          have hbk := c_broken (d := d) (Q := fun r h2 => T MX4_findMould (d + 3) kc ks 77 [(0, .ref 34), (2, .int (nI j)), (3, .int (nI nt)), (4, .int (nI p)), (5, .int (nI pp)), (6, .int (nI (bm w 8))), (7, .int (nI o))] (r.toList ++ []) h2 Q) (w := fun i => o.testBit i) S hE hJ hn hp
          rw [hself] at hbk
          refine hbk (fun g3 hE3 _ hf3 => ?_)
          have hf4 : Fr 35 36 g g3 := hf.tr hf3
          refine T_iload_n (pc2 := 78) dX4_findMould_77 rfl rfl ?_
          refine C_SN2 (pc2 := 81) (mc := 0) (ms := 0) dX4_findMould_78 csX7_has mnX4_75 (Nat.le_of_ble_eq_true rfl) rfl ?_
          refine c_has (by decide) hj (fun h2 => ?_) (fun h2 => ?_)
          · first | refine B_ifeq1 (pc2 := 84) (tgt := 124) dX4_findMould_81 (by with_reducible rfl) (by decide) rfl ?_ | refine B_ifeq0 (tgt := 124) dX4_findMould_81 (by with_reducible rfl) (by decide) ?_ | refine N_ifeq (pc2 := 84) (tgt := 124) dX4_findMould_81 (by with_reducible rfl) (by decide) (by omega) rfl (fun c81 => ?_) (fun c81 => ?_) | refine T_ifeq (pc2 := 84) (tgt := 124) dX4_findMould_81 (by decide) rfl (fun c81 => ?_) (fun c81 => ?_)
            refine T_aload_n (pc2 := 85) dX4_findMould_84 rfl rfl ?_
            refine T_dup (pc2 := 86) dX4_findMould_85 rfl rfl ?_
            refine G_getR (pc2 := 89) dX4_findMould_86 flX4_96 (sh34 S) rfl rfl ?_
            refine T_bipush (pc2 := 91) dX4_findMould_89 bp10 rfl ?_
            refine T_iload (pc2 := 93) dX4_findMould_91 rfl rfl ?_
            first | refine N_isub (pc2 := 94) dX4_findMould_93 (by with_reducible rfl) (by with_reducible rfl) (by omega) rfl ?_ | refine T_isub (pc2 := 94) dX4_findMould_93 rfl ?_
            refine T_i2l (pc2 := 95) dX4_findMould_94 rfl ?_
            rw [nI_l (by omega)]
            refine T_iload (pc2 := 97) dX4_findMould_95 rfl rfl ?_
            refine C_S1 (pc2 := 100) (mc := 0) (ms := 0) dX4_findMould_97 csJ6_bitCount_0f7a4 mlX4_54 (Nat.le_of_ble_eq_true rfl) rfl ?_
            refine c_bitsN (by omega) ?_
            have hc8 : ct (fun j => o.testBit j) 8 ≤ 8 := ct_le _ 8
            refine C_S2 (pc2 := 103) (mc := 0) (ms := 0) dX4_findMould_100 csX4_power mlX4_102 (Nat.le_of_ble_eq_true rfl) rfl ?_
            refine c_power (by omega) ?_
            refine T_iload (pc2 := 105) dX4_findMould_103 rfl rfl ?_
            refine T_i2l (pc2 := 106) dX4_findMould_105 rfl ?_
            rw [nI_l (by omega)]
            refine T_iload (pc2 := 108) dX4_findMould_106 rfl rfl ?_
            refine T_iload (pc2 := 110) dX4_findMould_108 rfl rfl ?_
            refine T_iconst (pc2 := 111) dX4_findMould_110 icm1 rfl ?_
            refine T_ixor (pc2 := 112) dX4_findMould_111 rfl ?_
            refine T_iand (pc2 := 113) dX4_findMould_112 rfl ?_
            have q2 : nI (bm w 8) &&& (nI o ^^^ (-1)) = nI (bm (fun i => w i && !o.testBit i) 8) := by
              have := bm_not w (fun j => o.testBit j) 8
              rw [hself] at this
              exact this
            rw [q2]
            refine C_S1 (pc2 := 116) (mc := 0) (ms := 0) dX4_findMould_113 csJ6_bitCount_0f7a4 mlX4_54 (Nat.le_of_ble_eq_true rfl) rfl ?_
            refine c_bits ?_
            have hc9 : ct (fun i => w i && !o.testBit i) 8 ≤ 8 := ct_le _ 8
            refine C_S2 (pc2 := 119) (mc := 0) (ms := 0) dX4_findMould_116 csX4_power mlX4_102 (Nat.le_of_ble_eq_true rfl) rfl ?_
            refine c_power (by omega) ?_
            refine T_lmul (pc2 := 120) dX4_findMould_119 rfl ?_
            refine T_ladd (pc2 := 121) dX4_findMould_120 rfl ?_
            rw [lN_mul, lN_add]
            refine G_putL (pc2 := 124) dX4_findMould_121 flX4_96 (sh34 S) (Nat.le_of_ble_eq_true rfl) rfl rfl rfl ?_
            first | refine N_iinc (pc2 := 127) dX4_findMould_124 rfl (by with_reducible rfl) ic1 (by decide) rfl ?_ | refine T_iinc (pc2 := 127) dX4_findMould_124 rfl rfl (by decide) rfl ?_
            refine T_goto (tgt := 38) dX4_findMould_127 (by decide) ?_
            refine T_sub (lks (i := 0) rfl (lks (i := 2) rfl (lks (i := 3) rfl (lks (i := 4) rfl (lks (i := 5) rfl (lks (i := 6) rfl (lks (i := 7) rfl lk0))))))) ?_
            have hx : itr (mdf V w j nt p pp) 0 (o + 1) = itr (mdf V w j nt p pp) 0 o + (10 - pp) ^ (ct (fun j => o.testBit j) 8) * pp ^ (ct (fun i => w i && !o.testBit i) 8) := by
              rw [hstep]
              exact if_pos ⟨c53, h1, h2⟩
            refine ih (o + 1) g3 _ (by omega) ?_ (fun i hi => ?_) hE3 hf4
            · rw [hx]
              exact S.fore
            · show va_up sk2 34 _ i = sk i
              simp only [va_up, if_neg hi]
              exact hsk i hi
          · first | refine B_ifeq1 (pc2 := 84) (tgt := 124) dX4_findMould_81 (by with_reducible rfl) (by decide) rfl ?_ | refine B_ifeq0 (tgt := 124) dX4_findMould_81 (by with_reducible rfl) (by decide) ?_ | refine N_ifeq (pc2 := 84) (tgt := 124) dX4_findMould_81 (by with_reducible rfl) (by decide) (by omega) rfl (fun c81 => ?_) (fun c81 => ?_) | refine T_ifeq (pc2 := 84) (tgt := 124) dX4_findMould_81 (by decide) rfl (fun c81 => ?_) (fun c81 => ?_)
            refine hno g3 (fun z => ?_) hE3 hf4
            rw [h2] at z
            exact absurd z.2.2 (by decide)
        · first | refine B_ifeq1 (pc2 := 65) (tgt := 124) dX4_findMould_62 (by with_reducible rfl) (by decide) rfl ?_ | refine B_ifeq0 (tgt := 124) dX4_findMould_62 (by with_reducible rfl) (by decide) ?_ | refine N_ifeq (pc2 := 65) (tgt := 124) dX4_findMould_62 (by with_reducible rfl) (by decide) (by omega) rfl (fun c62 => ?_) (fun c62 => ?_) | refine T_ifeq (pc2 := 65) (tgt := 124) dX4_findMould_62 (by decide) rfl (fun c62 => ?_) (fun c62 => ?_)
          refine hno g2 (fun z => ?_) hE hf
          have h1b : o.testBit j = false := h1
          rw [h1b] at z
          exact absurd z.2.1 (by decide)
theorem c_findMould {j nt p pp : Nat} (S : Sh sk n bf im above below) (hc : isC sk n c) (hd : c + 6 ≤ 34 ∨ 45 ≤ c) (hV : hasC g c V) (hok : okC V) (hj : j < V.J) (hn : nt < 12) (hp : p < V.J) (hpp : pp ≤ 10)
    (kk : ∀ g2 sk2, Sh sk2 n bf im (lN (V.mdA j nt p pp / Nat.gcd (V.mdA j nt p pp) V.mdB)) (lN (V.mdB / Nat.gcd (V.mdA j nt p pp) V.mdB)) → (∀ i, i ≠ 34 → sk2 i = sk i) → Fr 34 45 g g2 → Q none (HP sk2 g2 n)) : Calls MX4_findMould (d + 3) 0 0 [.ref 34, .ref c, .int (nI j), .int (nI nt), .int (nI p), .int (nI pp)] (HP sk g n) Q := by
  have hJ8 := hok.1
  refine Calls.of (by decide +kernel) (Nat.le_of_ble_eq_true rfl) ?_
  refine T_aload_n (pc2 := 1) dX4_findMould_0 rfl rfl ?_
  refine G_getR (pc2 := 4) dX4_findMould_1 flX4_12 (sh34 S) rfl rfl ?_
  refine T_aload_n (pc2 := 5) dX4_findMould_4 rfl rfl ?_
  refine C_V1 (pc2 := 8) (mc := 0) (ms := 0) dX4_findMould_5 cvX3_tune mlX4_25 (isO.h (sh35 S) _) (Nat.le_of_ble_eq_true rfl) rfl ?_
  refine c_tune S hc (by omega) hV hok (fun g2 hE hf => ?_)
  refine T_aload_n (pc2 := 9) dX4_findMould_8 rfl rfl ?_
  refine T_iconst (pc2 := 10) dX4_findMould_9 ic0 rfl ?_
  refine C_V1 (pc2 := 13) (mc := 0) (ms := 0) dX4_findMould_10 cvX2_those mlX4_29 (isO.h hc.1 _) (Nat.le_of_ble_eq_true rfl) rfl ?_
  have hV2 := hV.fr hf (by omega)
  refine c_those hc hV2 hok.1 (by decide) (hw31 hok) ?_
  refine T_istore (pc2 := 15) dX4_findMould_13 (by decide) rfl ?_
  refine T_aload_n (pc2 := 16) dX4_findMould_15 rfl rfl ?_
  refine T_lconst (pc2 := 17) (v := lN 0) dX4_findMould_16 rfl rfl ?_
  refine G_putL (pc2 := 20) dX4_findMould_17 flX4_96 (sh34 S) (Nat.le_of_ble_eq_true rfl) rfl rfl rfl ?_
  have S1 : Sh (va_up sk 34 (skF (lN 0) below)) n bf im (lN 0) below := S.fore
  have hfr : ∀ i, i ≠ 34 → va_up sk 34 (skF (lN 0) below) i = sk i := fun i hi => by simp only [va_up, if_neg hi]
  show T MX4_findMould (d + 3) 0 0 20 _ [] (HP (va_up sk 34 (skF (lN 0) below)) g2 n) Q
  generalize va_up sk 34 (skF (lN 0) below) = sk1 at S1 hfr
  have S := S1
  refine T_aload_n (pc2 := 21) dX4_findMould_20 rfl rfl ?_
  refine T_ldc2 (pc2 := 24) dX4_findMould_21 kcX4_100 rfl ?_
  refine T_iload (pc2 := 26) dX4_findMould_24 rfl rfl ?_
  refine C_S1 (pc2 := 29) (mc := 0) (ms := 0) dX4_findMould_26 csJ6_bitCount_0f7a4 mlX4_54 (Nat.le_of_ble_eq_true rfl) rfl ?_
  refine c_bits ?_
  have hc8 : ct (V.th 0) 8 ≤ 8 := ct_le _ 8
  refine C_S2 (pc2 := 32) (mc := 0) (ms := 0) dX4_findMould_29 csX4_power mlX4_102 (Nat.le_of_ble_eq_true rfl) rfl ?_
  refine c_power (by omega) ?_
  refine G_putL (pc2 := 35) dX4_findMould_32 flX4_106 (sh34 S) (Nat.le_of_ble_eq_true rfl) rfl rfl rfl ?_
  refine T_iconst (pc2 := 36) dX4_findMould_35 ic0 rfl ?_
  refine T_istore (pc2 := 38) dX4_findMould_36 (by decide) rfl ?_
  have S2 : Sh (va_up sk1 34 (skF (lN 0) (lN V.mdB))) n bf im (lN 0) (lN V.mdB) := S.fore
  have hfr2 : ∀ i, i ≠ 34 → va_up sk1 34 (skF (lN 0) (lN V.mdB)) i = sk i := fun i hi => by simp only [va_up, if_neg hi]; exact hfr i hi
  show T MX4_findMould (d + 3) 0 0 38 _ [] (HP (va_up sk1 34 (skF (lN 0) (lN V.mdB))) g2 n) Q
  generalize va_up sk1 34 (skF (lN 0) (lN V.mdB)) = sk2 at S2 hfr2
  refine T_sub (lks (i := 0) rfl (lks (i := 2) rfl (lks (i := 3) rfl (lks (i := 4) rfl (lks (i := 5) rfl (lks (i := 6) rfl (lks (i := 7) rfl lk0))))))) ?_
  refine mould_loop (g := g2) (w := V.th 0) (sk := sk) hok.1 (by omega) hn hp hpp (lN V.mdB) (fun g3 sk3 S hs3 hf3 => ?_) 256 0 g2 sk2 (by omega) S2 hfr2 hE Fr.rf
  have hA := md_le V (V.th 0) j nt p pp hpp
  have hB : V.mdB ≤ 100000000 := pw_le (Nat.le_refl 10) hc8
  have hB0 : 0 < V.mdB := Nat.pow_pos (by decide)
  have hf4 : Fr 34 45 g g3 := (hf.wd (by omega) (by omega)).tr (hf3.wd (by omega) (by omega))
  refine T_aload_n (pc2 := 131) dX4_findMould_130 rfl rfl ?_
  refine G_getR (pc2 := 134) dX4_findMould_131 flX4_96 (sh34 S) rfl rfl ?_
  refine T_aload_n (pc2 := 135) dX4_findMould_134 rfl rfl ?_
  refine G_getR (pc2 := 138) dX4_findMould_135 flX4_106 (sh34 S) rfl rfl ?_
  refine C_S2 (pc2 := 141) (mc := 0) (ms := 0) dX4_findMould_138 csX4_sharedDivisor mlX4_109 (Nat.le_of_ble_eq_true rfl) rfl ?_
  refine c_gcd (a := itr (mdf V (V.th 0) j nt p pp) 0 256) (b := V.mdB) (by omega) (by omega) ?_
  have hg : Nat.gcd (itr (mdf V (V.th 0) j nt p pp) 0 256) V.mdB ≤ V.mdB := Nat.gcd_le_right _ hB0
  have hg0 : 0 < Nat.gcd (itr (mdf V (V.th 0) j nt p pp) 0 256) V.mdB := Nat.gcd_pos_of_pos_right _ hB0
  generalize hGe : Nat.gcd (itr (mdf V (V.th 0) j nt p pp) 0 256) V.mdB = G at hg hg0 ⊢
  refine T_lstore (pc2 := 143) dX4_findMould_141 (by decide) rfl ?_
  refine T_lload (pc2 := 145) dX4_findMould_143 rfl rfl ?_
  refine T_lconst (pc2 := 146) (v := lN 1) dX4_findMould_145 rfl rfl ?_
  refine T_lcmp (pc2 := 147) dX4_findMould_146 rfl ?_
  rw [lgc (by omega) (by decide)]
  by_cases hG1 : 1 < G
  · rw [if_pos hG1]
    refine T_ifle (pc2 := 150) (tgt := 172) dX4_findMould_147 (by decide) rfl (fun c147 => ?_) (fun c147 => ?_)
    · exact absurd c147 (by decide)
    · have hne := lN_ne0 hg0 (by omega)
      refine T_aload_n (pc2 := 151) dX4_findMould_150 rfl rfl ?_
      refine T_dup (pc2 := 152) dX4_findMould_151 rfl rfl ?_
      refine G_getR (pc2 := 155) dX4_findMould_152 flX4_96 (sh34 S) rfl rfl ?_
      refine T_lload (pc2 := 157) dX4_findMould_155 rfl rfl ?_
      refine T_ldiv (pc2 := 158) dX4_findMould_157 (by first | assumption | decide) rfl ?_
      rw [pk_lDiv (by omega) hg0 (by omega)]
      refine G_putL (pc2 := 161) dX4_findMould_158 flX4_96 (sh34 S) (Nat.le_of_ble_eq_true rfl) rfl rfl rfl ?_
      have S3 : Sh (va_up sk3 34 (skF (lN (itr (mdf V (V.th 0) j nt p pp) 0 256 / G)) (lN V.mdB))) n bf im (lN (itr (mdf V (V.th 0) j nt p pp) 0 256 / G)) (lN V.mdB) := S.fore
      have hfr3 : ∀ i, i ≠ 34 → va_up sk3 34 (skF (lN (itr (mdf V (V.th 0) j nt p pp) 0 256 / G)) (lN V.mdB)) i = sk i := fun i hi => by simp only [va_up, if_neg hi]; exact hs3 i hi
      show T MX4_findMould (d + 3) 0 0 161 _ [] (HP (va_up sk3 34 (skF (lN (itr (mdf V (V.th 0) j nt p pp) 0 256 / G)) (lN V.mdB))) g3 n) Q
      generalize va_up sk3 34 (skF (lN (itr (mdf V (V.th 0) j nt p pp) 0 256 / G)) (lN V.mdB)) = sk4 at S3 hfr3
      have S := S3
      refine T_aload_n (pc2 := 162) dX4_findMould_161 rfl rfl ?_
      refine T_dup (pc2 := 163) dX4_findMould_162 rfl rfl ?_
      refine G_getR (pc2 := 166) dX4_findMould_163 flX4_106 (sh34 S) rfl rfl ?_
      refine T_lload (pc2 := 168) dX4_findMould_166 rfl rfl ?_
      refine T_ldiv (pc2 := 169) dX4_findMould_168 (by first | assumption | decide) rfl ?_
      rw [pk_lDiv (by omega) hg0 (by omega)]
      refine G_putL (pc2 := 172) dX4_findMould_169 flX4_106 (sh34 S) (Nat.le_of_ble_eq_true rfl) rfl rfl rfl ?_
      refine T_ret dX4_findMould_172 rfl ?_
      refine kk g3 _ ?_ (fun i hi => ?_) hf4
      · rw [show Nat.gcd (V.mdA j nt p pp) V.mdB = G from hGe]
        exact S.fore
      · show va_up sk4 34 _ i = sk i
        simp only [va_up, if_neg hi]
        exact hfr3 i hi
  · have hG : G = 1 := by omega
    rw [if_neg hG1, if_pos hG]
    refine T_ifle (pc2 := 150) (tgt := 172) dX4_findMould_147 (by decide) rfl (fun c147 => ?_) (fun c147 => ?_)
    · refine T_ret dX4_findMould_172 rfl ?_
      refine kk g3 sk3 ?_ hs3 hf4
      rw [show Nat.gcd (V.mdA j nt p pp) V.mdB = G from hGe, hG, Nat.div_one, Nat.div_one]
      exact S
    · exact absurd (by decide) c147
end Fore6

