/-! the model: what is kept, the guard -/
def agN (V : Cel) (m : Nat) : Cel := itr (fun _ U => Cel.age U) V m
theorem agN_ok {V : Cel} (hok : okC V) (hY : V.Y ≤ 1000) : ∀ m, m ≤ 60 → okC (agN V m) ∧ (agN V m).J = V.J ∧ (agN V m).Y = V.Y + m := by
  intro m
  induction m with
  | zero => intro _; exact ⟨hok, rfl, rfl⟩
  | succ m ih =>
    intro hm
    obtain ⟨h1, h2, h3⟩ := ih (by omega)
    have hst : agN V (m + 1) = (agN V m).age := rfl
    rw [hst]
    refine ⟨h1.age (by omega), h2, ?_⟩
    show (agN V m).Y + 1 = _
    omega
theorem agN_J (V : Cel) : ∀ m, (agN V m).J = V.J
  | 0 => rfl
  | m + 1 => agN_J V m
theorem agN_th {V : Cel} (hok : okC V) {j : Nat} (hj : j < V.J) : ∀ m, ((V.hw j = 0 ∧ m < V.kp j) → (agN V m).hw j = 0 ∧ (agN V m).kp j = V.kp j - m) ∧ (¬ (V.hw j = 0 ∧ m < V.kp j) → (agN V m).hw j ≠ 0) := by
  have o := (hok.2.2.2.1 j hj).2.2.2.2.1
  intro m
  induction m with
  | zero =>
    refine ⟨fun h => ⟨h.1, by show V.kp j = V.kp j - 0; omega⟩, fun h z => ?_⟩
    have z : V.hw j = 0 := z
    exact h ⟨z, o z⟩
  | succ m ih =>
    have hJ := agN_J V m
    have e1 : (agN V (m + 1)).hw j = if j < (agN V m).J ∧ (agN V m).hw j = 0 ∧ (agN V m).kp j ≤ 1 then 2 else (agN V m).hw j := rfl
    have e2 : (agN V (m + 1)).kp j = if j < (agN V m).J ∧ (agN V m).hw j = 0 then (agN V m).kp j - 1 else (agN V m).kp j := rfl
    rw [e1, e2, hJ]
    by_cases q : V.hw j = 0 ∧ m < V.kp j
    · obtain ⟨a, b⟩ := ih.1 q
      rw [a, b]
      refine ⟨fun h => ⟨if_neg (by omega), ?_⟩, fun h => ?_⟩
      · rw [if_pos ⟨hj, rfl⟩]; omega
      · rw [if_pos ⟨hj, rfl, by omega⟩]; decide
    · have a := ih.2 q
      refine ⟨fun h => absurd ⟨h.1, by omega⟩ q, fun h => ?_⟩
      rw [if_neg (fun z => a z.2.1)]
      exact a
theorem agN_kept {V : Cel} (hok : okC V) (m : Nat) : (agN V m).th 0 = V.kept m := by
  funext j
  unfold Cel.th Cel.kept
  rw [agN_J]
  by_cases hj : j < V.J
  · have h := agN_th hok hj m
    by_cases q : V.hw j = 0 ∧ m < V.kp j
    · simp [hj, (h.1 q).1, q.1, q.2]
    · have a := h.2 q
      simp only [hj, decide_true, Bool.true_and, decide_eq_false a]
      rcases Classical.em (V.hw j = 0) with z | z
      · have : ¬ m < V.kp j := fun y => q ⟨z, y⟩
        simp [this]
      · simp [z]
  · simp [hj]
def bestI (s : Nat × Nat) : Int32 := if s.1 = 9 then -1000000 else nI s.2
def okG (s : Nat × Nat) : Prop := s.1 = 9 ∨ (s.1 ≤ 8 ∧ s.2 < 256 ∧ s.1 = ctN s.2)
theorem gdf_ok {V : Cel} {w : Nat → Bool} {nt p k o : Nat} {s : Nat × Nat} (h : okG s) (ho : o < 256) : okG (gdf V w nt p k o s) := by
  unfold gdf
  split
  · exact Or.inr ⟨ct_le _ 8, ho, rfl⟩
  · exact h
theorem gd_ok (V : Cel) (w : Nat → Bool) (nt p k : Nat) : ∀ m, m ≤ 256 → okG (itr (gdf V w nt p k) (9, 0) m)
  | 0, _ => Or.inl rfl
  | m + 1, h => gdf_ok (gd_ok V w nt p k m (by omega)) (by omega)
theorem subW_hi {V : Cel} {o : Nat} (hJ : V.J ≤ 8) (h1 : 2 ^ V.J ≤ o) (h2 : o < 256) : subW (V.th 0) o ≠ 0 := by
  obtain ⟨i, hi, hb⟩ := Nat.exists_ge_and_testBit_of_ge_two_pow h1
  have hi8 : i < 8 := by
    apply Classical.byContradiction
    intro z
    rw [Nat.testBit_lt_two_pow (Nat.lt_of_lt_of_le h2 (show 2 ^ 8 ≤ 2 ^ i from Nat.pow_le_pow_right (by decide) (by omega)))] at hb
    cases hb
  intro z
  have := bm_inj (p := fun j => o.testBit j && !V.th 0 j) (q := fun _ => false) (k := 8) (by rw [bm_0]; exact z) i hi8
  have e : V.th 0 i = false := by simp [Cel.th, Nat.not_lt.mpr hi]
  rw [hb, e] at this
  cases this
theorem gd_cut {V : Cel} {nt p k : Nat} (hJ : V.J ≤ 8) : V.gd (V.th 0) nt p k = itr (gdf V (V.th 0) nt p k) (9, 0) (2 ^ V.J) := by
  have h8 : 2 ^ V.J ≤ 256 := show 2 ^ V.J ≤ 2 ^ 8 from Nat.pow_le_pow_right (by decide) hJ
  have : ∀ m, 2 ^ V.J + m ≤ 256 → itr (gdf V (V.th 0) nt p k) (9, 0) (2 ^ V.J + m) = itr (gdf V (V.th 0) nt p k) (9, 0) (2 ^ V.J) := by
    intro m
    induction m with
    | zero => intro _; rfl
    | succ m ih =>
      intro hm
      have e : itr (gdf V (V.th 0) nt p k) (9, 0) (2 ^ V.J + (m + 1)) = gdf V (V.th 0) nt p k (2 ^ V.J + m) (itr (gdf V (V.th 0) nt p k) (9, 0) (2 ^ V.J + m)) := rfl
      rw [e, ih (by omega)]
      unfold gdf
      rw [if_neg (fun z => subW_hi hJ (by omega) (by omega) z.1)]
  have e := this (256 - 2 ^ V.J) (by omega)
  rw [show 2 ^ V.J + (256 - 2 ^ V.J) = 256 by omega] at e
  exact e
theorem gd_dec (V : Cel) (w : Nat → Bool) (nt p k : Nat) (a : Nat) : ∀ m, (itr (gdf V w nt p k) (9, 0) (a + m)).1 ≤ (itr (gdf V w nt p k) (9, 0) a).1
  | 0 => Nat.le_refl _
  | m + 1 => by
    have ih := gd_dec V w nt p k a m
    have e : itr (gdf V w nt p k) (9, 0) (a + (m + 1)) = gdf V w nt p k (a + m) (itr (gdf V w nt p k) (9, 0) (a + m)) := rfl
    have key : ∀ z : Nat × Nat, (gdf V w nt p k (a + m) z).1 ≤ z.1 := fun z => by
      unfold gdf
      split
      · rename_i h
        show ctN (a + m) ≤ _
        omega
      · exact Nat.le_refl _
    rw [e]
    exact Nat.le_trans (key _) ih
theorem gd_found (V : Cel) (w : Nat → Bool) (nt p k : Nat) : (V.gd w nt p k).1 ≤ 8 := by
  have hb := bm_lt w 8
  have h1 := gd_dec V w nt p k (bm w 8 + 1) (256 - (bm w 8 + 1))
  rw [show bm w 8 + 1 + (256 - (bm w 8 + 1)) = 256 by omega] at h1
  have h2 : (itr (gdf V w nt p k) (9, 0) (bm w 8 + 1)).1 ≤ 8 := by
    have e : itr (gdf V w nt p k) (9, 0) (bm w 8 + 1) = gdf V w nt p k (bm w 8) (itr (gdf V w nt p k) (9, 0) (bm w 8)) := rfl
    have ho := gd_ok V w nt p k (bm w 8) (by omega)
    rw [e]
    generalize itr (gdf V w nt p k) (9, 0) (bm w 8) = z at ho ⊢
    have hc : ctN (bm w 8) ≤ 8 := ct_le _ 8
    have htb : ∀ j, j < 8 → (bm w 8).testBit j = w j := fun j hj => by rw [bm_tb]; simp [hj]
    have hs : subW w (bm w 8) = 0 := by
      unfold subW
      rw [bm_cg (q := fun _ => false) (fun j hj => by rw [htb j hj]; cases w j <;> rfl), bm_0]
    have hz : ct (V.brk nt p (fun j => w j && !(bm w 8).testBit j)) 8 = 0 := by
      rw [← ct_bm0, bm_cg (q := fun _ => false) (fun j hj => by
        show ((w j && !(bm w 8).testBit j) && _) = false
        rw [htb j hj]
        cases w j <;> rfl), bm_0]
    unfold gdf
    rcases ho with h | h
    · rw [if_pos ⟨hs, by omega, by omega⟩]
      exact hc
    · split
      · exact hc
      · exact h.1
  have e2 : V.gd w nt p k = itr (gdf V w nt p k) (9, 0) 256 := rfl
  rw [e2]
  omega
section MFind1
variable {sk : Nat → SK} {g : Nat → Nat → Int32} {n w : Nat} {V : Cel} {Q : Option Value → SH → Prop} {d kc ks : Nat} {bf im : Nat → Option Nat} {above below : Int64} {h : SH} {s : ST}
theorem kept_loop {mm x : Nat} {s0 : ST} (S : Sh sk n bf im above below) (hok : okC V) (hY : V.Y ≤ 1000) (hm : mm ≤ 60) (k : ∀ g2, Fo 54 g g2 → Q (some (.int (nI (bm (V.kept mm) 8)))) (HP sk g2 n)) :
    ∀ m t g2, t + m = mm → hasM (g2 54) (agN V t) → Fo 54 g g2 → T MX8_kept (d + 2) kc ks 36 [(0, .ref 48), (1, .int (nI mm)), (2, .int (nI t))] [] (HP sk g2 n) Q := by
  intro m
  induction m with
  | zero =>
    intro t g2 ht hM hf
    have e : t = mm := by omega
    subst e
    have o := (agN_ok hok hY t hm).1
    refine T_iload_n (pc2 := 37) dX8_kept_36 rfl rfl ?_
    refine T_iload_n (pc2 := 38) dX8_kept_37 rfl rfl ?_
    first | refine N_icmpge (pc2 := 41) (tgt := 54) dX8_kept_38 (by decide) (by with_reducible rfl) (by with_reducible rfl) (by omega) (by omega) rfl (fun c38 => ?_) (fun c38 => ?_) | refine T_icmpge (pc2 := 41) (tgt := 54) dX8_kept_38 (by decide) rfl (fun c38 => ?_) (fun c38 => ?_)
    · refine T_aload_n (pc2 := 55) dX8_kept_54 rfl rfl ?_
      refine G_getR (pc2 := 58) dX8_kept_55 flX8_25 (sh48 S) rfl rfl ?_
      refine T_iconst (pc2 := 59) dX8_kept_58 ic0 rfl ?_
      refine C_S2 (pc2 := 62) (mc := 0) (ms := 0) dX8_kept_59 csX8_those mlX8_175 (Nat.le_of_ble_eq_true rfl) rfl ?_
      refine m_those (sh54 S) hM o.1 (by decide) (hw31 o) ?_
      refine T_iret dX8_kept_62 rfl rfl ?_
      rw [agN_kept hok]
      exact k g2 hf
    · omega
  | succ m ih =>
    intro t g2 ht hM hf
    have o := (agN_ok hok hY t (by omega)).1
    refine T_iload_n (pc2 := 37) dX8_kept_36 rfl rfl ?_
    refine T_iload_n (pc2 := 38) dX8_kept_37 rfl rfl ?_
    first | refine N_icmpge (pc2 := 41) (tgt := 54) dX8_kept_38 (by decide) (by with_reducible rfl) (by with_reducible rfl) (by omega) (by omega) rfl (fun c38 => ?_) (fun c38 => ?_) | refine T_icmpge (pc2 := 41) (tgt := 54) dX8_kept_38 (by decide) rfl (fun c38 => ?_) (fun c38 => ?_)
    · omega
    · refine T_aload_n (pc2 := 42) dX8_kept_41 rfl rfl ?_
      refine G_getR (pc2 := 45) dX8_kept_42 flX8_25 (sh48 S) rfl rfl ?_
      refine C_S1 (pc2 := 48) (mc := 0) (ms := 0) dX8_kept_45 csX8_yearOf mlX8_205 (Nat.le_of_ble_eq_true rfl) rfl ?_
      refine m_year (sh54 S) hM o (fun g3 hM3 hf3 => ?_)
      first | refine N_iinc (pc2 := 51) dX8_kept_48 rfl (by with_reducible rfl) ic1 (by decide) rfl ?_ | refine T_iinc (pc2 := 51) dX8_kept_48 rfl rfl (by decide) rfl ?_
      refine T_goto (tgt := 36) dX8_kept_51 (by decide) ?_
      refine T_sub (lks (i := 0) rfl (lks (i := 1) rfl (lks (i := 2) rfl lk0))) ?_
      exact ih (t + 1) g3 (by omega) hM3 (fun i hi => (hf3 i hi).trans (hf i hi))
theorem Fo.ms {g g2 : Nat → Nat → Int32} {w : Nat} (h : Fo w g g2) (hw : w = 53 ∨ w = 54 ∨ w = 57 ∨ w = 58) : Ms g g2 := ⟨fun i a b c d e => h i (by omega), fun k _ => by rw [h 48 (by omega)]⟩
theorem Fo.tr {g g2 g3 : Nat → Nat → Int32} {w : Nat} (h : Fo w g g2) (h2 : Fo w g2 g3) : Fo w g g3 := fun i hi => (h2 i hi).trans (h i hi)
theorem mm_kept {m : Int32} (S : Sh sk n bf im above below) (hI : InvM g s) (hok : Ok s) (k : ∀ g2, InvM g2 (sKept s m).2 → Fr 48 62 g g2 → Q (some (.int (sKept s m).1)) (HP sk g2 n)) : Calls MX8_kept (d + 3) 0 0 [.ref 48, .int m] (HP sk g n) Q := by
  have hokV := hok.2.2.1.1
  have hJ8 := hokV.1
  refine Calls.of (by decide +kernel) (Nat.le_of_ble_eq_true rfl) ?_
  refine T_aload_n (pc2 := 1) dX8_kept_0 rfl rfl ?_
  refine T_iconst (pc2 := 2) dX8_kept_1 ic0 rfl ?_
  refine G_putI (pc2 := 5) dX8_kept_2 flX8_50 (sh48 S) rfl rfl rfl rfl ?_
  have hI := hI.ms (Ms.rf.st (i := 48) (k := 0) (v := nI 0) (by omega))
  have k := fm_start k
  generalize gset g 48 0 (nI 0) = g1 at hI k ⊢
  have hV := hI.2.2.1
  have hY9 := hok.2.2.1.2
  refine T_aload_n (pc2 := 6) dX8_kept_5 rfl rfl ?_
  refine C_V0 (pc2 := 9) (mc := 0) (ms := 0) dX8_kept_6 cvX8_isThere mlX8_196 (isO.h (sh48 S) _) (Nat.le_of_ble_eq_true rfl) rfl ?_
  refine m_isThere S hV.1 hJ8 (fun h0 => ?_) (fun h0 => ?_)
  · first | refine B_ifne1 (tgt := 15) dX8_kept_9 (by with_reducible rfl) (by decide) ?_ | refine B_ifne0 (pc2 := 12) (tgt := 15) dX8_kept_9 (by with_reducible rfl) (by decide) rfl ?_ | refine N_ifne (pc2 := 12) (tgt := 15) dX8_kept_9 (by with_reducible rfl) (by decide) (by omega) rfl (fun c9 => ?_) (fun c9 => ?_) | refine T_ifne (pc2 := 12) (tgt := 15) dX8_kept_9 (by decide) rfl (fun c9 => ?_) (fun c9 => ?_)
    refine T_iload_n (pc2 := 16) dX8_kept_15 rfl rfl ?_
    refine T_i2l (pc2 := 17) dX8_kept_16 rfl ?_
    refine T_lconst (pc2 := 18) (v := lN 0) dX8_kept_17 rfl rfl ?_
    refine T_ldc2 (pc2 := 21) dX8_kept_18 kcX8_223 rfl ?_
    refine C_S3 (pc2 := 24) (mc := 0) (ms := 0) dX8_kept_21 csX8_in mlX8_60 (Nat.le_of_ble_eq_true rfl) rfl ?_
    refine m_inI (k := 60) rfl rfl (by decide) (by decide) (fun x hx ex => ?_) (fun hno => ?_)
    · subst ex
      first | refine B_ifne1 (tgt := 30) dX8_kept_24 (by with_reducible rfl) (by decide) ?_ | refine B_ifne0 (pc2 := 27) (tgt := 30) dX8_kept_24 (by with_reducible rfl) (by decide) rfl ?_ | refine N_ifne (pc2 := 27) (tgt := 30) dX8_kept_24 (by with_reducible rfl) (by decide) (by omega) rfl (fun c24 => ?_) (fun c24 => ?_) | refine T_ifne (pc2 := 27) (tgt := 30) dX8_kept_24 (by decide) rfl (fun c24 => ?_) (fun c24 => ?_)
      refine T_aload_n (pc2 := 31) dX8_kept_30 rfl rfl ?_
      refine C_V0 (pc2 := 34) (mc := 0) (ms := 0) dX8_kept_31 cvX8_layThen mlX8_233 (isO.h (sh48 S) _) (Nat.le_of_ble_eq_true rfl) rfl ?_
      refine m_lay S hV hJ8 (fun g2 hM hf => ?_)
      refine T_iconst (pc2 := 35) dX8_kept_34 ic0 rfl ?_
      refine T_istore_n (pc2 := 36) dX8_kept_35 (by decide) rfl ?_
      refine T_sub (lks (i := 0) rfl (lks (i := 1) rfl (lks (i := 2) rfl lk0))) ?_
      refine kept_loop (x := 0) (s0 := s) (g := g2) S hokV (by omega) (by omega) (fun g3 hf3 => ?_) x 0 g2 (by omega) hM Fo.rf
      refine fm_same k hI ((hf.tr hf3).ms (by omega)) ?_
      unfold sKept
      rw [if_neg (by omega), inN_some (show x < 61 by omega) (by decide)]
    · first | refine B_ifne1 (tgt := 30) dX8_kept_24 (by with_reducible rfl) (by decide) ?_ | refine B_ifne0 (pc2 := 27) (tgt := 30) dX8_kept_24 (by with_reducible rfl) (by decide) rfl ?_ | refine N_ifne (pc2 := 27) (tgt := 30) dX8_kept_24 (by with_reducible rfl) (by decide) (by omega) rfl (fun c24 => ?_) (fun c24 => ?_) | refine T_ifne (pc2 := 27) (tgt := 30) dX8_kept_24 (by decide) rfl (fun c24 => ?_) (fun c24 => ?_)
      refine T_ldc (pc2 := 29) dX8_kept_27 kcX8_70 rfl ?_
      refine T_iret dX8_kept_29 rfl rfl ?_
      refine fm_same k hI Ms.rf ?_
      unfold sKept
      rw [if_neg (by omega), inN_none (fun j hj => hno j (by omega))]
  · first | refine B_ifne1 (tgt := 15) dX8_kept_9 (by with_reducible rfl) (by decide) ?_ | refine B_ifne0 (pc2 := 12) (tgt := 15) dX8_kept_9 (by with_reducible rfl) (by decide) rfl ?_ | refine N_ifne (pc2 := 12) (tgt := 15) dX8_kept_9 (by with_reducible rfl) (by decide) (by omega) rfl (fun c9 => ?_) (fun c9 => ?_) | refine T_ifne (pc2 := 12) (tgt := 15) dX8_kept_9 (by decide) rfl (fun c9 => ?_) (fun c9 => ?_)
    refine T_ldc (pc2 := 14) dX8_kept_12 kcX8_199 rfl ?_
    refine T_iret dX8_kept_14 rfl rfl ?_
    exact fm_same k hI Ms.rf (if_pos h0)
theorem mguard_loop {nt p kk x : Nat} (S : Sh sk n bf im above below) (hV : hasM (g 52) V) (hok : okD V) (hn : nt < 12) (hp : p < V.J) (hk : kk < 100)
    (k : ∀ g2, Fc g g2 → T MX8_guard (d + 3) kc ks 153 [(4, .int (nI x)), (6, .int (bestI (V.gd (V.th 0) nt p kk)))] [] (HP sk g2 n) Q) :
    ∀ m o g2, o + m = 2 ^ V.J → Fc g g2 → T MX8_guard (d + 3) kc ks 64 [(0, .ref 48), (1, .int (nI nt)), (2, .int (nI p)), (3, .int (nI kk)), (4, .int (nI x)), (5, .int (nI (bm (V.th 0) 8))), (6, .int (bestI (itr (gdf V (V.th 0) nt p kk) (9, 0) o))), (7, .int (nI o))] [] (HP sk g2 n) Q := by
  have hJ8 := hok.1
  have h256 : 2 ^ V.J ≤ 256 := show 2 ^ V.J ≤ 2 ^ 8 from Nat.pow_le_pow_right (by decide) hJ8
  intro m
  induction m with
  | zero =>
    intro o g2 ho hf
    have e : o = 2 ^ V.J := by omega
    subst e
    have e0 : g2 52 0 = nI V.J := by rw [hf.1 52 (by decide) (by decide) (by decide)]; exact hV.1
    refine T_iload (pc2 := 66) dX8_guard_64 rfl rfl ?_
    refine T_iconst (pc2 := 67) dX8_guard_66 ic1 rfl ?_
    refine T_aload_n (pc2 := 68) dX8_guard_67 rfl rfl ?_
    refine G_getR (pc2 := 71) dX8_guard_68 flX8_19 (sh48 S) rfl rfl ?_
    refine T_iconst (pc2 := 72) dX8_guard_71 ic0 rfl ?_
    refine G_iald (pc2 := 73) dX8_guard_72 (sh52 S) (by omega) (by first | decide | omega) (by first | with_reducible assumption | exact gs_eq _ _ _ _ | exact (gs_ne _ _ (by omega)).trans (by with_reducible assumption) | exact (gs_ne _ _ (by omega)).trans (gs_eq _ _ _ _) | exact (gs_ne _ _ (by omega)).trans ((gs_ne _ _ (by omega)).trans (by with_reducible assumption)) | exact (gs_ne _ _ (by omega)).trans ((gs_ne _ _ (by omega)).trans (gs_eq _ _ _ _)) | exact (gs_ne _ _ (by omega)).trans ((gs_ne _ _ (by omega)).trans ((gs_ne _ _ (by omega)).trans (by with_reducible assumption))) | rfl) rfl ?_
    refine T_ishl (pc2 := 74) dX8_guard_73 rfl ?_
    rw [shl1 (by omega)]
    first | refine N_icmpge (pc2 := 77) (tgt := 153) dX8_guard_74 (by decide) (by with_reducible rfl) (by with_reducible rfl) (by omega) (by omega) rfl (fun c74 => ?_) (fun c74 => ?_) | refine T_icmpge (pc2 := 77) (tgt := 153) dX8_guard_74 (by decide) rfl (fun c74 => ?_) (fun c74 => ?_)
    · refine T_sub (lks (i := 4) rfl (lks (i := 6) rfl lk0)) ?_
      rw [← gd_cut hJ8]
      exact k g2 hf
    · exact absurd (by omega) c74
  | succ m ih =>
    intro o g2 ho hf
    have ho2 : o < 256 := by omega
    have hV2 : hasM (g2 52) V := by rw [hf.1 52 (by decide) (by decide) (by decide)]; exact hV
    have e0 := hV2.1
    have hst : itr (gdf V (V.th 0) nt p kk) (9, 0) (o + 1) = gdf V (V.th 0) nt p kk o (itr (gdf V (V.th 0) nt p kk) (9, 0) o) := rfl
    have hG := gd_ok V (V.th 0) nt p kk o (by omega)
    have ih2 := fun g3 => ih (o + 1) g3 (by omega)
    rw [hst] at ih2
    generalize itr (gdf V (V.th 0) nt p kk) (9, 0) o = s at hG ih2 ⊢
    have hct : ctN o ≤ 8 := ct_le _ 8
    have hno : ∀ g3, Fc g g3 → gdf V (V.th 0) nt p kk o s = s → T MX8_guard (d + 3) kc ks 147 [(0, .ref 48), (1, .int (nI nt)), (2, .int (nI p)), (3, .int (nI kk)), (4, .int (nI x)), (5, .int (nI (bm (V.th 0) 8))), (6, .int (bestI s)), (7, .int (nI o))] [] (HP sk g3 n) Q := by
      intro g3 hf3 hs
      first | refine N_iinc (pc2 := 150) dX8_guard_147 rfl (by with_reducible rfl) ic1 (by decide) rfl ?_ | refine T_iinc (pc2 := 150) dX8_guard_147 rfl rfl (by decide) rfl ?_
      refine T_goto (tgt := 64) dX8_guard_150 (by decide) ?_
      refine T_sub (lks (i := 0) rfl (lks (i := 1) rfl (lks (i := 2) rfl (lks (i := 3) rfl (lks (i := 4) rfl (lks (i := 5) rfl (lks (i := 6) rfl (lks (i := 7) rfl lk0)))))))) ?_
      rw [← hs]
      exact ih2 g3 hf3
    have hls : gdf V (V.th 0) nt p kk o s = s → T MX8_guard (d + 3) kc ks 111 [(0, .ref 48), (1, .int (nI nt)), (2, .int (nI p)), (3, .int (nI kk)), (4, .int (nI x)), (5, .int (nI (bm (V.th 0) 8))), (6, .int (bestI s)), (7, .int (nI o))] [] (HP sk g2 n) Q := by
      intro hs
      refine T_iconst (pc2 := 112) dX8_guard_111 ic0 rfl ?_
      refine T_istore (pc2 := 114) dX8_guard_112 (by decide) rfl ?_
      refine T_iload (pc2 := 116) dX8_guard_114 rfl rfl ?_
      first | refine B_ifeq1 (pc2 := 119) (tgt := 147) dX8_guard_116 (by with_reducible rfl) (by decide) rfl ?_ | refine B_ifeq0 (tgt := 147) dX8_guard_116 (by with_reducible rfl) (by decide) ?_ | refine N_ifeq (pc2 := 119) (tgt := 147) dX8_guard_116 (by with_reducible rfl) (by decide) (by omega) rfl (fun c116 => ?_) (fun c116 => ?_) | refine T_ifeq (pc2 := 119) (tgt := 147) dX8_guard_116 (by decide) rfl (fun c116 => ?_) (fun c116 => ?_)
      refine T_sub (lks (i := 0) rfl (lks (i := 1) rfl (lks (i := 2) rfl (lks (i := 3) rfl (lks (i := 4) rfl (lks (i := 5) rfl (lks (i := 6) rfl (lks (i := 7) rfl lk0)))))))) ?_
      exact hno g2 hf hs
    have hyes : subW (V.th 0) o = 0 → ctN o < s.1 → T MX8_guard (d + 3) kc ks 107 [(0, .ref 48), (1, .int (nI nt)), (2, .int (nI p)), (3, .int (nI kk)), (4, .int (nI x)), (5, .int (nI (bm (V.th 0) 8))), (6, .int (bestI s)), (7, .int (nI o))] [] (HP sk g2 n) Q := by
      intro h1 h2
      refine T_iconst (pc2 := 108) dX8_guard_107 ic1 rfl ?_
      refine T_goto (tgt := 112) dX8_guard_108 (by decide) ?_
      refine T_istore (pc2 := 114) dX8_guard_112 (by decide) rfl ?_
      refine T_iload (pc2 := 116) dX8_guard_114 rfl rfl ?_
      first | refine B_ifeq1 (pc2 := 119) (tgt := 147) dX8_guard_116 (by with_reducible rfl) (by decide) rfl ?_ | refine B_ifeq0 (tgt := 147) dX8_guard_116 (by with_reducible rfl) (by decide) ?_ | refine N_ifeq (pc2 := 119) (tgt := 147) dX8_guard_116 (by with_reducible rfl) (by decide) (by omega) rfl (fun c116 => ?_) (fun c116 => ?_) | refine T_ifeq (pc2 := 119) (tgt := 147) dX8_guard_116 (by decide) rfl (fun c116 => ?_) (fun c116 => ?_)
      refine T_aload_n (pc2 := 120) dX8_guard_119 rfl rfl ?_
      refine T_aload_n (pc2 := 121) dX8_guard_120 rfl rfl ?_
      refine G_getR (pc2 := 124) dX8_guard_121 flX8_19 (sh48 S) rfl rfl ?_
      refine T_iload_n (pc2 := 125) dX8_guard_124 rfl rfl ?_
      refine T_iload_n (pc2 := 126) dX8_guard_125 rfl rfl ?_
      refine T_iload (pc2 := 128) dX8_guard_126 rfl rfl ?_
      refine T_iload (pc2 := 130) dX8_guard_128 rfl rfl ?_
      refine T_iconst (pc2 := 131) dX8_guard_130 icm1 rfl ?_
      refine T_ixor (pc2 := 132) dX8_guard_131 rfl ?_
      refine T_iand (pc2 := 133) dX8_guard_132 rfl ?_
      have q2 : nI (bm (V.th 0) 8) &&& (nI o ^^^ (-1)) = nI (bm (fun j => V.th 0 j && !o.testBit j) 8) := by
        have := bm_not (V.th 0) (fun j => o.testBit j) 8
        rw [bm_self (k := 8) (show o < 2 ^ 8 by omega)] at this
        exact this
      rw [q2]
      refine C_V4 (pc2 := 136) (mc := 0) (ms := 0) dX8_guard_133 cvX8_chainOf mlX8_179 (isO.h (sh48 S) _) (Nat.le_of_ble_eq_true rfl) rfl ?_
      refine m_chain S (sh52 S) (by decide) hV2 hok hn hp (fun g3 _ hf3 => ?_)
      refine C_S1 (pc2 := 139) (mc := 0) (ms := 0) dX8_guard_136 csX8_bits mlX8_183 (Nat.le_of_ble_eq_true rfl) rfl ?_
      refine m_bits ?_
      have hb8 : ct (V.brk nt p (fun j => V.th 0 j && !o.testBit j)) 8 ≤ 8 := ct_le _ 8
      refine T_iload_n (pc2 := 140) dX8_guard_139 rfl rfl ?_
      first | refine N_icmpgt (pc2 := 143) (tgt := 147) dX8_guard_140 (by decide) (by with_reducible rfl) (by with_reducible rfl) (by omega) (by omega) rfl (fun c140 => ?_) (fun c140 => ?_) | refine T_icmpgt (pc2 := 143) (tgt := 147) dX8_guard_140 (by decide) rfl (fun c140 => ?_) (fun c140 => ?_)
      · refine T_sub (lks (i := 0) rfl (lks (i := 1) rfl (lks (i := 2) rfl (lks (i := 3) rfl (lks (i := 4) rfl (lks (i := 5) rfl (lks (i := 6) rfl (lks (i := 7) rfl lk0)))))))) ?_
        refine hno g3 (hf.tr hf3) ?_
        unfold gdf
        rw [if_neg (fun z => by have := z.2.2; omega)]
      · refine T_iload (pc2 := 145) dX8_guard_143 rfl rfl ?_
        refine T_istore (pc2 := 147) dX8_guard_145 (by decide) rfl ?_
        first | refine N_iinc (pc2 := 150) dX8_guard_147 rfl (by with_reducible rfl) ic1 (by decide) rfl ?_ | refine T_iinc (pc2 := 150) dX8_guard_147 rfl rfl (by decide) rfl ?_
        refine T_goto (tgt := 64) dX8_guard_150 (by decide) ?_
        refine T_sub (lks (i := 0) rfl (lks (i := 1) rfl (lks (i := 2) rfl (lks (i := 3) rfl (lks (i := 4) rfl (lks (i := 5) rfl (lks (i := 6) rfl (lks (i := 7) rfl lk0)))))))) ?_
        have e : gdf V (V.th 0) nt p kk o s = (ctN o, o) := if_pos ⟨h1, h2, by omega⟩
        have e2 : bestI (ctN o, o) = nI o := if_neg (by show ¬ ctN o = 9; omega)
        have := ih2 g3 (hf.tr hf3)
        rw [e, e2] at this
        exact this
    refine T_iload (pc2 := 66) dX8_guard_64 rfl rfl ?_
    refine T_iconst (pc2 := 67) dX8_guard_66 ic1 rfl ?_
    refine T_aload_n (pc2 := 68) dX8_guard_67 rfl rfl ?_
    refine G_getR (pc2 := 71) dX8_guard_68 flX8_19 (sh48 S) rfl rfl ?_
    refine T_iconst (pc2 := 72) dX8_guard_71 ic0 rfl ?_
    refine G_iald (pc2 := 73) dX8_guard_72 (sh52 S) (by omega) (by first | decide | omega) (by first | with_reducible assumption | exact gs_eq _ _ _ _ | exact (gs_ne _ _ (by omega)).trans (by with_reducible assumption) | exact (gs_ne _ _ (by omega)).trans (gs_eq _ _ _ _) | exact (gs_ne _ _ (by omega)).trans ((gs_ne _ _ (by omega)).trans (by with_reducible assumption)) | exact (gs_ne _ _ (by omega)).trans ((gs_ne _ _ (by omega)).trans (gs_eq _ _ _ _)) | exact (gs_ne _ _ (by omega)).trans ((gs_ne _ _ (by omega)).trans ((gs_ne _ _ (by omega)).trans (by with_reducible assumption))) | rfl) rfl ?_
    refine T_ishl (pc2 := 74) dX8_guard_73 rfl ?_
    rw [shl1 (by omega)]
    first | refine N_icmpge (pc2 := 77) (tgt := 153) dX8_guard_74 (by decide) (by with_reducible rfl) (by with_reducible rfl) (by omega) (by omega) rfl (fun c74 => ?_) (fun c74 => ?_) | refine T_icmpge (pc2 := 77) (tgt := 153) dX8_guard_74 (by decide) rfl (fun c74 => ?_) (fun c74 => ?_)
    · exact absurd c74 (by omega)
    · refine T_iload (pc2 := 79) dX8_guard_77 rfl rfl ?_
      refine T_iload (pc2 := 81) dX8_guard_79 rfl rfl ?_
      refine T_iconst (pc2 := 82) dX8_guard_81 icm1 rfl ?_
      refine T_ixor (pc2 := 83) dX8_guard_82 rfl ?_
      refine T_iand (pc2 := 84) dX8_guard_83 rfl ?_
      have q1 : nI o &&& (nI (bm (V.th 0) 8) ^^^ (-1)) = nI (subW (V.th 0) o) := by
        have := bm_not (fun j => o.testBit j) (V.th 0) 8
        rw [bm_self (k := 8) (show o < 2 ^ 8 by omega)] at this
        exact this
      rw [q1]
      have hlt : subW (V.th 0) o < 2 ^ 31 := bm_le _ (by decide)
      first | refine B_ifne1 (tgt := 111) dX8_guard_84 (by with_reducible rfl) (by decide) ?_ | refine B_ifne0 (pc2 := 87) (tgt := 111) dX8_guard_84 (by with_reducible rfl) (by decide) rfl ?_ | refine N_ifne (pc2 := 87) (tgt := 111) dX8_guard_84 (by with_reducible rfl) (by decide) (by omega) rfl (fun c84 => ?_) (fun c84 => ?_) | refine T_ifne (pc2 := 87) (tgt := 111) dX8_guard_84 (by decide) rfl (fun c84 => ?_) (fun c84 => ?_)
      · refine T_sub (lks (i := 0) rfl (lks (i := 1) rfl (lks (i := 2) rfl (lks (i := 3) rfl (lks (i := 4) rfl (lks (i := 5) rfl (lks (i := 6) rfl (lks (i := 7) rfl lk0)))))))) ?_
        refine hls ?_
        unfold gdf
        rw [if_neg (fun z => c84 z.1)]
      · rcases hG with h9 | ⟨h8, hlt2, hcs⟩
        · have eb : bestI s = -1000000 := if_pos h9
          rw [eb] at hyes ⊢
          refine T_iload (pc2 := 89) dX8_guard_87 rfl rfl ?_
          refine T_ldc (pc2 := 91) dX8_guard_89 kcX8_93 rfl ?_
          refine T_icmpeq (pc2 := 94) (tgt := 107) dX8_guard_91 (by decide) rfl (fun c91 => ?_) (fun c91 => ?_)
          · refine T_sub (lks (i := 0) rfl (lks (i := 1) rfl (lks (i := 2) rfl (lks (i := 3) rfl (lks (i := 4) rfl (lks (i := 5) rfl (lks (i := 6) rfl (lks (i := 7) rfl lk0)))))))) ?_
            exact hyes c84 (by omega)
          · exact absurd rfl c91
        · have eb : bestI s = nI s.2 := if_neg (by omega)
          rw [eb] at hyes hls ⊢
          refine T_iload (pc2 := 89) dX8_guard_87 rfl rfl ?_
          refine T_ldc (pc2 := 91) dX8_guard_89 kcX8_93 rfl ?_
          refine T_icmpeq (pc2 := 94) (tgt := 107) dX8_guard_91 (by decide) rfl (fun c91 => ?_) (fun c91 => ?_)
          · exact absurd c91 (nI_none (by omega))
          · refine T_iload (pc2 := 96) dX8_guard_94 rfl rfl ?_
            refine C_S1 (pc2 := 99) (mc := 0) (ms := 0) dX8_guard_96 csX8_bits mlX8_183 (Nat.le_of_ble_eq_true rfl) rfl ?_
            refine m_bitsN ho2 ?_
            refine T_iload (pc2 := 101) dX8_guard_99 rfl rfl ?_
            refine C_S1 (pc2 := 104) (mc := 0) (ms := 0) dX8_guard_101 csX8_bits mlX8_183 (Nat.le_of_ble_eq_true rfl) rfl ?_
            refine m_bitsN hlt2 ?_
            have hc2 : ctN s.2 ≤ 8 := ct_le _ 8
            first | refine N_icmpge (pc2 := 107) (tgt := 111) dX8_guard_104 (by decide) (by with_reducible rfl) (by with_reducible rfl) (by omega) (by omega) rfl (fun c104 => ?_) (fun c104 => ?_) | refine T_icmpge (pc2 := 107) (tgt := 111) dX8_guard_104 (by decide) rfl (fun c104 => ?_) (fun c104 => ?_)
            · refine T_sub (lks (i := 0) rfl (lks (i := 1) rfl (lks (i := 2) rfl (lks (i := 3) rfl (lks (i := 4) rfl (lks (i := 5) rfl (lks (i := 6) rfl (lks (i := 7) rfl lk0)))))))) ?_
              refine hls ?_
              unfold gdf
              rw [if_neg (fun z => by have := z.2.1; omega)]
            · refine T_sub (lks (i := 0) rfl (lks (i := 1) rfl (lks (i := 2) rfl (lks (i := 3) rfl (lks (i := 4) rfl (lks (i := 5) rfl (lks (i := 6) rfl (lks (i := 7) rfl lk0)))))))) ?_
              exact hyes c84 (by omega)
theorem mm_guard {nt p kk w : Int32} (S : Sh sk n bf im above below) (hI : InvM g s) (hok : Ok s) (k : ∀ g2, InvM g2 (sGuard s nt p kk w).2 → Fr 48 62 g g2 → Q (some (.int (sGuard s nt p kk w).1)) (HP sk g2 n)) : Calls MX8_guard (d + 3) 0 0 [.ref 48, .int nt, .int p, .int kk, .int w] (HP sk g n) Q := by
  have hokV := hok.2.2.1.1
  have hJ8 := hokV.1
  refine Calls.of (by decide +kernel) (Nat.le_of_ble_eq_true rfl) ?_
  refine T_aload_n (pc2 := 1) dX8_guard_0 rfl rfl ?_
  refine T_iconst (pc2 := 2) dX8_guard_1 ic0 rfl ?_
  refine G_putI (pc2 := 5) dX8_guard_2 flX8_50 (sh48 S) rfl rfl rfl rfl ?_
  have hI := hI.ms (Ms.rf.st (i := 48) (k := 0) (v := nI 0) (by omega))
  have k := fm_start k
  generalize gset g 48 0 (nI 0) = g1 at hI k ⊢
  have hV := hI.2.2.1
  refine T_iload_n (pc2 := 6) dX8_guard_5 rfl rfl ?_
  refine T_i2l (pc2 := 7) dX8_guard_6 rfl ?_
  refine C_S1 (pc2 := 10) (mc := 0) (ms := 0) dX8_guard_7 csX8_isNote mlX8_209 (Nat.le_of_ble_eq_true rfl) rfl ?_
  refine m_isNote rfl (fun a ha ea => ?_) (fun hno => ?_)
  · subst ea
    first | refine B_ifeq1 (pc2 := 13) (tgt := 44) dX8_guard_10 (by with_reducible rfl) (by decide) rfl ?_ | refine B_ifeq0 (tgt := 44) dX8_guard_10 (by with_reducible rfl) (by decide) ?_ | refine N_ifeq (pc2 := 13) (tgt := 44) dX8_guard_10 (by with_reducible rfl) (by decide) (by omega) rfl (fun c10 => ?_) (fun c10 => ?_) | refine T_ifeq (pc2 := 13) (tgt := 44) dX8_guard_10 (by decide) rfl (fun c10 => ?_) (fun c10 => ?_)
    refine T_aload_n (pc2 := 14) dX8_guard_13 rfl rfl ?_
    refine T_iload_n (pc2 := 15) dX8_guard_14 rfl rfl ?_
    refine C_V1 (pc2 := 18) (mc := 0) (ms := 0) dX8_guard_15 cvX8_isJar mlX8_213 (isO.h (sh48 S) _) (Nat.le_of_ble_eq_true rfl) rfl ?_
    refine m_isJar S hV.1 hJ8 (fun j hj ej => ?_) (fun hno => ?_)
    · subst ej
      first | refine B_ifeq1 (pc2 := 21) (tgt := 44) dX8_guard_18 (by with_reducible rfl) (by decide) rfl ?_ | refine B_ifeq0 (tgt := 44) dX8_guard_18 (by with_reducible rfl) (by decide) ?_ | refine N_ifeq (pc2 := 21) (tgt := 44) dX8_guard_18 (by with_reducible rfl) (by decide) (by omega) rfl (fun c18 => ?_) (fun c18 => ?_) | refine T_ifeq (pc2 := 21) (tgt := 44) dX8_guard_18 (by decide) rfl (fun c18 => ?_) (fun c18 => ?_)
      refine T_iload_n (pc2 := 22) dX8_guard_21 rfl rfl ?_
      refine T_i2l (pc2 := 23) dX8_guard_22 rfl ?_
      refine T_lconst (pc2 := 24) (v := lN 0) dX8_guard_23 rfl rfl ?_
      refine T_ldc2 (pc2 := 27) dX8_guard_24 kcX8_225 rfl ?_
      refine C_S3 (pc2 := 30) (mc := 0) (ms := 0) dX8_guard_27 csX8_in mlX8_60 (Nat.le_of_ble_eq_true rfl) rfl ?_
      refine m_inI (k := 8) rfl rfl (by decide) (by decide) (fun y hy ey => ?_) (fun hno => ?_)
      · subst ey
        first | refine B_ifeq1 (pc2 := 33) (tgt := 44) dX8_guard_30 (by with_reducible rfl) (by decide) rfl ?_ | refine B_ifeq0 (tgt := 44) dX8_guard_30 (by with_reducible rfl) (by decide) ?_ | refine N_ifeq (pc2 := 33) (tgt := 44) dX8_guard_30 (by with_reducible rfl) (by decide) (by omega) rfl (fun c30 => ?_) (fun c30 => ?_) | refine T_ifeq (pc2 := 33) (tgt := 44) dX8_guard_30 (by decide) rfl (fun c30 => ?_) (fun c30 => ?_)
        refine T_iload (pc2 := 35) dX8_guard_33 rfl rfl ?_
        refine T_i2l (pc2 := 36) dX8_guard_35 rfl ?_
        refine T_lconst (pc2 := 37) (v := lN 0) dX8_guard_36 rfl rfl ?_
        refine T_lconst (pc2 := 38) (v := lN 1) dX8_guard_37 rfl rfl ?_
        refine C_S3 (pc2 := 41) (mc := 0) (ms := 0) dX8_guard_38 csX8_in mlX8_60 (Nat.le_of_ble_eq_true rfl) rfl ?_
        refine m_inI (k := 1) rfl rfl (by decide) (by decide) (fun x hx ex => ?_) (fun hno => ?_)
        · subst ex
          have hs : sGuard s (nI a) (nI j) (nI y) (nI x) = (if x = 0 then nI (s.V.gd (s.V.th 0) a j y).1 else nI (s.V.gd (s.V.th 0) a j y).2, s) := by
            unfold sGuard
            rw [inN_some ha (by decide), inN_some hj (by omega), inN_some (show y < 9 by omega) (by decide), inN_some (show x < 2 by omega) (by decide)]
          first | refine B_ifne1 (tgt := 47) dX8_guard_41 (by with_reducible rfl) (by decide) ?_ | refine B_ifne0 (pc2 := 44) (tgt := 47) dX8_guard_41 (by with_reducible rfl) (by decide) rfl ?_ | refine N_ifne (pc2 := 44) (tgt := 47) dX8_guard_41 (by with_reducible rfl) (by decide) (by omega) rfl (fun c41 => ?_) (fun c41 => ?_) | refine T_ifne (pc2 := 44) (tgt := 47) dX8_guard_41 (by decide) rfl (fun c41 => ?_) (fun c41 => ?_)
          refine T_aload_n (pc2 := 48) dX8_guard_47 rfl rfl ?_
          refine G_getR (pc2 := 51) dX8_guard_48 flX8_19 (sh48 S) rfl rfl ?_
          refine T_iconst (pc2 := 52) dX8_guard_51 ic0 rfl ?_
          refine C_S2 (pc2 := 55) (mc := 0) (ms := 0) dX8_guard_52 csX8_those mlX8_175 (Nat.le_of_ble_eq_true rfl) rfl ?_
          refine m_those (sh52 S) hV hJ8 (by decide) (hw31 hokV) ?_
          refine T_istore (pc2 := 57) dX8_guard_55 (by decide) rfl ?_
          refine T_ldc (pc2 := 59) dX8_guard_57 kcX8_93 rfl ?_
          refine T_istore (pc2 := 61) dX8_guard_59 (by decide) rfl ?_
          refine T_iconst (pc2 := 62) dX8_guard_61 ic0 rfl ?_
          refine T_istore (pc2 := 64) dX8_guard_62 (by decide) rfl ?_
          refine T_sub (lks (i := 0) rfl (lks (i := 1) rfl (lks (i := 2) rfl (lks (i := 3) rfl (lks (i := 4) rfl (lks (i := 5) rfl (lks (i := 6) rfl (lks (i := 7) rfl lk0)))))))) ?_
          refine mguard_loop (g := g1) (x := x) S hV hokV.d ha hj (by omega) (fun g2 hf => ?_) (2 ^ s.V.J) 0 g1 (by omega) Fc.rf
          have hG := gd_ok s.V (s.V.th 0) a j y 256 (by omega)
          have hfd := gd_found s.V (s.V.th 0) a j y
          have hG : okG (s.V.gd (s.V.th 0) a j y) := hG
          have eb : bestI (s.V.gd (s.V.th 0) a j y) = nI (s.V.gd (s.V.th 0) a j y).2 := if_neg (by omega)
          rw [eb]
          rcases hG with h9 | ⟨h8, hlt2, hcs⟩
          · omega
          · refine T_iload (pc2 := 155) dX8_guard_153 rfl rfl ?_
            first | refine B_ifne1 (tgt := 166) dX8_guard_155 (by with_reducible rfl) (by decide) ?_ | refine B_ifne0 (pc2 := 158) (tgt := 166) dX8_guard_155 (by with_reducible rfl) (by decide) rfl ?_ | refine N_ifne (pc2 := 158) (tgt := 166) dX8_guard_155 (by with_reducible rfl) (by decide) (by omega) rfl (fun c155 => ?_) (fun c155 => ?_) | refine T_ifne (pc2 := 158) (tgt := 166) dX8_guard_155 (by decide) rfl (fun c155 => ?_) (fun c155 => ?_)
            · refine T_iload (pc2 := 168) dX8_guard_166 rfl rfl ?_
              refine T_iret dX8_guard_168 rfl rfl ?_
              exact fm_same k hI hf.ms (by rw [hs, if_neg c155])
            · refine T_iload (pc2 := 160) dX8_guard_158 rfl rfl ?_
              refine C_S1 (pc2 := 163) (mc := 0) (ms := 0) dX8_guard_160 csX8_bits mlX8_183 (Nat.le_of_ble_eq_true rfl) rfl ?_
              refine m_bitsN hlt2 ?_
              refine T_goto (tgt := 168) dX8_guard_163 (by decide) ?_
              refine T_iret dX8_guard_168 rfl rfl ?_
              exact fm_same k hI hf.ms (by rw [hs, if_pos c155, hcs])
        · first | refine B_ifne1 (tgt := 47) dX8_guard_41 (by with_reducible rfl) (by decide) ?_ | refine B_ifne0 (pc2 := 44) (tgt := 47) dX8_guard_41 (by with_reducible rfl) (by decide) rfl ?_ | refine N_ifne (pc2 := 44) (tgt := 47) dX8_guard_41 (by with_reducible rfl) (by decide) (by omega) rfl (fun c41 => ?_) (fun c41 => ?_) | refine T_ifne (pc2 := 44) (tgt := 47) dX8_guard_41 (by decide) rfl (fun c41 => ?_) (fun c41 => ?_)
          refine T_ldc (pc2 := 46) dX8_guard_44 kcX8_70 rfl ?_
          refine T_iret dX8_guard_46 rfl rfl ?_
          refine fm_same k hI Ms.rf ?_
          unfold sGuard
          rw [inN_none (v := w) (k := 2) (fun q hq => hno q (by omega))]
          cases inN (nI a) 12 <;> cases inN (nI j) s.V.J <;> cases inN (nI y) 9 <;> rfl
      · first | refine B_ifeq1 (pc2 := 33) (tgt := 44) dX8_guard_30 (by with_reducible rfl) (by decide) rfl ?_ | refine B_ifeq0 (tgt := 44) dX8_guard_30 (by with_reducible rfl) (by decide) ?_ | refine N_ifeq (pc2 := 33) (tgt := 44) dX8_guard_30 (by with_reducible rfl) (by decide) (by omega) rfl (fun c30 => ?_) (fun c30 => ?_) | refine T_ifeq (pc2 := 33) (tgt := 44) dX8_guard_30 (by decide) rfl (fun c30 => ?_) (fun c30 => ?_)
        refine T_ldc (pc2 := 46) dX8_guard_44 kcX8_70 rfl ?_
        refine T_iret dX8_guard_46 rfl rfl ?_
        refine fm_same k hI Ms.rf ?_
        unfold sGuard
        rw [inN_none (v := kk) (k := 9) (fun q hq => hno q (by omega))]
        cases inN (nI a) 12 <;> cases inN (nI j) s.V.J <;> rfl
    · first | refine B_ifeq1 (pc2 := 21) (tgt := 44) dX8_guard_18 (by with_reducible rfl) (by decide) rfl ?_ | refine B_ifeq0 (tgt := 44) dX8_guard_18 (by with_reducible rfl) (by decide) ?_ | refine N_ifeq (pc2 := 21) (tgt := 44) dX8_guard_18 (by with_reducible rfl) (by decide) (by omega) rfl (fun c18 => ?_) (fun c18 => ?_) | refine T_ifeq (pc2 := 21) (tgt := 44) dX8_guard_18 (by decide) rfl (fun c18 => ?_) (fun c18 => ?_)
      refine T_ldc (pc2 := 46) dX8_guard_44 kcX8_70 rfl ?_
      refine T_iret dX8_guard_46 rfl rfl ?_
      refine fm_same k hI Ms.rf ?_
      unfold sGuard
      rw [inN_none (v := p) hno]
      cases inN (nI a) 12 <;> rfl
  · first | refine B_ifeq1 (pc2 := 13) (tgt := 44) dX8_guard_10 (by with_reducible rfl) (by decide) rfl ?_ | refine B_ifeq0 (tgt := 44) dX8_guard_10 (by with_reducible rfl) (by decide) ?_ | refine N_ifeq (pc2 := 13) (tgt := 44) dX8_guard_10 (by with_reducible rfl) (by decide) (by omega) rfl (fun c10 => ?_) (fun c10 => ?_) | refine T_ifeq (pc2 := 13) (tgt := 44) dX8_guard_10 (by decide) rfl (fun c10 => ?_) (fun c10 => ?_)
    refine T_ldc (pc2 := 46) dX8_guard_44 kcX8_70 rfl ?_
    refine T_iret dX8_guard_46 rfl rfl ?_
    refine fm_same k hI Ms.rf ?_
    unfold sGuard
    rw [inN_none hno]
end MFind1

