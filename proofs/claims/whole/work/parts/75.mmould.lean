/-! the model: mould -/
def sumN (f : Nat → Nat) : Nat → Nat
  | 0 => 0
  | k + 1 => sumN f k + f k
def prodN (f : Nat → Nat) : Nat → Nat
  | 0 => 1
  | k + 1 => prodN f k * f k
theorem sumN_cg {f g : Nat → Nat} : ∀ {n : Nat}, (∀ i, i < n → f i = g i) → sumN f n = sumN g n
  | 0, _ => rfl
  | n + 1, h => by
    show sumN f n + f n = sumN g n + g n
    rw [sumN_cg (fun i hi => h i (by omega)), h n (by omega)]
theorem prodN_cg {f g : Nat → Nat} : ∀ {n : Nat}, (∀ i, i < n → f i = g i) → prodN f n = prodN g n
  | 0, _ => rfl
  | n + 1, h => by
    show prodN f n * f n = prodN g n * g n
    rw [prodN_cg (fun i hi => h i (by omega)), h n (by omega)]
theorem sumN_add (f : Nat → Nat) (a : Nat) : ∀ b, sumN f (a + b) = sumN f a + sumN (fun i => f (a + i)) b
  | 0 => rfl
  | b + 1 => by
    show sumN f (a + b) + f (a + b) = sumN f a + (sumN (fun i => f (a + i)) b + f (a + b))
    rw [sumN_add f a b]
    omega
theorem sumN_z {f : Nat → Nat} {a n : Nat} (h : a ≤ n) (hz : ∀ i, a ≤ i → i < n → f i = 0) : sumN f n = sumN f a := by
  have e := sumN_add f a (n - a)
  rw [show a + (n - a) = n by omega] at e
  rw [e, sumN_cg (g := fun _ => 0) (fun i hi => hz (a + i) (by omega) (by omega))]
  have : ∀ k, sumN (fun _ => 0) k = 0 := fun k => by
    induction k with
    | zero => rfl
    | succ k ih => show sumN _ k + 0 = 0; rw [ih]
  rw [this]
  rfl
theorem sumN_front (f : Nat → Nat) : ∀ n, sumN f (n + 1) = f 0 + sumN (fun i => f (i + 1)) n
  | 0 => by show 0 + f 0 = f 0 + 0; omega
  | n + 1 => by
    show sumN f (n + 1) + f (n + 1) = f 0 + (sumN (fun i => f (i + 1)) n + f (n + 1))
    rw [sumN_front f n]
    omega
theorem sumN_rev : ∀ (n : Nat) (f : Nat → Nat), sumN (fun i => f (n - i)) (n + 1) = sumN f (n + 1)
  | 0, f => rfl
  | n + 1, f => by
    rw [sumN_front]
    have ih := sumN_rev n f
    have e : sumN (fun i => f (n + 1 - (i + 1))) (n + 1) = sumN (fun i => f (n - i)) (n + 1) := sumN_cg (fun i _ => by rw [show n + 1 - (i + 1) = n - i by omega])
    rw [e, ih]
    show f (n + 1 - 0) + sumN f (n + 1) = sumN f (n + 1) + f (n + 1)
    rw [Nat.sub_zero]
    omega
theorem sumN_le {f g : Nat → Nat} (h : ∀ i, f i ≤ g i) : ∀ n, sumN f n ≤ sumN g n
  | 0 => Nat.le_refl _
  | n + 1 => by
    have := sumN_le h n
    have := h n
    show sumN f n + f n ≤ sumN g n + g n
    omega
theorem sumN_itr (f : Nat → Nat) : ∀ n, itr (fun k s => s + f k) 0 n = sumN f n
  | 0 => rfl
  | n + 1 => by
    show itr (fun k s => s + f k) 0 n + f n = sumN f n + f n
    rw [sumN_itr f n]
/-- a set's bits are all of w -/
theorem subW_iff {w : Nat → Bool} {o : Nat} : subW w o = 0 ↔ ∀ i, i < 8 → o.testBit i = true → w i = true := by
  constructor
  · intro h i hi hb
    have := bm_inj (p := fun j => o.testBit j && !w j) (q := fun _ => false) (k := 8) (by rw [bm_0]; exact h) i hi
    cases hw : w i with
    | true => rfl
    | false => rw [hb, hw] at this; cases this
  · intro h
    unfold subW
    rw [bm_cg (q := fun _ => false) (fun i hi => ?_), bm_0]
    cases hb : o.testBit i with
    | false => rfl
    | true => rw [h i hi hb]; rfl
theorem bm_sub {l N : Nat → Bool} : ∀ k, (∀ j, j < k → N j = true → l j = true) → bm (fun j => l j && !N j) k + bm N k = bm l k
  | 0, _ => rfl
  | k + 1, hsub => by
    have ih := bm_sub k (fun j hj => hsub j (by omega))
    show (bm (fun j => l j && !N j) k + (if (l k && !N k) then 2 ^ k else 0)) + (bm N k + (if N k then 2 ^ k else 0)) = bm l k + (if l k then 2 ^ k else 0)
    cases h : N k with
    | true => rw [hsub k (by omega) h]; simp; omega
    | false => cases l k <;> simp <;> omega
theorem sub_is {w : Nat → Bool} {o : Nat} (ho : o < 256) (h : subW w o = 0) : bm w 8 - o = bm (fun i => w i && !o.testBit i) 8 ∧ o ≤ bm w 8 := by
  have e := bm_sub (l := w) (N := fun i => o.testBit i) 8 (fun j hj hb => (subW_iff.mp h) j hj hb)
  rw [bm_self (k := 8) (show o < 2 ^ 8 by omega)] at e
  omega
theorem sub_tb {w : Nat → Bool} {o : Nat} (ho : o < 256) (h : subW w o = 0) : ∀ i, i < 8 → (bm w 8 - o).testBit i = (w i && !o.testBit i) := fun i hi => by
  rw [(sub_is ho h).1, bm_tb]
  simp [hi]
theorem sub_sub {w : Nat → Bool} {o : Nat} (ho : o < 256) (h : subW w o = 0) : subW w (bm w 8 - o) = 0 := subW_iff.mpr (fun i hi hb => by
  rw [sub_tb ho h i hi] at hb
  cases hw : w i with
  | true => rfl
  | false => rw [hw] at hb; cases hb)
theorem sub_back {w : Nat → Bool} {o : Nat} (ho : o ≤ bm w 8) (h : subW w (bm w 8 - o) = 0) : subW w o = 0 := by
  have hb := bm_lt w 8
  have := sub_sub (o := bm w 8 - o) (by omega) h
  rw [show bm w 8 - (bm w 8 - o) = o by omega] at this
  exact this
def mG (V : Cel) (w : Nat → Bool) (j nt p pp o : Nat) : Nat := if subW w o = 0 ∧ o.testBit j = true ∧ V.brk nt p (fun i => o.testBit i) j = true then (10 - pp) ^ (ctN o) * pp ^ (ct (fun i => w i && !o.testBit i) 8) else 0
theorem mdA_sum (V : Cel) (j nt p pp : Nat) : V.mdA j nt p pp = sumN (mG V (V.th 0) j nt p pp) 256 := by
  rw [← sumN_itr]
  unfold Cel.mdA
  refine itr_cg 256 (fun k _ => ?_)
  funext s
  unfold mdf mG
  split
  · rfl
  · rfl
def mF (w : Nat → Bool) (pp : Nat) (o i : Nat) : Nat := if w i then (if o.testBit i then pp else 10 - pp) else 1
def mW (w : Nat → Bool) (pp J o : Nat) : Nat := prodN (mF w pp o) J
def mB (w : Nat → Bool) (pp J o : Nat) : Nat := if subW w o = 0 then mW w pp J o else 0
def mA (V : Cel) (w : Nat → Bool) (j nt p pp o : Nat) : Nat := if subW w o = 0 then (if V.brk nt p (fun i => w i && !o.testBit i) j then mW w pp V.J o else 0) else 0
theorem mW_pow {w : Nat → Bool} {pp o : Nat} : ∀ J, mW w pp J o = pp ^ (ct (fun i => w i && o.testBit i) J) * (10 - pp) ^ (ct (fun i => w i && !o.testBit i) J)
  | 0 => rfl
  | J + 1 => by
    have ih := mW_pow (w := w) (pp := pp) (o := o) J
    have e : mW w pp (J + 1) o = mW w pp J o * mF w pp o J := rfl
    have e1 : ct (fun i => w i && o.testBit i) (J + 1) = ct (fun i => w i && o.testBit i) J + (if (w J && o.testBit J) then 1 else 0) := rfl
    have e2 : ct (fun i => w i && !o.testBit i) (J + 1) = ct (fun i => w i && !o.testBit i) J + (if (w J && !o.testBit J) then 1 else 0) := rfl
    rw [e, ih, e1, e2]
    unfold mF
    cases w J with
    | false => simp
    | true =>
      cases o.testBit J with
      | false => simp [Nat.pow_succ, Nat.mul_assoc]
      | true => simp [Nat.pow_succ, Nat.mul_assoc, Nat.mul_comm, Nat.mul_left_comm]
theorem mA_G {V : Cel} {j nt p pp o : Nat} (hJ : V.J ≤ 8) (hj : j < V.J) (ho : o ≤ bm (V.th 0) 8) : mA V (V.th 0) j nt p pp o = mG V (V.th 0) j nt p pp (bm (V.th 0) 8 - o) := by
  have hb := bm_lt (V.th 0) 8
  have hz : ∀ i, V.J ≤ i → V.th 0 i = false := fun i hi => by simp [Cel.th, Nat.not_lt.mpr hi]
  unfold mA mG
  by_cases h : subW (V.th 0) o = 0
  · have htb := sub_tb (w := V.th 0) (by omega) h
    have hfun : (fun i => (bm (V.th 0) 8 - o).testBit i) = fun i => V.th 0 i && !o.testBit i := by
      funext i
      by_cases hi : i < 8
      · exact htb i hi
      · rw [hz i (by omega), (sub_is (by omega) h).1, bm_tb]
        simp [hi]
    rw [if_pos h, hfun]
    have hc1 : ctN (bm (V.th 0) 8 - o) = ct (fun i => V.th 0 i && !o.testBit i) 8 := by
      unfold ctN
      rw [hfun]
    have hc2 : ct (fun i => V.th 0 i && !(bm (V.th 0) 8 - o).testBit i) 8 = ct (fun i => V.th 0 i && o.testBit i) 8 := ct_cg (fun i hi => by
      rw [htb i hi]
      cases V.th 0 i <;> cases o.testBit i <;> rfl)
    rw [hc1, hc2, mW_pow, ← ct_up (k := V.J) hJ (fun i h1 _ => by rw [hz i h1]; rfl), ← ct_up (k := V.J) (m := 8) hJ (p := fun i => V.th 0 i && !o.testBit i) (fun i h1 _ => by rw [hz i h1]; rfl)]
    by_cases hbr : V.brk nt p (fun i => V.th 0 i && !o.testBit i) j = true
    · have hl : (V.th 0 j && !o.testBit j) = true := by
        have hbr : ((V.th 0 j && !o.testBit j) && _) = true := hbr
        cases q : (V.th 0 j && !o.testBit j) with
        | true => rfl
        | false => rw [q] at hbr; cases hbr
      rw [if_pos hbr, if_pos ⟨sub_sub (by omega) h, by rw [htb j (by omega)]; exact hl, hbr⟩, Nat.mul_comm]
    · rw [if_neg hbr, if_neg (fun z => hbr z.2.2)]
  · rw [if_neg h, if_neg (fun z => h (sub_back ho z.1))]
theorem mA_sum {V : Cel} {j nt p pp : Nat} (hJ : V.J ≤ 8) (hj : j < V.J) : sumN (mA V (V.th 0) j nt p pp) (2 ^ V.J) = V.mdA j nt p pp := by
  have hb := bm_lt (V.th 0) 8
  have hz : ∀ i, V.J ≤ i → V.th 0 i = false := fun i hi => by simp [Cel.th, Nat.not_lt.mpr hi]
  have hbJ : bm (V.th 0) 8 < 2 ^ V.J := by
    rw [bm_up hJ (fun i h1 _ => hz i h1)]
    exact bm_lt _ _
  have h256 : 2 ^ V.J ≤ 256 := show 2 ^ V.J ≤ 2 ^ 8 from Nat.pow_le_pow_right (by decide) hJ
  have hbig : ∀ o, bm (V.th 0) 8 + 1 ≤ o → o < 256 → subW (V.th 0) o ≠ 0 := fun o h1 h2 z => by
    have := (sub_is h2 z).2
    omega
  rw [mdA_sum, sumN_z (a := bm (V.th 0) 8 + 1) (by omega) (fun i h1 h2 => ?_), sumN_z (f := mG V (V.th 0) j nt p pp) (a := bm (V.th 0) 8 + 1) (by omega) (fun i h1 h2 => ?_), ← sumN_rev (bm (V.th 0) 8) (mG V (V.th 0) j nt p pp)]
  · exact sumN_cg (fun i hi => mA_G hJ hj (by omega))
  · unfold mG
    rw [if_neg (fun z => hbig i h1 h2 z.1)]
  · unfold mA
    rw [if_neg (hbig i h1 (by omega))]
def mT (w : Nat → Bool) (pp o i : Nat) : Nat := if w i then (if o.testBit i then pp else 10 - pp) else (if o.testBit i then 0 else 1)
theorem mT_sum {w : Nat → Bool} {pp : Nat} (hp : pp ≤ 10) : ∀ J, sumN (fun o => prodN (mT w pp o) J) (2 ^ J) = 10 ^ ct w J
  | 0 => rfl
  | J + 1 => by
    have ih := mT_sum (w := w) hp J
    rw [show 2 ^ (J + 1) = 2 ^ J + 2 ^ J by rw [Nat.pow_succ]; omega, sumN_add]
    have hlow : ∀ o, o < 2 ^ J → prodN (mT w pp o) (J + 1) = prodN (mT w pp o) J * (if w J then 10 - pp else 1) := fun o ho => by
      show prodN (mT w pp o) J * mT w pp o J = _
      unfold mT
      rw [Nat.testBit_lt_two_pow ho]
      simp
    have hhigh : ∀ o, o < 2 ^ J → prodN (mT w pp (2 ^ J + o)) (J + 1) = prodN (mT w pp o) J * (if w J then pp else 0) := fun o ho => by
      show prodN (mT w pp (2 ^ J + o)) J * mT w pp (2 ^ J + o) J = _
      have e1 : prodN (mT w pp (2 ^ J + o)) J = prodN (mT w pp o) J := prodN_cg (fun i hi => by
        unfold mT
        rw [Nat.testBit_two_pow_add_gt hi])
      have e2 : (2 ^ J + o).testBit J = true := by rw [Nat.testBit_two_pow_add_eq, Nat.testBit_lt_two_pow ho]; rfl
      rw [e1]
      unfold mT
      rw [e2]
      simp
    have hmul : ∀ (f : Nat → Nat) c n, sumN (fun o => f o * c) n = sumN f n * c := fun f c n => by
      induction n with
      | zero => show 0 = 0 * c; rw [Nat.zero_mul]
      | succ n ih2 =>
        show sumN (fun o => f o * c) n + f n * c = (sumN f n + f n) * c
        rw [ih2, Nat.add_mul]
    rw [sumN_cg hlow, sumN_cg hhigh, hmul, hmul, ih]
    have e : ct w (J + 1) = ct w J + (if w J then 1 else 0) := rfl
    rw [e, ← Nat.mul_add]
    cases w J with
    | true =>
      simp only [if_true]
      rw [show 10 - pp + pp = 10 by omega, Nat.pow_succ]
    | false => simp
theorem mB_T {V : Cel} {pp o : Nat} (hJ : V.J ≤ 8) (ho : o < 2 ^ V.J) : mB (V.th 0) pp V.J o = prodN (mT (V.th 0) pp o) V.J := by
  have h256 : 2 ^ V.J ≤ 256 := show 2 ^ V.J ≤ 2 ^ 8 from Nat.pow_le_pow_right (by decide) hJ
  unfold mB mW
  by_cases h : subW (V.th 0) o = 0
  · rw [if_pos h]
    refine prodN_cg (fun i hi => ?_)
    unfold mF mT
    cases hw : V.th 0 i with
    | true => rfl
    | false =>
      cases hb : o.testBit i with
      | false => rfl
      | true =>
        have := (subW_iff.mp h) i (by omega) hb
        rw [hw] at this
        cases this
  · rw [if_neg h]
    have : ∃ i, i < V.J ∧ o.testBit i = true ∧ V.th 0 i = false := by
      apply Classical.byContradiction
      intro hn
      apply h
      rw [subW_iff]
      intro i hi hb
      cases hw : V.th 0 i with
      | true => rfl
      | false =>
        exfalso
        by_cases hiJ : i < V.J
        · exact hn ⟨i, hiJ, hb, hw⟩
        · rw [Nat.testBit_lt_two_pow (Nat.lt_of_lt_of_le ho (Nat.pow_le_pow_right (by decide) (by omega)))] at hb
          cases hb
    obtain ⟨i, h1, h2, h3⟩ := this
    have hz : ∀ J, i < J → prodN (mT (V.th 0) pp o) J = 0 := fun J => by
      induction J with
      | zero => intro q; omega
      | succ J ih =>
        intro q
        show prodN (mT (V.th 0) pp o) J * mT (V.th 0) pp o J = 0
        by_cases e : i = J
        · subst e
          unfold mT
          rw [h2, h3]
          simp
        · rw [ih (by omega), Nat.zero_mul]
    rw [hz V.J h1]
theorem mB_sum {V : Cel} {pp : Nat} (hJ : V.J ≤ 8) (hp : pp ≤ 10) : sumN (mB (V.th 0) pp V.J) (2 ^ V.J) = V.mdB := by
  rw [sumN_cg (fun i hi => mB_T hJ hi), mT_sum hp]
  unfold Cel.mdB
  rw [← ct_up hJ (fun i h1 _ => by simp [Cel.th, Nat.not_lt.mpr h1])]
theorem mA_le (V : Cel) (w : Nat → Bool) (j nt p pp : Nat) : ∀ o, mA V w j nt p pp o ≤ mB w pp V.J o := fun o => by
  unfold mA mB
  split
  · split
    · exact Nat.le_refl _
    · exact Nat.zero_le _
  · exact Nat.le_refl _
theorem mdB_le (V : Cel) : V.mdB ≤ 100000000 := pw_le (by decide) (ct_le _ 8)
theorem sumN_mono (f : Nat → Nat) {a b : Nat} (h : a ≤ b) : sumN f a ≤ sumN f b := by
  have e := sumN_add f a (b - a)
  rw [show a + (b - a) = b by omega] at e
  omega

