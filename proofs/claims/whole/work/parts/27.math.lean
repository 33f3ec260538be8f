/-! sets of places as bits, and how many -/
def bm (p : Nat → Bool) : Nat → Nat
  | 0 => 0
  | k + 1 => bm p k + (if p k then 2 ^ k else 0)
def ct (p : Nat → Bool) : Nat → Nat
  | 0 => 0
  | k + 1 => ct p k + (if p k then 1 else 0)
theorem bm_lt (p : Nat → Bool) : ∀ k, bm p k < 2 ^ k
  | 0 => by simp [bm]
  | k + 1 => by
    have := bm_lt p k
    have e : 2 ^ (k + 1) = 2 ^ k + 2 ^ k := by rw [Nat.pow_succ]; omega
    show bm p k + (if p k then 2 ^ k else 0) < _
    split <;> omega
theorem bm_le (p : Nat → Bool) {k m : Nat} (h : k ≤ m) : bm p k < 2 ^ m := Nat.lt_of_lt_of_le (bm_lt p k) (Nat.pow_le_pow_right (by decide) h)
theorem bm_tb (p : Nat → Bool) : ∀ k j, (bm p k).testBit j = (decide (j < k) && p j)
  | 0, j => by simp [bm]
  | k + 1, j => by
    show (bm p k + (if p k then 2 ^ k else 0)).testBit j = _
    by_cases h : p k
    · rw [if_pos h]
      have e := Nat.two_pow_add_eq_or_of_lt (bm_lt p k) 1
      rw [Nat.mul_one] at e
      rw [Nat.add_comm, e, Nat.testBit_or, bm_tb p k j, Nat.testBit_two_pow]
      by_cases q : k = j
      · subst q
        simp [h]
      · by_cases q2 : j < k
        · simp [q, q2, show j < k + 1 by omega]
        · simp [q, q2, show ¬ j < k + 1 by omega]
    · rw [if_neg h, Nat.add_zero, bm_tb p k j]
      by_cases q : k = j
      · subst q
        simp [h]
      · by_cases q2 : j < k
        · simp [q2, show j < k + 1 by omega]
        · simp [q2, show ¬ j < k + 1 by omega]
theorem bm_cg {p q : Nat → Bool} : ∀ {k : Nat}, (∀ j, j < k → p j = q j) → bm p k = bm q k
  | 0, _ => rfl
  | k + 1, h => by
    show bm p k + _ = bm q k + _
    rw [bm_cg (fun j hj => h j (by omega)), h k (by omega)]
theorem ct_cg {p q : Nat → Bool} : ∀ {k : Nat}, (∀ j, j < k → p j = q j) → ct p k = ct q k
  | 0, _ => rfl
  | k + 1, h => by
    show ct p k + _ = ct q k + _
    rw [ct_cg (fun j hj => h j (by omega)), h k (by omega)]
theorem bm_inj {p q : Nat → Bool} {k : Nat} (h : bm p k = bm q k) : ∀ j, j < k → p j = q j := by
  intro j hj
  have h1 := bm_tb p k j
  have h2 := bm_tb q k j
  rw [h, h2] at h1
  simpa [hj] using h1.symm
theorem bm_ext {p : Nat → Bool} {k n : Nat} (h : ∀ j, n.testBit j = (decide (j < k) && p j)) : n = bm p k := Nat.eq_of_testBit_eq fun j => by rw [h, bm_tb]
theorem ct_le (p : Nat → Bool) : ∀ k, ct p k ≤ k
  | 0 => Nat.le_refl 0
  | k + 1 => by
    have := ct_le p k
    show ct p k + (if p k then 1 else 0) ≤ k + 1
    split <;> omega
theorem nI_bit (a i : Nat) (h : i < 32) : (nI a).toBitVec.getLsbD i = a.testBit i := by
  show (BitVec.ofNat 32 a).getLsbD i = _
  rw [BitVec.getLsbD_ofNat]
  simp [h]
theorem i32_ext {x y : Int32} (h : ∀ i, i < 32 → x.toBitVec.getLsbD i = y.toBitVec.getLsbD i) : x = y := by
  apply Int32.toBitVec_inj.mp
  apply BitVec.eq_of_getLsbD_eq
  intro i hi
  exact h i hi
theorem nI_and (a b : Nat) : nI a &&& nI b = nI (a &&& b) := i32_ext fun i hi => by
  rw [Int32.toBitVec_and, BitVec.getLsbD_and, nI_bit _ _ hi, nI_bit _ _ hi, nI_bit _ _ hi, Nat.testBit_and]
theorem nI_or (a b : Nat) : nI a ||| nI b = nI (a ||| b) := i32_ext fun i hi => by
  rw [Int32.toBitVec_or, BitVec.getLsbD_or, nI_bit _ _ hi, nI_bit _ _ hi, nI_bit _ _ hi, Nat.testBit_or]
theorem m1_bit (i : Nat) (h : i < 32) : (-1 : Int32).toBitVec.getLsbD i = true := by
  have : ∀ i, i < 32 → (-1 : Int32).toBitVec.getLsbD i = true := by decide
  exact this i h
theorem bm_and (p q : Nat → Bool) (k : Nat) : nI (bm p k) &&& nI (bm q k) = nI (bm (fun j => p j && q j) k) := by
  rw [nI_and]
  congr 1
  apply bm_ext
  intro j
  rw [Nat.testBit_and, bm_tb, bm_tb]
  by_cases h : j < k <;> simp [h]
theorem bm_or (p q : Nat → Bool) (k : Nat) : nI (bm p k) ||| nI (bm q k) = nI (bm (fun j => p j || q j) k) := by
  rw [nI_or]
  congr 1
  apply bm_ext
  intro j
  rw [Nat.testBit_or, bm_tb, bm_tb]
  by_cases h : j < k <;> simp [h]
theorem bm_not (p q : Nat → Bool) (k : Nat) : nI (bm p k) &&& (nI (bm q k) ^^^ (-1)) = nI (bm (fun j => p j && !q j) k) := i32_ext fun i hi => by
  rw [Int32.toBitVec_and, BitVec.getLsbD_and, Int32.toBitVec_xor, BitVec.getLsbD_xor, nI_bit _ _ hi, nI_bit _ _ hi, nI_bit _ _ hi, m1_bit i hi, bm_tb, bm_tb, bm_tb]
  by_cases h : i < k <;> simp [h]
theorem a31 {i : Nat} (h : i < 32) : nI i &&& 31 = nI i := by
  have : ∀ i, i < 32 → nI i &&& 31 = nI i := by decide +kernel
  exact this i h
theorem shl1 {i : Nat} (h : i < 31) : nI 1 <<< (nI i &&& 31) = nI (2 ^ i) := by
  have : ∀ i, i < 31 → nI 1 <<< (nI i &&& 31) = nI (2 ^ i) := by decide +kernel
  exact this i h
theorem shr_bit {n i : Nat} (hn : n < 2 ^ 31) (h : i < 31) : (nI n >>> (nI i &&& 31)) &&& nI 1 = nI (if n.testBit i then 1 else 0) := by
  have hs : ∀ i, i < 31 → ((nI i &&& 31).toBitVec.smod 32).toNat = i := by decide +kernel
  rw [pk_shrN hn (nI i &&& 31) i (hs i h), nI_and, Nat.and_one_is_mod, Nat.testBit_eq_decide_div_mod_eq]
  have h2 := Nat.mod_lt (n / 2 ^ i) (show 2 > 0 by decide)
  by_cases q : n / 2 ^ i % 2 = 1
  · simp [q]
  · have : n / 2 ^ i % 2 = 0 := by omega
    simp [this]
theorem bm_has {p : Nat → Bool} {k i : Nat} (hk : k ≤ 31) (h : i < k) : (nI (bm p k) >>> (nI i &&& 31)) &&& nI 1 = nI (if p i then 1 else 0) := by
  rw [shr_bit (bm_le p hk) (by omega), bm_tb]
  simp [h]
theorem bm_add {p : Nat → Bool} {k : Nat} (hk : k < 31) : nI (bm p k) ||| (nI 1 <<< (nI k &&& 31)) = nI (bm p k + 2 ^ k) := by
  rw [shl1 hk, nI_or]
  have e := Nat.two_pow_add_eq_or_of_lt (bm_lt p k) 1
  rw [Nat.mul_one] at e
  rw [Nat.or_comm, ← e, Nat.add_comm]
theorem bm_one {p : Nat → Bool} {k i : Nat} (hk : k ≤ 31) (h : i < k) : nI (bm p k) ||| (nI 1 <<< (nI i &&& 31)) = nI (bm (fun j => p j || decide (j = i)) k) := by
  rw [shl1 (by omega), nI_or]
  congr 1
  apply bm_ext
  intro j
  rw [Nat.testBit_or, bm_tb, Nat.testBit_two_pow]
  by_cases q : i = j
  · subst q
    simp [h]
  · by_cases q2 : j < k
    · simp [q, q2, show ¬ j = i from fun e => q e.symm]
    · simp [q, q2]
theorem bm_0 (k : Nat) : bm (fun _ => false) k = 0 := by
  induction k with
  | zero => rfl
  | succ k ih => simp [bm, ih]
theorem bm_up {p : Nat → Bool} {k m : Nat} (h : k ≤ m) (hp : ∀ j, k ≤ j → j < m → p j = false) : bm p m = bm p k := by
  apply bm_ext
  intro j
  rw [bm_tb]
  by_cases h1 : j < k
  · simp [h1, show j < m by omega]
  · by_cases h2 : j < m
    · simp [h1, h2, hp j (by omega) h2]
    · simp [h1, h2]
theorem ct_up {p : Nat → Bool} {k : Nat} : ∀ {m : Nat}, k ≤ m → (∀ j, k ≤ j → j < m → p j = false) → ct p m = ct p k
  | 0, h, _ => by rw [show k = 0 by omega]
  | m + 1, h, hp => by
    by_cases e : k = m + 1
    · rw [e]
    · show ct p m + (if p m then 1 else 0) = ct p k
      rw [hp m (by omega) (by omega), ct_up (by omega) (fun j h1 h2 => hp j h1 (by omega))]
      rfl
theorem nI_inj0 {a : Nat} (h : a < 2 ^ 31) : nI a = 0 ↔ a = 0 := nI_eq (b := 0) h (by decide)

