/-! the small static methods -/
section Leaf
variable {h : SH} {Q : Option Value → SH → Prop} {d : Nat}
theorem c_within {v a b : Int32} (ht : a ≤ v → v ≤ b → Q (some (.int (nI 1))) h) (hf : ¬ (a ≤ v ∧ v ≤ b) → Q (some (.int (nI 0))) h) : Calls MX7_within d 0 0 [.int v, .int a, .int b] h Q := by
  refine Calls.of (by decide +kernel) (Nat.le_of_ble_eq_true rfl) ?_
  refine T_iload_n (pc2 := 1) dX7_within_0 rfl rfl ?_
  refine T_iload_n (pc2 := 2) dX7_within_1 rfl rfl ?_
  refine T_icmplt (pc2 := 5) (tgt := 14) dX7_within_2 (by decide) rfl (fun c2 => ?_) (fun c2 => ?_)
  · refine T_iconst (pc2 := 15) dX7_within_14 ic0 rfl ?_
    refine T_iret dX7_within_15 rfl (by first | rfl | decide) ?_
    exact hf (fun z => absurd c2 (Int32.not_lt.mpr z.1))
  · refine T_iload_n (pc2 := 6) dX7_within_5 rfl rfl ?_
    refine T_iload_n (pc2 := 7) dX7_within_6 rfl rfl ?_
    refine T_icmpgt (pc2 := 10) (tgt := 14) dX7_within_7 (by decide) rfl (fun c7 => ?_) (fun c7 => ?_)
    · refine T_iconst (pc2 := 15) dX7_within_14 ic0 rfl ?_
      refine T_iret dX7_within_15 rfl (by first | rfl | decide) ?_
      exact hf (fun z => absurd c7 (Int32.not_lt.mpr z.2))
    · refine T_iconst (pc2 := 11) dX7_within_10 ic1 rfl ?_
      refine T_goto (tgt := 15) dX7_within_11 (by decide) ?_
      refine T_iret dX7_within_15 rfl (by first | rfl | decide) ?_
      exact ht (Int32.not_lt.mp c2) (Int32.not_lt.mp c7)
theorem c_withinN {v a b : Nat} (hv : v < 2 ^ 31) (ha : a < 2 ^ 31) (hb : b < 2 ^ 31) (ht : a ≤ v → v ≤ b → Q (some (.int (nI 1))) h) (hf : ¬ (a ≤ v ∧ v ≤ b) → Q (some (.int (nI 0))) h) : Calls MX7_within d 0 0 [.int (nI v), .int (nI a), .int (nI b)] h Q :=
  c_within (fun h1 h2 => ht ((nI_leI ha hv).mp h1) ((nI_leI hv hb).mp h2)) (fun z => hf (fun w => z ⟨(nI_leI ha hv).mpr w.1, (nI_leI hv hb).mpr w.2⟩))
/-- a number from 0 to k, or none -/
theorem c_withinI {v : Int32} {k : Nat} (hk : k < 2 ^ 31) (ht : ∀ j, j ≤ k → v = nI j → Q (some (.int (nI 1))) h) (hf : (∀ j, j ≤ k → v ≠ nI j) → Q (some (.int (nI 0))) h) : Calls MX7_within d 0 0 [.int v, .int (nI 0), .int (nI k)] h Q := by
  refine c_within (fun h1 h2 => ?_) (fun z => ?_)
  · obtain ⟨j, hj, e⟩ := nI_of2 (x := v) (M := nI k) (n := k) (nI_toInt hk) (Int32.not_lt.mpr h1) h2
    exact ht j hj e
  · refine hf (fun j hj e => z ?_)
    subst e
    exact ⟨nI_le (Nat.zero_le j) (by omega), nI_le hj hk⟩
theorem c_has {p : Nat → Bool} {k i : Nat} (hk : k ≤ 31) (hi : i < k) (ht : p i = true → Q (some (.int (nI 1))) h) (hf : p i = false → Q (some (.int (nI 0))) h) : Calls MX7_has d 0 0 [.int (nI (bm p k)), .int (nI i)] h Q := by
  refine Calls.of (by decide +kernel) (Nat.le_of_ble_eq_true rfl) ?_
  refine T_iload_n (pc2 := 1) dX7_has_0 rfl rfl ?_
  refine T_iload_n (pc2 := 2) dX7_has_1 rfl rfl ?_
  refine T_ishr (pc2 := 3) dX7_has_2 rfl ?_
  refine T_iconst (pc2 := 4) dX7_has_3 ic1 rfl ?_
  refine T_iand (pc2 := 5) dX7_has_4 rfl ?_
  rw [bm_has hk hi]
  by_cases hp : p i = true
  · rw [hp, if_pos rfl]
    first | refine B_ifeq1 (pc2 := 8) (tgt := 12) dX7_has_5 (by with_reducible rfl) (by decide) rfl ?_ | refine B_ifeq0 (tgt := 12) dX7_has_5 (by with_reducible rfl) (by decide) ?_ | refine N_ifeq (pc2 := 8) (tgt := 12) dX7_has_5 (by with_reducible rfl) (by decide) (by omega) rfl (fun c5 => ?_) (fun c5 => ?_) | refine T_ifeq (pc2 := 8) (tgt := 12) dX7_has_5 (by decide) rfl (fun c5 => ?_) (fun c5 => ?_)
    refine T_iconst (pc2 := 9) dX7_has_8 ic1 rfl ?_
    refine T_goto (tgt := 13) dX7_has_9 (by decide) ?_
    refine T_iret dX7_has_13 rfl (by first | rfl | decide) ?_
    exact ht hp
  · rw [Bool.not_eq_true] at hp
    rw [hp, if_neg (by decide)]
    first | refine B_ifeq1 (pc2 := 8) (tgt := 12) dX7_has_5 (by with_reducible rfl) (by decide) rfl ?_ | refine B_ifeq0 (tgt := 12) dX7_has_5 (by with_reducible rfl) (by decide) ?_ | refine N_ifeq (pc2 := 8) (tgt := 12) dX7_has_5 (by with_reducible rfl) (by decide) (by omega) rfl (fun c5 => ?_) (fun c5 => ?_) | refine T_ifeq (pc2 := 8) (tgt := 12) dX7_has_5 (by decide) rfl (fun c5 => ?_) (fun c5 => ?_)
    refine T_iconst (pc2 := 13) dX7_has_12 ic0 rfl ?_
    refine T_iret dX7_has_13 rfl (by first | rfl | decide) ?_
    exact hf hp
theorem c_isNote {v : Int32} (ht : ∀ j, j < 12 → v = nI j → Q (some (.int (nI 1))) h) (hf : (∀ j, j < 12 → v ≠ nI j) → Q (some (.int (nI 0))) h) : Calls MX7_isNote (d + 1) 0 0 [.int v] h Q := by
  refine Calls.of (by decide +kernel) (Nat.le_of_ble_eq_true rfl) ?_
  refine T_iload_n (pc2 := 1) dX7_isNote_0 rfl rfl ?_
  refine T_iconst (pc2 := 2) dX7_isNote_1 ic0 rfl ?_
  refine T_bipush (pc2 := 4) dX7_isNote_2 bp11 rfl ?_
  refine C_S3 (pc2 := 7) (mc := 0) (ms := 0) dX7_isNote_4 csX7_within mlX7_62 (Nat.le_of_ble_eq_true rfl) rfl ?_
  refine c_withinI (by decide) (fun j hj e => ?_) (fun z => ?_)
  · refine T_iret dX7_isNote_7 rfl (by first | rfl | decide) ?_
    exact ht j (by omega) e
  · refine T_iret dX7_isNote_7 rfl (by first | rfl | decide) ?_
    exact hf (fun j hj => z j (by omega))
theorem c_isRow {v : Int32} (ht : ∀ j, j < 8 → v = nI j → Q (some (.int (nI 1))) h) (hf : (∀ j, j < 8 → v ≠ nI j) → Q (some (.int (nI 0))) h) : Calls MX7_isRow (d + 1) 0 0 [.int v] h Q := by
  refine Calls.of (by decide +kernel) (Nat.le_of_ble_eq_true rfl) ?_
  refine T_iload_n (pc2 := 1) dX7_isRow_0 rfl rfl ?_
  refine T_iconst (pc2 := 2) dX7_isRow_1 ic0 rfl ?_
  refine T_bipush (pc2 := 4) dX7_isRow_2 bp7 rfl ?_
  refine C_S3 (pc2 := 7) (mc := 0) (ms := 0) dX7_isRow_4 csX7_within mlX7_62 (Nat.le_of_ble_eq_true rfl) rfl ?_
  refine c_withinI (by decide) (fun j hj e => ?_) (fun z => ?_)
  · refine T_iret dX7_isRow_7 rfl (by first | rfl | decide) ?_
    exact ht j (by omega) e
  · refine T_iret dX7_isRow_7 rfl (by first | rfl | decide) ?_
    exact hf (fun j hj => z j (by omega))
theorem c_isHalf {v : Int32} (ht : ∀ j, j < 2 → v = nI j → Q (some (.int (nI 1))) h) (hf : (∀ j, j < 2 → v ≠ nI j) → Q (some (.int (nI 0))) h) : Calls MX7_isHalf (d + 1) 0 0 [.int v] h Q := by
  refine Calls.of (by decide +kernel) (Nat.le_of_ble_eq_true rfl) ?_
  refine T_iload_n (pc2 := 1) dX7_isHalf_0 rfl rfl ?_
  refine T_iconst (pc2 := 2) dX7_isHalf_1 ic0 rfl ?_
  refine T_iconst (pc2 := 3) dX7_isHalf_2 ic1 rfl ?_
  refine C_S3 (pc2 := 6) (mc := 0) (ms := 0) dX7_isHalf_3 csX7_within mlX7_62 (Nat.le_of_ble_eq_true rfl) rfl ?_
  refine c_withinI (by decide) (fun j hj e => ?_) (fun z => ?_)
  · refine T_iret dX7_isHalf_6 rfl (by first | rfl | decide) ?_
    exact ht j (by omega) e
  · refine T_iret dX7_isHalf_6 rfl (by first | rfl | decide) ?_
    exact hf (fun j hj => z j (by omega))
end Leaf

