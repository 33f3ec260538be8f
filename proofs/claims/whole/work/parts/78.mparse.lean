/-! the model: its reader of the text -/
theorem enN_le {tp : Nat → Nat} {sz a : Nat} (ha : a ≤ sz) : enN tp sz a ≤ sz := by
  have h := rn_le tp sz (sz - a) a rfl
  unfold enN
  split
  · omega
  · split <;> omega
theorem tk_lt (tp : Nat → Nat) (sz a : Nat) : tkN tp sz a < 5 := by
  unfold tkN
  repeat' split
  all_goals decide
theorem tk_1 {tp : Nat → Nat} {sz a : Nat} : tkN tp sz a = 1 ↔ sz ≤ a := by
  unfold tkN
  constructor
  · intro h
    apply Classical.byContradiction
    intro hn
    rw [if_neg hn] at h
    revert h
    repeat' split
    all_goals decide
  · intro h
    rw [if_pos h]
theorem tk_2 {tp : Nat → Nat} {sz a : Nat} : tkN tp sz a = 2 ↔ a < sz ∧ 97 ≤ tp a ∧ tp a ≤ 122 := by
  unfold tkN
  constructor
  · intro h
    by_cases h1 : sz ≤ a
    · rw [if_pos h1] at h; cases h
    · rw [if_neg h1] at h
      by_cases h2 : 97 ≤ tp a ∧ tp a ≤ 122
      · exact ⟨by omega, h2⟩
      · rw [if_neg h2] at h
        revert h
        repeat' split
        all_goals intro h; cases h
  · intro h
    rw [if_neg (by omega), if_pos h.2]
theorem tk_3 {tp : Nat → Nat} {sz a : Nat} : tkN tp sz a = 3 ↔ 1 ≤ rn tp sz a ∧ rn tp sz a ≤ 2 := by
  constructor
  · intro h
    unfold tkN at h
    by_cases h1 : sz ≤ a
    · rw [if_pos h1] at h; cases h
    · rw [if_neg h1] at h
      by_cases h2 : 97 ≤ tp a ∧ tp a ≤ 122
      · rw [if_pos h2] at h; cases h
      · rw [if_neg h2] at h
        by_cases h3 : dig (tp a) = true
        · rw [if_pos h3] at h
          by_cases h4 : rn tp sz a ≤ 2
          · refine ⟨?_, h4⟩
            rw [rn_s (by omega) h3]
            omega
          · rw [if_neg h4] at h; cases h
        · rw [if_neg h3] at h
          revert h
          split <;> intro h <;> cases h
  · intro h
    have hd := rn_dig h.1
    unfold tkN
    rw [if_neg (by omega), if_neg (by omega), if_pos (dig_iff.mpr hd.2), if_pos h.2]
theorem tk_4 {tp : Nat → Nat} {sz a : Nat} : tkN tp sz a = 4 ↔ a < sz ∧ (tp a = 44 ∨ tp a = 59) := by
  constructor
  · intro h
    unfold tkN at h
    by_cases h1 : sz ≤ a
    · rw [if_pos h1] at h; cases h
    · rw [if_neg h1] at h
      refine ⟨by omega, ?_⟩
      apply Classical.byContradiction
      intro hn
      rw [if_neg hn] at h
      revert h
      repeat' split
      all_goals intro h; cases h
  · intro h
    have hd : ¬ dig (tp a) = true := fun z => by
      have := dig_iff.mp z
      omega
    unfold tkN
    rw [if_neg (by omega), if_neg (by omega), if_neg hd, if_pos h.2]
theorem vl_ch {tp : Nat → Nat} {sz a : Nat} (h : a < sz) (hd : ¬ (48 ≤ tp a ∧ tp a ≤ 57)) : vlI tp sz a = nI (tp a) ∧ enN tp sz a = a + 1 := by
  have hd : ¬ dig (tp a) = true := fun z => hd (dig_iff.mp z)
  unfold vlI enN
  rw [if_neg (by omega), if_neg hd, if_neg (by omega), if_neg hd]
  exact ⟨rfl, rfl⟩
theorem vl_dg {tp : Nat → Nat} {sz a : Nat} (h : 1 ≤ rn tp sz a) : vlI tp sz a = nI (vl tp sz a) ∧ enN tp sz a = a + rn tp sz a := by
  have hd := rn_dig h
  unfold vlI enN
  rw [if_neg (by omega), if_pos (dig_iff.mpr hd.2), if_neg (by omega), if_pos (dig_iff.mpr hd.2)]
  exact ⟨rfl, rfl⟩
theorem kindN_in {b : Nat} (h : kindN b ≠ 0) : 97 ≤ b ∧ b ≤ 122 := by
  apply Classical.byContradiction
  intro hn
  apply h
  unfold kindN
  rw [if_neg (by omega), if_neg (by omega), if_neg (by omega), if_neg (by omega), if_neg (by omega)]
theorem kindA_in {tp : Nat → Nat} {sz a : Nat} (h : kindA tp sz a ≠ 0) : a < sz ∧ 97 ≤ tp a ∧ tp a ≤ 122 ∧ kindA tp sz a = kindN (tp a) := by
  have h1 : a < sz := by
    apply Classical.byContradiction
    intro hn
    exact h (if_neg hn)
  have e : kindA tp sz a = kindN (tp a) := if_pos h1
  have := kindN_in (e ▸ h)
  exact ⟨h1, this.1, this.2, e⟩
section MParse
variable {sk : Nat → SK} {g : Nat → Nat → Int32} {n : Nat} {Q : Option Value → SH → Prop} {d kc ks : Nat} {bf im : Nat → Option Nat} {above below : Int64} {h : SH} {tp : Nat → Nat} {sz a f : Nat} {V : Cel}
theorem m_bad (S : Sh sk n bf im above below) (hG : PG g tp sz a) (h0 : f ≠ 0) (h1 : f < 100) (k : ∀ g2, PF g2 f a → Fp g g2 → Q none (HP sk g2 n)) : Calls MX8_bad d 0 0 [.ref 48, .int (nI f)] (HP sk g n) Q := by
  refine Calls.of (by decide +kernel) (Nat.le_of_ble_eq_true rfl) ?_
  obtain ⟨-, -, e16, e13, -⟩ := hG
  have e13b : gset g 48 16 (nI f) 48 13 = nI a := by rw [gs_ne _ _ (by omega)]; exact e13
  refine T_aload_n (pc2 := 1) dX8_bad_0 rfl rfl ?_
  refine G_getI (pc2 := 4) dX8_bad_1 flX8_81 (sh48 S) rfl (by first | with_reducible assumption | exact gs_eq _ _ _ _ | exact (gs_ne _ _ (by omega)).trans (by with_reducible assumption) | exact (gs_ne _ _ (by omega)).trans (gs_eq _ _ _ _) | exact (gs_ne _ _ (by omega)).trans ((gs_ne _ _ (by omega)).trans (by with_reducible assumption)) | exact (gs_ne _ _ (by omega)).trans ((gs_ne _ _ (by omega)).trans (gs_eq _ _ _ _)) | exact (gs_ne _ _ (by omega)).trans ((gs_ne _ _ (by omega)).trans ((gs_ne _ _ (by omega)).trans (by with_reducible assumption))) | rfl) rfl ?_
  first | refine B_ifne1 (tgt := 20) dX8_bad_4 (by with_reducible rfl) (by decide) ?_ | refine B_ifne0 (pc2 := 7) (tgt := 20) dX8_bad_4 (by with_reducible rfl) (by decide) rfl ?_ | refine N_ifne (pc2 := 7) (tgt := 20) dX8_bad_4 (by with_reducible rfl) (by decide) (by omega) rfl (fun c4 => ?_) (fun c4 => ?_) | refine T_ifne (pc2 := 7) (tgt := 20) dX8_bad_4 (by decide) rfl (fun c4 => ?_) (fun c4 => ?_)
  refine T_aload_n (pc2 := 8) dX8_bad_7 rfl rfl ?_
  refine T_iload_n (pc2 := 9) dX8_bad_8 rfl rfl ?_
  refine G_putI (pc2 := 12) dX8_bad_9 flX8_81 (sh48 S) rfl rfl rfl rfl ?_
  refine T_aload_n (pc2 := 13) dX8_bad_12 rfl rfl ?_
  refine T_aload_n (pc2 := 14) dX8_bad_13 rfl rfl ?_
  refine G_getI (pc2 := 17) dX8_bad_14 flX8_84 (sh48 S) rfl (by first | with_reducible assumption | exact gs_eq _ _ _ _ | exact (gs_ne _ _ (by omega)).trans (by with_reducible assumption) | exact (gs_ne _ _ (by omega)).trans (gs_eq _ _ _ _) | exact (gs_ne _ _ (by omega)).trans ((gs_ne _ _ (by omega)).trans (by with_reducible assumption)) | exact (gs_ne _ _ (by omega)).trans ((gs_ne _ _ (by omega)).trans (gs_eq _ _ _ _)) | exact (gs_ne _ _ (by omega)).trans ((gs_ne _ _ (by omega)).trans ((gs_ne _ _ (by omega)).trans (by with_reducible assumption))) | rfl) rfl ?_
  refine G_putI (pc2 := 20) dX8_bad_17 flX8_87 (sh48 S) rfl rfl rfl rfl ?_
  refine T_ret dX8_bad_20 rfl ?_
  exact k _ ⟨h0, h1, by rw [gs_ne _ _ (by omega), gs_eq], gs_eq _ _ _ _⟩ ((Fp.rf.st (by omega) (by omega)).st (by omega) (by omega))
theorem m_badF {v : Int32} (S : Sh sk n bf im above below) (hF : PF g f a) (k : Q none (HP sk g n)) : Calls MX8_bad d 0 0 [.ref 48, .int v] (HP sk g n) Q := by
  refine Calls.of (by decide +kernel) (Nat.le_of_ble_eq_true rfl) ?_
  obtain ⟨h0, h1, e16, -⟩ := hF
  refine T_aload_n (pc2 := 1) dX8_bad_0 rfl rfl ?_
  refine G_getI (pc2 := 4) dX8_bad_1 flX8_81 (sh48 S) rfl (by first | with_reducible assumption | exact gs_eq _ _ _ _ | exact (gs_ne _ _ (by omega)).trans (by with_reducible assumption) | exact (gs_ne _ _ (by omega)).trans (gs_eq _ _ _ _) | exact (gs_ne _ _ (by omega)).trans ((gs_ne _ _ (by omega)).trans (by with_reducible assumption)) | exact (gs_ne _ _ (by omega)).trans ((gs_ne _ _ (by omega)).trans (gs_eq _ _ _ _)) | exact (gs_ne _ _ (by omega)).trans ((gs_ne _ _ (by omega)).trans ((gs_ne _ _ (by omega)).trans (by with_reducible assumption))) | rfl) rfl ?_
  first | refine B_ifne1 (tgt := 20) dX8_bad_4 (by with_reducible rfl) (by decide) ?_ | refine B_ifne0 (pc2 := 7) (tgt := 20) dX8_bad_4 (by with_reducible rfl) (by decide) rfl ?_ | refine N_ifne (pc2 := 7) (tgt := 20) dX8_bad_4 (by with_reducible rfl) (by decide) (by omega) rfl (fun c4 => ?_) (fun c4 => ?_) | refine T_ifne (pc2 := 7) (tgt := 20) dX8_bad_4 (by decide) rfl (fun c4 => ?_) (fun c4 => ?_)
  · refine T_ret dX8_bad_20 rfl ?_
    exact k
  · omega
theorem m_mustT (S : Sh sk n bf im above below) (hok : okT tp sz) (hG : PG g tp sz a) (k : ∀ g2, PG g2 tp sz (enN tp sz a) → Fp g g2 → Q none (HP sk g2 n)) : Calls MX8_must (d + 2) 0 0 [.ref 48, .int (nI 1)] (HP sk g n) Q := by
  refine Calls.of (by decide +kernel) (Nat.le_of_ble_eq_true rfl) ?_
  have e16 := hG.2.2.1
  refine T_iload_n (pc2 := 1) dX8_must_0 rfl rfl ?_
  first | refine B_ifne1 (tgt := 9) dX8_must_1 (by with_reducible rfl) (by decide) ?_ | refine B_ifne0 (pc2 := 4) (tgt := 9) dX8_must_1 (by with_reducible rfl) (by decide) rfl ?_ | refine N_ifne (pc2 := 4) (tgt := 9) dX8_must_1 (by with_reducible rfl) (by decide) (by omega) rfl (fun c1 => ?_) (fun c1 => ?_) | refine T_ifne (pc2 := 4) (tgt := 9) dX8_must_1 (by decide) rfl (fun c1 => ?_) (fun c1 => ?_)
  refine T_aload_n (pc2 := 10) dX8_must_9 rfl rfl ?_
  refine G_getI (pc2 := 13) dX8_must_10 flX8_81 (sh48 S) rfl (by first | with_reducible assumption | exact gs_eq _ _ _ _ | exact (gs_ne _ _ (by omega)).trans (by with_reducible assumption) | exact (gs_ne _ _ (by omega)).trans (gs_eq _ _ _ _) | exact (gs_ne _ _ (by omega)).trans ((gs_ne _ _ (by omega)).trans (by with_reducible assumption)) | exact (gs_ne _ _ (by omega)).trans ((gs_ne _ _ (by omega)).trans (gs_eq _ _ _ _)) | exact (gs_ne _ _ (by omega)).trans ((gs_ne _ _ (by omega)).trans ((gs_ne _ _ (by omega)).trans (by with_reducible assumption))) | rfl) rfl ?_
  first | refine B_ifne1 (tgt := 20) dX8_must_13 (by with_reducible rfl) (by decide) ?_ | refine B_ifne0 (pc2 := 16) (tgt := 20) dX8_must_13 (by with_reducible rfl) (by decide) rfl ?_ | refine N_ifne (pc2 := 16) (tgt := 20) dX8_must_13 (by with_reducible rfl) (by decide) (by omega) rfl (fun c13 => ?_) (fun c13 => ?_) | refine T_ifne (pc2 := 16) (tgt := 20) dX8_must_13 (by decide) rfl (fun c13 => ?_) (fun c13 => ?_)
  refine T_aload_n (pc2 := 17) dX8_must_16 rfl rfl ?_
  refine C_V0 (pc2 := 20) (mc := 0) (ms := 0) dX8_must_17 cvX8_nextToken mlX8_112 (isO.h (sh48 S) _) (Nat.le_of_ble_eq_true rfl) rfl ?_
  refine m_next S hok (enN_le hG.2.1) hG.1 hG.2.2.2.2.2.2 e16 (fun g2 hG2 hf => ?_)
  refine T_ret dX8_must_20 rfl ?_
  exact k g2 hG2 hf
theorem m_mustF {b : Nat} (S : Sh sk n bf im above below) (hF : PF g f a) (hb : b < 2) (k : Q none (HP sk g n)) : Calls MX8_must (d + 2) 0 0 [.ref 48, .int (nI b)] (HP sk g n) Q := by
  refine Calls.of (by decide +kernel) (Nat.le_of_ble_eq_true rfl) ?_
  obtain ⟨h0, h1, e16, e17⟩ := hF
  have tail : T MX8_must (d + 2) 0 0 9 [(0, .ref 48), (1, .int (nI b))] [] (HP sk g n) Q := by
    refine T_aload_n (pc2 := 10) dX8_must_9 rfl rfl ?_
    refine G_getI (pc2 := 13) dX8_must_10 flX8_81 (sh48 S) rfl (by first | with_reducible assumption | exact gs_eq _ _ _ _ | exact (gs_ne _ _ (by omega)).trans (by with_reducible assumption) | exact (gs_ne _ _ (by omega)).trans (gs_eq _ _ _ _) | exact (gs_ne _ _ (by omega)).trans ((gs_ne _ _ (by omega)).trans (by with_reducible assumption)) | exact (gs_ne _ _ (by omega)).trans ((gs_ne _ _ (by omega)).trans (gs_eq _ _ _ _)) | exact (gs_ne _ _ (by omega)).trans ((gs_ne _ _ (by omega)).trans ((gs_ne _ _ (by omega)).trans (by with_reducible assumption))) | rfl) rfl ?_
    first | refine B_ifne1 (tgt := 20) dX8_must_13 (by with_reducible rfl) (by decide) ?_ | refine B_ifne0 (pc2 := 16) (tgt := 20) dX8_must_13 (by with_reducible rfl) (by decide) rfl ?_ | refine N_ifne (pc2 := 16) (tgt := 20) dX8_must_13 (by with_reducible rfl) (by decide) (by omega) rfl (fun c13 => ?_) (fun c13 => ?_) | refine T_ifne (pc2 := 16) (tgt := 20) dX8_must_13 (by decide) rfl (fun c13 => ?_) (fun c13 => ?_)
    · refine T_ret dX8_must_20 rfl ?_
      exact k
    · omega
  refine T_iload_n (pc2 := 1) dX8_must_0 rfl rfl ?_
  first | refine B_ifne1 (tgt := 9) dX8_must_1 (by with_reducible rfl) (by decide) ?_ | refine B_ifne0 (pc2 := 4) (tgt := 9) dX8_must_1 (by with_reducible rfl) (by decide) rfl ?_ | refine N_ifne (pc2 := 4) (tgt := 9) dX8_must_1 (by with_reducible rfl) (by decide) (by omega) rfl (fun c1 => ?_) (fun c1 => ?_) | refine T_ifne (pc2 := 4) (tgt := 9) dX8_must_1 (by decide) rfl (fun c1 => ?_) (fun c1 => ?_)
  · exact tail
  · refine T_aload_n (pc2 := 5) dX8_must_4 rfl rfl ?_
    refine T_iconst (pc2 := 6) dX8_must_5 ic1 rfl ?_
    refine C_V1 (pc2 := 9) (mc := 0) (ms := 0) dX8_must_6 cvX8_bad mlX8_108 (isO.h (sh48 S) _) (Nat.le_of_ble_eq_true rfl) rfl ?_
    refine m_badF S ⟨h0, h1, e16, e17⟩ ?_
    exact tail
theorem m_mustN (S : Sh sk n bf im above below) (hG : PG g tp sz a) (k : ∀ g2, PF g2 1 a → Fp g g2 → Q none (HP sk g2 n)) : Calls MX8_must (d + 2) 0 0 [.ref 48, .int (nI 0)] (HP sk g n) Q := by
  refine Calls.of (by decide +kernel) (Nat.le_of_ble_eq_true rfl) ?_
  refine T_iload_n (pc2 := 1) dX8_must_0 rfl rfl ?_
  first | refine B_ifne1 (tgt := 9) dX8_must_1 (by with_reducible rfl) (by decide) ?_ | refine B_ifne0 (pc2 := 4) (tgt := 9) dX8_must_1 (by with_reducible rfl) (by decide) rfl ?_ | refine N_ifne (pc2 := 4) (tgt := 9) dX8_must_1 (by with_reducible rfl) (by decide) (by omega) rfl (fun c1 => ?_) (fun c1 => ?_) | refine T_ifne (pc2 := 4) (tgt := 9) dX8_must_1 (by decide) rfl (fun c1 => ?_) (fun c1 => ?_)
  refine T_aload_n (pc2 := 5) dX8_must_4 rfl rfl ?_
  refine T_iconst (pc2 := 6) dX8_must_5 ic1 rfl ?_
  refine C_V1 (pc2 := 9) (mc := 0) (ms := 0) dX8_must_6 cvX8_bad mlX8_108 (isO.h (sh48 S) _) (Nat.le_of_ble_eq_true rfl) rfl ?_
  refine m_bad (f := 1) S hG (by decide) (by decide) (fun g2 hF hf => ?_)
  have e16 := hF.2.2.1
  refine T_aload_n (pc2 := 10) dX8_must_9 rfl rfl ?_
  refine G_getI (pc2 := 13) dX8_must_10 flX8_81 (sh48 S) rfl (by first | with_reducible assumption | exact gs_eq _ _ _ _ | exact (gs_ne _ _ (by omega)).trans (by with_reducible assumption) | exact (gs_ne _ _ (by omega)).trans (gs_eq _ _ _ _) | exact (gs_ne _ _ (by omega)).trans ((gs_ne _ _ (by omega)).trans (by with_reducible assumption)) | exact (gs_ne _ _ (by omega)).trans ((gs_ne _ _ (by omega)).trans (gs_eq _ _ _ _)) | exact (gs_ne _ _ (by omega)).trans ((gs_ne _ _ (by omega)).trans ((gs_ne _ _ (by omega)).trans (by with_reducible assumption))) | rfl) rfl ?_
  first | refine B_ifne1 (tgt := 20) dX8_must_13 (by with_reducible rfl) (by decide) ?_ | refine B_ifne0 (pc2 := 16) (tgt := 20) dX8_must_13 (by with_reducible rfl) (by decide) rfl ?_ | refine N_ifne (pc2 := 16) (tgt := 20) dX8_must_13 (by with_reducible rfl) (by decide) (by omega) rfl (fun c13 => ?_) (fun c13 => ?_) | refine T_ifne (pc2 := 16) (tgt := 20) dX8_must_13 (by decide) rfl (fun c13 => ?_) (fun c13 => ?_)
  refine T_ret dX8_must_20 rfl ?_
  exact k g2 hF hf
theorem m_isLetter {c : Nat} (S : Sh sk n bf im above below) (hok : okT tp sz) (hG : PG g tp sz a) (hc : 97 ≤ c ∧ c ≤ 122) (kt : psg tp sz a c = true → Q (some (.int (nI 1))) (HP sk g n)) (kf : psg tp sz a c = false → Q (some (.int (nI 0))) (HP sk g n)) : Calls MX8_isLetter d 0 0 [.ref 48, .int (nI c)] (HP sk g n) Q := by
  refine Calls.of (by decide +kernel) (Nat.le_of_ble_eq_true rfl) ?_
  obtain ⟨-, -, e16, -, e14, e15, -⟩ := hG
  have ht := tk_lt tp sz a
  refine T_aload_n (pc2 := 1) dX8_isLetter_0 rfl rfl ?_
  refine G_getI (pc2 := 4) dX8_isLetter_1 flX8_81 (sh48 S) rfl (by first | with_reducible assumption | exact gs_eq _ _ _ _ | exact (gs_ne _ _ (by omega)).trans (by with_reducible assumption) | exact (gs_ne _ _ (by omega)).trans (gs_eq _ _ _ _) | exact (gs_ne _ _ (by omega)).trans ((gs_ne _ _ (by omega)).trans (by with_reducible assumption)) | exact (gs_ne _ _ (by omega)).trans ((gs_ne _ _ (by omega)).trans (gs_eq _ _ _ _)) | exact (gs_ne _ _ (by omega)).trans ((gs_ne _ _ (by omega)).trans ((gs_ne _ _ (by omega)).trans (by with_reducible assumption))) | rfl) rfl ?_
  first | refine B_ifne1 (tgt := 27) dX8_isLetter_4 (by with_reducible rfl) (by decide) ?_ | refine B_ifne0 (pc2 := 7) (tgt := 27) dX8_isLetter_4 (by with_reducible rfl) (by decide) rfl ?_ | refine N_ifne (pc2 := 7) (tgt := 27) dX8_isLetter_4 (by with_reducible rfl) (by decide) (by omega) rfl (fun c4 => ?_) (fun c4 => ?_) | refine T_ifne (pc2 := 7) (tgt := 27) dX8_isLetter_4 (by decide) rfl (fun c4 => ?_) (fun c4 => ?_)
  refine T_aload_n (pc2 := 8) dX8_isLetter_7 rfl rfl ?_
  refine G_getI (pc2 := 11) dX8_isLetter_8 flX8_105 (sh48 S) rfl (by first | with_reducible assumption | exact gs_eq _ _ _ _ | exact (gs_ne _ _ (by omega)).trans (by with_reducible assumption) | exact (gs_ne _ _ (by omega)).trans (gs_eq _ _ _ _) | exact (gs_ne _ _ (by omega)).trans ((gs_ne _ _ (by omega)).trans (by with_reducible assumption)) | exact (gs_ne _ _ (by omega)).trans ((gs_ne _ _ (by omega)).trans (gs_eq _ _ _ _)) | exact (gs_ne _ _ (by omega)).trans ((gs_ne _ _ (by omega)).trans ((gs_ne _ _ (by omega)).trans (by with_reducible assumption))) | rfl) rfl ?_
  refine T_iconst (pc2 := 12) dX8_isLetter_11 ic2 rfl ?_
  first | refine N_icmpne (pc2 := 15) (tgt := 27) dX8_isLetter_12 (by decide) (by with_reducible rfl) (by with_reducible rfl) (by omega) (by omega) rfl (fun c12 => ?_) (fun c12 => ?_) | refine T_icmpne (pc2 := 15) (tgt := 27) dX8_isLetter_12 (by decide) rfl (fun c12 => ?_) (fun c12 => ?_)
  · refine T_iconst (pc2 := 28) dX8_isLetter_27 ic0 rfl ?_
    refine T_iret dX8_isLetter_28 rfl (by first | rfl | decide) ?_
    refine kf ?_
    simp only [psg, Bool.and_eq_false_iff, decide_eq_false_iff_not]
    by_cases h1 : a < sz
    · refine Or.inr (fun z => c12 (tk_2.mpr ⟨h1, by omega, by omega⟩))
    · exact Or.inl h1
  · have h2 := tk_2.mp (by omega : tkN tp sz a = 2)
    rw [(vl_ch h2.1 (by omega)).1] at e15
    have hb := hok.2 a h2.1
    refine T_aload_n (pc2 := 16) dX8_isLetter_15 rfl rfl ?_
    refine G_getI (pc2 := 19) dX8_isLetter_16 flX8_94 (sh48 S) rfl (by first | with_reducible assumption | exact gs_eq _ _ _ _ | exact (gs_ne _ _ (by omega)).trans (by with_reducible assumption) | exact (gs_ne _ _ (by omega)).trans (gs_eq _ _ _ _) | exact (gs_ne _ _ (by omega)).trans ((gs_ne _ _ (by omega)).trans (by with_reducible assumption)) | exact (gs_ne _ _ (by omega)).trans ((gs_ne _ _ (by omega)).trans (gs_eq _ _ _ _)) | exact (gs_ne _ _ (by omega)).trans ((gs_ne _ _ (by omega)).trans ((gs_ne _ _ (by omega)).trans (by with_reducible assumption))) | rfl) rfl ?_
    refine T_iload_n (pc2 := 20) dX8_isLetter_19 rfl rfl ?_
    first | refine N_icmpne (pc2 := 23) (tgt := 27) dX8_isLetter_20 (by decide) (by with_reducible rfl) (by with_reducible rfl) (by omega) (by omega) rfl (fun c20 => ?_) (fun c20 => ?_) | refine T_icmpne (pc2 := 23) (tgt := 27) dX8_isLetter_20 (by decide) rfl (fun c20 => ?_) (fun c20 => ?_)
    · refine T_iconst (pc2 := 28) dX8_isLetter_27 ic0 rfl ?_
      refine T_iret dX8_isLetter_28 rfl (by first | rfl | decide) ?_
      exact kf (by simp [psg, c20])
    · refine T_iconst (pc2 := 24) dX8_isLetter_23 ic1 rfl ?_
      refine T_goto (tgt := 28) dX8_isLetter_24 (by decide) ?_
      refine T_iret dX8_isLetter_28 rfl (by first | rfl | decide) ?_
      exact kt (by simp [psg]; omega)
theorem m_numberF {lo hi : Nat} (S : Sh sk n bf im above below) (hF : PF g f a) (k : Q (some (.int (nI lo))) (HP sk g n)) : Calls MX8_number (d + 3) 0 0 [.ref 48, .int (nI lo), .int (nI hi)] (HP sk g n) Q := by
  refine Calls.of (by decide +kernel) (Nat.le_of_ble_eq_true rfl) ?_
  obtain ⟨h0, h1, e16, e17⟩ := hF
  refine T_aload_n (pc2 := 1) dX8_number_0 rfl rfl ?_
  refine G_getI (pc2 := 4) dX8_number_1 flX8_81 (sh48 S) rfl (by first | with_reducible assumption | exact gs_eq _ _ _ _ | exact (gs_ne _ _ (by omega)).trans (by with_reducible assumption) | exact (gs_ne _ _ (by omega)).trans (gs_eq _ _ _ _) | exact (gs_ne _ _ (by omega)).trans ((gs_ne _ _ (by omega)).trans (by with_reducible assumption)) | exact (gs_ne _ _ (by omega)).trans ((gs_ne _ _ (by omega)).trans (gs_eq _ _ _ _)) | exact (gs_ne _ _ (by omega)).trans ((gs_ne _ _ (by omega)).trans ((gs_ne _ _ (by omega)).trans (by with_reducible assumption))) | rfl) rfl ?_
  first | refine B_ifne1 (tgt := 20) dX8_number_4 (by with_reducible rfl) (by decide) ?_ | refine B_ifne0 (pc2 := 7) (tgt := 20) dX8_number_4 (by with_reducible rfl) (by decide) rfl ?_ | refine N_ifne (pc2 := 7) (tgt := 20) dX8_number_4 (by with_reducible rfl) (by decide) (by omega) rfl (fun c4 => ?_) (fun c4 => ?_) | refine T_ifne (pc2 := 7) (tgt := 20) dX8_number_4 (by decide) rfl (fun c4 => ?_) (fun c4 => ?_)
  · refine T_aload_n (pc2 := 21) dX8_number_20 rfl rfl ?_
    refine G_getI (pc2 := 24) dX8_number_21 flX8_81 (sh48 S) rfl (by first | with_reducible assumption | exact gs_eq _ _ _ _ | exact (gs_ne _ _ (by omega)).trans (by with_reducible assumption) | exact (gs_ne _ _ (by omega)).trans (gs_eq _ _ _ _) | exact (gs_ne _ _ (by omega)).trans ((gs_ne _ _ (by omega)).trans (by with_reducible assumption)) | exact (gs_ne _ _ (by omega)).trans ((gs_ne _ _ (by omega)).trans (gs_eq _ _ _ _)) | exact (gs_ne _ _ (by omega)).trans ((gs_ne _ _ (by omega)).trans ((gs_ne _ _ (by omega)).trans (by with_reducible assumption))) | rfl) rfl ?_
    first | refine B_ifne1 (tgt := 47) dX8_number_24 (by with_reducible rfl) (by decide) ?_ | refine B_ifne0 (pc2 := 27) (tgt := 47) dX8_number_24 (by with_reducible rfl) (by decide) rfl ?_ | refine N_ifne (pc2 := 27) (tgt := 47) dX8_number_24 (by with_reducible rfl) (by decide) (by omega) rfl (fun c24 => ?_) (fun c24 => ?_) | refine T_ifne (pc2 := 27) (tgt := 47) dX8_number_24 (by decide) rfl (fun c24 => ?_) (fun c24 => ?_)
    · refine T_aload_n (pc2 := 48) dX8_number_47 rfl rfl ?_
      refine G_getI (pc2 := 51) dX8_number_48 flX8_81 (sh48 S) rfl (by first | with_reducible assumption | exact gs_eq _ _ _ _ | exact (gs_ne _ _ (by omega)).trans (by with_reducible assumption) | exact (gs_ne _ _ (by omega)).trans (gs_eq _ _ _ _) | exact (gs_ne _ _ (by omega)).trans ((gs_ne _ _ (by omega)).trans (by with_reducible assumption)) | exact (gs_ne _ _ (by omega)).trans ((gs_ne _ _ (by omega)).trans (gs_eq _ _ _ _)) | exact (gs_ne _ _ (by omega)).trans ((gs_ne _ _ (by omega)).trans ((gs_ne _ _ (by omega)).trans (by with_reducible assumption))) | rfl) rfl ?_
      first | refine B_ifne1 (tgt := 61) dX8_number_51 (by with_reducible rfl) (by decide) ?_ | refine B_ifne0 (pc2 := 54) (tgt := 61) dX8_number_51 (by with_reducible rfl) (by decide) rfl ?_ | refine N_ifne (pc2 := 54) (tgt := 61) dX8_number_51 (by with_reducible rfl) (by decide) (by omega) rfl (fun c51 => ?_) (fun c51 => ?_) | refine T_ifne (pc2 := 54) (tgt := 61) dX8_number_51 (by decide) rfl (fun c51 => ?_) (fun c51 => ?_)
      · refine T_iload_n (pc2 := 62) dX8_number_61 rfl rfl ?_
        refine T_istore_n (pc2 := 63) dX8_number_62 (by decide) rfl ?_
        refine T_aload_n (pc2 := 64) dX8_number_63 rfl rfl ?_
        refine T_iconst (pc2 := 65) dX8_number_64 ic1 rfl ?_
        refine C_V1 (pc2 := 68) (mc := 0) (ms := 0) dX8_number_65 cvX8_must mlX8_115 (isO.h (sh48 S) _) (Nat.le_of_ble_eq_true rfl) rfl ?_
        refine m_mustF (b := 1) S ⟨h0, h1, e16, e17⟩ (by decide) ?_
        refine T_iload_n (pc2 := 69) dX8_number_68 rfl rfl ?_
        refine T_iret dX8_number_69 rfl rfl ?_
        exact k
      · omega
    · omega
  · omega
theorem m_number {lo hi : Nat} (S : Sh sk n bf im above below) (hok : okT tp sz) (hG : PG g tp sz a) (hlo : lo < 100) (hhi : hi < 100) (kt : ∀ g2, pnc tp sz a lo hi = 0 → PG g2 tp sz (a + rn tp sz a) → Fp g g2 → Q (some (.int (nI (vl tp sz a)))) (HP sk g2 n)) (kf : ∀ g2, pnc tp sz a lo hi ≠ 0 → PF g2 (pnc tp sz a lo hi) a → Fp g g2 → Q (some (.int (nI lo))) (HP sk g2 n)) : Calls MX8_number (d + 3) 0 0 [.ref 48, .int (nI lo), .int (nI hi)] (HP sk g n) Q := by
  refine Calls.of (by decide +kernel) (Nat.le_of_ble_eq_true rfl) ?_
  obtain ⟨-, -, e16, -, e14, e15, -⟩ := id hG
  have ht := tk_lt tp sz a
  have tail : ∀ g2 f, f = pnc tp sz a lo hi → PF g2 f a → Fp g g2 → T MX8_number (d + 3) 0 0 47 [(0, .ref 48), (1, .int (nI lo)), (2, .int (nI hi))] [] (HP sk g2 n) Q := by
    intro g2 f e hF hf
    subst e
    obtain ⟨h0, h1, e16, e17⟩ := id hF
    refine T_aload_n (pc2 := 48) dX8_number_47 rfl rfl ?_
    refine G_getI (pc2 := 51) dX8_number_48 flX8_81 (sh48 S) rfl (by first | with_reducible assumption | exact gs_eq _ _ _ _ | exact (gs_ne _ _ (by omega)).trans (by with_reducible assumption) | exact (gs_ne _ _ (by omega)).trans (gs_eq _ _ _ _) | exact (gs_ne _ _ (by omega)).trans ((gs_ne _ _ (by omega)).trans (by with_reducible assumption)) | exact (gs_ne _ _ (by omega)).trans ((gs_ne _ _ (by omega)).trans (gs_eq _ _ _ _)) | exact (gs_ne _ _ (by omega)).trans ((gs_ne _ _ (by omega)).trans ((gs_ne _ _ (by omega)).trans (by with_reducible assumption))) | rfl) rfl ?_
    first | refine B_ifne1 (tgt := 61) dX8_number_51 (by with_reducible rfl) (by decide) ?_ | refine B_ifne0 (pc2 := 54) (tgt := 61) dX8_number_51 (by with_reducible rfl) (by decide) rfl ?_ | refine N_ifne (pc2 := 54) (tgt := 61) dX8_number_51 (by with_reducible rfl) (by decide) (by omega) rfl (fun c51 => ?_) (fun c51 => ?_) | refine T_ifne (pc2 := 54) (tgt := 61) dX8_number_51 (by decide) rfl (fun c51 => ?_) (fun c51 => ?_)
    · refine T_iload_n (pc2 := 62) dX8_number_61 rfl rfl ?_
      refine T_istore_n (pc2 := 63) dX8_number_62 (by decide) rfl ?_
      refine T_aload_n (pc2 := 64) dX8_number_63 rfl rfl ?_
      refine T_iconst (pc2 := 65) dX8_number_64 ic1 rfl ?_
      refine C_V1 (pc2 := 68) (mc := 0) (ms := 0) dX8_number_65 cvX8_must mlX8_115 (isO.h (sh48 S) _) (Nat.le_of_ble_eq_true rfl) rfl ?_
      refine m_mustF (b := 1) S hF (by decide) ?_
      refine T_iload_n (pc2 := 69) dX8_number_68 rfl rfl ?_
      refine T_iret dX8_number_69 rfl rfl ?_
      exact kf g2 h0 hF hf
    · omega
  by_cases hr : 1 ≤ rn tp sz a ∧ rn tp sz a ≤ 2
  · rw [tk_3.mpr hr] at e14
    have hv := vl_dg hr.1
    rw [hv.1] at e15
    have hvl := vl_lt hr.1 hr.2
    refine T_aload_n (pc2 := 1) dX8_number_0 rfl rfl ?_
    refine G_getI (pc2 := 4) dX8_number_1 flX8_81 (sh48 S) rfl (by first | with_reducible assumption | exact gs_eq _ _ _ _ | exact (gs_ne _ _ (by omega)).trans (by with_reducible assumption) | exact (gs_ne _ _ (by omega)).trans (gs_eq _ _ _ _) | exact (gs_ne _ _ (by omega)).trans ((gs_ne _ _ (by omega)).trans (by with_reducible assumption)) | exact (gs_ne _ _ (by omega)).trans ((gs_ne _ _ (by omega)).trans (gs_eq _ _ _ _)) | exact (gs_ne _ _ (by omega)).trans ((gs_ne _ _ (by omega)).trans ((gs_ne _ _ (by omega)).trans (by with_reducible assumption))) | rfl) rfl ?_
    first | refine B_ifne1 (tgt := 20) dX8_number_4 (by with_reducible rfl) (by decide) ?_ | refine B_ifne0 (pc2 := 7) (tgt := 20) dX8_number_4 (by with_reducible rfl) (by decide) rfl ?_ | refine N_ifne (pc2 := 7) (tgt := 20) dX8_number_4 (by with_reducible rfl) (by decide) (by omega) rfl (fun c4 => ?_) (fun c4 => ?_) | refine T_ifne (pc2 := 7) (tgt := 20) dX8_number_4 (by decide) rfl (fun c4 => ?_) (fun c4 => ?_)
    refine T_aload_n (pc2 := 8) dX8_number_7 rfl rfl ?_
    refine G_getI (pc2 := 11) dX8_number_8 flX8_105 (sh48 S) rfl (by first | with_reducible assumption | exact gs_eq _ _ _ _ | exact (gs_ne _ _ (by omega)).trans (by with_reducible assumption) | exact (gs_ne _ _ (by omega)).trans (gs_eq _ _ _ _) | exact (gs_ne _ _ (by omega)).trans ((gs_ne _ _ (by omega)).trans (by with_reducible assumption)) | exact (gs_ne _ _ (by omega)).trans ((gs_ne _ _ (by omega)).trans (gs_eq _ _ _ _)) | exact (gs_ne _ _ (by omega)).trans ((gs_ne _ _ (by omega)).trans ((gs_ne _ _ (by omega)).trans (by with_reducible assumption))) | rfl) rfl ?_
    refine T_iconst (pc2 := 12) dX8_number_11 ic3 rfl ?_
    first | refine N_icmpeq (pc2 := 15) (tgt := 20) dX8_number_12 (by decide) (by with_reducible rfl) (by with_reducible rfl) (by omega) (by omega) rfl (fun c12 => ?_) (fun c12 => ?_) | refine T_icmpeq (pc2 := 15) (tgt := 20) dX8_number_12 (by decide) rfl (fun c12 => ?_) (fun c12 => ?_)
    · refine T_aload_n (pc2 := 21) dX8_number_20 rfl rfl ?_
      refine G_getI (pc2 := 24) dX8_number_21 flX8_81 (sh48 S) rfl (by first | with_reducible assumption | exact gs_eq _ _ _ _ | exact (gs_ne _ _ (by omega)).trans (by with_reducible assumption) | exact (gs_ne _ _ (by omega)).trans (gs_eq _ _ _ _) | exact (gs_ne _ _ (by omega)).trans ((gs_ne _ _ (by omega)).trans (by with_reducible assumption)) | exact (gs_ne _ _ (by omega)).trans ((gs_ne _ _ (by omega)).trans (gs_eq _ _ _ _)) | exact (gs_ne _ _ (by omega)).trans ((gs_ne _ _ (by omega)).trans ((gs_ne _ _ (by omega)).trans (by with_reducible assumption))) | rfl) rfl ?_
      first | refine B_ifne1 (tgt := 47) dX8_number_24 (by with_reducible rfl) (by decide) ?_ | refine B_ifne0 (pc2 := 27) (tgt := 47) dX8_number_24 (by with_reducible rfl) (by decide) rfl ?_ | refine N_ifne (pc2 := 27) (tgt := 47) dX8_number_24 (by with_reducible rfl) (by decide) (by omega) rfl (fun c24 => ?_) (fun c24 => ?_) | refine T_ifne (pc2 := 27) (tgt := 47) dX8_number_24 (by decide) rfl (fun c24 => ?_) (fun c24 => ?_)
      refine T_aload_n (pc2 := 28) dX8_number_27 rfl rfl ?_
      refine G_getI (pc2 := 31) dX8_number_28 flX8_94 (sh48 S) rfl (by first | with_reducible assumption | exact gs_eq _ _ _ _ | exact (gs_ne _ _ (by omega)).trans (by with_reducible assumption) | exact (gs_ne _ _ (by omega)).trans (gs_eq _ _ _ _) | exact (gs_ne _ _ (by omega)).trans ((gs_ne _ _ (by omega)).trans (by with_reducible assumption)) | exact (gs_ne _ _ (by omega)).trans ((gs_ne _ _ (by omega)).trans (gs_eq _ _ _ _)) | exact (gs_ne _ _ (by omega)).trans ((gs_ne _ _ (by omega)).trans ((gs_ne _ _ (by omega)).trans (by with_reducible assumption))) | rfl) rfl ?_
      refine T_i2l (pc2 := 32) dX8_number_31 rfl ?_
      refine T_iload_n (pc2 := 33) dX8_number_32 rfl rfl ?_
      refine T_i2l (pc2 := 34) dX8_number_33 rfl ?_
      refine T_iload_n (pc2 := 35) dX8_number_34 rfl rfl ?_
      refine T_i2l (pc2 := 36) dX8_number_35 rfl ?_
      refine C_S3 (pc2 := 39) (mc := 0) (ms := 0) dX8_number_36 csX8_in mlX8_60 (Nat.le_of_ble_eq_true rfl) rfl ?_
      refine m_inN (b := vl tp sz a) (lo := lo) (hi := hi) (by omega) (by omega) (by omega) rfl (nI_l (by omega)) (nI_l (by omega)) (fun h1 h2 => ?_) (fun hno => ?_)
      · first | refine B_ifne1 (tgt := 47) dX8_number_39 (by with_reducible rfl) (by decide) ?_ | refine B_ifne0 (pc2 := 42) (tgt := 47) dX8_number_39 (by with_reducible rfl) (by decide) rfl ?_ | refine N_ifne (pc2 := 42) (tgt := 47) dX8_number_39 (by with_reducible rfl) (by decide) (by omega) rfl (fun c39 => ?_) (fun c39 => ?_) | refine T_ifne (pc2 := 42) (tgt := 47) dX8_number_39 (by decide) rfl (fun c39 => ?_) (fun c39 => ?_)
        refine T_aload_n (pc2 := 48) dX8_number_47 rfl rfl ?_
        refine G_getI (pc2 := 51) dX8_number_48 flX8_81 (sh48 S) rfl (by first | with_reducible assumption | exact gs_eq _ _ _ _ | exact (gs_ne _ _ (by omega)).trans (by with_reducible assumption) | exact (gs_ne _ _ (by omega)).trans (gs_eq _ _ _ _) | exact (gs_ne _ _ (by omega)).trans ((gs_ne _ _ (by omega)).trans (by with_reducible assumption)) | exact (gs_ne _ _ (by omega)).trans ((gs_ne _ _ (by omega)).trans (gs_eq _ _ _ _)) | exact (gs_ne _ _ (by omega)).trans ((gs_ne _ _ (by omega)).trans ((gs_ne _ _ (by omega)).trans (by with_reducible assumption))) | rfl) rfl ?_
        first | refine B_ifne1 (tgt := 61) dX8_number_51 (by with_reducible rfl) (by decide) ?_ | refine B_ifne0 (pc2 := 54) (tgt := 61) dX8_number_51 (by with_reducible rfl) (by decide) rfl ?_ | refine N_ifne (pc2 := 54) (tgt := 61) dX8_number_51 (by with_reducible rfl) (by decide) (by omega) rfl (fun c51 => ?_) (fun c51 => ?_) | refine T_ifne (pc2 := 54) (tgt := 61) dX8_number_51 (by decide) rfl (fun c51 => ?_) (fun c51 => ?_)
        refine T_aload_n (pc2 := 55) dX8_number_54 rfl rfl ?_
        refine G_getI (pc2 := 58) dX8_number_55 flX8_94 (sh48 S) rfl (by first | with_reducible assumption | exact gs_eq _ _ _ _ | exact (gs_ne _ _ (by omega)).trans (by with_reducible assumption) | exact (gs_ne _ _ (by omega)).trans (gs_eq _ _ _ _) | exact (gs_ne _ _ (by omega)).trans ((gs_ne _ _ (by omega)).trans (by with_reducible assumption)) | exact (gs_ne _ _ (by omega)).trans ((gs_ne _ _ (by omega)).trans (gs_eq _ _ _ _)) | exact (gs_ne _ _ (by omega)).trans ((gs_ne _ _ (by omega)).trans ((gs_ne _ _ (by omega)).trans (by with_reducible assumption))) | rfl) rfl ?_
        refine T_goto (tgt := 62) dX8_number_58 (by decide) ?_
        refine T_istore_n (pc2 := 63) dX8_number_62 (by decide) rfl ?_
        refine T_aload_n (pc2 := 64) dX8_number_63 rfl rfl ?_
        refine T_iconst (pc2 := 65) dX8_number_64 ic1 rfl ?_
        refine C_V1 (pc2 := 68) (mc := 0) (ms := 0) dX8_number_65 cvX8_must mlX8_115 (isO.h (sh48 S) _) (Nat.le_of_ble_eq_true rfl) rfl ?_
        refine m_mustT S hok hG (fun g2 hG2 hf => ?_)
        rw [hv.2] at hG2
        refine T_iload_n (pc2 := 69) dX8_number_68 rfl rfl ?_
        refine T_iret dX8_number_69 rfl rfl ?_
        refine kt g2 ?_ hG2 hf
        unfold pnc
        rw [if_neg (fun z => z hr), if_neg (fun z => z ⟨h1, h2⟩)]
      · first | refine B_ifne1 (tgt := 47) dX8_number_39 (by with_reducible rfl) (by decide) ?_ | refine B_ifne0 (pc2 := 42) (tgt := 47) dX8_number_39 (by with_reducible rfl) (by decide) rfl ?_ | refine N_ifne (pc2 := 42) (tgt := 47) dX8_number_39 (by with_reducible rfl) (by decide) (by omega) rfl (fun c39 => ?_) (fun c39 => ?_) | refine T_ifne (pc2 := 42) (tgt := 47) dX8_number_39 (by decide) rfl (fun c39 => ?_) (fun c39 => ?_)
        refine T_aload_n (pc2 := 43) dX8_number_42 rfl rfl ?_
        refine T_iconst (pc2 := 44) dX8_number_43 ic2 rfl ?_
        refine C_V1 (pc2 := 47) (mc := 0) (ms := 0) dX8_number_44 cvX8_bad mlX8_108 (isO.h (sh48 S) _) (Nat.le_of_ble_eq_true rfl) rfl ?_
        refine m_bad (f := 2) S hG (by decide) (by decide) (fun g2 hF hf => ?_)
        refine tail g2 2 ?_ hF hf
        unfold pnc
        rw [if_neg (fun z => z hr), if_pos hno]
    · exact absurd rfl c12
  · have hn : tkN tp sz a ≠ 3 := fun z => hr (tk_3.mp z)
    refine T_aload_n (pc2 := 1) dX8_number_0 rfl rfl ?_
    refine G_getI (pc2 := 4) dX8_number_1 flX8_81 (sh48 S) rfl (by first | with_reducible assumption | exact gs_eq _ _ _ _ | exact (gs_ne _ _ (by omega)).trans (by with_reducible assumption) | exact (gs_ne _ _ (by omega)).trans (gs_eq _ _ _ _) | exact (gs_ne _ _ (by omega)).trans ((gs_ne _ _ (by omega)).trans (by with_reducible assumption)) | exact (gs_ne _ _ (by omega)).trans ((gs_ne _ _ (by omega)).trans (gs_eq _ _ _ _)) | exact (gs_ne _ _ (by omega)).trans ((gs_ne _ _ (by omega)).trans ((gs_ne _ _ (by omega)).trans (by with_reducible assumption))) | rfl) rfl ?_
    first | refine B_ifne1 (tgt := 20) dX8_number_4 (by with_reducible rfl) (by decide) ?_ | refine B_ifne0 (pc2 := 7) (tgt := 20) dX8_number_4 (by with_reducible rfl) (by decide) rfl ?_ | refine N_ifne (pc2 := 7) (tgt := 20) dX8_number_4 (by with_reducible rfl) (by decide) (by omega) rfl (fun c4 => ?_) (fun c4 => ?_) | refine T_ifne (pc2 := 7) (tgt := 20) dX8_number_4 (by decide) rfl (fun c4 => ?_) (fun c4 => ?_)
    refine T_aload_n (pc2 := 8) dX8_number_7 rfl rfl ?_
    refine G_getI (pc2 := 11) dX8_number_8 flX8_105 (sh48 S) rfl (by first | with_reducible assumption | exact gs_eq _ _ _ _ | exact (gs_ne _ _ (by omega)).trans (by with_reducible assumption) | exact (gs_ne _ _ (by omega)).trans (gs_eq _ _ _ _) | exact (gs_ne _ _ (by omega)).trans ((gs_ne _ _ (by omega)).trans (by with_reducible assumption)) | exact (gs_ne _ _ (by omega)).trans ((gs_ne _ _ (by omega)).trans (gs_eq _ _ _ _)) | exact (gs_ne _ _ (by omega)).trans ((gs_ne _ _ (by omega)).trans ((gs_ne _ _ (by omega)).trans (by with_reducible assumption))) | rfl) rfl ?_
    refine T_iconst (pc2 := 12) dX8_number_11 ic3 rfl ?_
    first | refine N_icmpeq (pc2 := 15) (tgt := 20) dX8_number_12 (by decide) (by with_reducible rfl) (by with_reducible rfl) (by omega) (by omega) rfl (fun c12 => ?_) (fun c12 => ?_) | refine T_icmpeq (pc2 := 15) (tgt := 20) dX8_number_12 (by decide) rfl (fun c12 => ?_) (fun c12 => ?_)
    · omega
    · refine T_aload_n (pc2 := 16) dX8_number_15 rfl rfl ?_
      refine T_iconst (pc2 := 17) dX8_number_16 ic1 rfl ?_
      refine C_V1 (pc2 := 20) (mc := 0) (ms := 0) dX8_number_17 cvX8_bad mlX8_108 (isO.h (sh48 S) _) (Nat.le_of_ble_eq_true rfl) rfl ?_
      refine m_bad (f := 1) S hG (by decide) (by decide) (fun g2 hF hf => ?_)
      have e16b := hF.2.2.1
      refine T_aload_n (pc2 := 21) dX8_number_20 rfl rfl ?_
      refine G_getI (pc2 := 24) dX8_number_21 flX8_81 (sh48 S) rfl (by first | with_reducible assumption | exact gs_eq _ _ _ _ | exact (gs_ne _ _ (by omega)).trans (by with_reducible assumption) | exact (gs_ne _ _ (by omega)).trans (gs_eq _ _ _ _) | exact (gs_ne _ _ (by omega)).trans ((gs_ne _ _ (by omega)).trans (by with_reducible assumption)) | exact (gs_ne _ _ (by omega)).trans ((gs_ne _ _ (by omega)).trans (gs_eq _ _ _ _)) | exact (gs_ne _ _ (by omega)).trans ((gs_ne _ _ (by omega)).trans ((gs_ne _ _ (by omega)).trans (by with_reducible assumption))) | rfl) rfl ?_
      first | refine B_ifne1 (tgt := 47) dX8_number_24 (by with_reducible rfl) (by decide) ?_ | refine B_ifne0 (pc2 := 27) (tgt := 47) dX8_number_24 (by with_reducible rfl) (by decide) rfl ?_ | refine N_ifne (pc2 := 27) (tgt := 47) dX8_number_24 (by with_reducible rfl) (by decide) (by omega) rfl (fun c24 => ?_) (fun c24 => ?_) | refine T_ifne (pc2 := 27) (tgt := 47) dX8_number_24 (by decide) rfl (fun c24 => ?_) (fun c24 => ?_)
      refine tail g2 1 ?_ hF hf
      unfold pnc
      rw [if_pos hr]
theorem m_signF {c : Int32} (S : Sh sk n bf im above below) (hF : PF g f a) (k : Q none (HP sk g n)) : Calls MX8_mustSign (d + 3) 0 0 [.ref 48, .int c] (HP sk g n) Q := by
  refine Calls.of (by decide +kernel) (Nat.le_of_ble_eq_true rfl) ?_
  refine T_aload_n (pc2 := 1) dX8_mustSign_0 rfl rfl ?_
  refine T_aload_n (pc2 := 2) dX8_mustSign_1 rfl rfl ?_
  refine G_getI (pc2 := 5) dX8_mustSign_2 flX8_105 (sh48 S) rfl (by first | with_reducible assumption | exact gs_eq _ _ _ _ | exact (gs_ne _ _ (by omega)).trans (by with_reducible assumption) | exact (gs_ne _ _ (by omega)).trans (gs_eq _ _ _ _) | exact (gs_ne _ _ (by omega)).trans ((gs_ne _ _ (by omega)).trans (by with_reducible assumption)) | exact (gs_ne _ _ (by omega)).trans ((gs_ne _ _ (by omega)).trans (gs_eq _ _ _ _)) | exact (gs_ne _ _ (by omega)).trans ((gs_ne _ _ (by omega)).trans ((gs_ne _ _ (by omega)).trans (by with_reducible assumption))) | rfl) rfl ?_
  refine T_iconst (pc2 := 6) dX8_mustSign_5 ic4 rfl ?_
  refine T_icmpne (pc2 := 9) (tgt := 21) dX8_mustSign_6 (by decide) rfl (fun c6 => ?_) (fun c6 => ?_)
  · refine T_iconst (pc2 := 22) dX8_mustSign_21 ic0 rfl ?_
    refine C_V1 (pc2 := 25) (mc := 0) (ms := 0) dX8_mustSign_22 cvX8_must mlX8_115 (isO.h (sh48 S) _) (Nat.le_of_ble_eq_true rfl) rfl ?_
    refine m_mustF (b := 0) S hF (by decide) ?_
    refine T_ret dX8_mustSign_25 rfl ?_
    exact k
  · refine T_aload_n (pc2 := 10) dX8_mustSign_9 rfl rfl ?_
    refine G_getI (pc2 := 13) dX8_mustSign_10 flX8_94 (sh48 S) rfl (by first | with_reducible assumption | exact gs_eq _ _ _ _ | exact (gs_ne _ _ (by omega)).trans (by with_reducible assumption) | exact (gs_ne _ _ (by omega)).trans (gs_eq _ _ _ _) | exact (gs_ne _ _ (by omega)).trans ((gs_ne _ _ (by omega)).trans (by with_reducible assumption)) | exact (gs_ne _ _ (by omega)).trans ((gs_ne _ _ (by omega)).trans (gs_eq _ _ _ _)) | exact (gs_ne _ _ (by omega)).trans ((gs_ne _ _ (by omega)).trans ((gs_ne _ _ (by omega)).trans (by with_reducible assumption))) | rfl) rfl ?_
    refine T_iload_n (pc2 := 14) dX8_mustSign_13 rfl rfl ?_
    refine T_icmpne (pc2 := 17) (tgt := 21) dX8_mustSign_14 (by decide) rfl (fun c14 => ?_) (fun c14 => ?_)
    · refine T_iconst (pc2 := 22) dX8_mustSign_21 ic0 rfl ?_
      refine C_V1 (pc2 := 25) (mc := 0) (ms := 0) dX8_mustSign_22 cvX8_must mlX8_115 (isO.h (sh48 S) _) (Nat.le_of_ble_eq_true rfl) rfl ?_
      refine m_mustF (b := 0) S hF (by decide) ?_
      refine T_ret dX8_mustSign_25 rfl ?_
      exact k
    · refine T_iconst (pc2 := 18) dX8_mustSign_17 ic1 rfl ?_
      refine T_goto (tgt := 22) dX8_mustSign_18 (by decide) ?_
      refine C_V1 (pc2 := 25) (mc := 0) (ms := 0) dX8_mustSign_22 cvX8_must mlX8_115 (isO.h (sh48 S) _) (Nat.le_of_ble_eq_true rfl) rfl ?_
      refine m_mustF (b := 1) S hF (by decide) ?_
      refine T_ret dX8_mustSign_25 rfl ?_
      exact k
theorem m_sign {c : Nat} (S : Sh sk n bf im above below) (hok : okT tp sz) (hG : PG g tp sz a) (hc : c = 44 ∨ c = 59) (kt : ∀ g2, psg tp sz a c = true → PG g2 tp sz (a + 1) → Fp g g2 → Q none (HP sk g2 n)) (kf : ∀ g2, psg tp sz a c = false → PF g2 1 a → Fp g g2 → Q none (HP sk g2 n)) : Calls MX8_mustSign (d + 3) 0 0 [.ref 48, .int (nI c)] (HP sk g n) Q := by
  refine Calls.of (by decide +kernel) (Nat.le_of_ble_eq_true rfl) ?_
  obtain ⟨-, -, e16, -, e14, e15, -⟩ := id hG
  have ht := tk_lt tp sz a
  refine T_aload_n (pc2 := 1) dX8_mustSign_0 rfl rfl ?_
  refine T_aload_n (pc2 := 2) dX8_mustSign_1 rfl rfl ?_
  refine G_getI (pc2 := 5) dX8_mustSign_2 flX8_105 (sh48 S) rfl (by first | with_reducible assumption | exact gs_eq _ _ _ _ | exact (gs_ne _ _ (by omega)).trans (by with_reducible assumption) | exact (gs_ne _ _ (by omega)).trans (gs_eq _ _ _ _) | exact (gs_ne _ _ (by omega)).trans ((gs_ne _ _ (by omega)).trans (by with_reducible assumption)) | exact (gs_ne _ _ (by omega)).trans ((gs_ne _ _ (by omega)).trans (gs_eq _ _ _ _)) | exact (gs_ne _ _ (by omega)).trans ((gs_ne _ _ (by omega)).trans ((gs_ne _ _ (by omega)).trans (by with_reducible assumption))) | rfl) rfl ?_
  refine T_iconst (pc2 := 6) dX8_mustSign_5 ic4 rfl ?_
  first | refine N_icmpne (pc2 := 9) (tgt := 21) dX8_mustSign_6 (by decide) (by with_reducible rfl) (by with_reducible rfl) (by omega) (by omega) rfl (fun c6 => ?_) (fun c6 => ?_) | refine T_icmpne (pc2 := 9) (tgt := 21) dX8_mustSign_6 (by decide) rfl (fun c6 => ?_) (fun c6 => ?_)
  · refine T_iconst (pc2 := 22) dX8_mustSign_21 ic0 rfl ?_
    refine C_V1 (pc2 := 25) (mc := 0) (ms := 0) dX8_mustSign_22 cvX8_must mlX8_115 (isO.h (sh48 S) _) (Nat.le_of_ble_eq_true rfl) rfl ?_
    refine m_mustN S hG (fun g2 hF hf => ?_)
    refine T_ret dX8_mustSign_25 rfl ?_
    refine kf g2 ?_ hF hf
    simp only [psg, Bool.and_eq_false_iff, decide_eq_false_iff_not]
    by_cases h1 : a < sz
    · refine Or.inr (fun z => c6 (tk_4.mpr ⟨h1, by omega⟩))
    · exact Or.inl h1
  · have h2 := tk_4.mp (by omega : tkN tp sz a = 4)
    have hv := vl_ch (tp := tp) h2.1 (by omega)
    rw [hv.1] at e15
    have hb := hok.2 a h2.1
    refine T_aload_n (pc2 := 10) dX8_mustSign_9 rfl rfl ?_
    refine G_getI (pc2 := 13) dX8_mustSign_10 flX8_94 (sh48 S) rfl (by first | with_reducible assumption | exact gs_eq _ _ _ _ | exact (gs_ne _ _ (by omega)).trans (by with_reducible assumption) | exact (gs_ne _ _ (by omega)).trans (gs_eq _ _ _ _) | exact (gs_ne _ _ (by omega)).trans ((gs_ne _ _ (by omega)).trans (by with_reducible assumption)) | exact (gs_ne _ _ (by omega)).trans ((gs_ne _ _ (by omega)).trans (gs_eq _ _ _ _)) | exact (gs_ne _ _ (by omega)).trans ((gs_ne _ _ (by omega)).trans ((gs_ne _ _ (by omega)).trans (by with_reducible assumption))) | rfl) rfl ?_
    refine T_iload_n (pc2 := 14) dX8_mustSign_13 rfl rfl ?_
    first | refine N_icmpne (pc2 := 17) (tgt := 21) dX8_mustSign_14 (by decide) (by with_reducible rfl) (by with_reducible rfl) (by omega) (by omega) rfl (fun c14 => ?_) (fun c14 => ?_) | refine T_icmpne (pc2 := 17) (tgt := 21) dX8_mustSign_14 (by decide) rfl (fun c14 => ?_) (fun c14 => ?_)
    · refine T_iconst (pc2 := 22) dX8_mustSign_21 ic0 rfl ?_
      refine C_V1 (pc2 := 25) (mc := 0) (ms := 0) dX8_mustSign_22 cvX8_must mlX8_115 (isO.h (sh48 S) _) (Nat.le_of_ble_eq_true rfl) rfl ?_
      refine m_mustN S hG (fun g2 hF hf => ?_)
      refine T_ret dX8_mustSign_25 rfl ?_
      exact kf g2 (by simp [psg, c14]) hF hf
    · refine T_iconst (pc2 := 18) dX8_mustSign_17 ic1 rfl ?_
      refine T_goto (tgt := 22) dX8_mustSign_18 (by decide) ?_
      refine C_V1 (pc2 := 25) (mc := 0) (ms := 0) dX8_mustSign_22 cvX8_must mlX8_115 (isO.h (sh48 S) _) (Nat.le_of_ble_eq_true rfl) rfl ?_
      refine m_mustT S hok hG (fun g2 hG2 hf => ?_)
      rw [hv.2] at hG2
      refine T_ret dX8_mustSign_25 rfl ?_
      exact kt g2 (by simp [psg]; omega) hG2 hf
def kbI (b : Nat) : Int32 := if kindN b = 0 then -1000000 else nI (kindN b)
theorem m_kindBy {b : Nat} (hb : b < 256) (k : Q (some (.int (kbI b))) h) : Calls MX8_kindBy d 0 0 [.int (nI b)] h Q := by
  refine Calls.of (by decide +kernel) (Nat.le_of_ble_eq_true rfl) ?_
  unfold kbI kindN at k
  refine T_iload_n (pc2 := 1) dX8_kindBy_0 rfl rfl ?_
  refine T_bipush (pc2 := 3) dX8_kindBy_1 bp103 rfl ?_
  first | refine N_icmpne (pc2 := 6) (tgt := 10) dX8_kindBy_3 (by decide) (by with_reducible rfl) (by with_reducible rfl) (by omega) (by omega) rfl (fun c3 => ?_) (fun c3 => ?_) | refine T_icmpne (pc2 := 6) (tgt := 10) dX8_kindBy_3 (by decide) rfl (fun c3 => ?_) (fun c3 => ?_)
  · rw [if_neg c3] at k
    refine T_iload_n (pc2 := 11) dX8_kindBy_10 rfl rfl ?_
    refine T_bipush (pc2 := 13) dX8_kindBy_11 bp116 rfl ?_
    first | refine N_icmpne (pc2 := 16) (tgt := 20) dX8_kindBy_13 (by decide) (by with_reducible rfl) (by with_reducible rfl) (by omega) (by omega) rfl (fun c13 => ?_) (fun c13 => ?_) | refine T_icmpne (pc2 := 16) (tgt := 20) dX8_kindBy_13 (by decide) rfl (fun c13 => ?_) (fun c13 => ?_)
    · rw [if_neg c13] at k
      refine T_iload_n (pc2 := 21) dX8_kindBy_20 rfl rfl ?_
      refine T_bipush (pc2 := 23) dX8_kindBy_21 bp104 rfl ?_
      first | refine N_icmpne (pc2 := 26) (tgt := 30) dX8_kindBy_23 (by decide) (by with_reducible rfl) (by with_reducible rfl) (by omega) (by omega) rfl (fun c23 => ?_) (fun c23 => ?_) | refine T_icmpne (pc2 := 26) (tgt := 30) dX8_kindBy_23 (by decide) rfl (fun c23 => ?_) (fun c23 => ?_)
      · rw [if_neg c23] at k
        refine T_iload_n (pc2 := 31) dX8_kindBy_30 rfl rfl ?_
        refine T_bipush (pc2 := 33) dX8_kindBy_31 bp115 rfl ?_
        first | refine N_icmpne (pc2 := 36) (tgt := 40) dX8_kindBy_33 (by decide) (by with_reducible rfl) (by with_reducible rfl) (by omega) (by omega) rfl (fun c33 => ?_) (fun c33 => ?_) | refine T_icmpne (pc2 := 36) (tgt := 40) dX8_kindBy_33 (by decide) rfl (fun c33 => ?_) (fun c33 => ?_)
        · rw [if_neg c33] at k
          refine T_iload_n (pc2 := 41) dX8_kindBy_40 rfl rfl ?_
          refine T_bipush (pc2 := 43) dX8_kindBy_41 bp99 rfl ?_
          first | refine N_icmpne (pc2 := 46) (tgt := 50) dX8_kindBy_43 (by decide) (by with_reducible rfl) (by with_reducible rfl) (by omega) (by omega) rfl (fun c43 => ?_) (fun c43 => ?_) | refine T_icmpne (pc2 := 46) (tgt := 50) dX8_kindBy_43 (by decide) rfl (fun c43 => ?_) (fun c43 => ?_)
          · rw [if_neg c43] at k
            refine T_ldc (pc2 := 52) dX8_kindBy_50 kcX8_93 rfl ?_
            refine T_iret dX8_kindBy_52 rfl rfl ?_
            exact k
          · rw [if_pos (by omega : b = 99)] at k
            refine T_iconst (pc2 := 47) dX8_kindBy_46 ic5 rfl ?_
            refine T_goto (tgt := 52) dX8_kindBy_47 (by decide) ?_
            refine T_iret dX8_kindBy_52 rfl rfl ?_
            exact k
        · rw [if_pos (by omega : b = 115)] at k
          refine T_iconst (pc2 := 37) dX8_kindBy_36 ic4 rfl ?_
          refine T_goto (tgt := 52) dX8_kindBy_37 (by decide) ?_
          refine T_iret dX8_kindBy_52 rfl rfl ?_
          exact k
      · rw [if_pos (by omega : b = 104)] at k
        refine T_iconst (pc2 := 27) dX8_kindBy_26 ic3 rfl ?_
        refine T_goto (tgt := 52) dX8_kindBy_27 (by decide) ?_
        refine T_iret dX8_kindBy_52 rfl rfl ?_
        exact k
    · rw [if_pos (by omega : b = 116)] at k
      refine T_iconst (pc2 := 17) dX8_kindBy_16 ic2 rfl ?_
      refine T_goto (tgt := 52) dX8_kindBy_17 (by decide) ?_
      refine T_iret dX8_kindBy_52 rfl rfl ?_
      exact k
  · rw [if_pos (by omega : b = 103)] at k
    refine T_iconst (pc2 := 7) dX8_kindBy_6 ic1 rfl ?_
    refine T_goto (tgt := 52) dX8_kindBy_7 (by decide) ?_
    refine T_iret dX8_kindBy_52 rfl rfl ?_
    exact k
theorem m_isSort (S : Sh sk n bf im above below) (hok : okT tp sz) (hG : PG g tp sz a) (kt : kindA tp sz a ≠ 0 → Q (some (.int (nI 1))) (HP sk g n)) (kf : kindA tp sz a = 0 → Q (some (.int (nI 0))) (HP sk g n)) : Calls MX8_isSort (d + 1) 0 0 [.ref 48] (HP sk g n) Q := by
  refine Calls.of (by decide +kernel) (Nat.le_of_ble_eq_true rfl) ?_
  obtain ⟨-, -, e16, -, e14, e15, -⟩ := id hG
  have ht := tk_lt tp sz a
  refine T_aload_n (pc2 := 1) dX8_isSort_0 rfl rfl ?_
  refine G_getI (pc2 := 4) dX8_isSort_1 flX8_81 (sh48 S) rfl (by first | with_reducible assumption | exact gs_eq _ _ _ _ | exact (gs_ne _ _ (by omega)).trans (by with_reducible assumption) | exact (gs_ne _ _ (by omega)).trans (gs_eq _ _ _ _) | exact (gs_ne _ _ (by omega)).trans ((gs_ne _ _ (by omega)).trans (by with_reducible assumption)) | exact (gs_ne _ _ (by omega)).trans ((gs_ne _ _ (by omega)).trans (gs_eq _ _ _ _)) | exact (gs_ne _ _ (by omega)).trans ((gs_ne _ _ (by omega)).trans ((gs_ne _ _ (by omega)).trans (by with_reducible assumption))) | rfl) rfl ?_
  first | refine B_ifne1 (tgt := 31) dX8_isSort_4 (by with_reducible rfl) (by decide) ?_ | refine B_ifne0 (pc2 := 7) (tgt := 31) dX8_isSort_4 (by with_reducible rfl) (by decide) rfl ?_ | refine N_ifne (pc2 := 7) (tgt := 31) dX8_isSort_4 (by with_reducible rfl) (by decide) (by omega) rfl (fun c4 => ?_) (fun c4 => ?_) | refine T_ifne (pc2 := 7) (tgt := 31) dX8_isSort_4 (by decide) rfl (fun c4 => ?_) (fun c4 => ?_)
  refine T_aload_n (pc2 := 8) dX8_isSort_7 rfl rfl ?_
  refine G_getI (pc2 := 11) dX8_isSort_8 flX8_105 (sh48 S) rfl (by first | with_reducible assumption | exact gs_eq _ _ _ _ | exact (gs_ne _ _ (by omega)).trans (by with_reducible assumption) | exact (gs_ne _ _ (by omega)).trans (gs_eq _ _ _ _) | exact (gs_ne _ _ (by omega)).trans ((gs_ne _ _ (by omega)).trans (by with_reducible assumption)) | exact (gs_ne _ _ (by omega)).trans ((gs_ne _ _ (by omega)).trans (gs_eq _ _ _ _)) | exact (gs_ne _ _ (by omega)).trans ((gs_ne _ _ (by omega)).trans ((gs_ne _ _ (by omega)).trans (by with_reducible assumption))) | rfl) rfl ?_
  refine T_iconst (pc2 := 12) dX8_isSort_11 ic2 rfl ?_
  first | refine N_icmpne (pc2 := 15) (tgt := 31) dX8_isSort_12 (by decide) (by with_reducible rfl) (by with_reducible rfl) (by omega) (by omega) rfl (fun c12 => ?_) (fun c12 => ?_) | refine T_icmpne (pc2 := 15) (tgt := 31) dX8_isSort_12 (by decide) rfl (fun c12 => ?_) (fun c12 => ?_)
  · refine T_iconst (pc2 := 32) dX8_isSort_31 ic0 rfl ?_
    refine T_iret dX8_isSort_32 rfl (by first | rfl | decide) ?_
    refine kf ?_
    apply Classical.byContradiction
    intro hn
    have := kindA_in hn
    exact c12 (tk_2.mpr ⟨this.1, this.2.1, this.2.2.1⟩)
  · have h2 := tk_2.mp (by omega : tkN tp sz a = 2)
    rw [(vl_ch h2.1 (by omega)).1] at e15
    have hb := hok.2 a h2.1
    have ek : kindA tp sz a = kindN (tp a) := if_pos h2.1
    refine T_aload_n (pc2 := 16) dX8_isSort_15 rfl rfl ?_
    refine G_getI (pc2 := 19) dX8_isSort_16 flX8_94 (sh48 S) rfl (by first | with_reducible assumption | exact gs_eq _ _ _ _ | exact (gs_ne _ _ (by omega)).trans (by with_reducible assumption) | exact (gs_ne _ _ (by omega)).trans (gs_eq _ _ _ _) | exact (gs_ne _ _ (by omega)).trans ((gs_ne _ _ (by omega)).trans (by with_reducible assumption)) | exact (gs_ne _ _ (by omega)).trans ((gs_ne _ _ (by omega)).trans (gs_eq _ _ _ _)) | exact (gs_ne _ _ (by omega)).trans ((gs_ne _ _ (by omega)).trans ((gs_ne _ _ (by omega)).trans (by with_reducible assumption))) | rfl) rfl ?_
    refine C_S1 (pc2 := 22) (mc := 0) (ms := 0) dX8_isSort_19 csX8_kindBy mlX8_122 (Nat.le_of_ble_eq_true rfl) rfl ?_
    refine m_kindBy hb ?_
    have hk5 := kindN_le (tp a)
    by_cases hk : kindN (tp a) = 0
    · have e : kbI (tp a) = -1000000 := if_pos hk
      rw [e]
      refine T_ldc (pc2 := 24) dX8_isSort_22 kcX8_93 rfl ?_
      refine T_icmpeq (pc2 := 27) (tgt := 31) dX8_isSort_24 (by decide) rfl (fun c24 => ?_) (fun c24 => ?_)
      · refine T_iconst (pc2 := 32) dX8_isSort_31 ic0 rfl ?_
        refine T_iret dX8_isSort_32 rfl (by first | rfl | decide) ?_
        exact kf (ek.trans hk)
      · exact absurd rfl c24
    · have e : kbI (tp a) = nI (kindN (tp a)) := if_neg hk
      rw [e]
      refine T_ldc (pc2 := 24) dX8_isSort_22 kcX8_93 rfl ?_
      refine T_icmpeq (pc2 := 27) (tgt := 31) dX8_isSort_24 (by decide) rfl (fun c24 => ?_) (fun c24 => ?_)
      · exfalso
        have z := congrArg Int32.toInt c24
        rw [nI_toInt (by omega)] at z
        have z2 : ((-1000000 : Int32)).toInt = -1000000 := by decide
        rw [z2] at z
        omega
      · refine T_iconst (pc2 := 28) dX8_isSort_27 ic1 rfl ?_
        refine T_goto (tgt := 32) dX8_isSort_28 (by decide) ?_
        refine T_iret dX8_isSort_32 rfl (by first | rfl | decide) ?_
        exact kt (fun z => hk (ek.symm.trans z))
theorem m_isSortF (S : Sh sk n bf im above below) (hF : PF g f a) (k : Q (some (.int (nI 0))) (HP sk g n)) : Calls MX8_isSort (d + 1) 0 0 [.ref 48] (HP sk g n) Q := by
  refine Calls.of (by decide +kernel) (Nat.le_of_ble_eq_true rfl) ?_
  obtain ⟨h0, h1, e16, e17⟩ := hF
  refine T_aload_n (pc2 := 1) dX8_isSort_0 rfl rfl ?_
  refine G_getI (pc2 := 4) dX8_isSort_1 flX8_81 (sh48 S) rfl (by first | with_reducible assumption | exact gs_eq _ _ _ _ | exact (gs_ne _ _ (by omega)).trans (by with_reducible assumption) | exact (gs_ne _ _ (by omega)).trans (gs_eq _ _ _ _) | exact (gs_ne _ _ (by omega)).trans ((gs_ne _ _ (by omega)).trans (by with_reducible assumption)) | exact (gs_ne _ _ (by omega)).trans ((gs_ne _ _ (by omega)).trans (gs_eq _ _ _ _)) | exact (gs_ne _ _ (by omega)).trans ((gs_ne _ _ (by omega)).trans ((gs_ne _ _ (by omega)).trans (by with_reducible assumption))) | rfl) rfl ?_
  first | refine B_ifne1 (tgt := 31) dX8_isSort_4 (by with_reducible rfl) (by decide) ?_ | refine B_ifne0 (pc2 := 7) (tgt := 31) dX8_isSort_4 (by with_reducible rfl) (by decide) rfl ?_ | refine N_ifne (pc2 := 7) (tgt := 31) dX8_isSort_4 (by with_reducible rfl) (by decide) (by omega) rfl (fun c4 => ?_) (fun c4 => ?_) | refine T_ifne (pc2 := 7) (tgt := 31) dX8_isSort_4 (by decide) rfl (fun c4 => ?_) (fun c4 => ?_)
  · refine T_iconst (pc2 := 32) dX8_isSort_31 ic0 rfl ?_
    refine T_iret dX8_isSort_32 rfl (by first | rfl | decide) ?_
    exact k
  · omega
end MParse

