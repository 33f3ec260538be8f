section CellarM2
variable {sk : Nat → SK} {g : Nat → Nat → Int32} {n c : Nat} {V : Cel} {Q : Option Value → SH → Prop} {d kc ks : Nat}
theorem behind_loop {q : Nat} (hc : isC sk n c) (hV : hasC g c V) (hJ : V.J ≤ 8) (hh : q < 2 ^ 31) (hw : ∀ j, j < V.J → V.hw j < 2 ^ 31 ∧ V.kp j < 2 ^ 31) (k : Q (some (.int (nI (bm (V.kept q) 8)))) (HP sk g n)) :
    ∀ m j, j + m = V.J → T MX2_wholeBehind d kc ks 4 [(0, .ref c), (1, .int (nI q)), (2, .int (nI (bm (V.kept q) j))), (3, .int (nI j))] [] (HP sk g n) Q := by
  have e0 := hV.1
  intro m
  induction m with
  | zero =>
    intro j hj
    refine T_iload_n (pc2 := 5) dX2_wholeBehind_4 rfl rfl ?_
    refine T_aload_n (pc2 := 6) dX2_wholeBehind_5 rfl rfl ?_
    refine G_getI (pc2 := 9) dX2_wholeBehind_6 flX2_27 hc.1 rfl (by first | with_reducible assumption | exact gs_eq _ _ _ _ | exact (gs_ne _ _ (by omega)).trans (by with_reducible assumption) | exact (gs_ne _ _ (by omega)).trans (gs_eq _ _ _ _) | exact (gs_ne _ _ (by omega)).trans ((gs_ne _ _ (by omega)).trans (by with_reducible assumption)) | exact (gs_ne _ _ (by omega)).trans ((gs_ne _ _ (by omega)).trans (gs_eq _ _ _ _)) | exact (gs_ne _ _ (by omega)).trans ((gs_ne _ _ (by omega)).trans ((gs_ne _ _ (by omega)).trans (by with_reducible assumption))) | rfl) rfl ?_
    first | refine N_icmpge (pc2 := 12) (tgt := 43) dX2_wholeBehind_9 (by decide) (by with_reducible rfl) (by with_reducible rfl) (by omega) (by omega) rfl (fun c9 => ?_) (fun c9 => ?_) | refine T_icmpge (pc2 := 12) (tgt := 43) dX2_wholeBehind_9 (by decide) rfl (fun c9 => ?_) (fun c9 => ?_)
    · refine T_iload_n (pc2 := 44) dX2_wholeBehind_43 rfl rfl ?_
      refine T_iret dX2_wholeBehind_44 rfl rfl ?_
      rw [show j = V.J by omega, ← bm_up hJ (fun i h1 _ => by simp [Cel.kept, Nat.not_lt.mpr h1])]
      exact k
    · exact absurd (by omega) c9
  | succ m ih =>
    intro j hj
    have hjl : j < V.J := by omega
    have e5 := (hV.2.2.2 j hjl).2.2.2.2
    have e3 := (hV.2.2.2 j hjl).2.2.1
    have hwj := hw j hjl
    have hno : V.kept q j = false → T MX2_wholeBehind d kc ks 37 [(0, .ref c), (1, .int (nI q)), (2, .int (nI (bm (V.kept q) j))), (3, .int (nI j))] [] (HP sk g n) Q := by
      intro hk
      first | refine N_iinc (pc2 := 40) dX2_wholeBehind_37 rfl (by with_reducible rfl) ic1 (by decide) rfl ?_ | refine T_iinc (pc2 := 40) dX2_wholeBehind_37 rfl rfl (by decide) rfl ?_
      refine T_goto (tgt := 4) dX2_wholeBehind_40 (by decide) ?_
      refine T_sub (lks (i := 0) rfl (lks (i := 1) rfl (lks (i := 2) rfl (lks (i := 3) rfl lk0)))) ?_
      have e : bm (V.kept q) (j + 1) = bm (V.kept q) j := by
        show bm (V.kept q) j + _ = _
        simp [hk]
      rw [← e]
      exact ih (j + 1) (by omega)
    refine T_iload_n (pc2 := 5) dX2_wholeBehind_4 rfl rfl ?_
    refine T_aload_n (pc2 := 6) dX2_wholeBehind_5 rfl rfl ?_
    refine G_getI (pc2 := 9) dX2_wholeBehind_6 flX2_27 hc.1 rfl (by first | with_reducible assumption | exact gs_eq _ _ _ _ | exact (gs_ne _ _ (by omega)).trans (by with_reducible assumption) | exact (gs_ne _ _ (by omega)).trans (gs_eq _ _ _ _) | exact (gs_ne _ _ (by omega)).trans ((gs_ne _ _ (by omega)).trans (by with_reducible assumption)) | exact (gs_ne _ _ (by omega)).trans ((gs_ne _ _ (by omega)).trans (gs_eq _ _ _ _)) | exact (gs_ne _ _ (by omega)).trans ((gs_ne _ _ (by omega)).trans ((gs_ne _ _ (by omega)).trans (by with_reducible assumption))) | rfl) rfl ?_
    first | refine N_icmpge (pc2 := 12) (tgt := 43) dX2_wholeBehind_9 (by decide) (by with_reducible rfl) (by with_reducible rfl) (by omega) (by omega) rfl (fun c9 => ?_) (fun c9 => ?_) | refine T_icmpge (pc2 := 12) (tgt := 43) dX2_wholeBehind_9 (by decide) rfl (fun c9 => ?_) (fun c9 => ?_)
    · exact absurd c9 (by omega)
    · refine T_aload_n (pc2 := 13) dX2_wholeBehind_12 rfl rfl ?_
      refine G_getR (pc2 := 16) dX2_wholeBehind_13 flX2_24 hc.1 rfl rfl ?_
      refine T_iload_n (pc2 := 17) dX2_wholeBehind_16 rfl rfl ?_
      refine G_iald (pc2 := 18) dX2_wholeBehind_17 hc.2.2.2.2.2 (by omega) (by first | decide | omega) (by first | with_reducible assumption | exact gs_eq _ _ _ _ | exact (gs_ne _ _ (by omega)).trans (by with_reducible assumption) | exact (gs_ne _ _ (by omega)).trans (gs_eq _ _ _ _) | exact (gs_ne _ _ (by omega)).trans ((gs_ne _ _ (by omega)).trans (by with_reducible assumption)) | exact (gs_ne _ _ (by omega)).trans ((gs_ne _ _ (by omega)).trans (gs_eq _ _ _ _)) | exact (gs_ne _ _ (by omega)).trans ((gs_ne _ _ (by omega)).trans ((gs_ne _ _ (by omega)).trans (by with_reducible assumption))) | rfl) rfl ?_
      first | refine B_ifne1 (tgt := 37) dX2_wholeBehind_18 (by with_reducible rfl) (by decide) ?_ | refine B_ifne0 (pc2 := 21) (tgt := 37) dX2_wholeBehind_18 (by with_reducible rfl) (by decide) rfl ?_ | refine N_ifne (pc2 := 21) (tgt := 37) dX2_wholeBehind_18 (by with_reducible rfl) (by decide) (by omega) rfl (fun c18 => ?_) (fun c18 => ?_) | refine T_ifne (pc2 := 21) (tgt := 37) dX2_wholeBehind_18 (by decide) rfl (fun c18 => ?_) (fun c18 => ?_)
      · exact hno (by simp [Cel.kept, c18])
      · refine T_aload_n (pc2 := 22) dX2_wholeBehind_21 rfl rfl ?_
        refine G_getR (pc2 := 25) dX2_wholeBehind_22 flX2_18 hc.1 rfl rfl ?_
        refine T_iload_n (pc2 := 26) dX2_wholeBehind_25 rfl rfl ?_
        refine G_iald (pc2 := 27) dX2_wholeBehind_26 hc.2.2.2.1 (by omega) (by first | decide | omega) (by first | with_reducible assumption | exact gs_eq _ _ _ _ | exact (gs_ne _ _ (by omega)).trans (by with_reducible assumption) | exact (gs_ne _ _ (by omega)).trans (gs_eq _ _ _ _) | exact (gs_ne _ _ (by omega)).trans ((gs_ne _ _ (by omega)).trans (by with_reducible assumption)) | exact (gs_ne _ _ (by omega)).trans ((gs_ne _ _ (by omega)).trans (gs_eq _ _ _ _)) | exact (gs_ne _ _ (by omega)).trans ((gs_ne _ _ (by omega)).trans ((gs_ne _ _ (by omega)).trans (by with_reducible assumption))) | rfl) rfl ?_
        refine T_iload_n (pc2 := 28) dX2_wholeBehind_27 rfl rfl ?_
        first | refine N_icmple (pc2 := 31) (tgt := 37) dX2_wholeBehind_28 (by decide) (by with_reducible rfl) (by with_reducible rfl) (by omega) (by omega) rfl (fun c28 => ?_) (fun c28 => ?_) | refine T_icmple (pc2 := 31) (tgt := 37) dX2_wholeBehind_28 (by decide) rfl (fun c28 => ?_) (fun c28 => ?_)
        · exact hno (by simp [Cel.kept]; omega)
        · refine T_iload_n (pc2 := 32) dX2_wholeBehind_31 rfl rfl ?_
          refine T_iconst (pc2 := 33) dX2_wholeBehind_32 ic1 rfl ?_
          refine T_iload_n (pc2 := 34) dX2_wholeBehind_33 rfl rfl ?_
          refine T_ishl (pc2 := 35) dX2_wholeBehind_34 rfl ?_
          refine T_ior (pc2 := 36) dX2_wholeBehind_35 rfl ?_
          refine T_istore_n (pc2 := 37) dX2_wholeBehind_36 (by decide) rfl ?_
          rw [bm_add (by omega)]
          first | refine N_iinc (pc2 := 40) dX2_wholeBehind_37 rfl (by with_reducible rfl) ic1 (by decide) rfl ?_ | refine T_iinc (pc2 := 40) dX2_wholeBehind_37 rfl rfl (by decide) rfl ?_
          refine T_goto (tgt := 4) dX2_wholeBehind_40 (by decide) ?_
          refine T_sub (lks (i := 0) rfl (lks (i := 1) rfl (lks (i := 2) rfl (lks (i := 3) rfl lk0)))) ?_
          have e : bm (V.kept q) (j + 1) = bm (V.kept q) j + 2 ^ j := by
            show bm (V.kept q) j + _ = _
            simp [Cel.kept, c18, hjl]
            omega
          rw [← e]
          exact ih (j + 1) (by omega)
theorem c_behind {q : Nat} (hc : isC sk n c) (hV : hasC g c V) (hJ : V.J ≤ 8) (hh : q < 2 ^ 31) (hw : ∀ j, j < V.J → V.hw j < 2 ^ 31 ∧ V.kp j < 2 ^ 31) (k : Q (some (.int (nI (bm (V.kept q) 8)))) (HP sk g n)) : Calls MX2_wholeBehind d 0 0 [.ref c, .int (nI q)] (HP sk g n) Q := by
  refine Calls.of (by decide +kernel) (Nat.le_of_ble_eq_true rfl) ?_
  refine T_iconst (pc2 := 1) dX2_wholeBehind_0 ic0 rfl ?_
  refine T_istore_n (pc2 := 2) dX2_wholeBehind_1 (by decide) rfl ?_
  refine T_iconst (pc2 := 3) dX2_wholeBehind_2 ic0 rfl ?_
  refine T_istore_n (pc2 := 4) dX2_wholeBehind_3 (by decide) rfl ?_
  refine T_sub (lks (i := 0) rfl (lks (i := 1) rfl (lks (i := 2) rfl (lks (i := 3) rfl lk0)))) ?_
  exact behind_loop hc hV hJ hh hw k V.J 0 (by omega)
theorem age_loop (hc : isC sk n c) (hok : okC V) (k : ∀ g2, hasC g2 c V.age → Fr c (c + 6) g g2 → Q none (HP sk g2 n)) :
    ∀ m j g2, j + m = V.J → hasC g2 c (ageJ V j) → Fr c (c + 6) g g2 → T MX2_age d kc ks 12 [(0, .ref c), (1, .int (nI j))] [] (HP sk g2 n) Q := by
  have hJ8 := hok.1
  intro m
  induction m with
  | zero =>
    intro j g2 hj hg hf
    have e0 : g2 c 0 = nI V.J := hg.1
    refine T_iload_n (pc2 := 13) dX2_age_12 rfl rfl ?_
    refine T_aload_n (pc2 := 14) dX2_age_13 rfl rfl ?_
    refine G_getI (pc2 := 17) dX2_age_14 flX2_27 hc.1 rfl (by first | with_reducible assumption | exact gs_eq _ _ _ _ | exact (gs_ne _ _ (by omega)).trans (by with_reducible assumption) | exact (gs_ne _ _ (by omega)).trans (gs_eq _ _ _ _) | exact (gs_ne _ _ (by omega)).trans ((gs_ne _ _ (by omega)).trans (by with_reducible assumption)) | exact (gs_ne _ _ (by omega)).trans ((gs_ne _ _ (by omega)).trans (gs_eq _ _ _ _)) | exact (gs_ne _ _ (by omega)).trans ((gs_ne _ _ (by omega)).trans ((gs_ne _ _ (by omega)).trans (by with_reducible assumption))) | rfl) rfl ?_
    first | refine N_icmpge (pc2 := 20) (tgt := 61) dX2_age_17 (by decide) (by with_reducible rfl) (by with_reducible rfl) (by omega) (by omega) rfl (fun c17 => ?_) (fun c17 => ?_) | refine T_icmpge (pc2 := 20) (tgt := 61) dX2_age_17 (by decide) rfl (fun c17 => ?_) (fun c17 => ?_)
    · refine T_ret dX2_age_61 rfl ?_
      exact k g2 (by rw [Cel.age, ← show j = V.J by omega]; exact hg) hf
    · exact absurd (by omega) c17
  | succ m ih =>
    intro j g2 hj hg hf
    have hjl : j < V.J := by omega
    have e0 : g2 c 0 = nI V.J := hg.1
    have e5 : g2 (c + 5) j = nI (V.hw j) := by
      have := (hg.2.2.2 j hjl).2.2.2.2
      simpa [ageJ, Cel.hw] using this
    have e3 : g2 (c + 3) j = nI (V.kp j) := by
      have := (hg.2.2.2 j hjl).2.2.1
      simpa [ageJ, Cel.kp] using this
    obtain ⟨h1, h2, h3, h4, h5, h6, h7⟩ := hok.2.2.2.1 j hjl
    refine T_iload_n (pc2 := 13) dX2_age_12 rfl rfl ?_
    refine T_aload_n (pc2 := 14) dX2_age_13 rfl rfl ?_
    refine G_getI (pc2 := 17) dX2_age_14 flX2_27 hc.1 rfl (by first | with_reducible assumption | exact gs_eq _ _ _ _ | exact (gs_ne _ _ (by omega)).trans (by with_reducible assumption) | exact (gs_ne _ _ (by omega)).trans (gs_eq _ _ _ _) | exact (gs_ne _ _ (by omega)).trans ((gs_ne _ _ (by omega)).trans (by with_reducible assumption)) | exact (gs_ne _ _ (by omega)).trans ((gs_ne _ _ (by omega)).trans (gs_eq _ _ _ _)) | exact (gs_ne _ _ (by omega)).trans ((gs_ne _ _ (by omega)).trans ((gs_ne _ _ (by omega)).trans (by with_reducible assumption))) | rfl) rfl ?_
    first | refine N_icmpge (pc2 := 20) (tgt := 61) dX2_age_17 (by decide) (by with_reducible rfl) (by with_reducible rfl) (by omega) (by omega) rfl (fun c17 => ?_) (fun c17 => ?_) | refine T_icmpge (pc2 := 20) (tgt := 61) dX2_age_17 (by decide) rfl (fun c17 => ?_) (fun c17 => ?_)
    · exact absurd c17 (by omega)
    · refine T_aload_n (pc2 := 21) dX2_age_20 rfl rfl ?_
      refine G_getR (pc2 := 24) dX2_age_21 flX2_24 hc.1 rfl rfl ?_
      refine T_iload_n (pc2 := 25) dX2_age_24 rfl rfl ?_
      refine G_iald (pc2 := 26) dX2_age_25 hc.2.2.2.2.2 (by omega) (by first | decide | omega) (by first | with_reducible assumption | exact gs_eq _ _ _ _ | exact (gs_ne _ _ (by omega)).trans (by with_reducible assumption) | exact (gs_ne _ _ (by omega)).trans (gs_eq _ _ _ _) | exact (gs_ne _ _ (by omega)).trans ((gs_ne _ _ (by omega)).trans (by with_reducible assumption)) | exact (gs_ne _ _ (by omega)).trans ((gs_ne _ _ (by omega)).trans (gs_eq _ _ _ _)) | exact (gs_ne _ _ (by omega)).trans ((gs_ne _ _ (by omega)).trans ((gs_ne _ _ (by omega)).trans (by with_reducible assumption))) | rfl) rfl ?_
      first | refine B_ifne1 (tgt := 55) dX2_age_26 (by with_reducible rfl) (by decide) ?_ | refine B_ifne0 (pc2 := 29) (tgt := 55) dX2_age_26 (by with_reducible rfl) (by decide) rfl ?_ | refine N_ifne (pc2 := 29) (tgt := 55) dX2_age_26 (by with_reducible rfl) (by decide) (by omega) rfl (fun c26 => ?_) (fun c26 => ?_) | refine T_ifne (pc2 := 29) (tgt := 55) dX2_age_26 (by decide) rfl (fun c26 => ?_) (fun c26 => ?_)
      · first | refine N_iinc (pc2 := 58) dX2_age_55 rfl (by with_reducible rfl) ic1 (by decide) rfl ?_ | refine T_iinc (pc2 := 58) dX2_age_55 rfl rfl (by decide) rfl ?_
        refine T_goto (tgt := 12) dX2_age_58 (by decide) ?_
        refine T_sub (lks (i := 0) rfl (lks (i := 1) rfl lk0)) ?_
        refine ih (j + 1) g2 (by omega) ⟨hg.1, hg.2.1, hg.2.2.1, fun i hi => ?_⟩ hf
        have := hg.2.2.2 i hi
        have q1 : (i < j + 1 ∧ V.hw i = 0) ↔ (i < j ∧ V.hw i = 0) := by
          constructor
          · intro ⟨a, b⟩
            refine ⟨?_, b⟩
            by_cases e : i = j
            · subst e; exact absurd b c26
            · omega
          · intro ⟨a, b⟩
            exact ⟨by omega, b⟩
        have q2 : (i < j + 1 ∧ V.hw i = 0 ∧ V.kp i ≤ 1) ↔ (i < j ∧ V.hw i = 0 ∧ V.kp i ≤ 1) := by
          rw [← and_assoc, q1, and_assoc]
        simp only [ageJ, Cel.kp, Cel.hw, Cel.J, Cel.kd, Cel.nt, Cel.pl] at this q1 q2 ⊢
        simp only [q1, q2]
        exact this
      · have h5 := h5 c26
        have hst : ∀ g3 : Nat → Nat → Int32, (∀ i k, ¬ (i = c + 3 ∧ k = j) → ¬ (i = c + 5 ∧ k = j) → g3 i k = g2 i k) → g3 (c + 3) j = nI (V.kp j - 1) → g3 (c + 5) j = nI (if V.kp j ≤ 1 then 2 else V.hw j) → hasC g3 c (ageJ V (j + 1)) := by
          intro g3 ha hb hd
          refine ⟨by rw [ha c 0 (by omega) (by omega)]; exact hg.1, by rw [ha c 1 (by omega) (by omega)]; exact hg.2.1, by rw [ha c 2 (by omega) (by omega)]; exact hg.2.2.1, fun i hi => ?_⟩
          have := hg.2.2.2 i hi
          rw [ha (c + 1) i (by omega) (by omega), ha (c + 2) i (by omega) (by omega), ha (c + 4) i (by omega) (by omega)]
          refine ⟨this.1, this.2.1, ?_, this.2.2.2.1, ?_⟩
          · by_cases e : i = j
            · subst e
              rw [hb]
              simp [ageJ, Cel.kp, c26]
            · rw [ha (c + 3) i (by omega) (by omega), this.2.2.1]
              simp only [ageJ, Cel.kp]
              have : i < j + 1 ↔ i < j := by omega
              simp [this]
          · by_cases e : i = j
            · subst e
              rw [hd]
              simp [ageJ, Cel.hw, c26]
            · rw [ha (c + 5) i (by omega) (by omega), this.2.2.2.2]
              simp only [ageJ, Cel.hw]
              have : i < j + 1 ↔ i < j := by omega
              simp [this]
        refine T_aload_n (pc2 := 30) dX2_age_29 rfl rfl ?_
        refine G_getR (pc2 := 33) dX2_age_30 flX2_18 hc.1 rfl rfl ?_
        refine T_iload_n (pc2 := 34) dX2_age_33 rfl rfl ?_
        refine T_dup2 (pc2 := 35) dX2_age_34 rfl rfl rfl ?_
        refine G_iald (pc2 := 36) dX2_age_35 hc.2.2.2.1 (by omega) (by first | decide | omega) (by first | with_reducible assumption | exact gs_eq _ _ _ _ | exact (gs_ne _ _ (by omega)).trans (by with_reducible assumption) | exact (gs_ne _ _ (by omega)).trans (gs_eq _ _ _ _) | exact (gs_ne _ _ (by omega)).trans ((gs_ne _ _ (by omega)).trans (by with_reducible assumption)) | exact (gs_ne _ _ (by omega)).trans ((gs_ne _ _ (by omega)).trans (gs_eq _ _ _ _)) | exact (gs_ne _ _ (by omega)).trans ((gs_ne _ _ (by omega)).trans ((gs_ne _ _ (by omega)).trans (by with_reducible assumption))) | rfl) rfl ?_
        refine T_iconst (pc2 := 37) dX2_age_36 ic1 rfl ?_
        first | refine N_isub (pc2 := 38) dX2_age_37 (by with_reducible rfl) (by with_reducible rfl) (by omega) rfl ?_ | refine T_isub (pc2 := 38) dX2_age_37 rfl ?_
        refine G_iast (pc2 := 39) dX2_age_38 hc.2.2.2.1 (by omega) (by decide) rfl ?_
        refine T_aload_n (pc2 := 40) dX2_age_39 rfl rfl ?_
        refine G_getR (pc2 := 43) dX2_age_40 flX2_18 hc.1 rfl rfl ?_
        refine T_iload_n (pc2 := 44) dX2_age_43 rfl rfl ?_
        refine G_iald (pc2 := 45) dX2_age_44 hc.2.2.2.1 (by omega) (by first | decide | omega) (by first | with_reducible assumption | exact gs_eq _ _ _ _ | exact (gs_ne _ _ (by omega)).trans (by with_reducible assumption) | exact (gs_ne _ _ (by omega)).trans (gs_eq _ _ _ _) | exact (gs_ne _ _ (by omega)).trans ((gs_ne _ _ (by omega)).trans (by with_reducible assumption)) | exact (gs_ne _ _ (by omega)).trans ((gs_ne _ _ (by omega)).trans (gs_eq _ _ _ _)) | exact (gs_ne _ _ (by omega)).trans ((gs_ne _ _ (by omega)).trans ((gs_ne _ _ (by omega)).trans (by with_reducible assumption))) | rfl) rfl ?_
        first | refine N_ifgt (pc2 := 48) (tgt := 55) dX2_age_45 (by with_reducible rfl) (by decide) (by omega) rfl (fun c45 => ?_) (fun c45 => ?_) | refine T_ifgt (pc2 := 48) (tgt := 55) dX2_age_45 (by decide) rfl (fun c45 => ?_) (fun c45 => ?_)
        · first | refine N_iinc (pc2 := 58) dX2_age_55 rfl (by with_reducible rfl) ic1 (by decide) rfl ?_ | refine T_iinc (pc2 := 58) dX2_age_55 rfl rfl (by decide) rfl ?_
          refine T_goto (tgt := 12) dX2_age_58 (by decide) ?_
          refine T_sub (lks (i := 0) rfl (lks (i := 1) rfl lk0)) ?_
          refine ih (j + 1) _ (by omega) (hst _ (fun i k a b => gs_ne _ _ (by omega)) (gs_eq _ _ _ _) ?_) (hf.st (by omega) (by omega))
          rw [gs_ne _ _ (by omega), e5, if_neg (by omega)]
        · refine T_aload_n (pc2 := 49) dX2_age_48 rfl rfl ?_
          refine G_getR (pc2 := 52) dX2_age_49 flX2_24 hc.1 rfl rfl ?_
          refine T_iload_n (pc2 := 53) dX2_age_52 rfl rfl ?_
          refine T_iconst (pc2 := 54) dX2_age_53 ic2 rfl ?_
          refine G_iast (pc2 := 55) dX2_age_54 hc.2.2.2.2.2 (by omega) (by decide) rfl ?_
          first | refine N_iinc (pc2 := 58) dX2_age_55 rfl (by with_reducible rfl) ic1 (by decide) rfl ?_ | refine T_iinc (pc2 := 58) dX2_age_55 rfl rfl (by decide) rfl ?_
          refine T_goto (tgt := 12) dX2_age_58 (by decide) ?_
          refine T_sub (lks (i := 0) rfl (lks (i := 1) rfl lk0)) ?_
          refine ih (j + 1) _ (by omega) (hst _ (fun i k a b => by rw [gs_ne _ _ (by omega), gs_ne _ _ (by omega)]) (by rw [gs_ne _ _ (by omega), gs_eq]) ?_) ((hf.st (by omega) (by omega)).st (by omega) (by omega))
          rw [gs_eq, if_pos (by omega)]
theorem c_age (hc : isC sk n c) (hV : hasC g c V) (hok : okC V) (k : ∀ g2, hasC g2 c V.age → Fr c (c + 6) g g2 → Q none (HP sk g2 n)) : Calls MX2_age d 0 0 [.ref c] (HP sk g n) Q := by
  refine Calls.of (by decide +kernel) (Nat.le_of_ble_eq_true rfl) ?_
  have e1 := hV.2.1
  refine T_aload_n (pc2 := 1) dX2_age_0 rfl rfl ?_
  refine T_dup (pc2 := 2) dX2_age_1 rfl rfl ?_
  refine G_getI (pc2 := 5) dX2_age_2 flX2_31 hc.1 rfl (by first | with_reducible assumption | exact gs_eq _ _ _ _ | exact (gs_ne _ _ (by omega)).trans (by with_reducible assumption) | exact (gs_ne _ _ (by omega)).trans (gs_eq _ _ _ _) | exact (gs_ne _ _ (by omega)).trans ((gs_ne _ _ (by omega)).trans (by with_reducible assumption)) | exact (gs_ne _ _ (by omega)).trans ((gs_ne _ _ (by omega)).trans (gs_eq _ _ _ _)) | exact (gs_ne _ _ (by omega)).trans ((gs_ne _ _ (by omega)).trans ((gs_ne _ _ (by omega)).trans (by with_reducible assumption))) | rfl) rfl ?_
  refine T_iconst (pc2 := 6) dX2_age_5 ic1 rfl ?_
  first | refine N_iadd (pc2 := 7) dX2_age_6 (by with_reducible rfl) (by with_reducible rfl) rfl ?_ | refine T_iadd (pc2 := 7) dX2_age_6 rfl ?_
  refine G_putI (pc2 := 10) dX2_age_7 flX2_31 hc.1 rfl rfl rfl rfl ?_
  refine T_iconst (pc2 := 11) dX2_age_10 ic0 rfl ?_
  refine T_istore_n (pc2 := 12) dX2_age_11 (by decide) rfl ?_
  refine T_sub (lks (i := 0) rfl (lks (i := 1) rfl lk0)) ?_
  refine age_loop (g := g) hc hok k V.J 0 _ (by omega) ⟨by rw [gs_ne _ _ (by omega)]; exact hV.1, gs_eq _ _ _ _, by rw [gs_ne _ _ (by omega)]; exact hV.2.2.1, fun j hj => ?_⟩ (Fr.rf.st (by omega) (by omega))
  rw [gs_ne _ _ (by omega), gs_ne _ _ (by omega), gs_ne _ _ (by omega), gs_ne _ _ (by omega), gs_ne _ _ (by omega)]
  have := hV.2.2.2 j hj
  simpa [ageJ, Cel.kp, Cel.hw] using this
end CellarM2

