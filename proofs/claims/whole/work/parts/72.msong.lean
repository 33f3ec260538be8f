/-! the model: rows asked -/
section MSong
variable {sk : Nat → SK} {g : Nat → Nat → Int32} {n w : Nat} {V : Cel} {Q : Option Value → SH → Prop} {d kc ks : Nat} {bf im : Nat → Option Nat} {above below : Int64} {h : SH} {s : ST}
theorem m_isMany {r m : Int32} (kt : ∀ a z, a < 8 → r = nI a → z < 12 → m = nI (z + 1) → Q (some (.int (nI 1))) h) (kf : ((∀ a, a < 8 → r ≠ nI a) ∨ (∀ z, z < 12 → m ≠ nI (z + 1))) → Q (some (.int (nI 0))) h) : Calls MX8_isMany (d + 2) 0 0 [.int r, .int m] h Q := by
  refine Calls.of (by decide +kernel) (Nat.le_of_ble_eq_true rfl) ?_
  refine T_iload_n (pc2 := 1) dX8_isMany_0 rfl rfl ?_
  refine C_S1 (pc2 := 4) (mc := 0) (ms := 0) dX8_isMany_1 csX8_isRow mlX8_64 (Nat.le_of_ble_eq_true rfl) rfl ?_
  refine m_isRow (fun a ha ea => ?_) (fun hno => ?_)
  · first | refine B_ifeq1 (pc2 := 7) (tgt := 23) dX8_isMany_4 (by with_reducible rfl) (by decide) rfl ?_ | refine B_ifeq0 (tgt := 23) dX8_isMany_4 (by with_reducible rfl) (by decide) ?_ | refine N_ifeq (pc2 := 7) (tgt := 23) dX8_isMany_4 (by with_reducible rfl) (by decide) (by omega) rfl (fun c4 => ?_) (fun c4 => ?_) | refine T_ifeq (pc2 := 7) (tgt := 23) dX8_isMany_4 (by decide) rfl (fun c4 => ?_) (fun c4 => ?_)
    refine T_iload_n (pc2 := 8) dX8_isMany_7 rfl rfl ?_
    refine T_i2l (pc2 := 9) dX8_isMany_8 rfl ?_
    refine T_lconst (pc2 := 10) (v := lN 1) dX8_isMany_9 rfl rfl ?_
    refine T_ldc2 (pc2 := 13) dX8_isMany_10 kcX8_239 rfl ?_
    refine C_S3 (pc2 := 16) (mc := 0) (ms := 0) dX8_isMany_13 csX8_in mlX8_60 (Nat.le_of_ble_eq_true rfl) rfl ?_
    refine m_in1 (k := 12) rfl rfl (by decide) (by decide) (fun z hz ez => ?_) (fun hno => ?_)
    · first | refine B_ifeq1 (pc2 := 19) (tgt := 23) dX8_isMany_16 (by with_reducible rfl) (by decide) rfl ?_ | refine B_ifeq0 (tgt := 23) dX8_isMany_16 (by with_reducible rfl) (by decide) ?_ | refine N_ifeq (pc2 := 19) (tgt := 23) dX8_isMany_16 (by with_reducible rfl) (by decide) (by omega) rfl (fun c16 => ?_) (fun c16 => ?_) | refine T_ifeq (pc2 := 19) (tgt := 23) dX8_isMany_16 (by decide) rfl (fun c16 => ?_) (fun c16 => ?_)
      refine T_iconst (pc2 := 20) dX8_isMany_19 ic1 rfl ?_
      refine T_goto (tgt := 24) dX8_isMany_20 (by decide) ?_
      refine T_iret dX8_isMany_24 rfl (by first | rfl | decide) ?_
      exact kt a z ha ea hz ez
    · first | refine B_ifeq1 (pc2 := 19) (tgt := 23) dX8_isMany_16 (by with_reducible rfl) (by decide) rfl ?_ | refine B_ifeq0 (tgt := 23) dX8_isMany_16 (by with_reducible rfl) (by decide) ?_ | refine N_ifeq (pc2 := 19) (tgt := 23) dX8_isMany_16 (by with_reducible rfl) (by decide) (by omega) rfl (fun c16 => ?_) (fun c16 => ?_) | refine T_ifeq (pc2 := 19) (tgt := 23) dX8_isMany_16 (by decide) rfl (fun c16 => ?_) (fun c16 => ?_)
      refine T_iconst (pc2 := 24) dX8_isMany_23 ic0 rfl ?_
      refine T_iret dX8_isMany_24 rfl (by first | rfl | decide) ?_
      exact kf (Or.inr hno)
  · first | refine B_ifeq1 (pc2 := 7) (tgt := 23) dX8_isMany_4 (by with_reducible rfl) (by decide) rfl ?_ | refine B_ifeq0 (tgt := 23) dX8_isMany_4 (by with_reducible rfl) (by decide) ?_ | refine N_ifeq (pc2 := 7) (tgt := 23) dX8_isMany_4 (by with_reducible rfl) (by decide) (by omega) rfl (fun c4 => ?_) (fun c4 => ?_) | refine T_ifeq (pc2 := 7) (tgt := 23) dX8_isMany_4 (by decide) rfl (fun c4 => ?_) (fun c4 => ?_)
    refine T_iconst (pc2 := 24) dX8_isMany_23 ic0 rfl ?_
    refine T_iret dX8_isMany_24 rfl (by first | rfl | decide) ?_
    exact kf (Or.inl hno)
theorem m_rowFound {r m : Nat} {i : Int32} (S : Sh sk n bf im above below) (hA : hasRm g s.A) (hok : okR s.A) (hr : r < 8) (hm : m ≤ 12) (k0 : s.A.1 r = false → Q (some (.int (fnd 1))) (HP sk (gset g 48 1 (nI 1)) n)) (kt : ∀ a, s.A.1 r = true → i = nI a → a + m ≤ s.A.2.2.1 r → Q (some (.int (nI 0))) (HP sk (gset g 48 1 (nI 0)) n)) (kf : s.A.1 r = true → (∀ a b, i = nI a → nI m = nI b → a < 2 ^ 31 → b < 2 ^ 31 → ¬ a + b ≤ s.A.2.2.1 r) → Q (some (.int (fnd 2))) (HP sk (gset g 48 1 (nI 2)) n)) : Calls MX8_rowFound (d + 1) 0 0 [.ref 48, .int (nI r), .int i, .int (nI m)] (HP sk g n) Q := by
  refine Calls.of (by decide +kernel) (Nat.le_of_ble_eq_true rfl) ?_
  rcases lane_case hA hr with ⟨h0, e49⟩ | ⟨ht, e49, e50, e51⟩
  · refine T_aload_n (pc2 := 1) dX8_rowFound_0 rfl rfl ?_
    refine G_getR (pc2 := 4) dX8_rowFound_1 flX8_7 (sh48 S) rfl rfl ?_
    refine T_iload_n (pc2 := 5) dX8_rowFound_4 rfl rfl ?_
    refine G_iald (pc2 := 6) dX8_rowFound_5 (sh49 S) (by omega) (by first | decide | omega) (by first | with_reducible assumption | exact gs_eq _ _ _ _ | exact (gs_ne _ _ (by omega)).trans (by with_reducible assumption) | exact (gs_ne _ _ (by omega)).trans (gs_eq _ _ _ _) | exact (gs_ne _ _ (by omega)).trans ((gs_ne _ _ (by omega)).trans (by with_reducible assumption)) | exact (gs_ne _ _ (by omega)).trans ((gs_ne _ _ (by omega)).trans (gs_eq _ _ _ _)) | exact (gs_ne _ _ (by omega)).trans ((gs_ne _ _ (by omega)).trans ((gs_ne _ _ (by omega)).trans (by with_reducible assumption))) | rfl) rfl ?_
    refine T_ifge (pc2 := 9) (tgt := 15) dX8_rowFound_6 (by decide) rfl (fun c6 => ?_) (fun c6 => ?_)
    · exact absurd c6 (by decide)
    · refine T_aload_n (pc2 := 10) dX8_rowFound_9 rfl rfl ?_
      refine T_iconst (pc2 := 11) dX8_rowFound_10 ic1 rfl ?_
      refine C_V1 (pc2 := 14) (mc := 0) (ms := 0) dX8_rowFound_11 cvX8_finding mlX8_71 (isO.h (sh48 S) _) (Nat.le_of_ble_eq_true rfl) rfl ?_
      refine m_finding S ?_
      refine T_iret dX8_rowFound_14 rfl rfl ?_
      exact k0 h0
  · have ol := hok r hr ht
    refine T_aload_n (pc2 := 1) dX8_rowFound_0 rfl rfl ?_
    refine G_getR (pc2 := 4) dX8_rowFound_1 flX8_7 (sh48 S) rfl rfl ?_
    refine T_iload_n (pc2 := 5) dX8_rowFound_4 rfl rfl ?_
    refine G_iald (pc2 := 6) dX8_rowFound_5 (sh49 S) (by omega) (by first | decide | omega) (by first | with_reducible assumption | exact gs_eq _ _ _ _ | exact (gs_ne _ _ (by omega)).trans (by with_reducible assumption) | exact (gs_ne _ _ (by omega)).trans (gs_eq _ _ _ _) | exact (gs_ne _ _ (by omega)).trans ((gs_ne _ _ (by omega)).trans (by with_reducible assumption)) | exact (gs_ne _ _ (by omega)).trans ((gs_ne _ _ (by omega)).trans (gs_eq _ _ _ _)) | exact (gs_ne _ _ (by omega)).trans ((gs_ne _ _ (by omega)).trans ((gs_ne _ _ (by omega)).trans (by with_reducible assumption))) | rfl) rfl ?_
    first | refine N_ifge (tgt := 15) dX8_rowFound_6 (by with_reducible rfl) (by decide) (by omega) ?_ | refine T_ifge (pc2 := 9) (tgt := 15) dX8_rowFound_6 (by decide) rfl (fun c6 => ?_) (fun c6 => ?_)
    refine T_iload_n (pc2 := 16) dX8_rowFound_15 rfl rfl ?_
    refine T_iflt (pc2 := 19) (tgt := 35) dX8_rowFound_16 (by decide) rfl (fun c16 => ?_) (fun c16 => ?_)
    · refine T_aload_n (pc2 := 36) dX8_rowFound_35 rfl rfl ?_
      refine T_iconst (pc2 := 37) dX8_rowFound_36 ic2 rfl ?_
      refine C_V1 (pc2 := 40) (mc := 0) (ms := 0) dX8_rowFound_37 cvX8_finding mlX8_71 (isO.h (sh48 S) _) (Nat.le_of_ble_eq_true rfl) rfl ?_
      refine m_finding S ?_
      refine T_iret dX8_rowFound_40 rfl rfl ?_
      refine kf ht (fun a b ea eb ha hb hab => ?_)
      subst ea
      exact absurd c16 (nI_pos ha)
    · obtain ⟨a, ha, ea⟩ := nI_nn c16
      subst ea
      refine T_iload_n (pc2 := 20) dX8_rowFound_19 rfl rfl ?_
      refine T_i2l (pc2 := 21) dX8_rowFound_20 rfl ?_
      refine T_iload_n (pc2 := 22) dX8_rowFound_21 rfl rfl ?_
      refine T_i2l (pc2 := 23) dX8_rowFound_22 rfl ?_
      refine T_ladd (pc2 := 24) dX8_rowFound_23 rfl ?_
      refine T_aload_n (pc2 := 25) dX8_rowFound_24 rfl rfl ?_
      refine G_getR (pc2 := 28) dX8_rowFound_25 flX8_13 (sh48 S) rfl rfl ?_
      refine T_iload_n (pc2 := 29) dX8_rowFound_28 rfl rfl ?_
      refine G_iald (pc2 := 30) dX8_rowFound_29 (sh50 S) (by omega) (by first | decide | omega) (by first | with_reducible assumption | exact gs_eq _ _ _ _ | exact (gs_ne _ _ (by omega)).trans (by with_reducible assumption) | exact (gs_ne _ _ (by omega)).trans (gs_eq _ _ _ _) | exact (gs_ne _ _ (by omega)).trans ((gs_ne _ _ (by omega)).trans (by with_reducible assumption)) | exact (gs_ne _ _ (by omega)).trans ((gs_ne _ _ (by omega)).trans (gs_eq _ _ _ _)) | exact (gs_ne _ _ (by omega)).trans ((gs_ne _ _ (by omega)).trans ((gs_ne _ _ (by omega)).trans (by with_reducible assumption))) | rfl) rfl ?_
      refine T_i2l (pc2 := 31) dX8_rowFound_30 rfl ?_
      rw [nI_l ha, nI_l (by omega), nI_l (by omega), lN_add]
      refine T_lcmp (pc2 := 32) dX8_rowFound_31 rfl ?_
      rw [lgc (by omega) (by omega)]
      by_cases hc : s.A.2.2.1 r < a + m
      · rw [if_pos hc]
        refine T_ifle (pc2 := 35) (tgt := 41) dX8_rowFound_32 (by decide) rfl (fun c32 => ?_) (fun c32 => ?_)
        · exact absurd c32 (by decide)
        · refine T_aload_n (pc2 := 36) dX8_rowFound_35 rfl rfl ?_
          refine T_iconst (pc2 := 37) dX8_rowFound_36 ic2 rfl ?_
          refine C_V1 (pc2 := 40) (mc := 0) (ms := 0) dX8_rowFound_37 cvX8_finding mlX8_71 (isO.h (sh48 S) _) (Nat.le_of_ble_eq_true rfl) rfl ?_
          refine m_finding S ?_
          refine T_iret dX8_rowFound_40 rfl rfl ?_
          refine kf ht (fun a2 b ea eb ha2 hb hab => ?_)
          have e1 : a = a2 := (nI_eq ha ha2).mp ea
          have e2 : m = b := (nI_eq (by omega) hb).mp eb
          omega
      · rw [if_neg hc]
        refine T_ifle (pc2 := 35) (tgt := 41) dX8_rowFound_32 (by decide) rfl (fun c32 => ?_) (fun c32 => ?_)
        · refine T_aload_n (pc2 := 42) dX8_rowFound_41 rfl rfl ?_
          refine T_iconst (pc2 := 43) dX8_rowFound_42 ic0 rfl ?_
          refine G_putI (pc2 := 46) dX8_rowFound_43 flX8_54 (sh48 S) rfl rfl rfl rfl ?_
          refine T_iconst (pc2 := 47) dX8_rowFound_46 ic0 rfl ?_
          refine T_iret dX8_rowFound_47 rfl rfl ?_
          exact kt a ht rfl (by omega)
        · exfalso
          apply c32
          split <;> decide
theorem so_it {V : Cel} {fr m p : Nat} {it : Nat → Int32} (S : Sh sk n bf im above below) (hV : hasM (g 54) V) (hok : okD V) (hp : p < V.J) (hm : m ≤ 12) (hfm : fr + m ≤ 320) (hit : ∀ t, t < m → g 51 (fr + t) = it t)
    (kt : ∀ g2, Fc g g2 → fitsB V (V.th 0) p it m = true → Q (some (.int (nI 1))) (HP sk g2 n)) (kf : ∀ g2, Fc g g2 → fitsB V (V.th 0) p it m = false → Q (some (.int (nI 0))) (HP sk g2 n)) :
    ∀ l t g2, t + l = m → Fc g g2 → fitsB V (V.th 0) p it t = true → T MX8_isSo (d + 3) kc ks 6 [(0, .ref 48), (1, .int (nI p)), (2, .int (nI fr)), (3, .int (nI m)), (4, .int (nI 1)), (5, .int (nI t))] [] (HP sk g2 n) Q := by
  have hJ8 := hok.1
  intro l
  induction l with
  | zero =>
    intro t g2 ht hf hb
    have e : t = m := by omega
    subst e
    refine T_iload (pc2 := 8) dX8_isSo_6 rfl rfl ?_
    refine T_iload_n (pc2 := 9) dX8_isSo_8 rfl rfl ?_
    first | refine N_icmpge (pc2 := 12) (tgt := 64) dX8_isSo_9 (by decide) (by with_reducible rfl) (by with_reducible rfl) (by omega) (by omega) rfl (fun c9 => ?_) (fun c9 => ?_) | refine T_icmpge (pc2 := 12) (tgt := 64) dX8_isSo_9 (by decide) rfl (fun c9 => ?_) (fun c9 => ?_)
    · refine T_iload (pc2 := 66) dX8_isSo_64 rfl rfl ?_
      refine T_iret dX8_isSo_66 rfl (by first | rfl | decide) ?_
      exact kt g2 hf hb
    · omega
  | succ l ih =>
    intro t g2 ht hf hb
    have hV2 : hasM (g2 54) V := by rw [hf.1 54 (by decide) (by decide) (by decide)]; exact hV
    refine T_iload (pc2 := 8) dX8_isSo_6 rfl rfl ?_
    refine T_iload_n (pc2 := 9) dX8_isSo_8 rfl rfl ?_
    first | refine N_icmpge (pc2 := 12) (tgt := 64) dX8_isSo_9 (by decide) (by with_reducible rfl) (by with_reducible rfl) (by omega) (by omega) rfl (fun c9 => ?_) (fun c9 => ?_) | refine T_icmpge (pc2 := 12) (tgt := 64) dX8_isSo_9 (by decide) rfl (fun c9 => ?_) (fun c9 => ?_)
    · omega
    · refine T_iload (pc2 := 14) dX8_isSo_12 rfl rfl ?_
      first | refine B_ifeq1 (pc2 := 17) (tgt := 64) dX8_isSo_14 (by with_reducible rfl) (by decide) rfl ?_ | refine B_ifeq0 (tgt := 64) dX8_isSo_14 (by with_reducible rfl) (by decide) ?_ | refine N_ifeq (pc2 := 17) (tgt := 64) dX8_isSo_14 (by with_reducible rfl) (by decide) (by omega) rfl (fun c14 => ?_) (fun c14 => ?_) | refine T_ifeq (pc2 := 17) (tgt := 64) dX8_isSo_14 (by decide) rfl (fun c14 => ?_) (fun c14 => ?_)
      refine T_aload_n (pc2 := 18) dX8_isSo_17 rfl rfl ?_
      refine T_aload_n (pc2 := 19) dX8_isSo_18 rfl rfl ?_
      refine G_getR (pc2 := 22) dX8_isSo_19 flX8_25 (sh48 S) rfl rfl ?_
      refine T_iload (pc2 := 24) dX8_isSo_22 rfl rfl ?_
      refine T_iload_n (pc2 := 25) dX8_isSo_24 rfl rfl ?_
      refine T_aload_n (pc2 := 26) dX8_isSo_25 rfl rfl ?_
      refine G_getR (pc2 := 29) dX8_isSo_26 flX8_25 (sh48 S) rfl rfl ?_
      refine T_iconst (pc2 := 30) dX8_isSo_29 ic0 rfl ?_
      refine C_S2 (pc2 := 33) (mc := 0) (ms := 0) dX8_isSo_30 csX8_those mlX8_175 (Nat.le_of_ble_eq_true rfl) rfl ?_
      refine m_those (sh54 S) hV2 hJ8 (by decide) (hw31d hok) ?_
      refine C_V4 (pc2 := 36) (mc := 0) (ms := 0) dX8_isSo_33 cvX8_chainOf mlX8_179 (isO.h (sh48 S) _) (Nat.le_of_ble_eq_true rfl) rfl ?_
      refine m_chain S (sh54 S) (by decide) hV2 hok (by omega) hp (fun g3 _ hf3 => ?_)
      refine C_S1 (pc2 := 39) (mc := 0) (ms := 0) dX8_isSo_36 csX8_bits mlX8_183 (Nat.le_of_ble_eq_true rfl) rfl ?_
      refine m_bits ?_
      have hf13 := hf.tr hf3
      have ei : g3 51 (fr + t) = it t := by rw [hf13.1 51 (by decide) (by decide) (by decide)]; exact hit t (by omega)
      have hst : fitsB V (V.th 0) p it (t + 1) = (fitsB V (V.th 0) p it t && decide (nI (ct (V.brk t p (V.th 0)) 8) = it t)) := rfl
      refine T_aload_n (pc2 := 40) dX8_isSo_39 rfl rfl ?_
      refine G_getR (pc2 := 43) dX8_isSo_40 flX8_16 (sh48 S) rfl rfl ?_
      refine T_iload_n (pc2 := 44) dX8_isSo_43 rfl rfl ?_
      refine T_iload (pc2 := 46) dX8_isSo_44 rfl rfl ?_
      first | refine N_iadd (pc2 := 47) dX8_isSo_46 (by with_reducible rfl) (by with_reducible rfl) rfl ?_ | refine T_iadd (pc2 := 47) dX8_isSo_46 rfl ?_
      refine G_iald (pc2 := 48) dX8_isSo_47 (sh51 S) (by omega) (by first | decide | omega) (by first | with_reducible assumption | exact gs_eq _ _ _ _ | exact (gs_ne _ _ (by omega)).trans (by with_reducible assumption) | exact (gs_ne _ _ (by omega)).trans (gs_eq _ _ _ _) | exact (gs_ne _ _ (by omega)).trans ((gs_ne _ _ (by omega)).trans (by with_reducible assumption)) | exact (gs_ne _ _ (by omega)).trans ((gs_ne _ _ (by omega)).trans (gs_eq _ _ _ _)) | exact (gs_ne _ _ (by omega)).trans ((gs_ne _ _ (by omega)).trans ((gs_ne _ _ (by omega)).trans (by with_reducible assumption))) | rfl) rfl ?_
      refine T_icmpne (pc2 := 51) (tgt := 55) dX8_isSo_48 (by decide) rfl (fun c48 => ?_) (fun c48 => ?_)
      · have hfl : fitsB V (V.th 0) p it (t + 1) = false := by rw [hst, decide_eq_false c48, Bool.and_false]
        refine T_iconst (pc2 := 56) dX8_isSo_55 ic0 rfl ?_
        refine T_istore (pc2 := 58) dX8_isSo_56 (by decide) rfl ?_
        first | refine N_iinc (pc2 := 61) dX8_isSo_58 rfl (by with_reducible rfl) ic1 (by decide) rfl ?_ | refine T_iinc (pc2 := 61) dX8_isSo_58 rfl rfl (by decide) rfl ?_
        refine T_goto (tgt := 6) dX8_isSo_61 (by decide) ?_
        have hend := fits_down hfl (m - (t + 1))
        rw [show t + 1 + (m - (t + 1)) = m by omega] at hend
        refine T_iload (pc2 := 8) dX8_isSo_6 rfl rfl ?_
        refine T_iload_n (pc2 := 9) dX8_isSo_8 rfl rfl ?_
        first | refine N_icmpge (pc2 := 12) (tgt := 64) dX8_isSo_9 (by decide) (by with_reducible rfl) (by with_reducible rfl) (by omega) (by omega) rfl (fun c9 => ?_) (fun c9 => ?_) | refine T_icmpge (pc2 := 12) (tgt := 64) dX8_isSo_9 (by decide) rfl (fun c9 => ?_) (fun c9 => ?_)
        · refine T_iload (pc2 := 66) dX8_isSo_64 rfl rfl ?_
          refine T_iret dX8_isSo_66 rfl (by first | rfl | decide) ?_
          exact kf g3 hf13 hend
        · refine T_iload (pc2 := 14) dX8_isSo_12 rfl rfl ?_
          first | refine B_ifeq1 (pc2 := 17) (tgt := 64) dX8_isSo_14 (by with_reducible rfl) (by decide) rfl ?_ | refine B_ifeq0 (tgt := 64) dX8_isSo_14 (by with_reducible rfl) (by decide) ?_ | refine N_ifeq (pc2 := 17) (tgt := 64) dX8_isSo_14 (by with_reducible rfl) (by decide) (by omega) rfl (fun c14 => ?_) (fun c14 => ?_) | refine T_ifeq (pc2 := 17) (tgt := 64) dX8_isSo_14 (by decide) rfl (fun c14 => ?_) (fun c14 => ?_)
          refine T_iload (pc2 := 66) dX8_isSo_64 rfl rfl ?_
          refine T_iret dX8_isSo_66 rfl (by first | rfl | decide) ?_
          exact kf g3 hf13 hend
      · refine T_iconst (pc2 := 52) dX8_isSo_51 ic1 rfl ?_
        refine T_goto (tgt := 56) dX8_isSo_52 (by decide) ?_
        refine T_istore (pc2 := 58) dX8_isSo_56 (by decide) rfl ?_
        first | refine N_iinc (pc2 := 61) dX8_isSo_58 rfl (by with_reducible rfl) ic1 (by decide) rfl ?_ | refine T_iinc (pc2 := 61) dX8_isSo_58 rfl rfl (by decide) rfl ?_
        refine T_goto (tgt := 6) dX8_isSo_61 (by decide) ?_
        refine T_sub (lks (i := 0) rfl (lks (i := 1) rfl (lks (i := 2) rfl (lks (i := 3) rfl (lks (i := 4) rfl (lks (i := 5) rfl lk0)))))) ?_
        refine ih (t + 1) g3 (by omega) hf13 ?_
        rw [hst, hb, decide_eq_true c48]
        rfl
theorem m_isSo {V : Cel} {fr m p : Nat} {it : Nat → Int32} (S : Sh sk n bf im above below) (hV : hasM (g 54) V) (hok : okD V) (hp : p < V.J) (hm : m ≤ 12) (hfm : fr + m ≤ 320) (hit : ∀ t, t < m → g 51 (fr + t) = it t)
    (kt : ∀ g2, Fc g g2 → fitsB V (V.th 0) p it m = true → Q (some (.int (nI 1))) (HP sk g2 n)) (kf : ∀ g2, Fc g g2 → fitsB V (V.th 0) p it m = false → Q (some (.int (nI 0))) (HP sk g2 n)) : Calls MX8_isSo (d + 3) 0 0 [.ref 48, .int (nI p), .int (nI fr), .int (nI m)] (HP sk g n) Q := by
  refine Calls.of (by decide +kernel) (Nat.le_of_ble_eq_true rfl) ?_
  refine T_iconst (pc2 := 1) dX8_isSo_0 ic1 rfl ?_
  refine T_istore (pc2 := 3) dX8_isSo_1 (by decide) rfl ?_
  refine T_iconst (pc2 := 4) dX8_isSo_3 ic0 rfl ?_
  refine T_istore (pc2 := 6) dX8_isSo_4 (by decide) rfl ?_
  refine T_sub (lks (i := 0) rfl (lks (i := 1) rfl (lks (i := 2) rfl (lks (i := 3) rfl (lks (i := 4) rfl (lks (i := 5) rfl lk0)))))) ?_
  exact so_it (g := g) S hV hok hp hm hfm hit kt kf m 0 g (by omega) Fc.rf rfl
theorem mreach_loop {V : Cel} {p r a m : Nat} {it : Nat → Int32} (S : Sh sk n bf im above below) (hV : hasM (g 52) V) (hok : okC V) (hp : p < V.J) (hr : r < 8) (hm : m ≤ 12) (ham : a + m ≤ 40) (hit : ∀ t, t < m → g 51 (40 * r + a + t) = it t)
    (k : ∀ g2, Ms g g2 → Q (some (.int (nI (bm (V.fitR p m it) 9)))) (HP sk g2 n)) :
    ∀ l t g2, t + l = 9 → Ms g g2 → T MX8_reaches (d + 4) kc ks 49 [(0, .ref 48), (1, .int (nI p)), (2, .int (nI r)), (3, .int (nI a)), (4, .int (nI m)), (6, .int (nI (bm (V.fitR p m it) t))), (7, .int (nI t))] [] (HP sk g2 n) Q := by
  have hJ8 := hok.1
  intro l
  induction l with
  | zero =>
    intro t g2 ht hf
    have e : t = 9 := by omega
    subst e
    refine T_iload (pc2 := 51) dX8_reaches_49 rfl rfl ?_
    refine T_bipush (pc2 := 53) dX8_reaches_51 bp8 rfl ?_
    first | refine N_icmpgt (pc2 := 56) (tgt := 103) dX8_reaches_53 (by decide) (by with_reducible rfl) (by with_reducible rfl) (by omega) (by omega) rfl (fun c53 => ?_) (fun c53 => ?_) | refine T_icmpgt (pc2 := 56) (tgt := 103) dX8_reaches_53 (by decide) rfl (fun c53 => ?_) (fun c53 => ?_)
    · refine T_iload (pc2 := 105) dX8_reaches_103 rfl rfl ?_
      refine T_iret dX8_reaches_105 rfl rfl ?_
      exact k g2 hf
    · exact absurd (by omega) c53
  | succ l ih =>
    intro t g2 ht hf
    have hV2 : hasM (g2 52) V := by rw [hf.1 52 (by decide) (by decide) (by decide) (by decide) (by decide)]; exact hV
    have hst : bm (V.fitR p m it) (t + 1) = bm (V.fitR p m it) t + (if V.fitR p m it t then 2 ^ t else 0) := rfl
    have ih2 := fun g3 => ih (t + 1) g3 (by omega)
    rw [hst] at ih2
    refine T_iload (pc2 := 51) dX8_reaches_49 rfl rfl ?_
    refine T_bipush (pc2 := 53) dX8_reaches_51 bp8 rfl ?_
    first | refine N_icmpgt (pc2 := 56) (tgt := 103) dX8_reaches_53 (by decide) (by with_reducible rfl) (by with_reducible rfl) (by omega) (by omega) rfl (fun c53 => ?_) (fun c53 => ?_) | refine T_icmpgt (pc2 := 56) (tgt := 103) dX8_reaches_53 (by decide) rfl (fun c53 => ?_) (fun c53 => ?_)
    · exact absurd c53 (by omega)
    · refine T_aload_n (pc2 := 57) dX8_reaches_56 rfl rfl ?_
      refine C_V0 (pc2 := 60) (mc := 0) (ms := 0) dX8_reaches_57 cvX8_layThen mlX8_233 (isO.h (sh48 S) _) (Nat.le_of_ble_eq_true rfl) rfl ?_
      refine m_lay S hV2 hJ8 (fun g3 hM3 hf3 => ?_)
      refine T_aload_n (pc2 := 61) dX8_reaches_60 rfl rfl ?_
      refine G_getR (pc2 := 64) dX8_reaches_61 flX8_25 (sh48 S) rfl rfl ?_
      refine T_iconst (pc2 := 65) dX8_reaches_64 ic2 rfl ?_
      refine T_iload (pc2 := 67) dX8_reaches_65 rfl rfl ?_
      refine G_iast (pc2 := 68) dX8_reaches_67 (sh54 S) (by omega) (by decide) rfl ?_
      refine T_iload (pc2 := 70) dX8_reaches_68 rfl rfl ?_
      refine T_aload_n (pc2 := 71) dX8_reaches_70 rfl rfl ?_
      refine T_iload_n (pc2 := 72) dX8_reaches_71 rfl rfl ?_
      refine T_bipush (pc2 := 74) dX8_reaches_72 bp40 rfl ?_
      refine T_iload_n (pc2 := 75) dX8_reaches_74 rfl rfl ?_
      first | refine N_imul (pc2 := 76) dX8_reaches_75 (by with_reducible rfl) (by with_reducible rfl) rfl ?_ | refine T_imul (pc2 := 76) dX8_reaches_75 rfl ?_
      refine T_iload_n (pc2 := 77) dX8_reaches_76 rfl rfl ?_
      first | refine N_iadd (pc2 := 78) dX8_reaches_77 (by with_reducible rfl) (by with_reducible rfl) rfl ?_ | refine T_iadd (pc2 := 78) dX8_reaches_77 rfl ?_
      refine T_iload (pc2 := 80) dX8_reaches_78 rfl rfl ?_
      refine C_V3 (pc2 := 83) (mc := 0) (ms := 0) dX8_reaches_80 cvX8_isSo mlX8_248 (isO.h (sh48 S) _) (Nat.le_of_ble_eq_true rfl) rfl ?_
      have hm4 : Ms g2 (gset g3 54 2 (nI t)) := (hf3.ms (by omega)).st (by omega)
      have hm14 := hf.tr hm4
      refine m_isSo (it := it) S hM3.setR (hok.setR (show t ≤ 8 by omega)).d hp hm (by omega) (fun q hq => by rw [hm14.1 51 (by decide) (by decide) (by decide) (by decide) (by decide)]; exact hit q hq) (fun g5 hf5 hb => ?_) (fun g5 hf5 hb => ?_)
      · have hb : V.fitR p m it t = true := hb
        rw [hb, if_pos rfl] at ih2
        first | refine B_ifeq1 (pc2 := 86) (tgt := 93) dX8_reaches_83 (by with_reducible rfl) (by decide) rfl ?_ | refine B_ifeq0 (tgt := 93) dX8_reaches_83 (by with_reducible rfl) (by decide) ?_ | refine N_ifeq (pc2 := 86) (tgt := 93) dX8_reaches_83 (by with_reducible rfl) (by decide) (by omega) rfl (fun c83 => ?_) (fun c83 => ?_) | refine T_ifeq (pc2 := 86) (tgt := 93) dX8_reaches_83 (by decide) rfl (fun c83 => ?_) (fun c83 => ?_)
        refine T_iconst (pc2 := 87) dX8_reaches_86 ic1 rfl ?_
        refine T_iload (pc2 := 89) dX8_reaches_87 rfl rfl ?_
        refine T_ishl (pc2 := 90) dX8_reaches_89 rfl ?_
        refine T_goto (tgt := 94) dX8_reaches_90 (by decide) ?_
        refine T_ior (pc2 := 95) dX8_reaches_94 rfl ?_
        rw [bm_add (by omega)]
        refine T_istore (pc2 := 97) dX8_reaches_95 (by decide) rfl ?_
        first | refine N_iinc (pc2 := 100) dX8_reaches_97 rfl (by with_reducible rfl) ic1 (by decide) rfl ?_ | refine T_iinc (pc2 := 100) dX8_reaches_97 rfl rfl (by decide) rfl ?_
        refine T_goto (tgt := 49) dX8_reaches_100 (by decide) ?_
        refine T_sub (lks (i := 0) rfl (lks (i := 1) rfl (lks (i := 2) rfl (lks (i := 3) rfl (lks (i := 4) rfl (lks (i := 6) rfl (lks (i := 7) rfl lk0))))))) ?_
        exact ih2 g5 (hm14.tr hf5.ms)
      · have hb : V.fitR p m it t = false := hb
        rw [hb, if_neg (by decide), Nat.add_zero] at ih2
        first | refine B_ifeq1 (pc2 := 86) (tgt := 93) dX8_reaches_83 (by with_reducible rfl) (by decide) rfl ?_ | refine B_ifeq0 (tgt := 93) dX8_reaches_83 (by with_reducible rfl) (by decide) ?_ | refine N_ifeq (pc2 := 86) (tgt := 93) dX8_reaches_83 (by with_reducible rfl) (by decide) (by omega) rfl (fun c83 => ?_) (fun c83 => ?_) | refine T_ifeq (pc2 := 86) (tgt := 93) dX8_reaches_83 (by decide) rfl (fun c83 => ?_) (fun c83 => ?_)
        refine T_iconst (pc2 := 94) dX8_reaches_93 ic0 rfl ?_
        refine T_ior (pc2 := 95) dX8_reaches_94 rfl ?_
        rw [nI_or, Nat.or_zero]
        refine T_istore (pc2 := 97) dX8_reaches_95 (by decide) rfl ?_
        first | refine N_iinc (pc2 := 100) dX8_reaches_97 rfl (by with_reducible rfl) ic1 (by decide) rfl ?_ | refine T_iinc (pc2 := 100) dX8_reaches_97 rfl rfl (by decide) rfl ?_
        refine T_goto (tgt := 49) dX8_reaches_100 (by decide) ?_
        refine T_sub (lks (i := 0) rfl (lks (i := 1) rfl (lks (i := 2) rfl (lks (i := 3) rfl (lks (i := 4) rfl (lks (i := 6) rfl (lks (i := 7) rfl lk0))))))) ?_
        exact ih2 g5 (hm14.tr hf5.ms)
theorem whoK_loop {V : Cel} {j p r a m : Nat} {it : Nat → Int32} (S : Sh sk n bf im above below) (hV : hasM (g 52) V) (hok : okC V) (hj : j < V.J) (hp : p < V.J) (hr : r < 8) (hm : m ≤ 12) (ham : a + m ≤ 40) (hit : ∀ t, t < m → g 51 (40 * r + a + t) = it t)
    (k : ∀ g2, Ms g g2 → Q (some (.int (nI (bm (V.fitK j p m it) 6)))) (HP sk g2 n)) :
    ∀ l t g2, 1 ≤ t → t + l = 6 → Ms g g2 → T MX8_who (d + 4) kc ks 78 [(0, .ref 48), (1, .int (nI j)), (2, .int (nI 0)), (3, .int (nI p)), (4, .int (nI r)), (5, .int (nI a)), (6, .int (nI m)), (8, .int (nI (bm (V.fitK j p m it) t))), (9, .int (nI t))] [] (HP sk g2 n) Q := by
  have hJ8 := hok.1
  intro l
  induction l with
  | zero =>
    intro t g2 hlo ht hf
    have e : t = 6 := by omega
    subst e
    refine T_iload (pc2 := 80) dX8_who_78 rfl rfl ?_
    refine T_iload_n (pc2 := 81) dX8_who_80 rfl rfl ?_
    first | refine B_ifne1 (tgt := 88) dX8_who_81 (by with_reducible rfl) (by decide) ?_ | refine B_ifne0 (pc2 := 84) (tgt := 88) dX8_who_81 (by with_reducible rfl) (by decide) rfl ?_ | refine N_ifne (pc2 := 84) (tgt := 88) dX8_who_81 (by with_reducible rfl) (by decide) (by omega) rfl (fun c81 => ?_) (fun c81 => ?_) | refine T_ifne (pc2 := 84) (tgt := 88) dX8_who_81 (by decide) rfl (fun c81 => ?_) (fun c81 => ?_)
    refine T_iconst (pc2 := 85) dX8_who_84 ic5 rfl ?_
    refine T_goto (tgt := 90) dX8_who_85 (by decide) ?_
    first | refine N_icmpgt (pc2 := 93) (tgt := 153) dX8_who_90 (by decide) (by with_reducible rfl) (by with_reducible rfl) (by omega) (by omega) rfl (fun c90 => ?_) (fun c90 => ?_) | refine T_icmpgt (pc2 := 93) (tgt := 153) dX8_who_90 (by decide) rfl (fun c90 => ?_) (fun c90 => ?_)
    · refine T_iload (pc2 := 155) dX8_who_153 rfl rfl ?_
      refine T_iret dX8_who_155 rfl rfl ?_
      exact k g2 hf
    · exact absurd (by omega) c90
  | succ l ih =>
    intro t g2 hlo ht hf
    have hV2 : hasM (g2 52) V := by rw [hf.1 52 (by decide) (by decide) (by decide) (by decide) (by decide)]; exact hV
    have hst : bm (V.fitK j p m it) (t + 1) = bm (V.fitK j p m it) t + (if V.fitK j p m it t then 2 ^ t else 0) := rfl
    have ih2 := fun g3 => ih (t + 1) g3 (by omega) (by omega)
    rw [hst] at ih2
    refine T_iload (pc2 := 80) dX8_who_78 rfl rfl ?_
    refine T_iload_n (pc2 := 81) dX8_who_80 rfl rfl ?_
    first | refine B_ifne1 (tgt := 88) dX8_who_81 (by with_reducible rfl) (by decide) ?_ | refine B_ifne0 (pc2 := 84) (tgt := 88) dX8_who_81 (by with_reducible rfl) (by decide) rfl ?_ | refine N_ifne (pc2 := 84) (tgt := 88) dX8_who_81 (by with_reducible rfl) (by decide) (by omega) rfl (fun c81 => ?_) (fun c81 => ?_) | refine T_ifne (pc2 := 84) (tgt := 88) dX8_who_81 (by decide) rfl (fun c81 => ?_) (fun c81 => ?_)
    refine T_iconst (pc2 := 85) dX8_who_84 ic5 rfl ?_
    refine T_goto (tgt := 90) dX8_who_85 (by decide) ?_
    first | refine N_icmpgt (pc2 := 93) (tgt := 153) dX8_who_90 (by decide) (by with_reducible rfl) (by with_reducible rfl) (by omega) (by omega) rfl (fun c90 => ?_) (fun c90 => ?_) | refine T_icmpgt (pc2 := 93) (tgt := 153) dX8_who_90 (by decide) rfl (fun c90 => ?_) (fun c90 => ?_)
    · exact absurd c90 (by omega)
    · refine T_aload_n (pc2 := 94) dX8_who_93 rfl rfl ?_
      refine C_V0 (pc2 := 97) (mc := 0) (ms := 0) dX8_who_94 cvX8_layThen mlX8_233 (isO.h (sh48 S) _) (Nat.le_of_ble_eq_true rfl) rfl ?_
      refine m_lay S hV2 hJ8 (fun g3 hM3 hf3 => ?_)
      refine T_aload_n (pc2 := 98) dX8_who_97 rfl rfl ?_
      refine G_getR (pc2 := 101) dX8_who_98 flX8_25 (sh48 S) rfl rfl ?_
      refine T_iload_n (pc2 := 102) dX8_who_101 rfl rfl ?_
      refine T_iload_n (pc2 := 103) dX8_who_102 rfl rfl ?_
      first | refine B_ifne1 (tgt := 110) dX8_who_103 (by with_reducible rfl) (by decide) ?_ | refine B_ifne0 (pc2 := 106) (tgt := 110) dX8_who_103 (by with_reducible rfl) (by decide) rfl ?_ | refine N_ifne (pc2 := 106) (tgt := 110) dX8_who_103 (by with_reducible rfl) (by decide) (by omega) rfl (fun c103 => ?_) (fun c103 => ?_) | refine T_ifne (pc2 := 106) (tgt := 110) dX8_who_103 (by decide) rfl (fun c103 => ?_) (fun c103 => ?_)
      refine T_iconst (pc2 := 107) dX8_who_106 ic0 rfl ?_
      refine T_goto (tgt := 111) dX8_who_107 (by decide) ?_
      refine T_iload (pc2 := 113) dX8_who_111 rfl rfl ?_
      refine C_S4 (pc2 := 116) (mc := 0) (ms := 0) dX8_who_113 csX8_be mlX8_192 (Nat.le_of_ble_eq_true rfl) rfl ?_
      refine m_be (sh54 S) (by omega) ?_
      have hm4 : Ms g2 (gset g3 54 (3 + 5 * j + 0) (nI t)) := (hf3.ms (by omega)).st (by omega)
      have hm14 := hf.tr hm4
      have hM4 := hM3.setkd (j := j) (v := t)
      refine T_iload (pc2 := 118) dX8_who_116 rfl rfl ?_
      refine T_aload_n (pc2 := 119) dX8_who_118 rfl rfl ?_
      refine T_iload_n (pc2 := 120) dX8_who_119 rfl rfl ?_
      refine T_bipush (pc2 := 122) dX8_who_120 bp40 rfl ?_
      refine T_iload (pc2 := 124) dX8_who_122 rfl rfl ?_
      first | refine N_imul (pc2 := 125) dX8_who_124 (by with_reducible rfl) (by with_reducible rfl) rfl ?_ | refine T_imul (pc2 := 125) dX8_who_124 rfl ?_
      refine T_iload (pc2 := 127) dX8_who_125 rfl rfl ?_
      first | refine N_iadd (pc2 := 128) dX8_who_127 (by with_reducible rfl) (by with_reducible rfl) rfl ?_ | refine T_iadd (pc2 := 128) dX8_who_127 rfl ?_
      refine T_iload (pc2 := 130) dX8_who_128 rfl rfl ?_
      refine C_V3 (pc2 := 133) (mc := 0) (ms := 0) dX8_who_130 cvX8_isSo mlX8_248 (isO.h (sh48 S) _) (Nat.le_of_ble_eq_true rfl) rfl ?_
      refine m_isSo (it := it) S hM4 (hok.setkd (by omega) (by omega)).d hp hm (by omega) (fun q hq => by rw [hm14.1 51 (by decide) (by decide) (by decide) (by decide) (by decide)]; exact hit q hq) (fun g5 hf5 hb => ?_) (fun g5 hf5 hb => ?_)
      · have hb : V.fitK j p m it t = true := (by unfold Cel.fitK; rw [decide_eq_true hlo]; exact hb)
        rw [hb, if_pos rfl] at ih2
        first | refine B_ifeq1 (pc2 := 136) (tgt := 143) dX8_who_133 (by with_reducible rfl) (by decide) rfl ?_ | refine B_ifeq0 (tgt := 143) dX8_who_133 (by with_reducible rfl) (by decide) ?_ | refine N_ifeq (pc2 := 136) (tgt := 143) dX8_who_133 (by with_reducible rfl) (by decide) (by omega) rfl (fun c133 => ?_) (fun c133 => ?_) | refine T_ifeq (pc2 := 136) (tgt := 143) dX8_who_133 (by decide) rfl (fun c133 => ?_) (fun c133 => ?_)
        refine T_iconst (pc2 := 137) dX8_who_136 ic1 rfl ?_
        refine T_iload (pc2 := 139) dX8_who_137 rfl rfl ?_
        refine T_ishl (pc2 := 140) dX8_who_139 rfl ?_
        refine T_goto (tgt := 144) dX8_who_140 (by decide) ?_
        refine T_ior (pc2 := 145) dX8_who_144 rfl ?_
        rw [bm_add (by omega)]
        refine T_istore (pc2 := 147) dX8_who_145 (by decide) rfl ?_
        first | refine N_iinc (pc2 := 150) dX8_who_147 rfl (by with_reducible rfl) ic1 (by decide) rfl ?_ | refine T_iinc (pc2 := 150) dX8_who_147 rfl rfl (by decide) rfl ?_
        refine T_goto (tgt := 78) dX8_who_150 (by decide) ?_
        refine T_sub (lks (i := 0) rfl (lks (i := 1) rfl (lks (i := 2) rfl (lks (i := 3) rfl (lks (i := 4) rfl (lks (i := 5) rfl (lks (i := 6) rfl (lks (i := 8) rfl (lks (i := 9) rfl lk0))))))))) ?_
        exact ih2 g5 (hm14.tr hf5.ms)
      · have hb : V.fitK j p m it t = false := (by unfold Cel.fitK; rw [decide_eq_true hlo]; exact hb)
        rw [hb, if_neg (by decide), Nat.add_zero] at ih2
        first | refine B_ifeq1 (pc2 := 136) (tgt := 143) dX8_who_133 (by with_reducible rfl) (by decide) rfl ?_ | refine B_ifeq0 (tgt := 143) dX8_who_133 (by with_reducible rfl) (by decide) ?_ | refine N_ifeq (pc2 := 136) (tgt := 143) dX8_who_133 (by with_reducible rfl) (by decide) (by omega) rfl (fun c133 => ?_) (fun c133 => ?_) | refine T_ifeq (pc2 := 136) (tgt := 143) dX8_who_133 (by decide) rfl (fun c133 => ?_) (fun c133 => ?_)
        refine T_iconst (pc2 := 144) dX8_who_143 ic0 rfl ?_
        refine T_ior (pc2 := 145) dX8_who_144 rfl ?_
        rw [nI_or, Nat.or_zero]
        refine T_istore (pc2 := 147) dX8_who_145 (by decide) rfl ?_
        first | refine N_iinc (pc2 := 150) dX8_who_147 rfl (by with_reducible rfl) ic1 (by decide) rfl ?_ | refine T_iinc (pc2 := 150) dX8_who_147 rfl rfl (by decide) rfl ?_
        refine T_goto (tgt := 78) dX8_who_150 (by decide) ?_
        refine T_sub (lks (i := 0) rfl (lks (i := 1) rfl (lks (i := 2) rfl (lks (i := 3) rfl (lks (i := 4) rfl (lks (i := 5) rfl (lks (i := 6) rfl (lks (i := 8) rfl (lks (i := 9) rfl lk0))))))))) ?_
        exact ih2 g5 (hm14.tr hf5.ms)
theorem whoN_loop {V : Cel} {j p r a m : Nat} {it : Nat → Int32} (S : Sh sk n bf im above below) (hV : hasM (g 52) V) (hok : okC V) (hj : j < V.J) (hp : p < V.J) (hr : r < 8) (hm : m ≤ 12) (ham : a + m ≤ 40) (hit : ∀ t, t < m → g 51 (40 * r + a + t) = it t)
    (k : ∀ g2, Ms g g2 → Q (some (.int (nI (bm (V.fitN j p m it) 12)))) (HP sk g2 n)) :
    ∀ l t g2, 0 ≤ t → t + l = 12 → Ms g g2 → T MX8_who (d + 4) kc ks 78 [(0, .ref 48), (1, .int (nI j)), (2, .int (nI 1)), (3, .int (nI p)), (4, .int (nI r)), (5, .int (nI a)), (6, .int (nI m)), (8, .int (nI (bm (V.fitN j p m it) t))), (9, .int (nI t))] [] (HP sk g2 n) Q := by
  have hJ8 := hok.1
  intro l
  induction l with
  | zero =>
    intro t g2 hlo ht hf
    have e : t = 12 := by omega
    subst e
    refine T_iload (pc2 := 80) dX8_who_78 rfl rfl ?_
    refine T_iload_n (pc2 := 81) dX8_who_80 rfl rfl ?_
    first | refine B_ifne1 (tgt := 88) dX8_who_81 (by with_reducible rfl) (by decide) ?_ | refine B_ifne0 (pc2 := 84) (tgt := 88) dX8_who_81 (by with_reducible rfl) (by decide) rfl ?_ | refine N_ifne (pc2 := 84) (tgt := 88) dX8_who_81 (by with_reducible rfl) (by decide) (by omega) rfl (fun c81 => ?_) (fun c81 => ?_) | refine T_ifne (pc2 := 84) (tgt := 88) dX8_who_81 (by decide) rfl (fun c81 => ?_) (fun c81 => ?_)
    refine T_bipush (pc2 := 90) dX8_who_88 bp11 rfl ?_
    first | refine N_icmpgt (pc2 := 93) (tgt := 153) dX8_who_90 (by decide) (by with_reducible rfl) (by with_reducible rfl) (by omega) (by omega) rfl (fun c90 => ?_) (fun c90 => ?_) | refine T_icmpgt (pc2 := 93) (tgt := 153) dX8_who_90 (by decide) rfl (fun c90 => ?_) (fun c90 => ?_)
    · refine T_iload (pc2 := 155) dX8_who_153 rfl rfl ?_
      refine T_iret dX8_who_155 rfl rfl ?_
      exact k g2 hf
    · exact absurd (by omega) c90
  | succ l ih =>
    intro t g2 hlo ht hf
    have hV2 : hasM (g2 52) V := by rw [hf.1 52 (by decide) (by decide) (by decide) (by decide) (by decide)]; exact hV
    have hst : bm (V.fitN j p m it) (t + 1) = bm (V.fitN j p m it) t + (if V.fitN j p m it t then 2 ^ t else 0) := rfl
    have ih2 := fun g3 => ih (t + 1) g3 (by omega) (by omega)
    rw [hst] at ih2
    refine T_iload (pc2 := 80) dX8_who_78 rfl rfl ?_
    refine T_iload_n (pc2 := 81) dX8_who_80 rfl rfl ?_
    first | refine B_ifne1 (tgt := 88) dX8_who_81 (by with_reducible rfl) (by decide) ?_ | refine B_ifne0 (pc2 := 84) (tgt := 88) dX8_who_81 (by with_reducible rfl) (by decide) rfl ?_ | refine N_ifne (pc2 := 84) (tgt := 88) dX8_who_81 (by with_reducible rfl) (by decide) (by omega) rfl (fun c81 => ?_) (fun c81 => ?_) | refine T_ifne (pc2 := 84) (tgt := 88) dX8_who_81 (by decide) rfl (fun c81 => ?_) (fun c81 => ?_)
    refine T_bipush (pc2 := 90) dX8_who_88 bp11 rfl ?_
    first | refine N_icmpgt (pc2 := 93) (tgt := 153) dX8_who_90 (by decide) (by with_reducible rfl) (by with_reducible rfl) (by omega) (by omega) rfl (fun c90 => ?_) (fun c90 => ?_) | refine T_icmpgt (pc2 := 93) (tgt := 153) dX8_who_90 (by decide) rfl (fun c90 => ?_) (fun c90 => ?_)
    · exact absurd c90 (by omega)
    · refine T_aload_n (pc2 := 94) dX8_who_93 rfl rfl ?_
      refine C_V0 (pc2 := 97) (mc := 0) (ms := 0) dX8_who_94 cvX8_layThen mlX8_233 (isO.h (sh48 S) _) (Nat.le_of_ble_eq_true rfl) rfl ?_
      refine m_lay S hV2 hJ8 (fun g3 hM3 hf3 => ?_)
      refine T_aload_n (pc2 := 98) dX8_who_97 rfl rfl ?_
      refine G_getR (pc2 := 101) dX8_who_98 flX8_25 (sh48 S) rfl rfl ?_
      refine T_iload_n (pc2 := 102) dX8_who_101 rfl rfl ?_
      refine T_iload_n (pc2 := 103) dX8_who_102 rfl rfl ?_
      first | refine B_ifne1 (tgt := 110) dX8_who_103 (by with_reducible rfl) (by decide) ?_ | refine B_ifne0 (pc2 := 106) (tgt := 110) dX8_who_103 (by with_reducible rfl) (by decide) rfl ?_ | refine N_ifne (pc2 := 106) (tgt := 110) dX8_who_103 (by with_reducible rfl) (by decide) (by omega) rfl (fun c103 => ?_) (fun c103 => ?_) | refine T_ifne (pc2 := 106) (tgt := 110) dX8_who_103 (by decide) rfl (fun c103 => ?_) (fun c103 => ?_)
      refine T_iconst (pc2 := 111) dX8_who_110 ic1 rfl ?_
      refine T_iload (pc2 := 113) dX8_who_111 rfl rfl ?_
      refine C_S4 (pc2 := 116) (mc := 0) (ms := 0) dX8_who_113 csX8_be mlX8_192 (Nat.le_of_ble_eq_true rfl) rfl ?_
      refine m_be (sh54 S) (by omega) ?_
      have hm4 : Ms g2 (gset g3 54 (3 + 5 * j + 1) (nI t)) := (hf3.ms (by omega)).st (by omega)
      have hm14 := hf.tr hm4
      have hM4 := hM3.setnt (j := j) (v := t)
      refine T_iload (pc2 := 118) dX8_who_116 rfl rfl ?_
      refine T_aload_n (pc2 := 119) dX8_who_118 rfl rfl ?_
      refine T_iload_n (pc2 := 120) dX8_who_119 rfl rfl ?_
      refine T_bipush (pc2 := 122) dX8_who_120 bp40 rfl ?_
      refine T_iload (pc2 := 124) dX8_who_122 rfl rfl ?_
      first | refine N_imul (pc2 := 125) dX8_who_124 (by with_reducible rfl) (by with_reducible rfl) rfl ?_ | refine T_imul (pc2 := 125) dX8_who_124 rfl ?_
      refine T_iload (pc2 := 127) dX8_who_125 rfl rfl ?_
      first | refine N_iadd (pc2 := 128) dX8_who_127 (by with_reducible rfl) (by with_reducible rfl) rfl ?_ | refine T_iadd (pc2 := 128) dX8_who_127 rfl ?_
      refine T_iload (pc2 := 130) dX8_who_128 rfl rfl ?_
      refine C_V3 (pc2 := 133) (mc := 0) (ms := 0) dX8_who_130 cvX8_isSo mlX8_248 (isO.h (sh48 S) _) (Nat.le_of_ble_eq_true rfl) rfl ?_
      refine m_isSo (it := it) S hM4 (hok.setnt (by omega)).d hp hm (by omega) (fun q hq => by rw [hm14.1 51 (by decide) (by decide) (by decide) (by decide) (by decide)]; exact hit q hq) (fun g5 hf5 hb => ?_) (fun g5 hf5 hb => ?_)
      · have hb : V.fitN j p m it t = true := hb
        rw [hb, if_pos rfl] at ih2
        first | refine B_ifeq1 (pc2 := 136) (tgt := 143) dX8_who_133 (by with_reducible rfl) (by decide) rfl ?_ | refine B_ifeq0 (tgt := 143) dX8_who_133 (by with_reducible rfl) (by decide) ?_ | refine N_ifeq (pc2 := 136) (tgt := 143) dX8_who_133 (by with_reducible rfl) (by decide) (by omega) rfl (fun c133 => ?_) (fun c133 => ?_) | refine T_ifeq (pc2 := 136) (tgt := 143) dX8_who_133 (by decide) rfl (fun c133 => ?_) (fun c133 => ?_)
        refine T_iconst (pc2 := 137) dX8_who_136 ic1 rfl ?_
        refine T_iload (pc2 := 139) dX8_who_137 rfl rfl ?_
        refine T_ishl (pc2 := 140) dX8_who_139 rfl ?_
        refine T_goto (tgt := 144) dX8_who_140 (by decide) ?_
        refine T_ior (pc2 := 145) dX8_who_144 rfl ?_
        rw [bm_add (by omega)]
        refine T_istore (pc2 := 147) dX8_who_145 (by decide) rfl ?_
        first | refine N_iinc (pc2 := 150) dX8_who_147 rfl (by with_reducible rfl) ic1 (by decide) rfl ?_ | refine T_iinc (pc2 := 150) dX8_who_147 rfl rfl (by decide) rfl ?_
        refine T_goto (tgt := 78) dX8_who_150 (by decide) ?_
        refine T_sub (lks (i := 0) rfl (lks (i := 1) rfl (lks (i := 2) rfl (lks (i := 3) rfl (lks (i := 4) rfl (lks (i := 5) rfl (lks (i := 6) rfl (lks (i := 8) rfl (lks (i := 9) rfl lk0))))))))) ?_
        exact ih2 g5 (hm14.tr hf5.ms)
      · have hb : V.fitN j p m it t = false := hb
        rw [hb, if_neg (by decide), Nat.add_zero] at ih2
        first | refine B_ifeq1 (pc2 := 136) (tgt := 143) dX8_who_133 (by with_reducible rfl) (by decide) rfl ?_ | refine B_ifeq0 (tgt := 143) dX8_who_133 (by with_reducible rfl) (by decide) ?_ | refine N_ifeq (pc2 := 136) (tgt := 143) dX8_who_133 (by with_reducible rfl) (by decide) (by omega) rfl (fun c133 => ?_) (fun c133 => ?_) | refine T_ifeq (pc2 := 136) (tgt := 143) dX8_who_133 (by decide) rfl (fun c133 => ?_) (fun c133 => ?_)
        refine T_iconst (pc2 := 144) dX8_who_143 ic0 rfl ?_
        refine T_ior (pc2 := 145) dX8_who_144 rfl ?_
        rw [nI_or, Nat.or_zero]
        refine T_istore (pc2 := 147) dX8_who_145 (by decide) rfl ?_
        first | refine N_iinc (pc2 := 150) dX8_who_147 rfl (by with_reducible rfl) ic1 (by decide) rfl ?_ | refine T_iinc (pc2 := 150) dX8_who_147 rfl rfl (by decide) rfl ?_
        refine T_goto (tgt := 78) dX8_who_150 (by decide) ?_
        refine T_sub (lks (i := 0) rfl (lks (i := 1) rfl (lks (i := 2) rfl (lks (i := 3) rfl (lks (i := 4) rfl (lks (i := 5) rfl (lks (i := 6) rfl (lks (i := 8) rfl (lks (i := 9) rfl lk0))))))))) ?_
        exact ih2 g5 (hm14.tr hf5.ms)
theorem mm_reaches {p r i m : Int32} (S : Sh sk n bf im above below) (hI : InvM g s) (hok : Ok s) (k : ∀ g2, InvM g2 (sReaches s p r i m).2 → Fr 48 62 g g2 → Q (some (.int (sReaches s p r i m).1)) (HP sk g2 n)) : Calls MX8_reaches (d + 4) 0 0 [.ref 48, .int p, .int r, .int i, .int m] (HP sk g n) Q := by
  have hokV := hok.2.2.1.1
  have hJ8 := hokV.1
  refine Calls.of (by decide +kernel) (Nat.le_of_ble_eq_true rfl) ?_
  refine T_aload_n (pc2 := 1) dX8_reaches_0 rfl rfl ?_
  refine T_iconst (pc2 := 2) dX8_reaches_1 ic0 rfl ?_
  refine G_putI (pc2 := 5) dX8_reaches_2 flX8_50 (sh48 S) rfl rfl rfl rfl ?_
  have hI := hI.ms (Ms.rf.st (i := 48) (k := 0) (v := nI 0) (by omega))
  have k := fm_start k
  generalize gset g 48 0 (nI 0) = g1 at hI k ⊢
  have hV := hI.2.2.1
  refine T_aload_n (pc2 := 6) dX8_reaches_5 rfl rfl ?_
  refine T_iload_n (pc2 := 7) dX8_reaches_6 rfl rfl ?_
  refine C_V1 (pc2 := 10) (mc := 0) (ms := 0) dX8_reaches_7 cvX8_isJar mlX8_213 (isO.h (sh48 S) _) (Nat.le_of_ble_eq_true rfl) rfl ?_
  refine m_isJar S hV.1 hJ8 (fun a ha ea => ?_) (fun hno => ?_)
  · subst ea
    first | refine B_ifeq1 (pc2 := 13) (tgt := 22) dX8_reaches_10 (by with_reducible rfl) (by decide) rfl ?_ | refine B_ifeq0 (tgt := 22) dX8_reaches_10 (by with_reducible rfl) (by decide) ?_ | refine N_ifeq (pc2 := 13) (tgt := 22) dX8_reaches_10 (by with_reducible rfl) (by decide) (by omega) rfl (fun c10 => ?_) (fun c10 => ?_) | refine T_ifeq (pc2 := 13) (tgt := 22) dX8_reaches_10 (by decide) rfl (fun c10 => ?_) (fun c10 => ?_)
    refine T_iload_n (pc2 := 14) dX8_reaches_13 rfl rfl ?_
    refine T_iload (pc2 := 16) dX8_reaches_14 rfl rfl ?_
    refine C_S2 (pc2 := 19) (mc := 0) (ms := 0) dX8_reaches_16 csX8_isMany mlX8_241 (Nat.le_of_ble_eq_true rfl) rfl ?_
    refine m_isMany (fun b mm hb eb hmm em => ?_) (fun hno => ?_)
    · subst eb
      subst em
      have hs : sReaches s (nI a) (nI b) i (nI (mm + 1)) = rowF s b i (mm + 1) (fun x => (nI (bm (s.V.fitR a (mm + 1) (fun t => s.A.2.2.2 b (x + t))) 9), s.setfd 0)) := by
        unfold sReaches
        rw [inN_some ha (by omega), inN_some hb (by decide), inP_some hmm (by decide)]
      first | refine B_ifne1 (tgt := 25) dX8_reaches_19 (by with_reducible rfl) (by decide) ?_ | refine B_ifne0 (pc2 := 22) (tgt := 25) dX8_reaches_19 (by with_reducible rfl) (by decide) rfl ?_ | refine N_ifne (pc2 := 22) (tgt := 25) dX8_reaches_19 (by with_reducible rfl) (by decide) (by omega) rfl (fun c19 => ?_) (fun c19 => ?_) | refine T_ifne (pc2 := 22) (tgt := 25) dX8_reaches_19 (by decide) rfl (fun c19 => ?_) (fun c19 => ?_)
      refine T_aload_n (pc2 := 26) dX8_reaches_25 rfl rfl ?_
      refine T_iload_n (pc2 := 27) dX8_reaches_26 rfl rfl ?_
      refine T_iload_n (pc2 := 28) dX8_reaches_27 rfl rfl ?_
      refine T_iload (pc2 := 30) dX8_reaches_28 rfl rfl ?_
      refine C_V3 (pc2 := 33) (mc := 0) (ms := 0) dX8_reaches_30 cvX8_rowFound mlX8_244 (isO.h (sh48 S) _) (Nat.le_of_ble_eq_true rfl) rfl ?_
      refine m_rowFound S hI.1 hok.1 hb (by omega) (fun h0 => ?_) (fun x ht ex hxy => ?_) (fun ht hno => ?_)
      · refine T_istore (pc2 := 35) dX8_reaches_33 (by decide) rfl ?_
        refine T_iload (pc2 := 37) dX8_reaches_35 rfl rfl ?_
        refine T_ifeq (pc2 := 40) (tgt := 43) dX8_reaches_37 (by decide) rfl (fun c37 => ?_) (fun c37 => ?_)
        · exact absurd c37 (by decide)
        · refine T_iload (pc2 := 42) dX8_reaches_40 rfl rfl ?_
          refine T_iret dX8_reaches_42 rfl rfl ?_
          exact fm_fd k hI (by rw [hs, rowF_0 h0])
      · subst ex
        have hsz := (hok.1 b hb ht).2
        have hI2 := hI.fd (f := 0)
        have hF0 : Fr 48 62 g1 (gset g1 48 1 (nI 0)) := Fr.rf.st (by omega) (by omega)
        generalize gset g1 48 1 (nI 0) = g2 at hI2 hF0 ⊢
        refine T_istore (pc2 := 35) dX8_reaches_33 (by decide) rfl ?_
        refine T_iload (pc2 := 37) dX8_reaches_35 rfl rfl ?_
        first | refine B_ifeq1 (pc2 := 40) (tgt := 43) dX8_reaches_37 (by with_reducible rfl) (by decide) rfl ?_ | refine B_ifeq0 (tgt := 43) dX8_reaches_37 (by with_reducible rfl) (by decide) ?_ | refine N_ifeq (pc2 := 40) (tgt := 43) dX8_reaches_37 (by with_reducible rfl) (by decide) (by omega) rfl (fun c37 => ?_) (fun c37 => ?_) | refine T_ifeq (pc2 := 40) (tgt := 43) dX8_reaches_37 (by decide) rfl (fun c37 => ?_) (fun c37 => ?_)
        refine T_iconst (pc2 := 44) dX8_reaches_43 ic0 rfl ?_
        refine T_istore (pc2 := 46) dX8_reaches_44 (by decide) rfl ?_
        refine T_iconst (pc2 := 47) dX8_reaches_46 ic0 rfl ?_
        refine T_istore (pc2 := 49) dX8_reaches_47 (by decide) rfl ?_
        refine T_sub (lks (i := 0) rfl (lks (i := 1) rfl (lks (i := 2) rfl (lks (i := 3) rfl (lks (i := 4) rfl (lks (i := 6) rfl (lks (i := 7) rfl lk0))))))) ?_
        refine mreach_loop (V := s.V) (it := fun t => s.A.2.2.2 b (x + t)) (g := g2) S hI2.2.2.1 hokV ha hb (by omega) (by omega) (fun t ht2 => ?_) (fun g3 hf3 => ?_) 9 0 g2 rfl Ms.rf
        · rw [Nat.add_assoc]
          exact ((hI2.1 b hb).2 ht).2.2 (x + t) (by omega)
        · exact fm_new k (hI2.ms hf3) (hF0.tr hf3.fr) (by rw [hs, hN_one ht rfl (by omega) hxy])
      · refine T_istore (pc2 := 35) dX8_reaches_33 (by decide) rfl ?_
        refine T_iload (pc2 := 37) dX8_reaches_35 rfl rfl ?_
        refine T_ifeq (pc2 := 40) (tgt := 43) dX8_reaches_37 (by decide) rfl (fun c37 => ?_) (fun c37 => ?_)
        · exact absurd c37 (by decide)
        · refine T_iload (pc2 := 42) dX8_reaches_40 rfl rfl ?_
          refine T_iret dX8_reaches_42 rfl rfl ?_
          exact fm_fd k hI (by rw [hs, rowF_2 ht hno])
    · first | refine B_ifne1 (tgt := 25) dX8_reaches_19 (by with_reducible rfl) (by decide) ?_ | refine B_ifne0 (pc2 := 22) (tgt := 25) dX8_reaches_19 (by with_reducible rfl) (by decide) rfl ?_ | refine N_ifne (pc2 := 22) (tgt := 25) dX8_reaches_19 (by with_reducible rfl) (by decide) (by omega) rfl (fun c19 => ?_) (fun c19 => ?_) | refine T_ifne (pc2 := 22) (tgt := 25) dX8_reaches_19 (by decide) rfl (fun c19 => ?_) (fun c19 => ?_)
      refine T_ldc (pc2 := 24) dX8_reaches_22 kcX8_70 rfl ?_
      refine T_iret dX8_reaches_24 rfl rfl ?_
      refine fm_same k hI Ms.rf ?_
      unfold sReaches
      rcases hno with q | q
      · rw [inN_none q]
        cases inN (nI a) s.V.J <;> rfl
      · rw [inP_none q]
        cases inN (nI a) s.V.J <;> cases inN r 8 <;> rfl
  · first | refine B_ifeq1 (pc2 := 13) (tgt := 22) dX8_reaches_10 (by with_reducible rfl) (by decide) rfl ?_ | refine B_ifeq0 (tgt := 22) dX8_reaches_10 (by with_reducible rfl) (by decide) ?_ | refine N_ifeq (pc2 := 13) (tgt := 22) dX8_reaches_10 (by with_reducible rfl) (by decide) (by omega) rfl (fun c10 => ?_) (fun c10 => ?_) | refine T_ifeq (pc2 := 13) (tgt := 22) dX8_reaches_10 (by decide) rfl (fun c10 => ?_) (fun c10 => ?_)
    refine T_ldc (pc2 := 24) dX8_reaches_22 kcX8_70 rfl ?_
    refine T_iret dX8_reaches_24 rfl rfl ?_
    refine fm_same k hI Ms.rf ?_
    unfold sReaches
    rw [inN_none hno]
theorem mm_who {j wh p r i m : Int32} (S : Sh sk n bf im above below) (hI : InvM g s) (hok : Ok s) (k : ∀ g2, InvM g2 (sWho s j wh p r i m).2 → Fr 48 62 g g2 → Q (some (.int (sWho s j wh p r i m).1)) (HP sk g2 n)) : Calls MX8_who (d + 4) 0 0 [.ref 48, .int j, .int wh, .int p, .int r, .int i, .int m] (HP sk g n) Q := by
  have hokV := hok.2.2.1.1
  have hJ8 := hokV.1
  refine Calls.of (by decide +kernel) (Nat.le_of_ble_eq_true rfl) ?_
  refine T_aload_n (pc2 := 1) dX8_who_0 rfl rfl ?_
  refine T_iconst (pc2 := 2) dX8_who_1 ic0 rfl ?_
  refine G_putI (pc2 := 5) dX8_who_2 flX8_50 (sh48 S) rfl rfl rfl rfl ?_
  have hI := hI.ms (Ms.rf.st (i := 48) (k := 0) (v := nI 0) (by omega))
  have k := fm_start k
  generalize gset g 48 0 (nI 0) = g1 at hI k ⊢
  have hV := hI.2.2.1
  refine T_aload_n (pc2 := 6) dX8_who_5 rfl rfl ?_
  refine T_iload_n (pc2 := 7) dX8_who_6 rfl rfl ?_
  refine C_V1 (pc2 := 10) (mc := 0) (ms := 0) dX8_who_7 cvX8_isJar mlX8_213 (isO.h (sh48 S) _) (Nat.le_of_ble_eq_true rfl) rfl ?_
  refine m_isJar S hV.1 hJ8 (fun jj hj ej => ?_) (fun hno => ?_)
  · subst ej
    first | refine B_ifeq1 (pc2 := 13) (tgt := 41) dX8_who_10 (by with_reducible rfl) (by decide) rfl ?_ | refine B_ifeq0 (tgt := 41) dX8_who_10 (by with_reducible rfl) (by decide) ?_ | refine N_ifeq (pc2 := 13) (tgt := 41) dX8_who_10 (by with_reducible rfl) (by decide) (by omega) rfl (fun c10 => ?_) (fun c10 => ?_) | refine T_ifeq (pc2 := 13) (tgt := 41) dX8_who_10 (by decide) rfl (fun c10 => ?_) (fun c10 => ?_)
    refine T_iload_n (pc2 := 14) dX8_who_13 rfl rfl ?_
    refine T_i2l (pc2 := 15) dX8_who_14 rfl ?_
    refine T_lconst (pc2 := 16) (v := lN 0) dX8_who_15 rfl rfl ?_
    refine T_lconst (pc2 := 17) (v := lN 1) dX8_who_16 rfl rfl ?_
    refine C_S3 (pc2 := 20) (mc := 0) (ms := 0) dX8_who_17 csX8_in mlX8_60 (Nat.le_of_ble_eq_true rfl) rfl ?_
    refine m_inI (k := 1) rfl rfl (by decide) (by decide) (fun ww hw ew => ?_) (fun hno => ?_)
    · subst ew
      first | refine B_ifeq1 (pc2 := 23) (tgt := 41) dX8_who_20 (by with_reducible rfl) (by decide) rfl ?_ | refine B_ifeq0 (tgt := 41) dX8_who_20 (by with_reducible rfl) (by decide) ?_ | refine N_ifeq (pc2 := 23) (tgt := 41) dX8_who_20 (by with_reducible rfl) (by decide) (by omega) rfl (fun c20 => ?_) (fun c20 => ?_) | refine T_ifeq (pc2 := 23) (tgt := 41) dX8_who_20 (by decide) rfl (fun c20 => ?_) (fun c20 => ?_)
      refine T_aload_n (pc2 := 24) dX8_who_23 rfl rfl ?_
      refine T_iload_n (pc2 := 25) dX8_who_24 rfl rfl ?_
      refine C_V1 (pc2 := 28) (mc := 0) (ms := 0) dX8_who_25 cvX8_isJar mlX8_213 (isO.h (sh48 S) _) (Nat.le_of_ble_eq_true rfl) rfl ?_
      refine m_isJar S hV.1 hJ8 (fun a ha ea => ?_) (fun hno => ?_)
      · subst ea
        first | refine B_ifeq1 (pc2 := 31) (tgt := 41) dX8_who_28 (by with_reducible rfl) (by decide) rfl ?_ | refine B_ifeq0 (tgt := 41) dX8_who_28 (by with_reducible rfl) (by decide) ?_ | refine N_ifeq (pc2 := 31) (tgt := 41) dX8_who_28 (by with_reducible rfl) (by decide) (by omega) rfl (fun c28 => ?_) (fun c28 => ?_) | refine T_ifeq (pc2 := 31) (tgt := 41) dX8_who_28 (by decide) rfl (fun c28 => ?_) (fun c28 => ?_)
        refine T_iload (pc2 := 33) dX8_who_31 rfl rfl ?_
        refine T_iload (pc2 := 35) dX8_who_33 rfl rfl ?_
        refine C_S2 (pc2 := 38) (mc := 0) (ms := 0) dX8_who_35 csX8_isMany mlX8_241 (Nat.le_of_ble_eq_true rfl) rfl ?_
        refine m_isMany (fun b mm hb eb hmm em => ?_) (fun hno => ?_)
        · subst eb
          subst em
          have hs : sWho s (nI jj) (nI ww) (nI a) (nI b) i (nI (mm + 1)) = rowF s b i (mm + 1) (fun x => (if ww = 0 then nI (bm (s.V.fitK jj a (mm + 1) (fun t => s.A.2.2.2 b (x + t))) 6) else nI (bm (s.V.fitN jj a (mm + 1) (fun t => s.A.2.2.2 b (x + t))) 12), s.setfd 0)) := by
            unfold sWho
            rw [inN_some hj (by omega), inN_some (show ww < 2 by omega) (by decide), inN_some ha (by omega), inN_some hb (by decide), inP_some hmm (by decide)]
          first | refine B_ifne1 (tgt := 44) dX8_who_38 (by with_reducible rfl) (by decide) ?_ | refine B_ifne0 (pc2 := 41) (tgt := 44) dX8_who_38 (by with_reducible rfl) (by decide) rfl ?_ | refine N_ifne (pc2 := 41) (tgt := 44) dX8_who_38 (by with_reducible rfl) (by decide) (by omega) rfl (fun c38 => ?_) (fun c38 => ?_) | refine T_ifne (pc2 := 41) (tgt := 44) dX8_who_38 (by decide) rfl (fun c38 => ?_) (fun c38 => ?_)
          refine T_aload_n (pc2 := 45) dX8_who_44 rfl rfl ?_
          refine T_iload (pc2 := 47) dX8_who_45 rfl rfl ?_
          refine T_iload (pc2 := 49) dX8_who_47 rfl rfl ?_
          refine T_iload (pc2 := 51) dX8_who_49 rfl rfl ?_
          refine C_V3 (pc2 := 54) (mc := 0) (ms := 0) dX8_who_51 cvX8_rowFound mlX8_244 (isO.h (sh48 S) _) (Nat.le_of_ble_eq_true rfl) rfl ?_
          refine m_rowFound S hI.1 hok.1 hb (by omega) (fun h0 => ?_) (fun x ht ex hxy => ?_) (fun ht hno => ?_)
          · refine T_istore (pc2 := 56) dX8_who_54 (by decide) rfl ?_
            refine T_iload (pc2 := 58) dX8_who_56 rfl rfl ?_
            refine T_ifeq (pc2 := 61) (tgt := 64) dX8_who_58 (by decide) rfl (fun c58 => ?_) (fun c58 => ?_)
            · exact absurd c58 (by decide)
            · refine T_iload (pc2 := 63) dX8_who_61 rfl rfl ?_
              refine T_iret dX8_who_63 rfl rfl ?_
              exact fm_fd k hI (by rw [hs, rowF_0 h0])
          · subst ex
            have hsz := (hok.1 b hb ht).2
            have hI2 := hI.fd (f := 0)
            have hF0 : Fr 48 62 g1 (gset g1 48 1 (nI 0)) := Fr.rf.st (by omega) (by omega)
            generalize gset g1 48 1 (nI 0) = g2 at hI2 hF0 ⊢
            have hit : ∀ t, t < mm + 1 → g2 51 (40 * b + x + t) = s.A.2.2.2 b (x + t) := fun t ht2 => by
              rw [Nat.add_assoc]
              exact ((hI2.1 b hb).2 ht).2.2 (x + t) (by omega)
            refine T_istore (pc2 := 56) dX8_who_54 (by decide) rfl ?_
            refine T_iload (pc2 := 58) dX8_who_56 rfl rfl ?_
            first | refine B_ifeq1 (pc2 := 61) (tgt := 64) dX8_who_58 (by with_reducible rfl) (by decide) rfl ?_ | refine B_ifeq0 (tgt := 64) dX8_who_58 (by with_reducible rfl) (by decide) ?_ | refine N_ifeq (pc2 := 61) (tgt := 64) dX8_who_58 (by with_reducible rfl) (by decide) (by omega) rfl (fun c58 => ?_) (fun c58 => ?_) | refine T_ifeq (pc2 := 61) (tgt := 64) dX8_who_58 (by decide) rfl (fun c58 => ?_) (fun c58 => ?_)
            rcases (by omega : ww = 0 ∨ ww = 1) with e | e
            · subst e
              refine T_iconst (pc2 := 65) dX8_who_64 ic0 rfl ?_
              refine T_istore (pc2 := 67) dX8_who_65 (by decide) rfl ?_
              refine T_iload_n (pc2 := 68) dX8_who_67 rfl rfl ?_
              first | refine B_ifne1 (tgt := 75) dX8_who_68 (by with_reducible rfl) (by decide) ?_ | refine B_ifne0 (pc2 := 71) (tgt := 75) dX8_who_68 (by with_reducible rfl) (by decide) rfl ?_ | refine N_ifne (pc2 := 71) (tgt := 75) dX8_who_68 (by with_reducible rfl) (by decide) (by omega) rfl (fun c68 => ?_) (fun c68 => ?_) | refine T_ifne (pc2 := 71) (tgt := 75) dX8_who_68 (by decide) rfl (fun c68 => ?_) (fun c68 => ?_)
              refine T_iconst (pc2 := 72) dX8_who_71 ic1 rfl ?_
              refine T_goto (tgt := 76) dX8_who_72 (by decide) ?_
              refine T_istore (pc2 := 78) dX8_who_76 (by decide) rfl ?_
              refine T_sub (lks (i := 0) rfl (lks (i := 1) rfl (lks (i := 2) rfl (lks (i := 3) rfl (lks (i := 4) rfl (lks (i := 5) rfl (lks (i := 6) rfl (lks (i := 8) rfl (lks (i := 9) rfl lk0))))))))) ?_
              refine whoK_loop (V := s.V) (it := fun t => s.A.2.2.2 b (x + t)) (g := g2) S hI2.2.2.1 hokV hj ha hb (by omega) (by omega) hit (fun g3 hf3 => ?_) 5 1 g2 (by omega) rfl Ms.rf
              exact fm_new k (hI2.ms hf3) (hF0.tr hf3.fr) (by rw [hs, hN_one ht rfl (by omega) hxy, if_pos rfl])
            · subst e
              refine T_iconst (pc2 := 65) dX8_who_64 ic0 rfl ?_
              refine T_istore (pc2 := 67) dX8_who_65 (by decide) rfl ?_
              refine T_iload_n (pc2 := 68) dX8_who_67 rfl rfl ?_
              first | refine B_ifne1 (tgt := 75) dX8_who_68 (by with_reducible rfl) (by decide) ?_ | refine B_ifne0 (pc2 := 71) (tgt := 75) dX8_who_68 (by with_reducible rfl) (by decide) rfl ?_ | refine N_ifne (pc2 := 71) (tgt := 75) dX8_who_68 (by with_reducible rfl) (by decide) (by omega) rfl (fun c68 => ?_) (fun c68 => ?_) | refine T_ifne (pc2 := 71) (tgt := 75) dX8_who_68 (by decide) rfl (fun c68 => ?_) (fun c68 => ?_)
              refine T_iconst (pc2 := 76) dX8_who_75 ic0 rfl ?_
              refine T_istore (pc2 := 78) dX8_who_76 (by decide) rfl ?_
              refine T_sub (lks (i := 0) rfl (lks (i := 1) rfl (lks (i := 2) rfl (lks (i := 3) rfl (lks (i := 4) rfl (lks (i := 5) rfl (lks (i := 6) rfl (lks (i := 8) rfl (lks (i := 9) rfl lk0))))))))) ?_
              refine whoN_loop (V := s.V) (it := fun t => s.A.2.2.2 b (x + t)) (g := g2) S hI2.2.2.1 hokV hj ha hb (by omega) (by omega) hit (fun g3 hf3 => ?_) 12 0 g2 (by omega) rfl Ms.rf
              exact fm_new k (hI2.ms hf3) (hF0.tr hf3.fr) (by rw [hs, hN_one ht rfl (by omega) hxy, if_neg (by decide)])
          · refine T_istore (pc2 := 56) dX8_who_54 (by decide) rfl ?_
            refine T_iload (pc2 := 58) dX8_who_56 rfl rfl ?_
            refine T_ifeq (pc2 := 61) (tgt := 64) dX8_who_58 (by decide) rfl (fun c58 => ?_) (fun c58 => ?_)
            · exact absurd c58 (by decide)
            · refine T_iload (pc2 := 63) dX8_who_61 rfl rfl ?_
              refine T_iret dX8_who_63 rfl rfl ?_
              exact fm_fd k hI (by rw [hs, rowF_2 ht hno])
        · first | refine B_ifne1 (tgt := 44) dX8_who_38 (by with_reducible rfl) (by decide) ?_ | refine B_ifne0 (pc2 := 41) (tgt := 44) dX8_who_38 (by with_reducible rfl) (by decide) rfl ?_ | refine N_ifne (pc2 := 41) (tgt := 44) dX8_who_38 (by with_reducible rfl) (by decide) (by omega) rfl (fun c38 => ?_) (fun c38 => ?_) | refine T_ifne (pc2 := 41) (tgt := 44) dX8_who_38 (by decide) rfl (fun c38 => ?_) (fun c38 => ?_)
          refine T_ldc (pc2 := 43) dX8_who_41 kcX8_70 rfl ?_
          refine T_iret dX8_who_43 rfl rfl ?_
          refine fm_same k hI Ms.rf ?_
          unfold sWho
          rcases hno with q | q
          · rw [inN_none q]
            cases inN (nI jj) s.V.J <;> cases inN (nI ww) 2 <;> cases inN (nI a) s.V.J <;> rfl
          · rw [inP_none q]
            cases inN (nI jj) s.V.J <;> cases inN (nI ww) 2 <;> cases inN (nI a) s.V.J <;> cases inN r 8 <;> rfl
      · first | refine B_ifeq1 (pc2 := 31) (tgt := 41) dX8_who_28 (by with_reducible rfl) (by decide) rfl ?_ | refine B_ifeq0 (tgt := 41) dX8_who_28 (by with_reducible rfl) (by decide) ?_ | refine N_ifeq (pc2 := 31) (tgt := 41) dX8_who_28 (by with_reducible rfl) (by decide) (by omega) rfl (fun c28 => ?_) (fun c28 => ?_) | refine T_ifeq (pc2 := 31) (tgt := 41) dX8_who_28 (by decide) rfl (fun c28 => ?_) (fun c28 => ?_)
        refine T_ldc (pc2 := 43) dX8_who_41 kcX8_70 rfl ?_
        refine T_iret dX8_who_43 rfl rfl ?_
        refine fm_same k hI Ms.rf ?_
        unfold sWho
        rw [inN_none (v := p) hno]
        cases inN (nI jj) s.V.J <;> cases inN (nI ww) 2 <;> rfl
    · first | refine B_ifeq1 (pc2 := 23) (tgt := 41) dX8_who_20 (by with_reducible rfl) (by decide) rfl ?_ | refine B_ifeq0 (tgt := 41) dX8_who_20 (by with_reducible rfl) (by decide) ?_ | refine N_ifeq (pc2 := 23) (tgt := 41) dX8_who_20 (by with_reducible rfl) (by decide) (by omega) rfl (fun c20 => ?_) (fun c20 => ?_) | refine T_ifeq (pc2 := 23) (tgt := 41) dX8_who_20 (by decide) rfl (fun c20 => ?_) (fun c20 => ?_)
      refine T_ldc (pc2 := 43) dX8_who_41 kcX8_70 rfl ?_
      refine T_iret dX8_who_43 rfl rfl ?_
      refine fm_same k hI Ms.rf ?_
      unfold sWho
      rw [inN_none (v := wh) (k := 2) (fun q hq => hno q (by omega))]
      cases inN (nI jj) s.V.J <;> rfl
  · first | refine B_ifeq1 (pc2 := 13) (tgt := 41) dX8_who_10 (by with_reducible rfl) (by decide) rfl ?_ | refine B_ifeq0 (tgt := 41) dX8_who_10 (by with_reducible rfl) (by decide) ?_ | refine N_ifeq (pc2 := 13) (tgt := 41) dX8_who_10 (by with_reducible rfl) (by decide) (by omega) rfl (fun c10 => ?_) (fun c10 => ?_) | refine T_ifeq (pc2 := 13) (tgt := 41) dX8_who_10 (by decide) rfl (fun c10 => ?_) (fun c10 => ?_)
    refine T_ldc (pc2 := 43) dX8_who_41 kcX8_70 rfl ?_
    refine T_iret dX8_who_43 rfl rfl ?_
    refine fm_same k hI Ms.rf ?_
    unfold sWho
    rw [inN_none (v := j) hno]
end MSong

