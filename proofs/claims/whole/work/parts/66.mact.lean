/-! the model: acts and plain questions -/
section MAct
variable {sk : Nat → SK} {g : Nat → Nat → Int32} {n w : Nat} {V : Cel} {Q : Option Value → SH → Prop} {d kc ks : Nat} {bf im : Nat → Option Nat} {above below : Int64} {h : SH} {s : ST}
theorem mm_open {j : Int32} (S : Sh sk n bf im above below) (hI : InvM g s) (hok : Ok s) (k : ∀ g2, InvM g2 (sOpen s j).2 → Fr 48 62 g g2 → Q (some (.int (sOpen s j).1)) (HP sk g2 n)) : Calls MX8_open (d + 2) 0 0 [.ref 48, .int j] (HP sk g n) Q := by
  have hokV := hok.2.2.1.1
  have hJ8 := hokV.1
  refine Calls.of (by decide +kernel) (Nat.le_of_ble_eq_true rfl) ?_
  refine T_aload_n (pc2 := 1) dX8_open_0 rfl rfl ?_
  refine T_iconst (pc2 := 2) dX8_open_1 ic0 rfl ?_
  refine G_putI (pc2 := 5) dX8_open_2 flX8_50 (sh48 S) rfl rfl rfl rfl ?_
  have hI := hI.ms (Ms.rf.st (i := 48) (k := 0) (v := nI 0) (by omega))
  have k := fm_start k
  generalize gset g 48 0 (nI 0) = g1 at hI k ⊢
  have hV := hI.2.2.1
  refine T_aload_n (pc2 := 6) dX8_open_5 rfl rfl ?_
  refine T_iload_n (pc2 := 7) dX8_open_6 rfl rfl ?_
  refine C_V1 (pc2 := 10) (mc := 0) (ms := 0) dX8_open_7 cvX8_isJar mlX8_213 (isO.h (sh48 S) _) (Nat.le_of_ble_eq_true rfl) rfl ?_
  refine m_isJar S hV.1 hJ8 (fun i hi ei => ?_) (fun hno => ?_)
  · subst ei
    have hs : sOpen s (nI i) = if s.V.hw i = 0 then (nI (s.V.nt i), s.keep.setV (s.V.sethw i 3)) else (STATE, s) := by
      unfold sOpen
      rw [inN_some hi (by omega)]
    have o3 := (hokV.2.2.2.1 i hi).2.2.2.2.2.2
    first | refine B_ifne1 (tgt := 16) dX8_open_10 (by with_reducible rfl) (by decide) ?_ | refine B_ifne0 (pc2 := 13) (tgt := 16) dX8_open_10 (by with_reducible rfl) (by decide) rfl ?_ | refine N_ifne (pc2 := 13) (tgt := 16) dX8_open_10 (by with_reducible rfl) (by decide) (by omega) rfl (fun c10 => ?_) (fun c10 => ?_) | refine T_ifne (pc2 := 13) (tgt := 16) dX8_open_10 (by decide) rfl (fun c10 => ?_) (fun c10 => ?_)
    refine T_aload_n (pc2 := 17) dX8_open_16 rfl rfl ?_
    refine G_getR (pc2 := 20) dX8_open_17 flX8_19 (sh48 S) rfl rfl ?_
    refine T_iload_n (pc2 := 21) dX8_open_20 rfl rfl ?_
    refine T_iconst (pc2 := 22) dX8_open_21 ic4 rfl ?_
    refine C_S3 (pc2 := 25) (mc := 0) (ms := 0) dX8_open_22 csX8_of mlX8_154 (Nat.le_of_ble_eq_true rfl) rfl ?_
    refine m_of (sh52 S) (by omega) (hV.2.2.2 i hi).2.2.2.2 ?_
    first | refine B_ifeq1 (pc2 := 28) (tgt := 31) dX8_open_25 (by with_reducible rfl) (by decide) rfl ?_ | refine B_ifeq0 (tgt := 31) dX8_open_25 (by with_reducible rfl) (by decide) ?_ | refine N_ifeq (pc2 := 28) (tgt := 31) dX8_open_25 (by with_reducible rfl) (by decide) (by omega) rfl (fun c25 => ?_) (fun c25 => ?_) | refine T_ifeq (pc2 := 28) (tgt := 31) dX8_open_25 (by decide) rfl (fun c25 => ?_) (fun c25 => ?_)
    · refine T_aload_n (pc2 := 32) dX8_open_31 rfl rfl ?_
      refine C_V0 (pc2 := 35) (mc := 0) (ms := 0) dX8_open_32 cvX8_keep mlX8_202 (isO.h (sh48 S) _) (Nat.le_of_ble_eq_true rfl) rfl ?_
      refine m_keep S hI hok (fun g3 hI3 hf3 => ?_)
      refine T_aload_n (pc2 := 36) dX8_open_35 rfl rfl ?_
      refine G_getR (pc2 := 39) dX8_open_36 flX8_19 (sh48 S) rfl rfl ?_
      refine T_iload_n (pc2 := 40) dX8_open_39 rfl rfl ?_
      refine T_iconst (pc2 := 41) dX8_open_40 ic4 rfl ?_
      refine T_iconst (pc2 := 42) dX8_open_41 ic3 rfl ?_
      refine C_S4 (pc2 := 45) (mc := 0) (ms := 0) dX8_open_42 csX8_be mlX8_192 (Nat.le_of_ble_eq_true rfl) rfl ?_
      refine m_be (sh52 S) (by omega) ?_
      have hV4 := hI3.2.2.1.sethw (j := i) (v := 3)
      refine T_aload_n (pc2 := 46) dX8_open_45 rfl rfl ?_
      refine G_getR (pc2 := 49) dX8_open_46 flX8_19 (sh48 S) rfl rfl ?_
      refine T_iload_n (pc2 := 50) dX8_open_49 rfl rfl ?_
      refine T_iconst (pc2 := 51) dX8_open_50 ic1 rfl ?_
      refine C_S3 (pc2 := 54) (mc := 0) (ms := 0) dX8_open_51 csX8_of mlX8_154 (Nat.le_of_ble_eq_true rfl) rfl ?_
      refine m_of (sh52 S) (by omega) (hV4.2.2.2 i hi).2.1 ?_
      refine T_iret dX8_open_54 rfl rfl ?_
      exact fm_new k (hI3.cel hV4 Fo.rf.st) ((Fr.keep hf3).tr (Fr.rf.st (by omega) (by omega))) (by rw [hs, if_pos c25]; rfl)
    · refine T_ldc (pc2 := 30) dX8_open_28 kcX8_199 rfl ?_
      refine T_iret dX8_open_30 rfl rfl ?_
      exact fm_same k hI Ms.rf (by rw [hs, if_neg c25])
  · first | refine B_ifne1 (tgt := 16) dX8_open_10 (by with_reducible rfl) (by decide) ?_ | refine B_ifne0 (pc2 := 13) (tgt := 16) dX8_open_10 (by with_reducible rfl) (by decide) rfl ?_ | refine N_ifne (pc2 := 13) (tgt := 16) dX8_open_10 (by with_reducible rfl) (by decide) (by omega) rfl (fun c10 => ?_) (fun c10 => ?_) | refine T_ifne (pc2 := 13) (tgt := 16) dX8_open_10 (by decide) rfl (fun c10 => ?_) (fun c10 => ?_)
    refine T_ldc (pc2 := 15) dX8_open_13 kcX8_70 rfl ?_
    refine T_iret dX8_open_15 rfl rfl ?_
    refine fm_same k hI Ms.rf ?_
    unfold sOpen
    rw [inN_none hno]
theorem mm_change {a b : Int32} (S : Sh sk n bf im above below) (hI : InvM g s) (hok : Ok s) (k : ∀ g2, InvM g2 (sChange s a b).2 → Fr 48 62 g g2 → Q (some (.int (sChange s a b).1)) (HP sk g2 n)) : Calls MX8_change (d + 2) 0 0 [.ref 48, .int a, .int b] (HP sk g n) Q := by
  have hokV := hok.2.2.1.1
  have hJ8 := hokV.1
  refine Calls.of (by decide +kernel) (Nat.le_of_ble_eq_true rfl) ?_
  refine T_aload_n (pc2 := 1) dX8_change_0 rfl rfl ?_
  refine T_iconst (pc2 := 2) dX8_change_1 ic0 rfl ?_
  refine G_putI (pc2 := 5) dX8_change_2 flX8_50 (sh48 S) rfl rfl rfl rfl ?_
  have hI := hI.ms (Ms.rf.st (i := 48) (k := 0) (v := nI 0) (by omega))
  have k := fm_start k
  generalize gset g 48 0 (nI 0) = g1 at hI k ⊢
  have hV := hI.2.2.1
  refine T_aload_n (pc2 := 6) dX8_change_5 rfl rfl ?_
  refine T_iload_n (pc2 := 7) dX8_change_6 rfl rfl ?_
  refine C_V1 (pc2 := 10) (mc := 0) (ms := 0) dX8_change_7 cvX8_isJar mlX8_213 (isO.h (sh48 S) _) (Nat.le_of_ble_eq_true rfl) rfl ?_
  refine m_isJar S hV.1 hJ8 (fun x hx ex => ?_) (fun hno => ?_)
  · subst ex
    first | refine B_ifeq1 (pc2 := 13) (tgt := 26) dX8_change_10 (by with_reducible rfl) (by decide) rfl ?_ | refine B_ifeq0 (tgt := 26) dX8_change_10 (by with_reducible rfl) (by decide) ?_ | refine N_ifeq (pc2 := 13) (tgt := 26) dX8_change_10 (by with_reducible rfl) (by decide) (by omega) rfl (fun c10 => ?_) (fun c10 => ?_) | refine T_ifeq (pc2 := 13) (tgt := 26) dX8_change_10 (by decide) rfl (fun c10 => ?_) (fun c10 => ?_)
    refine T_aload_n (pc2 := 14) dX8_change_13 rfl rfl ?_
    refine T_iload_n (pc2 := 15) dX8_change_14 rfl rfl ?_
    refine C_V1 (pc2 := 18) (mc := 0) (ms := 0) dX8_change_15 cvX8_isJar mlX8_213 (isO.h (sh48 S) _) (Nat.le_of_ble_eq_true rfl) rfl ?_
    refine m_isJar S hV.1 hJ8 (fun y hy ey => ?_) (fun hno => ?_)
    · subst ey
      have hs : sChange s (nI x) (nI y) = if x = y then (BAD, s) else (nI ((s.V.swap x y).pl x), s.keep.setV (s.V.swap x y)) := by
        unfold sChange
        rw [inN_some hx (by omega), inN_some hy (by omega)]
      first | refine B_ifeq1 (pc2 := 21) (tgt := 26) dX8_change_18 (by with_reducible rfl) (by decide) rfl ?_ | refine B_ifeq0 (tgt := 26) dX8_change_18 (by with_reducible rfl) (by decide) ?_ | refine N_ifeq (pc2 := 21) (tgt := 26) dX8_change_18 (by with_reducible rfl) (by decide) (by omega) rfl (fun c18 => ?_) (fun c18 => ?_) | refine T_ifeq (pc2 := 21) (tgt := 26) dX8_change_18 (by decide) rfl (fun c18 => ?_) (fun c18 => ?_)
      refine T_iload_n (pc2 := 22) dX8_change_21 rfl rfl ?_
      refine T_iload_n (pc2 := 23) dX8_change_22 rfl rfl ?_
      first | refine N_icmpne (pc2 := 26) (tgt := 29) dX8_change_23 (by decide) (by with_reducible rfl) (by with_reducible rfl) (by omega) (by omega) rfl (fun c23 => ?_) (fun c23 => ?_) | refine T_icmpne (pc2 := 26) (tgt := 29) dX8_change_23 (by decide) rfl (fun c23 => ?_) (fun c23 => ?_)
      · refine T_aload_n (pc2 := 30) dX8_change_29 rfl rfl ?_
        refine C_V0 (pc2 := 33) (mc := 0) (ms := 0) dX8_change_30 cvX8_keep mlX8_202 (isO.h (sh48 S) _) (Nat.le_of_ble_eq_true rfl) rfl ?_
        refine m_keep S hI hok (fun g3 hI3 hf3 => ?_)
        refine T_aload_n (pc2 := 34) dX8_change_33 rfl rfl ?_
        refine G_getR (pc2 := 37) dX8_change_34 flX8_19 (sh48 S) rfl rfl ?_
        refine T_iload_n (pc2 := 38) dX8_change_37 rfl rfl ?_
        refine T_iload_n (pc2 := 39) dX8_change_38 rfl rfl ?_
        refine C_S3 (pc2 := 42) (mc := 0) (ms := 0) dX8_change_39 csX8_changePlaces mlX8_220 (Nat.le_of_ble_eq_true rfl) rfl ?_
        refine m_swap (sh52 S) hI3.2.2.1 hJ8 hx hy (fun g4 hV4 hf4 => ?_)
        refine T_aload_n (pc2 := 43) dX8_change_42 rfl rfl ?_
        refine G_getR (pc2 := 46) dX8_change_43 flX8_19 (sh48 S) rfl rfl ?_
        refine T_iload_n (pc2 := 47) dX8_change_46 rfl rfl ?_
        refine T_iconst (pc2 := 48) dX8_change_47 ic3 rfl ?_
        refine C_S3 (pc2 := 51) (mc := 0) (ms := 0) dX8_change_48 csX8_of mlX8_154 (Nat.le_of_ble_eq_true rfl) rfl ?_
        refine m_of (sh52 S) (by omega) (hV4.2.2.2 x hx).2.2.2.1 ?_
        refine T_iret dX8_change_51 rfl rfl ?_
        exact fm_new k (hI3.cel hV4 hf4) ((Fr.keep hf3).tr (hf4.fr (by decide) (by decide))) (by rw [hs, if_neg c23]; rfl)
      · refine T_ldc (pc2 := 28) dX8_change_26 kcX8_70 rfl ?_
        refine T_iret dX8_change_28 rfl rfl ?_
        exact fm_same k hI Ms.rf (by rw [hs, if_pos c23])
    · first | refine B_ifeq1 (pc2 := 21) (tgt := 26) dX8_change_18 (by with_reducible rfl) (by decide) rfl ?_ | refine B_ifeq0 (tgt := 26) dX8_change_18 (by with_reducible rfl) (by decide) ?_ | refine N_ifeq (pc2 := 21) (tgt := 26) dX8_change_18 (by with_reducible rfl) (by decide) (by omega) rfl (fun c18 => ?_) (fun c18 => ?_) | refine T_ifeq (pc2 := 21) (tgt := 26) dX8_change_18 (by decide) rfl (fun c18 => ?_) (fun c18 => ?_)
      refine T_ldc (pc2 := 28) dX8_change_26 kcX8_70 rfl ?_
      refine T_iret dX8_change_28 rfl rfl ?_
      refine fm_same k hI Ms.rf ?_
      unfold sChange
      rw [inN_none hno]
      cases inN (nI x) s.V.J <;> rfl
  · first | refine B_ifeq1 (pc2 := 13) (tgt := 26) dX8_change_10 (by with_reducible rfl) (by decide) rfl ?_ | refine B_ifeq0 (tgt := 26) dX8_change_10 (by with_reducible rfl) (by decide) ?_ | refine N_ifeq (pc2 := 13) (tgt := 26) dX8_change_10 (by with_reducible rfl) (by decide) (by omega) rfl (fun c10 => ?_) (fun c10 => ?_) | refine T_ifeq (pc2 := 13) (tgt := 26) dX8_change_10 (by decide) rfl (fun c10 => ?_) (fun c10 => ?_)
    refine T_ldc (pc2 := 28) dX8_change_26 kcX8_70 rfl ?_
    refine T_iret dX8_change_28 rfl rfl ?_
    refine fm_same k hI Ms.rf ?_
    unfold sChange
    rw [inN_none hno]
theorem mm_seal {j nt y : Int32} (S : Sh sk n bf im above below) (hI : InvM g s) (hok : Ok s) (k : ∀ g2, InvM g2 (sSeal s j nt y).2 → Fr 48 62 g g2 → Q (some (.int (sSeal s j nt y).1)) (HP sk g2 n)) : Calls MX8_seal (d + 2) 0 0 [.ref 48, .int j, .int nt, .int y] (HP sk g n) Q := by
  have hokV := hok.2.2.1.1
  have hJ8 := hokV.1
  refine Calls.of (by decide +kernel) (Nat.le_of_ble_eq_true rfl) ?_
  refine T_aload_n (pc2 := 1) dX8_seal_0 rfl rfl ?_
  refine T_iconst (pc2 := 2) dX8_seal_1 ic0 rfl ?_
  refine G_putI (pc2 := 5) dX8_seal_2 flX8_50 (sh48 S) rfl rfl rfl rfl ?_
  have hI := hI.ms (Ms.rf.st (i := 48) (k := 0) (v := nI 0) (by omega))
  have k := fm_start k
  generalize gset g 48 0 (nI 0) = g1 at hI k ⊢
  have hV := hI.2.2.1
  refine T_aload_n (pc2 := 6) dX8_seal_5 rfl rfl ?_
  refine T_iload_n (pc2 := 7) dX8_seal_6 rfl rfl ?_
  refine C_V1 (pc2 := 10) (mc := 0) (ms := 0) dX8_seal_7 cvX8_isJar mlX8_213 (isO.h (sh48 S) _) (Nat.le_of_ble_eq_true rfl) rfl ?_
  refine m_isJar S hV.1 hJ8 (fun x hx ex => ?_) (fun hno => ?_)
  · subst ex
    first | refine B_ifeq1 (pc2 := 13) (tgt := 33) dX8_seal_10 (by with_reducible rfl) (by decide) rfl ?_ | refine B_ifeq0 (tgt := 33) dX8_seal_10 (by with_reducible rfl) (by decide) ?_ | refine N_ifeq (pc2 := 13) (tgt := 33) dX8_seal_10 (by with_reducible rfl) (by decide) (by omega) rfl (fun c10 => ?_) (fun c10 => ?_) | refine T_ifeq (pc2 := 13) (tgt := 33) dX8_seal_10 (by decide) rfl (fun c10 => ?_) (fun c10 => ?_)
    refine T_iload_n (pc2 := 14) dX8_seal_13 rfl rfl ?_
    refine T_i2l (pc2 := 15) dX8_seal_14 rfl ?_
    refine C_S1 (pc2 := 18) (mc := 0) (ms := 0) dX8_seal_15 csX8_isNote mlX8_209 (Nat.le_of_ble_eq_true rfl) rfl ?_
    refine m_isNote rfl (fun a ha ea => ?_) (fun hno => ?_)
    · subst ea
      first | refine B_ifeq1 (pc2 := 21) (tgt := 33) dX8_seal_18 (by with_reducible rfl) (by decide) rfl ?_ | refine B_ifeq0 (tgt := 33) dX8_seal_18 (by with_reducible rfl) (by decide) ?_ | refine N_ifeq (pc2 := 21) (tgt := 33) dX8_seal_18 (by with_reducible rfl) (by decide) (by omega) rfl (fun c18 => ?_) (fun c18 => ?_) | refine T_ifeq (pc2 := 21) (tgt := 33) dX8_seal_18 (by decide) rfl (fun c18 => ?_) (fun c18 => ?_)
      refine T_iload_n (pc2 := 22) dX8_seal_21 rfl rfl ?_
      refine T_i2l (pc2 := 23) dX8_seal_22 rfl ?_
      refine T_lconst (pc2 := 24) (v := lN 1) dX8_seal_23 rfl rfl ?_
      refine T_ldc2 (pc2 := 27) dX8_seal_24 kcX8_223 rfl ?_
      refine C_S3 (pc2 := 30) (mc := 0) (ms := 0) dX8_seal_27 csX8_in mlX8_60 (Nat.le_of_ble_eq_true rfl) rfl ?_
      refine m_in1 (k := 60) rfl rfl (by decide) (by decide) (fun z hz ez => ?_) (fun hno => ?_)
      · subst ez
        have hs : sSeal s (nI x) (nI a) (nI (z + 1)) = if s.V.hw x = 0 then (STATE, s) else (nI (bm ((((s.V.sethw x 0).setnt x a).setkp x (z + 1)).th 0) 8), s.keep.setV (((s.V.sethw x 0).setnt x a).setkp x (z + 1))) := by
          unfold sSeal
          rw [inN_some hx (by omega), inN_some ha (by decide), inN_some (show z + 1 < 61 by omega) (by decide)]
        have o3 := (hokV.2.2.2.1 x hx).2.2.2.2.2.2
        first | refine B_ifne1 (tgt := 36) dX8_seal_30 (by with_reducible rfl) (by decide) ?_ | refine B_ifne0 (pc2 := 33) (tgt := 36) dX8_seal_30 (by with_reducible rfl) (by decide) rfl ?_ | refine N_ifne (pc2 := 33) (tgt := 36) dX8_seal_30 (by with_reducible rfl) (by decide) (by omega) rfl (fun c30 => ?_) (fun c30 => ?_) | refine T_ifne (pc2 := 33) (tgt := 36) dX8_seal_30 (by decide) rfl (fun c30 => ?_) (fun c30 => ?_)
        refine T_aload_n (pc2 := 37) dX8_seal_36 rfl rfl ?_
        refine G_getR (pc2 := 40) dX8_seal_37 flX8_19 (sh48 S) rfl rfl ?_
        refine T_iload_n (pc2 := 41) dX8_seal_40 rfl rfl ?_
        refine T_iconst (pc2 := 42) dX8_seal_41 ic4 rfl ?_
        refine C_S3 (pc2 := 45) (mc := 0) (ms := 0) dX8_seal_42 csX8_of mlX8_154 (Nat.le_of_ble_eq_true rfl) rfl ?_
        refine m_of (sh52 S) (by omega) (hV.2.2.2 x hx).2.2.2.2 ?_
        first | refine B_ifne1 (tgt := 51) dX8_seal_45 (by with_reducible rfl) (by decide) ?_ | refine B_ifne0 (pc2 := 48) (tgt := 51) dX8_seal_45 (by with_reducible rfl) (by decide) rfl ?_ | refine N_ifne (pc2 := 48) (tgt := 51) dX8_seal_45 (by with_reducible rfl) (by decide) (by omega) rfl (fun c45 => ?_) (fun c45 => ?_) | refine T_ifne (pc2 := 48) (tgt := 51) dX8_seal_45 (by decide) rfl (fun c45 => ?_) (fun c45 => ?_)
        · refine T_aload_n (pc2 := 52) dX8_seal_51 rfl rfl ?_
          refine C_V0 (pc2 := 55) (mc := 0) (ms := 0) dX8_seal_52 cvX8_keep mlX8_202 (isO.h (sh48 S) _) (Nat.le_of_ble_eq_true rfl) rfl ?_
          refine m_keep S hI hok (fun g3 hI3 hf3 => ?_)
          refine T_aload_n (pc2 := 56) dX8_seal_55 rfl rfl ?_
          refine G_getR (pc2 := 59) dX8_seal_56 flX8_19 (sh48 S) rfl rfl ?_
          refine T_iload_n (pc2 := 60) dX8_seal_59 rfl rfl ?_
          refine T_iconst (pc2 := 61) dX8_seal_60 ic4 rfl ?_
          refine T_iconst (pc2 := 62) dX8_seal_61 ic0 rfl ?_
          refine C_S4 (pc2 := 65) (mc := 0) (ms := 0) dX8_seal_62 csX8_be mlX8_192 (Nat.le_of_ble_eq_true rfl) rfl ?_
          refine m_be (sh52 S) (by omega) ?_
          refine T_aload_n (pc2 := 66) dX8_seal_65 rfl rfl ?_
          refine G_getR (pc2 := 69) dX8_seal_66 flX8_19 (sh48 S) rfl rfl ?_
          refine T_iload_n (pc2 := 70) dX8_seal_69 rfl rfl ?_
          refine T_iconst (pc2 := 71) dX8_seal_70 ic1 rfl ?_
          refine T_iload_n (pc2 := 72) dX8_seal_71 rfl rfl ?_
          refine C_S4 (pc2 := 75) (mc := 0) (ms := 0) dX8_seal_72 csX8_be mlX8_192 (Nat.le_of_ble_eq_true rfl) rfl ?_
          refine m_be (sh52 S) (by omega) ?_
          refine T_aload_n (pc2 := 76) dX8_seal_75 rfl rfl ?_
          refine G_getR (pc2 := 79) dX8_seal_76 flX8_19 (sh48 S) rfl rfl ?_
          refine T_iload_n (pc2 := 80) dX8_seal_79 rfl rfl ?_
          refine T_iconst (pc2 := 81) dX8_seal_80 ic2 rfl ?_
          refine T_iload_n (pc2 := 82) dX8_seal_81 rfl rfl ?_
          refine C_S4 (pc2 := 85) (mc := 0) (ms := 0) dX8_seal_82 csX8_be mlX8_192 (Nat.le_of_ble_eq_true rfl) rfl ?_
          refine m_be (sh52 S) (by omega) ?_
          have hV4 := ((hI3.2.2.1.sethw (j := x) (v := 0)).setnt (j := x) (v := a)).setkp (j := x) (v := z + 1)
          refine T_aload_n (pc2 := 86) dX8_seal_85 rfl rfl ?_
          refine G_getR (pc2 := 89) dX8_seal_86 flX8_19 (sh48 S) rfl rfl ?_
          refine T_iconst (pc2 := 90) dX8_seal_89 ic0 rfl ?_
          refine C_S2 (pc2 := 93) (mc := 0) (ms := 0) dX8_seal_90 csX8_those mlX8_175 (Nat.le_of_ble_eq_true rfl) rfl ?_
          refine m_those (sh52 S) hV4 hJ8 (by decide) (fun i hi => ?_) ?_
          · show va_up s.V.hw x 0 i < 2 ^ 31
            have := (hokV.2.2.2.1 i hi).2.2.2.2.2.2
            by_cases e : i = x
            · simp [va_up, e]
            · simp only [va_up, if_neg e]; omega
          · refine T_iret dX8_seal_93 rfl rfl ?_
            exact fm_new k (hI3.cel hV4 Fo.rf.st.st.st) ((Fr.keep hf3).tr (((Fr.rf.st (by omega) (by omega)).st (by omega) (by omega)).st (by omega) (by omega))) (by rw [hs, if_neg c45]; rfl)
        · refine T_ldc (pc2 := 50) dX8_seal_48 kcX8_199 rfl ?_
          refine T_iret dX8_seal_50 rfl rfl ?_
          exact fm_same k hI Ms.rf (by rw [hs, if_pos c45])
      · first | refine B_ifne1 (tgt := 36) dX8_seal_30 (by with_reducible rfl) (by decide) ?_ | refine B_ifne0 (pc2 := 33) (tgt := 36) dX8_seal_30 (by with_reducible rfl) (by decide) rfl ?_ | refine N_ifne (pc2 := 33) (tgt := 36) dX8_seal_30 (by with_reducible rfl) (by decide) (by omega) rfl (fun c30 => ?_) (fun c30 => ?_) | refine T_ifne (pc2 := 33) (tgt := 36) dX8_seal_30 (by decide) rfl (fun c30 => ?_) (fun c30 => ?_)
        refine T_ldc (pc2 := 35) dX8_seal_33 kcX8_70 rfl ?_
        refine T_iret dX8_seal_35 rfl rfl ?_
        refine fm_same k hI Ms.rf ?_
        unfold sSeal
        rw [inN_some hx (by omega), inN_some ha (by decide)]
        cases q : inN y 61 with
        | none => rfl
        | some w =>
          cases w with
          | zero => rfl
          | succ w =>
            have := inN_of q
            exact absurd this.2 (hno w (by omega))
    · first | refine B_ifeq1 (pc2 := 21) (tgt := 33) dX8_seal_18 (by with_reducible rfl) (by decide) rfl ?_ | refine B_ifeq0 (tgt := 33) dX8_seal_18 (by with_reducible rfl) (by decide) ?_ | refine N_ifeq (pc2 := 21) (tgt := 33) dX8_seal_18 (by with_reducible rfl) (by decide) (by omega) rfl (fun c18 => ?_) (fun c18 => ?_) | refine T_ifeq (pc2 := 21) (tgt := 33) dX8_seal_18 (by decide) rfl (fun c18 => ?_) (fun c18 => ?_)
      refine T_ldc (pc2 := 35) dX8_seal_33 kcX8_70 rfl ?_
      refine T_iret dX8_seal_35 rfl rfl ?_
      refine fm_same k hI Ms.rf ?_
      unfold sSeal
      rw [inN_none hno]
      cases inN (nI x) s.V.J <;> rfl
  · first | refine B_ifeq1 (pc2 := 13) (tgt := 33) dX8_seal_10 (by with_reducible rfl) (by decide) rfl ?_ | refine B_ifeq0 (tgt := 33) dX8_seal_10 (by with_reducible rfl) (by decide) ?_ | refine N_ifeq (pc2 := 13) (tgt := 33) dX8_seal_10 (by with_reducible rfl) (by decide) (by omega) rfl (fun c10 => ?_) (fun c10 => ?_) | refine T_ifeq (pc2 := 13) (tgt := 33) dX8_seal_10 (by decide) rfl (fun c10 => ?_) (fun c10 => ?_)
    refine T_ldc (pc2 := 35) dX8_seal_33 kcX8_70 rfl ?_
    refine T_iret dX8_seal_35 rfl rfl ?_
    refine fm_same k hI Ms.rf ?_
    unfold sSeal
    rw [inN_none hno]
theorem mm_reach {v : Int32} (S : Sh sk n bf im above below) (hI : InvM g s) (hok : Ok s) (k : ∀ g2, InvM g2 (sReach s v).2 → Fr 48 62 g g2 → Q (some (.int (sReach s v).1)) (HP sk g2 n)) : Calls MX8_reach (d + 2) 0 0 [.ref 48, .int v] (HP sk g n) Q := by
  have hokV := hok.2.2.1.1
  have hJ8 := hokV.1
  refine Calls.of (by decide +kernel) (Nat.le_of_ble_eq_true rfl) ?_
  refine T_aload_n (pc2 := 1) dX8_reach_0 rfl rfl ?_
  refine T_iconst (pc2 := 2) dX8_reach_1 ic0 rfl ?_
  refine G_putI (pc2 := 5) dX8_reach_2 flX8_50 (sh48 S) rfl rfl rfl rfl ?_
  have hI := hI.ms (Ms.rf.st (i := 48) (k := 0) (v := nI 0) (by omega))
  have k := fm_start k
  generalize gset g 48 0 (nI 0) = g1 at hI k ⊢
  have hV := hI.2.2.1
  refine T_aload_n (pc2 := 6) dX8_reach_5 rfl rfl ?_
  refine C_V0 (pc2 := 9) (mc := 0) (ms := 0) dX8_reach_6 cvX8_isThere mlX8_196 (isO.h (sh48 S) _) (Nat.le_of_ble_eq_true rfl) rfl ?_
  refine m_isThere S hV.1 hJ8 (fun h0 => ?_) (fun h0 => ?_)
  · first | refine B_ifne1 (tgt := 15) dX8_reach_9 (by with_reducible rfl) (by decide) ?_ | refine B_ifne0 (pc2 := 12) (tgt := 15) dX8_reach_9 (by with_reducible rfl) (by decide) rfl ?_ | refine N_ifne (pc2 := 12) (tgt := 15) dX8_reach_9 (by with_reducible rfl) (by decide) (by omega) rfl (fun c9 => ?_) (fun c9 => ?_) | refine T_ifne (pc2 := 12) (tgt := 15) dX8_reach_9 (by decide) rfl (fun c9 => ?_) (fun c9 => ?_)
    refine T_iload_n (pc2 := 16) dX8_reach_15 rfl rfl ?_
    refine T_i2l (pc2 := 17) dX8_reach_16 rfl ?_
    refine T_lconst (pc2 := 18) (v := lN 0) dX8_reach_17 rfl rfl ?_
    refine T_ldc2 (pc2 := 21) dX8_reach_18 kcX8_225 rfl ?_
    refine C_S3 (pc2 := 24) (mc := 0) (ms := 0) dX8_reach_21 csX8_in mlX8_60 (Nat.le_of_ble_eq_true rfl) rfl ?_
    refine m_inI (k := 8) rfl rfl (by decide) (by decide) (fun x hx ex => ?_) (fun hno => ?_)
    · subst ex
      have hs : sReach s (nI x) = (nI s.V.R, s.keep.setV (s.V.setR x)) := by
        unfold sReach
        rw [if_neg (by omega), inN_some (show x < 9 by omega) (by decide)]
      first | refine B_ifne1 (tgt := 30) dX8_reach_24 (by with_reducible rfl) (by decide) ?_ | refine B_ifne0 (pc2 := 27) (tgt := 30) dX8_reach_24 (by with_reducible rfl) (by decide) rfl ?_ | refine N_ifne (pc2 := 27) (tgt := 30) dX8_reach_24 (by with_reducible rfl) (by decide) (by omega) rfl (fun c24 => ?_) (fun c24 => ?_) | refine T_ifne (pc2 := 27) (tgt := 30) dX8_reach_24 (by decide) rfl (fun c24 => ?_) (fun c24 => ?_)
      refine T_aload_n (pc2 := 31) dX8_reach_30 rfl rfl ?_
      refine C_V0 (pc2 := 34) (mc := 0) (ms := 0) dX8_reach_31 cvX8_keep mlX8_202 (isO.h (sh48 S) _) (Nat.le_of_ble_eq_true rfl) rfl ?_
      refine m_keep S hI hok (fun g3 hI3 hf3 => ?_)
      have eR : g3 52 2 = nI s.V.R := hI3.2.2.1.2.2.1
      refine T_aload_n (pc2 := 35) dX8_reach_34 rfl rfl ?_
      refine G_getR (pc2 := 38) dX8_reach_35 flX8_19 (sh48 S) rfl rfl ?_
      refine T_iconst (pc2 := 39) dX8_reach_38 ic2 rfl ?_
      refine G_iald (pc2 := 40) dX8_reach_39 (sh52 S) (by omega) (by first | decide | omega) (by first | with_reducible assumption | exact gs_eq _ _ _ _ | exact (gs_ne _ _ (by omega)).trans (by with_reducible assumption) | exact (gs_ne _ _ (by omega)).trans (gs_eq _ _ _ _) | exact (gs_ne _ _ (by omega)).trans ((gs_ne _ _ (by omega)).trans (by with_reducible assumption)) | exact (gs_ne _ _ (by omega)).trans ((gs_ne _ _ (by omega)).trans (gs_eq _ _ _ _)) | exact (gs_ne _ _ (by omega)).trans ((gs_ne _ _ (by omega)).trans ((gs_ne _ _ (by omega)).trans (by with_reducible assumption))) | rfl) rfl ?_
      refine T_istore_n (pc2 := 41) dX8_reach_40 (by decide) rfl ?_
      refine T_aload_n (pc2 := 42) dX8_reach_41 rfl rfl ?_
      refine G_getR (pc2 := 45) dX8_reach_42 flX8_19 (sh48 S) rfl rfl ?_
      refine T_iconst (pc2 := 46) dX8_reach_45 ic2 rfl ?_
      refine T_iload_n (pc2 := 47) dX8_reach_46 rfl rfl ?_
      refine G_iast (pc2 := 48) dX8_reach_47 (sh52 S) (by omega) (by decide) rfl ?_
      refine T_iload_n (pc2 := 49) dX8_reach_48 rfl rfl ?_
      refine T_iret dX8_reach_49 rfl rfl ?_
      exact fm_new k (hI3.cel hI3.2.2.1.setR Fo.rf.st) ((Fr.keep hf3).tr (Fr.rf.st (by omega) (by omega))) hs
    · first | refine B_ifne1 (tgt := 30) dX8_reach_24 (by with_reducible rfl) (by decide) ?_ | refine B_ifne0 (pc2 := 27) (tgt := 30) dX8_reach_24 (by with_reducible rfl) (by decide) rfl ?_ | refine N_ifne (pc2 := 27) (tgt := 30) dX8_reach_24 (by with_reducible rfl) (by decide) (by omega) rfl (fun c24 => ?_) (fun c24 => ?_) | refine T_ifne (pc2 := 27) (tgt := 30) dX8_reach_24 (by decide) rfl (fun c24 => ?_) (fun c24 => ?_)
      refine T_ldc (pc2 := 29) dX8_reach_27 kcX8_70 rfl ?_
      refine T_iret dX8_reach_29 rfl rfl ?_
      refine fm_same k hI Ms.rf ?_
      unfold sReach
      rw [if_neg (by omega), inN_none (fun j hj => hno j (by omega))]
  · first | refine B_ifne1 (tgt := 15) dX8_reach_9 (by with_reducible rfl) (by decide) ?_ | refine B_ifne0 (pc2 := 12) (tgt := 15) dX8_reach_9 (by with_reducible rfl) (by decide) rfl ?_ | refine N_ifne (pc2 := 12) (tgt := 15) dX8_reach_9 (by with_reducible rfl) (by decide) (by omega) rfl (fun c9 => ?_) (fun c9 => ?_) | refine T_ifne (pc2 := 12) (tgt := 15) dX8_reach_9 (by decide) rfl (fun c9 => ?_) (fun c9 => ?_)
    refine T_ldc (pc2 := 14) dX8_reach_12 kcX8_199 rfl ?_
    refine T_iret dX8_reach_14 rfl rfl ?_
    exact fm_same k hI Ms.rf (if_pos h0)
theorem undo_loop {a : Nat} (S : Sh sk n bf im above below) (ha : a < 24) (ea : g 48 9 = nI a) (k : ∀ g2, (∀ q, q < 43 → g2 52 q = g 55 (43 * a + q)) → Fo 52 g g2 → Q (some (.int (nI a))) (HP sk g2 n)) :
    ∀ m t g2, t + m = 43 → (∀ q, q < t → g2 52 q = g 55 (43 * a + q)) → Fo 52 g g2 → T MX8_undo d kc ks 27 [(0, .ref 48), (1, .int (nI t))] [] (HP sk g2 n) Q := by
  intro m
  induction m with
  | zero =>
    intro t g2 ht hc hf
    have ea2 : g2 48 9 = nI a := by rw [hf 48 (by omega)]; exact ea
    refine T_iload_n (pc2 := 28) dX8_undo_27 rfl rfl ?_
    refine T_bipush (pc2 := 30) dX8_undo_28 bp43 rfl ?_
    first | refine N_icmpge (pc2 := 33) (tgt := 59) dX8_undo_30 (by decide) (by with_reducible rfl) (by with_reducible rfl) (by omega) (by omega) rfl (fun c30 => ?_) (fun c30 => ?_) | refine T_icmpge (pc2 := 33) (tgt := 59) dX8_undo_30 (by decide) rfl (fun c30 => ?_) (fun c30 => ?_)
    · refine T_aload_n (pc2 := 60) dX8_undo_59 rfl rfl ?_
      refine G_getI (pc2 := 63) dX8_undo_60 flX8_149 (sh48 S) rfl (by first | with_reducible assumption | exact gs_eq _ _ _ _ | exact (gs_ne _ _ (by omega)).trans (by with_reducible assumption) | exact (gs_ne _ _ (by omega)).trans (gs_eq _ _ _ _) | exact (gs_ne _ _ (by omega)).trans ((gs_ne _ _ (by omega)).trans (by with_reducible assumption)) | exact (gs_ne _ _ (by omega)).trans ((gs_ne _ _ (by omega)).trans (gs_eq _ _ _ _)) | exact (gs_ne _ _ (by omega)).trans ((gs_ne _ _ (by omega)).trans ((gs_ne _ _ (by omega)).trans (by with_reducible assumption))) | rfl) rfl ?_
      refine T_iret dX8_undo_63 rfl rfl ?_
      exact k g2 (fun q hq => hc q (by omega)) hf
    · exact absurd (by omega) c30
  | succ m ih =>
    intro t g2 ht hc hf
    have ea2 : g2 48 9 = nI a := by rw [hf 48 (by omega)]; exact ea
    have e : g2 55 (43 * a + t) = g 55 (43 * a + t) := by rw [hf 55 (by omega)]
    refine T_iload_n (pc2 := 28) dX8_undo_27 rfl rfl ?_
    refine T_bipush (pc2 := 30) dX8_undo_28 bp43 rfl ?_
    first | refine N_icmpge (pc2 := 33) (tgt := 59) dX8_undo_30 (by decide) (by with_reducible rfl) (by with_reducible rfl) (by omega) (by omega) rfl (fun c30 => ?_) (fun c30 => ?_) | refine T_icmpge (pc2 := 33) (tgt := 59) dX8_undo_30 (by decide) rfl (fun c30 => ?_) (fun c30 => ?_)
    · exact absurd c30 (by omega)
    · refine T_aload_n (pc2 := 34) dX8_undo_33 rfl rfl ?_
      refine G_getR (pc2 := 37) dX8_undo_34 flX8_19 (sh48 S) rfl rfl ?_
      refine T_iload_n (pc2 := 38) dX8_undo_37 rfl rfl ?_
      refine T_aload_n (pc2 := 39) dX8_undo_38 rfl rfl ?_
      refine G_getR (pc2 := 42) dX8_undo_39 flX8_28 (sh48 S) rfl rfl ?_
      refine T_bipush (pc2 := 44) dX8_undo_42 bp43 rfl ?_
      refine T_aload_n (pc2 := 45) dX8_undo_44 rfl rfl ?_
      refine G_getI (pc2 := 48) dX8_undo_45 flX8_149 (sh48 S) rfl (by first | with_reducible assumption | exact gs_eq _ _ _ _ | exact (gs_ne _ _ (by omega)).trans (by with_reducible assumption) | exact (gs_ne _ _ (by omega)).trans (gs_eq _ _ _ _) | exact (gs_ne _ _ (by omega)).trans ((gs_ne _ _ (by omega)).trans (by with_reducible assumption)) | exact (gs_ne _ _ (by omega)).trans ((gs_ne _ _ (by omega)).trans (gs_eq _ _ _ _)) | exact (gs_ne _ _ (by omega)).trans ((gs_ne _ _ (by omega)).trans ((gs_ne _ _ (by omega)).trans (by with_reducible assumption))) | rfl) rfl ?_
      first | refine N_imul (pc2 := 49) dX8_undo_48 (by with_reducible rfl) (by with_reducible rfl) rfl ?_ | refine T_imul (pc2 := 49) dX8_undo_48 rfl ?_
      refine T_iload_n (pc2 := 50) dX8_undo_49 rfl rfl ?_
      first | refine N_iadd (pc2 := 51) dX8_undo_50 (by with_reducible rfl) (by with_reducible rfl) rfl ?_ | refine T_iadd (pc2 := 51) dX8_undo_50 rfl ?_
      refine G_iald (pc2 := 52) dX8_undo_51 (sh55 S) (by omega) (by first | decide | omega) (by first | with_reducible assumption | exact gs_eq _ _ _ _ | exact (gs_ne _ _ (by omega)).trans (by with_reducible assumption) | exact (gs_ne _ _ (by omega)).trans (gs_eq _ _ _ _) | exact (gs_ne _ _ (by omega)).trans ((gs_ne _ _ (by omega)).trans (by with_reducible assumption)) | exact (gs_ne _ _ (by omega)).trans ((gs_ne _ _ (by omega)).trans (gs_eq _ _ _ _)) | exact (gs_ne _ _ (by omega)).trans ((gs_ne _ _ (by omega)).trans ((gs_ne _ _ (by omega)).trans (by with_reducible assumption))) | rfl) rfl ?_
      refine G_iast (pc2 := 53) dX8_undo_52 (sh52 S) (by omega) (by decide) rfl ?_
      first | refine N_iinc (pc2 := 56) dX8_undo_53 rfl (by with_reducible rfl) ic1 (by decide) rfl ?_ | refine T_iinc (pc2 := 56) dX8_undo_53 rfl rfl (by decide) rfl ?_
      refine T_goto (tgt := 27) dX8_undo_56 (by decide) ?_
      refine T_sub (lks (i := 0) rfl (lks (i := 1) rfl lk0)) ?_
      refine ih (t + 1) _ (by omega) (fun q hq => ?_) hf.st
      by_cases e : q = t
      · subst e
        rw [gs_eq]
      · rw [gs_ne _ _ (by omega)]
        exact hc q (by omega)
theorem mm_undo (S : Sh sk n bf im above below) (hI : InvM g s) (hok : Ok s) (k : ∀ g2, InvM g2 (sUndo s).2 → Fr 48 62 g g2 → Q (some (.int (sUndo s).1)) (HP sk g2 n)) : Calls MX8_undo (d + 0) 0 0 [.ref 48] (HP sk g n) Q := by
  have hokV := hok.2.2.1.1
  have hJ8 := hokV.1
  refine Calls.of (by decide +kernel) (Nat.le_of_ble_eq_true rfl) ?_
  refine T_aload_n (pc2 := 1) dX8_undo_0 rfl rfl ?_
  refine T_iconst (pc2 := 2) dX8_undo_1 ic0 rfl ?_
  refine G_putI (pc2 := 5) dX8_undo_2 flX8_50 (sh48 S) rfl rfl rfl rfl ?_
  have hI := hI.ms (Ms.rf.st (i := 48) (k := 0) (v := nI 0) (by omega))
  have k := fm_start k
  generalize gset g 48 0 (nI 0) = g1 at hI k ⊢
  have hV := hI.2.2.1
  have ea := hI.2.2.2.1
  have h24 := hok.2.2.2.1
  refine T_aload_n (pc2 := 6) dX8_undo_5 rfl rfl ?_
  refine G_getI (pc2 := 9) dX8_undo_6 flX8_149 (sh48 S) rfl (by first | with_reducible assumption | exact gs_eq _ _ _ _ | exact (gs_ne _ _ (by omega)).trans (by with_reducible assumption) | exact (gs_ne _ _ (by omega)).trans (gs_eq _ _ _ _) | exact (gs_ne _ _ (by omega)).trans ((gs_ne _ _ (by omega)).trans (by with_reducible assumption)) | exact (gs_ne _ _ (by omega)).trans ((gs_ne _ _ (by omega)).trans (gs_eq _ _ _ _)) | exact (gs_ne _ _ (by omega)).trans ((gs_ne _ _ (by omega)).trans ((gs_ne _ _ (by omega)).trans (by with_reducible assumption))) | rfl) rfl ?_
  first | refine B_ifne1 (tgt := 15) dX8_undo_9 (by with_reducible rfl) (by decide) ?_ | refine B_ifne0 (pc2 := 12) (tgt := 15) dX8_undo_9 (by with_reducible rfl) (by decide) rfl ?_ | refine N_ifne (pc2 := 12) (tgt := 15) dX8_undo_9 (by with_reducible rfl) (by decide) (by omega) rfl (fun c9 => ?_) (fun c9 => ?_) | refine T_ifne (pc2 := 12) (tgt := 15) dX8_undo_9 (by decide) rfl (fun c9 => ?_) (fun c9 => ?_)
  · refine T_aload_n (pc2 := 16) dX8_undo_15 rfl rfl ?_
    refine T_dup (pc2 := 17) dX8_undo_16 rfl rfl ?_
    refine G_getI (pc2 := 20) dX8_undo_17 flX8_149 (sh48 S) rfl (by first | with_reducible assumption | exact gs_eq _ _ _ _ | exact (gs_ne _ _ (by omega)).trans (by with_reducible assumption) | exact (gs_ne _ _ (by omega)).trans (gs_eq _ _ _ _) | exact (gs_ne _ _ (by omega)).trans ((gs_ne _ _ (by omega)).trans (by with_reducible assumption)) | exact (gs_ne _ _ (by omega)).trans ((gs_ne _ _ (by omega)).trans (gs_eq _ _ _ _)) | exact (gs_ne _ _ (by omega)).trans ((gs_ne _ _ (by omega)).trans ((gs_ne _ _ (by omega)).trans (by with_reducible assumption))) | rfl) rfl ?_
    refine T_iconst (pc2 := 21) dX8_undo_20 ic1 rfl ?_
    first | refine N_isub (pc2 := 22) dX8_undo_21 (by with_reducible rfl) (by with_reducible rfl) (by omega) rfl ?_ | refine T_isub (pc2 := 22) dX8_undo_21 rfl ?_
    refine G_putI (pc2 := 25) dX8_undo_22 flX8_149 (sh48 S) rfl rfl rfl rfl ?_
    refine T_iconst (pc2 := 26) dX8_undo_25 ic0 rfl ?_
    refine T_istore_n (pc2 := 27) dX8_undo_26 (by decide) rfl ?_
    refine T_sub (lks (i := 0) rfl (lks (i := 1) rfl lk0)) ?_
    have hlast := hI.2.2.2.2.1 0 (by omega)
    refine undo_loop (a := s.an - 1) (g := gset g1 48 9 (nI (s.an - 1))) S (by omega) (gs_eq _ _ _ _) (fun g2 hc hf => ?_) 43 0 _ rfl (fun q hq => absurd hq (Nat.not_lt_zero q)) Fo.rf
    have hrow : ∀ i, i ≠ 48 → i ≠ 52 → g2 i = g1 i := fun i h1 h2 => by rw [hf i h2, gs_row h1]
    have h48 : ∀ q, q ≠ 9 → g2 48 q = g1 48 q := fun q hq => by rw [hf 48 (by decide), gs_ne _ _ (by omega)]
    refine fm_new k ?_ (fun i hi => hrow i (by omega) (by omega)) (if_neg c9)
    unfold InvM hasRm at hI ⊢
    rw [hrow 49 (by decide) (by decide), hrow 50 (by decide) (by decide), hrow 51 (by decide) (by decide), hrow 55 (by decide) (by decide), hrow 56 (by decide) (by decide), hrow 59 (by decide) (by decide), hrow 60 (by decide) (by decide), hrow 61 (by decide) (by decide), h48 1 (by decide), h48 11 (by decide), h48 18 (by decide), h48 27 (by decide)]
    refine ⟨hI.1, hI.2.1, ?_, ?_, fun i hi => ?_, hI.2.2.2.2.2.1, hI.2.2.2.2.2.2⟩
    · refine hasM.copy hlast (fun q hq => ?_) (hok.2.2.2.2.1 0 (by omega)).1.1
      show g2 52 q = g1 55 (43 * (s.an - 1 - 0) + q)
      rw [hc q hq, gs_row (by decide), Nat.sub_zero]
    · rw [hf 48 (by decide), gs_eq]
      rfl
    · have hi : i < s.an - 1 := hi
      have h2 := hI.2.2.2.2.1 (i + 1) (by omega)
      show hasM (fun q => g1 55 (43 * (s.an - 1 - 1 - i) + q)) (s.ac (i + 1))
      rw [show s.an - 1 - 1 - i = s.an - 1 - (i + 1) by omega]
      exact h2
  · refine T_ldc (pc2 := 14) dX8_undo_12 kcX8_199 rfl ?_
    refine T_iret dX8_undo_14 rfl rfl ?_
    exact fm_same k hI Ms.rf (if_pos c9)
theorem mm_jar {j w : Int32} (S : Sh sk n bf im above below) (hI : InvM g s) (hok : Ok s) (k : ∀ g2, InvM g2 (sJar s j w).2 → Fr 48 62 g g2 → Q (some (.int (sJar s j w).1)) (HP sk g2 n)) : Calls MX8_jar (d + 2) 0 0 [.ref 48, .int j, .int w] (HP sk g n) Q := by
  have hokV := hok.2.2.1.1
  have hJ8 := hokV.1
  refine Calls.of (by decide +kernel) (Nat.le_of_ble_eq_true rfl) ?_
  refine T_aload_n (pc2 := 1) dX8_jar_0 rfl rfl ?_
  refine T_iconst (pc2 := 2) dX8_jar_1 ic0 rfl ?_
  refine G_putI (pc2 := 5) dX8_jar_2 flX8_50 (sh48 S) rfl rfl rfl rfl ?_
  have hI := hI.ms (Ms.rf.st (i := 48) (k := 0) (v := nI 0) (by omega))
  have k := fm_start k
  generalize gset g 48 0 (nI 0) = g1 at hI k ⊢
  have hV := hI.2.2.1
  refine T_aload_n (pc2 := 6) dX8_jar_5 rfl rfl ?_
  refine T_iload_n (pc2 := 7) dX8_jar_6 rfl rfl ?_
  refine C_V1 (pc2 := 10) (mc := 0) (ms := 0) dX8_jar_7 cvX8_isJar mlX8_213 (isO.h (sh48 S) _) (Nat.le_of_ble_eq_true rfl) rfl ?_
  refine m_isJar S hV.1 hJ8 (fun i hi ei => ?_) (fun hno => ?_)
  · subst ei
    first | refine B_ifeq1 (pc2 := 13) (tgt := 39) dX8_jar_10 (by with_reducible rfl) (by decide) rfl ?_ | refine B_ifeq0 (tgt := 39) dX8_jar_10 (by with_reducible rfl) (by decide) ?_ | refine N_ifeq (pc2 := 13) (tgt := 39) dX8_jar_10 (by with_reducible rfl) (by decide) (by omega) rfl (fun c10 => ?_) (fun c10 => ?_) | refine T_ifeq (pc2 := 13) (tgt := 39) dX8_jar_10 (by decide) rfl (fun c10 => ?_) (fun c10 => ?_)
    refine T_iload_n (pc2 := 14) dX8_jar_13 rfl rfl ?_
    refine T_i2l (pc2 := 15) dX8_jar_14 rfl ?_
    refine T_lconst (pc2 := 16) (v := lN 0) dX8_jar_15 rfl rfl ?_
    refine T_ldc2 (pc2 := 19) dX8_jar_16 kcX8_227 rfl ?_
    refine C_S3 (pc2 := 22) (mc := 0) (ms := 0) dX8_jar_19 csX8_in mlX8_60 (Nat.le_of_ble_eq_true rfl) rfl ?_
    refine m_inI (k := 3) rfl rfl (by decide) (by decide) (fun x hx ex => ?_) (fun hno => ?_)
    · subst ex
      have hs : sJar s (nI i) (nI x) = (nI (s.V.fld i x), s) := by
        unfold sJar
        rw [inN_some hi (by omega), inN_some (show x < 4 by omega) (by decide)]
      first | refine B_ifeq1 (pc2 := 25) (tgt := 39) dX8_jar_22 (by with_reducible rfl) (by decide) rfl ?_ | refine B_ifeq0 (tgt := 39) dX8_jar_22 (by with_reducible rfl) (by decide) ?_ | refine N_ifeq (pc2 := 25) (tgt := 39) dX8_jar_22 (by with_reducible rfl) (by decide) (by omega) rfl (fun c22 => ?_) (fun c22 => ?_) | refine T_ifeq (pc2 := 25) (tgt := 39) dX8_jar_22 (by decide) rfl (fun c22 => ?_) (fun c22 => ?_)
      refine T_aload_n (pc2 := 26) dX8_jar_25 rfl rfl ?_
      refine G_getR (pc2 := 29) dX8_jar_26 flX8_19 (sh48 S) rfl rfl ?_
      refine T_iload_n (pc2 := 30) dX8_jar_29 rfl rfl ?_
      refine T_iload_n (pc2 := 31) dX8_jar_30 rfl rfl ?_
      refine T_iconst (pc2 := 32) dX8_jar_31 ic1 rfl ?_
      first | refine N_iadd (pc2 := 33) dX8_jar_32 (by with_reducible rfl) (by with_reducible rfl) rfl ?_ | refine T_iadd (pc2 := 33) dX8_jar_32 rfl ?_
      refine C_S3 (pc2 := 36) (mc := 0) (ms := 0) dX8_jar_33 csX8_of mlX8_154 (Nat.le_of_ble_eq_true rfl) rfl ?_
      have ee : g1 52 (3 + 5 * i + (x + 1)) = nI (s.V.fld i x) := by
        have a := hV.2.2.2 i hi
        rcases (by omega : x = 0 ∨ x = 1 ∨ x = 2 ∨ x = 3) with e | e | e | e
        · subst e; exact a.2.1
        · subst e; exact a.2.2.1
        · subst e; exact a.2.2.2.1
        · subst e; exact a.2.2.2.2
      refine m_of (sh52 S) (by omega) ee ?_
      refine T_goto (tgt := 41) dX8_jar_36 (by decide) ?_
      refine T_iret dX8_jar_41 rfl rfl ?_
      exact fm_same k hI Ms.rf hs
    · first | refine B_ifeq1 (pc2 := 25) (tgt := 39) dX8_jar_22 (by with_reducible rfl) (by decide) rfl ?_ | refine B_ifeq0 (tgt := 39) dX8_jar_22 (by with_reducible rfl) (by decide) ?_ | refine N_ifeq (pc2 := 25) (tgt := 39) dX8_jar_22 (by with_reducible rfl) (by decide) (by omega) rfl (fun c22 => ?_) (fun c22 => ?_) | refine T_ifeq (pc2 := 25) (tgt := 39) dX8_jar_22 (by decide) rfl (fun c22 => ?_) (fun c22 => ?_)
      refine T_ldc (pc2 := 41) dX8_jar_39 kcX8_70 rfl ?_
      refine T_iret dX8_jar_41 rfl rfl ?_
      refine fm_same k hI Ms.rf ?_
      unfold sJar
      rw [inN_none (v := w) (k := 4) (fun q hq => hno q (by omega))]
      cases inN (nI i) s.V.J <;> rfl
  · first | refine B_ifeq1 (pc2 := 13) (tgt := 39) dX8_jar_10 (by with_reducible rfl) (by decide) rfl ?_ | refine B_ifeq0 (tgt := 39) dX8_jar_10 (by with_reducible rfl) (by decide) ?_ | refine N_ifeq (pc2 := 13) (tgt := 39) dX8_jar_10 (by with_reducible rfl) (by decide) (by omega) rfl (fun c10 => ?_) (fun c10 => ?_) | refine T_ifeq (pc2 := 13) (tgt := 39) dX8_jar_10 (by decide) rfl (fun c10 => ?_) (fun c10 => ?_)
    refine T_ldc (pc2 := 41) dX8_jar_39 kcX8_70 rfl ?_
    refine T_iret dX8_jar_41 rfl rfl ?_
    refine fm_same k hI Ms.rf ?_
    unfold sJar
    rw [inN_none hno]
theorem mm_stand {h : Int32} (S : Sh sk n bf im above below) (hI : InvM g s) (hok : Ok s) (k : ∀ g2, InvM g2 (sStand s h).2 → Fr 48 62 g g2 → Q (some (.int (sStand s h).1)) (HP sk g2 n)) : Calls MX8_stand (d + 2) 0 0 [.ref 48, .int h] (HP sk g n) Q := by
  have hokV := hok.2.2.1.1
  have hJ8 := hokV.1
  refine Calls.of (by decide +kernel) (Nat.le_of_ble_eq_true rfl) ?_
  refine T_aload_n (pc2 := 1) dX8_stand_0 rfl rfl ?_
  refine T_iconst (pc2 := 2) dX8_stand_1 ic0 rfl ?_
  refine G_putI (pc2 := 5) dX8_stand_2 flX8_50 (sh48 S) rfl rfl rfl rfl ?_
  have hI := hI.ms (Ms.rf.st (i := 48) (k := 0) (v := nI 0) (by omega))
  have k := fm_start k
  generalize gset g 48 0 (nI 0) = g1 at hI k ⊢
  have hV := hI.2.2.1
  refine T_aload_n (pc2 := 6) dX8_stand_5 rfl rfl ?_
  refine C_V0 (pc2 := 9) (mc := 0) (ms := 0) dX8_stand_6 cvX8_isThere mlX8_196 (isO.h (sh48 S) _) (Nat.le_of_ble_eq_true rfl) rfl ?_
  refine m_isThere S hV.1 hJ8 (fun h0 => ?_) (fun h0 => ?_)
  · first | refine B_ifne1 (tgt := 15) dX8_stand_9 (by with_reducible rfl) (by decide) ?_ | refine B_ifne0 (pc2 := 12) (tgt := 15) dX8_stand_9 (by with_reducible rfl) (by decide) rfl ?_ | refine N_ifne (pc2 := 12) (tgt := 15) dX8_stand_9 (by with_reducible rfl) (by decide) (by omega) rfl (fun c9 => ?_) (fun c9 => ?_) | refine T_ifne (pc2 := 12) (tgt := 15) dX8_stand_9 (by decide) rfl (fun c9 => ?_) (fun c9 => ?_)
    refine T_iload_n (pc2 := 16) dX8_stand_15 rfl rfl ?_
    refine T_i2l (pc2 := 17) dX8_stand_16 rfl ?_
    refine T_lconst (pc2 := 18) (v := lN 0) dX8_stand_17 rfl rfl ?_
    refine T_ldc2 (pc2 := 21) dX8_stand_18 kcX8_227 rfl ?_
    refine C_S3 (pc2 := 24) (mc := 0) (ms := 0) dX8_stand_21 csX8_in mlX8_60 (Nat.le_of_ble_eq_true rfl) rfl ?_
    refine m_inI (k := 3) rfl rfl (by decide) (by decide) (fun x hx ex => ?_) (fun hno => ?_)
    · subst ex
      first | refine B_ifeq1 (pc2 := 27) (tgt := 38) dX8_stand_24 (by with_reducible rfl) (by decide) rfl ?_ | refine B_ifeq0 (tgt := 38) dX8_stand_24 (by with_reducible rfl) (by decide) ?_ | refine N_ifeq (pc2 := 27) (tgt := 38) dX8_stand_24 (by with_reducible rfl) (by decide) (by omega) rfl (fun c24 => ?_) (fun c24 => ?_) | refine T_ifeq (pc2 := 27) (tgt := 38) dX8_stand_24 (by decide) rfl (fun c24 => ?_) (fun c24 => ?_)
      refine T_aload_n (pc2 := 28) dX8_stand_27 rfl rfl ?_
      refine G_getR (pc2 := 31) dX8_stand_28 flX8_19 (sh48 S) rfl rfl ?_
      refine T_iload_n (pc2 := 32) dX8_stand_31 rfl rfl ?_
      refine C_S2 (pc2 := 35) (mc := 0) (ms := 0) dX8_stand_32 csX8_those mlX8_175 (Nat.le_of_ble_eq_true rfl) rfl ?_
      refine m_those (sh52 S) hV hJ8 (by omega) (hw31 hokV) ?_
      refine T_goto (tgt := 40) dX8_stand_35 (by decide) ?_
      refine T_iret dX8_stand_40 rfl rfl ?_
      refine fm_same k hI Ms.rf ?_
      unfold sStand
      rw [if_neg (by omega), inN_some (show x < 4 by omega) (by decide)]
    · first | refine B_ifeq1 (pc2 := 27) (tgt := 38) dX8_stand_24 (by with_reducible rfl) (by decide) rfl ?_ | refine B_ifeq0 (tgt := 38) dX8_stand_24 (by with_reducible rfl) (by decide) ?_ | refine N_ifeq (pc2 := 27) (tgt := 38) dX8_stand_24 (by with_reducible rfl) (by decide) (by omega) rfl (fun c24 => ?_) (fun c24 => ?_) | refine T_ifeq (pc2 := 27) (tgt := 38) dX8_stand_24 (by decide) rfl (fun c24 => ?_) (fun c24 => ?_)
      refine T_ldc (pc2 := 40) dX8_stand_38 kcX8_70 rfl ?_
      refine T_iret dX8_stand_40 rfl rfl ?_
      refine fm_same k hI Ms.rf ?_
      unfold sStand
      rw [if_neg (by omega), inN_none (fun j hj => hno j (by omega))]
  · first | refine B_ifne1 (tgt := 15) dX8_stand_9 (by with_reducible rfl) (by decide) ?_ | refine B_ifne0 (pc2 := 12) (tgt := 15) dX8_stand_9 (by with_reducible rfl) (by decide) rfl ?_ | refine N_ifne (pc2 := 12) (tgt := 15) dX8_stand_9 (by with_reducible rfl) (by decide) (by omega) rfl (fun c9 => ?_) (fun c9 => ?_) | refine T_ifne (pc2 := 12) (tgt := 15) dX8_stand_9 (by decide) rfl (fun c9 => ?_) (fun c9 => ?_)
    refine T_ldc (pc2 := 14) dX8_stand_12 kcX8_199 rfl ?_
    refine T_iret dX8_stand_14 rfl rfl ?_
    exact fm_same k hI Ms.rf (if_pos h0)
theorem mm_chain {nt p w : Int32} (S : Sh sk n bf im above below) (hI : InvM g s) (hok : Ok s) (k : ∀ g2, InvM g2 (sChain s nt p w).2 → Fr 48 62 g g2 → Q (some (.int (sChain s nt p w).1)) (HP sk g2 n)) : Calls MX8_chain (d + 3) 0 0 [.ref 48, .int nt, .int p, .int w] (HP sk g n) Q := by
  have hokV := hok.2.2.1.1
  have hJ8 := hokV.1
  refine Calls.of (by decide +kernel) (Nat.le_of_ble_eq_true rfl) ?_
  refine T_aload_n (pc2 := 1) dX8_chain_0 rfl rfl ?_
  refine T_iconst (pc2 := 2) dX8_chain_1 ic0 rfl ?_
  refine G_putI (pc2 := 5) dX8_chain_2 flX8_50 (sh48 S) rfl rfl rfl rfl ?_
  have hI := hI.ms (Ms.rf.st (i := 48) (k := 0) (v := nI 0) (by omega))
  have k := fm_start k
  generalize gset g 48 0 (nI 0) = g1 at hI k ⊢
  have hV := hI.2.2.1
  refine T_iload_n (pc2 := 6) dX8_chain_5 rfl rfl ?_
  refine T_i2l (pc2 := 7) dX8_chain_6 rfl ?_
  refine C_S1 (pc2 := 10) (mc := 0) (ms := 0) dX8_chain_7 csX8_isNote mlX8_209 (Nat.le_of_ble_eq_true rfl) rfl ?_
  refine m_isNote rfl (fun a ha ea => ?_) (fun hno => ?_)
  · subst ea
    first | refine B_ifeq1 (pc2 := 13) (tgt := 31) dX8_chain_10 (by with_reducible rfl) (by decide) rfl ?_ | refine B_ifeq0 (tgt := 31) dX8_chain_10 (by with_reducible rfl) (by decide) ?_ | refine N_ifeq (pc2 := 13) (tgt := 31) dX8_chain_10 (by with_reducible rfl) (by decide) (by omega) rfl (fun c10 => ?_) (fun c10 => ?_) | refine T_ifeq (pc2 := 13) (tgt := 31) dX8_chain_10 (by decide) rfl (fun c10 => ?_) (fun c10 => ?_)
    refine T_aload_n (pc2 := 14) dX8_chain_13 rfl rfl ?_
    refine T_iload_n (pc2 := 15) dX8_chain_14 rfl rfl ?_
    refine C_V1 (pc2 := 18) (mc := 0) (ms := 0) dX8_chain_15 cvX8_isJar mlX8_213 (isO.h (sh48 S) _) (Nat.le_of_ble_eq_true rfl) rfl ?_
    refine m_isJar S hV.1 hJ8 (fun j hj ej => ?_) (fun hno => ?_)
    · subst ej
      first | refine B_ifeq1 (pc2 := 21) (tgt := 31) dX8_chain_18 (by with_reducible rfl) (by decide) rfl ?_ | refine B_ifeq0 (tgt := 31) dX8_chain_18 (by with_reducible rfl) (by decide) ?_ | refine N_ifeq (pc2 := 21) (tgt := 31) dX8_chain_18 (by with_reducible rfl) (by decide) (by omega) rfl (fun c18 => ?_) (fun c18 => ?_) | refine T_ifeq (pc2 := 21) (tgt := 31) dX8_chain_18 (by decide) rfl (fun c18 => ?_) (fun c18 => ?_)
      refine T_iload_n (pc2 := 22) dX8_chain_21 rfl rfl ?_
      refine T_i2l (pc2 := 23) dX8_chain_22 rfl ?_
      refine T_lconst (pc2 := 24) (v := lN 0) dX8_chain_23 rfl rfl ?_
      refine T_lconst (pc2 := 25) (v := lN 1) dX8_chain_24 rfl rfl ?_
      refine C_S3 (pc2 := 28) (mc := 0) (ms := 0) dX8_chain_25 csX8_in mlX8_60 (Nat.le_of_ble_eq_true rfl) rfl ?_
      refine m_inI (k := 1) rfl rfl (by decide) (by decide) (fun x hx ex => ?_) (fun hno => ?_)
      · subst ex
        have hs : sChain s (nI a) (nI j) (nI x) = (if x = 0 then nI (bm (s.V.brk a j (s.V.th 0)) 8) else nI (s.V.chn a j (s.V.th 0)).2, s) := by
          unfold sChain
          rw [inN_some ha (by decide), inN_some hj (by omega), inN_some (show x < 2 by omega) (by decide)]
        first | refine B_ifne1 (tgt := 34) dX8_chain_28 (by with_reducible rfl) (by decide) ?_ | refine B_ifne0 (pc2 := 31) (tgt := 34) dX8_chain_28 (by with_reducible rfl) (by decide) rfl ?_ | refine N_ifne (pc2 := 31) (tgt := 34) dX8_chain_28 (by with_reducible rfl) (by decide) (by omega) rfl (fun c28 => ?_) (fun c28 => ?_) | refine T_ifne (pc2 := 31) (tgt := 34) dX8_chain_28 (by decide) rfl (fun c28 => ?_) (fun c28 => ?_)
        refine T_aload_n (pc2 := 35) dX8_chain_34 rfl rfl ?_
        refine T_aload_n (pc2 := 36) dX8_chain_35 rfl rfl ?_
        refine G_getR (pc2 := 39) dX8_chain_36 flX8_19 (sh48 S) rfl rfl ?_
        refine T_iload_n (pc2 := 40) dX8_chain_39 rfl rfl ?_
        refine T_iload_n (pc2 := 41) dX8_chain_40 rfl rfl ?_
        refine T_aload_n (pc2 := 42) dX8_chain_41 rfl rfl ?_
        refine G_getR (pc2 := 45) dX8_chain_42 flX8_19 (sh48 S) rfl rfl ?_
        refine T_iconst (pc2 := 46) dX8_chain_45 ic0 rfl ?_
        refine C_S2 (pc2 := 49) (mc := 0) (ms := 0) dX8_chain_46 csX8_those mlX8_175 (Nat.le_of_ble_eq_true rfl) rfl ?_
        refine m_those (sh52 S) hV hJ8 (by decide) (hw31 hokV) ?_
        refine C_V4 (pc2 := 52) (mc := 0) (ms := 0) dX8_chain_49 cvX8_chainOf mlX8_179 (isO.h (sh48 S) _) (Nat.le_of_ble_eq_true rfl) rfl ?_
        refine m_chain S (sh52 S) (by decide) hV hokV.d ha hj (fun g3 e21 hf3 => ?_)
        refine T_istore (pc2 := 54) dX8_chain_52 (by decide) rfl ?_
        refine T_iload_n (pc2 := 55) dX8_chain_54 rfl rfl ?_
        first | refine B_ifne1 (tgt := 63) dX8_chain_55 (by with_reducible rfl) (by decide) ?_ | refine B_ifne0 (pc2 := 58) (tgt := 63) dX8_chain_55 (by with_reducible rfl) (by decide) rfl ?_ | refine N_ifne (pc2 := 58) (tgt := 63) dX8_chain_55 (by with_reducible rfl) (by decide) (by omega) rfl (fun c55 => ?_) (fun c55 => ?_) | refine T_ifne (pc2 := 58) (tgt := 63) dX8_chain_55 (by decide) rfl (fun c55 => ?_) (fun c55 => ?_)
        · refine T_aload_n (pc2 := 64) dX8_chain_63 rfl rfl ?_
          refine G_getI (pc2 := 67) dX8_chain_64 flX8_164 (sh48 S) rfl (by first | with_reducible assumption | exact gs_eq _ _ _ _ | exact (gs_ne _ _ (by omega)).trans (by with_reducible assumption) | exact (gs_ne _ _ (by omega)).trans (gs_eq _ _ _ _) | exact (gs_ne _ _ (by omega)).trans ((gs_ne _ _ (by omega)).trans (by with_reducible assumption)) | exact (gs_ne _ _ (by omega)).trans ((gs_ne _ _ (by omega)).trans (gs_eq _ _ _ _)) | exact (gs_ne _ _ (by omega)).trans ((gs_ne _ _ (by omega)).trans ((gs_ne _ _ (by omega)).trans (by with_reducible assumption))) | rfl) rfl ?_
          refine T_iret dX8_chain_67 rfl rfl ?_
          exact fm_same k hI hf3.ms (by rw [hs, if_neg c55])
        · refine T_iload (pc2 := 60) dX8_chain_58 rfl rfl ?_
          refine T_goto (tgt := 67) dX8_chain_60 (by decide) ?_
          refine T_iret dX8_chain_67 rfl rfl ?_
          exact fm_same k hI hf3.ms (by rw [hs, if_pos c55])
      · first | refine B_ifne1 (tgt := 34) dX8_chain_28 (by with_reducible rfl) (by decide) ?_ | refine B_ifne0 (pc2 := 31) (tgt := 34) dX8_chain_28 (by with_reducible rfl) (by decide) rfl ?_ | refine N_ifne (pc2 := 31) (tgt := 34) dX8_chain_28 (by with_reducible rfl) (by decide) (by omega) rfl (fun c28 => ?_) (fun c28 => ?_) | refine T_ifne (pc2 := 31) (tgt := 34) dX8_chain_28 (by decide) rfl (fun c28 => ?_) (fun c28 => ?_)
        refine T_ldc (pc2 := 33) dX8_chain_31 kcX8_70 rfl ?_
        refine T_iret dX8_chain_33 rfl rfl ?_
        refine fm_same k hI Ms.rf ?_
        unfold sChain
        rw [inN_none (v := w) (k := 2) (fun q hq => hno q (by omega))]
        cases inN (nI a) 12 <;> cases inN (nI j) s.V.J <;> rfl
    · first | refine B_ifeq1 (pc2 := 21) (tgt := 31) dX8_chain_18 (by with_reducible rfl) (by decide) rfl ?_ | refine B_ifeq0 (tgt := 31) dX8_chain_18 (by with_reducible rfl) (by decide) ?_ | refine N_ifeq (pc2 := 21) (tgt := 31) dX8_chain_18 (by with_reducible rfl) (by decide) (by omega) rfl (fun c18 => ?_) (fun c18 => ?_) | refine T_ifeq (pc2 := 21) (tgt := 31) dX8_chain_18 (by decide) rfl (fun c18 => ?_) (fun c18 => ?_)
      refine T_ldc (pc2 := 33) dX8_chain_31 kcX8_70 rfl ?_
      refine T_iret dX8_chain_33 rfl rfl ?_
      refine fm_same k hI Ms.rf ?_
      unfold sChain
      rw [inN_none (v := p) hno]
      cases inN (nI a) 12 <;> rfl
  · first | refine B_ifeq1 (pc2 := 13) (tgt := 31) dX8_chain_10 (by with_reducible rfl) (by decide) rfl ?_ | refine B_ifeq0 (tgt := 31) dX8_chain_10 (by with_reducible rfl) (by decide) ?_ | refine N_ifeq (pc2 := 13) (tgt := 31) dX8_chain_10 (by with_reducible rfl) (by decide) (by omega) rfl (fun c10 => ?_) (fun c10 => ?_) | refine T_ifeq (pc2 := 13) (tgt := 31) dX8_chain_10 (by decide) rfl (fun c10 => ?_) (fun c10 => ?_)
    refine T_ldc (pc2 := 33) dX8_chain_31 kcX8_70 rfl ?_
    refine T_iret dX8_chain_33 rfl rfl ?_
    refine fm_same k hI Ms.rf ?_
    unfold sChain
    rw [inN_none hno]
theorem mm_worst {w : Int32} (S : Sh sk n bf im above below) (hI : InvM g s) (hok : Ok s) (k : ∀ g2, InvM g2 (sWorst s w).2 → Fr 48 62 g g2 → Q (some (.int (sWorst s w).1)) (HP sk g2 n)) : Calls MX8_worst (d + 4) 0 0 [.ref 48, .int w] (HP sk g n) Q := by
  have hokV := hok.2.2.1.1
  have hJ8 := hokV.1
  refine Calls.of (by decide +kernel) (Nat.le_of_ble_eq_true rfl) ?_
  refine T_aload_n (pc2 := 1) dX8_worst_0 rfl rfl ?_
  refine T_iconst (pc2 := 2) dX8_worst_1 ic0 rfl ?_
  refine G_putI (pc2 := 5) dX8_worst_2 flX8_50 (sh48 S) rfl rfl rfl rfl ?_
  have hI := hI.ms (Ms.rf.st (i := 48) (k := 0) (v := nI 0) (by omega))
  have k := fm_start k
  generalize gset g 48 0 (nI 0) = g1 at hI k ⊢
  have hV := hI.2.2.1
  refine T_aload_n (pc2 := 6) dX8_worst_5 rfl rfl ?_
  refine C_V0 (pc2 := 9) (mc := 0) (ms := 0) dX8_worst_6 cvX8_isThere mlX8_196 (isO.h (sh48 S) _) (Nat.le_of_ble_eq_true rfl) rfl ?_
  refine m_isThere S hV.1 hJ8 (fun h0 => ?_) (fun h0 => ?_)
  · first | refine B_ifne1 (tgt := 15) dX8_worst_9 (by with_reducible rfl) (by decide) ?_ | refine B_ifne0 (pc2 := 12) (tgt := 15) dX8_worst_9 (by with_reducible rfl) (by decide) rfl ?_ | refine N_ifne (pc2 := 12) (tgt := 15) dX8_worst_9 (by with_reducible rfl) (by decide) (by omega) rfl (fun c9 => ?_) (fun c9 => ?_) | refine T_ifne (pc2 := 12) (tgt := 15) dX8_worst_9 (by decide) rfl (fun c9 => ?_) (fun c9 => ?_)
    refine T_iload_n (pc2 := 16) dX8_worst_15 rfl rfl ?_
    refine T_i2l (pc2 := 17) dX8_worst_16 rfl ?_
    refine T_lconst (pc2 := 18) (v := lN 0) dX8_worst_17 rfl rfl ?_
    refine T_lconst (pc2 := 19) (v := lN 1) dX8_worst_18 rfl rfl ?_
    refine C_S3 (pc2 := 22) (mc := 0) (ms := 0) dX8_worst_19 csX8_in mlX8_60 (Nat.le_of_ble_eq_true rfl) rfl ?_
    refine m_inI (k := 1) rfl rfl (by decide) (by decide) (fun x hx ex => ?_) (fun hno => ?_)
    · subst ex
      first | refine B_ifne1 (tgt := 28) dX8_worst_22 (by with_reducible rfl) (by decide) ?_ | refine B_ifne0 (pc2 := 25) (tgt := 28) dX8_worst_22 (by with_reducible rfl) (by decide) rfl ?_ | refine N_ifne (pc2 := 25) (tgt := 28) dX8_worst_22 (by with_reducible rfl) (by decide) (by omega) rfl (fun c22 => ?_) (fun c22 => ?_) | refine T_ifne (pc2 := 25) (tgt := 28) dX8_worst_22 (by decide) rfl (fun c22 => ?_) (fun c22 => ?_)
      refine T_aload_n (pc2 := 29) dX8_worst_28 rfl rfl ?_
      refine T_aload_n (pc2 := 30) dX8_worst_29 rfl rfl ?_
      refine G_getR (pc2 := 33) dX8_worst_30 flX8_19 (sh48 S) rfl rfl ?_
      refine C_V1 (pc2 := 36) (mc := 0) (ms := 0) dX8_worst_33 cvX8_worstOf mlX8_229 (isO.h (sh48 S) _) (Nat.le_of_ble_eq_true rfl) rfl ?_
      refine m_worst S (sh52 S) (by decide) hV hokV.d h0 (fun g3 ea eb hf3 => ?_)
      refine T_istore_n (pc2 := 37) dX8_worst_36 (by decide) rfl ?_
      refine T_iload_n (pc2 := 38) dX8_worst_37 rfl rfl ?_
      first | refine B_ifne1 (tgt := 56) dX8_worst_38 (by with_reducible rfl) (by decide) ?_ | refine B_ifne0 (pc2 := 41) (tgt := 56) dX8_worst_38 (by with_reducible rfl) (by decide) rfl ?_ | refine N_ifne (pc2 := 41) (tgt := 56) dX8_worst_38 (by with_reducible rfl) (by decide) (by omega) rfl (fun c38 => ?_) (fun c38 => ?_) | refine T_ifne (pc2 := 41) (tgt := 56) dX8_worst_38 (by decide) rfl (fun c38 => ?_) (fun c38 => ?_)
      · refine T_iload_n (pc2 := 57) dX8_worst_56 rfl rfl ?_
        refine T_iret dX8_worst_57 rfl rfl ?_
        refine fm_same k hI hf3.ms ?_
        unfold sWorst q2
        rw [if_neg (by omega), inN_some (show x < 2 by omega) (by decide)]
        show (if x = 0 then _ else _, s) = _
        rw [if_neg c38]
      · refine T_bipush (pc2 := 43) dX8_worst_41 bp100 rfl ?_
        refine T_aload_n (pc2 := 44) dX8_worst_43 rfl rfl ?_
        refine G_getI (pc2 := 47) dX8_worst_44 flX8_186 (sh48 S) rfl (by first | with_reducible assumption | exact gs_eq _ _ _ _ | exact (gs_ne _ _ (by omega)).trans (by with_reducible assumption) | exact (gs_ne _ _ (by omega)).trans (gs_eq _ _ _ _) | exact (gs_ne _ _ (by omega)).trans ((gs_ne _ _ (by omega)).trans (by with_reducible assumption)) | exact (gs_ne _ _ (by omega)).trans ((gs_ne _ _ (by omega)).trans (gs_eq _ _ _ _)) | exact (gs_ne _ _ (by omega)).trans ((gs_ne _ _ (by omega)).trans ((gs_ne _ _ (by omega)).trans (by with_reducible assumption))) | rfl) rfl ?_
        first | refine N_imul (pc2 := 48) dX8_worst_47 (by with_reducible rfl) (by with_reducible rfl) rfl ?_ | refine T_imul (pc2 := 48) dX8_worst_47 rfl ?_
        refine T_aload_n (pc2 := 49) dX8_worst_48 rfl rfl ?_
        refine G_getI (pc2 := 52) dX8_worst_49 flX8_189 (sh48 S) rfl (by first | with_reducible assumption | exact gs_eq _ _ _ _ | exact (gs_ne _ _ (by omega)).trans (by with_reducible assumption) | exact (gs_ne _ _ (by omega)).trans (gs_eq _ _ _ _) | exact (gs_ne _ _ (by omega)).trans ((gs_ne _ _ (by omega)).trans (by with_reducible assumption)) | exact (gs_ne _ _ (by omega)).trans ((gs_ne _ _ (by omega)).trans (gs_eq _ _ _ _)) | exact (gs_ne _ _ (by omega)).trans ((gs_ne _ _ (by omega)).trans ((gs_ne _ _ (by omega)).trans (by with_reducible assumption))) | rfl) rfl ?_
        first | refine N_iadd (pc2 := 53) dX8_worst_52 (by with_reducible rfl) (by with_reducible rfl) rfl ?_ | refine T_iadd (pc2 := 53) dX8_worst_52 rfl ?_
        refine T_goto (tgt := 57) dX8_worst_53 (by decide) ?_
        refine T_iret dX8_worst_57 rfl rfl ?_
        refine fm_same k hI hf3.ms ?_
        unfold sWorst q2
        rw [if_neg (by omega), inN_some (show x < 2 by omega) (by decide)]
        show (if x = 0 then _ else _, s) = _
        rw [if_pos c38]
    · first | refine B_ifne1 (tgt := 28) dX8_worst_22 (by with_reducible rfl) (by decide) ?_ | refine B_ifne0 (pc2 := 25) (tgt := 28) dX8_worst_22 (by with_reducible rfl) (by decide) rfl ?_ | refine N_ifne (pc2 := 25) (tgt := 28) dX8_worst_22 (by with_reducible rfl) (by decide) (by omega) rfl (fun c22 => ?_) (fun c22 => ?_) | refine T_ifne (pc2 := 25) (tgt := 28) dX8_worst_22 (by decide) rfl (fun c22 => ?_) (fun c22 => ?_)
      refine T_ldc (pc2 := 27) dX8_worst_25 kcX8_70 rfl ?_
      refine T_iret dX8_worst_27 rfl rfl ?_
      refine fm_same k hI Ms.rf ?_
      unfold sWorst q2
      rw [if_neg (by omega), inN_none (fun j hj => hno j (by omega))]
  · first | refine B_ifne1 (tgt := 15) dX8_worst_9 (by with_reducible rfl) (by decide) ?_ | refine B_ifne0 (pc2 := 12) (tgt := 15) dX8_worst_9 (by with_reducible rfl) (by decide) rfl ?_ | refine N_ifne (pc2 := 12) (tgt := 15) dX8_worst_9 (by with_reducible rfl) (by decide) (by omega) rfl (fun c9 => ?_) (fun c9 => ?_) | refine T_ifne (pc2 := 12) (tgt := 15) dX8_worst_9 (by decide) rfl (fun c9 => ?_) (fun c9 => ?_)
    refine T_ldc (pc2 := 14) dX8_worst_12 kcX8_199 rfl ?_
    refine T_iret dX8_worst_14 rfl rfl ?_
    exact fm_same k hI Ms.rf (if_pos h0)
theorem mm_when {j : Int32} (S : Sh sk n bf im above below) (hI : InvM g s) (hok : Ok s) (k : ∀ g2, InvM g2 (sWhen s j).2 → Fr 48 62 g g2 → Q (some (.int (sWhen s j).1)) (HP sk g2 n)) : Calls MX8_when (d + 2) 0 0 [.ref 48, .int j] (HP sk g n) Q := by
  have hokV := hok.2.2.1.1
  have hJ8 := hokV.1
  refine Calls.of (by decide +kernel) (Nat.le_of_ble_eq_true rfl) ?_
  refine T_aload_n (pc2 := 1) dX8_when_0 rfl rfl ?_
  refine T_iconst (pc2 := 2) dX8_when_1 ic0 rfl ?_
  refine G_putI (pc2 := 5) dX8_when_2 flX8_50 (sh48 S) rfl rfl rfl rfl ?_
  have hI := hI.ms (Ms.rf.st (i := 48) (k := 0) (v := nI 0) (by omega))
  have k := fm_start k
  generalize gset g 48 0 (nI 0) = g1 at hI k ⊢
  have hV := hI.2.2.1
  refine T_aload_n (pc2 := 6) dX8_when_5 rfl rfl ?_
  refine T_iload_n (pc2 := 7) dX8_when_6 rfl rfl ?_
  refine C_V1 (pc2 := 10) (mc := 0) (ms := 0) dX8_when_7 cvX8_isJar mlX8_213 (isO.h (sh48 S) _) (Nat.le_of_ble_eq_true rfl) rfl ?_
  refine m_isJar S hV.1 hJ8 (fun i hi ei => ?_) (fun hno => ?_)
  · subst ei
    have eh := hV.2.2.2 i hi
    have o3 := (hokV.2.2.2.1 i hi).2.2.2.2.2.2
    have hs : sWhen s (nI i) = (if s.V.hw i = 0 then nI (s.V.kp i) else if s.V.hw i = 2 then nI 0 else NONE, s) := by
      unfold sWhen
      rw [inN_some hi (by omega)]
    first | refine B_ifne1 (tgt := 16) dX8_when_10 (by with_reducible rfl) (by decide) ?_ | refine B_ifne0 (pc2 := 13) (tgt := 16) dX8_when_10 (by with_reducible rfl) (by decide) rfl ?_ | refine N_ifne (pc2 := 13) (tgt := 16) dX8_when_10 (by with_reducible rfl) (by decide) (by omega) rfl (fun c10 => ?_) (fun c10 => ?_) | refine T_ifne (pc2 := 13) (tgt := 16) dX8_when_10 (by decide) rfl (fun c10 => ?_) (fun c10 => ?_)
    refine T_aload_n (pc2 := 17) dX8_when_16 rfl rfl ?_
    refine G_getR (pc2 := 20) dX8_when_17 flX8_19 (sh48 S) rfl rfl ?_
    refine T_iload_n (pc2 := 21) dX8_when_20 rfl rfl ?_
    refine T_iconst (pc2 := 22) dX8_when_21 ic4 rfl ?_
    refine C_S3 (pc2 := 25) (mc := 0) (ms := 0) dX8_when_22 csX8_of mlX8_154 (Nat.le_of_ble_eq_true rfl) rfl ?_
    refine m_of (sh52 S) (by omega) eh.2.2.2.2 ?_
    refine T_istore_n (pc2 := 26) dX8_when_25 (by decide) rfl ?_
    refine T_iload_n (pc2 := 27) dX8_when_26 rfl rfl ?_
    first | refine B_ifne1 (tgt := 42) dX8_when_27 (by with_reducible rfl) (by decide) ?_ | refine B_ifne0 (pc2 := 30) (tgt := 42) dX8_when_27 (by with_reducible rfl) (by decide) rfl ?_ | refine N_ifne (pc2 := 30) (tgt := 42) dX8_when_27 (by with_reducible rfl) (by decide) (by omega) rfl (fun c27 => ?_) (fun c27 => ?_) | refine T_ifne (pc2 := 30) (tgt := 42) dX8_when_27 (by decide) rfl (fun c27 => ?_) (fun c27 => ?_)
    · refine T_iload_n (pc2 := 43) dX8_when_42 rfl rfl ?_
      refine T_iconst (pc2 := 44) dX8_when_43 ic2 rfl ?_
      first | refine N_icmpne (pc2 := 47) (tgt := 51) dX8_when_44 (by decide) (by with_reducible rfl) (by with_reducible rfl) (by omega) (by omega) rfl (fun c44 => ?_) (fun c44 => ?_) | refine T_icmpne (pc2 := 47) (tgt := 51) dX8_when_44 (by decide) rfl (fun c44 => ?_) (fun c44 => ?_)
      · refine T_ldc (pc2 := 53) dX8_when_51 kcX8_93 rfl ?_
        refine T_iret dX8_when_53 rfl rfl ?_
        exact fm_same k hI Ms.rf (by rw [hs, if_neg c27, if_neg c44])
      · refine T_iconst (pc2 := 48) dX8_when_47 ic0 rfl ?_
        refine T_goto (tgt := 53) dX8_when_48 (by decide) ?_
        refine T_iret dX8_when_53 rfl rfl ?_
        exact fm_same k hI Ms.rf (by rw [hs, if_neg c27, if_pos c44])
    · refine T_aload_n (pc2 := 31) dX8_when_30 rfl rfl ?_
      refine G_getR (pc2 := 34) dX8_when_31 flX8_19 (sh48 S) rfl rfl ?_
      refine T_iload_n (pc2 := 35) dX8_when_34 rfl rfl ?_
      refine T_iconst (pc2 := 36) dX8_when_35 ic2 rfl ?_
      refine C_S3 (pc2 := 39) (mc := 0) (ms := 0) dX8_when_36 csX8_of mlX8_154 (Nat.le_of_ble_eq_true rfl) rfl ?_
      refine m_of (sh52 S) (by omega) eh.2.2.1 ?_
      refine T_goto (tgt := 53) dX8_when_39 (by decide) ?_
      refine T_iret dX8_when_53 rfl rfl ?_
      exact fm_same k hI Ms.rf (by rw [hs, if_pos c27])
  · first | refine B_ifne1 (tgt := 16) dX8_when_10 (by with_reducible rfl) (by decide) ?_ | refine B_ifne0 (pc2 := 13) (tgt := 16) dX8_when_10 (by with_reducible rfl) (by decide) rfl ?_ | refine N_ifne (pc2 := 13) (tgt := 16) dX8_when_10 (by with_reducible rfl) (by decide) (by omega) rfl (fun c10 => ?_) (fun c10 => ?_) | refine T_ifne (pc2 := 13) (tgt := 16) dX8_when_10 (by decide) rfl (fun c10 => ?_) (fun c10 => ?_)
    refine T_ldc (pc2 := 15) dX8_when_13 kcX8_70 rfl ?_
    refine T_iret dX8_when_15 rfl rfl ?_
    refine fm_same k hI Ms.rf ?_
    unfold sWhen
    rw [inN_none hno]
end MAct

