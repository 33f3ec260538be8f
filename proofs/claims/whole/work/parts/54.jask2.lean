/-! the class's calls: rows asked, kinds, traces, counts -/
section JAsk2
variable {sk : Nat → SK} {g : Nat → Nat → Int32} {n : Nat} {Q : Option Value → SH → Prop} {d kc ks : Nat} {bf im : Nat → Option Nat} {above below : Int64} {nx : Nat} {s : ST}
theorem fin_scrfd {g2 : Nat → Nat → Int32} {sp : Int32 × ST} (k : ∀ sk2 g2 n2, InvJ sk2 g2 n2 sp.2 → FrJ sk g sk2 g2 → Q (some (.int sp.1)) (HP sk2 g2 n2)) (hI : JJ sk g n bf im above below nx s) (hf : Fr 34 45 g g2) {v : Int32} {f : Nat} (e : sp = (v, s.setfd f)) : Q (some (.int v)) (HP sk (gset g2 4 9 (nI f)) n) :=
  fin_new k ((hI.scr hf).fd f) ⟨rfl, fun i hi => by rw [gs_row (by omega)]; exact hf i (by omega)⟩ e
theorem isA_m1 {w t : Nat} (S : Sh sk n bf im above below) (ht : t < 6) (k : Q (some (.int (nI 0))) (HP sk g n)) : T MX7_isA (d + 1) kc ks 4 [(1, .int (nI w)), (2, .int (-1)), (3, .int (nI t))] [] (HP sk g n) Q := by
  refine T_iload_n (pc2 := 5) dX7_isA_4 rfl rfl ?_
  refine T_bipush (pc2 := 7) dX7_isA_5 bp6 rfl ?_
  first | refine N_icmpge (pc2 := 10) (tgt := 38) dX7_isA_7 (by decide) (by with_reducible rfl) (by with_reducible rfl) (by omega) (by omega) rfl (fun c7 => ?_) (fun c7 => ?_) | refine T_icmpge (pc2 := 10) (tgt := 38) dX7_isA_7 (by decide) rfl (fun c7 => ?_) (fun c7 => ?_)
  · omega
  · refine T_iload_n (pc2 := 11) dX7_isA_10 rfl rfl ?_
    refine T_iconst (pc2 := 12) dX7_isA_11 ic0 rfl ?_
    refine T_iconst (pc2 := 13) dX7_isA_12 ic5 rfl ?_
    refine C_S3 (pc2 := 16) (mc := 0) (ms := 0) dX7_isA_13 csX7_within mlX7_62 (Nat.le_of_ble_eq_true rfl) rfl ?_
    refine c_within (fun h1 _ => absurd h1 (by decide)) (fun _ => ?_)
    first | refine B_ifeq1 (pc2 := 19) (tgt := 38) dX7_isA_16 (by with_reducible rfl) (by decide) rfl ?_ | refine B_ifeq0 (tgt := 38) dX7_isA_16 (by with_reducible rfl) (by decide) ?_ | refine N_ifeq (pc2 := 19) (tgt := 38) dX7_isA_16 (by with_reducible rfl) (by decide) (by omega) rfl (fun c16 => ?_) (fun c16 => ?_) | refine T_ifeq (pc2 := 19) (tgt := 38) dX7_isA_16 (by decide) rfl (fun c16 => ?_) (fun c16 => ?_)
    refine T_iconst (pc2 := 39) dX7_isA_38 ic0 rfl ?_
    refine T_iret dX7_isA_39 rfl (by first | rfl | decide) ?_
    exact k
theorem isA_step {kd w t : Nat} {b : Int32} (S : Sh sk n bf im above below) (hs : stat g) (hk : kd < 6) (hw : w < 6) (ht : t < 6) (hb : kaT kd = b) (k1 : kd = w → Q (some (.int (nI 1))) (HP sk g n)) (k0 : kd ≠ w → T MX7_isA (d + 1) kc ks 4 [(1, .int (nI w)), (2, .int b), (3, .int (nI (t + 1)))] [] (HP sk g n) Q) : T MX7_isA (d + 1) kc ks 4 [(1, .int (nI w)), (2, .int (nI kd)), (3, .int (nI t))] [] (HP sk g n) Q := by
  refine T_iload_n (pc2 := 5) dX7_isA_4 rfl rfl ?_
  refine T_bipush (pc2 := 7) dX7_isA_5 bp6 rfl ?_
  first | refine N_icmpge (pc2 := 10) (tgt := 38) dX7_isA_7 (by decide) (by with_reducible rfl) (by with_reducible rfl) (by omega) (by omega) rfl (fun c7 => ?_) (fun c7 => ?_) | refine T_icmpge (pc2 := 10) (tgt := 38) dX7_isA_7 (by decide) rfl (fun c7 => ?_) (fun c7 => ?_)
  · omega
  · refine T_iload_n (pc2 := 11) dX7_isA_10 rfl rfl ?_
    refine T_iconst (pc2 := 12) dX7_isA_11 ic0 rfl ?_
    refine T_iconst (pc2 := 13) dX7_isA_12 ic5 rfl ?_
    refine C_S3 (pc2 := 16) (mc := 0) (ms := 0) dX7_isA_13 csX7_within mlX7_62 (Nat.le_of_ble_eq_true rfl) rfl ?_
    refine c_withinI (by decide) (fun x hx ex => ?_) (fun hno => ?_)
    · have e : kd = x := (nI_eq (by omega) (by omega)).mp ex
      subst e
      first | refine B_ifeq1 (pc2 := 19) (tgt := 38) dX7_isA_16 (by with_reducible rfl) (by decide) rfl ?_ | refine B_ifeq0 (tgt := 38) dX7_isA_16 (by with_reducible rfl) (by decide) ?_ | refine N_ifeq (pc2 := 19) (tgt := 38) dX7_isA_16 (by with_reducible rfl) (by decide) (by omega) rfl (fun c16 => ?_) (fun c16 => ?_) | refine T_ifeq (pc2 := 19) (tgt := 38) dX7_isA_16 (by decide) rfl (fun c16 => ?_) (fun c16 => ?_)
      refine T_iload_n (pc2 := 20) dX7_isA_19 rfl rfl ?_
      refine T_iload_n (pc2 := 21) dX7_isA_20 rfl rfl ?_
      first | refine N_icmpne (pc2 := 24) (tgt := 26) dX7_isA_21 (by decide) (by with_reducible rfl) (by with_reducible rfl) (by omega) (by omega) rfl (fun c21 => ?_) (fun c21 => ?_) | refine T_icmpne (pc2 := 24) (tgt := 26) dX7_isA_21 (by decide) rfl (fun c21 => ?_) (fun c21 => ?_)
      · have e1 := hs.1 kd hk
        rw [hb] at e1
        refine T_gets (pc2 := 29) (i := 1) dX7_isA_26 (Or.inl ⟨rfl, rfl, rfl⟩) fsX7_305 rfl ?_
        refine T_iload_n (pc2 := 30) dX7_isA_29 rfl rfl ?_
        refine G_xald (pc2 := 31) dX7_isA_30 (sh1 S) (by omega) (by first | decide | omega) (by first | with_reducible assumption | exact gs_eq _ _ _ _ | exact (gs_ne _ _ (by omega)).trans (by with_reducible assumption) | exact (gs_ne _ _ (by omega)).trans (gs_eq _ _ _ _) | exact (gs_ne _ _ (by omega)).trans ((gs_ne _ _ (by omega)).trans (by with_reducible assumption)) | exact (gs_ne _ _ (by omega)).trans ((gs_ne _ _ (by omega)).trans (gs_eq _ _ _ _)) | exact (gs_ne _ _ (by omega)).trans ((gs_ne _ _ (by omega)).trans ((gs_ne _ _ (by omega)).trans (by with_reducible assumption))) | rfl) rfl ?_
        refine T_istore_n (pc2 := 32) dX7_isA_31 (by decide) rfl ?_
        first | refine N_iinc (pc2 := 35) dX7_isA_32 rfl (by with_reducible rfl) ic1 (by decide) rfl ?_ | refine T_iinc (pc2 := 35) dX7_isA_32 rfl rfl (by decide) rfl ?_
        refine T_goto (tgt := 4) dX7_isA_35 (by decide) ?_
        refine T_sub (lks (i := 1) rfl (lks (i := 2) rfl (lks (i := 3) rfl lk0))) ?_
        exact k0 c21
      · refine T_iconst (pc2 := 25) dX7_isA_24 ic1 rfl ?_
        refine T_iret dX7_isA_25 rfl (by first | rfl | decide) ?_
        exact k1 c21
    · exact absurd rfl (hno kd (by omega))
theorem c_isA {kd w : Nat} (S : Sh sk n bf im above below) (hs : stat g) (h1 : 1 ≤ kd) (h5 : kd ≤ 5) (hw : w < 6) (kt : isaN kd w = true → Q (some (.int (nI 1))) (HP sk g n)) (kf : isaN kd w = false → Q (some (.int (nI 0))) (HP sk g n)) : Calls MX7_isA (d + 1) 0 0 [.int (nI kd), .int (nI w)] (HP sk g n) Q := by
  refine Calls.of (by decide +kernel) (Nat.le_of_ble_eq_true rfl) ?_
  refine T_iload_n (pc2 := 1) dX7_isA_0 rfl rfl ?_
  refine T_istore_n (pc2 := 2) dX7_isA_1 (by decide) rfl ?_
  refine T_iconst (pc2 := 3) dX7_isA_2 ic0 rfl ?_
  refine T_istore_n (pc2 := 4) dX7_isA_3 (by decide) rfl ?_
  refine T_sub (lks (i := 1) rfl (lks (i := 2) rfl (lks (i := 3) rfl lk0))) ?_
  have hk : kd = 1 ∨ kd = 2 ∨ kd = 3 ∨ kd = 4 ∨ kd = 5 := by omega
  have hw2 : w = 0 ∨ w = 1 ∨ w = 2 ∨ w = 3 ∨ w = 4 ∨ w = 5 := by omega
  have z0 : ∀ t, t < 5 → (0 = w → isaN kd w = true) → (0 ≠ w → isaN kd w = false) → T MX7_isA (d + 1) 0 0 4 [(1, .int (nI w)), (2, .int (nI 0)), (3, .int (nI t))] [] (HP sk g n) Q := fun t ht a1 a2 =>
    isA_step S hs (by decide) hw (by omega) rfl (fun e => kt (a1 e)) (fun e => isA_m1 S (by omega) (kf (a2 e)))
  rcases hk with rfl | rfl | rfl | rfl | rfl
  · refine isA_step S hs (by decide) hw (by decide) rfl (fun e => kt (by subst e; rfl)) (fun e => z0 _ (by decide) (fun e2 => by subst e2; rfl) (fun e2 => ?_))
    rcases hw2 with rfl | rfl | rfl | rfl | rfl | rfl <;> first | rfl | exact absurd rfl e | exact absurd rfl e2
  · refine isA_step S hs (by decide) hw (by decide) rfl (fun e => kt (by subst e; rfl)) (fun e => isA_step (kd := 1) S hs (by decide) hw (by decide) rfl (fun e1 => kt (by subst e1; rfl)) (fun e1 => z0 _ (by decide) (fun e2 => by subst e2; rfl) (fun e2 => ?_)))
    rcases hw2 with rfl | rfl | rfl | rfl | rfl | rfl <;> first | rfl | exact absurd rfl e | exact absurd rfl e2 | exact absurd rfl e1
  · refine isA_step S hs (by decide) hw (by decide) rfl (fun e => kt (by subst e; rfl)) (fun e => isA_step (kd := 1) S hs (by decide) hw (by decide) rfl (fun e1 => kt (by subst e1; rfl)) (fun e1 => z0 _ (by decide) (fun e2 => by subst e2; rfl) (fun e2 => ?_)))
    rcases hw2 with rfl | rfl | rfl | rfl | rfl | rfl <;> first | rfl | exact absurd rfl e | exact absurd rfl e2 | exact absurd rfl e1
  · refine isA_step S hs (by decide) hw (by decide) rfl (fun e => kt (by subst e; rfl)) (fun e => z0 _ (by decide) (fun e2 => by subst e2; rfl) (fun e2 => ?_))
    rcases hw2 with rfl | rfl | rfl | rfl | rfl | rfl <;> first | rfl | exact absurd rfl e | exact absurd rfl e2
  · refine isA_step S hs (by decide) hw (by decide) rfl (fun e => kt (by subst e; rfl)) (fun e => isA_step (kd := 4) S hs (by decide) hw (by decide) rfl (fun e1 => kt (by subst e1; rfl)) (fun e1 => z0 _ (by decide) (fun e2 => by subst e2; rfl) (fun e2 => ?_)))
    rcases hw2 with rfl | rfl | rfl | rfl | rfl | rfl <;> first | rfl | exact absurd rfl e | exact absurd rfl e2 | exact absurd rfl e1
theorem j_as {j w : Int32} (hI : JJ sk g n bf im above below nx s) (hok : Ok s) (k : ∀ sk2 g2 n2, InvJ sk2 g2 n2 (sAs s j w).2 → FrJ sk g sk2 g2 → Q (some (.int (sAs s j w).1)) (HP sk2 g2 n2)) : Calls MX7_as (d + 2) 0 0 [.ref 4, .int j, .int w] (HP sk g n) Q := by
  have S := hI.1
  have hV := hI.2.2.2.2.2.1
  have hokV := hok.2.2.1.1
  have hJ8 := hokV.1
  refine Calls.of (by decide +kernel) (Nat.le_of_ble_eq_true rfl) ?_
  refine T_aload_n (pc2 := 1) dX7_as_0 rfl rfl ?_
  refine T_iload_n (pc2 := 2) dX7_as_1 rfl rfl ?_
  refine C_V1 (pc2 := 5) (mc := 0) (ms := 0) dX7_as_2 cvX7_isJar mlX7_174 (isO.h (sh4 S) _) (Nat.le_of_ble_eq_true rfl) rfl ?_
  refine c_isJar S hV.1 hokV.1 (fun i hi ei => ?_) (fun hno => ?_)
  · subst ei
    have e1 := (hV.2.2.2 i hi).1
    have o1 := hokV.2.2.2.1 i hi
    first | refine B_ifeq1 (pc2 := 8) (tgt := 17) dX7_as_5 (by with_reducible rfl) (by decide) rfl ?_ | refine B_ifeq0 (tgt := 17) dX7_as_5 (by with_reducible rfl) (by decide) ?_ | refine N_ifeq (pc2 := 8) (tgt := 17) dX7_as_5 (by with_reducible rfl) (by decide) (by omega) rfl (fun c5 => ?_) (fun c5 => ?_) | refine T_ifeq (pc2 := 8) (tgt := 17) dX7_as_5 (by decide) rfl (fun c5 => ?_) (fun c5 => ?_)
    refine T_iload_n (pc2 := 9) dX7_as_8 rfl rfl ?_
    refine T_iconst (pc2 := 10) dX7_as_9 ic0 rfl ?_
    refine T_iconst (pc2 := 11) dX7_as_10 ic5 rfl ?_
    refine C_S3 (pc2 := 14) (mc := 0) (ms := 0) dX7_as_11 csX7_within mlX7_62 (Nat.le_of_ble_eq_true rfl) rfl ?_
    refine c_withinI (by decide) (fun x hx ex => ?_) (fun hno => ?_)
    · subst ex
      have hx : x < 6 := by omega
      have hs : sAs s (nI i) (nI x) = if isaN (s.V.kd i) x then (nI i, s.setfd 0) else (fnd 3, s.setfd 3) := by
        unfold sAs
        rw [inN_some hi (by omega), inN_some hx (by decide)]
      first | refine B_ifne1 (tgt := 20) dX7_as_14 (by with_reducible rfl) (by decide) ?_ | refine B_ifne0 (pc2 := 17) (tgt := 20) dX7_as_14 (by with_reducible rfl) (by decide) rfl ?_ | refine N_ifne (pc2 := 17) (tgt := 20) dX7_as_14 (by with_reducible rfl) (by decide) (by omega) rfl (fun c14 => ?_) (fun c14 => ?_) | refine T_ifne (pc2 := 17) (tgt := 20) dX7_as_14 (by decide) rfl (fun c14 => ?_) (fun c14 => ?_)
      refine T_aload_n (pc2 := 21) dX7_as_20 rfl rfl ?_
      refine G_getR (pc2 := 24) dX7_as_21 flX7_26 (sh4 S) rfl rfl ?_
      refine G_getR (pc2 := 27) dX7_as_24 flX7_280 (sc20 S).1 rfl rfl ?_
      refine T_iload_n (pc2 := 28) dX7_as_27 rfl rfl ?_
      refine G_iald (pc2 := 29) dX7_as_28 (sc20 S).2.1 (by omega) (by first | decide | omega) (by first | with_reducible assumption | exact gs_eq _ _ _ _ | exact (gs_ne _ _ (by omega)).trans (by with_reducible assumption) | exact (gs_ne _ _ (by omega)).trans (gs_eq _ _ _ _) | exact (gs_ne _ _ (by omega)).trans ((gs_ne _ _ (by omega)).trans (by with_reducible assumption)) | exact (gs_ne _ _ (by omega)).trans ((gs_ne _ _ (by omega)).trans (gs_eq _ _ _ _)) | exact (gs_ne _ _ (by omega)).trans ((gs_ne _ _ (by omega)).trans ((gs_ne _ _ (by omega)).trans (by with_reducible assumption))) | rfl) rfl ?_
      refine T_iload_n (pc2 := 30) dX7_as_29 rfl rfl ?_
      refine C_S2 (pc2 := 33) (mc := 0) (ms := 0) dX7_as_30 csX7_isA mlX7_283 (Nat.le_of_ble_eq_true rfl) rfl ?_
      refine c_isA S hI.2.2.1 o1.1 o1.2.1 hx (fun ht => ?_) (fun ht => ?_)
      · first | refine B_ifeq1 (pc2 := 36) (tgt := 44) dX7_as_33 (by with_reducible rfl) (by decide) rfl ?_ | refine B_ifeq0 (tgt := 44) dX7_as_33 (by with_reducible rfl) (by decide) ?_ | refine N_ifeq (pc2 := 36) (tgt := 44) dX7_as_33 (by with_reducible rfl) (by decide) (by omega) rfl (fun c33 => ?_) (fun c33 => ?_) | refine T_ifeq (pc2 := 36) (tgt := 44) dX7_as_33 (by decide) rfl (fun c33 => ?_) (fun c33 => ?_)
        refine T_aload_n (pc2 := 37) dX7_as_36 rfl rfl ?_
        refine T_iload_n (pc2 := 38) dX7_as_37 rfl rfl ?_
        refine C_V1 (pc2 := 41) (mc := 0) (ms := 0) dX7_as_38 cvX7_fine mlX7_75 (isO.h (sh4 S) _) (Nat.le_of_ble_eq_true rfl) rfl ?_
        refine c_fine S ?_
        refine T_goto (tgt := 49) dX7_as_41 (by decide) ?_
        refine T_iret dX7_as_49 rfl rfl ?_
        exact fin_fd k hI (by rw [hs, if_pos ht])
      · first | refine B_ifeq1 (pc2 := 36) (tgt := 44) dX7_as_33 (by with_reducible rfl) (by decide) rfl ?_ | refine B_ifeq0 (tgt := 44) dX7_as_33 (by with_reducible rfl) (by decide) ?_ | refine N_ifeq (pc2 := 36) (tgt := 44) dX7_as_33 (by with_reducible rfl) (by decide) (by omega) rfl (fun c33 => ?_) (fun c33 => ?_) | refine T_ifeq (pc2 := 36) (tgt := 44) dX7_as_33 (by decide) rfl (fun c33 => ?_) (fun c33 => ?_)
        refine T_aload_n (pc2 := 45) dX7_as_44 rfl rfl ?_
        refine T_iconst (pc2 := 46) dX7_as_45 ic3 rfl ?_
        refine C_V1 (pc2 := 49) (mc := 0) (ms := 0) dX7_as_46 cvX7_found mlX7_67 (isO.h (sh4 S) _) (Nat.le_of_ble_eq_true rfl) rfl ?_
        refine c_found S ?_
        refine T_iret dX7_as_49 rfl rfl ?_
        exact fin_fd k hI (by rw [hs, ht]; rfl)
    · first | refine B_ifne1 (tgt := 20) dX7_as_14 (by with_reducible rfl) (by decide) ?_ | refine B_ifne0 (pc2 := 17) (tgt := 20) dX7_as_14 (by with_reducible rfl) (by decide) rfl ?_ | refine N_ifne (pc2 := 17) (tgt := 20) dX7_as_14 (by with_reducible rfl) (by decide) (by omega) rfl (fun c14 => ?_) (fun c14 => ?_) | refine T_ifne (pc2 := 17) (tgt := 20) dX7_as_14 (by decide) rfl (fun c14 => ?_) (fun c14 => ?_)
      refine T_ldc (pc2 := 19) dX7_as_17 kcX7_66 rfl ?_
      refine T_iret dX7_as_19 rfl rfl ?_
      refine fin_same k hI ?_
      unfold sAs
      rw [inN_none (v := w) (k := 6) (fun q hq => hno q (by omega))]
      cases inN (nI i) s.V.J <;> rfl
  · first | refine B_ifeq1 (pc2 := 8) (tgt := 17) dX7_as_5 (by with_reducible rfl) (by decide) rfl ?_ | refine B_ifeq0 (tgt := 17) dX7_as_5 (by with_reducible rfl) (by decide) ?_ | refine N_ifeq (pc2 := 8) (tgt := 17) dX7_as_5 (by with_reducible rfl) (by decide) (by omega) rfl (fun c5 => ?_) (fun c5 => ?_) | refine T_ifeq (pc2 := 8) (tgt := 17) dX7_as_5 (by decide) rfl (fun c5 => ?_) (fun c5 => ?_)
    refine T_ldc (pc2 := 19) dX7_as_17 kcX7_66 rfl ?_
    refine T_iret dX7_as_19 rfl rfl ?_
    refine fin_same k hI ?_
    unfold sAs
    rw [inN_none hno]
theorem j_trace {i : Int32} (hI : JJ sk g n bf im above below nx s) (hok : Ok s) (k : ∀ sk2 g2 n2, InvJ sk2 g2 n2 (sTrace s i).2 → FrJ sk g sk2 g2 → Q (some (.int (sTrace s i).1)) (HP sk2 g2 n2)) : Calls MX7_trace (d + 1) 0 0 [.ref 4, .int i] (HP sk g n) Q := by
  have S := hI.1
  have hV := hI.2.2.2.2.2.1
  have hokV := hok.2.2.1.1
  have hJ8 := hokV.1
  refine Calls.of (by decide +kernel) (Nat.le_of_ble_eq_true rfl) ?_
  have h16 := hok.2.2.2.2.2.2.2.2
  have hT := hI.2.2.2.2.2.2.2.2.1
  have eL := hT.1
  by_cases h0 : s.tr.length = 0
  · rw [h0] at eL
    refine T_iload_n (pc2 := 1) dX7_trace_0 rfl rfl ?_
    refine T_iconst (pc2 := 2) dX7_trace_1 ic0 rfl ?_
    refine T_aload_n (pc2 := 3) dX7_trace_2 rfl rfl ?_
    refine G_getR (pc2 := 6) dX7_trace_3 flX7_50 (sh4 S) rfl rfl ?_
    refine G_getI (pc2 := 9) dX7_trace_6 flX7_289 (sh45 S) rfl (by first | with_reducible assumption | exact gs_eq _ _ _ _ | exact (gs_ne _ _ (by omega)).trans (by with_reducible assumption) | exact (gs_ne _ _ (by omega)).trans (gs_eq _ _ _ _) | exact (gs_ne _ _ (by omega)).trans ((gs_ne _ _ (by omega)).trans (by with_reducible assumption)) | exact (gs_ne _ _ (by omega)).trans ((gs_ne _ _ (by omega)).trans (gs_eq _ _ _ _)) | exact (gs_ne _ _ (by omega)).trans ((gs_ne _ _ (by omega)).trans ((gs_ne _ _ (by omega)).trans (by with_reducible assumption))) | rfl) rfl ?_
    refine T_iconst (pc2 := 10) dX7_trace_9 ic1 rfl ?_
    refine T_isub (pc2 := 11) dX7_trace_10 rfl ?_
    refine C_S3 (pc2 := 14) (mc := 0) (ms := 0) dX7_trace_11 csX7_within mlX7_62 (Nat.le_of_ble_eq_true rfl) rfl ?_
    refine c_within (fun h1 h2 => ?_) (fun _ => ?_)
    · exact absurd (Int32.le_trans h1 h2) (by decide)
    · first | refine B_ifeq1 (pc2 := 17) (tgt := 29) dX7_trace_14 (by with_reducible rfl) (by decide) rfl ?_ | refine B_ifeq0 (tgt := 29) dX7_trace_14 (by with_reducible rfl) (by decide) ?_ | refine N_ifeq (pc2 := 17) (tgt := 29) dX7_trace_14 (by with_reducible rfl) (by decide) (by omega) rfl (fun c14 => ?_) (fun c14 => ?_) | refine T_ifeq (pc2 := 17) (tgt := 29) dX7_trace_14 (by decide) rfl (fun c14 => ?_) (fun c14 => ?_)
      refine T_ldc (pc2 := 31) dX7_trace_29 kcX7_220 rfl ?_
      refine T_iret dX7_trace_31 rfl rfl ?_
      refine fin_same k hI ?_
      unfold sTrace
      rw [inN_none (fun j hj => absurd hj (by omega))]
  · refine T_iload_n (pc2 := 1) dX7_trace_0 rfl rfl ?_
    refine T_iconst (pc2 := 2) dX7_trace_1 ic0 rfl ?_
    refine T_aload_n (pc2 := 3) dX7_trace_2 rfl rfl ?_
    refine G_getR (pc2 := 6) dX7_trace_3 flX7_50 (sh4 S) rfl rfl ?_
    refine G_getI (pc2 := 9) dX7_trace_6 flX7_289 (sh45 S) rfl (by first | with_reducible assumption | exact gs_eq _ _ _ _ | exact (gs_ne _ _ (by omega)).trans (by with_reducible assumption) | exact (gs_ne _ _ (by omega)).trans (gs_eq _ _ _ _) | exact (gs_ne _ _ (by omega)).trans ((gs_ne _ _ (by omega)).trans (by with_reducible assumption)) | exact (gs_ne _ _ (by omega)).trans ((gs_ne _ _ (by omega)).trans (gs_eq _ _ _ _)) | exact (gs_ne _ _ (by omega)).trans ((gs_ne _ _ (by omega)).trans ((gs_ne _ _ (by omega)).trans (by with_reducible assumption))) | rfl) rfl ?_
    refine T_iconst (pc2 := 10) dX7_trace_9 ic1 rfl ?_
    first | refine N_isub (pc2 := 11) dX7_trace_10 (by with_reducible rfl) (by with_reducible rfl) (by omega) rfl ?_ | refine T_isub (pc2 := 11) dX7_trace_10 rfl ?_
    refine C_S3 (pc2 := 14) (mc := 0) (ms := 0) dX7_trace_11 csX7_within mlX7_62 (Nat.le_of_ble_eq_true rfl) rfl ?_
    refine c_withinI (by omega) (fun x hx ex => ?_) (fun hno => ?_)
    · subst ex
      have hx2 : x < s.tr.length := by omega
      have e46 := hT.2 x (s.tr[x]'hx2) (List.getElem?_eq_getElem hx2)
      first | refine B_ifeq1 (pc2 := 17) (tgt := 29) dX7_trace_14 (by with_reducible rfl) (by decide) rfl ?_ | refine B_ifeq0 (tgt := 29) dX7_trace_14 (by with_reducible rfl) (by decide) ?_ | refine N_ifeq (pc2 := 17) (tgt := 29) dX7_trace_14 (by with_reducible rfl) (by decide) (by omega) rfl (fun c14 => ?_) (fun c14 => ?_) | refine T_ifeq (pc2 := 17) (tgt := 29) dX7_trace_14 (by decide) rfl (fun c14 => ?_) (fun c14 => ?_)
      refine T_aload_n (pc2 := 18) dX7_trace_17 rfl rfl ?_
      refine G_getR (pc2 := 21) dX7_trace_18 flX7_50 (sh4 S) rfl rfl ?_
      refine G_getR (pc2 := 24) dX7_trace_21 flX7_290 (sh45 S) rfl rfl ?_
      refine T_iload_n (pc2 := 25) dX7_trace_24 rfl rfl ?_
      refine G_iald (pc2 := 26) dX7_trace_25 (sh46 S) (by omega) (by first | decide | omega) (by first | with_reducible assumption | exact gs_eq _ _ _ _ | exact (gs_ne _ _ (by omega)).trans (by with_reducible assumption) | exact (gs_ne _ _ (by omega)).trans (gs_eq _ _ _ _) | exact (gs_ne _ _ (by omega)).trans ((gs_ne _ _ (by omega)).trans (by with_reducible assumption)) | exact (gs_ne _ _ (by omega)).trans ((gs_ne _ _ (by omega)).trans (gs_eq _ _ _ _)) | exact (gs_ne _ _ (by omega)).trans ((gs_ne _ _ (by omega)).trans ((gs_ne _ _ (by omega)).trans (by with_reducible assumption))) | rfl) rfl ?_
      refine T_goto (tgt := 31) dX7_trace_26 (by decide) ?_
      refine T_iret dX7_trace_31 rfl rfl ?_
      refine fin_same k hI ?_
      unfold sTrace
      rw [inN_some hx2 (by omega)]
      show (nI (s.tr.getD x 0), s) = _
      rw [List.getD_eq_getElem?_getD, List.getElem?_eq_getElem hx2]
      rfl
    · first | refine B_ifeq1 (pc2 := 17) (tgt := 29) dX7_trace_14 (by with_reducible rfl) (by decide) rfl ?_ | refine B_ifeq0 (tgt := 29) dX7_trace_14 (by with_reducible rfl) (by decide) ?_ | refine N_ifeq (pc2 := 17) (tgt := 29) dX7_trace_14 (by with_reducible rfl) (by decide) (by omega) rfl (fun c14 => ?_) (fun c14 => ?_) | refine T_ifeq (pc2 := 17) (tgt := 29) dX7_trace_14 (by decide) rfl (fun c14 => ?_) (fun c14 => ?_)
      refine T_ldc (pc2 := 31) dX7_trace_29 kcX7_220 rfl ?_
      refine T_iret dX7_trace_31 rfl rfl ?_
      refine fin_same k hI ?_
      unfold sTrace
      rw [inN_none (fun j hj => hno j (by omega))]
theorem j_count {w : Int32} (hI : JJ sk g n bf im above below nx s) (hok : Ok s) (k : ∀ sk2 g2 n2, InvJ sk2 g2 n2 (sCount s w).2 → FrJ sk g sk2 g2 → Q (some (.int (sCount s w).1)) (HP sk2 g2 n2)) : Calls MX7_count (d + 1) 0 0 [.ref 4, .int w] (HP sk g n) Q := by
  have S := hI.1
  have hV := hI.2.2.2.2.2.1
  have hokV := hok.2.2.1.1
  have hJ8 := hokV.1
  refine Calls.of (by decide +kernel) (Nat.le_of_ble_eq_true rfl) ?_
  have e1 := hV.1
  have e2 := hV.2.1
  have e3 := hV.2.2.1
  have e4 := hI.2.2.2.2.2.2.1.2.2
  have e5 := hI.2.2.2.2.1.1
  have hh : ∀ i, i < s.V.J → s.V.hw i < 2 ^ 31 := fun i hi => by
    have := (hokV.2.2.2.1 i hi).2.2.2.2.2.2
    omega
  cases q : inN w 8 with
  | none =>
    refine T_iload_n (pc2 := 1) dX7_count_0 rfl rfl ?_
    refine T_tableOut (tgt := 120) dX7_count_1 (nI_out (k := 8) (by decide) (inN_no (by decide) q)) (by decide) ?_
    refine T_ldc (pc2 := 122) dX7_count_120 kcX7_66 rfl ?_
    refine T_iret dX7_count_122 rfl rfl ?_
    refine fin_same k hI ?_
    unfold sCount
    rw [q]
  | some x =>
    obtain ⟨h8, e⟩ := inN_of q
    subst e
    have hs : sCount s (nI x) = (nI (if x = 0 then ct s.A.1 8 else if x = 1 then s.V.J else if x = 2 then s.V.Y else if x = 3 then s.V.R else if x = 4 then ct (s.V.th 0) 8 else if x = 5 then ct (s.V.th 1) 8 else if x = 6 then s.an else s.sz), s) := by
      unfold sCount
      rw [q]
    rcases (by omega : x = 0 ∨ x = 1 ∨ x = 2 ∨ x = 3 ∨ x = 4 ∨ x = 5 ∨ x = 6 ∨ x = 7) with e | e | e | e | e | e | e | e
    · subst e
      refine T_iload_n (pc2 := 1) dX7_count_0 rfl rfl ?_
      refine T_tableIn (off := 47) (tgt := 48) dX7_count_1 (by decide) (by decide) (by decide) (by decide) ?_
      refine T_aload_n (pc2 := 49) dX7_count_48 rfl rfl ?_
      refine G_getR (pc2 := 52) dX7_count_49 flX7_10 (sh4 S) rfl rfl ?_
      refine C_V0 (pc2 := 55) (mc := 0) (ms := 0) dX7_count_52 cvX5_howMany mlX7_293 (isO.h (sh5 S) _) (Nat.le_of_ble_eq_true rfl) rfl ?_
      refine c_howMany S hI.2.2.2.1 ?_
      refine T_iret dX7_count_55 rfl rfl ?_
      exact fin_same k hI (by rw [hs]; rfl)
    · subst e
      refine T_iload_n (pc2 := 1) dX7_count_0 rfl rfl ?_
      refine T_tableIn (off := 55) (tgt := 56) dX7_count_1 (by decide) (by decide) (by decide) (by decide) ?_
      refine T_aload_n (pc2 := 57) dX7_count_56 rfl rfl ?_
      refine G_getR (pc2 := 60) dX7_count_57 flX7_26 (sh4 S) rfl rfl ?_
      refine G_getI (pc2 := 63) dX7_count_60 flX7_138 (sc20 S).1 rfl (by first | with_reducible assumption | exact gs_eq _ _ _ _ | exact (gs_ne _ _ (by omega)).trans (by with_reducible assumption) | exact (gs_ne _ _ (by omega)).trans (gs_eq _ _ _ _) | exact (gs_ne _ _ (by omega)).trans ((gs_ne _ _ (by omega)).trans (by with_reducible assumption)) | exact (gs_ne _ _ (by omega)).trans ((gs_ne _ _ (by omega)).trans (gs_eq _ _ _ _)) | exact (gs_ne _ _ (by omega)).trans ((gs_ne _ _ (by omega)).trans ((gs_ne _ _ (by omega)).trans (by with_reducible assumption))) | rfl) rfl ?_
      refine T_iret dX7_count_63 rfl rfl ?_
      exact fin_same k hI (by rw [hs]; rfl)
    · subst e
      refine T_iload_n (pc2 := 1) dX7_count_0 rfl rfl ?_
      refine T_tableIn (off := 63) (tgt := 64) dX7_count_1 (by decide) (by decide) (by decide) (by decide) ?_
      refine T_aload_n (pc2 := 65) dX7_count_64 rfl rfl ?_
      refine G_getR (pc2 := 68) dX7_count_65 flX7_26 (sh4 S) rfl rfl ?_
      refine G_getI (pc2 := 71) dX7_count_68 flX7_150 (sc20 S).1 rfl (by first | with_reducible assumption | exact gs_eq _ _ _ _ | exact (gs_ne _ _ (by omega)).trans (by with_reducible assumption) | exact (gs_ne _ _ (by omega)).trans (gs_eq _ _ _ _) | exact (gs_ne _ _ (by omega)).trans ((gs_ne _ _ (by omega)).trans (by with_reducible assumption)) | exact (gs_ne _ _ (by omega)).trans ((gs_ne _ _ (by omega)).trans (gs_eq _ _ _ _)) | exact (gs_ne _ _ (by omega)).trans ((gs_ne _ _ (by omega)).trans ((gs_ne _ _ (by omega)).trans (by with_reducible assumption))) | rfl) rfl ?_
      refine T_iret dX7_count_71 rfl rfl ?_
      exact fin_same k hI (by rw [hs]; rfl)
    · subst e
      refine T_iload_n (pc2 := 1) dX7_count_0 rfl rfl ?_
      refine T_tableIn (off := 71) (tgt := 72) dX7_count_1 (by decide) (by decide) (by decide) (by decide) ?_
      refine T_aload_n (pc2 := 73) dX7_count_72 rfl rfl ?_
      refine G_getR (pc2 := 76) dX7_count_73 flX7_26 (sh4 S) rfl rfl ?_
      refine G_getI (pc2 := 79) dX7_count_76 flX7_196 (sc20 S).1 rfl (by first | with_reducible assumption | exact gs_eq _ _ _ _ | exact (gs_ne _ _ (by omega)).trans (by with_reducible assumption) | exact (gs_ne _ _ (by omega)).trans (gs_eq _ _ _ _) | exact (gs_ne _ _ (by omega)).trans ((gs_ne _ _ (by omega)).trans (by with_reducible assumption)) | exact (gs_ne _ _ (by omega)).trans ((gs_ne _ _ (by omega)).trans (gs_eq _ _ _ _)) | exact (gs_ne _ _ (by omega)).trans ((gs_ne _ _ (by omega)).trans ((gs_ne _ _ (by omega)).trans (by with_reducible assumption))) | rfl) rfl ?_
      refine T_iret dX7_count_79 rfl rfl ?_
      exact fin_same k hI (by rw [hs]; rfl)
    · subst e
      refine T_iload_n (pc2 := 1) dX7_count_0 rfl rfl ?_
      refine T_tableIn (off := 79) (tgt := 80) dX7_count_1 (by decide) (by decide) (by decide) (by decide) ?_
      refine T_aload_n (pc2 := 81) dX7_count_80 rfl rfl ?_
      refine G_getR (pc2 := 84) dX7_count_81 flX7_26 (sh4 S) rfl rfl ?_
      refine T_iconst (pc2 := 85) dX7_count_84 ic0 rfl ?_
      refine C_V1 (pc2 := 88) (mc := 0) (ms := 0) dX7_count_85 cvX2_those mlX7_159 (isO.h (sc20 S).1 _) (Nat.le_of_ble_eq_true rfl) rfl ?_
      refine c_those (how := 0) (sc20 S) hV hokV.1 (by decide) hh ?_
      refine C_S1 (pc2 := 91) (mc := 0) (ms := 0) dX7_count_88 csJ6_bitCount_0f7a4 mlX7_296 (Nat.le_of_ble_eq_true rfl) rfl ?_
      refine c_bits ?_
      refine T_iret dX7_count_91 rfl rfl ?_
      exact fin_same k hI (by rw [hs]; rfl)
    · subst e
      refine T_iload_n (pc2 := 1) dX7_count_0 rfl rfl ?_
      refine T_tableIn (off := 91) (tgt := 92) dX7_count_1 (by decide) (by decide) (by decide) (by decide) ?_
      refine T_aload_n (pc2 := 93) dX7_count_92 rfl rfl ?_
      refine G_getR (pc2 := 96) dX7_count_93 flX7_26 (sh4 S) rfl rfl ?_
      refine T_iconst (pc2 := 97) dX7_count_96 ic1 rfl ?_
      refine C_V1 (pc2 := 100) (mc := 0) (ms := 0) dX7_count_97 cvX2_those mlX7_159 (isO.h (sc20 S).1 _) (Nat.le_of_ble_eq_true rfl) rfl ?_
      refine c_those (how := 1) (sc20 S) hV hokV.1 (by decide) hh ?_
      refine C_S1 (pc2 := 103) (mc := 0) (ms := 0) dX7_count_100 csJ6_bitCount_0f7a4 mlX7_296 (Nat.le_of_ble_eq_true rfl) rfl ?_
      refine c_bits ?_
      refine T_iret dX7_count_103 rfl rfl ?_
      exact fin_same k hI (by rw [hs]; rfl)
    · subst e
      refine T_iload_n (pc2 := 1) dX7_count_0 rfl rfl ?_
      refine T_tableIn (off := 103) (tgt := 104) dX7_count_1 (by decide) (by decide) (by decide) (by decide) ?_
      refine T_aload_n (pc2 := 105) dX7_count_104 rfl rfl ?_
      refine G_getR (pc2 := 108) dX7_count_105 flX7_36 (sh4 S) rfl rfl ?_
      refine G_getI (pc2 := 111) dX7_count_108 flX7_144 (sh32 S) rfl (by first | with_reducible assumption | exact gs_eq _ _ _ _ | exact (gs_ne _ _ (by omega)).trans (by with_reducible assumption) | exact (gs_ne _ _ (by omega)).trans (gs_eq _ _ _ _) | exact (gs_ne _ _ (by omega)).trans ((gs_ne _ _ (by omega)).trans (by with_reducible assumption)) | exact (gs_ne _ _ (by omega)).trans ((gs_ne _ _ (by omega)).trans (gs_eq _ _ _ _)) | exact (gs_ne _ _ (by omega)).trans ((gs_ne _ _ (by omega)).trans ((gs_ne _ _ (by omega)).trans (by with_reducible assumption))) | rfl) rfl ?_
      refine T_iret dX7_count_111 rfl rfl ?_
      exact fin_same k hI (by rw [hs]; rfl)
    · subst e
      refine T_iload_n (pc2 := 1) dX7_count_0 rfl rfl ?_
      refine T_tableIn (off := 111) (tgt := 112) dX7_count_1 (by decide) (by decide) (by decide) (by decide) ?_
      refine T_aload_n (pc2 := 113) dX7_count_112 rfl rfl ?_
      refine G_getR (pc2 := 116) dX7_count_113 flX7_19 (sh4 S) rfl rfl ?_
      refine G_getI (pc2 := 119) dX7_count_116 flX7_112 (sh18 S) rfl (by first | with_reducible assumption | exact gs_eq _ _ _ _ | exact (gs_ne _ _ (by omega)).trans (by with_reducible assumption) | exact (gs_ne _ _ (by omega)).trans (gs_eq _ _ _ _) | exact (gs_ne _ _ (by omega)).trans ((gs_ne _ _ (by omega)).trans (by with_reducible assumption)) | exact (gs_ne _ _ (by omega)).trans ((gs_ne _ _ (by omega)).trans (gs_eq _ _ _ _)) | exact (gs_ne _ _ (by omega)).trans ((gs_ne _ _ (by omega)).trans ((gs_ne _ _ (by omega)).trans (by with_reducible assumption))) | rfl) rfl ?_
      refine T_iret dX7_count_119 rfl rfl ?_
      exact fin_same k hI (by rw [hs]; rfl)
theorem j_drawn {m x w : Int32} (hI : JJ sk g n bf im above below nx s) (hok : Ok s) (k : ∀ sk2 g2 n2, InvJ sk2 g2 n2 (sDrawn s m x w).2 → FrJ sk g sk2 g2 → Q (some (.int (sDrawn s m x w).1)) (HP sk2 g2 n2)) : Calls MX7_drawn (d + 4) 0 0 [.ref 4, .int m, .int x, .int w] (HP sk g n) Q := by
  have S := hI.1
  have hV := hI.2.2.2.2.2.1
  have hokV := hok.2.2.1.1
  have hJ8 := hokV.1
  refine Calls.of (by decide +kernel) (Nat.le_of_ble_eq_true rfl) ?_
  have hY9 := hok.2.2.1.2
  refine T_aload_n (pc2 := 1) dX7_drawn_0 rfl rfl ?_
  refine C_V0 (pc2 := 4) (mc := 0) (ms := 0) dX7_drawn_1 cvX7_noCellar mlX7_146 (isO.h (sh4 S) _) (Nat.le_of_ble_eq_true rfl) rfl ?_
  refine c_noCellar S hV.1 hokV.1 (fun h0 => ?_) (fun h0 => ?_)
  · first | refine B_ifeq1 (pc2 := 7) (tgt := 10) dX7_drawn_4 (by with_reducible rfl) (by decide) rfl ?_ | refine B_ifeq0 (tgt := 10) dX7_drawn_4 (by with_reducible rfl) (by decide) ?_ | refine N_ifeq (pc2 := 7) (tgt := 10) dX7_drawn_4 (by with_reducible rfl) (by decide) (by omega) rfl (fun c4 => ?_) (fun c4 => ?_) | refine T_ifeq (pc2 := 7) (tgt := 10) dX7_drawn_4 (by decide) rfl (fun c4 => ?_) (fun c4 => ?_)
    refine T_ldc (pc2 := 9) dX7_drawn_7 kcX7_145 rfl ?_
    refine T_iret dX7_drawn_9 rfl rfl ?_
    exact fin_same k hI (if_pos h0)
  · first | refine B_ifeq1 (pc2 := 7) (tgt := 10) dX7_drawn_4 (by with_reducible rfl) (by decide) rfl ?_ | refine B_ifeq0 (tgt := 10) dX7_drawn_4 (by with_reducible rfl) (by decide) ?_ | refine N_ifeq (pc2 := 7) (tgt := 10) dX7_drawn_4 (by with_reducible rfl) (by decide) (by omega) rfl (fun c4 => ?_) (fun c4 => ?_) | refine T_ifeq (pc2 := 7) (tgt := 10) dX7_drawn_4 (by decide) rfl (fun c4 => ?_) (fun c4 => ?_)
    refine T_iload_n (pc2 := 11) dX7_drawn_10 rfl rfl ?_
    refine T_iconst (pc2 := 12) dX7_drawn_11 ic0 rfl ?_
    refine T_bipush (pc2 := 14) dX7_drawn_12 bp60 rfl ?_
    refine C_S3 (pc2 := 17) (mc := 0) (ms := 0) dX7_drawn_14 csX7_within mlX7_62 (Nat.le_of_ble_eq_true rfl) rfl ?_
    have hs : sDrawn s m x w = match inN m 61, inP x 999999, inN w 2 with
        | some m, some x, some w => (if w = 0 then nI (bm ((s.V.vn (x + 1) m).2.th 0) 8) else nI (ct ((s.V.vn (x + 1) m).2.th 1) 8), s)
        | _, _, _ => (BAD, s) := if_neg (by omega)
    refine c_withinI (by decide) (fun a ha ea => ?_) (fun hno => ?_)
    · subst ea
      first | refine B_ifeq1 (pc2 := 20) (tgt := 38) dX7_drawn_17 (by with_reducible rfl) (by decide) rfl ?_ | refine B_ifeq0 (tgt := 38) dX7_drawn_17 (by with_reducible rfl) (by decide) ?_ | refine N_ifeq (pc2 := 20) (tgt := 38) dX7_drawn_17 (by with_reducible rfl) (by decide) (by omega) rfl (fun c17 => ?_) (fun c17 => ?_) | refine T_ifeq (pc2 := 20) (tgt := 38) dX7_drawn_17 (by decide) rfl (fun c17 => ?_) (fun c17 => ?_)
      refine T_iload_n (pc2 := 21) dX7_drawn_20 rfl rfl ?_
      refine T_iconst (pc2 := 22) dX7_drawn_21 ic1 rfl ?_
      refine T_ldcw (pc2 := 25) dX7_drawn_22 kcX7_275 rfl ?_
      refine C_S3 (pc2 := 28) (mc := 0) (ms := 0) dX7_drawn_25 csX7_within mlX7_62 (Nat.le_of_ble_eq_true rfl) rfl ?_
      refine c_within1 (k := 999999) (by decide) (fun b hb eb => ?_) (fun hno => ?_)
      · subst eb
        first | refine B_ifeq1 (pc2 := 31) (tgt := 38) dX7_drawn_28 (by with_reducible rfl) (by decide) rfl ?_ | refine B_ifeq0 (tgt := 38) dX7_drawn_28 (by with_reducible rfl) (by decide) ?_ | refine N_ifeq (pc2 := 31) (tgt := 38) dX7_drawn_28 (by with_reducible rfl) (by decide) (by omega) rfl (fun c28 => ?_) (fun c28 => ?_) | refine T_ifeq (pc2 := 31) (tgt := 38) dX7_drawn_28 (by decide) rfl (fun c28 => ?_) (fun c28 => ?_)
        refine T_iload_n (pc2 := 32) dX7_drawn_31 rfl rfl ?_
        refine C_S1 (pc2 := 35) (mc := 0) (ms := 0) dX7_drawn_32 csX7_isHalf mlX7_199 (Nat.le_of_ble_eq_true rfl) rfl ?_
        refine c_isHalf (fun y hy ey => ?_) (fun hno => ?_)
        · subst ey
          rw [inN_some (show a < 61 by omega) (by decide), inP_some hb (by decide), inN_some hy (by decide)] at hs
          first | refine B_ifne1 (tgt := 41) dX7_drawn_35 (by with_reducible rfl) (by decide) ?_ | refine B_ifne0 (pc2 := 38) (tgt := 41) dX7_drawn_35 (by with_reducible rfl) (by decide) rfl ?_ | refine N_ifne (pc2 := 38) (tgt := 41) dX7_drawn_35 (by with_reducible rfl) (by decide) (by omega) rfl (fun c35 => ?_) (fun c35 => ?_) | refine T_ifne (pc2 := 38) (tgt := 41) dX7_drawn_35 (by decide) rfl (fun c35 => ?_) (fun c35 => ?_)
          refine T_aload_n (pc2 := 42) dX7_drawn_41 rfl rfl ?_
          refine G_getR (pc2 := 45) dX7_drawn_42 flX7_43 (sh4 S) rfl rfl ?_
          refine T_aload_n (pc2 := 46) dX7_drawn_45 rfl rfl ?_
          refine G_getR (pc2 := 49) dX7_drawn_46 flX7_26 (sh4 S) rfl rfl ?_
          refine T_iload_n (pc2 := 50) dX7_drawn_49 rfl rfl ?_
          refine T_iload_n (pc2 := 51) dX7_drawn_50 rfl rfl ?_
          refine C_V3 (pc2 := 54) (mc := 0) (ms := 0) dX7_drawn_51 cvX4_findVintage mlX7_276 (isO.h (sh34 S) _) (Nat.le_of_ble_eq_true rfl) rfl ?_
          refine c_findVintage S (sc20 S) (by omega) hV hokV (by omega) h0 (by omega) (by omega) (fun g2 e2 e3 hf2 => ?_)
          refine T_iload_n (pc2 := 55) dX7_drawn_54 rfl rfl ?_
          first | refine B_ifne1 (tgt := 68) dX7_drawn_55 (by with_reducible rfl) (by decide) ?_ | refine B_ifne0 (pc2 := 58) (tgt := 68) dX7_drawn_55 (by with_reducible rfl) (by decide) rfl ?_ | refine N_ifne (pc2 := 58) (tgt := 68) dX7_drawn_55 (by with_reducible rfl) (by decide) (by omega) rfl (fun c55 => ?_) (fun c55 => ?_) | refine T_ifne (pc2 := 58) (tgt := 68) dX7_drawn_55 (by decide) rfl (fun c55 => ?_) (fun c55 => ?_)
          · refine T_aload_n (pc2 := 69) dX7_drawn_68 rfl rfl ?_
            refine G_getR (pc2 := 72) dX7_drawn_69 flX7_43 (sh4 S) rfl rfl ?_
            refine G_getI (pc2 := 75) dX7_drawn_72 flX7_217 (sh34 S) rfl (by first | with_reducible assumption | exact gs_eq _ _ _ _ | exact (gs_ne _ _ (by omega)).trans (by with_reducible assumption) | exact (gs_ne _ _ (by omega)).trans (gs_eq _ _ _ _) | exact (gs_ne _ _ (by omega)).trans ((gs_ne _ _ (by omega)).trans (by with_reducible assumption)) | exact (gs_ne _ _ (by omega)).trans ((gs_ne _ _ (by omega)).trans (gs_eq _ _ _ _)) | exact (gs_ne _ _ (by omega)).trans ((gs_ne _ _ (by omega)).trans ((gs_ne _ _ (by omega)).trans (by with_reducible assumption))) | rfl) rfl ?_
            refine T_iret dX7_drawn_75 rfl rfl ?_
            exact fin_new k (hI.scr hf2) (FrJ.of hf2 (by decide) (by decide)) (by rw [hs]; show (if y = 0 then _ else _, s) = _; rw [if_neg c55])
          · refine T_aload_n (pc2 := 59) dX7_drawn_58 rfl rfl ?_
            refine G_getR (pc2 := 62) dX7_drawn_59 flX7_43 (sh4 S) rfl rfl ?_
            refine G_getI (pc2 := 65) dX7_drawn_62 flX7_214 (sh34 S) rfl (by first | with_reducible assumption | exact gs_eq _ _ _ _ | exact (gs_ne _ _ (by omega)).trans (by with_reducible assumption) | exact (gs_ne _ _ (by omega)).trans (gs_eq _ _ _ _) | exact (gs_ne _ _ (by omega)).trans ((gs_ne _ _ (by omega)).trans (by with_reducible assumption)) | exact (gs_ne _ _ (by omega)).trans ((gs_ne _ _ (by omega)).trans (gs_eq _ _ _ _)) | exact (gs_ne _ _ (by omega)).trans ((gs_ne _ _ (by omega)).trans ((gs_ne _ _ (by omega)).trans (by with_reducible assumption))) | rfl) rfl ?_
            refine T_goto (tgt := 75) dX7_drawn_65 (by decide) ?_
            refine T_iret dX7_drawn_75 rfl rfl ?_
            exact fin_new k (hI.scr hf2) (FrJ.of hf2 (by decide) (by decide)) (by rw [hs]; show (if y = 0 then _ else _, s) = _; rw [if_pos c55])
        · first | refine B_ifne1 (tgt := 41) dX7_drawn_35 (by with_reducible rfl) (by decide) ?_ | refine B_ifne0 (pc2 := 38) (tgt := 41) dX7_drawn_35 (by with_reducible rfl) (by decide) rfl ?_ | refine N_ifne (pc2 := 38) (tgt := 41) dX7_drawn_35 (by with_reducible rfl) (by decide) (by omega) rfl (fun c35 => ?_) (fun c35 => ?_) | refine T_ifne (pc2 := 38) (tgt := 41) dX7_drawn_35 (by decide) rfl (fun c35 => ?_) (fun c35 => ?_)
          refine T_ldc (pc2 := 40) dX7_drawn_38 kcX7_66 rfl ?_
          refine T_iret dX7_drawn_40 rfl rfl ?_
          refine fin_same k hI ?_
          rw [hs, inN_none hno]
          cases inN (nI a) 61 <;> cases inP (nI (b + 1)) 999999 <;> rfl
      · first | refine B_ifeq1 (pc2 := 31) (tgt := 38) dX7_drawn_28 (by with_reducible rfl) (by decide) rfl ?_ | refine B_ifeq0 (tgt := 38) dX7_drawn_28 (by with_reducible rfl) (by decide) ?_ | refine N_ifeq (pc2 := 31) (tgt := 38) dX7_drawn_28 (by with_reducible rfl) (by decide) (by omega) rfl (fun c28 => ?_) (fun c28 => ?_) | refine T_ifeq (pc2 := 31) (tgt := 38) dX7_drawn_28 (by decide) rfl (fun c28 => ?_) (fun c28 => ?_)
        refine T_ldc (pc2 := 40) dX7_drawn_38 kcX7_66 rfl ?_
        refine T_iret dX7_drawn_40 rfl rfl ?_
        refine fin_same k hI ?_
        rw [hs, inP_none hno]
        cases inN (nI a) 61 <;> rfl
    · first | refine B_ifeq1 (pc2 := 20) (tgt := 38) dX7_drawn_17 (by with_reducible rfl) (by decide) rfl ?_ | refine B_ifeq0 (tgt := 38) dX7_drawn_17 (by with_reducible rfl) (by decide) ?_ | refine N_ifeq (pc2 := 20) (tgt := 38) dX7_drawn_17 (by with_reducible rfl) (by decide) (by omega) rfl (fun c17 => ?_) (fun c17 => ?_) | refine T_ifeq (pc2 := 20) (tgt := 38) dX7_drawn_17 (by decide) rfl (fun c17 => ?_) (fun c17 => ?_)
      refine T_ldc (pc2 := 40) dX7_drawn_38 kcX7_66 rfl ?_
      refine T_iret dX7_drawn_40 rfl rfl ?_
      refine fin_same k hI ?_
      rw [hs, inN_none (v := m) (k := 61) (fun q hq => hno q (by omega))]
end JAsk2

