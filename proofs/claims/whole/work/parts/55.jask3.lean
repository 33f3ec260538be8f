/-! the class's calls: songs, who, reaches, mould -/
theorem hN_one {s : ST} {r m : Nat} {i : Int32} {f : Nat → Int32 × ST} (h : s.A.1 r = true) {a : Nat} (ea : i = nI a) (hs : s.A.2.2.1 r ≤ 1000) (hab : a + m ≤ s.A.2.2.1 r) : rowF s r i m f = f a := by
  unfold rowF
  rw [if_neg (by rw [h]; decide), ea, hN_some hs hab]
theorem rowF_0 {s : ST} {r m : Nat} {i : Int32} {f : Nat → Int32 × ST} (h : s.A.1 r = false) : rowF s r i m f = (fnd 1, s.setfd 1) := if_pos h
theorem rowF_2 {s : ST} {r m : Nat} {i : Int32} {f : Nat → Int32 × ST} (h : s.A.1 r = true) (hno : ∀ a b, i = nI a → nI m = nI b → a < 2 ^ 31 → b < 2 ^ 31 → ¬ a + b ≤ s.A.2.2.1 r) : rowF s r i m f = (fnd 2, s.setfd 2) := by
  unfold rowF
  rw [if_neg (by rw [h]; decide), hN_none hno]
theorem fitK_cg {V : Cel} {j p m : Nat} {it it2 : Nat → Int32} (h : ∀ k, k < m → it k = it2 k) : V.fitK j p m it = V.fitK j p m it2 := by
  funext kd
  unfold Cel.fitK
  rw [fitsB_cg m h]
theorem fitN_cg {V : Cel} {j p m : Nat} {it it2 : Nat → Int32} (h : ∀ k, k < m → it k = it2 k) : V.fitN j p m it = V.fitN j p m it2 := by
  funext kd
  unfold Cel.fitN
  rw [fitsB_cg m h]
theorem fitR_cg {V : Cel} {p m : Nat} {it it2 : Nat → Int32} (h : ∀ k, k < m → it k = it2 k) : V.fitR p m it = V.fitR p m it2 := by
  funext kd
  unfold Cel.fitR
  rw [fitsB_cg m h]
theorem nI_b {m b : Nat} (hm : m < 2 ^ 31) (h : nI m = nI b) (hb : b ≤ 1000) : m = b := (nI_eq hm (by omega)).mp h
theorem ntB_true {v : Int32} (h : ∃ x, x < 12 ∧ v = nI x) : ntB v = true := by
  obtain ⟨x, hx, rfl⟩ := h
  unfold ntB
  rw [inN_some hx (by decide)]
  rfl
theorem ntB_false {v : Int32} (h : ∀ x, x < 12 → v ≠ nI x) : ntB v = false := by
  unfold ntB
  rw [inN_none h]
  rfl
section JAsk3
variable {sk : Nat → SK} {g : Nat → Nat → Int32} {n : Nat} {Q : Option Value → SH → Prop} {d kc ks : Nat} {bf im : Nat → Option Nat} {above below : Int64} {nx : Nat} {s : ST}
theorem j_reaches {p r i m : Int32} (hI : JJ sk g n bf im above below nx s) (hok : Ok s) (k : ∀ sk2 g2 n2, InvJ sk2 g2 n2 (sReaches s p r i m).2 → FrJ sk g sk2 g2 → Q (some (.int (sReaches s p r i m).1)) (HP sk2 g2 n2)) : Calls MX7_reaches (d + 5) 0 0 [.ref 4, .int p, .int r, .int i, .int m] (HP sk g n) Q := by
  have S := hI.1
  have hV := hI.2.2.2.2.2.1
  have hokV := hok.2.2.1.1
  have hJ8 := hokV.1
  refine Calls.of (by decide +kernel) (Nat.le_of_ble_eq_true rfl) ?_
  have hA := hI.2.2.2.1
  refine T_aload_n (pc2 := 1) dX7_reaches_0 rfl rfl ?_
  refine T_iload_n (pc2 := 2) dX7_reaches_1 rfl rfl ?_
  refine C_V1 (pc2 := 5) (mc := 0) (ms := 0) dX7_reaches_2 cvX7_isPlace mlX7_248 (isO.h (sh4 S) _) (Nat.le_of_ble_eq_true rfl) rfl ?_
  refine c_isPlace S hV.1 hokV.1 (fun a ha ea => ?_) (fun hno => ?_)
  · subst ea
    first | refine B_ifeq1 (pc2 := 8) (tgt := 26) dX7_reaches_5 (by with_reducible rfl) (by decide) rfl ?_ | refine B_ifeq0 (tgt := 26) dX7_reaches_5 (by with_reducible rfl) (by decide) ?_ | refine N_ifeq (pc2 := 8) (tgt := 26) dX7_reaches_5 (by with_reducible rfl) (by decide) (by omega) rfl (fun c5 => ?_) (fun c5 => ?_) | refine T_ifeq (pc2 := 8) (tgt := 26) dX7_reaches_5 (by decide) rfl (fun c5 => ?_) (fun c5 => ?_)
    refine T_iload_n (pc2 := 9) dX7_reaches_8 rfl rfl ?_
    refine C_S1 (pc2 := 12) (mc := 0) (ms := 0) dX7_reaches_9 csX7_isRow mlX7_58 (Nat.le_of_ble_eq_true rfl) rfl ?_
    refine c_isRow (fun b hb eb => ?_) (fun hno => ?_)
    · subst eb
      first | refine B_ifeq1 (pc2 := 15) (tgt := 26) dX7_reaches_12 (by with_reducible rfl) (by decide) rfl ?_ | refine B_ifeq0 (tgt := 26) dX7_reaches_12 (by with_reducible rfl) (by decide) ?_ | refine N_ifeq (pc2 := 15) (tgt := 26) dX7_reaches_12 (by with_reducible rfl) (by decide) (by omega) rfl (fun c12 => ?_) (fun c12 => ?_) | refine T_ifeq (pc2 := 15) (tgt := 26) dX7_reaches_12 (by decide) rfl (fun c12 => ?_) (fun c12 => ?_)
      refine T_iload (pc2 := 17) dX7_reaches_15 rfl rfl ?_
      refine T_iconst (pc2 := 18) dX7_reaches_17 ic1 rfl ?_
      refine T_bipush (pc2 := 20) dX7_reaches_18 bp12 rfl ?_
      refine C_S3 (pc2 := 23) (mc := 0) (ms := 0) dX7_reaches_20 csX7_within mlX7_62 (Nat.le_of_ble_eq_true rfl) rfl ?_
      refine c_within1 (by decide) (fun mm hmm em => ?_) (fun hno => ?_)
      · subst em
        have hs : sReaches s (nI a) (nI b) i (nI (mm + 1)) = rowF s b i (mm + 1) (fun x => (nI (bm (s.V.fitR a (mm + 1) (fun t => s.A.2.2.2 b (x + t))) 9), s.setfd 0)) := by
          unfold sReaches
          rw [inN_some ha (by omega), inN_some hb (by decide), inP_some hmm (by decide)]
        first | refine B_ifne1 (tgt := 29) dX7_reaches_23 (by with_reducible rfl) (by decide) ?_ | refine B_ifne0 (pc2 := 26) (tgt := 29) dX7_reaches_23 (by with_reducible rfl) (by decide) rfl ?_ | refine N_ifne (pc2 := 26) (tgt := 29) dX7_reaches_23 (by with_reducible rfl) (by decide) (by omega) rfl (fun c23 => ?_) (fun c23 => ?_) | refine T_ifne (pc2 := 26) (tgt := 29) dX7_reaches_23 (by decide) rfl (fun c23 => ?_) (fun c23 => ?_)
        refine T_aload_n (pc2 := 30) dX7_reaches_29 rfl rfl ?_
        refine G_getR (pc2 := 33) dX7_reaches_30 flX7_10 (sh4 S) rfl rfl ?_
        refine T_iload_n (pc2 := 34) dX7_reaches_33 rfl rfl ?_
        refine T_iload_n (pc2 := 35) dX7_reaches_34 rfl rfl ?_
        refine T_iload (pc2 := 37) dX7_reaches_35 rfl rfl ?_
        refine C_V3 (pc2 := 40) (mc := 0) (ms := 0) dX7_reaches_37 cvX5_lacking mlX7_78 (isO.h (sh5 S) _) (Nat.le_of_ble_eq_true rfl) rfl ?_
        refine c_lacking S hA hok.1 hb (fun h0 => ?_) (fun x y ht ex ey hxy => ?_) (fun ht hno => ?_)
        · refine T_istore (pc2 := 42) dX7_reaches_40 (by decide) rfl ?_
          refine T_iload (pc2 := 44) dX7_reaches_42 rfl rfl ?_
          first | refine B_ifeq1 (pc2 := 47) (tgt := 54) dX7_reaches_44 (by with_reducible rfl) (by decide) rfl ?_ | refine B_ifeq0 (tgt := 54) dX7_reaches_44 (by with_reducible rfl) (by decide) ?_ | refine N_ifeq (pc2 := 47) (tgt := 54) dX7_reaches_44 (by with_reducible rfl) (by decide) (by omega) rfl (fun c44 => ?_) (fun c44 => ?_) | refine T_ifeq (pc2 := 47) (tgt := 54) dX7_reaches_44 (by decide) rfl (fun c44 => ?_) (fun c44 => ?_)
          refine T_aload_n (pc2 := 48) dX7_reaches_47 rfl rfl ?_
          refine T_iload (pc2 := 50) dX7_reaches_48 rfl rfl ?_
          refine C_V1 (pc2 := 53) (mc := 0) (ms := 0) dX7_reaches_50 cvX7_found mlX7_67 (isO.h (sh4 S) _) (Nat.le_of_ble_eq_true rfl) rfl ?_
          refine c_found S ?_
          refine T_iret dX7_reaches_53 rfl rfl ?_
          exact fin_fd k hI (by rw [hs, rowF_0 h0])
        · subst ex
          have hsz := (hok.1 b hb ht).2
          have ey := nI_b (by omega) ey (by omega)
          subst ey
          have hz := shRow S b hb
          have ez1 : (if b < 8 then some (10 + b) else none) = some (10 + b) := if_pos hb
          refine T_istore (pc2 := 42) dX7_reaches_40 (by decide) rfl ?_
          refine T_iload (pc2 := 44) dX7_reaches_42 rfl rfl ?_
          first | refine B_ifeq1 (pc2 := 47) (tgt := 54) dX7_reaches_44 (by with_reducible rfl) (by decide) rfl ?_ | refine B_ifeq0 (tgt := 54) dX7_reaches_44 (by with_reducible rfl) (by decide) ?_ | refine N_ifeq (pc2 := 47) (tgt := 54) dX7_reaches_44 (by with_reducible rfl) (by decide) (by omega) rfl (fun c44 => ?_) (fun c44 => ?_) | refine T_ifeq (pc2 := 47) (tgt := 54) dX7_reaches_44 (by decide) rfl (fun c44 => ?_) (fun c44 => ?_)
          refine T_aload_n (pc2 := 55) dX7_reaches_54 rfl rfl ?_
          refine T_aload_n (pc2 := 56) dX7_reaches_55 rfl rfl ?_
          refine G_getR (pc2 := 59) dX7_reaches_56 flX7_43 (sh4 S) rfl rfl ?_
          refine T_aload_n (pc2 := 60) dX7_reaches_59 rfl rfl ?_
          refine G_getR (pc2 := 63) dX7_reaches_60 flX7_26 (sh4 S) rfl rfl ?_
          refine T_iload_n (pc2 := 64) dX7_reaches_63 rfl rfl ?_
          refine T_aload_n (pc2 := 65) dX7_reaches_64 rfl rfl ?_
          refine G_getR (pc2 := 68) dX7_reaches_65 flX7_10 (sh4 S) rfl rfl ?_
          refine G_getR (pc2 := 71) dX7_reaches_68 flX7_96 (sh5 S) rfl rfl ?_
          refine T_iload_n (pc2 := 72) dX7_reaches_71 rfl rfl ?_
          refine G_aald (pc2 := 73) dX7_reaches_72 (sh9 S) rfl (by omega) (by decide) (by first | with_reducible assumption | rfl) rfl ?_
          refine T_iload_n (pc2 := 74) dX7_reaches_73 rfl rfl ?_
          refine T_iload (pc2 := 76) dX7_reaches_74 rfl rfl ?_
          refine C_V5 (pc2 := 79) (mc := 0) (ms := 0) dX7_reaches_76 cvX4_fittingReaches mlX7_258 (isO.h (sh34 S) _) (Nat.le_of_ble_eq_true rfl) rfl ?_
          refine c_fitReaches S (sc20 S) (by omega) hV hokV hz (by omega) ha (by omega) (by omega) (fun g2 hf2 => ?_)
          refine C_V1 (pc2 := 82) (mc := 0) (ms := 0) dX7_reaches_79 cvX7_fine mlX7_75 (isO.h (sh4 S) _) (Nat.le_of_ble_eq_true rfl) rfl ?_
          refine c_fine S ?_
          refine T_iret dX7_reaches_82 rfl rfl ?_
          refine fin_scrfd k hI hf2 ?_
          rw [hs, hN_one ht rfl (by omega) hxy, fitR_cg (it2 := fun t => s.A.2.2.2 b (x + t)) (fun q hq => ((hA b hb).2 ht).2.2 (x + q) (by omega))]
        · refine T_istore (pc2 := 42) dX7_reaches_40 (by decide) rfl ?_
          refine T_iload (pc2 := 44) dX7_reaches_42 rfl rfl ?_
          first | refine B_ifeq1 (pc2 := 47) (tgt := 54) dX7_reaches_44 (by with_reducible rfl) (by decide) rfl ?_ | refine B_ifeq0 (tgt := 54) dX7_reaches_44 (by with_reducible rfl) (by decide) ?_ | refine N_ifeq (pc2 := 47) (tgt := 54) dX7_reaches_44 (by with_reducible rfl) (by decide) (by omega) rfl (fun c44 => ?_) (fun c44 => ?_) | refine T_ifeq (pc2 := 47) (tgt := 54) dX7_reaches_44 (by decide) rfl (fun c44 => ?_) (fun c44 => ?_)
          · exact absurd c44 (by decide)
          · refine T_aload_n (pc2 := 48) dX7_reaches_47 rfl rfl ?_
            refine T_iload (pc2 := 50) dX7_reaches_48 rfl rfl ?_
            refine C_V1 (pc2 := 53) (mc := 0) (ms := 0) dX7_reaches_50 cvX7_found mlX7_67 (isO.h (sh4 S) _) (Nat.le_of_ble_eq_true rfl) rfl ?_
            refine c_found S ?_
            refine T_iret dX7_reaches_53 rfl rfl ?_
            exact fin_fd k hI (by rw [hs, rowF_2 ht hno])
      · first | refine B_ifne1 (tgt := 29) dX7_reaches_23 (by with_reducible rfl) (by decide) ?_ | refine B_ifne0 (pc2 := 26) (tgt := 29) dX7_reaches_23 (by with_reducible rfl) (by decide) rfl ?_ | refine N_ifne (pc2 := 26) (tgt := 29) dX7_reaches_23 (by with_reducible rfl) (by decide) (by omega) rfl (fun c23 => ?_) (fun c23 => ?_) | refine T_ifne (pc2 := 26) (tgt := 29) dX7_reaches_23 (by decide) rfl (fun c23 => ?_) (fun c23 => ?_)
        refine T_ldc (pc2 := 28) dX7_reaches_26 kcX7_66 rfl ?_
        refine T_iret dX7_reaches_28 rfl rfl ?_
        refine fin_same k hI ?_
        unfold sReaches
        rw [inP_none hno]
        cases inN (nI a) s.V.J <;> cases inN (nI b) 8 <;> rfl
    · first | refine B_ifeq1 (pc2 := 15) (tgt := 26) dX7_reaches_12 (by with_reducible rfl) (by decide) rfl ?_ | refine B_ifeq0 (tgt := 26) dX7_reaches_12 (by with_reducible rfl) (by decide) ?_ | refine N_ifeq (pc2 := 15) (tgt := 26) dX7_reaches_12 (by with_reducible rfl) (by decide) (by omega) rfl (fun c12 => ?_) (fun c12 => ?_) | refine T_ifeq (pc2 := 15) (tgt := 26) dX7_reaches_12 (by decide) rfl (fun c12 => ?_) (fun c12 => ?_)
      refine T_ldc (pc2 := 28) dX7_reaches_26 kcX7_66 rfl ?_
      refine T_iret dX7_reaches_28 rfl rfl ?_
      refine fin_same k hI ?_
      unfold sReaches
      rw [inN_none hno]
      cases inN (nI a) s.V.J <;> rfl
  · first | refine B_ifeq1 (pc2 := 8) (tgt := 26) dX7_reaches_5 (by with_reducible rfl) (by decide) rfl ?_ | refine B_ifeq0 (tgt := 26) dX7_reaches_5 (by with_reducible rfl) (by decide) ?_ | refine N_ifeq (pc2 := 8) (tgt := 26) dX7_reaches_5 (by with_reducible rfl) (by decide) (by omega) rfl (fun c5 => ?_) (fun c5 => ?_) | refine T_ifeq (pc2 := 8) (tgt := 26) dX7_reaches_5 (by decide) rfl (fun c5 => ?_) (fun c5 => ?_)
    refine T_ldc (pc2 := 28) dX7_reaches_26 kcX7_66 rfl ?_
    refine T_iret dX7_reaches_28 rfl rfl ?_
    refine fin_same k hI ?_
    unfold sReaches
    rw [inN_none hno]
theorem j_who {j wh p r i m : Int32} (hI : JJ sk g n bf im above below nx s) (hok : Ok s) (k : ∀ sk2 g2 n2, InvJ sk2 g2 n2 (sWho s j wh p r i m).2 → FrJ sk g sk2 g2 → Q (some (.int (sWho s j wh p r i m).1)) (HP sk2 g2 n2)) : Calls MX7_who (d + 5) 0 0 [.ref 4, .int j, .int wh, .int p, .int r, .int i, .int m] (HP sk g n) Q := by
  have S := hI.1
  have hV := hI.2.2.2.2.2.1
  have hokV := hok.2.2.1.1
  have hJ8 := hokV.1
  refine Calls.of (by decide +kernel) (Nat.le_of_ble_eq_true rfl) ?_
  have hA := hI.2.2.2.1
  refine T_aload_n (pc2 := 1) dX7_who_0 rfl rfl ?_
  refine T_iload_n (pc2 := 2) dX7_who_1 rfl rfl ?_
  refine C_V1 (pc2 := 5) (mc := 0) (ms := 0) dX7_who_2 cvX7_isJar mlX7_174 (isO.h (sh4 S) _) (Nat.le_of_ble_eq_true rfl) rfl ?_
  refine c_isJar S hV.1 hokV.1 (fun jj hj ej => ?_) (fun hno => ?_)
  · subst ej
    first | refine B_ifeq1 (pc2 := 8) (tgt := 42) dX7_who_5 (by with_reducible rfl) (by decide) rfl ?_ | refine B_ifeq0 (tgt := 42) dX7_who_5 (by with_reducible rfl) (by decide) ?_ | refine N_ifeq (pc2 := 8) (tgt := 42) dX7_who_5 (by with_reducible rfl) (by decide) (by omega) rfl (fun c5 => ?_) (fun c5 => ?_) | refine T_ifeq (pc2 := 8) (tgt := 42) dX7_who_5 (by decide) rfl (fun c5 => ?_) (fun c5 => ?_)
    refine T_iload_n (pc2 := 9) dX7_who_8 rfl rfl ?_
    refine C_S1 (pc2 := 12) (mc := 0) (ms := 0) dX7_who_9 csX7_isHalf mlX7_199 (Nat.le_of_ble_eq_true rfl) rfl ?_
    refine c_isHalf (fun ww hw ew => ?_) (fun hno => ?_)
    · subst ew
      first | refine B_ifeq1 (pc2 := 15) (tgt := 42) dX7_who_12 (by with_reducible rfl) (by decide) rfl ?_ | refine B_ifeq0 (tgt := 42) dX7_who_12 (by with_reducible rfl) (by decide) ?_ | refine N_ifeq (pc2 := 15) (tgt := 42) dX7_who_12 (by with_reducible rfl) (by decide) (by omega) rfl (fun c12 => ?_) (fun c12 => ?_) | refine T_ifeq (pc2 := 15) (tgt := 42) dX7_who_12 (by decide) rfl (fun c12 => ?_) (fun c12 => ?_)
      refine T_aload_n (pc2 := 16) dX7_who_15 rfl rfl ?_
      refine T_iload_n (pc2 := 17) dX7_who_16 rfl rfl ?_
      refine C_V1 (pc2 := 20) (mc := 0) (ms := 0) dX7_who_17 cvX7_isPlace mlX7_248 (isO.h (sh4 S) _) (Nat.le_of_ble_eq_true rfl) rfl ?_
      refine c_isPlace S hV.1 hokV.1 (fun a ha ea => ?_) (fun hno => ?_)
      · subst ea
        first | refine B_ifeq1 (pc2 := 23) (tgt := 42) dX7_who_20 (by with_reducible rfl) (by decide) rfl ?_ | refine B_ifeq0 (tgt := 42) dX7_who_20 (by with_reducible rfl) (by decide) ?_ | refine N_ifeq (pc2 := 23) (tgt := 42) dX7_who_20 (by with_reducible rfl) (by decide) (by omega) rfl (fun c20 => ?_) (fun c20 => ?_) | refine T_ifeq (pc2 := 23) (tgt := 42) dX7_who_20 (by decide) rfl (fun c20 => ?_) (fun c20 => ?_)
        refine T_iload (pc2 := 25) dX7_who_23 rfl rfl ?_
        refine C_S1 (pc2 := 28) (mc := 0) (ms := 0) dX7_who_25 csX7_isRow mlX7_58 (Nat.le_of_ble_eq_true rfl) rfl ?_
        refine c_isRow (fun b hb eb => ?_) (fun hno => ?_)
        · subst eb
          first | refine B_ifeq1 (pc2 := 31) (tgt := 42) dX7_who_28 (by with_reducible rfl) (by decide) rfl ?_ | refine B_ifeq0 (tgt := 42) dX7_who_28 (by with_reducible rfl) (by decide) ?_ | refine N_ifeq (pc2 := 31) (tgt := 42) dX7_who_28 (by with_reducible rfl) (by decide) (by omega) rfl (fun c28 => ?_) (fun c28 => ?_) | refine T_ifeq (pc2 := 31) (tgt := 42) dX7_who_28 (by decide) rfl (fun c28 => ?_) (fun c28 => ?_)
          refine T_iload (pc2 := 33) dX7_who_31 rfl rfl ?_
          refine T_iconst (pc2 := 34) dX7_who_33 ic1 rfl ?_
          refine T_bipush (pc2 := 36) dX7_who_34 bp12 rfl ?_
          refine C_S3 (pc2 := 39) (mc := 0) (ms := 0) dX7_who_36 csX7_within mlX7_62 (Nat.le_of_ble_eq_true rfl) rfl ?_
          refine c_within1 (by decide) (fun mm hmm em => ?_) (fun hno => ?_)
          · subst em
            have hs : sWho s (nI jj) (nI ww) (nI a) (nI b) i (nI (mm + 1)) = rowF s b i (mm + 1) (fun x => (if ww = 0 then nI (bm (s.V.fitK jj a (mm + 1) (fun t => s.A.2.2.2 b (x + t))) 6) else nI (bm (s.V.fitN jj a (mm + 1) (fun t => s.A.2.2.2 b (x + t))) 12), s.setfd 0)) := by
              unfold sWho
              rw [inN_some hj (by omega), inN_some hw (by decide), inN_some ha (by omega), inN_some hb (by decide), inP_some hmm (by decide)]
            first | refine B_ifne1 (tgt := 45) dX7_who_39 (by with_reducible rfl) (by decide) ?_ | refine B_ifne0 (pc2 := 42) (tgt := 45) dX7_who_39 (by with_reducible rfl) (by decide) rfl ?_ | refine N_ifne (pc2 := 42) (tgt := 45) dX7_who_39 (by with_reducible rfl) (by decide) (by omega) rfl (fun c39 => ?_) (fun c39 => ?_) | refine T_ifne (pc2 := 42) (tgt := 45) dX7_who_39 (by decide) rfl (fun c39 => ?_) (fun c39 => ?_)
            refine T_aload_n (pc2 := 46) dX7_who_45 rfl rfl ?_
            refine G_getR (pc2 := 49) dX7_who_46 flX7_10 (sh4 S) rfl rfl ?_
            refine T_iload (pc2 := 51) dX7_who_49 rfl rfl ?_
            refine T_iload (pc2 := 53) dX7_who_51 rfl rfl ?_
            refine T_iload (pc2 := 55) dX7_who_53 rfl rfl ?_
            refine C_V3 (pc2 := 58) (mc := 0) (ms := 0) dX7_who_55 cvX5_lacking mlX7_78 (isO.h (sh5 S) _) (Nat.le_of_ble_eq_true rfl) rfl ?_
            refine c_lacking S hA hok.1 hb (fun h0 => ?_) (fun x y ht ex ey hxy => ?_) (fun ht hno => ?_)
            · refine T_istore (pc2 := 60) dX7_who_58 (by decide) rfl ?_
              refine T_iload (pc2 := 62) dX7_who_60 rfl rfl ?_
              first | refine B_ifeq1 (pc2 := 65) (tgt := 72) dX7_who_62 (by with_reducible rfl) (by decide) rfl ?_ | refine B_ifeq0 (tgt := 72) dX7_who_62 (by with_reducible rfl) (by decide) ?_ | refine N_ifeq (pc2 := 65) (tgt := 72) dX7_who_62 (by with_reducible rfl) (by decide) (by omega) rfl (fun c62 => ?_) (fun c62 => ?_) | refine T_ifeq (pc2 := 65) (tgt := 72) dX7_who_62 (by decide) rfl (fun c62 => ?_) (fun c62 => ?_)
              refine T_aload_n (pc2 := 66) dX7_who_65 rfl rfl ?_
              refine T_iload (pc2 := 68) dX7_who_66 rfl rfl ?_
              refine C_V1 (pc2 := 71) (mc := 0) (ms := 0) dX7_who_68 cvX7_found mlX7_67 (isO.h (sh4 S) _) (Nat.le_of_ble_eq_true rfl) rfl ?_
              refine c_found S ?_
              refine T_iret dX7_who_71 rfl rfl ?_
              exact fin_fd k hI (by rw [hs, rowF_0 h0])
            · subst ex
              have hsz := (hok.1 b hb ht).2
              have ey := nI_b (by omega) ey (by omega)
              subst ey
              have hz := shRow S b hb
              have ez1 : (if b < 8 then some (10 + b) else none) = some (10 + b) := if_pos hb
              refine T_istore (pc2 := 60) dX7_who_58 (by decide) rfl ?_
              refine T_iload (pc2 := 62) dX7_who_60 rfl rfl ?_
              first | refine B_ifeq1 (pc2 := 65) (tgt := 72) dX7_who_62 (by with_reducible rfl) (by decide) rfl ?_ | refine B_ifeq0 (tgt := 72) dX7_who_62 (by with_reducible rfl) (by decide) ?_ | refine N_ifeq (pc2 := 65) (tgt := 72) dX7_who_62 (by with_reducible rfl) (by decide) (by omega) rfl (fun c62 => ?_) (fun c62 => ?_) | refine T_ifeq (pc2 := 65) (tgt := 72) dX7_who_62 (by decide) rfl (fun c62 => ?_) (fun c62 => ?_)
              refine T_iload_n (pc2 := 73) dX7_who_72 rfl rfl ?_
              first | refine B_ifne1 (tgt := 108) dX7_who_73 (by with_reducible rfl) (by decide) ?_ | refine B_ifne0 (pc2 := 76) (tgt := 108) dX7_who_73 (by with_reducible rfl) (by decide) rfl ?_ | refine N_ifne (pc2 := 76) (tgt := 108) dX7_who_73 (by with_reducible rfl) (by decide) (by omega) rfl (fun c73 => ?_) (fun c73 => ?_) | refine T_ifne (pc2 := 76) (tgt := 108) dX7_who_73 (by decide) rfl (fun c73 => ?_) (fun c73 => ?_)
              · refine T_aload_n (pc2 := 109) dX7_who_108 rfl rfl ?_
                refine T_aload_n (pc2 := 110) dX7_who_109 rfl rfl ?_
                refine G_getR (pc2 := 113) dX7_who_110 flX7_43 (sh4 S) rfl rfl ?_
                refine T_aload_n (pc2 := 114) dX7_who_113 rfl rfl ?_
                refine G_getR (pc2 := 117) dX7_who_114 flX7_26 (sh4 S) rfl rfl ?_
                refine T_iload_n (pc2 := 118) dX7_who_117 rfl rfl ?_
                refine T_iload_n (pc2 := 119) dX7_who_118 rfl rfl ?_
                refine T_aload_n (pc2 := 120) dX7_who_119 rfl rfl ?_
                refine G_getR (pc2 := 123) dX7_who_120 flX7_10 (sh4 S) rfl rfl ?_
                refine G_getR (pc2 := 126) dX7_who_123 flX7_96 (sh5 S) rfl rfl ?_
                refine T_iload (pc2 := 128) dX7_who_126 rfl rfl ?_
                refine G_aald (pc2 := 129) dX7_who_128 (sh9 S) rfl (by omega) (by decide) (by first | with_reducible assumption | rfl) rfl ?_
                refine T_iload (pc2 := 131) dX7_who_129 rfl rfl ?_
                refine T_iload (pc2 := 133) dX7_who_131 rfl rfl ?_
                refine C_V6 (pc2 := 136) (mc := 0) (ms := 0) dX7_who_133 cvX4_fittingNotes mlX7_255 (isO.h (sh34 S) _) (Nat.le_of_ble_eq_true rfl) rfl ?_
                refine c_fitNotes S (sc20 S) (by omega) hV hokV hj hz (by omega) ha (by omega) (by omega) (fun g2 hf2 => ?_)
                refine C_V1 (pc2 := 139) (mc := 0) (ms := 0) dX7_who_136 cvX7_fine mlX7_75 (isO.h (sh4 S) _) (Nat.le_of_ble_eq_true rfl) rfl ?_
                refine c_fine S ?_
                refine T_iret dX7_who_139 rfl rfl ?_
                refine fin_scrfd k hI hf2 ?_
                rw [hs, hN_one ht rfl (by omega) hxy, if_neg c73, fitN_cg (it2 := fun t => s.A.2.2.2 b (x + t)) (fun q hq => ((hA b hb).2 ht).2.2 (x + q) (by omega))]
              · refine T_aload_n (pc2 := 77) dX7_who_76 rfl rfl ?_
                refine T_aload_n (pc2 := 78) dX7_who_77 rfl rfl ?_
                refine G_getR (pc2 := 81) dX7_who_78 flX7_43 (sh4 S) rfl rfl ?_
                refine T_aload_n (pc2 := 82) dX7_who_81 rfl rfl ?_
                refine G_getR (pc2 := 85) dX7_who_82 flX7_26 (sh4 S) rfl rfl ?_
                refine T_iload_n (pc2 := 86) dX7_who_85 rfl rfl ?_
                refine T_iload_n (pc2 := 87) dX7_who_86 rfl rfl ?_
                refine T_aload_n (pc2 := 88) dX7_who_87 rfl rfl ?_
                refine G_getR (pc2 := 91) dX7_who_88 flX7_10 (sh4 S) rfl rfl ?_
                refine G_getR (pc2 := 94) dX7_who_91 flX7_96 (sh5 S) rfl rfl ?_
                refine T_iload (pc2 := 96) dX7_who_94 rfl rfl ?_
                refine G_aald (pc2 := 97) dX7_who_96 (sh9 S) rfl (by omega) (by decide) (by first | with_reducible assumption | rfl) rfl ?_
                refine T_iload (pc2 := 99) dX7_who_97 rfl rfl ?_
                refine T_iload (pc2 := 101) dX7_who_99 rfl rfl ?_
                refine C_V6 (pc2 := 104) (mc := 0) (ms := 0) dX7_who_101 cvX4_fittingKinds mlX7_251 (isO.h (sh34 S) _) (Nat.le_of_ble_eq_true rfl) rfl ?_
                refine c_fitKinds S (sc20 S) (by omega) hV hokV hj hz (by omega) ha (by omega) (by omega) (fun g2 hf2 => ?_)
                refine C_V1 (pc2 := 107) (mc := 0) (ms := 0) dX7_who_104 cvX7_fine mlX7_75 (isO.h (sh4 S) _) (Nat.le_of_ble_eq_true rfl) rfl ?_
                refine c_fine S ?_
                refine T_iret dX7_who_107 rfl rfl ?_
                refine fin_scrfd k hI hf2 ?_
                rw [hs, hN_one ht rfl (by omega) hxy, if_pos c73, fitK_cg (it2 := fun t => s.A.2.2.2 b (x + t)) (fun q hq => ((hA b hb).2 ht).2.2 (x + q) (by omega))]
            · refine T_istore (pc2 := 60) dX7_who_58 (by decide) rfl ?_
              refine T_iload (pc2 := 62) dX7_who_60 rfl rfl ?_
              first | refine B_ifeq1 (pc2 := 65) (tgt := 72) dX7_who_62 (by with_reducible rfl) (by decide) rfl ?_ | refine B_ifeq0 (tgt := 72) dX7_who_62 (by with_reducible rfl) (by decide) ?_ | refine N_ifeq (pc2 := 65) (tgt := 72) dX7_who_62 (by with_reducible rfl) (by decide) (by omega) rfl (fun c62 => ?_) (fun c62 => ?_) | refine T_ifeq (pc2 := 65) (tgt := 72) dX7_who_62 (by decide) rfl (fun c62 => ?_) (fun c62 => ?_)
              · exact absurd c62 (by decide)
              · refine T_aload_n (pc2 := 66) dX7_who_65 rfl rfl ?_
                refine T_iload (pc2 := 68) dX7_who_66 rfl rfl ?_
                refine C_V1 (pc2 := 71) (mc := 0) (ms := 0) dX7_who_68 cvX7_found mlX7_67 (isO.h (sh4 S) _) (Nat.le_of_ble_eq_true rfl) rfl ?_
                refine c_found S ?_
                refine T_iret dX7_who_71 rfl rfl ?_
                exact fin_fd k hI (by rw [hs, rowF_2 ht hno])
          · first | refine B_ifne1 (tgt := 45) dX7_who_39 (by with_reducible rfl) (by decide) ?_ | refine B_ifne0 (pc2 := 42) (tgt := 45) dX7_who_39 (by with_reducible rfl) (by decide) rfl ?_ | refine N_ifne (pc2 := 42) (tgt := 45) dX7_who_39 (by with_reducible rfl) (by decide) (by omega) rfl (fun c39 => ?_) (fun c39 => ?_) | refine T_ifne (pc2 := 42) (tgt := 45) dX7_who_39 (by decide) rfl (fun c39 => ?_) (fun c39 => ?_)
            refine T_ldc (pc2 := 44) dX7_who_42 kcX7_66 rfl ?_
            refine T_iret dX7_who_44 rfl rfl ?_
            refine fin_same k hI ?_
            unfold sWho
            rw [inP_none hno]
            cases inN (nI jj) s.V.J <;> cases inN (nI ww) 2 <;> cases inN (nI a) s.V.J <;> cases inN (nI b) 8 <;> rfl
        · first | refine B_ifeq1 (pc2 := 31) (tgt := 42) dX7_who_28 (by with_reducible rfl) (by decide) rfl ?_ | refine B_ifeq0 (tgt := 42) dX7_who_28 (by with_reducible rfl) (by decide) ?_ | refine N_ifeq (pc2 := 31) (tgt := 42) dX7_who_28 (by with_reducible rfl) (by decide) (by omega) rfl (fun c28 => ?_) (fun c28 => ?_) | refine T_ifeq (pc2 := 31) (tgt := 42) dX7_who_28 (by decide) rfl (fun c28 => ?_) (fun c28 => ?_)
          refine T_ldc (pc2 := 44) dX7_who_42 kcX7_66 rfl ?_
          refine T_iret dX7_who_44 rfl rfl ?_
          refine fin_same k hI ?_
          unfold sWho
          rw [inN_none hno]
          cases inN (nI jj) s.V.J <;> cases inN (nI ww) 2 <;> cases inN (nI a) s.V.J <;> rfl
      · first | refine B_ifeq1 (pc2 := 23) (tgt := 42) dX7_who_20 (by with_reducible rfl) (by decide) rfl ?_ | refine B_ifeq0 (tgt := 42) dX7_who_20 (by with_reducible rfl) (by decide) ?_ | refine N_ifeq (pc2 := 23) (tgt := 42) dX7_who_20 (by with_reducible rfl) (by decide) (by omega) rfl (fun c20 => ?_) (fun c20 => ?_) | refine T_ifeq (pc2 := 23) (tgt := 42) dX7_who_20 (by decide) rfl (fun c20 => ?_) (fun c20 => ?_)
        refine T_ldc (pc2 := 44) dX7_who_42 kcX7_66 rfl ?_
        refine T_iret dX7_who_44 rfl rfl ?_
        refine fin_same k hI ?_
        unfold sWho
        rw [inN_none (v := p) hno]
        cases inN (nI jj) s.V.J <;> cases inN (nI ww) 2 <;> rfl
    · first | refine B_ifeq1 (pc2 := 15) (tgt := 42) dX7_who_12 (by with_reducible rfl) (by decide) rfl ?_ | refine B_ifeq0 (tgt := 42) dX7_who_12 (by with_reducible rfl) (by decide) ?_ | refine N_ifeq (pc2 := 15) (tgt := 42) dX7_who_12 (by with_reducible rfl) (by decide) (by omega) rfl (fun c12 => ?_) (fun c12 => ?_) | refine T_ifeq (pc2 := 15) (tgt := 42) dX7_who_12 (by decide) rfl (fun c12 => ?_) (fun c12 => ?_)
      refine T_ldc (pc2 := 44) dX7_who_42 kcX7_66 rfl ?_
      refine T_iret dX7_who_44 rfl rfl ?_
      refine fin_same k hI ?_
      unfold sWho
      rw [inN_none (v := wh) hno]
      cases inN (nI jj) s.V.J <;> rfl
  · first | refine B_ifeq1 (pc2 := 8) (tgt := 42) dX7_who_5 (by with_reducible rfl) (by decide) rfl ?_ | refine B_ifeq0 (tgt := 42) dX7_who_5 (by with_reducible rfl) (by decide) ?_ | refine N_ifeq (pc2 := 8) (tgt := 42) dX7_who_5 (by with_reducible rfl) (by decide) (by omega) rfl (fun c5 => ?_) (fun c5 => ?_) | refine T_ifeq (pc2 := 8) (tgt := 42) dX7_who_5 (by decide) rfl (fun c5 => ?_) (fun c5 => ?_)
    refine T_ldc (pc2 := 44) dX7_who_42 kcX7_66 rfl ?_
    refine T_iret dX7_who_44 rfl rfl ?_
    refine fin_same k hI ?_
    unfold sWho
    rw [inN_none (v := j) hno]
theorem j_song {w r i m : Int32} (hI : JJ sk g n bf im above below nx s) (hok : Ok s) (k : ∀ sk2 g2 n2, InvJ sk2 g2 n2 (sSong s w r i m).2 → FrJ sk g sk2 g2 → Q (some (.int (sSong s w r i m).1)) (HP sk2 g2 n2)) : Calls MX7_song (d + 5) 0 0 [.ref 4, .int w, .int r, .int i, .int m] (HP sk g n) Q := by
  have S := hI.1
  have hV := hI.2.2.2.2.2.1
  have hokV := hok.2.2.1.1
  have hJ8 := hokV.1
  refine Calls.of (by decide +kernel) (Nat.le_of_ble_eq_true rfl) ?_
  have hA := hI.2.2.2.1
  refine T_aload_n (pc2 := 1) dX7_song_0 rfl rfl ?_
  refine C_V0 (pc2 := 4) (mc := 0) (ms := 0) dX7_song_1 cvX7_noCellar mlX7_146 (isO.h (sh4 S) _) (Nat.le_of_ble_eq_true rfl) rfl ?_
  refine c_noCellar S hV.1 hokV.1 (fun h0 => ?_) (fun h0 => ?_)
  · first | refine B_ifeq1 (pc2 := 7) (tgt := 10) dX7_song_4 (by with_reducible rfl) (by decide) rfl ?_ | refine B_ifeq0 (tgt := 10) dX7_song_4 (by with_reducible rfl) (by decide) ?_ | refine N_ifeq (pc2 := 7) (tgt := 10) dX7_song_4 (by with_reducible rfl) (by decide) (by omega) rfl (fun c4 => ?_) (fun c4 => ?_) | refine T_ifeq (pc2 := 7) (tgt := 10) dX7_song_4 (by decide) rfl (fun c4 => ?_) (fun c4 => ?_)
    refine T_ldc (pc2 := 9) dX7_song_7 kcX7_145 rfl ?_
    refine T_iret dX7_song_9 rfl rfl ?_
    exact fin_same k hI (if_pos h0)
  · first | refine B_ifeq1 (pc2 := 7) (tgt := 10) dX7_song_4 (by with_reducible rfl) (by decide) rfl ?_ | refine B_ifeq0 (tgt := 10) dX7_song_4 (by with_reducible rfl) (by decide) ?_ | refine N_ifeq (pc2 := 7) (tgt := 10) dX7_song_4 (by with_reducible rfl) (by decide) (by omega) rfl (fun c4 => ?_) (fun c4 => ?_) | refine T_ifeq (pc2 := 7) (tgt := 10) dX7_song_4 (by decide) rfl (fun c4 => ?_) (fun c4 => ?_)
    refine T_iload_n (pc2 := 11) dX7_song_10 rfl rfl ?_
    refine C_S1 (pc2 := 14) (mc := 0) (ms := 0) dX7_song_11 csX7_isHalf mlX7_199 (Nat.le_of_ble_eq_true rfl) rfl ?_
    have hs : sSong s w r i m = match inN w 2, inN r 8, inP m 12 with
        | some w, some r, some m => rowF s r i (m + 1) (fun a => if allB (fun t => ntB (s.A.2.2.2 r (a + t))) (m + 1) then (if w = 0 then nI (bm (s.V.sg (fun t => s.A.2.2.2 r (a + t)) (m + 1)).2.1 8) else nI (s.V.sg (fun t => s.A.2.2.2 r (a + t)) (m + 1)).2.2, s.setfd 0) else (fnd 3, s.setfd 3))
        | _, _, _ => (BAD, s) := if_neg (by omega)
    refine c_isHalf (fun ww hw ew => ?_) (fun hno => ?_)
    · subst ew
      first | refine B_ifeq1 (pc2 := 17) (tgt := 35) dX7_song_14 (by with_reducible rfl) (by decide) rfl ?_ | refine B_ifeq0 (tgt := 35) dX7_song_14 (by with_reducible rfl) (by decide) ?_ | refine N_ifeq (pc2 := 17) (tgt := 35) dX7_song_14 (by with_reducible rfl) (by decide) (by omega) rfl (fun c14 => ?_) (fun c14 => ?_) | refine T_ifeq (pc2 := 17) (tgt := 35) dX7_song_14 (by decide) rfl (fun c14 => ?_) (fun c14 => ?_)
      refine T_iload_n (pc2 := 18) dX7_song_17 rfl rfl ?_
      refine C_S1 (pc2 := 21) (mc := 0) (ms := 0) dX7_song_18 csX7_isRow mlX7_58 (Nat.le_of_ble_eq_true rfl) rfl ?_
      refine c_isRow (fun b hb eb => ?_) (fun hno => ?_)
      · subst eb
        first | refine B_ifeq1 (pc2 := 24) (tgt := 35) dX7_song_21 (by with_reducible rfl) (by decide) rfl ?_ | refine B_ifeq0 (tgt := 35) dX7_song_21 (by with_reducible rfl) (by decide) ?_ | refine N_ifeq (pc2 := 24) (tgt := 35) dX7_song_21 (by with_reducible rfl) (by decide) (by omega) rfl (fun c21 => ?_) (fun c21 => ?_) | refine T_ifeq (pc2 := 24) (tgt := 35) dX7_song_21 (by decide) rfl (fun c21 => ?_) (fun c21 => ?_)
        refine T_iload (pc2 := 26) dX7_song_24 rfl rfl ?_
        refine T_iconst (pc2 := 27) dX7_song_26 ic1 rfl ?_
        refine T_bipush (pc2 := 29) dX7_song_27 bp12 rfl ?_
        refine C_S3 (pc2 := 32) (mc := 0) (ms := 0) dX7_song_29 csX7_within mlX7_62 (Nat.le_of_ble_eq_true rfl) rfl ?_
        refine c_within1 (by decide) (fun mm hmm em => ?_) (fun hno => ?_)
        · subst em
          rw [inN_some hw (by decide), inN_some hb (by decide), inP_some hmm (by decide)] at hs
          have hs : sSong s (nI ww) (nI b) i (nI (mm + 1)) = rowF s b i (mm + 1) (fun a => if allB (fun t => ntB (s.A.2.2.2 b (a + t))) (mm + 1) then (if ww = 0 then nI (bm (s.V.sg (fun t => s.A.2.2.2 b (a + t)) (mm + 1)).2.1 8) else nI (s.V.sg (fun t => s.A.2.2.2 b (a + t)) (mm + 1)).2.2, s.setfd 0) else (fnd 3, s.setfd 3)) := hs
          first | refine B_ifne1 (tgt := 38) dX7_song_32 (by with_reducible rfl) (by decide) ?_ | refine B_ifne0 (pc2 := 35) (tgt := 38) dX7_song_32 (by with_reducible rfl) (by decide) rfl ?_ | refine N_ifne (pc2 := 35) (tgt := 38) dX7_song_32 (by with_reducible rfl) (by decide) (by omega) rfl (fun c32 => ?_) (fun c32 => ?_) | refine T_ifne (pc2 := 35) (tgt := 38) dX7_song_32 (by decide) rfl (fun c32 => ?_) (fun c32 => ?_)
          refine T_aload_n (pc2 := 39) dX7_song_38 rfl rfl ?_
          refine G_getR (pc2 := 42) dX7_song_39 flX7_10 (sh4 S) rfl rfl ?_
          refine T_iload_n (pc2 := 43) dX7_song_42 rfl rfl ?_
          refine T_iload_n (pc2 := 44) dX7_song_43 rfl rfl ?_
          refine T_iload (pc2 := 46) dX7_song_44 rfl rfl ?_
          refine C_V3 (pc2 := 49) (mc := 0) (ms := 0) dX7_song_46 cvX5_lacking mlX7_78 (isO.h (sh5 S) _) (Nat.le_of_ble_eq_true rfl) rfl ?_
          refine c_lacking S hA hok.1 hb (fun h0 => ?_) (fun x y ht ex ey hxy => ?_) (fun ht hno => ?_)
          · refine T_istore (pc2 := 51) dX7_song_49 (by decide) rfl ?_
            refine T_iload (pc2 := 53) dX7_song_51 rfl rfl ?_
            first | refine B_ifne1 (tgt := 73) dX7_song_53 (by with_reducible rfl) (by decide) ?_ | refine B_ifne0 (pc2 := 56) (tgt := 73) dX7_song_53 (by with_reducible rfl) (by decide) rfl ?_ | refine N_ifne (pc2 := 56) (tgt := 73) dX7_song_53 (by with_reducible rfl) (by decide) (by omega) rfl (fun c53 => ?_) (fun c53 => ?_) | refine T_ifne (pc2 := 56) (tgt := 73) dX7_song_53 (by decide) rfl (fun c53 => ?_) (fun c53 => ?_)
            refine T_iload (pc2 := 75) dX7_song_73 rfl rfl ?_
            first | refine B_ifeq1 (pc2 := 78) (tgt := 85) dX7_song_75 (by with_reducible rfl) (by decide) rfl ?_ | refine B_ifeq0 (tgt := 85) dX7_song_75 (by with_reducible rfl) (by decide) ?_ | refine N_ifeq (pc2 := 78) (tgt := 85) dX7_song_75 (by with_reducible rfl) (by decide) (by omega) rfl (fun c75 => ?_) (fun c75 => ?_) | refine T_ifeq (pc2 := 78) (tgt := 85) dX7_song_75 (by decide) rfl (fun c75 => ?_) (fun c75 => ?_)
            refine T_aload_n (pc2 := 79) dX7_song_78 rfl rfl ?_
            refine T_iload (pc2 := 81) dX7_song_79 rfl rfl ?_
            refine C_V1 (pc2 := 84) (mc := 0) (ms := 0) dX7_song_81 cvX7_found mlX7_67 (isO.h (sh4 S) _) (Nat.le_of_ble_eq_true rfl) rfl ?_
            refine c_found S ?_
            refine T_iret dX7_song_84 rfl rfl ?_
            exact fin_fd k hI (by rw [hs, rowF_0 h0])
          · subst ex
            have hsz := (hok.1 b hb ht).2
            have ey := nI_b (by omega) ey (by omega)
            subst ey
            have hz := shRow S b hb
            have ez1 : (if b < 8 then some (10 + b) else none) = some (10 + b) := if_pos hb
            refine T_istore (pc2 := 51) dX7_song_49 (by decide) rfl ?_
            refine T_iload (pc2 := 53) dX7_song_51 rfl rfl ?_
            first | refine B_ifne1 (tgt := 73) dX7_song_53 (by with_reducible rfl) (by decide) ?_ | refine B_ifne0 (pc2 := 56) (tgt := 73) dX7_song_53 (by with_reducible rfl) (by decide) rfl ?_ | refine N_ifne (pc2 := 56) (tgt := 73) dX7_song_53 (by with_reducible rfl) (by decide) (by omega) rfl (fun c53 => ?_) (fun c53 => ?_) | refine T_ifne (pc2 := 56) (tgt := 73) dX7_song_53 (by decide) rfl (fun c53 => ?_) (fun c53 => ?_)
            refine T_aload_n (pc2 := 57) dX7_song_56 rfl rfl ?_
            refine G_getR (pc2 := 60) dX7_song_57 flX7_10 (sh4 S) rfl rfl ?_
            refine T_iload_n (pc2 := 61) dX7_song_60 rfl rfl ?_
            refine T_iload_n (pc2 := 62) dX7_song_61 rfl rfl ?_
            refine T_iload (pc2 := 64) dX7_song_62 rfl rfl ?_
            refine C_V3 (pc2 := 67) (mc := 0) (ms := 0) dX7_song_64 cvX5_tellsNotes mlX7_241 (isO.h (sh5 S) _) (Nat.le_of_ble_eq_true rfl) rfl ?_
            refine c_tells S hA hb ht (by omega) (by omega) (fun hall => ?_) (fun hex => ?_)
            · first | refine B_ifne1 (tgt := 73) dX7_song_67 (by with_reducible rfl) (by decide) ?_ | refine B_ifne0 (pc2 := 70) (tgt := 73) dX7_song_67 (by with_reducible rfl) (by decide) rfl ?_ | refine N_ifne (pc2 := 70) (tgt := 73) dX7_song_67 (by with_reducible rfl) (by decide) (by omega) rfl (fun c67 => ?_) (fun c67 => ?_) | refine T_ifne (pc2 := 70) (tgt := 73) dX7_song_67 (by decide) rfl (fun c67 => ?_) (fun c67 => ?_)
              refine T_iload (pc2 := 75) dX7_song_73 rfl rfl ?_
              first | refine B_ifeq1 (pc2 := 78) (tgt := 85) dX7_song_75 (by with_reducible rfl) (by decide) rfl ?_ | refine B_ifeq0 (tgt := 85) dX7_song_75 (by with_reducible rfl) (by decide) ?_ | refine N_ifeq (pc2 := 78) (tgt := 85) dX7_song_75 (by with_reducible rfl) (by decide) (by omega) rfl (fun c75 => ?_) (fun c75 => ?_) | refine T_ifeq (pc2 := 78) (tgt := 85) dX7_song_75 (by decide) rfl (fun c75 => ?_) (fun c75 => ?_)
              refine T_aload_n (pc2 := 86) dX7_song_85 rfl rfl ?_
              refine G_getR (pc2 := 89) dX7_song_86 flX7_43 (sh4 S) rfl rfl ?_
              refine T_aload_n (pc2 := 90) dX7_song_89 rfl rfl ?_
              refine G_getR (pc2 := 93) dX7_song_90 flX7_26 (sh4 S) rfl rfl ?_
              refine T_aload_n (pc2 := 94) dX7_song_93 rfl rfl ?_
              refine G_getR (pc2 := 97) dX7_song_94 flX7_10 (sh4 S) rfl rfl ?_
              refine G_getR (pc2 := 100) dX7_song_97 flX7_96 (sh5 S) rfl rfl ?_
              refine T_iload_n (pc2 := 101) dX7_song_100 rfl rfl ?_
              refine G_aald (pc2 := 102) dX7_song_101 (sh9 S) rfl (by omega) (by decide) (by first | with_reducible assumption | rfl) rfl ?_
              refine T_iload_n (pc2 := 103) dX7_song_102 rfl rfl ?_
              refine T_iload (pc2 := 105) dX7_song_103 rfl rfl ?_
              refine C_V4 (pc2 := 108) (mc := 0) (ms := 0) dX7_song_105 cvX4_findSong mlX7_244 (isO.h (sh34 S) _) (Nat.le_of_ble_eq_true rfl) rfl ?_
              refine c_findSong S (sc20 S) (by omega) hz (by omega) hV hokV (by omega) (fun g2 e2 e3 hf2 => ?_)
              rw [sg_cg (it2 := fun t => s.A.2.2.2 b (x + t)) (fun q hq => ((hA b hb).2 ht).2.2 (x + q) (by omega))] at e2 e3
              have hall2 : allB (fun t => ntB (s.A.2.2.2 b (x + t))) (mm + 1) = true := allB_true _ (fun t ht => ntB_true (hall t ht))
              refine T_aload_n (pc2 := 109) dX7_song_108 rfl rfl ?_
              refine T_iload_n (pc2 := 110) dX7_song_109 rfl rfl ?_
              first | refine B_ifne1 (tgt := 123) dX7_song_110 (by with_reducible rfl) (by decide) ?_ | refine B_ifne0 (pc2 := 113) (tgt := 123) dX7_song_110 (by with_reducible rfl) (by decide) rfl ?_ | refine N_ifne (pc2 := 113) (tgt := 123) dX7_song_110 (by with_reducible rfl) (by decide) (by omega) rfl (fun c110 => ?_) (fun c110 => ?_) | refine T_ifne (pc2 := 113) (tgt := 123) dX7_song_110 (by decide) rfl (fun c110 => ?_) (fun c110 => ?_)
              · refine T_aload_n (pc2 := 124) dX7_song_123 rfl rfl ?_
                refine G_getR (pc2 := 127) dX7_song_124 flX7_43 (sh4 S) rfl rfl ?_
                refine G_getI (pc2 := 130) dX7_song_127 flX7_217 (sh34 S) rfl (by first | with_reducible assumption | exact gs_eq _ _ _ _ | exact (gs_ne _ _ (by omega)).trans (by with_reducible assumption) | exact (gs_ne _ _ (by omega)).trans (gs_eq _ _ _ _) | exact (gs_ne _ _ (by omega)).trans ((gs_ne _ _ (by omega)).trans (by with_reducible assumption)) | exact (gs_ne _ _ (by omega)).trans ((gs_ne _ _ (by omega)).trans (gs_eq _ _ _ _)) | exact (gs_ne _ _ (by omega)).trans ((gs_ne _ _ (by omega)).trans ((gs_ne _ _ (by omega)).trans (by with_reducible assumption))) | rfl) rfl ?_
                refine C_V1 (pc2 := 133) (mc := 0) (ms := 0) dX7_song_130 cvX7_fine mlX7_75 (isO.h (sh4 S) _) (Nat.le_of_ble_eq_true rfl) rfl ?_
                refine c_fine S ?_
                refine T_iret dX7_song_133 rfl rfl ?_
                refine fin_scrfd k hI hf2 ?_
                rw [hs, hN_one ht rfl (by omega) hxy, if_pos hall2, if_neg c110]
              · refine T_aload_n (pc2 := 114) dX7_song_113 rfl rfl ?_
                refine G_getR (pc2 := 117) dX7_song_114 flX7_43 (sh4 S) rfl rfl ?_
                refine G_getI (pc2 := 120) dX7_song_117 flX7_214 (sh34 S) rfl (by first | with_reducible assumption | exact gs_eq _ _ _ _ | exact (gs_ne _ _ (by omega)).trans (by with_reducible assumption) | exact (gs_ne _ _ (by omega)).trans (gs_eq _ _ _ _) | exact (gs_ne _ _ (by omega)).trans ((gs_ne _ _ (by omega)).trans (by with_reducible assumption)) | exact (gs_ne _ _ (by omega)).trans ((gs_ne _ _ (by omega)).trans (gs_eq _ _ _ _)) | exact (gs_ne _ _ (by omega)).trans ((gs_ne _ _ (by omega)).trans ((gs_ne _ _ (by omega)).trans (by with_reducible assumption))) | rfl) rfl ?_
                refine T_goto (tgt := 130) dX7_song_120 (by decide) ?_
                refine C_V1 (pc2 := 133) (mc := 0) (ms := 0) dX7_song_130 cvX7_fine mlX7_75 (isO.h (sh4 S) _) (Nat.le_of_ble_eq_true rfl) rfl ?_
                refine c_fine S ?_
                refine T_iret dX7_song_133 rfl rfl ?_
                refine fin_scrfd k hI hf2 ?_
                rw [hs, hN_one ht rfl (by omega) hxy, if_pos hall2, if_pos c110]
            · obtain ⟨t, ht2, hno⟩ := hex
              have hall2 : allB (fun t => ntB (s.A.2.2.2 b (x + t))) (mm + 1) = false := allB_false _ t ht2 (ntB_false hno)
              first | refine B_ifne1 (tgt := 73) dX7_song_67 (by with_reducible rfl) (by decide) ?_ | refine B_ifne0 (pc2 := 70) (tgt := 73) dX7_song_67 (by with_reducible rfl) (by decide) rfl ?_ | refine N_ifne (pc2 := 70) (tgt := 73) dX7_song_67 (by with_reducible rfl) (by decide) (by omega) rfl (fun c67 => ?_) (fun c67 => ?_) | refine T_ifne (pc2 := 70) (tgt := 73) dX7_song_67 (by decide) rfl (fun c67 => ?_) (fun c67 => ?_)
              refine T_iconst (pc2 := 71) dX7_song_70 ic3 rfl ?_
              refine T_istore (pc2 := 73) dX7_song_71 (by decide) rfl ?_
              refine T_iload (pc2 := 75) dX7_song_73 rfl rfl ?_
              first | refine B_ifeq1 (pc2 := 78) (tgt := 85) dX7_song_75 (by with_reducible rfl) (by decide) rfl ?_ | refine B_ifeq0 (tgt := 85) dX7_song_75 (by with_reducible rfl) (by decide) ?_ | refine N_ifeq (pc2 := 78) (tgt := 85) dX7_song_75 (by with_reducible rfl) (by decide) (by omega) rfl (fun c75 => ?_) (fun c75 => ?_) | refine T_ifeq (pc2 := 78) (tgt := 85) dX7_song_75 (by decide) rfl (fun c75 => ?_) (fun c75 => ?_)
              · exact absurd c75 (by decide)
              · refine T_aload_n (pc2 := 79) dX7_song_78 rfl rfl ?_
                refine T_iload (pc2 := 81) dX7_song_79 rfl rfl ?_
                refine C_V1 (pc2 := 84) (mc := 0) (ms := 0) dX7_song_81 cvX7_found mlX7_67 (isO.h (sh4 S) _) (Nat.le_of_ble_eq_true rfl) rfl ?_
                refine c_found S ?_
                refine T_iret dX7_song_84 rfl rfl ?_
                refine fin_fd k hI ?_
                rw [hs, hN_one ht rfl (by omega) hxy, hall2]
                rfl
          · refine T_istore (pc2 := 51) dX7_song_49 (by decide) rfl ?_
            refine T_iload (pc2 := 53) dX7_song_51 rfl rfl ?_
            first | refine B_ifne1 (tgt := 73) dX7_song_53 (by with_reducible rfl) (by decide) ?_ | refine B_ifne0 (pc2 := 56) (tgt := 73) dX7_song_53 (by with_reducible rfl) (by decide) rfl ?_ | refine N_ifne (pc2 := 56) (tgt := 73) dX7_song_53 (by with_reducible rfl) (by decide) (by omega) rfl (fun c53 => ?_) (fun c53 => ?_) | refine T_ifne (pc2 := 56) (tgt := 73) dX7_song_53 (by decide) rfl (fun c53 => ?_) (fun c53 => ?_)
            · refine T_iload (pc2 := 75) dX7_song_73 rfl rfl ?_
              first | refine B_ifeq1 (pc2 := 78) (tgt := 85) dX7_song_75 (by with_reducible rfl) (by decide) rfl ?_ | refine B_ifeq0 (tgt := 85) dX7_song_75 (by with_reducible rfl) (by decide) ?_ | refine N_ifeq (pc2 := 78) (tgt := 85) dX7_song_75 (by with_reducible rfl) (by decide) (by omega) rfl (fun c75 => ?_) (fun c75 => ?_) | refine T_ifeq (pc2 := 78) (tgt := 85) dX7_song_75 (by decide) rfl (fun c75 => ?_) (fun c75 => ?_)
              · exact absurd c75 (by decide)
              · refine T_aload_n (pc2 := 79) dX7_song_78 rfl rfl ?_
                refine T_iload (pc2 := 81) dX7_song_79 rfl rfl ?_
                refine C_V1 (pc2 := 84) (mc := 0) (ms := 0) dX7_song_81 cvX7_found mlX7_67 (isO.h (sh4 S) _) (Nat.le_of_ble_eq_true rfl) rfl ?_
                refine c_found S ?_
                refine T_iret dX7_song_84 rfl rfl ?_
                exact fin_fd k hI (by rw [hs, rowF_2 ht hno])
            · exact absurd c53 (by decide)
        · first | refine B_ifne1 (tgt := 38) dX7_song_32 (by with_reducible rfl) (by decide) ?_ | refine B_ifne0 (pc2 := 35) (tgt := 38) dX7_song_32 (by with_reducible rfl) (by decide) rfl ?_ | refine N_ifne (pc2 := 35) (tgt := 38) dX7_song_32 (by with_reducible rfl) (by decide) (by omega) rfl (fun c32 => ?_) (fun c32 => ?_) | refine T_ifne (pc2 := 35) (tgt := 38) dX7_song_32 (by decide) rfl (fun c32 => ?_) (fun c32 => ?_)
          refine T_ldc (pc2 := 37) dX7_song_35 kcX7_66 rfl ?_
          refine T_iret dX7_song_37 rfl rfl ?_
          refine fin_same k hI ?_
          rw [hs, inP_none hno]
          cases inN (nI ww) 2 <;> cases inN (nI b) 8 <;> rfl
      · first | refine B_ifeq1 (pc2 := 24) (tgt := 35) dX7_song_21 (by with_reducible rfl) (by decide) rfl ?_ | refine B_ifeq0 (tgt := 35) dX7_song_21 (by with_reducible rfl) (by decide) ?_ | refine N_ifeq (pc2 := 24) (tgt := 35) dX7_song_21 (by with_reducible rfl) (by decide) (by omega) rfl (fun c21 => ?_) (fun c21 => ?_) | refine T_ifeq (pc2 := 24) (tgt := 35) dX7_song_21 (by decide) rfl (fun c21 => ?_) (fun c21 => ?_)
        refine T_ldc (pc2 := 37) dX7_song_35 kcX7_66 rfl ?_
        refine T_iret dX7_song_37 rfl rfl ?_
        refine fin_same k hI ?_
        rw [hs, inN_none hno]
        cases inN (nI ww) 2 <;> rfl
    · first | refine B_ifeq1 (pc2 := 17) (tgt := 35) dX7_song_14 (by with_reducible rfl) (by decide) rfl ?_ | refine B_ifeq0 (tgt := 35) dX7_song_14 (by with_reducible rfl) (by decide) ?_ | refine N_ifeq (pc2 := 17) (tgt := 35) dX7_song_14 (by with_reducible rfl) (by decide) (by omega) rfl (fun c14 => ?_) (fun c14 => ?_) | refine T_ifeq (pc2 := 17) (tgt := 35) dX7_song_14 (by decide) rfl (fun c14 => ?_) (fun c14 => ?_)
      refine T_ldc (pc2 := 37) dX7_song_35 kcX7_66 rfl ?_
      refine T_iret dX7_song_37 rfl rfl ?_
      refine fin_same k hI ?_
      rw [hs, inN_none (v := w) hno]
theorem j_mould {j nt p c w : Int32} (hI : JJ sk g n bf im above below nx s) (hok : Ok s) (k : ∀ sk2 g2 n2, InvJ sk2 g2 n2 (sMould s j nt p c w).2 → FrJ sk g sk2 g2 → Q (some (.long (sMould s j nt p c w).1)) (HP sk2 g2 n2)) : Calls MX7_mould (d + 4) 0 0 [.ref 4, .int j, .int nt, .int p, .int c, .int w] (HP sk g n) Q := by
  have S := hI.1
  have hV := hI.2.2.2.2.2.1
  have hokV := hok.2.2.1.1
  have hJ8 := hokV.1
  have hbad : sMould s j nt p c w = (-1000001, s) → Q (some (.long (-1000001))) (HP sk g n) := fun e => by
    have := k sk g n (by rw [e]; exact ⟨_, _, _, _, _, hI⟩) FrJ.rf
    rw [e] at this
    exact this
  refine Calls.of (by decide +kernel) (Nat.le_of_ble_eq_true rfl) ?_
  refine T_aload_n (pc2 := 1) dX7_mould_0 rfl rfl ?_
  refine T_iload_n (pc2 := 2) dX7_mould_1 rfl rfl ?_
  refine C_V1 (pc2 := 5) (mc := 0) (ms := 0) dX7_mould_2 cvX7_isJar mlX7_174 (isO.h (sh4 S) _) (Nat.le_of_ble_eq_true rfl) rfl ?_
  refine c_isJar S hV.1 hokV.1 (fun jj hj ej => ?_) (fun hno => ?_)
  · subst ej
    first | refine B_ifeq1 (pc2 := 8) (tgt := 36) dX7_mould_5 (by with_reducible rfl) (by decide) rfl ?_ | refine B_ifeq0 (tgt := 36) dX7_mould_5 (by with_reducible rfl) (by decide) ?_ | refine N_ifeq (pc2 := 8) (tgt := 36) dX7_mould_5 (by with_reducible rfl) (by decide) (by omega) rfl (fun c5 => ?_) (fun c5 => ?_) | refine T_ifeq (pc2 := 8) (tgt := 36) dX7_mould_5 (by decide) rfl (fun c5 => ?_) (fun c5 => ?_)
    refine T_aload_n (pc2 := 9) dX7_mould_8 rfl rfl ?_
    refine T_iload_n (pc2 := 10) dX7_mould_9 rfl rfl ?_
    refine T_iload_n (pc2 := 11) dX7_mould_10 rfl rfl ?_
    refine C_V2 (pc2 := 14) (mc := 0) (ms := 0) dX7_mould_11 cvX7_isSneeze mlX7_162 (isO.h (sh4 S) _) (Nat.le_of_ble_eq_true rfl) rfl ?_
    refine c_isSneeze S hV.1 hokV.1 (fun a b ha ea hb eb => ?_) (fun hno => ?_)
    · subst ea
      subst eb
      first | refine B_ifeq1 (pc2 := 17) (tgt := 36) dX7_mould_14 (by with_reducible rfl) (by decide) rfl ?_ | refine B_ifeq0 (tgt := 36) dX7_mould_14 (by with_reducible rfl) (by decide) ?_ | refine N_ifeq (pc2 := 17) (tgt := 36) dX7_mould_14 (by with_reducible rfl) (by decide) (by omega) rfl (fun c14 => ?_) (fun c14 => ?_) | refine T_ifeq (pc2 := 17) (tgt := 36) dX7_mould_14 (by decide) rfl (fun c14 => ?_) (fun c14 => ?_)
      refine T_iload (pc2 := 19) dX7_mould_17 rfl rfl ?_
      refine T_iconst (pc2 := 20) dX7_mould_19 ic0 rfl ?_
      refine T_bipush (pc2 := 22) dX7_mould_20 bp10 rfl ?_
      refine C_S3 (pc2 := 25) (mc := 0) (ms := 0) dX7_mould_22 csX7_within mlX7_62 (Nat.le_of_ble_eq_true rfl) rfl ?_
      refine c_withinI (by decide) (fun y hy ey => ?_) (fun hno => ?_)
      · subst ey
        first | refine B_ifeq1 (pc2 := 28) (tgt := 36) dX7_mould_25 (by with_reducible rfl) (by decide) rfl ?_ | refine B_ifeq0 (tgt := 36) dX7_mould_25 (by with_reducible rfl) (by decide) ?_ | refine N_ifeq (pc2 := 28) (tgt := 36) dX7_mould_25 (by with_reducible rfl) (by decide) (by omega) rfl (fun c25 => ?_) (fun c25 => ?_) | refine T_ifeq (pc2 := 28) (tgt := 36) dX7_mould_25 (by decide) rfl (fun c25 => ?_) (fun c25 => ?_)
        refine T_iload (pc2 := 30) dX7_mould_28 rfl rfl ?_
        refine C_S1 (pc2 := 33) (mc := 0) (ms := 0) dX7_mould_30 csX7_isHalf mlX7_199 (Nat.le_of_ble_eq_true rfl) rfl ?_
        refine c_isHalf (fun x hx ex => ?_) (fun hno => ?_)
        · subst ex
          have hs : sMould s (nI jj) (nI a) (nI b) (nI y) (nI x) = (if x = 0 then lN (s.V.mdA jj a b y / Nat.gcd (s.V.mdA jj a b y) s.V.mdB) else lN (s.V.mdB / Nat.gcd (s.V.mdA jj a b y) s.V.mdB), s) := by
            unfold sMould
            rw [inN_some hj (by omega), inN_some ha (by decide), inN_some hb (by omega), inN_some (show y < 11 by omega) (by decide), inN_some hx (by decide)]
          first | refine B_ifne1 (tgt := 40) dX7_mould_33 (by with_reducible rfl) (by decide) ?_ | refine B_ifne0 (pc2 := 36) (tgt := 40) dX7_mould_33 (by with_reducible rfl) (by decide) rfl ?_ | refine N_ifne (pc2 := 36) (tgt := 40) dX7_mould_33 (by with_reducible rfl) (by decide) (by omega) rfl (fun c33 => ?_) (fun c33 => ?_) | refine T_ifne (pc2 := 36) (tgt := 40) dX7_mould_33 (by decide) rfl (fun c33 => ?_) (fun c33 => ?_)
          refine T_aload_n (pc2 := 41) dX7_mould_40 rfl rfl ?_
          refine G_getR (pc2 := 44) dX7_mould_41 flX7_43 (sh4 S) rfl rfl ?_
          refine T_aload_n (pc2 := 45) dX7_mould_44 rfl rfl ?_
          refine G_getR (pc2 := 48) dX7_mould_45 flX7_26 (sh4 S) rfl rfl ?_
          refine T_iload_n (pc2 := 49) dX7_mould_48 rfl rfl ?_
          refine T_iload_n (pc2 := 50) dX7_mould_49 rfl rfl ?_
          refine T_iload_n (pc2 := 51) dX7_mould_50 rfl rfl ?_
          refine T_iload (pc2 := 53) dX7_mould_51 rfl rfl ?_
          refine C_V5 (pc2 := 56) (mc := 0) (ms := 0) dX7_mould_53 cvX4_findMould mlX7_264 (isO.h (sh34 S) _) (Nat.le_of_ble_eq_true rfl) rfl ?_
          refine c_findMould S (sc20 S) (by omega) hV hokV hj ha hb (by omega) (fun g2 sk2 S2 hsk hf2 => ?_)
          have S := S2
          have hJ2 : JJ sk2 g2 n bf im (lN (s.V.mdA jj a b y / Nat.gcd (s.V.mdA jj a b y) s.V.mdB)) (lN (s.V.mdB / Nat.gcd (s.V.mdA jj a b y) s.V.mdB)) nx s := by
            obtain ⟨h1, h2, h3⟩ := hI.scr hf2
            refine ⟨S2, ?_, h3⟩
            obtain ⟨T0, hT, hB, hI0, h4⟩ := h2
            refine ⟨T0, hT, fun i b hb => ?_, fun i b hb => ?_, h4⟩
            · obtain ⟨t, q1, q2, q3⟩ := hB i b hb
              exact ⟨t, q1, q2, q3.mono (fun i _ _ => hsk i (by omega)) (Nat.le_refl _)⟩
            · obtain ⟨t, q1, q2, q3⟩ := hI0 i b hb
              exact ⟨t, q1, q2, q3.mono (fun i _ _ => hsk i (by omega)) (Nat.le_refl _)⟩
          have hF : FrJ sk g sk2 g2 := ⟨hsk 0 (by decide), fun i hi => hf2 i (by omega)⟩
          rw [hs] at k
          refine T_iload (pc2 := 58) dX7_mould_56 rfl rfl ?_
          first | refine B_ifne1 (tgt := 71) dX7_mould_58 (by with_reducible rfl) (by decide) ?_ | refine B_ifne0 (pc2 := 61) (tgt := 71) dX7_mould_58 (by with_reducible rfl) (by decide) rfl ?_ | refine N_ifne (pc2 := 61) (tgt := 71) dX7_mould_58 (by with_reducible rfl) (by decide) (by omega) rfl (fun c58 => ?_) (fun c58 => ?_) | refine T_ifne (pc2 := 61) (tgt := 71) dX7_mould_58 (by decide) rfl (fun c58 => ?_) (fun c58 => ?_)
          · refine T_aload_n (pc2 := 72) dX7_mould_71 rfl rfl ?_
            refine G_getR (pc2 := 75) dX7_mould_72 flX7_43 (sh4 S) rfl rfl ?_
            refine G_getR (pc2 := 78) dX7_mould_75 flX7_272 (sh34 S) rfl rfl ?_
            refine T_lret dX7_mould_78 rfl ?_
            have := k sk2 g2 n ⟨_, _, _, _, _, hJ2⟩ hF
            rw [if_neg c58] at this
            exact this
          · refine T_aload_n (pc2 := 62) dX7_mould_61 rfl rfl ?_
            refine G_getR (pc2 := 65) dX7_mould_62 flX7_43 (sh4 S) rfl rfl ?_
            refine G_getR (pc2 := 68) dX7_mould_65 flX7_268 (sh34 S) rfl rfl ?_
            refine T_goto (tgt := 78) dX7_mould_68 (by decide) ?_
            refine T_lret dX7_mould_78 rfl ?_
            have := k sk2 g2 n ⟨_, _, _, _, _, hJ2⟩ hF
            rw [if_pos c58] at this
            exact this
        · first | refine B_ifne1 (tgt := 40) dX7_mould_33 (by with_reducible rfl) (by decide) ?_ | refine B_ifne0 (pc2 := 36) (tgt := 40) dX7_mould_33 (by with_reducible rfl) (by decide) rfl ?_ | refine N_ifne (pc2 := 36) (tgt := 40) dX7_mould_33 (by with_reducible rfl) (by decide) (by omega) rfl (fun c33 => ?_) (fun c33 => ?_) | refine T_ifne (pc2 := 36) (tgt := 40) dX7_mould_33 (by decide) rfl (fun c33 => ?_) (fun c33 => ?_)
          refine T_ldc2 (pc2 := 39) dX7_mould_36 kcX7_262 rfl ?_
          refine T_lret dX7_mould_39 rfl ?_
          refine hbad ?_
          unfold sMould
          rw [inN_none hno]
          cases inN (nI jj) s.V.J <;> cases inN (nI a) 12 <;> cases inN (nI b) s.V.J <;> cases inN (nI y) 11 <;> rfl
      · first | refine B_ifeq1 (pc2 := 28) (tgt := 36) dX7_mould_25 (by with_reducible rfl) (by decide) rfl ?_ | refine B_ifeq0 (tgt := 36) dX7_mould_25 (by with_reducible rfl) (by decide) ?_ | refine N_ifeq (pc2 := 28) (tgt := 36) dX7_mould_25 (by with_reducible rfl) (by decide) (by omega) rfl (fun c25 => ?_) (fun c25 => ?_) | refine T_ifeq (pc2 := 28) (tgt := 36) dX7_mould_25 (by decide) rfl (fun c25 => ?_) (fun c25 => ?_)
        refine T_ldc2 (pc2 := 39) dX7_mould_36 kcX7_262 rfl ?_
        refine T_lret dX7_mould_39 rfl ?_
        refine hbad ?_
        unfold sMould
        rw [inN_none (v := c) (k := 11) (fun q hq => hno q (by omega))]
        cases inN (nI jj) s.V.J <;> cases inN (nI a) 12 <;> cases inN (nI b) s.V.J <;> rfl
    · first | refine B_ifeq1 (pc2 := 17) (tgt := 36) dX7_mould_14 (by with_reducible rfl) (by decide) rfl ?_ | refine B_ifeq0 (tgt := 36) dX7_mould_14 (by with_reducible rfl) (by decide) ?_ | refine N_ifeq (pc2 := 17) (tgt := 36) dX7_mould_14 (by with_reducible rfl) (by decide) (by omega) rfl (fun c14 => ?_) (fun c14 => ?_) | refine T_ifeq (pc2 := 17) (tgt := 36) dX7_mould_14 (by decide) rfl (fun c14 => ?_) (fun c14 => ?_)
      refine T_ldc2 (pc2 := 39) dX7_mould_36 kcX7_262 rfl ?_
      refine T_lret dX7_mould_39 rfl ?_
      refine hbad ?_
      unfold sMould
      rcases hno with q | q
      · rw [inN_none (v := nt) q]
        cases inN (nI jj) s.V.J <;> rfl
      · rw [inN_none (v := p) q]
        cases inN (nI jj) s.V.J <;> cases inN nt 12 <;> rfl
  · first | refine B_ifeq1 (pc2 := 8) (tgt := 36) dX7_mould_5 (by with_reducible rfl) (by decide) rfl ?_ | refine B_ifeq0 (tgt := 36) dX7_mould_5 (by with_reducible rfl) (by decide) ?_ | refine N_ifeq (pc2 := 8) (tgt := 36) dX7_mould_5 (by with_reducible rfl) (by decide) (by omega) rfl (fun c5 => ?_) (fun c5 => ?_) | refine T_ifeq (pc2 := 8) (tgt := 36) dX7_mould_5 (by decide) rfl (fun c5 => ?_) (fun c5 => ?_)
    refine T_ldc2 (pc2 := 39) dX7_mould_36 kcX7_262 rfl ?_
    refine T_lret dX7_mould_39 rfl ?_
    refine hbad ?_
    unfold sMould
    rw [inN_none (v := j) hno]
end JAsk3

