section Tune
variable {sk : Nat → SK} {g : Nat → Nat → Int32} {n c : Nat} {V : Cel} {Q : Option Value → SH → Prop} {d kc ks : Nat} {bf im : Nat → Option Nat} {above below : Int64}
theorem tune3 (S : Sh sk n bf im above below) (hc : isC sk n c) (hd : c + 6 ≤ 35 ∨ 39 ≤ c) (hV : hasC g c V) (hok : okC V) (k : ∀ g2, tunedE g2 V → Fr 35 39 g g2 → Q none (HP sk g2 n)) :
    ∀ m j g2, j + m = V.J → (g2 35 4 = nI V.J ∧ g2 35 3 = nI (bm V.thick j) ∧ (∀ t, t < 12 → g2 36 t = nI (bm (V.ansM t) 8)) ∧ (∀ p, p < V.J → g2 37 p = nI (bm (V.nearM p) 8)) ∧ ∀ i, i < j → g2 38 i = nI (bm (V.hit (V.nt i) (V.pl i)) 8)) → Fr 35 39 g g2 → T MX3_tune (d + 2) kc ks 67 [(0, .ref 35), (1, .ref c), (2, .int (nI j))] [] (HP sk g2 n) Q := by
  have hJ := hok.1
  intro m
  induction m with
  | zero =>
    intro j g2 hj hI hf
    have e4 := hI.1
    refine T_iload_n (pc2 := 68) dX3_tune_67 rfl rfl ?_
    refine T_aload_n (pc2 := 69) dX3_tune_68 rfl rfl ?_
    refine G_getI (pc2 := 72) dX3_tune_69 flX3_27 (sh35 S) rfl (by first | with_reducible assumption | exact gs_eq _ _ _ _ | exact (gs_ne _ _ (by omega)).trans (by with_reducible assumption) | exact (gs_ne _ _ (by omega)).trans (gs_eq _ _ _ _) | exact (gs_ne _ _ (by omega)).trans ((gs_ne _ _ (by omega)).trans (by with_reducible assumption)) | exact (gs_ne _ _ (by omega)).trans ((gs_ne _ _ (by omega)).trans (gs_eq _ _ _ _)) | exact (gs_ne _ _ (by omega)).trans ((gs_ne _ _ (by omega)).trans ((gs_ne _ _ (by omega)).trans (by with_reducible assumption))) | rfl) rfl ?_
    first | refine N_icmpge (pc2 := 75) (tgt := 125) dX3_tune_72 (by decide) (by with_reducible rfl) (by with_reducible rfl) (by omega) (by omega) rfl (fun c72 => ?_) (fun c72 => ?_) | refine T_icmpge (pc2 := 75) (tgt := 125) dX3_tune_72 (by decide) rfl (fun c72 => ?_) (fun c72 => ?_)
    · refine T_ret dX3_tune_125 rfl ?_
      have hj : j = V.J := by omega
      subst hj
      refine k g2 ⟨hI.1, ?_, hI.2.2.1, hI.2.2.2.1, hI.2.2.2.2⟩ hf
      rw [bm_up hJ (fun i h1 _ => by simp [Cel.thick, Nat.not_lt.mpr h1])]
      exact hI.2.1
    · exact absurd (by omega) c72
  | succ m ih =>
    intro j g2 hj hI hf
    have hjl : j < V.J := by omega
    have hV2 := hV.fr hf hd
    have e4 := hI.1
    have e3 := hI.2.1
    have n2 := (hV2.2.2.2 j hjl).2.1
    have n4 := (hV2.2.2.2 j hjl).2.2.2.1
    obtain ⟨h1, h2, h3, h4, h5, h6, h7⟩ := hok.2.2.2.1 j hjl
    refine T_iload_n (pc2 := 68) dX3_tune_67 rfl rfl ?_
    refine T_aload_n (pc2 := 69) dX3_tune_68 rfl rfl ?_
    refine G_getI (pc2 := 72) dX3_tune_69 flX3_27 (sh35 S) rfl (by first | with_reducible assumption | exact gs_eq _ _ _ _ | exact (gs_ne _ _ (by omega)).trans (by with_reducible assumption) | exact (gs_ne _ _ (by omega)).trans (gs_eq _ _ _ _) | exact (gs_ne _ _ (by omega)).trans ((gs_ne _ _ (by omega)).trans (by with_reducible assumption)) | exact (gs_ne _ _ (by omega)).trans ((gs_ne _ _ (by omega)).trans (gs_eq _ _ _ _)) | exact (gs_ne _ _ (by omega)).trans ((gs_ne _ _ (by omega)).trans ((gs_ne _ _ (by omega)).trans (by with_reducible assumption))) | rfl) rfl ?_
    first | refine N_icmpge (pc2 := 75) (tgt := 125) dX3_tune_72 (by decide) (by with_reducible rfl) (by with_reducible rfl) (by omega) (by omega) rfl (fun c72 => ?_) (fun c72 => ?_) | refine T_icmpge (pc2 := 75) (tgt := 125) dX3_tune_72 (by decide) rfl (fun c72 => ?_) (fun c72 => ?_)
    · exact absurd c72 (by omega)
    · refine T_aload_n (pc2 := 76) dX3_tune_75 rfl rfl ?_
      refine G_getR (pc2 := 79) dX3_tune_76 flX3_18 (sh35 S) rfl rfl ?_
      refine T_iload_n (pc2 := 80) dX3_tune_79 rfl rfl ?_
      refine T_aload_n (pc2 := 81) dX3_tune_80 rfl rfl ?_
      refine T_aload_n (pc2 := 82) dX3_tune_81 rfl rfl ?_
      refine G_getR (pc2 := 85) dX3_tune_82 flX3_38 hc.1 rfl rfl ?_
      refine T_iload_n (pc2 := 86) dX3_tune_85 rfl rfl ?_
      refine G_iald (pc2 := 87) dX3_tune_86 hc.2.2.1 (by omega) (by first | decide | omega) (by first | with_reducible assumption | exact gs_eq _ _ _ _ | exact (gs_ne _ _ (by omega)).trans (by with_reducible assumption) | exact (gs_ne _ _ (by omega)).trans (gs_eq _ _ _ _) | exact (gs_ne _ _ (by omega)).trans ((gs_ne _ _ (by omega)).trans (by with_reducible assumption)) | exact (gs_ne _ _ (by omega)).trans ((gs_ne _ _ (by omega)).trans (gs_eq _ _ _ _)) | exact (gs_ne _ _ (by omega)).trans ((gs_ne _ _ (by omega)).trans ((gs_ne _ _ (by omega)).trans (by with_reducible assumption))) | rfl) rfl ?_
      refine T_aload_n (pc2 := 88) dX3_tune_87 rfl rfl ?_
      refine G_getR (pc2 := 91) dX3_tune_88 flX3_41 hc.1 rfl rfl ?_
      refine T_iload_n (pc2 := 92) dX3_tune_91 rfl rfl ?_
      refine G_iald (pc2 := 93) dX3_tune_92 hc.2.2.2.2.1 (by omega) (by first | decide | omega) (by first | with_reducible assumption | exact gs_eq _ _ _ _ | exact (gs_ne _ _ (by omega)).trans (by with_reducible assumption) | exact (gs_ne _ _ (by omega)).trans (gs_eq _ _ _ _) | exact (gs_ne _ _ (by omega)).trans ((gs_ne _ _ (by omega)).trans (by with_reducible assumption)) | exact (gs_ne _ _ (by omega)).trans ((gs_ne _ _ (by omega)).trans (gs_eq _ _ _ _)) | exact (gs_ne _ _ (by omega)).trans ((gs_ne _ _ (by omega)).trans ((gs_ne _ _ (by omega)).trans (by with_reducible assumption))) | rfl) rfl ?_
      refine C_V2 (pc2 := 96) (mc := 0) (ms := 0) dX3_tune_93 cvX3_struckFrom mlX3_44 (isO.h (sh35 S) _) (Nat.le_of_ble_eq_true rfl) rfl ?_
      refine c_struck S e4 hJ h3 h6 (hI.2.2.1 _ h3) (hI.2.2.2.1 _ h6) ?_
      have n1 : gset g2 38 j (nI (bm (V.hit (V.nt j) (V.pl j)) 8)) (c + 1) j = nI (V.kd j) := by rw [gs_ne _ _ (by omega)]; exact (hV2.2.2.2 j hjl).1
      have e3b : gset g2 38 j (nI (bm (V.hit (V.nt j) (V.pl j)) 8)) 35 3 = nI (bm V.thick j) := by rw [gs_ne _ _ (by omega)]; exact e3
      have hs : ∀ i, i < j + 1 → gset g2 38 j (nI (bm (V.hit (V.nt j) (V.pl j)) 8)) 38 i = nI (bm (V.hit (V.nt i) (V.pl i)) 8) := by
        intro i hi
        by_cases e : i = j
        · subst e
          rw [gs_eq]
        · rw [gs_ne _ _ (by omega)]
          exact hI.2.2.2.2 i (by omega)
      have hf2 := hf.st (i := 38) (k := j) (v := nI (bm (V.hit (V.nt j) (V.pl j)) 8)) (by omega) (by omega)
      refine G_iast (pc2 := 97) dX3_tune_96 (sh38 S) (by omega) (by decide) rfl ?_
      refine T_aload_n (pc2 := 98) dX3_tune_97 rfl rfl ?_
      refine G_getR (pc2 := 101) dX3_tune_98 flX3_48 hc.1 rfl rfl ?_
      refine T_iload_n (pc2 := 102) dX3_tune_101 rfl rfl ?_
      refine G_iald (pc2 := 103) dX3_tune_102 hc.2.1 (by omega) (by first | decide | omega) (by first | with_reducible assumption | exact gs_eq _ _ _ _ | exact (gs_ne _ _ (by omega)).trans (by with_reducible assumption) | exact (gs_ne _ _ (by omega)).trans (gs_eq _ _ _ _) | exact (gs_ne _ _ (by omega)).trans ((gs_ne _ _ (by omega)).trans (by with_reducible assumption)) | exact (gs_ne _ _ (by omega)).trans ((gs_ne _ _ (by omega)).trans (gs_eq _ _ _ _)) | exact (gs_ne _ _ (by omega)).trans ((gs_ne _ _ (by omega)).trans ((gs_ne _ _ (by omega)).trans (by with_reducible assumption))) | rfl) rfl ?_
      refine T_iconst (pc2 := 104) dX3_tune_103 ic3 rfl ?_
      first | refine N_icmpne (pc2 := 107) (tgt := 119) dX3_tune_104 (by decide) (by with_reducible rfl) (by with_reducible rfl) (by omega) (by omega) rfl (fun c104 => ?_) (fun c104 => ?_) | refine T_icmpne (pc2 := 107) (tgt := 119) dX3_tune_104 (by decide) rfl (fun c104 => ?_) (fun c104 => ?_)
      · first | refine N_iinc (pc2 := 122) dX3_tune_119 rfl (by with_reducible rfl) ic1 (by decide) rfl ?_ | refine T_iinc (pc2 := 122) dX3_tune_119 rfl rfl (by decide) rfl ?_
        refine T_goto (tgt := 67) dX3_tune_122 (by decide) ?_
        refine T_sub (lks (i := 0) rfl (lks (i := 1) rfl (lks (i := 2) rfl lk0))) ?_
        refine ih (j + 1) _ (by omega) ⟨by rw [gs_ne _ _ (by omega)]; exact hI.1, ?_, by rw [gs_row (by omega)]; exact hI.2.2.1, by rw [gs_row (by omega)]; exact hI.2.2.2.1, hs⟩ hf2
        rw [e3b]
        show _ = nI (bm V.thick j + _)
        simp [Cel.thick, c104]
      · refine T_aload_n (pc2 := 108) dX3_tune_107 rfl rfl ?_
        refine T_dup (pc2 := 109) dX3_tune_108 rfl rfl ?_
        refine G_getI (pc2 := 112) dX3_tune_109 flX3_28 (sh35 S) rfl (by first | with_reducible assumption | exact gs_eq _ _ _ _ | exact (gs_ne _ _ (by omega)).trans (by with_reducible assumption) | exact (gs_ne _ _ (by omega)).trans (gs_eq _ _ _ _) | exact (gs_ne _ _ (by omega)).trans ((gs_ne _ _ (by omega)).trans (by with_reducible assumption)) | exact (gs_ne _ _ (by omega)).trans ((gs_ne _ _ (by omega)).trans (gs_eq _ _ _ _)) | exact (gs_ne _ _ (by omega)).trans ((gs_ne _ _ (by omega)).trans ((gs_ne _ _ (by omega)).trans (by with_reducible assumption))) | rfl) rfl ?_
        refine T_iconst (pc2 := 113) dX3_tune_112 ic1 rfl ?_
        refine T_iload_n (pc2 := 114) dX3_tune_113 rfl rfl ?_
        refine T_ishl (pc2 := 115) dX3_tune_114 rfl ?_
        refine T_ior (pc2 := 116) dX3_tune_115 rfl ?_
        rw [bm_add (by omega)]
        refine G_putI (pc2 := 119) dX3_tune_116 flX3_28 (sh35 S) rfl rfl rfl rfl ?_
        first | refine N_iinc (pc2 := 122) dX3_tune_119 rfl (by with_reducible rfl) ic1 (by decide) rfl ?_ | refine T_iinc (pc2 := 122) dX3_tune_119 rfl rfl (by decide) rfl ?_
        refine T_goto (tgt := 67) dX3_tune_122 (by decide) ?_
        refine T_sub (lks (i := 0) rfl (lks (i := 1) rfl (lks (i := 2) rfl lk0))) ?_
        refine ih (j + 1) _ (by omega) ⟨by rw [gs_ne _ _ (by omega), gs_ne _ _ (by omega)]; exact hI.1, ?_, by rw [gs_row (by omega), gs_row (by omega)]; exact hI.2.2.1, by rw [gs_row (by omega), gs_row (by omega)]; exact hI.2.2.2.1, by rw [gs_row (by omega)]; exact hs⟩ (hf2.st (by omega) (by omega))
        rw [gs_eq]
        show _ = nI (bm V.thick j + _)
        simp [Cel.thick, c104, hjl]
theorem tune2 (S : Sh sk n bf im above below) (hc : isC sk n c) (hd : c + 6 ≤ 35 ∨ 39 ≤ c) (hV : hasC g c V) (hok : okC V) (k : ∀ g2, tunedE g2 V → Fr 35 39 g g2 → Q none (HP sk g2 n)) :
    ∀ m j g2, j + m = V.J → (g2 35 4 = nI V.J ∧ g2 35 3 = nI 0 ∧ (∀ t, t < 12 → g2 36 t = nI (bm (V.ansM t) 8)) ∧ (∀ p, p < j → g2 37 p = nI (bm (V.nearM p) 8))) → Fr 35 39 g g2 → T MX3_tune (d + 2) kc ks 40 [(0, .ref 35), (1, .ref c), (2, .int (nI j))] [] (HP sk g2 n) Q := by
  have hJ := hok.1
  intro m
  induction m with
  | zero =>
    intro j g2 hj hI hf
    have e4 := hI.1
    refine T_iload_n (pc2 := 41) dX3_tune_40 rfl rfl ?_
    refine T_aload_n (pc2 := 42) dX3_tune_41 rfl rfl ?_
    refine G_getI (pc2 := 45) dX3_tune_42 flX3_27 (sh35 S) rfl (by first | with_reducible assumption | exact gs_eq _ _ _ _ | exact (gs_ne _ _ (by omega)).trans (by with_reducible assumption) | exact (gs_ne _ _ (by omega)).trans (gs_eq _ _ _ _) | exact (gs_ne _ _ (by omega)).trans ((gs_ne _ _ (by omega)).trans (by with_reducible assumption)) | exact (gs_ne _ _ (by omega)).trans ((gs_ne _ _ (by omega)).trans (gs_eq _ _ _ _)) | exact (gs_ne _ _ (by omega)).trans ((gs_ne _ _ (by omega)).trans ((gs_ne _ _ (by omega)).trans (by with_reducible assumption))) | rfl) rfl ?_
    first | refine N_icmpge (pc2 := 48) (tgt := 65) dX3_tune_45 (by decide) (by with_reducible rfl) (by with_reducible rfl) (by omega) (by omega) rfl (fun c45 => ?_) (fun c45 => ?_) | refine T_icmpge (pc2 := 48) (tgt := 65) dX3_tune_45 (by decide) rfl (fun c45 => ?_) (fun c45 => ?_)
    · refine T_iconst (pc2 := 66) dX3_tune_65 ic0 rfl ?_
      refine T_istore_n (pc2 := 67) dX3_tune_66 (by decide) rfl ?_
      refine T_sub (lks (i := 0) rfl (lks (i := 1) rfl (lks (i := 2) rfl lk0))) ?_
      have hj : j = V.J := by omega
      subst hj
      exact tune3 (g := g) S hc hd hV hok k V.J 0 g2 (by omega) ⟨hI.1, hI.2.1, hI.2.2.1, hI.2.2.2, fun i hi => absurd hi (by omega)⟩ hf
    · exact absurd (by omega) c45
  | succ m ih =>
    intro j g2 hj hI hf
    have hjl : j < V.J := by omega
    have hV2 := hV.fr hf hd
    have e4 := hI.1
    refine T_iload_n (pc2 := 41) dX3_tune_40 rfl rfl ?_
    refine T_aload_n (pc2 := 42) dX3_tune_41 rfl rfl ?_
    refine G_getI (pc2 := 45) dX3_tune_42 flX3_27 (sh35 S) rfl (by first | with_reducible assumption | exact gs_eq _ _ _ _ | exact (gs_ne _ _ (by omega)).trans (by with_reducible assumption) | exact (gs_ne _ _ (by omega)).trans (gs_eq _ _ _ _) | exact (gs_ne _ _ (by omega)).trans ((gs_ne _ _ (by omega)).trans (by with_reducible assumption)) | exact (gs_ne _ _ (by omega)).trans ((gs_ne _ _ (by omega)).trans (gs_eq _ _ _ _)) | exact (gs_ne _ _ (by omega)).trans ((gs_ne _ _ (by omega)).trans ((gs_ne _ _ (by omega)).trans (by with_reducible assumption))) | rfl) rfl ?_
    first | refine N_icmpge (pc2 := 48) (tgt := 65) dX3_tune_45 (by decide) (by with_reducible rfl) (by with_reducible rfl) (by omega) (by omega) rfl (fun c45 => ?_) (fun c45 => ?_) | refine T_icmpge (pc2 := 48) (tgt := 65) dX3_tune_45 (by decide) rfl (fun c45 => ?_) (fun c45 => ?_)
    · exact absurd c45 (by omega)
    · refine T_aload_n (pc2 := 49) dX3_tune_48 rfl rfl ?_
      refine G_getR (pc2 := 52) dX3_tune_49 flX3_15 (sh35 S) rfl rfl ?_
      refine T_iload_n (pc2 := 53) dX3_tune_52 rfl rfl ?_
      refine T_aload_n (pc2 := 54) dX3_tune_53 rfl rfl ?_
      refine T_iload_n (pc2 := 55) dX3_tune_54 rfl rfl ?_
      refine C_S2 (pc2 := 58) (mc := 0) (ms := 0) dX3_tune_55 csX3_nearTo mlX3_35 (Nat.le_of_ble_eq_true rfl) rfl ?_
      refine c_nearTo hc hV2 hok (by omega) ?_
      refine G_iast (pc2 := 59) dX3_tune_58 (sh37 S) (by omega) (by decide) rfl ?_
      first | refine N_iinc (pc2 := 62) dX3_tune_59 rfl (by with_reducible rfl) ic1 (by decide) rfl ?_ | refine T_iinc (pc2 := 62) dX3_tune_59 rfl rfl (by decide) rfl ?_
      refine T_goto (tgt := 40) dX3_tune_62 (by decide) ?_
      refine T_sub (lks (i := 0) rfl (lks (i := 1) rfl (lks (i := 2) rfl lk0))) ?_
      refine ih (j + 1) _ (by omega) ⟨by rw [gs_ne _ _ (by omega)]; exact hI.1, by rw [gs_ne _ _ (by omega)]; exact hI.2.1, by rw [gs_row (by omega)]; exact hI.2.2.1, fun p hp => ?_⟩ (hf.st (by omega) (by omega))
      by_cases e : p = j
      · subst e
        rw [gs_eq]
      · rw [gs_ne _ _ (by omega)]
        exact hI.2.2.2 p (by omega)
theorem tune1 (S : Sh sk n bf im above below) (hc : isC sk n c) (hd : c + 6 ≤ 35 ∨ 39 ≤ c) (hV : hasC g c V) (hok : okC V) (k : ∀ g2, tunedE g2 V → Fr 35 39 g g2 → Q none (HP sk g2 n)) :
    ∀ m j g2, j + m = 12 → (g2 35 4 = nI V.J ∧ g2 35 3 = nI 0 ∧ (∀ t, t < j → g2 36 t = nI (bm (V.ansM t) 8))) → Fr 35 39 g g2 → T MX3_tune (d + 2) kc ks 15 [(0, .ref 35), (1, .ref c), (2, .int (nI j))] [] (HP sk g2 n) Q := by
  have hJ := hok.1
  intro m
  induction m with
  | zero =>
    intro j g2 hj hI hf
    refine T_iload_n (pc2 := 16) dX3_tune_15 rfl rfl ?_
    refine T_bipush (pc2 := 18) dX3_tune_16 bp12 rfl ?_
    first | refine N_icmpge (pc2 := 21) (tgt := 38) dX3_tune_18 (by decide) (by with_reducible rfl) (by with_reducible rfl) (by omega) (by omega) rfl (fun c18 => ?_) (fun c18 => ?_) | refine T_icmpge (pc2 := 21) (tgt := 38) dX3_tune_18 (by decide) rfl (fun c18 => ?_) (fun c18 => ?_)
    · refine T_iconst (pc2 := 39) dX3_tune_38 ic0 rfl ?_
      refine T_istore_n (pc2 := 40) dX3_tune_39 (by decide) rfl ?_
      refine T_sub (lks (i := 0) rfl (lks (i := 1) rfl (lks (i := 2) rfl lk0))) ?_
      have hj : j = 12 := by omega
      subst hj
      exact tune2 (g := g) S hc hd hV hok k V.J 0 g2 (by omega) ⟨hI.1, hI.2.1, hI.2.2, fun i hi => absurd hi (by omega)⟩ hf
    · exact absurd (by omega) c18
  | succ m ih =>
    intro j g2 hj hI hf
    have hV2 := hV.fr hf hd
    refine T_iload_n (pc2 := 16) dX3_tune_15 rfl rfl ?_
    refine T_bipush (pc2 := 18) dX3_tune_16 bp12 rfl ?_
    first | refine N_icmpge (pc2 := 21) (tgt := 38) dX3_tune_18 (by decide) (by with_reducible rfl) (by with_reducible rfl) (by omega) (by omega) rfl (fun c18 => ?_) (fun c18 => ?_) | refine T_icmpge (pc2 := 21) (tgt := 38) dX3_tune_18 (by decide) rfl (fun c18 => ?_) (fun c18 => ?_)
    · exact absurd c18 (by omega)
    · refine T_aload_n (pc2 := 22) dX3_tune_21 rfl rfl ?_
      refine G_getR (pc2 := 25) dX3_tune_22 flX3_9 (sh35 S) rfl rfl ?_
      refine T_iload_n (pc2 := 26) dX3_tune_25 rfl rfl ?_
      refine T_aload_n (pc2 := 27) dX3_tune_26 rfl rfl ?_
      refine T_iload_n (pc2 := 28) dX3_tune_27 rfl rfl ?_
      refine C_S2 (pc2 := 31) (mc := 0) (ms := 0) dX3_tune_28 csX3_answeringTo mlX3_31 (Nat.le_of_ble_eq_true rfl) rfl ?_
      refine c_ansTo hc hV2 hok (by omega) ?_
      refine G_iast (pc2 := 32) dX3_tune_31 (sh36 S) (by omega) (by decide) rfl ?_
      first | refine N_iinc (pc2 := 35) dX3_tune_32 rfl (by with_reducible rfl) ic1 (by decide) rfl ?_ | refine T_iinc (pc2 := 35) dX3_tune_32 rfl rfl (by decide) rfl ?_
      refine T_goto (tgt := 15) dX3_tune_35 (by decide) ?_
      refine T_sub (lks (i := 0) rfl (lks (i := 1) rfl (lks (i := 2) rfl lk0))) ?_
      refine ih (j + 1) _ (by omega) ⟨by rw [gs_ne _ _ (by omega)]; exact hI.1, by rw [gs_ne _ _ (by omega)]; exact hI.2.1, fun p hp => ?_⟩ (hf.st (by omega) (by omega))
      by_cases e : p = j
      · subst e
        rw [gs_eq]
      · rw [gs_ne _ _ (by omega)]
        exact hI.2.2 p (by omega)
theorem c_tune (S : Sh sk n bf im above below) (hc : isC sk n c) (hd : c + 6 ≤ 35 ∨ 39 ≤ c) (hV : hasC g c V) (hok : okC V) (k : ∀ g2, tunedE g2 V → Fr 35 39 g g2 → Q none (HP sk g2 n)) : Calls MX3_tune (d + 2) 0 0 [.ref 35, .ref c] (HP sk g n) Q := by
  refine Calls.of (by decide +kernel) (Nat.le_of_ble_eq_true rfl) ?_
  have e0 := hV.1
  refine T_aload_n (pc2 := 1) dX3_tune_0 rfl rfl ?_
  refine T_aload_n (pc2 := 2) dX3_tune_1 rfl rfl ?_
  refine G_getI (pc2 := 5) dX3_tune_2 flX3_21 hc.1 rfl (by first | with_reducible assumption | exact gs_eq _ _ _ _ | exact (gs_ne _ _ (by omega)).trans (by with_reducible assumption) | exact (gs_ne _ _ (by omega)).trans (gs_eq _ _ _ _) | exact (gs_ne _ _ (by omega)).trans ((gs_ne _ _ (by omega)).trans (by with_reducible assumption)) | exact (gs_ne _ _ (by omega)).trans ((gs_ne _ _ (by omega)).trans (gs_eq _ _ _ _)) | exact (gs_ne _ _ (by omega)).trans ((gs_ne _ _ (by omega)).trans ((gs_ne _ _ (by omega)).trans (by with_reducible assumption))) | rfl) rfl ?_
  refine G_putI (pc2 := 8) dX3_tune_5 flX3_27 (sh35 S) rfl rfl rfl rfl ?_
  refine T_aload_n (pc2 := 9) dX3_tune_8 rfl rfl ?_
  refine T_iconst (pc2 := 10) dX3_tune_9 ic0 rfl ?_
  refine G_putI (pc2 := 13) dX3_tune_10 flX3_28 (sh35 S) rfl rfl rfl rfl ?_
  refine T_iconst (pc2 := 14) dX3_tune_13 ic0 rfl ?_
  refine T_istore_n (pc2 := 15) dX3_tune_14 (by decide) rfl ?_
  refine T_sub (lks (i := 0) rfl (lks (i := 1) rfl (lks (i := 2) rfl lk0))) ?_
  exact tune1 (g := g) S hc hd hV hok k 12 0 _ (by omega) ⟨by rw [gs_ne _ _ (by omega), gs_eq], gs_eq _ _ _ _, fun i hi => absurd hi (by omega)⟩ ((Fr.rf.st (by omega) (by omega)).st (by omega) (by omega))
end Tune

