/-! the model: a jar read, the cellar -/
def Fq (g g2 : Nat → Nat → Int32) : Prop := (∀ i, i ≠ 48 → i ≠ 53 → g2 i = g i) ∧ ∀ k, (k < 12 ∨ 17 < k) → g2 48 k = g 48 k
theorem Fq.rf {g : Nat → Nat → Int32} : Fq g g := ⟨fun _ _ _ => rfl, fun _ _ => rfl⟩
theorem Fq.tr {g g2 g3 : Nat → Nat → Int32} (h : Fq g g2) (h2 : Fq g2 g3) : Fq g g3 := ⟨fun i a b => (h2.1 i a b).trans (h.1 i a b), fun k hk => (h2.2 k hk).trans (h.2 k hk)⟩
theorem Fq.p {g g2 g3 : Nat → Nat → Int32} (h : Fq g g2) (h2 : Fp g2 g3) : Fq g g3 := ⟨fun i a b => (h2.1 i a).trans (h.1 i a b), fun k hk => (h2.2 k hk).trans (h.2 k hk)⟩
theorem Fq.st {g g2 : Nat → Nat → Int32} {k : Nat} {v : Int32} (h : Fq g g2) : Fq g (gset g2 53 k v) := ⟨fun i a b => by rw [gs_row b]; exact h.1 i a b, fun q hq => by rw [gs_row (by decide)]; exact h.2 q hq⟩
theorem PG.st {g : Nat → Nat → Int32} {tp : Nat → Nat} {sz a k : Nat} {v : Int32} (h : PG g tp sz a) : PG (gset g 53 k v) tp sz a := by
  unfold PG hasTp at h ⊢
  rw [gs_row (by decide), gs_row (by decide)]
  exact h
theorem PF.st {g : Nat → Nat → Int32} {f a k : Nat} {v : Int32} (h : PF g f a) : PF (gset g 53 k v) f a := by
  unfold PF at h ⊢
  rw [gs_row (by decide)]
  exact h
theorem PG.fo {g g2 : Nat → Nat → Int32} {tp : Nat → Nat} {sz a : Nat} (h : PG g tp sz a) (hf : Fo 53 g g2) : PG g2 tp sz a := by
  unfold PG hasTp at h ⊢
  rw [hf 48 (by decide), hf 56 (by decide)]
  exact h
theorem Fq.fo {g g2 g3 : Nat → Nat → Int32} (h : Fq g g2) (h2 : Fo 53 g2 g3) : Fq g g3 := ⟨fun i a b => (h2 i b).trans (h.1 i a b), fun k hk => by rw [h2 48 (by decide)]; exact h.2 k hk⟩
theorem hasM.add {g : Nat → Nat → Int32} {w : Nat} {V : Cel} {kd nt yr : Nat} (h : hasM (g w) V) : hasM (gset (gset (gset (gset (gset (gset g w (3 + 5 * V.J) (nI kd)) w (3 + 5 * V.J + 1) (nI nt)) w (3 + 5 * V.J + 2) (nI yr)) w (3 + 5 * V.J + 3) (nI V.J)) w (3 + 5 * V.J + 4) (nI 0)) w 0 (nI (V.J + 1)) w) (V.add kd nt yr) := by
  obtain ⟨h0, h1, h2, h3⟩ := h
  refine ⟨gs_eq _ _ _ _, ?_, ?_, fun j hj => ?_⟩
  · rw [gs_at (by omega), gs_at (by omega), gs_at (by omega), gs_at (by omega), gs_at (by omega), gs_at (by omega)]; exact h1
  · rw [gs_at (by omega), gs_at (by omega), gs_at (by omega), gs_at (by omega), gs_at (by omega), gs_at (by omega)]; exact h2
  · have hj : j < V.J + 1 := hj
    simp only [Cel.add, Cel.J, Cel.Y, Cel.R, Cel.kd, Cel.nt, Cel.kp, Cel.pl, Cel.hw]
    by_cases e : j = V.J
    · subst e
      refine ⟨?_, ?_, ?_, ?_, ?_⟩
      · rw [gs_at (by omega), gs_at (by omega), gs_at (by omega), gs_at (by omega), gs_at (by omega)]
        show gset g w (3 + 5 * V.J) (nI kd) w (3 + 5 * V.J) = _
        rw [gs_eq]; simp [va_up]
      · rw [gs_at (by omega), gs_at (by omega), gs_at (by omega), gs_at (by omega), gs_eq]; simp [va_up]
      · rw [gs_at (by omega), gs_at (by omega), gs_at (by omega), gs_eq]; simp [va_up]
      · rw [gs_at (by omega), gs_at (by omega), gs_eq]; simp [va_up]
      · rw [gs_at (by omega), gs_eq]; simp [va_up]
    · have q := h3 j (by omega)
      have e : ¬ j = V.1 := e
      simp only [va_up, if_neg e]
      refine ⟨?_, ?_, ?_, ?_, ?_⟩
      · rw [gs_at (by omega), gs_at (by omega), gs_at (by omega), gs_at (by omega), gs_at (by omega), gs_at (by omega)]; exact q.1
      · rw [gs_at (by omega), gs_at (by omega), gs_at (by omega), gs_at (by omega), gs_at (by omega), gs_at (by omega)]; exact q.2.1
      · rw [gs_at (by omega), gs_at (by omega), gs_at (by omega), gs_at (by omega), gs_at (by omega), gs_at (by omega)]; exact q.2.2.1
      · rw [gs_at (by omega), gs_at (by omega), gs_at (by omega), gs_at (by omega), gs_at (by omega), gs_at (by omega)]; exact q.2.2.2.1
      · rw [gs_at (by omega), gs_at (by omega), gs_at (by omega), gs_at (by omega), gs_at (by omega), gs_at (by omega)]; exact q.2.2.2.2
section MCel
variable {sk : Nat → SK} {g : Nat → Nat → Int32} {n : Nat} {Q : Option Value → SH → Prop} {d kc ks : Nat} {bf im : Nat → Option Nat} {above below : Int64} {h : SH} {tp : Nat → Nat} {sz a f : Nat} {V : Cel} {s : ST}
theorem m_readJar (S : Sh sk n bf im above below) (hok : okT tp sz) (hG : PG g tp sz a) (hka : kindA tp sz a ≠ 0) (hV : hasM (g 53) V) (hJ : V.J ≤ 8)
    (kt : ∀ g2, (pJ tp sz V a).1 = 0 → PG g2 tp sz (pJ tp sz V a).2.1 → hasM (g2 53) (pJ tp sz V a).2.2 → Fq g g2 → Q none (HP sk g2 n))
    (kf : ∀ g2, (pJ tp sz V a).1 ≠ 0 → PF g2 (pJ tp sz V a).1 (pJ tp sz V a).2.1 → Fq g g2 → Q none (HP sk g2 n)) : Calls MX8_readJar (d + 4) 0 0 [.ref 48] (HP sk g n) Q := by
  refine Calls.of (by decide +kernel) (Nat.le_of_ble_eq_true rfl) ?_
  have hi := kindA_in hka
  have hb := hok.2 a hi.1
  have hv := vl_ch (tp := tp) hi.1 (by omega)
  have e15 : g 48 15 = nI (tp a) := hG.2.2.2.2.2.1.trans hv.1
  have e0 := hV.1
  have ekb : kbI (tp a) = nI (kindA tp sz a) := by
    rw [hi.2.2.2]
    exact if_neg (fun z => hka (hi.2.2.2.trans z))
  have F57 : ∀ g2 f p X, pJ tp sz V a = (f, p, X) → PF g2 f p → Fq g g2 → ∀ x1 x2 x3 : Int32, T MX8_readJar (d + 4) 0 0 57 [(0, .ref 48), (1, .int x1), (2, .int x2), (3, .int x3)] [] (HP sk g2 n) Q := by
    intro g2 f p X hp hF hf x1 x2 x3
    obtain ⟨h0, h1, e16, e17⟩ := id hF
    refine T_aload_n (pc2 := 58) dX8_readJar_57 rfl rfl ?_
    refine G_getI (pc2 := 61) dX8_readJar_58 flX8_81 (sh48 S) rfl (by first | with_reducible assumption | exact gs_eq _ _ _ _ | exact (gs_ne _ _ (by omega)).trans (by with_reducible assumption) | exact (gs_ne _ _ (by omega)).trans (gs_eq _ _ _ _) | exact (gs_ne _ _ (by omega)).trans ((gs_ne _ _ (by omega)).trans (by with_reducible assumption)) | exact (gs_ne _ _ (by omega)).trans ((gs_ne _ _ (by omega)).trans (gs_eq _ _ _ _)) | exact (gs_ne _ _ (by omega)).trans ((gs_ne _ _ (by omega)).trans ((gs_ne _ _ (by omega)).trans (by with_reducible assumption))) | rfl) rfl ?_
    first | refine B_ifne1 (tgt := 139) dX8_readJar_61 (by with_reducible rfl) (by decide) ?_ | refine B_ifne0 (pc2 := 64) (tgt := 139) dX8_readJar_61 (by with_reducible rfl) (by decide) rfl ?_ | refine N_ifne (pc2 := 64) (tgt := 139) dX8_readJar_61 (by with_reducible rfl) (by decide) (by omega) rfl (fun c61 => ?_) (fun c61 => ?_) | refine T_ifne (pc2 := 64) (tgt := 139) dX8_readJar_61 (by decide) rfl (fun c61 => ?_) (fun c61 => ?_)
    · refine T_ret dX8_readJar_139 rfl ?_
      exact kf g2 (by rw [hp]; exact h0) (by rw [hp]; exact hF) hf
    · omega
  have F43 : ∀ g2 f p X, pJ tp sz V a = (f, p, X) → PF g2 f p → Fq g g2 → ∀ x1 x2 : Int32, T MX8_readJar (d + 4) 0 0 43 [(0, .ref 48), (1, .int x1), (2, .int x2)] [] (HP sk g2 n) Q := by
    intro g2 f p X hp hF hf x1 x2
    refine T_aload_n (pc2 := 44) dX8_readJar_43 rfl rfl ?_
    refine T_iconst (pc2 := 45) dX8_readJar_44 ic1 rfl ?_
    refine T_bipush (pc2 := 47) dX8_readJar_45 bp60 rfl ?_
    refine C_V2 (pc2 := 50) (mc := 0) (ms := 0) dX8_readJar_47 cvX8_number mlX8_125 (isO.h (sh48 S) _) (Nat.le_of_ble_eq_true rfl) rfl ?_
    refine m_numberF (lo := 1) (hi := 60) S hF ?_
    refine T_istore_n (pc2 := 51) dX8_readJar_50 (by decide) rfl ?_
    refine T_aload_n (pc2 := 52) dX8_readJar_51 rfl rfl ?_
    refine T_bipush (pc2 := 54) dX8_readJar_52 bp59 rfl ?_
    refine C_V1 (pc2 := 57) (mc := 0) (ms := 0) dX8_readJar_54 cvX8_mustSign mlX8_129 (isO.h (sh48 S) _) (Nat.le_of_ble_eq_true rfl) rfl ?_
    refine m_signF S hF ?_
    refine T_sub (lks (i := 0) rfl (lks (i := 1) rfl (lks (i := 2) rfl (lks (i := 3) rfl lk0)))) ?_
    exact F57 g2 f p X hp hF hf _ _ _
  refine T_aload_n (pc2 := 1) dX8_readJar_0 rfl rfl ?_
  refine G_getI (pc2 := 4) dX8_readJar_1 flX8_94 (sh48 S) rfl (by first | with_reducible assumption | exact gs_eq _ _ _ _ | exact (gs_ne _ _ (by omega)).trans (by with_reducible assumption) | exact (gs_ne _ _ (by omega)).trans (gs_eq _ _ _ _) | exact (gs_ne _ _ (by omega)).trans ((gs_ne _ _ (by omega)).trans (by with_reducible assumption)) | exact (gs_ne _ _ (by omega)).trans ((gs_ne _ _ (by omega)).trans (gs_eq _ _ _ _)) | exact (gs_ne _ _ (by omega)).trans ((gs_ne _ _ (by omega)).trans ((gs_ne _ _ (by omega)).trans (by with_reducible assumption))) | rfl) rfl ?_
  refine C_S1 (pc2 := 7) (mc := 0) (ms := 0) dX8_readJar_4 csX8_kindBy mlX8_122 (Nat.le_of_ble_eq_true rfl) rfl ?_
  refine m_kindBy hb ?_
  rw [ekb]
  refine T_istore_n (pc2 := 8) dX8_readJar_7 (by decide) rfl ?_
  refine T_aload_n (pc2 := 9) dX8_readJar_8 rfl rfl ?_
  refine G_getR (pc2 := 12) dX8_readJar_9 flX8_22 (sh48 S) rfl rfl ?_
  refine T_iconst (pc2 := 13) dX8_readJar_12 ic0 rfl ?_
  refine G_iald (pc2 := 14) dX8_readJar_13 (sh53 S) (by omega) (by first | decide | omega) (by first | with_reducible assumption | exact gs_eq _ _ _ _ | exact (gs_ne _ _ (by omega)).trans (by with_reducible assumption) | exact (gs_ne _ _ (by omega)).trans (gs_eq _ _ _ _) | exact (gs_ne _ _ (by omega)).trans ((gs_ne _ _ (by omega)).trans (by with_reducible assumption)) | exact (gs_ne _ _ (by omega)).trans ((gs_ne _ _ (by omega)).trans (gs_eq _ _ _ _)) | exact (gs_ne _ _ (by omega)).trans ((gs_ne _ _ (by omega)).trans ((gs_ne _ _ (by omega)).trans (by with_reducible assumption))) | rfl) rfl ?_
  refine T_bipush (pc2 := 16) dX8_readJar_14 bp8 rfl ?_
  first | refine N_icmpne (pc2 := 19) (tgt := 24) dX8_readJar_16 (by decide) (by with_reducible rfl) (by with_reducible rfl) (by omega) (by omega) rfl (fun c16 => ?_) (fun c16 => ?_) | refine T_icmpne (pc2 := 19) (tgt := 24) dX8_readJar_16 (by decide) rfl (fun c16 => ?_) (fun c16 => ?_)
  · have hJ8 : V.J < 8 := by omega
    refine T_aload_n (pc2 := 25) dX8_readJar_24 rfl rfl ?_
    refine T_iconst (pc2 := 26) dX8_readJar_25 ic1 rfl ?_
    refine C_V1 (pc2 := 29) (mc := 0) (ms := 0) dX8_readJar_26 cvX8_must mlX8_115 (isO.h (sh48 S) _) (Nat.le_of_ble_eq_true rfl) rfl ?_
    refine m_mustT S hok hG (fun g2 hG2 hf2 => ?_)
    rw [hv.2] at hG2
    refine T_aload_n (pc2 := 30) dX8_readJar_29 rfl rfl ?_
    refine T_iconst (pc2 := 31) dX8_readJar_30 ic0 rfl ?_
    refine T_bipush (pc2 := 33) dX8_readJar_31 bp11 rfl ?_
    refine C_V2 (pc2 := 36) (mc := 0) (ms := 0) dX8_readJar_33 cvX8_number mlX8_125 (isO.h (sh48 S) _) (Nat.le_of_ble_eq_true rfl) rfl ?_
    refine m_number (lo := 0) (hi := 11) S hok hG2 (by decide) (by decide) (fun g3 hp3 hG3 hf3 => ?_) (fun g3 hp3 hF3 hf3 => ?_)
    · refine T_istore_n (pc2 := 37) dX8_readJar_36 (by decide) rfl ?_
      refine T_aload_n (pc2 := 38) dX8_readJar_37 rfl rfl ?_
      refine T_bipush (pc2 := 40) dX8_readJar_38 bp44 rfl ?_
      refine C_V1 (pc2 := 43) (mc := 0) (ms := 0) dX8_readJar_40 cvX8_mustSign mlX8_129 (isO.h (sh48 S) _) (Nat.le_of_ble_eq_true rfl) rfl ?_
      refine m_sign (c := 44) S hok hG3 (Or.inl rfl) (fun g4 hs4 hG4 hf4 => ?_) (fun g4 hs4 hF4 hf4 => ?_)
      · refine T_aload_n (pc2 := 44) dX8_readJar_43 rfl rfl ?_
        refine T_iconst (pc2 := 45) dX8_readJar_44 ic1 rfl ?_
        refine T_bipush (pc2 := 47) dX8_readJar_45 bp60 rfl ?_
        refine C_V2 (pc2 := 50) (mc := 0) (ms := 0) dX8_readJar_47 cvX8_number mlX8_125 (isO.h (sh48 S) _) (Nat.le_of_ble_eq_true rfl) rfl ?_
        refine m_number (lo := 1) (hi := 60) S hok hG4 (by decide) (by decide) (fun g5 hp5 hG5 hf5 => ?_) (fun g5 hp5 hF5 hf5 => ?_)
        · refine T_istore_n (pc2 := 51) dX8_readJar_50 (by decide) rfl ?_
          refine T_aload_n (pc2 := 52) dX8_readJar_51 rfl rfl ?_
          refine T_bipush (pc2 := 54) dX8_readJar_52 bp59 rfl ?_
          refine C_V1 (pc2 := 57) (mc := 0) (ms := 0) dX8_readJar_54 cvX8_mustSign mlX8_129 (isO.h (sh48 S) _) (Nat.le_of_ble_eq_true rfl) rfl ?_
          refine m_sign (c := 59) S hok hG5 (Or.inr rfl) (fun g6 hs6 hG6 hf6 => ?_) (fun g6 hs6 hF6 hf6 => ?_)
          · have hfp := ((((Fp.rf.tr hf2).tr hf3).tr hf4).tr hf5).tr hf6
            have hq := Fq.rf.p hfp
            have hV6 : hasM (g6 53) V := by rw [hfp.1 53 (by decide)]; exact hV
            clear hf2 hf3 hf4 hf5 hf6
            have e0 := hV6.1
            have e16 := hG6.2.2.1
            have e0a : ∀ v1 v2 v3 v4 v5, gset (gset (gset (gset (gset g6 53 (3 + 5 * V.J) v1) 53 (3 + 5 * V.J + 1) v2) 53 (3 + 5 * V.J + 2) v3) 53 (3 + 5 * V.J + 3) v4) 53 (3 + 5 * V.J + 4) v5 53 0 = nI V.J := fun v1 v2 v3 v4 v5 => by
              rw [gs_at (by omega), gs_at (by omega), gs_at (by omega), gs_at (by omega), gs_at (by omega)]; exact e0
            have e0b : ∀ v1 v2 v3, gset (gset (gset g6 53 (3 + 5 * V.J) v1) 53 (3 + 5 * V.J + 1) v2) 53 (3 + 5 * V.J + 2) v3 53 0 = nI V.J := fun v1 v2 v3 => by
              rw [gs_at (by omega), gs_at (by omega), gs_at (by omega)]; exact e0
            have e0c := e0a (nI (kindA tp sz a)) (nI (vl tp sz (a + 1))) (nI (vl tp sz (a + 1 + rn tp sz (a + 1) + 1))) (nI V.J) (nI 0)
            have e0d := e0b (nI (kindA tp sz a)) (nI (vl tp sz (a + 1))) (nI (vl tp sz (a + 1 + rn tp sz (a + 1) + 1)))
            refine T_aload_n (pc2 := 58) dX8_readJar_57 rfl rfl ?_
            refine G_getI (pc2 := 61) dX8_readJar_58 flX8_81 (sh48 S) rfl (by first | with_reducible assumption | exact gs_eq _ _ _ _ | exact (gs_ne _ _ (by omega)).trans (by with_reducible assumption) | exact (gs_ne _ _ (by omega)).trans (gs_eq _ _ _ _) | exact (gs_ne _ _ (by omega)).trans ((gs_ne _ _ (by omega)).trans (by with_reducible assumption)) | exact (gs_ne _ _ (by omega)).trans ((gs_ne _ _ (by omega)).trans (gs_eq _ _ _ _)) | exact (gs_ne _ _ (by omega)).trans ((gs_ne _ _ (by omega)).trans ((gs_ne _ _ (by omega)).trans (by with_reducible assumption))) | rfl) rfl ?_
            first | refine B_ifne1 (tgt := 139) dX8_readJar_61 (by with_reducible rfl) (by decide) ?_ | refine B_ifne0 (pc2 := 64) (tgt := 139) dX8_readJar_61 (by with_reducible rfl) (by decide) rfl ?_ | refine N_ifne (pc2 := 64) (tgt := 139) dX8_readJar_61 (by with_reducible rfl) (by decide) (by omega) rfl (fun c61 => ?_) (fun c61 => ?_) | refine T_ifne (pc2 := 64) (tgt := 139) dX8_readJar_61 (by decide) rfl (fun c61 => ?_) (fun c61 => ?_)
            refine T_iconst (pc2 := 65) dX8_readJar_64 ic3 rfl ?_
            refine T_iconst (pc2 := 66) dX8_readJar_65 ic5 rfl ?_
            refine T_aload_n (pc2 := 67) dX8_readJar_66 rfl rfl ?_
            refine G_getR (pc2 := 70) dX8_readJar_67 flX8_22 (sh48 S) rfl rfl ?_
            refine T_iconst (pc2 := 71) dX8_readJar_70 ic0 rfl ?_
            refine G_iald (pc2 := 72) dX8_readJar_71 (sh53 S) (by omega) (by first | decide | omega) (by first | with_reducible assumption | exact gs_eq _ _ _ _ | exact (gs_ne _ _ (by omega)).trans (by with_reducible assumption) | exact (gs_ne _ _ (by omega)).trans (gs_eq _ _ _ _) | exact (gs_ne _ _ (by omega)).trans ((gs_ne _ _ (by omega)).trans (by with_reducible assumption)) | exact (gs_ne _ _ (by omega)).trans ((gs_ne _ _ (by omega)).trans (gs_eq _ _ _ _)) | exact (gs_ne _ _ (by omega)).trans ((gs_ne _ _ (by omega)).trans ((gs_ne _ _ (by omega)).trans (by with_reducible assumption))) | rfl) rfl ?_
            first | refine N_imul (pc2 := 73) dX8_readJar_72 (by with_reducible rfl) (by with_reducible rfl) rfl ?_ | refine T_imul (pc2 := 73) dX8_readJar_72 rfl ?_
            first | refine N_iadd (pc2 := 74) dX8_readJar_73 (by with_reducible rfl) (by with_reducible rfl) rfl ?_ | refine T_iadd (pc2 := 74) dX8_readJar_73 rfl ?_
            refine T_istore (pc2 := 76) dX8_readJar_74 (by decide) rfl ?_
            refine T_aload_n (pc2 := 77) dX8_readJar_76 rfl rfl ?_
            refine G_getR (pc2 := 80) dX8_readJar_77 flX8_22 (sh48 S) rfl rfl ?_
            refine T_iload (pc2 := 82) dX8_readJar_80 rfl rfl ?_
            refine T_iload_n (pc2 := 83) dX8_readJar_82 rfl rfl ?_
            refine G_iast (pc2 := 84) dX8_readJar_83 (sh53 S) (by omega) (by decide) rfl ?_
            refine T_aload_n (pc2 := 85) dX8_readJar_84 rfl rfl ?_
            refine G_getR (pc2 := 88) dX8_readJar_85 flX8_22 (sh48 S) rfl rfl ?_
            refine T_iload (pc2 := 90) dX8_readJar_88 rfl rfl ?_
            refine T_iconst (pc2 := 91) dX8_readJar_90 ic1 rfl ?_
            first | refine N_iadd (pc2 := 92) dX8_readJar_91 (by with_reducible rfl) (by with_reducible rfl) rfl ?_ | refine T_iadd (pc2 := 92) dX8_readJar_91 rfl ?_
            refine T_iload_n (pc2 := 93) dX8_readJar_92 rfl rfl ?_
            refine G_iast (pc2 := 94) dX8_readJar_93 (sh53 S) (by omega) (by decide) rfl ?_
            refine T_aload_n (pc2 := 95) dX8_readJar_94 rfl rfl ?_
            refine G_getR (pc2 := 98) dX8_readJar_95 flX8_22 (sh48 S) rfl rfl ?_
            refine T_iload (pc2 := 100) dX8_readJar_98 rfl rfl ?_
            refine T_iconst (pc2 := 101) dX8_readJar_100 ic2 rfl ?_
            first | refine N_iadd (pc2 := 102) dX8_readJar_101 (by with_reducible rfl) (by with_reducible rfl) rfl ?_ | refine T_iadd (pc2 := 102) dX8_readJar_101 rfl ?_
            refine T_iload_n (pc2 := 103) dX8_readJar_102 rfl rfl ?_
            refine G_iast (pc2 := 104) dX8_readJar_103 (sh53 S) (by omega) (by decide) rfl ?_
            refine T_aload_n (pc2 := 105) dX8_readJar_104 rfl rfl ?_
            refine G_getR (pc2 := 108) dX8_readJar_105 flX8_22 (sh48 S) rfl rfl ?_
            refine T_iload (pc2 := 110) dX8_readJar_108 rfl rfl ?_
            refine T_iconst (pc2 := 111) dX8_readJar_110 ic3 rfl ?_
            first | refine N_iadd (pc2 := 112) dX8_readJar_111 (by with_reducible rfl) (by with_reducible rfl) rfl ?_ | refine T_iadd (pc2 := 112) dX8_readJar_111 rfl ?_
            refine T_aload_n (pc2 := 113) dX8_readJar_112 rfl rfl ?_
            refine G_getR (pc2 := 116) dX8_readJar_113 flX8_22 (sh48 S) rfl rfl ?_
            refine T_iconst (pc2 := 117) dX8_readJar_116 ic0 rfl ?_
            refine G_iald (pc2 := 118) dX8_readJar_117 (sh53 S) (by omega) (by first | decide | omega) (by first | with_reducible assumption | exact gs_eq _ _ _ _ | exact (gs_ne _ _ (by omega)).trans (by with_reducible assumption) | exact (gs_ne _ _ (by omega)).trans (gs_eq _ _ _ _) | exact (gs_ne _ _ (by omega)).trans ((gs_ne _ _ (by omega)).trans (by with_reducible assumption)) | exact (gs_ne _ _ (by omega)).trans ((gs_ne _ _ (by omega)).trans (gs_eq _ _ _ _)) | exact (gs_ne _ _ (by omega)).trans ((gs_ne _ _ (by omega)).trans ((gs_ne _ _ (by omega)).trans (by with_reducible assumption))) | rfl) rfl ?_
            refine G_iast (pc2 := 119) dX8_readJar_118 (sh53 S) (by omega) (by decide) rfl ?_
            refine T_aload_n (pc2 := 120) dX8_readJar_119 rfl rfl ?_
            refine G_getR (pc2 := 123) dX8_readJar_120 flX8_22 (sh48 S) rfl rfl ?_
            refine T_iload (pc2 := 125) dX8_readJar_123 rfl rfl ?_
            refine T_iconst (pc2 := 126) dX8_readJar_125 ic4 rfl ?_
            first | refine N_iadd (pc2 := 127) dX8_readJar_126 (by with_reducible rfl) (by with_reducible rfl) rfl ?_ | refine T_iadd (pc2 := 127) dX8_readJar_126 rfl ?_
            refine T_iconst (pc2 := 128) dX8_readJar_127 ic0 rfl ?_
            refine G_iast (pc2 := 129) dX8_readJar_128 (sh53 S) (by omega) (by decide) rfl ?_
            refine T_aload_n (pc2 := 130) dX8_readJar_129 rfl rfl ?_
            refine G_getR (pc2 := 133) dX8_readJar_130 flX8_22 (sh48 S) rfl rfl ?_
            refine T_iconst (pc2 := 134) dX8_readJar_133 ic0 rfl ?_
            refine T_dup2 (pc2 := 135) dX8_readJar_134 rfl rfl rfl ?_
            refine G_iald (pc2 := 136) dX8_readJar_135 (sh53 S) (by omega) (by first | decide | omega) (by first | with_reducible assumption | exact gs_eq _ _ _ _ | exact (gs_ne _ _ (by omega)).trans (by with_reducible assumption) | exact (gs_ne _ _ (by omega)).trans (gs_eq _ _ _ _) | exact (gs_ne _ _ (by omega)).trans ((gs_ne _ _ (by omega)).trans (by with_reducible assumption)) | exact (gs_ne _ _ (by omega)).trans ((gs_ne _ _ (by omega)).trans (gs_eq _ _ _ _)) | exact (gs_ne _ _ (by omega)).trans ((gs_ne _ _ (by omega)).trans ((gs_ne _ _ (by omega)).trans (by with_reducible assumption))) | rfl) rfl ?_
            refine T_iconst (pc2 := 137) dX8_readJar_136 ic1 rfl ?_
            first | refine N_iadd (pc2 := 138) dX8_readJar_137 (by with_reducible rfl) (by with_reducible rfl) rfl ?_ | refine T_iadd (pc2 := 138) dX8_readJar_137 rfl ?_
            refine G_iast (pc2 := 139) dX8_readJar_138 (sh53 S) (by omega) (by decide) rfl ?_
            refine T_ret dX8_readJar_139 rfl ?_
            have hpj : pJ tp sz V a = (0, a + 1 + rn tp sz (a + 1) + 1 + rn tp sz (a + 1 + rn tp sz (a + 1) + 1) + 1, V.add (kindA tp sz a) (vl tp sz (a + 1)) (vl tp sz (a + 1 + rn tp sz (a + 1) + 1))) := by
              unfold pJ
              rw [if_neg hka, if_neg (by omega), if_neg (fun z => z hp3), if_neg (by rw [hs4]; decide), if_neg (fun z => z hp5), if_neg (by rw [hs6]; decide)]
            refine kt _ (by rw [hpj]) ?_ ?_ hq.st.st.st.st.st.st
            · rw [hpj]
              exact hG6.st.st.st.st.st.st
            · rw [hpj]
              exact hV6.add
          · have hfp := ((((Fp.rf.tr hf2).tr hf3).tr hf4).tr hf5).tr hf6
            refine T_sub (lks (i := 0) rfl (lks (i := 1) rfl (lks (i := 2) rfl (lks (i := 3) rfl lk0)))) ?_
            refine F57 g6 _ _ V ?_ hF6 (Fq.rf.p hfp) _ _ _
            unfold pJ
            rw [if_neg hka, if_neg (by omega), if_neg (fun z => z hp3), if_neg (by rw [hs4]; decide), if_neg (fun z => z hp5), if_pos hs6]
        · have hfp := (((Fp.rf.tr hf2).tr hf3).tr hf4).tr hf5
          refine T_istore_n (pc2 := 51) dX8_readJar_50 (by decide) rfl ?_
          refine T_aload_n (pc2 := 52) dX8_readJar_51 rfl rfl ?_
          refine T_bipush (pc2 := 54) dX8_readJar_52 bp59 rfl ?_
          refine C_V1 (pc2 := 57) (mc := 0) (ms := 0) dX8_readJar_54 cvX8_mustSign mlX8_129 (isO.h (sh48 S) _) (Nat.le_of_ble_eq_true rfl) rfl ?_
          refine m_signF S hF5 ?_
          refine T_sub (lks (i := 0) rfl (lks (i := 1) rfl (lks (i := 2) rfl (lks (i := 3) rfl lk0)))) ?_
          refine F57 g5 _ _ V ?_ hF5 (Fq.rf.p hfp) _ _ _
          unfold pJ
          rw [if_neg hka, if_neg (by omega), if_neg (fun z => z hp3), if_neg (by rw [hs4]; decide), if_pos hp5]
      · have hfp := ((Fp.rf.tr hf2).tr hf3).tr hf4
        refine T_sub (lks (i := 0) rfl (lks (i := 1) rfl (lks (i := 2) rfl lk0))) ?_
        refine F43 g4 _ _ V ?_ hF4 (Fq.rf.p hfp) _ _
        unfold pJ
        rw [if_neg hka, if_neg (by omega), if_neg (fun z => z hp3), if_pos hs4]
    · have hfp := (Fp.rf.tr hf2).tr hf3
      refine T_istore_n (pc2 := 37) dX8_readJar_36 (by decide) rfl ?_
      refine T_aload_n (pc2 := 38) dX8_readJar_37 rfl rfl ?_
      refine T_bipush (pc2 := 40) dX8_readJar_38 bp44 rfl ?_
      refine C_V1 (pc2 := 43) (mc := 0) (ms := 0) dX8_readJar_40 cvX8_mustSign mlX8_129 (isO.h (sh48 S) _) (Nat.le_of_ble_eq_true rfl) rfl ?_
      refine m_signF S hF3 ?_
      refine T_sub (lks (i := 0) rfl (lks (i := 1) rfl (lks (i := 2) rfl lk0))) ?_
      refine F43 g3 _ _ V ?_ hF3 (Fq.rf.p hfp) _ _
      unfold pJ
      rw [if_neg hka, if_neg (by omega), if_pos hp3]
  · refine T_aload_n (pc2 := 20) dX8_readJar_19 rfl rfl ?_
    refine T_iconst (pc2 := 21) dX8_readJar_20 ic3 rfl ?_
    refine C_V1 (pc2 := 24) (mc := 0) (ms := 0) dX8_readJar_21 cvX8_bad mlX8_108 (isO.h (sh48 S) _) (Nat.le_of_ble_eq_true rfl) rfl ?_
    refine m_bad (f := 3) S hG (by decide) (by decide) (fun g2 hF2 hf2 => ?_)
    refine T_aload_n (pc2 := 25) dX8_readJar_24 rfl rfl ?_
    refine T_iconst (pc2 := 26) dX8_readJar_25 ic1 rfl ?_
    refine C_V1 (pc2 := 29) (mc := 0) (ms := 0) dX8_readJar_26 cvX8_must mlX8_115 (isO.h (sh48 S) _) (Nat.le_of_ble_eq_true rfl) rfl ?_
    refine m_mustF (b := 1) S hF2 (by decide) ?_
    refine T_aload_n (pc2 := 30) dX8_readJar_29 rfl rfl ?_
    refine T_iconst (pc2 := 31) dX8_readJar_30 ic0 rfl ?_
    refine T_bipush (pc2 := 33) dX8_readJar_31 bp11 rfl ?_
    refine C_V2 (pc2 := 36) (mc := 0) (ms := 0) dX8_readJar_33 cvX8_number mlX8_125 (isO.h (sh48 S) _) (Nat.le_of_ble_eq_true rfl) rfl ?_
    refine m_numberF (lo := 0) (hi := 11) S hF2 ?_
    refine T_istore_n (pc2 := 37) dX8_readJar_36 (by decide) rfl ?_
    refine T_aload_n (pc2 := 38) dX8_readJar_37 rfl rfl ?_
    refine T_bipush (pc2 := 40) dX8_readJar_38 bp44 rfl ?_
    refine C_V1 (pc2 := 43) (mc := 0) (ms := 0) dX8_readJar_40 cvX8_mustSign mlX8_129 (isO.h (sh48 S) _) (Nat.le_of_ble_eq_true rfl) rfl ?_
    refine m_signF S hF2 ?_
    refine T_sub (lks (i := 0) rfl (lks (i := 1) rfl (lks (i := 2) rfl lk0))) ?_
    refine F43 g2 _ _ V ?_ hF2 (Fq.rf.p hf2) _ _
    unfold pJ
    rw [if_neg hka, if_pos (by omega)]
theorem m_begin (S : Sh sk n bf im above below) (hok : okT tp sz) (hT : hasTp g tp sz) (k : ∀ g2, PG g2 tp sz 0 → Fp g g2 → Q none (HP sk g2 n)) : Calls MX8_begin (d + 2) 0 0 [.ref 48] (HP sk g n) Q := by
  refine Calls.of (by decide +kernel) (Nat.le_of_ble_eq_true rfl) ?_
  refine T_aload_n (pc2 := 1) dX8_begin_0 rfl rfl ?_
  refine T_iconst (pc2 := 2) dX8_begin_1 ic0 rfl ?_
  refine G_putI (pc2 := 5) dX8_begin_2 flX8_90 (sh48 S) rfl rfl rfl rfl ?_
  refine T_aload_n (pc2 := 6) dX8_begin_5 rfl rfl ?_
  refine T_iconst (pc2 := 7) dX8_begin_6 ic0 rfl ?_
  refine G_putI (pc2 := 10) dX8_begin_7 flX8_81 (sh48 S) rfl rfl rfl rfl ?_
  refine T_aload_n (pc2 := 11) dX8_begin_10 rfl rfl ?_
  refine C_V0 (pc2 := 14) (mc := 0) (ms := 0) dX8_begin_11 cvX8_nextToken mlX8_112 (isO.h (sh48 S) _) (Nat.le_of_ble_eq_true rfl) rfl ?_
  refine m_next (a := 0) S hok (Nat.zero_le _) ((hT.st (by decide)).st (by decide)) (by rw [gs_ne _ _ (by omega), gs_eq]) (gs_eq _ _ _ _) (fun g2 hG hf => ?_)
  refine T_ret dX8_begin_14 rfl ?_
  exact k g2 hG (((Fp.rf.st (by omega) (by omega)).st (by omega) (by omega)).tr hf)
theorem m_failG (S : Sh sk n bf im above below) (hG : PG g tp sz sz) (k : ∀ g2, (∀ i, i ≠ 48 → g2 i = g i) → (∀ q, q ≠ 11 → g2 48 q = g 48 q) → g2 48 11 = nI 0 → Q (some (.int (nI 0))) (HP sk g2 n)) : Calls MX8_failed (d + 1) 0 0 [.ref 48] (HP sk g n) Q := by
  refine Calls.of (by decide +kernel) (Nat.le_of_ble_eq_true rfl) ?_
  obtain ⟨-, -, e16, -, e14, -⟩ := id hG
  rw [tk_1.mpr (Nat.le_refl _)] at e14
  have e18 : g 48 18 = g 48 18 := rfl
  have e16c : gset (gset g 48 11 (nI 0)) 48 18 (g 48 18) 48 16 = nI 0 := by rw [gs_ne _ _ (by omega), gs_ne _ _ (by omega)]; exact e16
  refine T_aload_n (pc2 := 1) dX8_failed_0 rfl rfl ?_
  refine G_getI (pc2 := 4) dX8_failed_1 flX8_81 (sh48 S) rfl (by first | with_reducible assumption | exact gs_eq _ _ _ _ | exact (gs_ne _ _ (by omega)).trans (by with_reducible assumption) | exact (gs_ne _ _ (by omega)).trans (gs_eq _ _ _ _) | exact (gs_ne _ _ (by omega)).trans ((gs_ne _ _ (by omega)).trans (by with_reducible assumption)) | exact (gs_ne _ _ (by omega)).trans ((gs_ne _ _ (by omega)).trans (gs_eq _ _ _ _)) | exact (gs_ne _ _ (by omega)).trans ((gs_ne _ _ (by omega)).trans ((gs_ne _ _ (by omega)).trans (by with_reducible assumption))) | rfl) rfl ?_
  first | refine B_ifne1 (tgt := 20) dX8_failed_4 (by with_reducible rfl) (by decide) ?_ | refine B_ifne0 (pc2 := 7) (tgt := 20) dX8_failed_4 (by with_reducible rfl) (by decide) rfl ?_ | refine N_ifne (pc2 := 7) (tgt := 20) dX8_failed_4 (by with_reducible rfl) (by decide) (by omega) rfl (fun c4 => ?_) (fun c4 => ?_) | refine T_ifne (pc2 := 7) (tgt := 20) dX8_failed_4 (by decide) rfl (fun c4 => ?_) (fun c4 => ?_)
  refine T_aload_n (pc2 := 8) dX8_failed_7 rfl rfl ?_
  refine G_getI (pc2 := 11) dX8_failed_8 flX8_105 (sh48 S) rfl (by first | with_reducible assumption | exact gs_eq _ _ _ _ | exact (gs_ne _ _ (by omega)).trans (by with_reducible assumption) | exact (gs_ne _ _ (by omega)).trans (gs_eq _ _ _ _) | exact (gs_ne _ _ (by omega)).trans ((gs_ne _ _ (by omega)).trans (by with_reducible assumption)) | exact (gs_ne _ _ (by omega)).trans ((gs_ne _ _ (by omega)).trans (gs_eq _ _ _ _)) | exact (gs_ne _ _ (by omega)).trans ((gs_ne _ _ (by omega)).trans ((gs_ne _ _ (by omega)).trans (by with_reducible assumption))) | rfl) rfl ?_
  refine T_iconst (pc2 := 12) dX8_failed_11 ic1 rfl ?_
  first | refine N_icmpeq (pc2 := 15) (tgt := 20) dX8_failed_12 (by decide) (by with_reducible rfl) (by with_reducible rfl) (by omega) (by omega) rfl (fun c12 => ?_) (fun c12 => ?_) | refine T_icmpeq (pc2 := 15) (tgt := 20) dX8_failed_12 (by decide) rfl (fun c12 => ?_) (fun c12 => ?_)
  · refine T_aload_n (pc2 := 21) dX8_failed_20 rfl rfl ?_
    refine T_iconst (pc2 := 22) dX8_failed_21 ic0 rfl ?_
    refine G_putI (pc2 := 25) dX8_failed_22 flX8_77 (sh48 S) rfl rfl rfl rfl ?_
    refine T_aload_n (pc2 := 26) dX8_failed_25 rfl rfl ?_
    refine T_aload_n (pc2 := 27) dX8_failed_26 rfl rfl ?_
    refine G_getI (pc2 := 30) dX8_failed_27 flX8_81 (sh48 S) rfl (by first | with_reducible assumption | exact gs_eq _ _ _ _ | exact (gs_ne _ _ (by omega)).trans (by with_reducible assumption) | exact (gs_ne _ _ (by omega)).trans (gs_eq _ _ _ _) | exact (gs_ne _ _ (by omega)).trans ((gs_ne _ _ (by omega)).trans (by with_reducible assumption)) | exact (gs_ne _ _ (by omega)).trans ((gs_ne _ _ (by omega)).trans (gs_eq _ _ _ _)) | exact (gs_ne _ _ (by omega)).trans ((gs_ne _ _ (by omega)).trans ((gs_ne _ _ (by omega)).trans (by with_reducible assumption))) | rfl) rfl ?_
    first | refine N_ifle (pc2 := 33) (tgt := 40) dX8_failed_30 (by with_reducible rfl) (by decide) (by omega) rfl (fun c30 => ?_) (fun c30 => ?_) | refine T_ifle (pc2 := 33) (tgt := 40) dX8_failed_30 (by decide) rfl (fun c30 => ?_) (fun c30 => ?_)
    · refine T_aload_n (pc2 := 41) dX8_failed_40 rfl rfl ?_
      refine G_getI (pc2 := 44) dX8_failed_41 flX8_119 (sh48 S) rfl (by first | with_reducible assumption | exact gs_eq _ _ _ _ | exact (gs_ne _ _ (by omega)).trans (by with_reducible assumption) | exact (gs_ne _ _ (by omega)).trans (gs_eq _ _ _ _) | exact (gs_ne _ _ (by omega)).trans ((gs_ne _ _ (by omega)).trans (by with_reducible assumption)) | exact (gs_ne _ _ (by omega)).trans ((gs_ne _ _ (by omega)).trans (gs_eq _ _ _ _)) | exact (gs_ne _ _ (by omega)).trans ((gs_ne _ _ (by omega)).trans ((gs_ne _ _ (by omega)).trans (by with_reducible assumption))) | rfl) rfl ?_
      refine G_putI (pc2 := 47) dX8_failed_44 flX8_119 (sh48 S) rfl rfl rfl rfl ?_
      refine T_aload_n (pc2 := 48) dX8_failed_47 rfl rfl ?_
      refine G_getI (pc2 := 51) dX8_failed_48 flX8_81 (sh48 S) rfl (by first | with_reducible assumption | exact gs_eq _ _ _ _ | exact (gs_ne _ _ (by omega)).trans (by with_reducible assumption) | exact (gs_ne _ _ (by omega)).trans (gs_eq _ _ _ _) | exact (gs_ne _ _ (by omega)).trans ((gs_ne _ _ (by omega)).trans (by with_reducible assumption)) | exact (gs_ne _ _ (by omega)).trans ((gs_ne _ _ (by omega)).trans (gs_eq _ _ _ _)) | exact (gs_ne _ _ (by omega)).trans ((gs_ne _ _ (by omega)).trans ((gs_ne _ _ (by omega)).trans (by with_reducible assumption))) | rfl) rfl ?_
      first | refine N_ifle (pc2 := 54) (tgt := 58) dX8_failed_51 (by with_reducible rfl) (by decide) (by omega) rfl (fun c51 => ?_) (fun c51 => ?_) | refine T_ifle (pc2 := 54) (tgt := 58) dX8_failed_51 (by decide) rfl (fun c51 => ?_) (fun c51 => ?_)
      · refine T_iconst (pc2 := 59) dX8_failed_58 ic0 rfl ?_
        refine T_iret dX8_failed_59 rfl (by first | rfl | decide) ?_
        refine k _ (fun i hi => by rw [gs_row hi, gs_row hi]) (fun q hq => ?_) (by rw [gs_ne _ _ (by omega), gs_eq])
        by_cases e : q = 18
        · subst e
          rw [gs_eq]
        · rw [gs_ne _ _ (by omega), gs_ne _ _ (by omega)]
      · omega
    · omega
  · exact absurd rfl c12
theorem m_failF (S : Sh sk n bf im above below) (hF : PF g f a ∨ (f = 1 ∧ a ≠ sz ∧ PG g tp sz a)) (k : ∀ g2, (∀ i, i ≠ 48 → g2 i = g i) → (∀ q, (q < 11 ∨ 18 < q) → g2 48 q = g 48 q) → g2 48 11 = nI 0 → g2 48 18 = nI f → g2 48 17 = nI a → Q (some (.int (nI 1))) (HP sk g2 n)) : Calls MX8_failed (d + 1) 0 0 [.ref 48] (HP sk g n) Q := by
  refine Calls.of (by decide +kernel) (Nat.le_of_ble_eq_true rfl) ?_
  have tail : ∀ g2, PF g2 f a → Fp g g2 → T MX8_failed (d + 1) 0 0 20 [(0, .ref 48)] [] (HP sk g2 n) Q := by
    intro g2 hF hf
    obtain ⟨h0, h1, e16, e17⟩ := hF
    have e16b : gset g2 48 11 (nI 0) 48 16 = nI f := by rw [gs_ne _ _ (by omega)]; exact e16
    have e16c : gset (gset g2 48 11 (nI 0)) 48 18 (nI f) 48 16 = nI f := by rw [gs_ne _ _ (by omega)]; exact e16b
    refine T_aload_n (pc2 := 21) dX8_failed_20 rfl rfl ?_
    refine T_iconst (pc2 := 22) dX8_failed_21 ic0 rfl ?_
    refine G_putI (pc2 := 25) dX8_failed_22 flX8_77 (sh48 S) rfl rfl rfl rfl ?_
    refine T_aload_n (pc2 := 26) dX8_failed_25 rfl rfl ?_
    refine T_aload_n (pc2 := 27) dX8_failed_26 rfl rfl ?_
    refine G_getI (pc2 := 30) dX8_failed_27 flX8_81 (sh48 S) rfl (by first | with_reducible assumption | exact gs_eq _ _ _ _ | exact (gs_ne _ _ (by omega)).trans (by with_reducible assumption) | exact (gs_ne _ _ (by omega)).trans (gs_eq _ _ _ _) | exact (gs_ne _ _ (by omega)).trans ((gs_ne _ _ (by omega)).trans (by with_reducible assumption)) | exact (gs_ne _ _ (by omega)).trans ((gs_ne _ _ (by omega)).trans (gs_eq _ _ _ _)) | exact (gs_ne _ _ (by omega)).trans ((gs_ne _ _ (by omega)).trans ((gs_ne _ _ (by omega)).trans (by with_reducible assumption))) | rfl) rfl ?_
    first | refine N_ifle (pc2 := 33) (tgt := 40) dX8_failed_30 (by with_reducible rfl) (by decide) (by omega) rfl (fun c30 => ?_) (fun c30 => ?_) | refine T_ifle (pc2 := 33) (tgt := 40) dX8_failed_30 (by decide) rfl (fun c30 => ?_) (fun c30 => ?_)
    · omega
    · refine T_aload_n (pc2 := 34) dX8_failed_33 rfl rfl ?_
      refine G_getI (pc2 := 37) dX8_failed_34 flX8_81 (sh48 S) rfl (by first | with_reducible assumption | exact gs_eq _ _ _ _ | exact (gs_ne _ _ (by omega)).trans (by with_reducible assumption) | exact (gs_ne _ _ (by omega)).trans (gs_eq _ _ _ _) | exact (gs_ne _ _ (by omega)).trans ((gs_ne _ _ (by omega)).trans (by with_reducible assumption)) | exact (gs_ne _ _ (by omega)).trans ((gs_ne _ _ (by omega)).trans (gs_eq _ _ _ _)) | exact (gs_ne _ _ (by omega)).trans ((gs_ne _ _ (by omega)).trans ((gs_ne _ _ (by omega)).trans (by with_reducible assumption))) | rfl) rfl ?_
      refine T_goto (tgt := 44) dX8_failed_37 (by decide) ?_
      refine G_putI (pc2 := 47) dX8_failed_44 flX8_119 (sh48 S) rfl rfl rfl rfl ?_
      refine T_aload_n (pc2 := 48) dX8_failed_47 rfl rfl ?_
      refine G_getI (pc2 := 51) dX8_failed_48 flX8_81 (sh48 S) rfl (by first | with_reducible assumption | exact gs_eq _ _ _ _ | exact (gs_ne _ _ (by omega)).trans (by with_reducible assumption) | exact (gs_ne _ _ (by omega)).trans (gs_eq _ _ _ _) | exact (gs_ne _ _ (by omega)).trans ((gs_ne _ _ (by omega)).trans (by with_reducible assumption)) | exact (gs_ne _ _ (by omega)).trans ((gs_ne _ _ (by omega)).trans (gs_eq _ _ _ _)) | exact (gs_ne _ _ (by omega)).trans ((gs_ne _ _ (by omega)).trans ((gs_ne _ _ (by omega)).trans (by with_reducible assumption))) | rfl) rfl ?_
      first | refine N_ifle (pc2 := 54) (tgt := 58) dX8_failed_51 (by with_reducible rfl) (by decide) (by omega) rfl (fun c51 => ?_) (fun c51 => ?_) | refine T_ifle (pc2 := 54) (tgt := 58) dX8_failed_51 (by decide) rfl (fun c51 => ?_) (fun c51 => ?_)
      · omega
      · refine T_iconst (pc2 := 55) dX8_failed_54 ic1 rfl ?_
        refine T_goto (tgt := 59) dX8_failed_55 (by decide) ?_
        refine T_iret dX8_failed_59 rfl (by first | rfl | decide) ?_
        refine k _ (fun i hi => by rw [gs_row hi, gs_row hi]; exact hf.1 i hi) (fun q hq => ?_) (by rw [gs_ne _ _ (by omega), gs_eq]) (gs_eq _ _ _ _) ?_
        · rw [gs_ne _ _ (by omega), gs_ne _ _ (by omega)]
          exact hf.2 q (by omega)
        · rw [gs_ne _ _ (by omega), gs_ne _ _ (by omega)]
          exact e17
  rcases hF with hF | ⟨hf1, ha, hG⟩
  · obtain ⟨h0, h1, e16, e17⟩ := id hF
    refine T_aload_n (pc2 := 1) dX8_failed_0 rfl rfl ?_
    refine G_getI (pc2 := 4) dX8_failed_1 flX8_81 (sh48 S) rfl (by first | with_reducible assumption | exact gs_eq _ _ _ _ | exact (gs_ne _ _ (by omega)).trans (by with_reducible assumption) | exact (gs_ne _ _ (by omega)).trans (gs_eq _ _ _ _) | exact (gs_ne _ _ (by omega)).trans ((gs_ne _ _ (by omega)).trans (by with_reducible assumption)) | exact (gs_ne _ _ (by omega)).trans ((gs_ne _ _ (by omega)).trans (gs_eq _ _ _ _)) | exact (gs_ne _ _ (by omega)).trans ((gs_ne _ _ (by omega)).trans ((gs_ne _ _ (by omega)).trans (by with_reducible assumption))) | rfl) rfl ?_
    first | refine B_ifne1 (tgt := 20) dX8_failed_4 (by with_reducible rfl) (by decide) ?_ | refine B_ifne0 (pc2 := 7) (tgt := 20) dX8_failed_4 (by with_reducible rfl) (by decide) rfl ?_ | refine N_ifne (pc2 := 7) (tgt := 20) dX8_failed_4 (by with_reducible rfl) (by decide) (by omega) rfl (fun c4 => ?_) (fun c4 => ?_) | refine T_ifne (pc2 := 7) (tgt := 20) dX8_failed_4 (by decide) rfl (fun c4 => ?_) (fun c4 => ?_)
    · exact tail g hF Fp.rf
    · omega
  · subst hf1
    obtain ⟨-, hle, e16, -, e14, -⟩ := id hG
    have ht := tk_lt tp sz a
    have ht1 : tkN tp sz a ≠ 1 := fun z => by
      have := tk_1.mp z
      omega
    refine T_aload_n (pc2 := 1) dX8_failed_0 rfl rfl ?_
    refine G_getI (pc2 := 4) dX8_failed_1 flX8_81 (sh48 S) rfl (by first | with_reducible assumption | exact gs_eq _ _ _ _ | exact (gs_ne _ _ (by omega)).trans (by with_reducible assumption) | exact (gs_ne _ _ (by omega)).trans (gs_eq _ _ _ _) | exact (gs_ne _ _ (by omega)).trans ((gs_ne _ _ (by omega)).trans (by with_reducible assumption)) | exact (gs_ne _ _ (by omega)).trans ((gs_ne _ _ (by omega)).trans (gs_eq _ _ _ _)) | exact (gs_ne _ _ (by omega)).trans ((gs_ne _ _ (by omega)).trans ((gs_ne _ _ (by omega)).trans (by with_reducible assumption))) | rfl) rfl ?_
    first | refine B_ifne1 (tgt := 20) dX8_failed_4 (by with_reducible rfl) (by decide) ?_ | refine B_ifne0 (pc2 := 7) (tgt := 20) dX8_failed_4 (by with_reducible rfl) (by decide) rfl ?_ | refine N_ifne (pc2 := 7) (tgt := 20) dX8_failed_4 (by with_reducible rfl) (by decide) (by omega) rfl (fun c4 => ?_) (fun c4 => ?_) | refine T_ifne (pc2 := 7) (tgt := 20) dX8_failed_4 (by decide) rfl (fun c4 => ?_) (fun c4 => ?_)
    refine T_aload_n (pc2 := 8) dX8_failed_7 rfl rfl ?_
    refine G_getI (pc2 := 11) dX8_failed_8 flX8_105 (sh48 S) rfl (by first | with_reducible assumption | exact gs_eq _ _ _ _ | exact (gs_ne _ _ (by omega)).trans (by with_reducible assumption) | exact (gs_ne _ _ (by omega)).trans (gs_eq _ _ _ _) | exact (gs_ne _ _ (by omega)).trans ((gs_ne _ _ (by omega)).trans (by with_reducible assumption)) | exact (gs_ne _ _ (by omega)).trans ((gs_ne _ _ (by omega)).trans (gs_eq _ _ _ _)) | exact (gs_ne _ _ (by omega)).trans ((gs_ne _ _ (by omega)).trans ((gs_ne _ _ (by omega)).trans (by with_reducible assumption))) | rfl) rfl ?_
    refine T_iconst (pc2 := 12) dX8_failed_11 ic1 rfl ?_
    first | refine N_icmpeq (pc2 := 15) (tgt := 20) dX8_failed_12 (by decide) (by with_reducible rfl) (by with_reducible rfl) (by omega) (by omega) rfl (fun c12 => ?_) (fun c12 => ?_) | refine T_icmpeq (pc2 := 15) (tgt := 20) dX8_failed_12 (by decide) rfl (fun c12 => ?_) (fun c12 => ?_)
    · omega
    · refine T_aload_n (pc2 := 16) dX8_failed_15 rfl rfl ?_
      refine T_iconst (pc2 := 17) dX8_failed_16 ic1 rfl ?_
      refine C_V1 (pc2 := 20) (mc := 0) (ms := 0) dX8_failed_17 cvX8_bad mlX8_108 (isO.h (sh48 S) _) (Nat.le_of_ble_eq_true rfl) rfl ?_
      refine m_bad (f := 1) S hG (by decide) (by decide) (fun g2 hF hf => ?_)
      exact tail g2 hF hf
theorem zl_loop (S : Sh sk n bf im above below) (k : ∀ g2, (∀ q, q < 43 → g2 53 q = nI 0) → Fo 53 g g2 → T MX8_cellar (d + 5) kc ks 30 [(0, .ref 48)] [] (HP sk g2 n) Q) :
    ∀ m i g2, i + m = 43 → (∀ q, q < i → g2 53 q = nI 0) → Fo 53 g g2 → T MX8_cellar (d + 5) kc ks 11 [(0, .ref 48), (1, .int (nI i))] [] (HP sk g2 n) Q := by
  intro m
  induction m with
  | zero =>
    intro i g2 hi hq hf
    have e : i = 43 := by omega
    subst e
    refine T_iload_n (pc2 := 12) dX8_cellar_11 rfl rfl ?_
    refine T_bipush (pc2 := 14) dX8_cellar_12 bp43 rfl ?_
    first | refine N_icmpge (pc2 := 17) (tgt := 30) dX8_cellar_14 (by decide) (by with_reducible rfl) (by with_reducible rfl) (by omega) (by omega) rfl (fun c14 => ?_) (fun c14 => ?_) | refine T_icmpge (pc2 := 17) (tgt := 30) dX8_cellar_14 (by decide) rfl (fun c14 => ?_) (fun c14 => ?_)
    · refine T_sub (lks (i := 0) rfl lk0) ?_
      exact k g2 hq hf
    · omega
  | succ m ih =>
    intro i g2 hi hq hf
    refine T_iload_n (pc2 := 12) dX8_cellar_11 rfl rfl ?_
    refine T_bipush (pc2 := 14) dX8_cellar_12 bp43 rfl ?_
    first | refine N_icmpge (pc2 := 17) (tgt := 30) dX8_cellar_14 (by decide) (by with_reducible rfl) (by with_reducible rfl) (by omega) (by omega) rfl (fun c14 => ?_) (fun c14 => ?_) | refine T_icmpge (pc2 := 17) (tgt := 30) dX8_cellar_14 (by decide) rfl (fun c14 => ?_) (fun c14 => ?_)
    · omega
    · refine T_aload_n (pc2 := 18) dX8_cellar_17 rfl rfl ?_
      refine G_getR (pc2 := 21) dX8_cellar_18 flX8_22 (sh48 S) rfl rfl ?_
      refine T_iload_n (pc2 := 22) dX8_cellar_21 rfl rfl ?_
      refine T_iconst (pc2 := 23) dX8_cellar_22 ic0 rfl ?_
      refine G_iast (pc2 := 24) dX8_cellar_23 (sh53 S) (by omega) (by decide) rfl ?_
      first | refine N_iinc (pc2 := 27) dX8_cellar_24 rfl (by with_reducible rfl) ic1 (by decide) rfl ?_ | refine T_iinc (pc2 := 27) dX8_cellar_24 rfl rfl (by decide) rfl ?_
      refine T_goto (tgt := 11) dX8_cellar_27 (by decide) ?_
      refine T_sub (lks (i := 0) rfl (lks (i := 1) rfl lk0)) ?_
      refine ih (i + 1) _ (by omega) (fun q hq2 => ?_) hf.st
      by_cases e : q = i
      · subst e; rw [gs_eq]
      · rw [gs_ne _ _ (by omega)]; exact hq q (by omega)
theorem cc_loop (S : Sh sk n bf im above below) (k : ∀ g2, (∀ q, q < 43 → g2 52 q = g 53 q) → Fo 52 g g2 → T MX8_cellar (d + 5) kc ks 131 [(0, .ref 48)] [] (HP sk g2 n) Q) :
    ∀ m i g2, i + m = 43 → (∀ q, q < i → g2 52 q = g 53 q) → Fo 52 g g2 → T MX8_cellar (d + 5) kc ks 107 [(0, .ref 48), (1, .int (nI i))] [] (HP sk g2 n) Q := by
  intro m
  induction m with
  | zero =>
    intro i g2 hi hq hf
    have e : i = 43 := by omega
    subst e
    refine T_iload_n (pc2 := 108) dX8_cellar_107 rfl rfl ?_
    refine T_bipush (pc2 := 110) dX8_cellar_108 bp43 rfl ?_
    first | refine N_icmpge (pc2 := 113) (tgt := 131) dX8_cellar_110 (by decide) (by with_reducible rfl) (by with_reducible rfl) (by omega) (by omega) rfl (fun c110 => ?_) (fun c110 => ?_) | refine T_icmpge (pc2 := 113) (tgt := 131) dX8_cellar_110 (by decide) rfl (fun c110 => ?_) (fun c110 => ?_)
    · refine T_sub (lks (i := 0) rfl lk0) ?_
      exact k g2 hq hf
    · omega
  | succ m ih =>
    intro i g2 hi hq hf
    have e53 : g2 53 i = g 53 i := by rw [hf 53 (by decide)]
    refine T_iload_n (pc2 := 108) dX8_cellar_107 rfl rfl ?_
    refine T_bipush (pc2 := 110) dX8_cellar_108 bp43 rfl ?_
    first | refine N_icmpge (pc2 := 113) (tgt := 131) dX8_cellar_110 (by decide) (by with_reducible rfl) (by with_reducible rfl) (by omega) (by omega) rfl (fun c110 => ?_) (fun c110 => ?_) | refine T_icmpge (pc2 := 113) (tgt := 131) dX8_cellar_110 (by decide) rfl (fun c110 => ?_) (fun c110 => ?_)
    · omega
    · refine T_aload_n (pc2 := 114) dX8_cellar_113 rfl rfl ?_
      refine G_getR (pc2 := 117) dX8_cellar_114 flX8_19 (sh48 S) rfl rfl ?_
      refine T_iload_n (pc2 := 118) dX8_cellar_117 rfl rfl ?_
      refine T_aload_n (pc2 := 119) dX8_cellar_118 rfl rfl ?_
      refine G_getR (pc2 := 122) dX8_cellar_119 flX8_22 (sh48 S) rfl rfl ?_
      refine T_iload_n (pc2 := 123) dX8_cellar_122 rfl rfl ?_
      refine G_iald (pc2 := 124) dX8_cellar_123 (sh53 S) (by omega) (by first | decide | omega) (by first | with_reducible assumption | exact gs_eq _ _ _ _ | exact (gs_ne _ _ (by omega)).trans (by with_reducible assumption) | exact (gs_ne _ _ (by omega)).trans (gs_eq _ _ _ _) | exact (gs_ne _ _ (by omega)).trans ((gs_ne _ _ (by omega)).trans (by with_reducible assumption)) | exact (gs_ne _ _ (by omega)).trans ((gs_ne _ _ (by omega)).trans (gs_eq _ _ _ _)) | exact (gs_ne _ _ (by omega)).trans ((gs_ne _ _ (by omega)).trans ((gs_ne _ _ (by omega)).trans (by with_reducible assumption))) | rfl) rfl ?_
      refine G_iast (pc2 := 125) dX8_cellar_124 (sh52 S) (by omega) (by decide) rfl ?_
      first | refine N_iinc (pc2 := 128) dX8_cellar_125 rfl (by with_reducible rfl) ic1 (by decide) rfl ?_ | refine T_iinc (pc2 := 128) dX8_cellar_125 rfl rfl (by decide) rfl ?_
      refine T_goto (tgt := 107) dX8_cellar_128 (by decide) ?_
      refine T_sub (lks (i := 0) rfl (lks (i := 1) rfl lk0)) ?_
      refine ih (i + 1) _ (by omega) (fun q hq2 => ?_) hf.st
      by_cases e : q = i
      · subst e; rw [gs_eq]
      · rw [gs_ne _ _ (by omega)]; exact hq q (by omega)
theorem cl_loop (S : Sh sk n bf im above below) (hok : okT tp sz) (res : Nat × Nat × Cel)
    (hE : ∀ g2, Fq g g2 → ((res.1 = 0 ∧ PG g2 tp sz sz ∧ hasM (g2 53) res.2.2) ∨ (res.1 ≠ 0 ∧ (PF g2 res.1 res.2.1 ∨ (res.1 = 1 ∧ res.2.1 ≠ sz ∧ PG g2 tp sz res.2.1)))) → T MX8_cellar (d + 5) kc ks 85 [(0, .ref 48)] [] (HP sk g2 n) Q) :
    ∀ f V a g2, V.J + f = 9 → V.J ≤ 8 → pLp tp sz f V a = res → (V.J = 0 → kindA tp sz a ≠ 0) → hasM (g2 53) V → PG g2 tp sz a → Fq g g2 → T MX8_cellar (d + 5) kc ks 71 [(0, .ref 48)] [] (HP sk g2 n) Q := by
  intro f
  induction f with
  | zero =>
    intro V a g2 hf h8
    omega
  | succ f ih =>
    intro V a g2 hf h8 hr h0 hV hG hq
    have ha := hG.2.1
    refine T_aload_n (pc2 := 72) dX8_cellar_71 rfl rfl ?_
    refine C_V0 (pc2 := 75) (mc := 0) (ms := 0) dX8_cellar_72 cvX8_isSort mlX8_138 (isO.h (sh48 S) _) (Nat.le_of_ble_eq_true rfl) rfl ?_
    refine m_isSort S hok hG (fun hk => ?_) (fun hk => ?_)
    · have hi := kindA_in hk
      have hr2 : (if (pJ tp sz V a).1 ≠ 0 then pJ tp sz V a else pLp tp sz f (pJ tp sz V a).2.2 (pJ tp sz V a).2.1) = res := by
        rw [← hr]
        exact (if_neg (fun z => by omega)).symm
      first | refine B_ifeq1 (pc2 := 78) (tgt := 85) dX8_cellar_75 (by with_reducible rfl) (by decide) rfl ?_ | refine B_ifeq0 (tgt := 85) dX8_cellar_75 (by with_reducible rfl) (by decide) ?_ | refine N_ifeq (pc2 := 78) (tgt := 85) dX8_cellar_75 (by with_reducible rfl) (by decide) (by omega) rfl (fun c75 => ?_) (fun c75 => ?_) | refine T_ifeq (pc2 := 78) (tgt := 85) dX8_cellar_75 (by decide) rfl (fun c75 => ?_) (fun c75 => ?_)
      refine T_aload_n (pc2 := 79) dX8_cellar_78 rfl rfl ?_
      refine C_V0 (pc2 := 82) (mc := 0) (ms := 0) dX8_cellar_79 cvX8_readJar mlX8_142 (isO.h (sh48 S) _) (Nat.le_of_ble_eq_true rfl) rfl ?_
      refine m_readJar S hok hG hk hV h8 (fun g3 hp hG3 hV3 hq3 => ?_) (fun g3 hp hF3 hq3 => ?_)
      · have hJJ := pJ_J hp
        rw [if_neg (fun z => z hp)] at hr2
        refine T_goto (tgt := 71) dX8_cellar_82 (by decide) ?_
        exact ih _ _ g3 (by rw [hJJ.2]; omega) (by rw [hJJ.2]; omega) hr2 (fun z => by rw [hJJ.2] at z; cases z) hV3 hG3 (hq.tr hq3)
      · rw [if_pos hp] at hr2
        subst hr2
        refine T_goto (tgt := 71) dX8_cellar_82 (by decide) ?_
        refine T_aload_n (pc2 := 72) dX8_cellar_71 rfl rfl ?_
        refine C_V0 (pc2 := 75) (mc := 0) (ms := 0) dX8_cellar_72 cvX8_isSort mlX8_138 (isO.h (sh48 S) _) (Nat.le_of_ble_eq_true rfl) rfl ?_
        refine m_isSortF S hF3 ?_
        first | refine B_ifeq1 (pc2 := 78) (tgt := 85) dX8_cellar_75 (by with_reducible rfl) (by decide) rfl ?_ | refine B_ifeq0 (tgt := 85) dX8_cellar_75 (by with_reducible rfl) (by decide) ?_ | refine N_ifeq (pc2 := 78) (tgt := 85) dX8_cellar_75 (by with_reducible rfl) (by decide) (by omega) rfl (fun c75 => ?_) (fun c75 => ?_) | refine T_ifeq (pc2 := 78) (tgt := 85) dX8_cellar_75 (by decide) rfl (fun c75 => ?_) (fun c75 => ?_)
        exact hE g3 (hq.tr hq3) (Or.inr ⟨hp, Or.inl hF3⟩)
    · have hJ0 : V.J ≠ 0 := fun z => h0 z hk
      first | refine B_ifeq1 (pc2 := 78) (tgt := 85) dX8_cellar_75 (by with_reducible rfl) (by decide) rfl ?_ | refine B_ifeq0 (tgt := 85) dX8_cellar_75 (by with_reducible rfl) (by decide) ?_ | refine N_ifeq (pc2 := 78) (tgt := 85) dX8_cellar_75 (by with_reducible rfl) (by decide) (by omega) rfl (fun c75 => ?_) (fun c75 => ?_) | refine T_ifeq (pc2 := 78) (tgt := 85) dX8_cellar_75 (by decide) rfl (fun c75 => ?_) (fun c75 => ?_)
      by_cases e : a = sz
      · have hr2 : res = (0, a, V) := by
          rw [← hr]
          exact if_pos ⟨by omega, e⟩
        subst hr2
        subst e
        exact hE g2 hq (Or.inl ⟨rfl, hG, hV⟩)
      · have hpj : pJ tp sz V a = (1, a, V) := if_pos hk
        have hr2 : res = (1, a, V) := by
          have : pLp tp sz (f + 1) V a = if (pJ tp sz V a).1 ≠ 0 then pJ tp sz V a else pLp tp sz f (pJ tp sz V a).2.2 (pJ tp sz V a).2.1 := if_neg (fun z => e z.2)
          rw [hpj] at this
          rw [← hr, this]
          exact if_pos (show (1 : Nat) ≠ 0 by decide)
        subst hr2
        exact hE g2 hq (Or.inr ⟨by show (1 : Nat) ≠ 0; decide, Or.inr ⟨rfl, e, hG⟩⟩)
theorem mm_cellar (S : Sh sk n bf im above below) (hI : InvM g s) (hok : Ok s) (k : ∀ g2, InvM g2 (sCellar s).2 → Fr 48 62 g g2 → Q (some (.int (sCellar s).1)) (HP sk g2 n)) : Calls MX8_cellar (d + 5) 0 0 [.ref 48] (HP sk g n) Q := by
  have hokT := hok.2.1
  refine Calls.of (by decide +kernel) (Nat.le_of_ble_eq_true rfl) ?_
  refine T_aload_n (pc2 := 1) dX8_cellar_0 rfl rfl ?_
  refine T_iconst (pc2 := 2) dX8_cellar_1 ic0 rfl ?_
  refine G_putI (pc2 := 5) dX8_cellar_2 flX8_50 (sh48 S) rfl rfl rfl rfl ?_
  have hI := hI.ms (Ms.rf.st (i := 48) (k := 0) (v := nI 0) (by omega))
  have k := fm_start k
  generalize gset g 48 0 (nI 0) = g1 at hI k ⊢
  -- the end
  have hE : ∀ g2, Fq g1 g2 → (((parse s.tp s.sz).1 = 0 ∧ PG g2 s.tp s.sz s.sz ∧ hasM (g2 53) (parse s.tp s.sz).2.2) ∨ ((parse s.tp s.sz).1 ≠ 0 ∧ (PF g2 (parse s.tp s.sz).1 (parse s.tp s.sz).2.1 ∨ ((parse s.tp s.sz).1 = 1 ∧ (parse s.tp s.sz).2.1 ≠ s.sz ∧ PG g2 s.tp s.sz (parse s.tp s.sz).2.1)))) → T MX8_cellar (d + 5) 0 0 85 [(0, .ref 48)] [] (HP sk g2 n) Q := by
    intro g2 hq hc
    refine T_aload_n (pc2 := 86) dX8_cellar_85 rfl rfl ?_
    refine C_V0 (pc2 := 89) (mc := 0) (ms := 0) dX8_cellar_86 cvX8_failed mlX8_145 (isO.h (sh48 S) _) (Nat.le_of_ble_eq_true rfl) rfl ?_
    rcases hc with ⟨h0, hG, hV⟩ | ⟨h0, hF⟩
    · have hp := parse_ok h0
      have hs : sCellar s = (nI (parse s.tp s.sz).2.2.J, ((s.setT s.tp 0).setV (parse s.tp s.sz).2.2).setac s.ac 0) := if_neg (fun z => z h0)
      refine m_failG S hG (fun g3 hr3 hk3 e11 => ?_)
      first | refine B_ifeq1 (pc2 := 92) (tgt := 100) dX8_cellar_89 (by with_reducible rfl) (by decide) rfl ?_ | refine B_ifeq0 (tgt := 100) dX8_cellar_89 (by with_reducible rfl) (by decide) ?_ | refine N_ifeq (pc2 := 92) (tgt := 100) dX8_cellar_89 (by with_reducible rfl) (by decide) (by omega) rfl (fun c89 => ?_) (fun c89 => ?_) | refine T_ifeq (pc2 := 92) (tgt := 100) dX8_cellar_89 (by decide) rfl (fun c89 => ?_) (fun c89 => ?_)
      refine T_aload_n (pc2 := 101) dX8_cellar_100 rfl rfl ?_
      refine T_iconst (pc2 := 102) dX8_cellar_101 ic0 rfl ?_
      refine G_putI (pc2 := 105) dX8_cellar_102 flX8_149 (sh48 S) rfl rfl rfl rfl ?_
      refine T_iconst (pc2 := 106) dX8_cellar_105 ic0 rfl ?_
      refine T_istore_n (pc2 := 107) dX8_cellar_106 (by decide) rfl ?_
      refine T_sub (lks (i := 0) rfl (lks (i := 1) rfl lk0)) ?_
      refine cc_loop (g := gset g3 48 9 (nI 0)) S (fun g4 hq4 hf4 => ?_) 43 0 _ (by decide) (fun q hq => absurd hq (Nat.not_lt_zero q)) Fo.rf
      have hrow : ∀ i, i ≠ 48 → i ≠ 52 → i ≠ 53 → g4 i = g1 i := fun i a b c => by
        rw [hf4 i b, gs_row a, hr3 i a]
        exact hq.1 i a c
      have h48 : ∀ q, q ≠ 9 → q ≠ 11 → (q < 12 ∨ 17 < q) → g4 48 q = g1 48 q := fun q a b c => by
        rw [hf4 48 (by decide), gs_ne _ _ (by omega), hk3 q b]
        exact hq.2 q c
      have e9 : g4 48 9 = nI 0 := by rw [hf4 48 (by decide), gs_eq]
      have e11b : g4 48 11 = nI 0 := by rw [hf4 48 (by decide), gs_ne _ _ (by omega)]; exact e11
      have hV4 : hasM (g4 52) (parse s.tp s.sz).2.2 := by
        refine hV.copy (fun q hq => ?_) hp.1.1
        rw [hq4 q hq, gs_row (by decide), hr3 53 (by decide)]
      have e0 := hV4.1
      refine T_aload_n (pc2 := 132) dX8_cellar_131 rfl rfl ?_
      refine G_getR (pc2 := 135) dX8_cellar_132 flX8_19 (sh48 S) rfl rfl ?_
      refine T_iconst (pc2 := 136) dX8_cellar_135 ic0 rfl ?_
      refine G_iald (pc2 := 137) dX8_cellar_136 (sh52 S) (by omega) (by first | decide | omega) (by first | with_reducible assumption | exact gs_eq _ _ _ _ | exact (gs_ne _ _ (by omega)).trans (by with_reducible assumption) | exact (gs_ne _ _ (by omega)).trans (gs_eq _ _ _ _) | exact (gs_ne _ _ (by omega)).trans ((gs_ne _ _ (by omega)).trans (by with_reducible assumption)) | exact (gs_ne _ _ (by omega)).trans ((gs_ne _ _ (by omega)).trans (gs_eq _ _ _ _)) | exact (gs_ne _ _ (by omega)).trans ((gs_ne _ _ (by omega)).trans ((gs_ne _ _ (by omega)).trans (by with_reducible assumption))) | rfl) rfl ?_
      refine T_iret dX8_cellar_137 rfl rfl ?_
      refine fm_new k (s3 := ((s.setT s.tp 0).setV (parse s.tp s.sz).2.2).setac s.ac 0) ?_ (fun i hi => hrow i (by omega) (by omega) (by omega)) hs
      unfold InvM hasRm at hI ⊢
      rw [hrow 49 (by decide) (by decide) (by decide), hrow 50 (by decide) (by decide) (by decide), hrow 51 (by decide) (by decide) (by decide), hrow 59 (by decide) (by decide) (by decide), hrow 60 (by decide) (by decide) (by decide), hrow 61 (by decide) (by decide) (by decide), h48 1 (by decide) (by decide) (by decide), h48 18 (by decide) (by decide) (by decide), h48 27 (by decide) (by decide) (by decide)]
      exact ⟨hI.1, ⟨e11b, fun i hi => absurd hi (Nat.not_lt_zero i)⟩, hV4, e9, fun i hi => absurd hi (Nat.not_lt_zero i), hI.2.2.2.2.2⟩
    · have hs : sCellar s = (-1000100 - nI (parse s.tp s.sz).2.1, (s.setT s.tp 0).setlf (parse s.tp s.sz).1) := if_pos h0
      refine m_failF S hF (fun g3 hr3 hk3 e11 e18 e17 => ?_)
      first | refine B_ifeq1 (pc2 := 92) (tgt := 100) dX8_cellar_89 (by with_reducible rfl) (by decide) rfl ?_ | refine B_ifeq0 (tgt := 100) dX8_cellar_89 (by with_reducible rfl) (by decide) ?_ | refine N_ifeq (pc2 := 92) (tgt := 100) dX8_cellar_89 (by with_reducible rfl) (by decide) (by omega) rfl (fun c89 => ?_) (fun c89 => ?_) | refine T_ifeq (pc2 := 92) (tgt := 100) dX8_cellar_89 (by decide) rfl (fun c89 => ?_) (fun c89 => ?_)
      refine T_ldc (pc2 := 94) dX8_cellar_92 kcX8_148 rfl ?_
      refine T_aload_n (pc2 := 95) dX8_cellar_94 rfl rfl ?_
      refine G_getI (pc2 := 98) dX8_cellar_95 flX8_87 (sh48 S) rfl (by first | with_reducible assumption | exact gs_eq _ _ _ _ | exact (gs_ne _ _ (by omega)).trans (by with_reducible assumption) | exact (gs_ne _ _ (by omega)).trans (gs_eq _ _ _ _) | exact (gs_ne _ _ (by omega)).trans ((gs_ne _ _ (by omega)).trans (by with_reducible assumption)) | exact (gs_ne _ _ (by omega)).trans ((gs_ne _ _ (by omega)).trans (gs_eq _ _ _ _)) | exact (gs_ne _ _ (by omega)).trans ((gs_ne _ _ (by omega)).trans ((gs_ne _ _ (by omega)).trans (by with_reducible assumption))) | rfl) rfl ?_
      first | refine N_isub (pc2 := 99) dX8_cellar_98 (by with_reducible rfl) (by with_reducible rfl) (by omega) rfl ?_ | refine T_isub (pc2 := 99) dX8_cellar_98 rfl ?_
      refine T_iret dX8_cellar_99 rfl rfl ?_
      have hrow : ∀ i, i ≠ 48 → i ≠ 53 → g3 i = g1 i := fun i a c => by
        rw [hr3 i a]
        exact hq.1 i a c
      have h48 : ∀ q, (q < 11 ∨ 18 < q) → g3 48 q = g1 48 q := fun q c => by
        rw [hk3 q c]
        exact hq.2 q (by omega)
      refine fm_new k (s3 := (s.setT s.tp 0).setlf (parse s.tp s.sz).1) ?_ (fun i hi => hrow i (by omega) (by omega)) hs
      unfold InvM hasRm at hI ⊢
      rw [hrow 49 (by decide) (by decide), hrow 50 (by decide) (by decide), hrow 51 (by decide) (by decide), hrow 52 (by decide) (by decide), hrow 55 (by decide) (by decide), hrow 59 (by decide) (by decide), hrow 60 (by decide) (by decide), hrow 61 (by decide) (by decide), h48 1 (by decide), h48 9 (by decide), h48 27 (by decide)]
      exact ⟨hI.1, ⟨e11, fun i hi => absurd hi (Nat.not_lt_zero i)⟩, hI.2.2.1, hI.2.2.2.1, hI.2.2.2.2.1, hI.2.2.2.2.2.1, hI.2.2.2.2.2.2.1, e18, hI.2.2.2.2.2.2.2.2⟩
  -- a fault before the jars
  have hF71 : ∀ g2 f p X, parse s.tp s.sz = (f, p, X) → PF g2 f p → Fq g1 g2 → T MX8_cellar (d + 5) 0 0 59 [(0, .ref 48)] [] (HP sk g2 n) Q := by
    intro g2 f p X hp hF hq
    refine T_aload_n (pc2 := 60) dX8_cellar_59 rfl rfl ?_
    refine C_V0 (pc2 := 63) (mc := 0) (ms := 0) dX8_cellar_60 cvX8_isSort mlX8_138 (isO.h (sh48 S) _) (Nat.le_of_ble_eq_true rfl) rfl ?_
    refine m_isSortF S hF ?_
    first | refine B_ifne1 (tgt := 71) dX8_cellar_63 (by with_reducible rfl) (by decide) ?_ | refine B_ifne0 (pc2 := 66) (tgt := 71) dX8_cellar_63 (by with_reducible rfl) (by decide) rfl ?_ | refine N_ifne (pc2 := 66) (tgt := 71) dX8_cellar_63 (by with_reducible rfl) (by decide) (by omega) rfl (fun c63 => ?_) (fun c63 => ?_) | refine T_ifne (pc2 := 66) (tgt := 71) dX8_cellar_63 (by decide) rfl (fun c63 => ?_) (fun c63 => ?_)
    refine T_aload_n (pc2 := 67) dX8_cellar_66 rfl rfl ?_
    refine T_iconst (pc2 := 68) dX8_cellar_67 ic1 rfl ?_
    refine C_V1 (pc2 := 71) (mc := 0) (ms := 0) dX8_cellar_68 cvX8_bad mlX8_108 (isO.h (sh48 S) _) (Nat.le_of_ble_eq_true rfl) rfl ?_
    refine m_badF S hF ?_
    refine T_aload_n (pc2 := 72) dX8_cellar_71 rfl rfl ?_
    refine C_V0 (pc2 := 75) (mc := 0) (ms := 0) dX8_cellar_72 cvX8_isSort mlX8_138 (isO.h (sh48 S) _) (Nat.le_of_ble_eq_true rfl) rfl ?_
    refine m_isSortF S hF ?_
    first | refine B_ifeq1 (pc2 := 78) (tgt := 85) dX8_cellar_75 (by with_reducible rfl) (by decide) rfl ?_ | refine B_ifeq0 (tgt := 85) dX8_cellar_75 (by with_reducible rfl) (by decide) ?_ | refine N_ifeq (pc2 := 78) (tgt := 85) dX8_cellar_75 (by with_reducible rfl) (by decide) (by omega) rfl (fun c75 => ?_) (fun c75 => ?_) | refine T_ifeq (pc2 := 78) (tgt := 85) dX8_cellar_75 (by decide) rfl (fun c75 => ?_) (fun c75 => ?_)
    exact hE g2 hq (Or.inr ⟨by rw [hp]; exact hF.1, Or.inl (by rw [hp]; exact hF)⟩)
  refine T_aload_n (pc2 := 6) dX8_cellar_5 rfl rfl ?_
  refine C_V0 (pc2 := 9) (mc := 0) (ms := 0) dX8_cellar_6 cvX8_begin mlX8_132 (isO.h (sh48 S) _) (Nat.le_of_ble_eq_true rfl) rfl ?_
  refine m_begin S hokT hI.2.1 (fun g2 hG2 hf2 => ?_)
  refine T_iconst (pc2 := 10) dX8_cellar_9 ic0 rfl ?_
  refine T_istore_n (pc2 := 11) dX8_cellar_10 (by decide) rfl ?_
  refine T_sub (lks (i := 0) rfl (lks (i := 1) rfl lk0)) ?_
  refine zl_loop (g := g2) S (fun g3 hz3 hf3 => ?_) 43 0 _ (by decide) (fun q hq => absurd hq (Nat.not_lt_zero q)) Fo.rf
  have hG3 := hG2.fo hf3
  have hq3 := (Fq.rf.p hf2).fo hf3
  have hV3 : hasM (g3 53) (C0 0) := ⟨hz3 0 (by decide), hz3 1 (by decide), hz3 2 (by decide), fun j hj => absurd hj (Nat.not_lt_zero j)⟩
  refine T_aload_n (pc2 := 31) dX8_cellar_30 rfl rfl ?_
  refine T_aload_n (pc2 := 32) dX8_cellar_31 rfl rfl ?_
  refine T_bipush (pc2 := 34) dX8_cellar_32 bp107 rfl ?_
  refine C_V1 (pc2 := 37) (mc := 0) (ms := 0) dX8_cellar_34 cvX8_isLetter mlX8_135 (isO.h (sh48 S) _) (Nat.le_of_ble_eq_true rfl) rfl ?_
  refine m_isLetter (c := 107) S hokT hG3 (by decide) (fun hs => ?_) (fun hs => ?_)
  · have h0 : 0 < s.sz ∧ s.tp 0 = 107 := by
      simpa [psg] using hs
    have hv := vl_ch (tp := s.tp) (sz := s.sz) (a := 0) h0.1 (by omega)
    refine C_V1 (pc2 := 40) (mc := 0) (ms := 0) dX8_cellar_37 cvX8_must mlX8_115 (isO.h (sh48 S) _) (Nat.le_of_ble_eq_true rfl) rfl ?_
    refine m_mustT S hokT hG3 (fun g4 hG4 hf4 => ?_)
    rw [hv.2] at hG4
    have hG4 : PG g4 s.tp s.sz 1 := hG4
    have hV4 : hasM (g4 53) (C0 0) := by rw [hf4.1 53 (by decide)]; exact hV3
    refine T_aload_n (pc2 := 41) dX8_cellar_40 rfl rfl ?_
    refine G_getR (pc2 := 44) dX8_cellar_41 flX8_22 (sh48 S) rfl rfl ?_
    refine T_iconst (pc2 := 45) dX8_cellar_44 ic2 rfl ?_
    refine T_aload_n (pc2 := 46) dX8_cellar_45 rfl rfl ?_
    refine T_iconst (pc2 := 47) dX8_cellar_46 ic0 rfl ?_
    refine T_bipush (pc2 := 49) dX8_cellar_47 bp8 rfl ?_
    refine C_V2 (pc2 := 52) (mc := 0) (ms := 0) dX8_cellar_49 cvX8_number mlX8_125 (isO.h (sh48 S) _) (Nat.le_of_ble_eq_true rfl) rfl ?_
    refine m_number (lo := 0) (hi := 8) S hokT hG4 (by decide) (by decide) (fun g5 hp5 hG5 hf5 => ?_) (fun g5 hp5 hF5 hf5 => ?_)
    · have hV5 : hasM (g5 53) (C0 0) := by rw [hf5.1 53 (by decide)]; exact hV4
      have hV6 : hasM (gset g5 53 2 (nI (vl s.tp s.sz 1)) 53) (C0 (vl s.tp s.sz 1)) := hV5.setR
      refine G_iast (pc2 := 53) dX8_cellar_52 (sh53 S) (by omega) (by decide) rfl ?_
      refine T_aload_n (pc2 := 54) dX8_cellar_53 rfl rfl ?_
      refine T_bipush (pc2 := 56) dX8_cellar_54 bp59 rfl ?_
      refine C_V1 (pc2 := 59) (mc := 0) (ms := 0) dX8_cellar_56 cvX8_mustSign mlX8_129 (isO.h (sh48 S) _) (Nat.le_of_ble_eq_true rfl) rfl ?_
      refine m_sign (c := 59) S hokT hG5.st (Or.inr rfl) (fun g7 hs7 hG7 hf7 => ?_) (fun g7 hs7 hF7 hf7 => ?_)
      · have hV7 : hasM (g7 53) (C0 (vl s.tp s.sz 1)) := by rw [hf7.1 53 (by decide)]; exact hV6
        have hq7 := (((hq3.p hf4).p hf5).st (k := 2) (v := nI (vl s.tp s.sz 1))).p hf7
        have hpr : pLp s.tp s.sz 9 (C0 (vl s.tp s.sz 1)) (1 + rn s.tp s.sz 1 + 1) = parse s.tp s.sz := by
          unfold parse
          rw [if_neg (by rw [hs]; decide), if_neg (fun z => z hp5), if_neg (by rw [hs7]; decide)]
        refine T_aload_n (pc2 := 60) dX8_cellar_59 rfl rfl ?_
        refine C_V0 (pc2 := 63) (mc := 0) (ms := 0) dX8_cellar_60 cvX8_isSort mlX8_138 (isO.h (sh48 S) _) (Nat.le_of_ble_eq_true rfl) rfl ?_
        refine m_isSort S hokT hG7 (fun hk => ?_) (fun hk => ?_)
        · first | refine B_ifne1 (tgt := 71) dX8_cellar_63 (by with_reducible rfl) (by decide) ?_ | refine B_ifne0 (pc2 := 66) (tgt := 71) dX8_cellar_63 (by with_reducible rfl) (by decide) rfl ?_ | refine N_ifne (pc2 := 66) (tgt := 71) dX8_cellar_63 (by with_reducible rfl) (by decide) (by omega) rfl (fun c63 => ?_) (fun c63 => ?_) | refine T_ifne (pc2 := 66) (tgt := 71) dX8_cellar_63 (by decide) rfl (fun c63 => ?_) (fun c63 => ?_)
          exact cl_loop (g := g1) S hokT (parse s.tp s.sz) hE 9 (C0 (vl s.tp s.sz 1)) (1 + rn s.tp s.sz 1 + 1) g7 (by show 0 + 9 = 9; rfl) (Nat.zero_le 8) hpr (fun _ => hk) hV7 hG7 hq7
        · first | refine B_ifne1 (tgt := 71) dX8_cellar_63 (by with_reducible rfl) (by decide) ?_ | refine B_ifne0 (pc2 := 66) (tgt := 71) dX8_cellar_63 (by with_reducible rfl) (by decide) rfl ?_ | refine N_ifne (pc2 := 66) (tgt := 71) dX8_cellar_63 (by with_reducible rfl) (by decide) (by omega) rfl (fun c63 => ?_) (fun c63 => ?_) | refine T_ifne (pc2 := 66) (tgt := 71) dX8_cellar_63 (by decide) rfl (fun c63 => ?_) (fun c63 => ?_)
          refine T_aload_n (pc2 := 67) dX8_cellar_66 rfl rfl ?_
          refine T_iconst (pc2 := 68) dX8_cellar_67 ic1 rfl ?_
          refine C_V1 (pc2 := 71) (mc := 0) (ms := 0) dX8_cellar_68 cvX8_bad mlX8_108 (isO.h (sh48 S) _) (Nat.le_of_ble_eq_true rfl) rfl ?_
          refine m_bad (f := 1) S hG7 (by decide) (by decide) (fun g8 hF8 hf8 => ?_)
          have hp8 : parse s.tp s.sz = (1, 1 + rn s.tp s.sz 1 + 1, C0 (vl s.tp s.sz 1)) := by
            have hpj : pJ s.tp s.sz (C0 (vl s.tp s.sz 1)) (1 + rn s.tp s.sz 1 + 1) = (1, 1 + rn s.tp s.sz 1 + 1, C0 (vl s.tp s.sz 1)) := if_pos hk
            rw [← hpr]
            have : pLp s.tp s.sz 9 (C0 (vl s.tp s.sz 1)) (1 + rn s.tp s.sz 1 + 1) = if (pJ s.tp s.sz (C0 (vl s.tp s.sz 1)) (1 + rn s.tp s.sz 1 + 1)).1 ≠ 0 then pJ s.tp s.sz (C0 (vl s.tp s.sz 1)) (1 + rn s.tp s.sz 1 + 1) else pLp s.tp s.sz 8 (pJ s.tp s.sz (C0 (vl s.tp s.sz 1)) (1 + rn s.tp s.sz 1 + 1)).2.2 (pJ s.tp s.sz (C0 (vl s.tp s.sz 1)) (1 + rn s.tp s.sz 1 + 1)).2.1 := if_neg (fun z => absurd z.1 (Nat.lt_irrefl 0))
            rw [hpj] at this
            rw [this]
            exact if_pos (show (1 : Nat) ≠ 0 by decide)
          refine T_aload_n (pc2 := 72) dX8_cellar_71 rfl rfl ?_
          refine C_V0 (pc2 := 75) (mc := 0) (ms := 0) dX8_cellar_72 cvX8_isSort mlX8_138 (isO.h (sh48 S) _) (Nat.le_of_ble_eq_true rfl) rfl ?_
          refine m_isSortF S hF8 ?_
          first | refine B_ifeq1 (pc2 := 78) (tgt := 85) dX8_cellar_75 (by with_reducible rfl) (by decide) rfl ?_ | refine B_ifeq0 (tgt := 85) dX8_cellar_75 (by with_reducible rfl) (by decide) ?_ | refine N_ifeq (pc2 := 78) (tgt := 85) dX8_cellar_75 (by with_reducible rfl) (by decide) (by omega) rfl (fun c75 => ?_) (fun c75 => ?_) | refine T_ifeq (pc2 := 78) (tgt := 85) dX8_cellar_75 (by decide) rfl (fun c75 => ?_) (fun c75 => ?_)
          exact hE g8 (hq7.p hf8) (Or.inr ⟨by rw [hp8]; show (1 : Nat) ≠ 0; decide, Or.inl (by rw [hp8]; exact hF8)⟩)
      · refine hF71 g7 1 (1 + rn s.tp s.sz 1) (C0 0) ?_ hF7 ((((hq3.p hf4).p hf5).st).p hf7)
        unfold parse
        rw [if_neg (by rw [hs]; decide), if_neg (fun z => z hp5), if_pos hs7]
    · refine G_iast (pc2 := 53) dX8_cellar_52 (sh53 S) (by omega) (by decide) rfl ?_
      refine T_aload_n (pc2 := 54) dX8_cellar_53 rfl rfl ?_
      refine T_bipush (pc2 := 56) dX8_cellar_54 bp59 rfl ?_
      refine C_V1 (pc2 := 59) (mc := 0) (ms := 0) dX8_cellar_56 cvX8_mustSign mlX8_129 (isO.h (sh48 S) _) (Nat.le_of_ble_eq_true rfl) rfl ?_
      refine m_signF S hF5.st ?_
      refine hF71 _ (pnc s.tp s.sz 1 0 8) 1 (C0 0) ?_ hF5.st (((hq3.p hf4).p hf5).st)
      unfold parse
      rw [if_neg (by rw [hs]; decide), if_pos hp5]
  · refine C_V1 (pc2 := 40) (mc := 0) (ms := 0) dX8_cellar_37 cvX8_must mlX8_115 (isO.h (sh48 S) _) (Nat.le_of_ble_eq_true rfl) rfl ?_
    refine m_mustN S hG3 (fun g4 hF4 hf4 => ?_)
    refine T_aload_n (pc2 := 41) dX8_cellar_40 rfl rfl ?_
    refine G_getR (pc2 := 44) dX8_cellar_41 flX8_22 (sh48 S) rfl rfl ?_
    refine T_iconst (pc2 := 45) dX8_cellar_44 ic2 rfl ?_
    refine T_aload_n (pc2 := 46) dX8_cellar_45 rfl rfl ?_
    refine T_iconst (pc2 := 47) dX8_cellar_46 ic0 rfl ?_
    refine T_bipush (pc2 := 49) dX8_cellar_47 bp8 rfl ?_
    refine C_V2 (pc2 := 52) (mc := 0) (ms := 0) dX8_cellar_49 cvX8_number mlX8_125 (isO.h (sh48 S) _) (Nat.le_of_ble_eq_true rfl) rfl ?_
    refine m_numberF (lo := 0) (hi := 8) S hF4 ?_
    refine G_iast (pc2 := 53) dX8_cellar_52 (sh53 S) (by omega) (by decide) rfl ?_
    refine T_aload_n (pc2 := 54) dX8_cellar_53 rfl rfl ?_
    refine T_bipush (pc2 := 56) dX8_cellar_54 bp59 rfl ?_
    refine C_V1 (pc2 := 59) (mc := 0) (ms := 0) dX8_cellar_56 cvX8_mustSign mlX8_129 (isO.h (sh48 S) _) (Nat.le_of_ble_eq_true rfl) rfl ?_
    refine m_signF S hF4.st ?_
    refine hF71 _ 1 0 (C0 0) ?_ hF4.st ((hq3.p hf4).st)
    unfold parse
    rw [if_pos hs]
end MCel

