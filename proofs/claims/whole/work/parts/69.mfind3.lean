/-! the model: who is alike, draws, images -/
section MFind3
variable {sk : Nat → SK} {g : Nat → Nat → Int32} {n w : Nat} {V : Cel} {Q : Option Value → SH → Prop} {d kc ks : Nat} {bf im : Nat → Option Nat} {above below : Int64} {h : SH} {s : ST}
theorem bb_loop {a b : Nat} (S : Sh sk n bf im above below) (hV : hasM (g 52) V) (hok : okD V) (hb : b < V.J) (k : ∀ g2, hasS g2 57 (sd1 (V.nt b) (V.pl b)) → Fo 57 g g2 → T MX8_breaksBy (d + 2) kc ks 47 [(0, .ref 48), (1, .int (nI a)), (2, .int (nI b))] [] (HP sk g2 n) Q) :
    ∀ m t g2, t + m = 8 → (∀ q, q < t → g2 57 q = oN (sd1 (V.nt b) (V.pl b) q)) → Fo 57 g g2 → T MX8_breaksBy (d + 2) kc ks 2 [(0, .ref 48), (1, .int (nI a)), (2, .int (nI b)), (3, .int (nI t))] [] (HP sk g2 n) Q := by
  have hJ8 := hok.1
  have ob := hok.2.2.2.1 b hb
  intro m
  induction m with
  | zero =>
    intro t g2 ht hS hf
    refine T_iload_n (pc2 := 3) dX8_breaksBy_2 rfl rfl ?_
    refine T_bipush (pc2 := 5) dX8_breaksBy_3 bp8 rfl ?_
    first | refine N_icmpge (pc2 := 8) (tgt := 47) dX8_breaksBy_5 (by decide) (by with_reducible rfl) (by with_reducible rfl) (by omega) (by omega) rfl (fun c5 => ?_) (fun c5 => ?_) | refine T_icmpge (pc2 := 8) (tgt := 47) dX8_breaksBy_5 (by decide) rfl (fun c5 => ?_) (fun c5 => ?_)
    · refine T_sub (lks (i := 0) rfl (lks (i := 1) rfl (lks (i := 2) rfl lk0))) ?_
      exact k g2 (fun q hq => hS q (by omega)) hf
    · exact absurd (by omega) c5
  | succ m ih =>
    intro t g2 ht hS hf
    have hV2 : hasM (g2 52) V := by rw [hf 52 (by decide)]; exact hV
    have eb := hV2.2.2.2 b hb
    have hx : ∀ v, (v = oN (sd1 (V.nt b) (V.pl b) t)) → ∀ q, q < t + 1 → gset g2 57 t v 57 q = oN (sd1 (V.nt b) (V.pl b) q) := fun v hv q hq => by
      by_cases e : q = t
      · subst e
        rw [gs_eq, hv]
      · rw [gs_ne _ _ (by omega)]
        exact hS q (by omega)
    refine T_iload_n (pc2 := 3) dX8_breaksBy_2 rfl rfl ?_
    refine T_bipush (pc2 := 5) dX8_breaksBy_3 bp8 rfl ?_
    first | refine N_icmpge (pc2 := 8) (tgt := 47) dX8_breaksBy_5 (by decide) (by with_reducible rfl) (by with_reducible rfl) (by omega) (by omega) rfl (fun c5 => ?_) (fun c5 => ?_) | refine T_icmpge (pc2 := 8) (tgt := 47) dX8_breaksBy_5 (by decide) rfl (fun c5 => ?_) (fun c5 => ?_)
    · exact absurd c5 (by omega)
    · refine T_aload_n (pc2 := 9) dX8_breaksBy_8 rfl rfl ?_
      refine G_getR (pc2 := 12) dX8_breaksBy_9 flX8_34 (sh48 S) rfl rfl ?_
      refine T_iload_n (pc2 := 13) dX8_breaksBy_12 rfl rfl ?_
      refine T_iload_n (pc2 := 14) dX8_breaksBy_13 rfl rfl ?_
      refine T_aload_n (pc2 := 15) dX8_breaksBy_14 rfl rfl ?_
      refine G_getR (pc2 := 18) dX8_breaksBy_15 flX8_19 (sh48 S) rfl rfl ?_
      refine T_iload_n (pc2 := 19) dX8_breaksBy_18 rfl rfl ?_
      refine T_iconst (pc2 := 20) dX8_breaksBy_19 ic3 rfl ?_
      refine C_S3 (pc2 := 23) (mc := 0) (ms := 0) dX8_breaksBy_20 csX8_of mlX8_154 (Nat.le_of_ble_eq_true rfl) rfl ?_
      refine m_of (sh52 S) (by omega) eb.2.2.2.1 ?_
      first | refine N_icmpne (pc2 := 26) (tgt := 38) dX8_breaksBy_23 (by decide) (by with_reducible rfl) (by with_reducible rfl) (by omega) (by omega) rfl (fun c23 => ?_) (fun c23 => ?_) | refine T_icmpne (pc2 := 26) (tgt := 38) dX8_breaksBy_23 (by decide) rfl (fun c23 => ?_) (fun c23 => ?_)
      · refine T_ldc (pc2 := 40) dX8_breaksBy_38 kcX8_93 rfl ?_
        refine G_iast (pc2 := 41) dX8_breaksBy_40 (sh57 S) (by omega) (by decide) rfl ?_
        first | refine N_iinc (pc2 := 44) dX8_breaksBy_41 rfl (by with_reducible rfl) ic1 (by decide) rfl ?_ | refine T_iinc (pc2 := 44) dX8_breaksBy_41 rfl rfl (by decide) rfl ?_
        refine T_goto (tgt := 2) dX8_breaksBy_44 (by decide) ?_
        refine T_sub (lks (i := 0) rfl (lks (i := 1) rfl (lks (i := 2) rfl (lks (i := 3) rfl lk0)))) ?_
        exact ih (t + 1) _ (by omega) (hx _ (by simp [sd1, c23, oN])) hf.st
      · refine T_aload_n (pc2 := 27) dX8_breaksBy_26 rfl rfl ?_
        refine G_getR (pc2 := 30) dX8_breaksBy_27 flX8_19 (sh48 S) rfl rfl ?_
        refine T_iload_n (pc2 := 31) dX8_breaksBy_30 rfl rfl ?_
        refine T_iconst (pc2 := 32) dX8_breaksBy_31 ic1 rfl ?_
        refine C_S3 (pc2 := 35) (mc := 0) (ms := 0) dX8_breaksBy_32 csX8_of mlX8_154 (Nat.le_of_ble_eq_true rfl) rfl ?_
        refine m_of (sh52 S) (by omega) eb.2.1 ?_
        refine T_goto (tgt := 40) dX8_breaksBy_35 (by decide) ?_
        refine G_iast (pc2 := 41) dX8_breaksBy_40 (sh57 S) (by omega) (by decide) rfl ?_
        first | refine N_iinc (pc2 := 44) dX8_breaksBy_41 rfl (by with_reducible rfl) ic1 (by decide) rfl ?_ | refine T_iinc (pc2 := 44) dX8_breaksBy_41 rfl rfl (by decide) rfl ?_
        refine T_goto (tgt := 2) dX8_breaksBy_44 (by decide) ?_
        refine T_sub (lks (i := 0) rfl (lks (i := 1) rfl (lks (i := 2) rfl (lks (i := 3) rfl lk0)))) ?_
        exact ih (t + 1) _ (by omega) (hx _ (by simp [sd1, c23, oN])) hf.st
theorem m_breaksBy {a b : Nat} (S : Sh sk n bf im above below) (hV : hasM (g 52) V) (hok : okD V) (ha : a < V.J) (hb : b < V.J)
    (kt : ∀ g2, Fo 57 g g2 → ((V.th 0 a && V.th 0 b) && (V.hit (V.nt b) (V.pl b) a && !V.thick a)) = true → Q (some (.int (nI 1))) (HP sk g2 n)) (kf : ∀ g2, Fo 57 g g2 → ((V.th 0 a && V.th 0 b) && (V.hit (V.nt b) (V.pl b) a && !V.thick a)) = false → Q (some (.int (nI 0))) (HP sk g2 n)) : Calls MX8_breaksBy (d + 2) 0 0 [.ref 48, .int (nI a), .int (nI b)] (HP sk g n) Q := by
  have hJ8 := hok.1
  have oa := hok.2.2.2.1 a ha
  have ob := hok.2.2.2.1 b hb
  refine Calls.of (by decide +kernel) (Nat.le_of_ble_eq_true rfl) ?_
  refine T_iconst (pc2 := 1) dX8_breaksBy_0 ic0 rfl ?_
  refine T_istore_n (pc2 := 2) dX8_breaksBy_1 (by decide) rfl ?_
  refine T_sub (lks (i := 0) rfl (lks (i := 1) rfl (lks (i := 2) rfl (lks (i := 3) rfl lk0)))) ?_
  refine bb_loop (g := g) S hV hok hb (fun g2 hS hf => ?_) 8 0 g rfl (fun q hq => absurd hq (Nat.not_lt_zero q)) Fo.rf
  have hV2 : hasM (g2 52) V := by rw [hf 52 (by decide)]; exact hV
  refine T_aload_n (pc2 := 48) dX8_breaksBy_47 rfl rfl ?_
  refine G_getR (pc2 := 51) dX8_breaksBy_48 flX8_19 (sh48 S) rfl rfl ?_
  refine T_iload_n (pc2 := 52) dX8_breaksBy_51 rfl rfl ?_
  refine T_iconst (pc2 := 53) dX8_breaksBy_52 ic4 rfl ?_
  refine C_S3 (pc2 := 56) (mc := 0) (ms := 0) dX8_breaksBy_53 csX8_of mlX8_154 (Nat.le_of_ble_eq_true rfl) rfl ?_
  refine m_of (sh52 S) (by omega) (hV2.2.2.2 a ha).2.2.2.2 ?_
  first | refine B_ifne1 (tgt := 87) dX8_breaksBy_56 (by with_reducible rfl) (by decide) ?_ | refine B_ifne0 (pc2 := 59) (tgt := 87) dX8_breaksBy_56 (by with_reducible rfl) (by decide) rfl ?_ | refine N_ifne (pc2 := 59) (tgt := 87) dX8_breaksBy_56 (by with_reducible rfl) (by decide) (by omega) rfl (fun c56 => ?_) (fun c56 => ?_) | refine T_ifne (pc2 := 59) (tgt := 87) dX8_breaksBy_56 (by decide) rfl (fun c56 => ?_) (fun c56 => ?_)
  · refine T_iconst (pc2 := 88) dX8_breaksBy_87 ic0 rfl ?_
    refine T_iret dX8_breaksBy_88 rfl (by first | rfl | decide) ?_
    exact kf g2 hf (by rw [th0 ha, decide_eq_false c56]; rfl)
  · refine T_aload_n (pc2 := 60) dX8_breaksBy_59 rfl rfl ?_
    refine G_getR (pc2 := 63) dX8_breaksBy_60 flX8_19 (sh48 S) rfl rfl ?_
    refine T_iload_n (pc2 := 64) dX8_breaksBy_63 rfl rfl ?_
    refine T_iconst (pc2 := 65) dX8_breaksBy_64 ic4 rfl ?_
    refine C_S3 (pc2 := 68) (mc := 0) (ms := 0) dX8_breaksBy_65 csX8_of mlX8_154 (Nat.le_of_ble_eq_true rfl) rfl ?_
    refine m_of (sh52 S) (by omega) (hV2.2.2.2 b hb).2.2.2.2 ?_
    first | refine B_ifne1 (tgt := 87) dX8_breaksBy_68 (by with_reducible rfl) (by decide) ?_ | refine B_ifne0 (pc2 := 71) (tgt := 87) dX8_breaksBy_68 (by with_reducible rfl) (by decide) rfl ?_ | refine N_ifne (pc2 := 71) (tgt := 87) dX8_breaksBy_68 (by with_reducible rfl) (by decide) (by omega) rfl (fun c68 => ?_) (fun c68 => ?_) | refine T_ifne (pc2 := 71) (tgt := 87) dX8_breaksBy_68 (by decide) rfl (fun c68 => ?_) (fun c68 => ?_)
    · refine T_iconst (pc2 := 88) dX8_breaksBy_87 ic0 rfl ?_
      refine T_iret dX8_breaksBy_88 rfl (by first | rfl | decide) ?_
      exact kf g2 hf (by rw [th0 hb, decide_eq_false c68, Bool.and_false]; rfl)
    · refine T_aload_n (pc2 := 72) dX8_breaksBy_71 rfl rfl ?_
      refine T_aload_n (pc2 := 73) dX8_breaksBy_72 rfl rfl ?_
      refine G_getR (pc2 := 76) dX8_breaksBy_73 flX8_19 (sh48 S) rfl rfl ?_
      refine T_iload_n (pc2 := 77) dX8_breaksBy_76 rfl rfl ?_
      refine C_V2 (pc2 := 80) (mc := 0) (ms := 0) dX8_breaksBy_77 cvX8_setsOff mlX8_171 (isO.h (sh48 S) _) (Nat.le_of_ble_eq_true rfl) rfl ?_
      refine m_setsOff S (sh52 S) hV2 hok ha hS (fun q t h => ?_) (fun hso => ?_) (fun hso => ?_)
      · unfold sd1 at h
        split at h
        · cases h; exact ob.2.2.1
        · cases h
      · first | refine B_ifeq1 (pc2 := 83) (tgt := 87) dX8_breaksBy_80 (by with_reducible rfl) (by decide) rfl ?_ | refine B_ifeq0 (tgt := 87) dX8_breaksBy_80 (by with_reducible rfl) (by decide) ?_ | refine N_ifeq (pc2 := 83) (tgt := 87) dX8_breaksBy_80 (by with_reducible rfl) (by decide) (by omega) rfl (fun c80 => ?_) (fun c80 => ?_) | refine T_ifeq (pc2 := 83) (tgt := 87) dX8_breaksBy_80 (by decide) rfl (fun c80 => ?_) (fun c80 => ?_)
        refine T_iconst (pc2 := 84) dX8_breaksBy_83 ic1 rfl ?_
        refine T_goto (tgt := 88) dX8_breaksBy_84 (by decide) ?_
        refine T_iret dX8_breaksBy_88 rfl (by first | rfl | decide) ?_
        rw [soB_one hok ob.2.2.2.2.2.1 ha] at hso
        exact kt g2 hf (by rw [hso, th0 ha, th0 hb, decide_eq_true c56, decide_eq_true c68]; rfl)
      · first | refine B_ifeq1 (pc2 := 83) (tgt := 87) dX8_breaksBy_80 (by with_reducible rfl) (by decide) rfl ?_ | refine B_ifeq0 (tgt := 87) dX8_breaksBy_80 (by with_reducible rfl) (by decide) ?_ | refine N_ifeq (pc2 := 83) (tgt := 87) dX8_breaksBy_80 (by with_reducible rfl) (by decide) (by omega) rfl (fun c80 => ?_) (fun c80 => ?_) | refine T_ifeq (pc2 := 83) (tgt := 87) dX8_breaksBy_80 (by decide) rfl (fun c80 => ?_) (fun c80 => ?_)
        refine T_iconst (pc2 := 88) dX8_breaksBy_87 ic0 rfl ?_
        refine T_iret dX8_breaksBy_88 rfl (by first | rfl | decide) ?_
        rw [soB_one hok ob.2.2.2.2.2.1 ha] at hso
        exact kf g2 hf (by rw [hso, Bool.and_false])
theorem alk_eq {V : Cel} {a b : Nat} : V.alk (V.th 0) a b = (((V.th 0 a && V.th 0 b) && (V.hit (V.nt b) (V.pl b) a && !V.thick a)) && ((V.th 0 b && V.th 0 a) && (V.hit (V.nt a) (V.pl a) b && !V.thick b))) := by
  unfold Cel.alk
  cases V.th 0 a <;> cases V.th 0 b <;> cases V.hit (V.nt b) (V.pl b) a <;> cases V.hit (V.nt a) (V.pl a) b <;> cases V.thick a <;> cases V.thick b <;> rfl
theorem al_in {a x : Nat} (S : Sh sk n bf im above below) (hV : hasM (g 52) V) (hok : okD V) (ha : a < V.J) (s0 : Nat × Option Nat) (h0 : s0.1 ≤ 10 * a)
    (k : ∀ g2, Fo 57 g g2 → T MX8_alike (d + 3) kc ks 112 [(0, .ref 48), (1, .int (nI x)), (2, .int (nI (alRow V (V.th 0) a s0 (V.J - (a + 1))).1)), (3, .int (oN (alRow V (V.th 0) a s0 (V.J - (a + 1))).2)), (4, .int (nI a))] [] (HP sk g2 n) Q) :
    ∀ m t g2, a + 1 + t + m = V.J → (alRow V (V.th 0) a s0 t).1 ≤ 10 * a + t → Fo 57 g g2 → T MX8_alike (d + 3) kc ks 53 [(0, .ref 48), (1, .int (nI x)), (2, .int (nI (alRow V (V.th 0) a s0 t).1)), (3, .int (oN (alRow V (V.th 0) a s0 t).2)), (4, .int (nI a)), (5, .int (nI (a + 1 + t)))] [] (HP sk g2 n) Q := by
  have hJ8 := hok.1
  intro m
  induction m with
  | zero =>
    intro t g2 ht hle hf
    have e : t = V.J - (a + 1) := by omega
    subst e
    have e0 : g2 52 0 = nI V.J := by rw [hf 52 (by decide)]; exact hV.1
    refine T_iload (pc2 := 55) dX8_alike_53 rfl rfl ?_
    refine T_aload_n (pc2 := 56) dX8_alike_55 rfl rfl ?_
    refine G_getR (pc2 := 59) dX8_alike_56 flX8_19 (sh48 S) rfl rfl ?_
    refine T_iconst (pc2 := 60) dX8_alike_59 ic0 rfl ?_
    refine G_iald (pc2 := 61) dX8_alike_60 (sh52 S) (by omega) (by first | decide | omega) (by first | with_reducible assumption | exact gs_eq _ _ _ _ | exact (gs_ne _ _ (by omega)).trans (by with_reducible assumption) | exact (gs_ne _ _ (by omega)).trans (gs_eq _ _ _ _) | exact (gs_ne _ _ (by omega)).trans ((gs_ne _ _ (by omega)).trans (by with_reducible assumption)) | exact (gs_ne _ _ (by omega)).trans ((gs_ne _ _ (by omega)).trans (gs_eq _ _ _ _)) | exact (gs_ne _ _ (by omega)).trans ((gs_ne _ _ (by omega)).trans ((gs_ne _ _ (by omega)).trans (by with_reducible assumption))) | rfl) rfl ?_
    first | refine N_icmpge (pc2 := 64) (tgt := 112) dX8_alike_61 (by decide) (by with_reducible rfl) (by with_reducible rfl) (by omega) (by omega) rfl (fun c61 => ?_) (fun c61 => ?_) | refine T_icmpge (pc2 := 64) (tgt := 112) dX8_alike_61 (by decide) rfl (fun c61 => ?_) (fun c61 => ?_)
    · refine T_sub (lks (i := 0) rfl (lks (i := 1) rfl (lks (i := 2) rfl (lks (i := 3) rfl (lks (i := 4) rfl lk0))))) ?_
      exact k g2 hf
    · exact absurd (by omega) c61
  | succ m ih =>
    intro t g2 ht hle hf
    have hb : a + 1 + t < V.J := by omega
    have hV2 : hasM (g2 52) V := by rw [hf 52 (by decide)]; exact hV
    have e0 := hV2.1
    have hst : alRow V (V.th 0) a s0 (t + 1) = alf V (V.th 0) a (a + 1 + t) (alRow V (V.th 0) a s0 t) := rfl
    have ih2 := fun g3 => ih (t + 1) g3 (by omega)
    rw [hst] at ih2
    generalize alRow V (V.th 0) a s0 t = z at hle ih2 ⊢
    unfold alf at ih2
    have hno : ∀ g3, Fo 57 g g3 → V.alk (V.th 0) a (a + 1 + t) = false → T MX8_alike (d + 3) kc ks 106 [(0, .ref 48), (1, .int (nI x)), (2, .int (nI z.1)), (3, .int (oN z.2)), (4, .int (nI a)), (5, .int (nI (a + 1 + t)))] [] (HP sk g3 n) Q := by
      intro g3 hf3 hk
      rw [hk, if_neg (by decide)] at ih2
      first | refine N_iinc (pc2 := 109) dX8_alike_106 rfl (by with_reducible rfl) ic1 (by decide) rfl ?_ | refine T_iinc (pc2 := 109) dX8_alike_106 rfl rfl (by decide) rfl ?_
      refine T_goto (tgt := 53) dX8_alike_109 (by decide) ?_
      refine T_sub (lks (i := 0) rfl (lks (i := 1) rfl (lks (i := 2) rfl (lks (i := 3) rfl (lks (i := 4) rfl (lks (i := 5) rfl lk0)))))) ?_
      exact ih2 g3 (by omega) hf3
    refine T_iload (pc2 := 55) dX8_alike_53 rfl rfl ?_
    refine T_aload_n (pc2 := 56) dX8_alike_55 rfl rfl ?_
    refine G_getR (pc2 := 59) dX8_alike_56 flX8_19 (sh48 S) rfl rfl ?_
    refine T_iconst (pc2 := 60) dX8_alike_59 ic0 rfl ?_
    refine G_iald (pc2 := 61) dX8_alike_60 (sh52 S) (by omega) (by first | decide | omega) (by first | with_reducible assumption | exact gs_eq _ _ _ _ | exact (gs_ne _ _ (by omega)).trans (by with_reducible assumption) | exact (gs_ne _ _ (by omega)).trans (gs_eq _ _ _ _) | exact (gs_ne _ _ (by omega)).trans ((gs_ne _ _ (by omega)).trans (by with_reducible assumption)) | exact (gs_ne _ _ (by omega)).trans ((gs_ne _ _ (by omega)).trans (gs_eq _ _ _ _)) | exact (gs_ne _ _ (by omega)).trans ((gs_ne _ _ (by omega)).trans ((gs_ne _ _ (by omega)).trans (by with_reducible assumption))) | rfl) rfl ?_
    first | refine N_icmpge (pc2 := 64) (tgt := 112) dX8_alike_61 (by decide) (by with_reducible rfl) (by with_reducible rfl) (by omega) (by omega) rfl (fun c61 => ?_) (fun c61 => ?_) | refine T_icmpge (pc2 := 64) (tgt := 112) dX8_alike_61 (by decide) rfl (fun c61 => ?_) (fun c61 => ?_)
    · exact absurd c61 (by omega)
    · refine T_aload_n (pc2 := 65) dX8_alike_64 rfl rfl ?_
      refine T_iload (pc2 := 67) dX8_alike_65 rfl rfl ?_
      refine T_iload (pc2 := 69) dX8_alike_67 rfl rfl ?_
      refine C_V2 (pc2 := 72) (mc := 0) (ms := 0) dX8_alike_69 cvX8_breaksBy mlX8_236 (isO.h (sh48 S) _) (Nat.le_of_ble_eq_true rfl) rfl ?_
      refine m_breaksBy S hV2 hok ha hb (fun g3 hf3 h1 => ?_) (fun g3 hf3 h1 => ?_)
      · have hV3 : hasM (g3 52) V := by rw [hf3 52 (by decide)]; exact hV2
        first | refine B_ifeq1 (pc2 := 75) (tgt := 106) dX8_alike_72 (by with_reducible rfl) (by decide) rfl ?_ | refine B_ifeq0 (tgt := 106) dX8_alike_72 (by with_reducible rfl) (by decide) ?_ | refine N_ifeq (pc2 := 75) (tgt := 106) dX8_alike_72 (by with_reducible rfl) (by decide) (by omega) rfl (fun c72 => ?_) (fun c72 => ?_) | refine T_ifeq (pc2 := 75) (tgt := 106) dX8_alike_72 (by decide) rfl (fun c72 => ?_) (fun c72 => ?_)
        refine T_aload_n (pc2 := 76) dX8_alike_75 rfl rfl ?_
        refine T_iload (pc2 := 78) dX8_alike_76 rfl rfl ?_
        refine T_iload (pc2 := 80) dX8_alike_78 rfl rfl ?_
        refine C_V2 (pc2 := 83) (mc := 0) (ms := 0) dX8_alike_80 cvX8_breaksBy mlX8_236 (isO.h (sh48 S) _) (Nat.le_of_ble_eq_true rfl) rfl ?_
        refine m_breaksBy S hV3 hok hb ha (fun g4 hf4 h2 => ?_) (fun g4 hf4 h2 => ?_)
        · have hk : V.alk (V.th 0) a (a + 1 + t) = true := by rw [alk_eq, h1, h2]; rfl
          have hf5 := (hf.tr hf3).tr hf4
          rw [hk, if_pos rfl] at ih2
          first | refine B_ifeq1 (pc2 := 86) (tgt := 106) dX8_alike_83 (by with_reducible rfl) (by decide) rfl ?_ | refine B_ifeq0 (tgt := 106) dX8_alike_83 (by with_reducible rfl) (by decide) ?_ | refine N_ifeq (pc2 := 86) (tgt := 106) dX8_alike_83 (by with_reducible rfl) (by decide) (by omega) rfl (fun c83 => ?_) (fun c83 => ?_) | refine T_ifeq (pc2 := 86) (tgt := 106) dX8_alike_83 (by decide) rfl (fun c83 => ?_) (fun c83 => ?_)
          refine T_iload_n (pc2 := 87) dX8_alike_86 rfl rfl ?_
          first | refine B_ifne1 (tgt := 101) dX8_alike_87 (by with_reducible rfl) (by decide) ?_ | refine B_ifne0 (pc2 := 90) (tgt := 101) dX8_alike_87 (by with_reducible rfl) (by decide) rfl ?_ | refine N_ifne (pc2 := 90) (tgt := 101) dX8_alike_87 (by with_reducible rfl) (by decide) (by omega) rfl (fun c87 => ?_) (fun c87 => ?_) | refine T_ifne (pc2 := 90) (tgt := 101) dX8_alike_87 (by decide) rfl (fun c87 => ?_) (fun c87 => ?_)
          · refine T_iload_n (pc2 := 102) dX8_alike_101 rfl rfl ?_
            refine T_istore_n (pc2 := 103) dX8_alike_102 (by decide) rfl ?_
            first | refine N_iinc (pc2 := 106) dX8_alike_103 rfl (by with_reducible rfl) ic1 (by decide) rfl ?_ | refine T_iinc (pc2 := 106) dX8_alike_103 rfl rfl (by decide) rfl ?_
            first | refine N_iinc (pc2 := 109) dX8_alike_106 rfl (by with_reducible rfl) ic1 (by decide) rfl ?_ | refine T_iinc (pc2 := 109) dX8_alike_106 rfl rfl (by decide) rfl ?_
            refine T_goto (tgt := 53) dX8_alike_109 (by decide) ?_
            refine T_sub (lks (i := 0) rfl (lks (i := 1) rfl (lks (i := 2) rfl (lks (i := 3) rfl (lks (i := 4) rfl (lks (i := 5) rfl lk0)))))) ?_
            rw [if_neg c87] at ih2
            exact ih2 g4 (by show z.1 + 1 ≤ _; omega) hf5
          · refine T_bipush (pc2 := 92) dX8_alike_90 bp10 rfl ?_
            refine T_iload (pc2 := 94) dX8_alike_92 rfl rfl ?_
            first | refine N_imul (pc2 := 95) dX8_alike_94 (by with_reducible rfl) (by with_reducible rfl) rfl ?_ | refine T_imul (pc2 := 95) dX8_alike_94 rfl ?_
            refine T_iload (pc2 := 97) dX8_alike_95 rfl rfl ?_
            first | refine N_iadd (pc2 := 98) dX8_alike_97 (by with_reducible rfl) (by with_reducible rfl) rfl ?_ | refine T_iadd (pc2 := 98) dX8_alike_97 rfl ?_
            refine T_goto (tgt := 102) dX8_alike_98 (by decide) ?_
            refine T_istore_n (pc2 := 103) dX8_alike_102 (by decide) rfl ?_
            first | refine N_iinc (pc2 := 106) dX8_alike_103 rfl (by with_reducible rfl) ic1 (by decide) rfl ?_ | refine T_iinc (pc2 := 106) dX8_alike_103 rfl rfl (by decide) rfl ?_
            first | refine N_iinc (pc2 := 109) dX8_alike_106 rfl (by with_reducible rfl) ic1 (by decide) rfl ?_ | refine T_iinc (pc2 := 109) dX8_alike_106 rfl rfl (by decide) rfl ?_
            refine T_goto (tgt := 53) dX8_alike_109 (by decide) ?_
            refine T_sub (lks (i := 0) rfl (lks (i := 1) rfl (lks (i := 2) rfl (lks (i := 3) rfl (lks (i := 4) rfl (lks (i := 5) rfl lk0)))))) ?_
            rw [if_pos c87] at ih2
            exact ih2 g4 (by show z.1 + 1 ≤ _; omega) hf5
        · first | refine B_ifeq1 (pc2 := 86) (tgt := 106) dX8_alike_83 (by with_reducible rfl) (by decide) rfl ?_ | refine B_ifeq0 (tgt := 106) dX8_alike_83 (by with_reducible rfl) (by decide) ?_ | refine N_ifeq (pc2 := 86) (tgt := 106) dX8_alike_83 (by with_reducible rfl) (by decide) (by omega) rfl (fun c83 => ?_) (fun c83 => ?_) | refine T_ifeq (pc2 := 86) (tgt := 106) dX8_alike_83 (by decide) rfl (fun c83 => ?_) (fun c83 => ?_)
          exact hno g4 ((hf.tr hf3).tr hf4) (by rw [alk_eq, h2, Bool.and_false])
      · first | refine B_ifeq1 (pc2 := 75) (tgt := 106) dX8_alike_72 (by with_reducible rfl) (by decide) rfl ?_ | refine B_ifeq0 (tgt := 106) dX8_alike_72 (by with_reducible rfl) (by decide) ?_ | refine N_ifeq (pc2 := 75) (tgt := 106) dX8_alike_72 (by with_reducible rfl) (by decide) (by omega) rfl (fun c72 => ?_) (fun c72 => ?_) | refine T_ifeq (pc2 := 75) (tgt := 106) dX8_alike_72 (by decide) rfl (fun c72 => ?_) (fun c72 => ?_)
        exact hno g3 (hf.tr hf3) (by rw [alk_eq, h1]; rfl)
theorem alRow_le {V : Cel} {w : Nat → Bool} {a : Nat} {s : Nat × Option Nat} {b : Nat} (h : s.1 ≤ b) : ∀ k, (alRow V w a s k).1 ≤ b + k
  | 0 => h
  | k + 1 => by
    have ih := alRow_le (V := V) (w := w) (a := a) h k
    have e : alRow V w a s (k + 1) = alf V w a (a + 1 + k) (alRow V w a s k) := rfl
    rw [e]
    unfold alf
    split
    · show (alRow V w a s k).1 + 1 ≤ _
      omega
    · omega
theorem al_out {x : Nat} (S : Sh sk n bf im above below) (hV : hasM (g 52) V) (hok : okD V)
    (k : ∀ g2, Fo 57 g g2 → T MX8_alike (d + 3) kc ks 118 [(1, .int (nI x)), (2, .int (nI V.al.1)), (3, .int (oN V.al.2))] [] (HP sk g2 n) Q) :
    ∀ m a g2, a + m = V.J → (itr (fun a s => alRow V (V.th 0) a s (V.J - (a + 1))) (0, none) a).1 ≤ 10 * a → Fo 57 g g2 → T MX8_alike (d + 3) kc ks 36 [(0, .ref 48), (1, .int (nI x)), (2, .int (nI (itr (fun a s => alRow V (V.th 0) a s (V.J - (a + 1))) (0, none) a).1)), (3, .int (oN (itr (fun a s => alRow V (V.th 0) a s (V.J - (a + 1))) (0, none) a).2)), (4, .int (nI a))] [] (HP sk g2 n) Q := by
  have hJ8 := hok.1
  intro m
  induction m with
  | zero =>
    intro a g2 ha hle hf
    have e : a = V.J := by omega
    subst e
    have e0 : g2 52 0 = nI V.J := by rw [hf 52 (by decide)]; exact hV.1
    refine T_iload (pc2 := 38) dX8_alike_36 rfl rfl ?_
    refine T_aload_n (pc2 := 39) dX8_alike_38 rfl rfl ?_
    refine G_getR (pc2 := 42) dX8_alike_39 flX8_19 (sh48 S) rfl rfl ?_
    refine T_iconst (pc2 := 43) dX8_alike_42 ic0 rfl ?_
    refine G_iald (pc2 := 44) dX8_alike_43 (sh52 S) (by omega) (by first | decide | omega) (by first | with_reducible assumption | exact gs_eq _ _ _ _ | exact (gs_ne _ _ (by omega)).trans (by with_reducible assumption) | exact (gs_ne _ _ (by omega)).trans (gs_eq _ _ _ _) | exact (gs_ne _ _ (by omega)).trans ((gs_ne _ _ (by omega)).trans (by with_reducible assumption)) | exact (gs_ne _ _ (by omega)).trans ((gs_ne _ _ (by omega)).trans (gs_eq _ _ _ _)) | exact (gs_ne _ _ (by omega)).trans ((gs_ne _ _ (by omega)).trans ((gs_ne _ _ (by omega)).trans (by with_reducible assumption))) | rfl) rfl ?_
    first | refine N_icmpge (pc2 := 47) (tgt := 118) dX8_alike_44 (by decide) (by with_reducible rfl) (by with_reducible rfl) (by omega) (by omega) rfl (fun c44 => ?_) (fun c44 => ?_) | refine T_icmpge (pc2 := 47) (tgt := 118) dX8_alike_44 (by decide) rfl (fun c44 => ?_) (fun c44 => ?_)
    · refine T_sub (lks (i := 1) rfl (lks (i := 2) rfl (lks (i := 3) rfl lk0))) ?_
      exact k g2 hf
    · exact absurd (by omega) c44
  | succ m ih =>
    intro a g2 ha hle hf
    have e0 : g2 52 0 = nI V.J := by rw [hf 52 (by decide)]; exact hV.1
    refine T_iload (pc2 := 38) dX8_alike_36 rfl rfl ?_
    refine T_aload_n (pc2 := 39) dX8_alike_38 rfl rfl ?_
    refine G_getR (pc2 := 42) dX8_alike_39 flX8_19 (sh48 S) rfl rfl ?_
    refine T_iconst (pc2 := 43) dX8_alike_42 ic0 rfl ?_
    refine G_iald (pc2 := 44) dX8_alike_43 (sh52 S) (by omega) (by first | decide | omega) (by first | with_reducible assumption | exact gs_eq _ _ _ _ | exact (gs_ne _ _ (by omega)).trans (by with_reducible assumption) | exact (gs_ne _ _ (by omega)).trans (gs_eq _ _ _ _) | exact (gs_ne _ _ (by omega)).trans ((gs_ne _ _ (by omega)).trans (by with_reducible assumption)) | exact (gs_ne _ _ (by omega)).trans ((gs_ne _ _ (by omega)).trans (gs_eq _ _ _ _)) | exact (gs_ne _ _ (by omega)).trans ((gs_ne _ _ (by omega)).trans ((gs_ne _ _ (by omega)).trans (by with_reducible assumption))) | rfl) rfl ?_
    first | refine N_icmpge (pc2 := 47) (tgt := 118) dX8_alike_44 (by decide) (by with_reducible rfl) (by with_reducible rfl) (by omega) (by omega) rfl (fun c44 => ?_) (fun c44 => ?_) | refine T_icmpge (pc2 := 47) (tgt := 118) dX8_alike_44 (by decide) rfl (fun c44 => ?_) (fun c44 => ?_)
    · exact absurd c44 (by omega)
    · refine T_iload (pc2 := 49) dX8_alike_47 rfl rfl ?_
      refine T_iconst (pc2 := 50) dX8_alike_49 ic1 rfl ?_
      first | refine N_iadd (pc2 := 51) dX8_alike_50 (by with_reducible rfl) (by with_reducible rfl) rfl ?_ | refine T_iadd (pc2 := 51) dX8_alike_50 rfl ?_
      refine T_istore (pc2 := 53) dX8_alike_51 (by decide) rfl ?_
      refine T_sub (lks (i := 0) rfl (lks (i := 1) rfl (lks (i := 2) rfl (lks (i := 3) rfl (lks (i := 4) rfl (lks (i := 5) rfl lk0)))))) ?_
      refine al_in (g := g) (x := x) S hV hok (by omega) (itr (fun a s => alRow V (V.th 0) a s (V.J - (a + 1))) (0, none) a) hle (fun g3 hf3 => ?_) (V.J - (a + 1)) 0 g2 (by omega) (by show (itr (fun a s => alRow V (V.th 0) a s (V.J - (a + 1))) (0, none) a).1 ≤ 10 * a + 0; omega) hf
      first | refine N_iinc (pc2 := 115) dX8_alike_112 rfl (by with_reducible rfl) ic1 (by decide) rfl ?_ | refine T_iinc (pc2 := 115) dX8_alike_112 rfl rfl (by decide) rfl ?_
      refine T_goto (tgt := 36) dX8_alike_115 (by decide) ?_
      refine T_sub (lks (i := 0) rfl (lks (i := 1) rfl (lks (i := 2) rfl (lks (i := 3) rfl (lks (i := 4) rfl lk0))))) ?_
      refine ih (a + 1) g3 (by omega) ?_ hf3
      have := alRow_le (V := V) (w := V.th 0) (a := a) hle (V.J - (a + 1))
      show (alRow V (V.th 0) a (itr (fun a s => alRow V (V.th 0) a s (V.J - (a + 1))) (0, none) a) (V.J - (a + 1))).1 ≤ _
      omega
theorem mm_alike {w : Int32} (S : Sh sk n bf im above below) (hI : InvM g s) (hok : Ok s) (k : ∀ g2, InvM g2 (sAlike s w).2 → Fr 48 62 g g2 → Q (some (.int (sAlike s w).1)) (HP sk g2 n)) : Calls MX8_alike (d + 3) 0 0 [.ref 48, .int w] (HP sk g n) Q := by
  have hokV := hok.2.2.1.1
  have hJ8 := hokV.1
  refine Calls.of (by decide +kernel) (Nat.le_of_ble_eq_true rfl) ?_
  refine T_aload_n (pc2 := 1) dX8_alike_0 rfl rfl ?_
  refine T_iconst (pc2 := 2) dX8_alike_1 ic0 rfl ?_
  refine G_putI (pc2 := 5) dX8_alike_2 flX8_50 (sh48 S) rfl rfl rfl rfl ?_
  have hI := hI.ms (Ms.rf.st (i := 48) (k := 0) (v := nI 0) (by omega))
  have k := fm_start k
  generalize gset g 48 0 (nI 0) = g1 at hI k ⊢
  have hV := hI.2.2.1
  refine T_aload_n (pc2 := 6) dX8_alike_5 rfl rfl ?_
  refine C_V0 (pc2 := 9) (mc := 0) (ms := 0) dX8_alike_6 cvX8_isThere mlX8_196 (isO.h (sh48 S) _) (Nat.le_of_ble_eq_true rfl) rfl ?_
  refine m_isThere S hV.1 hJ8 (fun h0 => ?_) (fun h0 => ?_)
  · first | refine B_ifne1 (tgt := 15) dX8_alike_9 (by with_reducible rfl) (by decide) ?_ | refine B_ifne0 (pc2 := 12) (tgt := 15) dX8_alike_9 (by with_reducible rfl) (by decide) rfl ?_ | refine N_ifne (pc2 := 12) (tgt := 15) dX8_alike_9 (by with_reducible rfl) (by decide) (by omega) rfl (fun c9 => ?_) (fun c9 => ?_) | refine T_ifne (pc2 := 12) (tgt := 15) dX8_alike_9 (by decide) rfl (fun c9 => ?_) (fun c9 => ?_)
    refine T_iload_n (pc2 := 16) dX8_alike_15 rfl rfl ?_
    refine T_i2l (pc2 := 17) dX8_alike_16 rfl ?_
    refine T_lconst (pc2 := 18) (v := lN 0) dX8_alike_17 rfl rfl ?_
    refine T_lconst (pc2 := 19) (v := lN 1) dX8_alike_18 rfl rfl ?_
    refine C_S3 (pc2 := 22) (mc := 0) (ms := 0) dX8_alike_19 csX8_in mlX8_60 (Nat.le_of_ble_eq_true rfl) rfl ?_
    refine m_inI (k := 1) rfl rfl (by decide) (by decide) (fun x hx ex => ?_) (fun hno => ?_)
    · subst ex
      have hs : sAlike s (nI x) = (if x = 0 then nI s.V.al.1 else oN s.V.al.2, s) := by
        unfold sAlike q2
        rw [if_neg (by omega), inN_some (show x < 2 by omega) (by decide)]
      first | refine B_ifne1 (tgt := 28) dX8_alike_22 (by with_reducible rfl) (by decide) ?_ | refine B_ifne0 (pc2 := 25) (tgt := 28) dX8_alike_22 (by with_reducible rfl) (by decide) rfl ?_ | refine N_ifne (pc2 := 25) (tgt := 28) dX8_alike_22 (by with_reducible rfl) (by decide) (by omega) rfl (fun c22 => ?_) (fun c22 => ?_) | refine T_ifne (pc2 := 25) (tgt := 28) dX8_alike_22 (by decide) rfl (fun c22 => ?_) (fun c22 => ?_)
      refine T_iconst (pc2 := 29) dX8_alike_28 ic0 rfl ?_
      refine T_istore_n (pc2 := 30) dX8_alike_29 (by decide) rfl ?_
      refine T_ldc (pc2 := 32) dX8_alike_30 kcX8_93 rfl ?_
      refine T_istore_n (pc2 := 33) dX8_alike_32 (by decide) rfl ?_
      refine T_iconst (pc2 := 34) dX8_alike_33 ic0 rfl ?_
      refine T_istore (pc2 := 36) dX8_alike_34 (by decide) rfl ?_
      refine T_sub (lks (i := 0) rfl (lks (i := 1) rfl (lks (i := 2) rfl (lks (i := 3) rfl (lks (i := 4) rfl lk0))))) ?_
      refine al_out (g := g1) (x := x) S hV hokV.d (fun g2 hf => ?_) s.V.J 0 g1 (by omega) (by show 0 ≤ 10 * 0; omega) Fo.rf
      refine T_iload_n (pc2 := 119) dX8_alike_118 rfl rfl ?_
      first | refine B_ifne1 (tgt := 126) dX8_alike_119 (by with_reducible rfl) (by decide) ?_ | refine B_ifne0 (pc2 := 122) (tgt := 126) dX8_alike_119 (by with_reducible rfl) (by decide) rfl ?_ | refine N_ifne (pc2 := 122) (tgt := 126) dX8_alike_119 (by with_reducible rfl) (by decide) (by omega) rfl (fun c119 => ?_) (fun c119 => ?_) | refine T_ifne (pc2 := 122) (tgt := 126) dX8_alike_119 (by decide) rfl (fun c119 => ?_) (fun c119 => ?_)
      · refine T_iload_n (pc2 := 127) dX8_alike_126 rfl rfl ?_
        refine T_iret dX8_alike_127 rfl rfl ?_
        exact fm_same k hI (hf.ms (by omega)) (by rw [hs, if_neg c119])
      · refine T_iload_n (pc2 := 123) dX8_alike_122 rfl rfl ?_
        refine T_goto (tgt := 127) dX8_alike_123 (by decide) ?_
        refine T_iret dX8_alike_127 rfl rfl ?_
        exact fm_same k hI (hf.ms (by omega)) (by rw [hs, if_pos c119])
    · first | refine B_ifne1 (tgt := 28) dX8_alike_22 (by with_reducible rfl) (by decide) ?_ | refine B_ifne0 (pc2 := 25) (tgt := 28) dX8_alike_22 (by with_reducible rfl) (by decide) rfl ?_ | refine N_ifne (pc2 := 25) (tgt := 28) dX8_alike_22 (by with_reducible rfl) (by decide) (by omega) rfl (fun c22 => ?_) (fun c22 => ?_) | refine T_ifne (pc2 := 25) (tgt := 28) dX8_alike_22 (by decide) rfl (fun c22 => ?_) (fun c22 => ?_)
      refine T_ldc (pc2 := 27) dX8_alike_25 kcX8_70 rfl ?_
      refine T_iret dX8_alike_27 rfl rfl ?_
      refine fm_same k hI Ms.rf ?_
      unfold sAlike q2
      rw [if_neg (by omega), inN_none (fun j hj => hno j (by omega))]
  · first | refine B_ifne1 (tgt := 15) dX8_alike_9 (by with_reducible rfl) (by decide) ?_ | refine B_ifne0 (pc2 := 12) (tgt := 15) dX8_alike_9 (by with_reducible rfl) (by decide) rfl ?_ | refine N_ifne (pc2 := 12) (tgt := 15) dX8_alike_9 (by with_reducible rfl) (by decide) (by omega) rfl (fun c9 => ?_) (fun c9 => ?_) | refine T_ifne (pc2 := 12) (tgt := 15) dX8_alike_9 (by decide) rfl (fun c9 => ?_) (fun c9 => ?_)
    refine T_ldc (pc2 := 14) dX8_alike_12 kcX8_199 rfl ?_
    refine T_iret dX8_alike_14 rfl rfl ?_
    exact fm_same k hI Ms.rf (if_pos h0)
theorem img_loop {q : Nat} (S : Sh sk n bf im above below) (hq : q < 2) (k : ∀ g2, (∀ i, i < 43 → g2 60 (43 * q + i) = g 52 i) → (∀ i, (i < 43 * q ∨ 43 * q + 43 ≤ i) → g2 60 i = g 60 i) → Fo 60 g g2 → Q (some (.int (nI 1))) (HP sk (gset g2 59 q (nI 1)) n)) :
    ∀ m t g2, t + m = 43 → (∀ i, i < t → g2 60 (43 * q + i) = g 52 i) → (∀ i, (i < 43 * q ∨ 43 * q + 43 ≤ i) → g2 60 i = g 60 i) → Fo 60 g g2 → T MX8_image (d + 2) kc ks 30 [(0, .ref 48), (1, .int (nI q)), (2, .int (nI t))] [] (HP sk g2 n) Q := by
  intro m
  induction m with
  | zero =>
    intro t g2 ht hc ho hf
    refine T_iload_n (pc2 := 31) dX8_image_30 rfl rfl ?_
    refine T_bipush (pc2 := 33) dX8_image_31 bp43 rfl ?_
    first | refine N_icmpge (pc2 := 36) (tgt := 59) dX8_image_33 (by decide) (by with_reducible rfl) (by with_reducible rfl) (by omega) (by omega) rfl (fun c33 => ?_) (fun c33 => ?_) | refine T_icmpge (pc2 := 36) (tgt := 59) dX8_image_33 (by decide) rfl (fun c33 => ?_) (fun c33 => ?_)
    · refine T_aload_n (pc2 := 60) dX8_image_59 rfl rfl ?_
      refine G_getR (pc2 := 63) dX8_image_60 flX8_40 (sh48 S) rfl rfl ?_
      refine T_iload_n (pc2 := 64) dX8_image_63 rfl rfl ?_
      refine T_iconst (pc2 := 65) dX8_image_64 ic1 rfl ?_
      refine G_bast (pc2 := 66) dX8_image_65 (sh59 S) (by omega) (by decide) (by first | assumption | decide) rfl ?_
      refine T_iconst (pc2 := 67) dX8_image_66 ic1 rfl ?_
      refine T_iret dX8_image_67 rfl rfl ?_
      exact k g2 (fun i hi => hc i (by omega)) ho hf
    · exact absurd (by omega) c33
  | succ m ih =>
    intro t g2 ht hc ho hf
    have e : g2 52 t = g 52 t := by rw [hf 52 (by omega)]
    refine T_iload_n (pc2 := 31) dX8_image_30 rfl rfl ?_
    refine T_bipush (pc2 := 33) dX8_image_31 bp43 rfl ?_
    first | refine N_icmpge (pc2 := 36) (tgt := 59) dX8_image_33 (by decide) (by with_reducible rfl) (by with_reducible rfl) (by omega) (by omega) rfl (fun c33 => ?_) (fun c33 => ?_) | refine T_icmpge (pc2 := 36) (tgt := 59) dX8_image_33 (by decide) rfl (fun c33 => ?_) (fun c33 => ?_)
    · exact absurd c33 (by omega)
    · refine T_aload_n (pc2 := 37) dX8_image_36 rfl rfl ?_
      refine G_getR (pc2 := 40) dX8_image_37 flX8_44 (sh48 S) rfl rfl ?_
      refine T_bipush (pc2 := 42) dX8_image_40 bp43 rfl ?_
      refine T_iload_n (pc2 := 43) dX8_image_42 rfl rfl ?_
      first | refine N_imul (pc2 := 44) dX8_image_43 (by with_reducible rfl) (by with_reducible rfl) rfl ?_ | refine T_imul (pc2 := 44) dX8_image_43 rfl ?_
      refine T_iload_n (pc2 := 45) dX8_image_44 rfl rfl ?_
      first | refine N_iadd (pc2 := 46) dX8_image_45 (by with_reducible rfl) (by with_reducible rfl) rfl ?_ | refine T_iadd (pc2 := 46) dX8_image_45 rfl ?_
      refine T_aload_n (pc2 := 47) dX8_image_46 rfl rfl ?_
      refine G_getR (pc2 := 50) dX8_image_47 flX8_19 (sh48 S) rfl rfl ?_
      refine T_iload_n (pc2 := 51) dX8_image_50 rfl rfl ?_
      refine G_iald (pc2 := 52) dX8_image_51 (sh52 S) (by omega) (by first | decide | omega) (by first | with_reducible assumption | exact gs_eq _ _ _ _ | exact (gs_ne _ _ (by omega)).trans (by with_reducible assumption) | exact (gs_ne _ _ (by omega)).trans (gs_eq _ _ _ _) | exact (gs_ne _ _ (by omega)).trans ((gs_ne _ _ (by omega)).trans (by with_reducible assumption)) | exact (gs_ne _ _ (by omega)).trans ((gs_ne _ _ (by omega)).trans (gs_eq _ _ _ _)) | exact (gs_ne _ _ (by omega)).trans ((gs_ne _ _ (by omega)).trans ((gs_ne _ _ (by omega)).trans (by with_reducible assumption))) | rfl) rfl ?_
      refine G_iast (pc2 := 53) dX8_image_52 (sh60 S) (by omega) (by decide) rfl ?_
      first | refine N_iinc (pc2 := 56) dX8_image_53 rfl (by with_reducible rfl) ic1 (by decide) rfl ?_ | refine T_iinc (pc2 := 56) dX8_image_53 rfl rfl (by decide) rfl ?_
      refine T_goto (tgt := 30) dX8_image_56 (by decide) ?_
      refine T_sub (lks (i := 0) rfl (lks (i := 1) rfl (lks (i := 2) rfl lk0))) ?_
      refine ih (t + 1) _ (by omega) (fun i hi => ?_) (fun i hi => ?_) hf.st
      · by_cases e : i = t
        · subst e
          rw [gs_eq]
        · rw [gs_ne _ _ (by omega)]
          exact hc i (by omega)
      · rw [gs_ne _ _ (by omega)]
        exact ho i hi
theorem mm_image {v : Int32} (S : Sh sk n bf im above below) (hI : InvM g s) (hok : Ok s) (k : ∀ g2, InvM g2 (sImage s v).2 → Fr 48 62 g g2 → Q (some (.int (sImage s v).1)) (HP sk g2 n)) : Calls MX8_image (d + 2) 0 0 [.ref 48, .int v] (HP sk g n) Q := by
  have hokV := hok.2.2.1.1
  have hJ8 := hokV.1
  refine Calls.of (by decide +kernel) (Nat.le_of_ble_eq_true rfl) ?_
  refine T_aload_n (pc2 := 1) dX8_image_0 rfl rfl ?_
  refine T_iconst (pc2 := 2) dX8_image_1 ic0 rfl ?_
  refine G_putI (pc2 := 5) dX8_image_2 flX8_50 (sh48 S) rfl rfl rfl rfl ?_
  have hI := hI.ms (Ms.rf.st (i := 48) (k := 0) (v := nI 0) (by omega))
  have k := fm_start k
  generalize gset g 48 0 (nI 0) = g1 at hI k ⊢
  have hV := hI.2.2.1
  refine T_iload_n (pc2 := 6) dX8_image_5 rfl rfl ?_
  refine T_i2l (pc2 := 7) dX8_image_6 rfl ?_
  refine T_lconst (pc2 := 8) (v := lN 0) dX8_image_7 rfl rfl ?_
  refine T_lconst (pc2 := 9) (v := lN 1) dX8_image_8 rfl rfl ?_
  refine C_S3 (pc2 := 12) (mc := 0) (ms := 0) dX8_image_9 csX8_in mlX8_60 (Nat.le_of_ble_eq_true rfl) rfl ?_
  refine m_inI (k := 1) rfl rfl (by decide) (by decide) (fun q hq eq => ?_) (fun hno => ?_)
  · subst eq
    have hq : q < 2 := by omega
    have hs : sImage s (nI q) = if s.V.J = 0 then (STATE, s) else (nI 1, s.setI (va_up s.I q (some s.V))) := by
      unfold sImage
      rw [inN_some hq (by decide)]
    first | refine B_ifne1 (tgt := 18) dX8_image_12 (by with_reducible rfl) (by decide) ?_ | refine B_ifne0 (pc2 := 15) (tgt := 18) dX8_image_12 (by with_reducible rfl) (by decide) rfl ?_ | refine N_ifne (pc2 := 15) (tgt := 18) dX8_image_12 (by with_reducible rfl) (by decide) (by omega) rfl (fun c12 => ?_) (fun c12 => ?_) | refine T_ifne (pc2 := 15) (tgt := 18) dX8_image_12 (by decide) rfl (fun c12 => ?_) (fun c12 => ?_)
    refine T_aload_n (pc2 := 19) dX8_image_18 rfl rfl ?_
    refine C_V0 (pc2 := 22) (mc := 0) (ms := 0) dX8_image_19 cvX8_isThere mlX8_196 (isO.h (sh48 S) _) (Nat.le_of_ble_eq_true rfl) rfl ?_
    refine m_isThere S hV.1 hJ8 (fun h0 => ?_) (fun h0 => ?_)
    · first | refine B_ifne1 (tgt := 28) dX8_image_22 (by with_reducible rfl) (by decide) ?_ | refine B_ifne0 (pc2 := 25) (tgt := 28) dX8_image_22 (by with_reducible rfl) (by decide) rfl ?_ | refine N_ifne (pc2 := 25) (tgt := 28) dX8_image_22 (by with_reducible rfl) (by decide) (by omega) rfl (fun c22 => ?_) (fun c22 => ?_) | refine T_ifne (pc2 := 25) (tgt := 28) dX8_image_22 (by decide) rfl (fun c22 => ?_) (fun c22 => ?_)
      refine T_iconst (pc2 := 29) dX8_image_28 ic0 rfl ?_
      refine T_istore_n (pc2 := 30) dX8_image_29 (by decide) rfl ?_
      refine T_sub (lks (i := 0) rfl (lks (i := 1) rfl (lks (i := 2) rfl lk0))) ?_
      refine img_loop (g := g1) S hq (fun g2 hc ho hf => ?_) 43 0 g1 rfl (fun i hi => absurd hi (Nat.not_lt_zero i)) (fun _ _ => rfl) Fo.rf
      have hrow : ∀ i, i ≠ 59 → i ≠ 60 → gset g2 59 q (nI 1) i = g1 i := fun i h1 h2 => by rw [gs_row h1, hf i h2]
      have h60 : gset g2 59 q (nI 1) 60 = g2 60 := gs_row (by decide)
      refine fm_new k ?_ (fun i hi => hrow i (by omega) (by omega)) (by rw [hs, if_neg (by omega)])
      unfold InvM hasRm at hI ⊢
      rw [hrow 48 (by decide) (by decide), hrow 49 (by decide) (by decide), hrow 50 (by decide) (by decide), hrow 51 (by decide) (by decide), hrow 52 (by decide) (by decide), hrow 55 (by decide) (by decide), hrow 56 (by decide) (by decide), hrow 61 (by decide) (by decide), h60]
      refine ⟨hI.1, hI.2.1, hI.2.2.1, hI.2.2.2.1, hI.2.2.2.2.1, hI.2.2.2.2.2.1, fun j hj => ?_, hI.2.2.2.2.2.2.2⟩
      by_cases e : j = q
      · subst e
        have e2 : va_up s.I j (some s.V) j = some s.V := by simp [va_up]
        refine ⟨fun z => ?_, fun U z => ?_⟩
        · have z : va_up s.I j (some s.V) j = none := z
          rw [e2] at z
          cases z
        · have z : va_up s.I j (some s.V) j = some U := z
          rw [e2] at z
          cases z
          exact ⟨gs_eq _ _ _ _, hV.copy (fun i hi => hc i hi) hJ8⟩
      · have e2 : va_up s.I q (some s.V) j = s.I j := by simp [va_up, e]
        have old := hI.2.2.2.2.2.2.1 j hj
        have e59 : gset g2 59 q (nI 1) 59 j = g1 59 j := by rw [gs_ne _ _ (by omega), hf 59 (by decide)]
        rw [e59]
        refine ⟨fun z => old.1 (e2.symm.trans z), fun U z => ⟨(old.2 U (e2.symm.trans z)).1, ?_⟩⟩
        have oU := hok.2.2.2.2.2.1 j U (e2.symm.trans z)
        exact (old.2 U (e2.symm.trans z)).2.copy (fun i hi => ho (43 * j + i) (by omega)) oU.1.1
    · first | refine B_ifne1 (tgt := 28) dX8_image_22 (by with_reducible rfl) (by decide) ?_ | refine B_ifne0 (pc2 := 25) (tgt := 28) dX8_image_22 (by with_reducible rfl) (by decide) rfl ?_ | refine N_ifne (pc2 := 25) (tgt := 28) dX8_image_22 (by with_reducible rfl) (by decide) (by omega) rfl (fun c22 => ?_) (fun c22 => ?_) | refine T_ifne (pc2 := 25) (tgt := 28) dX8_image_22 (by decide) rfl (fun c22 => ?_) (fun c22 => ?_)
      refine T_ldc (pc2 := 27) dX8_image_25 kcX8_199 rfl ?_
      refine T_iret dX8_image_27 rfl rfl ?_
      exact fm_same k hI Ms.rf (by rw [hs, if_pos h0])
  · first | refine B_ifne1 (tgt := 18) dX8_image_12 (by with_reducible rfl) (by decide) ?_ | refine B_ifne0 (pc2 := 15) (tgt := 18) dX8_image_12 (by with_reducible rfl) (by decide) rfl ?_ | refine N_ifne (pc2 := 15) (tgt := 18) dX8_image_12 (by with_reducible rfl) (by decide) (by omega) rfl (fun c12 => ?_) (fun c12 => ?_) | refine T_ifne (pc2 := 15) (tgt := 18) dX8_image_12 (by decide) rfl (fun c12 => ?_) (fun c12 => ?_)
    refine T_ldc (pc2 := 17) dX8_image_15 kcX8_70 rfl ?_
    refine T_iret dX8_image_17 rfl rfl ?_
    refine fm_same k hI Ms.rf ?_
    unfold sImage
    rw [inN_none (fun j hj => hno j (by omega))]
theorem rst_loop {q : Nat} (S : Sh sk n bf im above below) (hq : q < 2) (k : ∀ g2, (∀ i, i < 43 → g2 52 i = g 60 (43 * q + i)) → Fo 52 g g2 → Q (some (.int (nI 1))) (HP sk (gset g2 48 9 (nI 0)) n)) :
    ∀ m t g2, t + m = 43 → (∀ i, i < t → g2 52 i = g 60 (43 * q + i)) → Fo 52 g g2 → T MX8_restore (d + 1) kc ks 32 [(0, .ref 48), (1, .int (nI q)), (2, .int (nI t))] [] (HP sk g2 n) Q := by
  intro m
  induction m with
  | zero =>
    intro t g2 ht hc hf
    refine T_iload_n (pc2 := 33) dX8_restore_32 rfl rfl ?_
    refine T_bipush (pc2 := 35) dX8_restore_33 bp43 rfl ?_
    first | refine N_icmpge (pc2 := 38) (tgt := 61) dX8_restore_35 (by decide) (by with_reducible rfl) (by with_reducible rfl) (by omega) (by omega) rfl (fun c35 => ?_) (fun c35 => ?_) | refine T_icmpge (pc2 := 38) (tgt := 61) dX8_restore_35 (by decide) rfl (fun c35 => ?_) (fun c35 => ?_)
    · refine T_aload_n (pc2 := 62) dX8_restore_61 rfl rfl ?_
      refine T_iconst (pc2 := 63) dX8_restore_62 ic0 rfl ?_
      refine G_putI (pc2 := 66) dX8_restore_63 flX8_149 (sh48 S) rfl rfl rfl rfl ?_
      refine T_iconst (pc2 := 67) dX8_restore_66 ic1 rfl ?_
      refine T_iret dX8_restore_67 rfl rfl ?_
      exact k g2 (fun i hi => hc i (by omega)) hf
    · exact absurd (by omega) c35
  | succ m ih =>
    intro t g2 ht hc hf
    have e : g2 60 (43 * q + t) = g 60 (43 * q + t) := by rw [hf 60 (by omega)]
    refine T_iload_n (pc2 := 33) dX8_restore_32 rfl rfl ?_
    refine T_bipush (pc2 := 35) dX8_restore_33 bp43 rfl ?_
    first | refine N_icmpge (pc2 := 38) (tgt := 61) dX8_restore_35 (by decide) (by with_reducible rfl) (by with_reducible rfl) (by omega) (by omega) rfl (fun c35 => ?_) (fun c35 => ?_) | refine T_icmpge (pc2 := 38) (tgt := 61) dX8_restore_35 (by decide) rfl (fun c35 => ?_) (fun c35 => ?_)
    · exact absurd c35 (by omega)
    · refine T_aload_n (pc2 := 39) dX8_restore_38 rfl rfl ?_
      refine G_getR (pc2 := 42) dX8_restore_39 flX8_19 (sh48 S) rfl rfl ?_
      refine T_iload_n (pc2 := 43) dX8_restore_42 rfl rfl ?_
      refine T_aload_n (pc2 := 44) dX8_restore_43 rfl rfl ?_
      refine G_getR (pc2 := 47) dX8_restore_44 flX8_44 (sh48 S) rfl rfl ?_
      refine T_bipush (pc2 := 49) dX8_restore_47 bp43 rfl ?_
      refine T_iload_n (pc2 := 50) dX8_restore_49 rfl rfl ?_
      first | refine N_imul (pc2 := 51) dX8_restore_50 (by with_reducible rfl) (by with_reducible rfl) rfl ?_ | refine T_imul (pc2 := 51) dX8_restore_50 rfl ?_
      refine T_iload_n (pc2 := 52) dX8_restore_51 rfl rfl ?_
      first | refine N_iadd (pc2 := 53) dX8_restore_52 (by with_reducible rfl) (by with_reducible rfl) rfl ?_ | refine T_iadd (pc2 := 53) dX8_restore_52 rfl ?_
      refine G_iald (pc2 := 54) dX8_restore_53 (sh60 S) (by omega) (by first | decide | omega) (by first | with_reducible assumption | exact gs_eq _ _ _ _ | exact (gs_ne _ _ (by omega)).trans (by with_reducible assumption) | exact (gs_ne _ _ (by omega)).trans (gs_eq _ _ _ _) | exact (gs_ne _ _ (by omega)).trans ((gs_ne _ _ (by omega)).trans (by with_reducible assumption)) | exact (gs_ne _ _ (by omega)).trans ((gs_ne _ _ (by omega)).trans (gs_eq _ _ _ _)) | exact (gs_ne _ _ (by omega)).trans ((gs_ne _ _ (by omega)).trans ((gs_ne _ _ (by omega)).trans (by with_reducible assumption))) | rfl) rfl ?_
      refine G_iast (pc2 := 55) dX8_restore_54 (sh52 S) (by omega) (by decide) rfl ?_
      first | refine N_iinc (pc2 := 58) dX8_restore_55 rfl (by with_reducible rfl) ic1 (by decide) rfl ?_ | refine T_iinc (pc2 := 58) dX8_restore_55 rfl rfl (by decide) rfl ?_
      refine T_goto (tgt := 32) dX8_restore_58 (by decide) ?_
      refine T_sub (lks (i := 0) rfl (lks (i := 1) rfl (lks (i := 2) rfl lk0))) ?_
      refine ih (t + 1) _ (by omega) (fun i hi => ?_) hf.st
      by_cases e : i = t
      · subst e
        rw [gs_eq]
      · rw [gs_ne _ _ (by omega)]
        exact hc i (by omega)
theorem mm_restore {v : Int32} (S : Sh sk n bf im above below) (hI : InvM g s) (hok : Ok s) (k : ∀ g2, InvM g2 (sRestore s v).2 → Fr 48 62 g g2 → Q (some (.int (sRestore s v).1)) (HP sk g2 n)) : Calls MX8_restore (d + 1) 0 0 [.ref 48, .int v] (HP sk g n) Q := by
  have hokV := hok.2.2.1.1
  have hJ8 := hokV.1
  refine Calls.of (by decide +kernel) (Nat.le_of_ble_eq_true rfl) ?_
  refine T_aload_n (pc2 := 1) dX8_restore_0 rfl rfl ?_
  refine T_iconst (pc2 := 2) dX8_restore_1 ic0 rfl ?_
  refine G_putI (pc2 := 5) dX8_restore_2 flX8_50 (sh48 S) rfl rfl rfl rfl ?_
  have hI := hI.ms (Ms.rf.st (i := 48) (k := 0) (v := nI 0) (by omega))
  have k := fm_start k
  generalize gset g 48 0 (nI 0) = g1 at hI k ⊢
  have hV := hI.2.2.1
  refine T_iload_n (pc2 := 6) dX8_restore_5 rfl rfl ?_
  refine T_i2l (pc2 := 7) dX8_restore_6 rfl ?_
  refine T_lconst (pc2 := 8) (v := lN 0) dX8_restore_7 rfl rfl ?_
  refine T_lconst (pc2 := 9) (v := lN 1) dX8_restore_8 rfl rfl ?_
  refine C_S3 (pc2 := 12) (mc := 0) (ms := 0) dX8_restore_9 csX8_in mlX8_60 (Nat.le_of_ble_eq_true rfl) rfl ?_
  refine m_inI (k := 1) rfl rfl (by decide) (by decide) (fun q hq eq => ?_) (fun hno => ?_)
  · subst eq
    have hq : q < 2 := by omega
    have hs : sRestore s (nI q) = match s.I q with
        | none => (STATE, s)
        | some U => (nI 1, (s.setV U).setac s.ac 0) := by
      unfold sRestore
      rw [inN_some hq (by decide)]
      rfl
    have old := hI.2.2.2.2.2.2.1 q hq
    first | refine B_ifne1 (tgt := 18) dX8_restore_12 (by with_reducible rfl) (by decide) ?_ | refine B_ifne0 (pc2 := 15) (tgt := 18) dX8_restore_12 (by with_reducible rfl) (by decide) rfl ?_ | refine N_ifne (pc2 := 15) (tgt := 18) dX8_restore_12 (by with_reducible rfl) (by decide) (by omega) rfl (fun c12 => ?_) (fun c12 => ?_) | refine T_ifne (pc2 := 15) (tgt := 18) dX8_restore_12 (by decide) rfl (fun c12 => ?_) (fun c12 => ?_)
    cases hU : s.I q with
    | none =>
      have e59 := old.1 hU
      refine T_aload_n (pc2 := 19) dX8_restore_18 rfl rfl ?_
      refine G_getR (pc2 := 22) dX8_restore_19 flX8_40 (sh48 S) rfl rfl ?_
      refine T_iload_n (pc2 := 23) dX8_restore_22 rfl rfl ?_
      refine G_bald (pc2 := 24) dX8_restore_23 (sh59 S) (by omega) (by first | decide | omega) (by first | with_reducible assumption | exact gs_eq _ _ _ _ | exact (gs_ne _ _ (by omega)).trans (by with_reducible assumption) | exact (gs_ne _ _ (by omega)).trans (gs_eq _ _ _ _) | exact (gs_ne _ _ (by omega)).trans ((gs_ne _ _ (by omega)).trans (by with_reducible assumption)) | exact (gs_ne _ _ (by omega)).trans ((gs_ne _ _ (by omega)).trans (gs_eq _ _ _ _)) | exact (gs_ne _ _ (by omega)).trans ((gs_ne _ _ (by omega)).trans ((gs_ne _ _ (by omega)).trans (by with_reducible assumption))) | rfl) rfl ?_
      first | refine B_ifne1 (tgt := 30) dX8_restore_24 (by with_reducible rfl) (by decide) ?_ | refine B_ifne0 (pc2 := 27) (tgt := 30) dX8_restore_24 (by with_reducible rfl) (by decide) rfl ?_ | refine N_ifne (pc2 := 27) (tgt := 30) dX8_restore_24 (by with_reducible rfl) (by decide) (by omega) rfl (fun c24 => ?_) (fun c24 => ?_) | refine T_ifne (pc2 := 27) (tgt := 30) dX8_restore_24 (by decide) rfl (fun c24 => ?_) (fun c24 => ?_)
      refine T_ldc (pc2 := 29) dX8_restore_27 kcX8_199 rfl ?_
      refine T_iret dX8_restore_29 rfl rfl ?_
      exact fm_same k hI Ms.rf (by rw [hs, hU])
    | some U =>
      obtain ⟨e59, hM⟩ := old.2 U hU
      have oU := hok.2.2.2.2.2.1 q U hU
      refine T_aload_n (pc2 := 19) dX8_restore_18 rfl rfl ?_
      refine G_getR (pc2 := 22) dX8_restore_19 flX8_40 (sh48 S) rfl rfl ?_
      refine T_iload_n (pc2 := 23) dX8_restore_22 rfl rfl ?_
      refine G_bald (pc2 := 24) dX8_restore_23 (sh59 S) (by omega) (by first | decide | omega) (by first | with_reducible assumption | exact gs_eq _ _ _ _ | exact (gs_ne _ _ (by omega)).trans (by with_reducible assumption) | exact (gs_ne _ _ (by omega)).trans (gs_eq _ _ _ _) | exact (gs_ne _ _ (by omega)).trans ((gs_ne _ _ (by omega)).trans (by with_reducible assumption)) | exact (gs_ne _ _ (by omega)).trans ((gs_ne _ _ (by omega)).trans (gs_eq _ _ _ _)) | exact (gs_ne _ _ (by omega)).trans ((gs_ne _ _ (by omega)).trans ((gs_ne _ _ (by omega)).trans (by with_reducible assumption))) | rfl) rfl ?_
      first | refine B_ifne1 (tgt := 30) dX8_restore_24 (by with_reducible rfl) (by decide) ?_ | refine B_ifne0 (pc2 := 27) (tgt := 30) dX8_restore_24 (by with_reducible rfl) (by decide) rfl ?_ | refine N_ifne (pc2 := 27) (tgt := 30) dX8_restore_24 (by with_reducible rfl) (by decide) (by omega) rfl (fun c24 => ?_) (fun c24 => ?_) | refine T_ifne (pc2 := 27) (tgt := 30) dX8_restore_24 (by decide) rfl (fun c24 => ?_) (fun c24 => ?_)
      refine T_iconst (pc2 := 31) dX8_restore_30 ic0 rfl ?_
      refine T_istore_n (pc2 := 32) dX8_restore_31 (by decide) rfl ?_
      refine T_sub (lks (i := 0) rfl (lks (i := 1) rfl (lks (i := 2) rfl lk0))) ?_
      refine rst_loop (g := g1) S hq (fun g2 hc hf => ?_) 43 0 g1 rfl (fun i hi => absurd hi (Nat.not_lt_zero i)) Fo.rf
      have hrow : ∀ i, i ≠ 48 → i ≠ 52 → gset g2 48 9 (nI 0) i = g1 i := fun i h1 h2 => by rw [gs_row h1, hf i h2]
      have h52 : gset g2 48 9 (nI 0) 52 = g2 52 := gs_row (by decide)
      have h48 : ∀ q, q ≠ 9 → gset g2 48 9 (nI 0) 48 q = g1 48 q := fun q hq => by rw [gs_ne _ _ (by omega), hf 48 (by decide)]
      refine fm_new k ?_ (fun i hi => hrow i (by omega) (by omega)) (by rw [hs, hU])
      unfold InvM hasRm at hI ⊢
      rw [hrow 49 (by decide) (by decide), hrow 50 (by decide) (by decide), hrow 51 (by decide) (by decide), hrow 55 (by decide) (by decide), hrow 56 (by decide) (by decide), hrow 59 (by decide) (by decide), hrow 60 (by decide) (by decide), hrow 61 (by decide) (by decide), h48 1 (by decide), h48 11 (by decide), h48 18 (by decide), h48 27 (by decide), h52]
      exact ⟨hI.1, hI.2.1, hM.copy (fun i hi => hc i hi) oU.1.1, gs_eq _ _ _ _, fun i hi => absurd hi (Nat.not_lt_zero i), hI.2.2.2.2.2.1, hI.2.2.2.2.2.2⟩
  · first | refine B_ifne1 (tgt := 18) dX8_restore_12 (by with_reducible rfl) (by decide) ?_ | refine B_ifne0 (pc2 := 15) (tgt := 18) dX8_restore_12 (by with_reducible rfl) (by decide) rfl ?_ | refine N_ifne (pc2 := 15) (tgt := 18) dX8_restore_12 (by with_reducible rfl) (by decide) (by omega) rfl (fun c12 => ?_) (fun c12 => ?_) | refine T_ifne (pc2 := 15) (tgt := 18) dX8_restore_12 (by decide) rfl (fun c12 => ?_) (fun c12 => ?_)
    refine T_ldc (pc2 := 17) dX8_restore_15 kcX8_70 rfl ?_
    refine T_iret dX8_restore_17 rfl rfl ?_
    refine fm_same k hI Ms.rf ?_
    unfold sRestore
    rw [inN_none (fun j hj => hno j (by omega))]
end MFind3

