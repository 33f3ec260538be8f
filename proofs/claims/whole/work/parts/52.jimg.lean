/-! the class's calls: years, images -/
def sImage (s : ST) (k : Int32) : Int32 × ST := match inN k 2 with
  | none => (BAD, s)
  | some k => if s.V.J = 0 then (STATE, s) else (nI 1, s.setI (va_up s.I k (some s.V)))
def sRestore (s : ST) (k : Int32) : Int32 × ST := match inN k 2 with
  | none => (BAD, s)
  | some k => match s.I k with
    | none => (STATE, s)
    | some U => (nI 1, (s.setV U).setac s.ac 0)
theorem Ok.keep {s : ST} (h : Ok s) : Ok s.keep := by
  obtain ⟨h1, h2, h3, h4, h5, h6, h7, h8, h9⟩ := h
  refine ⟨h1, h2, h3, Nat.min_le_right _ _, fun i hi => ?_, h6, h7, h8, h9⟩
  have hi : i < min (s.an + 1) 24 := hi
  cases i with
  | zero => exact h3
  | succ i => exact h5 i (by omega)
theorem Ok.setV {s : ST} {U : Cel} (h : Ok s) (hU : okV U) : Ok (s.setV U) := ⟨h.1, h.2.1, hU, h.2.2.2⟩
theorem years_ok {s : ST} (h : Ok s) : ∀ m, s.V.Y + m ≤ 999 → Ok (itr yrf s m) ∧ (itr yrf s m).V.Y = s.V.Y + m ∧ (itr yrf s m).V.J = s.V.J := by
  intro m
  induction m with
  | zero => intro _; exact ⟨h, rfl, rfl⟩
  | succ m ih =>
    intro hm
    obtain ⟨h1, h2, h3⟩ := ih (by omega)
    have hst : itr yrf s (m + 1) = yrf m (itr yrf s m) := rfl
    rw [hst]
    generalize itr yrf s m = z at h1 h2 h3
    refine ⟨h1.keep.setV ⟨h1.2.2.1.1.age (by omega), ?_⟩, ?_, h3⟩
    · show z.V.Y + 1 ≤ 999
      omega
    · show z.V.Y + 1 = _
      omega
section JImg
variable {sk : Nat → SK} {g : Nat → Nat → Int32} {n : Nat} {Q : Option Value → SH → Prop} {d kc ks : Nat} {bf im : Nat → Option Nat} {above below : Int64} {nx : Nat} {s : ST}
theorem years_loop {mm : Nat} (hok : Ok s) (hY : s.V.Y + mm ≤ 999) (hmm : mm ≤ 24) (k : ∀ sk2 g2 n2, InvJ sk2 g2 n2 (itr yrf s mm) → FrJ sk g sk2 g2 → Q (some (.int (nI (bm ((itr yrf s mm).V.th 0) 8)))) (HP sk2 g2 n2)) :
    ∀ m t kc ks sk2 g2 n2 bf2 nx2, t + m = mm → 6 * m ≤ kc → 48 * m ≤ ks → JJ sk2 g2 n2 bf2 im above below nx2 (itr yrf s t) → FrJ sk g sk2 g2 → T MX7_years (d + 3) kc ks 43 [(0, .ref 4), (1, .int (nI mm)), (2, .int (nI t))] [] (HP sk2 g2 n2) Q := by
  intro m
  induction m with
  | zero =>
    intro t kc ks sk2 g2 n2 bf2 nx2 ht _ _ hI hf
    have S := hI.1
    have o := (years_ok hok t (by omega)).1
    refine T_iload_n (pc2 := 44) dX7_years_43 rfl rfl ?_
    refine T_iload_n (pc2 := 45) dX7_years_44 rfl rfl ?_
    first | refine N_icmpge (pc2 := 48) (tgt := 72) dX7_years_45 (by decide) (by with_reducible rfl) (by with_reducible rfl) (by omega) (by omega) rfl (fun c45 => ?_) (fun c45 => ?_) | refine T_icmpge (pc2 := 48) (tgt := 72) dX7_years_45 (by decide) rfl (fun c45 => ?_) (fun c45 => ?_)
    · refine T_aload_n (pc2 := 73) dX7_years_72 rfl rfl ?_
      refine G_getR (pc2 := 76) dX7_years_73 flX7_26 (sh4 S) rfl rfl ?_
      refine T_iconst (pc2 := 77) dX7_years_76 ic0 rfl ?_
      refine C_V1 (pc2 := 80) (mc := 0) (ms := 0) dX7_years_77 cvX2_those mlX7_159 (isO.h (sc20 S).1 _) (Nat.le_of_ble_eq_true rfl) rfl ?_
      have e : t = mm := by omega
      subst e
      refine c_those (sc20 S) hI.2.2.2.2.2.1 o.2.2.1.1.1 (by decide) (fun i hi => ?_) ?_
      · have := (o.2.2.1.1.2.2.2.1 i hi).2.2.2.2.2.2
        omega
      · refine T_iret dX7_years_80 rfl rfl ?_
        exact k _ _ _ ⟨_, _, _, _, _, hI⟩ hf
    · omega
  | succ m ih =>
    intro t kc ks sk2 g2 n2 bf2 nx2 ht hkc hks hI hf
    have S := hI.1
    have o := (years_ok hok t (by omega)).1
    refine T.more (kc := 6 * m + 6) (ks := 48 * m + 48) ?_ (by omega) (by omega)
    refine T_iload_n (pc2 := 44) dX7_years_43 rfl rfl ?_
    refine T_iload_n (pc2 := 45) dX7_years_44 rfl rfl ?_
    first | refine N_icmpge (pc2 := 48) (tgt := 72) dX7_years_45 (by decide) (by with_reducible rfl) (by with_reducible rfl) (by omega) (by omega) rfl (fun c45 => ?_) (fun c45 => ?_) | refine T_icmpge (pc2 := 48) (tgt := 72) dX7_years_45 (by decide) rfl (fun c45 => ?_) (fun c45 => ?_)
    · omega
    · refine T_aload_n (pc2 := 49) dX7_years_48 rfl rfl ?_
      refine G_getR (pc2 := 52) dX7_years_49 flX7_36 (sh4 S) rfl rfl ?_
      refine T_aload_n (pc2 := 53) dX7_years_52 rfl rfl ?_
      refine G_getR (pc2 := 56) dX7_years_53 flX7_26 (sh4 S) rfl rfl ?_
      refine C_V1 (pc2 := 59) (mc := 6) (ms := 48) dX7_years_56 cvX0_keep mlX7_153 (isO.h (sh32 S) _) (Nat.le_of_ble_eq_true rfl) rfl ?_
      refine j_keep hI o.2.2.1.1 o.2.2.2.1 (fun sk3 g3 n3 bf3 hI3 hf3 => ?_)
      have S := hI3.1
      refine T_aload_n (pc2 := 60) dX7_years_59 rfl rfl ?_
      refine G_getR (pc2 := 63) dX7_years_60 flX7_26 (sh4 S) rfl rfl ?_
      refine C_V0 (pc2 := 66) (mc := 0) (ms := 0) dX7_years_63 cvX2_age mlX7_156 (isO.h (sc20 S).1 _) (Nat.le_of_ble_eq_true rfl) rfl ?_
      refine c_age (sc20 S) hI3.2.2.2.2.2.1 o.2.2.1.1 (fun g4 hV4 hf4 => ?_)
      first | refine N_iinc (pc2 := 69) dX7_years_66 rfl (by with_reducible rfl) ic1 (by decide) rfl ?_ | refine T_iinc (pc2 := 69) dX7_years_66 rfl rfl (by decide) rfl ?_
      refine T_goto (tgt := 43) dX7_years_69 (by decide) ?_
      refine T_sub (lks (i := 0) rfl (lks (i := 1) rfl (lks (i := 2) rfl lk0))) ?_
      refine ih (t + 1) (6 * m) (48 * m) sk3 g4 n3 bf3 _ (by omega) (Nat.le_refl _) (Nat.le_refl _) (hI3.cel hV4 hf4) ((hf.tr hf3).tr (FrJ.of hf4 (by decide) (by decide)))
theorem j_years {m : Int32} (hI : JJ sk g n bf im above below nx s) (hok : Ok s) (k : ∀ sk2 g2 n2, InvJ sk2 g2 n2 (sYears s m).2 → FrJ sk g sk2 g2 → Q (some (.int (sYears s m).1)) (HP sk2 g2 n2)) : Calls MX7_years (d + 3) 144 1152 [.ref 4, .int m] (HP sk g n) Q := by
  have S := hI.1
  have hV := hI.2.2.2.2.2.1
  have hokV := hok.2.2.1.1
  have hJ8 := hokV.1
  have hY9 := hok.2.2.1.2
  have eY := hV.2.1
  refine Calls.of (by decide +kernel) (Nat.le_of_ble_eq_true rfl) ?_
  refine T_aload_n (pc2 := 1) dX7_years_0 rfl rfl ?_
  refine C_V0 (pc2 := 4) (mc := 0) (ms := 0) dX7_years_1 cvX7_noCellar mlX7_146 (isO.h (sh4 S) _) (Nat.le_of_ble_eq_true rfl) rfl ?_
  refine c_noCellar S hV.1 hokV.1 (fun h0 => ?_) (fun h0 => ?_)
  · first | refine B_ifeq1 (pc2 := 7) (tgt := 10) dX7_years_4 (by with_reducible rfl) (by decide) rfl ?_ | refine B_ifeq0 (tgt := 10) dX7_years_4 (by with_reducible rfl) (by decide) ?_ | refine N_ifeq (pc2 := 7) (tgt := 10) dX7_years_4 (by with_reducible rfl) (by decide) (by omega) rfl (fun c4 => ?_) (fun c4 => ?_) | refine T_ifeq (pc2 := 7) (tgt := 10) dX7_years_4 (by decide) rfl (fun c4 => ?_) (fun c4 => ?_)
    refine T_ldc (pc2 := 9) dX7_years_7 kcX7_145 rfl ?_
    refine T_iret dX7_years_9 rfl rfl ?_
    exact fin_same k hI (if_pos h0)
  · first | refine B_ifeq1 (pc2 := 7) (tgt := 10) dX7_years_4 (by with_reducible rfl) (by decide) rfl ?_ | refine B_ifeq0 (tgt := 10) dX7_years_4 (by with_reducible rfl) (by decide) ?_ | refine N_ifeq (pc2 := 7) (tgt := 10) dX7_years_4 (by with_reducible rfl) (by decide) (by omega) rfl (fun c4 => ?_) (fun c4 => ?_) | refine T_ifeq (pc2 := 7) (tgt := 10) dX7_years_4 (by decide) rfl (fun c4 => ?_) (fun c4 => ?_)
    refine T_iload_n (pc2 := 11) dX7_years_10 rfl rfl ?_
    refine T_iconst (pc2 := 12) dX7_years_11 ic1 rfl ?_
    refine T_bipush (pc2 := 14) dX7_years_12 bp24 rfl ?_
    refine C_S3 (pc2 := 17) (mc := 0) (ms := 0) dX7_years_14 csX7_within mlX7_62 (Nat.le_of_ble_eq_true rfl) rfl ?_
    refine c_within (fun h1 h2 => ?_) (fun hno => ?_)
    · obtain ⟨yy, hyy, e⟩ := nI_of2 (x := m) (M := nI 24) (n := 24) (nI_toInt (by decide)) (Int32.not_lt.mpr (Int32.le_trans (by decide) h1)) h2
      subst e
      have h1 : 1 ≤ yy := (nI_leI (by decide) (by omega)).mp h1
      obtain ⟨z, rfl⟩ : ∃ z, yy = z + 1 := ⟨yy - 1, by omega⟩
      have hs : sYears s (nI (z + 1)) = if 999 < s.V.Y + (z + 1) then (FULL, s) else (nI (bm ((itr yrf s (z + 1)).V.th 0) 8), itr yrf s (z + 1)) := by
        unfold sYears
        rw [if_neg (by omega), inN_some (show z + 1 < 25 by omega) (by decide)]
        rfl
      first | refine B_ifne1 (tgt := 23) dX7_years_17 (by with_reducible rfl) (by decide) ?_ | refine B_ifne0 (pc2 := 20) (tgt := 23) dX7_years_17 (by with_reducible rfl) (by decide) rfl ?_ | refine N_ifne (pc2 := 20) (tgt := 23) dX7_years_17 (by with_reducible rfl) (by decide) (by omega) rfl (fun c17 => ?_) (fun c17 => ?_) | refine T_ifne (pc2 := 20) (tgt := 23) dX7_years_17 (by decide) rfl (fun c17 => ?_) (fun c17 => ?_)
      refine T_aload_n (pc2 := 24) dX7_years_23 rfl rfl ?_
      refine G_getR (pc2 := 27) dX7_years_24 flX7_26 (sh4 S) rfl rfl ?_
      refine G_getI (pc2 := 30) dX7_years_27 flX7_150 (sc20 S).1 rfl (by first | with_reducible assumption | exact gs_eq _ _ _ _ | exact (gs_ne _ _ (by omega)).trans (by with_reducible assumption) | exact (gs_ne _ _ (by omega)).trans (gs_eq _ _ _ _) | exact (gs_ne _ _ (by omega)).trans ((gs_ne _ _ (by omega)).trans (by with_reducible assumption)) | exact (gs_ne _ _ (by omega)).trans ((gs_ne _ _ (by omega)).trans (gs_eq _ _ _ _)) | exact (gs_ne _ _ (by omega)).trans ((gs_ne _ _ (by omega)).trans ((gs_ne _ _ (by omega)).trans (by with_reducible assumption))) | rfl) rfl ?_
      refine T_iload_n (pc2 := 31) dX7_years_30 rfl rfl ?_
      first | refine N_iadd (pc2 := 32) dX7_years_31 (by with_reducible rfl) (by with_reducible rfl) rfl ?_ | refine T_iadd (pc2 := 32) dX7_years_31 rfl ?_
      refine T_sipush (pc2 := 35) dX7_years_32 sp999 rfl ?_
      first | refine N_icmple (pc2 := 38) (tgt := 41) dX7_years_35 (by decide) (by with_reducible rfl) (by with_reducible rfl) (by omega) (by omega) rfl (fun c35 => ?_) (fun c35 => ?_) | refine T_icmple (pc2 := 38) (tgt := 41) dX7_years_35 (by decide) rfl (fun c35 => ?_) (fun c35 => ?_)
      · refine T_iconst (pc2 := 42) dX7_years_41 ic0 rfl ?_
        refine T_istore_n (pc2 := 43) dX7_years_42 (by decide) rfl ?_
        rw [hs, if_neg (by omega)] at k
        refine T_sub (lks (i := 0) rfl (lks (i := 1) rfl (lks (i := 2) rfl lk0))) ?_
        exact years_loop hok (by omega) (by omega) k (z + 1) 0 144 1152 sk g n bf nx (by omega) (by omega) (by omega) hI FrJ.rf
      · refine T_ldc (pc2 := 40) dX7_years_38 kcX7_116 rfl ?_
        refine T_iret dX7_years_40 rfl rfl ?_
        exact fin_same k hI (by rw [hs, if_pos (by omega)])
    · first | refine B_ifne1 (tgt := 23) dX7_years_17 (by with_reducible rfl) (by decide) ?_ | refine B_ifne0 (pc2 := 20) (tgt := 23) dX7_years_17 (by with_reducible rfl) (by decide) rfl ?_ | refine N_ifne (pc2 := 20) (tgt := 23) dX7_years_17 (by with_reducible rfl) (by decide) (by omega) rfl (fun c17 => ?_) (fun c17 => ?_) | refine T_ifne (pc2 := 20) (tgt := 23) dX7_years_17 (by decide) rfl (fun c17 => ?_) (fun c17 => ?_)
      refine T_ldc (pc2 := 22) dX7_years_20 kcX7_66 rfl ?_
      refine T_iret dX7_years_22 rfl rfl ?_
      refine fin_same k hI ?_
      unfold sYears
      rw [if_neg (by omega)]
      cases q : inN m 25 with
      | none => rfl
      | some w =>
        cases w with
        | zero => rfl
        | succ w =>
          have := inN_of q
          exact absurd ⟨by rw [this.2]; exact nI_le (by omega) (by omega), by rw [this.2]; exact nI_le (by omega) (by decide)⟩ hno
theorem img_tail {q b : Nat} {sk0 : Nat → SK} {g0 : Nat → Nat → Int32} (hq : q < 2) (S : Sh sk n bf im above below) (h2 : Dyn sk n bf im) (h3 : stat g) (h4 : hasR g s.A) (h5 : hasT g s.tp s.sz) (h6 : hasC g 20 s.V) (h7 : g 32 1 = nI nx ∧ nx < 24 ∧ g 32 2 = nI s.an) (h8 : hasActs g bf s.ac s.an nx) (h9 : hasTr g s.tr) (h10 : ∀ j, j < 2 → j ≠ q → (s.I j = none → im j = none) ∧ ∀ U, s.I j = some U → ∃ b, im j = some b ∧ hasC g b U) (h11 : g 4 8 = nI s.lf) (h12 : g 4 9 = nI s.fd) (hok : okC s.V) (hb : im q = some b) (hf0 : FrJ sk0 g0 sk g)
    (k : ∀ sk2 g2 n2, InvJ sk2 g2 n2 (s.setI (va_up s.I q (some s.V))) → FrJ sk0 g0 sk2 g2 → Q (some (.int (nI 1))) (HP sk2 g2 n2)) :
    T MX7_image (d + 1) kc ks 44 [(0, .ref 4), (1, .int (nI q))] [] (HP sk g n) Q := by
  obtain ⟨T0, hT, hB, hI, hBi, hIi, hBI⟩ := id h2
  obtain ⟨t, ht, hbt, hcb⟩ := hI q b hb
  have hz := hcb.1
  refine T_aload_n (pc2 := 45) dX7_image_44 rfl rfl ?_
  refine G_getR (pc2 := 48) dX7_image_45 flX7_54 (sh4 S) rfl rfl ?_
  refine T_iload_n (pc2 := 49) dX7_image_48 rfl rfl ?_
  refine G_aald (pc2 := 50) dX7_image_49 (sh47 S) rfl (by omega) (by decide) (by first | with_reducible assumption | rfl) rfl ?_
  refine T_aload_n (pc2 := 51) dX7_image_50 rfl rfl ?_
  refine G_getR (pc2 := 54) dX7_image_51 flX7_26 (sh4 S) rfl rfl ?_
  refine C_V1 (pc2 := 57) (mc := 0) (ms := 0) dX7_image_54 cvX2_become mlX7_131 (isO.h hz _) (Nat.le_of_ble_eq_true rfl) rfl ?_
  refine c_become hcb (sc20 S) (by omega) h6 hok.1 (fun g2 hV2 hf => ?_)
  refine T_iconst (pc2 := 58) dX7_image_57 ic1 rfl ?_
  refine T_iret dX7_image_58 rfl rfl ?_
  refine k sk g2 n ⟨bf, im, above, below, nx, S, h2, h3.cg (fun i _ _ => hf i (by omega)), h4.cg (fun i _ _ => hf i (by omega)), h5.cg (fun i _ _ => hf i (by omega)), h6.cg (fun i _ _ => hf i (by omega)), by rw [hf 32 (by omega)]; exact h7, fun i hi => ?_, h9.cg (fun i _ _ => hf i (by omega)), fun j hj => ?_, by rw [hf 4 (by omega)]; exact h11, by rw [hf 4 (by omega)]; exact h12⟩ (hf0.tr ⟨rfl, fun i hi => hf i (by omega)⟩)
  · obtain ⟨b2, q1, q2⟩ := h8 i hi
    obtain ⟨t2, ht2, hbt2, -⟩ := hB _ b2 q1
    have hdiff : b2 ≠ b := fun e => hBI _ q b (by rw [← e]; exact q1) hb
    exact ⟨b2, q1, q2.cg (fun i _ _ => hf i (by omega))⟩
  · by_cases e : j = q
    · subst e
      have e2 : va_up s.I j (some s.V) j = some s.V := by simp [va_up]
      refine ⟨fun z => ?_, fun U z => ?_⟩
      · have z : va_up s.I j (some s.V) j = none := z
        rw [e2] at z
        cases z
      · have z : va_up s.I j (some s.V) j = some U := z
        rw [e2] at z
        cases z
        exact ⟨b, hb, hV2⟩
    · have e2 : va_up s.I q (some s.V) j = s.I j := by simp [va_up, e]
      refine ⟨fun z => (h10 j hj e).1 (e2.symm.trans z), fun U z => ?_⟩
      obtain ⟨b2, q1, q2⟩ := (h10 j hj e).2 U (e2.symm.trans z)
      obtain ⟨t2, ht2, hbt2, -⟩ := hI _ b2 q1
      have hdiff : b2 ≠ b := fun e3 => e (hIi j q b (by rw [← e3]; exact q1) hb)
      exact ⟨b2, q1, q2.cg (fun i _ _ => hf i (by omega))⟩
theorem j_image {v : Int32} (hI : JJ sk g n bf im above below nx s) (hok : Ok s) (k : ∀ sk2 g2 n2, InvJ sk2 g2 n2 (sImage s v).2 → FrJ sk g sk2 g2 → Q (some (.int (sImage s v).1)) (HP sk2 g2 n2)) : Calls MX7_image (d + 2) 6 48 [.ref 4, .int v] (HP sk g n) Q := by
  have S := hI.1
  have hV := hI.2.2.2.2.2.1
  have hokV := hok.2.2.1.1
  have hJ8 := hokV.1
  refine Calls.of (by decide +kernel) (Nat.le_of_ble_eq_true rfl) ?_
  refine T_iload_n (pc2 := 1) dX7_image_0 rfl rfl ?_
  refine T_iconst (pc2 := 2) dX7_image_1 ic0 rfl ?_
  refine T_iconst (pc2 := 3) dX7_image_2 ic1 rfl ?_
  refine C_S3 (pc2 := 6) (mc := 0) (ms := 0) dX7_image_3 csX7_within mlX7_62 (Nat.le_of_ble_eq_true rfl) rfl ?_
  refine c_withinI (by decide) (fun q hq eq => ?_) (fun hno => ?_)
  · subst eq
    have hq : q < 2 := by omega
    have hs : sImage s (nI q) = if s.V.J = 0 then (STATE, s) else (nI 1, s.setI (va_up s.I q (some s.V))) := by
      unfold sImage
      rw [inN_some hq (by decide)]
    first | refine B_ifne1 (tgt := 12) dX7_image_6 (by with_reducible rfl) (by decide) ?_ | refine B_ifne0 (pc2 := 9) (tgt := 12) dX7_image_6 (by with_reducible rfl) (by decide) rfl ?_ | refine N_ifne (pc2 := 9) (tgt := 12) dX7_image_6 (by with_reducible rfl) (by decide) (by omega) rfl (fun c6 => ?_) (fun c6 => ?_) | refine T_ifne (pc2 := 9) (tgt := 12) dX7_image_6 (by decide) rfl (fun c6 => ?_) (fun c6 => ?_)
    refine T_aload_n (pc2 := 13) dX7_image_12 rfl rfl ?_
    refine C_V0 (pc2 := 16) (mc := 0) (ms := 0) dX7_image_13 cvX7_noCellar mlX7_146 (isO.h (sh4 S) _) (Nat.le_of_ble_eq_true rfl) rfl ?_
    refine c_noCellar S hV.1 hokV.1 (fun h0 => ?_) (fun h0 => ?_)
    · first | refine B_ifeq1 (pc2 := 19) (tgt := 22) dX7_image_16 (by with_reducible rfl) (by decide) rfl ?_ | refine B_ifeq0 (tgt := 22) dX7_image_16 (by with_reducible rfl) (by decide) ?_ | refine N_ifeq (pc2 := 19) (tgt := 22) dX7_image_16 (by with_reducible rfl) (by decide) (by omega) rfl (fun c16 => ?_) (fun c16 => ?_) | refine T_ifeq (pc2 := 19) (tgt := 22) dX7_image_16 (by decide) rfl (fun c16 => ?_) (fun c16 => ?_)
      refine T_ldc (pc2 := 21) dX7_image_19 kcX7_145 rfl ?_
      refine T_iret dX7_image_21 rfl rfl ?_
      exact fin_same k hI (by rw [hs, if_pos h0])
    · first | refine B_ifeq1 (pc2 := 19) (tgt := 22) dX7_image_16 (by with_reducible rfl) (by decide) rfl ?_ | refine B_ifeq0 (tgt := 22) dX7_image_16 (by with_reducible rfl) (by decide) ?_ | refine N_ifeq (pc2 := 19) (tgt := 22) dX7_image_16 (by with_reducible rfl) (by decide) (by omega) rfl (fun c16 => ?_) (fun c16 => ?_) | refine T_ifeq (pc2 := 19) (tgt := 22) dX7_image_16 (by decide) rfl (fun c16 => ?_) (fun c16 => ?_)
      rw [hs, if_neg (by omega)] at k
      obtain ⟨h1, h2, h3, h4, h5, h6, h7, h8, h9, h10, h11, h12⟩ := id hI
      cases hb : im q with
      | some b =>
        refine T_aload_n (pc2 := 23) dX7_image_22 rfl rfl ?_
        refine G_getR (pc2 := 26) dX7_image_23 flX7_54 (sh4 S) rfl rfl ?_
        refine T_iload_n (pc2 := 27) dX7_image_26 rfl rfl ?_
        refine G_aald (pc2 := 28) dX7_image_27 (sh47 S) rfl (by omega) (by decide) (by first | with_reducible assumption | rfl) rfl ?_
        refine T_ifnonnull (pc2 := 31) (tgt := 44) dX7_image_28 (by decide) rfl (fun i28 e28 => ?_) (fun e28 => ?_)
        · exact img_tail hq S h2 h3 h4 h5 h6 h7 h8 h9 (fun j hj _ => h10 j hj) h11 h12 hokV hb FrJ.rf k
        · cases e28
      | none =>
        refine T_aload_n (pc2 := 23) dX7_image_22 rfl rfl ?_
        refine G_getR (pc2 := 26) dX7_image_23 flX7_54 (sh4 S) rfl rfl ?_
        refine T_iload_n (pc2 := 27) dX7_image_26 rfl rfl ?_
        refine G_aald (pc2 := 28) dX7_image_27 (sh47 S) rfl (by omega) (by decide) (by first | with_reducible assumption | rfl) rfl ?_
        refine T_ifnonnull (pc2 := 31) (tgt := 44) dX7_image_28 (by decide) rfl (fun i28 e28 => ?_) (fun e28 => ?_)
        · cases e28
        · refine T_aload_n (pc2 := 32) dX7_image_31 rfl rfl ?_
          refine G_getR (pc2 := 35) dX7_image_32 flX7_54 (sh4 S) rfl rfl ?_
          refine T_iload_n (pc2 := 36) dX7_image_35 rfl rfl ?_
          refine G_new (kc := 5) (ks := 40) (pc2 := 39) (ci := 2) (L := bl2) dX7_image_36 (by decide) clX7_23 insX2 iniX2 bl2_ok rfl ?_
          refine T_dup (pc2 := 40) dX7_image_39 rfl rfl ?_
          refine T_callIN (As := []) (kc := 0) (ks := 0) (mc := 5) (ms := 40) (pc2 := 43) dX7_image_40 ciX2_init mnX7_25 rfl (Nat.le_of_ble_eq_true rfl) rfl ?_
          have hn58 := S.1
          refine c_cinit (n := n + 1) ⟨by omega, by omega, by simp [va_up]⟩ (by omega) (fun sk2 g2 hc2 hs2 hg2 hz2 => ?_)
          have hsk : ∀ i, i < n + 4 → sk2 i = sk i := fun i hi => by
            rw [hs2 i (by omega)]
            have : i ≠ n + 4 := by omega
            simp [va_up, this]
          have hgg : ∀ i, i < n + 4 → g2 i = g i := fun i hi => by
            rw [hg2 i (by omega)]
            have : i ≠ n + 4 := by omega
            simp [va_up, this]
          have S2 : Sh sk2 (n + 1 + 5) bf im above below := S.ext (fun i hi => hsk i (by omega)) (by omega)
          obtain ⟨T0, hT, hB, hI0, hBi, hIi, hBI⟩ := id h2
          refine G_aast (pc2 := 44) (ci := 2) dX7_image_43 (by decide) (sh47 S2) hc2.1 (by omega) (by decide) rfl ?_
          have S3 : Sh (va_up sk2 47 (.inr (.object RX2, 2, some (va_up im q (some (n + 1 + 3)))))) (n + 1 + 5) bf (va_up im q (some (n + 1 + 3))) above below := S2.ims
          have hb47 : ∀ i, i ≠ 47 → va_up sk2 47 (.inr (.object RX2, 2, some (va_up im q (some (n + 1 + 3))))) i = sk2 i := fun i hi => by simp [va_up, hi]
          have hold : ∀ b t, t < T0 → b = 62 + 6 * t → isC sk n b → isC (va_up sk2 47 (.inr (.object RX2, 2, some (va_up im q (some (n + 1 + 3)))))) (n + 1 + 5) b := fun b t h1 h2 h3 => h3.mono (fun i q1 q2 => by rw [hb47 i (by omega)]; exact hsk i (by omega)) (by omega)
          have hup : ∀ i b, va_up im q (some (n + 1 + 3)) i = some b → (i = q ∧ b = n + 1 + 3) ∨ (i ≠ q ∧ im i = some b) := by
            intro i b h
            by_cases e : i = q
            · subst e
              simp [va_up] at h
              exact Or.inl ⟨rfl, by omega⟩
            · simp [va_up, e] at h
              exact Or.inr ⟨e, h⟩
          have D3 : Dyn (va_up sk2 47 (.inr (.object RX2, 2, some (va_up im q (some (n + 1 + 3)))))) (n + 1 + 5) bf (va_up im q (some (n + 1 + 3))) := by
            have hnew : isC (va_up sk2 47 (.inr (.object RX2, 2, some (va_up im q (some (n + 1 + 3)))))) (n + 1 + 5) (n + 1 + 3) := hc2.mono (fun i q1 q2 => hb47 i (by omega)) (Nat.le_refl _)
            refine ⟨T0 + 1, by omega, fun i b h => ?_, fun i b h => ?_, hBi, fun i j b h1 h2 => ?_, fun i j b h1 h2 => ?_⟩
            · obtain ⟨t, q1, q2, q3⟩ := hB i b h
              exact ⟨t, by omega, q2, hold b t q1 q2 q3⟩
            · rcases hup i b h with ⟨_, e⟩ | ⟨_, h2⟩
              · exact ⟨T0, by omega, by omega, by rw [e]; exact hnew⟩
              · obtain ⟨t, q1, q2, q3⟩ := hI0 i b h2
                exact ⟨t, by omega, q2, hold b t q1 q2 q3⟩
            · rcases hup i b h1 with ⟨e1, e2⟩ | ⟨e1, e2⟩ <;> rcases hup j b h2 with ⟨f1, f2⟩ | ⟨f1, f2⟩
              · omega
              · obtain ⟨t, q1, q2, q3⟩ := hI0 j b f2
                omega
              · obtain ⟨t, q1, q2, q3⟩ := hI0 i b e2
                omega
              · exact hIi i j b e2 f2
            · obtain ⟨t, q1, q2, q3⟩ := hB i b h1
              rcases hup j b h2 with ⟨e1, e2⟩ | ⟨e1, e2⟩
              · omega
              · exact hBI i j b h1 e2
          have hbx : va_up im q (some (n + 1 + 3)) q = some (n + 1 + 3) := by simp [va_up]
          have hgl : ∀ i, i < 62 → g2 i = g i := fun i hi => hgg i (by omega)
          refine T_sub (lks (i := 0) rfl (lks (i := 1) rfl lk0)) ?_
          refine img_tail (nx := nx) hq S3 D3 (h3.cg (fun i _ _ => hgl i (by omega))) (h4.cg (fun i _ _ => hgl i (by omega))) (h5.cg (fun i _ _ => hgl i (by omega))) (h6.cg (fun i _ _ => hgl i (by omega))) (by rw [hgl 32 (by omega)]; exact h7) (fun i hi => ?_) (h9.cg (fun i _ _ => hgl i (by omega))) (fun j hj hjq => ?_) (by rw [hgl 4 (by omega)]; exact h11) (by rw [hgl 4 (by omega)]; exact h12) hokV hbx ⟨(hb47 0 (by omega)).trans (hsk 0 (by omega)), fun i hi => hgl i (by omega)⟩ k
          · obtain ⟨b, q1, q2⟩ := h8 i hi
            obtain ⟨t, q3, q4, q5⟩ := hB _ b q1
            exact ⟨b, q1, q2.cg (fun i _ _ => hgg i (by omega))⟩
          · have e2 : va_up im q (some (n + 1 + 3)) j = im j := by simp [va_up, hjq]
            rw [e2]
            refine ⟨(h10 j hj).1, fun U hU => ?_⟩
            obtain ⟨b, q1, q2⟩ := (h10 j hj).2 U hU
            obtain ⟨t, q3, q4, q5⟩ := hI0 _ b q1
            exact ⟨b, q1, q2.cg (fun i _ _ => hgg i (by omega))⟩
  · first | refine B_ifne1 (tgt := 12) dX7_image_6 (by with_reducible rfl) (by decide) ?_ | refine B_ifne0 (pc2 := 9) (tgt := 12) dX7_image_6 (by with_reducible rfl) (by decide) rfl ?_ | refine N_ifne (pc2 := 9) (tgt := 12) dX7_image_6 (by with_reducible rfl) (by decide) (by omega) rfl (fun c6 => ?_) (fun c6 => ?_) | refine T_ifne (pc2 := 9) (tgt := 12) dX7_image_6 (by decide) rfl (fun c6 => ?_) (fun c6 => ?_)
    refine T_ldc (pc2 := 11) dX7_image_9 kcX7_66 rfl ?_
    refine T_iret dX7_image_11 rfl rfl ?_
    refine fin_same k hI ?_
    unfold sImage
    rw [inN_none (fun j hj => hno j (by omega))]
theorem j_restore {v : Int32} (hI : JJ sk g n bf im above below nx s) (hok : Ok s) (k : ∀ sk2 g2 n2, InvJ sk2 g2 n2 (sRestore s v).2 → FrJ sk g sk2 g2 → Q (some (.int (sRestore s v).1)) (HP sk2 g2 n2)) : Calls MX7_restore (d + 2) 0 0 [.ref 4, .int v] (HP sk g n) Q := by
  have S := hI.1
  refine Calls.of (by decide +kernel) (Nat.le_of_ble_eq_true rfl) ?_
  refine T_iload_n (pc2 := 1) dX7_restore_0 rfl rfl ?_
  refine T_iconst (pc2 := 2) dX7_restore_1 ic0 rfl ?_
  refine T_iconst (pc2 := 3) dX7_restore_2 ic1 rfl ?_
  refine C_S3 (pc2 := 6) (mc := 0) (ms := 0) dX7_restore_3 csX7_within mlX7_62 (Nat.le_of_ble_eq_true rfl) rfl ?_
  refine c_withinI (by decide) (fun q hq eq => ?_) (fun hno => ?_)
  · subst eq
    have hq : q < 2 := by omega
    have hs : sRestore s (nI q) = match s.I q with
        | none => (STATE, s)
        | some U => (nI 1, (s.setV U).setac s.ac 0) := by
      unfold sRestore
      rw [inN_some hq (by decide)]
    first | refine B_ifne1 (tgt := 12) dX7_restore_6 (by with_reducible rfl) (by decide) ?_ | refine B_ifne0 (pc2 := 9) (tgt := 12) dX7_restore_6 (by with_reducible rfl) (by decide) rfl ?_ | refine N_ifne (pc2 := 9) (tgt := 12) dX7_restore_6 (by with_reducible rfl) (by decide) (by omega) rfl (fun c6 => ?_) (fun c6 => ?_) | refine T_ifne (pc2 := 9) (tgt := 12) dX7_restore_6 (by decide) rfl (fun c6 => ?_) (fun c6 => ?_)
    cases hU : s.I q with
    | none =>
      have hb := (hI.2.2.2.2.2.2.2.2.2.1 q hq).1 hU
      refine T_aload_n (pc2 := 13) dX7_restore_12 rfl rfl ?_
      refine G_getR (pc2 := 16) dX7_restore_13 flX7_54 (sh4 S) rfl rfl ?_
      refine T_iload_n (pc2 := 17) dX7_restore_16 rfl rfl ?_
      refine G_aald (pc2 := 18) dX7_restore_17 (sh47 S) rfl (by omega) (by decide) (by first | with_reducible assumption | rfl) rfl ?_
      refine T_ifnonnull (pc2 := 21) (tgt := 24) dX7_restore_18 (by decide) rfl (fun i18 e18 => ?_) (fun e18 => ?_)
      · cases e18
      · refine T_ldc (pc2 := 23) dX7_restore_21 kcX7_145 rfl ?_
        refine T_iret dX7_restore_23 rfl rfl ?_
        exact fin_same k hI (by rw [hs, hU])
    | some U =>
      obtain ⟨b, hb, hUb⟩ := (hI.2.2.2.2.2.2.2.2.2.1 q hq).2 U hU
      have hokU := hok.2.2.2.2.2.1 q U hU
      obtain ⟨T0, hT, hB, hI0, -⟩ := id hI.2.1
      obtain ⟨t, ht, hbt, hcb⟩ := hI0 q b hb
      refine T_aload_n (pc2 := 13) dX7_restore_12 rfl rfl ?_
      refine G_getR (pc2 := 16) dX7_restore_13 flX7_54 (sh4 S) rfl rfl ?_
      refine T_iload_n (pc2 := 17) dX7_restore_16 rfl rfl ?_
      refine G_aald (pc2 := 18) dX7_restore_17 (sh47 S) rfl (by omega) (by decide) (by first | with_reducible assumption | rfl) rfl ?_
      refine T_ifnonnull (pc2 := 21) (tgt := 24) dX7_restore_18 (by decide) rfl (fun i18 e18 => ?_) (fun e18 => ?_)
      · refine T_aload_n (pc2 := 25) dX7_restore_24 rfl rfl ?_
        refine G_getR (pc2 := 28) dX7_restore_25 flX7_26 (sh4 S) rfl rfl ?_
        refine T_aload_n (pc2 := 29) dX7_restore_28 rfl rfl ?_
        refine G_getR (pc2 := 32) dX7_restore_29 flX7_54 (sh4 S) rfl rfl ?_
        refine T_iload_n (pc2 := 33) dX7_restore_32 rfl rfl ?_
        refine G_aald (pc2 := 34) dX7_restore_33 (sh47 S) rfl (by omega) (by decide) (by first | with_reducible assumption | rfl) rfl ?_
        refine C_V1 (pc2 := 37) (mc := 0) (ms := 0) dX7_restore_34 cvX2_become mlX7_131 (isO.h (sc20 S).1 _) (Nat.le_of_ble_eq_true rfl) rfl ?_
        refine c_become (sc20 S) hcb (by omega) hUb hokU.1.1 (fun g2 hV2 hf2 => ?_)
        refine T_aload_n (pc2 := 38) dX7_restore_37 rfl rfl ?_
        refine G_getR (pc2 := 41) dX7_restore_38 flX7_36 (sh4 S) rfl rfl ?_
        refine C_V0 (pc2 := 44) (mc := 0) (ms := 0) dX7_restore_41 cvX0_forget mlX7_135 (isO.h (sh32 S) _) (Nat.le_of_ble_eq_true rfl) rfl ?_
        refine c_forget S ?_
        refine T_iconst (pc2 := 45) dX7_restore_44 ic1 rfl ?_
        refine T_iret dX7_restore_45 rfl rfl ?_
        have hJ2 := hI.cel hV2 hf2
        have hg : ∀ i, i ≠ 32 → gset g2 32 2 (nI 0) i = g2 i := fun i h => gs_row h
        have hJ3 : JJ sk (gset g2 32 2 (nI 0)) n bf im above below nx ((s.setV U).setac s.ac 0) := by
          obtain ⟨h1, h2, h3, h4, h5, h6, h7, h8, h9, h10, h11, h12⟩ := hJ2
          refine ⟨h1, h2, h3.cg (fun i _ _ => hg i (by omega)), h4.cg (fun i _ _ => hg i (by omega)), h5.cg (fun i _ _ => hg i (by omega)), h6.cg (fun i _ _ => hg i (by omega)), ⟨?_, h7.2.1, gs_eq _ _ _ _⟩, fun i hi => absurd hi (Nat.not_lt_zero i), h9.cg (fun i _ _ => hg i (by omega)), h10.cg h2 (fun kk b hb i q1 q2 => ?_), by rw [hg 4 (by omega)]; exact h11, by rw [hg 4 (by omega)]; exact h12⟩
          · rw [gs_ne _ _ (by omega)]; exact h7.1
          · obtain ⟨t2, -, hb2, -⟩ := hI0 kk b hb
            exact hg i (by omega)
        exact fin_new k hJ3 ⟨rfl, fun i hi => by rw [hg i (by omega), hf2 i (by omega)]⟩ (by rw [hs, hU])
      · cases e18
  · first | refine B_ifne1 (tgt := 12) dX7_restore_6 (by with_reducible rfl) (by decide) ?_ | refine B_ifne0 (pc2 := 9) (tgt := 12) dX7_restore_6 (by with_reducible rfl) (by decide) rfl ?_ | refine N_ifne (pc2 := 9) (tgt := 12) dX7_restore_6 (by with_reducible rfl) (by decide) (by omega) rfl (fun c6 => ?_) (fun c6 => ?_) | refine T_ifne (pc2 := 9) (tgt := 12) dX7_restore_6 (by decide) rfl (fun c6 => ?_) (fun c6 => ?_)
    refine T_ldc (pc2 := 11) dX7_restore_9 kcX7_66 rfl ?_
    refine T_iret dX7_restore_11 rfl rfl ?_
    refine fin_same k hI ?_
    unfold sRestore
    rw [inN_none (fun j hj => hno j (by omega))]
end JImg

