/-! the class's calls: acts -/
def yrf (_ : Nat) (s : ST) : ST := s.keep.setV s.V.age
def sYears (s : ST) (m : Int32) : Int32 × ST := if s.V.J = 0 then (STATE, s) else match inN m 25 with
  | none => (BAD, s)
  | some 0 => (BAD, s)
  | some m => if 999 < s.V.Y + m then (FULL, s) else (nI (bm ((itr yrf s m).V.th 0) 8), itr yrf s m)
def sSneeze (s : ST) (nt p : Int32) : Int32 × ST := match inN nt 12, inN p s.V.J with
  | some nt, some p => (nI (bm (s.V.brk nt p (s.V.th 0)) 8), s.keep.setV (s.V.smash (s.V.brk nt p (s.V.th 0))))
  | _, _ => (BAD, s)
def Cel.sethw (V : Cel) (j v : Nat) : Cel := (V.J, V.Y, V.R, V.kd, V.nt, V.kp, V.pl, va_up V.hw j v)
def Cel.setkp (V : Cel) (j v : Nat) : Cel := (V.J, V.Y, V.R, V.kd, V.nt, va_up V.kp j v, V.pl, V.hw)
def sOpen (s : ST) (j : Int32) : Int32 × ST := match inN j s.V.J with
  | none => (BAD, s)
  | some j => if s.V.hw j = 0 then (nI (s.V.nt j), s.keep.setV (s.V.sethw j 3)) else (STATE, s)
def sChange (s : ST) (a b : Int32) : Int32 × ST := match inN a s.V.J, inN b s.V.J with
  | some a, some b => if a = b then (BAD, s) else (nI ((s.V.swap a b).pl a), s.keep.setV (s.V.swap a b))
  | _, _ => (BAD, s)
def sSeal (s : ST) (j nt y : Int32) : Int32 × ST := match inN j s.V.J, inN nt 12, inN y 61 with
  | some j, some nt, some (y + 1) => if s.V.hw j = 0 then (STATE, s) else (nI (bm ((((s.V.sethw j 0).setnt j nt).setkp j (y + 1)).th 0) 8), s.keep.setV (((s.V.sethw j 0).setnt j nt).setkp j (y + 1)))
  | _, _, _ => (BAD, s)
def sReach (s : ST) (v : Int32) : Int32 × ST := if s.V.J = 0 then (STATE, s) else match inN v 9 with
  | none => (BAD, s)
  | some v => (nI s.V.R, s.keep.setV (s.V.setR v))
theorem hasC.sethw {g : Nat → Nat → Int32} {c : Nat} {V : Cel} (h : hasC g c V) {j v : Nat} : hasC (gset g (c + 5) j (nI v)) c (V.sethw j v) := by
  refine ⟨by rw [gs_ne _ _ (by omega)]; exact h.1, by rw [gs_ne _ _ (by omega)]; exact h.2.1, by rw [gs_ne _ _ (by omega)]; exact h.2.2.1, fun i hi => ?_⟩
  have := h.2.2.2 i hi
  rw [gs_ne (i2 := c + 1) _ _ (by omega), gs_ne (i2 := c + 2) _ _ (by omega), gs_ne (i2 := c + 3) _ _ (by omega), gs_ne (i2 := c + 4) _ _ (by omega)]
  refine ⟨this.1, this.2.1, this.2.2.1, this.2.2.2.1, ?_⟩
  show _ = nI (va_up V.hw j v i)
  by_cases e : i = j
  · subst e
    rw [gs_eq]
    simp [va_up]
  · rw [gs_ne _ _ (by omega), this.2.2.2.2]
    simp [va_up, e]
theorem hasC.setkp {g : Nat → Nat → Int32} {c : Nat} {V : Cel} (h : hasC g c V) {j v : Nat} : hasC (gset g (c + 3) j (nI v)) c (V.setkp j v) := by
  refine ⟨by rw [gs_ne _ _ (by omega)]; exact h.1, by rw [gs_ne _ _ (by omega)]; exact h.2.1, by rw [gs_ne _ _ (by omega)]; exact h.2.2.1, fun i hi => ?_⟩
  have := h.2.2.2 i hi
  rw [gs_ne (i2 := c + 1) _ _ (by omega), gs_ne (i2 := c + 2) _ _ (by omega), gs_ne (i2 := c + 4) _ _ (by omega), gs_ne (i2 := c + 5) _ _ (by omega)]
  refine ⟨this.1, this.2.1, ?_, this.2.2.2⟩
  show _ = nI (va_up V.kp j v i)
  by_cases e : i = j
  · subst e
    rw [gs_eq]
    simp [va_up]
  · rw [gs_ne _ _ (by omega), this.2.2.1]
    simp [va_up, e]
section JActs
variable {sk : Nat → SK} {g : Nat → Nat → Int32} {n : Nat} {Q : Option Value → SH → Prop} {d kc ks : Nat} {bf im : Nat → Option Nat} {above below : Int64} {nx : Nat} {s : ST}
/-- the act is kept, in the class's own state -/
theorem j_keep (hI : JJ sk g n bf im above below nx s) (hok : okC s.V) (han : s.an ≤ 24) (k : ∀ sk2 g2 n2 bf2, JJ sk2 g2 n2 bf2 im above below ((nx + 1) % 24) s.keep → FrJ sk g sk2 g2 → Q none (HP sk2 g2 n2)) : Calls MX0_keep (d + 1) 6 48 [.ref 32, .ref 20] (HP sk g n) Q := by
  obtain ⟨h1, h2, h3, h4, h5, h6, h7, h8, h9, h10, h11, h12⟩ := id hI
  refine c_keep h1 h2 h6 hok h7.1 h7.2.2 h7.2.1 han h8 (fun sk2 g2 n2 bf2 S2 D2 e1 e2 hA hF hs => ?_)
  have hg := hF.1
  refine k sk2 g2 n2 bf2 ⟨S2, D2, h3.cg (fun i _ _ => hg i (by omega) (by omega)), h4.cg (fun i _ _ => hg i (by omega) (by omega)), h5.cg (fun i _ _ => hg i (by omega) (by omega)), h6.cg (fun i _ _ => hg i (by omega) (by omega)), ⟨e1, Nat.mod_lt _ (by decide), e2⟩, hA, h9.cg (fun i _ _ => hg i (by omega) (by omega)), h10.cg D2 hF.2, by rw [hg 4 (by omega) (by omega)]; exact h11, by rw [hg 4 (by omega) (by omega)]; exact h12⟩ ⟨hs 0 (by decide) (by decide), fun i hi => hg i (by omega) (by omega)⟩
/-- another cellar in its place -/
theorem JJ.cel {g2 : Nat → Nat → Int32} {U : Cel} (hI : JJ sk g n bf im above below nx s) (hV : hasC g2 20 U) (hf : Fr 20 26 g g2) : JJ sk g2 n bf im above below nx (s.setV U) := by
  obtain ⟨h1, h2, h3, h4, h5, h6, h7, h8, h9, h10, h11, h12⟩ := hI
  refine ⟨h1, h2, h3.cg (fun i _ _ => hf i (by omega)), h4.cg (fun i _ _ => hf i (by omega)), h5.cg (fun i _ _ => hf i (by omega)), hV, by rw [hf 32 (by omega)]; exact h7, h8.cg h2 (fun i _ => hf i (by omega)), h9.cg (fun i _ _ => hf i (by omega)), h10.cg h2 (fun kk b hb i q1 q2 => ?_), by rw [hf 4 (by omega)]; exact h11, by rw [hf 4 (by omega)]; exact h12⟩
  obtain ⟨T, -, -, hI, -⟩ := h2
  obtain ⟨t, -, hb2, -⟩ := hI kk b hb
  exact hf i (by omega)
theorem j_sneeze {nt p : Int32} (hI : JJ sk g n bf im above below nx s) (hok : Ok s) (k : ∀ sk2 g2 n2, InvJ sk2 g2 n2 (sSneeze s nt p).2 → FrJ sk g sk2 g2 → Q (some (.int (sSneeze s nt p).1)) (HP sk2 g2 n2)) : Calls MX7_sneeze (d + 4) 6 48 [.ref 4, .int nt, .int p] (HP sk g n) Q := by
  have S := hI.1
  have hV := hI.2.2.2.2.2.1
  have hokV := hok.2.2.1.1
  refine Calls.of (by decide +kernel) (Nat.le_of_ble_eq_true rfl) ?_
  refine T_aload_n (pc2 := 1) dX7_sneeze_0 rfl rfl ?_
  refine T_iload_n (pc2 := 2) dX7_sneeze_1 rfl rfl ?_
  refine T_iload_n (pc2 := 3) dX7_sneeze_2 rfl rfl ?_
  refine C_V2 (pc2 := 6) (mc := 0) (ms := 0) dX7_sneeze_3 cvX7_isSneeze mlX7_162 (isO.h (sh4 S) _) (Nat.le_of_ble_eq_true rfl) rfl ?_
  refine c_isSneeze S hV.1 hokV.1 (fun a j ha ea hj ej => ?_) (fun hno => ?_)
  · subst ea
    subst ej
    have hJ8 := hokV.1
    have hs : sSneeze s (nI a) (nI j) = (nI (bm (s.V.brk a j (s.V.th 0)) 8), s.keep.setV (s.V.smash (s.V.brk a j (s.V.th 0)))) := by
      unfold sSneeze
      rw [inN_some ha (by decide), inN_some hj (by omega)]
    first | refine B_ifne1 (tgt := 12) dX7_sneeze_6 (by with_reducible rfl) (by decide) ?_ | refine B_ifne0 (pc2 := 9) (tgt := 12) dX7_sneeze_6 (by with_reducible rfl) (by decide) rfl ?_ | refine N_ifne (pc2 := 9) (tgt := 12) dX7_sneeze_6 (by with_reducible rfl) (by decide) (by omega) rfl (fun c6 => ?_) (fun c6 => ?_) | refine T_ifne (pc2 := 9) (tgt := 12) dX7_sneeze_6 (by decide) rfl (fun c6 => ?_) (fun c6 => ?_)
    refine T_aload_n (pc2 := 13) dX7_sneeze_12 rfl rfl ?_
    refine G_getR (pc2 := 16) dX7_sneeze_13 flX7_43 (sh4 S) rfl rfl ?_
    refine T_aload_n (pc2 := 17) dX7_sneeze_16 rfl rfl ?_
    refine G_getR (pc2 := 20) dX7_sneeze_17 flX7_26 (sh4 S) rfl rfl ?_
    refine T_iload_n (pc2 := 21) dX7_sneeze_20 rfl rfl ?_
    refine T_iload_n (pc2 := 22) dX7_sneeze_21 rfl rfl ?_
    refine C_V3 (pc2 := 25) (mc := 0) (ms := 0) dX7_sneeze_22 cvX4_brokenBy mlX7_166 (isO.h (sh34 S) _) (Nat.le_of_ble_eq_true rfl) rfl ?_
    refine c_brokenBy S (sc20 S) (by omega) hV hokV ha hj (fun g2 e5 hf2 => ?_)
    refine T_istore_n (pc2 := 26) dX7_sneeze_25 (by decide) rfl ?_
    refine T_aload_n (pc2 := 27) dX7_sneeze_26 rfl rfl ?_
    refine G_getR (pc2 := 30) dX7_sneeze_27 flX7_36 (sh4 S) rfl rfl ?_
    refine T_aload_n (pc2 := 31) dX7_sneeze_30 rfl rfl ?_
    refine G_getR (pc2 := 34) dX7_sneeze_31 flX7_26 (sh4 S) rfl rfl ?_
    refine C_V1 (kc := 0) (ks := 0) (pc2 := 37) (mc := 6) (ms := 48) dX7_sneeze_34 cvX0_keep mlX7_153 (isO.h (sh32 S) _) (Nat.le_of_ble_eq_true rfl) rfl ?_
    refine j_keep (hI.scr hf2) hokV hok.2.2.2.1 (fun sk3 g3 n3 bf3 hI3 hf3 => ?_)
    have S := hI3.1
    refine T_aload_n (pc2 := 38) dX7_sneeze_37 rfl rfl ?_
    refine G_getR (pc2 := 41) dX7_sneeze_38 flX7_26 (sh4 S) rfl rfl ?_
    refine T_iload_n (pc2 := 42) dX7_sneeze_41 rfl rfl ?_
    refine C_V1 (pc2 := 45) (mc := 0) (ms := 0) dX7_sneeze_42 cvX2_smash mlX7_170 (isO.h (sc20 S).1 _) (Nat.le_of_ble_eq_true rfl) rfl ?_
    refine c_smash (sc20 S) hI3.2.2.2.2.2.1 hokV.1 (fun g4 hV4 hf4 => ?_)
    refine T_iload_n (pc2 := 46) dX7_sneeze_45 rfl rfl ?_
    refine T_iret dX7_sneeze_46 rfl rfl ?_
    exact fin_new k (hI3.cel hV4 hf4) (((FrJ.of hf2 (by decide) (by decide)).tr hf3).tr (FrJ.of hf4 (by decide) (by decide))) hs
  · first | refine B_ifne1 (tgt := 12) dX7_sneeze_6 (by with_reducible rfl) (by decide) ?_ | refine B_ifne0 (pc2 := 9) (tgt := 12) dX7_sneeze_6 (by with_reducible rfl) (by decide) rfl ?_ | refine N_ifne (pc2 := 9) (tgt := 12) dX7_sneeze_6 (by with_reducible rfl) (by decide) (by omega) rfl (fun c6 => ?_) (fun c6 => ?_) | refine T_ifne (pc2 := 9) (tgt := 12) dX7_sneeze_6 (by decide) rfl (fun c6 => ?_) (fun c6 => ?_)
    refine T_ldc (pc2 := 11) dX7_sneeze_9 kcX7_66 rfl ?_
    refine T_iret dX7_sneeze_11 rfl rfl ?_
    refine fin_same k hI ?_
    unfold sSneeze
    rcases hno with q | q
    · rw [inN_none q]
    · rw [inN_none q]
      cases inN nt 12 <;> rfl
theorem j_open {j : Int32} (hI : JJ sk g n bf im above below nx s) (hok : Ok s) (k : ∀ sk2 g2 n2, InvJ sk2 g2 n2 (sOpen s j).2 → FrJ sk g sk2 g2 → Q (some (.int (sOpen s j).1)) (HP sk2 g2 n2)) : Calls MX7_open (d + 3) 6 48 [.ref 4, .int j] (HP sk g n) Q := by
  have S := hI.1
  have hV := hI.2.2.2.2.2.1
  have hokV := hok.2.2.1.1
  have hJ8 := hokV.1
  refine Calls.of (by decide +kernel) (Nat.le_of_ble_eq_true rfl) ?_
  refine T_aload_n (pc2 := 1) dX7_open_0 rfl rfl ?_
  refine T_iload_n (pc2 := 2) dX7_open_1 rfl rfl ?_
  refine C_V1 (pc2 := 5) (mc := 0) (ms := 0) dX7_open_2 cvX7_isJar mlX7_174 (isO.h (sh4 S) _) (Nat.le_of_ble_eq_true rfl) rfl ?_
  refine c_isJar S hV.1 hokV.1 (fun i hi ei => ?_) (fun hno => ?_)
  · subst ei
    have hs : sOpen s (nI i) = if s.V.hw i = 0 then (nI (s.V.nt i), s.keep.setV (s.V.sethw i 3)) else (STATE, s) := by
      unfold sOpen
      rw [inN_some hi (by omega)]
    have eh := (hV.2.2.2 i hi).2.2.2.2
    have h3 := (hokV.2.2.2.1 i hi).2.2.2.2.2.2
    first | refine B_ifne1 (tgt := 11) dX7_open_5 (by with_reducible rfl) (by decide) ?_ | refine B_ifne0 (pc2 := 8) (tgt := 11) dX7_open_5 (by with_reducible rfl) (by decide) rfl ?_ | refine N_ifne (pc2 := 8) (tgt := 11) dX7_open_5 (by with_reducible rfl) (by decide) (by omega) rfl (fun c5 => ?_) (fun c5 => ?_) | refine T_ifne (pc2 := 8) (tgt := 11) dX7_open_5 (by decide) rfl (fun c5 => ?_) (fun c5 => ?_)
    refine T_aload_n (pc2 := 12) dX7_open_11 rfl rfl ?_
    refine G_getR (pc2 := 15) dX7_open_12 flX7_26 (sh4 S) rfl rfl ?_
    refine G_getR (pc2 := 18) dX7_open_15 flX7_177 (sc20 S).1 rfl rfl ?_
    refine T_iload_n (pc2 := 19) dX7_open_18 rfl rfl ?_
    refine G_iald (pc2 := 20) dX7_open_19 (sc20 S).2.2.2.2.2 (by omega) (by first | decide | omega) (by first | with_reducible assumption | exact gs_eq _ _ _ _ | exact (gs_ne _ _ (by omega)).trans (by with_reducible assumption) | exact (gs_ne _ _ (by omega)).trans (gs_eq _ _ _ _) | exact (gs_ne _ _ (by omega)).trans ((gs_ne _ _ (by omega)).trans (by with_reducible assumption)) | exact (gs_ne _ _ (by omega)).trans ((gs_ne _ _ (by omega)).trans (gs_eq _ _ _ _)) | exact (gs_ne _ _ (by omega)).trans ((gs_ne _ _ (by omega)).trans ((gs_ne _ _ (by omega)).trans (by with_reducible assumption))) | rfl) rfl ?_
    first | refine B_ifeq1 (pc2 := 23) (tgt := 26) dX7_open_20 (by with_reducible rfl) (by decide) rfl ?_ | refine B_ifeq0 (tgt := 26) dX7_open_20 (by with_reducible rfl) (by decide) ?_ | refine N_ifeq (pc2 := 23) (tgt := 26) dX7_open_20 (by with_reducible rfl) (by decide) (by omega) rfl (fun c20 => ?_) (fun c20 => ?_) | refine T_ifeq (pc2 := 23) (tgt := 26) dX7_open_20 (by decide) rfl (fun c20 => ?_) (fun c20 => ?_)
    · refine T_aload_n (pc2 := 27) dX7_open_26 rfl rfl ?_
      refine G_getR (pc2 := 30) dX7_open_27 flX7_36 (sh4 S) rfl rfl ?_
      refine T_aload_n (pc2 := 31) dX7_open_30 rfl rfl ?_
      refine G_getR (pc2 := 34) dX7_open_31 flX7_26 (sh4 S) rfl rfl ?_
      refine C_V1 (kc := 0) (ks := 0) (pc2 := 37) (mc := 6) (ms := 48) dX7_open_34 cvX0_keep mlX7_153 (isO.h (sh32 S) _) (Nat.le_of_ble_eq_true rfl) rfl ?_
      refine j_keep hI hokV hok.2.2.2.1 (fun sk3 g3 n3 bf3 hI3 hf3 => ?_)
      have S := hI3.1
      have hV3 := hI3.2.2.2.2.2.1
      have en : gset g3 (20 + 5) i (nI 3) (20 + 2) i = nI (s.V.nt i) := by rw [gs_ne _ _ (by omega)]; exact (hV3.2.2.2 i hi).2.1
      refine T_aload_n (pc2 := 38) dX7_open_37 rfl rfl ?_
      refine G_getR (pc2 := 41) dX7_open_38 flX7_26 (sh4 S) rfl rfl ?_
      refine G_getR (pc2 := 44) dX7_open_41 flX7_177 (sc20 S).1 rfl rfl ?_
      refine T_iload_n (pc2 := 45) dX7_open_44 rfl rfl ?_
      refine T_iconst (pc2 := 46) dX7_open_45 ic3 rfl ?_
      refine G_iast (pc2 := 47) dX7_open_46 (sc20 S).2.2.2.2.2 (by omega) (by decide) rfl ?_
      refine T_aload_n (pc2 := 48) dX7_open_47 rfl rfl ?_
      refine G_getR (pc2 := 51) dX7_open_48 flX7_26 (sh4 S) rfl rfl ?_
      refine G_getR (pc2 := 54) dX7_open_51 flX7_180 (sc20 S).1 rfl rfl ?_
      refine T_iload_n (pc2 := 55) dX7_open_54 rfl rfl ?_
      refine G_iald (pc2 := 56) dX7_open_55 (sc20 S).2.2.1 (by omega) (by first | decide | omega) (by first | with_reducible assumption | exact gs_eq _ _ _ _ | exact (gs_ne _ _ (by omega)).trans (by with_reducible assumption) | exact (gs_ne _ _ (by omega)).trans (gs_eq _ _ _ _) | exact (gs_ne _ _ (by omega)).trans ((gs_ne _ _ (by omega)).trans (by with_reducible assumption)) | exact (gs_ne _ _ (by omega)).trans ((gs_ne _ _ (by omega)).trans (gs_eq _ _ _ _)) | exact (gs_ne _ _ (by omega)).trans ((gs_ne _ _ (by omega)).trans ((gs_ne _ _ (by omega)).trans (by with_reducible assumption))) | rfl) rfl ?_
      refine T_iret dX7_open_56 rfl rfl ?_
      have hf4 : Fr 20 26 g3 (gset g3 (20 + 5) i (nI 3)) := Fr.rf.st (by omega) (by omega)
      exact fin_new k (hI3.cel hV3.sethw hf4) (hf3.tr (FrJ.of hf4 (by decide) (by decide))) (by rw [hs, if_pos c20]; rfl)
    · refine T_ldc (pc2 := 25) dX7_open_23 kcX7_145 rfl ?_
      refine T_iret dX7_open_25 rfl rfl ?_
      exact fin_same k hI (by rw [hs, if_neg c20])
  · first | refine B_ifne1 (tgt := 11) dX7_open_5 (by with_reducible rfl) (by decide) ?_ | refine B_ifne0 (pc2 := 8) (tgt := 11) dX7_open_5 (by with_reducible rfl) (by decide) rfl ?_ | refine N_ifne (pc2 := 8) (tgt := 11) dX7_open_5 (by with_reducible rfl) (by decide) (by omega) rfl (fun c5 => ?_) (fun c5 => ?_) | refine T_ifne (pc2 := 8) (tgt := 11) dX7_open_5 (by decide) rfl (fun c5 => ?_) (fun c5 => ?_)
    refine T_ldc (pc2 := 10) dX7_open_8 kcX7_66 rfl ?_
    refine T_iret dX7_open_10 rfl rfl ?_
    refine fin_same k hI ?_
    unfold sOpen
    rw [inN_none hno]
theorem j_change {a b : Int32} (hI : JJ sk g n bf im above below nx s) (hok : Ok s) (k : ∀ sk2 g2 n2, InvJ sk2 g2 n2 (sChange s a b).2 → FrJ sk g sk2 g2 → Q (some (.int (sChange s a b).1)) (HP sk2 g2 n2)) : Calls MX7_change (d + 3) 6 48 [.ref 4, .int a, .int b] (HP sk g n) Q := by
  have S := hI.1
  have hV := hI.2.2.2.2.2.1
  have hokV := hok.2.2.1.1
  have hJ8 := hokV.1
  refine Calls.of (by decide +kernel) (Nat.le_of_ble_eq_true rfl) ?_
  refine T_aload_n (pc2 := 1) dX7_change_0 rfl rfl ?_
  refine T_iload_n (pc2 := 2) dX7_change_1 rfl rfl ?_
  refine C_V1 (pc2 := 5) (mc := 0) (ms := 0) dX7_change_2 cvX7_isJar mlX7_174 (isO.h (sh4 S) _) (Nat.le_of_ble_eq_true rfl) rfl ?_
  refine c_isJar S hV.1 hokV.1 (fun x hx ex => ?_) (fun hno => ?_)
  · subst ex
    first | refine B_ifeq1 (pc2 := 8) (tgt := 21) dX7_change_5 (by with_reducible rfl) (by decide) rfl ?_ | refine B_ifeq0 (tgt := 21) dX7_change_5 (by with_reducible rfl) (by decide) ?_ | refine N_ifeq (pc2 := 8) (tgt := 21) dX7_change_5 (by with_reducible rfl) (by decide) (by omega) rfl (fun c5 => ?_) (fun c5 => ?_) | refine T_ifeq (pc2 := 8) (tgt := 21) dX7_change_5 (by decide) rfl (fun c5 => ?_) (fun c5 => ?_)
    refine T_aload_n (pc2 := 9) dX7_change_8 rfl rfl ?_
    refine T_iload_n (pc2 := 10) dX7_change_9 rfl rfl ?_
    refine C_V1 (pc2 := 13) (mc := 0) (ms := 0) dX7_change_10 cvX7_isJar mlX7_174 (isO.h (sh4 S) _) (Nat.le_of_ble_eq_true rfl) rfl ?_
    refine c_isJar S hV.1 hokV.1 (fun y hy ey => ?_) (fun hno => ?_)
    · subst ey
      have hs : sChange s (nI x) (nI y) = if x = y then (BAD, s) else (nI ((s.V.swap x y).pl x), s.keep.setV (s.V.swap x y)) := by
        unfold sChange
        rw [inN_some hx (by omega), inN_some hy (by omega)]
      first | refine B_ifeq1 (pc2 := 16) (tgt := 21) dX7_change_13 (by with_reducible rfl) (by decide) rfl ?_ | refine B_ifeq0 (tgt := 21) dX7_change_13 (by with_reducible rfl) (by decide) ?_ | refine N_ifeq (pc2 := 16) (tgt := 21) dX7_change_13 (by with_reducible rfl) (by decide) (by omega) rfl (fun c13 => ?_) (fun c13 => ?_) | refine T_ifeq (pc2 := 16) (tgt := 21) dX7_change_13 (by decide) rfl (fun c13 => ?_) (fun c13 => ?_)
      refine T_iload_n (pc2 := 17) dX7_change_16 rfl rfl ?_
      refine T_iload_n (pc2 := 18) dX7_change_17 rfl rfl ?_
      first | refine N_icmpne (pc2 := 21) (tgt := 24) dX7_change_18 (by decide) (by with_reducible rfl) (by with_reducible rfl) (by omega) (by omega) rfl (fun c18 => ?_) (fun c18 => ?_) | refine T_icmpne (pc2 := 21) (tgt := 24) dX7_change_18 (by decide) rfl (fun c18 => ?_) (fun c18 => ?_)
      · refine T_aload_n (pc2 := 25) dX7_change_24 rfl rfl ?_
        refine G_getR (pc2 := 28) dX7_change_25 flX7_36 (sh4 S) rfl rfl ?_
        refine T_aload_n (pc2 := 29) dX7_change_28 rfl rfl ?_
        refine G_getR (pc2 := 32) dX7_change_29 flX7_26 (sh4 S) rfl rfl ?_
        refine C_V1 (kc := 0) (ks := 0) (pc2 := 35) (mc := 6) (ms := 48) dX7_change_32 cvX0_keep mlX7_153 (isO.h (sh32 S) _) (Nat.le_of_ble_eq_true rfl) rfl ?_
        refine j_keep hI hokV hok.2.2.2.1 (fun sk3 g3 n3 bf3 hI3 hf3 => ?_)
        have S := hI3.1
        have hV3 := hI3.2.2.2.2.2.1
        refine T_aload_n (pc2 := 36) dX7_change_35 rfl rfl ?_
        refine G_getR (pc2 := 39) dX7_change_36 flX7_26 (sh4 S) rfl rfl ?_
        refine T_iload_n (pc2 := 40) dX7_change_39 rfl rfl ?_
        refine T_iload_n (pc2 := 41) dX7_change_40 rfl rfl ?_
        refine C_V2 (pc2 := 44) (mc := 0) (ms := 0) dX7_change_41 cvX2_swapPlaces mlX7_183 (isO.h (sc20 S).1 _) (Nat.le_of_ble_eq_true rfl) rfl ?_
        refine c_swap (sc20 S) hV3 hokV.1 hx hy (fun g4 hV4 hf4 => ?_)
        have ep := (hV4.2.2.2 x hx).2.2.2.1
        refine T_aload_n (pc2 := 45) dX7_change_44 rfl rfl ?_
        refine G_getR (pc2 := 48) dX7_change_45 flX7_26 (sh4 S) rfl rfl ?_
        refine G_getR (pc2 := 51) dX7_change_48 flX7_187 (sc20 S).1 rfl rfl ?_
        refine T_iload_n (pc2 := 52) dX7_change_51 rfl rfl ?_
        refine G_iald (pc2 := 53) dX7_change_52 (sc20 S).2.2.2.2.1 (by omega) (by first | decide | omega) (by first | with_reducible assumption | exact gs_eq _ _ _ _ | exact (gs_ne _ _ (by omega)).trans (by with_reducible assumption) | exact (gs_ne _ _ (by omega)).trans (gs_eq _ _ _ _) | exact (gs_ne _ _ (by omega)).trans ((gs_ne _ _ (by omega)).trans (by with_reducible assumption)) | exact (gs_ne _ _ (by omega)).trans ((gs_ne _ _ (by omega)).trans (gs_eq _ _ _ _)) | exact (gs_ne _ _ (by omega)).trans ((gs_ne _ _ (by omega)).trans ((gs_ne _ _ (by omega)).trans (by with_reducible assumption))) | rfl) rfl ?_
        refine T_iret dX7_change_53 rfl rfl ?_
        exact fin_new k (hI3.cel hV4 hf4) (hf3.tr (FrJ.of hf4 (by decide) (by decide))) (by rw [hs, if_neg c18]; rfl)
      · refine T_ldc (pc2 := 23) dX7_change_21 kcX7_66 rfl ?_
        refine T_iret dX7_change_23 rfl rfl ?_
        exact fin_same k hI (by rw [hs, if_pos c18])
    · first | refine B_ifeq1 (pc2 := 16) (tgt := 21) dX7_change_13 (by with_reducible rfl) (by decide) rfl ?_ | refine B_ifeq0 (tgt := 21) dX7_change_13 (by with_reducible rfl) (by decide) ?_ | refine N_ifeq (pc2 := 16) (tgt := 21) dX7_change_13 (by with_reducible rfl) (by decide) (by omega) rfl (fun c13 => ?_) (fun c13 => ?_) | refine T_ifeq (pc2 := 16) (tgt := 21) dX7_change_13 (by decide) rfl (fun c13 => ?_) (fun c13 => ?_)
      refine T_ldc (pc2 := 23) dX7_change_21 kcX7_66 rfl ?_
      refine T_iret dX7_change_23 rfl rfl ?_
      refine fin_same k hI ?_
      unfold sChange
      rw [inN_none hno]
      cases inN (nI x) s.V.J <;> rfl
  · first | refine B_ifeq1 (pc2 := 8) (tgt := 21) dX7_change_5 (by with_reducible rfl) (by decide) rfl ?_ | refine B_ifeq0 (tgt := 21) dX7_change_5 (by with_reducible rfl) (by decide) ?_ | refine N_ifeq (pc2 := 8) (tgt := 21) dX7_change_5 (by with_reducible rfl) (by decide) (by omega) rfl (fun c5 => ?_) (fun c5 => ?_) | refine T_ifeq (pc2 := 8) (tgt := 21) dX7_change_5 (by decide) rfl (fun c5 => ?_) (fun c5 => ?_)
    refine T_ldc (pc2 := 23) dX7_change_21 kcX7_66 rfl ?_
    refine T_iret dX7_change_23 rfl rfl ?_
    refine fin_same k hI ?_
    unfold sChange
    rw [inN_none hno]
theorem j_reach {v : Int32} (hI : JJ sk g n bf im above below nx s) (hok : Ok s) (k : ∀ sk2 g2 n2, InvJ sk2 g2 n2 (sReach s v).2 → FrJ sk g sk2 g2 → Q (some (.int (sReach s v).1)) (HP sk2 g2 n2)) : Calls MX7_reach (d + 3) 6 48 [.ref 4, .int v] (HP sk g n) Q := by
  have S := hI.1
  have hV := hI.2.2.2.2.2.1
  have hokV := hok.2.2.1.1
  have hJ8 := hokV.1
  refine Calls.of (by decide +kernel) (Nat.le_of_ble_eq_true rfl) ?_
  refine T_aload_n (pc2 := 1) dX7_reach_0 rfl rfl ?_
  refine C_V0 (pc2 := 4) (mc := 0) (ms := 0) dX7_reach_1 cvX7_noCellar mlX7_146 (isO.h (sh4 S) _) (Nat.le_of_ble_eq_true rfl) rfl ?_
  refine c_noCellar S hV.1 hokV.1 (fun h0 => ?_) (fun h0 => ?_)
  · first | refine B_ifeq1 (pc2 := 7) (tgt := 10) dX7_reach_4 (by with_reducible rfl) (by decide) rfl ?_ | refine B_ifeq0 (tgt := 10) dX7_reach_4 (by with_reducible rfl) (by decide) ?_ | refine N_ifeq (pc2 := 7) (tgt := 10) dX7_reach_4 (by with_reducible rfl) (by decide) (by omega) rfl (fun c4 => ?_) (fun c4 => ?_) | refine T_ifeq (pc2 := 7) (tgt := 10) dX7_reach_4 (by decide) rfl (fun c4 => ?_) (fun c4 => ?_)
    refine T_ldc (pc2 := 9) dX7_reach_7 kcX7_145 rfl ?_
    refine T_iret dX7_reach_9 rfl rfl ?_
    exact fin_same k hI (if_pos h0)
  · first | refine B_ifeq1 (pc2 := 7) (tgt := 10) dX7_reach_4 (by with_reducible rfl) (by decide) rfl ?_ | refine B_ifeq0 (tgt := 10) dX7_reach_4 (by with_reducible rfl) (by decide) ?_ | refine N_ifeq (pc2 := 7) (tgt := 10) dX7_reach_4 (by with_reducible rfl) (by decide) (by omega) rfl (fun c4 => ?_) (fun c4 => ?_) | refine T_ifeq (pc2 := 7) (tgt := 10) dX7_reach_4 (by decide) rfl (fun c4 => ?_) (fun c4 => ?_)
    refine T_iload_n (pc2 := 11) dX7_reach_10 rfl rfl ?_
    refine T_iconst (pc2 := 12) dX7_reach_11 ic0 rfl ?_
    refine T_bipush (pc2 := 14) dX7_reach_12 bp8 rfl ?_
    refine C_S3 (pc2 := 17) (mc := 0) (ms := 0) dX7_reach_14 csX7_within mlX7_62 (Nat.le_of_ble_eq_true rfl) rfl ?_
    refine c_withinI (by decide) (fun x hx ex => ?_) (fun hno => ?_)
    · subst ex
      have hs : sReach s (nI x) = (nI s.V.R, s.keep.setV (s.V.setR x)) := by
        unfold sReach
        rw [if_neg (by omega), inN_some (show x < 9 by omega) (by decide)]
      have er := hV.2.2.1
      first | refine B_ifne1 (tgt := 23) dX7_reach_17 (by with_reducible rfl) (by decide) ?_ | refine B_ifne0 (pc2 := 20) (tgt := 23) dX7_reach_17 (by with_reducible rfl) (by decide) rfl ?_ | refine N_ifne (pc2 := 20) (tgt := 23) dX7_reach_17 (by with_reducible rfl) (by decide) (by omega) rfl (fun c17 => ?_) (fun c17 => ?_) | refine T_ifne (pc2 := 20) (tgt := 23) dX7_reach_17 (by decide) rfl (fun c17 => ?_) (fun c17 => ?_)
      refine T_aload_n (pc2 := 24) dX7_reach_23 rfl rfl ?_
      refine G_getR (pc2 := 27) dX7_reach_24 flX7_26 (sh4 S) rfl rfl ?_
      refine G_getI (pc2 := 30) dX7_reach_27 flX7_196 (sc20 S).1 rfl (by first | with_reducible assumption | exact gs_eq _ _ _ _ | exact (gs_ne _ _ (by omega)).trans (by with_reducible assumption) | exact (gs_ne _ _ (by omega)).trans (gs_eq _ _ _ _) | exact (gs_ne _ _ (by omega)).trans ((gs_ne _ _ (by omega)).trans (by with_reducible assumption)) | exact (gs_ne _ _ (by omega)).trans ((gs_ne _ _ (by omega)).trans (gs_eq _ _ _ _)) | exact (gs_ne _ _ (by omega)).trans ((gs_ne _ _ (by omega)).trans ((gs_ne _ _ (by omega)).trans (by with_reducible assumption))) | rfl) rfl ?_
      refine T_istore_n (pc2 := 31) dX7_reach_30 (by decide) rfl ?_
      refine T_aload_n (pc2 := 32) dX7_reach_31 rfl rfl ?_
      refine G_getR (pc2 := 35) dX7_reach_32 flX7_36 (sh4 S) rfl rfl ?_
      refine T_aload_n (pc2 := 36) dX7_reach_35 rfl rfl ?_
      refine G_getR (pc2 := 39) dX7_reach_36 flX7_26 (sh4 S) rfl rfl ?_
      refine C_V1 (kc := 0) (ks := 0) (pc2 := 42) (mc := 6) (ms := 48) dX7_reach_39 cvX0_keep mlX7_153 (isO.h (sh32 S) _) (Nat.le_of_ble_eq_true rfl) rfl ?_
      refine j_keep hI hokV hok.2.2.2.1 (fun sk3 g3 n3 bf3 hI3 hf3 => ?_)
      have S := hI3.1
      have hV3 := hI3.2.2.2.2.2.1
      refine T_aload_n (pc2 := 43) dX7_reach_42 rfl rfl ?_
      refine G_getR (pc2 := 46) dX7_reach_43 flX7_26 (sh4 S) rfl rfl ?_
      refine T_iload_n (pc2 := 47) dX7_reach_46 rfl rfl ?_
      refine G_putI (pc2 := 50) dX7_reach_47 flX7_196 (sc20 S).1 rfl rfl rfl rfl ?_
      refine T_iload_n (pc2 := 51) dX7_reach_50 rfl rfl ?_
      refine T_iret dX7_reach_51 rfl rfl ?_
      have hf4 : Fr 20 26 g3 (gset g3 20 2 (nI x)) := Fr.rf.st (by omega) (by omega)
      exact fin_new k (hI3.cel hV3.setR hf4) (hf3.tr (FrJ.of hf4 (by decide) (by decide))) hs
    · first | refine B_ifne1 (tgt := 23) dX7_reach_17 (by with_reducible rfl) (by decide) ?_ | refine B_ifne0 (pc2 := 20) (tgt := 23) dX7_reach_17 (by with_reducible rfl) (by decide) rfl ?_ | refine N_ifne (pc2 := 20) (tgt := 23) dX7_reach_17 (by with_reducible rfl) (by decide) (by omega) rfl (fun c17 => ?_) (fun c17 => ?_) | refine T_ifne (pc2 := 20) (tgt := 23) dX7_reach_17 (by decide) rfl (fun c17 => ?_) (fun c17 => ?_)
      refine T_ldc (pc2 := 22) dX7_reach_20 kcX7_66 rfl ?_
      refine T_iret dX7_reach_22 rfl rfl ?_
      refine fin_same k hI ?_
      unfold sReach
      rw [if_neg (by omega), inN_none (fun j hj => hno j (by omega))]
theorem j_seal {j nt y : Int32} (hI : JJ sk g n bf im above below nx s) (hok : Ok s) (k : ∀ sk2 g2 n2, InvJ sk2 g2 n2 (sSeal s j nt y).2 → FrJ sk g sk2 g2 → Q (some (.int (sSeal s j nt y).1)) (HP sk2 g2 n2)) : Calls MX7_seal (d + 3) 6 48 [.ref 4, .int j, .int nt, .int y] (HP sk g n) Q := by
  have S := hI.1
  have hV := hI.2.2.2.2.2.1
  have hokV := hok.2.2.1.1
  have hJ8 := hokV.1
  refine Calls.of (by decide +kernel) (Nat.le_of_ble_eq_true rfl) ?_
  refine T_aload_n (pc2 := 1) dX7_seal_0 rfl rfl ?_
  refine T_iload_n (pc2 := 2) dX7_seal_1 rfl rfl ?_
  refine C_V1 (pc2 := 5) (mc := 0) (ms := 0) dX7_seal_2 cvX7_isJar mlX7_174 (isO.h (sh4 S) _) (Nat.le_of_ble_eq_true rfl) rfl ?_
  refine c_isJar S hV.1 hokV.1 (fun x hx ex => ?_) (fun hno => ?_)
  · subst ex
    first | refine B_ifeq1 (pc2 := 8) (tgt := 25) dX7_seal_5 (by with_reducible rfl) (by decide) rfl ?_ | refine B_ifeq0 (tgt := 25) dX7_seal_5 (by with_reducible rfl) (by decide) ?_ | refine N_ifeq (pc2 := 8) (tgt := 25) dX7_seal_5 (by with_reducible rfl) (by decide) (by omega) rfl (fun c5 => ?_) (fun c5 => ?_) | refine T_ifeq (pc2 := 8) (tgt := 25) dX7_seal_5 (by decide) rfl (fun c5 => ?_) (fun c5 => ?_)
    refine T_iload_n (pc2 := 9) dX7_seal_8 rfl rfl ?_
    refine C_S1 (pc2 := 12) (mc := 0) (ms := 0) dX7_seal_9 csX7_isNote mlX7_190 (Nat.le_of_ble_eq_true rfl) rfl ?_
    refine c_isNote (fun a ha ea => ?_) (fun hno => ?_)
    · subst ea
      first | refine B_ifeq1 (pc2 := 15) (tgt := 25) dX7_seal_12 (by with_reducible rfl) (by decide) rfl ?_ | refine B_ifeq0 (tgt := 25) dX7_seal_12 (by with_reducible rfl) (by decide) ?_ | refine N_ifeq (pc2 := 15) (tgt := 25) dX7_seal_12 (by with_reducible rfl) (by decide) (by omega) rfl (fun c12 => ?_) (fun c12 => ?_) | refine T_ifeq (pc2 := 15) (tgt := 25) dX7_seal_12 (by decide) rfl (fun c12 => ?_) (fun c12 => ?_)
      refine T_iload_n (pc2 := 16) dX7_seal_15 rfl rfl ?_
      refine T_iconst (pc2 := 17) dX7_seal_16 ic1 rfl ?_
      refine T_bipush (pc2 := 19) dX7_seal_17 bp60 rfl ?_
      refine C_S3 (pc2 := 22) (mc := 0) (ms := 0) dX7_seal_19 csX7_within mlX7_62 (Nat.le_of_ble_eq_true rfl) rfl ?_
      refine c_within (fun h1 h2 => ?_) (fun hno => ?_)
      · obtain ⟨yy, hyy, e⟩ := nI_of2 (x := y) (M := nI 60) (n := 60) (nI_toInt (by decide)) (Int32.not_lt.mpr (Int32.le_trans (by decide) h1)) h2
        subst e
        have h1 : 1 ≤ yy := (nI_leI (by decide) (by omega)).mp h1
        obtain ⟨z, rfl⟩ : ∃ z, yy = z + 1 := ⟨yy - 1, by omega⟩
        have hs : sSeal s (nI x) (nI a) (nI (z + 1)) = if s.V.hw x = 0 then (STATE, s) else (nI (bm ((((s.V.sethw x 0).setnt x a).setkp x (z + 1)).th 0) 8), s.keep.setV (((s.V.sethw x 0).setnt x a).setkp x (z + 1))) := by
          unfold sSeal
          rw [inN_some hx (by omega), inN_some ha (by decide), inN_some (show z + 1 < 61 by omega) (by decide)]
        have eh := (hV.2.2.2 x hx).2.2.2.2
        have h3 := (hokV.2.2.2.1 x hx).2.2.2.2.2.2
        first | refine B_ifne1 (tgt := 28) dX7_seal_22 (by with_reducible rfl) (by decide) ?_ | refine B_ifne0 (pc2 := 25) (tgt := 28) dX7_seal_22 (by with_reducible rfl) (by decide) rfl ?_ | refine N_ifne (pc2 := 25) (tgt := 28) dX7_seal_22 (by with_reducible rfl) (by decide) (by omega) rfl (fun c22 => ?_) (fun c22 => ?_) | refine T_ifne (pc2 := 25) (tgt := 28) dX7_seal_22 (by decide) rfl (fun c22 => ?_) (fun c22 => ?_)
        refine T_aload_n (pc2 := 29) dX7_seal_28 rfl rfl ?_
        refine G_getR (pc2 := 32) dX7_seal_29 flX7_26 (sh4 S) rfl rfl ?_
        refine G_getR (pc2 := 35) dX7_seal_32 flX7_177 (sc20 S).1 rfl rfl ?_
        refine T_iload_n (pc2 := 36) dX7_seal_35 rfl rfl ?_
        refine G_iald (pc2 := 37) dX7_seal_36 (sc20 S).2.2.2.2.2 (by omega) (by first | decide | omega) (by first | with_reducible assumption | exact gs_eq _ _ _ _ | exact (gs_ne _ _ (by omega)).trans (by with_reducible assumption) | exact (gs_ne _ _ (by omega)).trans (gs_eq _ _ _ _) | exact (gs_ne _ _ (by omega)).trans ((gs_ne _ _ (by omega)).trans (by with_reducible assumption)) | exact (gs_ne _ _ (by omega)).trans ((gs_ne _ _ (by omega)).trans (gs_eq _ _ _ _)) | exact (gs_ne _ _ (by omega)).trans ((gs_ne _ _ (by omega)).trans ((gs_ne _ _ (by omega)).trans (by with_reducible assumption))) | rfl) rfl ?_
        first | refine B_ifne1 (tgt := 43) dX7_seal_37 (by with_reducible rfl) (by decide) ?_ | refine B_ifne0 (pc2 := 40) (tgt := 43) dX7_seal_37 (by with_reducible rfl) (by decide) rfl ?_ | refine N_ifne (pc2 := 40) (tgt := 43) dX7_seal_37 (by with_reducible rfl) (by decide) (by omega) rfl (fun c37 => ?_) (fun c37 => ?_) | refine T_ifne (pc2 := 40) (tgt := 43) dX7_seal_37 (by decide) rfl (fun c37 => ?_) (fun c37 => ?_)
        · refine T_aload_n (pc2 := 44) dX7_seal_43 rfl rfl ?_
          refine G_getR (pc2 := 47) dX7_seal_44 flX7_36 (sh4 S) rfl rfl ?_
          refine T_aload_n (pc2 := 48) dX7_seal_47 rfl rfl ?_
          refine G_getR (pc2 := 51) dX7_seal_48 flX7_26 (sh4 S) rfl rfl ?_
          refine C_V1 (kc := 0) (ks := 0) (pc2 := 54) (mc := 6) (ms := 48) dX7_seal_51 cvX0_keep mlX7_153 (isO.h (sh32 S) _) (Nat.le_of_ble_eq_true rfl) rfl ?_
          refine j_keep hI hokV hok.2.2.2.1 (fun sk3 g3 n3 bf3 hI3 hf3 => ?_)
          have S := hI3.1
          have hV3 := hI3.2.2.2.2.2.1
          refine T_aload_n (pc2 := 55) dX7_seal_54 rfl rfl ?_
          refine G_getR (pc2 := 58) dX7_seal_55 flX7_26 (sh4 S) rfl rfl ?_
          refine G_getR (pc2 := 61) dX7_seal_58 flX7_177 (sc20 S).1 rfl rfl ?_
          refine T_iload_n (pc2 := 62) dX7_seal_61 rfl rfl ?_
          refine T_iconst (pc2 := 63) dX7_seal_62 ic0 rfl ?_
          refine G_iast (pc2 := 64) dX7_seal_63 (sc20 S).2.2.2.2.2 (by omega) (by decide) rfl ?_
          refine T_aload_n (pc2 := 65) dX7_seal_64 rfl rfl ?_
          refine G_getR (pc2 := 68) dX7_seal_65 flX7_26 (sh4 S) rfl rfl ?_
          refine G_getR (pc2 := 71) dX7_seal_68 flX7_180 (sc20 S).1 rfl rfl ?_
          refine T_iload_n (pc2 := 72) dX7_seal_71 rfl rfl ?_
          refine T_iload_n (pc2 := 73) dX7_seal_72 rfl rfl ?_
          refine G_iast (pc2 := 74) dX7_seal_73 (sc20 S).2.2.1 (by omega) (by decide) rfl ?_
          refine T_aload_n (pc2 := 75) dX7_seal_74 rfl rfl ?_
          refine G_getR (pc2 := 78) dX7_seal_75 flX7_26 (sh4 S) rfl rfl ?_
          refine G_getR (pc2 := 81) dX7_seal_78 flX7_193 (sc20 S).1 rfl rfl ?_
          refine T_iload_n (pc2 := 82) dX7_seal_81 rfl rfl ?_
          refine T_iload_n (pc2 := 83) dX7_seal_82 rfl rfl ?_
          refine G_iast (pc2 := 84) dX7_seal_83 (sc20 S).2.2.2.1 (by omega) (by decide) rfl ?_
          refine T_aload_n (pc2 := 85) dX7_seal_84 rfl rfl ?_
          refine G_getR (pc2 := 88) dX7_seal_85 flX7_26 (sh4 S) rfl rfl ?_
          refine T_iconst (pc2 := 89) dX7_seal_88 ic0 rfl ?_
          refine C_V1 (pc2 := 92) (mc := 0) (ms := 0) dX7_seal_89 cvX2_those mlX7_159 (isO.h (sc20 S).1 _) (Nat.le_of_ble_eq_true rfl) rfl ?_
          have hV4 := (hV3.sethw (j := x) (v := 0)).setnt (j := x) (v := a) |>.setkp (j := x) (v := z + 1)
          refine c_those (sc20 S) hV4 hokV.1 (by decide) (fun i hi => ?_) ?_
          · show va_up s.V.hw x 0 i < 2 ^ 31
            have := (hokV.2.2.2.1 i hi).2.2.2.2.2.2
            by_cases e : i = x
            · simp [va_up, e]
            · simp only [va_up, if_neg e]; omega
          · refine T_iret dX7_seal_92 rfl rfl ?_
            have hf4 : Fr 20 26 g3 (gset (gset (gset g3 (20 + 5) x (nI 0)) (20 + 2) x (nI a)) (20 + 3) x (nI (z + 1))) := ((Fr.rf.st (by omega) (by omega)).st (by omega) (by omega)).st (by omega) (by omega)
            exact fin_new k (hI3.cel hV4 hf4) (hf3.tr (FrJ.of hf4 (by decide) (by decide))) (by rw [hs, if_neg c37]; rfl)
        · refine T_ldc (pc2 := 42) dX7_seal_40 kcX7_145 rfl ?_
          refine T_iret dX7_seal_42 rfl rfl ?_
          exact fin_same k hI (by rw [hs, if_pos c37])
      · first | refine B_ifne1 (tgt := 28) dX7_seal_22 (by with_reducible rfl) (by decide) ?_ | refine B_ifne0 (pc2 := 25) (tgt := 28) dX7_seal_22 (by with_reducible rfl) (by decide) rfl ?_ | refine N_ifne (pc2 := 25) (tgt := 28) dX7_seal_22 (by with_reducible rfl) (by decide) (by omega) rfl (fun c22 => ?_) (fun c22 => ?_) | refine T_ifne (pc2 := 25) (tgt := 28) dX7_seal_22 (by decide) rfl (fun c22 => ?_) (fun c22 => ?_)
        refine T_ldc (pc2 := 27) dX7_seal_25 kcX7_66 rfl ?_
        refine T_iret dX7_seal_27 rfl rfl ?_
        refine fin_same k hI ?_
        unfold sSeal
        rw [inN_some hx (by omega), inN_some ha (by decide)]
        cases q : inN y 61 with
        | none => rfl
        | some w =>
          cases w with
          | zero => rfl
          | succ w =>
            have := inN_of q
            exact absurd ⟨by rw [this.2]; exact nI_le (by omega) (by omega), by rw [this.2]; exact nI_le (by omega) (by decide)⟩ hno
    · first | refine B_ifeq1 (pc2 := 15) (tgt := 25) dX7_seal_12 (by with_reducible rfl) (by decide) rfl ?_ | refine B_ifeq0 (tgt := 25) dX7_seal_12 (by with_reducible rfl) (by decide) ?_ | refine N_ifeq (pc2 := 15) (tgt := 25) dX7_seal_12 (by with_reducible rfl) (by decide) (by omega) rfl (fun c12 => ?_) (fun c12 => ?_) | refine T_ifeq (pc2 := 15) (tgt := 25) dX7_seal_12 (by decide) rfl (fun c12 => ?_) (fun c12 => ?_)
      refine T_ldc (pc2 := 27) dX7_seal_25 kcX7_66 rfl ?_
      refine T_iret dX7_seal_27 rfl rfl ?_
      refine fin_same k hI ?_
      unfold sSeal
      rw [inN_none hno]
      cases inN (nI x) s.V.J <;> rfl
  · first | refine B_ifeq1 (pc2 := 8) (tgt := 25) dX7_seal_5 (by with_reducible rfl) (by decide) rfl ?_ | refine B_ifeq0 (tgt := 25) dX7_seal_5 (by with_reducible rfl) (by decide) ?_ | refine N_ifeq (pc2 := 8) (tgt := 25) dX7_seal_5 (by with_reducible rfl) (by decide) (by omega) rfl (fun c5 => ?_) (fun c5 => ?_) | refine T_ifeq (pc2 := 8) (tgt := 25) dX7_seal_5 (by decide) rfl (fun c5 => ?_) (fun c5 => ?_)
    refine T_ldc (pc2 := 27) dX7_seal_25 kcX7_66 rfl ?_
    refine T_iret dX7_seal_27 rfl rfl ?_
    refine fin_same k hI ?_
    unfold sSeal
    rw [inN_none hno]
end JActs

