/-! the model: the worst, sneezes, years, changes, keeping -/
def Fk (g g2 : Nat → Nat → Int32) : Prop := (∀ i, i ≠ 48 → i ≠ 57 → i ≠ 58 → g2 i = g i) ∧ ∀ k, k ≠ 21 → k ≠ 22 → k ≠ 23 → g2 48 k = g 48 k
theorem Fk.rf {g : Nat → Nat → Int32} : Fk g g := ⟨fun _ _ _ _ => rfl, fun _ _ _ _ => rfl⟩
theorem Fk.tr {g g2 g3 : Nat → Nat → Int32} (h : Fk g g2) (h2 : Fk g2 g3) : Fk g g3 := ⟨fun i a b c => (h2.1 i a b c).trans (h.1 i a b c), fun k a b c => (h2.2 k a b c).trans (h.2 k a b c)⟩
theorem Fc.fk {g g2 : Nat → Nat → Int32} (h : Fc g g2) : Fk g g2 := ⟨h.1, fun k a _ _ => h.2 k a⟩
theorem Fk.st {g g2 : Nat → Nat → Int32} {k : Nat} {v : Int32} (h : Fk g g2) (hi : k = 21 ∨ k = 22 ∨ k = 23) : Fk g (gset g2 48 k v) := by
  refine ⟨fun j a b c => ?_, fun q a b c => ?_⟩
  · rw [gs_row (by omega)]; exact h.1 j a b c
  · rw [gs_ne _ _ (by omega)]; exact h.2 q a b c
theorem Fk.ms {g g2 : Nat → Nat → Int32} (h : Fk g g2) : Ms g g2 := ⟨fun i a _ _ b c => h.1 i a b c, fun k hk => h.2 k (by omega) (by omega) (by omega)⟩
def okW (g g2 : Nat → Nat → Int32) (s : Nat × Nat × Nat) : Prop := (1 ≤ s.1 → g2 48 22 = nI s.2.1 ∧ g2 48 23 = nI s.2.2) ∧ Fk g g2
def Cel.setpl (V : Cel) (j v : Nat) : Cel := (V.J, V.Y, V.R, V.kd, V.nt, V.kp, va_up V.pl j v, V.hw)
def Cel.setY (V : Cel) (v : Nat) : Cel := (V.J, v, V.R, V.kd, V.nt, V.kp, V.pl, V.hw)
theorem swap_pl (V : Cel) (a b : Nat) : V.swap a b = (V.setpl a (V.pl b)).setpl b (V.pl a) := by
  unfold Cel.swap Cel.setpl
  simp only [Cel.J, Cel.Y, Cel.R, Cel.kd, Cel.nt, Cel.kp, Cel.pl, Cel.hw]
  congr
theorem hasM.cg {f f2 : Nat → Int32} {V U : Cel} (h : hasM f V) (hf : ∀ k, k < 43 → f2 k = f k) (hJ : V.J ≤ 8) (e1 : U.J = V.J) (e2 : U.Y = V.Y) (e3 : U.R = V.R) (e4 : ∀ j, j < V.J → U.kd j = V.kd j ∧ U.nt j = V.nt j ∧ U.kp j = V.kp j ∧ U.pl j = V.pl j ∧ U.hw j = V.hw j) : hasM f2 U := by
  refine ⟨by rw [hf 0 (by omega), e1]; exact h.1, by rw [hf 1 (by omega), e2]; exact h.2.1, by rw [hf 2 (by omega), e3]; exact h.2.2.1, fun j hj => ?_⟩
  rw [e1] at hj
  have a := h.2.2.2 j hj
  have b := e4 j hj
  rw [hf _ (by omega), hf _ (by omega), hf _ (by omega), hf _ (by omega), hf _ (by omega), b.1, b.2.1, b.2.2.1, b.2.2.2.1, b.2.2.2.2]
  exact a
theorem hasM.copy {f f2 : Nat → Int32} {V : Cel} (h : hasM f V) (hf : ∀ k, k < 43 → f2 k = f k) (hJ : V.J ≤ 8) : hasM f2 V := h.cg hf hJ rfl rfl rfl (fun _ _ => ⟨rfl, rfl, rfl, rfl, rfl⟩)
theorem gs_at {g : Nat → Nat → Int32} {w k : Nat} {v : Int32} {q : Nat} (h : q ≠ k) : gset g w k v w q = g w q := gs_ne _ _ (Or.inr h)
section MSet
variable {g : Nat → Nat → Int32} {w : Nat} {V : Cel} {j v : Nat}
theorem hasM.sethw (h : hasM (g w) V) : hasM (gset g w (3 + 5 * j + 4) (nI v) w) (V.sethw j v) := by
  refine ⟨by rw [gs_at (by omega)]; exact h.1, by rw [gs_at (by omega)]; exact h.2.1, by rw [gs_at (by omega)]; exact h.2.2.1, fun i hi => ?_⟩
  have a := h.2.2.2 i hi
  rw [gs_at (q := 3 + 5 * i + 0) (by omega), gs_at (q := 3 + 5 * i + 1) (by omega), gs_at (q := 3 + 5 * i + 2) (by omega), gs_at (q := 3 + 5 * i + 3) (by omega)]
  refine ⟨a.1, a.2.1, a.2.2.1, a.2.2.2.1, ?_⟩
  show _ = nI (va_up V.hw j v i)
  by_cases e : i = j
  · subst e
    rw [gs_eq]
    simp [va_up]
  · rw [gs_at (by omega), a.2.2.2.2]
    simp [va_up, e]
theorem hasM.setpl (h : hasM (g w) V) : hasM (gset g w (3 + 5 * j + 3) (nI v) w) (V.setpl j v) := by
  refine ⟨by rw [gs_at (by omega)]; exact h.1, by rw [gs_at (by omega)]; exact h.2.1, by rw [gs_at (by omega)]; exact h.2.2.1, fun i hi => ?_⟩
  have a := h.2.2.2 i hi
  rw [gs_at (q := 3 + 5 * i + 0) (by omega), gs_at (q := 3 + 5 * i + 1) (by omega), gs_at (q := 3 + 5 * i + 2) (by omega), gs_at (q := 3 + 5 * i + 4) (by omega)]
  refine ⟨a.1, a.2.1, a.2.2.1, ?_, a.2.2.2.2⟩
  show _ = nI (va_up V.pl j v i)
  by_cases e : i = j
  · subst e
    rw [gs_eq]
    simp [va_up]
  · rw [gs_at (by omega), a.2.2.2.1]
    simp [va_up, e]
theorem hasM.setkp (h : hasM (g w) V) : hasM (gset g w (3 + 5 * j + 2) (nI v) w) (V.setkp j v) := by
  refine ⟨by rw [gs_at (by omega)]; exact h.1, by rw [gs_at (by omega)]; exact h.2.1, by rw [gs_at (by omega)]; exact h.2.2.1, fun i hi => ?_⟩
  have a := h.2.2.2 i hi
  rw [gs_at (q := 3 + 5 * i + 0) (by omega), gs_at (q := 3 + 5 * i + 1) (by omega), gs_at (q := 3 + 5 * i + 3) (by omega), gs_at (q := 3 + 5 * i + 4) (by omega)]
  refine ⟨a.1, a.2.1, ?_, a.2.2.2⟩
  show _ = nI (va_up V.kp j v i)
  by_cases e : i = j
  · subst e
    rw [gs_eq]
    simp [va_up]
  · rw [gs_at (by omega), a.2.2.1]
    simp [va_up, e]
theorem hasM.setnt (h : hasM (g w) V) : hasM (gset g w (3 + 5 * j + 1) (nI v) w) (V.setnt j v) := by
  refine ⟨by rw [gs_at (by omega)]; exact h.1, by rw [gs_at (by omega)]; exact h.2.1, by rw [gs_at (by omega)]; exact h.2.2.1, fun i hi => ?_⟩
  have a := h.2.2.2 i hi
  rw [gs_at (q := 3 + 5 * i + 0) (by omega), gs_at (q := 3 + 5 * i + 2) (by omega), gs_at (q := 3 + 5 * i + 3) (by omega), gs_at (q := 3 + 5 * i + 4) (by omega)]
  refine ⟨a.1, ?_, a.2.2⟩
  show _ = nI (va_up V.nt j v i)
  by_cases e : i = j
  · subst e
    rw [gs_eq]
    simp [va_up]
  · rw [gs_at (by omega), a.2.1]
    simp [va_up, e]
theorem hasM.setkd (h : hasM (g w) V) : hasM (gset g w (3 + 5 * j + 0) (nI v) w) (V.setkd j v) := by
  refine ⟨by rw [gs_at (by omega)]; exact h.1, by rw [gs_at (by omega)]; exact h.2.1, by rw [gs_at (by omega)]; exact h.2.2.1, fun i hi => ?_⟩
  have a := h.2.2.2 i hi
  rw [gs_at (q := 3 + 5 * i + 1) (by omega), gs_at (q := 3 + 5 * i + 2) (by omega), gs_at (q := 3 + 5 * i + 3) (by omega), gs_at (q := 3 + 5 * i + 4) (by omega)]
  refine ⟨?_, a.2⟩
  show _ = nI (va_up V.kd j v i)
  by_cases e : i = j
  · subst e
    rw [gs_eq]
    simp [va_up]
  · rw [gs_at (by omega), a.1]
    simp [va_up, e]
theorem hasM.setR (h : hasM (g w) V) : hasM (gset g w 2 (nI v) w) (V.setR v) := by
  refine ⟨by rw [gs_at (by omega)]; exact h.1, by rw [gs_at (by omega)]; exact h.2.1, gs_eq _ _ _ _, fun i hi => ?_⟩
  have a := h.2.2.2 i hi
  rw [gs_at (q := 3 + 5 * i + 0) (by omega), gs_at (q := 3 + 5 * i + 1) (by omega), gs_at (q := 3 + 5 * i + 2) (by omega), gs_at (q := 3 + 5 * i + 3) (by omega), gs_at (q := 3 + 5 * i + 4) (by omega)]
  exact a
theorem hasM.setY (h : hasM (g w) V) : hasM (gset g w 1 (nI v) w) (V.setY v) := by
  refine ⟨by rw [gs_at (by omega)]; exact h.1, gs_eq _ _ _ _, by rw [gs_at (by omega)]; exact h.2.2.1, fun i hi => ?_⟩
  have a := h.2.2.2 i hi
  rw [gs_at (q := 3 + 5 * i + 0) (by omega), gs_at (q := 3 + 5 * i + 1) (by omega), gs_at (q := 3 + 5 * i + 2) (by omega), gs_at (q := 3 + 5 * i + 3) (by omega), gs_at (q := 3 + 5 * i + 4) (by omega)]
  exact a
end MSet
def ymJ (V : Cel) (k : Nat) : Cel := (V.J, V.Y, V.R, V.kd, V.nt, fun j => if j < k ∧ V.hw j = 0 then V.kp j - 1 else V.kp j, V.pl, fun j => if j < k ∧ V.hw j = 0 ∧ V.kp j ≤ 1 then 2 else V.hw j)
theorem ymJ_0 (V : Cel) : ymJ V 0 = V := by
  unfold ymJ
  simp only [Nat.not_lt_zero, false_and, if_false]
theorem ymJ_n {V : Cel} {t : Nat} (h : V.hw t ≠ 0) : ymJ V (t + 1) = ymJ V t := by
  unfold ymJ
  have e1 : (fun j => if j < t + 1 ∧ V.hw j = 0 then V.kp j - 1 else V.kp j) = fun j => if j < t ∧ V.hw j = 0 then V.kp j - 1 else V.kp j := by
    funext j
    by_cases e : j = t
    · subst e; simp [h]
    · have : j < t + 1 ↔ j < t := by omega
      simp only [this]
  have e2 : (fun j => if j < t + 1 ∧ V.hw j = 0 ∧ V.kp j ≤ 1 then 2 else V.hw j) = fun j => if j < t ∧ V.hw j = 0 ∧ V.kp j ≤ 1 then 2 else V.hw j := by
    funext j
    by_cases e : j = t
    · subst e; simp [h]
    · have : j < t + 1 ↔ j < t := by omega
      simp only [this]
  rw [e1, e2]
theorem ymJ_y {V : Cel} {t : Nat} (h : V.hw t = 0) : ymJ V (t + 1) = ((ymJ V t).setkp t (V.kp t - 1)).sethw t (if V.kp t - 1 = 0 then 2 else 0) := by
  unfold ymJ Cel.setkp Cel.sethw
  simp only [Cel.J, Cel.Y, Cel.R, Cel.kd, Cel.nt, Cel.kp, Cel.pl, Cel.hw]
  have e1 : (fun j => if j < t + 1 ∧ V.2.2.2.2.2.2.2 j = 0 then V.2.2.2.2.2.1 j - 1 else V.2.2.2.2.2.1 j) = va_up (fun j => if j < t ∧ V.2.2.2.2.2.2.2 j = 0 then V.2.2.2.2.2.1 j - 1 else V.2.2.2.2.2.1 j) t (V.2.2.2.2.2.1 t - 1) := by
    funext j
    by_cases e : j = t
    · subst e
      have h : V.2.2.2.2.2.2.2 j = 0 := h
      simp [va_up, h]
    · have : j < t + 1 ↔ j < t := by omega
      simp only [va_up, if_neg e, this]
  have e2 : (fun j => if j < t + 1 ∧ V.2.2.2.2.2.2.2 j = 0 ∧ V.2.2.2.2.2.1 j ≤ 1 then 2 else V.2.2.2.2.2.2.2 j) = va_up (fun j => if j < t ∧ V.2.2.2.2.2.2.2 j = 0 ∧ V.2.2.2.2.2.1 j ≤ 1 then 2 else V.2.2.2.2.2.2.2 j) t (if V.2.2.2.2.2.1 t - 1 = 0 then 2 else 0) := by
    funext j
    by_cases e : j = t
    · subst e
      have h : V.2.2.2.2.2.2.2 j = 0 := h
      have : V.2.2.2.2.2.1 j - 1 = 0 ↔ V.2.2.2.2.2.1 j ≤ 1 := by omega
      simp [va_up, h, this]
    · have : j < t + 1 ↔ j < t := by omega
      simp only [va_up, if_neg e, this]
  rw [e1, e2]
theorem ymJ_age (V : Cel) : (ymJ V V.J).setY (V.Y + 1) = V.age := rfl
theorem smJ_n {V : Cel} {b : Nat → Bool} {t : Nat} (h : b t = false) : smashJ V b (t + 1) = smashJ V b t := by
  unfold smashJ
  have e2 : (fun j => if j < t + 1 ∧ b j = true then 1 else V.hw j) = fun j => if j < t ∧ b j = true then 1 else V.hw j := by
    funext j
    by_cases e : j = t
    · subst e; simp [h]
    · have : j < t + 1 ↔ j < t := by omega
      simp only [this]
  rw [e2]
theorem smJ_y {V : Cel} {b : Nat → Bool} {t : Nat} (h : b t = true) : smashJ V b (t + 1) = (smashJ V b t).sethw t 1 := by
  unfold smashJ Cel.sethw
  simp only [Cel.J, Cel.Y, Cel.R, Cel.kd, Cel.nt, Cel.kp, Cel.pl, Cel.hw]
  have e2 : (fun j => if j < t + 1 ∧ b j = true then 1 else V.2.2.2.2.2.2.2 j) = va_up (fun j => if j < t ∧ b j = true then 1 else V.2.2.2.2.2.2.2 j) t 1 := by
    funext j
    by_cases e : j = t
    · subst e; simp [va_up, h]
    · have : j < t + 1 ↔ j < t := by omega
      simp only [va_up, if_neg e, this]
  rw [e2]
/-- what changes is this row alone -/
def Fo (w : Nat) (g g2 : Nat → Nat → Int32) : Prop := ∀ i, i ≠ w → g2 i = g i
theorem Fo.rf {w : Nat} {g : Nat → Nat → Int32} : Fo w g g := fun _ _ => rfl
theorem Fo.st {w k : Nat} {v : Int32} {g g2 : Nat → Nat → Int32} (h : Fo w g g2) : Fo w g (gset g2 w k v) := fun i hi => by rw [gs_row hi]; exact h i hi
section MWork
variable {sk : Nat → SK} {g : Nat → Nat → Int32} {n w : Nat} {V : Cel} {Q : Option Value → SH → Prop} {d kc ks : Nat} {bf im : Nat → Option Nat} {above below : Int64} {h : SH} {wh : Nat → Bool}
theorem worst_in {t : Nat} (S : Sh sk n bf im above below) (hw : isA sk n w .int 43) (hwd : w ≠ 48 ∧ w ≠ 57 ∧ w ≠ 58) (hV : hasM (g w) V) (hok : okD V) (ht : t < 12) (s0 : Nat × Nat × Nat) (h0 : s0.1 ≤ 9)
    (k : ∀ g2, okW g g2 (mxRow V wh t s0 V.J) → T MX8_worstOf (d + 3) kc ks 71 [(0, .ref 48), (1, .ref w), (2, .int (mI (mxRow V wh t s0 V.J).1)), (3, .int (nI (bm wh 8))), (4, .int (nI t))] [] (HP sk g2 n) Q) :
    ∀ m p g2, p + m = V.J → okW g g2 (mxRow V wh t s0 p) → T MX8_worstOf (d + 3) kc ks 21 [(0, .ref 48), (1, .ref w), (2, .int (mI (mxRow V wh t s0 p).1)), (3, .int (nI (bm wh 8))), (4, .int (nI t)), (5, .int (nI p))] [] (HP sk g2 n) Q := by
  have hJ8 := hok.1
  intro m
  induction m with
  | zero =>
    intro p g2 hp ho
    have e : p = V.J := by omega
    subst e
    have e0 : g2 w 0 = nI V.J := by rw [ho.2.1 w (by omega) (by omega) (by omega)]; exact hV.1
    refine T_iload (pc2 := 23) dX8_worstOf_21 rfl rfl ?_
    refine T_aload_n (pc2 := 24) dX8_worstOf_23 rfl rfl ?_
    refine T_iconst (pc2 := 25) dX8_worstOf_24 ic0 rfl ?_
    refine G_iald (pc2 := 26) dX8_worstOf_25 hw (by omega) (by first | decide | omega) (by first | with_reducible assumption | exact gs_eq _ _ _ _ | exact (gs_ne _ _ (by omega)).trans (by with_reducible assumption) | exact (gs_ne _ _ (by omega)).trans (gs_eq _ _ _ _) | exact (gs_ne _ _ (by omega)).trans ((gs_ne _ _ (by omega)).trans (by with_reducible assumption)) | exact (gs_ne _ _ (by omega)).trans ((gs_ne _ _ (by omega)).trans (gs_eq _ _ _ _)) | exact (gs_ne _ _ (by omega)).trans ((gs_ne _ _ (by omega)).trans ((gs_ne _ _ (by omega)).trans (by with_reducible assumption))) | rfl) rfl ?_
    first | refine N_icmpge (pc2 := 29) (tgt := 71) dX8_worstOf_26 (by decide) (by with_reducible rfl) (by with_reducible rfl) (by omega) (by omega) rfl (fun c26 => ?_) (fun c26 => ?_) | refine T_icmpge (pc2 := 29) (tgt := 71) dX8_worstOf_26 (by decide) rfl (fun c26 => ?_) (fun c26 => ?_)
    · refine T_sub (lks (i := 0) rfl (lks (i := 1) rfl (lks (i := 2) rfl (lks (i := 3) rfl (lks (i := 4) rfl lk0))))) ?_
      exact k g2 ho
    · exact absurd (by omega) c26
  | succ m ih =>
    intro p g2 hp ho
    have hpl : p < V.J := by omega
    have hV2 : hasM (g2 w) V := by rw [ho.2.1 w (by omega) (by omega) (by omega)]; exact hV
    have e0 := hV2.1
    have hle := row_le V wh t s0 p h0
    have hst : mxRow V wh t s0 (p + 1) = mxf V wh t p (mxRow V wh t s0 p) := rfl
    refine T_iload (pc2 := 23) dX8_worstOf_21 rfl rfl ?_
    refine T_aload_n (pc2 := 24) dX8_worstOf_23 rfl rfl ?_
    refine T_iconst (pc2 := 25) dX8_worstOf_24 ic0 rfl ?_
    refine G_iald (pc2 := 26) dX8_worstOf_25 hw (by omega) (by first | decide | omega) (by first | with_reducible assumption | exact gs_eq _ _ _ _ | exact (gs_ne _ _ (by omega)).trans (by with_reducible assumption) | exact (gs_ne _ _ (by omega)).trans (gs_eq _ _ _ _) | exact (gs_ne _ _ (by omega)).trans ((gs_ne _ _ (by omega)).trans (by with_reducible assumption)) | exact (gs_ne _ _ (by omega)).trans ((gs_ne _ _ (by omega)).trans (gs_eq _ _ _ _)) | exact (gs_ne _ _ (by omega)).trans ((gs_ne _ _ (by omega)).trans ((gs_ne _ _ (by omega)).trans (by with_reducible assumption))) | rfl) rfl ?_
    first | refine N_icmpge (pc2 := 29) (tgt := 71) dX8_worstOf_26 (by decide) (by with_reducible rfl) (by with_reducible rfl) (by omega) (by omega) rfl (fun c26 => ?_) (fun c26 => ?_) | refine T_icmpge (pc2 := 29) (tgt := 71) dX8_worstOf_26 (by decide) rfl (fun c26 => ?_) (fun c26 => ?_)
    · exact absurd c26 (by omega)
    · refine T_aload_n (pc2 := 30) dX8_worstOf_29 rfl rfl ?_
      refine T_aload_n (pc2 := 31) dX8_worstOf_30 rfl rfl ?_
      refine T_iload (pc2 := 33) dX8_worstOf_31 rfl rfl ?_
      refine T_iload (pc2 := 35) dX8_worstOf_33 rfl rfl ?_
      refine T_iload_n (pc2 := 36) dX8_worstOf_35 rfl rfl ?_
      refine C_V4 (pc2 := 39) (mc := 0) (ms := 0) dX8_worstOf_36 cvX8_chainOf mlX8_179 (isO.h (sh48 S) _) (Nat.le_of_ble_eq_true rfl) rfl ?_
      refine m_chain S hw hwd hV2 hok ht hpl (fun g3 _ hf3 => ?_)
      refine C_S1 (pc2 := 42) (mc := 0) (ms := 0) dX8_worstOf_39 csX8_bits mlX8_183 (Nat.le_of_ble_eq_true rfl) rfl ?_
      refine m_bits ?_
      have hcb : ct (V.brk t p wh) 8 ≤ 8 := ct_le _ _
      have hih := fun g4 => ih (p + 1) g4 (by omega)
      rw [hst] at hih
      unfold mxf at hih
      refine T_istore (pc2 := 44) dX8_worstOf_42 (by decide) rfl ?_
      refine T_iload (pc2 := 46) dX8_worstOf_44 rfl rfl ?_
      refine T_iload_n (pc2 := 47) dX8_worstOf_46 rfl rfl ?_
      refine T_icmple (pc2 := 50) (tgt := 65) dX8_worstOf_47 (by decide) rfl (fun c47 => ?_) (fun c47 => ?_)
      · have c : V.cB wh t p + 1 ≤ (mxRow V wh t s0 p).1 := (mI_le (show V.cB wh t p < 16 by unfold Cel.cB; omega) (by omega)).mp c47
        rw [if_neg (by omega)] at hih
        first | refine N_iinc (pc2 := 68) dX8_worstOf_65 rfl (by with_reducible rfl) ic1 (by decide) rfl ?_ | refine T_iinc (pc2 := 68) dX8_worstOf_65 rfl rfl (by decide) rfl ?_
        refine T_goto (tgt := 21) dX8_worstOf_68 (by decide) ?_
        refine T_sub (lks (i := 0) rfl (lks (i := 1) rfl (lks (i := 2) rfl (lks (i := 3) rfl (lks (i := 4) rfl (lks (i := 5) rfl lk0)))))) ?_
        exact hih g3 ⟨fun q => by rw [hf3.2 22 (by omega), hf3.2 23 (by omega)]; exact ho.1 q, ho.2.tr hf3.fk⟩
      · have c : ¬ V.cB wh t p + 1 ≤ (mxRow V wh t s0 p).1 := fun z => c47 ((mI_le (show V.cB wh t p < 16 by unfold Cel.cB; omega) (by omega)).mpr z)
        rw [if_pos (by omega)] at hih
        refine T_iload (pc2 := 52) dX8_worstOf_50 rfl rfl ?_
        refine T_istore_n (pc2 := 53) dX8_worstOf_52 (by decide) rfl ?_
        refine T_aload_n (pc2 := 54) dX8_worstOf_53 rfl rfl ?_
        refine T_iload (pc2 := 56) dX8_worstOf_54 rfl rfl ?_
        refine G_putI (pc2 := 59) dX8_worstOf_56 flX8_186 (sh48 S) rfl rfl rfl rfl ?_
        refine T_aload_n (pc2 := 60) dX8_worstOf_59 rfl rfl ?_
        refine T_iload (pc2 := 62) dX8_worstOf_60 rfl rfl ?_
        refine G_putI (pc2 := 65) dX8_worstOf_62 flX8_189 (sh48 S) rfl rfl rfl rfl ?_
        first | refine N_iinc (pc2 := 68) dX8_worstOf_65 rfl (by with_reducible rfl) ic1 (by decide) rfl ?_ | refine T_iinc (pc2 := 68) dX8_worstOf_65 rfl rfl (by decide) rfl ?_
        refine T_goto (tgt := 21) dX8_worstOf_68 (by decide) ?_
        refine T_sub (lks (i := 0) rfl (lks (i := 1) rfl (lks (i := 2) rfl (lks (i := 3) rfl (lks (i := 4) rfl (lks (i := 5) rfl lk0)))))) ?_
        rw [show nI (ct (V.brk t p wh) 8) = mI (V.cB wh t p + 1) from (mI_pos (m := V.cB wh t p + 1) (by omega)).symm]
        refine hih _ ⟨fun _ => ⟨?_, gs_eq _ _ _ _⟩, ((ho.2.tr hf3.fk).st (by omega)).st (by omega)⟩
        rw [gs_ne _ _ (by omega), gs_eq]
theorem worst_out (S : Sh sk n bf im above below) (hw : isA sk n w .int 43) (hwd : w ≠ 48 ∧ w ≠ 57 ∧ w ≠ 58) (hV : hasM (g w) V) (hok : okD V)
    (k : ∀ g2, okW g g2 (V.mx wh) → Q (some (.int (mI (V.mx wh).1))) (HP sk g2 n)) :
    ∀ m t g2, t + m = 12 → okW g g2 (mxAll V wh t) → T MX8_worstOf (d + 3) kc ks 11 [(0, .ref 48), (1, .ref w), (2, .int (mI (mxAll V wh t).1)), (3, .int (nI (bm wh 8))), (4, .int (nI t))] [] (HP sk g2 n) Q := by
  intro m
  induction m with
  | zero =>
    intro t g2 ht ho
    have e : t = 12 := by omega
    subst e
    refine T_iload (pc2 := 13) dX8_worstOf_11 rfl rfl ?_
    refine T_bipush (pc2 := 15) dX8_worstOf_13 bp12 rfl ?_
    first | refine N_icmpge (pc2 := 18) (tgt := 77) dX8_worstOf_15 (by decide) (by with_reducible rfl) (by with_reducible rfl) (by omega) (by omega) rfl (fun c15 => ?_) (fun c15 => ?_) | refine T_icmpge (pc2 := 18) (tgt := 77) dX8_worstOf_15 (by decide) rfl (fun c15 => ?_) (fun c15 => ?_)
    · refine T_iload_n (pc2 := 78) dX8_worstOf_77 rfl rfl ?_
      refine T_iret dX8_worstOf_78 rfl rfl ?_
      exact k g2 ho
    · exact absurd (by omega) c15
  | succ m ih =>
    intro t g2 ht ho
    refine T_iload (pc2 := 13) dX8_worstOf_11 rfl rfl ?_
    refine T_bipush (pc2 := 15) dX8_worstOf_13 bp12 rfl ?_
    first | refine N_icmpge (pc2 := 18) (tgt := 77) dX8_worstOf_15 (by decide) (by with_reducible rfl) (by with_reducible rfl) (by omega) (by omega) rfl (fun c15 => ?_) (fun c15 => ?_) | refine T_icmpge (pc2 := 18) (tgt := 77) dX8_worstOf_15 (by decide) rfl (fun c15 => ?_) (fun c15 => ?_)
    · exact absurd c15 (by omega)
    · refine T_iconst (pc2 := 19) dX8_worstOf_18 ic0 rfl ?_
      refine T_istore (pc2 := 21) dX8_worstOf_19 (by decide) rfl ?_
      refine T_sub (lks (i := 0) rfl (lks (i := 1) rfl (lks (i := 2) rfl (lks (i := 3) rfl (lks (i := 4) rfl (lks (i := 5) rfl lk0)))))) ?_
      refine worst_in (g := g) (t := t) S hw hwd hV hok (by omega) (mxAll V wh t) (all_le V wh t) (fun g3 ho3 => ?_) V.J 0 g2 (by omega) ho
      first | refine N_iinc (pc2 := 74) dX8_worstOf_71 rfl (by with_reducible rfl) ic1 (by decide) rfl ?_ | refine T_iinc (pc2 := 74) dX8_worstOf_71 rfl rfl (by decide) rfl ?_
      refine T_goto (tgt := 11) dX8_worstOf_74 (by decide) ?_
      refine T_sub (lks (i := 0) rfl (lks (i := 1) rfl (lks (i := 2) rfl (lks (i := 3) rfl (lks (i := 4) rfl lk0))))) ?_
      exact ih (t + 1) g3 (by omega) ho3
theorem m_worst (S : Sh sk n bf im above below) (hw : isA sk n w .int 43) (hwd : w ≠ 48 ∧ w ≠ 57 ∧ w ≠ 58) (hV : hasM (g w) V) (hok : okD V) (hJ0 : 0 < V.J)
    (k : ∀ g2, g2 48 22 = nI (V.mx (V.th 0)).2.1 → g2 48 23 = nI (V.mx (V.th 0)).2.2 → Fk g g2 → Q (some (.int (nI (V.wv (V.th 0))))) (HP sk g2 n)) : Calls MX8_worstOf (d + 3) 0 0 [.ref 48, .ref w] (HP sk g n) Q := by
  have hJ8 := hok.1
  refine Calls.of (by decide +kernel) (Nat.le_of_ble_eq_true rfl) ?_
  refine T_iconst (pc2 := 1) dX8_worstOf_0 icm1 rfl ?_
  refine T_istore_n (pc2 := 2) dX8_worstOf_1 (by decide) rfl ?_
  refine T_aload_n (pc2 := 3) dX8_worstOf_2 rfl rfl ?_
  refine T_iconst (pc2 := 4) dX8_worstOf_3 ic0 rfl ?_
  refine C_S2 (pc2 := 7) (mc := 0) (ms := 0) dX8_worstOf_4 csX8_those mlX8_175 (Nat.le_of_ble_eq_true rfl) rfl ?_
  refine m_those hw hV hJ8 (by decide) (hw31d hok) ?_
  refine T_istore_n (pc2 := 8) dX8_worstOf_7 (by decide) rfl ?_
  refine T_iconst (pc2 := 9) dX8_worstOf_8 ic0 rfl ?_
  refine T_istore (pc2 := 11) dX8_worstOf_9 (by decide) rfl ?_
  refine T_sub (lks (i := 0) rfl (lks (i := 1) rfl (lks (i := 2) rfl (lks (i := 3) rfl (lks (i := 4) rfl lk0))))) ?_
  rw [show (-1 : Int32) = mI (mxAll V (V.th 0) 0).1 from (show (-1 : Int32) = mI 0 by decide)]
  have hp := mx_pos V (V.th 0) hJ0
  refine worst_out (g := g) S hw hwd hV hok (fun g2 ho => ?_) 12 0 g rfl ⟨fun q => absurd q (by show ¬ 1 ≤ 0; omega), Fk.rf⟩
  rw [mI_pos hp]
  exact k g2 (ho.1 hp).1 (ho.1 hp).2 ho.2
theorem year_loop (hw : isA sk n w .int 43) (hok : okC V) (k : ∀ g2, hasM (g2 w) (ymJ V V.J) → Fo w g g2 → T MX8_yearOf (d + 1) kc ks 58 [(0, .ref w)] [] (HP sk g2 n) Q) :
    ∀ m t g2, t + m = V.J → hasM (g2 w) (ymJ V t) → Fo w g g2 → T MX8_yearOf (d + 1) kc ks 2 [(0, .ref w), (1, .int (nI t))] [] (HP sk g2 n) Q := by
  have hJ8 := hok.1
  intro m
  induction m with
  | zero =>
    intro t g2 ht hM hf
    have e : t = V.J := by omega
    subst e
    have e0 : g2 w 0 = nI V.J := hM.1
    refine T_iload_n (pc2 := 3) dX8_yearOf_2 rfl rfl ?_
    refine T_aload_n (pc2 := 4) dX8_yearOf_3 rfl rfl ?_
    refine T_iconst (pc2 := 5) dX8_yearOf_4 ic0 rfl ?_
    refine G_iald (pc2 := 6) dX8_yearOf_5 hw (by omega) (by first | decide | omega) (by first | with_reducible assumption | exact gs_eq _ _ _ _ | exact (gs_ne _ _ (by omega)).trans (by with_reducible assumption) | exact (gs_ne _ _ (by omega)).trans (gs_eq _ _ _ _) | exact (gs_ne _ _ (by omega)).trans ((gs_ne _ _ (by omega)).trans (by with_reducible assumption)) | exact (gs_ne _ _ (by omega)).trans ((gs_ne _ _ (by omega)).trans (gs_eq _ _ _ _)) | exact (gs_ne _ _ (by omega)).trans ((gs_ne _ _ (by omega)).trans ((gs_ne _ _ (by omega)).trans (by with_reducible assumption))) | rfl) rfl ?_
    first | refine N_icmpge (pc2 := 9) (tgt := 58) dX8_yearOf_6 (by decide) (by with_reducible rfl) (by with_reducible rfl) (by omega) (by omega) rfl (fun c6 => ?_) (fun c6 => ?_) | refine T_icmpge (pc2 := 9) (tgt := 58) dX8_yearOf_6 (by decide) rfl (fun c6 => ?_) (fun c6 => ?_)
    · refine T_sub (lks (i := 0) rfl lk0) ?_
      exact k g2 hM hf
    · exact absurd (by omega) c6
  | succ m ih =>
    intro t g2 ht hM hf
    have htl : t < V.J := by omega
    have ot := hok.2.2.2.1 t htl
    have e0 : g2 w 0 = nI V.J := hM.1
    have et := hM.2.2.2 t htl
    have ehw : g2 w (3 + 5 * t + 4) = nI (V.hw t) := et.2.2.2.2.trans (congrArg nI (if_neg (by omega)))
    have ekp : g2 w (3 + 5 * t + 2) = nI (V.kp t) := et.2.2.1.trans (congrArg nI (if_neg (by omega)))
    refine T_iload_n (pc2 := 3) dX8_yearOf_2 rfl rfl ?_
    refine T_aload_n (pc2 := 4) dX8_yearOf_3 rfl rfl ?_
    refine T_iconst (pc2 := 5) dX8_yearOf_4 ic0 rfl ?_
    refine G_iald (pc2 := 6) dX8_yearOf_5 hw (by omega) (by first | decide | omega) (by first | with_reducible assumption | exact gs_eq _ _ _ _ | exact (gs_ne _ _ (by omega)).trans (by with_reducible assumption) | exact (gs_ne _ _ (by omega)).trans (gs_eq _ _ _ _) | exact (gs_ne _ _ (by omega)).trans ((gs_ne _ _ (by omega)).trans (by with_reducible assumption)) | exact (gs_ne _ _ (by omega)).trans ((gs_ne _ _ (by omega)).trans (gs_eq _ _ _ _)) | exact (gs_ne _ _ (by omega)).trans ((gs_ne _ _ (by omega)).trans ((gs_ne _ _ (by omega)).trans (by with_reducible assumption))) | rfl) rfl ?_
    first | refine N_icmpge (pc2 := 9) (tgt := 58) dX8_yearOf_6 (by decide) (by with_reducible rfl) (by with_reducible rfl) (by omega) (by omega) rfl (fun c6 => ?_) (fun c6 => ?_) | refine T_icmpge (pc2 := 9) (tgt := 58) dX8_yearOf_6 (by decide) rfl (fun c6 => ?_) (fun c6 => ?_)
    · exact absurd c6 (by omega)
    · refine T_aload_n (pc2 := 10) dX8_yearOf_9 rfl rfl ?_
      refine T_iload_n (pc2 := 11) dX8_yearOf_10 rfl rfl ?_
      refine T_iconst (pc2 := 12) dX8_yearOf_11 ic4 rfl ?_
      refine C_S3 (pc2 := 15) (mc := 0) (ms := 0) dX8_yearOf_12 csX8_of mlX8_154 (Nat.le_of_ble_eq_true rfl) rfl ?_
      refine m_of hw (by omega) ehw ?_
      first | refine B_ifne1 (tgt := 52) dX8_yearOf_15 (by with_reducible rfl) (by decide) ?_ | refine B_ifne0 (pc2 := 18) (tgt := 52) dX8_yearOf_15 (by with_reducible rfl) (by decide) rfl ?_ | refine N_ifne (pc2 := 18) (tgt := 52) dX8_yearOf_15 (by with_reducible rfl) (by decide) (by omega) rfl (fun c15 => ?_) (fun c15 => ?_) | refine T_ifne (pc2 := 18) (tgt := 52) dX8_yearOf_15 (by decide) rfl (fun c15 => ?_) (fun c15 => ?_)
      · first | refine N_iinc (pc2 := 55) dX8_yearOf_52 rfl (by with_reducible rfl) ic1 (by decide) rfl ?_ | refine T_iinc (pc2 := 55) dX8_yearOf_52 rfl rfl (by decide) rfl ?_
        refine T_goto (tgt := 2) dX8_yearOf_55 (by decide) ?_
        refine T_sub (lks (i := 0) rfl (lks (i := 1) rfl lk0)) ?_
        exact ih (t + 1) g2 (by omega) (by rw [ymJ_n c15]; exact hM) hf
      · have hk1 := ot.2.2.2.2.1 c15
        refine T_aload_n (pc2 := 19) dX8_yearOf_18 rfl rfl ?_
        refine T_iload_n (pc2 := 20) dX8_yearOf_19 rfl rfl ?_
        refine T_iconst (pc2 := 21) dX8_yearOf_20 ic2 rfl ?_
        refine T_aload_n (pc2 := 22) dX8_yearOf_21 rfl rfl ?_
        refine T_iload_n (pc2 := 23) dX8_yearOf_22 rfl rfl ?_
        refine T_iconst (pc2 := 24) dX8_yearOf_23 ic2 rfl ?_
        refine C_S3 (pc2 := 27) (mc := 0) (ms := 0) dX8_yearOf_24 csX8_of mlX8_154 (Nat.le_of_ble_eq_true rfl) rfl ?_
        refine m_of hw (by omega) ekp ?_
        refine T_iconst (pc2 := 28) dX8_yearOf_27 ic1 rfl ?_
        first | refine N_isub (pc2 := 29) dX8_yearOf_28 (by with_reducible rfl) (by with_reducible rfl) (by omega) rfl ?_ | refine T_isub (pc2 := 29) dX8_yearOf_28 rfl ?_
        refine C_S4 (pc2 := 32) (mc := 0) (ms := 0) dX8_yearOf_29 csX8_be mlX8_192 (Nat.le_of_ble_eq_true rfl) rfl ?_
        refine m_be hw (by omega) ?_
        refine T_aload_n (pc2 := 33) dX8_yearOf_32 rfl rfl ?_
        refine T_iload_n (pc2 := 34) dX8_yearOf_33 rfl rfl ?_
        refine T_iconst (pc2 := 35) dX8_yearOf_34 ic4 rfl ?_
        refine T_aload_n (pc2 := 36) dX8_yearOf_35 rfl rfl ?_
        refine T_iload_n (pc2 := 37) dX8_yearOf_36 rfl rfl ?_
        refine T_iconst (pc2 := 38) dX8_yearOf_37 ic2 rfl ?_
        refine C_S3 (pc2 := 41) (mc := 0) (ms := 0) dX8_yearOf_38 csX8_of mlX8_154 (Nat.le_of_ble_eq_true rfl) rfl ?_
        refine m_of hw (by omega) (gs_eq _ _ _ _) ?_
        have hM2 := hM.setkp (j := t) (v := V.kp t - 1)
        first | refine B_ifne1 (tgt := 48) dX8_yearOf_41 (by with_reducible rfl) (by decide) ?_ | refine B_ifne0 (pc2 := 44) (tgt := 48) dX8_yearOf_41 (by with_reducible rfl) (by decide) rfl ?_ | refine N_ifne (pc2 := 44) (tgt := 48) dX8_yearOf_41 (by with_reducible rfl) (by decide) (by omega) rfl (fun c41 => ?_) (fun c41 => ?_) | refine T_ifne (pc2 := 44) (tgt := 48) dX8_yearOf_41 (by decide) rfl (fun c41 => ?_) (fun c41 => ?_)
        · refine T_iconst (pc2 := 49) dX8_yearOf_48 ic0 rfl ?_
          refine C_S4 (pc2 := 52) (mc := 0) (ms := 0) dX8_yearOf_49 csX8_be mlX8_192 (Nat.le_of_ble_eq_true rfl) rfl ?_
          refine m_be hw (by omega) ?_
          first | refine N_iinc (pc2 := 55) dX8_yearOf_52 rfl (by with_reducible rfl) ic1 (by decide) rfl ?_ | refine T_iinc (pc2 := 55) dX8_yearOf_52 rfl rfl (by decide) rfl ?_
          refine T_goto (tgt := 2) dX8_yearOf_55 (by decide) ?_
          refine T_sub (lks (i := 0) rfl (lks (i := 1) rfl lk0)) ?_
          refine ih (t + 1) _ (by omega) ?_ hf.st.st
          rw [ymJ_y c15, if_neg c41]
          exact hM2.sethw
        · refine T_iconst (pc2 := 45) dX8_yearOf_44 ic2 rfl ?_
          refine T_goto (tgt := 49) dX8_yearOf_45 (by decide) ?_
          refine C_S4 (pc2 := 52) (mc := 0) (ms := 0) dX8_yearOf_49 csX8_be mlX8_192 (Nat.le_of_ble_eq_true rfl) rfl ?_
          refine m_be hw (by omega) ?_
          first | refine N_iinc (pc2 := 55) dX8_yearOf_52 rfl (by with_reducible rfl) ic1 (by decide) rfl ?_ | refine T_iinc (pc2 := 55) dX8_yearOf_52 rfl rfl (by decide) rfl ?_
          refine T_goto (tgt := 2) dX8_yearOf_55 (by decide) ?_
          refine T_sub (lks (i := 0) rfl (lks (i := 1) rfl lk0)) ?_
          refine ih (t + 1) _ (by omega) ?_ hf.st.st
          rw [ymJ_y c15, if_pos c41]
          exact hM2.sethw
theorem m_year (hw : isA sk n w .int 43) (hV : hasM (g w) V) (hok : okC V) (k : ∀ g2, hasM (g2 w) V.age → Fo w g g2 → Q none (HP sk g2 n)) : Calls MX8_yearOf (d + 1) 0 0 [.ref w] (HP sk g n) Q := by
  refine Calls.of (by decide +kernel) (Nat.le_of_ble_eq_true rfl) ?_
  refine T_iconst (pc2 := 1) dX8_yearOf_0 ic0 rfl ?_
  refine T_istore_n (pc2 := 2) dX8_yearOf_1 (by decide) rfl ?_
  refine T_sub (lks (i := 0) rfl (lks (i := 1) rfl lk0)) ?_
  refine year_loop (g := g) hw hok (fun g2 hM hf => ?_) V.J 0 g (by omega) (by rw [ymJ_0]; exact hV) Fo.rf
  have eY : g2 w 1 = nI V.Y := hM.2.1
  refine T_aload_n (pc2 := 59) dX8_yearOf_58 rfl rfl ?_
  refine T_iconst (pc2 := 60) dX8_yearOf_59 ic1 rfl ?_
  refine T_dup2 (pc2 := 61) dX8_yearOf_60 rfl rfl rfl ?_
  refine G_iald (pc2 := 62) dX8_yearOf_61 hw (by omega) (by first | decide | omega) (by first | with_reducible assumption | exact gs_eq _ _ _ _ | exact (gs_ne _ _ (by omega)).trans (by with_reducible assumption) | exact (gs_ne _ _ (by omega)).trans (gs_eq _ _ _ _) | exact (gs_ne _ _ (by omega)).trans ((gs_ne _ _ (by omega)).trans (by with_reducible assumption)) | exact (gs_ne _ _ (by omega)).trans ((gs_ne _ _ (by omega)).trans (gs_eq _ _ _ _)) | exact (gs_ne _ _ (by omega)).trans ((gs_ne _ _ (by omega)).trans ((gs_ne _ _ (by omega)).trans (by with_reducible assumption))) | rfl) rfl ?_
  refine T_iconst (pc2 := 63) dX8_yearOf_62 ic1 rfl ?_
  first | refine N_iadd (pc2 := 64) dX8_yearOf_63 (by with_reducible rfl) (by with_reducible rfl) rfl ?_ | refine T_iadd (pc2 := 64) dX8_yearOf_63 rfl ?_
  refine G_iast (pc2 := 65) dX8_yearOf_64 hw (by omega) (by decide) rfl ?_
  refine T_ret dX8_yearOf_65 rfl ?_
  refine k _ ?_ hf.st
  rw [← ymJ_age]
  exact hM.setY
theorem sneeze_loop {b : Nat → Bool} (hw : isA sk n w .int 43) (hok : okD V) (k : ∀ g2, hasM (g2 w) (smashJ V b V.J) → Fo w g g2 → Q none (HP sk g2 n)) :
    ∀ m t g2, t + m = V.J → hasM (g2 w) (smashJ V b t) → Fo w g g2 → T MX8_sneezes (d + 1) kc ks 17 [(1, .ref w), (4, .int (nI (bm b 8))), (5, .int (nI t))] [] (HP sk g2 n) Q := by
  have hJ8 := hok.1
  intro m
  induction m with
  | zero =>
    intro t g2 ht hM hf
    have e : t = V.J := by omega
    subst e
    have e0 : g2 w 0 = nI V.J := hM.1
    refine T_iload (pc2 := 19) dX8_sneezes_17 rfl rfl ?_
    refine T_aload_n (pc2 := 20) dX8_sneezes_19 rfl rfl ?_
    refine T_iconst (pc2 := 21) dX8_sneezes_20 ic0 rfl ?_
    refine G_iald (pc2 := 22) dX8_sneezes_21 hw (by omega) (by first | decide | omega) (by first | with_reducible assumption | exact gs_eq _ _ _ _ | exact (gs_ne _ _ (by omega)).trans (by with_reducible assumption) | exact (gs_ne _ _ (by omega)).trans (gs_eq _ _ _ _) | exact (gs_ne _ _ (by omega)).trans ((gs_ne _ _ (by omega)).trans (by with_reducible assumption)) | exact (gs_ne _ _ (by omega)).trans ((gs_ne _ _ (by omega)).trans (gs_eq _ _ _ _)) | exact (gs_ne _ _ (by omega)).trans ((gs_ne _ _ (by omega)).trans ((gs_ne _ _ (by omega)).trans (by with_reducible assumption))) | rfl) rfl ?_
    first | refine N_icmpge (pc2 := 25) (tgt := 49) dX8_sneezes_22 (by decide) (by with_reducible rfl) (by with_reducible rfl) (by omega) (by omega) rfl (fun c22 => ?_) (fun c22 => ?_) | refine T_icmpge (pc2 := 25) (tgt := 49) dX8_sneezes_22 (by decide) rfl (fun c22 => ?_) (fun c22 => ?_)
    · refine T_ret dX8_sneezes_49 rfl ?_
      exact k g2 hM hf
    · exact absurd (by omega) c22
  | succ m ih =>
    intro t g2 ht hM hf
    have e0 : g2 w 0 = nI V.J := hM.1
    refine T_iload (pc2 := 19) dX8_sneezes_17 rfl rfl ?_
    refine T_aload_n (pc2 := 20) dX8_sneezes_19 rfl rfl ?_
    refine T_iconst (pc2 := 21) dX8_sneezes_20 ic0 rfl ?_
    refine G_iald (pc2 := 22) dX8_sneezes_21 hw (by omega) (by first | decide | omega) (by first | with_reducible assumption | exact gs_eq _ _ _ _ | exact (gs_ne _ _ (by omega)).trans (by with_reducible assumption) | exact (gs_ne _ _ (by omega)).trans (gs_eq _ _ _ _) | exact (gs_ne _ _ (by omega)).trans ((gs_ne _ _ (by omega)).trans (by with_reducible assumption)) | exact (gs_ne _ _ (by omega)).trans ((gs_ne _ _ (by omega)).trans (gs_eq _ _ _ _)) | exact (gs_ne _ _ (by omega)).trans ((gs_ne _ _ (by omega)).trans ((gs_ne _ _ (by omega)).trans (by with_reducible assumption))) | rfl) rfl ?_
    first | refine N_icmpge (pc2 := 25) (tgt := 49) dX8_sneezes_22 (by decide) (by with_reducible rfl) (by with_reducible rfl) (by omega) (by omega) rfl (fun c22 => ?_) (fun c22 => ?_) | refine T_icmpge (pc2 := 25) (tgt := 49) dX8_sneezes_22 (by decide) rfl (fun c22 => ?_) (fun c22 => ?_)
    · exact absurd c22 (by omega)
    · refine T_iload (pc2 := 27) dX8_sneezes_25 rfl rfl ?_
      refine T_iload (pc2 := 29) dX8_sneezes_27 rfl rfl ?_
      refine C_S2 (pc2 := 32) (mc := 0) (ms := 0) dX8_sneezes_29 csX8_has mlX8_167 (Nat.le_of_ble_eq_true rfl) rfl ?_
      refine m_has (by omega) (fun hb => ?_) (fun hb => ?_)
      · first | refine B_ifeq1 (pc2 := 35) (tgt := 43) dX8_sneezes_32 (by with_reducible rfl) (by decide) rfl ?_ | refine B_ifeq0 (tgt := 43) dX8_sneezes_32 (by with_reducible rfl) (by decide) ?_ | refine N_ifeq (pc2 := 35) (tgt := 43) dX8_sneezes_32 (by with_reducible rfl) (by decide) (by omega) rfl (fun c32 => ?_) (fun c32 => ?_) | refine T_ifeq (pc2 := 35) (tgt := 43) dX8_sneezes_32 (by decide) rfl (fun c32 => ?_) (fun c32 => ?_)
        refine T_aload_n (pc2 := 36) dX8_sneezes_35 rfl rfl ?_
        refine T_iload (pc2 := 38) dX8_sneezes_36 rfl rfl ?_
        refine T_iconst (pc2 := 39) dX8_sneezes_38 ic4 rfl ?_
        refine T_iconst (pc2 := 40) dX8_sneezes_39 ic1 rfl ?_
        refine C_S4 (pc2 := 43) (mc := 0) (ms := 0) dX8_sneezes_40 csX8_be mlX8_192 (Nat.le_of_ble_eq_true rfl) rfl ?_
        refine m_be hw (by omega) ?_
        first | refine N_iinc (pc2 := 46) dX8_sneezes_43 rfl (by with_reducible rfl) ic1 (by decide) rfl ?_ | refine T_iinc (pc2 := 46) dX8_sneezes_43 rfl rfl (by decide) rfl ?_
        refine T_goto (tgt := 17) dX8_sneezes_46 (by decide) ?_
        refine T_sub (lks (i := 1) rfl (lks (i := 4) rfl (lks (i := 5) rfl lk0))) ?_
        refine ih (t + 1) _ (by omega) ?_ hf.st
        rw [smJ_y hb]
        exact hM.sethw
      · first | refine B_ifeq1 (pc2 := 35) (tgt := 43) dX8_sneezes_32 (by with_reducible rfl) (by decide) rfl ?_ | refine B_ifeq0 (tgt := 43) dX8_sneezes_32 (by with_reducible rfl) (by decide) ?_ | refine N_ifeq (pc2 := 35) (tgt := 43) dX8_sneezes_32 (by with_reducible rfl) (by decide) (by omega) rfl (fun c32 => ?_) (fun c32 => ?_) | refine T_ifeq (pc2 := 35) (tgt := 43) dX8_sneezes_32 (by decide) rfl (fun c32 => ?_) (fun c32 => ?_)
        first | refine N_iinc (pc2 := 46) dX8_sneezes_43 rfl (by with_reducible rfl) ic1 (by decide) rfl ?_ | refine T_iinc (pc2 := 46) dX8_sneezes_43 rfl rfl (by decide) rfl ?_
        refine T_goto (tgt := 17) dX8_sneezes_46 (by decide) ?_
        refine T_sub (lks (i := 1) rfl (lks (i := 4) rfl (lks (i := 5) rfl lk0))) ?_
        refine ih (t + 1) _ (by omega) ?_ hf
        rw [smJ_n hb]
        exact hM
theorem smJ_0 (V : Cel) (b : Nat → Bool) : smashJ V b 0 = V := by
  unfold smashJ
  simp only [Nat.not_lt_zero, false_and, if_false]
theorem m_sneezes {note p : Nat} (S : Sh sk n bf im above below) (hw : isA sk n w .int 43) (hwd : w ≠ 48 ∧ w ≠ 57 ∧ w ≠ 58) (hV : hasM (g w) V) (hok : okD V) (hn : note < 12) (hp : p < V.J)
    (k : ∀ g2, hasM (g2 w) (V.smash (V.brk note p (V.th 0))) → (∀ g1, Fo w g1 g2 → Fc g g1 → Q none (HP sk g2 n))) : Calls MX8_sneezes (d + 3) 0 0 [.ref 48, .ref w, .int (nI note), .int (nI p)] (HP sk g n) Q := by
  have hJ8 := hok.1
  refine Calls.of (by decide +kernel) (Nat.le_of_ble_eq_true rfl) ?_
  refine T_aload_n (pc2 := 1) dX8_sneezes_0 rfl rfl ?_
  refine T_aload_n (pc2 := 2) dX8_sneezes_1 rfl rfl ?_
  refine T_iload_n (pc2 := 3) dX8_sneezes_2 rfl rfl ?_
  refine T_iload_n (pc2 := 4) dX8_sneezes_3 rfl rfl ?_
  refine T_aload_n (pc2 := 5) dX8_sneezes_4 rfl rfl ?_
  refine T_iconst (pc2 := 6) dX8_sneezes_5 ic0 rfl ?_
  refine C_S2 (pc2 := 9) (mc := 0) (ms := 0) dX8_sneezes_6 csX8_those mlX8_175 (Nat.le_of_ble_eq_true rfl) rfl ?_
  refine m_those hw hV hJ8 (by decide) (hw31d hok) ?_
  refine C_V4 (pc2 := 12) (mc := 0) (ms := 0) dX8_sneezes_9 cvX8_chainOf mlX8_179 (isO.h (sh48 S) _) (Nat.le_of_ble_eq_true rfl) rfl ?_
  refine m_chain S hw hwd hV hok hn hp (fun g3 _ hf3 => ?_)
  refine T_istore (pc2 := 14) dX8_sneezes_12 (by decide) rfl ?_
  refine T_iconst (pc2 := 15) dX8_sneezes_14 ic0 rfl ?_
  refine T_istore (pc2 := 17) dX8_sneezes_15 (by decide) rfl ?_
  refine T_sub (lks (i := 1) rfl (lks (i := 4) rfl (lks (i := 5) rfl lk0))) ?_
  have hV3 : hasM (g3 w) V := by rw [hf3.1 w (by omega) (by omega) (by omega)]; exact hV
  refine sneeze_loop (d := d + 2) (g := g3) hw hok (fun g4 hM hf => ?_) V.J 0 g3 (by omega) (by rw [smJ_0]; exact hV3) Fo.rf
  refine k g4 ?_ g3 hf hf3
  refine hM.cg (fun _ _ => rfl) hJ8 rfl rfl rfl (fun j hj => ⟨rfl, rfl, rfl, rfl, ?_⟩)
  have hj : j < V.J := hj
  show (if V.brk note p (V.th 0) j then 1 else V.hw j) = if j < V.J ∧ V.brk note p (V.th 0) j = true then 1 else V.hw j
  simp [hj]
theorem m_swap {a b : Nat} (hw : isA sk n w .int 43) (hV : hasM (g w) V) (hJ : V.J ≤ 8) (ha : a < V.J) (hb : b < V.J) (k : ∀ g2, hasM (g2 w) (V.swap a b) → Fo w g g2 → Q none (HP sk g2 n)) : Calls MX8_changePlaces (d + 1) 0 0 [.ref w, .int (nI a), .int (nI b)] (HP sk g n) Q := by
  refine Calls.of (by decide +kernel) (Nat.le_of_ble_eq_true rfl) ?_
  have ea := (hV.2.2.2 a ha).2.2.2.1
  have eb := (hV.2.2.2 b hb).2.2.2.1
  refine T_aload_n (pc2 := 1) dX8_changePlaces_0 rfl rfl ?_
  refine T_iload_n (pc2 := 2) dX8_changePlaces_1 rfl rfl ?_
  refine T_iconst (pc2 := 3) dX8_changePlaces_2 ic3 rfl ?_
  refine C_S3 (pc2 := 6) (mc := 0) (ms := 0) dX8_changePlaces_3 csX8_of mlX8_154 (Nat.le_of_ble_eq_true rfl) rfl ?_
  refine m_of hw (by omega) ea ?_
  refine T_istore_n (pc2 := 7) dX8_changePlaces_6 (by decide) rfl ?_
  refine T_aload_n (pc2 := 8) dX8_changePlaces_7 rfl rfl ?_
  refine T_iload_n (pc2 := 9) dX8_changePlaces_8 rfl rfl ?_
  refine T_iconst (pc2 := 10) dX8_changePlaces_9 ic3 rfl ?_
  refine T_aload_n (pc2 := 11) dX8_changePlaces_10 rfl rfl ?_
  refine T_iload_n (pc2 := 12) dX8_changePlaces_11 rfl rfl ?_
  refine T_iconst (pc2 := 13) dX8_changePlaces_12 ic3 rfl ?_
  refine C_S3 (pc2 := 16) (mc := 0) (ms := 0) dX8_changePlaces_13 csX8_of mlX8_154 (Nat.le_of_ble_eq_true rfl) rfl ?_
  refine m_of hw (by omega) eb ?_
  refine C_S4 (pc2 := 19) (mc := 0) (ms := 0) dX8_changePlaces_16 csX8_be mlX8_192 (Nat.le_of_ble_eq_true rfl) rfl ?_
  refine m_be hw (by omega) ?_
  refine T_aload_n (pc2 := 20) dX8_changePlaces_19 rfl rfl ?_
  refine T_iload_n (pc2 := 21) dX8_changePlaces_20 rfl rfl ?_
  refine T_iconst (pc2 := 22) dX8_changePlaces_21 ic3 rfl ?_
  refine T_iload_n (pc2 := 23) dX8_changePlaces_22 rfl rfl ?_
  refine C_S4 (pc2 := 26) (mc := 0) (ms := 0) dX8_changePlaces_23 csX8_be mlX8_192 (Nat.le_of_ble_eq_true rfl) rfl ?_
  refine m_be hw (by omega) ?_
  refine T_ret dX8_changePlaces_26 rfl ?_
  refine k _ ?_ Fo.rf.st.st
  rw [swap_pl]
  exact hV.setpl.setpl
theorem layT_loop (S : Sh sk n bf im above below) (k : ∀ g2, (∀ q, q < 43 → g2 54 q = g 52 q) → Fo 54 g g2 → Q none (HP sk g2 n)) :
    ∀ m t g2, t + m = 43 → (∀ q, q < t → g2 54 q = g 52 q) → Fo 54 g g2 → T MX8_layThen d kc ks 2 [(0, .ref 48), (1, .int (nI t))] [] (HP sk g2 n) Q := by
  intro m
  induction m with
  | zero =>
    intro t g2 ht hc hf
    refine T_iload_n (pc2 := 3) dX8_layThen_2 rfl rfl ?_
    refine T_bipush (pc2 := 5) dX8_layThen_3 bp43 rfl ?_
    first | refine N_icmpge (pc2 := 8) (tgt := 26) dX8_layThen_5 (by decide) (by with_reducible rfl) (by with_reducible rfl) (by omega) (by omega) rfl (fun c5 => ?_) (fun c5 => ?_) | refine T_icmpge (pc2 := 8) (tgt := 26) dX8_layThen_5 (by decide) rfl (fun c5 => ?_) (fun c5 => ?_)
    · refine T_ret dX8_layThen_26 rfl ?_
      exact k g2 (fun q hq => hc q (by omega)) hf
    · exact absurd (by omega) c5
  | succ m ih =>
    intro t g2 ht hc hf
    have e : g2 52 t = g 52 t := by rw [hf 52 (by omega)]
    refine T_iload_n (pc2 := 3) dX8_layThen_2 rfl rfl ?_
    refine T_bipush (pc2 := 5) dX8_layThen_3 bp43 rfl ?_
    first | refine N_icmpge (pc2 := 8) (tgt := 26) dX8_layThen_5 (by decide) (by with_reducible rfl) (by with_reducible rfl) (by omega) (by omega) rfl (fun c5 => ?_) (fun c5 => ?_) | refine T_icmpge (pc2 := 8) (tgt := 26) dX8_layThen_5 (by decide) rfl (fun c5 => ?_) (fun c5 => ?_)
    · exact absurd c5 (by omega)
    · refine T_aload_n (pc2 := 9) dX8_layThen_8 rfl rfl ?_
      refine G_getR (pc2 := 12) dX8_layThen_9 flX8_25 (sh48 S) rfl rfl ?_
      refine T_iload_n (pc2 := 13) dX8_layThen_12 rfl rfl ?_
      refine T_aload_n (pc2 := 14) dX8_layThen_13 rfl rfl ?_
      refine G_getR (pc2 := 17) dX8_layThen_14 flX8_19 (sh48 S) rfl rfl ?_
      refine T_iload_n (pc2 := 18) dX8_layThen_17 rfl rfl ?_
      refine G_iald (pc2 := 19) dX8_layThen_18 (sh52 S) (by omega) (by first | decide | omega) (by first | with_reducible assumption | exact gs_eq _ _ _ _ | exact (gs_ne _ _ (by omega)).trans (by with_reducible assumption) | exact (gs_ne _ _ (by omega)).trans (gs_eq _ _ _ _) | exact (gs_ne _ _ (by omega)).trans ((gs_ne _ _ (by omega)).trans (by with_reducible assumption)) | exact (gs_ne _ _ (by omega)).trans ((gs_ne _ _ (by omega)).trans (gs_eq _ _ _ _)) | exact (gs_ne _ _ (by omega)).trans ((gs_ne _ _ (by omega)).trans ((gs_ne _ _ (by omega)).trans (by with_reducible assumption))) | rfl) rfl ?_
      refine G_iast (pc2 := 20) dX8_layThen_19 (sh54 S) (by omega) (by decide) rfl ?_
      first | refine N_iinc (pc2 := 23) dX8_layThen_20 rfl (by with_reducible rfl) ic1 (by decide) rfl ?_ | refine T_iinc (pc2 := 23) dX8_layThen_20 rfl rfl (by decide) rfl ?_
      refine T_goto (tgt := 2) dX8_layThen_23 (by decide) ?_
      refine T_sub (lks (i := 0) rfl (lks (i := 1) rfl lk0)) ?_
      refine ih (t + 1) _ (by omega) (fun q hq => ?_) hf.st
      by_cases e : q = t
      · subst e
        rw [gs_eq]
      · rw [gs_ne _ _ (by omega)]
        exact hc q (by omega)
theorem m_lay (S : Sh sk n bf im above below) (hV : hasM (g 52) V) (hJ : V.J ≤ 8) (k : ∀ g2, hasM (g2 54) V → Fo 54 g g2 → Q none (HP sk g2 n)) : Calls MX8_layThen d 0 0 [.ref 48] (HP sk g n) Q := by
  refine Calls.of (by decide +kernel) (Nat.le_of_ble_eq_true rfl) ?_
  refine T_iconst (pc2 := 1) dX8_layThen_0 ic0 rfl ?_
  refine T_istore_n (pc2 := 2) dX8_layThen_1 (by decide) rfl ?_
  refine T_sub (lks (i := 0) rfl (lks (i := 1) rfl lk0)) ?_
  exact layT_loop S (fun g2 hc hf => k g2 (hV.copy (fun q hq => hc q hq) hJ) hf) 43 0 g rfl (fun q hq => absurd hq (Nat.not_lt_zero q)) Fo.rf
end MWork

