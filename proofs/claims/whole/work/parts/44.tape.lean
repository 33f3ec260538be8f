/-! the tape, and what it tells -/
def hasT (g : Nat → Nat → Int32) (tp : Nat → Nat) (sz : Nat) : Prop := g 18 1 = nI sz ∧ ∀ i, i < sz → g 19 i = nI (tp i)
def okT (tp : Nat → Nat) (sz : Nat) : Prop := sz ≤ 90 ∧ ∀ i, i < sz → tp i < 256
def dig (b : Nat) : Bool := decide (48 ≤ b) && decide (b ≤ 57)
def runF (tp : Nat → Nat) (sz : Nat) : Nat → Nat → Nat
  | 0, _ => 0
  | f + 1, at2 => if at2 < sz ∧ dig (tp at2) = true then runF tp sz f (at2 + 1) + 1 else 0
def rn (tp : Nat → Nat) (sz at2 : Nat) : Nat := runF tp sz (sz - at2) at2
theorem rn_0 {tp : Nat → Nat} {sz at2 : Nat} (h : ¬ (at2 < sz ∧ dig (tp at2) = true)) : rn tp sz at2 = 0 := by
  unfold rn
  cases q : sz - at2 with
  | zero => rfl
  | succ f => exact if_neg h
theorem rn_s {tp : Nat → Nat} {sz at2 : Nat} (h : at2 < sz) (hd : dig (tp at2) = true) : rn tp sz at2 = rn tp sz (at2 + 1) + 1 := by
  unfold rn
  rw [show sz - at2 = (sz - (at2 + 1)) + 1 by omega]
  exact if_pos ⟨h, hd⟩
theorem rn_le (tp : Nat → Nat) (sz : Nat) : ∀ f at2, sz - at2 = f → rn tp sz at2 ≤ f
  | 0, at2, h => by rw [rn_0 (fun z => by omega)]; exact Nat.le_refl _
  | f + 1, at2, h => by
    by_cases hd : dig (tp at2) = true
    · rw [rn_s (by omega) hd]
      have := rn_le tp sz f (at2 + 1) (by omega)
      omega
    · rw [rn_0 (fun z => hd z.2)]
      omega
def vl (tp : Nat → Nat) (sz at2 : Nat) : Nat := if rn tp sz at2 = 1 then tp at2 - 48 else (tp at2 - 48) * 10 + (tp (at2 + 1) - 48)
def pnc (tp : Nat → Nat) (sz at2 lo hi : Nat) : Nat := if ¬ (1 ≤ rn tp sz at2 ∧ rn tp sz at2 ≤ 2) then 1 else if ¬ (lo ≤ vl tp sz at2 ∧ vl tp sz at2 ≤ hi) then 2 else 0
def psg (tp : Nat → Nat) (sz at2 c : Nat) : Bool := decide (at2 < sz) && decide (tp at2 = c)
def kindN (b : Nat) : Nat := if b = 103 then 1 else if b = 116 then 2 else if b = 104 then 3 else if b = 115 then 4 else if b = 99 then 5 else 0
def kindA (tp : Nat → Nat) (sz at2 : Nat) : Nat := if at2 < sz then kindN (tp at2) else 0
/-- a jar: the fault's number (0: none), where, the cellar -/
def pJ (tp : Nat → Nat) (sz : Nat) (V : Cel) (a0 : Nat) : Nat × Nat × Cel :=
  if kindA tp sz a0 = 0 then (1, a0, V) else if 8 ≤ V.J then (3, a0, V) else
  if pnc tp sz (a0 + 1) 0 11 ≠ 0 then (pnc tp sz (a0 + 1) 0 11, a0 + 1, V) else
  if psg tp sz (a0 + 1 + rn tp sz (a0 + 1)) 44 = false then (1, a0 + 1 + rn tp sz (a0 + 1), V) else
  if pnc tp sz (a0 + 1 + rn tp sz (a0 + 1) + 1) 1 60 ≠ 0 then (pnc tp sz (a0 + 1 + rn tp sz (a0 + 1) + 1) 1 60, a0 + 1 + rn tp sz (a0 + 1) + 1, V) else
  if psg tp sz (a0 + 1 + rn tp sz (a0 + 1) + 1 + rn tp sz (a0 + 1 + rn tp sz (a0 + 1) + 1)) 59 = false then (1, a0 + 1 + rn tp sz (a0 + 1) + 1 + rn tp sz (a0 + 1 + rn tp sz (a0 + 1) + 1), V) else
  (0, a0 + 1 + rn tp sz (a0 + 1) + 1 + rn tp sz (a0 + 1 + rn tp sz (a0 + 1) + 1) + 1, V.add (kindA tp sz a0) (vl tp sz (a0 + 1)) (vl tp sz (a0 + 1 + rn tp sz (a0 + 1) + 1)))
def pLp (tp : Nat → Nat) (sz : Nat) : Nat → Cel → Nat → Nat × Nat × Cel
  | 0, V, a0 => (1, a0, V)
  | f + 1, V, a0 => if 0 < V.J ∧ a0 = sz then (0, a0, V) else
    if (pJ tp sz V a0).1 ≠ 0 then pJ tp sz V a0 else pLp tp sz f (pJ tp sz V a0).2.2 (pJ tp sz V a0).2.1
def C0 (R : Nat) : Cel := (0, 0, R, fun _ => 0, fun _ => 0, fun _ => 0, fun _ => 0, fun _ => 0)
def parse (tp : Nat → Nat) (sz : Nat) : Nat × Nat × Cel :=
  if psg tp sz 0 107 = false then (1, 0, C0 0) else
  if pnc tp sz 1 0 8 ≠ 0 then (pnc tp sz 1 0 8, 1, C0 0) else
  if psg tp sz (1 + rn tp sz 1) 59 = false then (1, 1 + rn tp sz 1, C0 0) else
  pLp tp sz 9 (C0 (vl tp sz 1)) (1 + rn tp sz 1 + 1)
section TapeM
variable {sk : Nat → SK} {g : Nat → Nat → Int32} {n c : Nat} {V : Cel} {Q : Option Value → SH → Prop} {d kc ks : Nat} {bf im : Nat → Option Nat} {above below : Int64} {tp : Nat → Nat} {sz a0 : Nat}
theorem hasT.put {k : Nat} {v : Int32} (h : hasT g tp sz) (hk : k ≠ 1) : hasT (gset g 18 k v) tp sz := ⟨by rw [gs_ne _ _ (by omega)]; exact h.1, fun i hi => by rw [gs_ne _ _ (by omega)]; exact h.2 i hi⟩
theorem hasT.fr {g2 : Nat → Nat → Int32} {lo hi : Nat} (h : hasT g tp sz) (f : Fr lo hi g g2) (hd : 20 ≤ lo ∨ hi ≤ 18) : hasT g2 tp sz := by
  unfold hasT
  rw [f 18 (by omega), f 19 (by omega)]
  exact h
theorem c_takes {b : Nat} (S : Sh sk n bf im above below) (hT : hasT g tp sz) (hok : okT tp sz) (kt : ∀ g2, sz < 90 → hasT g2 (va_up tp sz b) (sz + 1) → Fr 18 20 g g2 → Q (some (.int (nI 1))) (HP sk g2 n)) (kf : ¬ sz < 90 → Q (some (.int (nI 0))) (HP sk g n)) : Calls MX6_takes d 0 0 [.ref 18, .int (nI b)] (HP sk g n) Q := by
  refine Calls.of (by decide +kernel) (Nat.le_of_ble_eq_true rfl) ?_
  have e1 := hT.1
  have h90 := hok.1
  refine T_aload_n (pc2 := 1) dX6_takes_0 rfl rfl ?_
  refine G_getI (pc2 := 4) dX6_takes_1 flX6_15 (sh18 S) rfl (by first | with_reducible assumption | exact gs_eq _ _ _ _ | exact (gs_ne _ _ (by omega)).trans (by with_reducible assumption) | exact (gs_ne _ _ (by omega)).trans (gs_eq _ _ _ _) | exact (gs_ne _ _ (by omega)).trans ((gs_ne _ _ (by omega)).trans (by with_reducible assumption)) | exact (gs_ne _ _ (by omega)).trans ((gs_ne _ _ (by omega)).trans (gs_eq _ _ _ _)) | exact (gs_ne _ _ (by omega)).trans ((gs_ne _ _ (by omega)).trans ((gs_ne _ _ (by omega)).trans (by with_reducible assumption))) | rfl) rfl ?_
  refine T_bipush (pc2 := 6) dX6_takes_4 bp90 rfl ?_
  first | refine N_icmplt (pc2 := 9) (tgt := 11) dX6_takes_6 (by decide) (by with_reducible rfl) (by with_reducible rfl) (by omega) (by omega) rfl (fun c6 => ?_) (fun c6 => ?_) | refine T_icmplt (pc2 := 9) (tgt := 11) dX6_takes_6 (by decide) rfl (fun c6 => ?_) (fun c6 => ?_)
  · refine T_aload_n (pc2 := 12) dX6_takes_11 rfl rfl ?_
    refine G_getR (pc2 := 15) dX6_takes_12 flX6_9 (sh18 S) rfl rfl ?_
    refine T_aload_n (pc2 := 16) dX6_takes_15 rfl rfl ?_
    refine G_getI (pc2 := 19) dX6_takes_16 flX6_15 (sh18 S) rfl (by first | with_reducible assumption | exact gs_eq _ _ _ _ | exact (gs_ne _ _ (by omega)).trans (by with_reducible assumption) | exact (gs_ne _ _ (by omega)).trans (gs_eq _ _ _ _) | exact (gs_ne _ _ (by omega)).trans ((gs_ne _ _ (by omega)).trans (by with_reducible assumption)) | exact (gs_ne _ _ (by omega)).trans ((gs_ne _ _ (by omega)).trans (gs_eq _ _ _ _)) | exact (gs_ne _ _ (by omega)).trans ((gs_ne _ _ (by omega)).trans ((gs_ne _ _ (by omega)).trans (by with_reducible assumption))) | rfl) rfl ?_
    refine T_iload_n (pc2 := 20) dX6_takes_19 rfl rfl ?_
    refine G_iast (pc2 := 21) dX6_takes_20 (sh19 S) (by omega) (by decide) rfl ?_
    refine T_aload_n (pc2 := 22) dX6_takes_21 rfl rfl ?_
    refine T_dup (pc2 := 23) dX6_takes_22 rfl rfl ?_
    refine G_getI (pc2 := 26) dX6_takes_23 flX6_15 (sh18 S) rfl (by first | with_reducible assumption | exact gs_eq _ _ _ _ | exact (gs_ne _ _ (by omega)).trans (by with_reducible assumption) | exact (gs_ne _ _ (by omega)).trans (gs_eq _ _ _ _) | exact (gs_ne _ _ (by omega)).trans ((gs_ne _ _ (by omega)).trans (by with_reducible assumption)) | exact (gs_ne _ _ (by omega)).trans ((gs_ne _ _ (by omega)).trans (gs_eq _ _ _ _)) | exact (gs_ne _ _ (by omega)).trans ((gs_ne _ _ (by omega)).trans ((gs_ne _ _ (by omega)).trans (by with_reducible assumption))) | rfl) rfl ?_
    refine T_iconst (pc2 := 27) dX6_takes_26 ic1 rfl ?_
    first | refine N_iadd (pc2 := 28) dX6_takes_27 (by with_reducible rfl) (by with_reducible rfl) rfl ?_ | refine T_iadd (pc2 := 28) dX6_takes_27 rfl ?_
    refine G_putI (pc2 := 31) dX6_takes_28 flX6_15 (sh18 S) rfl rfl rfl rfl ?_
    refine T_iconst (pc2 := 32) dX6_takes_31 ic1 rfl ?_
    refine T_iret dX6_takes_32 rfl (by first | rfl | decide) ?_
    refine kt _ c6 ⟨gs_eq _ _ _ _, fun i hi => ?_⟩ ((Fr.rf.st (by omega) (by omega)).st (by omega) (by omega))
    rw [gs_ne _ _ (by omega)]
    by_cases e : i = sz
    · subst e
      rw [gs_eq]
      simp [va_up]
    · rw [gs_ne _ _ (by omega), hT.2 i (by omega)]
      simp [va_up, e]
  · refine T_iconst (pc2 := 10) dX6_takes_9 ic0 rfl ?_
    refine T_iret dX6_takes_10 rfl (by first | rfl | decide) ?_
    exact kf c6
theorem c_fails {f : Nat} (S : Sh sk n bf im above below) (k : Q (some (.int (nI 0))) (HP sk (gset g 18 3 (nI f)) n)) : Calls MX6_fails d 0 0 [.ref 18, .int (nI f)] (HP sk g n) Q := by
  refine Calls.of (by decide +kernel) (Nat.le_of_ble_eq_true rfl) ?_
  refine T_aload_n (pc2 := 1) dX6_fails_0 rfl rfl ?_
  refine T_iload_n (pc2 := 2) dX6_fails_1 rfl rfl ?_
  refine G_putI (pc2 := 5) dX6_fails_2 flX6_67 (sh18 S) rfl rfl rfl rfl ?_
  refine T_iconst (pc2 := 6) dX6_fails_5 ic0 rfl ?_
  refine T_iret dX6_fails_6 rfl (by first | rfl | decide) ?_
  exact k
theorem c_passes {s : Nat} (S : Sh sk n bf im above below) (hT : hasT g tp sz) (hok : okT tp sz) (ea : g 18 2 = nI a0) (ha : a0 < 1000) (hs : s < 256) (kt : psg tp sz a0 s = true → Q (some (.int (nI 1))) (HP sk (gset g 18 2 (nI (a0 + 1))) n)) (kf : psg tp sz a0 s = false → Q (some (.int (nI 0))) (HP sk (gset g 18 3 (nI 1)) n)) : Calls MX6_passes (d + 1) 0 0 [.ref 18, .int (nI s)] (HP sk g n) Q := by
  refine Calls.of (by decide +kernel) (Nat.le_of_ble_eq_true rfl) ?_
  have e1 := hT.1
  have h90 := hok.1
  refine T_aload_n (pc2 := 1) dX6_passes_0 rfl rfl ?_
  refine G_getI (pc2 := 4) dX6_passes_1 flX6_19 (sh18 S) rfl (by first | with_reducible assumption | exact gs_eq _ _ _ _ | exact (gs_ne _ _ (by omega)).trans (by with_reducible assumption) | exact (gs_ne _ _ (by omega)).trans (gs_eq _ _ _ _) | exact (gs_ne _ _ (by omega)).trans ((gs_ne _ _ (by omega)).trans (by with_reducible assumption)) | exact (gs_ne _ _ (by omega)).trans ((gs_ne _ _ (by omega)).trans (gs_eq _ _ _ _)) | exact (gs_ne _ _ (by omega)).trans ((gs_ne _ _ (by omega)).trans ((gs_ne _ _ (by omega)).trans (by with_reducible assumption))) | rfl) rfl ?_
  refine T_aload_n (pc2 := 5) dX6_passes_4 rfl rfl ?_
  refine G_getI (pc2 := 8) dX6_passes_5 flX6_15 (sh18 S) rfl (by first | with_reducible assumption | exact gs_eq _ _ _ _ | exact (gs_ne _ _ (by omega)).trans (by with_reducible assumption) | exact (gs_ne _ _ (by omega)).trans (gs_eq _ _ _ _) | exact (gs_ne _ _ (by omega)).trans ((gs_ne _ _ (by omega)).trans (by with_reducible assumption)) | exact (gs_ne _ _ (by omega)).trans ((gs_ne _ _ (by omega)).trans (gs_eq _ _ _ _)) | exact (gs_ne _ _ (by omega)).trans ((gs_ne _ _ (by omega)).trans ((gs_ne _ _ (by omega)).trans (by with_reducible assumption))) | rfl) rfl ?_
  first | refine N_icmpge (pc2 := 11) (tgt := 24) dX6_passes_8 (by decide) (by with_reducible rfl) (by with_reducible rfl) (by omega) (by omega) rfl (fun c8 => ?_) (fun c8 => ?_) | refine T_icmpge (pc2 := 11) (tgt := 24) dX6_passes_8 (by decide) rfl (fun c8 => ?_) (fun c8 => ?_)
  · refine T_aload_n (pc2 := 25) dX6_passes_24 rfl rfl ?_
    refine T_iconst (pc2 := 26) dX6_passes_25 ic1 rfl ?_
    refine C_V1 (pc2 := 29) (mc := 0) (ms := 0) dX6_passes_26 cvX6_fails mlX6_49 (isO.h (sh18 S) _) (Nat.le_of_ble_eq_true rfl) rfl ?_
    refine c_fails S ?_
    refine T_iret dX6_passes_29 rfl (by first | rfl | decide) ?_
    exact kf (by simp [psg]; omega)
  · have e9 := hT.2 a0 (by omega)
    have h256 := hok.2 a0 (by omega)
    refine T_aload_n (pc2 := 12) dX6_passes_11 rfl rfl ?_
    refine G_getR (pc2 := 15) dX6_passes_12 flX6_9 (sh18 S) rfl rfl ?_
    refine T_aload_n (pc2 := 16) dX6_passes_15 rfl rfl ?_
    refine G_getI (pc2 := 19) dX6_passes_16 flX6_19 (sh18 S) rfl (by first | with_reducible assumption | exact gs_eq _ _ _ _ | exact (gs_ne _ _ (by omega)).trans (by with_reducible assumption) | exact (gs_ne _ _ (by omega)).trans (gs_eq _ _ _ _) | exact (gs_ne _ _ (by omega)).trans ((gs_ne _ _ (by omega)).trans (by with_reducible assumption)) | exact (gs_ne _ _ (by omega)).trans ((gs_ne _ _ (by omega)).trans (gs_eq _ _ _ _)) | exact (gs_ne _ _ (by omega)).trans ((gs_ne _ _ (by omega)).trans ((gs_ne _ _ (by omega)).trans (by with_reducible assumption))) | rfl) rfl ?_
    refine G_iald (pc2 := 20) dX6_passes_19 (sh19 S) (by omega) (by first | decide | omega) (by first | with_reducible assumption | exact gs_eq _ _ _ _ | exact (gs_ne _ _ (by omega)).trans (by with_reducible assumption) | exact (gs_ne _ _ (by omega)).trans (gs_eq _ _ _ _) | exact (gs_ne _ _ (by omega)).trans ((gs_ne _ _ (by omega)).trans (by with_reducible assumption)) | exact (gs_ne _ _ (by omega)).trans ((gs_ne _ _ (by omega)).trans (gs_eq _ _ _ _)) | exact (gs_ne _ _ (by omega)).trans ((gs_ne _ _ (by omega)).trans ((gs_ne _ _ (by omega)).trans (by with_reducible assumption))) | rfl) rfl ?_
    refine T_iload_n (pc2 := 21) dX6_passes_20 rfl rfl ?_
    first | refine N_icmpeq (pc2 := 24) (tgt := 30) dX6_passes_21 (by decide) (by with_reducible rfl) (by with_reducible rfl) (by omega) (by omega) rfl (fun c21 => ?_) (fun c21 => ?_) | refine T_icmpeq (pc2 := 24) (tgt := 30) dX6_passes_21 (by decide) rfl (fun c21 => ?_) (fun c21 => ?_)
    · refine T_aload_n (pc2 := 31) dX6_passes_30 rfl rfl ?_
      refine T_dup (pc2 := 32) dX6_passes_31 rfl rfl ?_
      refine G_getI (pc2 := 35) dX6_passes_32 flX6_19 (sh18 S) rfl (by first | with_reducible assumption | exact gs_eq _ _ _ _ | exact (gs_ne _ _ (by omega)).trans (by with_reducible assumption) | exact (gs_ne _ _ (by omega)).trans (gs_eq _ _ _ _) | exact (gs_ne _ _ (by omega)).trans ((gs_ne _ _ (by omega)).trans (by with_reducible assumption)) | exact (gs_ne _ _ (by omega)).trans ((gs_ne _ _ (by omega)).trans (gs_eq _ _ _ _)) | exact (gs_ne _ _ (by omega)).trans ((gs_ne _ _ (by omega)).trans ((gs_ne _ _ (by omega)).trans (by with_reducible assumption))) | rfl) rfl ?_
      refine T_iconst (pc2 := 36) dX6_passes_35 ic1 rfl ?_
      first | refine N_iadd (pc2 := 37) dX6_passes_36 (by with_reducible rfl) (by with_reducible rfl) rfl ?_ | refine T_iadd (pc2 := 37) dX6_passes_36 rfl ?_
      refine G_putI (pc2 := 40) dX6_passes_37 flX6_19 (sh18 S) rfl rfl rfl rfl ?_
      refine T_iconst (pc2 := 41) dX6_passes_40 ic1 rfl ?_
      refine T_iret dX6_passes_41 rfl (by first | rfl | decide) ?_
      exact kt (by simp [psg, c21]; omega)
    · refine T_aload_n (pc2 := 25) dX6_passes_24 rfl rfl ?_
      refine T_iconst (pc2 := 26) dX6_passes_25 ic1 rfl ?_
      refine C_V1 (pc2 := 29) (mc := 0) (ms := 0) dX6_passes_26 cvX6_fails mlX6_49 (isO.h (sh18 S) _) (Nat.le_of_ble_eq_true rfl) rfl ?_
      refine c_fails S ?_
      refine T_iret dX6_passes_29 rfl (by first | rfl | decide) ?_
      exact kf (by simp [psg, c21])
theorem figs_loop (S : Sh sk n bf im above below) (hT : hasT g tp sz) (hok : okT tp sz) (ea : g 18 2 = nI a0) (ha : a0 < 1000) (k : Q (some (.int (nI (rn tp sz a0)))) (HP sk g n)) :
    ∀ m r, sz - (a0 + r) = m → rn tp sz a0 = r + rn tp sz (a0 + r) → r < 200 → T MX6_figures (d + 1) kc ks 2 [(0, .ref 18), (1, .int (nI r))] [] (HP sk g n) Q := by
  have e1 := hT.1
  have h90 := hok.1
  intro m
  induction m with
  | zero =>
    intro r hm hr hb
    refine T_aload_n (pc2 := 3) dX6_figures_2 rfl rfl ?_
    refine G_getI (pc2 := 6) dX6_figures_3 flX6_19 (sh18 S) rfl (by first | with_reducible assumption | exact gs_eq _ _ _ _ | exact (gs_ne _ _ (by omega)).trans (by with_reducible assumption) | exact (gs_ne _ _ (by omega)).trans (gs_eq _ _ _ _) | exact (gs_ne _ _ (by omega)).trans ((gs_ne _ _ (by omega)).trans (by with_reducible assumption)) | exact (gs_ne _ _ (by omega)).trans ((gs_ne _ _ (by omega)).trans (gs_eq _ _ _ _)) | exact (gs_ne _ _ (by omega)).trans ((gs_ne _ _ (by omega)).trans ((gs_ne _ _ (by omega)).trans (by with_reducible assumption))) | rfl) rfl ?_
    refine T_iload_n (pc2 := 7) dX6_figures_6 rfl rfl ?_
    first | refine N_iadd (pc2 := 8) dX6_figures_7 (by with_reducible rfl) (by with_reducible rfl) rfl ?_ | refine T_iadd (pc2 := 8) dX6_figures_7 rfl ?_
    refine T_aload_n (pc2 := 9) dX6_figures_8 rfl rfl ?_
    refine G_getI (pc2 := 12) dX6_figures_9 flX6_15 (sh18 S) rfl (by first | with_reducible assumption | exact gs_eq _ _ _ _ | exact (gs_ne _ _ (by omega)).trans (by with_reducible assumption) | exact (gs_ne _ _ (by omega)).trans (gs_eq _ _ _ _) | exact (gs_ne _ _ (by omega)).trans ((gs_ne _ _ (by omega)).trans (by with_reducible assumption)) | exact (gs_ne _ _ (by omega)).trans ((gs_ne _ _ (by omega)).trans (gs_eq _ _ _ _)) | exact (gs_ne _ _ (by omega)).trans ((gs_ne _ _ (by omega)).trans ((gs_ne _ _ (by omega)).trans (by with_reducible assumption))) | rfl) rfl ?_
    first | refine N_icmpge (pc2 := 15) (tgt := 42) dX6_figures_12 (by decide) (by with_reducible rfl) (by with_reducible rfl) (by omega) (by omega) rfl (fun c12 => ?_) (fun c12 => ?_) | refine T_icmpge (pc2 := 15) (tgt := 42) dX6_figures_12 (by decide) rfl (fun c12 => ?_) (fun c12 => ?_)
    · refine T_iload_n (pc2 := 43) dX6_figures_42 rfl rfl ?_
      refine T_iret dX6_figures_43 rfl rfl ?_
      rw [rn_0 (at2 := a0 + r) (fun z => by omega)] at hr
      rw [show r = rn tp sz a0 by omega]
      exact k
    · exact absurd (by omega) c12
  | succ m ih =>
    intro r hm hr hb
    have e9 := hT.2 (a0 + r) (by omega)
    have h256 := hok.2 (a0 + r) (by omega)
    refine T_aload_n (pc2 := 3) dX6_figures_2 rfl rfl ?_
    refine G_getI (pc2 := 6) dX6_figures_3 flX6_19 (sh18 S) rfl (by first | with_reducible assumption | exact gs_eq _ _ _ _ | exact (gs_ne _ _ (by omega)).trans (by with_reducible assumption) | exact (gs_ne _ _ (by omega)).trans (gs_eq _ _ _ _) | exact (gs_ne _ _ (by omega)).trans ((gs_ne _ _ (by omega)).trans (by with_reducible assumption)) | exact (gs_ne _ _ (by omega)).trans ((gs_ne _ _ (by omega)).trans (gs_eq _ _ _ _)) | exact (gs_ne _ _ (by omega)).trans ((gs_ne _ _ (by omega)).trans ((gs_ne _ _ (by omega)).trans (by with_reducible assumption))) | rfl) rfl ?_
    refine T_iload_n (pc2 := 7) dX6_figures_6 rfl rfl ?_
    first | refine N_iadd (pc2 := 8) dX6_figures_7 (by with_reducible rfl) (by with_reducible rfl) rfl ?_ | refine T_iadd (pc2 := 8) dX6_figures_7 rfl ?_
    refine T_aload_n (pc2 := 9) dX6_figures_8 rfl rfl ?_
    refine G_getI (pc2 := 12) dX6_figures_9 flX6_15 (sh18 S) rfl (by first | with_reducible assumption | exact gs_eq _ _ _ _ | exact (gs_ne _ _ (by omega)).trans (by with_reducible assumption) | exact (gs_ne _ _ (by omega)).trans (gs_eq _ _ _ _) | exact (gs_ne _ _ (by omega)).trans ((gs_ne _ _ (by omega)).trans (by with_reducible assumption)) | exact (gs_ne _ _ (by omega)).trans ((gs_ne _ _ (by omega)).trans (gs_eq _ _ _ _)) | exact (gs_ne _ _ (by omega)).trans ((gs_ne _ _ (by omega)).trans ((gs_ne _ _ (by omega)).trans (by with_reducible assumption))) | rfl) rfl ?_
    first | refine N_icmpge (pc2 := 15) (tgt := 42) dX6_figures_12 (by decide) (by with_reducible rfl) (by with_reducible rfl) (by omega) (by omega) rfl (fun c12 => ?_) (fun c12 => ?_) | refine T_icmpge (pc2 := 15) (tgt := 42) dX6_figures_12 (by decide) rfl (fun c12 => ?_) (fun c12 => ?_)
    · exact absurd c12 (by omega)
    · refine T_aload_n (pc2 := 16) dX6_figures_15 rfl rfl ?_
      refine G_getR (pc2 := 19) dX6_figures_16 flX6_9 (sh18 S) rfl rfl ?_
      refine T_aload_n (pc2 := 20) dX6_figures_19 rfl rfl ?_
      refine G_getI (pc2 := 23) dX6_figures_20 flX6_19 (sh18 S) rfl (by first | with_reducible assumption | exact gs_eq _ _ _ _ | exact (gs_ne _ _ (by omega)).trans (by with_reducible assumption) | exact (gs_ne _ _ (by omega)).trans (gs_eq _ _ _ _) | exact (gs_ne _ _ (by omega)).trans ((gs_ne _ _ (by omega)).trans (by with_reducible assumption)) | exact (gs_ne _ _ (by omega)).trans ((gs_ne _ _ (by omega)).trans (gs_eq _ _ _ _)) | exact (gs_ne _ _ (by omega)).trans ((gs_ne _ _ (by omega)).trans ((gs_ne _ _ (by omega)).trans (by with_reducible assumption))) | rfl) rfl ?_
      refine T_iload_n (pc2 := 24) dX6_figures_23 rfl rfl ?_
      first | refine N_iadd (pc2 := 25) dX6_figures_24 (by with_reducible rfl) (by with_reducible rfl) rfl ?_ | refine T_iadd (pc2 := 25) dX6_figures_24 rfl ?_
      refine G_iald (pc2 := 26) dX6_figures_25 (sh19 S) (by omega) (by first | decide | omega) (by first | with_reducible assumption | exact gs_eq _ _ _ _ | exact (gs_ne _ _ (by omega)).trans (by with_reducible assumption) | exact (gs_ne _ _ (by omega)).trans (gs_eq _ _ _ _) | exact (gs_ne _ _ (by omega)).trans ((gs_ne _ _ (by omega)).trans (by with_reducible assumption)) | exact (gs_ne _ _ (by omega)).trans ((gs_ne _ _ (by omega)).trans (gs_eq _ _ _ _)) | exact (gs_ne _ _ (by omega)).trans ((gs_ne _ _ (by omega)).trans ((gs_ne _ _ (by omega)).trans (by with_reducible assumption))) | rfl) rfl ?_
      refine T_bipush (pc2 := 28) dX6_figures_26 bp48 rfl ?_
      refine T_bipush (pc2 := 30) dX6_figures_28 bp57 rfl ?_
      refine C_SN3 (pc2 := 33) (mc := 0) (ms := 0) dX6_figures_30 csX7_within mnX6_63 (Nat.le_of_ble_eq_true rfl) rfl ?_
      refine c_withinN (by omega) (by decide) (by decide) (fun h1 h2 => ?_) (fun hno => ?_)
      · first | refine B_ifeq1 (pc2 := 36) (tgt := 42) dX6_figures_33 (by with_reducible rfl) (by decide) rfl ?_ | refine B_ifeq0 (tgt := 42) dX6_figures_33 (by with_reducible rfl) (by decide) ?_ | refine N_ifeq (pc2 := 36) (tgt := 42) dX6_figures_33 (by with_reducible rfl) (by decide) (by omega) rfl (fun c33 => ?_) (fun c33 => ?_) | refine T_ifeq (pc2 := 36) (tgt := 42) dX6_figures_33 (by decide) rfl (fun c33 => ?_) (fun c33 => ?_)
        first | refine N_iinc (pc2 := 39) dX6_figures_36 rfl (by with_reducible rfl) ic1 (by decide) rfl ?_ | refine T_iinc (pc2 := 39) dX6_figures_36 rfl rfl (by decide) rfl ?_
        refine T_goto (tgt := 2) dX6_figures_39 (by decide) ?_
        refine T_sub (lks (i := 0) rfl (lks (i := 1) rfl lk0)) ?_
        refine ih (r + 1) (by omega) ?_ (by omega)
        rw [hr, rn_s (at2 := a0 + r) (by omega) (by simp [dig, h1, h2])]
        rw [show a0 + (r + 1) = a0 + r + 1 by omega]
        omega
      · first | refine B_ifeq1 (pc2 := 36) (tgt := 42) dX6_figures_33 (by with_reducible rfl) (by decide) rfl ?_ | refine B_ifeq0 (tgt := 42) dX6_figures_33 (by with_reducible rfl) (by decide) ?_ | refine N_ifeq (pc2 := 36) (tgt := 42) dX6_figures_33 (by with_reducible rfl) (by decide) (by omega) rfl (fun c33 => ?_) (fun c33 => ?_) | refine T_ifeq (pc2 := 36) (tgt := 42) dX6_figures_33 (by decide) rfl (fun c33 => ?_) (fun c33 => ?_)
        refine T_iload_n (pc2 := 43) dX6_figures_42 rfl rfl ?_
        refine T_iret dX6_figures_43 rfl rfl ?_
        rw [rn_0 (at2 := a0 + r) (fun z => hno (by simpa [dig] using z.2))] at hr
        rw [show r = rn tp sz a0 by omega]
        exact k
theorem c_figures (S : Sh sk n bf im above below) (hT : hasT g tp sz) (hok : okT tp sz) (ea : g 18 2 = nI a0) (ha : a0 < 1000) (k : Q (some (.int (nI (rn tp sz a0)))) (HP sk g n)) : Calls MX6_figures (d + 1) 0 0 [.ref 18] (HP sk g n) Q := by
  refine Calls.of (by decide +kernel) (Nat.le_of_ble_eq_true rfl) ?_
  refine T_iconst (pc2 := 1) dX6_figures_0 ic0 rfl ?_
  refine T_istore_n (pc2 := 2) dX6_figures_1 (by decide) rfl ?_
  refine T_sub (lks (i := 0) rfl (lks (i := 1) rfl lk0)) ?_
  exact figs_loop S hT hok ea ha k _ 0 rfl (by simp) (by decide)
theorem rn_dig {tp : Nat → Nat} {sz at2 : Nat} (h : 1 ≤ rn tp sz at2) : at2 < sz ∧ 48 ≤ tp at2 ∧ tp at2 ≤ 57 := by
  apply Classical.byContradiction
  intro hno
  rw [rn_0 (fun z => hno ⟨z.1, by simpa [dig] using z.2⟩)] at h
  omega
theorem rn_dig2 {tp : Nat → Nat} {sz at2 : Nat} (h : 2 ≤ rn tp sz at2) : at2 + 1 < sz ∧ 48 ≤ tp (at2 + 1) ∧ tp (at2 + 1) ≤ 57 := by
  have h1 := rn_dig (show 1 ≤ rn tp sz at2 by omega)
  rw [rn_s h1.1 (by simp [dig, h1.2])] at h
  exact rn_dig (by omega)
theorem vl_lt {tp : Nat → Nat} {sz at2 : Nat} (h1 : 1 ≤ rn tp sz at2) (h2 : rn tp sz at2 ≤ 2) : vl tp sz at2 < 100 := by
  have d1 := rn_dig h1
  unfold vl
  split
  · omega
  · have d2 := rn_dig2 (show 2 ≤ rn tp sz at2 by omega)
    omega
theorem c_numbers {lo hi : Nat} (S : Sh sk n bf im above below) (hT : hasT g tp sz) (hok : okT tp sz) (ea : g 18 2 = nI a0) (ha : a0 < 1000) (hlo : lo < 100) (hhi : hi < 100)
    (kt : ∀ g2, pnc tp sz a0 lo hi = 0 → hasT g2 tp sz → g2 18 2 = nI (a0 + rn tp sz a0) → g2 18 4 = nI (vl tp sz a0) → Fr 18 19 g g2 → Q (some (.int (nI 1))) (HP sk g2 n))
    (kf : ∀ g2, pnc tp sz a0 lo hi ≠ 0 → hasT g2 tp sz → g2 18 2 = nI a0 → g2 18 3 = nI (pnc tp sz a0 lo hi) → Fr 18 19 g g2 → Q (some (.int (nI 0))) (HP sk g2 n)) : Calls MX6_numbers (d + 2) 0 0 [.ref 18, .int (nI lo), .int (nI hi)] (HP sk g n) Q := by
  refine Calls.of (by decide +kernel) (Nat.le_of_ble_eq_true rfl) ?_
  have h90 := hok.1
  have hrl := rn_le tp sz (sz - a0) a0 rfl
  refine T_aload_n (pc2 := 1) dX6_numbers_0 rfl rfl ?_
  refine C_V0 (pc2 := 4) (mc := 0) (ms := 0) dX6_numbers_1 cvX6_figures mlX6_59 (isO.h (sh18 S) _) (Nat.le_of_ble_eq_true rfl) rfl ?_
  refine c_figures S hT hok ea ha ?_
  refine T_istore_n (pc2 := 5) dX6_numbers_4 (by decide) rfl ?_
  refine T_iload_n (pc2 := 6) dX6_numbers_5 rfl rfl ?_
  refine T_iconst (pc2 := 7) dX6_numbers_6 ic1 rfl ?_
  refine T_iconst (pc2 := 8) dX6_numbers_7 ic2 rfl ?_
  refine C_SN3 (pc2 := 11) (mc := 0) (ms := 0) dX6_numbers_8 csX7_within mnX6_63 (Nat.le_of_ble_eq_true rfl) rfl ?_
  refine c_withinN (by omega) (by decide) (by decide) (fun h1 h2 => ?_) (fun hno => ?_)
  · have hvl := vl_lt h1 h2
    have d1 := rn_dig h1
    have b1 := hT.2 a0 d1.1
    first | refine B_ifne1 (tgt := 20) dX6_numbers_11 (by with_reducible rfl) (by decide) ?_ | refine B_ifne0 (pc2 := 14) (tgt := 20) dX6_numbers_11 (by with_reducible rfl) (by decide) rfl ?_ | refine N_ifne (pc2 := 14) (tgt := 20) dX6_numbers_11 (by with_reducible rfl) (by decide) (by omega) rfl (fun c11 => ?_) (fun c11 => ?_) | refine T_ifne (pc2 := 14) (tgt := 20) dX6_numbers_11 (by decide) rfl (fun c11 => ?_) (fun c11 => ?_)
    have hfin : ∀ g2, hasT g2 tp sz → g2 18 2 = nI a0 → g2 18 4 = nI (vl tp sz a0) → Fr 18 19 g g2 → ∀ ls, (∀ q ∈ [(0, Value.ref 18), (1, .int (nI lo)), (2, .int (nI hi)), (3, .int (nI (rn tp sz a0)))], ls.lookup q.1 = some q.2) → T MX6_numbers (d + 2) 0 0 67 ls [] (HP sk g2 n) Q := by
      intro g2 hT2 ea2 ev hf ls hl
      refine T_sub hl ?_
      refine T_aload_n (pc2 := 68) dX6_numbers_67 rfl rfl ?_
      refine G_getI (pc2 := 71) dX6_numbers_68 flX6_35 (sh18 S) rfl (by first | with_reducible assumption | exact gs_eq _ _ _ _ | exact (gs_ne _ _ (by omega)).trans (by with_reducible assumption) | exact (gs_ne _ _ (by omega)).trans (gs_eq _ _ _ _) | exact (gs_ne _ _ (by omega)).trans ((gs_ne _ _ (by omega)).trans (by with_reducible assumption)) | exact (gs_ne _ _ (by omega)).trans ((gs_ne _ _ (by omega)).trans (gs_eq _ _ _ _)) | exact (gs_ne _ _ (by omega)).trans ((gs_ne _ _ (by omega)).trans ((gs_ne _ _ (by omega)).trans (by with_reducible assumption))) | rfl) rfl ?_
      refine T_iload_n (pc2 := 72) dX6_numbers_71 rfl rfl ?_
      refine T_iload_n (pc2 := 73) dX6_numbers_72 rfl rfl ?_
      refine C_SN3 (pc2 := 76) (mc := 0) (ms := 0) dX6_numbers_73 csX7_within mnX6_63 (Nat.le_of_ble_eq_true rfl) rfl ?_
      refine c_withinN (by omega) (by omega) (by omega) (fun q1 q2 => ?_) (fun hno => ?_)
      · first | refine B_ifne1 (tgt := 85) dX6_numbers_76 (by with_reducible rfl) (by decide) ?_ | refine B_ifne0 (pc2 := 79) (tgt := 85) dX6_numbers_76 (by with_reducible rfl) (by decide) rfl ?_ | refine N_ifne (pc2 := 79) (tgt := 85) dX6_numbers_76 (by with_reducible rfl) (by decide) (by omega) rfl (fun c76 => ?_) (fun c76 => ?_) | refine T_ifne (pc2 := 79) (tgt := 85) dX6_numbers_76 (by decide) rfl (fun c76 => ?_) (fun c76 => ?_)
        refine T_aload_n (pc2 := 86) dX6_numbers_85 rfl rfl ?_
        refine T_dup (pc2 := 87) dX6_numbers_86 rfl rfl ?_
        refine G_getI (pc2 := 90) dX6_numbers_87 flX6_19 (sh18 S) rfl (by first | with_reducible assumption | exact gs_eq _ _ _ _ | exact (gs_ne _ _ (by omega)).trans (by with_reducible assumption) | exact (gs_ne _ _ (by omega)).trans (gs_eq _ _ _ _) | exact (gs_ne _ _ (by omega)).trans ((gs_ne _ _ (by omega)).trans (by with_reducible assumption)) | exact (gs_ne _ _ (by omega)).trans ((gs_ne _ _ (by omega)).trans (gs_eq _ _ _ _)) | exact (gs_ne _ _ (by omega)).trans ((gs_ne _ _ (by omega)).trans ((gs_ne _ _ (by omega)).trans (by with_reducible assumption))) | rfl) rfl ?_
        refine T_iload_n (pc2 := 91) dX6_numbers_90 rfl rfl ?_
        first | refine N_iadd (pc2 := 92) dX6_numbers_91 (by with_reducible rfl) (by with_reducible rfl) rfl ?_ | refine T_iadd (pc2 := 92) dX6_numbers_91 rfl ?_
        refine G_putI (pc2 := 95) dX6_numbers_92 flX6_19 (sh18 S) rfl rfl rfl rfl ?_
        refine T_iconst (pc2 := 96) dX6_numbers_95 ic1 rfl ?_
        refine T_iret dX6_numbers_96 rfl (by first | rfl | decide) ?_
        refine kt _ ?_ (hT2.put (by decide)) (gs_eq _ _ _ _) ?_ (hf.st (by omega) (by omega))
        · unfold pnc
          rw [if_neg (fun z => z ⟨h1, h2⟩), if_neg (fun z => z ⟨q1, q2⟩)]
        · rw [gs_ne _ _ (by omega)]; exact ev
      · first | refine B_ifne1 (tgt := 85) dX6_numbers_76 (by with_reducible rfl) (by decide) ?_ | refine B_ifne0 (pc2 := 79) (tgt := 85) dX6_numbers_76 (by with_reducible rfl) (by decide) rfl ?_ | refine N_ifne (pc2 := 79) (tgt := 85) dX6_numbers_76 (by with_reducible rfl) (by decide) (by omega) rfl (fun c76 => ?_) (fun c76 => ?_) | refine T_ifne (pc2 := 79) (tgt := 85) dX6_numbers_76 (by decide) rfl (fun c76 => ?_) (fun c76 => ?_)
        refine T_aload_n (pc2 := 80) dX6_numbers_79 rfl rfl ?_
        refine T_iconst (pc2 := 81) dX6_numbers_80 ic2 rfl ?_
        refine C_V1 (pc2 := 84) (mc := 0) (ms := 0) dX6_numbers_81 cvX6_fails mlX6_49 (isO.h (sh18 S) _) (Nat.le_of_ble_eq_true rfl) rfl ?_
        refine c_fails S ?_
        refine T_iret dX6_numbers_84 rfl (by first | rfl | decide) ?_
        have hp : pnc tp sz a0 lo hi = 2 := by
          unfold pnc
          rw [if_neg (fun z => z ⟨h1, h2⟩), if_pos hno]
        refine kf _ (by rw [hp]; decide) (hT2.put (by decide)) (by rw [gs_ne _ _ (by omega)]; exact ea2) (by rw [gs_eq, hp]) (hf.st (by omega) (by omega))
    refine T_aload_n (pc2 := 21) dX6_numbers_20 rfl rfl ?_
    refine T_iconst (pc2 := 22) dX6_numbers_21 ic0 rfl ?_
    refine G_putI (pc2 := 25) dX6_numbers_22 flX6_35 (sh18 S) rfl rfl rfl rfl ?_
    refine T_iconst (pc2 := 26) dX6_numbers_25 ic0 rfl ?_
    refine T_istore (pc2 := 28) dX6_numbers_26 (by decide) rfl ?_
    refine T_iload (pc2 := 30) dX6_numbers_28 rfl rfl ?_
    refine T_iload_n (pc2 := 31) dX6_numbers_30 rfl rfl ?_
    first | refine N_icmpge (pc2 := 34) (tgt := 67) dX6_numbers_31 (by decide) (by with_reducible rfl) (by with_reducible rfl) (by omega) (by omega) rfl (fun c31 => ?_) (fun c31 => ?_) | refine T_icmpge (pc2 := 34) (tgt := 67) dX6_numbers_31 (by decide) rfl (fun c31 => ?_) (fun c31 => ?_)
    · exact absurd c31 (by omega)
    · have e4a : gset g 18 4 (nI 0) 18 4 = nI 0 := gs_eq _ _ _ _
      have e2a : gset g 18 4 (nI 0) 18 2 = nI a0 := by rw [gs_ne _ _ (by omega)]; exact ea
      have e9a : gset g 18 4 (nI 0) 19 (a0 + 0) = nI (tp a0) := by rw [gs_ne _ _ (by omega)]; exact b1
      refine T_aload_n (pc2 := 35) dX6_numbers_34 rfl rfl ?_
      refine T_aload_n (pc2 := 36) dX6_numbers_35 rfl rfl ?_
      refine G_getI (pc2 := 39) dX6_numbers_36 flX6_35 (sh18 S) rfl (by first | with_reducible assumption | exact gs_eq _ _ _ _ | exact (gs_ne _ _ (by omega)).trans (by with_reducible assumption) | exact (gs_ne _ _ (by omega)).trans (gs_eq _ _ _ _) | exact (gs_ne _ _ (by omega)).trans ((gs_ne _ _ (by omega)).trans (by with_reducible assumption)) | exact (gs_ne _ _ (by omega)).trans ((gs_ne _ _ (by omega)).trans (gs_eq _ _ _ _)) | exact (gs_ne _ _ (by omega)).trans ((gs_ne _ _ (by omega)).trans ((gs_ne _ _ (by omega)).trans (by with_reducible assumption))) | rfl) rfl ?_
      refine T_bipush (pc2 := 41) dX6_numbers_39 bp10 rfl ?_
      first | refine N_imul (pc2 := 42) dX6_numbers_41 (by with_reducible rfl) (by with_reducible rfl) rfl ?_ | refine T_imul (pc2 := 42) dX6_numbers_41 rfl ?_
      refine T_aload_n (pc2 := 43) dX6_numbers_42 rfl rfl ?_
      refine G_getR (pc2 := 46) dX6_numbers_43 flX6_9 (sh18 S) rfl rfl ?_
      refine T_aload_n (pc2 := 47) dX6_numbers_46 rfl rfl ?_
      refine G_getI (pc2 := 50) dX6_numbers_47 flX6_19 (sh18 S) rfl (by first | with_reducible assumption | exact gs_eq _ _ _ _ | exact (gs_ne _ _ (by omega)).trans (by with_reducible assumption) | exact (gs_ne _ _ (by omega)).trans (gs_eq _ _ _ _) | exact (gs_ne _ _ (by omega)).trans ((gs_ne _ _ (by omega)).trans (by with_reducible assumption)) | exact (gs_ne _ _ (by omega)).trans ((gs_ne _ _ (by omega)).trans (gs_eq _ _ _ _)) | exact (gs_ne _ _ (by omega)).trans ((gs_ne _ _ (by omega)).trans ((gs_ne _ _ (by omega)).trans (by with_reducible assumption))) | rfl) rfl ?_
      refine T_iload (pc2 := 52) dX6_numbers_50 rfl rfl ?_
      first | refine N_iadd (pc2 := 53) dX6_numbers_52 (by with_reducible rfl) (by with_reducible rfl) rfl ?_ | refine T_iadd (pc2 := 53) dX6_numbers_52 rfl ?_
      refine G_iald (pc2 := 54) dX6_numbers_53 (sh19 S) (by omega) (by first | decide | omega) (by first | with_reducible assumption | exact gs_eq _ _ _ _ | exact (gs_ne _ _ (by omega)).trans (by with_reducible assumption) | exact (gs_ne _ _ (by omega)).trans (gs_eq _ _ _ _) | exact (gs_ne _ _ (by omega)).trans ((gs_ne _ _ (by omega)).trans (by with_reducible assumption)) | exact (gs_ne _ _ (by omega)).trans ((gs_ne _ _ (by omega)).trans (gs_eq _ _ _ _)) | exact (gs_ne _ _ (by omega)).trans ((gs_ne _ _ (by omega)).trans ((gs_ne _ _ (by omega)).trans (by with_reducible assumption))) | rfl) rfl ?_
      first | refine N_iadd (pc2 := 55) dX6_numbers_54 (by with_reducible rfl) (by with_reducible rfl) rfl ?_ | refine T_iadd (pc2 := 55) dX6_numbers_54 rfl ?_
      refine T_bipush (pc2 := 57) dX6_numbers_55 bp48 rfl ?_
      first | refine N_isub (pc2 := 58) dX6_numbers_57 (by with_reducible rfl) (by with_reducible rfl) (by omega) rfl ?_ | refine T_isub (pc2 := 58) dX6_numbers_57 rfl ?_
      refine G_putI (pc2 := 61) dX6_numbers_58 flX6_35 (sh18 S) rfl rfl rfl rfl ?_
      first | refine N_iinc (pc2 := 64) dX6_numbers_61 rfl (by with_reducible rfl) ic1 (by decide) rfl ?_ | refine T_iinc (pc2 := 64) dX6_numbers_61 rfl rfl (by decide) rfl ?_
      refine T_goto (tgt := 28) dX6_numbers_64 (by decide) ?_
      by_cases hr1 : rn tp sz a0 = 1
      · have hv1 : vl tp sz a0 = 0 * 10 + tp a0 - 48 := by
          unfold vl
          rw [if_pos hr1]
          omega
        refine T_iload (pc2 := 30) dX6_numbers_28 rfl rfl ?_
        refine T_iload_n (pc2 := 31) dX6_numbers_30 rfl rfl ?_
        first | refine N_icmpge (pc2 := 34) (tgt := 67) dX6_numbers_31 (by decide) (by with_reducible rfl) (by with_reducible rfl) (by omega) (by omega) rfl (fun c31 => ?_) (fun c31 => ?_) | refine T_icmpge (pc2 := 34) (tgt := 67) dX6_numbers_31 (by decide) rfl (fun c31 => ?_) (fun c31 => ?_)
        · refine hfin _ ((hT.put (by decide)).put (by decide)) (by rw [gs_ne _ _ (by omega)]; exact e2a) (by rw [gs_eq, hv1]) ((Fr.rf.st (by omega) (by omega)).st (by omega) (by omega)) _ (lks (i := 0) rfl (lks (i := 1) rfl (lks (i := 2) rfl (lks (i := 3) rfl lk0))))
        · exact absurd (by omega) c31
      · have hr2 : rn tp sz a0 = 2 := by omega
        have d2 := rn_dig2 (show 2 ≤ rn tp sz a0 by omega)
        have b2 := hT.2 (a0 + 1) d2.1
        have hv2 : vl tp sz a0 = (0 * 10 + tp a0 - 48) * 10 + tp (a0 + 1) - 48 := by
          unfold vl
          rw [if_neg hr1]
          omega
        refine T_iload (pc2 := 30) dX6_numbers_28 rfl rfl ?_
        refine T_iload_n (pc2 := 31) dX6_numbers_30 rfl rfl ?_
        first | refine N_icmpge (pc2 := 34) (tgt := 67) dX6_numbers_31 (by decide) (by with_reducible rfl) (by with_reducible rfl) (by omega) (by omega) rfl (fun c31 => ?_) (fun c31 => ?_) | refine T_icmpge (pc2 := 34) (tgt := 67) dX6_numbers_31 (by decide) rfl (fun c31 => ?_) (fun c31 => ?_)
        · exact absurd c31 (by omega)
        · have e4b : gset (gset g 18 4 (nI 0)) 18 4 (nI (0 * 10 + tp a0 - 48)) 18 4 = nI (0 * 10 + tp a0 - 48) := gs_eq _ _ _ _
          have e2b : gset (gset g 18 4 (nI 0)) 18 4 (nI (0 * 10 + tp a0 - 48)) 18 2 = nI a0 := by rw [gs_ne _ _ (by omega)]; exact e2a
          have e9b : gset (gset g 18 4 (nI 0)) 18 4 (nI (0 * 10 + tp a0 - 48)) 19 (a0 + (0 + 1)) = nI (tp (a0 + 1)) := by rw [gs_ne _ _ (by omega), gs_ne _ _ (by omega)]; exact b2
          refine T_aload_n (pc2 := 35) dX6_numbers_34 rfl rfl ?_
          refine T_aload_n (pc2 := 36) dX6_numbers_35 rfl rfl ?_
          refine G_getI (pc2 := 39) dX6_numbers_36 flX6_35 (sh18 S) rfl (by first | with_reducible assumption | exact gs_eq _ _ _ _ | exact (gs_ne _ _ (by omega)).trans (by with_reducible assumption) | exact (gs_ne _ _ (by omega)).trans (gs_eq _ _ _ _) | exact (gs_ne _ _ (by omega)).trans ((gs_ne _ _ (by omega)).trans (by with_reducible assumption)) | exact (gs_ne _ _ (by omega)).trans ((gs_ne _ _ (by omega)).trans (gs_eq _ _ _ _)) | exact (gs_ne _ _ (by omega)).trans ((gs_ne _ _ (by omega)).trans ((gs_ne _ _ (by omega)).trans (by with_reducible assumption))) | rfl) rfl ?_
          refine T_bipush (pc2 := 41) dX6_numbers_39 bp10 rfl ?_
          first | refine N_imul (pc2 := 42) dX6_numbers_41 (by with_reducible rfl) (by with_reducible rfl) rfl ?_ | refine T_imul (pc2 := 42) dX6_numbers_41 rfl ?_
          refine T_aload_n (pc2 := 43) dX6_numbers_42 rfl rfl ?_
          refine G_getR (pc2 := 46) dX6_numbers_43 flX6_9 (sh18 S) rfl rfl ?_
          refine T_aload_n (pc2 := 47) dX6_numbers_46 rfl rfl ?_
          refine G_getI (pc2 := 50) dX6_numbers_47 flX6_19 (sh18 S) rfl (by first | with_reducible assumption | exact gs_eq _ _ _ _ | exact (gs_ne _ _ (by omega)).trans (by with_reducible assumption) | exact (gs_ne _ _ (by omega)).trans (gs_eq _ _ _ _) | exact (gs_ne _ _ (by omega)).trans ((gs_ne _ _ (by omega)).trans (by with_reducible assumption)) | exact (gs_ne _ _ (by omega)).trans ((gs_ne _ _ (by omega)).trans (gs_eq _ _ _ _)) | exact (gs_ne _ _ (by omega)).trans ((gs_ne _ _ (by omega)).trans ((gs_ne _ _ (by omega)).trans (by with_reducible assumption))) | rfl) rfl ?_
          refine T_iload (pc2 := 52) dX6_numbers_50 rfl rfl ?_
          first | refine N_iadd (pc2 := 53) dX6_numbers_52 (by with_reducible rfl) (by with_reducible rfl) rfl ?_ | refine T_iadd (pc2 := 53) dX6_numbers_52 rfl ?_
          refine G_iald (pc2 := 54) dX6_numbers_53 (sh19 S) (by omega) (by first | decide | omega) (by first | with_reducible assumption | exact gs_eq _ _ _ _ | exact (gs_ne _ _ (by omega)).trans (by with_reducible assumption) | exact (gs_ne _ _ (by omega)).trans (gs_eq _ _ _ _) | exact (gs_ne _ _ (by omega)).trans ((gs_ne _ _ (by omega)).trans (by with_reducible assumption)) | exact (gs_ne _ _ (by omega)).trans ((gs_ne _ _ (by omega)).trans (gs_eq _ _ _ _)) | exact (gs_ne _ _ (by omega)).trans ((gs_ne _ _ (by omega)).trans ((gs_ne _ _ (by omega)).trans (by with_reducible assumption))) | rfl) rfl ?_
          first | refine N_iadd (pc2 := 55) dX6_numbers_54 (by with_reducible rfl) (by with_reducible rfl) rfl ?_ | refine T_iadd (pc2 := 55) dX6_numbers_54 rfl ?_
          refine T_bipush (pc2 := 57) dX6_numbers_55 bp48 rfl ?_
          first | refine N_isub (pc2 := 58) dX6_numbers_57 (by with_reducible rfl) (by with_reducible rfl) (by omega) rfl ?_ | refine T_isub (pc2 := 58) dX6_numbers_57 rfl ?_
          refine G_putI (pc2 := 61) dX6_numbers_58 flX6_35 (sh18 S) rfl rfl rfl rfl ?_
          first | refine N_iinc (pc2 := 64) dX6_numbers_61 rfl (by with_reducible rfl) ic1 (by decide) rfl ?_ | refine T_iinc (pc2 := 64) dX6_numbers_61 rfl rfl (by decide) rfl ?_
          refine T_goto (tgt := 28) dX6_numbers_64 (by decide) ?_
          refine T_iload (pc2 := 30) dX6_numbers_28 rfl rfl ?_
          refine T_iload_n (pc2 := 31) dX6_numbers_30 rfl rfl ?_
          first | refine N_icmpge (pc2 := 34) (tgt := 67) dX6_numbers_31 (by decide) (by with_reducible rfl) (by with_reducible rfl) (by omega) (by omega) rfl (fun c31 => ?_) (fun c31 => ?_) | refine T_icmpge (pc2 := 34) (tgt := 67) dX6_numbers_31 (by decide) rfl (fun c31 => ?_) (fun c31 => ?_)
          · refine hfin _ (((hT.put (by decide)).put (by decide)).put (by decide)) (by rw [gs_ne _ _ (by omega)]; exact e2b) (by rw [gs_eq, hv2]) (((Fr.rf.st (by omega) (by omega)).st (by omega) (by omega)).st (by omega) (by omega)) _ (lks (i := 0) rfl (lks (i := 1) rfl (lks (i := 2) rfl (lks (i := 3) rfl lk0))))
          · exact absurd (by omega) c31
  · first | refine B_ifne1 (tgt := 20) dX6_numbers_11 (by with_reducible rfl) (by decide) ?_ | refine B_ifne0 (pc2 := 14) (tgt := 20) dX6_numbers_11 (by with_reducible rfl) (by decide) rfl ?_ | refine N_ifne (pc2 := 14) (tgt := 20) dX6_numbers_11 (by with_reducible rfl) (by decide) (by omega) rfl (fun c11 => ?_) (fun c11 => ?_) | refine T_ifne (pc2 := 14) (tgt := 20) dX6_numbers_11 (by decide) rfl (fun c11 => ?_) (fun c11 => ?_)
    refine T_aload_n (pc2 := 15) dX6_numbers_14 rfl rfl ?_
    refine T_iconst (pc2 := 16) dX6_numbers_15 ic1 rfl ?_
    refine C_V1 (pc2 := 19) (mc := 0) (ms := 0) dX6_numbers_16 cvX6_fails mlX6_49 (isO.h (sh18 S) _) (Nat.le_of_ble_eq_true rfl) rfl ?_
    refine c_fails S ?_
    refine T_iret dX6_numbers_19 rfl (by first | rfl | decide) ?_
    have hp : pnc tp sz a0 lo hi = 1 := by
      unfold pnc
      rw [if_pos hno]
    refine kf _ (by rw [hp]; decide) (hT.put (by decide)) (by rw [gs_ne _ _ (by omega)]; exact ea) (by rw [gs_eq, hp]) (Fr.rf.st (by omega) (by omega))
end TapeM

