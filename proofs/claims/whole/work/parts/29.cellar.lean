/-! a cellar as numbers -/
abbrev Cel : Type := Nat × Nat × Nat × (Nat → Nat) × (Nat → Nat) × (Nat → Nat) × (Nat → Nat) × (Nat → Nat)
abbrev Cel.J (V : Cel) : Nat := V.1
abbrev Cel.Y (V : Cel) : Nat := V.2.1
abbrev Cel.R (V : Cel) : Nat := V.2.2.1
abbrev Cel.kd (V : Cel) : Nat → Nat := V.2.2.2.1
abbrev Cel.nt (V : Cel) : Nat → Nat := V.2.2.2.2.1
abbrev Cel.kp (V : Cel) : Nat → Nat := V.2.2.2.2.2.1
abbrev Cel.pl (V : Cel) : Nat → Nat := V.2.2.2.2.2.2.1
abbrev Cel.hw (V : Cel) : Nat → Nat := V.2.2.2.2.2.2.2
/-- the int slots of a cell or of six are V's -/
def hasC (g : Nat → Nat → Int32) (c : Nat) (V : Cel) : Prop := g c 0 = nI V.J ∧ g c 1 = nI V.Y ∧ g c 2 = nI V.R ∧ ∀ j, j < V.J → g (c + 1) j = nI (V.kd j) ∧ g (c + 2) j = nI (V.nt j) ∧ g (c + 3) j = nI (V.kp j) ∧ g (c + 4) j = nI (V.pl j) ∧ g (c + 5) j = nI (V.hw j)
/-- what is so of every cellar -/
def okC (V : Cel) : Prop := V.J ≤ 8 ∧ V.Y < 100000 ∧ V.R ≤ 8 ∧ (∀ j, j < V.J → 1 ≤ V.kd j ∧ V.kd j ≤ 5 ∧ V.nt j < 12 ∧ V.kp j ≤ 60 ∧ (V.hw j = 0 → 1 ≤ V.kp j) ∧ V.pl j < V.J ∧ V.hw j ≤ 3) ∧ ∀ i j, i < V.J → j < V.J → V.pl i = V.pl j → i = j
def Fr (lo hi : Nat) (g g2 : Nat → Nat → Int32) : Prop := ∀ i, (i < lo ∨ hi ≤ i) → g2 i = g i
theorem Fr.rf {lo hi : Nat} {g : Nat → Nat → Int32} : Fr lo hi g g := fun _ _ => rfl
theorem Fr.tr {lo hi : Nat} {g g2 g3 : Nat → Nat → Int32} (h1 : Fr lo hi g g2) (h2 : Fr lo hi g2 g3) : Fr lo hi g g3 := fun i hi => (h2 i hi).trans (h1 i hi)
theorem Fr.wd {lo hi lo2 hi2 : Nat} {g g2 : Nat → Nat → Int32} (h : Fr lo hi g g2) (h1 : lo2 ≤ lo) (h2 : hi ≤ hi2) : Fr lo2 hi2 g g2 := fun i hi => h i (by omega)
theorem Fr.st {lo hi i k : Nat} {g g2 : Nat → Nat → Int32} {v : Int32} (h : Fr lo hi g g2) (h1 : lo ≤ i) (h2 : i < hi) : Fr lo hi g (gset g2 i k v) := fun j hj => by
  rw [← h j hj]
  have : j ≠ i := by omega
  simp [gset, va_up, this]
theorem Fr.up {lo hi i : Nat} {g g2 : Nat → Nat → Int32} {f : Nat → Int32} (h : Fr lo hi g g2) (h1 : lo ≤ i) (h2 : i < hi) : Fr lo hi g (va_up g2 i f) := fun j hj => by
  rw [← h j hj]
  have : j ≠ i := by omega
  simp [va_up, this]
theorem hasC.fr {g g2 : Nat → Nat → Int32} {c lo hi : Nat} {V : Cel} (h : hasC g c V) (f : Fr lo hi g g2) (hd : c + 6 ≤ lo ∨ hi ≤ c) : hasC g2 c V := by
  refine ⟨?_, ?_, ?_, fun j hj => ?_⟩
  · rw [f c (by omega)]; exact h.1
  · rw [f c (by omega)]; exact h.2.1
  · rw [f c (by omega)]; exact h.2.2.1
  · rw [f (c + 1) (by omega), f (c + 2) (by omega), f (c + 3) (by omega), f (c + 4) (by omega), f (c + 5) (by omega)]
    exact h.2.2.2 j hj
/-- those of a kind: bits -/
def Cel.th (V : Cel) (how : Nat) : Nat → Bool := fun j => decide (j < V.J) && decide (V.hw j = how)
def Cel.kept (V : Cel) (m : Nat) : Nat → Bool := fun j => decide (j < V.J) && (decide (V.hw j = 0) && decide (m < V.kp j))
/-- a year more -/
def ageJ (V : Cel) (k : Nat) : Cel := (V.J, V.Y + 1, V.R, V.kd, V.nt, fun j => if j < k ∧ V.hw j = 0 then V.kp j - 1 else V.kp j, V.pl, fun j => if j < k ∧ V.hw j = 0 ∧ V.kp j ≤ 1 then 2 else V.hw j)
def Cel.age (V : Cel) : Cel := ageJ V V.J
/-- those of b are broken -/
def Cel.smash (V : Cel) (b : Nat → Bool) : Cel := (V.J, V.Y, V.R, V.kd, V.nt, V.kp, V.pl, fun j => if b j then 1 else V.hw j)
def Cel.swap (V : Cel) (a b : Nat) : Cel := (V.J, V.Y, V.R, V.kd, V.nt, V.kp, fun j => if j = b then V.pl a else if j = a then V.pl b else V.pl j, V.hw)
section CellarM
variable {sk : Nat → SK} {g : Nat → Nat → Int32} {n c : Nat} {V : Cel} {Q : Option Value → SH → Prop} {d kc ks : Nat}
theorem those_loop {how : Nat} (hc : isC sk n c) (hV : hasC g c V) (hJ : V.J ≤ 8) (hh : how < 2 ^ 31) (hw : ∀ j, j < V.J → V.hw j < 2 ^ 31) (k : Q (some (.int (nI (bm (V.th how) 8)))) (HP sk g n)) :
    ∀ m j, j + m = V.J → T MX2_those d kc ks 4 [(0, .ref c), (1, .int (nI how)), (2, .int (nI (bm (V.th how) j))), (3, .int (nI j))] [] (HP sk g n) Q := by
  have e0 := hV.1
  intro m
  induction m with
  | zero =>
    intro j hj
    refine T_iload_n (pc2 := 5) dX2_those_4 rfl rfl ?_
    refine T_aload_n (pc2 := 6) dX2_those_5 rfl rfl ?_
    refine G_getI (pc2 := 9) dX2_those_6 flX2_27 hc.1 rfl (by first | with_reducible assumption | exact gs_eq _ _ _ _ | exact (gs_ne _ _ (by omega)).trans (by with_reducible assumption) | exact (gs_ne _ _ (by omega)).trans (gs_eq _ _ _ _) | exact (gs_ne _ _ (by omega)).trans ((gs_ne _ _ (by omega)).trans (by with_reducible assumption)) | exact (gs_ne _ _ (by omega)).trans ((gs_ne _ _ (by omega)).trans (gs_eq _ _ _ _)) | exact (gs_ne _ _ (by omega)).trans ((gs_ne _ _ (by omega)).trans ((gs_ne _ _ (by omega)).trans (by with_reducible assumption))) | rfl) rfl ?_
    first | refine N_icmpge (pc2 := 12) (tgt := 34) dX2_those_9 (by decide) (by with_reducible rfl) (by with_reducible rfl) (by omega) (by omega) rfl (fun c9 => ?_) (fun c9 => ?_) | refine T_icmpge (pc2 := 12) (tgt := 34) dX2_those_9 (by decide) rfl (fun c9 => ?_) (fun c9 => ?_)
    · refine T_iload_n (pc2 := 35) dX2_those_34 rfl rfl ?_
      refine T_iret dX2_those_35 rfl rfl ?_
      rw [show j = V.J by omega, ← bm_up hJ (fun i h1 _ => by simp [Cel.th, Nat.not_lt.mpr h1])]
      exact k
    · exact absurd (by omega) c9
  | succ m ih =>
    intro j hj
    have hjl : j < V.J := by omega
    have e5 := (hV.2.2.2 j hjl).2.2.2.2
    have hwj := hw j hjl
    refine T_iload_n (pc2 := 5) dX2_those_4 rfl rfl ?_
    refine T_aload_n (pc2 := 6) dX2_those_5 rfl rfl ?_
    refine G_getI (pc2 := 9) dX2_those_6 flX2_27 hc.1 rfl (by first | with_reducible assumption | exact gs_eq _ _ _ _ | exact (gs_ne _ _ (by omega)).trans (by with_reducible assumption) | exact (gs_ne _ _ (by omega)).trans (gs_eq _ _ _ _) | exact (gs_ne _ _ (by omega)).trans ((gs_ne _ _ (by omega)).trans (by with_reducible assumption)) | exact (gs_ne _ _ (by omega)).trans ((gs_ne _ _ (by omega)).trans (gs_eq _ _ _ _)) | exact (gs_ne _ _ (by omega)).trans ((gs_ne _ _ (by omega)).trans ((gs_ne _ _ (by omega)).trans (by with_reducible assumption))) | rfl) rfl ?_
    first | refine N_icmpge (pc2 := 12) (tgt := 34) dX2_those_9 (by decide) (by with_reducible rfl) (by with_reducible rfl) (by omega) (by omega) rfl (fun c9 => ?_) (fun c9 => ?_) | refine T_icmpge (pc2 := 12) (tgt := 34) dX2_those_9 (by decide) rfl (fun c9 => ?_) (fun c9 => ?_)
    · exact absurd c9 (by omega)
    · refine T_aload_n (pc2 := 13) dX2_those_12 rfl rfl ?_
      refine G_getR (pc2 := 16) dX2_those_13 flX2_24 hc.1 rfl rfl ?_
      refine T_iload_n (pc2 := 17) dX2_those_16 rfl rfl ?_
      refine G_iald (pc2 := 18) dX2_those_17 hc.2.2.2.2.2 (by omega) (by first | decide | omega) (by first | with_reducible assumption | exact gs_eq _ _ _ _ | exact (gs_ne _ _ (by omega)).trans (by with_reducible assumption) | exact (gs_ne _ _ (by omega)).trans (gs_eq _ _ _ _) | exact (gs_ne _ _ (by omega)).trans ((gs_ne _ _ (by omega)).trans (by with_reducible assumption)) | exact (gs_ne _ _ (by omega)).trans ((gs_ne _ _ (by omega)).trans (gs_eq _ _ _ _)) | exact (gs_ne _ _ (by omega)).trans ((gs_ne _ _ (by omega)).trans ((gs_ne _ _ (by omega)).trans (by with_reducible assumption))) | rfl) rfl ?_
      refine T_iload_n (pc2 := 19) dX2_those_18 rfl rfl ?_
      first | refine N_icmpne (pc2 := 22) (tgt := 28) dX2_those_19 (by decide) (by with_reducible rfl) (by with_reducible rfl) (by omega) (by omega) rfl (fun c19 => ?_) (fun c19 => ?_) | refine T_icmpne (pc2 := 22) (tgt := 28) dX2_those_19 (by decide) rfl (fun c19 => ?_) (fun c19 => ?_)
      · refine T_sub (lks (i := 0) rfl (lks (i := 1) rfl (lks (i := 2) rfl (lks (i := 3) rfl lk0)))) ?_
        first | refine N_iinc (pc2 := 31) dX2_those_28 rfl (by with_reducible rfl) ic1 (by decide) rfl ?_ | refine T_iinc (pc2 := 31) dX2_those_28 rfl rfl (by decide) rfl ?_
        refine T_goto (tgt := 4) dX2_those_31 (by decide) ?_
        refine T_sub (lks (i := 0) rfl (lks (i := 1) rfl (lks (i := 2) rfl (lks (i := 3) rfl lk0)))) ?_
        have e : bm (V.th how) (j + 1) = bm (V.th how) j := by
          show bm (V.th how) j + _ = _
          simp [Cel.th, c19]
        rw [← e]
        exact ih (j + 1) (by omega)
      · refine T_iload_n (pc2 := 23) dX2_those_22 rfl rfl ?_
        refine T_iconst (pc2 := 24) dX2_those_23 ic1 rfl ?_
        refine T_iload_n (pc2 := 25) dX2_those_24 rfl rfl ?_
        refine T_ishl (pc2 := 26) dX2_those_25 rfl ?_
        refine T_ior (pc2 := 27) dX2_those_26 rfl ?_
        refine T_istore_n (pc2 := 28) dX2_those_27 (by decide) rfl ?_
        rw [bm_add (by omega)]
        first | refine N_iinc (pc2 := 31) dX2_those_28 rfl (by with_reducible rfl) ic1 (by decide) rfl ?_ | refine T_iinc (pc2 := 31) dX2_those_28 rfl rfl (by decide) rfl ?_
        refine T_goto (tgt := 4) dX2_those_31 (by decide) ?_
        refine T_sub (lks (i := 0) rfl (lks (i := 1) rfl (lks (i := 2) rfl (lks (i := 3) rfl lk0)))) ?_
        have e : bm (V.th how) (j + 1) = bm (V.th how) j + 2 ^ j := by
          show bm (V.th how) j + _ = _
          simp [Cel.th, c19, hjl]
        rw [← e]
        exact ih (j + 1) (by omega)
theorem c_those {how : Nat} (hc : isC sk n c) (hV : hasC g c V) (hJ : V.J ≤ 8) (hh : how < 2 ^ 31) (hw : ∀ j, j < V.J → V.hw j < 2 ^ 31) (k : Q (some (.int (nI (bm (V.th how) 8)))) (HP sk g n)) : Calls MX2_those d 0 0 [.ref c, .int (nI how)] (HP sk g n) Q := by
  refine Calls.of (by decide +kernel) (Nat.le_of_ble_eq_true rfl) ?_
  refine T_iconst (pc2 := 1) dX2_those_0 ic0 rfl ?_
  refine T_istore_n (pc2 := 2) dX2_those_1 (by decide) rfl ?_
  refine T_iconst (pc2 := 3) dX2_those_2 ic0 rfl ?_
  refine T_istore_n (pc2 := 4) dX2_those_3 (by decide) rfl ?_
  refine T_sub (lks (i := 0) rfl (lks (i := 1) rfl (lks (i := 2) rfl (lks (i := 3) rfl lk0)))) ?_
  exact those_loop hc hV hJ hh hw k V.J 0 (by omega)
end CellarM

