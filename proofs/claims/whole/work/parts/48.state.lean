/-! the state, and what the class holds of it -/
abbrev ST : Type := RS × (Nat → Nat) × Nat × Cel × (Nat → Cel) × Nat × (Nat → Option Cel) × Nat × Nat × List Nat
abbrev ST.A (s : ST) : RS := s.1
abbrev ST.tp (s : ST) : Nat → Nat := s.2.1
abbrev ST.sz (s : ST) : Nat := s.2.2.1
abbrev ST.V (s : ST) : Cel := s.2.2.2.1
abbrev ST.ac (s : ST) : Nat → Cel := s.2.2.2.2.1
abbrev ST.an (s : ST) : Nat := s.2.2.2.2.2.1
abbrev ST.I (s : ST) : Nat → Option Cel := s.2.2.2.2.2.2.1
abbrev ST.lf (s : ST) : Nat := s.2.2.2.2.2.2.2.1
abbrev ST.fd (s : ST) : Nat := s.2.2.2.2.2.2.2.2.1
abbrev ST.tr (s : ST) : List Nat := s.2.2.2.2.2.2.2.2.2
def ST.setA (s : ST) (A : RS) : ST := (A, s.tp, s.sz, s.V, s.ac, s.an, s.I, s.lf, s.fd, s.tr)
def ST.setT (s : ST) (tp : Nat → Nat) (sz : Nat) : ST := (s.A, tp, sz, s.V, s.ac, s.an, s.I, s.lf, s.fd, s.tr)
def ST.setV (s : ST) (V : Cel) : ST := (s.A, s.tp, s.sz, V, s.ac, s.an, s.I, s.lf, s.fd, s.tr)
def ST.setac (s : ST) (ac : Nat → Cel) (an : Nat) : ST := (s.A, s.tp, s.sz, s.V, ac, an, s.I, s.lf, s.fd, s.tr)
def ST.setI (s : ST) (I : Nat → Option Cel) : ST := (s.A, s.tp, s.sz, s.V, s.ac, s.an, I, s.lf, s.fd, s.tr)
def ST.setlf (s : ST) (lf : Nat) : ST := (s.A, s.tp, s.sz, s.V, s.ac, s.an, s.I, lf, s.fd, s.tr)
def ST.setfd (s : ST) (fd : Nat) : ST := (s.A, s.tp, s.sz, s.V, s.ac, s.an, s.I, s.lf, fd, s.tr)
def ST.settr (s : ST) (tr : List Nat) : ST := (s.A, s.tp, s.sz, s.V, s.ac, s.an, s.I, s.lf, s.fd, tr)
/-- an act is kept -/
def ST.keep (s : ST) : ST := s.setac (pushC s.V s.ac) (min (s.an + 1) 24)
def okV (V : Cel) : Prop := okC V ∧ V.Y ≤ 999
def Ok (s : ST) : Prop := okR s.A ∧ okT s.tp s.sz ∧ okV s.V ∧ s.an ≤ 24 ∧ (∀ i, i < s.an → okV (s.ac i)) ∧ (∀ k U, s.I k = some U → okV U) ∧ s.lf < 100 ∧ s.fd < 100 ∧ s.tr.length ≤ 16
def hasI (g : Nat → Nat → Int32) (im : Nat → Option Nat) (I : Nat → Option Cel) : Prop := ∀ k, k < 2 → (I k = none → im k = none) ∧ ∀ U, I k = some U → ∃ b, im k = some b ∧ hasC g b U
def JJ (sk : Nat → SK) (g : Nat → Nat → Int32) (n : Nat) (bf im : Nat → Option Nat) (above below : Int64) (nx : Nat) (s : ST) : Prop :=
  Sh sk n bf im above below ∧ Dyn sk n bf im ∧ stat g ∧ hasR g s.A ∧ hasT g s.tp s.sz ∧ hasC g 20 s.V ∧ (g 32 1 = nI nx ∧ nx < 24 ∧ g 32 2 = nI s.an) ∧ hasActs g bf s.ac s.an nx ∧ hasTr g s.tr ∧ hasI g im s.I ∧ g 4 8 = nI s.lf ∧ g 4 9 = nI s.fd
def InvJ (sk : Nat → SK) (g : Nat → Nat → Int32) (n : Nat) (s : ST) : Prop := ∃ bf im above below nx, JJ sk g n bf im above below nx s
def FrJ (sk : Nat → SK) (g : Nat → Nat → Int32) (sk2 : Nat → SK) (g2 : Nat → Nat → Int32) : Prop := sk2 0 = sk 0 ∧ ∀ i, (i = 0 ∨ (48 ≤ i ∧ i < 62)) → g2 i = g i
theorem FrJ.rf {sk : Nat → SK} {g : Nat → Nat → Int32} : FrJ sk g sk g := ⟨rfl, fun _ _ => rfl⟩
theorem FrJ.tr {sk sk2 sk3 : Nat → SK} {g g2 g3 : Nat → Nat → Int32} (h : FrJ sk g sk2 g2) (h2 : FrJ sk2 g2 sk3 g3) : FrJ sk g sk3 g3 := ⟨h2.1.trans h.1, fun i hi => (h2.2 i hi).trans (h.2 i hi)⟩
theorem FrJ.of {sk : Nat → SK} {g g2 : Nat → Nat → Int32} {lo hi : Nat} (f : Fr lo hi g g2) (h1 : 1 ≤ lo) (h2 : hi ≤ 48) : FrJ sk g sk g2 := ⟨rfl, fun i hi => f i (by omega)⟩
theorem hasC.cg {g g2 : Nat → Nat → Int32} {c : Nat} {V : Cel} (h : hasC g c V) (hg : ∀ i, c ≤ i → i < c + 6 → g2 i = g i) : hasC g2 c V := by
  unfold hasC at h ⊢
  rw [hg c (by omega) (by omega), hg (c + 1) (by omega) (by omega), hg (c + 2) (by omega) (by omega), hg (c + 3) (by omega) (by omega), hg (c + 4) (by omega) (by omega), hg (c + 5) (by omega) (by omega)]
  exact h
theorem hasR.cg {g g2 : Nat → Nat → Int32} {A : RS} (h : hasR g A) (hg : ∀ i, 5 ≤ i → i < 18 → g2 i = g i) : hasR g2 A := by
  intro r hr
  rw [hg 6 (by omega) (by omega), hg 7 (by omega) (by omega), hg 8 (by omega) (by omega), hg (10 + r) (by omega) (by omega)]
  exact h r hr
theorem hasT.cg {g g2 : Nat → Nat → Int32} {tp : Nat → Nat} {sz : Nat} (h : hasT g tp sz) (hg : ∀ i, 18 ≤ i → i < 20 → g2 i = g i) : hasT g2 tp sz := by
  unfold hasT
  rw [hg 18 (by omega) (by omega), hg 19 (by omega) (by omega)]
  exact h
theorem hasTr.cg {g g2 : Nat → Nat → Int32} {tr : List Nat} (h : hasTr g tr) (hg : ∀ i, 45 ≤ i → i < 47 → g2 i = g i) : hasTr g2 tr := by
  unfold hasTr
  rw [hg 45 (by omega) (by omega), hg 46 (by omega) (by omega)]
  exact h
theorem stat.cg {g g2 : Nat → Nat → Int32} (h : stat g) (hg : ∀ i, 1 ≤ i → i < 4 → g2 i = g i) : stat g2 := by
  unfold stat
  rw [hg 1 (by omega) (by omega), hg 2 (by omega) (by omega), hg 3 (by omega) (by omega)]
  exact h
theorem hasActs.cg {sk : Nat → SK} {n : Nat} {g g2 : Nat → Nat → Int32} {bf im : Nat → Option Nat} {ac : Nat → Cel} {an nx : Nat} (h : hasActs g bf ac an nx) (D : Dyn sk n bf im) (hg : ∀ i, 62 ≤ i → g2 i = g i) : hasActs g2 bf ac an nx := by
  obtain ⟨T, hT, hB, -⟩ := D
  intro i hi
  obtain ⟨b, h1, h2⟩ := h i hi
  obtain ⟨t, -, hb, -⟩ := hB _ b h1
  exact ⟨b, h1, h2.cg (fun q q1 _ => hg q (by omega))⟩
theorem hasI.cg {sk : Nat → SK} {n : Nat} {g g2 : Nat → Nat → Int32} {bf im : Nat → Option Nat} {I : Nat → Option Cel} (h : hasI g im I) (D : Dyn sk n bf im) (hg : ∀ k b, im k = some b → ∀ i, b ≤ i → i < b + 6 → g2 i = g i) : hasI g2 im I := by
  intro k hk
  refine ⟨(h k hk).1, fun U hU => ?_⟩
  obtain ⟨b, h1, h2⟩ := (h k hk).2 U hU
  exact ⟨b, h1, h2.cg (hg k b h1)⟩
/-- what changes is scratch alone -/
theorem JJ.cg {sk : Nat → SK} {g g2 : Nat → Nat → Int32} {n : Nat} {bf im : Nat → Option Nat} {above below : Int64} {nx : Nat} {s : ST} (h : JJ sk g n bf im above below nx s) (hg : ∀ i, (i < 26 ∨ i = 32 ∨ 45 ≤ i) → g2 i = g i) : JJ sk g2 n bf im above below nx s := by
  obtain ⟨h1, h2, h3, h4, h5, h6, h7, h8, h9, h10, h11, h12⟩ := h
  refine ⟨h1, h2, h3.cg (fun i _ _ => hg i (by omega)), h4.cg (fun i _ _ => hg i (by omega)), h5.cg (fun i _ _ => hg i (by omega)), h6.cg (fun i _ _ => hg i (by omega)), ?_, h8.cg h2 (fun i _ => hg i (by omega)), h9.cg (fun i _ _ => hg i (by omega)), h10.cg h2 (fun k b hb i q1 q2 => ?_), ?_, ?_⟩
  · rw [hg 32 (by omega)]; exact h7
  · obtain ⟨T, -, -, hI, -⟩ := h2
    obtain ⟨t, -, hb2, -⟩ := hI k b hb
    exact hg i (by omega)
  · rw [hg 4 (by omega)]; exact h11
  · rw [hg 4 (by omega)]; exact h12
theorem JJ.scr {sk : Nat → SK} {g g2 : Nat → Nat → Int32} {n : Nat} {bf im : Nat → Option Nat} {above below : Int64} {nx : Nat} {s : ST} (h : JJ sk g n bf im above below nx s) (f : Fr 34 45 g g2) : JJ sk g2 n bf im above below nx s := h.cg (fun i hi => f i (by omega))
theorem T.more {M : MI} {d kc ks kc2 ks2 pc : Nat} {ls : List (Nat × Value)} {st : List Value} {h : SH} {Q : Option Value → SH → Prop} (k : T M d kc ks pc ls st h Q) (h1 : kc ≤ kc2) (h2 : ks ≤ ks2) : T M d kc2 ks2 pc ls st h Q := by
  intro p l e R s m args below meth c Z D base x E H locs cells slots ca tys lsA F Y L
  exact k p l e R s m args below meth c Z D base x E H locs cells slots ca tys lsA F (Y.budget (by omega) (by omega)) L
abbrev NONE : Int32 := -1000000
abbrev BAD : Int32 := -1000001
abbrev STATE : Int32 := -1000002
abbrev FULL : Int32 := -1000003
def fnd (k : Nat) : Int32 := (-1000010) - nI k
/-- a number below k, if it is one -/
def inN (v : Int32) (k : Nat) : Option Nat := if v.toNatClampNeg < k ∧ v = nI v.toNatClampNeg then some v.toNatClampNeg else none
theorem inN_some {j k : Nat} (h : j < k) (hk : k < 2 ^ 31) : inN (nI j) k = some j := by
  unfold inN
  rw [nI_clamp (by omega), if_pos ⟨h, rfl⟩]
theorem inN_none {v : Int32} {k : Nat} (h : ∀ j, j < k → v ≠ nI j) : inN v k = none := by
  unfold inN
  exact if_neg (fun z => h _ z.1 z.2)
theorem inN_of {v : Int32} {k j : Nat} (h : inN v k = some j) : j < k ∧ v = nI j := by
  unfold inN at h
  split at h
  · rename_i q
    cases h
    exact q
  · cases h
section Priv
variable {sk : Nat → SK} {g : Nat → Nat → Int32} {n : Nat} {Q : Option Value → SH → Prop} {d kc ks : Nat} {bf im : Nat → Option Nat} {above below : Int64} {J : Nat}
theorem c_found {f : Nat} (S : Sh sk n bf im above below) (k : Q (some (.int (fnd f))) (HP sk (gset g 4 9 (nI f)) n)) : Calls MX7_found d 0 0 [.ref 4, .int (nI f)] (HP sk g n) Q := by
  refine Calls.of (by decide +kernel) (Nat.le_of_ble_eq_true rfl) ?_
  refine T_aload_n (pc2 := 1) dX7_found_0 rfl rfl ?_
  refine T_iload_n (pc2 := 2) dX7_found_1 rfl rfl ?_
  refine G_putI (pc2 := 5) dX7_found_2 flX7_301 (sh4 S) rfl rfl rfl rfl ?_
  refine T_ldcw (pc2 := 8) dX7_found_5 kcX7_304 rfl ?_
  refine T_iload_n (pc2 := 9) dX7_found_8 rfl rfl ?_
  refine T_isub (pc2 := 10) dX7_found_9 rfl ?_
  refine T_iret dX7_found_10 rfl rfl ?_
  exact k
theorem c_fine {v : Int32} (S : Sh sk n bf im above below) (k : Q (some (.int v)) (HP sk (gset g 4 9 (nI 0)) n)) : Calls MX7_fine d 0 0 [.ref 4, .int v] (HP sk g n) Q := by
  refine Calls.of (by decide +kernel) (Nat.le_of_ble_eq_true rfl) ?_
  refine T_aload_n (pc2 := 1) dX7_fine_0 rfl rfl ?_
  refine T_iconst (pc2 := 2) dX7_fine_1 ic0 rfl ?_
  refine G_putI (pc2 := 5) dX7_fine_2 flX7_301 (sh4 S) rfl rfl rfl rfl ?_
  refine T_iload_n (pc2 := 6) dX7_fine_5 rfl rfl ?_
  refine T_iret dX7_fine_6 rfl rfl ?_
  exact k
theorem c_noCellar (S : Sh sk n bf im above below) (e : g 20 0 = nI J) (hJ : J ≤ 8) (kt : J = 0 → Q (some (.int (nI 1))) (HP sk g n)) (kf : 0 < J → Q (some (.int (nI 0))) (HP sk g n)) : Calls MX7_noCellar d 0 0 [.ref 4] (HP sk g n) Q := by
  refine Calls.of (by decide +kernel) (Nat.le_of_ble_eq_true rfl) ?_
  refine T_aload_n (pc2 := 1) dX7_noCellar_0 rfl rfl ?_
  refine G_getR (pc2 := 4) dX7_noCellar_1 flX7_26 (sh4 S) rfl rfl ?_
  refine G_getI (pc2 := 7) dX7_noCellar_4 flX7_138 (sc20 S).1 rfl (by first | with_reducible assumption | exact gs_eq _ _ _ _ | exact (gs_ne _ _ (by omega)).trans (by with_reducible assumption) | exact (gs_ne _ _ (by omega)).trans (gs_eq _ _ _ _) | exact (gs_ne _ _ (by omega)).trans ((gs_ne _ _ (by omega)).trans (by with_reducible assumption)) | exact (gs_ne _ _ (by omega)).trans ((gs_ne _ _ (by omega)).trans (gs_eq _ _ _ _)) | exact (gs_ne _ _ (by omega)).trans ((gs_ne _ _ (by omega)).trans ((gs_ne _ _ (by omega)).trans (by with_reducible assumption))) | rfl) rfl ?_
  first | refine B_ifne1 (tgt := 14) dX7_noCellar_7 (by with_reducible rfl) (by decide) ?_ | refine B_ifne0 (pc2 := 10) (tgt := 14) dX7_noCellar_7 (by with_reducible rfl) (by decide) rfl ?_ | refine N_ifne (pc2 := 10) (tgt := 14) dX7_noCellar_7 (by with_reducible rfl) (by decide) (by omega) rfl (fun c7 => ?_) (fun c7 => ?_) | refine T_ifne (pc2 := 10) (tgt := 14) dX7_noCellar_7 (by decide) rfl (fun c7 => ?_) (fun c7 => ?_)
  · refine T_iconst (pc2 := 15) dX7_noCellar_14 ic0 rfl ?_
    refine T_iret dX7_noCellar_15 rfl (by first | rfl | decide) ?_
    exact kf (by omega)
  · refine T_iconst (pc2 := 11) dX7_noCellar_10 ic1 rfl ?_
    refine T_goto (tgt := 15) dX7_noCellar_11 (by decide) ?_
    refine T_iret dX7_noCellar_15 rfl (by first | rfl | decide) ?_
    exact kt c7
theorem c_isJar {v : Int32} (S : Sh sk n bf im above below) (e : g 20 0 = nI J) (hJ : J ≤ 8) (kt : ∀ j, j < J → v = nI j → Q (some (.int (nI 1))) (HP sk g n)) (kf : (∀ j, j < J → v ≠ nI j) → Q (some (.int (nI 0))) (HP sk g n)) : Calls MX7_isJar (d + 1) 0 0 [.ref 4, .int v] (HP sk g n) Q := by
  refine Calls.of (by decide +kernel) (Nat.le_of_ble_eq_true rfl) ?_
  by_cases h0 : J = 0
  · subst h0
    refine T_iload_n (pc2 := 1) dX7_isJar_0 rfl rfl ?_
    refine T_iconst (pc2 := 2) dX7_isJar_1 ic0 rfl ?_
    refine T_aload_n (pc2 := 3) dX7_isJar_2 rfl rfl ?_
    refine G_getR (pc2 := 6) dX7_isJar_3 flX7_26 (sh4 S) rfl rfl ?_
    refine G_getI (pc2 := 9) dX7_isJar_6 flX7_138 (sc20 S).1 rfl (by first | with_reducible assumption | exact gs_eq _ _ _ _ | exact (gs_ne _ _ (by omega)).trans (by with_reducible assumption) | exact (gs_ne _ _ (by omega)).trans (gs_eq _ _ _ _) | exact (gs_ne _ _ (by omega)).trans ((gs_ne _ _ (by omega)).trans (by with_reducible assumption)) | exact (gs_ne _ _ (by omega)).trans ((gs_ne _ _ (by omega)).trans (gs_eq _ _ _ _)) | exact (gs_ne _ _ (by omega)).trans ((gs_ne _ _ (by omega)).trans ((gs_ne _ _ (by omega)).trans (by with_reducible assumption))) | rfl) rfl ?_
    refine T_iconst (pc2 := 10) dX7_isJar_9 ic1 rfl ?_
    refine T_isub (pc2 := 11) dX7_isJar_10 rfl ?_
    refine C_S3 (pc2 := 14) (mc := 0) (ms := 0) dX7_isJar_11 csX7_within mlX7_62 (Nat.le_of_ble_eq_true rfl) rfl ?_
    refine c_within (fun h1 h2 => ?_) (fun _ => ?_)
    · have h3 : nI 0 ≤ nI 0 - nI 1 := Int32.le_trans h1 h2
      exact absurd h3 (by decide)
    · refine T_iret dX7_isJar_14 rfl (by first | rfl | decide) ?_
      exact kf (fun j hj => absurd hj (by omega))
  · refine T_iload_n (pc2 := 1) dX7_isJar_0 rfl rfl ?_
    refine T_iconst (pc2 := 2) dX7_isJar_1 ic0 rfl ?_
    refine T_aload_n (pc2 := 3) dX7_isJar_2 rfl rfl ?_
    refine G_getR (pc2 := 6) dX7_isJar_3 flX7_26 (sh4 S) rfl rfl ?_
    refine G_getI (pc2 := 9) dX7_isJar_6 flX7_138 (sc20 S).1 rfl (by first | with_reducible assumption | exact gs_eq _ _ _ _ | exact (gs_ne _ _ (by omega)).trans (by with_reducible assumption) | exact (gs_ne _ _ (by omega)).trans (gs_eq _ _ _ _) | exact (gs_ne _ _ (by omega)).trans ((gs_ne _ _ (by omega)).trans (by with_reducible assumption)) | exact (gs_ne _ _ (by omega)).trans ((gs_ne _ _ (by omega)).trans (gs_eq _ _ _ _)) | exact (gs_ne _ _ (by omega)).trans ((gs_ne _ _ (by omega)).trans ((gs_ne _ _ (by omega)).trans (by with_reducible assumption))) | rfl) rfl ?_
    refine T_iconst (pc2 := 10) dX7_isJar_9 ic1 rfl ?_
    first | refine N_isub (pc2 := 11) dX7_isJar_10 (by with_reducible rfl) (by with_reducible rfl) (by omega) rfl ?_ | refine T_isub (pc2 := 11) dX7_isJar_10 rfl ?_
    refine C_S3 (pc2 := 14) (mc := 0) (ms := 0) dX7_isJar_11 csX7_within mlX7_62 (Nat.le_of_ble_eq_true rfl) rfl ?_
    refine c_withinI (by omega) (fun j hj e2 => ?_) (fun hno => ?_)
    · refine T_iret dX7_isJar_14 rfl (by first | rfl | decide) ?_
      exact kt j (by omega) e2
    · refine T_iret dX7_isJar_14 rfl (by first | rfl | decide) ?_
      exact kf (fun j hj => hno j (by omega))
theorem c_isPlace {v : Int32} (S : Sh sk n bf im above below) (e : g 20 0 = nI J) (hJ : J ≤ 8) (kt : ∀ j, j < J → v = nI j → Q (some (.int (nI 1))) (HP sk g n)) (kf : (∀ j, j < J → v ≠ nI j) → Q (some (.int (nI 0))) (HP sk g n)) : Calls MX7_isPlace (d + 1) 0 0 [.ref 4, .int v] (HP sk g n) Q := by
  refine Calls.of (by decide +kernel) (Nat.le_of_ble_eq_true rfl) ?_
  by_cases h0 : J = 0
  · subst h0
    refine T_iload_n (pc2 := 1) dX7_isPlace_0 rfl rfl ?_
    refine T_iconst (pc2 := 2) dX7_isPlace_1 ic0 rfl ?_
    refine T_aload_n (pc2 := 3) dX7_isPlace_2 rfl rfl ?_
    refine G_getR (pc2 := 6) dX7_isPlace_3 flX7_26 (sh4 S) rfl rfl ?_
    refine G_getI (pc2 := 9) dX7_isPlace_6 flX7_138 (sc20 S).1 rfl (by first | with_reducible assumption | exact gs_eq _ _ _ _ | exact (gs_ne _ _ (by omega)).trans (by with_reducible assumption) | exact (gs_ne _ _ (by omega)).trans (gs_eq _ _ _ _) | exact (gs_ne _ _ (by omega)).trans ((gs_ne _ _ (by omega)).trans (by with_reducible assumption)) | exact (gs_ne _ _ (by omega)).trans ((gs_ne _ _ (by omega)).trans (gs_eq _ _ _ _)) | exact (gs_ne _ _ (by omega)).trans ((gs_ne _ _ (by omega)).trans ((gs_ne _ _ (by omega)).trans (by with_reducible assumption))) | rfl) rfl ?_
    refine T_iconst (pc2 := 10) dX7_isPlace_9 ic1 rfl ?_
    refine T_isub (pc2 := 11) dX7_isPlace_10 rfl ?_
    refine C_S3 (pc2 := 14) (mc := 0) (ms := 0) dX7_isPlace_11 csX7_within mlX7_62 (Nat.le_of_ble_eq_true rfl) rfl ?_
    refine c_within (fun h1 h2 => ?_) (fun _ => ?_)
    · have h3 : nI 0 ≤ nI 0 - nI 1 := Int32.le_trans h1 h2
      exact absurd h3 (by decide)
    · refine T_iret dX7_isPlace_14 rfl (by first | rfl | decide) ?_
      exact kf (fun j hj => absurd hj (by omega))
  · refine T_iload_n (pc2 := 1) dX7_isPlace_0 rfl rfl ?_
    refine T_iconst (pc2 := 2) dX7_isPlace_1 ic0 rfl ?_
    refine T_aload_n (pc2 := 3) dX7_isPlace_2 rfl rfl ?_
    refine G_getR (pc2 := 6) dX7_isPlace_3 flX7_26 (sh4 S) rfl rfl ?_
    refine G_getI (pc2 := 9) dX7_isPlace_6 flX7_138 (sc20 S).1 rfl (by first | with_reducible assumption | exact gs_eq _ _ _ _ | exact (gs_ne _ _ (by omega)).trans (by with_reducible assumption) | exact (gs_ne _ _ (by omega)).trans (gs_eq _ _ _ _) | exact (gs_ne _ _ (by omega)).trans ((gs_ne _ _ (by omega)).trans (by with_reducible assumption)) | exact (gs_ne _ _ (by omega)).trans ((gs_ne _ _ (by omega)).trans (gs_eq _ _ _ _)) | exact (gs_ne _ _ (by omega)).trans ((gs_ne _ _ (by omega)).trans ((gs_ne _ _ (by omega)).trans (by with_reducible assumption))) | rfl) rfl ?_
    refine T_iconst (pc2 := 10) dX7_isPlace_9 ic1 rfl ?_
    first | refine N_isub (pc2 := 11) dX7_isPlace_10 (by with_reducible rfl) (by with_reducible rfl) (by omega) rfl ?_ | refine T_isub (pc2 := 11) dX7_isPlace_10 rfl ?_
    refine C_S3 (pc2 := 14) (mc := 0) (ms := 0) dX7_isPlace_11 csX7_within mlX7_62 (Nat.le_of_ble_eq_true rfl) rfl ?_
    refine c_withinI (by omega) (fun j hj e2 => ?_) (fun hno => ?_)
    · refine T_iret dX7_isPlace_14 rfl (by first | rfl | decide) ?_
      exact kt j (by omega) e2
    · refine T_iret dX7_isPlace_14 rfl (by first | rfl | decide) ?_
      exact kf (fun j hj => hno j (by omega))
theorem c_isSneeze {nt p : Int32} (S : Sh sk n bf im above below) (e : g 20 0 = nI J) (hJ : J ≤ 8) (kt : ∀ a j, a < 12 → nt = nI a → j < J → p = nI j → Q (some (.int (nI 1))) (HP sk g n)) (kf : ((∀ a, a < 12 → nt ≠ nI a) ∨ (∀ j, j < J → p ≠ nI j)) → Q (some (.int (nI 0))) (HP sk g n)) : Calls MX7_isSneeze (d + 2) 0 0 [.ref 4, .int nt, .int p] (HP sk g n) Q := by
  refine Calls.of (by decide +kernel) (Nat.le_of_ble_eq_true rfl) ?_
  refine T_iload_n (pc2 := 1) dX7_isSneeze_0 rfl rfl ?_
  refine C_S1 (pc2 := 4) (mc := 0) (ms := 0) dX7_isSneeze_1 csX7_isNote mlX7_190 (Nat.le_of_ble_eq_true rfl) rfl ?_
  refine c_isNote (fun a ha ea => ?_) (fun hno => ?_)
  · first | refine B_ifeq1 (pc2 := 7) (tgt := 19) dX7_isSneeze_4 (by with_reducible rfl) (by decide) rfl ?_ | refine B_ifeq0 (tgt := 19) dX7_isSneeze_4 (by with_reducible rfl) (by decide) ?_ | refine N_ifeq (pc2 := 7) (tgt := 19) dX7_isSneeze_4 (by with_reducible rfl) (by decide) (by omega) rfl (fun c4 => ?_) (fun c4 => ?_) | refine T_ifeq (pc2 := 7) (tgt := 19) dX7_isSneeze_4 (by decide) rfl (fun c4 => ?_) (fun c4 => ?_)
    refine T_aload_n (pc2 := 8) dX7_isSneeze_7 rfl rfl ?_
    refine T_iload_n (pc2 := 9) dX7_isSneeze_8 rfl rfl ?_
    refine C_V1 (pc2 := 12) (mc := 0) (ms := 0) dX7_isSneeze_9 cvX7_isPlace mlX7_248 (isO.h (sh4 S) _) (Nat.le_of_ble_eq_true rfl) rfl ?_
    refine c_isPlace S e hJ (fun j hj ej => ?_) (fun hno => ?_)
    · first | refine B_ifeq1 (pc2 := 15) (tgt := 19) dX7_isSneeze_12 (by with_reducible rfl) (by decide) rfl ?_ | refine B_ifeq0 (tgt := 19) dX7_isSneeze_12 (by with_reducible rfl) (by decide) ?_ | refine N_ifeq (pc2 := 15) (tgt := 19) dX7_isSneeze_12 (by with_reducible rfl) (by decide) (by omega) rfl (fun c12 => ?_) (fun c12 => ?_) | refine T_ifeq (pc2 := 15) (tgt := 19) dX7_isSneeze_12 (by decide) rfl (fun c12 => ?_) (fun c12 => ?_)
      refine T_iconst (pc2 := 16) dX7_isSneeze_15 ic1 rfl ?_
      refine T_goto (tgt := 20) dX7_isSneeze_16 (by decide) ?_
      refine T_iret dX7_isSneeze_20 rfl (by first | rfl | decide) ?_
      exact kt a j ha ea hj ej
    · first | refine B_ifeq1 (pc2 := 15) (tgt := 19) dX7_isSneeze_12 (by with_reducible rfl) (by decide) rfl ?_ | refine B_ifeq0 (tgt := 19) dX7_isSneeze_12 (by with_reducible rfl) (by decide) ?_ | refine N_ifeq (pc2 := 15) (tgt := 19) dX7_isSneeze_12 (by with_reducible rfl) (by decide) (by omega) rfl (fun c12 => ?_) (fun c12 => ?_) | refine T_ifeq (pc2 := 15) (tgt := 19) dX7_isSneeze_12 (by decide) rfl (fun c12 => ?_) (fun c12 => ?_)
      refine T_iconst (pc2 := 20) dX7_isSneeze_19 ic0 rfl ?_
      refine T_iret dX7_isSneeze_20 rfl (by first | rfl | decide) ?_
      exact kf (Or.inr hno)
  · first | refine B_ifeq1 (pc2 := 7) (tgt := 19) dX7_isSneeze_4 (by with_reducible rfl) (by decide) rfl ?_ | refine B_ifeq0 (tgt := 19) dX7_isSneeze_4 (by with_reducible rfl) (by decide) ?_ | refine N_ifeq (pc2 := 7) (tgt := 19) dX7_isSneeze_4 (by with_reducible rfl) (by decide) (by omega) rfl (fun c4 => ?_) (fun c4 => ?_) | refine T_ifeq (pc2 := 7) (tgt := 19) dX7_isSneeze_4 (by decide) rfl (fun c4 => ?_) (fun c4 => ?_)
    refine T_iconst (pc2 := 20) dX7_isSneeze_19 ic0 rfl ?_
    refine T_iret dX7_isSneeze_20 rfl (by first | rfl | decide) ?_
    exact kf (Or.inl hno)
end Priv

