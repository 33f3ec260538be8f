/-! the model: what its rows hold, its small calls -/
def hasM (f : Nat → Int32) (V : Cel) : Prop := f 0 = nI V.J ∧ f 1 = nI V.Y ∧ f 2 = nI V.R ∧ ∀ j, j < V.J → f (3 + 5 * j + 0) = nI (V.kd j) ∧ f (3 + 5 * j + 1) = nI (V.nt j) ∧ f (3 + 5 * j + 2) = nI (V.kp j) ∧ f (3 + 5 * j + 3) = nI (V.pl j) ∧ f (3 + 5 * j + 4) = nI (V.hw j)
def hasRm (g : Nat → Nat → Int32) (A : RS) : Prop := ∀ r, r < 8 → (A.1 r = false → g 49 r = -1) ∧ (A.1 r = true → g 49 r = nI (A.2.1 r) ∧ g 50 r = nI (A.2.2.1 r) ∧ ∀ i, i < 40 → g 51 (40 * r + i) = A.2.2.2 r i)
def InvM (g : Nat → Nat → Int32) (s : ST) : Prop :=
  hasRm g s.A ∧ (g 48 11 = nI s.sz ∧ ∀ i, i < s.sz → g 56 i = nI (s.tp i)) ∧ hasM (g 52) s.V ∧ g 48 9 = nI s.an ∧ (∀ i, i < s.an → hasM (fun k => g 55 (43 * (s.an - 1 - i) + k)) (s.ac i)) ∧ (g 48 27 = nI s.tr.length ∧ ∀ i v, s.tr[i]? = some v → g 61 i = nI v) ∧ (∀ k, k < 2 → (s.I k = none → g 59 k = nI 0) ∧ ∀ U, s.I k = some U → g 59 k = nI 1 ∧ hasM (fun i => g 60 (43 * k + i)) U) ∧ g 48 18 = nI s.lf ∧ g 48 1 = nI s.fd
/-- what changes is the model's scratch alone -/
def Ms (g g2 : Nat → Nat → Int32) : Prop := (∀ i, i ≠ 48 → i ≠ 53 → i ≠ 54 → i ≠ 57 → i ≠ 58 → g2 i = g i) ∧ ∀ k, (k = 1 ∨ k = 9 ∨ k = 11 ∨ k = 18 ∨ k = 27) → g2 48 k = g 48 k
theorem Ms.rf {g : Nat → Nat → Int32} : Ms g g := ⟨fun _ _ _ _ _ _ => rfl, fun _ _ => rfl⟩
theorem Ms.tr {g g2 g3 : Nat → Nat → Int32} (h : Ms g g2) (h2 : Ms g2 g3) : Ms g g3 := ⟨fun i a b c d e => (h2.1 i a b c d e).trans (h.1 i a b c d e), fun k hk => (h2.2 k hk).trans (h.2 k hk)⟩
theorem Ms.st {g g2 : Nat → Nat → Int32} {i k : Nat} {v : Int32} (h : Ms g g2) (hi : (i = 48 ∧ k ≠ 1 ∧ k ≠ 9 ∧ k ≠ 11 ∧ k ≠ 18 ∧ k ≠ 27) ∨ i = 53 ∨ i = 54 ∨ i = 57 ∨ i = 58) : Ms g (gset g2 i k v) := by
  refine ⟨fun j a b c d e => ?_, fun q hq => ?_⟩
  · rw [gs_row (by omega)]; exact h.1 j a b c d e
  · rw [gs_ne _ _ (by omega)]; exact h.2 q hq
theorem Ms.fr {g g2 : Nat → Nat → Int32} (h : Ms g g2) : Fr 48 62 g g2 := fun i hi => h.1 i (by omega) (by omega) (by omega) (by omega) (by omega)
theorem InvM.ms {g g2 : Nat → Nat → Int32} {s : ST} (h : InvM g s) (hg : Ms g g2) : InvM g2 s := by
  have e : ∀ i, i ≠ 48 → i ≠ 53 → i ≠ 54 → i ≠ 57 → i ≠ 58 → g2 i = g i := hg.1
  unfold InvM hasRm at h ⊢
  rw [e 49 (by decide) (by decide) (by decide) (by decide) (by decide), e 50 (by decide) (by decide) (by decide) (by decide) (by decide), e 51 (by decide) (by decide) (by decide) (by decide) (by decide), e 52 (by decide) (by decide) (by decide) (by decide) (by decide), e 55 (by decide) (by decide) (by decide) (by decide) (by decide), e 56 (by decide) (by decide) (by decide) (by decide) (by decide), e 59 (by decide) (by decide) (by decide) (by decide) (by decide), e 60 (by decide) (by decide) (by decide) (by decide) (by decide), e 61 (by decide) (by decide) (by decide) (by decide) (by decide), hg.2 1 (by decide), hg.2 9 (by decide), hg.2 11 (by decide), hg.2 18 (by decide), hg.2 27 (by decide)]
  exact h
theorem lN_ge (v : Int32) (a : Nat) (ha : a < 2 ^ 31) : lN a ≤ v.toInt64 ↔ nI a ≤ v := by
  rw [Int64.le_iff_toInt_le, Int32.le_iff_toInt_le, Int32.toInt_toInt64, lN_toInt ha, nI_toInt ha]
theorem lV_le (v : Int32) (a : Nat) (ha : a < 2 ^ 31) : v.toInt64 ≤ lN a ↔ v ≤ nI a := by
  rw [Int64.le_iff_toInt_le, Int32.le_iff_toInt_le, Int32.toInt_toInt64, lN_toInt ha, nI_toInt ha]
section MBase
variable {sk : Nat → SK} {g : Nat → Nat → Int32} {n w : Nat} {V : Cel} {Q : Option Value → SH → Prop} {d kc ks : Nat} {bf im : Nat → Option Nat} {above below : Int64} {h : SH}
theorem m_in {a b c : Int64} (kt : b ≤ a → a ≤ c → Q (some (.int (nI 1))) h) (kf : ¬ (b ≤ a ∧ a ≤ c) → Q (some (.int (nI 0))) h) : Calls MX8_in d 0 0 [.long a, .long b, .long c] h Q := by
  refine Calls.of (by decide +kernel) (Nat.le_of_ble_eq_true rfl) ?_
  refine T_lload_n (pc2 := 1) dX8_in_0 rfl rfl ?_
  refine T_lload_n (pc2 := 2) dX8_in_1 rfl rfl ?_
  refine T_lcmp (pc2 := 3) dX8_in_2 rfl ?_
  refine T_iflt (pc2 := 6) (tgt := 17) dX8_in_3 (by decide) rfl (fun c3 => ?_) (fun c3 => ?_)
  · refine T_iconst (pc2 := 18) dX8_in_17 ic0 rfl ?_
    refine T_iret dX8_in_18 rfl (by first | rfl | decide) ?_
    rw [lg_cmp_lt] at c3
    exact kf (fun z => (Int64.not_le.mpr c3) z.1)
  · rw [lg_cmp_lt, Int64.not_lt] at c3
    refine T_lload_n (pc2 := 7) dX8_in_6 rfl rfl ?_
    refine T_lload (pc2 := 9) dX8_in_7 rfl rfl ?_
    refine T_lcmp (pc2 := 10) dX8_in_9 rfl ?_
    refine T_ifgt (pc2 := 13) (tgt := 17) dX8_in_10 (by decide) rfl (fun c10 => ?_) (fun c10 => ?_)
    · refine T_iconst (pc2 := 18) dX8_in_17 ic0 rfl ?_
      refine T_iret dX8_in_18 rfl (by first | rfl | decide) ?_
      rw [lg_cmp_gt] at c10
      exact kf (fun z => (Int64.not_le.mpr c10) z.2)
    · rw [lg_cmp_gt, Int64.not_lt] at c10
      refine T_iconst (pc2 := 14) dX8_in_13 ic1 rfl ?_
      refine T_goto (tgt := 18) dX8_in_14 (by decide) ?_
      refine T_iret dX8_in_18 rfl (by first | rfl | decide) ?_
      exact kt c3 c10
theorem m_inI {v : Int32} {k : Nat} {a b c : Int64} (ha : a = v.toInt64) (hb : b = lN 0) (hc : c = lN k) (hk : k < 2 ^ 31) (kt : ∀ j, j ≤ k → v = nI j → Q (some (.int (nI 1))) h) (kf : (∀ j, j ≤ k → v ≠ nI j) → Q (some (.int (nI 0))) h) : Calls MX8_in d 0 0 [.long a, .long b, .long c] h Q := by
  subst ha hb hc
  refine m_in (fun h1 h2 => ?_) (fun hno => ?_)
  · rw [lN_ge v 0 (by decide)] at h1
    rw [lV_le v k hk] at h2
    obtain ⟨j, hj, e⟩ := nI_of2 (x := v) (M := nI k) (n := k) (nI_toInt hk) (Int32.not_lt.mpr h1) h2
    exact kt j hj e
  · refine kf (fun j hj e => hno ?_)
    subst e
    rw [lN_ge _ 0 (by decide), lV_le _ k hk]
    exact ⟨nI_le (Nat.zero_le _) (by omega), nI_le hj hk⟩
theorem m_in1 {v : Int32} {k : Nat} {a b c : Int64} (ha : a = v.toInt64) (hb : b = lN 1) (hc : c = lN k) (hk : k < 2 ^ 31) (kt : ∀ z, z < k → v = nI (z + 1) → Q (some (.int (nI 1))) h) (kf : (∀ z, z < k → v ≠ nI (z + 1)) → Q (some (.int (nI 0))) h) : Calls MX8_in d 0 0 [.long a, .long b, .long c] h Q := by
  subst ha hb hc
  refine m_in (fun h1 h2 => ?_) (fun hno => ?_)
  · rw [lN_ge v 1 (by decide)] at h1
    rw [lV_le v k hk] at h2
    obtain ⟨j, hj, e⟩ := nI_of2 (x := v) (M := nI k) (n := k) (nI_toInt hk) (Int32.not_lt.mpr (Int32.le_trans (by decide) h1)) h2
    subst e
    have h1 : 1 ≤ j := (nI_leI (by decide) (by omega)).mp h1
    obtain ⟨z, rfl⟩ : ∃ z, j = z + 1 := ⟨j - 1, by omega⟩
    exact kt z (by omega) rfl
  · refine kf (fun z hz e => hno ?_)
    subst e
    rw [lN_ge _ 1 (by decide), lV_le _ k hk]
    exact ⟨nI_le (by omega) (by omega), nI_le (by omega) hk⟩
theorem m_finding {f : Nat} (S : Sh sk n bf im above below) (k : Q (some (.int (fnd f))) (HP sk (gset g 48 1 (nI f)) n)) : Calls MX8_finding d 0 0 [.ref 48, .int (nI f)] (HP sk g n) Q := by
  refine Calls.of (by decide +kernel) (Nat.le_of_ble_eq_true rfl) ?_
  refine T_aload_n (pc2 := 1) dX8_finding_0 rfl rfl ?_
  refine T_iload_n (pc2 := 2) dX8_finding_1 rfl rfl ?_
  refine G_putI (pc2 := 5) dX8_finding_2 flX8_54 (sh48 S) rfl rfl rfl rfl ?_
  refine T_ldc (pc2 := 7) dX8_finding_5 kcX8_57 rfl ?_
  refine T_iload_n (pc2 := 8) dX8_finding_7 rfl rfl ?_
  refine T_isub (pc2 := 9) dX8_finding_8 rfl ?_
  refine T_iret dX8_finding_9 rfl rfl ?_
  exact k
theorem m_isRow {v : Int32} (kt : ∀ r, r < 8 → v = nI r → Q (some (.int (nI 1))) h) (kf : (∀ r, r < 8 → v ≠ nI r) → Q (some (.int (nI 0))) h) : Calls MX8_isRow (d + 1) 0 0 [.int v] h Q := by
  refine Calls.of (by decide +kernel) (Nat.le_of_ble_eq_true rfl) ?_
  refine T_iload_n (pc2 := 1) dX8_isRow_0 rfl rfl ?_
  refine T_i2l (pc2 := 2) dX8_isRow_1 rfl ?_
  refine T_lconst (pc2 := 3) (v := lN 0) dX8_isRow_2 rfl rfl ?_
  refine T_ldc2 (pc2 := 6) dX8_isRow_3 kcX8_58 rfl ?_
  refine C_S3 (pc2 := 9) (mc := 0) (ms := 0) dX8_isRow_6 csX8_in mlX8_60 (Nat.le_of_ble_eq_true rfl) rfl ?_
  refine m_inI (k := 7) rfl rfl (by decide) (by decide) (fun j hj e => ?_) (fun hno => ?_)
  · refine T_iret dX8_isRow_9 rfl (by first | rfl | decide) ?_
    exact kt j (by omega) e
  · refine T_iret dX8_isRow_9 rfl (by first | rfl | decide) ?_
    exact kf (fun j hj => hno j (by omega))
theorem m_isNote {v : Int32} {a : Int64} (ha : a = v.toInt64) (kt : ∀ r, r < 12 → v = nI r → Q (some (.int (nI 1))) h) (kf : (∀ r, r < 12 → v ≠ nI r) → Q (some (.int (nI 0))) h) : Calls MX8_isNote (d + 1) 0 0 [.long a] h Q := by
  subst ha
  refine Calls.of (by decide +kernel) (Nat.le_of_ble_eq_true rfl) ?_
  refine T_lload_n (pc2 := 1) dX8_isNote_0 rfl rfl ?_
  refine T_lconst (pc2 := 2) (v := lN 0) dX8_isNote_1 rfl rfl ?_
  refine T_ldc2 (pc2 := 5) dX8_isNote_2 kcX8_152 rfl ?_
  refine C_S3 (pc2 := 8) (mc := 0) (ms := 0) dX8_isNote_5 csX8_in mlX8_60 (Nat.le_of_ble_eq_true rfl) rfl ?_
  refine m_inI (k := 11) rfl rfl (by decide) (by decide) (fun j hj e => ?_) (fun hno => ?_)
  · refine T_iret dX8_isNote_8 rfl (by first | rfl | decide) ?_
    exact kt j (by omega) e
  · refine T_iret dX8_isNote_8 rfl (by first | rfl | decide) ?_
    exact kf (fun j hj => hno j (by omega))
theorem m_isThere {J : Nat} (S : Sh sk n bf im above below) (e : g 52 0 = nI J) (hJ : J ≤ 8) (kt : 0 < J → Q (some (.int (nI 1))) (HP sk g n)) (kf : J = 0 → Q (some (.int (nI 0))) (HP sk g n)) : Calls MX8_isThere d 0 0 [.ref 48] (HP sk g n) Q := by
  refine Calls.of (by decide +kernel) (Nat.le_of_ble_eq_true rfl) ?_
  refine T_aload_n (pc2 := 1) dX8_isThere_0 rfl rfl ?_
  refine G_getR (pc2 := 4) dX8_isThere_1 flX8_19 (sh48 S) rfl rfl ?_
  refine T_iconst (pc2 := 5) dX8_isThere_4 ic0 rfl ?_
  refine G_iald (pc2 := 6) dX8_isThere_5 (sh52 S) (by omega) (by first | decide | omega) (by first | with_reducible assumption | exact gs_eq _ _ _ _ | exact (gs_ne _ _ (by omega)).trans (by with_reducible assumption) | exact (gs_ne _ _ (by omega)).trans (gs_eq _ _ _ _) | exact (gs_ne _ _ (by omega)).trans ((gs_ne _ _ (by omega)).trans (by with_reducible assumption)) | exact (gs_ne _ _ (by omega)).trans ((gs_ne _ _ (by omega)).trans (gs_eq _ _ _ _)) | exact (gs_ne _ _ (by omega)).trans ((gs_ne _ _ (by omega)).trans ((gs_ne _ _ (by omega)).trans (by with_reducible assumption))) | rfl) rfl ?_
  first | refine N_ifle (pc2 := 9) (tgt := 13) dX8_isThere_6 (by with_reducible rfl) (by decide) (by omega) rfl (fun c6 => ?_) (fun c6 => ?_) | refine T_ifle (pc2 := 9) (tgt := 13) dX8_isThere_6 (by decide) rfl (fun c6 => ?_) (fun c6 => ?_)
  · refine T_iconst (pc2 := 14) dX8_isThere_13 ic0 rfl ?_
    refine T_iret dX8_isThere_14 rfl (by first | rfl | decide) ?_
    exact kf (by omega)
  · refine T_iconst (pc2 := 10) dX8_isThere_9 ic1 rfl ?_
    refine T_goto (tgt := 14) dX8_isThere_10 (by decide) ?_
    refine T_iret dX8_isThere_14 rfl (by first | rfl | decide) ?_
    exact kt (by omega)
theorem m_isJar {v : Int32} {J : Nat} (S : Sh sk n bf im above below) (e : g 52 0 = nI J) (hJ : J ≤ 8) (kt : ∀ j, j < J → v = nI j → Q (some (.int (nI 1))) (HP sk g n)) (kf : (∀ j, j < J → v ≠ nI j) → Q (some (.int (nI 0))) (HP sk g n)) : Calls MX8_isJar (d + 1) 0 0 [.ref 48, .int v] (HP sk g n) Q := by
  refine Calls.of (by decide +kernel) (Nat.le_of_ble_eq_true rfl) ?_
  by_cases h0 : J = 0
  · subst h0
    refine T_iload_n (pc2 := 1) dX8_isJar_0 rfl rfl ?_
    refine T_i2l (pc2 := 2) dX8_isJar_1 rfl ?_
    refine T_lconst (pc2 := 3) (v := lN 0) dX8_isJar_2 rfl rfl ?_
    refine T_aload_n (pc2 := 4) dX8_isJar_3 rfl rfl ?_
    refine G_getR (pc2 := 7) dX8_isJar_4 flX8_19 (sh48 S) rfl rfl ?_
    refine T_iconst (pc2 := 8) dX8_isJar_7 ic0 rfl ?_
    refine G_iald (pc2 := 9) dX8_isJar_8 (sh52 S) (by omega) (by first | decide | omega) (by first | with_reducible assumption | exact gs_eq _ _ _ _ | exact (gs_ne _ _ (by omega)).trans (by with_reducible assumption) | exact (gs_ne _ _ (by omega)).trans (gs_eq _ _ _ _) | exact (gs_ne _ _ (by omega)).trans ((gs_ne _ _ (by omega)).trans (by with_reducible assumption)) | exact (gs_ne _ _ (by omega)).trans ((gs_ne _ _ (by omega)).trans (gs_eq _ _ _ _)) | exact (gs_ne _ _ (by omega)).trans ((gs_ne _ _ (by omega)).trans ((gs_ne _ _ (by omega)).trans (by with_reducible assumption))) | rfl) rfl ?_
    refine T_iconst (pc2 := 10) dX8_isJar_9 ic1 rfl ?_
    refine T_isub (pc2 := 11) dX8_isJar_10 rfl ?_
    refine T_i2l (pc2 := 12) dX8_isJar_11 rfl ?_
    refine C_S3 (pc2 := 15) (mc := 0) (ms := 0) dX8_isJar_12 csX8_in mlX8_60 (Nat.le_of_ble_eq_true rfl) rfl ?_
    refine m_in (fun h1 h2 => ?_) (fun _ => ?_)
    · exact absurd (Int64.le_trans h1 h2) (by decide)
    · refine T_iret dX8_isJar_15 rfl (by first | rfl | decide) ?_
      exact kf (fun j hj => absurd hj (by omega))
  · refine T_iload_n (pc2 := 1) dX8_isJar_0 rfl rfl ?_
    refine T_i2l (pc2 := 2) dX8_isJar_1 rfl ?_
    refine T_lconst (pc2 := 3) (v := lN 0) dX8_isJar_2 rfl rfl ?_
    refine T_aload_n (pc2 := 4) dX8_isJar_3 rfl rfl ?_
    refine G_getR (pc2 := 7) dX8_isJar_4 flX8_19 (sh48 S) rfl rfl ?_
    refine T_iconst (pc2 := 8) dX8_isJar_7 ic0 rfl ?_
    refine G_iald (pc2 := 9) dX8_isJar_8 (sh52 S) (by omega) (by first | decide | omega) (by first | with_reducible assumption | exact gs_eq _ _ _ _ | exact (gs_ne _ _ (by omega)).trans (by with_reducible assumption) | exact (gs_ne _ _ (by omega)).trans (gs_eq _ _ _ _) | exact (gs_ne _ _ (by omega)).trans ((gs_ne _ _ (by omega)).trans (by with_reducible assumption)) | exact (gs_ne _ _ (by omega)).trans ((gs_ne _ _ (by omega)).trans (gs_eq _ _ _ _)) | exact (gs_ne _ _ (by omega)).trans ((gs_ne _ _ (by omega)).trans ((gs_ne _ _ (by omega)).trans (by with_reducible assumption))) | rfl) rfl ?_
    refine T_iconst (pc2 := 10) dX8_isJar_9 ic1 rfl ?_
    first | refine N_isub (pc2 := 11) dX8_isJar_10 (by with_reducible rfl) (by with_reducible rfl) (by omega) rfl ?_ | refine T_isub (pc2 := 11) dX8_isJar_10 rfl ?_
    refine T_i2l (pc2 := 12) dX8_isJar_11 rfl ?_
    refine C_S3 (pc2 := 15) (mc := 0) (ms := 0) dX8_isJar_12 csX8_in mlX8_60 (Nat.le_of_ble_eq_true rfl) rfl ?_
    refine m_inI (k := J - 1) rfl rfl (nI_l (by omega)) (by omega) (fun j hj e2 => ?_) (fun hno => ?_)
    · refine T_iret dX8_isJar_15 rfl (by first | rfl | decide) ?_
      exact kt j (by omega) e2
    · refine T_iret dX8_isJar_15 rfl (by first | rfl | decide) ?_
      exact kf (fun j hj => hno j (by omega))
theorem m_of {j k : Nat} {v : Int32} (hw : isA sk n w .int 43) (hb : 3 + 5 * j + k < 43) (e : g w (3 + 5 * j + k) = v) (kk : Q (some (.int v)) (HP sk g n)) : Calls MX8_of d 0 0 [.ref w, .int (nI j), .int (nI k)] (HP sk g n) Q := by
  refine Calls.of (by decide +kernel) (Nat.le_of_ble_eq_true rfl) ?_
  refine T_aload_n (pc2 := 1) dX8_of_0 rfl rfl ?_
  refine T_iconst (pc2 := 2) dX8_of_1 ic3 rfl ?_
  refine T_iconst (pc2 := 3) dX8_of_2 ic5 rfl ?_
  refine T_iload_n (pc2 := 4) dX8_of_3 rfl rfl ?_
  first | refine N_imul (pc2 := 5) dX8_of_4 (by with_reducible rfl) (by with_reducible rfl) rfl ?_ | refine T_imul (pc2 := 5) dX8_of_4 rfl ?_
  first | refine N_iadd (pc2 := 6) dX8_of_5 (by with_reducible rfl) (by with_reducible rfl) rfl ?_ | refine T_iadd (pc2 := 6) dX8_of_5 rfl ?_
  refine T_iload_n (pc2 := 7) dX8_of_6 rfl rfl ?_
  first | refine N_iadd (pc2 := 8) dX8_of_7 (by with_reducible rfl) (by with_reducible rfl) rfl ?_ | refine T_iadd (pc2 := 8) dX8_of_7 rfl ?_
  refine G_iald (pc2 := 9) dX8_of_8 hw (by omega) (by first | decide | omega) (by first | with_reducible assumption | exact gs_eq _ _ _ _ | exact (gs_ne _ _ (by omega)).trans (by with_reducible assumption) | exact (gs_ne _ _ (by omega)).trans (gs_eq _ _ _ _) | exact (gs_ne _ _ (by omega)).trans ((gs_ne _ _ (by omega)).trans (by with_reducible assumption)) | exact (gs_ne _ _ (by omega)).trans ((gs_ne _ _ (by omega)).trans (gs_eq _ _ _ _)) | exact (gs_ne _ _ (by omega)).trans ((gs_ne _ _ (by omega)).trans ((gs_ne _ _ (by omega)).trans (by with_reducible assumption))) | rfl) rfl ?_
  refine T_iret dX8_of_9 rfl rfl ?_
  exact kk
theorem m_be {j k : Nat} {v : Int32} (hw : isA sk n w .int 43) (hb : 3 + 5 * j + k < 43) (kk : Q none (HP sk (gset g w (3 + 5 * j + k) v) n)) : Calls MX8_be d 0 0 [.ref w, .int (nI j), .int (nI k), .int v] (HP sk g n) Q := by
  refine Calls.of (by decide +kernel) (Nat.le_of_ble_eq_true rfl) ?_
  refine T_aload_n (pc2 := 1) dX8_be_0 rfl rfl ?_
  refine T_iconst (pc2 := 2) dX8_be_1 ic3 rfl ?_
  refine T_iconst (pc2 := 3) dX8_be_2 ic5 rfl ?_
  refine T_iload_n (pc2 := 4) dX8_be_3 rfl rfl ?_
  first | refine N_imul (pc2 := 5) dX8_be_4 (by with_reducible rfl) (by with_reducible rfl) rfl ?_ | refine T_imul (pc2 := 5) dX8_be_4 rfl ?_
  first | refine N_iadd (pc2 := 6) dX8_be_5 (by with_reducible rfl) (by with_reducible rfl) rfl ?_ | refine T_iadd (pc2 := 6) dX8_be_5 rfl ?_
  refine T_iload_n (pc2 := 7) dX8_be_6 rfl rfl ?_
  first | refine N_iadd (pc2 := 8) dX8_be_7 (by with_reducible rfl) (by with_reducible rfl) rfl ?_ | refine T_iadd (pc2 := 8) dX8_be_7 rfl ?_
  refine T_iload_n (pc2 := 9) dX8_be_8 rfl rfl ?_
  refine G_iast (pc2 := 10) dX8_be_9 hw (by omega) (by decide) rfl ?_
  refine T_ret dX8_be_10 rfl ?_
  exact kk
theorem m_those_loop {how : Nat} (hw : isA sk n w .int 43) (hV : hasM (g w) V) (hJ : V.J ≤ 8) (hh : how < 2 ^ 31) (hw2 : ∀ j, j < V.J → V.hw j < 2 ^ 31) (k : Q (some (.int (nI (bm (V.th how) 8)))) (HP sk g n)) :
    ∀ m j, j + m = V.J → T MX8_those (d + 1) kc ks 4 [(0, .ref w), (1, .int (nI how)), (2, .int (nI (bm (V.th how) j))), (3, .int (nI j))] [] (HP sk g n) Q := by
  have e0 := hV.1
  intro m
  induction m with
  | zero =>
    intro j hj
    refine T_iload_n (pc2 := 5) dX8_those_4 rfl rfl ?_
    refine T_aload_n (pc2 := 6) dX8_those_5 rfl rfl ?_
    refine T_iconst (pc2 := 7) dX8_those_6 ic0 rfl ?_
    refine G_iald (pc2 := 8) dX8_those_7 hw (by omega) (by first | decide | omega) (by first | with_reducible assumption | exact gs_eq _ _ _ _ | exact (gs_ne _ _ (by omega)).trans (by with_reducible assumption) | exact (gs_ne _ _ (by omega)).trans (gs_eq _ _ _ _) | exact (gs_ne _ _ (by omega)).trans ((gs_ne _ _ (by omega)).trans (by with_reducible assumption)) | exact (gs_ne _ _ (by omega)).trans ((gs_ne _ _ (by omega)).trans (gs_eq _ _ _ _)) | exact (gs_ne _ _ (by omega)).trans ((gs_ne _ _ (by omega)).trans ((gs_ne _ _ (by omega)).trans (by with_reducible assumption))) | rfl) rfl ?_
    first | refine N_icmpge (pc2 := 11) (tgt := 37) dX8_those_8 (by decide) (by with_reducible rfl) (by with_reducible rfl) (by omega) (by omega) rfl (fun c8 => ?_) (fun c8 => ?_) | refine T_icmpge (pc2 := 11) (tgt := 37) dX8_those_8 (by decide) rfl (fun c8 => ?_) (fun c8 => ?_)
    · refine T_iload_n (pc2 := 38) dX8_those_37 rfl rfl ?_
      refine T_iret dX8_those_38 rfl rfl ?_
      rw [show j = V.J by omega, ← bm_up hJ (fun i h1 _ => by simp [Cel.th, Nat.not_lt.mpr h1])]
      exact k
    · exact absurd (by omega) c8
  | succ m ih =>
    intro j hj
    have hjl : j < V.J := by omega
    have e5 := (hV.2.2.2 j hjl).2.2.2.2
    have hwj := hw2 j hjl
    refine T_iload_n (pc2 := 5) dX8_those_4 rfl rfl ?_
    refine T_aload_n (pc2 := 6) dX8_those_5 rfl rfl ?_
    refine T_iconst (pc2 := 7) dX8_those_6 ic0 rfl ?_
    refine G_iald (pc2 := 8) dX8_those_7 hw (by omega) (by first | decide | omega) (by first | with_reducible assumption | exact gs_eq _ _ _ _ | exact (gs_ne _ _ (by omega)).trans (by with_reducible assumption) | exact (gs_ne _ _ (by omega)).trans (gs_eq _ _ _ _) | exact (gs_ne _ _ (by omega)).trans ((gs_ne _ _ (by omega)).trans (by with_reducible assumption)) | exact (gs_ne _ _ (by omega)).trans ((gs_ne _ _ (by omega)).trans (gs_eq _ _ _ _)) | exact (gs_ne _ _ (by omega)).trans ((gs_ne _ _ (by omega)).trans ((gs_ne _ _ (by omega)).trans (by with_reducible assumption))) | rfl) rfl ?_
    first | refine N_icmpge (pc2 := 11) (tgt := 37) dX8_those_8 (by decide) (by with_reducible rfl) (by with_reducible rfl) (by omega) (by omega) rfl (fun c8 => ?_) (fun c8 => ?_) | refine T_icmpge (pc2 := 11) (tgt := 37) dX8_those_8 (by decide) rfl (fun c8 => ?_) (fun c8 => ?_)
    · exact absurd c8 (by omega)
    · refine T_iload_n (pc2 := 12) dX8_those_11 rfl rfl ?_
      refine T_aload_n (pc2 := 13) dX8_those_12 rfl rfl ?_
      refine T_iload_n (pc2 := 14) dX8_those_13 rfl rfl ?_
      refine T_iconst (pc2 := 15) dX8_those_14 ic4 rfl ?_
      refine C_S3 (pc2 := 18) (mc := 0) (ms := 0) dX8_those_15 csX8_of mlX8_154 (Nat.le_of_ble_eq_true rfl) rfl ?_
      refine m_of hw (by omega) e5 ?_
      refine T_iload_n (pc2 := 19) dX8_those_18 rfl rfl ?_
      first | refine N_icmpne (pc2 := 22) (tgt := 28) dX8_those_19 (by decide) (by with_reducible rfl) (by with_reducible rfl) (by omega) (by omega) rfl (fun c19 => ?_) (fun c19 => ?_) | refine T_icmpne (pc2 := 22) (tgt := 28) dX8_those_19 (by decide) rfl (fun c19 => ?_) (fun c19 => ?_)
      · refine T_iconst (pc2 := 29) dX8_those_28 ic0 rfl ?_
        refine T_ior (pc2 := 30) dX8_those_29 rfl ?_
        rw [nI_or, Nat.or_zero]
        refine T_istore_n (pc2 := 31) dX8_those_30 (by decide) rfl ?_
        first | refine N_iinc (pc2 := 34) dX8_those_31 rfl (by with_reducible rfl) ic1 (by decide) rfl ?_ | refine T_iinc (pc2 := 34) dX8_those_31 rfl rfl (by decide) rfl ?_
        refine T_goto (tgt := 4) dX8_those_34 (by decide) ?_
        refine T_sub (lks (i := 0) rfl (lks (i := 1) rfl (lks (i := 2) rfl (lks (i := 3) rfl lk0)))) ?_
        have e : bm (V.th how) (j + 1) = bm (V.th how) j := by
          show bm (V.th how) j + _ = _
          simp [Cel.th, c19]
        rw [← e]
        exact ih (j + 1) (by omega)
      · refine T_iconst (pc2 := 23) dX8_those_22 ic1 rfl ?_
        refine T_iload_n (pc2 := 24) dX8_those_23 rfl rfl ?_
        refine T_ishl (pc2 := 25) dX8_those_24 rfl ?_
        refine T_goto (tgt := 29) dX8_those_25 (by decide) ?_
        refine T_ior (pc2 := 30) dX8_those_29 rfl ?_
        rw [bm_add (by omega)]
        refine T_istore_n (pc2 := 31) dX8_those_30 (by decide) rfl ?_
        first | refine N_iinc (pc2 := 34) dX8_those_31 rfl (by with_reducible rfl) ic1 (by decide) rfl ?_ | refine T_iinc (pc2 := 34) dX8_those_31 rfl rfl (by decide) rfl ?_
        refine T_goto (tgt := 4) dX8_those_34 (by decide) ?_
        refine T_sub (lks (i := 0) rfl (lks (i := 1) rfl (lks (i := 2) rfl (lks (i := 3) rfl lk0)))) ?_
        have e : bm (V.th how) (j + 1) = bm (V.th how) j + 2 ^ j := by
          show bm (V.th how) j + _ = _
          simp [Cel.th, c19, hjl]
        rw [← e]
        exact ih (j + 1) (by omega)
theorem m_those {how : Nat} (hw : isA sk n w .int 43) (hV : hasM (g w) V) (hJ : V.J ≤ 8) (hh : how < 2 ^ 31) (hw2 : ∀ j, j < V.J → V.hw j < 2 ^ 31) (k : Q (some (.int (nI (bm (V.th how) 8)))) (HP sk g n)) : Calls MX8_those (d + 1) 0 0 [.ref w, .int (nI how)] (HP sk g n) Q := by
  refine Calls.of (by decide +kernel) (Nat.le_of_ble_eq_true rfl) ?_
  refine T_iconst (pc2 := 1) dX8_those_0 ic0 rfl ?_
  refine T_istore_n (pc2 := 2) dX8_those_1 (by decide) rfl ?_
  refine T_iconst (pc2 := 3) dX8_those_2 ic0 rfl ?_
  refine T_istore_n (pc2 := 4) dX8_those_3 (by decide) rfl ?_
  refine T_sub (lks (i := 0) rfl (lks (i := 1) rfl (lks (i := 2) rfl (lks (i := 3) rfl lk0)))) ?_
  exact m_those_loop hw hV hJ hh hw2 k V.J 0 (by omega)
theorem m_gap {x y : Nat} (hx : x < 100) (hy : y < 100) (k : Q (some (.int (nI (gapN x y)))) h) : Calls MX8_gap d 0 0 [.int (nI x), .int (nI y)] h Q := by
  refine Calls.of (by decide +kernel) (Nat.le_of_ble_eq_true rfl) ?_
  refine T_iload_n (pc2 := 1) dX8_gap_0 rfl rfl ?_
  refine T_iload_n (pc2 := 2) dX8_gap_1 rfl rfl ?_
  first | refine N_icmple (pc2 := 5) (tgt := 11) dX8_gap_2 (by decide) (by with_reducible rfl) (by with_reducible rfl) (by omega) (by omega) rfl (fun c2 => ?_) (fun c2 => ?_) | refine T_icmple (pc2 := 5) (tgt := 11) dX8_gap_2 (by decide) rfl (fun c2 => ?_) (fun c2 => ?_)
  · refine T_iload_n (pc2 := 12) dX8_gap_11 rfl rfl ?_
    refine T_iload_n (pc2 := 13) dX8_gap_12 rfl rfl ?_
    first | refine N_isub (pc2 := 14) dX8_gap_13 (by with_reducible rfl) (by with_reducible rfl) (by omega) rfl ?_ | refine T_isub (pc2 := 14) dX8_gap_13 rfl ?_
    refine T_iret dX8_gap_14 rfl rfl ?_
    have e : gapN x y = y - x := if_pos c2
    rw [e] at k
    exact k
  · refine T_iload_n (pc2 := 6) dX8_gap_5 rfl rfl ?_
    refine T_iload_n (pc2 := 7) dX8_gap_6 rfl rfl ?_
    first | refine N_isub (pc2 := 8) dX8_gap_7 (by with_reducible rfl) (by with_reducible rfl) (by omega) rfl ?_ | refine T_isub (pc2 := 8) dX8_gap_7 rfl ?_
    refine T_goto (tgt := 14) dX8_gap_8 (by decide) ?_
    refine T_iret dX8_gap_14 rfl rfl ?_
    have e : gapN x y = x - y := if_neg c2
    rw [e] at k
    exact k
theorem m_apart {x y : Nat} (hx : x < 12) (hy : y < 12) (k : Q (some (.int (nI (apartN x y)))) h) : Calls MX8_apart d 0 0 [.int (nI x), .int (nI y)] h Q := by
  refine Calls.of (by decide +kernel) (Nat.le_of_ble_eq_true rfl) ?_
  refine T_iload_n (pc2 := 1) dX8_apart_0 rfl rfl ?_
  refine T_iload_n (pc2 := 2) dX8_apart_1 rfl rfl ?_
  first | refine N_icmple (pc2 := 5) (tgt := 11) dX8_apart_2 (by decide) (by with_reducible rfl) (by with_reducible rfl) (by omega) (by omega) rfl (fun c2 => ?_) (fun c2 => ?_) | refine T_icmple (pc2 := 5) (tgt := 11) dX8_apart_2 (by decide) rfl (fun c2 => ?_) (fun c2 => ?_)
  · have e : gapN x y = y - x := if_pos c2
    refine T_iload_n (pc2 := 12) dX8_apart_11 rfl rfl ?_
    refine T_iload_n (pc2 := 13) dX8_apart_12 rfl rfl ?_
    first | refine N_isub (pc2 := 14) dX8_apart_13 (by with_reducible rfl) (by with_reducible rfl) (by omega) rfl ?_ | refine T_isub (pc2 := 14) dX8_apart_13 rfl ?_
    refine T_istore_n (pc2 := 15) dX8_apart_14 (by decide) rfl ?_
    refine T_iload_n (pc2 := 16) dX8_apart_15 rfl rfl ?_
    refine T_bipush (pc2 := 18) dX8_apart_16 bp6 rfl ?_
    first | refine N_icmple (pc2 := 21) (tgt := 28) dX8_apart_18 (by decide) (by with_reducible rfl) (by with_reducible rfl) (by omega) (by omega) rfl (fun c18 => ?_) (fun c18 => ?_) | refine T_icmple (pc2 := 21) (tgt := 28) dX8_apart_18 (by decide) rfl (fun c18 => ?_) (fun c18 => ?_)
    · refine T_iload_n (pc2 := 29) dX8_apart_28 rfl rfl ?_
      refine T_iret dX8_apart_29 rfl rfl ?_
      have e2 : apartN x y = y - x := by unfold apartN; rw [e]; split <;> omega
      rw [e2] at k
      exact k
    · refine T_bipush (pc2 := 23) dX8_apart_21 bp12 rfl ?_
      refine T_iload_n (pc2 := 24) dX8_apart_23 rfl rfl ?_
      first | refine N_isub (pc2 := 25) dX8_apart_24 (by with_reducible rfl) (by with_reducible rfl) (by omega) rfl ?_ | refine T_isub (pc2 := 25) dX8_apart_24 rfl ?_
      refine T_goto (tgt := 29) dX8_apart_25 (by decide) ?_
      refine T_iret dX8_apart_29 rfl rfl ?_
      have e2 : apartN x y = 12 - (y - x) := by unfold apartN; rw [e]; split <;> omega
      rw [e2] at k
      exact k
  · have e : gapN x y = x - y := if_neg c2
    refine T_iload_n (pc2 := 6) dX8_apart_5 rfl rfl ?_
    refine T_iload_n (pc2 := 7) dX8_apart_6 rfl rfl ?_
    first | refine N_isub (pc2 := 8) dX8_apart_7 (by with_reducible rfl) (by with_reducible rfl) (by omega) rfl ?_ | refine T_isub (pc2 := 8) dX8_apart_7 rfl ?_
    refine T_goto (tgt := 14) dX8_apart_8 (by decide) ?_
    refine T_istore_n (pc2 := 15) dX8_apart_14 (by decide) rfl ?_
    refine T_iload_n (pc2 := 16) dX8_apart_15 rfl rfl ?_
    refine T_bipush (pc2 := 18) dX8_apart_16 bp6 rfl ?_
    first | refine N_icmple (pc2 := 21) (tgt := 28) dX8_apart_18 (by decide) (by with_reducible rfl) (by with_reducible rfl) (by omega) (by omega) rfl (fun c18 => ?_) (fun c18 => ?_) | refine T_icmple (pc2 := 21) (tgt := 28) dX8_apart_18 (by decide) rfl (fun c18 => ?_) (fun c18 => ?_)
    · refine T_iload_n (pc2 := 29) dX8_apart_28 rfl rfl ?_
      refine T_iret dX8_apart_29 rfl rfl ?_
      have e2 : apartN x y = x - y := by unfold apartN; rw [e]; split <;> omega
      rw [e2] at k
      exact k
    · refine T_bipush (pc2 := 23) dX8_apart_21 bp12 rfl ?_
      refine T_iload_n (pc2 := 24) dX8_apart_23 rfl rfl ?_
      first | refine N_isub (pc2 := 25) dX8_apart_24 (by with_reducible rfl) (by with_reducible rfl) (by omega) rfl ?_ | refine T_isub (pc2 := 25) dX8_apart_24 rfl ?_
      refine T_goto (tgt := 29) dX8_apart_25 (by decide) ?_
      refine T_iret dX8_apart_29 rfl rfl ?_
      have e2 : apartN x y = 12 - (x - y) := by unfold apartN; rw [e]; split <;> omega
      rw [e2] at k
      exact k
theorem m_bits_loop {p : Nat → Bool} (k : Q (some (.int (nI (ct p 8)))) h) : ∀ m j, j + m = 8 → T MX8_bits d kc ks 4 [(0, .int (nI (bm p 8))), (1, .int (nI (ct p j))), (2, .int (nI j))] [] h Q := by
  intro m
  induction m with
  | zero =>
    intro j hj
    refine T_iload_n (pc2 := 5) dX8_bits_4 rfl rfl ?_
    refine T_bipush (pc2 := 7) dX8_bits_5 bp8 rfl ?_
    first | refine N_icmpge (pc2 := 10) (tgt := 24) dX8_bits_7 (by decide) (by with_reducible rfl) (by with_reducible rfl) (by omega) (by omega) rfl (fun c7 => ?_) (fun c7 => ?_) | refine T_icmpge (pc2 := 10) (tgt := 24) dX8_bits_7 (by decide) rfl (fun c7 => ?_) (fun c7 => ?_)
    · refine T_iload_n (pc2 := 25) dX8_bits_24 rfl rfl ?_
      refine T_iret dX8_bits_25 rfl rfl ?_
      rw [show j = 8 by omega]
      exact k
    · exact absurd (by omega) c7
  | succ m ih =>
    intro j hj
    refine T_iload_n (pc2 := 5) dX8_bits_4 rfl rfl ?_
    refine T_bipush (pc2 := 7) dX8_bits_5 bp8 rfl ?_
    first | refine N_icmpge (pc2 := 10) (tgt := 24) dX8_bits_7 (by decide) (by with_reducible rfl) (by with_reducible rfl) (by omega) (by omega) rfl (fun c7 => ?_) (fun c7 => ?_) | refine T_icmpge (pc2 := 10) (tgt := 24) dX8_bits_7 (by decide) rfl (fun c7 => ?_) (fun c7 => ?_)
    · exact absurd c7 (by omega)
    · refine T_iload_n (pc2 := 11) dX8_bits_10 rfl rfl ?_
      refine T_iload_n (pc2 := 12) dX8_bits_11 rfl rfl ?_
      refine T_iload_n (pc2 := 13) dX8_bits_12 rfl rfl ?_
      refine T_ishr (pc2 := 14) dX8_bits_13 rfl ?_
      refine T_iconst (pc2 := 15) dX8_bits_14 ic1 rfl ?_
      refine T_iand (pc2 := 16) dX8_bits_15 rfl ?_
      rw [bm_has (by decide) (by omega)]
      first | refine N_iadd (pc2 := 17) dX8_bits_16 (by with_reducible rfl) (by with_reducible rfl) rfl ?_ | refine T_iadd (pc2 := 17) dX8_bits_16 rfl ?_
      refine T_istore_n (pc2 := 18) dX8_bits_17 (by decide) rfl ?_
      first | refine N_iinc (pc2 := 21) dX8_bits_18 rfl (by with_reducible rfl) ic1 (by decide) rfl ?_ | refine T_iinc (pc2 := 21) dX8_bits_18 rfl rfl (by decide) rfl ?_
      refine T_goto (tgt := 4) dX8_bits_21 (by decide) ?_
      refine T_sub (lks (i := 0) rfl (lks (i := 1) rfl (lks (i := 2) rfl lk0))) ?_
      exact ih (j + 1) (by omega)
theorem m_bits {p : Nat → Bool} (k : Q (some (.int (nI (ct p 8)))) h) : Calls MX8_bits d 0 0 [.int (nI (bm p 8))] h Q := by
  refine Calls.of (by decide +kernel) (Nat.le_of_ble_eq_true rfl) ?_
  refine T_iconst (pc2 := 1) dX8_bits_0 ic0 rfl ?_
  refine T_istore_n (pc2 := 2) dX8_bits_1 (by decide) rfl ?_
  refine T_iconst (pc2 := 3) dX8_bits_2 ic0 rfl ?_
  refine T_istore_n (pc2 := 4) dX8_bits_3 (by decide) rfl ?_
  refine T_sub (lks (i := 0) rfl (lks (i := 1) rfl (lks (i := 2) rfl lk0))) ?_
  exact m_bits_loop k 8 0 rfl
theorem m_bitsN {o : Nat} (ho : o < 256) (k : Q (some (.int (nI (ctN o)))) h) : Calls MX8_bits d 0 0 [.int (nI o)] h Q := by
  have e : bm (fun j => o.testBit j) 8 = o := bm_self ho
  have := m_bits (d := d) (p := fun j => o.testBit j) k
  rw [e] at this
  exact this
theorem m_has {p : Nat → Bool} {i : Nat} (hi : i < 8) (kt : p i = true → Q (some (.int (nI 1))) h) (kf : p i = false → Q (some (.int (nI 0))) h) : Calls MX8_has d 0 0 [.int (nI (bm p 8)), .int (nI i)] h Q := by
  refine Calls.of (by decide +kernel) (Nat.le_of_ble_eq_true rfl) ?_
  refine T_iload_n (pc2 := 1) dX8_has_0 rfl rfl ?_
  refine T_iload_n (pc2 := 2) dX8_has_1 rfl rfl ?_
  refine T_ishr (pc2 := 3) dX8_has_2 rfl ?_
  refine T_iconst (pc2 := 4) dX8_has_3 ic1 rfl ?_
  refine T_iand (pc2 := 5) dX8_has_4 rfl ?_
  rw [bm_has (by decide) (by omega)]
  cases hp : p i with
  | true =>
    refine T_iconst (pc2 := 6) dX8_has_5 ic1 rfl ?_
    first | refine N_icmpne (pc2 := 9) (tgt := 13) dX8_has_6 (by decide) (by with_reducible rfl) (by with_reducible rfl) (by omega) (by omega) rfl (fun c6 => ?_) (fun c6 => ?_) | refine T_icmpne (pc2 := 9) (tgt := 13) dX8_has_6 (by decide) rfl (fun c6 => ?_) (fun c6 => ?_)
    · exact absurd c6 (by simp)
    · refine T_iconst (pc2 := 10) dX8_has_9 ic1 rfl ?_
      refine T_goto (tgt := 14) dX8_has_10 (by decide) ?_
      refine T_iret dX8_has_14 rfl (by first | rfl | decide) ?_
      exact kt hp
  | false =>
    refine T_iconst (pc2 := 6) dX8_has_5 ic1 rfl ?_
    first | refine N_icmpne (pc2 := 9) (tgt := 13) dX8_has_6 (by decide) (by with_reducible rfl) (by with_reducible rfl) (by omega) (by omega) rfl (fun c6 => ?_) (fun c6 => ?_) | refine T_icmpne (pc2 := 9) (tgt := 13) dX8_has_6 (by decide) rfl (fun c6 => ?_) (fun c6 => ?_)
    · refine T_iconst (pc2 := 14) dX8_has_13 ic0 rfl ?_
      refine T_iret dX8_has_14 rfl (by first | rfl | decide) ?_
      exact kf hp
    · exact absurd c6 (by decide)
theorem m_hasN {o i : Nat} (ho : o < 256) (hi : i < 8) (kt : o.testBit i = true → Q (some (.int (nI 1))) h) (kf : o.testBit i = false → Q (some (.int (nI 0))) h) : Calls MX8_has d 0 0 [.int (nI o), .int (nI i)] h Q := by
  have e : bm (fun j => o.testBit j) 8 = o := bm_self ho
  have := m_has (d := d) (p := fun j => o.testBit j) hi kt kf
  rw [e] at this
  exact this
end MBase

