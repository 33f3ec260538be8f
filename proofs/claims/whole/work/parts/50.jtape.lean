theorem cpy_eq {f f2 h h2 : Nat → Int32} {a b c n : Nat} (h1 : ∀ i, i < n → f i = h i) (h3 : ∀ i, i < n → f2 i = h2 i) (ha : a + c ≤ n) : ∀ i, i < n → va_cpy f f2 a b c i = va_cpy h h2 a b c i := by
  intro i hi
  unfold va_cpy
  split
  · rename_i q
    exact h1 _ (by omega)
  · exact h3 i hi
theorem kdA (tp : Nat → Nat) (sz a0 : Nat) : kindA tp sz a0 ≤ 5 := by
  unfold kindA
  split
  · exact kindN_le _
  · decide
theorem pnc_ok {tp : Nat → Nat} {sz a lo hi : Nat} (h : ¬ pnc tp sz a lo hi ≠ 0) : lo ≤ vl tp sz a ∧ vl tp sz a ≤ hi := by
  apply Classical.byContradiction
  intro hno
  apply h
  unfold pnc
  split
  · decide
  · first | (rw [if_pos hno]; decide) | decide
theorem pJ_ok {tp : Nat → Nat} {sz : Nat} {V : Cel} {a0 : Nat} (hV : okC V) (hpl : ∀ j, j < V.J → V.pl j = j) (h : (pJ tp sz V a0).1 = 0) : okC (pJ tp sz V a0).2.2 ∧ (∀ j, j < (pJ tp sz V a0).2.2.J → (pJ tp sz V a0).2.2.pl j = j) ∧ (pJ tp sz V a0).2.2.Y = V.Y := by
  unfold pJ at h ⊢
  split at h
  · cases h
  · split at h
    · cases h
    · rename_i h1 h2
      split at h
      · rename_i h3; exact absurd h h3
      · split at h
        · cases h
        · split at h
          · rename_i h5; exact absurd h h5
          · split at h
            · cases h
            · rename_i h3 h4 h5 h6
              rw [if_neg h1, if_neg h2, if_neg h3, if_neg h4, if_neg h5, if_neg h6]
              have p1 := pnc_ok h3
              have p2 := pnc_ok h5
              have k5 := kdA tp sz a0
              have hpl2 : ∀ j, j < V.J + 1 → va_up V.pl V.J V.J j = j := fun j hj => by
                by_cases e : j = V.J
                · simp [va_up, e]
                · simp only [va_up, if_neg e]
                  exact hpl j (by omega)
              refine ⟨⟨by show V.J + 1 ≤ 8; omega, hV.2.1, hV.2.2.1, fun j hj => ?_, fun i j hi hj e => ?_⟩, hpl2, rfl⟩
              · have hj : j < V.J + 1 := hj
                by_cases e : j = V.J
                · subst e
                  simp only [Cel.add, Cel.J, Cel.Y, Cel.R, Cel.kd, Cel.nt, Cel.kp, Cel.pl, Cel.hw, va_up, if_pos]
                  refine ⟨by omega, k5, by omega, by omega, fun _ => by omega, by omega, by decide⟩
                · have := hV.2.2.2.1 j (by omega)
                  simp only [Cel.add, Cel.J, Cel.Y, Cel.R, Cel.kd, Cel.nt, Cel.kp, Cel.pl, Cel.hw, va_up] at this ⊢
                  simp only [if_neg (show ¬ j = V.1 from e)]
                  refine ⟨this.1, this.2.1, this.2.2.1, this.2.2.2.1, this.2.2.2.2.1, by have := this.2.2.2.2.2.1; omega, this.2.2.2.2.2.2⟩
              · have e : va_up V.pl V.J V.J i = va_up V.pl V.J V.J j := e
                rw [hpl2 i hi, hpl2 j hj] at e
                exact e
theorem pLp_ok {tp : Nat → Nat} {sz : Nat} : ∀ f V a0, okC V → (∀ j, j < V.J → V.pl j = j) → V.Y = 0 → (pLp tp sz f V a0).1 = 0 → okC (pLp tp sz f V a0).2.2 ∧ (pLp tp sz f V a0).2.2.Y = 0 ∧ 0 < (pLp tp sz f V a0).2.2.J := by
  intro f
  induction f with
  | zero => intro V a0 _ _ _ h; cases h
  | succ f ih =>
    intro V a0 hV hp hY h
    by_cases q : 0 < V.J ∧ a0 = sz
    · have e : pLp tp sz (f + 1) V a0 = (0, a0, V) := if_pos q
      rw [e]
      exact ⟨hV, hY, q.1⟩
    · by_cases q2 : (pJ tp sz V a0).1 ≠ 0
      · have e : pLp tp sz (f + 1) V a0 = pJ tp sz V a0 := (if_neg q).trans (if_pos q2)
        rw [e] at h
        exact absurd h q2
      · have e : pLp tp sz (f + 1) V a0 = pLp tp sz f (pJ tp sz V a0).2.2 (pJ tp sz V a0).2.1 := (if_neg q).trans (if_neg q2)
        have h0 : (pJ tp sz V a0).1 = 0 := Classical.byContradiction q2
        have := pJ_ok hV hp h0
        rw [e] at h ⊢
        exact ih _ _ this.1 this.2.1 (this.2.2.trans hY) h
theorem parse_ok {tp : Nat → Nat} {sz : Nat} (h : (parse tp sz).1 = 0) : okC (parse tp sz).2.2 ∧ (parse tp sz).2.2.Y = 0 ∧ 0 < (parse tp sz).2.2.J := by
  unfold parse at h ⊢
  split at h
  · cases h
  · split at h
    · rename_i q; exact absurd h q
    · split at h
      · cases h
      · rename_i h1 h2 h3
        rw [if_neg h1, if_neg h2, if_neg h3]
        have p := pnc_ok h2
        exact pLp_ok 9 _ _ ⟨Nat.zero_le 8, show (0 : Nat) < 100000 by decide, p.2, fun j hj => absurd hj (Nat.not_lt_zero j), fun i j hi => absurd hi (Nat.not_lt_zero i)⟩ (fun j hj => absurd hj (Nat.not_lt_zero j)) rfl h
section JTape
variable {sk : Nat → SK} {g : Nat → Nat → Int32} {n : Nat} {Q : Option Value → SH → Prop} {d kc ks : Nat} {bf im : Nat → Option Nat} {above below : Int64} {nx : Nat} {s : ST}
theorem j_copy {a i b j m : Int32} (hI : JJ sk g n bf im above below nx s) (hok : Ok s) (k : ∀ sk2 g2 n2, InvJ sk2 g2 n2 (sCopy s a i b j m).2 → FrJ sk g sk2 g2 → Q (some (.int (sCopy s a i b j m).1)) (HP sk2 g2 n2)) : Calls MX7_copy (d + 2) 0 0 [.ref 4, .int a, .int i, .int b, .int j, .int m] (HP sk g n) Q := by
  have S := hI.1
  have hA := hI.2.2.2.1
  refine Calls.of (by decide +kernel) (Nat.le_of_ble_eq_true rfl) ?_
  refine T_iload_n (pc2 := 1) dX7_copy_0 rfl rfl ?_
  refine C_S1 (pc2 := 4) (mc := 0) (ms := 0) dX7_copy_1 csX7_isRow mlX7_58 (Nat.le_of_ble_eq_true rfl) rfl ?_
  refine c_isRow (fun x hx ex => ?_) (fun hno => ?_)
  · subst ex
    first | refine B_ifeq1 (pc2 := 7) (tgt := 14) dX7_copy_4 (by with_reducible rfl) (by decide) rfl ?_ | refine B_ifeq0 (tgt := 14) dX7_copy_4 (by with_reducible rfl) (by decide) ?_ | refine N_ifeq (pc2 := 7) (tgt := 14) dX7_copy_4 (by with_reducible rfl) (by decide) (by omega) rfl (fun c4 => ?_) (fun c4 => ?_) | refine T_ifeq (pc2 := 7) (tgt := 14) dX7_copy_4 (by decide) rfl (fun c4 => ?_) (fun c4 => ?_)
    refine T_iload_n (pc2 := 8) dX7_copy_7 rfl rfl ?_
    refine C_S1 (pc2 := 11) (mc := 0) (ms := 0) dX7_copy_8 csX7_isRow mlX7_58 (Nat.le_of_ble_eq_true rfl) rfl ?_
    refine c_isRow (fun y hy ey => ?_) (fun hno => ?_)
    · subst ey
      have hs : sCopy s (nI x) i (nI y) j m = if s.A.1 x = false ∨ s.A.1 y = false then (fnd 1, s.setfd 1) else if s.A.2.1 x ≠ s.A.2.1 y then (fnd 5, s.setfd 5) else match hN i m (s.A.2.2.1 x), hN j m (s.A.2.2.1 y) with
          | some q, some p => (m, (s.setA (s.A.cpy x y q.1 p.1 q.2)).setfd 0)
          | _, _ => (fnd 2, s.setfd 2) := by
        unfold sCopy
        rw [inN_some hx (by decide), inN_some hy (by decide)]
        rfl
      have e6 := (hA x hx).1
      have f6 := (hA y hy).1
      first | refine B_ifne1 (tgt := 17) dX7_copy_11 (by with_reducible rfl) (by decide) ?_ | refine B_ifne0 (pc2 := 14) (tgt := 17) dX7_copy_11 (by with_reducible rfl) (by decide) rfl ?_ | refine N_ifne (pc2 := 14) (tgt := 17) dX7_copy_11 (by with_reducible rfl) (by decide) (by omega) rfl (fun c11 => ?_) (fun c11 => ?_) | refine T_ifne (pc2 := 14) (tgt := 17) dX7_copy_11 (by decide) rfl (fun c11 => ?_) (fun c11 => ?_)
      cases hxt : s.A.1 x with
      | false =>
        rw [hxt, if_neg (by decide)] at e6
        refine T_aload_n (pc2 := 18) dX7_copy_17 rfl rfl ?_
        refine G_getR (pc2 := 21) dX7_copy_18 flX7_10 (sh4 S) rfl rfl ?_
        refine G_getR (pc2 := 24) dX7_copy_21 flX7_85 (sh5 S) rfl rfl ?_
        refine T_iload_n (pc2 := 25) dX7_copy_24 rfl rfl ?_
        refine G_bald (pc2 := 26) dX7_copy_25 (sh6 S) (by omega) (by first | decide | omega) (by first | with_reducible assumption | exact gs_eq _ _ _ _ | exact (gs_ne _ _ (by omega)).trans (by with_reducible assumption) | exact (gs_ne _ _ (by omega)).trans (gs_eq _ _ _ _) | exact (gs_ne _ _ (by omega)).trans ((gs_ne _ _ (by omega)).trans (by with_reducible assumption)) | exact (gs_ne _ _ (by omega)).trans ((gs_ne _ _ (by omega)).trans (gs_eq _ _ _ _)) | exact (gs_ne _ _ (by omega)).trans ((gs_ne _ _ (by omega)).trans ((gs_ne _ _ (by omega)).trans (by with_reducible assumption))) | rfl) rfl ?_
        first | refine B_ifeq1 (pc2 := 29) (tgt := 41) dX7_copy_26 (by with_reducible rfl) (by decide) rfl ?_ | refine B_ifeq0 (tgt := 41) dX7_copy_26 (by with_reducible rfl) (by decide) ?_ | refine N_ifeq (pc2 := 29) (tgt := 41) dX7_copy_26 (by with_reducible rfl) (by decide) (by omega) rfl (fun c26 => ?_) (fun c26 => ?_) | refine T_ifeq (pc2 := 29) (tgt := 41) dX7_copy_26 (by decide) rfl (fun c26 => ?_) (fun c26 => ?_)
        refine T_aload_n (pc2 := 42) dX7_copy_41 rfl rfl ?_
        refine T_iconst (pc2 := 43) dX7_copy_42 ic1 rfl ?_
        refine C_V1 (pc2 := 46) (mc := 0) (ms := 0) dX7_copy_43 cvX7_found mlX7_67 (isO.h (sh4 S) _) (Nat.le_of_ble_eq_true rfl) rfl ?_
        refine c_found S ?_
        refine T_iret dX7_copy_46 rfl rfl ?_
        exact fin_fd k hI (by rw [hs, if_pos (Or.inl hxt)])
      | true =>
        rw [hxt, if_pos rfl] at e6
        refine T_aload_n (pc2 := 18) dX7_copy_17 rfl rfl ?_
        refine G_getR (pc2 := 21) dX7_copy_18 flX7_10 (sh4 S) rfl rfl ?_
        refine G_getR (pc2 := 24) dX7_copy_21 flX7_85 (sh5 S) rfl rfl ?_
        refine T_iload_n (pc2 := 25) dX7_copy_24 rfl rfl ?_
        refine G_bald (pc2 := 26) dX7_copy_25 (sh6 S) (by omega) (by first | decide | omega) (by first | with_reducible assumption | exact gs_eq _ _ _ _ | exact (gs_ne _ _ (by omega)).trans (by with_reducible assumption) | exact (gs_ne _ _ (by omega)).trans (gs_eq _ _ _ _) | exact (gs_ne _ _ (by omega)).trans ((gs_ne _ _ (by omega)).trans (by with_reducible assumption)) | exact (gs_ne _ _ (by omega)).trans ((gs_ne _ _ (by omega)).trans (gs_eq _ _ _ _)) | exact (gs_ne _ _ (by omega)).trans ((gs_ne _ _ (by omega)).trans ((gs_ne _ _ (by omega)).trans (by with_reducible assumption))) | rfl) rfl ?_
        first | refine B_ifeq1 (pc2 := 29) (tgt := 41) dX7_copy_26 (by with_reducible rfl) (by decide) rfl ?_ | refine B_ifeq0 (tgt := 41) dX7_copy_26 (by with_reducible rfl) (by decide) ?_ | refine N_ifeq (pc2 := 29) (tgt := 41) dX7_copy_26 (by with_reducible rfl) (by decide) (by omega) rfl (fun c26 => ?_) (fun c26 => ?_) | refine T_ifeq (pc2 := 29) (tgt := 41) dX7_copy_26 (by decide) rfl (fun c26 => ?_) (fun c26 => ?_)
        cases hyt : s.A.1 y with
        | false =>
          rw [hyt, if_neg (by decide)] at f6
          refine T_aload_n (pc2 := 30) dX7_copy_29 rfl rfl ?_
          refine G_getR (pc2 := 33) dX7_copy_30 flX7_10 (sh4 S) rfl rfl ?_
          refine G_getR (pc2 := 36) dX7_copy_33 flX7_85 (sh5 S) rfl rfl ?_
          refine T_iload_n (pc2 := 37) dX7_copy_36 rfl rfl ?_
          refine G_bald (pc2 := 38) dX7_copy_37 (sh6 S) (by omega) (by first | decide | omega) (by first | with_reducible assumption | exact gs_eq _ _ _ _ | exact (gs_ne _ _ (by omega)).trans (by with_reducible assumption) | exact (gs_ne _ _ (by omega)).trans (gs_eq _ _ _ _) | exact (gs_ne _ _ (by omega)).trans ((gs_ne _ _ (by omega)).trans (by with_reducible assumption)) | exact (gs_ne _ _ (by omega)).trans ((gs_ne _ _ (by omega)).trans (gs_eq _ _ _ _)) | exact (gs_ne _ _ (by omega)).trans ((gs_ne _ _ (by omega)).trans ((gs_ne _ _ (by omega)).trans (by with_reducible assumption))) | rfl) rfl ?_
          first | refine B_ifne1 (tgt := 47) dX7_copy_38 (by with_reducible rfl) (by decide) ?_ | refine B_ifne0 (pc2 := 41) (tgt := 47) dX7_copy_38 (by with_reducible rfl) (by decide) rfl ?_ | refine N_ifne (pc2 := 41) (tgt := 47) dX7_copy_38 (by with_reducible rfl) (by decide) (by omega) rfl (fun c38 => ?_) (fun c38 => ?_) | refine T_ifne (pc2 := 41) (tgt := 47) dX7_copy_38 (by decide) rfl (fun c38 => ?_) (fun c38 => ?_)
          refine T_aload_n (pc2 := 42) dX7_copy_41 rfl rfl ?_
          refine T_iconst (pc2 := 43) dX7_copy_42 ic1 rfl ?_
          refine C_V1 (pc2 := 46) (mc := 0) (ms := 0) dX7_copy_43 cvX7_found mlX7_67 (isO.h (sh4 S) _) (Nat.le_of_ble_eq_true rfl) rfl ?_
          refine c_found S ?_
          refine T_iret dX7_copy_46 rfl rfl ?_
          exact fin_fd k hI (by rw [hs, if_pos (Or.inr hyt)])
        | true =>
          rw [hyt, if_pos rfl] at f6
          have hnt : ¬ (s.A.1 x = false ∨ s.A.1 y = false) := by rw [hxt, hyt]; decide
          have e7 := ((hA x hx).2 hxt).1
          have f7 := ((hA y hy).2 hyt).1
          have ox := hok.1 x hx hxt
          have oy := hok.1 y hy hyt
          refine T_aload_n (pc2 := 30) dX7_copy_29 rfl rfl ?_
          refine G_getR (pc2 := 33) dX7_copy_30 flX7_10 (sh4 S) rfl rfl ?_
          refine G_getR (pc2 := 36) dX7_copy_33 flX7_85 (sh5 S) rfl rfl ?_
          refine T_iload_n (pc2 := 37) dX7_copy_36 rfl rfl ?_
          refine G_bald (pc2 := 38) dX7_copy_37 (sh6 S) (by omega) (by first | decide | omega) (by first | with_reducible assumption | exact gs_eq _ _ _ _ | exact (gs_ne _ _ (by omega)).trans (by with_reducible assumption) | exact (gs_ne _ _ (by omega)).trans (gs_eq _ _ _ _) | exact (gs_ne _ _ (by omega)).trans ((gs_ne _ _ (by omega)).trans (by with_reducible assumption)) | exact (gs_ne _ _ (by omega)).trans ((gs_ne _ _ (by omega)).trans (gs_eq _ _ _ _)) | exact (gs_ne _ _ (by omega)).trans ((gs_ne _ _ (by omega)).trans ((gs_ne _ _ (by omega)).trans (by with_reducible assumption))) | rfl) rfl ?_
          first | refine B_ifne1 (tgt := 47) dX7_copy_38 (by with_reducible rfl) (by decide) ?_ | refine B_ifne0 (pc2 := 41) (tgt := 47) dX7_copy_38 (by with_reducible rfl) (by decide) rfl ?_ | refine N_ifne (pc2 := 41) (tgt := 47) dX7_copy_38 (by with_reducible rfl) (by decide) (by omega) rfl (fun c38 => ?_) (fun c38 => ?_) | refine T_ifne (pc2 := 41) (tgt := 47) dX7_copy_38 (by decide) rfl (fun c38 => ?_) (fun c38 => ?_)
          refine T_aload_n (pc2 := 48) dX7_copy_47 rfl rfl ?_
          refine G_getR (pc2 := 51) dX7_copy_48 flX7_10 (sh4 S) rfl rfl ?_
          refine G_getR (pc2 := 54) dX7_copy_51 flX7_89 (sh5 S) rfl rfl ?_
          refine T_iload_n (pc2 := 55) dX7_copy_54 rfl rfl ?_
          refine G_iald (pc2 := 56) dX7_copy_55 (sh7 S) (by omega) (by first | decide | omega) (by first | with_reducible assumption | exact gs_eq _ _ _ _ | exact (gs_ne _ _ (by omega)).trans (by with_reducible assumption) | exact (gs_ne _ _ (by omega)).trans (gs_eq _ _ _ _) | exact (gs_ne _ _ (by omega)).trans ((gs_ne _ _ (by omega)).trans (by with_reducible assumption)) | exact (gs_ne _ _ (by omega)).trans ((gs_ne _ _ (by omega)).trans (gs_eq _ _ _ _)) | exact (gs_ne _ _ (by omega)).trans ((gs_ne _ _ (by omega)).trans ((gs_ne _ _ (by omega)).trans (by with_reducible assumption))) | rfl) rfl ?_
          refine T_aload_n (pc2 := 57) dX7_copy_56 rfl rfl ?_
          refine G_getR (pc2 := 60) dX7_copy_57 flX7_10 (sh4 S) rfl rfl ?_
          refine G_getR (pc2 := 63) dX7_copy_60 flX7_89 (sh5 S) rfl rfl ?_
          refine T_iload_n (pc2 := 64) dX7_copy_63 rfl rfl ?_
          refine G_iald (pc2 := 65) dX7_copy_64 (sh7 S) (by omega) (by first | decide | omega) (by first | with_reducible assumption | exact gs_eq _ _ _ _ | exact (gs_ne _ _ (by omega)).trans (by with_reducible assumption) | exact (gs_ne _ _ (by omega)).trans (gs_eq _ _ _ _) | exact (gs_ne _ _ (by omega)).trans ((gs_ne _ _ (by omega)).trans (by with_reducible assumption)) | exact (gs_ne _ _ (by omega)).trans ((gs_ne _ _ (by omega)).trans (gs_eq _ _ _ _)) | exact (gs_ne _ _ (by omega)).trans ((gs_ne _ _ (by omega)).trans ((gs_ne _ _ (by omega)).trans (by with_reducible assumption))) | rfl) rfl ?_
          first | refine N_icmpeq (pc2 := 68) (tgt := 74) dX7_copy_65 (by decide) (by with_reducible rfl) (by with_reducible rfl) (by omega) (by omega) rfl (fun c65 => ?_) (fun c65 => ?_) | refine T_icmpeq (pc2 := 68) (tgt := 74) dX7_copy_65 (by decide) rfl (fun c65 => ?_) (fun c65 => ?_)
          · refine T_aload_n (pc2 := 75) dX7_copy_74 rfl rfl ?_
            refine G_getR (pc2 := 78) dX7_copy_75 flX7_10 (sh4 S) rfl rfl ?_
            refine T_iload_n (pc2 := 79) dX7_copy_78 rfl rfl ?_
            refine T_iload_n (pc2 := 80) dX7_copy_79 rfl rfl ?_
            refine T_iload (pc2 := 82) dX7_copy_80 rfl rfl ?_
            refine C_V3 (pc2 := 85) (mc := 0) (ms := 0) dX7_copy_82 cvX5_holds mlX7_93 (isO.h (sh5 S) _) (Nat.le_of_ble_eq_true rfl) rfl ?_
            have hne : ¬ s.A.2.1 x ≠ s.A.2.1 y := fun z => z c65
            refine c_holds S hA hok.1 hx hxt (fun a1 b1 h1 h2 h3 => ?_) (fun hno => ?_)
            · subst h1
              subst h2
              first | refine B_ifeq1 (pc2 := 88) (tgt := 103) dX7_copy_85 (by with_reducible rfl) (by decide) rfl ?_ | refine B_ifeq0 (tgt := 103) dX7_copy_85 (by with_reducible rfl) (by decide) ?_ | refine N_ifeq (pc2 := 88) (tgt := 103) dX7_copy_85 (by with_reducible rfl) (by decide) (by omega) rfl (fun c85 => ?_) (fun c85 => ?_) | refine T_ifeq (pc2 := 88) (tgt := 103) dX7_copy_85 (by decide) rfl (fun c85 => ?_) (fun c85 => ?_)
              refine T_aload_n (pc2 := 89) dX7_copy_88 rfl rfl ?_
              refine G_getR (pc2 := 92) dX7_copy_89 flX7_10 (sh4 S) rfl rfl ?_
              refine T_iload_n (pc2 := 93) dX7_copy_92 rfl rfl ?_
              refine T_iload (pc2 := 95) dX7_copy_93 rfl rfl ?_
              refine T_iload (pc2 := 97) dX7_copy_95 rfl rfl ?_
              refine C_V3 (pc2 := 100) (mc := 0) (ms := 0) dX7_copy_97 cvX5_holds mlX7_93 (isO.h (sh5 S) _) (Nat.le_of_ble_eq_true rfl) rfl ?_
              refine c_holds S hA hok.1 hy hyt (fun a2 b2 h4 h5 h6 => ?_) (fun hno => ?_)
              · subst h4
                have hb2 : b1 = b2 := by
                  rcases Nat.lt_or_ge b2 (2 ^ 31) with q | q
                  · exact (nI_eq (by omega) q).mp h5
                  · omega
                subst hb2
                first | refine B_ifne1 (tgt := 109) dX7_copy_100 (by with_reducible rfl) (by decide) ?_ | refine B_ifne0 (pc2 := 103) (tgt := 109) dX7_copy_100 (by with_reducible rfl) (by decide) rfl ?_ | refine N_ifne (pc2 := 103) (tgt := 109) dX7_copy_100 (by with_reducible rfl) (by decide) (by omega) rfl (fun c100 => ?_) (fun c100 => ?_) | refine T_ifne (pc2 := 103) (tgt := 109) dX7_copy_100 (by decide) rfl (fun c100 => ?_) (fun c100 => ?_)
                have hz1 := shRow S x hx
                have hz2 := shRow S y hy
                have ez1 : (if x < 8 then some (10 + x) else none) = some (10 + x) := if_pos hx
                have ez2 : (if y < 8 then some (10 + y) else none) = some (10 + y) := if_pos hy
                refine T_aload_n (pc2 := 110) dX7_copy_109 rfl rfl ?_
                refine G_getR (pc2 := 113) dX7_copy_110 flX7_10 (sh4 S) rfl rfl ?_
                refine G_getR (pc2 := 116) dX7_copy_113 flX7_96 (sh5 S) rfl rfl ?_
                refine T_iload_n (pc2 := 117) dX7_copy_116 rfl rfl ?_
                refine G_aald (pc2 := 118) dX7_copy_117 (sh9 S) rfl (by omega) (by decide) (by first | with_reducible assumption | rfl) rfl ?_
                refine T_iload_n (pc2 := 119) dX7_copy_118 rfl rfl ?_
                refine T_aload_n (pc2 := 120) dX7_copy_119 rfl rfl ?_
                refine G_getR (pc2 := 123) dX7_copy_120 flX7_10 (sh4 S) rfl rfl ?_
                refine G_getR (pc2 := 126) dX7_copy_123 flX7_96 (sh5 S) rfl rfl ?_
                refine T_iload_n (pc2 := 127) dX7_copy_126 rfl rfl ?_
                refine G_aald (pc2 := 128) dX7_copy_127 (sh9 S) rfl (by omega) (by decide) (by first | with_reducible assumption | rfl) rfl ?_
                refine T_iload (pc2 := 130) dX7_copy_128 rfl rfl ?_
                refine T_iload (pc2 := 132) dX7_copy_130 rfl rfl ?_
                refine G_copy (pc2 := 135) (i0 := 10 + x) (i1 := 10 + y) dX7_copy_132 mlX7_100 hz1 hz2 (by decide) (by decide) (by omega) (by omega) (Nat.le_of_ble_eq_true rfl) rfl ?_
                refine T_aload_n (pc2 := 136) dX7_copy_135 rfl rfl ?_
                refine T_iload (pc2 := 138) dX7_copy_136 rfl rfl ?_
                refine C_V1 (pc2 := 141) (mc := 0) (ms := 0) dX7_copy_138 cvX7_fine mlX7_75 (isO.h (sh4 S) _) (Nat.le_of_ble_eq_true rfl) rfl ?_
                refine c_fine S ?_
                refine T_iret dX7_copy_141 rfl rfl ?_
                have hA2 : hasR (va_up g (10 + y) (va_cpy (g (10 + x)) (g (10 + y)) a1 a2 b1)) (s.A.cpy x y a1 a2 b1) := by
                  intro q hq
                  have := hA q hq
                  rw [up_ne (by omega), up_ne (by omega), up_ne (by omega)]
                  refine ⟨this.1, fun h2 => ⟨(this.2 h2).1, (this.2 h2).2.1, fun t ht => ?_⟩⟩
                  by_cases e : q = y
                  · subst e
                    rw [up_eq, cpy_eq (n := 40) ((hA x hx).2 hxt).2.2 (this.2 h2).2.2 (by omega) t ht]
                    simp [RS.cpy, va_up]
                  · rw [up_ne (by omega)]
                    have h3 := (this.2 h2).2.2 t ht
                    simpa [RS.cpy, va_up, e] using h3
                refine fin_new k ((hI.rows hA2 (Fr.rf.up (by omega) (by omega))).fd 0) ⟨rfl, fun q hq => by rw [gs_row (by omega), up_ne (by omega)]⟩ ?_
                rw [hs, if_neg hnt, if_neg hne, hN_some (by omega) h3, hN_some (by omega) h6]
              · first | refine B_ifne1 (tgt := 109) dX7_copy_100 (by with_reducible rfl) (by decide) ?_ | refine B_ifne0 (pc2 := 103) (tgt := 109) dX7_copy_100 (by with_reducible rfl) (by decide) rfl ?_ | refine N_ifne (pc2 := 103) (tgt := 109) dX7_copy_100 (by with_reducible rfl) (by decide) (by omega) rfl (fun c100 => ?_) (fun c100 => ?_) | refine T_ifne (pc2 := 103) (tgt := 109) dX7_copy_100 (by decide) rfl (fun c100 => ?_) (fun c100 => ?_)
                refine T_aload_n (pc2 := 104) dX7_copy_103 rfl rfl ?_
                refine T_iconst (pc2 := 105) dX7_copy_104 ic2 rfl ?_
                refine C_V1 (pc2 := 108) (mc := 0) (ms := 0) dX7_copy_105 cvX7_found mlX7_67 (isO.h (sh4 S) _) (Nat.le_of_ble_eq_true rfl) rfl ?_
                refine c_found S ?_
                refine T_iret dX7_copy_108 rfl rfl ?_
                refine fin_fd k hI ?_
                rw [hs, if_neg hnt, if_neg hne, hN_none hno]
                cases hN (nI a1) (nI b1) (s.A.2.2.1 x) <;> rfl
            · first | refine B_ifeq1 (pc2 := 88) (tgt := 103) dX7_copy_85 (by with_reducible rfl) (by decide) rfl ?_ | refine B_ifeq0 (tgt := 103) dX7_copy_85 (by with_reducible rfl) (by decide) ?_ | refine N_ifeq (pc2 := 88) (tgt := 103) dX7_copy_85 (by with_reducible rfl) (by decide) (by omega) rfl (fun c85 => ?_) (fun c85 => ?_) | refine T_ifeq (pc2 := 88) (tgt := 103) dX7_copy_85 (by decide) rfl (fun c85 => ?_) (fun c85 => ?_)
              refine T_aload_n (pc2 := 104) dX7_copy_103 rfl rfl ?_
              refine T_iconst (pc2 := 105) dX7_copy_104 ic2 rfl ?_
              refine C_V1 (pc2 := 108) (mc := 0) (ms := 0) dX7_copy_105 cvX7_found mlX7_67 (isO.h (sh4 S) _) (Nat.le_of_ble_eq_true rfl) rfl ?_
              refine c_found S ?_
              refine T_iret dX7_copy_108 rfl rfl ?_
              exact fin_fd k hI (by rw [hs, if_neg hnt, if_neg hne, hN_none hno])
          · refine T_aload_n (pc2 := 69) dX7_copy_68 rfl rfl ?_
            refine T_iconst (pc2 := 70) dX7_copy_69 ic5 rfl ?_
            refine C_V1 (pc2 := 73) (mc := 0) (ms := 0) dX7_copy_70 cvX7_found mlX7_67 (isO.h (sh4 S) _) (Nat.le_of_ble_eq_true rfl) rfl ?_
            refine c_found S ?_
            refine T_iret dX7_copy_73 rfl rfl ?_
            exact fin_fd k hI (by rw [hs, if_neg hnt, if_pos c65])
    · first | refine B_ifne1 (tgt := 17) dX7_copy_11 (by with_reducible rfl) (by decide) ?_ | refine B_ifne0 (pc2 := 14) (tgt := 17) dX7_copy_11 (by with_reducible rfl) (by decide) rfl ?_ | refine N_ifne (pc2 := 14) (tgt := 17) dX7_copy_11 (by with_reducible rfl) (by decide) (by omega) rfl (fun c11 => ?_) (fun c11 => ?_) | refine T_ifne (pc2 := 14) (tgt := 17) dX7_copy_11 (by decide) rfl (fun c11 => ?_) (fun c11 => ?_)
      refine T_ldc (pc2 := 16) dX7_copy_14 kcX7_66 rfl ?_
      refine T_iret dX7_copy_16 rfl rfl ?_
      refine fin_same k hI ?_
      unfold sCopy
      rw [inN_none hno]
      cases inN (nI x) 8 <;> rfl
  · first | refine B_ifeq1 (pc2 := 7) (tgt := 14) dX7_copy_4 (by with_reducible rfl) (by decide) rfl ?_ | refine B_ifeq0 (tgt := 14) dX7_copy_4 (by with_reducible rfl) (by decide) ?_ | refine N_ifeq (pc2 := 7) (tgt := 14) dX7_copy_4 (by with_reducible rfl) (by decide) (by omega) rfl (fun c4 => ?_) (fun c4 => ?_) | refine T_ifeq (pc2 := 7) (tgt := 14) dX7_copy_4 (by decide) rfl (fun c4 => ?_) (fun c4 => ?_)
    refine T_ldc (pc2 := 16) dX7_copy_14 kcX7_66 rfl ?_
    refine T_iret dX7_copy_16 rfl rfl ?_
    refine fin_same k hI ?_
    unfold sCopy
    rw [inN_none hno]
theorem j_cellar (hI : JJ sk g n bf im above below nx s) (hok : Ok s) (k : ∀ sk2 g2 n2, InvJ sk2 g2 n2 (sCellar s).2 → FrJ sk g sk2 g2 → Q (some (.int (sCellar s).1)) (HP sk2 g2 n2)) : Calls MX7_cellar (d + 5) 0 0 [.ref 4] (HP sk g n) Q := by
  have S := hI.1
  refine Calls.of (by decide +kernel) (Nat.le_of_ble_eq_true rfl) ?_
  refine T_aload_n (pc2 := 1) dX7_cellar_0 rfl rfl ?_
  refine G_getR (pc2 := 4) dX7_cellar_1 flX7_19 (sh4 S) rfl rfl ?_
  refine T_aload_n (pc2 := 5) dX7_cellar_4 rfl rfl ?_
  refine G_getR (pc2 := 8) dX7_cellar_5 flX7_30 (sh4 S) rfl rfl ?_
  refine C_V1 (pc2 := 11) (mc := 0) (ms := 0) dX7_cellar_8 cvX6_tells mlX7_117 (isO.h (sh18 S) _) (Nat.le_of_ble_eq_true rfl) rfl ?_
  refine c_tape (sz := s.sz) (tp := s.tp) S (sc26 S) (by decide) hI.2.2.2.2.1 hok.2.1 (fun g2 h0 hP hV2 => ?_) (fun g2 h0 hP ea ef => ?_)
  · have hp := parse_ok h0
    have hs : sCellar s = (nI (parse s.tp s.sz).2.2.J, ((s.setT s.tp 0).setV (parse s.tp s.sz).2.2).setac s.ac 0) := if_neg (fun z => z h0)
    refine T_istore_n (pc2 := 12) dX7_cellar_11 (by decide) rfl ?_
    refine T_aload_n (pc2 := 13) dX7_cellar_12 rfl rfl ?_
    refine G_getR (pc2 := 16) dX7_cellar_13 flX7_19 (sh4 S) rfl rfl ?_
    refine T_iconst (pc2 := 17) dX7_cellar_16 ic0 rfl ?_
    refine G_putI (pc2 := 20) dX7_cellar_17 flX7_112 (sh18 S) rfl rfl rfl rfl ?_
    refine T_iload_n (pc2 := 21) dX7_cellar_20 rfl rfl ?_
    first | refine B_ifne1 (tgt := 46) dX7_cellar_21 (by with_reducible rfl) (by decide) ?_ | refine B_ifne0 (pc2 := 24) (tgt := 46) dX7_cellar_21 (by with_reducible rfl) (by decide) rfl ?_ | refine N_ifne (pc2 := 24) (tgt := 46) dX7_cellar_21 (by with_reducible rfl) (by decide) (by omega) rfl (fun c21 => ?_) (fun c21 => ?_) | refine T_ifne (pc2 := 24) (tgt := 46) dX7_cellar_21 (by decide) rfl (fun c21 => ?_) (fun c21 => ?_)
    refine T_aload_n (pc2 := 47) dX7_cellar_46 rfl rfl ?_
    refine G_getR (pc2 := 50) dX7_cellar_47 flX7_26 (sh4 S) rfl rfl ?_
    refine T_aload_n (pc2 := 51) dX7_cellar_50 rfl rfl ?_
    refine G_getR (pc2 := 54) dX7_cellar_51 flX7_30 (sh4 S) rfl rfl ?_
    refine C_V1 (pc2 := 57) (mc := 0) (ms := 0) dX7_cellar_54 cvX2_become mlX7_131 (isO.h (sc20 S).1 _) (Nat.le_of_ble_eq_true rfl) rfl ?_
    have hV3 : hasC (gset g2 18 1 (nI 0)) 26 (parse s.tp s.sz).2.2 := hV2.fr (lo := 18) (hi := 19) (Fr.rf.st (by omega) (by omega)) (by omega)
    refine c_become (sc20 S) (sc26 S) (by omega) hV3 hp.1.1 (fun g3 hV4 hf3 => ?_)
    refine T_aload_n (pc2 := 58) dX7_cellar_57 rfl rfl ?_
    refine G_getR (pc2 := 61) dX7_cellar_58 flX7_36 (sh4 S) rfl rfl ?_
    refine C_V0 (pc2 := 64) (mc := 0) (ms := 0) dX7_cellar_61 cvX0_forget mlX7_135 (isO.h (sh32 S) _) (Nat.le_of_ble_eq_true rfl) rfl ?_
    refine c_forget S ?_
    have e0 : gset g3 32 2 (nI 0) 20 0 = nI (parse s.tp s.sz).2.2.J := by rw [gs_ne _ _ (by omega)]; exact hV4.1
    refine T_aload_n (pc2 := 65) dX7_cellar_64 rfl rfl ?_
    refine G_getR (pc2 := 68) dX7_cellar_65 flX7_26 (sh4 S) rfl rfl ?_
    refine G_getI (pc2 := 71) dX7_cellar_68 flX7_138 (sc20 S).1 rfl (by first | with_reducible assumption | exact gs_eq _ _ _ _ | exact (gs_ne _ _ (by omega)).trans (by with_reducible assumption) | exact (gs_ne _ _ (by omega)).trans (gs_eq _ _ _ _) | exact (gs_ne _ _ (by omega)).trans ((gs_ne _ _ (by omega)).trans (by with_reducible assumption)) | exact (gs_ne _ _ (by omega)).trans ((gs_ne _ _ (by omega)).trans (gs_eq _ _ _ _)) | exact (gs_ne _ _ (by omega)).trans ((gs_ne _ _ (by omega)).trans ((gs_ne _ _ (by omega)).trans (by with_reducible assumption))) | rfl) rfl ?_
    refine T_iret dX7_cellar_71 rfl rfl ?_
    have hg : ∀ i, i ≠ 18 → i ≠ 32 → (i < 20 ∨ 32 ≤ i) → gset g3 32 2 (nI 0) i = g i := fun i h1 h2 h3 => by rw [gs_row h2, hf3 i (by omega), gs_row h1, hP.2 i h1 (by omega)]
    have hJ2 : JJ sk (gset g3 32 2 (nI 0)) n bf im above below nx (((s.setT s.tp 0).setV (parse s.tp s.sz).2.2).setac s.ac 0) := by
      obtain ⟨h1, h2, h3, h4, h5, h6, h7, h8, h9, h10, h11, h12⟩ := hI
      refine ⟨h1, h2, h3.cg (fun i _ _ => hg i (by omega) (by omega) (by omega)), h4.cg (fun i _ _ => hg i (by omega) (by omega) (by omega)), ⟨?_, fun i hi => absurd hi (Nat.not_lt_zero i)⟩, hV4.fr (lo := 32) (hi := 33) (Fr.rf.st (by omega) (by omega)) (by omega), ⟨?_, h7.2.1, gs_eq _ _ _ _⟩, fun i hi => absurd hi (Nat.not_lt_zero i), h9.cg (fun i _ _ => hg i (by omega) (by omega) (by omega)), h10.cg h2 (fun kk b hb i q1 q2 => ?_), by rw [hg 4 (by omega) (by omega) (by omega)]; exact h11, by rw [hg 4 (by omega) (by omega) (by omega)]; exact h12⟩
      · rw [gs_row (by omega), hf3 18 (by omega), gs_eq]; rfl
      · rw [gs_ne _ _ (by omega), hf3 32 (by omega), gs_row (by omega), hP.2 32 (by omega) (by omega)]; exact h7.1
      · obtain ⟨T, -, -, hI, -⟩ := h2
        obtain ⟨t, -, hb2, -⟩ := hI kk b hb
        exact hg i (by omega) (by omega) (by omega)
    exact fin_new k hJ2 ⟨rfl, fun i hi => hg i (by omega) (by omega) (by omega)⟩ hs
  · have hs : sCellar s = (-1000100 - nI (parse s.tp s.sz).2.1, (s.setT s.tp 0).setlf (parse s.tp s.sz).1) := if_pos h0
    refine T_istore_n (pc2 := 12) dX7_cellar_11 (by decide) rfl ?_
    refine T_aload_n (pc2 := 13) dX7_cellar_12 rfl rfl ?_
    refine G_getR (pc2 := 16) dX7_cellar_13 flX7_19 (sh4 S) rfl rfl ?_
    refine T_iconst (pc2 := 17) dX7_cellar_16 ic0 rfl ?_
    refine G_putI (pc2 := 20) dX7_cellar_17 flX7_112 (sh18 S) rfl rfl rfl rfl ?_
    refine T_iload_n (pc2 := 21) dX7_cellar_20 rfl rfl ?_
    first | refine B_ifne1 (tgt := 46) dX7_cellar_21 (by with_reducible rfl) (by decide) ?_ | refine B_ifne0 (pc2 := 24) (tgt := 46) dX7_cellar_21 (by with_reducible rfl) (by decide) rfl ?_ | refine N_ifne (pc2 := 24) (tgt := 46) dX7_cellar_21 (by with_reducible rfl) (by decide) (by omega) rfl (fun c21 => ?_) (fun c21 => ?_) | refine T_ifne (pc2 := 24) (tgt := 46) dX7_cellar_21 (by decide) rfl (fun c21 => ?_) (fun c21 => ?_)
    have ef2 : gset g2 18 1 (nI 0) 18 3 = nI (parse s.tp s.sz).1 := by rw [gs_ne _ _ (by omega)]; exact ef
    have ea2 : gset (gset g2 18 1 (nI 0)) 4 8 (nI (parse s.tp s.sz).1) 18 2 = nI (parse s.tp s.sz).2.1 := by rw [gs_ne _ _ (by omega), gs_ne _ _ (by omega)]; exact ea
    refine T_aload_n (pc2 := 25) dX7_cellar_24 rfl rfl ?_
    refine T_aload_n (pc2 := 26) dX7_cellar_25 rfl rfl ?_
    refine G_getR (pc2 := 29) dX7_cellar_26 flX7_19 (sh4 S) rfl rfl ?_
    refine G_getI (pc2 := 32) dX7_cellar_29 flX7_121 (sh18 S) rfl (by first | with_reducible assumption | exact gs_eq _ _ _ _ | exact (gs_ne _ _ (by omega)).trans (by with_reducible assumption) | exact (gs_ne _ _ (by omega)).trans (gs_eq _ _ _ _) | exact (gs_ne _ _ (by omega)).trans ((gs_ne _ _ (by omega)).trans (by with_reducible assumption)) | exact (gs_ne _ _ (by omega)).trans ((gs_ne _ _ (by omega)).trans (gs_eq _ _ _ _)) | exact (gs_ne _ _ (by omega)).trans ((gs_ne _ _ (by omega)).trans ((gs_ne _ _ (by omega)).trans (by with_reducible assumption))) | rfl) rfl ?_
    refine G_putI (pc2 := 35) dX7_cellar_32 flX7_124 (sh4 S) rfl rfl rfl rfl ?_
    refine T_ldc (pc2 := 37) dX7_cellar_35 kcX7_127 rfl ?_
    refine T_aload_n (pc2 := 38) dX7_cellar_37 rfl rfl ?_
    refine G_getR (pc2 := 41) dX7_cellar_38 flX7_19 (sh4 S) rfl rfl ?_
    refine G_getI (pc2 := 44) dX7_cellar_41 flX7_128 (sh18 S) rfl (by first | with_reducible assumption | exact gs_eq _ _ _ _ | exact (gs_ne _ _ (by omega)).trans (by with_reducible assumption) | exact (gs_ne _ _ (by omega)).trans (gs_eq _ _ _ _) | exact (gs_ne _ _ (by omega)).trans ((gs_ne _ _ (by omega)).trans (by with_reducible assumption)) | exact (gs_ne _ _ (by omega)).trans ((gs_ne _ _ (by omega)).trans (gs_eq _ _ _ _)) | exact (gs_ne _ _ (by omega)).trans ((gs_ne _ _ (by omega)).trans ((gs_ne _ _ (by omega)).trans (by with_reducible assumption))) | rfl) rfl ?_
    refine T_isub (pc2 := 45) dX7_cellar_44 rfl ?_
    refine T_iret dX7_cellar_45 rfl rfl ?_
    have hg : ∀ i, i ≠ 18 → i ≠ 4 → (i < 26 ∨ 32 ≤ i) → gset (gset g2 18 1 (nI 0)) 4 8 (nI (parse s.tp s.sz).1) i = g i := fun i h1 h2 h3 => by rw [gs_row h2, gs_row h1, hP.2 i h1 (by omega)]
    have hJ2 : JJ sk (gset (gset g2 18 1 (nI 0)) 4 8 (nI (parse s.tp s.sz).1)) n bf im above below nx ((s.setT s.tp 0).setlf (parse s.tp s.sz).1) := by
      obtain ⟨h1, h2, h3, h4, h5, h6, h7, h8, h9, h10, h11, h12⟩ := hI
      refine ⟨h1, h2, h3.cg (fun i _ _ => hg i (by omega) (by omega) (by omega)), h4.cg (fun i _ _ => hg i (by omega) (by omega) (by omega)), ⟨?_, fun i hi => absurd hi (Nat.not_lt_zero i)⟩, h6.cg (fun i _ _ => hg i (by omega) (by omega) (by omega)), by rw [hg 32 (by omega) (by omega) (by omega)]; exact h7, h8.cg h2 (fun i _ => hg i (by omega) (by omega) (by omega)), h9.cg (fun i _ _ => hg i (by omega) (by omega) (by omega)), h10.cg h2 (fun kk b hb i q1 q2 => ?_), gs_eq _ _ _ _, ?_⟩
      · rw [gs_ne _ _ (by omega), gs_eq]; rfl
      · obtain ⟨T, -, -, hI, -⟩ := h2
        obtain ⟨t, -, hb2, -⟩ := hI kk b hb
        exact hg i (by omega) (by omega) (by omega)
      · rw [gs_ne _ _ (by omega), gs_row (by omega), hP.2 4 (by omega) (by omega)]; exact h12
    exact fin_new k hJ2 ⟨rfl, fun i hi => hg i (by omega) (by omega) (by omega)⟩ hs
theorem j_undo (hI : JJ sk g n bf im above below nx s) (hok : Ok s) (k : ∀ sk2 g2 n2, InvJ sk2 g2 n2 (sUndo s).2 → FrJ sk g sk2 g2 → Q (some (.int (sUndo s).1)) (HP sk2 g2 n2)) : Calls MX7_undo (d + 2) 0 0 [.ref 4] (HP sk g n) Q := by
  have S := hI.1
  refine Calls.of (by decide +kernel) (Nat.le_of_ble_eq_true rfl) ?_
  refine T_aload_n (pc2 := 1) dX7_undo_0 rfl rfl ?_
  refine G_getR (pc2 := 4) dX7_undo_1 flX7_36 (sh4 S) rfl rfl ?_
  refine T_aload_n (pc2 := 5) dX7_undo_4 rfl rfl ?_
  refine G_getR (pc2 := 8) dX7_undo_5 flX7_26 (sh4 S) rfl rfl ?_
  refine C_V1 (pc2 := 11) (mc := 0) (ms := 0) dX7_undo_8 cvX0_takeBack mlX7_141 (isO.h (sh32 S) _) (Nat.le_of_ble_eq_true rfl) rfl ?_
  refine c_takeBack (nx := nx) (sz := s.an) (as2 := s.ac) S hI.2.1 hI.2.2.2.2.2.2.1.1 hI.2.2.2.2.2.2.1.2.2 hI.2.2.2.2.2.2.1.2.1 hok.2.2.2.1 hI.2.2.2.2.2.2.2.1 (fun i hi => (hok.2.2.2.2.1 i hi).1) (fun h0 => ?_) (fun g2 hpos hV2 e1 e2 hA2 hf => ?_)
  · first | refine B_ifeq1 (pc2 := 14) (tgt := 24) dX7_undo_11 (by with_reducible rfl) (by decide) rfl ?_ | refine B_ifeq0 (tgt := 24) dX7_undo_11 (by with_reducible rfl) (by decide) ?_ | refine N_ifeq (pc2 := 14) (tgt := 24) dX7_undo_11 (by with_reducible rfl) (by decide) (by omega) rfl (fun c11 => ?_) (fun c11 => ?_) | refine T_ifeq (pc2 := 14) (tgt := 24) dX7_undo_11 (by decide) rfl (fun c11 => ?_) (fun c11 => ?_)
    refine T_ldc (pc2 := 26) dX7_undo_24 kcX7_145 rfl ?_
    refine T_iret dX7_undo_26 rfl rfl ?_
    exact fin_same k hI (if_pos h0)
  · first | refine B_ifeq1 (pc2 := 14) (tgt := 24) dX7_undo_11 (by with_reducible rfl) (by decide) rfl ?_ | refine B_ifeq0 (tgt := 24) dX7_undo_11 (by with_reducible rfl) (by decide) ?_ | refine N_ifeq (pc2 := 14) (tgt := 24) dX7_undo_11 (by with_reducible rfl) (by decide) (by omega) rfl (fun c11 => ?_) (fun c11 => ?_) | refine T_ifeq (pc2 := 14) (tgt := 24) dX7_undo_11 (by decide) rfl (fun c11 => ?_) (fun c11 => ?_)
    refine T_aload_n (pc2 := 15) dX7_undo_14 rfl rfl ?_
    refine G_getR (pc2 := 18) dX7_undo_15 flX7_36 (sh4 S) rfl rfl ?_
    refine G_getI (pc2 := 21) dX7_undo_18 flX7_144 (sh32 S) rfl (by first | with_reducible assumption | exact gs_eq _ _ _ _ | exact (gs_ne _ _ (by omega)).trans (by with_reducible assumption) | exact (gs_ne _ _ (by omega)).trans (gs_eq _ _ _ _) | exact (gs_ne _ _ (by omega)).trans ((gs_ne _ _ (by omega)).trans (by with_reducible assumption)) | exact (gs_ne _ _ (by omega)).trans ((gs_ne _ _ (by omega)).trans (gs_eq _ _ _ _)) | exact (gs_ne _ _ (by omega)).trans ((gs_ne _ _ (by omega)).trans ((gs_ne _ _ (by omega)).trans (by with_reducible assumption))) | rfl) rfl ?_
    refine T_goto (tgt := 26) dX7_undo_21 (by decide) ?_
    refine T_iret dX7_undo_26 rfl rfl ?_
    have hJ2 : JJ sk g2 n bf im above below ((nx + 23) % 24) ((s.setV (s.ac 0)).setac (fun i => s.ac (i + 1)) (s.an - 1)) := by
      obtain ⟨h1, h2, h3, h4, h5, h6, h7, h8, h9, h10, h11, h12⟩ := hI
      refine ⟨h1, h2, h3.cg (fun i _ _ => hf i (by omega) (by omega)), h4.cg (fun i _ _ => hf i (by omega) (by omega)), h5.cg (fun i _ _ => hf i (by omega) (by omega)), hV2, ⟨e1, Nat.mod_lt _ (by decide), e2⟩, hA2, h9.cg (fun i _ _ => hf i (by omega) (by omega)), h10.cg h2 (fun kk b hb i q1 q2 => ?_), by rw [hf 4 (by omega) (by omega)]; exact h11, by rw [hf 4 (by omega) (by omega)]; exact h12⟩
      obtain ⟨T, -, -, hI, -⟩ := h2
      obtain ⟨t, -, hb2, -⟩ := hI kk b hb
      exact hf i (by omega) (by omega)
    exact fin_new k hJ2 ⟨rfl, fun i hi => hf i (by omega) (by omega)⟩ (if_neg (by omega))
end JTape

