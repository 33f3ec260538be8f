/-! the model: its state kept, its acts -/
section MInv
variable {g g2 : Nat → Nat → Int32} {s : ST} {sk : Nat → SK} {n : Nat} {Q : Option Value → SH → Prop} {sp : Int32 × ST}
theorem InvM.cel {U : Cel} (h : InvM g s) (hU : hasM (g2 52) U) (hf : Fo 52 g g2) : InvM g2 (s.setV U) := by
  unfold InvM hasRm at h ⊢
  rw [hf 48 (by decide), hf 49 (by decide), hf 50 (by decide), hf 51 (by decide), hf 55 (by decide), hf 56 (by decide), hf 59 (by decide), hf 60 (by decide), hf 61 (by decide)]
  exact ⟨h.1, h.2.1, hU, h.2.2.2⟩
theorem InvM.fd {f : Nat} (h : InvM g s) : InvM (gset g 48 1 (nI f)) (s.setfd f) := by
  have hf : ∀ i, i ≠ 48 → gset g 48 1 (nI f) i = g i := fun i hi => gs_row hi
  unfold InvM hasRm at h ⊢
  rw [hf 49 (by decide), hf 50 (by decide), hf 51 (by decide), hf 52 (by decide), hf 55 (by decide), hf 56 (by decide), hf 59 (by decide), hf 60 (by decide), hf 61 (by decide), gs_eq, gs_ne (i2 := 48) (k2 := 11) _ _ (by omega), gs_ne (i2 := 48) (k2 := 9) _ _ (by omega), gs_ne (i2 := 48) (k2 := 27) _ _ (by omega), gs_ne (i2 := 48) (k2 := 18) _ _ (by omega)]
  exact ⟨h.1, h.2.1, h.2.2.1, h.2.2.2.1, h.2.2.2.2.1, h.2.2.2.2.2.1, h.2.2.2.2.2.2.1, h.2.2.2.2.2.2.2.1, rfl⟩
theorem Fo.fr {w : Nat} (h : Fo w g g2) (h1 : 48 ≤ w) (h2 : w < 62) : Fr 48 62 g g2 := fun i hi => h i (by omega)
theorem fm_new {s3 : ST} {v : Int32} (k : ∀ g2, InvM g2 sp.2 → Fr 48 62 g g2 → Q (some (.int sp.1)) (HP sk g2 n)) (hI : InvM g2 s3) (hf : Fr 48 62 g g2) (e : sp = (v, s3)) : Q (some (.int v)) (HP sk g2 n) := by
  have := k g2 (by rw [e]; exact hI) hf
  rw [e] at this
  exact this
theorem fm_same {v : Int32} (k : ∀ g2, InvM g2 sp.2 → Fr 48 62 g g2 → Q (some (.int sp.1)) (HP sk g2 n)) (hI : InvM g s) (hm : Ms g g2) (e : sp = (v, s)) : Q (some (.int v)) (HP sk g2 n) := fm_new k (hI.ms hm) hm.fr e
theorem fm_fd {v : Int32} {f : Nat} (k : ∀ g2, InvM g2 sp.2 → Fr 48 62 g g2 → Q (some (.int sp.1)) (HP sk g2 n)) (hI : InvM g s) (e : sp = (v, s.setfd f)) : Q (some (.int v)) (HP sk (gset g 48 1 (nI f)) n) := fm_new k hI.fd (Fr.rf.st (by omega) (by omega)) e
theorem fm_start (k : ∀ g2, InvM g2 sp.2 → Fr 48 62 g g2 → Q (some (.int sp.1)) (HP sk g2 n)) : ∀ g2, InvM g2 sp.2 → Fr 48 62 (gset g 48 0 (nI 0)) g2 → Q (some (.int sp.1)) (HP sk g2 n) := fun g2 h f => k g2 h ((Fr.rf.st (by omega) (by omega)).tr f)
end MInv
section MKeep
variable {sk : Nat → SK} {g : Nat → Nat → Int32} {n w : Nat} {V : Cel} {Q : Option Value → SH → Prop} {d kc ks : Nat} {bf im : Nat → Option Nat} {above below : Int64} {h : SH} {s : ST}
theorem mk_sh (S : Sh sk n bf im above below) (k : ∀ g2, (∀ q, q < 989 → g2 55 q = g 55 (q + 43)) → Fo 55 g g2 → T MX8_keep d kc ks 39 [(0, .ref 48)] [] (HP sk g2 n) Q) :
    ∀ m t g2, t + m = 989 → (∀ q, q < t → g2 55 q = g 55 (q + 43)) → (∀ q, t ≤ q → g2 55 q = g 55 q) → Fo 55 g g2 → T MX8_keep d kc ks 11 [(0, .ref 48), (1, .int (nI t))] [] (HP sk g2 n) Q := by
  intro m
  induction m with
  | zero =>
    intro t g2 ht h1 h2 hf
    refine T_iload_n (pc2 := 12) dX8_keep_11 rfl rfl ?_
    refine T_sipush (pc2 := 15) dX8_keep_12 sp989 rfl ?_
    first | refine N_icmpge (pc2 := 18) (tgt := 39) dX8_keep_15 (by decide) (by with_reducible rfl) (by with_reducible rfl) (by omega) (by omega) rfl (fun c15 => ?_) (fun c15 => ?_) | refine T_icmpge (pc2 := 18) (tgt := 39) dX8_keep_15 (by decide) rfl (fun c15 => ?_) (fun c15 => ?_)
    · refine T_sub (lks (i := 0) rfl lk0) ?_
      exact k g2 (fun q hq => h1 q (by omega)) hf
    · exact absurd (by omega) c15
  | succ m ih =>
    intro t g2 ht h1 h2 hf
    have e := h2 (t + 43) (by omega)
    refine T_iload_n (pc2 := 12) dX8_keep_11 rfl rfl ?_
    refine T_sipush (pc2 := 15) dX8_keep_12 sp989 rfl ?_
    first | refine N_icmpge (pc2 := 18) (tgt := 39) dX8_keep_15 (by decide) (by with_reducible rfl) (by with_reducible rfl) (by omega) (by omega) rfl (fun c15 => ?_) (fun c15 => ?_) | refine T_icmpge (pc2 := 18) (tgt := 39) dX8_keep_15 (by decide) rfl (fun c15 => ?_) (fun c15 => ?_)
    · exact absurd c15 (by omega)
    · refine T_aload_n (pc2 := 19) dX8_keep_18 rfl rfl ?_
      refine G_getR (pc2 := 22) dX8_keep_19 flX8_28 (sh48 S) rfl rfl ?_
      refine T_iload_n (pc2 := 23) dX8_keep_22 rfl rfl ?_
      refine T_aload_n (pc2 := 24) dX8_keep_23 rfl rfl ?_
      refine G_getR (pc2 := 27) dX8_keep_24 flX8_28 (sh48 S) rfl rfl ?_
      refine T_iload_n (pc2 := 28) dX8_keep_27 rfl rfl ?_
      refine T_bipush (pc2 := 30) dX8_keep_28 bp43 rfl ?_
      first | refine N_iadd (pc2 := 31) dX8_keep_30 (by with_reducible rfl) (by with_reducible rfl) rfl ?_ | refine T_iadd (pc2 := 31) dX8_keep_30 rfl ?_
      refine G_iald (pc2 := 32) dX8_keep_31 (sh55 S) (by omega) (by first | decide | omega) (by first | with_reducible assumption | exact gs_eq _ _ _ _ | exact (gs_ne _ _ (by omega)).trans (by with_reducible assumption) | exact (gs_ne _ _ (by omega)).trans (gs_eq _ _ _ _) | exact (gs_ne _ _ (by omega)).trans ((gs_ne _ _ (by omega)).trans (by with_reducible assumption)) | exact (gs_ne _ _ (by omega)).trans ((gs_ne _ _ (by omega)).trans (gs_eq _ _ _ _)) | exact (gs_ne _ _ (by omega)).trans ((gs_ne _ _ (by omega)).trans ((gs_ne _ _ (by omega)).trans (by with_reducible assumption))) | rfl) rfl ?_
      refine G_iast (pc2 := 33) dX8_keep_32 (sh55 S) (by omega) (by decide) rfl ?_
      first | refine N_iinc (pc2 := 36) dX8_keep_33 rfl (by with_reducible rfl) ic1 (by decide) rfl ?_ | refine T_iinc (pc2 := 36) dX8_keep_33 rfl rfl (by decide) rfl ?_
      refine T_goto (tgt := 11) dX8_keep_36 (by decide) ?_
      refine T_sub (lks (i := 0) rfl (lks (i := 1) rfl lk0)) ?_
      refine ih (t + 1) _ (by omega) (fun q hq => ?_) (fun q hq => ?_) hf.st
      · by_cases e2 : q = t
        · subst e2
          rw [gs_eq]
        · rw [gs_ne _ _ (by omega)]
          exact h1 q (by omega)
      · rw [gs_ne _ _ (by omega)]
        exact h2 q (by omega)
theorem mk_tl {a : Nat} (S : Sh sk n bf im above below) (ha : a < 24) (ea : g 48 9 = nI a)
    (k : ∀ g2, (∀ q, q < 43 → g2 55 (43 * a + q) = g 52 q) → (∀ q, q < 43 * a → g2 55 q = g 55 q) → Fo 55 g g2 → Q none (HP sk (gset g2 48 9 (nI (a + 1))) n)) :
    ∀ m t g2, t + m = 43 → (∀ q, q < t → g2 55 (43 * a + q) = g 52 q) → (∀ q, q < 43 * a → g2 55 q = g 55 q) → Fo 55 g g2 → T MX8_keep d kc ks 51 [(0, .ref 48), (1, .int (nI t))] [] (HP sk g2 n) Q := by
  intro m
  induction m with
  | zero =>
    intro t g2 ht h1 h2 hf
    have ea2 : g2 48 9 = nI a := by rw [hf 48 (by omega)]; exact ea
    refine T_iload_n (pc2 := 52) dX8_keep_51 rfl rfl ?_
    refine T_bipush (pc2 := 54) dX8_keep_52 bp43 rfl ?_
    first | refine N_icmpge (pc2 := 57) (tgt := 83) dX8_keep_54 (by decide) (by with_reducible rfl) (by with_reducible rfl) (by omega) (by omega) rfl (fun c54 => ?_) (fun c54 => ?_) | refine T_icmpge (pc2 := 57) (tgt := 83) dX8_keep_54 (by decide) rfl (fun c54 => ?_) (fun c54 => ?_)
    · refine T_aload_n (pc2 := 84) dX8_keep_83 rfl rfl ?_
      refine T_dup (pc2 := 85) dX8_keep_84 rfl rfl ?_
      refine G_getI (pc2 := 88) dX8_keep_85 flX8_149 (sh48 S) rfl (by first | with_reducible assumption | exact gs_eq _ _ _ _ | exact (gs_ne _ _ (by omega)).trans (by with_reducible assumption) | exact (gs_ne _ _ (by omega)).trans (gs_eq _ _ _ _) | exact (gs_ne _ _ (by omega)).trans ((gs_ne _ _ (by omega)).trans (by with_reducible assumption)) | exact (gs_ne _ _ (by omega)).trans ((gs_ne _ _ (by omega)).trans (gs_eq _ _ _ _)) | exact (gs_ne _ _ (by omega)).trans ((gs_ne _ _ (by omega)).trans ((gs_ne _ _ (by omega)).trans (by with_reducible assumption))) | rfl) rfl ?_
      refine T_iconst (pc2 := 89) dX8_keep_88 ic1 rfl ?_
      first | refine N_iadd (pc2 := 90) dX8_keep_89 (by with_reducible rfl) (by with_reducible rfl) rfl ?_ | refine T_iadd (pc2 := 90) dX8_keep_89 rfl ?_
      refine G_putI (pc2 := 93) dX8_keep_90 flX8_149 (sh48 S) rfl rfl rfl rfl ?_
      refine T_ret dX8_keep_93 rfl ?_
      exact k g2 (fun q hq => h1 q (by omega)) h2 hf
    · exact absurd (by omega) c54
  | succ m ih =>
    intro t g2 ht h1 h2 hf
    have ea2 : g2 48 9 = nI a := by rw [hf 48 (by omega)]; exact ea
    have e52 : g2 52 t = g 52 t := by rw [hf 52 (by omega)]
    refine T_iload_n (pc2 := 52) dX8_keep_51 rfl rfl ?_
    refine T_bipush (pc2 := 54) dX8_keep_52 bp43 rfl ?_
    first | refine N_icmpge (pc2 := 57) (tgt := 83) dX8_keep_54 (by decide) (by with_reducible rfl) (by with_reducible rfl) (by omega) (by omega) rfl (fun c54 => ?_) (fun c54 => ?_) | refine T_icmpge (pc2 := 57) (tgt := 83) dX8_keep_54 (by decide) rfl (fun c54 => ?_) (fun c54 => ?_)
    · exact absurd c54 (by omega)
    · refine T_aload_n (pc2 := 58) dX8_keep_57 rfl rfl ?_
      refine G_getR (pc2 := 61) dX8_keep_58 flX8_28 (sh48 S) rfl rfl ?_
      refine T_bipush (pc2 := 63) dX8_keep_61 bp43 rfl ?_
      refine T_aload_n (pc2 := 64) dX8_keep_63 rfl rfl ?_
      refine G_getI (pc2 := 67) dX8_keep_64 flX8_149 (sh48 S) rfl (by first | with_reducible assumption | exact gs_eq _ _ _ _ | exact (gs_ne _ _ (by omega)).trans (by with_reducible assumption) | exact (gs_ne _ _ (by omega)).trans (gs_eq _ _ _ _) | exact (gs_ne _ _ (by omega)).trans ((gs_ne _ _ (by omega)).trans (by with_reducible assumption)) | exact (gs_ne _ _ (by omega)).trans ((gs_ne _ _ (by omega)).trans (gs_eq _ _ _ _)) | exact (gs_ne _ _ (by omega)).trans ((gs_ne _ _ (by omega)).trans ((gs_ne _ _ (by omega)).trans (by with_reducible assumption))) | rfl) rfl ?_
      first | refine N_imul (pc2 := 68) dX8_keep_67 (by with_reducible rfl) (by with_reducible rfl) rfl ?_ | refine T_imul (pc2 := 68) dX8_keep_67 rfl ?_
      refine T_iload_n (pc2 := 69) dX8_keep_68 rfl rfl ?_
      first | refine N_iadd (pc2 := 70) dX8_keep_69 (by with_reducible rfl) (by with_reducible rfl) rfl ?_ | refine T_iadd (pc2 := 70) dX8_keep_69 rfl ?_
      refine T_aload_n (pc2 := 71) dX8_keep_70 rfl rfl ?_
      refine G_getR (pc2 := 74) dX8_keep_71 flX8_19 (sh48 S) rfl rfl ?_
      refine T_iload_n (pc2 := 75) dX8_keep_74 rfl rfl ?_
      refine G_iald (pc2 := 76) dX8_keep_75 (sh52 S) (by omega) (by first | decide | omega) (by first | with_reducible assumption | exact gs_eq _ _ _ _ | exact (gs_ne _ _ (by omega)).trans (by with_reducible assumption) | exact (gs_ne _ _ (by omega)).trans (gs_eq _ _ _ _) | exact (gs_ne _ _ (by omega)).trans ((gs_ne _ _ (by omega)).trans (by with_reducible assumption)) | exact (gs_ne _ _ (by omega)).trans ((gs_ne _ _ (by omega)).trans (gs_eq _ _ _ _)) | exact (gs_ne _ _ (by omega)).trans ((gs_ne _ _ (by omega)).trans ((gs_ne _ _ (by omega)).trans (by with_reducible assumption))) | rfl) rfl ?_
      refine G_iast (pc2 := 77) dX8_keep_76 (sh55 S) (by omega) (by decide) rfl ?_
      first | refine N_iinc (pc2 := 80) dX8_keep_77 rfl (by with_reducible rfl) ic1 (by decide) rfl ?_ | refine T_iinc (pc2 := 80) dX8_keep_77 rfl rfl (by decide) rfl ?_
      refine T_goto (tgt := 51) dX8_keep_80 (by decide) ?_
      refine T_sub (lks (i := 0) rfl (lks (i := 1) rfl lk0)) ?_
      refine ih (t + 1) _ (by omega) (fun q hq => ?_) (fun q hq => ?_) hf.st
      · by_cases e2 : q = t
        · subst e2
          rw [gs_eq]
        · rw [gs_ne _ _ (by omega)]
          exact h1 q (by omega)
      · rw [gs_ne _ _ (by omega)]
        exact h2 q (by omega)
theorem m_keep (S : Sh sk n bf im above below) (hI : InvM g s) (hok : Ok s) (k : ∀ g2, InvM g2 s.keep → (∀ i, i ≠ 48 → i ≠ 55 → g2 i = g i) → Q none (HP sk g2 n)) : Calls MX8_keep d 0 0 [.ref 48] (HP sk g n) Q := by
  have h24 := hok.2.2.2.1
  have hJ8 := hok.2.2.1.1.1
  have hA := hI.2.2.2.2.1
  have ea := hI.2.2.2.1
  -- the state after all
  have fin : ∀ a g1 g2, a < 24 → a + 1 = min (s.an + 1) 24 → (∀ i, i < a → hasM (fun q => g1 55 (43 * (a - 1 - i) + q)) (s.ac i)) → (∀ i, i ≠ 48 → i ≠ 55 → g1 i = g i) → (∀ q, q ≠ 9 → g1 48 q = g 48 q) → (∀ q, q < 43 → g2 55 (43 * a + q) = g1 52 q) → (∀ q, q < 43 * a → g2 55 q = g1 55 q) → Fo 55 g1 g2 → Q none (HP sk (gset g2 48 9 (nI (a + 1))) n) := by
    intro a g1 g2 ha han hA1 hf1 hq1 hc hlow hf2
    have hrow : ∀ i, i ≠ 48 → i ≠ 55 → gset g2 48 9 (nI (a + 1)) i = g i := fun i h1 h2 => by rw [gs_row h1, hf2 i h2, hf1 i h1 h2]
    have h55 : gset g2 48 9 (nI (a + 1)) 55 = g2 55 := gs_row (by decide)
    have h48 : ∀ q, q ≠ 9 → gset g2 48 9 (nI (a + 1)) 48 q = g 48 q := fun q hq => by rw [gs_ne _ _ (by omega), hf2 48 (by omega), hq1 q hq]
    refine k _ ?_ hrow
    unfold InvM hasRm at hI ⊢
    rw [hrow 49 (by decide) (by decide), hrow 50 (by decide) (by decide), hrow 51 (by decide) (by decide), hrow 52 (by decide) (by decide), hrow 56 (by decide) (by decide), hrow 59 (by decide) (by decide), hrow 60 (by decide) (by decide), hrow 61 (by decide) (by decide), h48 1 (by decide), h48 11 (by decide), h48 18 (by decide), h48 27 (by decide)]
    refine ⟨hI.1, hI.2.1, hI.2.2.1, ?_, fun i hi => ?_, hI.2.2.2.2.2.1, hI.2.2.2.2.2.2⟩
    · rw [gs_eq]
      show nI (a + 1) = nI (min (s.an + 1) 24)
      rw [han]
    · have hi : i < min (s.an + 1) 24 := hi
      show hasM (fun q => gset g2 48 9 (nI (a + 1)) 55 (43 * (min (s.an + 1) 24 - 1 - i) + q)) (pushC s.V s.ac i)
      rw [h55, ← han]
      cases i with
      | zero =>
        refine hasM.copy hI.2.2.1 (fun q hq => ?_) hJ8
        show g2 55 (43 * (a + 1 - 1 - 0) + q) = g 52 q
        rw [show a + 1 - 1 - 0 = a by omega, hc q hq, hf1 52 (by decide) (by decide)]
      | succ i =>
        have hi2 : i < a := by omega
        have hok2 := hok.2.2.2.2.1 i (by omega)
        refine hasM.copy (hA1 i hi2) (fun q hq => ?_) hok2.1.1
        show g2 55 (43 * (a + 1 - 1 - (i + 1)) + q) = g1 55 (43 * (a - 1 - i) + q)
        rw [show a + 1 - 1 - (i + 1) = a - 1 - i by omega]
        exact hlow _ (by omega)
  refine Calls.of (by decide +kernel) (Nat.le_of_ble_eq_true rfl) ?_
  refine T_aload_n (pc2 := 1) dX8_keep_0 rfl rfl ?_
  refine G_getI (pc2 := 4) dX8_keep_1 flX8_149 (sh48 S) rfl (by first | with_reducible assumption | exact gs_eq _ _ _ _ | exact (gs_ne _ _ (by omega)).trans (by with_reducible assumption) | exact (gs_ne _ _ (by omega)).trans (gs_eq _ _ _ _) | exact (gs_ne _ _ (by omega)).trans ((gs_ne _ _ (by omega)).trans (by with_reducible assumption)) | exact (gs_ne _ _ (by omega)).trans ((gs_ne _ _ (by omega)).trans (gs_eq _ _ _ _)) | exact (gs_ne _ _ (by omega)).trans ((gs_ne _ _ (by omega)).trans ((gs_ne _ _ (by omega)).trans (by with_reducible assumption))) | rfl) rfl ?_
  refine T_bipush (pc2 := 6) dX8_keep_4 bp24 rfl ?_
  first | refine N_icmpne (pc2 := 9) (tgt := 49) dX8_keep_6 (by decide) (by with_reducible rfl) (by with_reducible rfl) (by omega) (by omega) rfl (fun c6 => ?_) (fun c6 => ?_) | refine T_icmpne (pc2 := 9) (tgt := 49) dX8_keep_6 (by decide) rfl (fun c6 => ?_) (fun c6 => ?_)
  · refine T_iconst (pc2 := 50) dX8_keep_49 ic0 rfl ?_
    refine T_istore_n (pc2 := 51) dX8_keep_50 (by decide) rfl ?_
    refine T_sub (lks (i := 0) rfl (lks (i := 1) rfl lk0)) ?_
    exact mk_tl (g := g) S (by omega) ea (fun g2 h1 h2 h3 => fin s.an g g2 (by omega) (by omega) (fun i hi => hA i hi) (fun _ _ _ => rfl) (fun _ _ => rfl) h1 h2 h3) 43 0 g rfl (fun q hq => absurd hq (Nat.not_lt_zero q)) (fun _ _ => rfl) Fo.rf
  · refine T_iconst (pc2 := 10) dX8_keep_9 ic0 rfl ?_
    refine T_istore_n (pc2 := 11) dX8_keep_10 (by decide) rfl ?_
    refine T_sub (lks (i := 0) rfl (lks (i := 1) rfl lk0)) ?_
    refine mk_sh (g := g) S (fun g1 h1 hf1 => ?_) 989 0 g rfl (fun q hq => absurd hq (Nat.not_lt_zero q)) (fun _ _ => rfl) Fo.rf
    have ea1 : g1 48 9 = nI 24 := by rw [hf1 48 (by omega), ea, c6]
    refine T_aload_n (pc2 := 40) dX8_keep_39 rfl rfl ?_
    refine T_dup (pc2 := 41) dX8_keep_40 rfl rfl ?_
    refine G_getI (pc2 := 44) dX8_keep_41 flX8_149 (sh48 S) rfl (by first | with_reducible assumption | exact gs_eq _ _ _ _ | exact (gs_ne _ _ (by omega)).trans (by with_reducible assumption) | exact (gs_ne _ _ (by omega)).trans (gs_eq _ _ _ _) | exact (gs_ne _ _ (by omega)).trans ((gs_ne _ _ (by omega)).trans (by with_reducible assumption)) | exact (gs_ne _ _ (by omega)).trans ((gs_ne _ _ (by omega)).trans (gs_eq _ _ _ _)) | exact (gs_ne _ _ (by omega)).trans ((gs_ne _ _ (by omega)).trans ((gs_ne _ _ (by omega)).trans (by with_reducible assumption))) | rfl) rfl ?_
    refine T_iconst (pc2 := 45) dX8_keep_44 ic1 rfl ?_
    first | refine N_isub (pc2 := 46) dX8_keep_45 (by with_reducible rfl) (by with_reducible rfl) (by omega) rfl ?_ | refine T_isub (pc2 := 46) dX8_keep_45 rfl ?_
    refine G_putI (pc2 := 49) dX8_keep_46 flX8_149 (sh48 S) rfl rfl rfl rfl ?_
    refine T_iconst (pc2 := 50) dX8_keep_49 ic0 rfl ?_
    refine T_istore_n (pc2 := 51) dX8_keep_50 (by decide) rfl ?_
    refine T_sub (lks (i := 0) rfl (lks (i := 1) rfl lk0)) ?_
    refine mk_tl (a := 23) (g := gset g1 48 9 (nI (24 - 1))) S (by omega) (gs_eq _ _ _ _) (fun g2 q1 q2 q3 => fin 23 (gset g1 48 9 (nI (24 - 1))) g2 (by omega) (by omega) (fun i hi => ?_) (fun i a b => by rw [gs_row a, hf1 i b]) (fun q hq => by rw [gs_ne _ _ (by omega), hf1 48 (by omega)]) q1 q2 q3) 43 0 _ rfl (fun q hq => absurd hq (Nat.not_lt_zero q)) (fun _ _ => rfl) Fo.rf
    have hok2 := hok.2.2.2.2.1 i (by omega)
    refine hasM.copy (hA i (by omega)) (fun q hq => ?_) hok2.1.1
    show gset g1 48 9 (nI (24 - 1)) 55 (43 * (23 - 1 - i) + q) = g 55 (43 * (s.an - 1 - i) + q)
    rw [gs_row (by decide), h1 _ (by omega), c6]
    congr 1
    omega
theorem Fr.keep {g2 : Nat → Nat → Int32} (h : ∀ i, i ≠ 48 → i ≠ 55 → g2 i = g i) : Fr 48 62 g g2 := fun i hi => h i (by omega) (by omega)
theorem m_years_loop {mm : Nat} (S : Sh sk n bf im above below) (hok : Ok s) (hY : s.V.Y + mm ≤ 999) (hmm : mm ≤ 24) (k : ∀ g2, InvM g2 (itr yrf s mm) → Fr 48 62 g g2 → Q (some (.int (nI (bm ((itr yrf s mm).V.th 0) 8)))) (HP sk g2 n)) :
    ∀ m t g2, t + m = mm → InvM g2 (itr yrf s t) → Fr 48 62 g g2 → T MX8_years (d + 2) kc ks 49 [(0, .ref 48), (1, .int (nI mm)), (2, .int (nI t))] [] (HP sk g2 n) Q := by
  intro m
  induction m with
  | zero =>
    intro t g2 ht hI hf
    have o := (years_ok hok t (by omega)).1
    refine T_iload_n (pc2 := 50) dX8_years_49 rfl rfl ?_
    refine T_iload_n (pc2 := 51) dX8_years_50 rfl rfl ?_
    first | refine N_icmpge (pc2 := 54) (tgt := 71) dX8_years_51 (by decide) (by with_reducible rfl) (by with_reducible rfl) (by omega) (by omega) rfl (fun c51 => ?_) (fun c51 => ?_) | refine T_icmpge (pc2 := 54) (tgt := 71) dX8_years_51 (by decide) rfl (fun c51 => ?_) (fun c51 => ?_)
    · refine T_aload_n (pc2 := 72) dX8_years_71 rfl rfl ?_
      refine G_getR (pc2 := 75) dX8_years_72 flX8_19 (sh48 S) rfl rfl ?_
      refine T_iconst (pc2 := 76) dX8_years_75 ic0 rfl ?_
      refine C_S2 (pc2 := 79) (mc := 0) (ms := 0) dX8_years_76 csX8_those mlX8_175 (Nat.le_of_ble_eq_true rfl) rfl ?_
      have e : t = mm := by omega
      subst e
      refine m_those (sh52 S) hI.2.2.1 o.2.2.1.1.1 (by decide) (hw31 o.2.2.1.1) ?_
      refine T_iret dX8_years_79 rfl rfl ?_
      exact k _ hI hf
    · omega
  | succ m ih =>
    intro t g2 ht hI hf
    have o := (years_ok hok t (by omega)).1
    refine T_iload_n (pc2 := 50) dX8_years_49 rfl rfl ?_
    refine T_iload_n (pc2 := 51) dX8_years_50 rfl rfl ?_
    first | refine N_icmpge (pc2 := 54) (tgt := 71) dX8_years_51 (by decide) (by with_reducible rfl) (by with_reducible rfl) (by omega) (by omega) rfl (fun c51 => ?_) (fun c51 => ?_) | refine T_icmpge (pc2 := 54) (tgt := 71) dX8_years_51 (by decide) rfl (fun c51 => ?_) (fun c51 => ?_)
    · omega
    · refine T_aload_n (pc2 := 55) dX8_years_54 rfl rfl ?_
      refine C_V0 (pc2 := 58) (mc := 0) (ms := 0) dX8_years_55 cvX8_keep mlX8_202 (isO.h (sh48 S) _) (Nat.le_of_ble_eq_true rfl) rfl ?_
      refine m_keep S hI o (fun g3 hI3 hf3 => ?_)
      refine T_aload_n (pc2 := 59) dX8_years_58 rfl rfl ?_
      refine G_getR (pc2 := 62) dX8_years_59 flX8_19 (sh48 S) rfl rfl ?_
      refine C_S1 (pc2 := 65) (mc := 0) (ms := 0) dX8_years_62 csX8_yearOf mlX8_205 (Nat.le_of_ble_eq_true rfl) rfl ?_
      refine m_year (sh52 S) hI3.2.2.1 o.2.2.1.1 (fun g4 hV4 hf4 => ?_)
      first | refine N_iinc (pc2 := 68) dX8_years_65 rfl (by with_reducible rfl) ic1 (by decide) rfl ?_ | refine T_iinc (pc2 := 68) dX8_years_65 rfl rfl (by decide) rfl ?_
      refine T_goto (tgt := 49) dX8_years_68 (by decide) ?_
      refine T_sub (lks (i := 0) rfl (lks (i := 1) rfl (lks (i := 2) rfl lk0))) ?_
      exact ih (t + 1) g4 (by omega) (hI3.cel hV4 hf4) ((hf.tr (Fr.keep hf3)).tr (hf4.fr (by decide) (by decide)))
theorem mm_years {m : Int32} (S : Sh sk n bf im above below) (hI : InvM g s) (hok : Ok s) (k : ∀ g2, InvM g2 (sYears s m).2 → Fr 48 62 g g2 → Q (some (.int (sYears s m).1)) (HP sk g2 n)) : Calls MX8_years (d + 2) 0 0 [.ref 48, .int m] (HP sk g n) Q := by
  have hokV := hok.2.2.1.1
  have hJ8 := hokV.1
  have hY9 := hok.2.2.1.2
  refine Calls.of (by decide +kernel) (Nat.le_of_ble_eq_true rfl) ?_
  refine T_aload_n (pc2 := 1) dX8_years_0 rfl rfl ?_
  refine T_iconst (pc2 := 2) dX8_years_1 ic0 rfl ?_
  refine G_putI (pc2 := 5) dX8_years_2 flX8_50 (sh48 S) rfl rfl rfl rfl ?_
  have hI := hI.ms (Ms.rf.st (i := 48) (k := 0) (v := nI 0) (by omega))
  have k := fm_start k
  generalize gset g 48 0 (nI 0) = g1 at hI k ⊢
  have hV := hI.2.2.1
  have eY := hV.2.1
  refine T_aload_n (pc2 := 6) dX8_years_5 rfl rfl ?_
  refine C_V0 (pc2 := 9) (mc := 0) (ms := 0) dX8_years_6 cvX8_isThere mlX8_196 (isO.h (sh48 S) _) (Nat.le_of_ble_eq_true rfl) rfl ?_
  refine m_isThere S hV.1 hJ8 (fun h0 => ?_) (fun h0 => ?_)
  · first | refine B_ifne1 (tgt := 15) dX8_years_9 (by with_reducible rfl) (by decide) ?_ | refine B_ifne0 (pc2 := 12) (tgt := 15) dX8_years_9 (by with_reducible rfl) (by decide) rfl ?_ | refine N_ifne (pc2 := 12) (tgt := 15) dX8_years_9 (by with_reducible rfl) (by decide) (by omega) rfl (fun c9 => ?_) (fun c9 => ?_) | refine T_ifne (pc2 := 12) (tgt := 15) dX8_years_9 (by decide) rfl (fun c9 => ?_) (fun c9 => ?_)
    refine T_iload_n (pc2 := 16) dX8_years_15 rfl rfl ?_
    refine T_i2l (pc2 := 17) dX8_years_16 rfl ?_
    refine T_lconst (pc2 := 18) (v := lN 1) dX8_years_17 rfl rfl ?_
    refine T_ldc2 (pc2 := 21) dX8_years_18 kcX8_200 rfl ?_
    refine C_S3 (pc2 := 24) (mc := 0) (ms := 0) dX8_years_21 csX8_in mlX8_60 (Nat.le_of_ble_eq_true rfl) rfl ?_
    refine m_in1 (k := 24) rfl rfl (by decide) (by decide) (fun z hz ez => ?_) (fun hno => ?_)
    · subst ez
      have hs : sYears s (nI (z + 1)) = if 999 < s.V.Y + (z + 1) then (FULL, s) else (nI (bm ((itr yrf s (z + 1)).V.th 0) 8), itr yrf s (z + 1)) := by
        unfold sYears
        rw [if_neg (by omega), inN_some (show z + 1 < 25 by omega) (by decide)]
        rfl
      first | refine B_ifne1 (tgt := 30) dX8_years_24 (by with_reducible rfl) (by decide) ?_ | refine B_ifne0 (pc2 := 27) (tgt := 30) dX8_years_24 (by with_reducible rfl) (by decide) rfl ?_ | refine N_ifne (pc2 := 27) (tgt := 30) dX8_years_24 (by with_reducible rfl) (by decide) (by omega) rfl (fun c24 => ?_) (fun c24 => ?_) | refine T_ifne (pc2 := 27) (tgt := 30) dX8_years_24 (by decide) rfl (fun c24 => ?_) (fun c24 => ?_)
      refine T_aload_n (pc2 := 31) dX8_years_30 rfl rfl ?_
      refine G_getR (pc2 := 34) dX8_years_31 flX8_19 (sh48 S) rfl rfl ?_
      refine T_iconst (pc2 := 35) dX8_years_34 ic1 rfl ?_
      refine G_iald (pc2 := 36) dX8_years_35 (sh52 S) (by omega) (by first | decide | omega) (by first | with_reducible assumption | exact gs_eq _ _ _ _ | exact (gs_ne _ _ (by omega)).trans (by with_reducible assumption) | exact (gs_ne _ _ (by omega)).trans (gs_eq _ _ _ _) | exact (gs_ne _ _ (by omega)).trans ((gs_ne _ _ (by omega)).trans (by with_reducible assumption)) | exact (gs_ne _ _ (by omega)).trans ((gs_ne _ _ (by omega)).trans (gs_eq _ _ _ _)) | exact (gs_ne _ _ (by omega)).trans ((gs_ne _ _ (by omega)).trans ((gs_ne _ _ (by omega)).trans (by with_reducible assumption))) | rfl) rfl ?_
      refine T_iload_n (pc2 := 37) dX8_years_36 rfl rfl ?_
      first | refine N_iadd (pc2 := 38) dX8_years_37 (by with_reducible rfl) (by with_reducible rfl) rfl ?_ | refine T_iadd (pc2 := 38) dX8_years_37 rfl ?_
      refine T_sipush (pc2 := 41) dX8_years_38 sp999 rfl ?_
      first | refine N_icmple (pc2 := 44) (tgt := 47) dX8_years_41 (by decide) (by with_reducible rfl) (by with_reducible rfl) (by omega) (by omega) rfl (fun c41 => ?_) (fun c41 => ?_) | refine T_icmple (pc2 := 44) (tgt := 47) dX8_years_41 (by decide) rfl (fun c41 => ?_) (fun c41 => ?_)
      · refine T_iconst (pc2 := 48) dX8_years_47 ic0 rfl ?_
        refine T_istore_n (pc2 := 49) dX8_years_48 (by decide) rfl ?_
        rw [hs, if_neg (by omega)] at k
        refine T_sub (lks (i := 0) rfl (lks (i := 1) rfl (lks (i := 2) rfl lk0))) ?_
        exact m_years_loop S hok (by omega) (by omega) k (z + 1) 0 g1 (by omega) hI Fr.rf
      · refine T_ldc (pc2 := 46) dX8_years_44 kcX8_80 rfl ?_
        refine T_iret dX8_years_46 rfl rfl ?_
        exact fm_same k hI Ms.rf (by rw [hs, if_pos (by omega)])
    · first | refine B_ifne1 (tgt := 30) dX8_years_24 (by with_reducible rfl) (by decide) ?_ | refine B_ifne0 (pc2 := 27) (tgt := 30) dX8_years_24 (by with_reducible rfl) (by decide) rfl ?_ | refine N_ifne (pc2 := 27) (tgt := 30) dX8_years_24 (by with_reducible rfl) (by decide) (by omega) rfl (fun c24 => ?_) (fun c24 => ?_) | refine T_ifne (pc2 := 27) (tgt := 30) dX8_years_24 (by decide) rfl (fun c24 => ?_) (fun c24 => ?_)
      refine T_ldc (pc2 := 29) dX8_years_27 kcX8_70 rfl ?_
      refine T_iret dX8_years_29 rfl rfl ?_
      refine fm_same k hI Ms.rf ?_
      unfold sYears
      rw [if_neg (by omega)]
      cases q : inN m 25 with
      | none => rfl
      | some w =>
        cases w with
        | zero => rfl
        | succ w =>
          have := inN_of q
          exact absurd this.2 (hno w (by omega))
  · first | refine B_ifne1 (tgt := 15) dX8_years_9 (by with_reducible rfl) (by decide) ?_ | refine B_ifne0 (pc2 := 12) (tgt := 15) dX8_years_9 (by with_reducible rfl) (by decide) rfl ?_ | refine N_ifne (pc2 := 12) (tgt := 15) dX8_years_9 (by with_reducible rfl) (by decide) (by omega) rfl (fun c9 => ?_) (fun c9 => ?_) | refine T_ifne (pc2 := 12) (tgt := 15) dX8_years_9 (by decide) rfl (fun c9 => ?_) (fun c9 => ?_)
    refine T_ldc (pc2 := 14) dX8_years_12 kcX8_199 rfl ?_
    refine T_iret dX8_years_14 rfl rfl ?_
    exact fm_same k hI Ms.rf (if_pos h0)
theorem smash_not {V : Cel} {b : Nat → Bool} (hb : ∀ j, b j = true → V.th 0 j = true) : bm (fun j => V.th 0 j && !(V.smash b).th 0 j) 8 = bm b 8 := bm_cg (fun j _ => by
  cases hbj : b j with
  | true =>
    rw [hb j hbj]
    have : (V.smash b).th 0 j = false := by simp [Cel.th, Cel.smash, Cel.J, Cel.Y, Cel.R, Cel.kd, Cel.nt, Cel.kp, Cel.pl, Cel.hw, hbj]
    rw [this]
    rfl
  | false =>
    have : (V.smash b).th 0 j = V.th 0 j := by simp [Cel.th, Cel.smash, Cel.J, Cel.Y, Cel.R, Cel.kd, Cel.nt, Cel.kp, Cel.pl, Cel.hw, hbj]
    rw [this]
    cases V.th 0 j <;> rfl)
theorem mm_sneeze {nt p : Int32} (S : Sh sk n bf im above below) (hI : InvM g s) (hok : Ok s) (k : ∀ g2, InvM g2 (sSneeze s nt p).2 → Fr 48 62 g g2 → Q (some (.int (sSneeze s nt p).1)) (HP sk g2 n)) : Calls MX8_sneeze (d + 4) 0 0 [.ref 48, .int nt, .int p] (HP sk g n) Q := by
  have hokV := hok.2.2.1.1
  have hJ8 := hokV.1
  refine Calls.of (by decide +kernel) (Nat.le_of_ble_eq_true rfl) ?_
  refine T_aload_n (pc2 := 1) dX8_sneeze_0 rfl rfl ?_
  refine T_iconst (pc2 := 2) dX8_sneeze_1 ic0 rfl ?_
  refine G_putI (pc2 := 5) dX8_sneeze_2 flX8_50 (sh48 S) rfl rfl rfl rfl ?_
  have hI := hI.ms (Ms.rf.st (i := 48) (k := 0) (v := nI 0) (by omega))
  have k := fm_start k
  generalize gset g 48 0 (nI 0) = g1 at hI k ⊢
  have hV := hI.2.2.1
  refine T_iload_n (pc2 := 6) dX8_sneeze_5 rfl rfl ?_
  refine T_i2l (pc2 := 7) dX8_sneeze_6 rfl ?_
  refine C_S1 (pc2 := 10) (mc := 0) (ms := 0) dX8_sneeze_7 csX8_isNote mlX8_209 (Nat.le_of_ble_eq_true rfl) rfl ?_
  refine m_isNote rfl (fun a ha ea => ?_) (fun hno => ?_)
  · subst ea
    first | refine B_ifeq1 (pc2 := 13) (tgt := 21) dX8_sneeze_10 (by with_reducible rfl) (by decide) rfl ?_ | refine B_ifeq0 (tgt := 21) dX8_sneeze_10 (by with_reducible rfl) (by decide) ?_ | refine N_ifeq (pc2 := 13) (tgt := 21) dX8_sneeze_10 (by with_reducible rfl) (by decide) (by omega) rfl (fun c10 => ?_) (fun c10 => ?_) | refine T_ifeq (pc2 := 13) (tgt := 21) dX8_sneeze_10 (by decide) rfl (fun c10 => ?_) (fun c10 => ?_)
    refine T_aload_n (pc2 := 14) dX8_sneeze_13 rfl rfl ?_
    refine T_iload_n (pc2 := 15) dX8_sneeze_14 rfl rfl ?_
    refine C_V1 (pc2 := 18) (mc := 0) (ms := 0) dX8_sneeze_15 cvX8_isJar mlX8_213 (isO.h (sh48 S) _) (Nat.le_of_ble_eq_true rfl) rfl ?_
    refine m_isJar S hV.1 hJ8 (fun j hj ej => ?_) (fun hno => ?_)
    · subst ej
      have hs : sSneeze s (nI a) (nI j) = (nI (bm (s.V.brk a j (s.V.th 0)) 8), s.keep.setV (s.V.smash (s.V.brk a j (s.V.th 0)))) := by
        unfold sSneeze
        rw [inN_some ha (by decide), inN_some hj (by omega)]
      first | refine B_ifne1 (tgt := 24) dX8_sneeze_18 (by with_reducible rfl) (by decide) ?_ | refine B_ifne0 (pc2 := 21) (tgt := 24) dX8_sneeze_18 (by with_reducible rfl) (by decide) rfl ?_ | refine N_ifne (pc2 := 21) (tgt := 24) dX8_sneeze_18 (by with_reducible rfl) (by decide) (by omega) rfl (fun c18 => ?_) (fun c18 => ?_) | refine T_ifne (pc2 := 21) (tgt := 24) dX8_sneeze_18 (by decide) rfl (fun c18 => ?_) (fun c18 => ?_)
      refine T_aload_n (pc2 := 25) dX8_sneeze_24 rfl rfl ?_
      refine C_V0 (pc2 := 28) (mc := 0) (ms := 0) dX8_sneeze_25 cvX8_keep mlX8_202 (isO.h (sh48 S) _) (Nat.le_of_ble_eq_true rfl) rfl ?_
      refine m_keep S hI hok (fun g3 hI3 hf3 => ?_)
      refine T_aload_n (pc2 := 29) dX8_sneeze_28 rfl rfl ?_
      refine G_getR (pc2 := 32) dX8_sneeze_29 flX8_19 (sh48 S) rfl rfl ?_
      refine T_iconst (pc2 := 33) dX8_sneeze_32 ic0 rfl ?_
      refine C_S2 (pc2 := 36) (mc := 0) (ms := 0) dX8_sneeze_33 csX8_those mlX8_175 (Nat.le_of_ble_eq_true rfl) rfl ?_
      refine m_those (sh52 S) hI3.2.2.1 hJ8 (by decide) (hw31 hokV) ?_
      refine T_istore_n (pc2 := 37) dX8_sneeze_36 (by decide) rfl ?_
      refine T_aload_n (pc2 := 38) dX8_sneeze_37 rfl rfl ?_
      refine T_aload_n (pc2 := 39) dX8_sneeze_38 rfl rfl ?_
      refine G_getR (pc2 := 42) dX8_sneeze_39 flX8_19 (sh48 S) rfl rfl ?_
      refine T_iload_n (pc2 := 43) dX8_sneeze_42 rfl rfl ?_
      refine T_iload_n (pc2 := 44) dX8_sneeze_43 rfl rfl ?_
      refine C_V3 (pc2 := 47) (mc := 0) (ms := 0) dX8_sneeze_44 cvX8_sneezes mlX8_216 (isO.h (sh48 S) _) (Nat.le_of_ble_eq_true rfl) rfl ?_
      refine m_sneezes S (sh52 S) (by decide) hI3.2.2.1 hokV.d ha hj (fun g4 hV4 g5 hf4 hf5 => ?_)
      refine T_iload_n (pc2 := 48) dX8_sneeze_47 rfl rfl ?_
      refine T_aload_n (pc2 := 49) dX8_sneeze_48 rfl rfl ?_
      refine G_getR (pc2 := 52) dX8_sneeze_49 flX8_19 (sh48 S) rfl rfl ?_
      refine T_iconst (pc2 := 53) dX8_sneeze_52 ic0 rfl ?_
      refine C_S2 (pc2 := 56) (mc := 0) (ms := 0) dX8_sneeze_53 csX8_those mlX8_175 (Nat.le_of_ble_eq_true rfl) rfl ?_
      refine m_those (sh52 S) hV4 hJ8 (by decide) (hw31 (hokV.smash _)) ?_
      refine T_iconst (pc2 := 57) dX8_sneeze_56 icm1 rfl ?_
      refine T_ixor (pc2 := 58) dX8_sneeze_57 rfl ?_
      refine T_iand (pc2 := 59) dX8_sneeze_58 rfl ?_
      rw [bm_not, smash_not (fun j hj => by
        have hj : (s.V.th 0 j && !(s.V.chn a _ (s.V.th 0)).1 j) = true := hj
        cases q : s.V.th 0 j with
        | true => exact q
        | false => rw [q] at hj; cases hj)]
      refine T_iret dX8_sneeze_59 rfl rfl ?_
      exact fm_new k ((hI3.ms hf5.ms).cel hV4 hf4) (((Fr.keep hf3).tr hf5.ms.fr).tr (hf4.fr (by decide) (by decide))) hs
    · first | refine B_ifne1 (tgt := 24) dX8_sneeze_18 (by with_reducible rfl) (by decide) ?_ | refine B_ifne0 (pc2 := 21) (tgt := 24) dX8_sneeze_18 (by with_reducible rfl) (by decide) rfl ?_ | refine N_ifne (pc2 := 21) (tgt := 24) dX8_sneeze_18 (by with_reducible rfl) (by decide) (by omega) rfl (fun c18 => ?_) (fun c18 => ?_) | refine T_ifne (pc2 := 21) (tgt := 24) dX8_sneeze_18 (by decide) rfl (fun c18 => ?_) (fun c18 => ?_)
      refine T_ldc (pc2 := 23) dX8_sneeze_21 kcX8_70 rfl ?_
      refine T_iret dX8_sneeze_23 rfl rfl ?_
      refine fm_same k hI Ms.rf ?_
      unfold sSneeze
      rw [inN_none hno]
      cases inN (nI a) 12 <;> rfl
  · first | refine B_ifeq1 (pc2 := 13) (tgt := 21) dX8_sneeze_10 (by with_reducible rfl) (by decide) rfl ?_ | refine B_ifeq0 (tgt := 21) dX8_sneeze_10 (by with_reducible rfl) (by decide) ?_ | refine N_ifeq (pc2 := 13) (tgt := 21) dX8_sneeze_10 (by with_reducible rfl) (by decide) (by omega) rfl (fun c10 => ?_) (fun c10 => ?_) | refine T_ifeq (pc2 := 13) (tgt := 21) dX8_sneeze_10 (by decide) rfl (fun c10 => ?_) (fun c10 => ?_)
    refine T_ldc (pc2 := 23) dX8_sneeze_21 kcX8_70 rfl ?_
    refine T_iret dX8_sneeze_23 rfl rfl ?_
    refine fm_same k hI Ms.rf ?_
    unfold sSneeze
    rw [inN_none hno]
end MKeep

