/-! the model: rows, the tape's feed, kinds, counts -/
theorem nI_nn {x : Int32} (h : ¬ x < 0) : ∃ a, a < 2 ^ 31 ∧ x = nI a := by
  have h1 : 0 ≤ x.toInt := by
    rw [Int32.lt_iff_toInt_lt] at h
    have : (0 : Int32).toInt = 0 := by decide
    omega
  have h2 := Int32.toInt_lt x
  refine ⟨x.toInt.toNat, by omega, Int32.toInt_inj.mp ?_⟩
  rw [nI_toInt (by omega)]
  omega
theorem nI_nneg {a : Nat} (h : a < 2 ^ 31) : ¬ nI a < 0 := nI_pos h
section MRows
variable {sk : Nat → SK} {g : Nat → Nat → Int32} {n w : Nat} {V : Cel} {Q : Option Value → SH → Prop} {d kc ks : Nat} {bf im : Nat → Option Nat} {above below : Int64} {h : SH} {s : ST}
theorem InvM.rows {g2 : Nat → Nat → Int32} {A : RS} (h : InvM g s) (hA : hasRm g2 A) (hf : ∀ i, i ≠ 49 → i ≠ 50 → i ≠ 51 → g2 i = g i) : InvM g2 (s.setA A) := by
  unfold InvM at h ⊢
  rw [hf 48 (by decide) (by decide) (by decide), hf 52 (by decide) (by decide) (by decide), hf 55 (by decide) (by decide) (by decide), hf 56 (by decide) (by decide) (by decide), hf 59 (by decide) (by decide) (by decide), hf 60 (by decide) (by decide) (by decide), hf 61 (by decide) (by decide) (by decide)]
  exact ⟨hA, h.2⟩
theorem row_loop {r m : Nat} {l v : Int32} (S : Sh sk n bf im above below) (hr : r < 8) (k : ∀ g2, (∀ i, i < 40 → g2 51 (40 * r + i) = 0) → (∀ i, (i < 40 * r ∨ 40 * r + 40 ≤ i) → g2 51 i = g 51 i) → Fo 51 g g2 → Q (some (.int v)) (HP sk g2 n)) :
    ∀ m t g2, t + m = 40 → (∀ i, i < t → g2 51 (40 * r + i) = 0) → (∀ i, (i < 40 * r ∨ 40 * r + 40 ≤ i) → g2 51 i = g 51 i) → Fo 51 g g2 → T MX8_row (d + 2) kc ks 65 [(0, .ref 48), (1, .int (nI r)), (3, .int v), (4, .int (nI t))] [] (HP sk g2 n) Q := by
  intro m
  induction m with
  | zero =>
    intro t g2 ht hc ho hf
    refine T_iload (pc2 := 67) dX8_row_65 rfl rfl ?_
    refine T_bipush (pc2 := 69) dX8_row_67 bp40 rfl ?_
    first | refine N_icmpge (pc2 := 72) (tgt := 91) dX8_row_69 (by decide) (by with_reducible rfl) (by with_reducible rfl) (by omega) (by omega) rfl (fun c69 => ?_) (fun c69 => ?_) | refine T_icmpge (pc2 := 72) (tgt := 91) dX8_row_69 (by decide) rfl (fun c69 => ?_) (fun c69 => ?_)
    · refine T_iload_n (pc2 := 92) dX8_row_91 rfl rfl ?_
      refine T_iret dX8_row_92 rfl rfl ?_
      exact k g2 (fun i hi => hc i (by omega)) ho hf
    · exact absurd (by omega) c69
  | succ m ih =>
    intro t g2 ht hc ho hf
    refine T_iload (pc2 := 67) dX8_row_65 rfl rfl ?_
    refine T_bipush (pc2 := 69) dX8_row_67 bp40 rfl ?_
    first | refine N_icmpge (pc2 := 72) (tgt := 91) dX8_row_69 (by decide) (by with_reducible rfl) (by with_reducible rfl) (by omega) (by omega) rfl (fun c69 => ?_) (fun c69 => ?_) | refine T_icmpge (pc2 := 72) (tgt := 91) dX8_row_69 (by decide) rfl (fun c69 => ?_) (fun c69 => ?_)
    · exact absurd c69 (by omega)
    · refine T_aload_n (pc2 := 73) dX8_row_72 rfl rfl ?_
      refine G_getR (pc2 := 76) dX8_row_73 flX8_16 (sh48 S) rfl rfl ?_
      refine T_bipush (pc2 := 78) dX8_row_76 bp40 rfl ?_
      refine T_iload_n (pc2 := 79) dX8_row_78 rfl rfl ?_
      first | refine N_imul (pc2 := 80) dX8_row_79 (by with_reducible rfl) (by with_reducible rfl) rfl ?_ | refine T_imul (pc2 := 80) dX8_row_79 rfl ?_
      refine T_iload (pc2 := 82) dX8_row_80 rfl rfl ?_
      first | refine N_iadd (pc2 := 83) dX8_row_82 (by with_reducible rfl) (by with_reducible rfl) rfl ?_ | refine T_iadd (pc2 := 83) dX8_row_82 rfl ?_
      refine T_iconst (pc2 := 84) dX8_row_83 ic0 rfl ?_
      refine G_iast (pc2 := 85) dX8_row_84 (sh51 S) (by omega) (by decide) rfl ?_
      first | refine N_iinc (pc2 := 88) dX8_row_85 rfl (by with_reducible rfl) ic1 (by decide) rfl ?_ | refine T_iinc (pc2 := 88) dX8_row_85 rfl rfl (by decide) rfl ?_
      refine T_goto (tgt := 65) dX8_row_88 (by decide) ?_
      refine T_sub (lks (i := 0) rfl (lks (i := 1) rfl (lks (i := 3) rfl (lks (i := 4) rfl lk0)))) ?_
      refine ih (t + 1) _ (by omega) (fun i hi => ?_) (fun i hi => ?_) hf.st
      · by_cases e : i = t
        · subst e
          rw [gs_eq]
          rfl
        · rw [gs_ne _ _ (by omega)]
          exact hc i (by omega)
      · rw [gs_ne _ _ (by omega)]
        exact ho i hi
theorem mm_row {r l m : Int32} (S : Sh sk n bf im above below) (hI : InvM g s) (hok : Ok s) (k : ∀ g2, InvM g2 (sRow s r l m).2 → Fr 48 62 g g2 → Q (some (.int (sRow s r l m).1)) (HP sk g2 n)) : Calls MX8_row (d + 2) 0 0 [.ref 48, .int r, .int l, .int m] (HP sk g n) Q := by
  have hokV := hok.2.2.1.1
  have hJ8 := hokV.1
  refine Calls.of (by decide +kernel) (Nat.le_of_ble_eq_true rfl) ?_
  refine T_aload_n (pc2 := 1) dX8_row_0 rfl rfl ?_
  refine T_iconst (pc2 := 2) dX8_row_1 ic0 rfl ?_
  refine G_putI (pc2 := 5) dX8_row_2 flX8_50 (sh48 S) rfl rfl rfl rfl ?_
  have hI := hI.ms (Ms.rf.st (i := 48) (k := 0) (v := nI 0) (by omega))
  have k := fm_start k
  generalize gset g 48 0 (nI 0) = g1 at hI k ⊢
  have hV := hI.2.2.1
  have hA := hI.1
  refine T_iload_n (pc2 := 6) dX8_row_5 rfl rfl ?_
  refine C_S1 (pc2 := 9) (mc := 0) (ms := 0) dX8_row_6 csX8_isRow mlX8_64 (Nat.le_of_ble_eq_true rfl) rfl ?_
  refine m_isRow (fun a ha ea => ?_) (fun hno => ?_)
  · subst ea
    first | refine B_ifeq1 (pc2 := 12) (tgt := 30) dX8_row_9 (by with_reducible rfl) (by decide) rfl ?_ | refine B_ifeq0 (tgt := 30) dX8_row_9 (by with_reducible rfl) (by decide) ?_ | refine N_ifeq (pc2 := 12) (tgt := 30) dX8_row_9 (by with_reducible rfl) (by decide) (by omega) rfl (fun c9 => ?_) (fun c9 => ?_) | refine T_ifeq (pc2 := 12) (tgt := 30) dX8_row_9 (by decide) rfl (fun c9 => ?_) (fun c9 => ?_)
    refine T_iload_n (pc2 := 13) dX8_row_12 rfl rfl ?_
    refine T_i2l (pc2 := 14) dX8_row_13 rfl ?_
    refine T_lconst (pc2 := 15) (v := lN 0) dX8_row_14 rfl rfl ?_
    refine T_ldc2 (pc2 := 18) dX8_row_15 kcX8_68 rfl ?_
    refine C_S3 (pc2 := 21) (mc := 0) (ms := 0) dX8_row_18 csX8_in mlX8_60 (Nat.le_of_ble_eq_true rfl) rfl ?_
    refine m_inI (k := 2) rfl rfl (by decide) (by decide) (fun b hb eb => ?_) (fun hno => ?_)
    · subst eb
      have hs : sRow s (nI a) (nI b) m = if nI 40 < m then (BAD, s) else if m < 0 then (fnd 4, s.setfd 4) else (m, (s.setA (s.A.lay a b m.toNatClampNeg)).setfd 0) := by
        unfold sRow
        rw [inN_some ha (by decide), inN_some (show b < 3 by omega) (by decide)]
      first | refine B_ifeq1 (pc2 := 24) (tgt := 30) dX8_row_21 (by with_reducible rfl) (by decide) rfl ?_ | refine B_ifeq0 (tgt := 30) dX8_row_21 (by with_reducible rfl) (by decide) ?_ | refine N_ifeq (pc2 := 24) (tgt := 30) dX8_row_21 (by with_reducible rfl) (by decide) (by omega) rfl (fun c21 => ?_) (fun c21 => ?_) | refine T_ifeq (pc2 := 24) (tgt := 30) dX8_row_21 (by decide) rfl (fun c21 => ?_) (fun c21 => ?_)
      refine T_iload_n (pc2 := 25) dX8_row_24 rfl rfl ?_
      refine T_bipush (pc2 := 27) dX8_row_25 bp40 rfl ?_
      refine T_icmple (pc2 := 30) (tgt := 33) dX8_row_27 (by decide) rfl (fun c27 => ?_) (fun c27 => ?_)
      · refine T_aload_n (pc2 := 34) dX8_row_33 rfl rfl ?_
        refine T_iconst (pc2 := 35) dX8_row_34 ic0 rfl ?_
        refine G_putI (pc2 := 38) dX8_row_35 flX8_54 (sh48 S) rfl rfl rfl rfl ?_
        refine T_iload_n (pc2 := 39) dX8_row_38 rfl rfl ?_
        refine T_ifge (pc2 := 42) (tgt := 48) dX8_row_39 (by decide) rfl (fun c39 => ?_) (fun c39 => ?_)
        · obtain ⟨mm, hm, e⟩ := nI_of2 (x := m) (M := nI 40) (n := 40) (nI_toInt (by decide)) (Int32.not_lt.mpr c39) c27
          subst e
          refine T_aload_n (pc2 := 49) dX8_row_48 rfl rfl ?_
          refine G_getR (pc2 := 52) dX8_row_49 flX8_7 (sh48 S) rfl rfl ?_
          refine T_iload_n (pc2 := 53) dX8_row_52 rfl rfl ?_
          refine T_iload_n (pc2 := 54) dX8_row_53 rfl rfl ?_
          refine G_iast (pc2 := 55) dX8_row_54 (sh49 S) (by omega) (by decide) rfl ?_
          refine T_aload_n (pc2 := 56) dX8_row_55 rfl rfl ?_
          refine G_getR (pc2 := 59) dX8_row_56 flX8_13 (sh48 S) rfl rfl ?_
          refine T_iload_n (pc2 := 60) dX8_row_59 rfl rfl ?_
          refine T_iload_n (pc2 := 61) dX8_row_60 rfl rfl ?_
          refine G_iast (pc2 := 62) dX8_row_61 (sh50 S) (by omega) (by decide) rfl ?_
          refine T_iconst (pc2 := 63) dX8_row_62 ic0 rfl ?_
          refine T_istore (pc2 := 65) dX8_row_63 (by decide) rfl ?_
          refine T_sub (lks (i := 0) rfl (lks (i := 1) rfl (lks (i := 3) rfl (lks (i := 4) rfl lk0)))) ?_
          refine row_loop (m := 0) (l := 0) S ha (fun g2 hc ho hf => ?_) 40 0 _ rfl (fun i hi => absurd hi (Nat.not_lt_zero i)) (fun _ _ => rfl) Fo.rf
          have hI2 := hI.fd (f := 0)
          have hF : Fr 48 62 g1 g2 := fun i hi => by rw [hf i (by omega), gs_row (by omega), gs_row (by omega), gs_row (by omega)]
          generalize gset g1 48 1 (nI 0) = g3 at hf ho hI2
          refine fm_new k (s3 := (s.setfd 0).setA (s.A.lay a b mm)) (hI2.rows ?_ (fun i h1 h2 h3 => by rw [hf i h3, gs_row h2, gs_row h1])) ?_ ?_
          · intro r hr
            have old := hI2.1 r hr
            rw [hf 49 (by decide), hf 50 (by decide), gs_row (i := 50) (j := 49) (by decide)]
            by_cases e : r = a
            · subst e
              refine ⟨fun z => ?_, fun _ => ⟨?_, ?_, fun i hi => ?_⟩⟩
              · simp [RS.lay, va_up] at z
              · rw [gs_eq]; simp [RS.lay, va_up]
              · rw [gs_eq]; simp [RS.lay, va_up]
              · rw [hc i hi]; simp [RS.lay, va_up]
            · rw [gs_ne _ _ (by omega), gs_ne (i2 := 50) _ _ (by omega), gs_row (i := 49) (j := 50) (by decide)]
              have e1 : (s.A.lay a b mm).1 r = s.A.1 r := by simp [RS.lay, va_up, e]
              have e2 : (s.A.lay a b mm).2.1 r = s.A.2.1 r := by simp [RS.lay, va_up, e]
              have e3 : (s.A.lay a b mm).2.2.1 r = s.A.2.2.1 r := by simp [RS.lay, va_up, e]
              have e4 : (s.A.lay a b mm).2.2.2 r = s.A.2.2.2 r := by simp [RS.lay, va_up, e]
              rw [e1, e2, e3, e4]
              refine ⟨old.1, fun z => ⟨(old.2 z).1, (old.2 z).2.1, fun i hi => ?_⟩⟩
              have e5 : g2 51 (40 * r + i) = g3 51 (40 * r + i) := by
                rw [ho _ (by omega), gs_row (by decide), gs_row (by decide)]
              rw [e5]
              exact (old.2 z).2.2 i hi
          · exact hF
          · rw [hs, if_neg (Int32.not_lt.mpr c27), if_neg (Int32.not_lt.mpr c39), nI_clamp (by omega)]
            rfl
        · refine T_aload_n (pc2 := 43) dX8_row_42 rfl rfl ?_
          refine T_iconst (pc2 := 44) dX8_row_43 ic4 rfl ?_
          refine C_V1 (pc2 := 47) (mc := 0) (ms := 0) dX8_row_44 cvX8_finding mlX8_71 (isO.h (sh48 S) _) (Nat.le_of_ble_eq_true rfl) rfl ?_
          refine m_finding S ?_
          refine T_iret dX8_row_47 rfl rfl ?_
          refine fm_new k (hI.fd (f := 0) |>.fd (f := 4)) ((Fr.rf.st (by omega) (by omega)).st (by omega) (by omega)) ?_
          rw [hs, if_neg (Int32.not_lt.mpr c27), if_pos (by rw [Int32.not_le] at c39; exact c39)]
          rfl
      · refine T_ldc (pc2 := 32) dX8_row_30 kcX8_70 rfl ?_
        refine T_iret dX8_row_32 rfl rfl ?_
        exact fm_same k hI Ms.rf (by rw [hs, if_pos (by rw [Int32.not_le] at c27; exact c27)])
    · first | refine B_ifeq1 (pc2 := 24) (tgt := 30) dX8_row_21 (by with_reducible rfl) (by decide) rfl ?_ | refine B_ifeq0 (tgt := 30) dX8_row_21 (by with_reducible rfl) (by decide) ?_ | refine N_ifeq (pc2 := 24) (tgt := 30) dX8_row_21 (by with_reducible rfl) (by decide) (by omega) rfl (fun c21 => ?_) (fun c21 => ?_) | refine T_ifeq (pc2 := 24) (tgt := 30) dX8_row_21 (by decide) rfl (fun c21 => ?_) (fun c21 => ?_)
      refine T_ldc (pc2 := 32) dX8_row_30 kcX8_70 rfl ?_
      refine T_iret dX8_row_32 rfl rfl ?_
      refine fm_same k hI Ms.rf ?_
      unfold sRow
      rw [inN_none (k := 3) (fun j hj => hno j (by omega))]
      cases inN (nI a) 8 <;> rfl
  · first | refine B_ifeq1 (pc2 := 12) (tgt := 30) dX8_row_9 (by with_reducible rfl) (by decide) rfl ?_ | refine B_ifeq0 (tgt := 30) dX8_row_9 (by with_reducible rfl) (by decide) ?_ | refine N_ifeq (pc2 := 12) (tgt := 30) dX8_row_9 (by with_reducible rfl) (by decide) (by omega) rfl (fun c9 => ?_) (fun c9 => ?_) | refine T_ifeq (pc2 := 12) (tgt := 30) dX8_row_9 (by decide) rfl (fun c9 => ?_) (fun c9 => ?_)
    refine T_ldc (pc2 := 32) dX8_row_30 kcX8_70 rfl ?_
    refine T_iret dX8_row_32 rfl rfl ?_
    refine fm_same k hI Ms.rf ?_
    unfold sRow
    rw [inN_none hno]
theorem lane_case {r : Nat} (hA : hasRm g s.A) (hr : r < 8) : (s.A.1 r = false ∧ g 49 r = -1) ∨ (s.A.1 r = true ∧ g 49 r = nI (s.A.2.1 r) ∧ g 50 r = nI (s.A.2.2.1 r) ∧ ∀ i, i < 40 → g 51 (40 * r + i) = s.A.2.2.2 r i) := by
  have h := hA r hr
  cases e : s.A.1 r with
  | false => exact Or.inl ⟨rfl, h.1 e⟩
  | true => exact Or.inr ⟨rfl, h.2 e⟩
theorem put_rm {A : RS} {r i : Nat} {v : Int32} (hA : hasRm g A) (hr : r < 8) (hi : i < 40) : hasRm (gset g 51 (40 * r + i) v) (A.put r i v) := by
  intro q hq
  have old := hA q hq
  rw [gs_row (i := 51) (j := 49) (by decide), gs_row (i := 51) (j := 50) (by decide)]
  refine ⟨old.1, fun z => ⟨(old.2 z).1, (old.2 z).2.1, fun t ht => ?_⟩⟩
  have o3 := (old.2 z).2.2 t ht
  by_cases e : q = r
  · subst e
    by_cases e2 : t = i
    · subst e2
      rw [gs_eq]
      simp [RS.put, va_up]
    · rw [gs_ne _ _ (by omega)]
      simpa [RS.put, va_up, e2] using o3
  · rw [gs_ne _ _ (by omega)]
    simpa [RS.put, va_up, e] using o3
theorem mm_set {r i v : Int32} (S : Sh sk n bf im above below) (hI : InvM g s) (hok : Ok s) (k : ∀ g2, InvM g2 (sSet s r i v).2 → Fr 48 62 g g2 → Q (some (.int (sSet s r i v).1)) (HP sk g2 n)) : Calls MX8_set (d + 2) 0 0 [.ref 48, .int r, .int i, .int v] (HP sk g n) Q := by
  have hokV := hok.2.2.1.1
  have hJ8 := hokV.1
  refine Calls.of (by decide +kernel) (Nat.le_of_ble_eq_true rfl) ?_
  refine T_aload_n (pc2 := 1) dX8_set_0 rfl rfl ?_
  refine T_iconst (pc2 := 2) dX8_set_1 ic0 rfl ?_
  refine G_putI (pc2 := 5) dX8_set_2 flX8_50 (sh48 S) rfl rfl rfl rfl ?_
  have hI := hI.ms (Ms.rf.st (i := 48) (k := 0) (v := nI 0) (by omega))
  have k := fm_start k
  generalize gset g 48 0 (nI 0) = g1 at hI k ⊢
  have hV := hI.2.2.1
  refine T_iload_n (pc2 := 6) dX8_set_5 rfl rfl ?_
  refine C_S1 (pc2 := 9) (mc := 0) (ms := 0) dX8_set_6 csX8_isRow mlX8_64 (Nat.le_of_ble_eq_true rfl) rfl ?_
  refine m_isRow (fun a ha ea => ?_) (fun hno => ?_)
  · subst ea
    have hs : sSet s (nI a) i v = if s.A.1 a = false then (fnd 1, s.setfd 1) else match hN i (nI 1) (s.A.2.2.1 a) with
        | none => (fnd 2, s.setfd 2)
        | some q => (laneV (s.A.2.1 a) v, (s.setA (s.A.put a q.1 (laneV (s.A.2.1 a) v))).setfd 0) := by
      unfold sSet
      rw [inN_some ha (by decide)]
      rfl
    first | refine B_ifne1 (tgt := 15) dX8_set_9 (by with_reducible rfl) (by decide) ?_ | refine B_ifne0 (pc2 := 12) (tgt := 15) dX8_set_9 (by with_reducible rfl) (by decide) rfl ?_ | refine N_ifne (pc2 := 12) (tgt := 15) dX8_set_9 (by with_reducible rfl) (by decide) (by omega) rfl (fun c9 => ?_) (fun c9 => ?_) | refine T_ifne (pc2 := 12) (tgt := 15) dX8_set_9 (by decide) rfl (fun c9 => ?_) (fun c9 => ?_)
    have hI2 := hI.fd (f := 0)
    have hF0 : Fr 48 62 g1 (gset g1 48 1 (nI 0)) := Fr.rf.st (by omega) (by omega)
    refine T_aload_n (pc2 := 16) dX8_set_15 rfl rfl ?_
    refine T_iconst (pc2 := 17) dX8_set_16 ic0 rfl ?_
    refine G_putI (pc2 := 20) dX8_set_17 flX8_54 (sh48 S) rfl rfl rfl rfl ?_
    generalize gset g1 48 1 (nI 0) = g2 at hI2 hF0 ⊢
    rcases lane_case hI2.1 ha with ⟨h0, e49⟩ | ⟨ht, e49, e50, e51⟩
    · have h0 : s.A.1 a = false := h0
      refine T_aload_n (pc2 := 21) dX8_set_20 rfl rfl ?_
      refine G_getR (pc2 := 24) dX8_set_21 flX8_7 (sh48 S) rfl rfl ?_
      refine T_iload_n (pc2 := 25) dX8_set_24 rfl rfl ?_
      refine G_iald (pc2 := 26) dX8_set_25 (sh49 S) (by omega) (by first | decide | omega) (by first | with_reducible assumption | exact gs_eq _ _ _ _ | exact (gs_ne _ _ (by omega)).trans (by with_reducible assumption) | exact (gs_ne _ _ (by omega)).trans (gs_eq _ _ _ _) | exact (gs_ne _ _ (by omega)).trans ((gs_ne _ _ (by omega)).trans (by with_reducible assumption)) | exact (gs_ne _ _ (by omega)).trans ((gs_ne _ _ (by omega)).trans (gs_eq _ _ _ _)) | exact (gs_ne _ _ (by omega)).trans ((gs_ne _ _ (by omega)).trans ((gs_ne _ _ (by omega)).trans (by with_reducible assumption))) | rfl) rfl ?_
      refine T_ifge (pc2 := 29) (tgt := 35) dX8_set_26 (by decide) rfl (fun c26 => ?_) (fun c26 => ?_)
      · exact absurd c26 (by decide)
      · refine T_aload_n (pc2 := 30) dX8_set_29 rfl rfl ?_
        refine T_iconst (pc2 := 31) dX8_set_30 ic1 rfl ?_
        refine C_V1 (pc2 := 34) (mc := 0) (ms := 0) dX8_set_31 cvX8_finding mlX8_71 (isO.h (sh48 S) _) (Nat.le_of_ble_eq_true rfl) rfl ?_
        refine m_finding S ?_
        refine T_iret dX8_set_34 rfl rfl ?_
        exact fm_new k hI2.fd (hF0.tr (Fr.rf.st (by omega) (by omega))) (by rw [hs, if_pos h0]; rfl)
    · have ht : s.A.1 a = true := ht
      have ol := hok.1 a ha ht
      have e49 : g2 49 a = nI (s.A.2.1 a) := e49
      have e50 : g2 50 a = nI (s.A.2.2.1 a) := e50
      have hbad : hN i (nI 1) (s.A.2.2.1 a) = none → T MX8_set (d + 1 + 1) 0 0 53 [(0, .ref 48)] [] (HP sk g2 n) Q := fun hn => by
        refine T_aload_n (pc2 := 54) dX8_set_53 rfl rfl ?_
        refine T_iconst (pc2 := 55) dX8_set_54 ic2 rfl ?_
        refine C_V1 (pc2 := 58) (mc := 0) (ms := 0) dX8_set_55 cvX8_finding mlX8_71 (isO.h (sh48 S) _) (Nat.le_of_ble_eq_true rfl) rfl ?_
        refine m_finding S ?_
        refine T_iret dX8_set_58 rfl rfl ?_
        exact fm_new k hI2.fd (hF0.tr (Fr.rf.st (by omega) (by omega))) (by rw [hs, if_neg (by rw [ht]; decide), hn]; rfl)
      have hgood : ∀ j, j < s.A.2.2.1 a → i = nI j → T MX8_set (d + 1 + 1) 0 0 59 [(0, .ref 48), (1, .int (nI a)), (2, .int i), (3, .int v)] [] (HP sk g2 n) Q := fun j hj ej => by
        subst ej
        have hsp : sSet s (nI a) (nI j) v = (laneV (s.A.2.1 a) v, (s.setA (s.A.put a j (laneV (s.A.2.1 a) v))).setfd 0) := by
          rw [hs, if_neg (by rw [ht]; decide), hN_some (by omega) (show j + 1 ≤ s.A.2.2.1 a by omega)]
        have fin : ∀ vv, vv = laneV (s.A.2.1 a) v → T MX8_set (d + 1 + 1) 0 0 99 [(0, .ref 48), (1, .int (nI a)), (2, .int (nI j))] [.int vv, .int (nI (40 * a + j)), .ref 51] (HP sk g2 n) Q := fun vv hvv => by
          have e2 : gset g2 51 (40 * a + j) vv 51 (40 * a + j) = vv := gs_eq _ _ _ _
          refine G_iast (pc2 := 100) dX8_set_99 (sh51 S) (by omega) (by decide) rfl ?_
          refine T_aload_n (pc2 := 101) dX8_set_100 rfl rfl ?_
          refine G_getR (pc2 := 104) dX8_set_101 flX8_16 (sh48 S) rfl rfl ?_
          refine T_bipush (pc2 := 106) dX8_set_104 bp40 rfl ?_
          refine T_iload_n (pc2 := 107) dX8_set_106 rfl rfl ?_
          first | refine N_imul (pc2 := 108) dX8_set_107 (by with_reducible rfl) (by with_reducible rfl) rfl ?_ | refine T_imul (pc2 := 108) dX8_set_107 rfl ?_
          refine T_iload_n (pc2 := 109) dX8_set_108 rfl rfl ?_
          first | refine N_iadd (pc2 := 110) dX8_set_109 (by with_reducible rfl) (by with_reducible rfl) rfl ?_ | refine T_iadd (pc2 := 110) dX8_set_109 rfl ?_
          refine G_iald (pc2 := 111) dX8_set_110 (sh51 S) (by omega) (by first | decide | omega) (by first | with_reducible assumption | exact gs_eq _ _ _ _ | exact (gs_ne _ _ (by omega)).trans (by with_reducible assumption) | exact (gs_ne _ _ (by omega)).trans (gs_eq _ _ _ _) | exact (gs_ne _ _ (by omega)).trans ((gs_ne _ _ (by omega)).trans (by with_reducible assumption)) | exact (gs_ne _ _ (by omega)).trans ((gs_ne _ _ (by omega)).trans (gs_eq _ _ _ _)) | exact (gs_ne _ _ (by omega)).trans ((gs_ne _ _ (by omega)).trans ((gs_ne _ _ (by omega)).trans (by with_reducible assumption))) | rfl) rfl ?_
          refine T_iret dX8_set_111 rfl rfl ?_
          rw [hvv]
          refine fm_new k (hI2.rows (put_rm hI2.1 ha (by omega)) (fun i _ _ h3 => gs_row h3)) (hF0.tr (Fr.rf.st (by omega) (by omega))) ?_
          rw [hsp]
          rfl
        refine T_aload_n (pc2 := 60) dX8_set_59 rfl rfl ?_
        refine G_getR (pc2 := 63) dX8_set_60 flX8_16 (sh48 S) rfl rfl ?_
        refine T_bipush (pc2 := 65) dX8_set_63 bp40 rfl ?_
        refine T_iload_n (pc2 := 66) dX8_set_65 rfl rfl ?_
        first | refine N_imul (pc2 := 67) dX8_set_66 (by with_reducible rfl) (by with_reducible rfl) rfl ?_ | refine T_imul (pc2 := 67) dX8_set_66 rfl ?_
        refine T_iload_n (pc2 := 68) dX8_set_67 rfl rfl ?_
        first | refine N_iadd (pc2 := 69) dX8_set_68 (by with_reducible rfl) (by with_reducible rfl) rfl ?_ | refine T_iadd (pc2 := 69) dX8_set_68 rfl ?_
        refine T_aload_n (pc2 := 70) dX8_set_69 rfl rfl ?_
        refine G_getR (pc2 := 73) dX8_set_70 flX8_7 (sh48 S) rfl rfl ?_
        refine T_iload_n (pc2 := 74) dX8_set_73 rfl rfl ?_
        refine G_iald (pc2 := 75) dX8_set_74 (sh49 S) (by omega) (by first | decide | omega) (by first | with_reducible assumption | exact gs_eq _ _ _ _ | exact (gs_ne _ _ (by omega)).trans (by with_reducible assumption) | exact (gs_ne _ _ (by omega)).trans (gs_eq _ _ _ _) | exact (gs_ne _ _ (by omega)).trans ((gs_ne _ _ (by omega)).trans (by with_reducible assumption)) | exact (gs_ne _ _ (by omega)).trans ((gs_ne _ _ (by omega)).trans (gs_eq _ _ _ _)) | exact (gs_ne _ _ (by omega)).trans ((gs_ne _ _ (by omega)).trans ((gs_ne _ _ (by omega)).trans (by with_reducible assumption))) | rfl) rfl ?_
        first | refine B_ifne1 (tgt := 83) dX8_set_75 (by with_reducible rfl) (by decide) ?_ | refine B_ifne0 (pc2 := 78) (tgt := 83) dX8_set_75 (by with_reducible rfl) (by decide) rfl ?_ | refine N_ifne (pc2 := 78) (tgt := 83) dX8_set_75 (by with_reducible rfl) (by decide) (by omega) rfl (fun c75 => ?_) (fun c75 => ?_) | refine T_ifne (pc2 := 78) (tgt := 83) dX8_set_75 (by decide) rfl (fun c75 => ?_) (fun c75 => ?_)
        · refine T_aload_n (pc2 := 84) dX8_set_83 rfl rfl ?_
          refine G_getR (pc2 := 87) dX8_set_84 flX8_7 (sh48 S) rfl rfl ?_
          refine T_iload_n (pc2 := 88) dX8_set_87 rfl rfl ?_
          refine G_iald (pc2 := 89) dX8_set_88 (sh49 S) (by omega) (by first | decide | omega) (by first | with_reducible assumption | exact gs_eq _ _ _ _ | exact (gs_ne _ _ (by omega)).trans (by with_reducible assumption) | exact (gs_ne _ _ (by omega)).trans (gs_eq _ _ _ _) | exact (gs_ne _ _ (by omega)).trans ((gs_ne _ _ (by omega)).trans (by with_reducible assumption)) | exact (gs_ne _ _ (by omega)).trans ((gs_ne _ _ (by omega)).trans (gs_eq _ _ _ _)) | exact (gs_ne _ _ (by omega)).trans ((gs_ne _ _ (by omega)).trans ((gs_ne _ _ (by omega)).trans (by with_reducible assumption))) | rfl) rfl ?_
          refine T_iconst (pc2 := 90) dX8_set_89 ic1 rfl ?_
          first | refine N_icmpne (pc2 := 93) (tgt := 98) dX8_set_90 (by decide) (by with_reducible rfl) (by with_reducible rfl) (by omega) (by omega) rfl (fun c90 => ?_) (fun c90 => ?_) | refine T_icmpne (pc2 := 93) (tgt := 98) dX8_set_90 (by decide) rfl (fun c90 => ?_) (fun c90 => ?_)
          · refine T_iload_n (pc2 := 99) dX8_set_98 rfl rfl ?_
            refine T_sub (lks (i := 0) rfl (lks (i := 1) rfl (lks (i := 2) rfl lk0))) ?_
            exact fin v (by unfold laneV; rw [if_neg c75, if_neg c90])
          · refine T_iload_n (pc2 := 94) dX8_set_93 rfl rfl ?_
            refine T_i2s (pc2 := 95) dX8_set_94 rfl ?_
            refine T_goto (tgt := 99) dX8_set_95 (by decide) ?_
            refine T_sub (lks (i := 0) rfl (lks (i := 1) rfl (lks (i := 2) rfl lk0))) ?_
            exact fin _ (by unfold laneV; rw [if_neg c75, if_pos c90])
        · refine T_iload_n (pc2 := 79) dX8_set_78 rfl rfl ?_
          refine T_i2b (pc2 := 80) dX8_set_79 rfl ?_
          refine T_goto (tgt := 99) dX8_set_80 (by decide) ?_
          refine T_sub (lks (i := 0) rfl (lks (i := 1) rfl (lks (i := 2) rfl lk0))) ?_
          exact fin _ (by unfold laneV; rw [if_pos c75])
      refine T_aload_n (pc2 := 21) dX8_set_20 rfl rfl ?_
      refine G_getR (pc2 := 24) dX8_set_21 flX8_7 (sh48 S) rfl rfl ?_
      refine T_iload_n (pc2 := 25) dX8_set_24 rfl rfl ?_
      refine G_iald (pc2 := 26) dX8_set_25 (sh49 S) (by omega) (by first | decide | omega) (by first | with_reducible assumption | exact gs_eq _ _ _ _ | exact (gs_ne _ _ (by omega)).trans (by with_reducible assumption) | exact (gs_ne _ _ (by omega)).trans (gs_eq _ _ _ _) | exact (gs_ne _ _ (by omega)).trans ((gs_ne _ _ (by omega)).trans (by with_reducible assumption)) | exact (gs_ne _ _ (by omega)).trans ((gs_ne _ _ (by omega)).trans (gs_eq _ _ _ _)) | exact (gs_ne _ _ (by omega)).trans ((gs_ne _ _ (by omega)).trans ((gs_ne _ _ (by omega)).trans (by with_reducible assumption))) | rfl) rfl ?_
      first | refine N_ifge (tgt := 35) dX8_set_26 (by with_reducible rfl) (by decide) (by omega) ?_ | refine T_ifge (pc2 := 29) (tgt := 35) dX8_set_26 (by decide) rfl (fun c26 => ?_) (fun c26 => ?_)
      by_cases hz : s.A.2.2.1 a = 0
      · rw [hz] at e50
        refine T_iload_n (pc2 := 36) dX8_set_35 rfl rfl ?_
        refine T_i2l (pc2 := 37) dX8_set_36 rfl ?_
        refine T_lconst (pc2 := 38) (v := lN 0) dX8_set_37 rfl rfl ?_
        refine T_aload_n (pc2 := 39) dX8_set_38 rfl rfl ?_
        refine G_getR (pc2 := 42) dX8_set_39 flX8_13 (sh48 S) rfl rfl ?_
        refine T_iload_n (pc2 := 43) dX8_set_42 rfl rfl ?_
        refine G_iald (pc2 := 44) dX8_set_43 (sh50 S) (by omega) (by first | decide | omega) (by first | with_reducible assumption | exact gs_eq _ _ _ _ | exact (gs_ne _ _ (by omega)).trans (by with_reducible assumption) | exact (gs_ne _ _ (by omega)).trans (gs_eq _ _ _ _) | exact (gs_ne _ _ (by omega)).trans ((gs_ne _ _ (by omega)).trans (by with_reducible assumption)) | exact (gs_ne _ _ (by omega)).trans ((gs_ne _ _ (by omega)).trans (gs_eq _ _ _ _)) | exact (gs_ne _ _ (by omega)).trans ((gs_ne _ _ (by omega)).trans ((gs_ne _ _ (by omega)).trans (by with_reducible assumption))) | rfl) rfl ?_
        refine T_iconst (pc2 := 45) dX8_set_44 ic1 rfl ?_
        refine T_isub (pc2 := 46) dX8_set_45 rfl ?_
        refine T_i2l (pc2 := 47) dX8_set_46 rfl ?_
        refine C_S3 (pc2 := 50) (mc := 0) (ms := 0) dX8_set_47 csX8_in mlX8_60 (Nat.le_of_ble_eq_true rfl) rfl ?_
        refine m_in (fun h1 h2 => ?_) (fun _ => ?_)
        · exact absurd (Int64.le_trans h1 h2) (by decide)
        · first | refine B_ifne1 (tgt := 59) dX8_set_50 (by with_reducible rfl) (by decide) ?_ | refine B_ifne0 (pc2 := 53) (tgt := 59) dX8_set_50 (by with_reducible rfl) (by decide) rfl ?_ | refine N_ifne (pc2 := 53) (tgt := 59) dX8_set_50 (by with_reducible rfl) (by decide) (by omega) rfl (fun c50 => ?_) (fun c50 => ?_) | refine T_ifne (pc2 := 53) (tgt := 59) dX8_set_50 (by decide) rfl (fun c50 => ?_) (fun c50 => ?_)
          refine T_sub (lks (i := 0) rfl lk0) ?_
          refine hbad (hN_none (fun x y ex ey hx hy hxy => ?_))
          have := nI_b (m := 1) (by decide) ey (by omega)
          omega
      · refine T_iload_n (pc2 := 36) dX8_set_35 rfl rfl ?_
        refine T_i2l (pc2 := 37) dX8_set_36 rfl ?_
        refine T_lconst (pc2 := 38) (v := lN 0) dX8_set_37 rfl rfl ?_
        refine T_aload_n (pc2 := 39) dX8_set_38 rfl rfl ?_
        refine G_getR (pc2 := 42) dX8_set_39 flX8_13 (sh48 S) rfl rfl ?_
        refine T_iload_n (pc2 := 43) dX8_set_42 rfl rfl ?_
        refine G_iald (pc2 := 44) dX8_set_43 (sh50 S) (by omega) (by first | decide | omega) (by first | with_reducible assumption | exact gs_eq _ _ _ _ | exact (gs_ne _ _ (by omega)).trans (by with_reducible assumption) | exact (gs_ne _ _ (by omega)).trans (gs_eq _ _ _ _) | exact (gs_ne _ _ (by omega)).trans ((gs_ne _ _ (by omega)).trans (by with_reducible assumption)) | exact (gs_ne _ _ (by omega)).trans ((gs_ne _ _ (by omega)).trans (gs_eq _ _ _ _)) | exact (gs_ne _ _ (by omega)).trans ((gs_ne _ _ (by omega)).trans ((gs_ne _ _ (by omega)).trans (by with_reducible assumption))) | rfl) rfl ?_
        refine T_iconst (pc2 := 45) dX8_set_44 ic1 rfl ?_
        first | refine N_isub (pc2 := 46) dX8_set_45 (by with_reducible rfl) (by with_reducible rfl) (by omega) rfl ?_ | refine T_isub (pc2 := 46) dX8_set_45 rfl ?_
        refine T_i2l (pc2 := 47) dX8_set_46 rfl ?_
        refine C_S3 (pc2 := 50) (mc := 0) (ms := 0) dX8_set_47 csX8_in mlX8_60 (Nat.le_of_ble_eq_true rfl) rfl ?_
        refine m_inI (k := s.A.2.2.1 a - 1) rfl rfl (nI_l (by omega)) (by omega) (fun j hj e2 => ?_) (fun hno => ?_)
        · first | refine B_ifne1 (tgt := 59) dX8_set_50 (by with_reducible rfl) (by decide) ?_ | refine B_ifne0 (pc2 := 53) (tgt := 59) dX8_set_50 (by with_reducible rfl) (by decide) rfl ?_ | refine N_ifne (pc2 := 53) (tgt := 59) dX8_set_50 (by with_reducible rfl) (by decide) (by omega) rfl (fun c50 => ?_) (fun c50 => ?_) | refine T_ifne (pc2 := 53) (tgt := 59) dX8_set_50 (by decide) rfl (fun c50 => ?_) (fun c50 => ?_)
          refine T_sub (lks (i := 0) rfl (lks (i := 1) rfl (lks (i := 2) rfl (lks (i := 3) rfl lk0)))) ?_
          exact hgood j (by omega) e2
        · first | refine B_ifne1 (tgt := 59) dX8_set_50 (by with_reducible rfl) (by decide) ?_ | refine B_ifne0 (pc2 := 53) (tgt := 59) dX8_set_50 (by with_reducible rfl) (by decide) rfl ?_ | refine N_ifne (pc2 := 53) (tgt := 59) dX8_set_50 (by with_reducible rfl) (by decide) (by omega) rfl (fun c50 => ?_) (fun c50 => ?_) | refine T_ifne (pc2 := 53) (tgt := 59) dX8_set_50 (by decide) rfl (fun c50 => ?_) (fun c50 => ?_)
          refine T_sub (lks (i := 0) rfl lk0) ?_
          refine hbad (hN_none (fun x y ex ey hx hy hxy => ?_))
          have := nI_b (m := 1) (by decide) ey (by omega)
          exact hno x (by omega) ex
  · first | refine B_ifne1 (tgt := 15) dX8_set_9 (by with_reducible rfl) (by decide) ?_ | refine B_ifne0 (pc2 := 12) (tgt := 15) dX8_set_9 (by with_reducible rfl) (by decide) rfl ?_ | refine N_ifne (pc2 := 12) (tgt := 15) dX8_set_9 (by with_reducible rfl) (by decide) (by omega) rfl (fun c9 => ?_) (fun c9 => ?_) | refine T_ifne (pc2 := 12) (tgt := 15) dX8_set_9 (by decide) rfl (fun c9 => ?_) (fun c9 => ?_)
    refine T_ldc (pc2 := 14) dX8_set_12 kcX8_70 rfl ?_
    refine T_iret dX8_set_14 rfl rfl ?_
    refine fm_same k hI Ms.rf ?_
    unfold sSet
    rw [inN_none hno]
theorem mm_drop {r : Int32} (S : Sh sk n bf im above below) (hI : InvM g s) (hok : Ok s) (k : ∀ g2, InvM g2 (sDrop s r).2 → Fr 48 62 g g2 → Q (some (.int (sDrop s r).1)) (HP sk g2 n)) : Calls MX8_drop (d + 2) 0 0 [.ref 48, .int r] (HP sk g n) Q := by
  have hokV := hok.2.2.1.1
  have hJ8 := hokV.1
  refine Calls.of (by decide +kernel) (Nat.le_of_ble_eq_true rfl) ?_
  refine T_aload_n (pc2 := 1) dX8_drop_0 rfl rfl ?_
  refine T_iconst (pc2 := 2) dX8_drop_1 ic0 rfl ?_
  refine G_putI (pc2 := 5) dX8_drop_2 flX8_50 (sh48 S) rfl rfl rfl rfl ?_
  have hI := hI.ms (Ms.rf.st (i := 48) (k := 0) (v := nI 0) (by omega))
  have k := fm_start k
  generalize gset g 48 0 (nI 0) = g1 at hI k ⊢
  have hV := hI.2.2.1
  refine T_iload_n (pc2 := 6) dX8_drop_5 rfl rfl ?_
  refine C_S1 (pc2 := 9) (mc := 0) (ms := 0) dX8_drop_6 csX8_isRow mlX8_64 (Nat.le_of_ble_eq_true rfl) rfl ?_
  refine m_isRow (fun a ha ea => ?_) (fun hno => ?_)
  · subst ea
    have hs : sDrop s (nI a) = if s.A.1 a = false then (fnd 1, s.setfd 1) else (nI (s.A.2.2.1 a), (s.setA (s.A.drop a)).setfd 0) := by
      unfold sDrop
      rw [inN_some ha (by decide)]
    first | refine B_ifne1 (tgt := 15) dX8_drop_9 (by with_reducible rfl) (by decide) ?_ | refine B_ifne0 (pc2 := 12) (tgt := 15) dX8_drop_9 (by with_reducible rfl) (by decide) rfl ?_ | refine N_ifne (pc2 := 12) (tgt := 15) dX8_drop_9 (by with_reducible rfl) (by decide) (by omega) rfl (fun c9 => ?_) (fun c9 => ?_) | refine T_ifne (pc2 := 12) (tgt := 15) dX8_drop_9 (by decide) rfl (fun c9 => ?_) (fun c9 => ?_)
    have hI2 := hI.fd (f := 0)
    have hF0 : Fr 48 62 g1 (gset g1 48 1 (nI 0)) := Fr.rf.st (by omega) (by omega)
    refine T_aload_n (pc2 := 16) dX8_drop_15 rfl rfl ?_
    refine T_iconst (pc2 := 17) dX8_drop_16 ic0 rfl ?_
    refine G_putI (pc2 := 20) dX8_drop_17 flX8_54 (sh48 S) rfl rfl rfl rfl ?_
    generalize gset g1 48 1 (nI 0) = g2 at hI2 hF0 ⊢
    rcases lane_case hI2.1 ha with ⟨h0, e49⟩ | ⟨ht, e49, e50, e51⟩
    · have h0 : s.A.1 a = false := h0
      refine T_aload_n (pc2 := 21) dX8_drop_20 rfl rfl ?_
      refine G_getR (pc2 := 24) dX8_drop_21 flX8_7 (sh48 S) rfl rfl ?_
      refine T_iload_n (pc2 := 25) dX8_drop_24 rfl rfl ?_
      refine G_iald (pc2 := 26) dX8_drop_25 (sh49 S) (by omega) (by first | decide | omega) (by first | with_reducible assumption | exact gs_eq _ _ _ _ | exact (gs_ne _ _ (by omega)).trans (by with_reducible assumption) | exact (gs_ne _ _ (by omega)).trans (gs_eq _ _ _ _) | exact (gs_ne _ _ (by omega)).trans ((gs_ne _ _ (by omega)).trans (by with_reducible assumption)) | exact (gs_ne _ _ (by omega)).trans ((gs_ne _ _ (by omega)).trans (gs_eq _ _ _ _)) | exact (gs_ne _ _ (by omega)).trans ((gs_ne _ _ (by omega)).trans ((gs_ne _ _ (by omega)).trans (by with_reducible assumption))) | rfl) rfl ?_
      refine T_ifge (pc2 := 29) (tgt := 35) dX8_drop_26 (by decide) rfl (fun c26 => ?_) (fun c26 => ?_)
      · exact absurd c26 (by decide)
      · refine T_aload_n (pc2 := 30) dX8_drop_29 rfl rfl ?_
        refine T_iconst (pc2 := 31) dX8_drop_30 ic1 rfl ?_
        refine C_V1 (pc2 := 34) (mc := 0) (ms := 0) dX8_drop_31 cvX8_finding mlX8_71 (isO.h (sh48 S) _) (Nat.le_of_ble_eq_true rfl) rfl ?_
        refine m_finding S ?_
        refine T_iret dX8_drop_34 rfl rfl ?_
        exact fm_new k hI2.fd (hF0.tr (Fr.rf.st (by omega) (by omega))) (by rw [hs, if_pos h0]; rfl)
    · have ht : s.A.1 a = true := ht
      have ol := hok.1 a ha ht
      have e49 : g2 49 a = nI (s.A.2.1 a) := e49
      have e50 : g2 50 a = nI (s.A.2.2.1 a) := e50
      refine T_aload_n (pc2 := 21) dX8_drop_20 rfl rfl ?_
      refine G_getR (pc2 := 24) dX8_drop_21 flX8_7 (sh48 S) rfl rfl ?_
      refine T_iload_n (pc2 := 25) dX8_drop_24 rfl rfl ?_
      refine G_iald (pc2 := 26) dX8_drop_25 (sh49 S) (by omega) (by first | decide | omega) (by first | with_reducible assumption | exact gs_eq _ _ _ _ | exact (gs_ne _ _ (by omega)).trans (by with_reducible assumption) | exact (gs_ne _ _ (by omega)).trans (gs_eq _ _ _ _) | exact (gs_ne _ _ (by omega)).trans ((gs_ne _ _ (by omega)).trans (by with_reducible assumption)) | exact (gs_ne _ _ (by omega)).trans ((gs_ne _ _ (by omega)).trans (gs_eq _ _ _ _)) | exact (gs_ne _ _ (by omega)).trans ((gs_ne _ _ (by omega)).trans ((gs_ne _ _ (by omega)).trans (by with_reducible assumption))) | rfl) rfl ?_
      first | refine N_ifge (tgt := 35) dX8_drop_26 (by with_reducible rfl) (by decide) (by omega) ?_ | refine T_ifge (pc2 := 29) (tgt := 35) dX8_drop_26 (by decide) rfl (fun c26 => ?_) (fun c26 => ?_)
      refine T_aload_n (pc2 := 36) dX8_drop_35 rfl rfl ?_
      refine G_getR (pc2 := 39) dX8_drop_36 flX8_7 (sh48 S) rfl rfl ?_
      refine T_iload_n (pc2 := 40) dX8_drop_39 rfl rfl ?_
      refine T_iconst (pc2 := 41) dX8_drop_40 icm1 rfl ?_
      refine G_iast (pc2 := 42) dX8_drop_41 (sh49 S) (by omega) (by decide) rfl ?_
      refine T_aload_n (pc2 := 43) dX8_drop_42 rfl rfl ?_
      refine G_getR (pc2 := 46) dX8_drop_43 flX8_13 (sh48 S) rfl rfl ?_
      refine T_iload_n (pc2 := 47) dX8_drop_46 rfl rfl ?_
      refine G_iald (pc2 := 48) dX8_drop_47 (sh50 S) (by omega) (by first | decide | omega) (by first | with_reducible assumption | exact gs_eq _ _ _ _ | exact (gs_ne _ _ (by omega)).trans (by with_reducible assumption) | exact (gs_ne _ _ (by omega)).trans (gs_eq _ _ _ _) | exact (gs_ne _ _ (by omega)).trans ((gs_ne _ _ (by omega)).trans (by with_reducible assumption)) | exact (gs_ne _ _ (by omega)).trans ((gs_ne _ _ (by omega)).trans (gs_eq _ _ _ _)) | exact (gs_ne _ _ (by omega)).trans ((gs_ne _ _ (by omega)).trans ((gs_ne _ _ (by omega)).trans (by with_reducible assumption))) | rfl) rfl ?_
      refine T_iret dX8_drop_48 rfl rfl ?_
      refine fm_new k (hI2.rows (A := s.A.drop a) ?_ (fun i h1 _ _ => gs_row h1)) (hF0.tr (Fr.rf.st (by omega) (by omega))) (by rw [hs, if_neg (by rw [ht]; decide)]; rfl)
      intro q hq
      have old := hI2.1 q hq
      rw [gs_row (i := 49) (j := 50) (by decide), gs_row (i := 49) (j := 51) (by decide)]
      by_cases e : q = a
      · subst e
        rw [gs_eq]
        refine ⟨fun _ => by decide, fun z => ?_⟩
        simp [RS.drop, va_up] at z
      · rw [gs_ne _ _ (by omega)]
        have e1 : (s.A.drop a).1 q = s.A.1 q := by simp [RS.drop, va_up, e]
        rw [e1]
        exact old
  · first | refine B_ifne1 (tgt := 15) dX8_drop_9 (by with_reducible rfl) (by decide) ?_ | refine B_ifne0 (pc2 := 12) (tgt := 15) dX8_drop_9 (by with_reducible rfl) (by decide) rfl ?_ | refine N_ifne (pc2 := 12) (tgt := 15) dX8_drop_9 (by with_reducible rfl) (by decide) (by omega) rfl (fun c9 => ?_) (fun c9 => ?_) | refine T_ifne (pc2 := 12) (tgt := 15) dX8_drop_9 (by decide) rfl (fun c9 => ?_) (fun c9 => ?_)
    refine T_ldc (pc2 := 14) dX8_drop_12 kcX8_70 rfl ?_
    refine T_iret dX8_drop_14 rfl rfl ?_
    refine fm_same k hI Ms.rf ?_
    unfold sDrop
    rw [inN_none hno]
theorem mm_feed {b : Int32} (S : Sh sk n bf im above below) (hI : InvM g s) (hok : Ok s) (k : ∀ g2, InvM g2 (sFeed s b).2 → Fr 48 62 g g2 → Q (some (.int (sFeed s b).1)) (HP sk g2 n)) : Calls MX8_feed (d + 1) 0 0 [.ref 48, .int b] (HP sk g n) Q := by
  have hokV := hok.2.2.1.1
  have hJ8 := hokV.1
  refine Calls.of (by decide +kernel) (Nat.le_of_ble_eq_true rfl) ?_
  refine T_aload_n (pc2 := 1) dX8_feed_0 rfl rfl ?_
  refine T_iconst (pc2 := 2) dX8_feed_1 ic0 rfl ?_
  refine G_putI (pc2 := 5) dX8_feed_2 flX8_50 (sh48 S) rfl rfl rfl rfl ?_
  have hI := hI.ms (Ms.rf.st (i := 48) (k := 0) (v := nI 0) (by omega))
  have k := fm_start k
  generalize gset g 48 0 (nI 0) = g1 at hI k ⊢
  have hV := hI.2.2.1
  have h90 := hok.2.1.1
  have e11 := hI.2.1.1
  refine T_iload_n (pc2 := 6) dX8_feed_5 rfl rfl ?_
  refine T_i2l (pc2 := 7) dX8_feed_6 rfl ?_
  refine T_lconst (pc2 := 8) (v := lN 0) dX8_feed_7 rfl rfl ?_
  refine T_ldc2 (pc2 := 11) dX8_feed_8 kcX8_75 rfl ?_
  refine C_S3 (pc2 := 14) (mc := 0) (ms := 0) dX8_feed_11 csX8_in mlX8_60 (Nat.le_of_ble_eq_true rfl) rfl ?_
  refine m_inI (k := 255) rfl rfl (by decide) (by decide) (fun a ha ea => ?_) (fun hno => ?_)
  · subst ea
    have hs : sFeed s (nI a) = if s.sz < 90 then (nI (s.sz + 1), s.setT (va_up s.tp s.sz a) (s.sz + 1)) else (FULL, s) := by
      unfold sFeed
      rw [inN_some (show a < 256 by omega) (by decide)]
    first | refine B_ifne1 (tgt := 20) dX8_feed_14 (by with_reducible rfl) (by decide) ?_ | refine B_ifne0 (pc2 := 17) (tgt := 20) dX8_feed_14 (by with_reducible rfl) (by decide) rfl ?_ | refine N_ifne (pc2 := 17) (tgt := 20) dX8_feed_14 (by with_reducible rfl) (by decide) (by omega) rfl (fun c14 => ?_) (fun c14 => ?_) | refine T_ifne (pc2 := 17) (tgt := 20) dX8_feed_14 (by decide) rfl (fun c14 => ?_) (fun c14 => ?_)
    refine T_aload_n (pc2 := 21) dX8_feed_20 rfl rfl ?_
    refine G_getI (pc2 := 24) dX8_feed_21 flX8_77 (sh48 S) rfl (by first | with_reducible assumption | exact gs_eq _ _ _ _ | exact (gs_ne _ _ (by omega)).trans (by with_reducible assumption) | exact (gs_ne _ _ (by omega)).trans (gs_eq _ _ _ _) | exact (gs_ne _ _ (by omega)).trans ((gs_ne _ _ (by omega)).trans (by with_reducible assumption)) | exact (gs_ne _ _ (by omega)).trans ((gs_ne _ _ (by omega)).trans (gs_eq _ _ _ _)) | exact (gs_ne _ _ (by omega)).trans ((gs_ne _ _ (by omega)).trans ((gs_ne _ _ (by omega)).trans (by with_reducible assumption))) | rfl) rfl ?_
    refine T_bipush (pc2 := 26) dX8_feed_24 bp90 rfl ?_
    first | refine N_icmpne (pc2 := 29) (tgt := 32) dX8_feed_26 (by decide) (by with_reducible rfl) (by with_reducible rfl) (by omega) (by omega) rfl (fun c26 => ?_) (fun c26 => ?_) | refine T_icmpne (pc2 := 29) (tgt := 32) dX8_feed_26 (by decide) rfl (fun c26 => ?_) (fun c26 => ?_)
    · have e11b : gset g1 56 s.sz (nI a) 48 11 = nI s.sz := by rw [gs_ne _ _ (by omega)]; exact e11
      refine T_aload_n (pc2 := 33) dX8_feed_32 rfl rfl ?_
      refine G_getR (pc2 := 36) dX8_feed_33 flX8_31 (sh48 S) rfl rfl ?_
      refine T_aload_n (pc2 := 37) dX8_feed_36 rfl rfl ?_
      refine G_getI (pc2 := 40) dX8_feed_37 flX8_77 (sh48 S) rfl (by first | with_reducible assumption | exact gs_eq _ _ _ _ | exact (gs_ne _ _ (by omega)).trans (by with_reducible assumption) | exact (gs_ne _ _ (by omega)).trans (gs_eq _ _ _ _) | exact (gs_ne _ _ (by omega)).trans ((gs_ne _ _ (by omega)).trans (by with_reducible assumption)) | exact (gs_ne _ _ (by omega)).trans ((gs_ne _ _ (by omega)).trans (gs_eq _ _ _ _)) | exact (gs_ne _ _ (by omega)).trans ((gs_ne _ _ (by omega)).trans ((gs_ne _ _ (by omega)).trans (by with_reducible assumption))) | rfl) rfl ?_
      refine T_iload_n (pc2 := 41) dX8_feed_40 rfl rfl ?_
      refine G_iast (pc2 := 42) dX8_feed_41 (sh56 S) (by omega) (by decide) rfl ?_
      refine T_aload_n (pc2 := 43) dX8_feed_42 rfl rfl ?_
      refine T_dup (pc2 := 44) dX8_feed_43 rfl rfl ?_
      refine G_getI (pc2 := 47) dX8_feed_44 flX8_77 (sh48 S) rfl (by first | with_reducible assumption | exact gs_eq _ _ _ _ | exact (gs_ne _ _ (by omega)).trans (by with_reducible assumption) | exact (gs_ne _ _ (by omega)).trans (gs_eq _ _ _ _) | exact (gs_ne _ _ (by omega)).trans ((gs_ne _ _ (by omega)).trans (by with_reducible assumption)) | exact (gs_ne _ _ (by omega)).trans ((gs_ne _ _ (by omega)).trans (gs_eq _ _ _ _)) | exact (gs_ne _ _ (by omega)).trans ((gs_ne _ _ (by omega)).trans ((gs_ne _ _ (by omega)).trans (by with_reducible assumption))) | rfl) rfl ?_
      refine T_iconst (pc2 := 48) dX8_feed_47 ic1 rfl ?_
      first | refine N_iadd (pc2 := 49) dX8_feed_48 (by with_reducible rfl) (by with_reducible rfl) rfl ?_ | refine T_iadd (pc2 := 49) dX8_feed_48 rfl ?_
      refine G_putI (pc2 := 52) dX8_feed_49 flX8_77 (sh48 S) rfl rfl rfl rfl ?_
      refine T_aload_n (pc2 := 53) dX8_feed_52 rfl rfl ?_
      refine G_getI (pc2 := 56) dX8_feed_53 flX8_77 (sh48 S) rfl (by first | with_reducible assumption | exact gs_eq _ _ _ _ | exact (gs_ne _ _ (by omega)).trans (by with_reducible assumption) | exact (gs_ne _ _ (by omega)).trans (gs_eq _ _ _ _) | exact (gs_ne _ _ (by omega)).trans ((gs_ne _ _ (by omega)).trans (by with_reducible assumption)) | exact (gs_ne _ _ (by omega)).trans ((gs_ne _ _ (by omega)).trans (gs_eq _ _ _ _)) | exact (gs_ne _ _ (by omega)).trans ((gs_ne _ _ (by omega)).trans ((gs_ne _ _ (by omega)).trans (by with_reducible assumption))) | rfl) rfl ?_
      refine T_iret dX8_feed_56 rfl rfl ?_
      have hrow : ∀ i, i ≠ 48 → i ≠ 56 → gset (gset g1 56 s.sz (nI a)) 48 11 (nI (s.sz + 1)) i = g1 i := fun i h1 h2 => by rw [gs_row h1, gs_row h2]
      have h48 : ∀ q, q ≠ 11 → gset (gset g1 56 s.sz (nI a)) 48 11 (nI (s.sz + 1)) 48 q = g1 48 q := fun q hq => by rw [gs_ne _ _ (by omega), gs_ne _ _ (by omega)]
      refine fm_new k (s3 := s.setT (va_up s.tp s.sz a) (s.sz + 1)) ?_ (fun i hi => hrow i (by omega) (by omega)) (by rw [hs, if_pos (by omega)])
      unfold InvM hasRm at hI ⊢
      rw [hrow 49 (by decide) (by decide), hrow 50 (by decide) (by decide), hrow 51 (by decide) (by decide), hrow 52 (by decide) (by decide), hrow 55 (by decide) (by decide), hrow 59 (by decide) (by decide), hrow 60 (by decide) (by decide), hrow 61 (by decide) (by decide), h48 1 (by decide), h48 9 (by decide), h48 18 (by decide), h48 27 (by decide)]
      refine ⟨hI.1, ⟨gs_eq _ _ _ _, fun i hi => ?_⟩, hI.2.2⟩
      have hi : i < s.sz + 1 := hi
      show gset (gset g1 56 s.sz (nI a)) 48 11 (nI (s.sz + 1)) 56 i = nI (va_up s.tp s.sz a i)
      rw [gs_row (by decide)]
      by_cases e : i = s.sz
      · subst e
        rw [gs_eq]
        simp [va_up]
      · rw [gs_ne _ _ (by omega), hI.2.1.2 i (by omega)]
        simp [va_up, e]
    · refine T_ldc (pc2 := 31) dX8_feed_29 kcX8_80 rfl ?_
      refine T_iret dX8_feed_31 rfl rfl ?_
      exact fm_same k hI Ms.rf (by rw [hs, if_neg (by omega)])
  · first | refine B_ifne1 (tgt := 20) dX8_feed_14 (by with_reducible rfl) (by decide) ?_ | refine B_ifne0 (pc2 := 17) (tgt := 20) dX8_feed_14 (by with_reducible rfl) (by decide) rfl ?_ | refine N_ifne (pc2 := 17) (tgt := 20) dX8_feed_14 (by with_reducible rfl) (by decide) (by omega) rfl (fun c14 => ?_) (fun c14 => ?_) | refine T_ifne (pc2 := 17) (tgt := 20) dX8_feed_14 (by decide) rfl (fun c14 => ?_) (fun c14 => ?_)
    refine T_ldc (pc2 := 19) dX8_feed_17 kcX8_70 rfl ?_
    refine T_iret dX8_feed_19 rfl rfl ?_
    refine fm_same k hI Ms.rf ?_
    unfold sFeed
    rw [inN_none (fun j hj => hno j (by omega))]
theorem mm_fault (S : Sh sk n bf im above below) (hI : InvM g s) (k : ∀ g2, InvM g2 s → Fr 48 62 g g2 → Q (some (.int (nI s.lf))) (HP sk g2 n)) : Calls MX8_fault d 0 0 [.ref 48] (HP sk g n) Q := by
  refine Calls.of (by decide +kernel) (Nat.le_of_ble_eq_true rfl) ?_
  have e := hI.2.2.2.2.2.2.2.1
  have hm : Ms g (gset g 48 0 (nI 0)) := Ms.rf.st (by omega)
  refine T_aload_n (pc2 := 1) dX8_fault_0 rfl rfl ?_
  refine T_iconst (pc2 := 2) dX8_fault_1 ic0 rfl ?_
  refine G_putI (pc2 := 5) dX8_fault_2 flX8_50 (sh48 S) rfl rfl rfl rfl ?_
  refine T_aload_n (pc2 := 6) dX8_fault_5 rfl rfl ?_
  refine G_getI (pc2 := 9) dX8_fault_6 flX8_119 (sh48 S) rfl (by first | with_reducible assumption | exact gs_eq _ _ _ _ | exact (gs_ne _ _ (by omega)).trans (by with_reducible assumption) | exact (gs_ne _ _ (by omega)).trans (gs_eq _ _ _ _) | exact (gs_ne _ _ (by omega)).trans ((gs_ne _ _ (by omega)).trans (by with_reducible assumption)) | exact (gs_ne _ _ (by omega)).trans ((gs_ne _ _ (by omega)).trans (gs_eq _ _ _ _)) | exact (gs_ne _ _ (by omega)).trans ((gs_ne _ _ (by omega)).trans ((gs_ne _ _ (by omega)).trans (by with_reducible assumption))) | rfl) rfl ?_
  refine T_iret dX8_fault_9 rfl rfl ?_
  exact k _ (hI.ms hm) hm.fr
theorem mm_status (S : Sh sk n bf im above below) (hI : InvM g s) (k : ∀ g2, InvM g2 s → Fr 48 62 g g2 → Q (some (.int (nI s.fd))) (HP sk g2 n)) : Calls MX8_status d 0 0 [.ref 48] (HP sk g n) Q := by
  refine Calls.of (by decide +kernel) (Nat.le_of_ble_eq_true rfl) ?_
  have e := hI.2.2.2.2.2.2.2.2
  have hm : Ms g (gset g 48 0 (nI 0)) := Ms.rf.st (by omega)
  refine T_aload_n (pc2 := 1) dX8_status_0 rfl rfl ?_
  refine T_iconst (pc2 := 2) dX8_status_1 ic0 rfl ?_
  refine G_putI (pc2 := 5) dX8_status_2 flX8_50 (sh48 S) rfl rfl rfl rfl ?_
  refine T_aload_n (pc2 := 6) dX8_status_5 rfl rfl ?_
  refine G_getI (pc2 := 9) dX8_status_6 flX8_54 (sh48 S) rfl (by first | with_reducible assumption | exact gs_eq _ _ _ _ | exact (gs_ne _ _ (by omega)).trans (by with_reducible assumption) | exact (gs_ne _ _ (by omega)).trans (gs_eq _ _ _ _) | exact (gs_ne _ _ (by omega)).trans ((gs_ne _ _ (by omega)).trans (by with_reducible assumption)) | exact (gs_ne _ _ (by omega)).trans ((gs_ne _ _ (by omega)).trans (gs_eq _ _ _ _)) | exact (gs_ne _ _ (by omega)).trans ((gs_ne _ _ (by omega)).trans ((gs_ne _ _ (by omega)).trans (by with_reducible assumption))) | rfl) rfl ?_
  refine T_iret dX8_status_9 rfl rfl ?_
  exact k _ (hI.ms hm) hm.fr
theorem mm_kind {j : Int32} (S : Sh sk n bf im above below) (hI : InvM g s) (hok : Ok s) (k : ∀ g2, InvM g2 (sKind s j).2 → Fr 48 62 g g2 → Q (some (.int (sKind s j).1)) (HP sk g2 n)) : Calls MX8_kind (d + 2) 0 0 [.ref 48, .int j] (HP sk g n) Q := by
  have hokV := hok.2.2.1.1
  have hJ8 := hokV.1
  refine Calls.of (by decide +kernel) (Nat.le_of_ble_eq_true rfl) ?_
  refine T_aload_n (pc2 := 1) dX8_kind_0 rfl rfl ?_
  refine T_iconst (pc2 := 2) dX8_kind_1 ic0 rfl ?_
  refine G_putI (pc2 := 5) dX8_kind_2 flX8_50 (sh48 S) rfl rfl rfl rfl ?_
  have hI := hI.ms (Ms.rf.st (i := 48) (k := 0) (v := nI 0) (by omega))
  have k := fm_start k
  generalize gset g 48 0 (nI 0) = g1 at hI k ⊢
  have hV := hI.2.2.1
  refine T_aload_n (pc2 := 6) dX8_kind_5 rfl rfl ?_
  refine T_iload_n (pc2 := 7) dX8_kind_6 rfl rfl ?_
  refine C_V1 (pc2 := 10) (mc := 0) (ms := 0) dX8_kind_7 cvX8_isJar mlX8_213 (isO.h (sh48 S) _) (Nat.le_of_ble_eq_true rfl) rfl ?_
  refine m_isJar S hV.1 hJ8 (fun i hi ei => ?_) (fun hno => ?_)
  · subst ei
    first | refine B_ifeq1 (pc2 := 13) (tgt := 25) dX8_kind_10 (by with_reducible rfl) (by decide) rfl ?_ | refine B_ifeq0 (tgt := 25) dX8_kind_10 (by with_reducible rfl) (by decide) ?_ | refine N_ifeq (pc2 := 13) (tgt := 25) dX8_kind_10 (by with_reducible rfl) (by decide) (by omega) rfl (fun c10 => ?_) (fun c10 => ?_) | refine T_ifeq (pc2 := 13) (tgt := 25) dX8_kind_10 (by decide) rfl (fun c10 => ?_) (fun c10 => ?_)
    refine T_aload_n (pc2 := 14) dX8_kind_13 rfl rfl ?_
    refine G_getR (pc2 := 17) dX8_kind_14 flX8_19 (sh48 S) rfl rfl ?_
    refine T_iload_n (pc2 := 18) dX8_kind_17 rfl rfl ?_
    refine T_iconst (pc2 := 19) dX8_kind_18 ic0 rfl ?_
    refine C_S3 (pc2 := 22) (mc := 0) (ms := 0) dX8_kind_19 csX8_of mlX8_154 (Nat.le_of_ble_eq_true rfl) rfl ?_
    refine m_of (sh52 S) (by omega) (hV.2.2.2 i hi).1 ?_
    refine T_goto (tgt := 27) dX8_kind_22 (by decide) ?_
    refine T_iret dX8_kind_27 rfl rfl ?_
    refine fm_same k hI Ms.rf ?_
    unfold sKind
    rw [inN_some hi (by omega)]
  · first | refine B_ifeq1 (pc2 := 13) (tgt := 25) dX8_kind_10 (by with_reducible rfl) (by decide) rfl ?_ | refine B_ifeq0 (tgt := 25) dX8_kind_10 (by with_reducible rfl) (by decide) ?_ | refine N_ifeq (pc2 := 13) (tgt := 25) dX8_kind_10 (by with_reducible rfl) (by decide) (by omega) rfl (fun c10 => ?_) (fun c10 => ?_) | refine T_ifeq (pc2 := 13) (tgt := 25) dX8_kind_10 (by decide) rfl (fun c10 => ?_) (fun c10 => ?_)
    refine T_ldc (pc2 := 27) dX8_kind_25 kcX8_70 rfl ?_
    refine T_iret dX8_kind_27 rfl rfl ?_
    refine fm_same k hI Ms.rf ?_
    unfold sKind
    rw [inN_none hno]
theorem m_isOf {kd w : Nat} (hk : kd < 6) (hw6 : w < 6) (kt : isaN kd w = true → Q (some (.int (nI 1))) h) (kf : isaN kd w = false → Q (some (.int (nI 0))) h) : Calls MX8_isOf d 0 0 [.int (nI kd), .int (nI w)] h Q := by
  refine Calls.of (by decide +kernel) (Nat.le_of_ble_eq_true rfl) ?_
  have hT : isaN kd w = true → T MX8_isOf d 0 0 29 [] [] h Q := fun e => by
    refine T_iconst (pc2 := 30) dX8_isOf_29 ic1 rfl ?_
    refine T_goto (tgt := 34) dX8_isOf_30 (by decide) ?_
    refine T_iret dX8_isOf_34 rfl (by first | rfl | decide) ?_
    exact kt e
  have hT2 : isaN kd w = false → T MX8_isOf d 0 0 33 [] [] h Q := fun e => by
    refine T_iconst (pc2 := 34) dX8_isOf_33 ic0 rfl ?_
    refine T_iret dX8_isOf_34 rfl (by first | rfl | decide) ?_
    exact kf e
  unfold isaN at hT hT2
  refine T_iload_n (pc2 := 1) dX8_isOf_0 rfl rfl ?_
  first | refine B_ifeq1 (pc2 := 4) (tgt := 29) dX8_isOf_1 (by with_reducible rfl) (by decide) rfl ?_ | refine B_ifeq0 (tgt := 29) dX8_isOf_1 (by with_reducible rfl) (by decide) ?_ | refine N_ifeq (pc2 := 4) (tgt := 29) dX8_isOf_1 (by with_reducible rfl) (by decide) (by omega) rfl (fun c1 => ?_) (fun c1 => ?_) | refine T_ifeq (pc2 := 4) (tgt := 29) dX8_isOf_1 (by decide) rfl (fun c1 => ?_) (fun c1 => ?_)
  · refine T_sub lk0 (hT ?_)
    simp [c1]
  · refine T_iload_n (pc2 := 5) dX8_isOf_4 rfl rfl ?_
    refine T_iload_n (pc2 := 6) dX8_isOf_5 rfl rfl ?_
    first | refine N_icmpeq (pc2 := 9) (tgt := 29) dX8_isOf_6 (by decide) (by with_reducible rfl) (by with_reducible rfl) (by omega) (by omega) rfl (fun c6 => ?_) (fun c6 => ?_) | refine T_icmpeq (pc2 := 9) (tgt := 29) dX8_isOf_6 (by decide) rfl (fun c6 => ?_) (fun c6 => ?_)
    · refine T_sub lk0 (hT ?_)
      simp [c6]
    · refine T_iload_n (pc2 := 10) dX8_isOf_9 rfl rfl ?_
      refine T_iconst (pc2 := 11) dX8_isOf_10 ic1 rfl ?_
      first | refine N_icmpne (pc2 := 14) (tgt := 19) dX8_isOf_11 (by decide) (by with_reducible rfl) (by with_reducible rfl) (by omega) (by omega) rfl (fun c11 => ?_) (fun c11 => ?_) | refine T_icmpne (pc2 := 14) (tgt := 19) dX8_isOf_11 (by decide) rfl (fun c11 => ?_) (fun c11 => ?_)
      · refine T_iload_n (pc2 := 20) dX8_isOf_19 rfl rfl ?_
        refine T_iconst (pc2 := 21) dX8_isOf_20 ic4 rfl ?_
        first | refine N_icmpne (pc2 := 24) (tgt := 33) dX8_isOf_21 (by decide) (by with_reducible rfl) (by with_reducible rfl) (by omega) (by omega) rfl (fun c21 => ?_) (fun c21 => ?_) | refine T_icmpne (pc2 := 24) (tgt := 33) dX8_isOf_21 (by decide) rfl (fun c21 => ?_) (fun c21 => ?_)
        · refine T_sub lk0 (hT2 ?_)
          simp [c1, c6, c11, c21]
        · refine T_iload_n (pc2 := 25) dX8_isOf_24 rfl rfl ?_
          refine T_iconst (pc2 := 26) dX8_isOf_25 ic5 rfl ?_
          first | refine N_icmpne (pc2 := 29) (tgt := 33) dX8_isOf_26 (by decide) (by with_reducible rfl) (by with_reducible rfl) (by omega) (by omega) rfl (fun c26 => ?_) (fun c26 => ?_) | refine T_icmpne (pc2 := 29) (tgt := 33) dX8_isOf_26 (by decide) rfl (fun c26 => ?_) (fun c26 => ?_)
          · refine T_sub lk0 (hT2 ?_)
            simp [c1, c6, c11, c21, c26]
            omega
          · refine T_sub lk0 (hT ?_)
            simp [c21, c26]
      · refine T_iload_n (pc2 := 15) dX8_isOf_14 rfl rfl ?_
        refine T_iconst (pc2 := 16) dX8_isOf_15 ic4 rfl ?_
        first | refine N_icmplt (pc2 := 19) (tgt := 29) dX8_isOf_16 (by decide) (by with_reducible rfl) (by with_reducible rfl) (by omega) (by omega) rfl (fun c16 => ?_) (fun c16 => ?_) | refine T_icmplt (pc2 := 19) (tgt := 29) dX8_isOf_16 (by decide) rfl (fun c16 => ?_) (fun c16 => ?_)
        · refine T_sub lk0 (hT ?_)
          simp [c11, c16]
        · refine T_iload_n (pc2 := 20) dX8_isOf_19 rfl rfl ?_
          refine T_iconst (pc2 := 21) dX8_isOf_20 ic4 rfl ?_
          first | refine N_icmpne (pc2 := 24) (tgt := 33) dX8_isOf_21 (by decide) (by with_reducible rfl) (by with_reducible rfl) (by omega) (by omega) rfl (fun c21 => ?_) (fun c21 => ?_) | refine T_icmpne (pc2 := 24) (tgt := 33) dX8_isOf_21 (by decide) rfl (fun c21 => ?_) (fun c21 => ?_)
          · refine T_sub lk0 (hT2 ?_)
            simp [c1, c6, c11, c16, c21]
            omega
          · omega
theorem mm_as {j w : Int32} (S : Sh sk n bf im above below) (hI : InvM g s) (hok : Ok s) (k : ∀ g2, InvM g2 (sAs s j w).2 → Fr 48 62 g g2 → Q (some (.int (sAs s j w).1)) (HP sk g2 n)) : Calls MX8_as (d + 2) 0 0 [.ref 48, .int j, .int w] (HP sk g n) Q := by
  have hokV := hok.2.2.1.1
  have hJ8 := hokV.1
  refine Calls.of (by decide +kernel) (Nat.le_of_ble_eq_true rfl) ?_
  refine T_aload_n (pc2 := 1) dX8_as_0 rfl rfl ?_
  refine T_iconst (pc2 := 2) dX8_as_1 ic0 rfl ?_
  refine G_putI (pc2 := 5) dX8_as_2 flX8_50 (sh48 S) rfl rfl rfl rfl ?_
  have hI := hI.ms (Ms.rf.st (i := 48) (k := 0) (v := nI 0) (by omega))
  have k := fm_start k
  generalize gset g 48 0 (nI 0) = g1 at hI k ⊢
  have hV := hI.2.2.1
  refine T_aload_n (pc2 := 6) dX8_as_5 rfl rfl ?_
  refine T_iload_n (pc2 := 7) dX8_as_6 rfl rfl ?_
  refine C_V1 (pc2 := 10) (mc := 0) (ms := 0) dX8_as_7 cvX8_isJar mlX8_213 (isO.h (sh48 S) _) (Nat.le_of_ble_eq_true rfl) rfl ?_
  refine m_isJar S hV.1 hJ8 (fun i hi ei => ?_) (fun hno => ?_)
  · subst ei
    have o1 := hokV.2.2.2.1 i hi
    first | refine B_ifeq1 (pc2 := 13) (tgt := 25) dX8_as_10 (by with_reducible rfl) (by decide) rfl ?_ | refine B_ifeq0 (tgt := 25) dX8_as_10 (by with_reducible rfl) (by decide) ?_ | refine N_ifeq (pc2 := 13) (tgt := 25) dX8_as_10 (by with_reducible rfl) (by decide) (by omega) rfl (fun c10 => ?_) (fun c10 => ?_) | refine T_ifeq (pc2 := 13) (tgt := 25) dX8_as_10 (by decide) rfl (fun c10 => ?_) (fun c10 => ?_)
    refine T_iload_n (pc2 := 14) dX8_as_13 rfl rfl ?_
    refine T_i2l (pc2 := 15) dX8_as_14 rfl ?_
    refine T_lconst (pc2 := 16) (v := lN 0) dX8_as_15 rfl rfl ?_
    refine T_ldc2 (pc2 := 19) dX8_as_16 kcX8_262 rfl ?_
    refine C_S3 (pc2 := 22) (mc := 0) (ms := 0) dX8_as_19 csX8_in mlX8_60 (Nat.le_of_ble_eq_true rfl) rfl ?_
    refine m_inI (k := 5) rfl rfl (by decide) (by decide) (fun x hx ex => ?_) (fun hno => ?_)
    · subst ex
      have hs : sAs s (nI i) (nI x) = if isaN (s.V.kd i) x then (nI i, s.setfd 0) else (fnd 3, s.setfd 3) := by
        unfold sAs
        rw [inN_some hi (by omega), inN_some (show x < 6 by omega) (by decide)]
      first | refine B_ifne1 (tgt := 28) dX8_as_22 (by with_reducible rfl) (by decide) ?_ | refine B_ifne0 (pc2 := 25) (tgt := 28) dX8_as_22 (by with_reducible rfl) (by decide) rfl ?_ | refine N_ifne (pc2 := 25) (tgt := 28) dX8_as_22 (by with_reducible rfl) (by decide) (by omega) rfl (fun c22 => ?_) (fun c22 => ?_) | refine T_ifne (pc2 := 25) (tgt := 28) dX8_as_22 (by decide) rfl (fun c22 => ?_) (fun c22 => ?_)
      have hI2 := hI.fd (f := 0)
      have hF0 : Fr 48 62 g1 (gset g1 48 1 (nI 0)) := Fr.rf.st (by omega) (by omega)
      refine T_aload_n (pc2 := 29) dX8_as_28 rfl rfl ?_
      refine T_iconst (pc2 := 30) dX8_as_29 ic0 rfl ?_
      refine G_putI (pc2 := 33) dX8_as_30 flX8_54 (sh48 S) rfl rfl rfl rfl ?_
      generalize gset g1 48 1 (nI 0) = g2 at hI2 hF0 ⊢
      refine T_aload_n (pc2 := 34) dX8_as_33 rfl rfl ?_
      refine G_getR (pc2 := 37) dX8_as_34 flX8_19 (sh48 S) rfl rfl ?_
      refine T_iload_n (pc2 := 38) dX8_as_37 rfl rfl ?_
      refine T_iconst (pc2 := 39) dX8_as_38 ic0 rfl ?_
      refine C_S3 (pc2 := 42) (mc := 0) (ms := 0) dX8_as_39 csX8_of mlX8_154 (Nat.le_of_ble_eq_true rfl) rfl ?_
      refine m_of (sh52 S) (by omega) (hI2.2.2.1.2.2.2 i hi).1 ?_
      refine T_iload_n (pc2 := 43) dX8_as_42 rfl rfl ?_
      refine C_S2 (pc2 := 46) (mc := 0) (ms := 0) dX8_as_43 csX8_isOf mlX8_264 (Nat.le_of_ble_eq_true rfl) rfl ?_
      refine m_isOf (show s.V.kd i < 6 by omega) (by omega) (fun ht => ?_) (fun ht => ?_)
      · have ht : isaN (s.V.kd i) x = true := ht
        first | refine B_ifeq1 (pc2 := 49) (tgt := 53) dX8_as_46 (by with_reducible rfl) (by decide) rfl ?_ | refine B_ifeq0 (tgt := 53) dX8_as_46 (by with_reducible rfl) (by decide) ?_ | refine N_ifeq (pc2 := 49) (tgt := 53) dX8_as_46 (by with_reducible rfl) (by decide) (by omega) rfl (fun c46 => ?_) (fun c46 => ?_) | refine T_ifeq (pc2 := 49) (tgt := 53) dX8_as_46 (by decide) rfl (fun c46 => ?_) (fun c46 => ?_)
        refine T_iload_n (pc2 := 50) dX8_as_49 rfl rfl ?_
        refine T_goto (tgt := 58) dX8_as_50 (by decide) ?_
        refine T_iret dX8_as_58 rfl rfl ?_
        exact fm_new k hI2 hF0 (by rw [hs, if_pos ht])
      · have ht : isaN (s.V.kd i) x = false := ht
        first | refine B_ifeq1 (pc2 := 49) (tgt := 53) dX8_as_46 (by with_reducible rfl) (by decide) rfl ?_ | refine B_ifeq0 (tgt := 53) dX8_as_46 (by with_reducible rfl) (by decide) ?_ | refine N_ifeq (pc2 := 49) (tgt := 53) dX8_as_46 (by with_reducible rfl) (by decide) (by omega) rfl (fun c46 => ?_) (fun c46 => ?_) | refine T_ifeq (pc2 := 49) (tgt := 53) dX8_as_46 (by decide) rfl (fun c46 => ?_) (fun c46 => ?_)
        refine T_aload_n (pc2 := 54) dX8_as_53 rfl rfl ?_
        refine T_iconst (pc2 := 55) dX8_as_54 ic3 rfl ?_
        refine C_V1 (pc2 := 58) (mc := 0) (ms := 0) dX8_as_55 cvX8_finding mlX8_71 (isO.h (sh48 S) _) (Nat.le_of_ble_eq_true rfl) rfl ?_
        refine m_finding S ?_
        refine T_iret dX8_as_58 rfl rfl ?_
        exact fm_new k hI2.fd (hF0.tr (Fr.rf.st (by omega) (by omega))) (by rw [hs, ht]; rfl)
    · first | refine B_ifne1 (tgt := 28) dX8_as_22 (by with_reducible rfl) (by decide) ?_ | refine B_ifne0 (pc2 := 25) (tgt := 28) dX8_as_22 (by with_reducible rfl) (by decide) rfl ?_ | refine N_ifne (pc2 := 25) (tgt := 28) dX8_as_22 (by with_reducible rfl) (by decide) (by omega) rfl (fun c22 => ?_) (fun c22 => ?_) | refine T_ifne (pc2 := 25) (tgt := 28) dX8_as_22 (by decide) rfl (fun c22 => ?_) (fun c22 => ?_)
      refine T_ldc (pc2 := 27) dX8_as_25 kcX8_70 rfl ?_
      refine T_iret dX8_as_27 rfl rfl ?_
      refine fm_same k hI Ms.rf ?_
      unfold sAs
      rw [inN_none (v := w) (k := 6) (fun q hq => hno q (by omega))]
      cases inN (nI i) s.V.J <;> rfl
  · first | refine B_ifeq1 (pc2 := 13) (tgt := 25) dX8_as_10 (by with_reducible rfl) (by decide) rfl ?_ | refine B_ifeq0 (tgt := 25) dX8_as_10 (by with_reducible rfl) (by decide) ?_ | refine N_ifeq (pc2 := 13) (tgt := 25) dX8_as_10 (by with_reducible rfl) (by decide) (by omega) rfl (fun c10 => ?_) (fun c10 => ?_) | refine T_ifeq (pc2 := 13) (tgt := 25) dX8_as_10 (by decide) rfl (fun c10 => ?_) (fun c10 => ?_)
    refine T_ldc (pc2 := 27) dX8_as_25 kcX8_70 rfl ?_
    refine T_iret dX8_as_27 rfl rfl ?_
    refine fm_same k hI Ms.rf ?_
    unfold sAs
    rw [inN_none hno]
theorem mm_trace {i : Int32} (S : Sh sk n bf im above below) (hI : InvM g s) (hok : Ok s) (k : ∀ g2, InvM g2 (sTrace s i).2 → Fr 48 62 g g2 → Q (some (.int (sTrace s i).1)) (HP sk g2 n)) : Calls MX8_trace (d + 1) 0 0 [.ref 48, .int i] (HP sk g n) Q := by
  have hokV := hok.2.2.1.1
  have hJ8 := hokV.1
  refine Calls.of (by decide +kernel) (Nat.le_of_ble_eq_true rfl) ?_
  refine T_aload_n (pc2 := 1) dX8_trace_0 rfl rfl ?_
  refine T_iconst (pc2 := 2) dX8_trace_1 ic0 rfl ?_
  refine G_putI (pc2 := 5) dX8_trace_2 flX8_50 (sh48 S) rfl rfl rfl rfl ?_
  have hI := hI.ms (Ms.rf.st (i := 48) (k := 0) (v := nI 0) (by omega))
  have k := fm_start k
  generalize gset g 48 0 (nI 0) = g1 at hI k ⊢
  have hV := hI.2.2.1
  have h16 := hok.2.2.2.2.2.2.2.2
  have hT := hI.2.2.2.2.2.1
  have eL := hT.1
  by_cases h0 : s.tr.length = 0
  · rw [h0] at eL
    refine T_iload_n (pc2 := 6) dX8_trace_5 rfl rfl ?_
    refine T_i2l (pc2 := 7) dX8_trace_6 rfl ?_
    refine T_lconst (pc2 := 8) (v := lN 0) dX8_trace_7 rfl rfl ?_
    refine T_aload_n (pc2 := 9) dX8_trace_8 rfl rfl ?_
    refine G_getI (pc2 := 12) dX8_trace_9 flX8_267 (sh48 S) rfl (by first | with_reducible assumption | exact gs_eq _ _ _ _ | exact (gs_ne _ _ (by omega)).trans (by with_reducible assumption) | exact (gs_ne _ _ (by omega)).trans (gs_eq _ _ _ _) | exact (gs_ne _ _ (by omega)).trans ((gs_ne _ _ (by omega)).trans (by with_reducible assumption)) | exact (gs_ne _ _ (by omega)).trans ((gs_ne _ _ (by omega)).trans (gs_eq _ _ _ _)) | exact (gs_ne _ _ (by omega)).trans ((gs_ne _ _ (by omega)).trans ((gs_ne _ _ (by omega)).trans (by with_reducible assumption))) | rfl) rfl ?_
    refine T_iconst (pc2 := 13) dX8_trace_12 ic1 rfl ?_
    refine T_isub (pc2 := 14) dX8_trace_13 rfl ?_
    refine T_i2l (pc2 := 15) dX8_trace_14 rfl ?_
    refine C_S3 (pc2 := 18) (mc := 0) (ms := 0) dX8_trace_15 csX8_in mlX8_60 (Nat.le_of_ble_eq_true rfl) rfl ?_
    refine m_in (fun h1 h2 => ?_) (fun _ => ?_)
    · exact absurd (Int64.le_trans h1 h2) (by decide)
    · first | refine B_ifeq1 (pc2 := 21) (tgt := 30) dX8_trace_18 (by with_reducible rfl) (by decide) rfl ?_ | refine B_ifeq0 (tgt := 30) dX8_trace_18 (by with_reducible rfl) (by decide) ?_ | refine N_ifeq (pc2 := 21) (tgt := 30) dX8_trace_18 (by with_reducible rfl) (by decide) (by omega) rfl (fun c18 => ?_) (fun c18 => ?_) | refine T_ifeq (pc2 := 21) (tgt := 30) dX8_trace_18 (by decide) rfl (fun c18 => ?_) (fun c18 => ?_)
      refine T_ldc (pc2 := 32) dX8_trace_30 kcX8_93 rfl ?_
      refine T_iret dX8_trace_32 rfl rfl ?_
      refine fm_same k hI Ms.rf ?_
      unfold sTrace
      rw [inN_none (fun j hj => absurd hj (by omega))]
  · refine T_iload_n (pc2 := 6) dX8_trace_5 rfl rfl ?_
    refine T_i2l (pc2 := 7) dX8_trace_6 rfl ?_
    refine T_lconst (pc2 := 8) (v := lN 0) dX8_trace_7 rfl rfl ?_
    refine T_aload_n (pc2 := 9) dX8_trace_8 rfl rfl ?_
    refine G_getI (pc2 := 12) dX8_trace_9 flX8_267 (sh48 S) rfl (by first | with_reducible assumption | exact gs_eq _ _ _ _ | exact (gs_ne _ _ (by omega)).trans (by with_reducible assumption) | exact (gs_ne _ _ (by omega)).trans (gs_eq _ _ _ _) | exact (gs_ne _ _ (by omega)).trans ((gs_ne _ _ (by omega)).trans (by with_reducible assumption)) | exact (gs_ne _ _ (by omega)).trans ((gs_ne _ _ (by omega)).trans (gs_eq _ _ _ _)) | exact (gs_ne _ _ (by omega)).trans ((gs_ne _ _ (by omega)).trans ((gs_ne _ _ (by omega)).trans (by with_reducible assumption))) | rfl) rfl ?_
    refine T_iconst (pc2 := 13) dX8_trace_12 ic1 rfl ?_
    first | refine N_isub (pc2 := 14) dX8_trace_13 (by with_reducible rfl) (by with_reducible rfl) (by omega) rfl ?_ | refine T_isub (pc2 := 14) dX8_trace_13 rfl ?_
    refine T_i2l (pc2 := 15) dX8_trace_14 rfl ?_
    refine C_S3 (pc2 := 18) (mc := 0) (ms := 0) dX8_trace_15 csX8_in mlX8_60 (Nat.le_of_ble_eq_true rfl) rfl ?_
    refine m_inI (k := s.tr.length - 1) rfl rfl (nI_l (by omega)) (by omega) (fun x hx ex => ?_) (fun hno => ?_)
    · subst ex
      have hx2 : x < s.tr.length := by omega
      have e61 := hT.2 x (s.tr[x]'hx2) (List.getElem?_eq_getElem hx2)
      first | refine B_ifeq1 (pc2 := 21) (tgt := 30) dX8_trace_18 (by with_reducible rfl) (by decide) rfl ?_ | refine B_ifeq0 (tgt := 30) dX8_trace_18 (by with_reducible rfl) (by decide) ?_ | refine N_ifeq (pc2 := 21) (tgt := 30) dX8_trace_18 (by with_reducible rfl) (by decide) (by omega) rfl (fun c18 => ?_) (fun c18 => ?_) | refine T_ifeq (pc2 := 21) (tgt := 30) dX8_trace_18 (by decide) rfl (fun c18 => ?_) (fun c18 => ?_)
      refine T_aload_n (pc2 := 22) dX8_trace_21 rfl rfl ?_
      refine G_getR (pc2 := 25) dX8_trace_22 flX8_47 (sh48 S) rfl rfl ?_
      refine T_iload_n (pc2 := 26) dX8_trace_25 rfl rfl ?_
      refine G_iald (pc2 := 27) dX8_trace_26 (sh61 S) (by omega) (by first | decide | omega) (by first | with_reducible assumption | exact gs_eq _ _ _ _ | exact (gs_ne _ _ (by omega)).trans (by with_reducible assumption) | exact (gs_ne _ _ (by omega)).trans (gs_eq _ _ _ _) | exact (gs_ne _ _ (by omega)).trans ((gs_ne _ _ (by omega)).trans (by with_reducible assumption)) | exact (gs_ne _ _ (by omega)).trans ((gs_ne _ _ (by omega)).trans (gs_eq _ _ _ _)) | exact (gs_ne _ _ (by omega)).trans ((gs_ne _ _ (by omega)).trans ((gs_ne _ _ (by omega)).trans (by with_reducible assumption))) | rfl) rfl ?_
      refine T_goto (tgt := 32) dX8_trace_27 (by decide) ?_
      refine T_iret dX8_trace_32 rfl rfl ?_
      refine fm_same k hI Ms.rf ?_
      unfold sTrace
      rw [inN_some hx2 (by omega)]
      show (nI (s.tr.getD x 0), s) = _
      rw [List.getD_eq_getElem?_getD, List.getElem?_eq_getElem hx2]
      rfl
    · first | refine B_ifeq1 (pc2 := 21) (tgt := 30) dX8_trace_18 (by with_reducible rfl) (by decide) rfl ?_ | refine B_ifeq0 (tgt := 30) dX8_trace_18 (by with_reducible rfl) (by decide) ?_ | refine N_ifeq (pc2 := 21) (tgt := 30) dX8_trace_18 (by with_reducible rfl) (by decide) (by omega) rfl (fun c18 => ?_) (fun c18 => ?_) | refine T_ifeq (pc2 := 21) (tgt := 30) dX8_trace_18 (by decide) rfl (fun c18 => ?_) (fun c18 => ?_)
      refine T_ldc (pc2 := 32) dX8_trace_30 kcX8_93 rfl ?_
      refine T_iret dX8_trace_32 rfl rfl ?_
      refine fm_same k hI Ms.rf ?_
      unfold sTrace
      rw [inN_none (fun j hj => hno j (by omega))]
theorem cnt_loop {w : Int32} (S : Sh sk n bf im above below) (hA : hasRm g s.A) (hok : okR s.A) (k : Q (some (.int (nI (ct s.A.1 8)))) (HP sk g n)) : ∀ m t, t + m = 8 → T MX8_count (d + 2) kc ks 58 [(0, .ref 48), (2, .int (nI (ct s.A.1 t))), (3, .int (nI t))] [] (HP sk g n) Q := by
  intro m
  induction m with
  | zero =>
    intro t ht
    have e : t = 8 := by omega
    subst e
    refine T_iload_n (pc2 := 59) dX8_count_58 rfl rfl ?_
    refine T_bipush (pc2 := 61) dX8_count_59 bp8 rfl ?_
    first | refine N_icmpge (pc2 := 64) (tgt := 87) dX8_count_61 (by decide) (by with_reducible rfl) (by with_reducible rfl) (by omega) (by omega) rfl (fun c61 => ?_) (fun c61 => ?_) | refine T_icmpge (pc2 := 64) (tgt := 87) dX8_count_61 (by decide) rfl (fun c61 => ?_) (fun c61 => ?_)
    · refine T_iload_n (pc2 := 88) dX8_count_87 rfl rfl ?_
      refine T_iret dX8_count_88 rfl rfl ?_
      exact k
    · exact absurd (by omega) c61
  | succ m ih =>
    intro t ht
    refine T_iload_n (pc2 := 59) dX8_count_58 rfl rfl ?_
    refine T_bipush (pc2 := 61) dX8_count_59 bp8 rfl ?_
    first | refine N_icmpge (pc2 := 64) (tgt := 87) dX8_count_61 (by decide) (by with_reducible rfl) (by with_reducible rfl) (by omega) (by omega) rfl (fun c61 => ?_) (fun c61 => ?_) | refine T_icmpge (pc2 := 64) (tgt := 87) dX8_count_61 (by decide) rfl (fun c61 => ?_) (fun c61 => ?_)
    · exact absurd c61 (by omega)
    · rcases lane_case (s := s) hA (show t < 8 by omega) with ⟨h0, e49⟩ | ⟨h1, e49, -⟩
      · have e : ct s.A.1 (t + 1) = ct s.A.1 t + 0 := by
          show ct s.A.1 t + _ = _
          rw [h0]; rfl
        refine T_iload_n (pc2 := 65) dX8_count_64 rfl rfl ?_
        refine T_aload_n (pc2 := 66) dX8_count_65 rfl rfl ?_
        refine G_getR (pc2 := 69) dX8_count_66 flX8_7 (sh48 S) rfl rfl ?_
        refine T_iload_n (pc2 := 70) dX8_count_69 rfl rfl ?_
        refine G_iald (pc2 := 71) dX8_count_70 (sh49 S) (by omega) (by first | decide | omega) (by first | with_reducible assumption | exact gs_eq _ _ _ _ | exact (gs_ne _ _ (by omega)).trans (by with_reducible assumption) | exact (gs_ne _ _ (by omega)).trans (gs_eq _ _ _ _) | exact (gs_ne _ _ (by omega)).trans ((gs_ne _ _ (by omega)).trans (by with_reducible assumption)) | exact (gs_ne _ _ (by omega)).trans ((gs_ne _ _ (by omega)).trans (gs_eq _ _ _ _)) | exact (gs_ne _ _ (by omega)).trans ((gs_ne _ _ (by omega)).trans ((gs_ne _ _ (by omega)).trans (by with_reducible assumption))) | rfl) rfl ?_
        refine T_iflt (pc2 := 74) (tgt := 78) dX8_count_71 (by decide) rfl (fun c71 => ?_) (fun c71 => ?_)
        · refine T_iconst (pc2 := 79) dX8_count_78 ic0 rfl ?_
          first | refine N_iadd (pc2 := 80) dX8_count_79 (by with_reducible rfl) (by with_reducible rfl) rfl ?_ | refine T_iadd (pc2 := 80) dX8_count_79 rfl ?_
          refine T_istore_n (pc2 := 81) dX8_count_80 (by decide) rfl ?_
          first | refine N_iinc (pc2 := 84) dX8_count_81 rfl (by with_reducible rfl) ic1 (by decide) rfl ?_ | refine T_iinc (pc2 := 84) dX8_count_81 rfl rfl (by decide) rfl ?_
          refine T_goto (tgt := 58) dX8_count_84 (by decide) ?_
          refine T_sub (lks (i := 0) rfl (lks (i := 2) rfl (lks (i := 3) rfl lk0))) ?_
          have := ih (t + 1) (by omega)
          rw [e] at this
          exact this
        · exact absurd (show (-1 : Int32) < 0 by decide) c71
      · have ol := hok t (by omega) h1
        have e : ct s.A.1 (t + 1) = ct s.A.1 t + 1 := by
          show ct s.A.1 t + _ = _
          rw [h1]; rfl
        refine T_iload_n (pc2 := 65) dX8_count_64 rfl rfl ?_
        refine T_aload_n (pc2 := 66) dX8_count_65 rfl rfl ?_
        refine G_getR (pc2 := 69) dX8_count_66 flX8_7 (sh48 S) rfl rfl ?_
        refine T_iload_n (pc2 := 70) dX8_count_69 rfl rfl ?_
        refine G_iald (pc2 := 71) dX8_count_70 (sh49 S) (by omega) (by first | decide | omega) (by first | with_reducible assumption | exact gs_eq _ _ _ _ | exact (gs_ne _ _ (by omega)).trans (by with_reducible assumption) | exact (gs_ne _ _ (by omega)).trans (gs_eq _ _ _ _) | exact (gs_ne _ _ (by omega)).trans ((gs_ne _ _ (by omega)).trans (by with_reducible assumption)) | exact (gs_ne _ _ (by omega)).trans ((gs_ne _ _ (by omega)).trans (gs_eq _ _ _ _)) | exact (gs_ne _ _ (by omega)).trans ((gs_ne _ _ (by omega)).trans ((gs_ne _ _ (by omega)).trans (by with_reducible assumption))) | rfl) rfl ?_
        first | refine N_iflt (pc2 := 74) (tgt := 78) dX8_count_71 (by with_reducible rfl) (by decide) (by omega) rfl ?_ | refine T_iflt (pc2 := 74) (tgt := 78) dX8_count_71 (by decide) rfl (fun c71 => ?_) (fun c71 => ?_)
        refine T_iconst (pc2 := 75) dX8_count_74 ic1 rfl ?_
        refine T_goto (tgt := 79) dX8_count_75 (by decide) ?_
        first | refine N_iadd (pc2 := 80) dX8_count_79 (by with_reducible rfl) (by with_reducible rfl) rfl ?_ | refine T_iadd (pc2 := 80) dX8_count_79 rfl ?_
        refine T_istore_n (pc2 := 81) dX8_count_80 (by decide) rfl ?_
        first | refine N_iinc (pc2 := 84) dX8_count_81 rfl (by with_reducible rfl) ic1 (by decide) rfl ?_ | refine T_iinc (pc2 := 84) dX8_count_81 rfl rfl (by decide) rfl ?_
        refine T_goto (tgt := 58) dX8_count_84 (by decide) ?_
        refine T_sub (lks (i := 0) rfl (lks (i := 2) rfl (lks (i := 3) rfl lk0))) ?_
        have := ih (t + 1) (by omega)
        rw [e] at this
        exact this
theorem mm_count {w : Int32} (S : Sh sk n bf im above below) (hI : InvM g s) (hok : Ok s) (k : ∀ g2, InvM g2 (sCount s w).2 → Fr 48 62 g g2 → Q (some (.int (sCount s w).1)) (HP sk g2 n)) : Calls MX8_count (d + 2) 0 0 [.ref 48, .int w] (HP sk g n) Q := by
  have hokV := hok.2.2.1.1
  have hJ8 := hokV.1
  refine Calls.of (by decide +kernel) (Nat.le_of_ble_eq_true rfl) ?_
  refine T_aload_n (pc2 := 1) dX8_count_0 rfl rfl ?_
  refine T_iconst (pc2 := 2) dX8_count_1 ic0 rfl ?_
  refine G_putI (pc2 := 5) dX8_count_2 flX8_50 (sh48 S) rfl rfl rfl rfl ?_
  have hI := hI.ms (Ms.rf.st (i := 48) (k := 0) (v := nI 0) (by omega))
  have k := fm_start k
  generalize gset g 48 0 (nI 0) = g1 at hI k ⊢
  have hV := hI.2.2.1
  have e1 := hV.1
  have e2 := hV.2.1
  have e3 := hV.2.2.1
  have e4 := hI.2.2.2.1
  have e5 := hI.2.1.1
  cases q : inN w 8 with
  | none =>
    refine T_iconst (pc2 := 6) dX8_count_5 ic0 rfl ?_
    refine T_istore_n (pc2 := 7) dX8_count_6 (by decide) rfl ?_
    refine T_iload_n (pc2 := 8) dX8_count_7 rfl rfl ?_
    refine T_tableOut (tgt := 144) dX8_count_8 (nI_out (k := 8) (by decide) (inN_no (by decide) q)) (by decide) ?_
    refine T_ldc (pc2 := 146) dX8_count_144 kcX8_70 rfl ?_
    refine T_iret dX8_count_146 rfl rfl ?_
    refine fm_same k hI Ms.rf ?_
    unfold sCount
    rw [q]
  | some x =>
    obtain ⟨h8, e⟩ := inN_of q
    subst e
    have hs : sCount s (nI x) = (nI (if x = 0 then ct s.A.1 8 else if x = 1 then s.V.J else if x = 2 then s.V.Y else if x = 3 then s.V.R else if x = 4 then ct (s.V.th 0) 8 else if x = 5 then ct (s.V.th 1) 8 else if x = 6 then s.an else s.sz), s) := by
      unfold sCount
      rw [q]
    rcases (by omega : x = 0 ∨ x = 1 ∨ x = 2 ∨ x = 3 ∨ x = 4 ∨ x = 5 ∨ x = 6 ∨ x = 7) with e | e | e | e | e | e | e | e
    · subst e
      refine T_iconst (pc2 := 6) dX8_count_5 ic0 rfl ?_
      refine T_istore_n (pc2 := 7) dX8_count_6 (by decide) rfl ?_
      refine T_iload_n (pc2 := 8) dX8_count_7 rfl rfl ?_
      refine T_tableIn (off := 48) (tgt := 56) dX8_count_8 (by decide) (by decide) (by decide) (by decide) ?_
      refine T_iconst (pc2 := 57) dX8_count_56 ic0 rfl ?_
      refine T_istore_n (pc2 := 58) dX8_count_57 (by decide) rfl ?_
      refine T_sub (lks (i := 0) rfl (lks (i := 2) rfl (lks (i := 3) rfl lk0))) ?_
      refine cnt_loop (d := d) (w := 0) S hI.1 hok.1 ?_ 8 0 rfl
      exact fm_same k hI Ms.rf (by rw [hs]; rfl)
    · subst e
      refine T_iconst (pc2 := 6) dX8_count_5 ic0 rfl ?_
      refine T_istore_n (pc2 := 7) dX8_count_6 (by decide) rfl ?_
      refine T_iload_n (pc2 := 8) dX8_count_7 rfl rfl ?_
      refine T_tableIn (off := 81) (tgt := 89) dX8_count_8 (by decide) (by decide) (by decide) (by decide) ?_
      refine T_aload_n (pc2 := 90) dX8_count_89 rfl rfl ?_
      refine G_getR (pc2 := 93) dX8_count_90 flX8_19 (sh48 S) rfl rfl ?_
      refine T_iconst (pc2 := 94) dX8_count_93 ic0 rfl ?_
      refine G_iald (pc2 := 95) dX8_count_94 (sh52 S) (by omega) (by first | decide | omega) (by first | with_reducible assumption | exact gs_eq _ _ _ _ | exact (gs_ne _ _ (by omega)).trans (by with_reducible assumption) | exact (gs_ne _ _ (by omega)).trans (gs_eq _ _ _ _) | exact (gs_ne _ _ (by omega)).trans ((gs_ne _ _ (by omega)).trans (by with_reducible assumption)) | exact (gs_ne _ _ (by omega)).trans ((gs_ne _ _ (by omega)).trans (gs_eq _ _ _ _)) | exact (gs_ne _ _ (by omega)).trans ((gs_ne _ _ (by omega)).trans ((gs_ne _ _ (by omega)).trans (by with_reducible assumption))) | rfl) rfl ?_
      refine T_iret dX8_count_95 rfl rfl ?_
      exact fm_same k hI Ms.rf (by rw [hs]; rfl)
    · subst e
      refine T_iconst (pc2 := 6) dX8_count_5 ic0 rfl ?_
      refine T_istore_n (pc2 := 7) dX8_count_6 (by decide) rfl ?_
      refine T_iload_n (pc2 := 8) dX8_count_7 rfl rfl ?_
      refine T_tableIn (off := 88) (tgt := 96) dX8_count_8 (by decide) (by decide) (by decide) (by decide) ?_
      refine T_aload_n (pc2 := 97) dX8_count_96 rfl rfl ?_
      refine G_getR (pc2 := 100) dX8_count_97 flX8_19 (sh48 S) rfl rfl ?_
      refine T_iconst (pc2 := 101) dX8_count_100 ic1 rfl ?_
      refine G_iald (pc2 := 102) dX8_count_101 (sh52 S) (by omega) (by first | decide | omega) (by first | with_reducible assumption | exact gs_eq _ _ _ _ | exact (gs_ne _ _ (by omega)).trans (by with_reducible assumption) | exact (gs_ne _ _ (by omega)).trans (gs_eq _ _ _ _) | exact (gs_ne _ _ (by omega)).trans ((gs_ne _ _ (by omega)).trans (by with_reducible assumption)) | exact (gs_ne _ _ (by omega)).trans ((gs_ne _ _ (by omega)).trans (gs_eq _ _ _ _)) | exact (gs_ne _ _ (by omega)).trans ((gs_ne _ _ (by omega)).trans ((gs_ne _ _ (by omega)).trans (by with_reducible assumption))) | rfl) rfl ?_
      refine T_iret dX8_count_102 rfl rfl ?_
      exact fm_same k hI Ms.rf (by rw [hs]; rfl)
    · subst e
      refine T_iconst (pc2 := 6) dX8_count_5 ic0 rfl ?_
      refine T_istore_n (pc2 := 7) dX8_count_6 (by decide) rfl ?_
      refine T_iload_n (pc2 := 8) dX8_count_7 rfl rfl ?_
      refine T_tableIn (off := 95) (tgt := 103) dX8_count_8 (by decide) (by decide) (by decide) (by decide) ?_
      refine T_aload_n (pc2 := 104) dX8_count_103 rfl rfl ?_
      refine G_getR (pc2 := 107) dX8_count_104 flX8_19 (sh48 S) rfl rfl ?_
      refine T_iconst (pc2 := 108) dX8_count_107 ic2 rfl ?_
      refine G_iald (pc2 := 109) dX8_count_108 (sh52 S) (by omega) (by first | decide | omega) (by first | with_reducible assumption | exact gs_eq _ _ _ _ | exact (gs_ne _ _ (by omega)).trans (by with_reducible assumption) | exact (gs_ne _ _ (by omega)).trans (gs_eq _ _ _ _) | exact (gs_ne _ _ (by omega)).trans ((gs_ne _ _ (by omega)).trans (by with_reducible assumption)) | exact (gs_ne _ _ (by omega)).trans ((gs_ne _ _ (by omega)).trans (gs_eq _ _ _ _)) | exact (gs_ne _ _ (by omega)).trans ((gs_ne _ _ (by omega)).trans ((gs_ne _ _ (by omega)).trans (by with_reducible assumption))) | rfl) rfl ?_
      refine T_iret dX8_count_109 rfl rfl ?_
      exact fm_same k hI Ms.rf (by rw [hs]; rfl)
    · subst e
      refine T_iconst (pc2 := 6) dX8_count_5 ic0 rfl ?_
      refine T_istore_n (pc2 := 7) dX8_count_6 (by decide) rfl ?_
      refine T_iload_n (pc2 := 8) dX8_count_7 rfl rfl ?_
      refine T_tableIn (off := 102) (tgt := 110) dX8_count_8 (by decide) (by decide) (by decide) (by decide) ?_
      refine T_aload_n (pc2 := 111) dX8_count_110 rfl rfl ?_
      refine G_getR (pc2 := 114) dX8_count_111 flX8_19 (sh48 S) rfl rfl ?_
      refine T_iconst (pc2 := 115) dX8_count_114 ic0 rfl ?_
      refine C_S2 (pc2 := 118) (mc := 0) (ms := 0) dX8_count_115 csX8_those mlX8_175 (Nat.le_of_ble_eq_true rfl) rfl ?_
      refine m_those (how := 0) (sh52 S) hV hJ8 (by decide) (hw31 hokV) ?_
      refine C_S1 (pc2 := 121) (mc := 0) (ms := 0) dX8_count_118 csX8_bits mlX8_183 (Nat.le_of_ble_eq_true rfl) rfl ?_
      refine m_bits ?_
      refine T_iret dX8_count_121 rfl rfl ?_
      exact fm_same k hI Ms.rf (by rw [hs]; rfl)
    · subst e
      refine T_iconst (pc2 := 6) dX8_count_5 ic0 rfl ?_
      refine T_istore_n (pc2 := 7) dX8_count_6 (by decide) rfl ?_
      refine T_iload_n (pc2 := 8) dX8_count_7 rfl rfl ?_
      refine T_tableIn (off := 114) (tgt := 122) dX8_count_8 (by decide) (by decide) (by decide) (by decide) ?_
      refine T_aload_n (pc2 := 123) dX8_count_122 rfl rfl ?_
      refine G_getR (pc2 := 126) dX8_count_123 flX8_19 (sh48 S) rfl rfl ?_
      refine T_iconst (pc2 := 127) dX8_count_126 ic1 rfl ?_
      refine C_S2 (pc2 := 130) (mc := 0) (ms := 0) dX8_count_127 csX8_those mlX8_175 (Nat.le_of_ble_eq_true rfl) rfl ?_
      refine m_those (how := 1) (sh52 S) hV hJ8 (by decide) (hw31 hokV) ?_
      refine C_S1 (pc2 := 133) (mc := 0) (ms := 0) dX8_count_130 csX8_bits mlX8_183 (Nat.le_of_ble_eq_true rfl) rfl ?_
      refine m_bits ?_
      refine T_iret dX8_count_133 rfl rfl ?_
      exact fm_same k hI Ms.rf (by rw [hs]; rfl)
    · subst e
      refine T_iconst (pc2 := 6) dX8_count_5 ic0 rfl ?_
      refine T_istore_n (pc2 := 7) dX8_count_6 (by decide) rfl ?_
      refine T_iload_n (pc2 := 8) dX8_count_7 rfl rfl ?_
      refine T_tableIn (off := 126) (tgt := 134) dX8_count_8 (by decide) (by decide) (by decide) (by decide) ?_
      refine T_aload_n (pc2 := 135) dX8_count_134 rfl rfl ?_
      refine G_getI (pc2 := 138) dX8_count_135 flX8_149 (sh48 S) rfl (by first | with_reducible assumption | exact gs_eq _ _ _ _ | exact (gs_ne _ _ (by omega)).trans (by with_reducible assumption) | exact (gs_ne _ _ (by omega)).trans (gs_eq _ _ _ _) | exact (gs_ne _ _ (by omega)).trans ((gs_ne _ _ (by omega)).trans (by with_reducible assumption)) | exact (gs_ne _ _ (by omega)).trans ((gs_ne _ _ (by omega)).trans (gs_eq _ _ _ _)) | exact (gs_ne _ _ (by omega)).trans ((gs_ne _ _ (by omega)).trans ((gs_ne _ _ (by omega)).trans (by with_reducible assumption))) | rfl) rfl ?_
      refine T_iret dX8_count_138 rfl rfl ?_
      exact fm_same k hI Ms.rf (by rw [hs]; rfl)
    · subst e
      refine T_iconst (pc2 := 6) dX8_count_5 ic0 rfl ?_
      refine T_istore_n (pc2 := 7) dX8_count_6 (by decide) rfl ?_
      refine T_iload_n (pc2 := 8) dX8_count_7 rfl rfl ?_
      refine T_tableIn (off := 131) (tgt := 139) dX8_count_8 (by decide) (by decide) (by decide) (by decide) ?_
      refine T_aload_n (pc2 := 140) dX8_count_139 rfl rfl ?_
      refine G_getI (pc2 := 143) dX8_count_140 flX8_77 (sh48 S) rfl (by first | with_reducible assumption | exact gs_eq _ _ _ _ | exact (gs_ne _ _ (by omega)).trans (by with_reducible assumption) | exact (gs_ne _ _ (by omega)).trans (gs_eq _ _ _ _) | exact (gs_ne _ _ (by omega)).trans ((gs_ne _ _ (by omega)).trans (by with_reducible assumption)) | exact (gs_ne _ _ (by omega)).trans ((gs_ne _ _ (by omega)).trans (gs_eq _ _ _ _)) | exact (gs_ne _ _ (by omega)).trans ((gs_ne _ _ (by omega)).trans ((gs_ne _ _ (by omega)).trans (by with_reducible assumption))) | rfl) rfl ?_
      refine T_iret dX8_count_143 rfl rfl ?_
      exact fm_same k hI Ms.rf (by rw [hs]; rfl)
end MRows

