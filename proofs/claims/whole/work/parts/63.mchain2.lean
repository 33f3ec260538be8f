/-! the model: the chain -/
def Fc (g g2 : Nat → Nat → Int32) : Prop := (∀ i, i ≠ 48 → i ≠ 57 → i ≠ 58 → g2 i = g i) ∧ ∀ k, k ≠ 21 → g2 48 k = g 48 k
theorem Fc.rf {g : Nat → Nat → Int32} : Fc g g := ⟨fun _ _ _ _ => rfl, fun _ _ => rfl⟩
theorem Fc.tr {g g2 g3 : Nat → Nat → Int32} (h : Fc g g2) (h2 : Fc g2 g3) : Fc g g3 := ⟨fun i a b c => (h2.1 i a b c).trans (h.1 i a b c), fun k hk => (h2.2 k hk).trans (h.2 k hk)⟩
theorem Fc.st {g g2 : Nat → Nat → Int32} {i k : Nat} {v : Int32} (h : Fc g g2) (hi : (i = 48 ∧ k = 21) ∨ i = 57 ∨ i = 58) : Fc g (gset g2 i k v) := by
  refine ⟨fun j a b c => ?_, fun q hq => ?_⟩
  · rw [gs_row (by omega)]; exact h.1 j a b c
  · rw [gs_ne _ _ (by omega)]; exact h.2 q hq
theorem Fc.row {g g2 : Nat → Nat → Int32} {r : Nat} (h : ∀ i, i ≠ r → g2 i = g i) (hr : r = 57 ∨ r = 58) : Fc g g2 := ⟨fun i a b c => h i (by omega), fun k _ => by rw [h 48 (by omega)]⟩
theorem Fc.ms {g g2 : Nat → Nat → Int32} (h : Fc g g2) : Ms g g2 := ⟨fun i a _ _ b c => h.1 i a b c, fun k hk => h.2 k (by omega)⟩
section MChain2
variable {sk : Nat → SK} {g : Nat → Nat → Int32} {n w : Nat} {V : Cel} {Q : Option Value → SH → Prop} {d kc ks : Nat} {bf im : Nat → Option Nat} {above below : Int64} {h : SH}
theorem ch_a {note p x : Nat} (S : Sh sk n bf im above below) (hp : p < 8) (k : ∀ g2, hasS g2 57 (sd1 note p) → Fc g g2 → T MX8_chainOf (d + 2) kc ks 35 [(0, .ref 48), (1, .ref w), (4, .int (nI x))] [] (HP sk g2 n) Q) :
    ∀ m t g2, t + m = 8 → (∀ q, q < t → g2 57 q = oN (sd1 note p q)) → Fc g g2 → T MX8_chainOf (d + 2) kc ks 3 [(0, .ref 48), (1, .ref w), (2, .int (nI note)), (3, .int (nI p)), (4, .int (nI x)), (5, .int (nI t))] [] (HP sk g2 n) Q := by
  intro m
  induction m with
  | zero =>
    intro t g2 ht hS hf
    refine T_iload (pc2 := 5) dX8_chainOf_3 rfl rfl ?_
    refine T_bipush (pc2 := 7) dX8_chainOf_5 bp8 rfl ?_
    first | refine N_icmpge (pc2 := 10) (tgt := 35) dX8_chainOf_7 (by decide) (by with_reducible rfl) (by with_reducible rfl) (by omega) (by omega) rfl (fun c7 => ?_) (fun c7 => ?_) | refine T_icmpge (pc2 := 10) (tgt := 35) dX8_chainOf_7 (by decide) rfl (fun c7 => ?_) (fun c7 => ?_)
    · refine T_sub (lks (i := 0) rfl (lks (i := 1) rfl (lks (i := 4) rfl lk0))) ?_
      exact k g2 (fun q hq => hS q (by omega)) hf
    · exact absurd (by omega) c7
  | succ m ih =>
    intro t g2 ht hS hf
    refine T_iload (pc2 := 5) dX8_chainOf_3 rfl rfl ?_
    refine T_bipush (pc2 := 7) dX8_chainOf_5 bp8 rfl ?_
    first | refine N_icmpge (pc2 := 10) (tgt := 35) dX8_chainOf_7 (by decide) (by with_reducible rfl) (by with_reducible rfl) (by omega) (by omega) rfl (fun c7 => ?_) (fun c7 => ?_) | refine T_icmpge (pc2 := 10) (tgt := 35) dX8_chainOf_7 (by decide) rfl (fun c7 => ?_) (fun c7 => ?_)
    · exact absurd c7 (by omega)
    · have hx : ∀ v, (v = oN (sd1 note p t)) → ∀ q, q < t + 1 → gset g2 57 t v 57 q = oN (sd1 note p q) := fun v hv q hq => by
        by_cases e : q = t
        · subst e
          rw [gs_eq, hv]
        · rw [gs_ne _ _ (by omega)]
          exact hS q (by omega)
      refine T_aload_n (pc2 := 11) dX8_chainOf_10 rfl rfl ?_
      refine G_getR (pc2 := 14) dX8_chainOf_11 flX8_34 (sh48 S) rfl rfl ?_
      refine T_iload (pc2 := 16) dX8_chainOf_14 rfl rfl ?_
      refine T_iload (pc2 := 18) dX8_chainOf_16 rfl rfl ?_
      refine T_iload_n (pc2 := 19) dX8_chainOf_18 rfl rfl ?_
      first | refine N_icmpne (pc2 := 22) (tgt := 26) dX8_chainOf_19 (by decide) (by with_reducible rfl) (by with_reducible rfl) (by omega) (by omega) rfl (fun c19 => ?_) (fun c19 => ?_) | refine T_icmpne (pc2 := 22) (tgt := 26) dX8_chainOf_19 (by decide) rfl (fun c19 => ?_) (fun c19 => ?_)
      · refine T_ldc (pc2 := 28) dX8_chainOf_26 kcX8_93 rfl ?_
        refine G_iast (pc2 := 29) dX8_chainOf_28 (sh57 S) (by omega) (by decide) rfl ?_
        first | refine N_iinc (pc2 := 32) dX8_chainOf_29 rfl (by with_reducible rfl) ic1 (by decide) rfl ?_ | refine T_iinc (pc2 := 32) dX8_chainOf_29 rfl rfl (by decide) rfl ?_
        refine T_goto (tgt := 3) dX8_chainOf_32 (by decide) ?_
        refine T_sub (lks (i := 0) rfl (lks (i := 1) rfl (lks (i := 2) rfl (lks (i := 3) rfl (lks (i := 4) rfl (lks (i := 5) rfl lk0)))))) ?_
        exact ih (t + 1) _ (by omega) (hx _ (by simp [sd1, c19, oN])) (hf.st (by omega))
      · refine T_iload_n (pc2 := 23) dX8_chainOf_22 rfl rfl ?_
        refine T_goto (tgt := 28) dX8_chainOf_23 (by decide) ?_
        refine G_iast (pc2 := 29) dX8_chainOf_28 (sh57 S) (by omega) (by decide) rfl ?_
        first | refine N_iinc (pc2 := 32) dX8_chainOf_29 rfl (by with_reducible rfl) ic1 (by decide) rfl ?_ | refine T_iinc (pc2 := 32) dX8_chainOf_29 rfl rfl (by decide) rfl ?_
        refine T_goto (tgt := 3) dX8_chainOf_32 (by decide) ?_
        refine T_sub (lks (i := 0) rfl (lks (i := 1) rfl (lks (i := 2) rfl (lks (i := 3) rfl (lks (i := 4) rfl (lks (i := 5) rfl lk0)))))) ?_
        exact ih (t + 1) _ (by omega) (hx _ (by simp [sd1, c19, oN])) (hf.st (by omega))
theorem ch_c {x l : Nat} (S : Sh sk n bf im above below) (k : ∀ g2, (∀ q, q < 8 → g2 58 q = oN none) → (∀ i, i ≠ 58 → g2 i = g i) → T MX8_chainOf (d + 2) kc ks 80 [(0, .ref 48), (1, .ref w), (4, .int (nI x)), (5, .int (nI l)), (7, .int (nI 0))] [] (HP sk g2 n) Q) :
    ∀ m t g2, t + m = 8 → (∀ q, q < t → g2 58 q = oN none) → (∀ i, i ≠ 58 → g2 i = g i) → T MX8_chainOf (d + 2) kc ks 58 [(0, .ref 48), (1, .ref w), (4, .int (nI x)), (5, .int (nI l)), (7, .int (nI 0)), (8, .int (nI t))] [] (HP sk g2 n) Q := by
  intro m
  induction m with
  | zero =>
    intro t g2 ht hS hf
    refine T_iload (pc2 := 60) dX8_chainOf_58 rfl rfl ?_
    refine T_bipush (pc2 := 62) dX8_chainOf_60 bp8 rfl ?_
    first | refine N_icmpge (pc2 := 65) (tgt := 80) dX8_chainOf_62 (by decide) (by with_reducible rfl) (by with_reducible rfl) (by omega) (by omega) rfl (fun c62 => ?_) (fun c62 => ?_) | refine T_icmpge (pc2 := 65) (tgt := 80) dX8_chainOf_62 (by decide) rfl (fun c62 => ?_) (fun c62 => ?_)
    · refine T_sub (lks (i := 0) rfl (lks (i := 1) rfl (lks (i := 4) rfl (lks (i := 5) rfl (lks (i := 7) rfl lk0))))) ?_
      exact k g2 (fun q hq => hS q (by omega)) hf
    · exact absurd (by omega) c62
  | succ m ih =>
    intro t g2 ht hS hf
    refine T_iload (pc2 := 60) dX8_chainOf_58 rfl rfl ?_
    refine T_bipush (pc2 := 62) dX8_chainOf_60 bp8 rfl ?_
    first | refine N_icmpge (pc2 := 65) (tgt := 80) dX8_chainOf_62 (by decide) (by with_reducible rfl) (by with_reducible rfl) (by omega) (by omega) rfl (fun c62 => ?_) (fun c62 => ?_) | refine T_icmpge (pc2 := 65) (tgt := 80) dX8_chainOf_62 (by decide) rfl (fun c62 => ?_) (fun c62 => ?_)
    · exact absurd c62 (by omega)
    · refine T_aload_n (pc2 := 66) dX8_chainOf_65 rfl rfl ?_
      refine G_getR (pc2 := 69) dX8_chainOf_66 flX8_37 (sh48 S) rfl rfl ?_
      refine T_iload (pc2 := 71) dX8_chainOf_69 rfl rfl ?_
      refine T_ldc (pc2 := 73) dX8_chainOf_71 kcX8_93 rfl ?_
      refine G_iast (pc2 := 74) dX8_chainOf_73 (sh58 S) (by omega) (by decide) rfl ?_
      first | refine N_iinc (pc2 := 77) dX8_chainOf_74 rfl (by with_reducible rfl) ic1 (by decide) rfl ?_ | refine T_iinc (pc2 := 77) dX8_chainOf_74 rfl rfl (by decide) rfl ?_
      refine T_goto (tgt := 58) dX8_chainOf_77 (by decide) ?_
      refine T_sub (lks (i := 0) rfl (lks (i := 1) rfl (lks (i := 4) rfl (lks (i := 5) rfl (lks (i := 7) rfl (lks (i := 8) rfl lk0)))))) ?_
      refine ih (t + 1) _ (by omega) (fun q hq => ?_) (fun i hi => by rw [gs_row hi]; exact hf i hi)
      by_cases e : q = t
      · subst e
        rw [gs_eq]
        rfl
      · rw [gs_ne _ _ (by omega)]
        exact hS q (by omega)
theorem ch_e {x l b : Nat} (S : Sh sk n bf im above below) (k : ∀ g2, (∀ q, q < 8 → g2 57 q = g 58 q) → (∀ i, i ≠ 57 → g2 i = g i) → T MX8_chainOf (d + 2) kc ks 175 [(0, .ref 48), (1, .ref w), (4, .int (nI x)), (5, .int (nI l)), (7, .int (nI b))] [] (HP sk g2 n) Q) :
    ∀ m t g2, t + m = 8 → (∀ q, q < t → g2 57 q = g 58 q) → (∀ i, i ≠ 57 → g2 i = g i) → T MX8_chainOf (d + 2) kc ks 148 [(0, .ref 48), (1, .ref w), (4, .int (nI x)), (5, .int (nI l)), (7, .int (nI b)), (8, .int (nI t))] [] (HP sk g2 n) Q := by
  intro m
  induction m with
  | zero =>
    intro t g2 ht hS hf
    refine T_iload (pc2 := 150) dX8_chainOf_148 rfl rfl ?_
    refine T_bipush (pc2 := 152) dX8_chainOf_150 bp8 rfl ?_
    first | refine N_icmpge (pc2 := 155) (tgt := 175) dX8_chainOf_152 (by decide) (by with_reducible rfl) (by with_reducible rfl) (by omega) (by omega) rfl (fun c152 => ?_) (fun c152 => ?_) | refine T_icmpge (pc2 := 155) (tgt := 175) dX8_chainOf_152 (by decide) rfl (fun c152 => ?_) (fun c152 => ?_)
    · refine T_sub (lks (i := 0) rfl (lks (i := 1) rfl (lks (i := 4) rfl (lks (i := 5) rfl (lks (i := 7) rfl lk0))))) ?_
      exact k g2 (fun q hq => hS q (by omega)) hf
    · exact absurd (by omega) c152
  | succ m ih =>
    intro t g2 ht hS hf
    have e58 : g2 58 t = g 58 t := by rw [hf 58 (by omega)]
    refine T_iload (pc2 := 150) dX8_chainOf_148 rfl rfl ?_
    refine T_bipush (pc2 := 152) dX8_chainOf_150 bp8 rfl ?_
    first | refine N_icmpge (pc2 := 155) (tgt := 175) dX8_chainOf_152 (by decide) (by with_reducible rfl) (by with_reducible rfl) (by omega) (by omega) rfl (fun c152 => ?_) (fun c152 => ?_) | refine T_icmpge (pc2 := 155) (tgt := 175) dX8_chainOf_152 (by decide) rfl (fun c152 => ?_) (fun c152 => ?_)
    · exact absurd c152 (by omega)
    · refine T_aload_n (pc2 := 156) dX8_chainOf_155 rfl rfl ?_
      refine G_getR (pc2 := 159) dX8_chainOf_156 flX8_34 (sh48 S) rfl rfl ?_
      refine T_iload (pc2 := 161) dX8_chainOf_159 rfl rfl ?_
      refine T_aload_n (pc2 := 162) dX8_chainOf_161 rfl rfl ?_
      refine G_getR (pc2 := 165) dX8_chainOf_162 flX8_37 (sh48 S) rfl rfl ?_
      refine T_iload (pc2 := 167) dX8_chainOf_165 rfl rfl ?_
      refine G_iald (pc2 := 168) dX8_chainOf_167 (sh58 S) (by omega) (by first | decide | omega) (by first | with_reducible assumption | exact gs_eq _ _ _ _ | exact (gs_ne _ _ (by omega)).trans (by with_reducible assumption) | exact (gs_ne _ _ (by omega)).trans (gs_eq _ _ _ _) | exact (gs_ne _ _ (by omega)).trans ((gs_ne _ _ (by omega)).trans (by with_reducible assumption)) | exact (gs_ne _ _ (by omega)).trans ((gs_ne _ _ (by omega)).trans (gs_eq _ _ _ _)) | exact (gs_ne _ _ (by omega)).trans ((gs_ne _ _ (by omega)).trans ((gs_ne _ _ (by omega)).trans (by with_reducible assumption))) | rfl) rfl ?_
      refine G_iast (pc2 := 169) dX8_chainOf_168 (sh57 S) (by omega) (by decide) rfl ?_
      first | refine N_iinc (pc2 := 172) dX8_chainOf_169 rfl (by with_reducible rfl) ic1 (by decide) rfl ?_ | refine T_iinc (pc2 := 172) dX8_chainOf_169 rfl rfl (by decide) rfl ?_
      refine T_goto (tgt := 148) dX8_chainOf_172 (by decide) ?_
      refine T_sub (lks (i := 0) rfl (lks (i := 1) rfl (lks (i := 4) rfl (lks (i := 5) rfl (lks (i := 7) rfl (lks (i := 8) rfl lk0)))))) ?_
      refine ih (t + 1) _ (by omega) (fun q hq => ?_) (fun i hi => by rw [gs_row hi]; exact hf i hi)
      by_cases e : q = t
      · subst e
        rw [gs_eq]
      · rw [gs_ne _ _ (by omega)]
        exact hS q (by omega)
theorem ch_d {x : Nat} {left : Nat → Bool} {sd : Nat → Option Nat} (S : Sh sk n bf im above below) (hw : isA sk n w .int 43) (hwd : w ≠ 48 ∧ w ≠ 57 ∧ w ≠ 58) (hV : hasM (g w) V) (hok : okD V) (hS : hasS g 57 sd) (hd : sdok sd)
    (k : ∀ g2, hasS g2 58 (sdN V (nxt V left sd) V.J) → (∀ i, i ≠ 58 → g2 i = g i) → T MX8_chainOf (d + 2) kc ks 145 [(0, .ref 48), (1, .ref w), (4, .int (nI x)), (5, .int (nI (bm left 8))), (7, .int (nI (bm (nxt V left sd) 8)))] [] (HP sk g2 n) Q) :
    ∀ m t g2, t + m = V.J → hasS g2 58 (sdN V (nxt V left sd) t) → (∀ i, i ≠ 58 → g2 i = g i) → T MX8_chainOf (d + 2) kc ks 83 [(0, .ref 48), (1, .ref w), (4, .int (nI x)), (5, .int (nI (bm left 8))), (7, .int (nI (bm (nxt V left sd) t))), (8, .int (nI t))] [] (HP sk g2 n) Q := by
  have hJ8 := hok.1
  intro m
  induction m with
  | zero =>
    intro t g2 ht hS2 hf
    have e : t = V.J := by omega
    subst e
    have e0 : g2 w 0 = nI V.J := by rw [hf w (by omega)]; exact hV.1
    refine T_iload (pc2 := 85) dX8_chainOf_83 rfl rfl ?_
    refine T_aload_n (pc2 := 86) dX8_chainOf_85 rfl rfl ?_
    refine T_iconst (pc2 := 87) dX8_chainOf_86 ic0 rfl ?_
    refine G_iald (pc2 := 88) dX8_chainOf_87 hw (by omega) (by first | decide | omega) (by first | with_reducible assumption | exact gs_eq _ _ _ _ | exact (gs_ne _ _ (by omega)).trans (by with_reducible assumption) | exact (gs_ne _ _ (by omega)).trans (gs_eq _ _ _ _) | exact (gs_ne _ _ (by omega)).trans ((gs_ne _ _ (by omega)).trans (by with_reducible assumption)) | exact (gs_ne _ _ (by omega)).trans ((gs_ne _ _ (by omega)).trans (gs_eq _ _ _ _)) | exact (gs_ne _ _ (by omega)).trans ((gs_ne _ _ (by omega)).trans ((gs_ne _ _ (by omega)).trans (by with_reducible assumption))) | rfl) rfl ?_
    first | refine N_icmpge (pc2 := 91) (tgt := 145) dX8_chainOf_88 (by decide) (by with_reducible rfl) (by with_reducible rfl) (by omega) (by omega) rfl (fun c88 => ?_) (fun c88 => ?_) | refine T_icmpge (pc2 := 91) (tgt := 145) dX8_chainOf_88 (by decide) rfl (fun c88 => ?_) (fun c88 => ?_)
    · refine T_sub (lks (i := 0) rfl (lks (i := 1) rfl (lks (i := 4) rfl (lks (i := 5) rfl (lks (i := 7) rfl lk0))))) ?_
      rw [← bm_up hJ8 (fun i h1 _ => by simp [nxt, Nat.not_lt.mpr h1])]
      exact k g2 hS2 hf
    · exact absurd (by omega) c88
  | succ m ih =>
    intro t g2 ht hS2 hf
    have htl : t < V.J := by omega
    have hV2 : hasM (g2 w) V := by rw [hf w (by omega)]; exact hV
    have hS3 : hasS g2 57 sd := fun q hq => by rw [hf 57 (by omega)]; exact hS q hq
    have e0 := hV2.1
    have ot := hok.2.2.2.1 t htl
    have et := hV2.2.2.2 t htl
    have hno : nxt V left sd t = false → T MX8_chainOf (d + 2) kc ks 139 [(0, .ref 48), (1, .ref w), (4, .int (nI x)), (5, .int (nI (bm left 8))), (7, .int (nI (bm (nxt V left sd) t))), (8, .int (nI t))] [] (HP sk g2 n) Q := fun hN => by
      first | refine N_iinc (pc2 := 142) dX8_chainOf_139 rfl (by with_reducible rfl) ic1 (by decide) rfl ?_ | refine T_iinc (pc2 := 142) dX8_chainOf_139 rfl rfl (by decide) rfl ?_
      refine T_goto (tgt := 83) dX8_chainOf_142 (by decide) ?_
      refine T_sub (lks (i := 0) rfl (lks (i := 1) rfl (lks (i := 4) rfl (lks (i := 5) rfl (lks (i := 7) rfl (lks (i := 8) rfl lk0)))))) ?_
      have e : bm (nxt V left sd) (t + 1) = bm (nxt V left sd) t := by
        show bm (nxt V left sd) t + _ = _
        rw [hN]
        rfl
      have e2 : sdN V (nxt V left sd) (t + 1) = sdN V (nxt V left sd) t := if_neg (by rw [hN]; decide)
      rw [← e]
      exact ih (t + 1) g2 (by omega) (by rw [e2]; exact hS2) hf
    refine T_iload (pc2 := 85) dX8_chainOf_83 rfl rfl ?_
    refine T_aload_n (pc2 := 86) dX8_chainOf_85 rfl rfl ?_
    refine T_iconst (pc2 := 87) dX8_chainOf_86 ic0 rfl ?_
    refine G_iald (pc2 := 88) dX8_chainOf_87 hw (by omega) (by first | decide | omega) (by first | with_reducible assumption | exact gs_eq _ _ _ _ | exact (gs_ne _ _ (by omega)).trans (by with_reducible assumption) | exact (gs_ne _ _ (by omega)).trans (gs_eq _ _ _ _) | exact (gs_ne _ _ (by omega)).trans ((gs_ne _ _ (by omega)).trans (by with_reducible assumption)) | exact (gs_ne _ _ (by omega)).trans ((gs_ne _ _ (by omega)).trans (gs_eq _ _ _ _)) | exact (gs_ne _ _ (by omega)).trans ((gs_ne _ _ (by omega)).trans ((gs_ne _ _ (by omega)).trans (by with_reducible assumption))) | rfl) rfl ?_
    first | refine N_icmpge (pc2 := 91) (tgt := 145) dX8_chainOf_88 (by decide) (by with_reducible rfl) (by with_reducible rfl) (by omega) (by omega) rfl (fun c88 => ?_) (fun c88 => ?_) | refine T_icmpge (pc2 := 91) (tgt := 145) dX8_chainOf_88 (by decide) rfl (fun c88 => ?_) (fun c88 => ?_)
    · exact absurd c88 (by omega)
    · refine T_iload (pc2 := 93) dX8_chainOf_91 rfl rfl ?_
      refine T_iload (pc2 := 95) dX8_chainOf_93 rfl rfl ?_
      refine C_S2 (pc2 := 98) (mc := 0) (ms := 0) dX8_chainOf_95 csX8_has mlX8_167 (Nat.le_of_ble_eq_true rfl) rfl ?_
      refine m_has (by omega) (fun hl => ?_) (fun hl => ?_)
      · first | refine B_ifeq1 (pc2 := 101) (tgt := 139) dX8_chainOf_98 (by with_reducible rfl) (by decide) rfl ?_ | refine B_ifeq0 (tgt := 139) dX8_chainOf_98 (by with_reducible rfl) (by decide) ?_ | refine N_ifeq (pc2 := 101) (tgt := 139) dX8_chainOf_98 (by with_reducible rfl) (by decide) (by omega) rfl (fun c98 => ?_) (fun c98 => ?_) | refine T_ifeq (pc2 := 101) (tgt := 139) dX8_chainOf_98 (by decide) rfl (fun c98 => ?_) (fun c98 => ?_)
        refine T_aload_n (pc2 := 102) dX8_chainOf_101 rfl rfl ?_
        refine T_aload_n (pc2 := 103) dX8_chainOf_102 rfl rfl ?_
        refine T_iload (pc2 := 105) dX8_chainOf_103 rfl rfl ?_
        refine C_V2 (pc2 := 108) (mc := 0) (ms := 0) dX8_chainOf_105 cvX8_setsOff mlX8_171 (isO.h (sh48 S) _) (Nat.le_of_ble_eq_true rfl) rfl ?_
        refine m_setsOff S hw hV2 hok htl hS3 hd (fun hb => ?_) (fun hb => ?_)
        · have hN : nxt V left sd t = true := by simp [nxt, hl, hb, htl]
          first | refine B_ifeq1 (pc2 := 111) (tgt := 139) dX8_chainOf_108 (by with_reducible rfl) (by decide) rfl ?_ | refine B_ifeq0 (tgt := 139) dX8_chainOf_108 (by with_reducible rfl) (by decide) ?_ | refine N_ifeq (pc2 := 111) (tgt := 139) dX8_chainOf_108 (by with_reducible rfl) (by decide) (by omega) rfl (fun c108 => ?_) (fun c108 => ?_) | refine T_ifeq (pc2 := 111) (tgt := 139) dX8_chainOf_108 (by decide) rfl (fun c108 => ?_) (fun c108 => ?_)
          refine T_iload (pc2 := 113) dX8_chainOf_111 rfl rfl ?_
          refine T_iconst (pc2 := 114) dX8_chainOf_113 ic1 rfl ?_
          refine T_iload (pc2 := 116) dX8_chainOf_114 rfl rfl ?_
          refine T_ishl (pc2 := 117) dX8_chainOf_116 rfl ?_
          refine T_ior (pc2 := 118) dX8_chainOf_117 rfl ?_
          rw [bm_add (by omega)]
          refine T_istore (pc2 := 120) dX8_chainOf_118 (by decide) rfl ?_
          refine T_aload_n (pc2 := 121) dX8_chainOf_120 rfl rfl ?_
          refine G_getR (pc2 := 124) dX8_chainOf_121 flX8_37 (sh48 S) rfl rfl ?_
          refine T_aload_n (pc2 := 125) dX8_chainOf_124 rfl rfl ?_
          refine T_iload (pc2 := 127) dX8_chainOf_125 rfl rfl ?_
          refine T_iconst (pc2 := 128) dX8_chainOf_127 ic3 rfl ?_
          refine C_S3 (pc2 := 131) (mc := 0) (ms := 0) dX8_chainOf_128 csX8_of mlX8_154 (Nat.le_of_ble_eq_true rfl) rfl ?_
          refine m_of hw (by omega) et.2.2.2.1 ?_
          refine T_aload_n (pc2 := 132) dX8_chainOf_131 rfl rfl ?_
          refine T_iload (pc2 := 134) dX8_chainOf_132 rfl rfl ?_
          refine T_iconst (pc2 := 135) dX8_chainOf_134 ic1 rfl ?_
          refine C_S3 (pc2 := 138) (mc := 0) (ms := 0) dX8_chainOf_135 csX8_of mlX8_154 (Nat.le_of_ble_eq_true rfl) rfl ?_
          refine m_of hw (by omega) et.2.1 ?_
          refine G_iast (pc2 := 139) dX8_chainOf_138 (sh58 S) (by omega) (by decide) rfl ?_
          first | refine N_iinc (pc2 := 142) dX8_chainOf_139 rfl (by with_reducible rfl) ic1 (by decide) rfl ?_ | refine T_iinc (pc2 := 142) dX8_chainOf_139 rfl rfl (by decide) rfl ?_
          refine T_goto (tgt := 83) dX8_chainOf_142 (by decide) ?_
          refine T_sub (lks (i := 0) rfl (lks (i := 1) rfl (lks (i := 4) rfl (lks (i := 5) rfl (lks (i := 7) rfl (lks (i := 8) rfl lk0)))))) ?_
          have e : bm (nxt V left sd) (t + 1) = bm (nxt V left sd) t + 2 ^ t := by
            show bm (nxt V left sd) t + _ = _
            rw [hN]
            rfl
          have e2 : sdN V (nxt V left sd) (t + 1) = va_up (sdN V (nxt V left sd) t) (V.pl t) (some (V.nt t)) := if_pos hN
          rw [← e]
          refine ih (t + 1) _ (by omega) (fun q hq => ?_) (fun i hi => by rw [gs_row hi]; exact hf i hi)
          rw [e2]
          by_cases eq : q = V.pl t
          · subst eq
            rw [gs_eq]
            simp [va_up, oN]
          · rw [gs_ne _ _ (by omega)]
            simp only [va_up, if_neg eq]
            exact hS2 q hq
        · first | refine B_ifeq1 (pc2 := 111) (tgt := 139) dX8_chainOf_108 (by with_reducible rfl) (by decide) rfl ?_ | refine B_ifeq0 (tgt := 139) dX8_chainOf_108 (by with_reducible rfl) (by decide) ?_ | refine N_ifeq (pc2 := 111) (tgt := 139) dX8_chainOf_108 (by with_reducible rfl) (by decide) (by omega) rfl (fun c108 => ?_) (fun c108 => ?_) | refine T_ifeq (pc2 := 111) (tgt := 139) dX8_chainOf_108 (by decide) rfl (fun c108 => ?_) (fun c108 => ?_)
          exact hno (by simp [nxt, hb])
      · first | refine B_ifeq1 (pc2 := 101) (tgt := 139) dX8_chainOf_98 (by with_reducible rfl) (by decide) rfl ?_ | refine B_ifeq0 (tgt := 139) dX8_chainOf_98 (by with_reducible rfl) (by decide) ?_ | refine N_ifeq (pc2 := 101) (tgt := 139) dX8_chainOf_98 (by with_reducible rfl) (by decide) (by omega) rfl (fun c98 => ?_) (fun c98 => ?_) | refine T_ifeq (pc2 := 101) (tgt := 139) dX8_chainOf_98 (by decide) rfl (fun c98 => ?_) (fun c98 => ?_)
        exact hno (by simp [nxt, hl])
theorem sdok_N {N : Nat → Bool} (hok : okD V) : sdok (sdN V N V.J) := fun p t h => by
  obtain ⟨i, h1, h2, h3, h4⟩ := (sdN_some hok.2.2.2.2 V.J (Nat.le_refl _) p t).mp h
  have := (hok.2.2.2.1 i h1).2.2.1
  omega
theorem ch_loop {whole : Nat → Bool} (S : Sh sk n bf im above below) (hw : isA sk n w .int 43) (hwd : w ≠ 48 ∧ w ≠ 57 ∧ w ≠ 58) (hV : hasM (g w) V) (hok : okD V) :
    ∀ f left sd r g2, ct left 8 ≤ f → r + f ≤ 100 → hasS g2 57 sd → sdok sd → g2 48 21 = nI r → Fc g g2 →
    (∀ g3, g3 48 21 = nI (itC V f left (nxt V left sd) r).2 → Fc g g3 → Q (some (.int (nI (bm (fun j => whole j && !(itC V f left (nxt V left sd) r).1 j) 8)))) (HP sk g3 n)) →
    T MX8_chainOf (d + 2) kc ks 47 [(0, .ref 48), (1, .ref w), (4, .int (nI (bm whole 8))), (5, .int (nI (bm left 8))), (6, .int (nI 1))] [] (HP sk g2 n) Q := by
  intro f
  induction f with
  | zero =>
    intro left sd r g2 hc hr hS hd e21 hf k
    have hsub : ∀ j, nxt V left sd j = true → left j = true := fun j hj => by
      cases hl : left j with
      | true => rfl
      | false => simp [nxt, hl] at hj
    have hN0 : bm (nxt V left sd) 8 = 0 := by
      rw [ct_bm0]
      have := ct_sub hsub 8
      omega
    refine T_iload (pc2 := 49) dX8_chainOf_47 rfl rfl ?_
    first | refine B_ifeq1 (pc2 := 52) (tgt := 218) dX8_chainOf_49 (by with_reducible rfl) (by decide) rfl ?_ | refine B_ifeq0 (tgt := 218) dX8_chainOf_49 (by with_reducible rfl) (by decide) ?_ | refine N_ifeq (pc2 := 52) (tgt := 218) dX8_chainOf_49 (by with_reducible rfl) (by decide) (by omega) rfl (fun c49 => ?_) (fun c49 => ?_) | refine T_ifeq (pc2 := 52) (tgt := 218) dX8_chainOf_49 (by decide) rfl (fun c49 => ?_) (fun c49 => ?_)
    refine T_iconst (pc2 := 53) dX8_chainOf_52 ic0 rfl ?_
    refine T_istore (pc2 := 55) dX8_chainOf_53 (by decide) rfl ?_
    refine T_iconst (pc2 := 56) dX8_chainOf_55 ic0 rfl ?_
    refine T_istore (pc2 := 58) dX8_chainOf_56 (by decide) rfl ?_
    refine T_sub (lks (i := 0) rfl (lks (i := 1) rfl (lks (i := 4) rfl (lks (i := 5) rfl (lks (i := 7) rfl (lks (i := 8) rfl lk0)))))) ?_
    refine ch_c (g := g2) S (fun g3 hn hf3 => ?_) 8 0 g2 rfl (fun q hq => absurd hq (Nat.not_lt_zero q)) (fun _ _ => rfl)
    refine T_iconst (pc2 := 81) dX8_chainOf_80 ic0 rfl ?_
    refine T_istore (pc2 := 83) dX8_chainOf_81 (by decide) rfl ?_
    refine T_sub (lks (i := 0) rfl (lks (i := 1) rfl (lks (i := 4) rfl (lks (i := 5) rfl (lks (i := 7) rfl (lks (i := 8) rfl lk0)))))) ?_
    refine ch_d (g := g3) (sd := sd) S hw hwd (by rw [hf3 w (by omega), hf.1 w (by omega) (by omega) (by omega)]; exact hV) hok (fun q hq => by rw [hf3 57 (by omega)]; exact hS q hq) hd (fun g4 hn4 hf4 => ?_) V.J 0 g3 (by omega) (fun q hq => hn q hq) (fun _ _ => rfl)
    refine T_iconst (pc2 := 146) dX8_chainOf_145 ic0 rfl ?_
    refine T_istore (pc2 := 148) dX8_chainOf_146 (by decide) rfl ?_
    refine T_sub (lks (i := 0) rfl (lks (i := 1) rfl (lks (i := 4) rfl (lks (i := 5) rfl (lks (i := 7) rfl (lks (i := 8) rfl lk0)))))) ?_
    refine ch_e (g := g4) S (fun g5 hn5 hf5 => ?_) 8 0 g4 rfl (fun q hq => absurd hq (Nat.not_lt_zero q)) (fun _ _ => rfl)
    have hFc : Fc g g5 := ((hf.tr (Fc.row hf3 (by omega))).tr (Fc.row hf4 (by omega))).tr (Fc.row hf5 (by omega))
    have e21b : g5 48 21 = nI r := by rw [hf5 48 (by omega), hf4 48 (by omega), hf3 48 (by omega)]; exact e21
    have hbl := bm_lt (nxt V left sd) 8
    rw [hN0]
    refine T_iload (pc2 := 177) dX8_chainOf_175 rfl rfl ?_
    refine T_iload (pc2 := 179) dX8_chainOf_177 rfl rfl ?_
    refine T_iconst (pc2 := 180) dX8_chainOf_179 icm1 rfl ?_
    refine T_ixor (pc2 := 181) dX8_chainOf_180 rfl ?_
    refine T_iand (pc2 := 182) dX8_chainOf_181 rfl ?_
    refine T_istore (pc2 := 184) dX8_chainOf_182 (by decide) rfl ?_
    refine T_iload (pc2 := 186) dX8_chainOf_184 rfl rfl ?_
    first | refine B_ifeq1 (pc2 := 189) (tgt := 193) dX8_chainOf_186 (by with_reducible rfl) (by decide) rfl ?_ | refine B_ifeq0 (tgt := 193) dX8_chainOf_186 (by with_reducible rfl) (by decide) ?_ | refine N_ifeq (pc2 := 189) (tgt := 193) dX8_chainOf_186 (by with_reducible rfl) (by decide) (by omega) rfl (fun c186 => ?_) (fun c186 => ?_) | refine T_ifeq (pc2 := 189) (tgt := 193) dX8_chainOf_186 (by decide) rfl (fun c186 => ?_) (fun c186 => ?_)
    · refine T_iconst (pc2 := 194) dX8_chainOf_193 ic0 rfl ?_
      refine T_istore (pc2 := 196) dX8_chainOf_194 (by decide) rfl ?_
      refine T_aload_n (pc2 := 197) dX8_chainOf_196 rfl rfl ?_
      refine T_dup (pc2 := 198) dX8_chainOf_197 rfl rfl ?_
      refine G_getI (pc2 := 201) dX8_chainOf_198 flX8_164 (sh48 S) rfl (by first | with_reducible assumption | exact gs_eq _ _ _ _ | exact (gs_ne _ _ (by omega)).trans (by with_reducible assumption) | exact (gs_ne _ _ (by omega)).trans (gs_eq _ _ _ _) | exact (gs_ne _ _ (by omega)).trans ((gs_ne _ _ (by omega)).trans (by with_reducible assumption)) | exact (gs_ne _ _ (by omega)).trans ((gs_ne _ _ (by omega)).trans (gs_eq _ _ _ _)) | exact (gs_ne _ _ (by omega)).trans ((gs_ne _ _ (by omega)).trans ((gs_ne _ _ (by omega)).trans (by with_reducible assumption))) | rfl) rfl ?_
      refine T_iload (pc2 := 203) dX8_chainOf_201 rfl rfl ?_
      first | refine B_ifeq1 (pc2 := 206) (tgt := 210) dX8_chainOf_203 (by with_reducible rfl) (by decide) rfl ?_ | refine B_ifeq0 (tgt := 210) dX8_chainOf_203 (by with_reducible rfl) (by decide) ?_ | refine N_ifeq (pc2 := 206) (tgt := 210) dX8_chainOf_203 (by with_reducible rfl) (by decide) (by omega) rfl (fun c203 => ?_) (fun c203 => ?_) | refine T_ifeq (pc2 := 206) (tgt := 210) dX8_chainOf_203 (by decide) rfl (fun c203 => ?_) (fun c203 => ?_)
      refine T_iconst (pc2 := 211) dX8_chainOf_210 ic0 rfl ?_
      first | refine N_iadd (pc2 := 212) dX8_chainOf_211 (by with_reducible rfl) (by with_reducible rfl) rfl ?_ | refine T_iadd (pc2 := 212) dX8_chainOf_211 rfl ?_
      refine G_putI (pc2 := 215) dX8_chainOf_212 flX8_164 (sh48 S) rfl rfl rfl rfl ?_
      refine T_goto (tgt := 47) dX8_chainOf_215 (by decide) ?_
      refine T_iload (pc2 := 49) dX8_chainOf_47 rfl rfl ?_
      first | refine B_ifeq1 (pc2 := 52) (tgt := 218) dX8_chainOf_49 (by with_reducible rfl) (by decide) rfl ?_ | refine B_ifeq0 (tgt := 218) dX8_chainOf_49 (by with_reducible rfl) (by decide) ?_ | refine N_ifeq (pc2 := 52) (tgt := 218) dX8_chainOf_49 (by with_reducible rfl) (by decide) (by omega) rfl (fun c49 => ?_) (fun c49 => ?_) | refine T_ifeq (pc2 := 52) (tgt := 218) dX8_chainOf_49 (by decide) rfl (fun c49 => ?_) (fun c49 => ?_)
      refine T_iload (pc2 := 220) dX8_chainOf_218 rfl rfl ?_
      refine T_iload (pc2 := 222) dX8_chainOf_220 rfl rfl ?_
      refine T_iconst (pc2 := 223) dX8_chainOf_222 icm1 rfl ?_
      refine T_ixor (pc2 := 224) dX8_chainOf_223 rfl ?_
      refine T_iand (pc2 := 225) dX8_chainOf_224 rfl ?_
      rw [show nI (bm left 8) &&& (nI 0 ^^^ (-1)) = nI (bm left 8) by have := bm_not left (fun _ => false) 8; rw [bm_0] at this; rw [this]; congr 1; exact bm_cg (fun j _ => by simp), bm_not]
      refine T_iret dX8_chainOf_225 rfl rfl ?_
      refine k _ (by rw [gs_eq]; rfl) (hFc.st (by omega))
  | succ f ih =>
    intro left sd r g2 hc hr hS hd e21 hf k
    have hsub : ∀ j, nxt V left sd j = true → left j = true := fun j hj => by
      cases hl : left j with
      | true => rfl
      | false => simp [nxt, hl] at hj
    have hcs := ct_sub hsub 8
    refine T_iload (pc2 := 49) dX8_chainOf_47 rfl rfl ?_
    first | refine B_ifeq1 (pc2 := 52) (tgt := 218) dX8_chainOf_49 (by with_reducible rfl) (by decide) rfl ?_ | refine B_ifeq0 (tgt := 218) dX8_chainOf_49 (by with_reducible rfl) (by decide) ?_ | refine N_ifeq (pc2 := 52) (tgt := 218) dX8_chainOf_49 (by with_reducible rfl) (by decide) (by omega) rfl (fun c49 => ?_) (fun c49 => ?_) | refine T_ifeq (pc2 := 52) (tgt := 218) dX8_chainOf_49 (by decide) rfl (fun c49 => ?_) (fun c49 => ?_)
    refine T_iconst (pc2 := 53) dX8_chainOf_52 ic0 rfl ?_
    refine T_istore (pc2 := 55) dX8_chainOf_53 (by decide) rfl ?_
    refine T_iconst (pc2 := 56) dX8_chainOf_55 ic0 rfl ?_
    refine T_istore (pc2 := 58) dX8_chainOf_56 (by decide) rfl ?_
    refine T_sub (lks (i := 0) rfl (lks (i := 1) rfl (lks (i := 4) rfl (lks (i := 5) rfl (lks (i := 7) rfl (lks (i := 8) rfl lk0)))))) ?_
    refine ch_c (g := g2) S (fun g3 hn hf3 => ?_) 8 0 g2 rfl (fun q hq => absurd hq (Nat.not_lt_zero q)) (fun _ _ => rfl)
    refine T_iconst (pc2 := 81) dX8_chainOf_80 ic0 rfl ?_
    refine T_istore (pc2 := 83) dX8_chainOf_81 (by decide) rfl ?_
    refine T_sub (lks (i := 0) rfl (lks (i := 1) rfl (lks (i := 4) rfl (lks (i := 5) rfl (lks (i := 7) rfl (lks (i := 8) rfl lk0)))))) ?_
    refine ch_d (g := g3) (sd := sd) S hw hwd (by rw [hf3 w (by omega), hf.1 w (by omega) (by omega) (by omega)]; exact hV) hok (fun q hq => by rw [hf3 57 (by omega)]; exact hS q hq) hd (fun g4 hn4 hf4 => ?_) V.J 0 g3 (by omega) (fun q hq => hn q hq) (fun _ _ => rfl)
    refine T_iconst (pc2 := 146) dX8_chainOf_145 ic0 rfl ?_
    refine T_istore (pc2 := 148) dX8_chainOf_146 (by decide) rfl ?_
    refine T_sub (lks (i := 0) rfl (lks (i := 1) rfl (lks (i := 4) rfl (lks (i := 5) rfl (lks (i := 7) rfl (lks (i := 8) rfl lk0)))))) ?_
    refine ch_e (g := g4) S (fun g5 hn5 hf5 => ?_) 8 0 g4 rfl (fun q hq => absurd hq (Nat.not_lt_zero q)) (fun _ _ => rfl)
    have hFc : Fc g g5 := ((hf.tr (Fc.row hf3 (by omega))).tr (Fc.row hf4 (by omega))).tr (Fc.row hf5 (by omega))
    have e21b : g5 48 21 = nI r := by rw [hf5 48 (by omega), hf4 48 (by omega), hf3 48 (by omega)]; exact e21
    have hbl := bm_lt (nxt V left sd) 8
    have hS5 : hasS g5 57 (sdN V (nxt V left sd) V.J) := fun q hq => by rw [hn5 q hq]; exact hn4 q hq
    refine T_iload (pc2 := 177) dX8_chainOf_175 rfl rfl ?_
    refine T_iload (pc2 := 179) dX8_chainOf_177 rfl rfl ?_
    refine T_iconst (pc2 := 180) dX8_chainOf_179 icm1 rfl ?_
    refine T_ixor (pc2 := 181) dX8_chainOf_180 rfl ?_
    refine T_iand (pc2 := 182) dX8_chainOf_181 rfl ?_
    refine T_istore (pc2 := 184) dX8_chainOf_182 (by decide) rfl ?_
    refine T_iload (pc2 := 186) dX8_chainOf_184 rfl rfl ?_
    first | refine B_ifeq1 (pc2 := 189) (tgt := 193) dX8_chainOf_186 (by with_reducible rfl) (by decide) rfl ?_ | refine B_ifeq0 (tgt := 193) dX8_chainOf_186 (by with_reducible rfl) (by decide) ?_ | refine N_ifeq (pc2 := 189) (tgt := 193) dX8_chainOf_186 (by with_reducible rfl) (by decide) (by omega) rfl (fun c186 => ?_) (fun c186 => ?_) | refine T_ifeq (pc2 := 189) (tgt := 193) dX8_chainOf_186 (by decide) rfl (fun c186 => ?_) (fun c186 => ?_)
    · rw [bm_not]
      have hst : itC V (f + 1) left (nxt V left sd) r = (left, r) := if_pos c186
      rw [hst] at k
      refine T_iconst (pc2 := 194) dX8_chainOf_193 ic0 rfl ?_
      refine T_istore (pc2 := 196) dX8_chainOf_194 (by decide) rfl ?_
      refine T_aload_n (pc2 := 197) dX8_chainOf_196 rfl rfl ?_
      refine T_dup (pc2 := 198) dX8_chainOf_197 rfl rfl ?_
      refine G_getI (pc2 := 201) dX8_chainOf_198 flX8_164 (sh48 S) rfl (by first | with_reducible assumption | exact gs_eq _ _ _ _ | exact (gs_ne _ _ (by omega)).trans (by with_reducible assumption) | exact (gs_ne _ _ (by omega)).trans (gs_eq _ _ _ _) | exact (gs_ne _ _ (by omega)).trans ((gs_ne _ _ (by omega)).trans (by with_reducible assumption)) | exact (gs_ne _ _ (by omega)).trans ((gs_ne _ _ (by omega)).trans (gs_eq _ _ _ _)) | exact (gs_ne _ _ (by omega)).trans ((gs_ne _ _ (by omega)).trans ((gs_ne _ _ (by omega)).trans (by with_reducible assumption))) | rfl) rfl ?_
      refine T_iload (pc2 := 203) dX8_chainOf_201 rfl rfl ?_
      first | refine B_ifeq1 (pc2 := 206) (tgt := 210) dX8_chainOf_203 (by with_reducible rfl) (by decide) rfl ?_ | refine B_ifeq0 (tgt := 210) dX8_chainOf_203 (by with_reducible rfl) (by decide) ?_ | refine N_ifeq (pc2 := 206) (tgt := 210) dX8_chainOf_203 (by with_reducible rfl) (by decide) (by omega) rfl (fun c203 => ?_) (fun c203 => ?_) | refine T_ifeq (pc2 := 206) (tgt := 210) dX8_chainOf_203 (by decide) rfl (fun c203 => ?_) (fun c203 => ?_)
      refine T_iconst (pc2 := 211) dX8_chainOf_210 ic0 rfl ?_
      first | refine N_iadd (pc2 := 212) dX8_chainOf_211 (by with_reducible rfl) (by with_reducible rfl) rfl ?_ | refine T_iadd (pc2 := 212) dX8_chainOf_211 rfl ?_
      refine G_putI (pc2 := 215) dX8_chainOf_212 flX8_164 (sh48 S) rfl rfl rfl rfl ?_
      refine T_goto (tgt := 47) dX8_chainOf_215 (by decide) ?_
      refine T_iload (pc2 := 49) dX8_chainOf_47 rfl rfl ?_
      first | refine B_ifeq1 (pc2 := 52) (tgt := 218) dX8_chainOf_49 (by with_reducible rfl) (by decide) rfl ?_ | refine B_ifeq0 (tgt := 218) dX8_chainOf_49 (by with_reducible rfl) (by decide) ?_ | refine N_ifeq (pc2 := 52) (tgt := 218) dX8_chainOf_49 (by with_reducible rfl) (by decide) (by omega) rfl (fun c49 => ?_) (fun c49 => ?_) | refine T_ifeq (pc2 := 52) (tgt := 218) dX8_chainOf_49 (by decide) rfl (fun c49 => ?_) (fun c49 => ?_)
      refine T_iload (pc2 := 220) dX8_chainOf_218 rfl rfl ?_
      refine T_iload (pc2 := 222) dX8_chainOf_220 rfl rfl ?_
      refine T_iconst (pc2 := 223) dX8_chainOf_222 icm1 rfl ?_
      refine T_ixor (pc2 := 224) dX8_chainOf_223 rfl ?_
      refine T_iand (pc2 := 225) dX8_chainOf_224 rfl ?_
      rw [bm_not]
      refine T_iret dX8_chainOf_225 rfl rfl ?_
      have e : bm (fun j => whole j && !(left j && !nxt V left sd j)) 8 = bm (fun j => whole j && !left j) 8 := bm_cg (fun j hj => by
        have : nxt V left sd j = false := bm_inj (q := fun _ => false) (by rw [c186, bm_0]) j hj
        simp [this])
      rw [e]
      exact k _ (by rw [gs_eq]; rfl) (hFc.st (by omega))
    · rw [bm_not]
      have hst : itC V (f + 1) left (nxt V left sd) r = itC V f (fun j => left j && !nxt V left sd j) (nxt V (fun j => left j && !nxt V left sd j) (sdN V (nxt V left sd) V.J)) (r + 1) := by
        rw [nxt_brk hok]
        exact if_neg c186
      rw [hst] at k
      have hpos : ct (nxt V left sd) 8 ≠ 0 := fun z => c186 (ct_bm0.mpr z)
      refine T_iconst (pc2 := 190) dX8_chainOf_189 ic1 rfl ?_
      refine T_goto (tgt := 194) dX8_chainOf_190 (by decide) ?_
      refine T_istore (pc2 := 196) dX8_chainOf_194 (by decide) rfl ?_
      refine T_aload_n (pc2 := 197) dX8_chainOf_196 rfl rfl ?_
      refine T_dup (pc2 := 198) dX8_chainOf_197 rfl rfl ?_
      refine G_getI (pc2 := 201) dX8_chainOf_198 flX8_164 (sh48 S) rfl (by first | with_reducible assumption | exact gs_eq _ _ _ _ | exact (gs_ne _ _ (by omega)).trans (by with_reducible assumption) | exact (gs_ne _ _ (by omega)).trans (gs_eq _ _ _ _) | exact (gs_ne _ _ (by omega)).trans ((gs_ne _ _ (by omega)).trans (by with_reducible assumption)) | exact (gs_ne _ _ (by omega)).trans ((gs_ne _ _ (by omega)).trans (gs_eq _ _ _ _)) | exact (gs_ne _ _ (by omega)).trans ((gs_ne _ _ (by omega)).trans ((gs_ne _ _ (by omega)).trans (by with_reducible assumption))) | rfl) rfl ?_
      refine T_iload (pc2 := 203) dX8_chainOf_201 rfl rfl ?_
      first | refine B_ifeq1 (pc2 := 206) (tgt := 210) dX8_chainOf_203 (by with_reducible rfl) (by decide) rfl ?_ | refine B_ifeq0 (tgt := 210) dX8_chainOf_203 (by with_reducible rfl) (by decide) ?_ | refine N_ifeq (pc2 := 206) (tgt := 210) dX8_chainOf_203 (by with_reducible rfl) (by decide) (by omega) rfl (fun c203 => ?_) (fun c203 => ?_) | refine T_ifeq (pc2 := 206) (tgt := 210) dX8_chainOf_203 (by decide) rfl (fun c203 => ?_) (fun c203 => ?_)
      refine T_iconst (pc2 := 207) dX8_chainOf_206 ic1 rfl ?_
      refine T_goto (tgt := 211) dX8_chainOf_207 (by decide) ?_
      first | refine N_iadd (pc2 := 212) dX8_chainOf_211 (by with_reducible rfl) (by with_reducible rfl) rfl ?_ | refine T_iadd (pc2 := 212) dX8_chainOf_211 rfl ?_
      refine G_putI (pc2 := 215) dX8_chainOf_212 flX8_164 (sh48 S) rfl rfl rfl rfl ?_
      refine T_goto (tgt := 47) dX8_chainOf_215 (by decide) ?_
      refine T_sub (lks (i := 0) rfl (lks (i := 1) rfl (lks (i := 4) rfl (lks (i := 5) rfl (lks (i := 6) rfl lk0))))) ?_
      refine ih (fun j => left j && !nxt V left sd j) (sdN V (nxt V left sd) V.J) (r + 1) _ (by omega) (by omega) (fun q hq => ?_) (sdok_N hok) (gs_eq _ _ _ _) (hFc.st (by omega)) k
      rw [gs_ne _ _ (by omega)]
      exact hS5 q hq
theorem m_chain {note p : Nat} {whole : Nat → Bool} (S : Sh sk n bf im above below) (hw : isA sk n w .int 43) (hwd : w ≠ 48 ∧ w ≠ 57 ∧ w ≠ 58) (hV : hasM (g w) V) (hok : okD V) (hn : note < 12) (hp : p < V.J)
    (k : ∀ g3, g3 48 21 = nI (V.chn note p whole).2 → Fc g g3 → Q (some (.int (nI (bm (V.brk note p whole) 8)))) (HP sk g3 n)) : Calls MX8_chainOf (d + 2) 0 0 [.ref 48, .ref w, .int (nI note), .int (nI p), .int (nI (bm whole 8))] (HP sk g n) Q := by
  have hJ8 := hok.1
  refine Calls.of (by decide +kernel) (Nat.le_of_ble_eq_true rfl) ?_
  refine T_iconst (pc2 := 1) dX8_chainOf_0 ic0 rfl ?_
  refine T_istore (pc2 := 3) dX8_chainOf_1 (by decide) rfl ?_
  refine T_sub (lks (i := 0) rfl (lks (i := 1) rfl (lks (i := 2) rfl (lks (i := 3) rfl (lks (i := 4) rfl (lks (i := 5) rfl lk0)))))) ?_
  refine ch_a (g := g) S (by omega) (fun g2 hS hf => ?_) 8 0 g rfl (fun q hq => absurd hq (Nat.not_lt_zero q)) Fc.rf
  refine T_iload (pc2 := 37) dX8_chainOf_35 rfl rfl ?_
  refine T_istore (pc2 := 39) dX8_chainOf_37 (by decide) rfl ?_
  refine T_iconst (pc2 := 40) dX8_chainOf_39 ic1 rfl ?_
  refine T_istore (pc2 := 42) dX8_chainOf_40 (by decide) rfl ?_
  refine T_aload_n (pc2 := 43) dX8_chainOf_42 rfl rfl ?_
  refine T_iconst (pc2 := 44) dX8_chainOf_43 ic0 rfl ?_
  refine G_putI (pc2 := 47) dX8_chainOf_44 flX8_164 (sh48 S) rfl rfl rfl rfl ?_
  refine T_sub (lks (i := 0) rfl (lks (i := 1) rfl (lks (i := 4) rfl (lks (i := 5) rfl (lks (i := 6) rfl lk0))))) ?_
  refine ch_loop (g := g) S hw hwd hV hok 8 whole (sd1 note p) 0 _ (ct_le _ _) (by omega) (fun q hq => by rw [gs_ne _ _ (by omega)]; exact hS q hq) (fun q t h => ?_) (gs_eq _ _ _ _) (hf.st (by omega)) ?_
  · unfold sd1 at h
    split at h
    · cases h; exact hn
    · cases h
  · rw [nxt_one hok hp]
    exact k
end MChain2

