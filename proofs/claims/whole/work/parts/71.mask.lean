/-! the model: copies, asks, draws -/
def hasTm (g : Nat → Nat → Int32) (tr : List Nat) : Prop := g 48 27 = nI tr.length ∧ ∀ i v, tr[i]? = some v → g 61 i = nI v
def Ft (g g2 : Nat → Nat → Int32) : Prop := (∀ i, i ≠ 48 → i ≠ 61 → g2 i = g i) ∧ ∀ k, k ≠ 27 → g2 48 k = g 48 k
theorem Ft.rf {g : Nat → Nat → Int32} : Ft g g := ⟨fun _ _ _ => rfl, fun _ _ => rfl⟩
theorem Ft.tr {g g2 g3 : Nat → Nat → Int32} (h : Ft g g2) (h2 : Ft g2 g3) : Ft g g3 := ⟨fun i a b => (h2.1 i a b).trans (h.1 i a b), fun k hk => (h2.2 k hk).trans (h.2 k hk)⟩
section MAsk
variable {sk : Nat → SK} {g : Nat → Nat → Int32} {n w : Nat} {V : Cel} {Q : Option Value → SH → Prop} {d kc ks : Nat} {bf im : Nat → Option Nat} {above below : Int64} {h : SH} {s : ST}
theorem InvM.tr {g2 : Nat → Nat → Int32} {tr : List Nat} (h : InvM g s) (hT : hasTm g2 tr) (hf : Ft g g2) : InvM g2 (s.settr tr) := by
  unfold InvM hasRm at h ⊢
  rw [hf.1 49 (by decide) (by decide), hf.1 50 (by decide) (by decide), hf.1 51 (by decide) (by decide), hf.1 52 (by decide) (by decide), hf.1 55 (by decide) (by decide), hf.1 56 (by decide) (by decide), hf.1 59 (by decide) (by decide), hf.1 60 (by decide) (by decide), hf.2 1 (by decide), hf.2 9 (by decide), hf.2 11 (by decide), hf.2 18 (by decide)]
  exact ⟨h.1, h.2.1, h.2.2.1, h.2.2.2.1, h.2.2.2.2.1, hT, h.2.2.2.2.2.2⟩
theorem m_began {tr : List Nat} {v : Nat} (S : Sh sk n bf im above below) (hT : hasTm g tr) (hl : tr.length < 16) (k : ∀ g2, hasTm g2 (tr ++ [v]) → Ft g g2 → Q none (HP sk g2 n)) : Calls MX8_began d 0 0 [.ref 48, .int (nI v)] (HP sk g n) Q := by
  refine Calls.of (by decide +kernel) (Nat.le_of_ble_eq_true rfl) ?_
  have e := hT.1
  refine T_aload_n (pc2 := 1) dX8_began_0 rfl rfl ?_
  refine G_getI (pc2 := 4) dX8_began_1 flX8_267 (sh48 S) rfl (by first | with_reducible assumption | exact gs_eq _ _ _ _ | exact (gs_ne _ _ (by omega)).trans (by with_reducible assumption) | exact (gs_ne _ _ (by omega)).trans (gs_eq _ _ _ _) | exact (gs_ne _ _ (by omega)).trans ((gs_ne _ _ (by omega)).trans (by with_reducible assumption)) | exact (gs_ne _ _ (by omega)).trans ((gs_ne _ _ (by omega)).trans (gs_eq _ _ _ _)) | exact (gs_ne _ _ (by omega)).trans ((gs_ne _ _ (by omega)).trans ((gs_ne _ _ (by omega)).trans (by with_reducible assumption))) | rfl) rfl ?_
  refine T_bipush (pc2 := 6) dX8_began_4 bp16 rfl ?_
  first | refine N_icmpge (pc2 := 9) (tgt := 29) dX8_began_6 (by decide) (by with_reducible rfl) (by with_reducible rfl) (by omega) (by omega) rfl (fun c6 => ?_) (fun c6 => ?_) | refine T_icmpge (pc2 := 9) (tgt := 29) dX8_began_6 (by decide) rfl (fun c6 => ?_) (fun c6 => ?_)
  · exact absurd c6 (by omega)
  · have e2 : gset g 61 tr.length (nI v) 48 27 = nI tr.length := by rw [gs_ne _ _ (by omega)]; exact e
    refine T_aload_n (pc2 := 10) dX8_began_9 rfl rfl ?_
    refine G_getR (pc2 := 13) dX8_began_10 flX8_47 (sh48 S) rfl rfl ?_
    refine T_aload_n (pc2 := 14) dX8_began_13 rfl rfl ?_
    refine G_getI (pc2 := 17) dX8_began_14 flX8_267 (sh48 S) rfl (by first | with_reducible assumption | exact gs_eq _ _ _ _ | exact (gs_ne _ _ (by omega)).trans (by with_reducible assumption) | exact (gs_ne _ _ (by omega)).trans (gs_eq _ _ _ _) | exact (gs_ne _ _ (by omega)).trans ((gs_ne _ _ (by omega)).trans (by with_reducible assumption)) | exact (gs_ne _ _ (by omega)).trans ((gs_ne _ _ (by omega)).trans (gs_eq _ _ _ _)) | exact (gs_ne _ _ (by omega)).trans ((gs_ne _ _ (by omega)).trans ((gs_ne _ _ (by omega)).trans (by with_reducible assumption))) | rfl) rfl ?_
    refine T_iload_n (pc2 := 18) dX8_began_17 rfl rfl ?_
    refine G_iast (pc2 := 19) dX8_began_18 (sh61 S) (by omega) (by decide) rfl ?_
    refine T_aload_n (pc2 := 20) dX8_began_19 rfl rfl ?_
    refine T_dup (pc2 := 21) dX8_began_20 rfl rfl ?_
    refine G_getI (pc2 := 24) dX8_began_21 flX8_267 (sh48 S) rfl (by first | with_reducible assumption | exact gs_eq _ _ _ _ | exact (gs_ne _ _ (by omega)).trans (by with_reducible assumption) | exact (gs_ne _ _ (by omega)).trans (gs_eq _ _ _ _) | exact (gs_ne _ _ (by omega)).trans ((gs_ne _ _ (by omega)).trans (by with_reducible assumption)) | exact (gs_ne _ _ (by omega)).trans ((gs_ne _ _ (by omega)).trans (gs_eq _ _ _ _)) | exact (gs_ne _ _ (by omega)).trans ((gs_ne _ _ (by omega)).trans ((gs_ne _ _ (by omega)).trans (by with_reducible assumption))) | rfl) rfl ?_
    refine T_iconst (pc2 := 25) dX8_began_24 ic1 rfl ?_
    first | refine N_iadd (pc2 := 26) dX8_began_25 (by with_reducible rfl) (by with_reducible rfl) rfl ?_ | refine T_iadd (pc2 := 26) dX8_began_25 rfl ?_
    refine G_putI (pc2 := 29) dX8_began_26 flX8_267 (sh48 S) rfl rfl rfl rfl ?_
    refine T_ret dX8_began_29 rfl ?_
    refine k _ ⟨?_, fun i x hx => ?_⟩ ⟨fun i h1 h2 => by rw [gs_row h1, gs_row h2], fun q hq => by rw [gs_ne _ _ (by omega), gs_ne _ _ (by omega)]⟩
    · rw [gs_eq, List.length_append]
      rfl
    · rw [gs_row (by decide)]
      by_cases ei : i < tr.length
      · rw [List.getElem?_append_left ei] at hx
        rw [gs_ne _ _ (by omega)]
        exact hT.2 i x hx
      · rw [List.getElem?_append_right (by omega)] at hx
        have hi : i - tr.length = 0 := by
          have := (List.getElem?_eq_some_iff.mp hx).1
          simp at this
          omega
        rw [hi] at hx
        cases hx
        rw [show i = tr.length by omega, gs_eq]
theorem m_plain {tr : List Nat} {j : Nat} (S : Sh sk n bf im above below) (hV : hasM (g 52) V) (hok : okC V) (hj : j < V.J) (hT : hasTm g tr) (hl : tr.length < 16) (k : ∀ g2, hasTm g2 (tr ++ [10]) → Ft g g2 → Q (some (.int (nI (V.nt j)))) (HP sk g2 n)) : Calls MX8_plainSize (d + 1) 0 0 [.ref 48, .int (nI j)] (HP sk g n) Q := by
  have hJ8 := hok.1
  refine Calls.of (by decide +kernel) (Nat.le_of_ble_eq_true rfl) ?_
  refine T_aload_n (pc2 := 1) dX8_plainSize_0 rfl rfl ?_
  refine T_bipush (pc2 := 3) dX8_plainSize_1 bp10 rfl ?_
  refine C_V1 (pc2 := 6) (mc := 0) (ms := 0) dX8_plainSize_3 cvX8_began mlX8_270 (isO.h (sh48 S) _) (Nat.le_of_ble_eq_true rfl) rfl ?_
  refine m_began S hT hl (fun g2 hT2 hf => ?_)
  have hV2 : hasM (g2 52) V := by rw [hf.1 52 (by decide) (by decide)]; exact hV
  refine T_aload_n (pc2 := 7) dX8_plainSize_6 rfl rfl ?_
  refine G_getR (pc2 := 10) dX8_plainSize_7 flX8_19 (sh48 S) rfl rfl ?_
  refine T_iload_n (pc2 := 11) dX8_plainSize_10 rfl rfl ?_
  refine T_iconst (pc2 := 12) dX8_plainSize_11 ic1 rfl ?_
  refine C_S3 (pc2 := 15) (mc := 0) (ms := 0) dX8_plainSize_12 csX8_of mlX8_154 (Nat.le_of_ble_eq_true rfl) rfl ?_
  refine m_of (sh52 S) (by omega) (hV2.2.2.2 j hj).2.1 ?_
  refine T_iret dX8_plainSize_15 rfl rfl ?_
  exact k g2 hT2 hf
theorem app2 (tr : List Nat) (a b : Nat) : tr ++ [a] ++ [b] = tr ++ [a, b] := by simp
theorem app3 (tr : List Nat) (a b c : Nat) : tr ++ [a] ++ [b] ++ [c] = tr ++ [a, b, c] := by simp
theorem m_stone {tr : List Nat} {j : Nat} (S : Sh sk n bf im above below) (hV : hasM (g 52) V) (hok : okC V) (hj : j < V.J) (hk4 : 4 ≤ V.kd j) (hT : hasTm g tr) (hl : tr.length ≤ 10) (k : ∀ g2, hasTm g2 (tr ++ szL (V.kd j)) → Ft g g2 → Q (some (.int (szV (V.kd j) j (V.nt j) (V.kp j)))) (HP sk g2 n)) : Calls MX8_stoneSize (d + 2) 0 0 [.ref 48, .int (nI j)] (HP sk g n) Q := by
  have hJ8 := hok.1
  have oj := hok.2.2.2.1 j hj
  refine Calls.of (by decide +kernel) (Nat.le_of_ble_eq_true rfl) ?_
  refine T_aload_n (pc2 := 1) dX8_stoneSize_0 rfl rfl ?_
  refine G_getR (pc2 := 4) dX8_stoneSize_1 flX8_19 (sh48 S) rfl rfl ?_
  refine T_iload_n (pc2 := 5) dX8_stoneSize_4 rfl rfl ?_
  refine T_iconst (pc2 := 6) dX8_stoneSize_5 ic0 rfl ?_
  refine C_S3 (pc2 := 9) (mc := 0) (ms := 0) dX8_stoneSize_6 csX8_of mlX8_154 (Nat.le_of_ble_eq_true rfl) rfl ?_
  refine m_of (sh52 S) (by omega) (hV.2.2.2 j hj).1 ?_
  rcases (by omega : V.kd j = 4 ∨ V.kd j = 5) with e | e
  · rw [e] at k ⊢
    refine T_iconst (pc2 := 10) dX8_stoneSize_9 ic5 rfl ?_
    first | refine N_icmpne (pc2 := 13) (tgt := 17) dX8_stoneSize_10 (by decide) (by with_reducible rfl) (by with_reducible rfl) (by omega) (by omega) rfl (fun c10 => ?_) (fun c10 => ?_) | refine T_icmpne (pc2 := 13) (tgt := 17) dX8_stoneSize_10 (by decide) rfl (fun c10 => ?_) (fun c10 => ?_)
    · refine T_iconst (pc2 := 18) dX8_stoneSize_17 ic0 rfl ?_
      refine T_istore_n (pc2 := 19) dX8_stoneSize_18 (by decide) rfl ?_
      refine T_iload_n (pc2 := 20) dX8_stoneSize_19 rfl rfl ?_
      first | refine B_ifeq1 (pc2 := 23) (tgt := 29) dX8_stoneSize_20 (by with_reducible rfl) (by decide) rfl ?_ | refine B_ifeq0 (tgt := 29) dX8_stoneSize_20 (by with_reducible rfl) (by decide) ?_ | refine N_ifeq (pc2 := 23) (tgt := 29) dX8_stoneSize_20 (by with_reducible rfl) (by decide) (by omega) rfl (fun c20 => ?_) (fun c20 => ?_) | refine T_ifeq (pc2 := 23) (tgt := 29) dX8_stoneSize_20 (by decide) rfl (fun c20 => ?_) (fun c20 => ?_)
      refine T_aload_n (pc2 := 30) dX8_stoneSize_29 rfl rfl ?_
      refine T_bipush (pc2 := 32) dX8_stoneSize_30 bp13 rfl ?_
      refine C_V1 (pc2 := 35) (mc := 0) (ms := 0) dX8_stoneSize_32 cvX8_began mlX8_270 (isO.h (sh48 S) _) (Nat.le_of_ble_eq_true rfl) rfl ?_
      refine m_began S hT (by omega) (fun g2 hT2 hf2 => ?_)
      have hV2 : hasM (g2 52) V := by rw [hf2.1 52 (by decide) (by decide)]; exact hV
      refine T_aload_n (pc2 := 36) dX8_stoneSize_35 rfl rfl ?_
      refine T_iload_n (pc2 := 37) dX8_stoneSize_36 rfl rfl ?_
      refine C_V1 (pc2 := 40) (mc := 0) (ms := 0) dX8_stoneSize_37 cvX8_plainSize mlX8_273 (isO.h (sh48 S) _) (Nat.le_of_ble_eq_true rfl) rfl ?_
      refine m_plain S hV2 hok hj hT2 (by simp; omega) (fun g3 hT3 hf3 => ?_)
      rw [app2] at hT3
      refine T_bipush (pc2 := 42) dX8_stoneSize_40 bp100 rfl ?_
      refine T_isub (pc2 := 43) dX8_stoneSize_42 rfl ?_
      refine T_istore_n (pc2 := 44) dX8_stoneSize_43 (by decide) rfl ?_
      refine T_iload_n (pc2 := 45) dX8_stoneSize_44 rfl rfl ?_
      first | refine B_ifeq1 (pc2 := 48) (tgt := 54) dX8_stoneSize_45 (by with_reducible rfl) (by decide) rfl ?_ | refine B_ifeq0 (tgt := 54) dX8_stoneSize_45 (by with_reducible rfl) (by decide) ?_ | refine N_ifeq (pc2 := 48) (tgt := 54) dX8_stoneSize_45 (by with_reducible rfl) (by decide) (by omega) rfl (fun c45 => ?_) (fun c45 => ?_) | refine T_ifeq (pc2 := 48) (tgt := 54) dX8_stoneSize_45 (by decide) rfl (fun c45 => ?_) (fun c45 => ?_)
      refine T_iload_n (pc2 := 55) dX8_stoneSize_54 rfl rfl ?_
      refine T_iret dX8_stoneSize_55 rfl rfl ?_
      exact k g3 hT3 (hf2.tr hf3)
    · exact absurd c10 (by decide)
  · rw [e] at k ⊢
    refine T_iconst (pc2 := 10) dX8_stoneSize_9 ic5 rfl ?_
    first | refine N_icmpne (pc2 := 13) (tgt := 17) dX8_stoneSize_10 (by decide) (by with_reducible rfl) (by with_reducible rfl) (by omega) (by omega) rfl (fun c10 => ?_) (fun c10 => ?_) | refine T_icmpne (pc2 := 13) (tgt := 17) dX8_stoneSize_10 (by decide) rfl (fun c10 => ?_) (fun c10 => ?_)
    · exact absurd rfl c10
    · refine T_iconst (pc2 := 14) dX8_stoneSize_13 ic1 rfl ?_
      refine T_goto (tgt := 18) dX8_stoneSize_14 (by decide) ?_
      refine T_istore_n (pc2 := 19) dX8_stoneSize_18 (by decide) rfl ?_
      refine T_iload_n (pc2 := 20) dX8_stoneSize_19 rfl rfl ?_
      first | refine B_ifeq1 (pc2 := 23) (tgt := 29) dX8_stoneSize_20 (by with_reducible rfl) (by decide) rfl ?_ | refine B_ifeq0 (tgt := 29) dX8_stoneSize_20 (by with_reducible rfl) (by decide) ?_ | refine N_ifeq (pc2 := 23) (tgt := 29) dX8_stoneSize_20 (by with_reducible rfl) (by decide) (by omega) rfl (fun c20 => ?_) (fun c20 => ?_) | refine T_ifeq (pc2 := 23) (tgt := 29) dX8_stoneSize_20 (by decide) rfl (fun c20 => ?_) (fun c20 => ?_)
      refine T_aload_n (pc2 := 24) dX8_stoneSize_23 rfl rfl ?_
      refine T_bipush (pc2 := 26) dX8_stoneSize_24 bp14 rfl ?_
      refine C_V1 (pc2 := 29) (mc := 0) (ms := 0) dX8_stoneSize_26 cvX8_began mlX8_270 (isO.h (sh48 S) _) (Nat.le_of_ble_eq_true rfl) rfl ?_
      refine m_began S hT (by omega) (fun g1 hT1 hf1 => ?_)
      refine T_aload_n (pc2 := 30) dX8_stoneSize_29 rfl rfl ?_
      refine T_bipush (pc2 := 32) dX8_stoneSize_30 bp13 rfl ?_
      refine C_V1 (pc2 := 35) (mc := 0) (ms := 0) dX8_stoneSize_32 cvX8_began mlX8_270 (isO.h (sh48 S) _) (Nat.le_of_ble_eq_true rfl) rfl ?_
      refine m_began S hT1 (by simp; omega) (fun g2 hT2 hf2 => ?_)
      have hf12 := hf1.tr hf2
      have hV2 : hasM (g2 52) V := by rw [hf12.1 52 (by decide) (by decide)]; exact hV
      refine T_aload_n (pc2 := 36) dX8_stoneSize_35 rfl rfl ?_
      refine T_iload_n (pc2 := 37) dX8_stoneSize_36 rfl rfl ?_
      refine C_V1 (pc2 := 40) (mc := 0) (ms := 0) dX8_stoneSize_37 cvX8_plainSize mlX8_273 (isO.h (sh48 S) _) (Nat.le_of_ble_eq_true rfl) rfl ?_
      refine m_plain S hV2 hok hj hT2 (by simp; omega) (fun g3 hT3 hf3 => ?_)
      rw [app3] at hT3
      refine T_bipush (pc2 := 42) dX8_stoneSize_40 bp100 rfl ?_
      refine T_isub (pc2 := 43) dX8_stoneSize_42 rfl ?_
      refine T_istore_n (pc2 := 44) dX8_stoneSize_43 (by decide) rfl ?_
      refine T_iload_n (pc2 := 45) dX8_stoneSize_44 rfl rfl ?_
      first | refine B_ifeq1 (pc2 := 48) (tgt := 54) dX8_stoneSize_45 (by with_reducible rfl) (by decide) rfl ?_ | refine B_ifeq0 (tgt := 54) dX8_stoneSize_45 (by with_reducible rfl) (by decide) ?_ | refine N_ifeq (pc2 := 48) (tgt := 54) dX8_stoneSize_45 (by with_reducible rfl) (by decide) (by omega) rfl (fun c45 => ?_) (fun c45 => ?_) | refine T_ifeq (pc2 := 48) (tgt := 54) dX8_stoneSize_45 (by decide) rfl (fun c45 => ?_) (fun c45 => ?_)
      refine T_iconst (pc2 := 49) dX8_stoneSize_48 ic2 rfl ?_
      refine T_iload_n (pc2 := 50) dX8_stoneSize_49 rfl rfl ?_
      refine T_imul (pc2 := 51) dX8_stoneSize_50 rfl ?_
      refine T_goto (tgt := 55) dX8_stoneSize_51 (by decide) ?_
      refine T_iret dX8_stoneSize_55 rfl rfl ?_
      exact k g3 hT3 (hf12.tr hf3)
theorem m_mark {tr : List Nat} {j : Nat} (S : Sh sk n bf im above below) (hV : hasM (g 52) V) (hok : okC V) (hj : j < V.J) (hT : hasTm g tr) (hl : tr.length ≤ 8) (k : ∀ g2, hasTm g2 (tr ++ mkL (V.kd j)) → Ft g g2 → Q (some (.int (mkV (V.kd j) j (V.nt j) (V.kp j)))) (HP sk g2 n)) : Calls MX8_markOf (d + 3) 0 0 [.ref 48, .int (nI j)] (HP sk g n) Q := by
  have hJ8 := hok.1
  have oj := hok.2.2.2.1 j hj
  refine Calls.of (by decide +kernel) (Nat.le_of_ble_eq_true rfl) ?_
  refine T_aload_n (pc2 := 1) dX8_markOf_0 rfl rfl ?_
  refine G_getR (pc2 := 4) dX8_markOf_1 flX8_19 (sh48 S) rfl rfl ?_
  refine T_iload_n (pc2 := 5) dX8_markOf_4 rfl rfl ?_
  refine T_iconst (pc2 := 6) dX8_markOf_5 ic0 rfl ?_
  refine C_S3 (pc2 := 9) (mc := 0) (ms := 0) dX8_markOf_6 csX8_of mlX8_154 (Nat.le_of_ble_eq_true rfl) rfl ?_
  refine m_of (sh52 S) (by omega) (hV.2.2.2 j hj).1 ?_
  refine T_istore_n (pc2 := 10) dX8_markOf_9 (by decide) rfl ?_
  refine T_iload_n (pc2 := 11) dX8_markOf_10 rfl rfl ?_
  refine T_iconst (pc2 := 12) dX8_markOf_11 ic4 rfl ?_
  first | refine N_icmplt (pc2 := 15) (tgt := 35) dX8_markOf_12 (by decide) (by with_reducible rfl) (by with_reducible rfl) (by omega) (by omega) rfl (fun c12 => ?_) (fun c12 => ?_) | refine T_icmplt (pc2 := 15) (tgt := 35) dX8_markOf_12 (by decide) rfl (fun c12 => ?_) (fun c12 => ?_)
  · -- glass, thin, thick
    have tail : ∀ g2 tr2, hasTm g2 tr2 → tr2.length ≤ 9 → Ft g g2 → (tr2 ++ [21, 20] = tr ++ mkL (V.kd j)) → T MX8_markOf (d + 3) 0 0 56 [(0, .ref 48), (1, .int (nI j)), (2, .int (nI (V.kd j)))] [] (HP sk g2 n) Q := by
      intro g2 tr2 hT2 hl2 hf2 he
      refine T_aload_n (pc2 := 57) dX8_markOf_56 rfl rfl ?_
      refine T_bipush (pc2 := 59) dX8_markOf_57 bp21 rfl ?_
      refine C_V1 (pc2 := 62) (mc := 0) (ms := 0) dX8_markOf_59 cvX8_began mlX8_270 (isO.h (sh48 S) _) (Nat.le_of_ble_eq_true rfl) rfl ?_
      refine m_began S hT2 (by omega) (fun g3 hT3 hf3 => ?_)
      refine T_aload_n (pc2 := 63) dX8_markOf_62 rfl rfl ?_
      refine T_bipush (pc2 := 65) dX8_markOf_63 bp20 rfl ?_
      refine C_V1 (pc2 := 68) (mc := 0) (ms := 0) dX8_markOf_65 cvX8_began mlX8_270 (isO.h (sh48 S) _) (Nat.le_of_ble_eq_true rfl) rfl ?_
      refine m_began S hT3 (by simp; omega) (fun g4 hT4 hf4 => ?_)
      rw [app2, he] at hT4
      have hfA := (hf2.tr hf3).tr hf4
      have hV4 : hasM (g4 52) V := by rw [hfA.1 52 (by decide) (by decide)]; exact hV
      refine T_iload_n (pc2 := 69) dX8_markOf_68 rfl rfl ?_
      refine T_aload_n (pc2 := 70) dX8_markOf_69 rfl rfl ?_
      refine G_getR (pc2 := 73) dX8_markOf_70 flX8_19 (sh48 S) rfl rfl ?_
      refine T_iload_n (pc2 := 74) dX8_markOf_73 rfl rfl ?_
      refine T_iconst (pc2 := 75) dX8_markOf_74 ic2 rfl ?_
      refine C_S3 (pc2 := 78) (mc := 0) (ms := 0) dX8_markOf_75 csX8_of mlX8_154 (Nat.le_of_ble_eq_true rfl) rfl ?_
      refine m_of (sh52 S) (by omega) (hV4.2.2.2 j hj).2.2.1 ?_
      rcases (by omega : V.kd j = 1 ∨ V.kd j = 2 ∨ V.kd j = 3) with e | e | e
      · rw [e] at k ⊢
        first | refine N_iadd (pc2 := 79) dX8_markOf_78 (by with_reducible rfl) (by with_reducible rfl) rfl ?_ | refine T_iadd (pc2 := 79) dX8_markOf_78 rfl ?_
        refine T_istore_n (pc2 := 80) dX8_markOf_79 (by decide) rfl ?_
        refine T_iload_n (pc2 := 81) dX8_markOf_80 rfl rfl ?_
        refine T_iconst (pc2 := 82) dX8_markOf_81 ic1 rfl ?_
        first | refine N_icmpne (pc2 := 85) (tgt := 89) dX8_markOf_82 (by decide) (by with_reducible rfl) (by with_reducible rfl) (by omega) (by omega) rfl (fun c82 => ?_) (fun c82 => ?_) | refine T_icmpne (pc2 := 85) (tgt := 89) dX8_markOf_82 (by decide) rfl (fun c82 => ?_) (fun c82 => ?_)
        · exact absurd rfl c82
        · refine T_iload_n (pc2 := 86) dX8_markOf_85 rfl rfl ?_
          refine T_goto (tgt := 105) dX8_markOf_86 (by decide) ?_
          refine T_iret dX8_markOf_105 rfl rfl ?_
          rw [e] at hT4
          exact k g4 hT4 hfA
      · rw [e] at k ⊢
        first | refine N_iadd (pc2 := 79) dX8_markOf_78 (by with_reducible rfl) (by with_reducible rfl) rfl ?_ | refine T_iadd (pc2 := 79) dX8_markOf_78 rfl ?_
        refine T_istore_n (pc2 := 80) dX8_markOf_79 (by decide) rfl ?_
        refine T_iload_n (pc2 := 81) dX8_markOf_80 rfl rfl ?_
        refine T_iconst (pc2 := 82) dX8_markOf_81 ic1 rfl ?_
        first | refine N_icmpne (pc2 := 85) (tgt := 89) dX8_markOf_82 (by decide) (by with_reducible rfl) (by with_reducible rfl) (by omega) (by omega) rfl (fun c82 => ?_) (fun c82 => ?_) | refine T_icmpne (pc2 := 85) (tgt := 89) dX8_markOf_82 (by decide) rfl (fun c82 => ?_) (fun c82 => ?_)
        · refine T_iload_n (pc2 := 90) dX8_markOf_89 rfl rfl ?_
          refine T_iconst (pc2 := 91) dX8_markOf_90 ic3 rfl ?_
          first | refine N_icmpne (pc2 := 94) (tgt := 102) dX8_markOf_91 (by decide) (by with_reducible rfl) (by with_reducible rfl) (by omega) (by omega) rfl (fun c91 => ?_) (fun c91 => ?_) | refine T_icmpne (pc2 := 94) (tgt := 102) dX8_markOf_91 (by decide) rfl (fun c91 => ?_) (fun c91 => ?_)
          · refine T_iconst (pc2 := 103) dX8_markOf_102 ic2 rfl ?_
            refine T_iload_n (pc2 := 104) dX8_markOf_103 rfl rfl ?_
            first | refine N_imul (pc2 := 105) dX8_markOf_104 (by with_reducible rfl) (by with_reducible rfl) rfl ?_ | refine T_imul (pc2 := 105) dX8_markOf_104 rfl ?_
            refine T_iret dX8_markOf_105 rfl rfl ?_
            rw [e] at hT4
            exact k g4 hT4 hfA
          · exact absurd c91 (by decide)
        · exact absurd c82 (by decide)
      · rw [e] at k ⊢
        first | refine N_iadd (pc2 := 79) dX8_markOf_78 (by with_reducible rfl) (by with_reducible rfl) rfl ?_ | refine T_iadd (pc2 := 79) dX8_markOf_78 rfl ?_
        refine T_istore_n (pc2 := 80) dX8_markOf_79 (by decide) rfl ?_
        refine T_iload_n (pc2 := 81) dX8_markOf_80 rfl rfl ?_
        refine T_iconst (pc2 := 82) dX8_markOf_81 ic1 rfl ?_
        first | refine N_icmpne (pc2 := 85) (tgt := 89) dX8_markOf_82 (by decide) (by with_reducible rfl) (by with_reducible rfl) (by omega) (by omega) rfl (fun c82 => ?_) (fun c82 => ?_) | refine T_icmpne (pc2 := 85) (tgt := 89) dX8_markOf_82 (by decide) rfl (fun c82 => ?_) (fun c82 => ?_)
        · refine T_iload_n (pc2 := 90) dX8_markOf_89 rfl rfl ?_
          refine T_iconst (pc2 := 91) dX8_markOf_90 ic3 rfl ?_
          first | refine N_icmpne (pc2 := 94) (tgt := 102) dX8_markOf_91 (by decide) (by with_reducible rfl) (by with_reducible rfl) (by omega) (by omega) rfl (fun c91 => ?_) (fun c91 => ?_) | refine T_icmpne (pc2 := 94) (tgt := 102) dX8_markOf_91 (by decide) rfl (fun c91 => ?_) (fun c91 => ?_)
          · exact absurd rfl c91
          · refine T_iload_n (pc2 := 95) dX8_markOf_94 rfl rfl ?_
            refine T_sipush (pc2 := 98) dX8_markOf_95 sp1000 rfl ?_
            refine T_isub (pc2 := 99) dX8_markOf_98 rfl ?_
            refine T_goto (tgt := 105) dX8_markOf_99 (by decide) ?_
            refine T_iret dX8_markOf_105 rfl rfl ?_
            rw [e] at hT4
            exact k g4 hT4 hfA
        · exact absurd c82 (by decide)
    rcases (by omega : V.kd j = 1 ∨ V.kd j = 2 ∨ V.kd j = 3) with e | e | e
    · rw [e]
      rw [e] at tail
      refine T_iload_n (pc2 := 36) dX8_markOf_35 rfl rfl ?_
      refine T_iconst (pc2 := 37) dX8_markOf_36 ic1 rfl ?_
      first | refine N_icmpeq (pc2 := 40) (tgt := 56) dX8_markOf_37 (by decide) (by with_reducible rfl) (by with_reducible rfl) (by omega) (by omega) rfl (fun c37 => ?_) (fun c37 => ?_) | refine T_icmpeq (pc2 := 40) (tgt := 56) dX8_markOf_37 (by decide) rfl (fun c37 => ?_) (fun c37 => ?_)
      · refine T_sub (lks (i := 0) rfl (lks (i := 1) rfl (lks (i := 2) rfl lk0))) ?_
        exact tail g tr hT (by omega) Ft.rf rfl
      · exact absurd rfl c37
    · rw [e]
      rw [e] at tail
      refine T_iload_n (pc2 := 36) dX8_markOf_35 rfl rfl ?_
      refine T_iconst (pc2 := 37) dX8_markOf_36 ic1 rfl ?_
      first | refine N_icmpeq (pc2 := 40) (tgt := 56) dX8_markOf_37 (by decide) (by with_reducible rfl) (by with_reducible rfl) (by omega) (by omega) rfl (fun c37 => ?_) (fun c37 => ?_) | refine T_icmpeq (pc2 := 40) (tgt := 56) dX8_markOf_37 (by decide) rfl (fun c37 => ?_) (fun c37 => ?_)
      · exact absurd c37 (by decide)
      · refine T_aload_n (pc2 := 41) dX8_markOf_40 rfl rfl ?_
        refine T_iload_n (pc2 := 42) dX8_markOf_41 rfl rfl ?_
        refine T_iconst (pc2 := 43) dX8_markOf_42 ic3 rfl ?_
        first | refine N_icmpne (pc2 := 46) (tgt := 51) dX8_markOf_43 (by decide) (by with_reducible rfl) (by with_reducible rfl) (by omega) (by omega) rfl (fun c43 => ?_) (fun c43 => ?_) | refine T_icmpne (pc2 := 46) (tgt := 51) dX8_markOf_43 (by decide) rfl (fun c43 => ?_) (fun c43 => ?_)
        · refine T_bipush (pc2 := 53) dX8_markOf_51 bp24 rfl ?_
          refine C_V1 (pc2 := 56) (mc := 0) (ms := 0) dX8_markOf_53 cvX8_began mlX8_270 (isO.h (sh48 S) _) (Nat.le_of_ble_eq_true rfl) rfl ?_
          refine m_began S hT (by omega) (fun g3 hT3 hf3 => ?_)
          refine T_sub (lks (i := 0) rfl (lks (i := 1) rfl (lks (i := 2) rfl lk0))) ?_
          exact tail g3 (tr ++ [24]) hT3 (by simp; omega) hf3 (by simp [mkL])
        · exact absurd c43 (by decide)
    · rw [e]
      rw [e] at tail
      refine T_iload_n (pc2 := 36) dX8_markOf_35 rfl rfl ?_
      refine T_iconst (pc2 := 37) dX8_markOf_36 ic1 rfl ?_
      first | refine N_icmpeq (pc2 := 40) (tgt := 56) dX8_markOf_37 (by decide) (by with_reducible rfl) (by with_reducible rfl) (by omega) (by omega) rfl (fun c37 => ?_) (fun c37 => ?_) | refine T_icmpeq (pc2 := 40) (tgt := 56) dX8_markOf_37 (by decide) rfl (fun c37 => ?_) (fun c37 => ?_)
      · exact absurd c37 (by decide)
      · refine T_aload_n (pc2 := 41) dX8_markOf_40 rfl rfl ?_
        refine T_iload_n (pc2 := 42) dX8_markOf_41 rfl rfl ?_
        refine T_iconst (pc2 := 43) dX8_markOf_42 ic3 rfl ?_
        first | refine N_icmpne (pc2 := 46) (tgt := 51) dX8_markOf_43 (by decide) (by with_reducible rfl) (by with_reducible rfl) (by omega) (by omega) rfl (fun c43 => ?_) (fun c43 => ?_) | refine T_icmpne (pc2 := 46) (tgt := 51) dX8_markOf_43 (by decide) rfl (fun c43 => ?_) (fun c43 => ?_)
        · exact absurd rfl c43
        · refine T_bipush (pc2 := 48) dX8_markOf_46 bp22 rfl ?_
          refine T_goto (tgt := 53) dX8_markOf_48 (by decide) ?_
          refine C_V1 (pc2 := 56) (mc := 0) (ms := 0) dX8_markOf_53 cvX8_began mlX8_270 (isO.h (sh48 S) _) (Nat.le_of_ble_eq_true rfl) rfl ?_
          refine m_began S hT (by omega) (fun g3 hT3 hf3 => ?_)
          refine T_sub (lks (i := 0) rfl (lks (i := 1) rfl (lks (i := 2) rfl lk0))) ?_
          exact tail g3 (tr ++ [22]) hT3 (by simp; omega) hf3 (by simp [mkL])
  · refine T_aload_n (pc2 := 16) dX8_markOf_15 rfl rfl ?_
    refine T_bipush (pc2 := 18) dX8_markOf_16 bp23 rfl ?_
    refine C_V1 (pc2 := 21) (mc := 0) (ms := 0) dX8_markOf_18 cvX8_began mlX8_270 (isO.h (sh48 S) _) (Nat.le_of_ble_eq_true rfl) rfl ?_
    refine m_began S hT (by omega) (fun g2 hT2 hf2 => ?_)
    refine T_aload_n (pc2 := 22) dX8_markOf_21 rfl rfl ?_
    refine T_bipush (pc2 := 24) dX8_markOf_22 bp20 rfl ?_
    refine C_V1 (pc2 := 27) (mc := 0) (ms := 0) dX8_markOf_24 cvX8_began mlX8_270 (isO.h (sh48 S) _) (Nat.le_of_ble_eq_true rfl) rfl ?_
    refine m_began S hT2 (by simp; omega) (fun g3 hT3 hf3 => ?_)
    rw [app2] at hT3
    have hf23 := hf2.tr hf3
    have hV3 : hasM (g3 52) V := by rw [hf23.1 52 (by decide) (by decide)]; exact hV
    refine T_iload_n (pc2 := 28) dX8_markOf_27 rfl rfl ?_
    refine T_aload_n (pc2 := 29) dX8_markOf_28 rfl rfl ?_
    refine T_iload_n (pc2 := 30) dX8_markOf_29 rfl rfl ?_
    refine C_V1 (pc2 := 33) (mc := 0) (ms := 0) dX8_markOf_30 cvX8_stoneSize mlX8_276 (isO.h (sh48 S) _) (Nat.le_of_ble_eq_true rfl) rfl ?_
    refine m_stone S hV3 hok hj (by omega) hT3 (by simp; omega) (fun g4 hT4 hf4 => ?_)
    refine T_isub (pc2 := 34) dX8_markOf_33 rfl ?_
    refine T_iret dX8_markOf_34 rfl rfl ?_
    rcases (by omega : V.kd j = 4 ∨ V.kd j = 5) with e | e
    · rw [e] at k hT4 ⊢
      refine k g4 ?_ (hf23.tr hf4)
      have : tr ++ mkL 4 = tr ++ [23, 20] ++ szL 4 := by simp [mkL, szL]
      rw [this]
      exact hT4
    · rw [e] at k hT4 ⊢
      refine k g4 ?_ (hf23.tr hf4)
      have : tr ++ mkL 5 = tr ++ [23, 20] ++ szL 5 := by simp [mkL, szL]
      rw [this]
      exact hT4
theorem m_size {tr : List Nat} {j : Nat} (S : Sh sk n bf im above below) (hV : hasM (g 52) V) (hok : okC V) (hj : j < V.J) (hT : hasTm g tr) (hl : tr.length ≤ 4) (k : ∀ g2, hasTm g2 (tr ++ szL (V.kd j)) → Ft g g2 → Q (some (.int (szV (V.kd j) j (V.nt j) (V.kp j)))) (HP sk g2 n)) : Calls MX8_sizeOf (d + 4) 0 0 [.ref 48, .int (nI j)] (HP sk g n) Q := by
  have hJ8 := hok.1
  have oj := hok.2.2.2.1 j hj
  refine Calls.of (by decide +kernel) (Nat.le_of_ble_eq_true rfl) ?_
  refine T_aload_n (pc2 := 1) dX8_sizeOf_0 rfl rfl ?_
  refine G_getR (pc2 := 4) dX8_sizeOf_1 flX8_19 (sh48 S) rfl rfl ?_
  refine T_iload_n (pc2 := 5) dX8_sizeOf_4 rfl rfl ?_
  refine T_iconst (pc2 := 6) dX8_sizeOf_5 ic0 rfl ?_
  refine C_S3 (pc2 := 9) (mc := 0) (ms := 0) dX8_sizeOf_6 csX8_of mlX8_154 (Nat.le_of_ble_eq_true rfl) rfl ?_
  refine m_of (sh52 S) (by omega) (hV.2.2.2 j hj).1 ?_
  refine T_istore_n (pc2 := 10) dX8_sizeOf_9 (by decide) rfl ?_
  refine T_iload_n (pc2 := 11) dX8_sizeOf_10 rfl rfl ?_
  refine T_iconst (pc2 := 12) dX8_sizeOf_11 ic4 rfl ?_
  first | refine N_icmplt (pc2 := 15) (tgt := 21) dX8_sizeOf_12 (by decide) (by with_reducible rfl) (by with_reducible rfl) (by omega) (by omega) rfl (fun c12 => ?_) (fun c12 => ?_) | refine T_icmplt (pc2 := 15) (tgt := 21) dX8_sizeOf_12 (by decide) rfl (fun c12 => ?_) (fun c12 => ?_)
  · have tail : ∀ g2 tr2, hasTm g2 tr2 → tr2.length ≤ 5 → Ft g g2 → (tr2 ++ [11, 10] ++ mkL (V.kd j) = tr ++ szL (V.kd j)) → T MX8_sizeOf (d + 4) 0 0 32 [(0, .ref 48), (1, .int (nI j)), (2, .int (nI (V.kd j)))] [] (HP sk g2 n) Q := by
      intro g2 tr2 hT2 hl2 hf2 he
      refine T_aload_n (pc2 := 33) dX8_sizeOf_32 rfl rfl ?_
      refine T_bipush (pc2 := 35) dX8_sizeOf_33 bp11 rfl ?_
      refine C_V1 (pc2 := 38) (mc := 0) (ms := 0) dX8_sizeOf_35 cvX8_began mlX8_270 (isO.h (sh48 S) _) (Nat.le_of_ble_eq_true rfl) rfl ?_
      refine m_began S hT2 (by omega) (fun g3 hT3 hf3 => ?_)
      have hf23 := hf2.tr hf3
      have hV3 : hasM (g3 52) V := by rw [hf23.1 52 (by decide) (by decide)]; exact hV
      refine T_aload_n (pc2 := 39) dX8_sizeOf_38 rfl rfl ?_
      refine T_iload_n (pc2 := 40) dX8_sizeOf_39 rfl rfl ?_
      refine C_V1 (pc2 := 43) (mc := 0) (ms := 0) dX8_sizeOf_40 cvX8_plainSize mlX8_273 (isO.h (sh48 S) _) (Nat.le_of_ble_eq_true rfl) rfl ?_
      refine m_plain S hV3 hok hj hT3 (by simp; omega) (fun g4 hT4 hf4 => ?_)
      rw [app2] at hT4
      have hf24 := hf23.tr hf4
      have hV4 : hasM (g4 52) V := by rw [hf24.1 52 (by decide) (by decide)]; exact hV
      refine T_istore_n (pc2 := 44) dX8_sizeOf_43 (by decide) rfl ?_
      refine T_iload_n (pc2 := 45) dX8_sizeOf_44 rfl rfl ?_
      refine T_aload_n (pc2 := 46) dX8_sizeOf_45 rfl rfl ?_
      refine T_iload_n (pc2 := 47) dX8_sizeOf_46 rfl rfl ?_
      refine C_V1 (pc2 := 50) (mc := 0) (ms := 0) dX8_sizeOf_47 cvX8_markOf mlX8_279 (isO.h (sh48 S) _) (Nat.le_of_ble_eq_true rfl) rfl ?_
      refine m_mark S hV4 hok hj hT4 (by simp; omega) (fun g5 hT5 hf5 => ?_)
      rw [he] at hT5
      have hf25 := hf24.tr hf5
      rcases (by omega : V.kd j = 1 ∨ V.kd j = 2 ∨ V.kd j = 3) with e | e | e
      · rw [e] at k hT5 ⊢
        first | refine N_iadd (pc2 := 51) dX8_sizeOf_50 (by with_reducible rfl) (by with_reducible rfl) rfl ?_ | refine T_iadd (pc2 := 51) dX8_sizeOf_50 rfl ?_
        refine T_istore_n (pc2 := 52) dX8_sizeOf_51 (by decide) rfl ?_
        refine T_iload_n (pc2 := 53) dX8_sizeOf_52 rfl rfl ?_
        refine T_iconst (pc2 := 54) dX8_sizeOf_53 ic2 rfl ?_
        first | refine N_icmpne (pc2 := 57) (tgt := 62) dX8_sizeOf_54 (by decide) (by with_reducible rfl) (by with_reducible rfl) (by omega) (by omega) rfl (fun c54 => ?_) (fun c54 => ?_) | refine T_icmpne (pc2 := 57) (tgt := 62) dX8_sizeOf_54 (by decide) rfl (fun c54 => ?_) (fun c54 => ?_)
        · refine T_iload_n (pc2 := 63) dX8_sizeOf_62 rfl rfl ?_
          refine T_iret dX8_sizeOf_63 rfl rfl ?_
          refine cast ?_ (k g5 hT5 hf25)
          congr 3
          exact (nI_add (V.nt j) (j + V.kp j)).symm
        · exact absurd c54 (by decide)
      · rw [e] at k hT5 ⊢
        first | refine N_iadd (pc2 := 51) dX8_sizeOf_50 (by with_reducible rfl) (by with_reducible rfl) rfl ?_ | refine T_iadd (pc2 := 51) dX8_sizeOf_50 rfl ?_
        refine T_istore_n (pc2 := 52) dX8_sizeOf_51 (by decide) rfl ?_
        refine T_iload_n (pc2 := 53) dX8_sizeOf_52 rfl rfl ?_
        refine T_iconst (pc2 := 54) dX8_sizeOf_53 ic2 rfl ?_
        first | refine N_icmpne (pc2 := 57) (tgt := 62) dX8_sizeOf_54 (by decide) (by with_reducible rfl) (by with_reducible rfl) (by omega) (by omega) rfl (fun c54 => ?_) (fun c54 => ?_) | refine T_icmpne (pc2 := 57) (tgt := 62) dX8_sizeOf_54 (by decide) rfl (fun c54 => ?_) (fun c54 => ?_)
        · exact absurd rfl c54
        · refine T_iload_n (pc2 := 58) dX8_sizeOf_57 rfl rfl ?_
          refine T_ineg (pc2 := 59) dX8_sizeOf_58 rfl ?_
          refine T_goto (tgt := 63) dX8_sizeOf_59 (by decide) ?_
          refine T_iret dX8_sizeOf_63 rfl rfl ?_
          refine cast ?_ (k g5 hT5 hf25)
          congr 3
          exact congrArg (fun x => -x) (nI_add (V.nt j) (2 * (j + V.kp j))).symm
      · rw [e] at k hT5 ⊢
        first | refine N_iadd (pc2 := 51) dX8_sizeOf_50 (by with_reducible rfl) (by with_reducible rfl) rfl ?_ | refine T_iadd (pc2 := 51) dX8_sizeOf_50 rfl ?_
        refine T_istore_n (pc2 := 52) dX8_sizeOf_51 (by decide) rfl ?_
        refine T_iload_n (pc2 := 53) dX8_sizeOf_52 rfl rfl ?_
        refine T_iconst (pc2 := 54) dX8_sizeOf_53 ic2 rfl ?_
        first | refine N_icmpne (pc2 := 57) (tgt := 62) dX8_sizeOf_54 (by decide) (by with_reducible rfl) (by with_reducible rfl) (by omega) (by omega) rfl (fun c54 => ?_) (fun c54 => ?_) | refine T_icmpne (pc2 := 57) (tgt := 62) dX8_sizeOf_54 (by decide) rfl (fun c54 => ?_) (fun c54 => ?_)
        · refine T_iload_n (pc2 := 63) dX8_sizeOf_62 rfl rfl ?_
          refine T_iret dX8_sizeOf_63 rfl rfl ?_
          exact k g5 hT5 hf25
        · exact absurd c54 (by decide)
    rcases (by omega : V.kd j = 1 ∨ V.kd j = 2 ∨ V.kd j = 3) with e | e | e
    · rw [e]
      rw [e] at tail
      refine T_iload_n (pc2 := 22) dX8_sizeOf_21 rfl rfl ?_
      refine T_iconst (pc2 := 23) dX8_sizeOf_22 ic2 rfl ?_
      first | refine N_icmpne (pc2 := 26) (tgt := 32) dX8_sizeOf_23 (by decide) (by with_reducible rfl) (by with_reducible rfl) (by omega) (by omega) rfl (fun c23 => ?_) (fun c23 => ?_) | refine T_icmpne (pc2 := 26) (tgt := 32) dX8_sizeOf_23 (by decide) rfl (fun c23 => ?_) (fun c23 => ?_)
      · refine T_sub (lks (i := 0) rfl (lks (i := 1) rfl (lks (i := 2) rfl lk0))) ?_
        exact tail g tr hT (by omega) Ft.rf (by simp [mkL, szL])
      · exact absurd c23 (by decide)
    · rw [e]
      rw [e] at tail
      refine T_iload_n (pc2 := 22) dX8_sizeOf_21 rfl rfl ?_
      refine T_iconst (pc2 := 23) dX8_sizeOf_22 ic2 rfl ?_
      first | refine N_icmpne (pc2 := 26) (tgt := 32) dX8_sizeOf_23 (by decide) (by with_reducible rfl) (by with_reducible rfl) (by omega) (by omega) rfl (fun c23 => ?_) (fun c23 => ?_) | refine T_icmpne (pc2 := 26) (tgt := 32) dX8_sizeOf_23 (by decide) rfl (fun c23 => ?_) (fun c23 => ?_)
      · exact absurd rfl c23
      · refine T_aload_n (pc2 := 27) dX8_sizeOf_26 rfl rfl ?_
        refine T_bipush (pc2 := 29) dX8_sizeOf_27 bp12 rfl ?_
        refine C_V1 (pc2 := 32) (mc := 0) (ms := 0) dX8_sizeOf_29 cvX8_began mlX8_270 (isO.h (sh48 S) _) (Nat.le_of_ble_eq_true rfl) rfl ?_
        refine m_began S hT (by omega) (fun g3 hT3 hf3 => ?_)
        refine T_sub (lks (i := 0) rfl (lks (i := 1) rfl (lks (i := 2) rfl lk0))) ?_
        exact tail g3 (tr ++ [12]) hT3 (by simp; omega) hf3 (by simp [mkL, szL])
    · rw [e]
      rw [e] at tail
      refine T_iload_n (pc2 := 22) dX8_sizeOf_21 rfl rfl ?_
      refine T_iconst (pc2 := 23) dX8_sizeOf_22 ic2 rfl ?_
      first | refine N_icmpne (pc2 := 26) (tgt := 32) dX8_sizeOf_23 (by decide) (by with_reducible rfl) (by with_reducible rfl) (by omega) (by omega) rfl (fun c23 => ?_) (fun c23 => ?_) | refine T_icmpne (pc2 := 26) (tgt := 32) dX8_sizeOf_23 (by decide) rfl (fun c23 => ?_) (fun c23 => ?_)
      · refine T_sub (lks (i := 0) rfl (lks (i := 1) rfl (lks (i := 2) rfl lk0))) ?_
        exact tail g tr hT (by omega) Ft.rf (by simp [mkL, szL])
      · exact absurd c23 (by decide)
  · refine T_aload_n (pc2 := 16) dX8_sizeOf_15 rfl rfl ?_
    refine T_iload_n (pc2 := 17) dX8_sizeOf_16 rfl rfl ?_
    refine C_V1 (pc2 := 20) (mc := 0) (ms := 0) dX8_sizeOf_17 cvX8_stoneSize mlX8_276 (isO.h (sh48 S) _) (Nat.le_of_ble_eq_true rfl) rfl ?_
    refine m_stone S hV hok hj (by omega) hT (by omega) (fun g4 hT4 hf4 => ?_)
    refine T_iret dX8_sizeOf_20 rfl rfl ?_
    exact k g4 hT4 hf4
theorem mm_ask {j w : Int32} (S : Sh sk n bf im above below) (hI : InvM g s) (hok : Ok s) (k : ∀ g2, InvM g2 (sAsk s j w).2 → Fr 48 62 g g2 → Q (some (.int (sAsk s j w).1)) (HP sk g2 n)) : Calls MX8_ask (d + 5) 0 0 [.ref 48, .int j, .int w] (HP sk g n) Q := by
  have hokV := hok.2.2.1.1
  have hJ8 := hokV.1
  refine Calls.of (by decide +kernel) (Nat.le_of_ble_eq_true rfl) ?_
  refine T_aload_n (pc2 := 1) dX8_ask_0 rfl rfl ?_
  refine T_iconst (pc2 := 2) dX8_ask_1 ic0 rfl ?_
  refine G_putI (pc2 := 5) dX8_ask_2 flX8_50 (sh48 S) rfl rfl rfl rfl ?_
  have hI := hI.ms (Ms.rf.st (i := 48) (k := 0) (v := nI 0) (by omega))
  have k := fm_start k
  generalize gset g 48 0 (nI 0) = g1 at hI k ⊢
  have hV := hI.2.2.1
  refine T_aload_n (pc2 := 6) dX8_ask_5 rfl rfl ?_
  refine T_iload_n (pc2 := 7) dX8_ask_6 rfl rfl ?_
  refine C_V1 (pc2 := 10) (mc := 0) (ms := 0) dX8_ask_7 cvX8_isJar mlX8_213 (isO.h (sh48 S) _) (Nat.le_of_ble_eq_true rfl) rfl ?_
  refine m_isJar S hV.1 hJ8 (fun i hi ei => ?_) (fun hno => ?_)
  · subst ei
    first | refine B_ifeq1 (pc2 := 13) (tgt := 23) dX8_ask_10 (by with_reducible rfl) (by decide) rfl ?_ | refine B_ifeq0 (tgt := 23) dX8_ask_10 (by with_reducible rfl) (by decide) ?_ | refine N_ifeq (pc2 := 13) (tgt := 23) dX8_ask_10 (by with_reducible rfl) (by decide) (by omega) rfl (fun c10 => ?_) (fun c10 => ?_) | refine T_ifeq (pc2 := 13) (tgt := 23) dX8_ask_10 (by decide) rfl (fun c10 => ?_) (fun c10 => ?_)
    refine T_iload_n (pc2 := 14) dX8_ask_13 rfl rfl ?_
    refine T_i2l (pc2 := 15) dX8_ask_14 rfl ?_
    refine T_lconst (pc2 := 16) (v := lN 0) dX8_ask_15 rfl rfl ?_
    refine T_lconst (pc2 := 17) (v := lN 1) dX8_ask_16 rfl rfl ?_
    refine C_S3 (pc2 := 20) (mc := 0) (ms := 0) dX8_ask_17 csX8_in mlX8_60 (Nat.le_of_ble_eq_true rfl) rfl ?_
    refine m_inI (k := 1) rfl rfl (by decide) (by decide) (fun x hx ex => ?_) (fun hno => ?_)
    · subst ex
      have hs : sAsk s (nI i) (nI x) = (if x = 0 then szV (s.V.kd i) i (s.V.nt i) (s.V.kp i) else mkV (s.V.kd i) i (s.V.nt i) (s.V.kp i), s.settr (if x = 0 then szL (s.V.kd i) else mkL (s.V.kd i))) := by
        unfold sAsk
        rw [inN_some hi (by omega), inN_some (show x < 2 by omega) (by decide)]
      have hT : hasTm (gset g1 48 27 (nI 0)) [] := ⟨gs_eq _ _ _ _, fun i v h => by cases h⟩
      have hf0 : Ft g1 (gset g1 48 27 (nI 0)) := ⟨fun i h1 _ => gs_row h1, fun q hq => gs_ne _ _ (by omega)⟩
      have hV2 : hasM (gset g1 48 27 (nI 0) 52) s.V := by rw [gs_row (by decide)]; exact hV
      have hfr : ∀ {g3}, Ft g1 g3 → Fr 48 62 g1 g3 := fun hf i hi => hf.1 i (by omega) (by omega)
      first | refine B_ifne1 (tgt := 26) dX8_ask_20 (by with_reducible rfl) (by decide) ?_ | refine B_ifne0 (pc2 := 23) (tgt := 26) dX8_ask_20 (by with_reducible rfl) (by decide) rfl ?_ | refine N_ifne (pc2 := 23) (tgt := 26) dX8_ask_20 (by with_reducible rfl) (by decide) (by omega) rfl (fun c20 => ?_) (fun c20 => ?_) | refine T_ifne (pc2 := 23) (tgt := 26) dX8_ask_20 (by decide) rfl (fun c20 => ?_) (fun c20 => ?_)
      refine T_aload_n (pc2 := 27) dX8_ask_26 rfl rfl ?_
      refine T_iconst (pc2 := 28) dX8_ask_27 ic0 rfl ?_
      refine G_putI (pc2 := 31) dX8_ask_28 flX8_267 (sh48 S) rfl rfl rfl rfl ?_
      refine T_iload_n (pc2 := 32) dX8_ask_31 rfl rfl ?_
      first | refine B_ifne1 (tgt := 43) dX8_ask_32 (by with_reducible rfl) (by decide) ?_ | refine B_ifne0 (pc2 := 35) (tgt := 43) dX8_ask_32 (by with_reducible rfl) (by decide) rfl ?_ | refine N_ifne (pc2 := 35) (tgt := 43) dX8_ask_32 (by with_reducible rfl) (by decide) (by omega) rfl (fun c32 => ?_) (fun c32 => ?_) | refine T_ifne (pc2 := 35) (tgt := 43) dX8_ask_32 (by decide) rfl (fun c32 => ?_) (fun c32 => ?_)
      · refine T_aload_n (pc2 := 44) dX8_ask_43 rfl rfl ?_
        refine T_iload_n (pc2 := 45) dX8_ask_44 rfl rfl ?_
        refine C_V1 (pc2 := 48) (mc := 0) (ms := 0) dX8_ask_45 cvX8_markOf mlX8_279 (isO.h (sh48 S) _) (Nat.le_of_ble_eq_true rfl) rfl ?_
        refine m_mark S hV2 hokV hi hT (by decide) (fun g3 hT3 hf3 => ?_)
        refine T_iret dX8_ask_48 rfl rfl ?_
        exact fm_new k (hI.tr hT3 (hf0.tr hf3)) (hfr (hf0.tr hf3)) (by rw [hs, if_neg c32, if_neg c32]; rfl)
      · refine T_aload_n (pc2 := 36) dX8_ask_35 rfl rfl ?_
        refine T_iload_n (pc2 := 37) dX8_ask_36 rfl rfl ?_
        refine C_V1 (pc2 := 40) (mc := 0) (ms := 0) dX8_ask_37 cvX8_sizeOf mlX8_282 (isO.h (sh48 S) _) (Nat.le_of_ble_eq_true rfl) rfl ?_
        refine m_size S hV2 hokV hi hT (by decide) (fun g3 hT3 hf3 => ?_)
        refine T_goto (tgt := 48) dX8_ask_40 (by decide) ?_
        refine T_iret dX8_ask_48 rfl rfl ?_
        exact fm_new k (hI.tr hT3 (hf0.tr hf3)) (hfr (hf0.tr hf3)) (by rw [hs, if_pos c32, if_pos c32]; rfl)
    · first | refine B_ifne1 (tgt := 26) dX8_ask_20 (by with_reducible rfl) (by decide) ?_ | refine B_ifne0 (pc2 := 23) (tgt := 26) dX8_ask_20 (by with_reducible rfl) (by decide) rfl ?_ | refine N_ifne (pc2 := 23) (tgt := 26) dX8_ask_20 (by with_reducible rfl) (by decide) (by omega) rfl (fun c20 => ?_) (fun c20 => ?_) | refine T_ifne (pc2 := 23) (tgt := 26) dX8_ask_20 (by decide) rfl (fun c20 => ?_) (fun c20 => ?_)
      refine T_ldc (pc2 := 25) dX8_ask_23 kcX8_70 rfl ?_
      refine T_iret dX8_ask_25 rfl rfl ?_
      refine fm_same k hI Ms.rf ?_
      unfold sAsk
      rw [inN_none (v := w) (k := 2) (fun q hq => hno q (by omega))]
      cases inN (nI i) s.V.J <;> rfl
  · first | refine B_ifeq1 (pc2 := 13) (tgt := 23) dX8_ask_10 (by with_reducible rfl) (by decide) rfl ?_ | refine B_ifeq0 (tgt := 23) dX8_ask_10 (by with_reducible rfl) (by decide) ?_ | refine N_ifeq (pc2 := 13) (tgt := 23) dX8_ask_10 (by with_reducible rfl) (by decide) (by omega) rfl (fun c10 => ?_) (fun c10 => ?_) | refine T_ifeq (pc2 := 13) (tgt := 23) dX8_ask_10 (by decide) rfl (fun c10 => ?_) (fun c10 => ?_)
    refine T_ldc (pc2 := 25) dX8_ask_23 kcX8_70 rfl ?_
    refine T_iret dX8_ask_25 rfl rfl ?_
    refine fm_same k hI Ms.rf ?_
    unfold sAsk
    rw [inN_none hno]
end MAsk

