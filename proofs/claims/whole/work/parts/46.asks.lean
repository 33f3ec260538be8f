/-! the asks -/
def kaT : Nat → Int32 := fun k => match k with | 0 => -1 | 1 => nI 0 | 2 => nI 1 | 3 => nI 1 | 4 => nI 0 | _ => nI 4
def szT : Nat → Nat := fun k => match k with | 0 => 10 | 1 => 11 | 2 => 12 | 3 => 0 | 4 => 13 | _ => 14
def mkT : Nat → Nat := fun k => match k with | 0 => 20 | 1 => 21 | 2 => 24 | 3 => 22 | 4 => 23 | _ => 0
def stat (g : Nat → Nat → Int32) : Prop := (∀ k, k < 6 → g 1 k = kaT k) ∧ (∀ k, k < 6 → g 2 k = nI (szT k)) ∧ ∀ k, k < 6 → g 3 k = nI (mkT k)
theorem stat.fr {g g2 : Nat → Nat → Int32} {lo hi : Nat} (h : stat g) (f : Fr lo hi g g2) (hd : 4 ≤ lo) : stat g2 := by
  unfold stat
  rw [f 1 (by omega), f 2 (by omega), f 3 (by omega)]
  exact h
def hasTr (g : Nat → Nat → Int32) (tr : List Nat) : Prop := g 45 1 = nI tr.length ∧ ∀ i v, tr[i]? = some v → g 46 i = nI v
def mkV (kd j nt kp : Nat) : Int32 := if kd = 1 then nI (j + kp) else if kd = 2 then nI (2 * (j + kp)) else if kd = 3 then nI (j + kp) - nI 1000 else if kd = 4 then nI j - (nI nt - nI 100) else nI j - nI 2 * (nI nt - nI 100)
def szV (kd j nt kp : Nat) : Int32 := if kd = 1 then nI (nt + (j + kp)) else if kd = 2 then -nI (nt + 2 * (j + kp)) else if kd = 3 then nI nt + (nI (j + kp) - nI 1000) else if kd = 4 then nI nt - nI 100 else nI 2 * (nI nt - nI 100)
def szL (kd : Nat) : List Nat := if kd = 1 then [11, 10, 21, 20] else if kd = 2 then [12, 11, 10, 24, 21, 20] else if kd = 3 then [11, 10, 22, 21, 20] else if kd = 4 then [13, 10] else [14, 13, 10]
def mkL (kd : Nat) : List Nat := if kd = 1 then [21, 20] else if kd = 2 then [24, 21, 20] else if kd = 3 then [22, 21, 20] else if kd = 4 then [23, 20, 13, 10] else [23, 20, 14, 13, 10]
section AsksM
variable {sk : Nat → SK} {g : Nat → Nat → Int32} {n c : Nat} {V : Cel} {Q : Option Value → SH → Prop} {d kc ks : Nat} {bf im : Nat → Option Nat} {above below : Int64} {tr : List Nat} {j dp : Nat}
theorem c_leave {v : Nat} (S : Sh sk n bf im above below) (hT : hasTr g tr) (hl : tr.length < 16) (k : ∀ g2, hasTr g2 (tr ++ [v]) → Fr 45 47 g g2 → Q none (HP sk g2 n)) : Calls MX1_leave d 0 0 [.ref 45, .int (nI v)] (HP sk g n) Q := by
  refine Calls.of (by decide +kernel) (Nat.le_of_ble_eq_true rfl) ?_
  have e1 := hT.1
  refine T_aload_n (pc2 := 1) dX1_leave_0 rfl rfl ?_
  refine G_getI (pc2 := 4) dX1_leave_1 flX1_15 (sh45 S) rfl (by first | with_reducible assumption | exact gs_eq _ _ _ _ | exact (gs_ne _ _ (by omega)).trans (by with_reducible assumption) | exact (gs_ne _ _ (by omega)).trans (gs_eq _ _ _ _) | exact (gs_ne _ _ (by omega)).trans ((gs_ne _ _ (by omega)).trans (by with_reducible assumption)) | exact (gs_ne _ _ (by omega)).trans ((gs_ne _ _ (by omega)).trans (gs_eq _ _ _ _)) | exact (gs_ne _ _ (by omega)).trans ((gs_ne _ _ (by omega)).trans ((gs_ne _ _ (by omega)).trans (by with_reducible assumption))) | rfl) rfl ?_
  refine T_bipush (pc2 := 6) dX1_leave_4 bp16 rfl ?_
  first | refine N_icmpge (pc2 := 9) (tgt := 29) dX1_leave_6 (by decide) (by with_reducible rfl) (by with_reducible rfl) (by omega) (by omega) rfl (fun c6 => ?_) (fun c6 => ?_) | refine T_icmpge (pc2 := 9) (tgt := 29) dX1_leave_6 (by decide) rfl (fun c6 => ?_) (fun c6 => ?_)
  · exact absurd c6 (by omega)
  · refine T_aload_n (pc2 := 10) dX1_leave_9 rfl rfl ?_
    refine G_getR (pc2 := 13) dX1_leave_10 flX1_9 (sh45 S) rfl rfl ?_
    refine T_aload_n (pc2 := 14) dX1_leave_13 rfl rfl ?_
    refine G_getI (pc2 := 17) dX1_leave_14 flX1_15 (sh45 S) rfl (by first | with_reducible assumption | exact gs_eq _ _ _ _ | exact (gs_ne _ _ (by omega)).trans (by with_reducible assumption) | exact (gs_ne _ _ (by omega)).trans (gs_eq _ _ _ _) | exact (gs_ne _ _ (by omega)).trans ((gs_ne _ _ (by omega)).trans (by with_reducible assumption)) | exact (gs_ne _ _ (by omega)).trans ((gs_ne _ _ (by omega)).trans (gs_eq _ _ _ _)) | exact (gs_ne _ _ (by omega)).trans ((gs_ne _ _ (by omega)).trans ((gs_ne _ _ (by omega)).trans (by with_reducible assumption))) | rfl) rfl ?_
    refine T_iload_n (pc2 := 18) dX1_leave_17 rfl rfl ?_
    refine G_iast (pc2 := 19) dX1_leave_18 (sh46 S) (by omega) (by decide) rfl ?_
    refine T_aload_n (pc2 := 20) dX1_leave_19 rfl rfl ?_
    refine T_dup (pc2 := 21) dX1_leave_20 rfl rfl ?_
    refine G_getI (pc2 := 24) dX1_leave_21 flX1_15 (sh45 S) rfl (by first | with_reducible assumption | exact gs_eq _ _ _ _ | exact (gs_ne _ _ (by omega)).trans (by with_reducible assumption) | exact (gs_ne _ _ (by omega)).trans (gs_eq _ _ _ _) | exact (gs_ne _ _ (by omega)).trans ((gs_ne _ _ (by omega)).trans (by with_reducible assumption)) | exact (gs_ne _ _ (by omega)).trans ((gs_ne _ _ (by omega)).trans (gs_eq _ _ _ _)) | exact (gs_ne _ _ (by omega)).trans ((gs_ne _ _ (by omega)).trans ((gs_ne _ _ (by omega)).trans (by with_reducible assumption))) | rfl) rfl ?_
    refine T_iconst (pc2 := 25) dX1_leave_24 ic1 rfl ?_
    first | refine N_iadd (pc2 := 26) dX1_leave_25 (by with_reducible rfl) (by with_reducible rfl) rfl ?_ | refine T_iadd (pc2 := 26) dX1_leave_25 rfl ?_
    refine G_putI (pc2 := 29) dX1_leave_26 flX1_15 (sh45 S) rfl rfl rfl rfl ?_
    refine T_ret dX1_leave_29 rfl ?_
    refine k _ ⟨by rw [gs_eq, List.length_append]; rfl, fun i w hi => ?_⟩ ((Fr.rf.st (by omega) (by omega)).st (by omega) (by omega))
    rw [gs_ne _ _ (by omega)]
    by_cases e : i = tr.length
    · subst e
      rw [gs_eq]
      rw [List.getElem?_append_right (Nat.le_refl _), Nat.sub_self] at hi
      cases hi
      rfl
    · have hil : i < tr.length := by
        have := (List.getElem?_eq_some_iff.mp hi).1
        rw [List.length_append] at this
        simp at this
        omega
      rw [List.getElem?_append_left hil] at hi
      rw [gs_ne _ _ (by omega)]
      exact hT.2 i w hi
theorem c_b10 (S : Sh sk n bf im above below) (hc : isC sk n c) (hd : c + 6 ≤ 45 ∨ 47 ≤ c) (hV : hasC g c V) (hok : okC V) (hj : j < V.J) (hT : hasTr g tr) (hl : tr.length ≤ 14) (hdp : dp ≤ 12) (k : ∀ g2, hasTr g2 (tr ++ [10]) → Fr 45 47 g g2 → Q (some (.int (nI (V.nt j)))) (HP sk g2 n)) : Calls MX1_body (d + 1) 0 0 [.ref 45, .ref c, .int (nI j), .int (nI 10), .int (nI dp)] (HP sk g n) Q := by
  have hJ8 := hok.1
  have hkj := hok.2.2.2.1 j hj
  refine Calls.of (by decide +kernel) (Nat.le_of_ble_eq_true rfl) ?_
  refine T_iload (pc2 := 2) dX1_body_0 rfl rfl ?_
  refine T_bipush (pc2 := 4) dX1_body_2 bp16 rfl ?_
  first | refine N_icmplt (pc2 := 7) (tgt := 9) dX1_body_4 (by decide) (by with_reducible rfl) (by with_reducible rfl) (by omega) (by omega) rfl (fun c4 => ?_) (fun c4 => ?_) | refine T_icmplt (pc2 := 7) (tgt := 9) dX1_body_4 (by decide) rfl (fun c4 => ?_) (fun c4 => ?_)
  · refine T_aload_n (pc2 := 10) dX1_body_9 rfl rfl ?_
    refine T_iload_n (pc2 := 11) dX1_body_10 rfl rfl ?_
    refine C_V1 (pc2 := 14) (mc := 0) (ms := 0) dX1_body_11 cvX1_leave mlX1_48 (isO.h (sh45 S) _) (Nat.le_of_ble_eq_true rfl) rfl ?_
    refine c_leave S hT (by omega) (fun g2 hT2 hf2 => ?_)
    have hV2 := hV.fr hf2 hd
    have hl2 : (tr ++ [10]).length = tr.length + 1 := by simp
    have e2 := (hV2.2.2.2 j hj).2.1
    refine T_iload (pc2 := 16) dX1_body_14 rfl rfl ?_
    refine T_iconst (pc2 := 17) dX1_body_16 ic1 rfl ?_
    first | refine N_iadd (pc2 := 18) dX1_body_17 (by with_reducible rfl) (by with_reducible rfl) rfl ?_ | refine T_iadd (pc2 := 18) dX1_body_17 rfl ?_
    refine T_istore (pc2 := 20) dX1_body_18 (by decide) rfl ?_
    refine T_iload_n (pc2 := 21) dX1_body_20 rfl rfl ?_
    refine T_tableIn (off := 75) (tgt := 96) dX1_body_21 (by decide) (by decide) (by decide) (by decide) ?_
    refine T_aload_n (pc2 := 97) dX1_body_96 rfl rfl ?_
    refine G_getR (pc2 := 100) dX1_body_97 flX1_52 hc.1 rfl rfl ?_
    refine T_iload_n (pc2 := 101) dX1_body_100 rfl rfl ?_
    refine G_iald (pc2 := 102) dX1_body_101 hc.2.2.1 (by omega) (by first | decide | omega) (by first | with_reducible assumption | exact gs_eq _ _ _ _ | exact (gs_ne _ _ (by omega)).trans (by with_reducible assumption) | exact (gs_ne _ _ (by omega)).trans (gs_eq _ _ _ _) | exact (gs_ne _ _ (by omega)).trans ((gs_ne _ _ (by omega)).trans (by with_reducible assumption)) | exact (gs_ne _ _ (by omega)).trans ((gs_ne _ _ (by omega)).trans (gs_eq _ _ _ _)) | exact (gs_ne _ _ (by omega)).trans ((gs_ne _ _ (by omega)).trans ((gs_ne _ _ (by omega)).trans (by with_reducible assumption))) | rfl) rfl ?_
    refine T_iret dX1_body_102 rfl rfl ?_
    exact k g2 hT2 hf2
  · exact absurd (by omega) c4
theorem c_b20 (S : Sh sk n bf im above below) (hc : isC sk n c) (hd : c + 6 ≤ 45 ∨ 47 ≤ c) (hV : hasC g c V) (hok : okC V) (hj : j < V.J) (hT : hasTr g tr) (hl : tr.length ≤ 14) (hdp : dp ≤ 12) (k : ∀ g2, hasTr g2 (tr ++ [20]) → Fr 45 47 g g2 → Q (some (.int (nI j))) (HP sk g2 n)) : Calls MX1_body (d + 1) 0 0 [.ref 45, .ref c, .int (nI j), .int (nI 20), .int (nI dp)] (HP sk g n) Q := by
  have hJ8 := hok.1
  have hkj := hok.2.2.2.1 j hj
  refine Calls.of (by decide +kernel) (Nat.le_of_ble_eq_true rfl) ?_
  refine T_iload (pc2 := 2) dX1_body_0 rfl rfl ?_
  refine T_bipush (pc2 := 4) dX1_body_2 bp16 rfl ?_
  first | refine N_icmplt (pc2 := 7) (tgt := 9) dX1_body_4 (by decide) (by with_reducible rfl) (by with_reducible rfl) (by omega) (by omega) rfl (fun c4 => ?_) (fun c4 => ?_) | refine T_icmplt (pc2 := 7) (tgt := 9) dX1_body_4 (by decide) rfl (fun c4 => ?_) (fun c4 => ?_)
  · refine T_aload_n (pc2 := 10) dX1_body_9 rfl rfl ?_
    refine T_iload_n (pc2 := 11) dX1_body_10 rfl rfl ?_
    refine C_V1 (pc2 := 14) (mc := 0) (ms := 0) dX1_body_11 cvX1_leave mlX1_48 (isO.h (sh45 S) _) (Nat.le_of_ble_eq_true rfl) rfl ?_
    refine c_leave S hT (by omega) (fun g2 hT2 hf2 => ?_)
    have hV2 := hV.fr hf2 hd
    have hl2 : (tr ++ [20]).length = tr.length + 1 := by simp
    refine T_iload (pc2 := 16) dX1_body_14 rfl rfl ?_
    refine T_iconst (pc2 := 17) dX1_body_16 ic1 rfl ?_
    first | refine N_iadd (pc2 := 18) dX1_body_17 (by with_reducible rfl) (by with_reducible rfl) rfl ?_ | refine T_iadd (pc2 := 18) dX1_body_17 rfl ?_
    refine T_istore (pc2 := 20) dX1_body_18 (by decide) rfl ?_
    refine T_iload_n (pc2 := 21) dX1_body_20 rfl rfl ?_
    refine T_tableIn (off := 142) (tgt := 163) dX1_body_21 (by decide) (by decide) (by decide) (by decide) ?_
    refine T_iload_n (pc2 := 164) dX1_body_163 rfl rfl ?_
    refine T_iret dX1_body_164 rfl rfl ?_
    exact k g2 hT2 hf2
  · exact absurd (by omega) c4
theorem c_b21 (S : Sh sk n bf im above below) (hc : isC sk n c) (hd : c + 6 ≤ 45 ∨ 47 ≤ c) (hV : hasC g c V) (hok : okC V) (hj : j < V.J) (hT : hasTr g tr) (hl : tr.length ≤ 13) (hdp : dp ≤ 11) (k : ∀ g2, hasTr g2 (tr ++ [21, 20]) → Fr 45 47 g g2 → Q (some (.int (nI (j + V.kp j)))) (HP sk g2 n)) : Calls MX1_body (d + 2) 0 0 [.ref 45, .ref c, .int (nI j), .int (nI 21), .int (nI dp)] (HP sk g n) Q := by
  have hJ8 := hok.1
  have hkj := hok.2.2.2.1 j hj
  refine Calls.of (by decide +kernel) (Nat.le_of_ble_eq_true rfl) ?_
  refine T_iload (pc2 := 2) dX1_body_0 rfl rfl ?_
  refine T_bipush (pc2 := 4) dX1_body_2 bp16 rfl ?_
  first | refine N_icmplt (pc2 := 7) (tgt := 9) dX1_body_4 (by decide) (by with_reducible rfl) (by with_reducible rfl) (by omega) (by omega) rfl (fun c4 => ?_) (fun c4 => ?_) | refine T_icmplt (pc2 := 7) (tgt := 9) dX1_body_4 (by decide) rfl (fun c4 => ?_) (fun c4 => ?_)
  · refine T_aload_n (pc2 := 10) dX1_body_9 rfl rfl ?_
    refine T_iload_n (pc2 := 11) dX1_body_10 rfl rfl ?_
    refine C_V1 (pc2 := 14) (mc := 0) (ms := 0) dX1_body_11 cvX1_leave mlX1_48 (isO.h (sh45 S) _) (Nat.le_of_ble_eq_true rfl) rfl ?_
    refine c_leave S hT (by omega) (fun g2 hT2 hf2 => ?_)
    have hV2 := hV.fr hf2 hd
    have hl2 : (tr ++ [21]).length = tr.length + 1 := by simp
    refine T_iload (pc2 := 16) dX1_body_14 rfl rfl ?_
    refine T_iconst (pc2 := 17) dX1_body_16 ic1 rfl ?_
    first | refine N_iadd (pc2 := 18) dX1_body_17 (by with_reducible rfl) (by with_reducible rfl) rfl ?_ | refine T_iadd (pc2 := 18) dX1_body_17 rfl ?_
    refine T_istore (pc2 := 20) dX1_body_18 (by decide) rfl ?_
    refine T_iload_n (pc2 := 21) dX1_body_20 rfl rfl ?_
    refine T_tableIn (off := 144) (tgt := 165) dX1_body_21 (by decide) (by decide) (by decide) (by decide) ?_
    refine T_aload_n (pc2 := 166) dX1_body_165 rfl rfl ?_
    refine T_aload_n (pc2 := 167) dX1_body_166 rfl rfl ?_
    refine T_iload_n (pc2 := 168) dX1_body_167 rfl rfl ?_
    refine T_bipush (pc2 := 170) dX1_body_168 bp20 rfl ?_
    refine T_iload (pc2 := 172) dX1_body_170 rfl rfl ?_
    refine C_V4 (pc2 := 175) (mc := 0) (ms := 0) dX1_body_172 cvX1_body mlX1_32 (isO.h (sh45 S) _) (Nat.le_of_ble_eq_true rfl) rfl ?_
    refine c_b20 S hc hd hV2 hok hj hT2 (by omega) (by omega) (fun g3 hT3 hf3 => ?_)
    rw [List.append_assoc] at hT3
    have e3 := ((hV2.fr hf3 hd).2.2.2 j hj).2.2.1
    refine T_aload_n (pc2 := 176) dX1_body_175 rfl rfl ?_
    refine G_getR (pc2 := 179) dX1_body_176 flX1_55 hc.1 rfl rfl ?_
    refine T_iload_n (pc2 := 180) dX1_body_179 rfl rfl ?_
    refine G_iald (pc2 := 181) dX1_body_180 hc.2.2.2.1 (by omega) (by first | decide | omega) (by first | with_reducible assumption | exact gs_eq _ _ _ _ | exact (gs_ne _ _ (by omega)).trans (by with_reducible assumption) | exact (gs_ne _ _ (by omega)).trans (gs_eq _ _ _ _) | exact (gs_ne _ _ (by omega)).trans ((gs_ne _ _ (by omega)).trans (by with_reducible assumption)) | exact (gs_ne _ _ (by omega)).trans ((gs_ne _ _ (by omega)).trans (gs_eq _ _ _ _)) | exact (gs_ne _ _ (by omega)).trans ((gs_ne _ _ (by omega)).trans ((gs_ne _ _ (by omega)).trans (by with_reducible assumption))) | rfl) rfl ?_
    first | refine N_iadd (pc2 := 182) dX1_body_181 (by with_reducible rfl) (by with_reducible rfl) rfl ?_ | refine T_iadd (pc2 := 182) dX1_body_181 rfl ?_
    refine T_iret dX1_body_182 rfl rfl ?_
    exact k g3 hT3 (hf2.tr hf3)
  · exact absurd (by omega) c4
theorem c_b22 (S : Sh sk n bf im above below) (hc : isC sk n c) (hd : c + 6 ≤ 45 ∨ 47 ≤ c) (hV : hasC g c V) (hok : okC V) (hj : j < V.J) (hT : hasTr g tr) (hl : tr.length ≤ 12) (hdp : dp ≤ 10) (k : ∀ g2, hasTr g2 (tr ++ [22, 21, 20]) → Fr 45 47 g g2 → Q (some (.int (nI (j + V.kp j) - nI 1000))) (HP sk g2 n)) : Calls MX1_body (d + 3) 0 0 [.ref 45, .ref c, .int (nI j), .int (nI 22), .int (nI dp)] (HP sk g n) Q := by
  have hJ8 := hok.1
  have hkj := hok.2.2.2.1 j hj
  refine Calls.of (by decide +kernel) (Nat.le_of_ble_eq_true rfl) ?_
  refine T_iload (pc2 := 2) dX1_body_0 rfl rfl ?_
  refine T_bipush (pc2 := 4) dX1_body_2 bp16 rfl ?_
  first | refine N_icmplt (pc2 := 7) (tgt := 9) dX1_body_4 (by decide) (by with_reducible rfl) (by with_reducible rfl) (by omega) (by omega) rfl (fun c4 => ?_) (fun c4 => ?_) | refine T_icmplt (pc2 := 7) (tgt := 9) dX1_body_4 (by decide) rfl (fun c4 => ?_) (fun c4 => ?_)
  · refine T_aload_n (pc2 := 10) dX1_body_9 rfl rfl ?_
    refine T_iload_n (pc2 := 11) dX1_body_10 rfl rfl ?_
    refine C_V1 (pc2 := 14) (mc := 0) (ms := 0) dX1_body_11 cvX1_leave mlX1_48 (isO.h (sh45 S) _) (Nat.le_of_ble_eq_true rfl) rfl ?_
    refine c_leave S hT (by omega) (fun g2 hT2 hf2 => ?_)
    have hV2 := hV.fr hf2 hd
    have hl2 : (tr ++ [22]).length = tr.length + 1 := by simp
    refine T_iload (pc2 := 16) dX1_body_14 rfl rfl ?_
    refine T_iconst (pc2 := 17) dX1_body_16 ic1 rfl ?_
    first | refine N_iadd (pc2 := 18) dX1_body_17 (by with_reducible rfl) (by with_reducible rfl) rfl ?_ | refine T_iadd (pc2 := 18) dX1_body_17 rfl ?_
    refine T_istore (pc2 := 20) dX1_body_18 (by decide) rfl ?_
    refine T_iload_n (pc2 := 21) dX1_body_20 rfl rfl ?_
    refine T_tableIn (off := 162) (tgt := 183) dX1_body_21 (by decide) (by decide) (by decide) (by decide) ?_
    refine T_aload_n (pc2 := 184) dX1_body_183 rfl rfl ?_
    refine T_aload_n (pc2 := 185) dX1_body_184 rfl rfl ?_
    refine T_iload_n (pc2 := 186) dX1_body_185 rfl rfl ?_
    refine T_bipush (pc2 := 188) dX1_body_186 bp21 rfl ?_
    refine T_iload (pc2 := 190) dX1_body_188 rfl rfl ?_
    refine C_V4 (pc2 := 193) (mc := 0) (ms := 0) dX1_body_190 cvX1_body mlX1_32 (isO.h (sh45 S) _) (Nat.le_of_ble_eq_true rfl) rfl ?_
    refine c_b21 S hc hd hV2 hok hj hT2 (by omega) (by omega) (fun g3 hT3 hf3 => ?_)
    rw [List.append_assoc] at hT3
    refine T_sipush (pc2 := 196) dX1_body_193 sp1000 rfl ?_
    first | refine N_isub (pc2 := 197) dX1_body_196 (by with_reducible rfl) (by with_reducible rfl) (by omega) rfl ?_ | refine T_isub (pc2 := 197) dX1_body_196 rfl ?_
    refine T_iret dX1_body_197 rfl rfl ?_
    exact k g3 hT3 (hf2.tr hf3)
  · exact absurd (by omega) c4
theorem c_b24 (S : Sh sk n bf im above below) (hc : isC sk n c) (hd : c + 6 ≤ 45 ∨ 47 ≤ c) (hV : hasC g c V) (hok : okC V) (hj : j < V.J) (hT : hasTr g tr) (hl : tr.length ≤ 12) (hdp : dp ≤ 10) (k : ∀ g2, hasTr g2 (tr ++ [24, 21, 20]) → Fr 45 47 g g2 → Q (some (.int (nI (2 * (j + V.kp j))))) (HP sk g2 n)) : Calls MX1_body (d + 3) 0 0 [.ref 45, .ref c, .int (nI j), .int (nI 24), .int (nI dp)] (HP sk g n) Q := by
  have hJ8 := hok.1
  have hkj := hok.2.2.2.1 j hj
  refine Calls.of (by decide +kernel) (Nat.le_of_ble_eq_true rfl) ?_
  refine T_iload (pc2 := 2) dX1_body_0 rfl rfl ?_
  refine T_bipush (pc2 := 4) dX1_body_2 bp16 rfl ?_
  first | refine N_icmplt (pc2 := 7) (tgt := 9) dX1_body_4 (by decide) (by with_reducible rfl) (by with_reducible rfl) (by omega) (by omega) rfl (fun c4 => ?_) (fun c4 => ?_) | refine T_icmplt (pc2 := 7) (tgt := 9) dX1_body_4 (by decide) rfl (fun c4 => ?_) (fun c4 => ?_)
  · refine T_aload_n (pc2 := 10) dX1_body_9 rfl rfl ?_
    refine T_iload_n (pc2 := 11) dX1_body_10 rfl rfl ?_
    refine C_V1 (pc2 := 14) (mc := 0) (ms := 0) dX1_body_11 cvX1_leave mlX1_48 (isO.h (sh45 S) _) (Nat.le_of_ble_eq_true rfl) rfl ?_
    refine c_leave S hT (by omega) (fun g2 hT2 hf2 => ?_)
    have hV2 := hV.fr hf2 hd
    have hl2 : (tr ++ [24]).length = tr.length + 1 := by simp
    refine T_iload (pc2 := 16) dX1_body_14 rfl rfl ?_
    refine T_iconst (pc2 := 17) dX1_body_16 ic1 rfl ?_
    first | refine N_iadd (pc2 := 18) dX1_body_17 (by with_reducible rfl) (by with_reducible rfl) rfl ?_ | refine T_iadd (pc2 := 18) dX1_body_17 rfl ?_
    refine T_istore (pc2 := 20) dX1_body_18 (by decide) rfl ?_
    refine T_iload_n (pc2 := 21) dX1_body_20 rfl rfl ?_
    refine T_tableIn (off := 198) (tgt := 219) dX1_body_21 (by decide) (by decide) (by decide) (by decide) ?_
    refine T_iconst (pc2 := 220) dX1_body_219 ic2 rfl ?_
    refine T_aload_n (pc2 := 221) dX1_body_220 rfl rfl ?_
    refine T_aload_n (pc2 := 222) dX1_body_221 rfl rfl ?_
    refine T_iload_n (pc2 := 223) dX1_body_222 rfl rfl ?_
    refine T_bipush (pc2 := 225) dX1_body_223 bp21 rfl ?_
    refine T_iload (pc2 := 227) dX1_body_225 rfl rfl ?_
    refine C_V4 (pc2 := 230) (mc := 0) (ms := 0) dX1_body_227 cvX1_body mlX1_32 (isO.h (sh45 S) _) (Nat.le_of_ble_eq_true rfl) rfl ?_
    refine c_b21 S hc hd hV2 hok hj hT2 (by omega) (by omega) (fun g3 hT3 hf3 => ?_)
    rw [List.append_assoc] at hT3
    first | refine N_imul (pc2 := 231) dX1_body_230 (by with_reducible rfl) (by with_reducible rfl) rfl ?_ | refine T_imul (pc2 := 231) dX1_body_230 rfl ?_
    refine T_iret dX1_body_231 rfl rfl ?_
    exact k g3 hT3 (hf2.tr hf3)
  · exact absurd (by omega) c4
theorem c_b13 (S : Sh sk n bf im above below) (hc : isC sk n c) (hd : c + 6 ≤ 45 ∨ 47 ≤ c) (hV : hasC g c V) (hok : okC V) (hj : j < V.J) (hT : hasTr g tr) (hl : tr.length ≤ 13) (hdp : dp ≤ 11) (k : ∀ g2, hasTr g2 (tr ++ [13, 10]) → Fr 45 47 g g2 → Q (some (.int (nI (V.nt j) - nI 100))) (HP sk g2 n)) : Calls MX1_body (d + 2) 0 0 [.ref 45, .ref c, .int (nI j), .int (nI 13), .int (nI dp)] (HP sk g n) Q := by
  have hJ8 := hok.1
  have hkj := hok.2.2.2.1 j hj
  refine Calls.of (by decide +kernel) (Nat.le_of_ble_eq_true rfl) ?_
  refine T_iload (pc2 := 2) dX1_body_0 rfl rfl ?_
  refine T_bipush (pc2 := 4) dX1_body_2 bp16 rfl ?_
  first | refine N_icmplt (pc2 := 7) (tgt := 9) dX1_body_4 (by decide) (by with_reducible rfl) (by with_reducible rfl) (by omega) (by omega) rfl (fun c4 => ?_) (fun c4 => ?_) | refine T_icmplt (pc2 := 7) (tgt := 9) dX1_body_4 (by decide) rfl (fun c4 => ?_) (fun c4 => ?_)
  · refine T_aload_n (pc2 := 10) dX1_body_9 rfl rfl ?_
    refine T_iload_n (pc2 := 11) dX1_body_10 rfl rfl ?_
    refine C_V1 (pc2 := 14) (mc := 0) (ms := 0) dX1_body_11 cvX1_leave mlX1_48 (isO.h (sh45 S) _) (Nat.le_of_ble_eq_true rfl) rfl ?_
    refine c_leave S hT (by omega) (fun g2 hT2 hf2 => ?_)
    have hV2 := hV.fr hf2 hd
    have hl2 : (tr ++ [13]).length = tr.length + 1 := by simp
    refine T_iload (pc2 := 16) dX1_body_14 rfl rfl ?_
    refine T_iconst (pc2 := 17) dX1_body_16 ic1 rfl ?_
    first | refine N_iadd (pc2 := 18) dX1_body_17 (by with_reducible rfl) (by with_reducible rfl) rfl ?_ | refine T_iadd (pc2 := 18) dX1_body_17 rfl ?_
    refine T_istore (pc2 := 20) dX1_body_18 (by decide) rfl ?_
    refine T_iload_n (pc2 := 21) dX1_body_20 rfl rfl ?_
    refine T_tableIn (off := 115) (tgt := 136) dX1_body_21 (by decide) (by decide) (by decide) (by decide) ?_
    refine T_aload_n (pc2 := 137) dX1_body_136 rfl rfl ?_
    refine T_aload_n (pc2 := 138) dX1_body_137 rfl rfl ?_
    refine T_iload_n (pc2 := 139) dX1_body_138 rfl rfl ?_
    refine T_bipush (pc2 := 141) dX1_body_139 bp10 rfl ?_
    refine T_iload (pc2 := 143) dX1_body_141 rfl rfl ?_
    refine C_V4 (pc2 := 146) (mc := 0) (ms := 0) dX1_body_143 cvX1_body mlX1_32 (isO.h (sh45 S) _) (Nat.le_of_ble_eq_true rfl) rfl ?_
    refine c_b10 S hc hd hV2 hok hj hT2 (by omega) (by omega) (fun g3 hT3 hf3 => ?_)
    rw [List.append_assoc] at hT3
    refine T_bipush (pc2 := 148) dX1_body_146 bp100 rfl ?_
    first | refine N_isub (pc2 := 149) dX1_body_148 (by with_reducible rfl) (by with_reducible rfl) (by omega) rfl ?_ | refine T_isub (pc2 := 149) dX1_body_148 rfl ?_
    refine T_iret dX1_body_149 rfl rfl ?_
    exact k g3 hT3 (hf2.tr hf3)
  · exact absurd (by omega) c4
theorem c_b14 (S : Sh sk n bf im above below) (hc : isC sk n c) (hd : c + 6 ≤ 45 ∨ 47 ≤ c) (hV : hasC g c V) (hok : okC V) (hj : j < V.J) (hT : hasTr g tr) (hl : tr.length ≤ 12) (hdp : dp ≤ 10) (k : ∀ g2, hasTr g2 (tr ++ [14, 13, 10]) → Fr 45 47 g g2 → Q (some (.int (nI 2 * (nI (V.nt j) - nI 100)))) (HP sk g2 n)) : Calls MX1_body (d + 3) 0 0 [.ref 45, .ref c, .int (nI j), .int (nI 14), .int (nI dp)] (HP sk g n) Q := by
  have hJ8 := hok.1
  have hkj := hok.2.2.2.1 j hj
  refine Calls.of (by decide +kernel) (Nat.le_of_ble_eq_true rfl) ?_
  refine T_iload (pc2 := 2) dX1_body_0 rfl rfl ?_
  refine T_bipush (pc2 := 4) dX1_body_2 bp16 rfl ?_
  first | refine N_icmplt (pc2 := 7) (tgt := 9) dX1_body_4 (by decide) (by with_reducible rfl) (by with_reducible rfl) (by omega) (by omega) rfl (fun c4 => ?_) (fun c4 => ?_) | refine T_icmplt (pc2 := 7) (tgt := 9) dX1_body_4 (by decide) rfl (fun c4 => ?_) (fun c4 => ?_)
  · refine T_aload_n (pc2 := 10) dX1_body_9 rfl rfl ?_
    refine T_iload_n (pc2 := 11) dX1_body_10 rfl rfl ?_
    refine C_V1 (pc2 := 14) (mc := 0) (ms := 0) dX1_body_11 cvX1_leave mlX1_48 (isO.h (sh45 S) _) (Nat.le_of_ble_eq_true rfl) rfl ?_
    refine c_leave S hT (by omega) (fun g2 hT2 hf2 => ?_)
    have hV2 := hV.fr hf2 hd
    have hl2 : (tr ++ [14]).length = tr.length + 1 := by simp
    refine T_iload (pc2 := 16) dX1_body_14 rfl rfl ?_
    refine T_iconst (pc2 := 17) dX1_body_16 ic1 rfl ?_
    first | refine N_iadd (pc2 := 18) dX1_body_17 (by with_reducible rfl) (by with_reducible rfl) rfl ?_ | refine T_iadd (pc2 := 18) dX1_body_17 rfl ?_
    refine T_istore (pc2 := 20) dX1_body_18 (by decide) rfl ?_
    refine T_iload_n (pc2 := 21) dX1_body_20 rfl rfl ?_
    refine T_tableIn (off := 129) (tgt := 150) dX1_body_21 (by decide) (by decide) (by decide) (by decide) ?_
    refine T_iconst (pc2 := 151) dX1_body_150 ic2 rfl ?_
    refine T_aload_n (pc2 := 152) dX1_body_151 rfl rfl ?_
    refine T_aload_n (pc2 := 153) dX1_body_152 rfl rfl ?_
    refine T_iload_n (pc2 := 154) dX1_body_153 rfl rfl ?_
    refine T_bipush (pc2 := 156) dX1_body_154 bp13 rfl ?_
    refine T_iload (pc2 := 158) dX1_body_156 rfl rfl ?_
    refine C_V4 (pc2 := 161) (mc := 0) (ms := 0) dX1_body_158 cvX1_body mlX1_32 (isO.h (sh45 S) _) (Nat.le_of_ble_eq_true rfl) rfl ?_
    refine c_b13 S hc hd hV2 hok hj hT2 (by omega) (by omega) (fun g3 hT3 hf3 => ?_)
    rw [List.append_assoc] at hT3
    first | refine N_imul (pc2 := 162) dX1_body_161 (by with_reducible rfl) (by with_reducible rfl) rfl ?_ | refine T_imul (pc2 := 162) dX1_body_161 rfl ?_
    refine T_iret dX1_body_162 rfl rfl ?_
    exact k g3 hT3 (hf2.tr hf3)
  · exact absurd (by omega) c4
theorem bodyFor_step {kd what s b : Nat} (S : Sh sk n bf im above below) (hs : stat g) (hk : kd < 6) (hst : s < 6) (hw : what < 2) (hb : b = if what = 0 then szT kd else mkT kd) (hb31 : b < 100)
    (kt : b ≠ 0 → Q (some (.int (nI b))) (HP sk g n)) (kf : b = 0 → T MX1_bodyFor (d + 1) kc ks 4 [(1, .int (nI what)), (2, .int (kaT kd)), (3, .int (nI (s + 1)))] [] (HP sk g n) Q) :
    T MX1_bodyFor (d + 1) kc ks 4 [(1, .int (nI what)), (2, .int (nI kd)), (3, .int (nI s))] [] (HP sk g n) Q := by
  have h1 := hs.1 kd hk
  have h2 := hs.2.1 kd hk
  have h3 := hs.2.2 kd hk
  have hmid : T MX1_bodyFor (d + 1) kc ks 36 [(1, .int (nI what)), (2, .int (nI kd)), (3, .int (nI s))] [.int (nI b)] (HP sk g n) Q := by
    refine T_istore (pc2 := 38) dX1_bodyFor_36 (by decide) rfl ?_
    refine T_iload (pc2 := 40) dX1_bodyFor_38 rfl rfl ?_
    first | refine B_ifeq1 (pc2 := 43) (tgt := 46) dX1_bodyFor_40 (by with_reducible rfl) (by decide) rfl ?_ | refine B_ifeq0 (tgt := 46) dX1_bodyFor_40 (by with_reducible rfl) (by decide) ?_ | refine N_ifeq (pc2 := 43) (tgt := 46) dX1_bodyFor_40 (by with_reducible rfl) (by decide) (by omega) rfl (fun c40 => ?_) (fun c40 => ?_) | refine T_ifeq (pc2 := 43) (tgt := 46) dX1_bodyFor_40 (by decide) rfl (fun c40 => ?_) (fun c40 => ?_)
    · refine T_getsN (pc2 := 49) (i := 1) dX1_bodyFor_46 (Or.inl ⟨rfl, rfl, rfl⟩) fsX1_45 rfl ?_
      refine T_iload_n (pc2 := 50) dX1_bodyFor_49 rfl rfl ?_
      refine G_xald (pc2 := 51) dX1_bodyFor_50 (sh1 S) (by omega) (by first | decide | omega) (by first | with_reducible assumption | exact gs_eq _ _ _ _ | exact (gs_ne _ _ (by omega)).trans (by with_reducible assumption) | exact (gs_ne _ _ (by omega)).trans (gs_eq _ _ _ _) | exact (gs_ne _ _ (by omega)).trans ((gs_ne _ _ (by omega)).trans (by with_reducible assumption)) | exact (gs_ne _ _ (by omega)).trans ((gs_ne _ _ (by omega)).trans (gs_eq _ _ _ _)) | exact (gs_ne _ _ (by omega)).trans ((gs_ne _ _ (by omega)).trans ((gs_ne _ _ (by omega)).trans (by with_reducible assumption))) | rfl) rfl ?_
      refine T_istore_n (pc2 := 52) dX1_bodyFor_51 (by decide) rfl ?_
      first | refine N_iinc (pc2 := 55) dX1_bodyFor_52 rfl (by with_reducible rfl) ic1 (by decide) rfl ?_ | refine T_iinc (pc2 := 55) dX1_bodyFor_52 rfl rfl (by decide) rfl ?_
      refine T_goto (tgt := 4) dX1_bodyFor_55 (by decide) ?_
      refine T_sub (lks (i := 1) rfl (lks (i := 2) rfl (lks (i := 3) rfl lk0))) ?_
      exact kf c40
    · refine T_iload (pc2 := 45) dX1_bodyFor_43 rfl rfl ?_
      refine T_iret dX1_bodyFor_45 rfl rfl ?_
      exact kt c40
  refine T_iload_n (pc2 := 5) dX1_bodyFor_4 rfl rfl ?_
  refine T_bipush (pc2 := 7) dX1_bodyFor_5 bp6 rfl ?_
  first | refine N_icmpge (pc2 := 10) (tgt := 58) dX1_bodyFor_7 (by decide) (by with_reducible rfl) (by with_reducible rfl) (by omega) (by omega) rfl (fun c7 => ?_) (fun c7 => ?_) | refine T_icmpge (pc2 := 10) (tgt := 58) dX1_bodyFor_7 (by decide) rfl (fun c7 => ?_) (fun c7 => ?_)
  · exact absurd c7 (by omega)
  · refine T_iload_n (pc2 := 11) dX1_bodyFor_10 rfl rfl ?_
    refine T_iconst (pc2 := 12) dX1_bodyFor_11 ic0 rfl ?_
    refine T_iconst (pc2 := 13) dX1_bodyFor_12 ic5 rfl ?_
    refine C_SN3 (pc2 := 16) (mc := 0) (ms := 0) dX1_bodyFor_13 csX7_within mnX1_35 (Nat.le_of_ble_eq_true rfl) rfl ?_
    refine c_withinN (by omega) (by decide) (by decide) (fun _ _ => ?_) (fun z => absurd ⟨by omega, by omega⟩ z)
    first | refine B_ifeq1 (pc2 := 19) (tgt := 58) dX1_bodyFor_16 (by with_reducible rfl) (by decide) rfl ?_ | refine B_ifeq0 (tgt := 58) dX1_bodyFor_16 (by with_reducible rfl) (by decide) ?_ | refine N_ifeq (pc2 := 19) (tgt := 58) dX1_bodyFor_16 (by with_reducible rfl) (by decide) (by omega) rfl (fun c16 => ?_) (fun c16 => ?_) | refine T_ifeq (pc2 := 19) (tgt := 58) dX1_bodyFor_16 (by decide) rfl (fun c16 => ?_) (fun c16 => ?_)
    refine T_iload_n (pc2 := 20) dX1_bodyFor_19 rfl rfl ?_
    first | refine B_ifne1 (tgt := 31) dX1_bodyFor_20 (by with_reducible rfl) (by decide) ?_ | refine B_ifne0 (pc2 := 23) (tgt := 31) dX1_bodyFor_20 (by with_reducible rfl) (by decide) rfl ?_ | refine N_ifne (pc2 := 23) (tgt := 31) dX1_bodyFor_20 (by with_reducible rfl) (by decide) (by omega) rfl (fun c20 => ?_) (fun c20 => ?_) | refine T_ifne (pc2 := 23) (tgt := 31) dX1_bodyFor_20 (by decide) rfl (fun c20 => ?_) (fun c20 => ?_)
    · refine T_gets (pc2 := 34) (i := 3) dX1_bodyFor_31 (Or.inr (Or.inr ⟨rfl, rfl, rfl⟩)) fsX1_42 rfl ?_
      refine T_iload_n (pc2 := 35) dX1_bodyFor_34 rfl rfl ?_
      refine G_xald (pc2 := 36) dX1_bodyFor_35 (sh3 S) (by omega) (by first | decide | omega) (by first | with_reducible assumption | exact gs_eq _ _ _ _ | exact (gs_ne _ _ (by omega)).trans (by with_reducible assumption) | exact (gs_ne _ _ (by omega)).trans (gs_eq _ _ _ _) | exact (gs_ne _ _ (by omega)).trans ((gs_ne _ _ (by omega)).trans (by with_reducible assumption)) | exact (gs_ne _ _ (by omega)).trans ((gs_ne _ _ (by omega)).trans (gs_eq _ _ _ _)) | exact (gs_ne _ _ (by omega)).trans ((gs_ne _ _ (by omega)).trans ((gs_ne _ _ (by omega)).trans (by with_reducible assumption))) | rfl) rfl ?_
      rw [if_neg c20] at hb
      rw [← hb]
      exact hmid
    · refine T_gets (pc2 := 26) (i := 2) dX1_bodyFor_23 (Or.inr (Or.inl ⟨rfl, rfl, rfl⟩)) fsX1_39 rfl ?_
      refine T_iload_n (pc2 := 27) dX1_bodyFor_26 rfl rfl ?_
      refine G_xald (pc2 := 28) dX1_bodyFor_27 (sh2 S) (by omega) (by first | decide | omega) (by first | with_reducible assumption | exact gs_eq _ _ _ _ | exact (gs_ne _ _ (by omega)).trans (by with_reducible assumption) | exact (gs_ne _ _ (by omega)).trans (gs_eq _ _ _ _) | exact (gs_ne _ _ (by omega)).trans ((gs_ne _ _ (by omega)).trans (by with_reducible assumption)) | exact (gs_ne _ _ (by omega)).trans ((gs_ne _ _ (by omega)).trans (gs_eq _ _ _ _)) | exact (gs_ne _ _ (by omega)).trans ((gs_ne _ _ (by omega)).trans ((gs_ne _ _ (by omega)).trans (by with_reducible assumption))) | rfl) rfl ?_
      refine T_goto (tgt := 36) dX1_bodyFor_28 (by decide) ?_
      rw [if_pos c20] at hb
      rw [← hb]
      exact hmid
def bodyN (kd what : Nat) : Nat := if what = 0 then (if kd = 1 then 11 else if kd = 2 then 12 else if kd = 3 then 11 else if kd = 4 then 13 else 14) else (if kd = 1 then 21 else if kd = 2 then 24 else if kd = 3 then 22 else 23)
theorem c_bodyFor {kd what : Nat} (S : Sh sk n bf im above below) (hs : stat g) (h1 : 1 ≤ kd) (h5 : kd ≤ 5) (hw : what < 2) (k : Q (some (.int (nI (bodyN kd what)))) (HP sk g n)) : Calls MX1_bodyFor (d + 1) 0 0 [.int (nI kd), .int (nI what)] (HP sk g n) Q := by
  refine Calls.of (by decide +kernel) (Nat.le_of_ble_eq_true rfl) ?_
  refine T_iload_n (pc2 := 1) dX1_bodyFor_0 rfl rfl ?_
  refine T_istore_n (pc2 := 2) dX1_bodyFor_1 (by decide) rfl ?_
  refine T_iconst (pc2 := 3) dX1_bodyFor_2 ic0 rfl ?_
  refine T_istore_n (pc2 := 4) dX1_bodyFor_3 (by decide) rfl ?_
  refine T_sub (lks (i := 1) rfl (lks (i := 2) rfl (lks (i := 3) rfl lk0))) ?_
  have hk : kd = 1 ∨ kd = 2 ∨ kd = 3 ∨ kd = 4 ∨ kd = 5 := by omega
  have hw2 : what = 0 ∨ what = 1 := by omega
  rcases hw2 with rfl | rfl
  · rcases hk with rfl | rfl | rfl | rfl | rfl
    · exact bodyFor_step (b := 11) S hs (by decide) (by decide) (by decide) rfl (by decide) (fun _ => k) (fun z => absurd z (by decide))
    · exact bodyFor_step (b := 12) S hs (by decide) (by decide) (by decide) rfl (by decide) (fun _ => k) (fun z => absurd z (by decide))
    · exact bodyFor_step (b := 0) S hs (by decide) (by decide) (by decide) rfl (by decide) (fun z => absurd rfl z) (fun _ => bodyFor_step (kd := 1) (b := 11) S hs (by decide) (by decide) (by decide) rfl (by decide) (fun _ => k) (fun z => absurd z (by decide)))
    · exact bodyFor_step (b := 13) S hs (by decide) (by decide) (by decide) rfl (by decide) (fun _ => k) (fun z => absurd z (by decide))
    · exact bodyFor_step (b := 14) S hs (by decide) (by decide) (by decide) rfl (by decide) (fun _ => k) (fun z => absurd z (by decide))
  · rcases hk with rfl | rfl | rfl | rfl | rfl
    · exact bodyFor_step (b := 21) S hs (by decide) (by decide) (by decide) rfl (by decide) (fun _ => k) (fun z => absurd z (by decide))
    · exact bodyFor_step (b := 24) S hs (by decide) (by decide) (by decide) rfl (by decide) (fun _ => k) (fun z => absurd z (by decide))
    · exact bodyFor_step (b := 22) S hs (by decide) (by decide) (by decide) rfl (by decide) (fun _ => k) (fun z => absurd z (by decide))
    · exact bodyFor_step (b := 23) S hs (by decide) (by decide) (by decide) rfl (by decide) (fun _ => k) (fun z => absurd z (by decide))
    · exact bodyFor_step (b := 0) S hs (by decide) (by decide) (by decide) rfl (by decide) (fun z => absurd rfl z) (fun _ => bodyFor_step (kd := 4) (b := 23) S hs (by decide) (by decide) (by decide) rfl (by decide) (fun _ => k) (fun z => absurd z (by decide)))
theorem c_askedM3 (S : Sh sk n bf im above below) (hs : stat g) (hc : isC sk n c) (hd : c + 6 ≤ 45 ∨ 47 ≤ c) (hV : hasC g c V) (hok : okC V) (hj : j < V.J) (hk3 : V.kd j ≤ 3) (hT : hasTr g tr) (hl : tr.length ≤ 10) (hdp : dp ≤ 8) (k : ∀ g2, hasTr g2 (tr ++ mkL (V.kd j)) → Fr 45 47 g g2 → Q (some (.int (mkV (V.kd j) j (V.nt j) (V.kp j)))) (HP sk g2 n)) : Calls MX1_asked (d + 5) 0 0 [.ref 45, .ref c, .int (nI j), .int (nI 1), .int (nI dp)] (HP sk g n) Q := by
  have hJ8 := hok.1
  obtain ⟨h1, h2, h3, h4, h5, h6, h7⟩ := hok.2.2.2.1 j hj
  have ek := (hV.2.2.2 j hj).1
  refine Calls.of (by decide +kernel) (Nat.le_of_ble_eq_true rfl) ?_
  refine T_aload_n (pc2 := 1) dX1_asked_0 rfl rfl ?_
  refine T_aload_n (pc2 := 2) dX1_asked_1 rfl rfl ?_
  refine T_iload_n (pc2 := 3) dX1_asked_2 rfl rfl ?_
  refine T_aload_n (pc2 := 4) dX1_asked_3 rfl rfl ?_
  refine G_getR (pc2 := 7) dX1_asked_4 flX1_23 hc.1 rfl rfl ?_
  refine T_iload_n (pc2 := 8) dX1_asked_7 rfl rfl ?_
  refine G_iald (pc2 := 9) dX1_asked_8 hc.2.1 (by omega) (by first | decide | omega) (by first | with_reducible assumption | exact gs_eq _ _ _ _ | exact (gs_ne _ _ (by omega)).trans (by with_reducible assumption) | exact (gs_ne _ _ (by omega)).trans (gs_eq _ _ _ _) | exact (gs_ne _ _ (by omega)).trans ((gs_ne _ _ (by omega)).trans (by with_reducible assumption)) | exact (gs_ne _ _ (by omega)).trans ((gs_ne _ _ (by omega)).trans (gs_eq _ _ _ _)) | exact (gs_ne _ _ (by omega)).trans ((gs_ne _ _ (by omega)).trans ((gs_ne _ _ (by omega)).trans (by with_reducible assumption))) | rfl) rfl ?_
  refine T_iload_n (pc2 := 10) dX1_asked_9 rfl rfl ?_
  refine C_S2 (pc2 := 13) (mc := 0) (ms := 0) dX1_asked_10 csX1_bodyFor mlX1_28 (Nat.le_of_ble_eq_true rfl) rfl ?_
  refine c_bodyFor S hs h1 h2 (by decide) ?_
  refine T_iload (pc2 := 15) dX1_asked_13 rfl rfl ?_
  refine C_V4 (pc2 := 18) (mc := 0) (ms := 0) dX1_asked_15 cvX1_body mlX1_32 (isO.h (sh45 S) _) (Nat.le_of_ble_eq_true rfl) rfl ?_
  have hk : V.kd j = 1 ∨ V.kd j = 2 ∨ V.kd j = 3 := by omega
  rcases hk with hk | hk | hk
  · rw [hk] at k ⊢
    refine c_b21 S hc hd hV hok hj hT (by omega) (by omega) (fun g2 hT2 hf2 => ?_)
    refine T_iret dX1_asked_18 rfl rfl ?_
    exact k g2 hT2 hf2
  · rw [hk] at k ⊢
    refine c_b24 S hc hd hV hok hj hT (by omega) (by omega) (fun g2 hT2 hf2 => ?_)
    refine T_iret dX1_asked_18 rfl rfl ?_
    exact k g2 hT2 hf2
  · rw [hk] at k ⊢
    refine c_b22 S hc hd hV hok hj hT (by omega) (by omega) (fun g2 hT2 hf2 => ?_)
    refine T_iret dX1_asked_18 rfl rfl ?_
    exact k g2 hT2 hf2

theorem c_askedS45 (S : Sh sk n bf im above below) (hs : stat g) (hc : isC sk n c) (hd : c + 6 ≤ 45 ∨ 47 ≤ c) (hV : hasC g c V) (hok : okC V) (hj : j < V.J) (hk4 : 4 ≤ V.kd j) (hT : hasTr g tr) (hl : tr.length ≤ 10) (hdp : dp ≤ 8) (k : ∀ g2, hasTr g2 (tr ++ szL (V.kd j)) → Fr 45 47 g g2 → Q (some (.int (szV (V.kd j) j (V.nt j) (V.kp j)))) (HP sk g2 n)) : Calls MX1_asked (d + 5) 0 0 [.ref 45, .ref c, .int (nI j), .int (nI 0), .int (nI dp)] (HP sk g n) Q := by
  have hJ8 := hok.1
  obtain ⟨h1, h2, h3, h4, h5, h6, h7⟩ := hok.2.2.2.1 j hj
  have ek := (hV.2.2.2 j hj).1
  refine Calls.of (by decide +kernel) (Nat.le_of_ble_eq_true rfl) ?_
  refine T_aload_n (pc2 := 1) dX1_asked_0 rfl rfl ?_
  refine T_aload_n (pc2 := 2) dX1_asked_1 rfl rfl ?_
  refine T_iload_n (pc2 := 3) dX1_asked_2 rfl rfl ?_
  refine T_aload_n (pc2 := 4) dX1_asked_3 rfl rfl ?_
  refine G_getR (pc2 := 7) dX1_asked_4 flX1_23 hc.1 rfl rfl ?_
  refine T_iload_n (pc2 := 8) dX1_asked_7 rfl rfl ?_
  refine G_iald (pc2 := 9) dX1_asked_8 hc.2.1 (by omega) (by first | decide | omega) (by first | with_reducible assumption | exact gs_eq _ _ _ _ | exact (gs_ne _ _ (by omega)).trans (by with_reducible assumption) | exact (gs_ne _ _ (by omega)).trans (gs_eq _ _ _ _) | exact (gs_ne _ _ (by omega)).trans ((gs_ne _ _ (by omega)).trans (by with_reducible assumption)) | exact (gs_ne _ _ (by omega)).trans ((gs_ne _ _ (by omega)).trans (gs_eq _ _ _ _)) | exact (gs_ne _ _ (by omega)).trans ((gs_ne _ _ (by omega)).trans ((gs_ne _ _ (by omega)).trans (by with_reducible assumption))) | rfl) rfl ?_
  refine T_iload_n (pc2 := 10) dX1_asked_9 rfl rfl ?_
  refine C_S2 (pc2 := 13) (mc := 0) (ms := 0) dX1_asked_10 csX1_bodyFor mlX1_28 (Nat.le_of_ble_eq_true rfl) rfl ?_
  refine c_bodyFor S hs h1 h2 (by decide) ?_
  refine T_iload (pc2 := 15) dX1_asked_13 rfl rfl ?_
  refine C_V4 (pc2 := 18) (mc := 0) (ms := 0) dX1_asked_15 cvX1_body mlX1_32 (isO.h (sh45 S) _) (Nat.le_of_ble_eq_true rfl) rfl ?_
  have hk : V.kd j = 4 ∨ V.kd j = 5 := by omega
  rcases hk with hk | hk
  · rw [hk] at k ⊢
    refine c_b13 S hc hd hV hok hj hT (by omega) (by omega) (fun g2 hT2 hf2 => ?_)
    refine T_iret dX1_asked_18 rfl rfl ?_
    exact k g2 hT2 hf2
  · rw [hk] at k ⊢
    refine c_b14 S hc hd hV hok hj hT (by omega) (by omega) (fun g2 hT2 hf2 => ?_)
    refine T_iret dX1_asked_18 rfl rfl ?_
    exact k g2 hT2 hf2

theorem c_b11 (S : Sh sk n bf im above below) (hs : stat g) (hc : isC sk n c) (hd : c + 6 ≤ 45 ∨ 47 ≤ c) (hV : hasC g c V) (hok : okC V) (hj : j < V.J) (hk3 : V.kd j ≤ 3) (hT : hasTr g tr) (hl : tr.length ≤ 7) (hdp : dp ≤ 6) (k : ∀ g2, hasTr g2 (tr ++ ([11, 10] ++ mkL (V.kd j))) → Fr 45 47 g g2 → Q (some (.int (nI (V.nt j) + mkV (V.kd j) j (V.nt j) (V.kp j)))) (HP sk g2 n)) : Calls MX1_body (d + 6) 0 0 [.ref 45, .ref c, .int (nI j), .int (nI 11), .int (nI dp)] (HP sk g n) Q := by
  have hJ8 := hok.1
  have hkj := hok.2.2.2.1 j hj
  refine Calls.of (by decide +kernel) (Nat.le_of_ble_eq_true rfl) ?_
  refine T_iload (pc2 := 2) dX1_body_0 rfl rfl ?_
  refine T_bipush (pc2 := 4) dX1_body_2 bp16 rfl ?_
  first | refine N_icmplt (pc2 := 7) (tgt := 9) dX1_body_4 (by decide) (by with_reducible rfl) (by with_reducible rfl) (by omega) (by omega) rfl (fun c4 => ?_) (fun c4 => ?_) | refine T_icmplt (pc2 := 7) (tgt := 9) dX1_body_4 (by decide) rfl (fun c4 => ?_) (fun c4 => ?_)
  · refine T_aload_n (pc2 := 10) dX1_body_9 rfl rfl ?_
    refine T_iload_n (pc2 := 11) dX1_body_10 rfl rfl ?_
    refine C_V1 (pc2 := 14) (mc := 0) (ms := 0) dX1_body_11 cvX1_leave mlX1_48 (isO.h (sh45 S) _) (Nat.le_of_ble_eq_true rfl) rfl ?_
    refine c_leave S hT (by omega) (fun g2 hT2 hf2 => ?_)
    have hV2 := hV.fr hf2 hd
    have hs2 := hs.fr hf2 (by decide)
    have hl2 : (tr ++ [11]).length = tr.length + 1 := by simp
    refine T_iload (pc2 := 16) dX1_body_14 rfl rfl ?_
    refine T_iconst (pc2 := 17) dX1_body_16 ic1 rfl ?_
    first | refine N_iadd (pc2 := 18) dX1_body_17 (by with_reducible rfl) (by with_reducible rfl) rfl ?_ | refine T_iadd (pc2 := 18) dX1_body_17 rfl ?_
    refine T_istore (pc2 := 20) dX1_body_18 (by decide) rfl ?_
    refine T_iload_n (pc2 := 21) dX1_body_20 rfl rfl ?_
    refine T_tableIn (off := 82) (tgt := 103) dX1_body_21 (by decide) (by decide) (by decide) (by decide) ?_
    refine T_aload_n (pc2 := 104) dX1_body_103 rfl rfl ?_
    refine T_aload_n (pc2 := 105) dX1_body_104 rfl rfl ?_
    refine T_iload_n (pc2 := 106) dX1_body_105 rfl rfl ?_
    refine T_bipush (pc2 := 108) dX1_body_106 bp10 rfl ?_
    refine T_iload (pc2 := 110) dX1_body_108 rfl rfl ?_
    refine C_V4 (pc2 := 113) (mc := 0) (ms := 0) dX1_body_110 cvX1_body mlX1_32 (isO.h (sh45 S) _) (Nat.le_of_ble_eq_true rfl) rfl ?_
    refine c_b10 S hc hd hV2 hok hj hT2 (by omega) (by omega) (fun g3 hT3 hf3 => ?_)
    refine T_aload_n (pc2 := 114) dX1_body_113 rfl rfl ?_
    refine T_aload_n (pc2 := 115) dX1_body_114 rfl rfl ?_
    refine T_iload_n (pc2 := 116) dX1_body_115 rfl rfl ?_
    refine T_iconst (pc2 := 117) dX1_body_116 ic1 rfl ?_
    refine T_iload (pc2 := 119) dX1_body_117 rfl rfl ?_
    refine C_V4 (pc2 := 122) (mc := 0) (ms := 0) dX1_body_119 cvX1_asked mlX1_19 (isO.h (sh45 S) _) (Nat.le_of_ble_eq_true rfl) rfl ?_
    have hl3 : ((tr ++ [11]) ++ [10]).length = tr.length + 2 := by simp
    refine c_askedM3 S (hs2.fr hf3 (by decide)) hc hd (hV2.fr hf3 hd) hok hj hk3 hT3 (by omega) (by omega) (fun g4 hT4 hf4 => ?_)
    rw [List.append_assoc, List.append_assoc] at hT4
    refine T_iadd (pc2 := 123) dX1_body_122 rfl ?_
    refine T_iret dX1_body_123 rfl rfl ?_
    exact k g4 hT4 ((hf2.tr hf3).tr hf4)
  · exact absurd (by omega) c4
theorem c_b12 (S : Sh sk n bf im above below) (hs : stat g) (hc : isC sk n c) (hd : c + 6 ≤ 45 ∨ 47 ≤ c) (hV : hasC g c V) (hok : okC V) (hj : j < V.J) (hk3 : V.kd j ≤ 3) (hT : hasTr g tr) (hl : tr.length ≤ 6) (hdp : dp ≤ 5) (k : ∀ g2, hasTr g2 (tr ++ ([12, 11, 10] ++ mkL (V.kd j))) → Fr 45 47 g g2 → Q (some (.int (-(nI (V.nt j) + mkV (V.kd j) j (V.nt j) (V.kp j))))) (HP sk g2 n)) : Calls MX1_body (d + 7) 0 0 [.ref 45, .ref c, .int (nI j), .int (nI 12), .int (nI dp)] (HP sk g n) Q := by
  have hJ8 := hok.1
  have hkj := hok.2.2.2.1 j hj
  refine Calls.of (by decide +kernel) (Nat.le_of_ble_eq_true rfl) ?_
  refine T_iload (pc2 := 2) dX1_body_0 rfl rfl ?_
  refine T_bipush (pc2 := 4) dX1_body_2 bp16 rfl ?_
  first | refine N_icmplt (pc2 := 7) (tgt := 9) dX1_body_4 (by decide) (by with_reducible rfl) (by with_reducible rfl) (by omega) (by omega) rfl (fun c4 => ?_) (fun c4 => ?_) | refine T_icmplt (pc2 := 7) (tgt := 9) dX1_body_4 (by decide) rfl (fun c4 => ?_) (fun c4 => ?_)
  · refine T_aload_n (pc2 := 10) dX1_body_9 rfl rfl ?_
    refine T_iload_n (pc2 := 11) dX1_body_10 rfl rfl ?_
    refine C_V1 (pc2 := 14) (mc := 0) (ms := 0) dX1_body_11 cvX1_leave mlX1_48 (isO.h (sh45 S) _) (Nat.le_of_ble_eq_true rfl) rfl ?_
    refine c_leave S hT (by omega) (fun g2 hT2 hf2 => ?_)
    have hV2 := hV.fr hf2 hd
    have hs2 := hs.fr hf2 (by decide)
    have hl2 : (tr ++ [12]).length = tr.length + 1 := by simp
    refine T_iload (pc2 := 16) dX1_body_14 rfl rfl ?_
    refine T_iconst (pc2 := 17) dX1_body_16 ic1 rfl ?_
    first | refine N_iadd (pc2 := 18) dX1_body_17 (by with_reducible rfl) (by with_reducible rfl) rfl ?_ | refine T_iadd (pc2 := 18) dX1_body_17 rfl ?_
    refine T_istore (pc2 := 20) dX1_body_18 (by decide) rfl ?_
    refine T_iload_n (pc2 := 21) dX1_body_20 rfl rfl ?_
    refine T_tableIn (off := 103) (tgt := 124) dX1_body_21 (by decide) (by decide) (by decide) (by decide) ?_
    refine T_aload_n (pc2 := 125) dX1_body_124 rfl rfl ?_
    refine T_aload_n (pc2 := 126) dX1_body_125 rfl rfl ?_
    refine T_iload_n (pc2 := 127) dX1_body_126 rfl rfl ?_
    refine T_bipush (pc2 := 129) dX1_body_127 bp11 rfl ?_
    refine T_iload (pc2 := 131) dX1_body_129 rfl rfl ?_
    refine C_V4 (pc2 := 134) (mc := 0) (ms := 0) dX1_body_131 cvX1_body mlX1_32 (isO.h (sh45 S) _) (Nat.le_of_ble_eq_true rfl) rfl ?_
    refine c_b11 S hs2 hc hd hV2 hok hj hk3 hT2 (by omega) (by omega) (fun g3 hT3 hf3 => ?_)
    rw [List.append_assoc] at hT3
    refine T_ineg (pc2 := 135) dX1_body_134 rfl ?_
    refine T_iret dX1_body_135 rfl rfl ?_
    exact k g3 hT3 (hf2.tr hf3)
  · exact absurd (by omega) c4
theorem c_b23 (S : Sh sk n bf im above below) (hs : stat g) (hc : isC sk n c) (hd : c + 6 ≤ 45 ∨ 47 ≤ c) (hV : hasC g c V) (hok : okC V) (hj : j < V.J) (hk4 : 4 ≤ V.kd j) (hT : hasTr g tr) (hl : tr.length ≤ 7) (hdp : dp ≤ 6) (k : ∀ g2, hasTr g2 (tr ++ ([23, 20] ++ szL (V.kd j))) → Fr 45 47 g g2 → Q (some (.int (nI j - szV (V.kd j) j (V.nt j) (V.kp j)))) (HP sk g2 n)) : Calls MX1_body (d + 6) 0 0 [.ref 45, .ref c, .int (nI j), .int (nI 23), .int (nI dp)] (HP sk g n) Q := by
  have hJ8 := hok.1
  have hkj := hok.2.2.2.1 j hj
  refine Calls.of (by decide +kernel) (Nat.le_of_ble_eq_true rfl) ?_
  refine T_iload (pc2 := 2) dX1_body_0 rfl rfl ?_
  refine T_bipush (pc2 := 4) dX1_body_2 bp16 rfl ?_
  first | refine N_icmplt (pc2 := 7) (tgt := 9) dX1_body_4 (by decide) (by with_reducible rfl) (by with_reducible rfl) (by omega) (by omega) rfl (fun c4 => ?_) (fun c4 => ?_) | refine T_icmplt (pc2 := 7) (tgt := 9) dX1_body_4 (by decide) rfl (fun c4 => ?_) (fun c4 => ?_)
  · refine T_aload_n (pc2 := 10) dX1_body_9 rfl rfl ?_
    refine T_iload_n (pc2 := 11) dX1_body_10 rfl rfl ?_
    refine C_V1 (pc2 := 14) (mc := 0) (ms := 0) dX1_body_11 cvX1_leave mlX1_48 (isO.h (sh45 S) _) (Nat.le_of_ble_eq_true rfl) rfl ?_
    refine c_leave S hT (by omega) (fun g2 hT2 hf2 => ?_)
    have hV2 := hV.fr hf2 hd
    have hs2 := hs.fr hf2 (by decide)
    have hl2 : (tr ++ [23]).length = tr.length + 1 := by simp
    refine T_iload (pc2 := 16) dX1_body_14 rfl rfl ?_
    refine T_iconst (pc2 := 17) dX1_body_16 ic1 rfl ?_
    first | refine N_iadd (pc2 := 18) dX1_body_17 (by with_reducible rfl) (by with_reducible rfl) rfl ?_ | refine T_iadd (pc2 := 18) dX1_body_17 rfl ?_
    refine T_istore (pc2 := 20) dX1_body_18 (by decide) rfl ?_
    refine T_iload_n (pc2 := 21) dX1_body_20 rfl rfl ?_
    refine T_tableIn (off := 177) (tgt := 198) dX1_body_21 (by decide) (by decide) (by decide) (by decide) ?_
    refine T_aload_n (pc2 := 199) dX1_body_198 rfl rfl ?_
    refine T_aload_n (pc2 := 200) dX1_body_199 rfl rfl ?_
    refine T_iload_n (pc2 := 201) dX1_body_200 rfl rfl ?_
    refine T_bipush (pc2 := 203) dX1_body_201 bp20 rfl ?_
    refine T_iload (pc2 := 205) dX1_body_203 rfl rfl ?_
    refine C_V4 (pc2 := 208) (mc := 0) (ms := 0) dX1_body_205 cvX1_body mlX1_32 (isO.h (sh45 S) _) (Nat.le_of_ble_eq_true rfl) rfl ?_
    refine c_b20 S hc hd hV2 hok hj hT2 (by omega) (by omega) (fun g3 hT3 hf3 => ?_)
    refine T_aload_n (pc2 := 209) dX1_body_208 rfl rfl ?_
    refine T_aload_n (pc2 := 210) dX1_body_209 rfl rfl ?_
    refine T_iload_n (pc2 := 211) dX1_body_210 rfl rfl ?_
    refine T_iconst (pc2 := 212) dX1_body_211 ic0 rfl ?_
    refine T_iload (pc2 := 214) dX1_body_212 rfl rfl ?_
    refine C_V4 (pc2 := 217) (mc := 0) (ms := 0) dX1_body_214 cvX1_asked mlX1_19 (isO.h (sh45 S) _) (Nat.le_of_ble_eq_true rfl) rfl ?_
    have hl3 : ((tr ++ [23]) ++ [20]).length = tr.length + 2 := by simp
    refine c_askedS45 S (hs2.fr hf3 (by decide)) hc hd (hV2.fr hf3 hd) hok hj hk4 hT3 (by omega) (by omega) (fun g4 hT4 hf4 => ?_)
    rw [List.append_assoc, List.append_assoc] at hT4
    refine T_isub (pc2 := 218) dX1_body_217 rfl ?_
    refine T_iret dX1_body_218 rfl rfl ?_
    exact k g4 hT4 ((hf2.tr hf3).tr hf4)
  · exact absurd (by omega) c4
theorem c_asked {what : Nat} (S : Sh sk n bf im above below) (hs : stat g) (hc : isC sk n c) (hd : c + 6 ≤ 45 ∨ 47 ≤ c) (hV : hasC g c V) (hok : okC V) (hj : j < V.J) (hw : what < 2) (hT : hasTr g tr) (hl : tr.length ≤ 5) (hdp : dp ≤ 4) (k : ∀ g2, hasTr g2 (tr ++ (if what = 0 then szL (V.kd j) else mkL (V.kd j))) → Fr 45 47 g g2 → Q (some (.int (if what = 0 then szV (V.kd j) j (V.nt j) (V.kp j) else mkV (V.kd j) j (V.nt j) (V.kp j)))) (HP sk g2 n)) : Calls MX1_asked (d + 9) 0 0 [.ref 45, .ref c, .int (nI j), .int (nI what), .int (nI dp)] (HP sk g n) Q := by
  have hJ8 := hok.1
  obtain ⟨h1, h2, h3, h4, h5, h6, h7⟩ := hok.2.2.2.1 j hj
  have ek := (hV.2.2.2 j hj).1
  have hw2 : what = 0 ∨ what = 1 := by omega
  have hk : V.kd j = 1 ∨ V.kd j = 2 ∨ V.kd j = 3 ∨ V.kd j = 4 ∨ V.kd j = 5 := by omega
  rcases hw2 with rfl | rfl
  · rcases Nat.lt_or_ge (V.kd j) 4 with q | q
    · refine Calls.of (by decide +kernel) (Nat.le_of_ble_eq_true rfl) ?_
      refine T_aload_n (pc2 := 1) dX1_asked_0 rfl rfl ?_
      refine T_aload_n (pc2 := 2) dX1_asked_1 rfl rfl ?_
      refine T_iload_n (pc2 := 3) dX1_asked_2 rfl rfl ?_
      refine T_aload_n (pc2 := 4) dX1_asked_3 rfl rfl ?_
      refine G_getR (pc2 := 7) dX1_asked_4 flX1_23 hc.1 rfl rfl ?_
      refine T_iload_n (pc2 := 8) dX1_asked_7 rfl rfl ?_
      refine G_iald (pc2 := 9) dX1_asked_8 hc.2.1 (by omega) (by first | decide | omega) (by first | with_reducible assumption | exact gs_eq _ _ _ _ | exact (gs_ne _ _ (by omega)).trans (by with_reducible assumption) | exact (gs_ne _ _ (by omega)).trans (gs_eq _ _ _ _) | exact (gs_ne _ _ (by omega)).trans ((gs_ne _ _ (by omega)).trans (by with_reducible assumption)) | exact (gs_ne _ _ (by omega)).trans ((gs_ne _ _ (by omega)).trans (gs_eq _ _ _ _)) | exact (gs_ne _ _ (by omega)).trans ((gs_ne _ _ (by omega)).trans ((gs_ne _ _ (by omega)).trans (by with_reducible assumption))) | rfl) rfl ?_
      refine T_iload_n (pc2 := 10) dX1_asked_9 rfl rfl ?_
      refine C_S2 (pc2 := 13) (mc := 0) (ms := 0) dX1_asked_10 csX1_bodyFor mlX1_28 (Nat.le_of_ble_eq_true rfl) rfl ?_
      refine c_bodyFor S hs h1 h2 (by decide) ?_
      refine T_iload (pc2 := 15) dX1_asked_13 rfl rfl ?_
      refine C_V4 (pc2 := 18) (mc := 0) (ms := 0) dX1_asked_15 cvX1_body mlX1_32 (isO.h (sh45 S) _) (Nat.le_of_ble_eq_true rfl) rfl ?_
      by_cases hk2 : V.kd j = 2
      · rw [show bodyN (V.kd j) 0 = 12 by rw [hk2]; rfl]
        refine c_b12 S hs hc hd hV hok hj (by omega) hT (by omega) (by omega) (fun g2 hT2 hf2 => ?_)
        refine T_iret dX1_asked_18 rfl rfl ?_
        rw [hk2] at k hT2 ⊢
        have := k g2 hT2 hf2
        rw [show -(nI (V.nt j) + mkV 2 j (V.nt j) (V.kp j)) = szV 2 j (V.nt j) (V.kp j) by show -(nI (V.nt j) + nI (2 * (j + V.kp j))) = -nI (V.nt j + 2 * (j + V.kp j)); rw [nI_add]]
        exact this
      · rw [show bodyN (V.kd j) 0 = 11 by rcases (show V.kd j = 1 ∨ V.kd j = 3 by omega) with e | e <;> rw [e] <;> rfl]
        refine c_b11 S hs hc hd hV hok hj (by omega) hT (by omega) (by omega) (fun g2 hT2 hf2 => ?_)
        refine T_iret dX1_asked_18 rfl rfl ?_
        rcases (show V.kd j = 1 ∨ V.kd j = 3 by omega) with e | e
        · rw [e] at k hT2 ⊢
          have := k g2 hT2 hf2
          rw [show nI (V.nt j) + mkV 1 j (V.nt j) (V.kp j) = szV 1 j (V.nt j) (V.kp j) from nI_add _ _]
          exact this
        · rw [e] at k hT2 ⊢
          exact k g2 hT2 hf2
    · have hk2 : ∀ x : Nat, (if (0 : Nat) = 0 then szL x else mkL x) = szL x := fun _ => rfl
      exact c_askedS45 (d := d + 4) S hs hc hd hV hok hj q hT (by omega) (by omega) k
  · rcases Nat.lt_or_ge (V.kd j) 4 with q | q
    · exact c_askedM3 (d := d + 4) S hs hc hd hV hok hj (by omega) hT (by omega) (by omega) k
    · refine Calls.of (by decide +kernel) (Nat.le_of_ble_eq_true rfl) ?_
      refine T_aload_n (pc2 := 1) dX1_asked_0 rfl rfl ?_
      refine T_aload_n (pc2 := 2) dX1_asked_1 rfl rfl ?_
      refine T_iload_n (pc2 := 3) dX1_asked_2 rfl rfl ?_
      refine T_aload_n (pc2 := 4) dX1_asked_3 rfl rfl ?_
      refine G_getR (pc2 := 7) dX1_asked_4 flX1_23 hc.1 rfl rfl ?_
      refine T_iload_n (pc2 := 8) dX1_asked_7 rfl rfl ?_
      refine G_iald (pc2 := 9) dX1_asked_8 hc.2.1 (by omega) (by first | decide | omega) (by first | with_reducible assumption | exact gs_eq _ _ _ _ | exact (gs_ne _ _ (by omega)).trans (by with_reducible assumption) | exact (gs_ne _ _ (by omega)).trans (gs_eq _ _ _ _) | exact (gs_ne _ _ (by omega)).trans ((gs_ne _ _ (by omega)).trans (by with_reducible assumption)) | exact (gs_ne _ _ (by omega)).trans ((gs_ne _ _ (by omega)).trans (gs_eq _ _ _ _)) | exact (gs_ne _ _ (by omega)).trans ((gs_ne _ _ (by omega)).trans ((gs_ne _ _ (by omega)).trans (by with_reducible assumption))) | rfl) rfl ?_
      refine T_iload_n (pc2 := 10) dX1_asked_9 rfl rfl ?_
      refine C_S2 (pc2 := 13) (mc := 0) (ms := 0) dX1_asked_10 csX1_bodyFor mlX1_28 (Nat.le_of_ble_eq_true rfl) rfl ?_
      refine c_bodyFor S hs h1 h2 (by decide) ?_
      refine T_iload (pc2 := 15) dX1_asked_13 rfl rfl ?_
      refine C_V4 (pc2 := 18) (mc := 0) (ms := 0) dX1_asked_15 cvX1_body mlX1_32 (isO.h (sh45 S) _) (Nat.le_of_ble_eq_true rfl) rfl ?_
      rw [show bodyN (V.kd j) 1 = 23 by rcases (show V.kd j = 4 ∨ V.kd j = 5 by omega) with e | e <;> rw [e] <;> rfl]
      refine c_b23 S hs hc hd hV hok hj q hT (by omega) (by omega) (fun g2 hT2 hf2 => ?_)
      refine T_iret dX1_asked_18 rfl rfl ?_
      rcases (show V.kd j = 4 ∨ V.kd j = 5 by omega) with e | e
      · rw [e] at k hT2 ⊢
        exact k g2 hT2 hf2
      · rw [e] at k hT2 ⊢
        exact k g2 hT2 hf2
theorem c_answer {what : Nat} (S : Sh sk n bf im above below) (hs : stat g) (hc : isC sk n c) (hd : c + 6 ≤ 45 ∨ 47 ≤ c) (hV : hasC g c V) (hok : okC V) (hj : j < V.J) (hw : what < 2) (k : ∀ g2, hasTr g2 (if what = 0 then szL (V.kd j) else mkL (V.kd j)) → Fr 45 47 g g2 → Q (some (.int (if what = 0 then szV (V.kd j) j (V.nt j) (V.kp j) else mkV (V.kd j) j (V.nt j) (V.kp j)))) (HP sk g2 n)) : Calls MX1_answer (d + 10) 0 0 [.ref 45, .ref c, .int (nI j), .int (nI what)] (HP sk g n) Q := by
  refine Calls.of (by decide +kernel) (Nat.le_of_ble_eq_true rfl) ?_
  refine T_aload_n (pc2 := 1) dX1_answer_0 rfl rfl ?_
  refine T_iconst (pc2 := 2) dX1_answer_1 ic0 rfl ?_
  refine G_putI (pc2 := 5) dX1_answer_2 flX1_15 (sh45 S) rfl rfl rfl rfl ?_
  refine T_aload_n (pc2 := 6) dX1_answer_5 rfl rfl ?_
  refine T_aload_n (pc2 := 7) dX1_answer_6 rfl rfl ?_
  refine T_iload_n (pc2 := 8) dX1_answer_7 rfl rfl ?_
  refine T_iload_n (pc2 := 9) dX1_answer_8 rfl rfl ?_
  refine T_iconst (pc2 := 10) dX1_answer_9 ic0 rfl ?_
  refine C_V4 (pc2 := 13) (mc := 0) (ms := 0) dX1_answer_10 cvX1_asked mlX1_19 (isO.h (sh45 S) _) (Nat.le_of_ble_eq_true rfl) rfl ?_
  have hf1 : Fr 45 47 g (gset g 45 1 (nI 0)) := Fr.rf.st (by omega) (by omega)
  refine c_asked (tr := []) S (hs.fr hf1 (by decide)) hc hd (hV.fr hf1 hd) hok hj hw ⟨gs_eq _ _ _ _, fun i v h => by cases h⟩ (by decide) (by decide) (fun g2 hT2 hf2 => ?_)
  refine T_iret dX1_answer_13 rfl rfl ?_
  exact k g2 hT2 (hf1.tr hf2)
end AsksM

