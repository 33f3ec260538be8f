/-! the model: copies, draws -/
section MCopy
variable {sk : Nat → SK} {g : Nat → Nat → Int32} {n w : Nat} {V : Cel} {Q : Option Value → SH → Prop} {d kc ks : Nat} {bf im : Nat → Option Nat} {above below : Int64} {h : SH} {s : ST}
theorem cp_loop {a b i j m : Nat} {up : Bool} (S : Sh sk n bf im above below) (ha : a < 8) (hb : b < 8) (him : i + m ≤ 40) (hjm : j + m ≤ 40) (hup : up = decide (j ≤ i))
    (k : ∀ g2, (∀ q, q < 40 → g2 51 (40 * b + q) = if j ≤ q ∧ q < j + m then g 51 (40 * a + (i + (q - j))) else g 51 (40 * b + q)) → (∀ q, (q < 40 * b ∨ 40 * b + 40 ≤ q) → g2 51 q = g 51 q) → Fo 51 g g2 → Q (some (.int (nI m))) (HP sk g2 n)) :
    ∀ l t g2, t + l = m → (∀ q, g2 51 q = if (if up then 40 * b + j ≤ q ∧ q < 40 * b + j + t else 40 * b + j + (m - t) ≤ q ∧ q < 40 * b + j + m) then g 51 (40 * a + (i + (q - (40 * b + j)))) else g 51 q) → Fo 51 g g2 → T MX8_copy (d + 2) kc ks 143 [(0, .ref 48), (1, .int (nI a)), (2, .int (nI i)), (3, .int (nI b)), (4, .int (nI j)), (5, .int (nI m)), (6, .int (nI (if up then 1 else 0))), (7, .int (nI t))] [] (HP sk g2 n) Q := by
  intro l
  induction l with
  | zero =>
    intro t g2 ht hc hf
    have e : t = m := by omega
    subst e
    refine T_iload (pc2 := 145) dX8_copy_143 rfl rfl ?_
    refine T_iload (pc2 := 147) dX8_copy_145 rfl rfl ?_
    first | refine N_icmpge (pc2 := 150) (tgt := 204) dX8_copy_147 (by decide) (by with_reducible rfl) (by with_reducible rfl) (by omega) (by omega) rfl (fun c147 => ?_) (fun c147 => ?_) | refine T_icmpge (pc2 := 150) (tgt := 204) dX8_copy_147 (by decide) rfl (fun c147 => ?_) (fun c147 => ?_)
    · refine T_iload (pc2 := 206) dX8_copy_204 rfl rfl ?_
      refine T_iret dX8_copy_206 rfl rfl ?_
      refine k g2 (fun q hq => ?_) (fun q hq => ?_) hf
      · rw [hc]
        cases up with
        | true =>
          simp only [if_true]
          by_cases h : j ≤ q ∧ q < j + t
          · rw [if_pos (by omega), if_pos h, show 40 * b + q - (40 * b + j) = q - j by omega]
          · rw [if_neg (by omega), if_neg h]
        | false =>
          simp only [Bool.false_eq_true, if_false]
          by_cases h : j ≤ q ∧ q < j + t
          · rw [if_pos (by omega), if_pos h, show 40 * b + q - (40 * b + j) = q - j by omega]
          · rw [if_neg (by omega), if_neg h]
      · rw [hc]
        cases up with
        | true =>
          simp only [if_true]
          rw [if_neg (by omega)]
        | false =>
          simp only [Bool.false_eq_true, if_false]
          rw [if_neg (by omega)]
    · omega
  | succ l ih =>
    intro t g2 ht hc hf
    refine T_iload (pc2 := 145) dX8_copy_143 rfl rfl ?_
    refine T_iload (pc2 := 147) dX8_copy_145 rfl rfl ?_
    first | refine N_icmpge (pc2 := 150) (tgt := 204) dX8_copy_147 (by decide) (by with_reducible rfl) (by with_reducible rfl) (by omega) (by omega) rfl (fun c147 => ?_) (fun c147 => ?_) | refine T_icmpge (pc2 := 150) (tgt := 204) dX8_copy_147 (by decide) rfl (fun c147 => ?_) (fun c147 => ?_)
    · omega
    · cases up with
      | true =>
        have hji : j ≤ i := of_decide_eq_true hup.symm
        simp only [if_true] at hc ih ⊢
        have hread : g2 51 (40 * a + i + t) = g 51 (40 * a + (i + t)) := by
          rw [hc, if_neg (by omega), Nat.add_assoc]
        refine T_iload (pc2 := 152) dX8_copy_150 rfl rfl ?_
        first | refine B_ifeq1 (pc2 := 155) (tgt := 160) dX8_copy_152 (by with_reducible rfl) (by decide) rfl ?_ | refine B_ifeq0 (tgt := 160) dX8_copy_152 (by with_reducible rfl) (by decide) ?_ | refine N_ifeq (pc2 := 155) (tgt := 160) dX8_copy_152 (by with_reducible rfl) (by decide) (by omega) rfl (fun c152 => ?_) (fun c152 => ?_) | refine T_ifeq (pc2 := 155) (tgt := 160) dX8_copy_152 (by decide) rfl (fun c152 => ?_) (fun c152 => ?_)
        refine T_iload (pc2 := 157) dX8_copy_155 rfl rfl ?_
        refine T_goto (tgt := 167) dX8_copy_157 (by decide) ?_
        refine T_istore (pc2 := 169) dX8_copy_167 (by decide) rfl ?_
        refine T_aload_n (pc2 := 170) dX8_copy_169 rfl rfl ?_
        refine G_getR (pc2 := 173) dX8_copy_170 flX8_16 (sh48 S) rfl rfl ?_
        refine T_bipush (pc2 := 175) dX8_copy_173 bp40 rfl ?_
        refine T_iload_n (pc2 := 176) dX8_copy_175 rfl rfl ?_
        first | refine N_imul (pc2 := 177) dX8_copy_176 (by with_reducible rfl) (by with_reducible rfl) rfl ?_ | refine T_imul (pc2 := 177) dX8_copy_176 rfl ?_
        refine T_iload (pc2 := 179) dX8_copy_177 rfl rfl ?_
        first | refine N_iadd (pc2 := 180) dX8_copy_179 (by with_reducible rfl) (by with_reducible rfl) rfl ?_ | refine T_iadd (pc2 := 180) dX8_copy_179 rfl ?_
        refine T_iload (pc2 := 182) dX8_copy_180 rfl rfl ?_
        first | refine N_iadd (pc2 := 183) dX8_copy_182 (by with_reducible rfl) (by with_reducible rfl) rfl ?_ | refine T_iadd (pc2 := 183) dX8_copy_182 rfl ?_
        refine T_aload_n (pc2 := 184) dX8_copy_183 rfl rfl ?_
        refine G_getR (pc2 := 187) dX8_copy_184 flX8_16 (sh48 S) rfl rfl ?_
        refine T_bipush (pc2 := 189) dX8_copy_187 bp40 rfl ?_
        refine T_iload_n (pc2 := 190) dX8_copy_189 rfl rfl ?_
        first | refine N_imul (pc2 := 191) dX8_copy_190 (by with_reducible rfl) (by with_reducible rfl) rfl ?_ | refine T_imul (pc2 := 191) dX8_copy_190 rfl ?_
        refine T_iload_n (pc2 := 192) dX8_copy_191 rfl rfl ?_
        first | refine N_iadd (pc2 := 193) dX8_copy_192 (by with_reducible rfl) (by with_reducible rfl) rfl ?_ | refine T_iadd (pc2 := 193) dX8_copy_192 rfl ?_
        refine T_iload (pc2 := 195) dX8_copy_193 rfl rfl ?_
        first | refine N_iadd (pc2 := 196) dX8_copy_195 (by with_reducible rfl) (by with_reducible rfl) rfl ?_ | refine T_iadd (pc2 := 196) dX8_copy_195 rfl ?_
        refine G_iald (pc2 := 197) dX8_copy_196 (sh51 S) (by omega) (by first | decide | omega) (by first | with_reducible assumption | exact gs_eq _ _ _ _ | exact (gs_ne _ _ (by omega)).trans (by with_reducible assumption) | exact (gs_ne _ _ (by omega)).trans (gs_eq _ _ _ _) | exact (gs_ne _ _ (by omega)).trans ((gs_ne _ _ (by omega)).trans (by with_reducible assumption)) | exact (gs_ne _ _ (by omega)).trans ((gs_ne _ _ (by omega)).trans (gs_eq _ _ _ _)) | exact (gs_ne _ _ (by omega)).trans ((gs_ne _ _ (by omega)).trans ((gs_ne _ _ (by omega)).trans (by with_reducible assumption))) | rfl) rfl ?_
        refine G_iast (pc2 := 198) dX8_copy_197 (sh51 S) (by omega) (by decide) rfl ?_
        first | refine N_iinc (pc2 := 201) dX8_copy_198 rfl (by with_reducible rfl) ic1 (by decide) rfl ?_ | refine T_iinc (pc2 := 201) dX8_copy_198 rfl rfl (by decide) rfl ?_
        refine T_goto (tgt := 143) dX8_copy_201 (by decide) ?_
        refine T_sub (lks (i := 0) rfl (lks (i := 1) rfl (lks (i := 2) rfl (lks (i := 3) rfl (lks (i := 4) rfl (lks (i := 5) rfl (lks (i := 6) rfl (lks (i := 7) rfl lk0)))))))) ?_
        refine ih (t + 1) _ (by omega) (fun q => ?_) hf.st
        by_cases e : q = 40 * b + j + t
        · subst e
          rw [gs_eq, if_pos (by omega)]
          congr 1
          omega
        · rw [gs_ne _ _ (by omega), hc]
          by_cases h : 40 * b + j ≤ q ∧ q < 40 * b + j + t
          · rw [if_pos h, if_pos (by omega)]
          · rw [if_neg h, if_neg (by omega)]
      | false =>
        have hji : ¬ j ≤ i := of_decide_eq_false hup.symm
        simp only [Bool.false_eq_true, if_false] at hc ih ⊢
        have hread : g2 51 (40 * a + i + (m - 1 - t)) = g 51 (40 * a + (i + (m - 1 - t))) := by
          rw [hc, if_neg (by omega), Nat.add_assoc]
        refine T_iload (pc2 := 152) dX8_copy_150 rfl rfl ?_
        first | refine B_ifeq1 (pc2 := 155) (tgt := 160) dX8_copy_152 (by with_reducible rfl) (by decide) rfl ?_ | refine B_ifeq0 (tgt := 160) dX8_copy_152 (by with_reducible rfl) (by decide) ?_ | refine N_ifeq (pc2 := 155) (tgt := 160) dX8_copy_152 (by with_reducible rfl) (by decide) (by omega) rfl (fun c152 => ?_) (fun c152 => ?_) | refine T_ifeq (pc2 := 155) (tgt := 160) dX8_copy_152 (by decide) rfl (fun c152 => ?_) (fun c152 => ?_)
        refine T_iload (pc2 := 162) dX8_copy_160 rfl rfl ?_
        refine T_iconst (pc2 := 163) dX8_copy_162 ic1 rfl ?_
        first | refine N_isub (pc2 := 164) dX8_copy_163 (by with_reducible rfl) (by with_reducible rfl) (by omega) rfl ?_ | refine T_isub (pc2 := 164) dX8_copy_163 rfl ?_
        refine T_iload (pc2 := 166) dX8_copy_164 rfl rfl ?_
        first | refine N_isub (pc2 := 167) dX8_copy_166 (by with_reducible rfl) (by with_reducible rfl) (by omega) rfl ?_ | refine T_isub (pc2 := 167) dX8_copy_166 rfl ?_
        refine T_istore (pc2 := 169) dX8_copy_167 (by decide) rfl ?_
        refine T_aload_n (pc2 := 170) dX8_copy_169 rfl rfl ?_
        refine G_getR (pc2 := 173) dX8_copy_170 flX8_16 (sh48 S) rfl rfl ?_
        refine T_bipush (pc2 := 175) dX8_copy_173 bp40 rfl ?_
        refine T_iload_n (pc2 := 176) dX8_copy_175 rfl rfl ?_
        first | refine N_imul (pc2 := 177) dX8_copy_176 (by with_reducible rfl) (by with_reducible rfl) rfl ?_ | refine T_imul (pc2 := 177) dX8_copy_176 rfl ?_
        refine T_iload (pc2 := 179) dX8_copy_177 rfl rfl ?_
        first | refine N_iadd (pc2 := 180) dX8_copy_179 (by with_reducible rfl) (by with_reducible rfl) rfl ?_ | refine T_iadd (pc2 := 180) dX8_copy_179 rfl ?_
        refine T_iload (pc2 := 182) dX8_copy_180 rfl rfl ?_
        first | refine N_iadd (pc2 := 183) dX8_copy_182 (by with_reducible rfl) (by with_reducible rfl) rfl ?_ | refine T_iadd (pc2 := 183) dX8_copy_182 rfl ?_
        refine T_aload_n (pc2 := 184) dX8_copy_183 rfl rfl ?_
        refine G_getR (pc2 := 187) dX8_copy_184 flX8_16 (sh48 S) rfl rfl ?_
        refine T_bipush (pc2 := 189) dX8_copy_187 bp40 rfl ?_
        refine T_iload_n (pc2 := 190) dX8_copy_189 rfl rfl ?_
        first | refine N_imul (pc2 := 191) dX8_copy_190 (by with_reducible rfl) (by with_reducible rfl) rfl ?_ | refine T_imul (pc2 := 191) dX8_copy_190 rfl ?_
        refine T_iload_n (pc2 := 192) dX8_copy_191 rfl rfl ?_
        first | refine N_iadd (pc2 := 193) dX8_copy_192 (by with_reducible rfl) (by with_reducible rfl) rfl ?_ | refine T_iadd (pc2 := 193) dX8_copy_192 rfl ?_
        refine T_iload (pc2 := 195) dX8_copy_193 rfl rfl ?_
        first | refine N_iadd (pc2 := 196) dX8_copy_195 (by with_reducible rfl) (by with_reducible rfl) rfl ?_ | refine T_iadd (pc2 := 196) dX8_copy_195 rfl ?_
        refine G_iald (pc2 := 197) dX8_copy_196 (sh51 S) (by omega) (by first | decide | omega) (by first | with_reducible assumption | exact gs_eq _ _ _ _ | exact (gs_ne _ _ (by omega)).trans (by with_reducible assumption) | exact (gs_ne _ _ (by omega)).trans (gs_eq _ _ _ _) | exact (gs_ne _ _ (by omega)).trans ((gs_ne _ _ (by omega)).trans (by with_reducible assumption)) | exact (gs_ne _ _ (by omega)).trans ((gs_ne _ _ (by omega)).trans (gs_eq _ _ _ _)) | exact (gs_ne _ _ (by omega)).trans ((gs_ne _ _ (by omega)).trans ((gs_ne _ _ (by omega)).trans (by with_reducible assumption))) | rfl) rfl ?_
        refine G_iast (pc2 := 198) dX8_copy_197 (sh51 S) (by omega) (by decide) rfl ?_
        first | refine N_iinc (pc2 := 201) dX8_copy_198 rfl (by with_reducible rfl) ic1 (by decide) rfl ?_ | refine T_iinc (pc2 := 201) dX8_copy_198 rfl rfl (by decide) rfl ?_
        refine T_goto (tgt := 143) dX8_copy_201 (by decide) ?_
        refine T_sub (lks (i := 0) rfl (lks (i := 1) rfl (lks (i := 2) rfl (lks (i := 3) rfl (lks (i := 4) rfl (lks (i := 5) rfl (lks (i := 6) rfl (lks (i := 7) rfl lk0)))))))) ?_
        refine ih (t + 1) _ (by omega) (fun q => ?_) hf.st
        by_cases e : q = 40 * b + j + (m - 1 - t)
        · subst e
          rw [gs_eq, if_pos (by omega)]
          congr 1
          omega
        · rw [gs_ne _ _ (by omega), hc]
          by_cases h : 40 * b + j + (m - t) ≤ q ∧ q < 40 * b + j + m
          · rw [if_pos h, if_pos (by omega)]
          · rw [if_neg h, if_neg (by omega)]
theorem mm_copy {a i b j m : Int32} (S : Sh sk n bf im above below) (hI : InvM g s) (hok : Ok s) (k : ∀ g2, InvM g2 (sCopy s a i b j m).2 → Fr 48 62 g g2 → Q (some (.int (sCopy s a i b j m).1)) (HP sk g2 n)) : Calls MX8_copy (d + 2) 0 0 [.ref 48, .int a, .int i, .int b, .int j, .int m] (HP sk g n) Q := by
  have hokV := hok.2.2.1.1
  have hJ8 := hokV.1
  refine Calls.of (by decide +kernel) (Nat.le_of_ble_eq_true rfl) ?_
  refine T_aload_n (pc2 := 1) dX8_copy_0 rfl rfl ?_
  refine T_iconst (pc2 := 2) dX8_copy_1 ic0 rfl ?_
  refine G_putI (pc2 := 5) dX8_copy_2 flX8_50 (sh48 S) rfl rfl rfl rfl ?_
  have hI := hI.ms (Ms.rf.st (i := 48) (k := 0) (v := nI 0) (by omega))
  have k := fm_start k
  generalize gset g 48 0 (nI 0) = g1 at hI k ⊢
  have hV := hI.2.2.1
  refine T_iload_n (pc2 := 6) dX8_copy_5 rfl rfl ?_
  refine C_S1 (pc2 := 9) (mc := 0) (ms := 0) dX8_copy_6 csX8_isRow mlX8_64 (Nat.le_of_ble_eq_true rfl) rfl ?_
  refine m_isRow (fun x hx ex => ?_) (fun hno => ?_)
  · subst ex
    first | refine B_ifeq1 (pc2 := 12) (tgt := 19) dX8_copy_9 (by with_reducible rfl) (by decide) rfl ?_ | refine B_ifeq0 (tgt := 19) dX8_copy_9 (by with_reducible rfl) (by decide) ?_ | refine N_ifeq (pc2 := 12) (tgt := 19) dX8_copy_9 (by with_reducible rfl) (by decide) (by omega) rfl (fun c9 => ?_) (fun c9 => ?_) | refine T_ifeq (pc2 := 12) (tgt := 19) dX8_copy_9 (by decide) rfl (fun c9 => ?_) (fun c9 => ?_)
    refine T_iload_n (pc2 := 13) dX8_copy_12 rfl rfl ?_
    refine C_S1 (pc2 := 16) (mc := 0) (ms := 0) dX8_copy_13 csX8_isRow mlX8_64 (Nat.le_of_ble_eq_true rfl) rfl ?_
    refine m_isRow (fun y hy ey => ?_) (fun hno => ?_)
    · subst ey
      have hs : sCopy s (nI x) i (nI y) j m = if s.A.1 x = false ∨ s.A.1 y = false then (fnd 1, s.setfd 1) else if s.A.2.1 x ≠ s.A.2.1 y then (fnd 5, s.setfd 5) else match hN i m (s.A.2.2.1 x), hN j m (s.A.2.2.1 y) with
          | some q, some p => (m, (s.setA (s.A.cpy x y q.1 p.1 q.2)).setfd 0)
          | _, _ => (fnd 2, s.setfd 2) := by
        unfold sCopy
        rw [inN_some hx (by decide), inN_some hy (by decide)]
        rfl
      first | refine B_ifne1 (tgt := 22) dX8_copy_16 (by with_reducible rfl) (by decide) ?_ | refine B_ifne0 (pc2 := 19) (tgt := 22) dX8_copy_16 (by with_reducible rfl) (by decide) rfl ?_ | refine N_ifne (pc2 := 19) (tgt := 22) dX8_copy_16 (by with_reducible rfl) (by decide) (by omega) rfl (fun c16 => ?_) (fun c16 => ?_) | refine T_ifne (pc2 := 19) (tgt := 22) dX8_copy_16 (by decide) rfl (fun c16 => ?_) (fun c16 => ?_)
      have hI2 := hI.fd (f := 0)
      have hF0 : Fr 48 62 g1 (gset g1 48 1 (nI 0)) := Fr.rf.st (by omega) (by omega)
      refine T_aload_n (pc2 := 23) dX8_copy_22 rfl rfl ?_
      refine T_iconst (pc2 := 24) dX8_copy_23 ic0 rfl ?_
      refine G_putI (pc2 := 27) dX8_copy_24 flX8_54 (sh48 S) rfl rfl rfl rfl ?_
      generalize gset g1 48 1 (nI 0) = g2 at hI2 hF0 ⊢
      have hfin1 : (s.A.1 x = false ∨ s.A.1 y = false) → T MX8_copy (d + 1 + 1) 0 0 45 [(0, .ref 48)] [] (HP sk g2 n) Q := fun hz => by
        refine T_aload_n (pc2 := 46) dX8_copy_45 rfl rfl ?_
        refine T_iconst (pc2 := 47) dX8_copy_46 ic1 rfl ?_
        refine C_V1 (pc2 := 50) (mc := 0) (ms := 0) dX8_copy_47 cvX8_finding mlX8_71 (isO.h (sh48 S) _) (Nat.le_of_ble_eq_true rfl) rfl ?_
        refine m_finding S ?_
        refine T_iret dX8_copy_50 rfl rfl ?_
        exact fm_new k hI2.fd (hF0.tr (Fr.rf.st (by omega) (by omega))) (by rw [hs, if_pos hz]; rfl)
      rcases lane_case hI2.1 hx with ⟨h0, e49⟩ | ⟨hxt, e49, e50, e51⟩
      · have h0 : s.A.1 x = false := h0
        refine T_aload_n (pc2 := 28) dX8_copy_27 rfl rfl ?_
        refine G_getR (pc2 := 31) dX8_copy_28 flX8_7 (sh48 S) rfl rfl ?_
        refine T_iload_n (pc2 := 32) dX8_copy_31 rfl rfl ?_
        refine G_iald (pc2 := 33) dX8_copy_32 (sh49 S) (by omega) (by first | decide | omega) (by first | with_reducible assumption | exact gs_eq _ _ _ _ | exact (gs_ne _ _ (by omega)).trans (by with_reducible assumption) | exact (gs_ne _ _ (by omega)).trans (gs_eq _ _ _ _) | exact (gs_ne _ _ (by omega)).trans ((gs_ne _ _ (by omega)).trans (by with_reducible assumption)) | exact (gs_ne _ _ (by omega)).trans ((gs_ne _ _ (by omega)).trans (gs_eq _ _ _ _)) | exact (gs_ne _ _ (by omega)).trans ((gs_ne _ _ (by omega)).trans ((gs_ne _ _ (by omega)).trans (by with_reducible assumption))) | rfl) rfl ?_
        refine T_iflt (pc2 := 36) (tgt := 45) dX8_copy_33 (by decide) rfl (fun c33 => ?_) (fun c33 => ?_)
        · refine T_sub (lks (i := 0) rfl lk0) ?_
          exact hfin1 (Or.inl h0)
        · exact absurd (show (-1 : Int32) < 0 by decide) c33
      · have hxt : s.A.1 x = true := hxt
        have e49 : g2 49 x = nI (s.A.2.1 x) := e49
        have e50 : g2 50 x = nI (s.A.2.2.1 x) := e50
        have ox := hok.1 x hx hxt
        refine T_aload_n (pc2 := 28) dX8_copy_27 rfl rfl ?_
        refine G_getR (pc2 := 31) dX8_copy_28 flX8_7 (sh48 S) rfl rfl ?_
        refine T_iload_n (pc2 := 32) dX8_copy_31 rfl rfl ?_
        refine G_iald (pc2 := 33) dX8_copy_32 (sh49 S) (by omega) (by first | decide | omega) (by first | with_reducible assumption | exact gs_eq _ _ _ _ | exact (gs_ne _ _ (by omega)).trans (by with_reducible assumption) | exact (gs_ne _ _ (by omega)).trans (gs_eq _ _ _ _) | exact (gs_ne _ _ (by omega)).trans ((gs_ne _ _ (by omega)).trans (by with_reducible assumption)) | exact (gs_ne _ _ (by omega)).trans ((gs_ne _ _ (by omega)).trans (gs_eq _ _ _ _)) | exact (gs_ne _ _ (by omega)).trans ((gs_ne _ _ (by omega)).trans ((gs_ne _ _ (by omega)).trans (by with_reducible assumption))) | rfl) rfl ?_
        first | refine N_iflt (pc2 := 36) (tgt := 45) dX8_copy_33 (by with_reducible rfl) (by decide) (by omega) rfl ?_ | refine T_iflt (pc2 := 36) (tgt := 45) dX8_copy_33 (by decide) rfl (fun c33 => ?_) (fun c33 => ?_)
        rcases lane_case hI2.1 hy with ⟨h0, f49⟩ | ⟨hyt, f49, f50, f51⟩
        · have h0 : s.A.1 y = false := h0
          refine T_aload_n (pc2 := 37) dX8_copy_36 rfl rfl ?_
          refine G_getR (pc2 := 40) dX8_copy_37 flX8_7 (sh48 S) rfl rfl ?_
          refine T_iload_n (pc2 := 41) dX8_copy_40 rfl rfl ?_
          refine G_iald (pc2 := 42) dX8_copy_41 (sh49 S) (by omega) (by first | decide | omega) (by first | with_reducible assumption | exact gs_eq _ _ _ _ | exact (gs_ne _ _ (by omega)).trans (by with_reducible assumption) | exact (gs_ne _ _ (by omega)).trans (gs_eq _ _ _ _) | exact (gs_ne _ _ (by omega)).trans ((gs_ne _ _ (by omega)).trans (by with_reducible assumption)) | exact (gs_ne _ _ (by omega)).trans ((gs_ne _ _ (by omega)).trans (gs_eq _ _ _ _)) | exact (gs_ne _ _ (by omega)).trans ((gs_ne _ _ (by omega)).trans ((gs_ne _ _ (by omega)).trans (by with_reducible assumption))) | rfl) rfl ?_
          refine T_ifge (pc2 := 45) (tgt := 51) dX8_copy_42 (by decide) rfl (fun c42 => ?_) (fun c42 => ?_)
          · exact absurd c42 (by decide)
          · refine T_sub (lks (i := 0) rfl lk0) ?_
            exact hfin1 (Or.inr h0)
        · have hyt : s.A.1 y = true := hyt
          have f49 : g2 49 y = nI (s.A.2.1 y) := f49
          have f50 : g2 50 y = nI (s.A.2.2.1 y) := f50
          have oy := hok.1 y hy hyt
          have hnt : ¬ (s.A.1 x = false ∨ s.A.1 y = false) := by rw [hxt, hyt]; decide
          refine T_aload_n (pc2 := 37) dX8_copy_36 rfl rfl ?_
          refine G_getR (pc2 := 40) dX8_copy_37 flX8_7 (sh48 S) rfl rfl ?_
          refine T_iload_n (pc2 := 41) dX8_copy_40 rfl rfl ?_
          refine G_iald (pc2 := 42) dX8_copy_41 (sh49 S) (by omega) (by first | decide | omega) (by first | with_reducible assumption | exact gs_eq _ _ _ _ | exact (gs_ne _ _ (by omega)).trans (by with_reducible assumption) | exact (gs_ne _ _ (by omega)).trans (gs_eq _ _ _ _) | exact (gs_ne _ _ (by omega)).trans ((gs_ne _ _ (by omega)).trans (by with_reducible assumption)) | exact (gs_ne _ _ (by omega)).trans ((gs_ne _ _ (by omega)).trans (gs_eq _ _ _ _)) | exact (gs_ne _ _ (by omega)).trans ((gs_ne _ _ (by omega)).trans ((gs_ne _ _ (by omega)).trans (by with_reducible assumption))) | rfl) rfl ?_
          first | refine N_ifge (tgt := 51) dX8_copy_42 (by with_reducible rfl) (by decide) (by omega) ?_ | refine T_ifge (pc2 := 45) (tgt := 51) dX8_copy_42 (by decide) rfl (fun c42 => ?_) (fun c42 => ?_)
          refine T_aload_n (pc2 := 52) dX8_copy_51 rfl rfl ?_
          refine G_getR (pc2 := 55) dX8_copy_52 flX8_7 (sh48 S) rfl rfl ?_
          refine T_iload_n (pc2 := 56) dX8_copy_55 rfl rfl ?_
          refine G_iald (pc2 := 57) dX8_copy_56 (sh49 S) (by omega) (by first | decide | omega) (by first | with_reducible assumption | exact gs_eq _ _ _ _ | exact (gs_ne _ _ (by omega)).trans (by with_reducible assumption) | exact (gs_ne _ _ (by omega)).trans (gs_eq _ _ _ _) | exact (gs_ne _ _ (by omega)).trans ((gs_ne _ _ (by omega)).trans (by with_reducible assumption)) | exact (gs_ne _ _ (by omega)).trans ((gs_ne _ _ (by omega)).trans (gs_eq _ _ _ _)) | exact (gs_ne _ _ (by omega)).trans ((gs_ne _ _ (by omega)).trans ((gs_ne _ _ (by omega)).trans (by with_reducible assumption))) | rfl) rfl ?_
          refine T_aload_n (pc2 := 58) dX8_copy_57 rfl rfl ?_
          refine G_getR (pc2 := 61) dX8_copy_58 flX8_7 (sh48 S) rfl rfl ?_
          refine T_iload_n (pc2 := 62) dX8_copy_61 rfl rfl ?_
          refine G_iald (pc2 := 63) dX8_copy_62 (sh49 S) (by omega) (by first | decide | omega) (by first | with_reducible assumption | exact gs_eq _ _ _ _ | exact (gs_ne _ _ (by omega)).trans (by with_reducible assumption) | exact (gs_ne _ _ (by omega)).trans (gs_eq _ _ _ _) | exact (gs_ne _ _ (by omega)).trans ((gs_ne _ _ (by omega)).trans (by with_reducible assumption)) | exact (gs_ne _ _ (by omega)).trans ((gs_ne _ _ (by omega)).trans (gs_eq _ _ _ _)) | exact (gs_ne _ _ (by omega)).trans ((gs_ne _ _ (by omega)).trans ((gs_ne _ _ (by omega)).trans (by with_reducible assumption))) | rfl) rfl ?_
          first | refine N_icmpeq (pc2 := 66) (tgt := 72) dX8_copy_63 (by decide) (by with_reducible rfl) (by with_reducible rfl) (by omega) (by omega) rfl (fun c63 => ?_) (fun c63 => ?_) | refine T_icmpeq (pc2 := 66) (tgt := 72) dX8_copy_63 (by decide) rfl (fun c63 => ?_) (fun c63 => ?_)
          · have hne : ¬ s.A.2.1 x ≠ s.A.2.1 y := fun z => z c63
            have hfin2 : (match hN i m (s.A.2.2.1 x), hN j m (s.A.2.2.1 y) with
                | some q, some p => (m, (s.setA (s.A.cpy x y q.1 p.1 q.2)).setfd 0)
                | _, _ => (fnd 2, s.setfd 2)) = (fnd 2, s.setfd 2) → T MX8_copy (d + 1 + 1) 0 0 121 [(0, .ref 48)] [] (HP sk g2 n) Q := fun hz => by
              refine T_aload_n (pc2 := 122) dX8_copy_121 rfl rfl ?_
              refine T_iconst (pc2 := 123) dX8_copy_122 ic2 rfl ?_
              refine C_V1 (pc2 := 126) (mc := 0) (ms := 0) dX8_copy_123 cvX8_finding mlX8_71 (isO.h (sh48 S) _) (Nat.le_of_ble_eq_true rfl) rfl ?_
              refine m_finding S ?_
              refine T_iret dX8_copy_126 rfl rfl ?_
              exact fm_new k hI2.fd (hF0.tr (Fr.rf.st (by omega) (by omega))) (by rw [hs, if_neg hnt, if_neg hne, hz]; rfl)
            have hA0 : hN i m (s.A.2.2.1 x) = none → T MX8_copy (d + 1 + 1) 0 0 121 [(0, .ref 48)] [] (HP sk g2 n) Q := fun hz => hfin2 (by rw [hz])
            have hB0 : hN j m (s.A.2.2.1 y) = none → T MX8_copy (d + 1 + 1) 0 0 121 [(0, .ref 48)] [] (HP sk g2 n) Q := fun hz => hfin2 (by rw [hz]; cases hN i m (s.A.2.2.1 x) <;> rfl)
            refine T_iload_n (pc2 := 73) dX8_copy_72 rfl rfl ?_
            refine T_iflt (pc2 := 76) (tgt := 121) dX8_copy_73 (by decide) rfl (fun c73 => ?_) (fun c73 => ?_)
            · refine T_sub (lks (i := 0) rfl lk0) ?_
              refine hA0 (hN_none (fun q p hq hp h1 h2 _ => ?_))
              subst hq
              exact absurd c73 (nI_pos h1)
            · obtain ⟨i0, hi0, e⟩ := nI_nn c73
              subst e
              refine T_iload (pc2 := 78) dX8_copy_76 rfl rfl ?_
              refine T_iflt (pc2 := 81) (tgt := 121) dX8_copy_78 (by decide) rfl (fun c78 => ?_) (fun c78 => ?_)
              · refine T_sub (lks (i := 0) rfl lk0) ?_
                refine hB0 (hN_none (fun q p hq hp h1 h2 _ => ?_))
                subst hq
                exact absurd c78 (nI_pos h1)
              · obtain ⟨j0, hj0, e⟩ := nI_nn c78
                subst e
                refine T_iload (pc2 := 83) dX8_copy_81 rfl rfl ?_
                refine T_iflt (pc2 := 86) (tgt := 121) dX8_copy_83 (by decide) rfl (fun c83 => ?_) (fun c83 => ?_)
                · refine T_sub (lks (i := 0) rfl lk0) ?_
                  refine hA0 (hN_none (fun q p hq hp h1 h2 _ => ?_))
                  subst hp
                  exact absurd c83 (nI_pos h2)
                · obtain ⟨m0, hm0, e⟩ := nI_nn c83
                  subst e
                  refine T_iload_n (pc2 := 87) dX8_copy_86 rfl rfl ?_
                  refine T_i2l (pc2 := 88) dX8_copy_87 rfl ?_
                  refine T_iload (pc2 := 90) dX8_copy_88 rfl rfl ?_
                  refine T_i2l (pc2 := 91) dX8_copy_90 rfl ?_
                  refine T_ladd (pc2 := 92) dX8_copy_91 rfl ?_
                  refine T_aload_n (pc2 := 93) dX8_copy_92 rfl rfl ?_
                  refine G_getR (pc2 := 96) dX8_copy_93 flX8_13 (sh48 S) rfl rfl ?_
                  refine T_iload_n (pc2 := 97) dX8_copy_96 rfl rfl ?_
                  refine G_iald (pc2 := 98) dX8_copy_97 (sh50 S) (by omega) (by first | decide | omega) (by first | with_reducible assumption | exact gs_eq _ _ _ _ | exact (gs_ne _ _ (by omega)).trans (by with_reducible assumption) | exact (gs_ne _ _ (by omega)).trans (gs_eq _ _ _ _) | exact (gs_ne _ _ (by omega)).trans ((gs_ne _ _ (by omega)).trans (by with_reducible assumption)) | exact (gs_ne _ _ (by omega)).trans ((gs_ne _ _ (by omega)).trans (gs_eq _ _ _ _)) | exact (gs_ne _ _ (by omega)).trans ((gs_ne _ _ (by omega)).trans ((gs_ne _ _ (by omega)).trans (by with_reducible assumption))) | rfl) rfl ?_
                  refine T_i2l (pc2 := 99) dX8_copy_98 rfl ?_
                  rw [nI_l hi0, nI_l hm0, nI_l (by omega), lN_add]
                  refine T_lcmp (pc2 := 100) dX8_copy_99 rfl ?_
                  rw [lgc (by omega) (by omega)]
                  by_cases hc : s.A.2.2.1 x < i0 + m0
                  · rw [if_pos hc]
                    refine T_ifgt (pc2 := 103) (tgt := 121) dX8_copy_100 (by decide) rfl (fun c100 => ?_) (fun c100 => ?_)
                    · refine T_sub (lks (i := 0) rfl lk0) ?_
                      refine hA0 (hN_none (fun q p hq hp h1 h2 hle => ?_))
                      have e1 : i0 = q := (nI_eq hi0 h1).mp hq
                      have e2 : m0 = p := (nI_eq hm0 h2).mp hp
                      omega
                    · exact absurd (show (0 : Int32) < 1 by decide) c100
                  · rw [if_neg hc]
                    refine T_ifgt (pc2 := 103) (tgt := 121) dX8_copy_100 (by decide) rfl (fun c100 => ?_) (fun c100 => ?_)
                    · exfalso
                      revert c100
                      split <;> decide
                    · refine T_iload (pc2 := 105) dX8_copy_103 rfl rfl ?_
                      refine T_i2l (pc2 := 106) dX8_copy_105 rfl ?_
                      refine T_iload (pc2 := 108) dX8_copy_106 rfl rfl ?_
                      refine T_i2l (pc2 := 109) dX8_copy_108 rfl ?_
                      refine T_ladd (pc2 := 110) dX8_copy_109 rfl ?_
                      refine T_aload_n (pc2 := 111) dX8_copy_110 rfl rfl ?_
                      refine G_getR (pc2 := 114) dX8_copy_111 flX8_13 (sh48 S) rfl rfl ?_
                      refine T_iload_n (pc2 := 115) dX8_copy_114 rfl rfl ?_
                      refine G_iald (pc2 := 116) dX8_copy_115 (sh50 S) (by omega) (by first | decide | omega) (by first | with_reducible assumption | exact gs_eq _ _ _ _ | exact (gs_ne _ _ (by omega)).trans (by with_reducible assumption) | exact (gs_ne _ _ (by omega)).trans (gs_eq _ _ _ _) | exact (gs_ne _ _ (by omega)).trans ((gs_ne _ _ (by omega)).trans (by with_reducible assumption)) | exact (gs_ne _ _ (by omega)).trans ((gs_ne _ _ (by omega)).trans (gs_eq _ _ _ _)) | exact (gs_ne _ _ (by omega)).trans ((gs_ne _ _ (by omega)).trans ((gs_ne _ _ (by omega)).trans (by with_reducible assumption))) | rfl) rfl ?_
                      refine T_i2l (pc2 := 117) dX8_copy_116 rfl ?_
                      rw [nI_l hj0, nI_l hm0, nI_l (by omega), lN_add]
                      refine T_lcmp (pc2 := 118) dX8_copy_117 rfl ?_
                      rw [lgc (by omega) (by omega)]
                      by_cases hc2 : s.A.2.2.1 y < j0 + m0
                      · rw [if_pos hc2]
                        refine T_ifle (pc2 := 121) (tgt := 127) dX8_copy_118 (by decide) rfl (fun c118 => ?_) (fun c118 => ?_)
                        · exact absurd c118 (by decide)
                        · refine T_sub (lks (i := 0) rfl lk0) ?_
                          refine hB0 (hN_none (fun q p hq hp h1 h2 hle => ?_))
                          have e1 : j0 = q := (nI_eq hj0 h1).mp hq
                          have e2 : m0 = p := (nI_eq hm0 h2).mp hp
                          omega
                      · rw [if_neg hc2]
                        refine T_ifle (pc2 := 121) (tgt := 127) dX8_copy_118 (by decide) rfl (fun c118 => ?_) (fun c118 => ?_)
                        · have fin : ∀ up, up = decide (j0 ≤ i0) → T MX8_copy (d + 1 + 1) 0 0 138 [(0, .ref 48), (1, .int (nI x)), (2, .int (nI i0)), (3, .int (nI y)), (4, .int (nI j0)), (5, .int (nI m0))] [.int (nI (if up then 1 else 0))] (HP sk g2 n) Q := fun up hup => by
                            refine T_istore (pc2 := 140) dX8_copy_138 (by decide) rfl ?_
                            refine T_iconst (pc2 := 141) dX8_copy_140 ic0 rfl ?_
                            refine T_istore (pc2 := 143) dX8_copy_141 (by decide) rfl ?_
                            refine T_sub (lks (i := 0) rfl (lks (i := 1) rfl (lks (i := 2) rfl (lks (i := 3) rfl (lks (i := 4) rfl (lks (i := 5) rfl (lks (i := 6) rfl (lks (i := 7) rfl lk0)))))))) ?_
                            refine cp_loop (g := g2) S hx hy (by omega) (by omega) hup (fun g3 h1 h2 hf => ?_) m0 0 g2 (by omega) (fun q => ?_) Fo.rf
                            · refine fm_new k (hI2.rows (A := s.A.cpy x y i0 j0 m0) ?_ (fun i _ _ h3 => hf i h3)) (hF0.tr (hf.fr (by decide) (by decide))) ?_
                              · intro q hq
                                have old := hI2.1 q hq
                                rw [hf 49 (by decide), hf 50 (by decide)]
                                refine ⟨old.1, fun z => ⟨(old.2 z).1, (old.2 z).2.1, fun t ht => ?_⟩⟩
                                by_cases e : q = y
                                · subst e
                                  rw [h1 t ht]
                                  have e2 : (s.A.cpy x q i0 j0 m0).2.2.2 q t = if j0 ≤ t ∧ t < j0 + m0 then s.A.2.2.2 x (i0 + (t - j0)) else s.A.2.2.2 q t := by
                                    simp [RS.cpy, va_up, va_cpy]
                                  rw [e2]
                                  by_cases hh : j0 ≤ t ∧ t < j0 + m0
                                  · rw [if_pos hh, if_pos hh]
                                    exact e51 _ (by omega)
                                  · rw [if_neg hh, if_neg hh]
                                    exact f51 t ht
                                · rw [h2 _ (by omega)]
                                  have e2 : (s.A.cpy x y i0 j0 m0).2.2.2 q = s.A.2.2.2 q := by simp [RS.cpy, va_up, e]
                                  rw [e2]
                                  exact (old.2 z).2.2 t ht
                              · rw [hs, if_neg hnt, if_neg hne, hN_some (by omega) (show i0 + m0 ≤ s.A.2.2.1 x by omega), hN_some (by omega) (show j0 + m0 ≤ s.A.2.2.1 y by omega)]
                                rfl
                            · cases up with
                              | true => simp only [if_true]; rw [if_neg (by omega)]
                              | false => simp only [Bool.false_eq_true, if_false]; rw [if_neg (by omega)]
                          refine T_iload_n (pc2 := 128) dX8_copy_127 rfl rfl ?_
                          refine T_iload (pc2 := 130) dX8_copy_128 rfl rfl ?_
                          first | refine N_icmplt (pc2 := 133) (tgt := 137) dX8_copy_130 (by decide) (by with_reducible rfl) (by with_reducible rfl) (by omega) (by omega) rfl (fun c130 => ?_) (fun c130 => ?_) | refine T_icmplt (pc2 := 133) (tgt := 137) dX8_copy_130 (by decide) rfl (fun c130 => ?_) (fun c130 => ?_)
                          · refine T_iconst (pc2 := 138) dX8_copy_137 ic0 rfl ?_
                            refine T_sub (lks (i := 0) rfl (lks (i := 1) rfl (lks (i := 2) rfl (lks (i := 3) rfl (lks (i := 4) rfl (lks (i := 5) rfl lk0)))))) ?_
                            exact fin false (decide_eq_false (by omega)).symm
                          · refine T_iconst (pc2 := 134) dX8_copy_133 ic1 rfl ?_
                            refine T_goto (tgt := 138) dX8_copy_134 (by decide) ?_
                            refine T_sub (lks (i := 0) rfl (lks (i := 1) rfl (lks (i := 2) rfl (lks (i := 3) rfl (lks (i := 4) rfl (lks (i := 5) rfl lk0)))))) ?_
                            exact fin true (decide_eq_true (by omega)).symm
                        · exfalso
                          apply c118
                          split <;> decide
          · refine T_aload_n (pc2 := 67) dX8_copy_66 rfl rfl ?_
            refine T_iconst (pc2 := 68) dX8_copy_67 ic5 rfl ?_
            refine C_V1 (pc2 := 71) (mc := 0) (ms := 0) dX8_copy_68 cvX8_finding mlX8_71 (isO.h (sh48 S) _) (Nat.le_of_ble_eq_true rfl) rfl ?_
            refine m_finding S ?_
            refine T_iret dX8_copy_71 rfl rfl ?_
            exact fm_new k hI2.fd (hF0.tr (Fr.rf.st (by omega) (by omega))) (by rw [hs, if_neg hnt, if_pos c63]; rfl)
    · first | refine B_ifne1 (tgt := 22) dX8_copy_16 (by with_reducible rfl) (by decide) ?_ | refine B_ifne0 (pc2 := 19) (tgt := 22) dX8_copy_16 (by with_reducible rfl) (by decide) rfl ?_ | refine N_ifne (pc2 := 19) (tgt := 22) dX8_copy_16 (by with_reducible rfl) (by decide) (by omega) rfl (fun c16 => ?_) (fun c16 => ?_) | refine T_ifne (pc2 := 19) (tgt := 22) dX8_copy_16 (by decide) rfl (fun c16 => ?_) (fun c16 => ?_)
      refine T_ldc (pc2 := 21) dX8_copy_19 kcX8_70 rfl ?_
      refine T_iret dX8_copy_21 rfl rfl ?_
      refine fm_same k hI Ms.rf ?_
      unfold sCopy
      rw [inN_none hno]
      cases inN (nI x) 8 <;> rfl
  · first | refine B_ifeq1 (pc2 := 12) (tgt := 19) dX8_copy_9 (by with_reducible rfl) (by decide) rfl ?_ | refine B_ifeq0 (tgt := 19) dX8_copy_9 (by with_reducible rfl) (by decide) ?_ | refine N_ifeq (pc2 := 12) (tgt := 19) dX8_copy_9 (by with_reducible rfl) (by decide) (by omega) rfl (fun c9 => ?_) (fun c9 => ?_) | refine T_ifeq (pc2 := 12) (tgt := 19) dX8_copy_9 (by decide) rfl (fun c9 => ?_) (fun c9 => ?_)
    refine T_ldc (pc2 := 21) dX8_copy_19 kcX8_70 rfl ?_
    refine T_iret dX8_copy_21 rfl rfl ?_
    refine fm_same k hI Ms.rf ?_
    unfold sCopy
    rw [inN_none hno]
theorem drawn_loop {x mm y : Nat} (S : Sh sk n bf im above below) (hok : okC V) (hY : V.Y ≤ 1000) (hJ0 : 0 < V.J) (hx : x < 2147483647) (hm : mm ≤ 60)
    (k : ∀ g2, hasM (g2 54) (V.vn x mm).2 → Ms g g2 → T MX8_drawn (d + 4) kc ks 131 [(0, .ref 48), (3, .int (nI y))] [] (HP sk g2 n) Q) :
    ∀ m t g2, t + m = mm → hasM (g2 54) (V.vn x t).2 → Ms g g2 → T MX8_drawn (d + 4) kc ks 63 [(0, .ref 48), (1, .int (nI mm)), (3, .int (nI y)), (4, .long (lN (V.vn x t).1)), (6, .int (nI t))] [] (HP sk g2 n) Q := by
  have hJ8 := hok.1
  intro m
  induction m with
  | zero =>
    intro t g2 ht hU hf
    have e : t = mm := by omega
    subst e
    refine T_iload (pc2 := 65) dX8_drawn_63 rfl rfl ?_
    refine T_iload_n (pc2 := 66) dX8_drawn_65 rfl rfl ?_
    first | refine N_icmpge (pc2 := 69) (tgt := 131) dX8_drawn_66 (by decide) (by with_reducible rfl) (by with_reducible rfl) (by omega) (by omega) rfl (fun c66 => ?_) (fun c66 => ?_) | refine T_icmpge (pc2 := 69) (tgt := 131) dX8_drawn_66 (by decide) rfl (fun c66 => ?_) (fun c66 => ?_)
    · refine T_sub (lks (i := 0) rfl (lks (i := 3) rfl lk0)) ?_
      exact k g2 hU hf
    · omega
  | succ m ih =>
    intro t g2 ht hU hf
    obtain ⟨h1, h2, h3, h4⟩ := vn_ok hok hY hx t (by omega)
    have hst : V.vn x (t + 1) = vnf t (V.vn x t) := rfl
    have hst2 : (V.vn x (t + 1)).1 = drw (V.vn x t).1 := by rw [hst]; rfl
    have hst3 : (V.vn x (t + 1)).2 = (if drw (V.vn x t).1 % 3 = 0 then (V.vn x t).2.smash ((V.vn x t).2.brk (drw (V.vn x t).1 % 12) (drw (V.vn x t).1 % (V.vn x t).2.J) ((V.vn x t).2.th 0)) else (V.vn x t).2).age := by rw [hst]; rfl
    have ih := fun g3 a b => ih (t + 1) g3 (by omega) a b
    rw [hst3, hst2] at ih
    generalize V.vn x t = s at h1 h2 h3 h4 hU ih ⊢
    have hx2 : drw s.1 < 2147483647 := Nat.mod_lt _ (by decide)
    have hend : ∀ g3 U, hasM (g3 54) U → okC U → Ms g g3 → (∀ g4, hasM (g4 54) U.age → Ms g g4 → T MX8_drawn (d + 4) kc ks 63 [(0, .ref 48), (1, .int (nI mm)), (3, .int (nI y)), (4, .long (lN (drw s.1))), (6, .int (nI (t + 1)))] [] (HP sk g4 n) Q) → T MX8_drawn (d + 4) kc ks 118 [(0, .ref 48), (1, .int (nI mm)), (3, .int (nI y)), (4, .long (lN (drw s.1))), (6, .int (nI t))] [] (HP sk g3 n) Q := by
      intro g3 U hU3 hok3 hf3 hk
      refine T_aload_n (pc2 := 119) dX8_drawn_118 rfl rfl ?_
      refine G_getR (pc2 := 122) dX8_drawn_119 flX8_25 (sh48 S) rfl rfl ?_
      refine C_S1 (pc2 := 125) (mc := 0) (ms := 0) dX8_drawn_122 csX8_yearOf mlX8_205 (Nat.le_of_ble_eq_true rfl) rfl ?_
      refine m_year (sh54 S) hU3 hok3 (fun g4 hU4 hf4 => ?_)
      first | refine N_iinc (pc2 := 128) dX8_drawn_125 rfl (by with_reducible rfl) ic1 (by decide) rfl ?_ | refine T_iinc (pc2 := 128) dX8_drawn_125 rfl rfl (by decide) rfl ?_
      refine T_goto (tgt := 63) dX8_drawn_128 (by decide) ?_
      refine T_sub (lks (i := 0) rfl (lks (i := 1) rfl (lks (i := 3) rfl (lks (i := 4) rfl (lks (i := 6) rfl lk0))))) ?_
      exact hk g4 hU4 (hf3.tr (hf4.ms (by omega)))
    refine T_iload (pc2 := 65) dX8_drawn_63 rfl rfl ?_
    refine T_iload_n (pc2 := 66) dX8_drawn_65 rfl rfl ?_
    first | refine N_icmpge (pc2 := 69) (tgt := 131) dX8_drawn_66 (by decide) (by with_reducible rfl) (by with_reducible rfl) (by omega) (by omega) rfl (fun c66 => ?_) (fun c66 => ?_) | refine T_icmpge (pc2 := 69) (tgt := 131) dX8_drawn_66 (by decide) rfl (fun c66 => ?_) (fun c66 => ?_)
    · exact absurd c66 (by omega)
    · refine T_lload (pc2 := 71) dX8_drawn_69 rfl rfl ?_
      refine T_ldc2 (pc2 := 74) dX8_drawn_71 kcX8_258 rfl ?_
      refine T_lmul (pc2 := 75) dX8_drawn_74 rfl ?_
      rw [lN_mul]
      have hne1 : ¬ lN 2147483647 = 0 := by decide
      refine T_ldc2 (pc2 := 78) dX8_drawn_75 kcX8_260 rfl ?_
      refine T_lrem (pc2 := 79) dX8_drawn_78 (by first | assumption | decide) rfl ?_
      rw [pk_lRem (by omega) (by decide) (by decide)]
      rw [show s.1 * 16807 % 2147483647 = drw s.1 from rfl]
      have hne2 : ¬ lN 3 = 0 := by decide
      refine T_lstore (pc2 := 81) dX8_drawn_79 (by decide) rfl ?_
      refine T_lload (pc2 := 83) dX8_drawn_81 rfl rfl ?_
      refine T_ldc2 (pc2 := 86) dX8_drawn_83 kcX8_227 rfl ?_
      refine T_lrem (pc2 := 87) dX8_drawn_86 (by first | assumption | decide) rfl ?_
      rw [pk_lRem (by omega) (by decide) (by decide)]
      refine T_lconst (pc2 := 88) (v := lN 0) dX8_drawn_87 rfl rfl ?_
      refine T_lcmp (pc2 := 89) dX8_drawn_88 rfl ?_
      rw [lgc (by omega) (by decide)]
      by_cases h30 : drw s.1 % 3 = 0
      · rw [h30, if_neg (by decide), if_pos rfl]
        rw [if_pos h30] at ih
        refine T_ifne (pc2 := 92) (tgt := 118) dX8_drawn_89 (by decide) rfl (fun c89 => ?_) (fun c89 => ?_)
        · exact absurd rfl c89
        · have e0 := hU.1
          have hJs : s.2.J = V.J := h3.1
          have hne3 : ¬ lN s.2.J = 0 := lN_ne0 (by omega) (by omega)
          have hne4 : ¬ lN 12 = 0 := by decide
          refine T_aload_n (pc2 := 93) dX8_drawn_92 rfl rfl ?_
          refine T_aload_n (pc2 := 94) dX8_drawn_93 rfl rfl ?_
          refine G_getR (pc2 := 97) dX8_drawn_94 flX8_25 (sh48 S) rfl rfl ?_
          refine T_lload (pc2 := 99) dX8_drawn_97 rfl rfl ?_
          refine T_ldc2 (pc2 := 102) dX8_drawn_99 kcX8_239 rfl ?_
          refine T_lrem (pc2 := 103) dX8_drawn_102 (by first | assumption | decide) rfl ?_
          rw [pk_lRem (by omega) (by decide) (by decide)]
          refine T_l2i (pc2 := 104) dX8_drawn_103 rfl ?_
          rw [lN_i]
          refine T_lload (pc2 := 106) dX8_drawn_104 rfl rfl ?_
          refine T_aload_n (pc2 := 107) dX8_drawn_106 rfl rfl ?_
          refine G_getR (pc2 := 110) dX8_drawn_107 flX8_25 (sh48 S) rfl rfl ?_
          refine T_iconst (pc2 := 111) dX8_drawn_110 ic0 rfl ?_
          refine G_iald (pc2 := 112) dX8_drawn_111 (sh54 S) (by omega) (by first | decide | omega) (by first | with_reducible assumption | exact gs_eq _ _ _ _ | exact (gs_ne _ _ (by omega)).trans (by with_reducible assumption) | exact (gs_ne _ _ (by omega)).trans (gs_eq _ _ _ _) | exact (gs_ne _ _ (by omega)).trans ((gs_ne _ _ (by omega)).trans (by with_reducible assumption)) | exact (gs_ne _ _ (by omega)).trans ((gs_ne _ _ (by omega)).trans (gs_eq _ _ _ _)) | exact (gs_ne _ _ (by omega)).trans ((gs_ne _ _ (by omega)).trans ((gs_ne _ _ (by omega)).trans (by with_reducible assumption))) | rfl) rfl ?_
          refine T_i2l (pc2 := 113) dX8_drawn_112 rfl ?_
          rw [nI_l (by omega)]
          refine T_lrem (pc2 := 114) dX8_drawn_113 (by first | assumption | decide) rfl ?_
          rw [pk_lRem (by omega) (by omega) (by omega)]
          refine T_l2i (pc2 := 115) dX8_drawn_114 rfl ?_
          rw [lN_i]
          refine C_V3 (pc2 := 118) (mc := 0) (ms := 0) dX8_drawn_115 cvX8_sneezes mlX8_216 (isO.h (sh48 S) _) (Nat.le_of_ble_eq_true rfl) rfl ?_
          have hJ0s : 0 < s.2.J := by omega
          refine m_sneezes S (sh54 S) (by decide) hU h2.d (Nat.mod_lt _ (by decide)) (Nat.mod_lt _ hJ0s) (fun g4 hU4 g5 hf4 hf5 => ?_)
          refine T_sub (lks (i := 0) rfl (lks (i := 1) rfl (lks (i := 3) rfl (lks (i := 4) rfl (lks (i := 6) rfl lk0))))) ?_
          exact hend g4 _ hU4 (h2.smash _) ((hf.tr hf5.ms).tr (hf4.ms (by omega))) ih
      · rw [if_pos (by omega)]
        rw [if_neg h30] at ih
        refine T_ifne (pc2 := 92) (tgt := 118) dX8_drawn_89 (by decide) rfl (fun c89 => ?_) (fun c89 => ?_)
        · refine T_sub (lks (i := 0) rfl (lks (i := 1) rfl (lks (i := 3) rfl (lks (i := 4) rfl (lks (i := 6) rfl lk0))))) ?_
          exact hend g2 s.2 hU h2 hf ih
        · exact absurd c89 (by decide)
theorem mm_drawn {m x w : Int32} (S : Sh sk n bf im above below) (hI : InvM g s) (hok : Ok s) (k : ∀ g2, InvM g2 (sDrawn s m x w).2 → Fr 48 62 g g2 → Q (some (.int (sDrawn s m x w).1)) (HP sk g2 n)) : Calls MX8_drawn (d + 4) 0 0 [.ref 48, .int m, .int x, .int w] (HP sk g n) Q := by
  have hokV := hok.2.2.1.1
  have hJ8 := hokV.1
  refine Calls.of (by decide +kernel) (Nat.le_of_ble_eq_true rfl) ?_
  refine T_aload_n (pc2 := 1) dX8_drawn_0 rfl rfl ?_
  refine T_iconst (pc2 := 2) dX8_drawn_1 ic0 rfl ?_
  refine G_putI (pc2 := 5) dX8_drawn_2 flX8_50 (sh48 S) rfl rfl rfl rfl ?_
  have hI := hI.ms (Ms.rf.st (i := 48) (k := 0) (v := nI 0) (by omega))
  have k := fm_start k
  generalize gset g 48 0 (nI 0) = g1 at hI k ⊢
  have hV := hI.2.2.1
  have hY9 := hok.2.2.1.2
  refine T_aload_n (pc2 := 6) dX8_drawn_5 rfl rfl ?_
  refine C_V0 (pc2 := 9) (mc := 0) (ms := 0) dX8_drawn_6 cvX8_isThere mlX8_196 (isO.h (sh48 S) _) (Nat.le_of_ble_eq_true rfl) rfl ?_
  refine m_isThere S hV.1 hJ8 (fun h0 => ?_) (fun h0 => ?_)
  · have hs : sDrawn s m x w = match inN m 61, inP x 999999, inN w 2 with
        | some m, some x, some w => (if w = 0 then nI (bm ((s.V.vn (x + 1) m).2.th 0) 8) else nI (ct ((s.V.vn (x + 1) m).2.th 1) 8), s)
        | _, _, _ => (BAD, s) := if_neg (by omega)
    first | refine B_ifne1 (tgt := 15) dX8_drawn_9 (by with_reducible rfl) (by decide) ?_ | refine B_ifne0 (pc2 := 12) (tgt := 15) dX8_drawn_9 (by with_reducible rfl) (by decide) rfl ?_ | refine N_ifne (pc2 := 12) (tgt := 15) dX8_drawn_9 (by with_reducible rfl) (by decide) (by omega) rfl (fun c9 => ?_) (fun c9 => ?_) | refine T_ifne (pc2 := 12) (tgt := 15) dX8_drawn_9 (by decide) rfl (fun c9 => ?_) (fun c9 => ?_)
    refine T_iload_n (pc2 := 16) dX8_drawn_15 rfl rfl ?_
    refine T_i2l (pc2 := 17) dX8_drawn_16 rfl ?_
    refine T_lconst (pc2 := 18) (v := lN 0) dX8_drawn_17 rfl rfl ?_
    refine T_ldc2 (pc2 := 21) dX8_drawn_18 kcX8_223 rfl ?_
    refine C_S3 (pc2 := 24) (mc := 0) (ms := 0) dX8_drawn_21 csX8_in mlX8_60 (Nat.le_of_ble_eq_true rfl) rfl ?_
    refine m_inI (k := 60) rfl rfl (by decide) (by decide) (fun a ha ea => ?_) (fun hno => ?_)
    · subst ea
      first | refine B_ifeq1 (pc2 := 27) (tgt := 49) dX8_drawn_24 (by with_reducible rfl) (by decide) rfl ?_ | refine B_ifeq0 (tgt := 49) dX8_drawn_24 (by with_reducible rfl) (by decide) ?_ | refine N_ifeq (pc2 := 27) (tgt := 49) dX8_drawn_24 (by with_reducible rfl) (by decide) (by omega) rfl (fun c24 => ?_) (fun c24 => ?_) | refine T_ifeq (pc2 := 27) (tgt := 49) dX8_drawn_24 (by decide) rfl (fun c24 => ?_) (fun c24 => ?_)
      refine T_iload_n (pc2 := 28) dX8_drawn_27 rfl rfl ?_
      refine T_i2l (pc2 := 29) dX8_drawn_28 rfl ?_
      refine T_lconst (pc2 := 30) (v := lN 1) dX8_drawn_29 rfl rfl ?_
      refine T_ldc2 (pc2 := 33) dX8_drawn_30 kcX8_256 rfl ?_
      refine C_S3 (pc2 := 36) (mc := 0) (ms := 0) dX8_drawn_33 csX8_in mlX8_60 (Nat.le_of_ble_eq_true rfl) rfl ?_
      refine m_in1 (k := 999999) rfl rfl (by decide) (by decide) (fun b hb eb => ?_) (fun hno => ?_)
      · subst eb
        first | refine B_ifeq1 (pc2 := 39) (tgt := 49) dX8_drawn_36 (by with_reducible rfl) (by decide) rfl ?_ | refine B_ifeq0 (tgt := 49) dX8_drawn_36 (by with_reducible rfl) (by decide) ?_ | refine N_ifeq (pc2 := 39) (tgt := 49) dX8_drawn_36 (by with_reducible rfl) (by decide) (by omega) rfl (fun c36 => ?_) (fun c36 => ?_) | refine T_ifeq (pc2 := 39) (tgt := 49) dX8_drawn_36 (by decide) rfl (fun c36 => ?_) (fun c36 => ?_)
        refine T_iload_n (pc2 := 40) dX8_drawn_39 rfl rfl ?_
        refine T_i2l (pc2 := 41) dX8_drawn_40 rfl ?_
        refine T_lconst (pc2 := 42) (v := lN 0) dX8_drawn_41 rfl rfl ?_
        refine T_lconst (pc2 := 43) (v := lN 1) dX8_drawn_42 rfl rfl ?_
        refine C_S3 (pc2 := 46) (mc := 0) (ms := 0) dX8_drawn_43 csX8_in mlX8_60 (Nat.le_of_ble_eq_true rfl) rfl ?_
        refine m_inI (k := 1) rfl rfl (by decide) (by decide) (fun y hy ey => ?_) (fun hno => ?_)
        · subst ey
          rw [inN_some (show a < 61 by omega) (by decide), inP_some hb (by decide), inN_some (show y < 2 by omega) (by decide)] at hs
          first | refine B_ifne1 (tgt := 52) dX8_drawn_46 (by with_reducible rfl) (by decide) ?_ | refine B_ifne0 (pc2 := 49) (tgt := 52) dX8_drawn_46 (by with_reducible rfl) (by decide) rfl ?_ | refine N_ifne (pc2 := 49) (tgt := 52) dX8_drawn_46 (by with_reducible rfl) (by decide) (by omega) rfl (fun c46 => ?_) (fun c46 => ?_) | refine T_ifne (pc2 := 49) (tgt := 52) dX8_drawn_46 (by decide) rfl (fun c46 => ?_) (fun c46 => ?_)
          refine T_aload_n (pc2 := 53) dX8_drawn_52 rfl rfl ?_
          refine C_V0 (pc2 := 56) (mc := 0) (ms := 0) dX8_drawn_53 cvX8_layThen mlX8_233 (isO.h (sh48 S) _) (Nat.le_of_ble_eq_true rfl) rfl ?_
          refine m_lay S hV hJ8 (fun g2 hM hf => ?_)
          refine T_iload_n (pc2 := 57) dX8_drawn_56 rfl rfl ?_
          refine T_i2l (pc2 := 58) dX8_drawn_57 rfl ?_
          rw [nI_l (by omega)]
          refine T_lstore (pc2 := 60) dX8_drawn_58 (by decide) rfl ?_
          refine T_iconst (pc2 := 61) dX8_drawn_60 ic0 rfl ?_
          refine T_istore (pc2 := 63) dX8_drawn_61 (by decide) rfl ?_
          refine T_sub (lks (i := 0) rfl (lks (i := 1) rfl (lks (i := 3) rfl (lks (i := 4) rfl (lks (i := 6) rfl lk0))))) ?_
          refine drawn_loop (V := s.V) (x := b + 1) (y := y) (g := g2) S hokV (by omega) h0 (by omega) (by omega) (fun g3 hM3 hf3 => ?_) a 0 g2 (by omega) hM Ms.rf
          have hm3 := (hf.ms (by omega)).tr hf3
          have oU := (vn_ok hokV (show s.V.Y ≤ 1000 by omega) (show b + 1 < 2147483647 by omega) a (by omega)).2.1
          refine T_iload_n (pc2 := 132) dX8_drawn_131 rfl rfl ?_
          first | refine B_ifne1 (tgt := 146) dX8_drawn_132 (by with_reducible rfl) (by decide) ?_ | refine B_ifne0 (pc2 := 135) (tgt := 146) dX8_drawn_132 (by with_reducible rfl) (by decide) rfl ?_ | refine N_ifne (pc2 := 135) (tgt := 146) dX8_drawn_132 (by with_reducible rfl) (by decide) (by omega) rfl (fun c132 => ?_) (fun c132 => ?_) | refine T_ifne (pc2 := 135) (tgt := 146) dX8_drawn_132 (by decide) rfl (fun c132 => ?_) (fun c132 => ?_)
          · refine T_aload_n (pc2 := 147) dX8_drawn_146 rfl rfl ?_
            refine G_getR (pc2 := 150) dX8_drawn_147 flX8_25 (sh48 S) rfl rfl ?_
            refine T_iconst (pc2 := 151) dX8_drawn_150 ic1 rfl ?_
            refine C_S2 (pc2 := 154) (mc := 0) (ms := 0) dX8_drawn_151 csX8_those mlX8_175 (Nat.le_of_ble_eq_true rfl) rfl ?_
            refine m_those (how := 1) (sh54 S) hM3 oU.1 (by decide) (hw31 oU) ?_
            refine C_S1 (pc2 := 157) (mc := 0) (ms := 0) dX8_drawn_154 csX8_bits mlX8_183 (Nat.le_of_ble_eq_true rfl) rfl ?_
            refine m_bits ?_
            refine T_iret dX8_drawn_157 rfl rfl ?_
            exact fm_same k hI hm3 (by rw [hs]; show (if y = 0 then _ else _, s) = _; rw [if_neg c132])
          · refine T_aload_n (pc2 := 136) dX8_drawn_135 rfl rfl ?_
            refine G_getR (pc2 := 139) dX8_drawn_136 flX8_25 (sh48 S) rfl rfl ?_
            refine T_iconst (pc2 := 140) dX8_drawn_139 ic0 rfl ?_
            refine C_S2 (pc2 := 143) (mc := 0) (ms := 0) dX8_drawn_140 csX8_those mlX8_175 (Nat.le_of_ble_eq_true rfl) rfl ?_
            refine m_those (how := 0) (sh54 S) hM3 oU.1 (by decide) (hw31 oU) ?_
            refine T_goto (tgt := 157) dX8_drawn_143 (by decide) ?_
            refine T_iret dX8_drawn_157 rfl rfl ?_
            exact fm_same k hI hm3 (by rw [hs]; show (if y = 0 then _ else _, s) = _; rw [if_pos c132])
        · first | refine B_ifne1 (tgt := 52) dX8_drawn_46 (by with_reducible rfl) (by decide) ?_ | refine B_ifne0 (pc2 := 49) (tgt := 52) dX8_drawn_46 (by with_reducible rfl) (by decide) rfl ?_ | refine N_ifne (pc2 := 49) (tgt := 52) dX8_drawn_46 (by with_reducible rfl) (by decide) (by omega) rfl (fun c46 => ?_) (fun c46 => ?_) | refine T_ifne (pc2 := 49) (tgt := 52) dX8_drawn_46 (by decide) rfl (fun c46 => ?_) (fun c46 => ?_)
          refine T_ldc (pc2 := 51) dX8_drawn_49 kcX8_70 rfl ?_
          refine T_iret dX8_drawn_51 rfl rfl ?_
          refine fm_same k hI Ms.rf ?_
          rw [hs, inN_none (v := w) (k := 2) (fun q hq => hno q (by omega))]
          cases inN (nI a) 61 <;> cases inP (nI (b + 1)) 999999 <;> rfl
      · first | refine B_ifeq1 (pc2 := 39) (tgt := 49) dX8_drawn_36 (by with_reducible rfl) (by decide) rfl ?_ | refine B_ifeq0 (tgt := 49) dX8_drawn_36 (by with_reducible rfl) (by decide) ?_ | refine N_ifeq (pc2 := 39) (tgt := 49) dX8_drawn_36 (by with_reducible rfl) (by decide) (by omega) rfl (fun c36 => ?_) (fun c36 => ?_) | refine T_ifeq (pc2 := 39) (tgt := 49) dX8_drawn_36 (by decide) rfl (fun c36 => ?_) (fun c36 => ?_)
        refine T_ldc (pc2 := 51) dX8_drawn_49 kcX8_70 rfl ?_
        refine T_iret dX8_drawn_51 rfl rfl ?_
        refine fm_same k hI Ms.rf ?_
        rw [hs, inP_none hno]
        cases inN (nI a) 61 <;> rfl
    · first | refine B_ifeq1 (pc2 := 27) (tgt := 49) dX8_drawn_24 (by with_reducible rfl) (by decide) rfl ?_ | refine B_ifeq0 (tgt := 49) dX8_drawn_24 (by with_reducible rfl) (by decide) ?_ | refine N_ifeq (pc2 := 27) (tgt := 49) dX8_drawn_24 (by with_reducible rfl) (by decide) (by omega) rfl (fun c24 => ?_) (fun c24 => ?_) | refine T_ifeq (pc2 := 27) (tgt := 49) dX8_drawn_24 (by decide) rfl (fun c24 => ?_) (fun c24 => ?_)
      refine T_ldc (pc2 := 51) dX8_drawn_49 kcX8_70 rfl ?_
      refine T_iret dX8_drawn_51 rfl rfl ?_
      refine fm_same k hI Ms.rf ?_
      rw [hs, inN_none (v := m) (k := 61) (fun q hq => hno q (by omega))]
  · first | refine B_ifne1 (tgt := 15) dX8_drawn_9 (by with_reducible rfl) (by decide) ?_ | refine B_ifne0 (pc2 := 12) (tgt := 15) dX8_drawn_9 (by with_reducible rfl) (by decide) rfl ?_ | refine N_ifne (pc2 := 12) (tgt := 15) dX8_drawn_9 (by with_reducible rfl) (by decide) (by omega) rfl (fun c9 => ?_) (fun c9 => ?_) | refine T_ifne (pc2 := 12) (tgt := 15) dX8_drawn_9 (by decide) rfl (fun c9 => ?_) (fun c9 => ?_)
    refine T_ldc (pc2 := 14) dX8_drawn_12 kcX8_199 rfl ?_
    refine T_iret dX8_drawn_14 rfl rfl ?_
    exact fm_same k hI Ms.rf (if_pos h0)
end MCopy

