/-! the model: who is set off, and the chain -/
def hasS (g : Nat → Nat → Int32) (r : Nat) (sd : Nat → Option Nat) : Prop := ∀ p, p < 8 → g r p = oN (sd p)
def sdok (sd : Nat → Option Nat) : Prop := ∀ p t, sd p = some t → t < 12
section MChain
variable {sk : Nat → SK} {g : Nat → Nat → Int32} {n w : Nat} {V : Cel} {Q : Option Value → SH → Prop} {d kc ks : Nat} {bf im : Nat → Option Nat} {above below : Int64} {h : SH}
theorem so_loop {sd : Nat → Option Nat} {j : Nat} (S : Sh sk n bf im above below) (hw : isA sk n w .int 43) (hV : hasM (g w) V) (hok : okD V) (hj : j < V.J) (hS : hasS g 57 sd) (hd : sdok sd)
    (k : T MX8_setsOff (d + 1) kc ks 137 [(1, .ref w), (2, .int (nI j)), (3, .int (nI (soC V sd j (fun a => decide (a = 0))))), (4, .int (nI (soC V sd j (fun a => decide (a ≤ 1))))), (5, .int (nI (soC V sd j (fun a => decide (a = 5))))), (6, .int (nI (soC V sd j (fun a => decide (a = 6)))))] [] (HP sk g n) Q) :
    ∀ m p, p + m = V.J → T MX8_setsOff (d + 1) kc ks 14 [(0, .ref 48), (1, .ref w), (2, .int (nI j)), (3, .int (nI (ct (soP V sd j (fun a => decide (a = 0))) p))), (4, .int (nI (ct (soP V sd j (fun a => decide (a ≤ 1))) p))), (5, .int (nI (ct (soP V sd j (fun a => decide (a = 5))) p))), (6, .int (nI (ct (soP V sd j (fun a => decide (a = 6))) p))), (7, .int (nI p))] [] (HP sk g n) Q := by
  have e0 := hV.1
  have eR := hV.2.2.1
  have hJ8 := hok.1
  have hR8 := hok.2.2.1
  have oj := hok.2.2.2.1 j hj
  have ej := hV.2.2.2 j hj
  have ejn := ej.2.1
  have ejp := ej.2.2.2.1
  intro m
  induction m with
  | zero =>
    intro p hp
    have e : p = V.J := by omega
    subst e
    refine T_iload (pc2 := 16) dX8_setsOff_14 rfl rfl ?_
    refine T_aload_n (pc2 := 17) dX8_setsOff_16 rfl rfl ?_
    refine T_iconst (pc2 := 18) dX8_setsOff_17 ic0 rfl ?_
    refine G_iald (pc2 := 19) dX8_setsOff_18 hw (by omega) (by first | decide | omega) (by first | with_reducible assumption | exact gs_eq _ _ _ _ | exact (gs_ne _ _ (by omega)).trans (by with_reducible assumption) | exact (gs_ne _ _ (by omega)).trans (gs_eq _ _ _ _) | exact (gs_ne _ _ (by omega)).trans ((gs_ne _ _ (by omega)).trans (by with_reducible assumption)) | exact (gs_ne _ _ (by omega)).trans ((gs_ne _ _ (by omega)).trans (gs_eq _ _ _ _)) | exact (gs_ne _ _ (by omega)).trans ((gs_ne _ _ (by omega)).trans ((gs_ne _ _ (by omega)).trans (by with_reducible assumption))) | rfl) rfl ?_
    first | refine N_icmpge (pc2 := 22) (tgt := 137) dX8_setsOff_19 (by decide) (by with_reducible rfl) (by with_reducible rfl) (by omega) (by omega) rfl (fun c19 => ?_) (fun c19 => ?_) | refine T_icmpge (pc2 := 22) (tgt := 137) dX8_setsOff_19 (by decide) rfl (fun c19 => ?_) (fun c19 => ?_)
    · refine T_sub (lks (i := 1) rfl (lks (i := 2) rfl (lks (i := 3) rfl (lks (i := 4) rfl (lks (i := 5) rfl (lks (i := 6) rfl lk0)))))) ?_
      exact k
    · exact absurd (by omega) c19
  | succ m ih =>
    intro p hp
    have hpl : p < V.J := by omega
    have e57 := hS p (by omega)
    refine T_iload (pc2 := 16) dX8_setsOff_14 rfl rfl ?_
    refine T_aload_n (pc2 := 17) dX8_setsOff_16 rfl rfl ?_
    refine T_iconst (pc2 := 18) dX8_setsOff_17 ic0 rfl ?_
    refine G_iald (pc2 := 19) dX8_setsOff_18 hw (by omega) (by first | decide | omega) (by first | with_reducible assumption | exact gs_eq _ _ _ _ | exact (gs_ne _ _ (by omega)).trans (by with_reducible assumption) | exact (gs_ne _ _ (by omega)).trans (gs_eq _ _ _ _) | exact (gs_ne _ _ (by omega)).trans ((gs_ne _ _ (by omega)).trans (by with_reducible assumption)) | exact (gs_ne _ _ (by omega)).trans ((gs_ne _ _ (by omega)).trans (gs_eq _ _ _ _)) | exact (gs_ne _ _ (by omega)).trans ((gs_ne _ _ (by omega)).trans ((gs_ne _ _ (by omega)).trans (by with_reducible assumption))) | rfl) rfl ?_
    first | refine N_icmpge (pc2 := 22) (tgt := 137) dX8_setsOff_19 (by decide) (by with_reducible rfl) (by with_reducible rfl) (by omega) (by omega) rfl (fun c19 => ?_) (fun c19 => ?_) | refine T_icmpge (pc2 := 22) (tgt := 137) dX8_setsOff_19 (by decide) rfl (fun c19 => ?_) (fun c19 => ?_)
    · exact absurd c19 (by omega)
    · cases hs : sd p with
      | none =>
        rw [hs] at e57
        have e : ∀ q, ct (soP V sd j q) (p + 1) = ct (soP V sd j q) p := fun q => by
          show ct (soP V sd j q) p + _ = _
          simp [soP, hs]
        refine T_aload_n (pc2 := 23) dX8_setsOff_22 rfl rfl ?_
        refine G_getR (pc2 := 26) dX8_setsOff_23 flX8_34 (sh48 S) rfl rfl ?_
        refine T_iload (pc2 := 28) dX8_setsOff_26 rfl rfl ?_
        refine G_iald (pc2 := 29) dX8_setsOff_28 (sh57 S) (by omega) (by first | decide | omega) (by first | with_reducible assumption | exact gs_eq _ _ _ _ | exact (gs_ne _ _ (by omega)).trans (by with_reducible assumption) | exact (gs_ne _ _ (by omega)).trans (gs_eq _ _ _ _) | exact (gs_ne _ _ (by omega)).trans ((gs_ne _ _ (by omega)).trans (by with_reducible assumption)) | exact (gs_ne _ _ (by omega)).trans ((gs_ne _ _ (by omega)).trans (gs_eq _ _ _ _)) | exact (gs_ne _ _ (by omega)).trans ((gs_ne _ _ (by omega)).trans ((gs_ne _ _ (by omega)).trans (by with_reducible assumption))) | rfl) rfl ?_
        refine T_ldc (pc2 := 31) dX8_setsOff_29 kcX8_93 rfl ?_
        refine T_icmpeq (pc2 := 34) (tgt := 131) dX8_setsOff_31 (by decide) rfl (fun c31 => ?_) (fun c31 => ?_)
        · first | refine N_iinc (pc2 := 134) dX8_setsOff_131 rfl (by with_reducible rfl) ic1 (by decide) rfl ?_ | refine T_iinc (pc2 := 134) dX8_setsOff_131 rfl rfl (by decide) rfl ?_
          refine T_goto (tgt := 14) dX8_setsOff_134 (by decide) ?_
          refine T_sub (lks (i := 0) rfl (lks (i := 1) rfl (lks (i := 2) rfl (lks (i := 3) rfl (lks (i := 4) rfl (lks (i := 5) rfl (lks (i := 6) rfl (lks (i := 7) rfl lk0)))))))) ?_
          rw [← e, ← e (fun a => decide (a ≤ 1)), ← e (fun a => decide (a = 5)), ← e (fun a => decide (a = 6))]
          exact ih (p + 1) (by omega)
        · exact absurd rfl c31
      | some t =>
        rw [hs] at e57
        have ht := hd p t hs
        have e57 : g 57 p = nI t := e57
        refine T_aload_n (pc2 := 23) dX8_setsOff_22 rfl rfl ?_
        refine G_getR (pc2 := 26) dX8_setsOff_23 flX8_34 (sh48 S) rfl rfl ?_
        refine T_iload (pc2 := 28) dX8_setsOff_26 rfl rfl ?_
        refine G_iald (pc2 := 29) dX8_setsOff_28 (sh57 S) (by omega) (by first | decide | omega) (by first | with_reducible assumption | exact gs_eq _ _ _ _ | exact (gs_ne _ _ (by omega)).trans (by with_reducible assumption) | exact (gs_ne _ _ (by omega)).trans (gs_eq _ _ _ _) | exact (gs_ne _ _ (by omega)).trans ((gs_ne _ _ (by omega)).trans (by with_reducible assumption)) | exact (gs_ne _ _ (by omega)).trans ((gs_ne _ _ (by omega)).trans (gs_eq _ _ _ _)) | exact (gs_ne _ _ (by omega)).trans ((gs_ne _ _ (by omega)).trans ((gs_ne _ _ (by omega)).trans (by with_reducible assumption))) | rfl) rfl ?_
        refine T_ldc (pc2 := 31) dX8_setsOff_29 kcX8_93 rfl ?_
        refine T_icmpeq (pc2 := 34) (tgt := 131) dX8_setsOff_31 (by decide) rfl (fun c31 => ?_) (fun c31 => ?_)
        · exact absurd c31 (nI_none (by omega))
        · refine T_iload (pc2 := 36) dX8_setsOff_34 rfl rfl ?_
          refine T_aload_n (pc2 := 37) dX8_setsOff_36 rfl rfl ?_
          refine T_iload_n (pc2 := 38) dX8_setsOff_37 rfl rfl ?_
          refine T_iconst (pc2 := 39) dX8_setsOff_38 ic3 rfl ?_
          refine C_S3 (pc2 := 42) (mc := 0) (ms := 0) dX8_setsOff_39 csX8_of mlX8_154 (Nat.le_of_ble_eq_true rfl) rfl ?_
          refine m_of hw (by omega) ejp ?_
          refine C_S2 (pc2 := 45) (mc := 0) (ms := 0) dX8_setsOff_42 csX8_gap mlX8_158 (Nat.le_of_ble_eq_true rfl) rfl ?_
          refine m_gap (by omega) (by omega) ?_
          have hgap : gapN p (V.pl j) < 100 := by unfold gapN; split <;> omega
          refine T_aload_n (pc2 := 46) dX8_setsOff_45 rfl rfl ?_
          refine T_iconst (pc2 := 47) dX8_setsOff_46 ic2 rfl ?_
          refine G_iald (pc2 := 48) dX8_setsOff_47 hw (by omega) (by first | decide | omega) (by first | with_reducible assumption | exact gs_eq _ _ _ _ | exact (gs_ne _ _ (by omega)).trans (by with_reducible assumption) | exact (gs_ne _ _ (by omega)).trans (gs_eq _ _ _ _) | exact (gs_ne _ _ (by omega)).trans ((gs_ne _ _ (by omega)).trans (by with_reducible assumption)) | exact (gs_ne _ _ (by omega)).trans ((gs_ne _ _ (by omega)).trans (gs_eq _ _ _ _)) | exact (gs_ne _ _ (by omega)).trans ((gs_ne _ _ (by omega)).trans ((gs_ne _ _ (by omega)).trans (by with_reducible assumption))) | rfl) rfl ?_
          first | refine N_icmpgt (pc2 := 51) (tgt := 131) dX8_setsOff_48 (by decide) (by with_reducible rfl) (by with_reducible rfl) (by omega) (by omega) rfl (fun c48 => ?_) (fun c48 => ?_) | refine T_icmpgt (pc2 := 51) (tgt := 131) dX8_setsOff_48 (by decide) rfl (fun c48 => ?_) (fun c48 => ?_)
          · have e : ∀ q, ct (soP V sd j q) (p + 1) = ct (soP V sd j q) p := fun q => by
              show ct (soP V sd j q) p + _ = _
              simp only [soP, hs]
              rw [decide_eq_false (by omega)]
              simp
            first | refine N_iinc (pc2 := 134) dX8_setsOff_131 rfl (by with_reducible rfl) ic1 (by decide) rfl ?_ | refine T_iinc (pc2 := 134) dX8_setsOff_131 rfl rfl (by decide) rfl ?_
            refine T_goto (tgt := 14) dX8_setsOff_134 (by decide) ?_
            refine T_sub (lks (i := 0) rfl (lks (i := 1) rfl (lks (i := 2) rfl (lks (i := 3) rfl (lks (i := 4) rfl (lks (i := 5) rfl (lks (i := 6) rfl (lks (i := 7) rfl lk0)))))))) ?_
            rw [← e, ← e (fun a => decide (a ≤ 1)), ← e (fun a => decide (a = 5)), ← e (fun a => decide (a = 6))]
            exact ih (p + 1) (by omega)
          · have e : ∀ q, ct (soP V sd j q) (p + 1) = ct (soP V sd j q) p + (if q (apartN t (V.nt j)) = true then 1 else 0) := fun q => by
              show ct (soP V sd j q) p + _ = _
              simp only [soP, hs]
              rw [decide_eq_true (by omega)]
              simp
            have hap : apartN t (V.nt j) < 100 := by unfold apartN gapN; split <;> split <;> omega
            refine T_aload_n (pc2 := 52) dX8_setsOff_51 rfl rfl ?_
            refine G_getR (pc2 := 55) dX8_setsOff_52 flX8_34 (sh48 S) rfl rfl ?_
            refine T_iload (pc2 := 57) dX8_setsOff_55 rfl rfl ?_
            refine G_iald (pc2 := 58) dX8_setsOff_57 (sh57 S) (by omega) (by first | decide | omega) (by first | with_reducible assumption | exact gs_eq _ _ _ _ | exact (gs_ne _ _ (by omega)).trans (by with_reducible assumption) | exact (gs_ne _ _ (by omega)).trans (gs_eq _ _ _ _) | exact (gs_ne _ _ (by omega)).trans ((gs_ne _ _ (by omega)).trans (by with_reducible assumption)) | exact (gs_ne _ _ (by omega)).trans ((gs_ne _ _ (by omega)).trans (gs_eq _ _ _ _)) | exact (gs_ne _ _ (by omega)).trans ((gs_ne _ _ (by omega)).trans ((gs_ne _ _ (by omega)).trans (by with_reducible assumption))) | rfl) rfl ?_
            refine T_aload_n (pc2 := 59) dX8_setsOff_58 rfl rfl ?_
            refine T_iload_n (pc2 := 60) dX8_setsOff_59 rfl rfl ?_
            refine T_iconst (pc2 := 61) dX8_setsOff_60 ic1 rfl ?_
            refine C_S3 (pc2 := 64) (mc := 0) (ms := 0) dX8_setsOff_61 csX8_of mlX8_154 (Nat.le_of_ble_eq_true rfl) rfl ?_
            refine m_of hw (by omega) ejn ?_
            refine C_S2 (pc2 := 67) (mc := 0) (ms := 0) dX8_setsOff_64 csX8_apart mlX8_161 (Nat.le_of_ble_eq_true rfl) rfl ?_
            refine m_apart (by omega) (by omega) ?_
            have ih2 := ih (p + 1) (by omega)
            rw [e, e, e, e] at ih2
            generalize hA : apartN t (V.nt j) = a at ih2 hap
            have z6 : T MX8_setsOff (d + 1) kc ks 128 [(0, .ref 48), (1, .ref w), (2, .int (nI j)), (3, .int (nI (ct (soP V sd j (fun a => decide (a = 0))) p + (if decide (a = 0) = true then 1 else 0)))), (4, .int (nI (ct (soP V sd j (fun a => decide (a ≤ 1))) p + (if decide (a ≤ 1) = true then 1 else 0)))), (5, .int (nI (ct (soP V sd j (fun a => decide (a = 5))) p + (if decide (a = 5) = true then 1 else 0)))), (7, .int (nI p))] [.int (nI (if decide (a = 6) = true then 1 else 0)), .int (nI (ct (soP V sd j (fun a => decide (a = 6))) p))] (HP sk g n) Q := by
              first | refine N_iadd (pc2 := 129) dX8_setsOff_128 (by with_reducible rfl) (by with_reducible rfl) rfl ?_ | refine T_iadd (pc2 := 129) dX8_setsOff_128 rfl ?_
              refine T_istore (pc2 := 131) dX8_setsOff_129 (by decide) rfl ?_
              first | refine N_iinc (pc2 := 134) dX8_setsOff_131 rfl (by with_reducible rfl) ic1 (by decide) rfl ?_ | refine T_iinc (pc2 := 134) dX8_setsOff_131 rfl rfl (by decide) rfl ?_
              refine T_goto (tgt := 14) dX8_setsOff_134 (by decide) ?_
              refine T_sub (lks (i := 0) rfl (lks (i := 1) rfl (lks (i := 2) rfl (lks (i := 3) rfl (lks (i := 4) rfl (lks (i := 5) rfl (lks (i := 6) rfl (lks (i := 7) rfl lk0)))))))) ?_
              exact ih2
            have z5 : T MX8_setsOff (d + 1) kc ks 111 [(0, .ref 48), (1, .ref w), (2, .int (nI j)), (3, .int (nI (ct (soP V sd j (fun a => decide (a = 0))) p + (if decide (a = 0) = true then 1 else 0)))), (4, .int (nI (ct (soP V sd j (fun a => decide (a ≤ 1))) p + (if decide (a ≤ 1) = true then 1 else 0)))), (6, .int (nI (ct (soP V sd j (fun a => decide (a = 6))) p))), (7, .int (nI p)), (8, .int (nI a))] [.int (nI (if decide (a = 5) = true then 1 else 0)), .int (nI (ct (soP V sd j (fun a => decide (a = 5))) p))] (HP sk g n) Q := by
              first | refine N_iadd (pc2 := 112) dX8_setsOff_111 (by with_reducible rfl) (by with_reducible rfl) rfl ?_ | refine T_iadd (pc2 := 112) dX8_setsOff_111 rfl ?_
              refine T_istore (pc2 := 114) dX8_setsOff_112 (by decide) rfl ?_
              refine T_iload (pc2 := 116) dX8_setsOff_114 rfl rfl ?_
              refine T_iload (pc2 := 118) dX8_setsOff_116 rfl rfl ?_
              refine T_bipush (pc2 := 120) dX8_setsOff_118 bp6 rfl ?_
              first | refine N_icmpne (pc2 := 123) (tgt := 127) dX8_setsOff_120 (by decide) (by with_reducible rfl) (by with_reducible rfl) (by omega) (by omega) rfl (fun c120 => ?_) (fun c120 => ?_) | refine T_icmpne (pc2 := 123) (tgt := 127) dX8_setsOff_120 (by decide) rfl (fun c120 => ?_) (fun c120 => ?_)
              · refine T_iconst (pc2 := 128) dX8_setsOff_127 ic0 rfl ?_
                rw [show (if decide (a = 6) = true then 1 else 0) = (0 : Nat) by simp [c120]] at z6
                refine T_sub (lks (i := 0) rfl (lks (i := 1) rfl (lks (i := 2) rfl (lks (i := 3) rfl (lks (i := 4) rfl (lks (i := 5) rfl (lks (i := 7) rfl lk0))))))) ?_
                exact z6
              · refine T_iconst (pc2 := 124) dX8_setsOff_123 ic1 rfl ?_
                refine T_goto (tgt := 128) dX8_setsOff_124 (by decide) ?_
                rw [show (if decide (a = 6) = true then 1 else 0) = (1 : Nat) by simp [c120]] at z6
                refine T_sub (lks (i := 0) rfl (lks (i := 1) rfl (lks (i := 2) rfl (lks (i := 3) rfl (lks (i := 4) rfl (lks (i := 5) rfl (lks (i := 7) rfl lk0))))))) ?_
                exact z6
            have z4 : T MX8_setsOff (d + 1) kc ks 95 [(0, .ref 48), (1, .ref w), (2, .int (nI j)), (3, .int (nI (ct (soP V sd j (fun a => decide (a = 0))) p + (if decide (a = 0) = true then 1 else 0)))), (5, .int (nI (ct (soP V sd j (fun a => decide (a = 5))) p))), (6, .int (nI (ct (soP V sd j (fun a => decide (a = 6))) p))), (7, .int (nI p)), (8, .int (nI a))] [.int (nI (if decide (a ≤ 1) = true then 1 else 0)), .int (nI (ct (soP V sd j (fun a => decide (a ≤ 1))) p))] (HP sk g n) Q := by
              first | refine N_iadd (pc2 := 96) dX8_setsOff_95 (by with_reducible rfl) (by with_reducible rfl) rfl ?_ | refine T_iadd (pc2 := 96) dX8_setsOff_95 rfl ?_
              refine T_istore (pc2 := 98) dX8_setsOff_96 (by decide) rfl ?_
              refine T_iload (pc2 := 100) dX8_setsOff_98 rfl rfl ?_
              refine T_iload (pc2 := 102) dX8_setsOff_100 rfl rfl ?_
              refine T_iconst (pc2 := 103) dX8_setsOff_102 ic5 rfl ?_
              first | refine N_icmpne (pc2 := 106) (tgt := 110) dX8_setsOff_103 (by decide) (by with_reducible rfl) (by with_reducible rfl) (by omega) (by omega) rfl (fun c103 => ?_) (fun c103 => ?_) | refine T_icmpne (pc2 := 106) (tgt := 110) dX8_setsOff_103 (by decide) rfl (fun c103 => ?_) (fun c103 => ?_)
              · refine T_iconst (pc2 := 111) dX8_setsOff_110 ic0 rfl ?_
                rw [show (if decide (a = 5) = true then 1 else 0) = (0 : Nat) by simp [c103]] at z5
                refine T_sub (lks (i := 0) rfl (lks (i := 1) rfl (lks (i := 2) rfl (lks (i := 3) rfl (lks (i := 4) rfl (lks (i := 6) rfl (lks (i := 7) rfl (lks (i := 8) rfl lk0)))))))) ?_
                exact z5
              · refine T_iconst (pc2 := 107) dX8_setsOff_106 ic1 rfl ?_
                refine T_goto (tgt := 111) dX8_setsOff_107 (by decide) ?_
                rw [show (if decide (a = 5) = true then 1 else 0) = (1 : Nat) by simp [c103]] at z5
                refine T_sub (lks (i := 0) rfl (lks (i := 1) rfl (lks (i := 2) rfl (lks (i := 3) rfl (lks (i := 4) rfl (lks (i := 6) rfl (lks (i := 7) rfl (lks (i := 8) rfl lk0)))))))) ?_
                exact z5
            have z3 : T MX8_setsOff (d + 1) kc ks 80 [(0, .ref 48), (1, .ref w), (2, .int (nI j)), (4, .int (nI (ct (soP V sd j (fun a => decide (a ≤ 1))) p))), (5, .int (nI (ct (soP V sd j (fun a => decide (a = 5))) p))), (6, .int (nI (ct (soP V sd j (fun a => decide (a = 6))) p))), (7, .int (nI p)), (8, .int (nI a))] [.int (nI (if decide (a = 0) = true then 1 else 0)), .int (nI (ct (soP V sd j (fun a => decide (a = 0))) p))] (HP sk g n) Q := by
              first | refine N_iadd (pc2 := 81) dX8_setsOff_80 (by with_reducible rfl) (by with_reducible rfl) rfl ?_ | refine T_iadd (pc2 := 81) dX8_setsOff_80 rfl ?_
              refine T_istore_n (pc2 := 82) dX8_setsOff_81 (by decide) rfl ?_
              refine T_iload (pc2 := 84) dX8_setsOff_82 rfl rfl ?_
              refine T_iload (pc2 := 86) dX8_setsOff_84 rfl rfl ?_
              refine T_iconst (pc2 := 87) dX8_setsOff_86 ic1 rfl ?_
              first | refine N_icmpgt (pc2 := 90) (tgt := 94) dX8_setsOff_87 (by decide) (by with_reducible rfl) (by with_reducible rfl) (by omega) (by omega) rfl (fun c87 => ?_) (fun c87 => ?_) | refine T_icmpgt (pc2 := 90) (tgt := 94) dX8_setsOff_87 (by decide) rfl (fun c87 => ?_) (fun c87 => ?_)
              · refine T_iconst (pc2 := 95) dX8_setsOff_94 ic0 rfl ?_
                rw [show (if decide (a ≤ 1) = true then 1 else 0) = (0 : Nat) by simp [show ¬ a ≤ 1 by omega]] at z4
                refine T_sub (lks (i := 0) rfl (lks (i := 1) rfl (lks (i := 2) rfl (lks (i := 3) rfl (lks (i := 5) rfl (lks (i := 6) rfl (lks (i := 7) rfl (lks (i := 8) rfl lk0)))))))) ?_
                exact z4
              · refine T_iconst (pc2 := 91) dX8_setsOff_90 ic1 rfl ?_
                refine T_goto (tgt := 95) dX8_setsOff_91 (by decide) ?_
                rw [show (if decide (a ≤ 1) = true then 1 else 0) = (1 : Nat) by simp [show a ≤ 1 by omega]] at z4
                refine T_sub (lks (i := 0) rfl (lks (i := 1) rfl (lks (i := 2) rfl (lks (i := 3) rfl (lks (i := 5) rfl (lks (i := 6) rfl (lks (i := 7) rfl (lks (i := 8) rfl lk0)))))))) ?_
                exact z4
            refine T_istore (pc2 := 69) dX8_setsOff_67 (by decide) rfl ?_
            refine T_iload_n (pc2 := 70) dX8_setsOff_69 rfl rfl ?_
            refine T_iload (pc2 := 72) dX8_setsOff_70 rfl rfl ?_
            first | refine B_ifne1 (tgt := 79) dX8_setsOff_72 (by with_reducible rfl) (by decide) ?_ | refine B_ifne0 (pc2 := 75) (tgt := 79) dX8_setsOff_72 (by with_reducible rfl) (by decide) rfl ?_ | refine N_ifne (pc2 := 75) (tgt := 79) dX8_setsOff_72 (by with_reducible rfl) (by decide) (by omega) rfl (fun c72 => ?_) (fun c72 => ?_) | refine T_ifne (pc2 := 75) (tgt := 79) dX8_setsOff_72 (by decide) rfl (fun c72 => ?_) (fun c72 => ?_)
            · refine T_iconst (pc2 := 80) dX8_setsOff_79 ic0 rfl ?_
              rw [show (if decide (a = 0) = true then 1 else 0) = (0 : Nat) by simp [c72]] at z3
              refine T_sub (lks (i := 0) rfl (lks (i := 1) rfl (lks (i := 2) rfl (lks (i := 4) rfl (lks (i := 5) rfl (lks (i := 6) rfl (lks (i := 7) rfl (lks (i := 8) rfl lk0)))))))) ?_
              exact z3
            · refine T_iconst (pc2 := 76) dX8_setsOff_75 ic1 rfl ?_
              refine T_goto (tgt := 80) dX8_setsOff_76 (by decide) ?_
              rw [show (if decide (a = 0) = true then 1 else 0) = (1 : Nat) by simp [c72]] at z3
              refine T_sub (lks (i := 0) rfl (lks (i := 1) rfl (lks (i := 2) rfl (lks (i := 4) rfl (lks (i := 5) rfl (lks (i := 6) rfl (lks (i := 7) rfl (lks (i := 8) rfl lk0)))))))) ?_
              exact z3
theorem soC_le (V : Cel) (sd : Nat → Option Nat) (j : Nat) (q : Nat → Bool) : soC V sd j q ≤ V.J := ct_le _ _
theorem m_setsOff {sd : Nat → Option Nat} {j : Nat} (S : Sh sk n bf im above below) (hw : isA sk n w .int 43) (hV : hasM (g w) V) (hok : okD V) (hj : j < V.J) (hS : hasS g 57 sd) (hd : sdok sd)
    (kt : soB V sd j = true → Q (some (.int (nI 1))) (HP sk g n)) (kf : soB V sd j = false → Q (some (.int (nI 0))) (HP sk g n)) : Calls MX8_setsOff (d + 1) 0 0 [.ref 48, .ref w, .int (nI j)] (HP sk g n) Q := by
  have hJ8 := hok.1
  have oj := hok.2.2.2.1 j hj
  have ejk := (hV.2.2.2 j hj).1
  refine Calls.of (by decide +kernel) (Nat.le_of_ble_eq_true rfl) ?_
  refine T_iconst (pc2 := 1) dX8_setsOff_0 ic0 rfl ?_
  refine T_istore_n (pc2 := 2) dX8_setsOff_1 (by decide) rfl ?_
  refine T_iconst (pc2 := 3) dX8_setsOff_2 ic0 rfl ?_
  refine T_istore (pc2 := 5) dX8_setsOff_3 (by decide) rfl ?_
  refine T_iconst (pc2 := 6) dX8_setsOff_5 ic0 rfl ?_
  refine T_istore (pc2 := 8) dX8_setsOff_6 (by decide) rfl ?_
  refine T_iconst (pc2 := 9) dX8_setsOff_8 ic0 rfl ?_
  refine T_istore (pc2 := 11) dX8_setsOff_9 (by decide) rfl ?_
  refine T_iconst (pc2 := 12) dX8_setsOff_11 ic0 rfl ?_
  refine T_istore (pc2 := 14) dX8_setsOff_12 (by decide) rfl ?_
  refine T_sub (lks (i := 0) rfl (lks (i := 1) rfl (lks (i := 2) rfl (lks (i := 3) rfl (lks (i := 4) rfl (lks (i := 5) rfl (lks (i := 6) rfl (lks (i := 7) rfl lk0)))))))) ?_
  refine so_loop S hw hV hok hj hS hd ?_ V.J 0 (by omega)
  have l0 := soC_le V sd j (fun a => decide (a = 0))
  have l1 := soC_le V sd j (fun a => decide (a ≤ 1))
  have l5 := soC_le V sd j (fun a => decide (a = 5))
  have l6 := soC_le V sd j (fun a => decide (a = 6))
  unfold soB at kt kf
  refine T_aload_n (pc2 := 138) dX8_setsOff_137 rfl rfl ?_
  refine T_iload_n (pc2 := 139) dX8_setsOff_138 rfl rfl ?_
  refine T_iconst (pc2 := 140) dX8_setsOff_139 ic0 rfl ?_
  refine C_S3 (pc2 := 143) (mc := 0) (ms := 0) dX8_setsOff_140 csX8_of mlX8_154 (Nat.le_of_ble_eq_true rfl) rfl ?_
  refine m_of hw (by omega) ejk ?_
  rcases (by omega : V.kd j = 1 ∨ V.kd j = 2 ∨ V.kd j = 3 ∨ V.kd j = 4 ∨ V.kd j = 5) with e | e | e | e | e
  · rw [e] at kt kf ⊢
    rw [if_pos rfl] at kt kf
    refine T_tableIn (off := 29) (tgt := 172) dX8_setsOff_143 (by decide) (by decide) (by decide) (by decide) ?_
    refine T_iload_n (pc2 := 173) dX8_setsOff_172 rfl rfl ?_
    first | refine N_ifle (pc2 := 176) (tgt := 180) dX8_setsOff_173 (by with_reducible rfl) (by decide) (by omega) rfl (fun c173 => ?_) (fun c173 => ?_) | refine T_ifle (pc2 := 176) (tgt := 180) dX8_setsOff_173 (by decide) rfl (fun c173 => ?_) (fun c173 => ?_)
    · refine T_iconst (pc2 := 181) dX8_setsOff_180 ic0 rfl ?_
      refine T_iret dX8_setsOff_181 rfl (by first | rfl | decide) ?_
      exact kf (decide_eq_false (by omega))
    · refine T_iconst (pc2 := 177) dX8_setsOff_176 ic1 rfl ?_
      refine T_goto (tgt := 181) dX8_setsOff_177 (by decide) ?_
      refine T_iret dX8_setsOff_181 rfl (by first | rfl | decide) ?_
      exact kt (decide_eq_true (by omega))
  · rw [e] at kt kf ⊢
    rw [if_neg (by decide), if_pos rfl] at kt kf
    refine T_tableIn (off := 39) (tgt := 182) dX8_setsOff_143 (by decide) (by decide) (by decide) (by decide) ?_
    refine T_iload (pc2 := 184) dX8_setsOff_182 rfl rfl ?_
    first | refine N_ifle (pc2 := 187) (tgt := 191) dX8_setsOff_184 (by with_reducible rfl) (by decide) (by omega) rfl (fun c184 => ?_) (fun c184 => ?_) | refine T_ifle (pc2 := 187) (tgt := 191) dX8_setsOff_184 (by decide) rfl (fun c184 => ?_) (fun c184 => ?_)
    · refine T_iconst (pc2 := 192) dX8_setsOff_191 ic0 rfl ?_
      refine T_iret dX8_setsOff_192 rfl (by first | rfl | decide) ?_
      exact kf (decide_eq_false (by omega))
    · refine T_iconst (pc2 := 188) dX8_setsOff_187 ic1 rfl ?_
      refine T_goto (tgt := 192) dX8_setsOff_188 (by decide) ?_
      refine T_iret dX8_setsOff_192 rfl (by first | rfl | decide) ?_
      exact kt (decide_eq_true (by omega))
  · rw [e] at kt kf ⊢
    rw [if_neg (by decide), if_neg (by decide), if_pos rfl] at kt kf
    refine T_tableIn (off := 50) (tgt := 193) dX8_setsOff_143 (by decide) (by decide) (by decide) (by decide) ?_
    refine T_iload_n (pc2 := 194) dX8_setsOff_193 rfl rfl ?_
    refine T_iconst (pc2 := 195) dX8_setsOff_194 ic1 rfl ?_
    first | refine N_icmple (pc2 := 198) (tgt := 202) dX8_setsOff_195 (by decide) (by with_reducible rfl) (by with_reducible rfl) (by omega) (by omega) rfl (fun c195 => ?_) (fun c195 => ?_) | refine T_icmple (pc2 := 198) (tgt := 202) dX8_setsOff_195 (by decide) rfl (fun c195 => ?_) (fun c195 => ?_)
    · refine T_iconst (pc2 := 203) dX8_setsOff_202 ic0 rfl ?_
      refine T_iret dX8_setsOff_203 rfl (by first | rfl | decide) ?_
      exact kf (decide_eq_false (by omega))
    · refine T_iconst (pc2 := 199) dX8_setsOff_198 ic1 rfl ?_
      refine T_goto (tgt := 203) dX8_setsOff_199 (by decide) ?_
      refine T_iret dX8_setsOff_203 rfl (by first | rfl | decide) ?_
      exact kt (decide_eq_true (by omega))
  · rw [e] at kt kf ⊢
    rw [if_neg (by decide), if_neg (by decide), if_neg (by decide), if_pos rfl] at kt kf
    refine T_tableIn (off := 61) (tgt := 204) dX8_setsOff_143 (by decide) (by decide) (by decide) (by decide) ?_
    refine T_iload (pc2 := 206) dX8_setsOff_204 rfl rfl ?_
    first | refine N_ifle (pc2 := 209) (tgt := 213) dX8_setsOff_206 (by with_reducible rfl) (by decide) (by omega) rfl (fun c206 => ?_) (fun c206 => ?_) | refine T_ifle (pc2 := 209) (tgt := 213) dX8_setsOff_206 (by decide) rfl (fun c206 => ?_) (fun c206 => ?_)
    · refine T_iconst (pc2 := 214) dX8_setsOff_213 ic0 rfl ?_
      refine T_iret dX8_setsOff_214 rfl (by first | rfl | decide) ?_
      exact kf (decide_eq_false (by omega))
    · refine T_iconst (pc2 := 210) dX8_setsOff_209 ic1 rfl ?_
      refine T_goto (tgt := 214) dX8_setsOff_210 (by decide) ?_
      refine T_iret dX8_setsOff_214 rfl (by first | rfl | decide) ?_
      exact kt (decide_eq_true (by omega))
  · rw [e] at kt kf ⊢
    rw [if_neg (by decide), if_neg (by decide), if_neg (by decide), if_neg (by decide)] at kt kf
    refine T_tableOut (tgt := 215) dX8_setsOff_143 (Or.inr (by decide)) (by decide) ?_
    refine T_iload (pc2 := 217) dX8_setsOff_215 rfl rfl ?_
    first | refine N_ifgt (pc2 := 220) (tgt := 225) dX8_setsOff_217 (by with_reducible rfl) (by decide) (by omega) rfl (fun c217 => ?_) (fun c217 => ?_) | refine T_ifgt (pc2 := 220) (tgt := 225) dX8_setsOff_217 (by decide) rfl (fun c217 => ?_) (fun c217 => ?_)
    · refine T_iconst (pc2 := 226) dX8_setsOff_225 ic1 rfl ?_
      refine T_goto (tgt := 230) dX8_setsOff_226 (by decide) ?_
      refine T_iret dX8_setsOff_230 rfl (by first | rfl | decide) ?_
      exact kt (by rw [decide_eq_true c217]; rfl)
    · refine T_iload (pc2 := 222) dX8_setsOff_220 rfl rfl ?_
      first | refine N_ifle (pc2 := 225) (tgt := 229) dX8_setsOff_222 (by with_reducible rfl) (by decide) (by omega) rfl (fun c222 => ?_) (fun c222 => ?_) | refine T_ifle (pc2 := 225) (tgt := 229) dX8_setsOff_222 (by decide) rfl (fun c222 => ?_) (fun c222 => ?_)
      · refine T_iconst (pc2 := 230) dX8_setsOff_229 ic0 rfl ?_
        refine T_iret dX8_setsOff_230 rfl (by first | rfl | decide) ?_
        exact kf (by rw [decide_eq_false c217, decide_eq_false (by omega)]; rfl)
      · refine T_iconst (pc2 := 226) dX8_setsOff_225 ic1 rfl ?_
        refine T_goto (tgt := 230) dX8_setsOff_226 (by decide) ?_
        refine T_iret dX8_setsOff_230 rfl (by first | rfl | decide) ?_
        exact kt (by rw [decide_eq_false c217, decide_eq_true (by omega)]; rfl)
end MChain

