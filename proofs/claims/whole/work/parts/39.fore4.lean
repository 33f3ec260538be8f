/-- the least below k -/
def least (p : Nat → Bool) : Nat → Option Nat
  | 0 => none
  | k + 1 => match least p k with
    | some j => some j
    | none => if p k then some k else none
theorem least_some {p : Nat → Bool} : ∀ {k j : Nat}, least p k = some j → j < k ∧ p j = true
  | 0, j, h => by cases h
  | k + 1, j, h => by
    unfold least at h
    cases q : least p k with
    | some i =>
      rw [q] at h
      cases h
      have := least_some q
      exact ⟨by omega, this.2⟩
    | none =>
      rw [q] at h
      by_cases hp : p k
      · simp [hp] at h
        subst h
        exact ⟨by omega, hp⟩
      · simp [hp] at h
theorem least_up {p : Nat → Bool} {k j : Nat} (h : least p k = some j) : ∀ m, least p (k + m) = some j
  | 0 => h
  | m + 1 => by
    show (match least p (k + m) with | some j => some j | none => if p (k + m) then some (k + m) else none) = some j
    rw [least_up h m]
def sgP (V : Cel) (l : Nat → Bool) (note : Int32) : Nat → Bool := fun j => l j && decide (nI (V.nt j) = note)
def sgf (V : Cel) (it : Nat → Int32) (k : Nat) (s : (Nat → Bool) × (Nat → Bool) × Nat) : (Nat → Bool) × (Nat → Bool) × Nat := match least (sgP V s.1 (it k)) V.J with
  | none => (s.1, s.2.1, s.2.2 + 1)
  | some j => (cutJ s.1 j, addJ s.2.1 j, s.2.2)
def Cel.sg (V : Cel) (it : Nat → Int32) (m : Nat) : (Nat → Bool) × (Nat → Bool) × Nat := itr (sgf V it) (V.th 0, fun _ => false, 0) m
def fitsB (V : Cel) (w : Nat → Bool) (p : Nat) (it : Nat → Int32) : Nat → Bool
  | 0 => true
  | k + 1 => fitsB V w p it k && decide (nI (V.cB w k p) = it k)
theorem fits_down {V : Cel} {w : Nat → Bool} {p : Nat} {it : Nat → Int32} {k : Nat} (h : fitsB V w p it k = false) : ∀ m, fitsB V w p it (k + m) = false
  | 0 => h
  | m + 1 => by
    show (fitsB V w p it (k + m) && _) = false
    rw [fits_down h m]
    rfl
section Fore4
variable {sk : Nat → SK} {g : Nat → Nat → Int32} {n c : Nat} {V : Cel} {Q : Option Value → SH → Prop} {d kc ks : Nat} {h : SH} {bf im : Nat → Option Nat} {above below : Int64} {w : Nat → Bool}
def okAl (V : Cel) (g g2 : Nat → Nat → Int32) (s : Nat × Option Nat) : Prop := s.1 < 1000 ∧ g2 34 3 = nI s.1 ∧ g2 34 2 = oN s.2 ∧ tunedE g2 V ∧ Fr 34 45 g g2
theorem alike_in (S : Sh sk n bf im above below) (hc : isC sk n c) (hd : c + 6 ≤ 34 ∨ 45 ≤ c) (hV : hasC g c V) (hok : okC V) {a : Nat} (ha : a < V.J) (s0 : Nat × Option Nat) (hs0 : s0.1 < 100)
    (kk : ∀ g2, okAl V g g2 (alRow V w a s0 (V.J - (a + 1))) → T MX4_findAlike (d + 2) kc ks 120 [(0, .ref 34), (1, .ref c), (2, .int (nI (bm w 8))), (3, .int (nI a))] [] (HP sk g2 n) Q) :
    ∀ m t g2, t + m = V.J - (a + 1) → (alRow V w a s0 t).1 ≤ s0.1 + t → okAl V g g2 (alRow V w a s0 t) → T MX4_findAlike (d + 2) kc ks 40 [(0, .ref 34), (1, .ref c), (2, .int (nI (bm w 8))), (3, .int (nI a)), (4, .int (nI (a + 1 + t)))] [] (HP sk g2 n) Q := by
  have hJ8 := hok.1
  intro m
  induction m with
  | zero =>
    intro t g2 ht hb ho
    have e0 := (hV.fr ho.2.2.2.2 hd).1
    have hx : t = V.J - (a + 1) := by omega
    subst hx
    refine T_iload (pc2 := 42) dX4_findAlike_40 rfl rfl ?_
    refine T_aload_n (pc2 := 43) dX4_findAlike_42 rfl rfl ?_
    refine G_getI (pc2 := 46) dX4_findAlike_43 flX4_63 hc.1 rfl (by first | with_reducible assumption | exact gs_eq _ _ _ _ | exact (gs_ne _ _ (by omega)).trans (by with_reducible assumption) | exact (gs_ne _ _ (by omega)).trans (gs_eq _ _ _ _) | exact (gs_ne _ _ (by omega)).trans ((gs_ne _ _ (by omega)).trans (by with_reducible assumption)) | exact (gs_ne _ _ (by omega)).trans ((gs_ne _ _ (by omega)).trans (gs_eq _ _ _ _)) | exact (gs_ne _ _ (by omega)).trans ((gs_ne _ _ (by omega)).trans ((gs_ne _ _ (by omega)).trans (by with_reducible assumption))) | rfl) rfl ?_
    first | refine N_icmpge (pc2 := 49) (tgt := 120) dX4_findAlike_46 (by decide) (by with_reducible rfl) (by with_reducible rfl) (by omega) (by omega) rfl (fun c46 => ?_) (fun c46 => ?_) | refine T_icmpge (pc2 := 49) (tgt := 120) dX4_findAlike_46 (by decide) rfl (fun c46 => ?_) (fun c46 => ?_)
    · refine T_sub (lks (i := 0) rfl (lks (i := 1) rfl (lks (i := 2) rfl (lks (i := 3) rfl lk0)))) ?_
      exact kk g2 ho
    · exact absurd (by omega) c46
  | succ m ih =>
    intro t g2 ht hb ho
    have e0 := (hV.fr ho.2.2.2.2 hd).1
    obtain ⟨h8, e3, e2, hE, hf⟩ := id ho
    have hbl : a + 1 + t < V.J := by omega
    have hstep : alRow V w a s0 (t + 1) = alf V w a (a + 1 + t) (alRow V w a s0 t) := rfl
    have hno : V.alk w a (a + 1 + t) = false → T MX4_findAlike (d + 2) kc ks 114 [(0, .ref 34), (1, .ref c), (2, .int (nI (bm w 8))), (3, .int (nI a)), (4, .int (nI (a + 1 + t)))] [] (HP sk g2 n) Q := by
      intro hq
      first | refine N_iinc (pc2 := 117) dX4_findAlike_114 rfl (by with_reducible rfl) ic1 (by decide) rfl ?_ | refine T_iinc (pc2 := 117) dX4_findAlike_114 rfl rfl (by decide) rfl ?_
      refine T_goto (tgt := 40) dX4_findAlike_117 (by decide) ?_
      refine T_sub (lks (i := 0) rfl (lks (i := 1) rfl (lks (i := 2) rfl (lks (i := 3) rfl (lks (i := 4) rfl lk0))))) ?_
      have hx : alRow V w a s0 (t + 1) = alRow V w a s0 t := by
        rw [hstep]
        exact if_neg (by rw [hq]; decide)
      exact ih (t + 1) g2 (by omega) (by rw [hx]; omega) (by rw [hx]; exact ho)
    refine T_iload (pc2 := 42) dX4_findAlike_40 rfl rfl ?_
    refine T_aload_n (pc2 := 43) dX4_findAlike_42 rfl rfl ?_
    refine G_getI (pc2 := 46) dX4_findAlike_43 flX4_63 hc.1 rfl (by first | with_reducible assumption | exact gs_eq _ _ _ _ | exact (gs_ne _ _ (by omega)).trans (by with_reducible assumption) | exact (gs_ne _ _ (by omega)).trans (gs_eq _ _ _ _) | exact (gs_ne _ _ (by omega)).trans ((gs_ne _ _ (by omega)).trans (by with_reducible assumption)) | exact (gs_ne _ _ (by omega)).trans ((gs_ne _ _ (by omega)).trans (gs_eq _ _ _ _)) | exact (gs_ne _ _ (by omega)).trans ((gs_ne _ _ (by omega)).trans ((gs_ne _ _ (by omega)).trans (by with_reducible assumption))) | rfl) rfl ?_
    first | refine N_icmpge (pc2 := 49) (tgt := 120) dX4_findAlike_46 (by decide) (by with_reducible rfl) (by with_reducible rfl) (by omega) (by omega) rfl (fun c46 => ?_) (fun c46 => ?_) | refine T_icmpge (pc2 := 49) (tgt := 120) dX4_findAlike_46 (by decide) rfl (fun c46 => ?_) (fun c46 => ?_)
    · exact absurd c46 (by omega)
    · refine T_iload_n (pc2 := 50) dX4_findAlike_49 rfl rfl ?_
      refine T_iload_n (pc2 := 51) dX4_findAlike_50 rfl rfl ?_
      refine C_SN2 (pc2 := 54) (mc := 0) (ms := 0) dX4_findAlike_51 csX7_has mnX4_75 (Nat.le_of_ble_eq_true rfl) rfl ?_
      refine c_has (by decide) (by omega) (fun h1 => ?_) (fun h1 => ?_)
      · first | refine B_ifeq1 (pc2 := 57) (tgt := 114) dX4_findAlike_54 (by with_reducible rfl) (by decide) rfl ?_ | refine B_ifeq0 (tgt := 114) dX4_findAlike_54 (by with_reducible rfl) (by decide) ?_ | refine N_ifeq (pc2 := 57) (tgt := 114) dX4_findAlike_54 (by with_reducible rfl) (by decide) (by omega) rfl (fun c54 => ?_) (fun c54 => ?_) | refine T_ifeq (pc2 := 57) (tgt := 114) dX4_findAlike_54 (by decide) rfl (fun c54 => ?_) (fun c54 => ?_)
        refine T_iload_n (pc2 := 58) dX4_findAlike_57 rfl rfl ?_
        refine T_iload (pc2 := 60) dX4_findAlike_58 rfl rfl ?_
        refine C_SN2 (pc2 := 63) (mc := 0) (ms := 0) dX4_findAlike_60 csX7_has mnX4_75 (Nat.le_of_ble_eq_true rfl) rfl ?_
        refine c_has (by decide) (by omega) (fun h2 => ?_) (fun h2 => ?_)
        · first | refine B_ifeq1 (pc2 := 66) (tgt := 114) dX4_findAlike_63 (by with_reducible rfl) (by decide) rfl ?_ | refine B_ifeq0 (tgt := 114) dX4_findAlike_63 (by with_reducible rfl) (by decide) ?_ | refine N_ifeq (pc2 := 66) (tgt := 114) dX4_findAlike_63 (by with_reducible rfl) (by decide) (by omega) rfl (fun c63 => ?_) (fun c63 => ?_) | refine T_ifeq (pc2 := 66) (tgt := 114) dX4_findAlike_63 (by decide) rfl (fun c63 => ?_) (fun c63 => ?_)
          refine T_aload_n (pc2 := 67) dX4_findAlike_66 rfl rfl ?_
          refine G_getR (pc2 := 70) dX4_findAlike_67 flX4_12 (sh34 S) rfl rfl ?_
          refine T_iload_n (pc2 := 71) dX4_findAlike_70 rfl rfl ?_
          refine T_iload (pc2 := 73) dX4_findAlike_71 rfl rfl ?_
          refine C_V2 (pc2 := 76) (mc := 0) (ms := 0) dX4_findAlike_73 cvX3_eachStrikesOther mlX4_79 (isO.h (sh35 S) _) (Nat.le_of_ble_eq_true rfl) rfl ?_
          refine c_each S hE hok.1 ha hbl (fun h3 h4 => ?_) (fun h3 => ?_)
          · first | refine B_ifeq1 (pc2 := 79) (tgt := 114) dX4_findAlike_76 (by with_reducible rfl) (by decide) rfl ?_ | refine B_ifeq0 (tgt := 114) dX4_findAlike_76 (by with_reducible rfl) (by decide) ?_ | refine N_ifeq (pc2 := 79) (tgt := 114) dX4_findAlike_76 (by with_reducible rfl) (by decide) (by omega) rfl (fun c76 => ?_) (fun c76 => ?_) | refine T_ifeq (pc2 := 79) (tgt := 114) dX4_findAlike_76 (by decide) rfl (fun c76 => ?_) (fun c76 => ?_)
            have hq : V.alk w a (a + 1 + t) = true := by
              unfold Cel.alk
              rw [h1, h2, h3, h4]
              rfl
            have hx : alRow V w a s0 (t + 1) = ((alRow V w a s0 t).1 + 1, if (alRow V w a s0 t).1 = 0 then some (10 * a + (a + 1 + t)) else (alRow V w a s0 t).2) := by
              rw [hstep]
              exact if_pos hq
            have hend : ∀ v, v = oN (if (alRow V w a s0 t).1 = 0 then some (10 * a + (a + 1 + t)) else (alRow V w a s0 t).2) → T MX4_findAlike (d + 2) kc ks 101 [(0, .ref 34), (1, .ref c), (2, .int (nI (bm w 8))), (3, .int (nI a)), (4, .int (nI (a + 1 + t)))] [.int v, .ref 34] (HP sk g2 n) Q := by
              intro v hv
              refine G_putI (pc2 := 104) dX4_findAlike_101 flX4_48 (sh34 S) rfl rfl rfl rfl ?_
              refine T_aload_n (pc2 := 105) dX4_findAlike_104 rfl rfl ?_
              refine T_dup (pc2 := 106) dX4_findAlike_105 rfl rfl ?_
              refine G_getI (pc2 := 109) dX4_findAlike_106 flX4_41 (sh34 S) rfl (by first | with_reducible assumption | exact gs_eq _ _ _ _ | exact (gs_ne _ _ (by omega)).trans (by with_reducible assumption) | exact (gs_ne _ _ (by omega)).trans (gs_eq _ _ _ _) | exact (gs_ne _ _ (by omega)).trans ((gs_ne _ _ (by omega)).trans (by with_reducible assumption)) | exact (gs_ne _ _ (by omega)).trans ((gs_ne _ _ (by omega)).trans (gs_eq _ _ _ _)) | exact (gs_ne _ _ (by omega)).trans ((gs_ne _ _ (by omega)).trans ((gs_ne _ _ (by omega)).trans (by with_reducible assumption))) | rfl) rfl ?_
              refine T_iconst (pc2 := 110) dX4_findAlike_109 ic1 rfl ?_
              first | refine N_iadd (pc2 := 111) dX4_findAlike_110 (by with_reducible rfl) (by with_reducible rfl) rfl ?_ | refine T_iadd (pc2 := 111) dX4_findAlike_110 rfl ?_
              refine G_putI (pc2 := 114) dX4_findAlike_111 flX4_41 (sh34 S) rfl rfl rfl rfl ?_
              first | refine N_iinc (pc2 := 117) dX4_findAlike_114 rfl (by with_reducible rfl) ic1 (by decide) rfl ?_ | refine T_iinc (pc2 := 117) dX4_findAlike_114 rfl rfl (by decide) rfl ?_
              refine T_goto (tgt := 40) dX4_findAlike_117 (by decide) ?_
              refine T_sub (lks (i := 0) rfl (lks (i := 1) rfl (lks (i := 2) rfl (lks (i := 3) rfl (lks (i := 4) rfl lk0))))) ?_
              refine ih (t + 1) _ (by omega) (by rw [hx]; show _ + 1 ≤ _; omega) ?_
              rw [hx]
              refine ⟨by show _ + 1 < 1000; omega, gs_eq _ _ _ _, ?_, hE.fr (lo := 34) (hi := 35) ((Fr.rf.st (by omega) (by omega)).st (by omega) (by omega)) (by omega), (hf.st (by omega) (by omega)).st (by omega) (by omega)⟩
              rw [gs_ne _ _ (by omega), gs_eq, hv]
            refine T_aload_n (pc2 := 80) dX4_findAlike_79 rfl rfl ?_
            refine T_aload_n (pc2 := 81) dX4_findAlike_80 rfl rfl ?_
            refine G_getI (pc2 := 84) dX4_findAlike_81 flX4_41 (sh34 S) rfl (by first | with_reducible assumption | exact gs_eq _ _ _ _ | exact (gs_ne _ _ (by omega)).trans (by with_reducible assumption) | exact (gs_ne _ _ (by omega)).trans (gs_eq _ _ _ _) | exact (gs_ne _ _ (by omega)).trans ((gs_ne _ _ (by omega)).trans (by with_reducible assumption)) | exact (gs_ne _ _ (by omega)).trans ((gs_ne _ _ (by omega)).trans (gs_eq _ _ _ _)) | exact (gs_ne _ _ (by omega)).trans ((gs_ne _ _ (by omega)).trans ((gs_ne _ _ (by omega)).trans (by with_reducible assumption))) | rfl) rfl ?_
            first | refine B_ifne1 (tgt := 97) dX4_findAlike_84 (by with_reducible rfl) (by decide) ?_ | refine B_ifne0 (pc2 := 87) (tgt := 97) dX4_findAlike_84 (by with_reducible rfl) (by decide) rfl ?_ | refine N_ifne (pc2 := 87) (tgt := 97) dX4_findAlike_84 (by with_reducible rfl) (by decide) (by omega) rfl (fun c84 => ?_) (fun c84 => ?_) | refine T_ifne (pc2 := 87) (tgt := 97) dX4_findAlike_84 (by decide) rfl (fun c84 => ?_) (fun c84 => ?_)
            · refine T_aload_n (pc2 := 98) dX4_findAlike_97 rfl rfl ?_
              refine G_getI (pc2 := 101) dX4_findAlike_98 flX4_48 (sh34 S) rfl (by first | with_reducible assumption | exact gs_eq _ _ _ _ | exact (gs_ne _ _ (by omega)).trans (by with_reducible assumption) | exact (gs_ne _ _ (by omega)).trans (gs_eq _ _ _ _) | exact (gs_ne _ _ (by omega)).trans ((gs_ne _ _ (by omega)).trans (by with_reducible assumption)) | exact (gs_ne _ _ (by omega)).trans ((gs_ne _ _ (by omega)).trans (gs_eq _ _ _ _)) | exact (gs_ne _ _ (by omega)).trans ((gs_ne _ _ (by omega)).trans ((gs_ne _ _ (by omega)).trans (by with_reducible assumption))) | rfl) rfl ?_
              exact hend _ (by rw [if_neg c84])
            · refine T_bipush (pc2 := 89) dX4_findAlike_87 bp10 rfl ?_
              refine T_iload_n (pc2 := 90) dX4_findAlike_89 rfl rfl ?_
              first | refine N_imul (pc2 := 91) dX4_findAlike_90 (by with_reducible rfl) (by with_reducible rfl) rfl ?_ | refine T_imul (pc2 := 91) dX4_findAlike_90 rfl ?_
              refine T_iload (pc2 := 93) dX4_findAlike_91 rfl rfl ?_
              first | refine N_iadd (pc2 := 94) dX4_findAlike_93 (by with_reducible rfl) (by with_reducible rfl) rfl ?_ | refine T_iadd (pc2 := 94) dX4_findAlike_93 rfl ?_
              refine T_goto (tgt := 101) dX4_findAlike_94 (by decide) ?_
              exact hend _ (by rw [if_pos c84]; rfl)
          · first | refine B_ifeq1 (pc2 := 79) (tgt := 114) dX4_findAlike_76 (by with_reducible rfl) (by decide) rfl ?_ | refine B_ifeq0 (tgt := 114) dX4_findAlike_76 (by with_reducible rfl) (by decide) ?_ | refine N_ifeq (pc2 := 79) (tgt := 114) dX4_findAlike_76 (by with_reducible rfl) (by decide) (by omega) rfl (fun c76 => ?_) (fun c76 => ?_) | refine T_ifeq (pc2 := 79) (tgt := 114) dX4_findAlike_76 (by decide) rfl (fun c76 => ?_) (fun c76 => ?_)
            refine hno ?_
            unfold Cel.alk
            rw [h1, h2]
            simp only [Bool.true_and]
            exact Bool.eq_false_iff.mpr (fun z => h3 (by simpa using z))
        · first | refine B_ifeq1 (pc2 := 66) (tgt := 114) dX4_findAlike_63 (by with_reducible rfl) (by decide) rfl ?_ | refine B_ifeq0 (tgt := 114) dX4_findAlike_63 (by with_reducible rfl) (by decide) ?_ | refine N_ifeq (pc2 := 66) (tgt := 114) dX4_findAlike_63 (by with_reducible rfl) (by decide) (by omega) rfl (fun c63 => ?_) (fun c63 => ?_) | refine T_ifeq (pc2 := 66) (tgt := 114) dX4_findAlike_63 (by decide) rfl (fun c63 => ?_) (fun c63 => ?_)
          exact hno (by simp [Cel.alk, h2])
      · first | refine B_ifeq1 (pc2 := 57) (tgt := 114) dX4_findAlike_54 (by with_reducible rfl) (by decide) rfl ?_ | refine B_ifeq0 (tgt := 114) dX4_findAlike_54 (by with_reducible rfl) (by decide) ?_ | refine N_ifeq (pc2 := 57) (tgt := 114) dX4_findAlike_54 (by with_reducible rfl) (by decide) (by omega) rfl (fun c54 => ?_) (fun c54 => ?_) | refine T_ifeq (pc2 := 57) (tgt := 114) dX4_findAlike_54 (by decide) rfl (fun c54 => ?_) (fun c54 => ?_)
        exact hno (by simp [Cel.alk, h1])
theorem alike_out (S : Sh sk n bf im above below) (hc : isC sk n c) (hd : c + 6 ≤ 34 ∨ 45 ≤ c) (hV : hasC g c V) (hok : okC V)
    (k : ∀ g2, okAl V g g2 (itr (fun a s => alRow V w a s (V.J - (a + 1))) (0, none) V.J) → Q none (HP sk g2 n)) :
    ∀ m a g2, a + m = V.J → (itr (fun a s => alRow V w a s (V.J - (a + 1))) (0, none) a).1 ≤ 8 * a → okAl V g g2 (itr (fun a s => alRow V w a s (V.J - (a + 1))) (0, none) a) → T MX4_findAlike (d + 2) kc ks 27 [(0, .ref 34), (1, .ref c), (2, .int (nI (bm w 8))), (3, .int (nI a))] [] (HP sk g2 n) Q := by
  have hJ8 := hok.1
  have hle : ∀ a s t, (alRow V w a s t).1 ≤ s.1 + t := by
    intro a s t
    induction t with
    | zero => exact Nat.le_refl _
    | succ t ih =>
      show (alf V w a (a + 1 + t) (alRow V w a s t)).1 ≤ _
      unfold alf
      split
      · show (alRow V w a s t).1 + 1 ≤ _
        omega
      · omega
  intro m
  induction m with
  | zero =>
    intro a g2 ha hb ho
    have e0 := (hV.fr ho.2.2.2.2 hd).1
    refine T_iload_n (pc2 := 28) dX4_findAlike_27 rfl rfl ?_
    refine T_aload_n (pc2 := 29) dX4_findAlike_28 rfl rfl ?_
    refine G_getI (pc2 := 32) dX4_findAlike_29 flX4_63 hc.1 rfl (by first | with_reducible assumption | exact gs_eq _ _ _ _ | exact (gs_ne _ _ (by omega)).trans (by with_reducible assumption) | exact (gs_ne _ _ (by omega)).trans (gs_eq _ _ _ _) | exact (gs_ne _ _ (by omega)).trans ((gs_ne _ _ (by omega)).trans (by with_reducible assumption)) | exact (gs_ne _ _ (by omega)).trans ((gs_ne _ _ (by omega)).trans (gs_eq _ _ _ _)) | exact (gs_ne _ _ (by omega)).trans ((gs_ne _ _ (by omega)).trans ((gs_ne _ _ (by omega)).trans (by with_reducible assumption))) | rfl) rfl ?_
    first | refine N_icmpge (pc2 := 35) (tgt := 126) dX4_findAlike_32 (by decide) (by with_reducible rfl) (by with_reducible rfl) (by omega) (by omega) rfl (fun c32 => ?_) (fun c32 => ?_) | refine T_icmpge (pc2 := 35) (tgt := 126) dX4_findAlike_32 (by decide) rfl (fun c32 => ?_) (fun c32 => ?_)
    · refine T_ret dX4_findAlike_126 rfl ?_
      have : a = V.J := by omega
      subst this
      exact k g2 ho
    · exact absurd (by omega) c32
  | succ m ih =>
    intro a g2 ha hb ho
    have e0 := (hV.fr ho.2.2.2.2 hd).1
    refine T_iload_n (pc2 := 28) dX4_findAlike_27 rfl rfl ?_
    refine T_aload_n (pc2 := 29) dX4_findAlike_28 rfl rfl ?_
    refine G_getI (pc2 := 32) dX4_findAlike_29 flX4_63 hc.1 rfl (by first | with_reducible assumption | exact gs_eq _ _ _ _ | exact (gs_ne _ _ (by omega)).trans (by with_reducible assumption) | exact (gs_ne _ _ (by omega)).trans (gs_eq _ _ _ _) | exact (gs_ne _ _ (by omega)).trans ((gs_ne _ _ (by omega)).trans (by with_reducible assumption)) | exact (gs_ne _ _ (by omega)).trans ((gs_ne _ _ (by omega)).trans (gs_eq _ _ _ _)) | exact (gs_ne _ _ (by omega)).trans ((gs_ne _ _ (by omega)).trans ((gs_ne _ _ (by omega)).trans (by with_reducible assumption))) | rfl) rfl ?_
    first | refine N_icmpge (pc2 := 35) (tgt := 126) dX4_findAlike_32 (by decide) (by with_reducible rfl) (by with_reducible rfl) (by omega) (by omega) rfl (fun c32 => ?_) (fun c32 => ?_) | refine T_icmpge (pc2 := 35) (tgt := 126) dX4_findAlike_32 (by decide) rfl (fun c32 => ?_) (fun c32 => ?_)
    · exact absurd c32 (by omega)
    · refine T_iload_n (pc2 := 36) dX4_findAlike_35 rfl rfl ?_
      refine T_iconst (pc2 := 37) dX4_findAlike_36 ic1 rfl ?_
      first | refine N_iadd (pc2 := 38) dX4_findAlike_37 (by with_reducible rfl) (by with_reducible rfl) rfl ?_ | refine T_iadd (pc2 := 38) dX4_findAlike_37 rfl ?_
      refine T_istore (pc2 := 40) dX4_findAlike_38 (by decide) rfl ?_
      refine T_sub (lks (i := 0) rfl (lks (i := 1) rfl (lks (i := 2) rfl (lks (i := 3) rfl (lks (i := 4) rfl lk0))))) ?_
      refine alike_in (g := g) (w := w) S hc hd hV hok (a := a) (by omega) (itr (fun a s => alRow V w a s (V.J - (a + 1))) (0, none) a) (by omega) (fun g3 h3 => ?_) (V.J - (a + 1)) 0 g2 (by omega) (Nat.le_refl _) ho
      first | refine N_iinc (pc2 := 123) dX4_findAlike_120 rfl (by with_reducible rfl) ic1 (by decide) rfl ?_ | refine T_iinc (pc2 := 123) dX4_findAlike_120 rfl rfl (by decide) rfl ?_
      refine T_goto (tgt := 27) dX4_findAlike_123 (by decide) ?_
      refine T_sub (lks (i := 0) rfl (lks (i := 1) rfl (lks (i := 2) rfl (lks (i := 3) rfl lk0)))) ?_
      refine ih (a + 1) g3 (by omega) ?_ h3
      show (alRow V w a _ (V.J - (a + 1))).1 ≤ _
      have := hle a (itr (fun a s => alRow V w a s (V.J - (a + 1))) (0, none) a) (V.J - (a + 1))
      omega
theorem c_findAlike (S : Sh sk n bf im above below) (hc : isC sk n c) (hd : c + 6 ≤ 34 ∨ 45 ≤ c) (hV : hasC g c V) (hok : okC V) (k : ∀ g2, g2 34 3 = nI V.al.1 → g2 34 2 = oN V.al.2 → Fr 34 45 g g2 → Q none (HP sk g2 n)) : Calls MX4_findAlike (d + 3) 0 0 [.ref 34, .ref c] (HP sk g n) Q := by
  refine Calls.of (by decide +kernel) (Nat.le_of_ble_eq_true rfl) ?_
  refine T_aload_n (pc2 := 1) dX4_findAlike_0 rfl rfl ?_
  refine G_getR (pc2 := 4) dX4_findAlike_1 flX4_12 (sh34 S) rfl rfl ?_
  refine T_aload_n (pc2 := 5) dX4_findAlike_4 rfl rfl ?_
  refine C_V1 (pc2 := 8) (mc := 0) (ms := 0) dX4_findAlike_5 cvX3_tune mlX4_25 (isO.h (sh35 S) _) (Nat.le_of_ble_eq_true rfl) rfl ?_
  refine c_tune S hc (by omega) hV hok (fun g2 hE hf => ?_)
  refine T_aload_n (pc2 := 9) dX4_findAlike_8 rfl rfl ?_
  refine T_iconst (pc2 := 10) dX4_findAlike_9 ic0 rfl ?_
  refine C_V1 (pc2 := 13) (mc := 0) (ms := 0) dX4_findAlike_10 cvX2_those mlX4_29 (isO.h hc.1 _) (Nat.le_of_ble_eq_true rfl) rfl ?_
  have hV2 := hV.fr hf (by omega)
  refine c_those hc hV2 hok.1 (by decide) (hw31 hok) ?_
  refine T_istore_n (pc2 := 14) dX4_findAlike_13 (by decide) rfl ?_
  refine T_aload_n (pc2 := 15) dX4_findAlike_14 rfl rfl ?_
  refine T_iconst (pc2 := 16) dX4_findAlike_15 ic0 rfl ?_
  refine G_putI (pc2 := 19) dX4_findAlike_16 flX4_41 (sh34 S) rfl rfl rfl rfl ?_
  refine T_aload_n (pc2 := 20) dX4_findAlike_19 rfl rfl ?_
  refine T_ldc (pc2 := 22) dX4_findAlike_20 kcX4_59 rfl ?_
  refine G_putI (pc2 := 25) dX4_findAlike_22 flX4_48 (sh34 S) rfl rfl rfl rfl ?_
  refine T_iconst (pc2 := 26) dX4_findAlike_25 ic0 rfl ?_
  refine T_istore_n (pc2 := 27) dX4_findAlike_26 (by decide) rfl ?_
  refine T_sub (lks (i := 0) rfl (lks (i := 1) rfl (lks (i := 2) rfl (lks (i := 3) rfl lk0)))) ?_
  refine alike_out (g := g) (w := V.th 0) S hc hd hV hok (fun g3 h3 => k g3 h3.2.1 h3.2.2.1 h3.2.2.2.2) V.J 0 _ (by omega) (Nat.le_refl _) ⟨by show 0 < 1000; decide, ?_, gs_eq _ _ _ _, hE.fr (lo := 34) (hi := 35) ((Fr.rf.st (by omega) (by omega)).st (by omega) (by omega)) (by omega), ((hf.wd (by omega) (by omega)).st (by omega) (by omega)).st (by omega) (by omega)⟩
  rw [gs_ne _ _ (by omega), gs_eq]
  rfl
theorem least_loop {note : Int32} {l : Nat → Bool} (hc : isC sk n c) (hV : hasC g c V) (hJ : V.J ≤ 8) (kt : ∀ j, least (sgP V l note) V.J = some j → j < V.J → Q (some (.int (nI j))) (HP sk g n)) (kf : least (sgP V l note) V.J = none → Q (some (.int (-1))) (HP sk g n)) :
    ∀ m j, j + m = V.J → least (sgP V l note) j = none → T MX4_leastOf (d + 1) kc ks 2 [(0, .ref c), (1, .int (nI (bm l 8))), (2, .int note), (3, .int (nI j))] [] (HP sk g n) Q := by
  have e0 := hV.1
  intro m
  induction m with
  | zero =>
    intro j hj hl
    refine T_iload_n (pc2 := 3) dX4_leastOf_2 rfl rfl ?_
    refine T_aload_n (pc2 := 4) dX4_leastOf_3 rfl rfl ?_
    refine G_getI (pc2 := 7) dX4_leastOf_4 flX4_63 hc.1 rfl (by first | with_reducible assumption | exact gs_eq _ _ _ _ | exact (gs_ne _ _ (by omega)).trans (by with_reducible assumption) | exact (gs_ne _ _ (by omega)).trans (gs_eq _ _ _ _) | exact (gs_ne _ _ (by omega)).trans ((gs_ne _ _ (by omega)).trans (by with_reducible assumption)) | exact (gs_ne _ _ (by omega)).trans ((gs_ne _ _ (by omega)).trans (gs_eq _ _ _ _)) | exact (gs_ne _ _ (by omega)).trans ((gs_ne _ _ (by omega)).trans ((gs_ne _ _ (by omega)).trans (by with_reducible assumption))) | rfl) rfl ?_
    first | refine N_icmpge (pc2 := 10) (tgt := 36) dX4_leastOf_7 (by decide) (by with_reducible rfl) (by with_reducible rfl) (by omega) (by omega) rfl (fun c7 => ?_) (fun c7 => ?_) | refine T_icmpge (pc2 := 10) (tgt := 36) dX4_leastOf_7 (by decide) rfl (fun c7 => ?_) (fun c7 => ?_)
    · refine T_iconst (pc2 := 37) dX4_leastOf_36 icm1 rfl ?_
      refine T_iret dX4_leastOf_37 rfl rfl ?_
      exact kf (by rw [← show j = V.J by omega]; exact hl)
    · exact absurd (by omega) c7
  | succ m ih =>
    intro j hj hl
    have hjl : j < V.J := by omega
    have e2 := (hV.2.2.2 j hjl).2.1
    have hno : sgP V l note j = false → T MX4_leastOf (d + 1) kc ks 30 [(0, .ref c), (1, .int (nI (bm l 8))), (2, .int note), (3, .int (nI j))] [] (HP sk g n) Q := by
      intro hq
      first | refine N_iinc (pc2 := 33) dX4_leastOf_30 rfl (by with_reducible rfl) ic1 (by decide) rfl ?_ | refine T_iinc (pc2 := 33) dX4_leastOf_30 rfl rfl (by decide) rfl ?_
      refine T_goto (tgt := 2) dX4_leastOf_33 (by decide) ?_
      refine T_sub (lks (i := 0) rfl (lks (i := 1) rfl (lks (i := 2) rfl (lks (i := 3) rfl lk0)))) ?_
      refine ih (j + 1) (by omega) ?_
      show (match least (sgP V l note) j with | some j => some j | none => if sgP V l note j then some j else none) = none
      rw [hl, hq]
      rfl
    refine T_iload_n (pc2 := 3) dX4_leastOf_2 rfl rfl ?_
    refine T_aload_n (pc2 := 4) dX4_leastOf_3 rfl rfl ?_
    refine G_getI (pc2 := 7) dX4_leastOf_4 flX4_63 hc.1 rfl (by first | with_reducible assumption | exact gs_eq _ _ _ _ | exact (gs_ne _ _ (by omega)).trans (by with_reducible assumption) | exact (gs_ne _ _ (by omega)).trans (gs_eq _ _ _ _) | exact (gs_ne _ _ (by omega)).trans ((gs_ne _ _ (by omega)).trans (by with_reducible assumption)) | exact (gs_ne _ _ (by omega)).trans ((gs_ne _ _ (by omega)).trans (gs_eq _ _ _ _)) | exact (gs_ne _ _ (by omega)).trans ((gs_ne _ _ (by omega)).trans ((gs_ne _ _ (by omega)).trans (by with_reducible assumption))) | rfl) rfl ?_
    first | refine N_icmpge (pc2 := 10) (tgt := 36) dX4_leastOf_7 (by decide) (by with_reducible rfl) (by with_reducible rfl) (by omega) (by omega) rfl (fun c7 => ?_) (fun c7 => ?_) | refine T_icmpge (pc2 := 10) (tgt := 36) dX4_leastOf_7 (by decide) rfl (fun c7 => ?_) (fun c7 => ?_)
    · exact absurd c7 (by omega)
    · refine T_iload_n (pc2 := 11) dX4_leastOf_10 rfl rfl ?_
      refine T_iload_n (pc2 := 12) dX4_leastOf_11 rfl rfl ?_
      refine C_SN2 (pc2 := 15) (mc := 0) (ms := 0) dX4_leastOf_12 csX7_has mnX4_75 (Nat.le_of_ble_eq_true rfl) rfl ?_
      refine c_has (by decide) (by omega) (fun h1 => ?_) (fun h1 => ?_)
      · first | refine B_ifeq1 (pc2 := 18) (tgt := 30) dX4_leastOf_15 (by with_reducible rfl) (by decide) rfl ?_ | refine B_ifeq0 (tgt := 30) dX4_leastOf_15 (by with_reducible rfl) (by decide) ?_ | refine N_ifeq (pc2 := 18) (tgt := 30) dX4_leastOf_15 (by with_reducible rfl) (by decide) (by omega) rfl (fun c15 => ?_) (fun c15 => ?_) | refine T_ifeq (pc2 := 18) (tgt := 30) dX4_leastOf_15 (by decide) rfl (fun c15 => ?_) (fun c15 => ?_)
        refine T_aload_n (pc2 := 19) dX4_leastOf_18 rfl rfl ?_
        refine G_getR (pc2 := 22) dX4_leastOf_19 flX4_68 hc.1 rfl rfl ?_
        refine T_iload_n (pc2 := 23) dX4_leastOf_22 rfl rfl ?_
        refine G_iald (pc2 := 24) dX4_leastOf_23 hc.2.2.1 (by omega) (by first | decide | omega) (by first | with_reducible assumption | exact gs_eq _ _ _ _ | exact (gs_ne _ _ (by omega)).trans (by with_reducible assumption) | exact (gs_ne _ _ (by omega)).trans (gs_eq _ _ _ _) | exact (gs_ne _ _ (by omega)).trans ((gs_ne _ _ (by omega)).trans (by with_reducible assumption)) | exact (gs_ne _ _ (by omega)).trans ((gs_ne _ _ (by omega)).trans (gs_eq _ _ _ _)) | exact (gs_ne _ _ (by omega)).trans ((gs_ne _ _ (by omega)).trans ((gs_ne _ _ (by omega)).trans (by with_reducible assumption))) | rfl) rfl ?_
        refine T_iload_n (pc2 := 25) dX4_leastOf_24 rfl rfl ?_
        refine T_icmpne (pc2 := 28) (tgt := 30) dX4_leastOf_25 (by decide) rfl (fun c25 => ?_) (fun c25 => ?_)
        · exact hno (by simp [sgP, c25])
        · refine T_iload_n (pc2 := 29) dX4_leastOf_28 rfl rfl ?_
          refine T_iret dX4_leastOf_29 rfl rfl ?_
          refine kt j ?_ hjl
          have hq : sgP V l note j = true := by simp [sgP, h1, c25]
          have : least (sgP V l note) (j + 1) = some j := by
            show (match least (sgP V l note) j with | some j => some j | none => if sgP V l note j then some j else none) = some j
            rw [hl, hq]
            rfl
          have := least_up this (V.J - (j + 1))
          rw [show j + 1 + (V.J - (j + 1)) = V.J by omega] at this
          exact this
      · first | refine B_ifeq1 (pc2 := 18) (tgt := 30) dX4_leastOf_15 (by with_reducible rfl) (by decide) rfl ?_ | refine B_ifeq0 (tgt := 30) dX4_leastOf_15 (by with_reducible rfl) (by decide) ?_ | refine N_ifeq (pc2 := 18) (tgt := 30) dX4_leastOf_15 (by with_reducible rfl) (by decide) (by omega) rfl (fun c15 => ?_) (fun c15 => ?_) | refine T_ifeq (pc2 := 18) (tgt := 30) dX4_leastOf_15 (by decide) rfl (fun c15 => ?_) (fun c15 => ?_)
        exact hno (by simp [sgP, h1])
theorem c_leastOf {note : Int32} {l : Nat → Bool} (hc : isC sk n c) (hV : hasC g c V) (hJ : V.J ≤ 8) (kt : ∀ j, least (sgP V l note) V.J = some j → j < V.J → Q (some (.int (nI j))) (HP sk g n)) (kf : least (sgP V l note) V.J = none → Q (some (.int (-1))) (HP sk g n)) : Calls MX4_leastOf (d + 1) 0 0 [.ref c, .int (nI (bm l 8)), .int note] (HP sk g n) Q := by
  refine Calls.of (by decide +kernel) (Nat.le_of_ble_eq_true rfl) ?_
  refine T_iconst (pc2 := 1) dX4_leastOf_0 ic0 rfl ?_
  refine T_istore_n (pc2 := 2) dX4_leastOf_1 (by decide) rfl ?_
  refine T_sub (lks (i := 0) rfl (lks (i := 1) rfl (lks (i := 2) rfl (lks (i := 3) rfl lk0)))) ?_
  exact least_loop hc hV hJ kt kf V.J 0 (by omega) rfl
theorem cut_bits {l : Nat → Bool} {j : Nat} (hj : j < 8) : nI (bm l 8) &&& ((nI 1 <<< (nI j &&& 31)) ^^^ (-1)) = nI (bm (cutJ l j) 8) := by
  rw [shl1 (by omega)]
  have := bm_not l (fun i => (2 ^ j).testBit i) 8
  rw [bm_self (k := 8) (show 2 ^ j < 2 ^ 8 from Nat.pow_lt_pow_right (by decide) (by omega))] at this
  rw [this]
  congr 1
  apply bm_cg
  intro i _
  unfold cutJ
  rw [Nat.testBit_two_pow]
  congr 2
  exact decide_eq_decide.mpr ⟨fun e => e.symm, fun e => e.symm⟩
theorem song_loop {q fr mm : Nat} (S : Sh sk n bf im above below) (hc : isC sk n c) (hd : c + 6 ≤ 34 ∨ 45 ≤ c) (hq : isA sk n q .int 40) (hqd : q < 34 ∨ 45 ≤ q) (hV : hasC g c V) (hok : okC V) (hfm : fr + mm ≤ 40)
    (k : ∀ g2, g2 34 2 = nI (bm (V.sg (fun t => g q (fr + t)) mm).2.1 8) → g2 34 3 = nI (V.sg (fun t => g q (fr + t)) mm).2.2 → Fr 34 45 g g2 → Q none (HP sk g2 n)) :
    ∀ m t g2, t + m = mm → (V.sg (fun t => g q (fr + t)) t).2.2 ≤ t → g2 34 2 = nI (bm (V.sg (fun t => g q (fr + t)) t).2.1 8) → g2 34 3 = nI (V.sg (fun t => g q (fr + t)) t).2.2 → Fr 34 45 g g2 → T MX4_findSong (d + 2) kc ks 20 [(0, .ref 34), (1, .ref c), (2, .ref q), (3, .int (nI fr)), (4, .int (nI mm)), (5, .int (nI (bm (V.sg (fun t => g q (fr + t)) t).1 8))), (6, .int (nI t))] [] (HP sk g2 n) Q := by
  have hJ8 := hok.1
  intro m
  induction m with
  | zero =>
    intro t g2 ht hb e2 e3 hf
    refine T_iload (pc2 := 22) dX4_findSong_20 rfl rfl ?_
    refine T_iload (pc2 := 24) dX4_findSong_22 rfl rfl ?_
    first | refine N_icmpge (pc2 := 27) (tgt := 89) dX4_findSong_24 (by decide) (by with_reducible rfl) (by with_reducible rfl) (by omega) (by omega) rfl (fun c24 => ?_) (fun c24 => ?_) | refine T_icmpge (pc2 := 27) (tgt := 89) dX4_findSong_24 (by decide) rfl (fun c24 => ?_) (fun c24 => ?_)
    · refine T_ret dX4_findSong_89 rfl ?_
      have : t = mm := by omega
      subst this
      exact k g2 e2 e3 hf
    · exact absurd (by omega) c24
  | succ m ih =>
    intro t g2 ht hb e2 e3 hf
    have eq : g2 q (fr + t) = g q (fr + t) := by rw [hf q (by omega)]
    have hstep : V.sg (fun t => g q (fr + t)) (t + 1) = sgf V (fun t => g q (fr + t)) t (V.sg (fun t => g q (fr + t)) t) := rfl
    refine T_iload (pc2 := 22) dX4_findSong_20 rfl rfl ?_
    refine T_iload (pc2 := 24) dX4_findSong_22 rfl rfl ?_
    first | refine N_icmpge (pc2 := 27) (tgt := 89) dX4_findSong_24 (by decide) (by with_reducible rfl) (by with_reducible rfl) (by omega) (by omega) rfl (fun c24 => ?_) (fun c24 => ?_) | refine T_icmpge (pc2 := 27) (tgt := 89) dX4_findSong_24 (by decide) rfl (fun c24 => ?_) (fun c24 => ?_)
    · exact absurd c24 (by omega)
    · refine T_aload_n (pc2 := 28) dX4_findSong_27 rfl rfl ?_
      refine T_iload (pc2 := 30) dX4_findSong_28 rfl rfl ?_
      refine T_aload_n (pc2 := 31) dX4_findSong_30 rfl rfl ?_
      refine T_iload_n (pc2 := 32) dX4_findSong_31 rfl rfl ?_
      refine T_iload (pc2 := 34) dX4_findSong_32 rfl rfl ?_
      first | refine N_iadd (pc2 := 35) dX4_findSong_34 (by with_reducible rfl) (by with_reducible rfl) rfl ?_ | refine T_iadd (pc2 := 35) dX4_findSong_34 rfl ?_
      refine G_iald (pc2 := 36) dX4_findSong_35 hq (by omega) (by first | decide | omega) (by first | with_reducible assumption | exact gs_eq _ _ _ _ | exact (gs_ne _ _ (by omega)).trans (by with_reducible assumption) | exact (gs_ne _ _ (by omega)).trans (gs_eq _ _ _ _) | exact (gs_ne _ _ (by omega)).trans ((gs_ne _ _ (by omega)).trans (by with_reducible assumption)) | exact (gs_ne _ _ (by omega)).trans ((gs_ne _ _ (by omega)).trans (gs_eq _ _ _ _)) | exact (gs_ne _ _ (by omega)).trans ((gs_ne _ _ (by omega)).trans ((gs_ne _ _ (by omega)).trans (by with_reducible assumption))) | rfl) rfl ?_
      refine C_S3 (pc2 := 39) (mc := 0) (ms := 0) dX4_findSong_36 csX4_leastOf mlX4_82 (Nat.le_of_ble_eq_true rfl) rfl ?_
      refine c_leastOf hc (hV.fr hf hd) hJ8 (fun j hj hjl => ?_) (fun hj => ?_)
      · have hx : V.sg (fun t => g q (fr + t)) (t + 1) = (cutJ (V.sg (fun t => g q (fr + t)) t).1 j, addJ (V.sg (fun t => g q (fr + t)) t).2.1 j, (V.sg (fun t => g q (fr + t)) t).2.2) := by
          rw [hstep]
          unfold sgf
          rw [hj]
        refine T_istore (pc2 := 41) dX4_findSong_39 (by decide) rfl ?_
        refine T_iload (pc2 := 43) dX4_findSong_41 rfl rfl ?_
        first | refine N_ifge (tgt := 59) dX4_findSong_43 (by with_reducible rfl) (by decide) (by omega) ?_ | refine T_ifge (pc2 := 46) (tgt := 59) dX4_findSong_43 (by decide) rfl (fun c43 => ?_) (fun c43 => ?_)
        refine T_aload_n (pc2 := 60) dX4_findSong_59 rfl rfl ?_
        refine T_dup (pc2 := 61) dX4_findSong_60 rfl rfl ?_
        refine G_getI (pc2 := 64) dX4_findSong_61 flX4_48 (sh34 S) rfl (by first | with_reducible assumption | exact gs_eq _ _ _ _ | exact (gs_ne _ _ (by omega)).trans (by with_reducible assumption) | exact (gs_ne _ _ (by omega)).trans (gs_eq _ _ _ _) | exact (gs_ne _ _ (by omega)).trans ((gs_ne _ _ (by omega)).trans (by with_reducible assumption)) | exact (gs_ne _ _ (by omega)).trans ((gs_ne _ _ (by omega)).trans (gs_eq _ _ _ _)) | exact (gs_ne _ _ (by omega)).trans ((gs_ne _ _ (by omega)).trans ((gs_ne _ _ (by omega)).trans (by with_reducible assumption))) | rfl) rfl ?_
        refine T_iconst (pc2 := 65) dX4_findSong_64 ic1 rfl ?_
        refine T_iload (pc2 := 67) dX4_findSong_65 rfl rfl ?_
        refine T_ishl (pc2 := 68) dX4_findSong_67 rfl ?_
        refine T_ior (pc2 := 69) dX4_findSong_68 rfl ?_
        rw [bm_one (by decide) (by omega)]
        refine G_putI (pc2 := 72) dX4_findSong_69 flX4_48 (sh34 S) rfl rfl rfl rfl ?_
        refine T_iload (pc2 := 74) dX4_findSong_72 rfl rfl ?_
        refine T_iconst (pc2 := 75) dX4_findSong_74 ic1 rfl ?_
        refine T_iload (pc2 := 77) dX4_findSong_75 rfl rfl ?_
        refine T_ishl (pc2 := 78) dX4_findSong_77 rfl ?_
        refine T_iconst (pc2 := 79) dX4_findSong_78 icm1 rfl ?_
        refine T_ixor (pc2 := 80) dX4_findSong_79 rfl ?_
        refine T_iand (pc2 := 81) dX4_findSong_80 rfl ?_
        rw [cut_bits (by omega)]
        refine T_istore (pc2 := 83) dX4_findSong_81 (by decide) rfl ?_
        first | refine N_iinc (pc2 := 86) dX4_findSong_83 rfl (by with_reducible rfl) ic1 (by decide) rfl ?_ | refine T_iinc (pc2 := 86) dX4_findSong_83 rfl rfl (by decide) rfl ?_
        refine T_goto (tgt := 20) dX4_findSong_86 (by decide) ?_
        refine T_sub (lks (i := 0) rfl (lks (i := 1) rfl (lks (i := 2) rfl (lks (i := 3) rfl (lks (i := 4) rfl (lks (i := 5) rfl (lks (i := 6) rfl lk0))))))) ?_
        have := ih (t + 1) (gset g2 34 2 (nI (bm (fun i => (V.sg (fun t => g q (fr + t)) t).2.1 i || decide (i = j)) 8))) (by omega) (by rw [hx]; show (V.sg (fun t => g q (fr + t)) t).2.2 ≤ _; omega) (by rw [hx, gs_eq]; rfl) (by rw [hx, gs_ne _ _ (by omega)]; exact e3) (hf.st (by omega) (by omega))
        rw [hx] at this
        exact this
      · have hx : V.sg (fun t => g q (fr + t)) (t + 1) = ((V.sg (fun t => g q (fr + t)) t).1, (V.sg (fun t => g q (fr + t)) t).2.1, (V.sg (fun t => g q (fr + t)) t).2.2 + 1) := by
          rw [hstep]
          unfold sgf
          rw [hj]
        refine T_istore (pc2 := 41) dX4_findSong_39 (by decide) rfl ?_
        refine T_iload (pc2 := 43) dX4_findSong_41 rfl rfl ?_
        refine T_ifge (pc2 := 46) (tgt := 59) dX4_findSong_43 (by decide) rfl (fun c43 => ?_) (fun c43 => ?_)
        · exact absurd c43 (by decide)
        · refine T_aload_n (pc2 := 47) dX4_findSong_46 rfl rfl ?_
          refine T_dup (pc2 := 48) dX4_findSong_47 rfl rfl ?_
          refine G_getI (pc2 := 51) dX4_findSong_48 flX4_41 (sh34 S) rfl (by first | with_reducible assumption | exact gs_eq _ _ _ _ | exact (gs_ne _ _ (by omega)).trans (by with_reducible assumption) | exact (gs_ne _ _ (by omega)).trans (gs_eq _ _ _ _) | exact (gs_ne _ _ (by omega)).trans ((gs_ne _ _ (by omega)).trans (by with_reducible assumption)) | exact (gs_ne _ _ (by omega)).trans ((gs_ne _ _ (by omega)).trans (gs_eq _ _ _ _)) | exact (gs_ne _ _ (by omega)).trans ((gs_ne _ _ (by omega)).trans ((gs_ne _ _ (by omega)).trans (by with_reducible assumption))) | rfl) rfl ?_
          refine T_iconst (pc2 := 52) dX4_findSong_51 ic1 rfl ?_
          first | refine N_iadd (pc2 := 53) dX4_findSong_52 (by with_reducible rfl) (by with_reducible rfl) rfl ?_ | refine T_iadd (pc2 := 53) dX4_findSong_52 rfl ?_
          refine G_putI (pc2 := 56) dX4_findSong_53 flX4_41 (sh34 S) rfl rfl rfl rfl ?_
          refine T_goto (tgt := 83) dX4_findSong_56 (by decide) ?_
          first | refine N_iinc (pc2 := 86) dX4_findSong_83 rfl (by with_reducible rfl) ic1 (by decide) rfl ?_ | refine T_iinc (pc2 := 86) dX4_findSong_83 rfl rfl (by decide) rfl ?_
          refine T_goto (tgt := 20) dX4_findSong_86 (by decide) ?_
          refine T_sub (lks (i := 0) rfl (lks (i := 1) rfl (lks (i := 2) rfl (lks (i := 3) rfl (lks (i := 4) rfl (lks (i := 5) rfl (lks (i := 6) rfl lk0))))))) ?_
          have := ih (t + 1) (gset g2 34 3 (nI ((V.sg (fun t => g q (fr + t)) t).2.2 + 1))) (by omega) (by rw [hx]; show _ + 1 ≤ _; omega) (by rw [hx, gs_ne _ _ (by omega)]; exact e2) (by rw [hx, gs_eq]) (hf.st (by omega) (by omega))
          rw [hx] at this
          exact this
theorem c_findSong {q fr mm : Nat} (S : Sh sk n bf im above below) (hc : isC sk n c) (hd : c + 6 ≤ 34 ∨ 45 ≤ c) (hq : isA sk n q .int 40) (hqd : q < 34 ∨ 45 ≤ q) (hV : hasC g c V) (hok : okC V) (hfm : fr + mm ≤ 40)
    (k : ∀ g2, g2 34 2 = nI (bm (V.sg (fun t => g q (fr + t)) mm).2.1 8) → g2 34 3 = nI (V.sg (fun t => g q (fr + t)) mm).2.2 → Fr 34 45 g g2 → Q none (HP sk g2 n)) : Calls MX4_findSong (d + 2) 0 0 [.ref 34, .ref c, .ref q, .int (nI fr), .int (nI mm)] (HP sk g n) Q := by
  refine Calls.of (by decide +kernel) (Nat.le_of_ble_eq_true rfl) ?_
  refine T_aload_n (pc2 := 1) dX4_findSong_0 rfl rfl ?_
  refine T_iconst (pc2 := 2) dX4_findSong_1 ic0 rfl ?_
  refine C_V1 (pc2 := 5) (mc := 0) (ms := 0) dX4_findSong_2 cvX2_those mlX4_29 (isO.h hc.1 _) (Nat.le_of_ble_eq_true rfl) rfl ?_
  refine c_those hc hV hok.1 (by decide) (hw31 hok) ?_
  refine T_istore (pc2 := 7) dX4_findSong_5 (by decide) rfl ?_
  refine T_aload_n (pc2 := 8) dX4_findSong_7 rfl rfl ?_
  refine T_iconst (pc2 := 9) dX4_findSong_8 ic0 rfl ?_
  refine G_putI (pc2 := 12) dX4_findSong_9 flX4_48 (sh34 S) rfl rfl rfl rfl ?_
  refine T_aload_n (pc2 := 13) dX4_findSong_12 rfl rfl ?_
  refine T_iconst (pc2 := 14) dX4_findSong_13 ic0 rfl ?_
  refine G_putI (pc2 := 17) dX4_findSong_14 flX4_41 (sh34 S) rfl rfl rfl rfl ?_
  refine T_iconst (pc2 := 18) dX4_findSong_17 ic0 rfl ?_
  refine T_istore (pc2 := 20) dX4_findSong_18 (by decide) rfl ?_
  refine T_sub (lks (i := 0) rfl (lks (i := 1) rfl (lks (i := 2) rfl (lks (i := 3) rfl (lks (i := 4) rfl (lks (i := 5) rfl (lks (i := 6) rfl lk0))))))) ?_
  refine song_loop (g := g) S hc hd hq hqd hV hok hfm k mm 0 _ (by omega) (Nat.le_refl _) ?_ ?_ ((Fr.rf.st (by omega) (by omega)).st (by omega) (by omega))
  · rw [gs_ne _ _ (by omega), gs_eq, show bm (V.sg (fun t => g q (fr + t)) 0).2.1 8 = 0 from bm_0 8]
  · rw [gs_eq]; rfl
end Fore4

