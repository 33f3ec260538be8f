section Fore3
variable {sk : Nat → SK} {g : Nat → Nat → Int32} {n c : Nat} {V : Cel} {Q : Option Value → SH → Prop} {d kc ks : Nat} {h : SH} {bf im : Nat → Option Nat} {above below : Int64} {w : Nat → Bool}
def okCh (V : Cel) (g g2 : Nat → Nat → Int32) (s : Nat × Option Nat) : Prop := s.1 ≤ 8 ∧ g2 34 2 = oN s.2 ∧ g2 34 3 = oN (s.2.map fun _ => s.1) ∧ hasC g2 39 V ∧ Fr 34 45 g g2
theorem change_in (S : Sh sk n bf im above below) (hc : isC sk n c) (hd : c + 6 ≤ 34 ∨ 45 ≤ c) (hV : hasC g c V) (hok : okC V) {a : Nat} (ha : a < V.J) (s0 : Nat × Option Nat)
    (kk : ∀ g2, okCh V g g2 (chRow V w a s0 (V.J - (a + 1))) → T MX4_findChange (d + 4) kc ks 143 [(0, .ref 34), (1, .ref c), (2, .int (nI (bm w 8))), (3, .int (nI (chRow V w a s0 (V.J - (a + 1))).1)), (4, .int (nI a))] [] (HP sk g2 n) Q) :
    ∀ m t g2, t + m = V.J - (a + 1) → okCh V g g2 (chRow V w a s0 t) → T MX4_findChange (d + 4) kc ks 60 [(0, .ref 34), (1, .ref c), (2, .int (nI (bm w 8))), (3, .int (nI (chRow V w a s0 t).1)), (4, .int (nI a)), (5, .int (nI (a + 1 + t)))] [] (HP sk g2 n) Q := by
  have hJ8 := hok.1
  intro m
  induction m with
  | zero =>
    intro t g2 ht ho
    have e0 := (hV.fr ho.2.2.2.2 hd).1
    have hx : t = V.J - (a + 1) := by omega
    subst hx
    refine T_iload (pc2 := 62) dX4_findChange_60 rfl rfl ?_
    refine T_aload_n (pc2 := 63) dX4_findChange_62 rfl rfl ?_
    refine G_getI (pc2 := 66) dX4_findChange_63 flX4_63 hc.1 rfl (by first | with_reducible assumption | exact gs_eq _ _ _ _ | exact (gs_ne _ _ (by omega)).trans (by with_reducible assumption) | exact (gs_ne _ _ (by omega)).trans (gs_eq _ _ _ _) | exact (gs_ne _ _ (by omega)).trans ((gs_ne _ _ (by omega)).trans (by with_reducible assumption)) | exact (gs_ne _ _ (by omega)).trans ((gs_ne _ _ (by omega)).trans (gs_eq _ _ _ _)) | exact (gs_ne _ _ (by omega)).trans ((gs_ne _ _ (by omega)).trans ((gs_ne _ _ (by omega)).trans (by with_reducible assumption))) | rfl) rfl ?_
    first | refine N_icmpge (pc2 := 69) (tgt := 143) dX4_findChange_66 (by decide) (by with_reducible rfl) (by with_reducible rfl) (by omega) (by omega) rfl (fun c66 => ?_) (fun c66 => ?_) | refine T_icmpge (pc2 := 69) (tgt := 143) dX4_findChange_66 (by decide) rfl (fun c66 => ?_) (fun c66 => ?_)
    · refine T_sub (lks (i := 0) rfl (lks (i := 1) rfl (lks (i := 2) rfl (lks (i := 3) rfl (lks (i := 4) rfl lk0))))) ?_
      exact kk g2 ho
    · exact absurd (by omega) c66
  | succ m ih =>
    intro t g2 ht ho
    have e0 := (hV.fr ho.2.2.2.2 hd).1
    obtain ⟨h8, e2, e3, h39, hf⟩ := ho
    have hb : a + 1 + t < V.J := by omega
    have hstep : chRow V w a s0 (t + 1) = chf V w a (a + 1 + t) (chRow V w a s0 t) := rfl
    refine T_iload (pc2 := 62) dX4_findChange_60 rfl rfl ?_
    refine T_aload_n (pc2 := 63) dX4_findChange_62 rfl rfl ?_
    refine G_getI (pc2 := 66) dX4_findChange_63 flX4_63 hc.1 rfl (by first | with_reducible assumption | exact gs_eq _ _ _ _ | exact (gs_ne _ _ (by omega)).trans (by with_reducible assumption) | exact (gs_ne _ _ (by omega)).trans (gs_eq _ _ _ _) | exact (gs_ne _ _ (by omega)).trans ((gs_ne _ _ (by omega)).trans (by with_reducible assumption)) | exact (gs_ne _ _ (by omega)).trans ((gs_ne _ _ (by omega)).trans (gs_eq _ _ _ _)) | exact (gs_ne _ _ (by omega)).trans ((gs_ne _ _ (by omega)).trans ((gs_ne _ _ (by omega)).trans (by with_reducible assumption))) | rfl) rfl ?_
    first | refine N_icmpge (pc2 := 69) (tgt := 143) dX4_findChange_66 (by decide) (by with_reducible rfl) (by with_reducible rfl) (by omega) (by omega) rfl (fun c66 => ?_) (fun c66 => ?_) | refine T_icmpge (pc2 := 69) (tgt := 143) dX4_findChange_66 (by decide) rfl (fun c66 => ?_) (fun c66 => ?_)
    · exact absurd c66 (by omega)
    · refine T_aload_n (pc2 := 70) dX4_findChange_69 rfl rfl ?_
      refine G_getR (pc2 := 73) dX4_findChange_70 flX4_21 (sh34 S) rfl rfl ?_
      refine T_iload (pc2 := 75) dX4_findChange_73 rfl rfl ?_
      refine T_iload (pc2 := 77) dX4_findChange_75 rfl rfl ?_
      refine C_V2 (pc2 := 80) (mc := 0) (ms := 0) dX4_findChange_77 cvX2_swapPlaces mlX4_64 (isO.h (sc39 S).1 _) (Nat.le_of_ble_eq_true rfl) rfl ?_
      refine c_swap (sc39 S) h39 hok.1 ha hb (fun g3 hs3 hf3 => ?_)
      refine T_aload_n (pc2 := 81) dX4_findChange_80 rfl rfl ?_
      refine G_getR (pc2 := 84) dX4_findChange_81 flX4_12 (sh34 S) rfl rfl ?_
      refine T_aload_n (pc2 := 85) dX4_findChange_84 rfl rfl ?_
      refine G_getR (pc2 := 88) dX4_findChange_85 flX4_21 (sh34 S) rfl rfl ?_
      refine C_V1 (pc2 := 91) (mc := 0) (ms := 0) dX4_findChange_88 cvX3_tune mlX4_25 (isO.h (sh35 S) _) (Nat.le_of_ble_eq_true rfl) rfl ?_
      have hok2 := hok.swap ha hb
      refine c_tune S (sc39 S) (by omega) hs3 hok2 (fun g4 hE4 hf4 => ?_)
      refine T_aload_n (pc2 := 92) dX4_findChange_91 rfl rfl ?_
      refine T_iload_n (pc2 := 93) dX4_findChange_92 rfl rfl ?_
      refine T_iload_n (pc2 := 94) dX4_findChange_93 rfl rfl ?_
      refine C_V2 (pc2 := 97) (mc := 0) (ms := 0) dX4_findChange_94 cvX4_mostBroken mlX4_37 (isO.h (sh34 S) _) (Nat.le_of_ble_eq_true rfl) rfl ?_
      refine c_most (V := V.swap a (a + 1 + t)) S hE4 hok.1 (show 0 < V.J by omega) (by omega) (fun s g5 hs h1 h9b hE5 e6 hf5 hk5 => ?_)
      have hmv := most_val hs h1
      refine T_istore (pc2 := 99) dX4_findChange_97 (by decide) rfl ?_
      refine T_aload_n (pc2 := 100) dX4_findChange_99 rfl rfl ?_
      refine G_getR (pc2 := 103) dX4_findChange_100 flX4_21 (sh34 S) rfl rfl ?_
      refine T_iload (pc2 := 105) dX4_findChange_103 rfl rfl ?_
      refine T_iload (pc2 := 107) dX4_findChange_105 rfl rfl ?_
      refine C_V2 (pc2 := 110) (mc := 0) (ms := 0) dX4_findChange_107 cvX2_swapPlaces mlX4_64 (isO.h (sc39 S).1 _) (Nat.le_of_ble_eq_true rfl) rfl ?_
      have hs5 : hasC g5 39 (V.swap a (a + 1 + t)) := (hs3.fr hf4 (by omega)).fr hf5 (by omega)
      refine c_swap (V := V.swap a (a + 1 + t)) (sc39 S) hs5 hok.1 ha hb (fun g6 hs6 hf6 => ?_)
      rw [swap2 V (by omega)] at hs6
      have hf7 : Fr 34 45 g g6 := ((((hf.tr (hf3.wd (by omega) (by omega))).tr (hf4.wd (by omega) (by omega))).tr (hf5.wd (by omega) (by omega)))).tr (hf6.wd (by omega) (by omega))
      have e34 : ∀ k, k ≠ 6 → g6 34 k = g2 34 k := fun k hk => by
        rw [hf6 34 (by omega), hk5 k hk, hf4 34 (by omega), hf3 34 (by omega)]
      refine T_iload (pc2 := 112) dX4_findChange_110 rfl rfl ?_
      refine T_iload_n (pc2 := 113) dX4_findChange_112 rfl rfl ?_
      first | refine N_icmpge (pc2 := 116) (tgt := 137) dX4_findChange_113 (by decide) (by with_reducible rfl) (by with_reducible rfl) (by omega) (by omega) rfl (fun c113 => ?_) (fun c113 => ?_) | refine T_icmpge (pc2 := 116) (tgt := 137) dX4_findChange_113 (by decide) rfl (fun c113 => ?_) (fun c113 => ?_)
      · first | refine N_iinc (pc2 := 140) dX4_findChange_137 rfl (by with_reducible rfl) ic1 (by decide) rfl ?_ | refine T_iinc (pc2 := 140) dX4_findChange_137 rfl rfl (by decide) rfl ?_
        refine T_goto (tgt := 60) dX4_findChange_140 (by decide) ?_
        refine T_sub (lks (i := 0) rfl (lks (i := 1) rfl (lks (i := 2) rfl (lks (i := 3) rfl (lks (i := 4) rfl (lks (i := 5) rfl lk0)))))) ?_
        have hx : chRow V w a s0 (t + 1) = chRow V w a s0 t := by
          rw [hstep]
          exact if_neg (fun z => absurd (hmv.1.mpr z) (by omega))
        have := ih (t + 1) g6 (by omega) (by rw [hx]; exact ⟨h8, by rw [e34 2 (by decide)]; exact e2, by rw [e34 3 (by decide)]; exact e3, hs6, hf7⟩)
        rw [hx] at this
        exact this
      · refine T_iload (pc2 := 118) dX4_findChange_116 rfl rfl ?_
        refine T_istore_n (pc2 := 119) dX4_findChange_118 (by decide) rfl ?_
        refine T_aload_n (pc2 := 120) dX4_findChange_119 rfl rfl ?_
        refine T_bipush (pc2 := 122) dX4_findChange_120 bp10 rfl ?_
        refine T_iload (pc2 := 124) dX4_findChange_122 rfl rfl ?_
        first | refine N_imul (pc2 := 125) dX4_findChange_124 (by with_reducible rfl) (by with_reducible rfl) rfl ?_ | refine T_imul (pc2 := 125) dX4_findChange_124 rfl ?_
        refine T_iload (pc2 := 127) dX4_findChange_125 rfl rfl ?_
        first | refine N_iadd (pc2 := 128) dX4_findChange_127 (by with_reducible rfl) (by with_reducible rfl) rfl ?_ | refine T_iadd (pc2 := 128) dX4_findChange_127 rfl ?_
        refine G_putI (pc2 := 131) dX4_findChange_128 flX4_48 (sh34 S) rfl rfl rfl rfl ?_
        refine T_aload_n (pc2 := 132) dX4_findChange_131 rfl rfl ?_
        refine T_iload (pc2 := 134) dX4_findChange_132 rfl rfl ?_
        refine G_putI (pc2 := 137) dX4_findChange_134 flX4_41 (sh34 S) rfl rfl rfl rfl ?_
        first | refine N_iinc (pc2 := 140) dX4_findChange_137 rfl (by with_reducible rfl) ic1 (by decide) rfl ?_ | refine T_iinc (pc2 := 140) dX4_findChange_137 rfl rfl (by decide) rfl ?_
        refine T_goto (tgt := 60) dX4_findChange_140 (by decide) ?_
        refine T_sub (lks (i := 0) rfl (lks (i := 1) rfl (lks (i := 2) rfl (lks (i := 3) rfl (lks (i := 4) rfl (lks (i := 5) rfl lk0)))))) ?_
        have hlt : s.1 - 1 < (chRow V w a s0 t).1 := by omega
        have hx : chRow V w a s0 (t + 1) = ((V.swap a (a + 1 + t)).wv w, some (10 * a + (a + 1 + t))) := by
          rw [hstep]
          exact if_pos (hmv.1.mp hlt)
        have hw8 := wv_le (V.swap a (a + 1 + t)) w
        rw [hmv.2 hlt]
        have := ih (t + 1) (gset (gset g6 34 2 (nI (10 * a + (a + 1 + t)))) 34 3 (nI ((V.swap a (a + 1 + t)).wv w))) (by omega) (by
          rw [hx]
          refine ⟨hw8, ?_, ?_, hs6.fr (lo := 34) (hi := 35) ((Fr.rf.st (by omega) (by omega)).st (by omega) (by omega)) (by omega), (hf7.st (by omega) (by omega)).st (by omega) (by omega)⟩
          · rw [gs_ne _ _ (by omega), gs_eq]; rfl
          · rw [gs_eq]; rfl)
        rw [hx] at this
        exact this
theorem change_out (S : Sh sk n bf im above below) (hc : isC sk n c) (hd : c + 6 ≤ 34 ∨ 45 ≤ c) (hV : hasC g c V) (hok : okC V)
    (k : ∀ g2, g2 34 2 = oN (chAll V w V.J).2 → g2 34 3 = oN ((chAll V w V.J).2.map fun _ => (chAll V w V.J).1) → Fr 34 45 g g2 → Q none (HP sk g2 n)) :
    ∀ m a g2, a + m = V.J → okCh V g g2 (chAll V w a) → T MX4_findChange (d + 4) kc ks 45 [(0, .ref 34), (1, .ref c), (2, .int (nI (bm w 8))), (3, .int (nI (chAll V w a).1)), (4, .int (nI a))] [] (HP sk g2 n) Q := by
  have hJ8 := hok.1
  intro m
  induction m with
  | zero =>
    intro a g2 ha ho
    have e0 := (hV.fr ho.2.2.2.2 hd).1
    refine T_iload (pc2 := 47) dX4_findChange_45 rfl rfl ?_
    refine T_aload_n (pc2 := 48) dX4_findChange_47 rfl rfl ?_
    refine G_getI (pc2 := 51) dX4_findChange_48 flX4_63 hc.1 rfl (by first | with_reducible assumption | exact gs_eq _ _ _ _ | exact (gs_ne _ _ (by omega)).trans (by with_reducible assumption) | exact (gs_ne _ _ (by omega)).trans (gs_eq _ _ _ _) | exact (gs_ne _ _ (by omega)).trans ((gs_ne _ _ (by omega)).trans (by with_reducible assumption)) | exact (gs_ne _ _ (by omega)).trans ((gs_ne _ _ (by omega)).trans (gs_eq _ _ _ _)) | exact (gs_ne _ _ (by omega)).trans ((gs_ne _ _ (by omega)).trans ((gs_ne _ _ (by omega)).trans (by with_reducible assumption))) | rfl) rfl ?_
    first | refine N_icmpge (pc2 := 54) (tgt := 149) dX4_findChange_51 (by decide) (by with_reducible rfl) (by with_reducible rfl) (by omega) (by omega) rfl (fun c51 => ?_) (fun c51 => ?_) | refine T_icmpge (pc2 := 54) (tgt := 149) dX4_findChange_51 (by decide) rfl (fun c51 => ?_) (fun c51 => ?_)
    · refine T_ret dX4_findChange_149 rfl ?_
      have : a = V.J := by omega
      subst this
      exact k g2 ho.2.1 ho.2.2.1 ho.2.2.2.2
    · exact absurd (by omega) c51
  | succ m ih =>
    intro a g2 ha ho
    have e0 := (hV.fr ho.2.2.2.2 hd).1
    refine T_iload (pc2 := 47) dX4_findChange_45 rfl rfl ?_
    refine T_aload_n (pc2 := 48) dX4_findChange_47 rfl rfl ?_
    refine G_getI (pc2 := 51) dX4_findChange_48 flX4_63 hc.1 rfl (by first | with_reducible assumption | exact gs_eq _ _ _ _ | exact (gs_ne _ _ (by omega)).trans (by with_reducible assumption) | exact (gs_ne _ _ (by omega)).trans (gs_eq _ _ _ _) | exact (gs_ne _ _ (by omega)).trans ((gs_ne _ _ (by omega)).trans (by with_reducible assumption)) | exact (gs_ne _ _ (by omega)).trans ((gs_ne _ _ (by omega)).trans (gs_eq _ _ _ _)) | exact (gs_ne _ _ (by omega)).trans ((gs_ne _ _ (by omega)).trans ((gs_ne _ _ (by omega)).trans (by with_reducible assumption))) | rfl) rfl ?_
    first | refine N_icmpge (pc2 := 54) (tgt := 149) dX4_findChange_51 (by decide) (by with_reducible rfl) (by with_reducible rfl) (by omega) (by omega) rfl (fun c51 => ?_) (fun c51 => ?_) | refine T_icmpge (pc2 := 54) (tgt := 149) dX4_findChange_51 (by decide) rfl (fun c51 => ?_) (fun c51 => ?_)
    · exact absurd c51 (by omega)
    · refine T_iload (pc2 := 56) dX4_findChange_54 rfl rfl ?_
      refine T_iconst (pc2 := 57) dX4_findChange_56 ic1 rfl ?_
      first | refine N_iadd (pc2 := 58) dX4_findChange_57 (by with_reducible rfl) (by with_reducible rfl) rfl ?_ | refine T_iadd (pc2 := 58) dX4_findChange_57 rfl ?_
      refine T_istore (pc2 := 60) dX4_findChange_58 (by decide) rfl ?_
      refine T_sub (lks (i := 0) rfl (lks (i := 1) rfl (lks (i := 2) rfl (lks (i := 3) rfl (lks (i := 4) rfl (lks (i := 5) rfl lk0)))))) ?_
      have hx : chAll V w (a + 1) = chRow V w a (chAll V w a) (V.J - (a + 1)) := rfl
      refine change_in (g := g) (w := w) S hc hd hV hok (a := a) (by omega) (chAll V w a) (fun g3 h3 => ?_) (V.J - (a + 1)) 0 g2 (by omega) ho
      first | refine N_iinc (pc2 := 146) dX4_findChange_143 rfl (by with_reducible rfl) ic1 (by decide) rfl ?_ | refine T_iinc (pc2 := 146) dX4_findChange_143 rfl rfl (by decide) rfl ?_
      refine T_goto (tgt := 45) dX4_findChange_146 (by decide) ?_
      refine T_sub (lks (i := 0) rfl (lks (i := 1) rfl (lks (i := 2) rfl (lks (i := 3) rfl (lks (i := 4) rfl lk0))))) ?_
      exact ih (a + 1) g3 (by omega) h3
theorem c_findChange (S : Sh sk n bf im above below) (hc : isC sk n c) (hd : c + 6 ≤ 34 ∨ 45 ≤ c) (hV : hasC g c V) (hok : okC V) (hJ0 : 0 < V.J) (k : ∀ g2, g2 34 2 = oN V.ch.2 → g2 34 3 = oN (V.ch.2.map fun _ => V.ch.1) → Fr 34 45 g g2 → Q none (HP sk g2 n)) : Calls MX4_findChange (d + 4) 0 0 [.ref 34, .ref c] (HP sk g n) Q := by
  refine Calls.of (by decide +kernel) (Nat.le_of_ble_eq_true rfl) ?_
  have hJ8 := hok.1
  refine T_aload_n (pc2 := 1) dX4_findChange_0 rfl rfl ?_
  refine G_getR (pc2 := 4) dX4_findChange_1 flX4_12 (sh34 S) rfl rfl ?_
  refine T_aload_n (pc2 := 5) dX4_findChange_4 rfl rfl ?_
  refine C_V1 (pc2 := 8) (mc := 0) (ms := 0) dX4_findChange_5 cvX3_tune mlX4_25 (isO.h (sh35 S) _) (Nat.le_of_ble_eq_true rfl) rfl ?_
  refine c_tune S hc (by omega) hV hok (fun g2 hE hf => ?_)
  refine T_aload_n (pc2 := 9) dX4_findChange_8 rfl rfl ?_
  refine T_iconst (pc2 := 10) dX4_findChange_9 ic0 rfl ?_
  refine C_V1 (pc2 := 13) (mc := 0) (ms := 0) dX4_findChange_10 cvX2_those mlX4_29 (isO.h hc.1 _) (Nat.le_of_ble_eq_true rfl) rfl ?_
  have hV2 := hV.fr hf (by omega)
  refine c_those hc hV2 hok.1 (by decide) (hw31 hok) ?_
  refine T_istore_n (pc2 := 14) dX4_findChange_13 (by decide) rfl ?_
  refine T_aload_n (pc2 := 15) dX4_findChange_14 rfl rfl ?_
  refine T_iload_n (pc2 := 16) dX4_findChange_15 rfl rfl ?_
  refine T_bipush (pc2 := 18) dX4_findChange_16 bp8 rfl ?_
  refine C_V2 (pc2 := 21) (mc := 0) (ms := 0) dX4_findChange_18 cvX4_mostBroken mlX4_37 (isO.h (sh34 S) _) (Nat.le_of_ble_eq_true rfl) rfl ?_
  refine c_most S hE hok.1 hJ0 (by decide) (fun s g3 hs h1 h9 hE3 e6 hf3 hk3 => ?_)
  have hs : s = V.mx (V.th 0) := by
    rcases hs with hs | hs
    · exact hs
    · exact hs.2.2 hs.1
  subst hs
  refine T_istore_n (pc2 := 22) dX4_findChange_21 (by decide) rfl ?_
  refine T_aload_n (pc2 := 23) dX4_findChange_22 rfl rfl ?_
  refine T_ldc (pc2 := 25) dX4_findChange_23 kcX4_59 rfl ?_
  refine G_putI (pc2 := 28) dX4_findChange_25 flX4_48 (sh34 S) rfl rfl rfl rfl ?_
  refine T_aload_n (pc2 := 29) dX4_findChange_28 rfl rfl ?_
  refine T_ldc (pc2 := 31) dX4_findChange_29 kcX4_59 rfl ?_
  refine G_putI (pc2 := 34) dX4_findChange_31 flX4_41 (sh34 S) rfl rfl rfl rfl ?_
  refine T_aload_n (pc2 := 35) dX4_findChange_34 rfl rfl ?_
  refine G_getR (pc2 := 38) dX4_findChange_35 flX4_21 (sh34 S) rfl rfl ?_
  refine T_aload_n (pc2 := 39) dX4_findChange_38 rfl rfl ?_
  refine C_V1 (pc2 := 42) (mc := 0) (ms := 0) dX4_findChange_39 cvX2_become mlX4_60 (isO.h (sc39 S).1 _) (Nat.le_of_ble_eq_true rfl) rfl ?_
  have hV3 : hasC (gset (gset g3 34 2 (-1000000)) 34 3 (-1000000)) c V := (hV2.fr hf3 (by omega)).fr (lo := 34) (hi := 35) ((Fr.rf.st (by omega) (by omega)).st (by omega) (by omega)) (by omega)
  refine c_become (sc39 S) hc (by omega) hV3 hok.1 (fun g4 h39 hf4 => ?_)
  refine T_iconst (pc2 := 43) dX4_findChange_42 ic0 rfl ?_
  refine T_istore (pc2 := 45) dX4_findChange_43 (by decide) rfl ?_
  refine T_sub (lks (i := 0) rfl (lks (i := 1) rfl (lks (i := 2) rfl (lks (i := 3) rfl (lks (i := 4) rfl lk0))))) ?_
  refine change_out (g := g) (w := V.th 0) S hc hd hV hok k V.J 0 g4 (by omega) ⟨wv_le V _, ?_, ?_, h39, ?_⟩
  · rw [hf4 34 (by omega), gs_ne _ _ (by omega), gs_eq]; rfl
  · rw [hf4 34 (by omega), gs_eq]; rfl
  · exact ((((hf.wd (by omega) (by omega)).tr (hf3.wd (by omega) (by omega))).st (by omega) (by omega)).st (by omega) (by omega)).tr (hf4.wd (by omega) (by omega))
end Fore3

