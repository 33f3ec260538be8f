theorem kd_off0 : ∀ b, b < 256 → ((b = 99 ∨ b = 103 ∨ b = 104 ∨ b = 115 ∨ b = 116) ∨ Op.lookupswitch.offset [(99, 59), (103, 51), (104, 55), (115, 57), (116, 53)] 61 (nI b).toInt = 61) := by decide +kernel
theorem kd_off (b : Nat) (h : b < 256) (h1 : b ≠ 99) (h2 : b ≠ 103) (h3 : b ≠ 104) (h4 : b ≠ 115) (h5 : b ≠ 116) : Op.lookupswitch.offset [(99, 59), (103, 51), (104, 55), (115, 57), (116, 53)] 61 (nI b).toInt = 61 := by
  rcases kd_off0 b h with q | q
  · omega
  · exact q
theorem kindN_le (b : Nat) : kindN b ≤ 5 := by
  unfold kindN
  repeat' split
  all_goals decide
section TapeM2
variable {sk : Nat → SK} {g : Nat → Nat → Int32} {n c : Nat} {V : Cel} {Q : Option Value → SH → Prop} {d kc ks : Nat} {bf im : Nat → Option Nat} {above below : Int64} {tp : Nat → Nat} {sz a0 : Nat} {h : SH}
theorem c_kindOf {b : Nat} (hb : b < 256) (k : Q (some (.int (nI (kindN b)))) h) : Calls MX6_kindOf d 0 0 [.int (nI b)] h Q := by
  refine Calls.of (by decide +kernel) (Nat.le_of_ble_eq_true rfl) ?_
  refine T_iload_n (pc2 := 1) dX6_kindOf_0 rfl rfl ?_
  by_cases h1 : b = 99
  · subst h1
    refine T_lookup (off := 59) (tgt := 60) dX6_kindOf_1 (by decide) (by decide) (by decide) ?_
    refine T_iconst (pc2 := 61) dX6_kindOf_60 ic5 rfl ?_
    refine T_iret dX6_kindOf_61 rfl rfl ?_
    exact k
  by_cases h2 : b = 103
  · subst h2
    refine T_lookup (off := 51) (tgt := 52) dX6_kindOf_1 (by decide) (by decide) (by decide) ?_
    refine T_iconst (pc2 := 53) dX6_kindOf_52 ic1 rfl ?_
    refine T_iret dX6_kindOf_53 rfl rfl ?_
    exact k
  by_cases h3 : b = 104
  · subst h3
    refine T_lookup (off := 55) (tgt := 56) dX6_kindOf_1 (by decide) (by decide) (by decide) ?_
    refine T_iconst (pc2 := 57) dX6_kindOf_56 ic3 rfl ?_
    refine T_iret dX6_kindOf_57 rfl rfl ?_
    exact k
  by_cases h4 : b = 115
  · subst h4
    refine T_lookup (off := 57) (tgt := 58) dX6_kindOf_1 (by decide) (by decide) (by decide) ?_
    refine T_iconst (pc2 := 59) dX6_kindOf_58 ic4 rfl ?_
    refine T_iret dX6_kindOf_59 rfl rfl ?_
    exact k
  by_cases h5 : b = 116
  · subst h5
    refine T_lookup (off := 53) (tgt := 54) dX6_kindOf_1 (by decide) (by decide) (by decide) ?_
    refine T_iconst (pc2 := 55) dX6_kindOf_54 ic2 rfl ?_
    refine T_iret dX6_kindOf_55 rfl rfl ?_
    exact k
  refine T_lookup (off := 61) (tgt := 62) dX6_kindOf_1 (by decide) (kd_off b hb h1 h2 h3 h4 h5) (by decide) ?_
  refine T_iconst (pc2 := 63) dX6_kindOf_62 ic0 rfl ?_
  refine T_iret dX6_kindOf_63 rfl rfl ?_
  have : kindN b = 0 := by simp [kindN, h1, h2, h3, h4, h5]
  rw [this] at k
  exact k
/-- the tape's own fields behind a step of the reading -/
def okP (g g2 : Nat → Nat → Int32) (c : Nat) (tp : Nat → Nat) (sz : Nat) : Prop := hasT g2 tp sz ∧ ∀ i, i ≠ 18 → (i < c ∨ c + 6 ≤ i) → g2 i = g i
theorem okP.st {g g2 : Nat → Nat → Int32} {c : Nat} {tp : Nat → Nat} {sz k : Nat} {v : Int32} (h : okP g g2 c tp sz) (hk : k ≠ 1) : okP g (gset g2 18 k v) c tp sz := ⟨h.1.put hk, fun i h1 h2 => by rw [gs_row h1]; exact h.2 i h1 h2⟩
theorem okP.f18 {g g2 g3 : Nat → Nat → Int32} {c : Nat} {tp : Nat → Nat} {sz : Nat} (h : okP g g2 c tp sz) (hT : hasT g3 tp sz) (f : Fr 18 19 g2 g3) : okP g g3 c tp sz := ⟨hT, fun i h1 h2 => by rw [f i (by omega)]; exact h.2 i h1 h2⟩
theorem okP.fc {g g2 g3 : Nat → Nat → Int32} {c : Nat} {tp : Nat → Nat} {sz : Nat} (h : okP g g2 c tp sz) (hc : 20 ≤ c) (f : Fr c (c + 6) g2 g3) : okP g g3 c tp sz := ⟨h.1.fr f (by omega), fun i h1 h2 => by rw [f i h2]; exact h.2 i h1 h2⟩
theorem c_tellsJar (S : Sh sk n bf im above below) (hc : isC sk n c) (hc20 : 20 ≤ c) (hV : hasC g c V) (hT : hasT g tp sz) (hok : okT tp sz) (ea : g 18 2 = nI a0) (ha : a0 ≤ 90) (hJ : V.J ≤ 8)
    (kt : ∀ g2, (pJ tp sz V a0).1 = 0 → okP g g2 c tp sz → g2 18 2 = nI (pJ tp sz V a0).2.1 → hasC g2 c (pJ tp sz V a0).2.2 → Q (some (.int (nI 1))) (HP sk g2 n))
    (kf : ∀ g2, (pJ tp sz V a0).1 ≠ 0 → okP g g2 c tp sz → g2 18 2 = nI (pJ tp sz V a0).2.1 → g2 18 3 = nI (pJ tp sz V a0).1 → Q (some (.int (nI 0))) (HP sk g2 n)) : Calls MX6_tellsJar (d + 3) 0 0 [.ref 18, .ref c] (HP sk g n) Q := by
  refine Calls.of (by decide +kernel) (Nat.le_of_ble_eq_true rfl) ?_
  have e1 := hT.1
  have h90 := hok.1
  have e0 := hV.1
  have ok0 : okP g g c tp sz := ⟨hT, fun _ _ _ => rfl⟩
  have hk5 : kindA tp sz a0 ≤ 5 := by
    unfold kindA
    split
    · exact kindN_le _
    · decide
  have hmid : T MX6_tellsJar (d + 3) 0 0 27 [(0, .ref 18), (1, .ref c)] [.int (nI (kindA tp sz a0))] (HP sk g n) Q := by
    refine T_istore_n (pc2 := 28) dX6_tellsJar_27 (by decide) rfl ?_
    refine T_iload_n (pc2 := 29) dX6_tellsJar_28 rfl rfl ?_
    first | refine B_ifne1 (tgt := 38) dX6_tellsJar_29 (by with_reducible rfl) (by decide) ?_ | refine B_ifne0 (pc2 := 32) (tgt := 38) dX6_tellsJar_29 (by with_reducible rfl) (by decide) rfl ?_ | refine N_ifne (pc2 := 32) (tgt := 38) dX6_tellsJar_29 (by with_reducible rfl) (by decide) (by omega) rfl (fun c29 => ?_) (fun c29 => ?_) | refine T_ifne (pc2 := 32) (tgt := 38) dX6_tellsJar_29 (by decide) rfl (fun c29 => ?_) (fun c29 => ?_)
    · refine T_aload_n (pc2 := 39) dX6_tellsJar_38 rfl rfl ?_
      refine G_getI (pc2 := 42) dX6_tellsJar_39 flX6_52 hc.1 rfl (by first | with_reducible assumption | exact gs_eq _ _ _ _ | exact (gs_ne _ _ (by omega)).trans (by with_reducible assumption) | exact (gs_ne _ _ (by omega)).trans (gs_eq _ _ _ _) | exact (gs_ne _ _ (by omega)).trans ((gs_ne _ _ (by omega)).trans (by with_reducible assumption)) | exact (gs_ne _ _ (by omega)).trans ((gs_ne _ _ (by omega)).trans (gs_eq _ _ _ _)) | exact (gs_ne _ _ (by omega)).trans ((gs_ne _ _ (by omega)).trans ((gs_ne _ _ (by omega)).trans (by with_reducible assumption))) | rfl) rfl ?_
      refine T_bipush (pc2 := 44) dX6_tellsJar_42 bp8 rfl ?_
      first | refine N_icmplt (pc2 := 47) (tgt := 53) dX6_tellsJar_44 (by decide) (by with_reducible rfl) (by with_reducible rfl) (by omega) (by omega) rfl (fun c44 => ?_) (fun c44 => ?_) | refine T_icmplt (pc2 := 47) (tgt := 53) dX6_tellsJar_44 (by decide) rfl (fun c44 => ?_) (fun c44 => ?_)
      · refine T_aload_n (pc2 := 54) dX6_tellsJar_53 rfl rfl ?_
        refine T_dup (pc2 := 55) dX6_tellsJar_54 rfl rfl ?_
        refine G_getI (pc2 := 58) dX6_tellsJar_55 flX6_19 (sh18 S) rfl (by first | with_reducible assumption | exact gs_eq _ _ _ _ | exact (gs_ne _ _ (by omega)).trans (by with_reducible assumption) | exact (gs_ne _ _ (by omega)).trans (gs_eq _ _ _ _) | exact (gs_ne _ _ (by omega)).trans ((gs_ne _ _ (by omega)).trans (by with_reducible assumption)) | exact (gs_ne _ _ (by omega)).trans ((gs_ne _ _ (by omega)).trans (gs_eq _ _ _ _)) | exact (gs_ne _ _ (by omega)).trans ((gs_ne _ _ (by omega)).trans ((gs_ne _ _ (by omega)).trans (by with_reducible assumption))) | rfl) rfl ?_
        refine T_iconst (pc2 := 59) dX6_tellsJar_58 ic1 rfl ?_
        first | refine N_iadd (pc2 := 60) dX6_tellsJar_59 (by with_reducible rfl) (by with_reducible rfl) rfl ?_ | refine T_iadd (pc2 := 60) dX6_tellsJar_59 rfl ?_
        refine G_putI (pc2 := 63) dX6_tellsJar_60 flX6_19 (sh18 S) rfl rfl rfl rfl ?_
        refine T_aload_n (pc2 := 64) dX6_tellsJar_63 rfl rfl ?_
        refine T_iconst (pc2 := 65) dX6_tellsJar_64 ic0 rfl ?_
        refine T_bipush (pc2 := 67) dX6_tellsJar_65 bp11 rfl ?_
        refine C_V2 (pc2 := 70) (mc := 0) (ms := 0) dX6_tellsJar_67 cvX6_numbers mlX6_31 (isO.h (sh18 S) _) (Nat.le_of_ble_eq_true rfl) rfl ?_
        have r1 := rn_le tp sz (sz - (a0 + 1)) (a0 + 1) rfl
        refine c_numbers (a0 := a0 + 1) S (hT.put (by decide)) hok (gs_eq _ _ _ _) (by omega) (by decide) (by decide) (fun g2 hp hT2 ea2 ev2 hf2 => ?_) (fun g2 hp hT2 ea2 ef2 hf2 => ?_)
        · have ok2 := (ok0.st (k := 2) (v := nI (a0 + 1)) (by decide)).f18 hT2 hf2
          first | refine B_ifne1 (tgt := 75) dX6_tellsJar_70 (by with_reducible rfl) (by decide) ?_ | refine B_ifne0 (pc2 := 73) (tgt := 75) dX6_tellsJar_70 (by with_reducible rfl) (by decide) rfl ?_ | refine N_ifne (pc2 := 73) (tgt := 75) dX6_tellsJar_70 (by with_reducible rfl) (by decide) (by omega) rfl (fun c70 => ?_) (fun c70 => ?_) | refine T_ifne (pc2 := 73) (tgt := 75) dX6_tellsJar_70 (by decide) rfl (fun c70 => ?_) (fun c70 => ?_)
          refine T_aload_n (pc2 := 76) dX6_tellsJar_75 rfl rfl ?_
          refine G_getI (pc2 := 79) dX6_tellsJar_76 flX6_35 (sh18 S) rfl (by first | with_reducible assumption | exact gs_eq _ _ _ _ | exact (gs_ne _ _ (by omega)).trans (by with_reducible assumption) | exact (gs_ne _ _ (by omega)).trans (gs_eq _ _ _ _) | exact (gs_ne _ _ (by omega)).trans ((gs_ne _ _ (by omega)).trans (by with_reducible assumption)) | exact (gs_ne _ _ (by omega)).trans ((gs_ne _ _ (by omega)).trans (gs_eq _ _ _ _)) | exact (gs_ne _ _ (by omega)).trans ((gs_ne _ _ (by omega)).trans ((gs_ne _ _ (by omega)).trans (by with_reducible assumption))) | rfl) rfl ?_
          refine T_istore_n (pc2 := 80) dX6_tellsJar_79 (by decide) rfl ?_
          refine T_aload_n (pc2 := 81) dX6_tellsJar_80 rfl rfl ?_
          refine T_bipush (pc2 := 83) dX6_tellsJar_81 bp44 rfl ?_
          refine C_V1 (pc2 := 86) (mc := 0) (ms := 0) dX6_tellsJar_83 cvX6_passes mlX6_27 (isO.h (sh18 S) _) (Nat.le_of_ble_eq_true rfl) rfl ?_
          refine c_passes (a0 := a0 + 1 + rn tp sz (a0 + 1)) S hT2 hok ea2 (by omega) (by decide) (fun hs => ?_) (fun hs => ?_)
          · have ok3 := ok2.st (k := 2) (v := nI (a0 + 1 + rn tp sz (a0 + 1) + 1)) (by decide)
            have r2 := rn_le tp sz (sz - (a0 + 1 + rn tp sz (a0 + 1) + 1)) (a0 + 1 + rn tp sz (a0 + 1) + 1) rfl
            first | refine B_ifeq1 (pc2 := 89) (tgt := 99) dX6_tellsJar_86 (by with_reducible rfl) (by decide) rfl ?_ | refine B_ifeq0 (tgt := 99) dX6_tellsJar_86 (by with_reducible rfl) (by decide) ?_ | refine N_ifeq (pc2 := 89) (tgt := 99) dX6_tellsJar_86 (by with_reducible rfl) (by decide) (by omega) rfl (fun c86 => ?_) (fun c86 => ?_) | refine T_ifeq (pc2 := 89) (tgt := 99) dX6_tellsJar_86 (by decide) rfl (fun c86 => ?_) (fun c86 => ?_)
            refine T_aload_n (pc2 := 90) dX6_tellsJar_89 rfl rfl ?_
            refine T_iconst (pc2 := 91) dX6_tellsJar_90 ic1 rfl ?_
            refine T_bipush (pc2 := 93) dX6_tellsJar_91 bp60 rfl ?_
            refine C_V2 (pc2 := 96) (mc := 0) (ms := 0) dX6_tellsJar_93 cvX6_numbers mlX6_31 (isO.h (sh18 S) _) (Nat.le_of_ble_eq_true rfl) rfl ?_
            refine c_numbers (a0 := a0 + 1 + rn tp sz (a0 + 1) + 1) S ok3.1 hok (gs_eq _ _ _ _) (by omega) (by decide) (by decide) (fun g4 hp4 hT4 ea4 ev4 hf4 => ?_) (fun g4 hp4 hT4 ea4 ef4 hf4 => ?_)
            · have ok4 := ok3.f18 hT4 hf4
              first | refine B_ifne1 (tgt := 101) dX6_tellsJar_96 (by with_reducible rfl) (by decide) ?_ | refine B_ifne0 (pc2 := 99) (tgt := 101) dX6_tellsJar_96 (by with_reducible rfl) (by decide) rfl ?_ | refine N_ifne (pc2 := 99) (tgt := 101) dX6_tellsJar_96 (by with_reducible rfl) (by decide) (by omega) rfl (fun c96 => ?_) (fun c96 => ?_) | refine T_ifne (pc2 := 99) (tgt := 101) dX6_tellsJar_96 (by decide) rfl (fun c96 => ?_) (fun c96 => ?_)
              refine T_aload_n (pc2 := 102) dX6_tellsJar_101 rfl rfl ?_
              refine G_getI (pc2 := 105) dX6_tellsJar_102 flX6_35 (sh18 S) rfl (by first | with_reducible assumption | exact gs_eq _ _ _ _ | exact (gs_ne _ _ (by omega)).trans (by with_reducible assumption) | exact (gs_ne _ _ (by omega)).trans (gs_eq _ _ _ _) | exact (gs_ne _ _ (by omega)).trans ((gs_ne _ _ (by omega)).trans (by with_reducible assumption)) | exact (gs_ne _ _ (by omega)).trans ((gs_ne _ _ (by omega)).trans (gs_eq _ _ _ _)) | exact (gs_ne _ _ (by omega)).trans ((gs_ne _ _ (by omega)).trans ((gs_ne _ _ (by omega)).trans (by with_reducible assumption))) | rfl) rfl ?_
              refine T_istore (pc2 := 107) dX6_tellsJar_105 (by decide) rfl ?_
              refine T_aload_n (pc2 := 108) dX6_tellsJar_107 rfl rfl ?_
              refine T_bipush (pc2 := 110) dX6_tellsJar_108 bp59 rfl ?_
              refine C_V1 (pc2 := 113) (mc := 0) (ms := 0) dX6_tellsJar_110 cvX6_passes mlX6_27 (isO.h (sh18 S) _) (Nat.le_of_ble_eq_true rfl) rfl ?_
              refine c_passes (a0 := a0 + 1 + rn tp sz (a0 + 1) + 1 + rn tp sz (a0 + 1 + rn tp sz (a0 + 1) + 1)) S hT4 hok ea4 (by omega) (by decide) (fun hs5 => ?_) (fun hs5 => ?_)
              · have ok5 := ok4.st (k := 2) (v := nI (a0 + 1 + rn tp sz (a0 + 1) + 1 + rn tp sz (a0 + 1 + rn tp sz (a0 + 1) + 1) + 1)) (by decide)
                have hV5 : hasC (gset g4 18 2 (nI (a0 + 1 + rn tp sz (a0 + 1) + 1 + rn tp sz (a0 + 1 + rn tp sz (a0 + 1) + 1) + 1))) c V := by
                  have h2 : hasC g2 c V := (hV.fr (lo := 18) (hi := 19) (Fr.rf.st (by omega) (by omega)) (by omega)).fr hf2 (by omega)
                  exact (((h2.fr (lo := 18) (hi := 19) (Fr.rf.st (by omega) (by omega)) (by omega)).fr hf4 (by omega)).fr (lo := 18) (hi := 19) (Fr.rf.st (by omega) (by omega)) (by omega))
                first | refine B_ifne1 (tgt := 118) dX6_tellsJar_113 (by with_reducible rfl) (by decide) ?_ | refine B_ifne0 (pc2 := 116) (tgt := 118) dX6_tellsJar_113 (by with_reducible rfl) (by decide) rfl ?_ | refine N_ifne (pc2 := 116) (tgt := 118) dX6_tellsJar_113 (by with_reducible rfl) (by decide) (by omega) rfl (fun c113 => ?_) (fun c113 => ?_) | refine T_ifne (pc2 := 116) (tgt := 118) dX6_tellsJar_113 (by decide) rfl (fun c113 => ?_) (fun c113 => ?_)
                refine T_aload_n (pc2 := 119) dX6_tellsJar_118 rfl rfl ?_
                refine T_iload_n (pc2 := 120) dX6_tellsJar_119 rfl rfl ?_
                refine T_iload_n (pc2 := 121) dX6_tellsJar_120 rfl rfl ?_
                refine T_iload (pc2 := 123) dX6_tellsJar_121 rfl rfl ?_
                refine C_V3 (pc2 := 126) (mc := 0) (ms := 0) dX6_tellsJar_123 cvX2_add mlX6_55 (isO.h hc.1 _) (Nat.le_of_ble_eq_true rfl) rfl ?_
                refine c_add hc hV5 (by omega) (fun g6 hV6 hf6 => ?_)
                refine T_iconst (pc2 := 127) dX6_tellsJar_126 ic1 rfl ?_
                refine T_iret dX6_tellsJar_127 rfl (by first | rfl | decide) ?_
                have hpj : pJ tp sz V a0 = (0, a0 + 1 + rn tp sz (a0 + 1) + 1 + rn tp sz (a0 + 1 + rn tp sz (a0 + 1) + 1) + 1, V.add (kindA tp sz a0) (vl tp sz (a0 + 1)) (vl tp sz (a0 + 1 + rn tp sz (a0 + 1) + 1))) := by
                  unfold pJ
                  rw [if_neg c29, if_neg (by omega), if_neg (fun z => z hp), if_neg (by rw [hs]; decide), if_neg (fun z => z hp4), if_neg (by rw [hs5]; decide)]
                refine kt g6 (by rw [hpj]) (ok5.fc hc20 hf6) ?_ (by rw [hpj]; exact hV6)
                rw [hpj, hf6 18 (by omega), gs_eq]
              · first | refine B_ifne1 (tgt := 118) dX6_tellsJar_113 (by with_reducible rfl) (by decide) ?_ | refine B_ifne0 (pc2 := 116) (tgt := 118) dX6_tellsJar_113 (by with_reducible rfl) (by decide) rfl ?_ | refine N_ifne (pc2 := 116) (tgt := 118) dX6_tellsJar_113 (by with_reducible rfl) (by decide) (by omega) rfl (fun c113 => ?_) (fun c113 => ?_) | refine T_ifne (pc2 := 116) (tgt := 118) dX6_tellsJar_113 (by decide) rfl (fun c113 => ?_) (fun c113 => ?_)
                refine T_iconst (pc2 := 117) dX6_tellsJar_116 ic0 rfl ?_
                refine T_iret dX6_tellsJar_117 rfl (by first | rfl | decide) ?_
                have hpj : pJ tp sz V a0 = (1, a0 + 1 + rn tp sz (a0 + 1) + 1 + rn tp sz (a0 + 1 + rn tp sz (a0 + 1) + 1), V) := by
                  unfold pJ
                  rw [if_neg c29, if_neg (by omega), if_neg (fun z => z hp), if_neg (by rw [hs]; decide), if_neg (fun z => z hp4), if_pos hs5]
                refine kf _ (by rw [hpj]; show (1 : Nat) ≠ 0; decide) (ok4.st (by decide)) (by rw [hpj, gs_ne _ _ (by omega)]; exact ea4) (by rw [hpj, gs_eq])
            · first | refine B_ifne1 (tgt := 101) dX6_tellsJar_96 (by with_reducible rfl) (by decide) ?_ | refine B_ifne0 (pc2 := 99) (tgt := 101) dX6_tellsJar_96 (by with_reducible rfl) (by decide) rfl ?_ | refine N_ifne (pc2 := 99) (tgt := 101) dX6_tellsJar_96 (by with_reducible rfl) (by decide) (by omega) rfl (fun c96 => ?_) (fun c96 => ?_) | refine T_ifne (pc2 := 99) (tgt := 101) dX6_tellsJar_96 (by decide) rfl (fun c96 => ?_) (fun c96 => ?_)
              refine T_iconst (pc2 := 100) dX6_tellsJar_99 ic0 rfl ?_
              refine T_iret dX6_tellsJar_100 rfl (by first | rfl | decide) ?_
              have hpj : pJ tp sz V a0 = (pnc tp sz (a0 + 1 + rn tp sz (a0 + 1) + 1) 1 60, a0 + 1 + rn tp sz (a0 + 1) + 1, V) := by
                unfold pJ
                rw [if_neg c29, if_neg (by omega), if_neg (fun z => z hp), if_neg (by rw [hs]; decide), if_pos hp4]
              exact kf g4 (by rw [hpj]; exact hp4) (ok3.f18 hT4 hf4) (by rw [hpj]; exact ea4) (by rw [hpj]; exact ef4)
          · first | refine B_ifeq1 (pc2 := 89) (tgt := 99) dX6_tellsJar_86 (by with_reducible rfl) (by decide) rfl ?_ | refine B_ifeq0 (tgt := 99) dX6_tellsJar_86 (by with_reducible rfl) (by decide) ?_ | refine N_ifeq (pc2 := 89) (tgt := 99) dX6_tellsJar_86 (by with_reducible rfl) (by decide) (by omega) rfl (fun c86 => ?_) (fun c86 => ?_) | refine T_ifeq (pc2 := 89) (tgt := 99) dX6_tellsJar_86 (by decide) rfl (fun c86 => ?_) (fun c86 => ?_)
            refine T_iconst (pc2 := 100) dX6_tellsJar_99 ic0 rfl ?_
            refine T_iret dX6_tellsJar_100 rfl (by first | rfl | decide) ?_
            have hpj : pJ tp sz V a0 = (1, a0 + 1 + rn tp sz (a0 + 1), V) := by
              unfold pJ
              rw [if_neg c29, if_neg (by omega), if_neg (fun z => z hp), if_pos hs]
            refine kf _ (by rw [hpj]; show (1 : Nat) ≠ 0; decide) (ok2.st (by decide)) (by rw [hpj, gs_ne _ _ (by omega)]; exact ea2) (by rw [hpj, gs_eq])
        · first | refine B_ifne1 (tgt := 75) dX6_tellsJar_70 (by with_reducible rfl) (by decide) ?_ | refine B_ifne0 (pc2 := 73) (tgt := 75) dX6_tellsJar_70 (by with_reducible rfl) (by decide) rfl ?_ | refine N_ifne (pc2 := 73) (tgt := 75) dX6_tellsJar_70 (by with_reducible rfl) (by decide) (by omega) rfl (fun c70 => ?_) (fun c70 => ?_) | refine T_ifne (pc2 := 73) (tgt := 75) dX6_tellsJar_70 (by decide) rfl (fun c70 => ?_) (fun c70 => ?_)
          refine T_iconst (pc2 := 74) dX6_tellsJar_73 ic0 rfl ?_
          refine T_iret dX6_tellsJar_74 rfl (by first | rfl | decide) ?_
          have hpj : pJ tp sz V a0 = (pnc tp sz (a0 + 1) 0 11, a0 + 1, V) := by
            unfold pJ
            rw [if_neg c29, if_neg (by omega), if_pos hp]
          exact kf g2 (by rw [hpj]; exact hp) ((ok0.st (by decide)).f18 hT2 hf2) (by rw [hpj]; exact ea2) (by rw [hpj]; exact ef2)
      · refine T_aload_n (pc2 := 48) dX6_tellsJar_47 rfl rfl ?_
        refine T_iconst (pc2 := 49) dX6_tellsJar_48 ic3 rfl ?_
        refine C_V1 (pc2 := 52) (mc := 0) (ms := 0) dX6_tellsJar_49 cvX6_fails mlX6_49 (isO.h (sh18 S) _) (Nat.le_of_ble_eq_true rfl) rfl ?_
        refine c_fails S ?_
        refine T_iret dX6_tellsJar_52 rfl (by first | rfl | decide) ?_
        have hpj : pJ tp sz V a0 = (3, a0, V) := by
          unfold pJ
          rw [if_neg c29, if_pos (by omega)]
        refine kf _ (by rw [hpj]; show (3 : Nat) ≠ 0; decide) (ok0.st (by decide)) (by rw [hpj, gs_ne _ _ (by omega)]; exact ea) (by rw [hpj, gs_eq])
    · refine T_aload_n (pc2 := 33) dX6_tellsJar_32 rfl rfl ?_
      refine T_iconst (pc2 := 34) dX6_tellsJar_33 ic1 rfl ?_
      refine C_V1 (pc2 := 37) (mc := 0) (ms := 0) dX6_tellsJar_34 cvX6_fails mlX6_49 (isO.h (sh18 S) _) (Nat.le_of_ble_eq_true rfl) rfl ?_
      refine c_fails S ?_
      refine T_iret dX6_tellsJar_37 rfl (by first | rfl | decide) ?_
      have hpj : pJ tp sz V a0 = (1, a0, V) := by
        unfold pJ
        rw [if_pos c29]
      refine kf _ (by rw [hpj]; show (1 : Nat) ≠ 0; decide) (ok0.st (by decide)) (by rw [hpj, gs_ne _ _ (by omega)]; exact ea) (by rw [hpj, gs_eq])
  refine T_aload_n (pc2 := 1) dX6_tellsJar_0 rfl rfl ?_
  refine G_getI (pc2 := 4) dX6_tellsJar_1 flX6_19 (sh18 S) rfl (by first | with_reducible assumption | exact gs_eq _ _ _ _ | exact (gs_ne _ _ (by omega)).trans (by with_reducible assumption) | exact (gs_ne _ _ (by omega)).trans (gs_eq _ _ _ _) | exact (gs_ne _ _ (by omega)).trans ((gs_ne _ _ (by omega)).trans (by with_reducible assumption)) | exact (gs_ne _ _ (by omega)).trans ((gs_ne _ _ (by omega)).trans (gs_eq _ _ _ _)) | exact (gs_ne _ _ (by omega)).trans ((gs_ne _ _ (by omega)).trans ((gs_ne _ _ (by omega)).trans (by with_reducible assumption))) | rfl) rfl ?_
  refine T_aload_n (pc2 := 5) dX6_tellsJar_4 rfl rfl ?_
  refine G_getI (pc2 := 8) dX6_tellsJar_5 flX6_15 (sh18 S) rfl (by first | with_reducible assumption | exact gs_eq _ _ _ _ | exact (gs_ne _ _ (by omega)).trans (by with_reducible assumption) | exact (gs_ne _ _ (by omega)).trans (gs_eq _ _ _ _) | exact (gs_ne _ _ (by omega)).trans ((gs_ne _ _ (by omega)).trans (by with_reducible assumption)) | exact (gs_ne _ _ (by omega)).trans ((gs_ne _ _ (by omega)).trans (gs_eq _ _ _ _)) | exact (gs_ne _ _ (by omega)).trans ((gs_ne _ _ (by omega)).trans ((gs_ne _ _ (by omega)).trans (by with_reducible assumption))) | rfl) rfl ?_
  first | refine N_icmpge (pc2 := 11) (tgt := 26) dX6_tellsJar_8 (by decide) (by with_reducible rfl) (by with_reducible rfl) (by omega) (by omega) rfl (fun c8 => ?_) (fun c8 => ?_) | refine T_icmpge (pc2 := 11) (tgt := 26) dX6_tellsJar_8 (by decide) rfl (fun c8 => ?_) (fun c8 => ?_)
  · refine T_iconst (pc2 := 27) dX6_tellsJar_26 ic0 rfl ?_
    have : kindA tp sz a0 = 0 := if_neg (by omega)
    rw [this] at hmid
    exact hmid
  · have e9 := hT.2 a0 (by omega)
    refine T_aload_n (pc2 := 12) dX6_tellsJar_11 rfl rfl ?_
    refine G_getR (pc2 := 15) dX6_tellsJar_12 flX6_9 (sh18 S) rfl rfl ?_
    refine T_aload_n (pc2 := 16) dX6_tellsJar_15 rfl rfl ?_
    refine G_getI (pc2 := 19) dX6_tellsJar_16 flX6_19 (sh18 S) rfl (by first | with_reducible assumption | exact gs_eq _ _ _ _ | exact (gs_ne _ _ (by omega)).trans (by with_reducible assumption) | exact (gs_ne _ _ (by omega)).trans (gs_eq _ _ _ _) | exact (gs_ne _ _ (by omega)).trans ((gs_ne _ _ (by omega)).trans (by with_reducible assumption)) | exact (gs_ne _ _ (by omega)).trans ((gs_ne _ _ (by omega)).trans (gs_eq _ _ _ _)) | exact (gs_ne _ _ (by omega)).trans ((gs_ne _ _ (by omega)).trans ((gs_ne _ _ (by omega)).trans (by with_reducible assumption))) | rfl) rfl ?_
    refine G_iald (pc2 := 20) dX6_tellsJar_19 (sh19 S) (by omega) (by first | decide | omega) (by first | with_reducible assumption | exact gs_eq _ _ _ _ | exact (gs_ne _ _ (by omega)).trans (by with_reducible assumption) | exact (gs_ne _ _ (by omega)).trans (gs_eq _ _ _ _) | exact (gs_ne _ _ (by omega)).trans ((gs_ne _ _ (by omega)).trans (by with_reducible assumption)) | exact (gs_ne _ _ (by omega)).trans ((gs_ne _ _ (by omega)).trans (gs_eq _ _ _ _)) | exact (gs_ne _ _ (by omega)).trans ((gs_ne _ _ (by omega)).trans ((gs_ne _ _ (by omega)).trans (by with_reducible assumption))) | rfl) rfl ?_
    refine C_S1 (pc2 := 23) (mc := 0) (ms := 0) dX6_tellsJar_20 csX6_kindOf mlX6_45 (Nat.le_of_ble_eq_true rfl) rfl ?_
    refine c_kindOf (hok.2 a0 (by omega)) ?_
    refine T_goto (tgt := 27) dX6_tellsJar_23 (by decide) ?_
    have : kindA tp sz a0 = kindN (tp a0) := if_pos (by omega)
    rw [this] at hmid
    exact hmid
theorem pJ_at {tp : Nat → Nat} {sz : Nat} {V : Cel} {a0 : Nat} (ha : a0 ≤ sz) : (pJ tp sz V a0).2.1 ≤ sz := by
  have q1 : kindA tp sz a0 ≠ 0 → a0 + 1 ≤ sz := fun h => by
    apply Classical.byContradiction
    intro hn
    exact h (if_neg (by omega))
  have q2 : ∀ a c, psg tp sz a c = true → a + 1 ≤ sz := fun a c h => by
    simp [psg] at h
    omega
  have q3 : ∀ a, a ≤ sz → a + rn tp sz a ≤ sz := fun a h => by
    have := rn_le tp sz (sz - a) a rfl
    omega
  unfold pJ
  split
  · exact ha
  · rename_i h1
    have p1 := q1 h1
    have p2 := q3 _ p1
    split
    · exact ha
    · split
      · exact p1
      · split
        · exact p2
        · rename_i h4
          have p3 := q2 _ _ (Bool.not_eq_false _ ▸ h4 : psg tp sz _ 44 = true)
          have p4 := q3 _ p3
          split
          · exact p3
          · split
            · exact p4
            · rename_i h6
              exact q2 _ _ (Bool.not_eq_false _ ▸ h6 : psg tp sz _ 59 = true)
theorem pJ_J {tp : Nat → Nat} {sz : Nat} {V : Cel} {a0 : Nat} (h : (pJ tp sz V a0).1 = 0) : V.J < 8 ∧ (pJ tp sz V a0).2.2.J = V.J + 1 := by
  unfold pJ at h ⊢
  split at h
  · cases h
  · split at h
    · cases h
    · rename_i h1 h2
      split at h
      · rename_i h3; exact absurd h h3
      · split at h
        · cases h
        · split at h
          · rename_i h5; exact absurd h h5
          · split at h
            · cases h
            · rename_i h3 h4 h5 h6
              rw [if_neg h1, if_neg h2, if_neg h3, if_neg h4, if_neg h5, if_neg h6]
              exact ⟨by omega, rfl⟩
theorem okP.tr {g g2 g3 : Nat → Nat → Int32} {c : Nat} {tp : Nat → Nat} {sz : Nat} (h : okP g g2 c tp sz) (h2 : okP g2 g3 c tp sz) : okP g g3 c tp sz := ⟨h2.1, fun i a b => (h2.2 i a b).trans (h.2 i a b)⟩
theorem tellsL_loop (S : Sh sk n bf im above below) (hc : isC sk n c) (hc20 : 20 ≤ c) (hok : okT tp sz) (res : Nat × Nat × Cel)
    (kt : ∀ g2, res.1 = 0 → okP g g2 c tp sz → hasC g2 c res.2.2 → Q (some (.int (nI 1))) (HP sk g2 n))
    (kf : ∀ g2, res.1 ≠ 0 → okP g g2 c tp sz → g2 18 2 = nI res.2.1 → g2 18 3 = nI res.1 → Q (some (.int (nI 0))) (HP sk g2 n)) :
    ∀ f V a0 g2, V.J + f = 9 → V.J ≤ 8 → a0 ≤ sz → pLp tp sz f V a0 = res → hasC g2 c V → okP g g2 c tp sz → g2 18 2 = nI a0 → T MX6_tells (d + 4) kc ks 51 [(0, .ref 18), (1, .ref c), (2, .int (nI V.J))] [] (HP sk g2 n) Q := by
  have h90 := hok.1
  intro f
  induction f with
  | zero =>
    intro V a0 g2 hf h8
    omega
  | succ f ih =>
    intro V a0 g2 hf h8 ha hr hV hP ea
    have e1 := hP.1.1
    have hj : ¬ (0 < V.J ∧ a0 = sz) → T MX6_tells (d + 4) kc ks 74 [(0, .ref 18), (1, .ref c), (2, .int (nI V.J))] [] (HP sk g2 n) Q := by
      intro hno
      have hr2 : (if (pJ tp sz V a0).1 ≠ 0 then pJ tp sz V a0 else pLp tp sz f (pJ tp sz V a0).2.2 (pJ tp sz V a0).2.1) = res := by
        rw [← hr]
        exact (if_neg hno).symm
      refine T_aload_n (pc2 := 75) dX6_tells_74 rfl rfl ?_
      refine T_aload_n (pc2 := 76) dX6_tells_75 rfl rfl ?_
      refine C_V1 (pc2 := 79) (mc := 0) (ms := 0) dX6_tells_76 cvX6_tellsJar mlX6_41 (isO.h (sh18 S) _) (Nat.le_of_ble_eq_true rfl) rfl ?_
      refine c_tellsJar (V := V) S hc hc20 hV hP.1 hok ea (by omega) (by omega) (fun g3 h0 hP3 ea3 hV3 => ?_) (fun g3 h0 hP3 ea3 ef3 => ?_)
      · have hJJ := pJ_J h0
        rw [if_neg (fun z => z h0)] at hr2
        first | refine B_ifne1 (tgt := 84) dX6_tells_79 (by with_reducible rfl) (by decide) ?_ | refine B_ifne0 (pc2 := 82) (tgt := 84) dX6_tells_79 (by with_reducible rfl) (by decide) rfl ?_ | refine N_ifne (pc2 := 82) (tgt := 84) dX6_tells_79 (by with_reducible rfl) (by decide) (by omega) rfl (fun c79 => ?_) (fun c79 => ?_) | refine T_ifne (pc2 := 82) (tgt := 84) dX6_tells_79 (by decide) rfl (fun c79 => ?_) (fun c79 => ?_)
        first | refine N_iinc (pc2 := 87) dX6_tells_84 rfl (by with_reducible rfl) ic1 (by decide) rfl ?_ | refine T_iinc (pc2 := 87) dX6_tells_84 rfl rfl (by decide) rfl ?_
        refine T_goto (tgt := 51) dX6_tells_87 (by decide) ?_
        refine T_sub (lks (i := 0) rfl (lks (i := 1) rfl (lks (i := 2) rfl lk0))) ?_
        rw [← hJJ.2]
        exact ih _ _ g3 (by rw [hJJ.2]; omega) (by rw [hJJ.2]; omega) (pJ_at ha) hr2 hV3 (hP.tr hP3) ea3
      · rw [if_pos h0] at hr2
        first | refine B_ifne1 (tgt := 84) dX6_tells_79 (by with_reducible rfl) (by decide) ?_ | refine B_ifne0 (pc2 := 82) (tgt := 84) dX6_tells_79 (by with_reducible rfl) (by decide) rfl ?_ | refine N_ifne (pc2 := 82) (tgt := 84) dX6_tells_79 (by with_reducible rfl) (by decide) (by omega) rfl (fun c79 => ?_) (fun c79 => ?_) | refine T_ifne (pc2 := 82) (tgt := 84) dX6_tells_79 (by decide) rfl (fun c79 => ?_) (fun c79 => ?_)
        refine T_iconst (pc2 := 83) dX6_tells_82 ic0 rfl ?_
        refine T_iret dX6_tells_83 rfl (by first | rfl | decide) ?_
        subst hr2
        exact kf g3 h0 (hP.tr hP3) ea3 ef3
    refine T_iload_n (pc2 := 52) dX6_tells_51 rfl rfl ?_
    refine T_bipush (pc2 := 54) dX6_tells_52 bp8 rfl ?_
    first | refine N_icmpgt (pc2 := 57) (tgt := 90) dX6_tells_54 (by decide) (by with_reducible rfl) (by with_reducible rfl) (by omega) (by omega) rfl (fun c54 => ?_) (fun c54 => ?_) | refine T_icmpgt (pc2 := 57) (tgt := 90) dX6_tells_54 (by decide) rfl (fun c54 => ?_) (fun c54 => ?_)
    · exact absurd c54 (by omega)
    · refine T_iload_n (pc2 := 58) dX6_tells_57 rfl rfl ?_
      first | refine N_ifle (pc2 := 61) (tgt := 74) dX6_tells_58 (by with_reducible rfl) (by decide) (by omega) rfl (fun c58 => ?_) (fun c58 => ?_) | refine T_ifle (pc2 := 61) (tgt := 74) dX6_tells_58 (by decide) rfl (fun c58 => ?_) (fun c58 => ?_)
      · exact hj (fun z => by omega)
      · refine T_aload_n (pc2 := 62) dX6_tells_61 rfl rfl ?_
        refine G_getI (pc2 := 65) dX6_tells_62 flX6_19 (sh18 S) rfl (by first | with_reducible assumption | exact gs_eq _ _ _ _ | exact (gs_ne _ _ (by omega)).trans (by with_reducible assumption) | exact (gs_ne _ _ (by omega)).trans (gs_eq _ _ _ _) | exact (gs_ne _ _ (by omega)).trans ((gs_ne _ _ (by omega)).trans (by with_reducible assumption)) | exact (gs_ne _ _ (by omega)).trans ((gs_ne _ _ (by omega)).trans (gs_eq _ _ _ _)) | exact (gs_ne _ _ (by omega)).trans ((gs_ne _ _ (by omega)).trans ((gs_ne _ _ (by omega)).trans (by with_reducible assumption))) | rfl) rfl ?_
        refine T_aload_n (pc2 := 66) dX6_tells_65 rfl rfl ?_
        refine G_getI (pc2 := 69) dX6_tells_66 flX6_15 (sh18 S) rfl (by first | with_reducible assumption | exact gs_eq _ _ _ _ | exact (gs_ne _ _ (by omega)).trans (by with_reducible assumption) | exact (gs_ne _ _ (by omega)).trans (gs_eq _ _ _ _) | exact (gs_ne _ _ (by omega)).trans ((gs_ne _ _ (by omega)).trans (by with_reducible assumption)) | exact (gs_ne _ _ (by omega)).trans ((gs_ne _ _ (by omega)).trans (gs_eq _ _ _ _)) | exact (gs_ne _ _ (by omega)).trans ((gs_ne _ _ (by omega)).trans ((gs_ne _ _ (by omega)).trans (by with_reducible assumption))) | rfl) rfl ?_
        first | refine N_icmpne (pc2 := 72) (tgt := 74) dX6_tells_69 (by decide) (by with_reducible rfl) (by with_reducible rfl) (by omega) (by omega) rfl (fun c69 => ?_) (fun c69 => ?_) | refine T_icmpne (pc2 := 72) (tgt := 74) dX6_tells_69 (by decide) rfl (fun c69 => ?_) (fun c69 => ?_)
        · exact hj (fun z => c69 z.2)
        · refine T_iconst (pc2 := 73) dX6_tells_72 ic1 rfl ?_
          refine T_iret dX6_tells_73 rfl (by first | rfl | decide) ?_
          have : res = (0, a0, V) := by
            rw [← hr]
            exact if_pos ⟨by omega, c69⟩
          subst this
          exact kt g2 rfl hP hV
theorem c_tape (S : Sh sk n bf im above below) (hc : isC sk n c) (hc20 : 20 ≤ c) (hT : hasT g tp sz) (hok : okT tp sz)
    (kt : ∀ g2, (parse tp sz).1 = 0 → okP g g2 c tp sz → hasC g2 c (parse tp sz).2.2 → Q (some (.int (nI 1))) (HP sk g2 n))
    (kf : ∀ g2, (parse tp sz).1 ≠ 0 → okP g g2 c tp sz → g2 18 2 = nI (parse tp sz).2.1 → g2 18 3 = nI (parse tp sz).1 → Q (some (.int (nI 0))) (HP sk g2 n)) : Calls MX6_tells (d + 4) 0 0 [.ref 18, .ref c] (HP sk g n) Q := by
  refine Calls.of (by decide +kernel) (Nat.le_of_ble_eq_true rfl) ?_
  have h90 := hok.1
  have ok0 : okP g g c tp sz := ⟨hT, fun _ _ _ => rfl⟩
  have ok1 := ok0.st (k := 2) (v := nI 0) (by decide)
  refine T_aload_n (pc2 := 1) dX6_tells_0 rfl rfl ?_
  refine T_iconst (pc2 := 2) dX6_tells_1 ic0 rfl ?_
  refine G_putI (pc2 := 5) dX6_tells_2 flX6_19 (sh18 S) rfl rfl rfl rfl ?_
  refine T_aload_n (pc2 := 6) dX6_tells_5 rfl rfl ?_
  refine C_V0 (pc2 := 9) (mc := 0) (ms := 0) dX6_tells_6 cvX2_clear mlX6_22 (isO.h hc.1 _) (Nat.le_of_ble_eq_true rfl) rfl ?_
  refine c_clear hc ?_
  have hV2 : hasC (gset (gset (gset (gset g 18 2 (nI 0)) c 0 (nI 0)) c 1 (nI 0)) c 2 (nI 0)) c (C0 0) := ⟨by rw [gs_ne _ _ (by omega), gs_ne _ _ (by omega), gs_eq]; rfl, by rw [gs_ne _ _ (by omega), gs_eq]; rfl, by rw [gs_eq]; rfl, fun j hj => absurd hj (Nat.not_lt_zero j)⟩
  have ok2 : okP g (gset (gset (gset (gset g 18 2 (nI 0)) c 0 (nI 0)) c 1 (nI 0)) c 2 (nI 0)) c tp sz := ok1.fc hc20 (((Fr.rf.st (by omega) (by omega)).st (by omega) (by omega)).st (by omega) (by omega))
  have ea2 : (gset (gset (gset (gset g 18 2 (nI 0)) c 0 (nI 0)) c 1 (nI 0)) c 2 (nI 0)) 18 2 = nI 0 := by rw [gs_ne _ _ (by omega), gs_ne _ _ (by omega), gs_ne _ _ (by omega), gs_eq]
  generalize gset (gset (gset (gset g 18 2 (nI 0)) c 0 (nI 0)) c 1 (nI 0)) c 2 (nI 0) = g2 at hV2 ok2 ea2
  refine T_aload_n (pc2 := 10) dX6_tells_9 rfl rfl ?_
  refine T_bipush (pc2 := 12) dX6_tells_10 bp107 rfl ?_
  refine C_V1 (pc2 := 15) (mc := 0) (ms := 0) dX6_tells_12 cvX6_passes mlX6_27 (isO.h (sh18 S) _) (Nat.le_of_ble_eq_true rfl) rfl ?_
  refine c_passes (a0 := 0) S ok2.1 hok ea2 (by decide) (by decide) (fun hs => ?_) (fun hs => ?_)
  · have ok3 := ok2.st (k := 2) (v := nI (0 + 1)) (by decide)
    have hV3 : hasC (gset g2 18 2 (nI (0 + 1))) c (C0 0) := hV2.fr (lo := 18) (hi := 19) (Fr.rf.st (by omega) (by omega)) (by omega)
    have ea3 : gset g2 18 2 (nI (0 + 1)) 18 2 = nI 1 := gs_eq _ _ _ _
    generalize gset g2 18 2 (nI (0 + 1)) = g3 at hV3 ok3 ea3
    have r1 := rn_le tp sz (sz - 1) 1 rfl
    first | refine B_ifeq1 (pc2 := 18) (tgt := 28) dX6_tells_15 (by with_reducible rfl) (by decide) rfl ?_ | refine B_ifeq0 (tgt := 28) dX6_tells_15 (by with_reducible rfl) (by decide) ?_ | refine N_ifeq (pc2 := 18) (tgt := 28) dX6_tells_15 (by with_reducible rfl) (by decide) (by omega) rfl (fun c15 => ?_) (fun c15 => ?_) | refine T_ifeq (pc2 := 18) (tgt := 28) dX6_tells_15 (by decide) rfl (fun c15 => ?_) (fun c15 => ?_)
    refine T_aload_n (pc2 := 19) dX6_tells_18 rfl rfl ?_
    refine T_iconst (pc2 := 20) dX6_tells_19 ic0 rfl ?_
    refine T_bipush (pc2 := 22) dX6_tells_20 bp8 rfl ?_
    refine C_V2 (pc2 := 25) (mc := 0) (ms := 0) dX6_tells_22 cvX6_numbers mlX6_31 (isO.h (sh18 S) _) (Nat.le_of_ble_eq_true rfl) rfl ?_
    refine c_numbers (a0 := 1) S ok3.1 hok ea3 (by decide) (by decide) (by decide) (fun g4 hp hT4 ea4 ev4 hf4 => ?_) (fun g4 hp hT4 ea4 ef4 hf4 => ?_)
    · have ok4 := ok3.f18 hT4 hf4
      have hV4 := hV3.fr hf4 (by omega)
      first | refine B_ifne1 (tgt := 30) dX6_tells_25 (by with_reducible rfl) (by decide) ?_ | refine B_ifne0 (pc2 := 28) (tgt := 30) dX6_tells_25 (by with_reducible rfl) (by decide) rfl ?_ | refine N_ifne (pc2 := 28) (tgt := 30) dX6_tells_25 (by with_reducible rfl) (by decide) (by omega) rfl (fun c25 => ?_) (fun c25 => ?_) | refine T_ifne (pc2 := 28) (tgt := 30) dX6_tells_25 (by decide) rfl (fun c25 => ?_) (fun c25 => ?_)
      refine T_aload_n (pc2 := 31) dX6_tells_30 rfl rfl ?_
      refine T_aload_n (pc2 := 32) dX6_tells_31 rfl rfl ?_
      refine G_getI (pc2 := 35) dX6_tells_32 flX6_35 (sh18 S) rfl (by first | with_reducible assumption | exact gs_eq _ _ _ _ | exact (gs_ne _ _ (by omega)).trans (by with_reducible assumption) | exact (gs_ne _ _ (by omega)).trans (gs_eq _ _ _ _) | exact (gs_ne _ _ (by omega)).trans ((gs_ne _ _ (by omega)).trans (by with_reducible assumption)) | exact (gs_ne _ _ (by omega)).trans ((gs_ne _ _ (by omega)).trans (gs_eq _ _ _ _)) | exact (gs_ne _ _ (by omega)).trans ((gs_ne _ _ (by omega)).trans ((gs_ne _ _ (by omega)).trans (by with_reducible assumption))) | rfl) rfl ?_
      refine G_putI (pc2 := 38) dX6_tells_35 flX6_38 hc.1 rfl rfl rfl rfl ?_
      have ok5 : okP g (gset g4 c 2 (nI (vl tp sz 1))) c tp sz := ok4.fc hc20 (Fr.rf.st (by omega) (by omega))
      have hV5 : hasC (gset g4 c 2 (nI (vl tp sz 1))) c (C0 (vl tp sz 1)) := hV4.setR
      have ea5 : gset g4 c 2 (nI (vl tp sz 1)) 18 2 = nI (1 + rn tp sz 1) := by rw [gs_ne _ _ (by omega)]; exact ea4
      generalize gset g4 c 2 (nI (vl tp sz 1)) = g5 at hV5 ok5 ea5
      refine T_aload_n (pc2 := 39) dX6_tells_38 rfl rfl ?_
      refine T_bipush (pc2 := 41) dX6_tells_39 bp59 rfl ?_
      refine C_V1 (pc2 := 44) (mc := 0) (ms := 0) dX6_tells_41 cvX6_passes mlX6_27 (isO.h (sh18 S) _) (Nat.le_of_ble_eq_true rfl) rfl ?_
      refine c_passes (a0 := 1 + rn tp sz 1) S ok5.1 hok ea5 (by omega) (by decide) (fun hs5 => ?_) (fun hs5 => ?_)
      · first | refine B_ifne1 (tgt := 49) dX6_tells_44 (by with_reducible rfl) (by decide) ?_ | refine B_ifne0 (pc2 := 47) (tgt := 49) dX6_tells_44 (by with_reducible rfl) (by decide) rfl ?_ | refine N_ifne (pc2 := 47) (tgt := 49) dX6_tells_44 (by with_reducible rfl) (by decide) (by omega) rfl (fun c44 => ?_) (fun c44 => ?_) | refine T_ifne (pc2 := 47) (tgt := 49) dX6_tells_44 (by decide) rfl (fun c44 => ?_) (fun c44 => ?_)
        refine T_iconst (pc2 := 50) dX6_tells_49 ic0 rfl ?_
        refine T_istore_n (pc2 := 51) dX6_tells_50 (by decide) rfl ?_
        refine T_sub (lks (i := 0) rfl (lks (i := 1) rfl (lks (i := 2) rfl lk0))) ?_
        have hpr : pLp tp sz 9 (C0 (vl tp sz 1)) (1 + rn tp sz 1 + 1) = parse tp sz := by
          unfold parse
          rw [if_neg (by rw [hs]; decide), if_neg (fun z => z hp), if_neg (by rw [hs5]; decide)]
        have h51 : 1 + rn tp sz 1 + 1 ≤ sz := by
          simp [psg] at hs5
          omega
        exact tellsL_loop (g := g) S hc hc20 hok (parse tp sz) kt kf 9 (C0 (vl tp sz 1)) (1 + rn tp sz 1 + 1) _ (by show 0 + 9 = 9; rfl) (Nat.zero_le 8) h51 hpr (hV5.fr (lo := 18) (hi := 19) (Fr.rf.st (by omega) (by omega)) (by omega)) (ok5.st (by decide)) (gs_eq _ _ _ _)
      · first | refine B_ifne1 (tgt := 49) dX6_tells_44 (by with_reducible rfl) (by decide) ?_ | refine B_ifne0 (pc2 := 47) (tgt := 49) dX6_tells_44 (by with_reducible rfl) (by decide) rfl ?_ | refine N_ifne (pc2 := 47) (tgt := 49) dX6_tells_44 (by with_reducible rfl) (by decide) (by omega) rfl (fun c44 => ?_) (fun c44 => ?_) | refine T_ifne (pc2 := 47) (tgt := 49) dX6_tells_44 (by decide) rfl (fun c44 => ?_) (fun c44 => ?_)
        refine T_iconst (pc2 := 48) dX6_tells_47 ic0 rfl ?_
        refine T_iret dX6_tells_48 rfl (by first | rfl | decide) ?_
        have hpr : parse tp sz = (1, 1 + rn tp sz 1, C0 0) := by
          unfold parse
          rw [if_neg (by rw [hs]; decide), if_neg (fun z => z hp), if_pos hs5]
        refine kf _ (by rw [hpr]; show (1 : Nat) ≠ 0; decide) (ok5.st (by decide)) (by rw [hpr, gs_ne _ _ (by omega)]; exact ea5) (by rw [hpr, gs_eq])
    · first | refine B_ifne1 (tgt := 30) dX6_tells_25 (by with_reducible rfl) (by decide) ?_ | refine B_ifne0 (pc2 := 28) (tgt := 30) dX6_tells_25 (by with_reducible rfl) (by decide) rfl ?_ | refine N_ifne (pc2 := 28) (tgt := 30) dX6_tells_25 (by with_reducible rfl) (by decide) (by omega) rfl (fun c25 => ?_) (fun c25 => ?_) | refine T_ifne (pc2 := 28) (tgt := 30) dX6_tells_25 (by decide) rfl (fun c25 => ?_) (fun c25 => ?_)
      refine T_iconst (pc2 := 29) dX6_tells_28 ic0 rfl ?_
      refine T_iret dX6_tells_29 rfl (by first | rfl | decide) ?_
      have hpr : parse tp sz = (pnc tp sz 1 0 8, 1, C0 0) := by
        unfold parse
        rw [if_neg (by rw [hs]; decide), if_pos hp]
      exact kf g4 (by rw [hpr]; exact hp) (ok3.f18 hT4 hf4) (by rw [hpr]; exact ea4) (by rw [hpr]; exact ef4)
  · first | refine B_ifeq1 (pc2 := 18) (tgt := 28) dX6_tells_15 (by with_reducible rfl) (by decide) rfl ?_ | refine B_ifeq0 (tgt := 28) dX6_tells_15 (by with_reducible rfl) (by decide) ?_ | refine N_ifeq (pc2 := 18) (tgt := 28) dX6_tells_15 (by with_reducible rfl) (by decide) (by omega) rfl (fun c15 => ?_) (fun c15 => ?_) | refine T_ifeq (pc2 := 18) (tgt := 28) dX6_tells_15 (by decide) rfl (fun c15 => ?_) (fun c15 => ?_)
    refine T_iconst (pc2 := 29) dX6_tells_28 ic0 rfl ?_
    refine T_iret dX6_tells_29 rfl (by first | rfl | decide) ?_
    have hpr : parse tp sz = (1, 0, C0 0) := by
      unfold parse
      rw [if_pos hs]
    refine kf _ (by rw [hpr]; show (1 : Nat) ≠ 0; decide) (ok2.st (by decide)) (by rw [hpr, gs_ne _ _ (by omega)]; exact ea2) (by rw [hpr, gs_eq])
end TapeM2

