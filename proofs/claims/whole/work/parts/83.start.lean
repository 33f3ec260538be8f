/-! made new: the model; the start -/
section Model0
variable {sk : Nat → SK} {g : Nat → Nat → Int32} {Q : Option Value → SH → Prop} {d : Nat}
theorem b_model (h : sk 48 = .inl (8, bl8)) (k : ∀ sk2 g2, (∀ i, i < 48 → sk2 i = sk i) → (∀ i, 48 ≤ i → i < 62 → sk2 i = skf nf nf 0 0 i) → (∀ i, i < 49 → g2 i = g i) → (∀ i, 50 ≤ i → i < 62 → ∀ q, g2 i q = 0) → (∀ r, r < 8 → g2 49 r = -1) → Q none (HP sk2 g2 58)) : Calls MX8_init d 13 1707 [.ref 48] (HP sk g 45) Q := by
  refine Calls.of (by decide +kernel) (Nat.le_of_ble_eq_true rfl) ?_
  have B0 : Bt 48 8 sk g sk g 49 bl8 := Bt.st h
  refine T_aload_n (pc2 := 1) dX8_init_0 rfl rfl ?_
  refine T_objinit (pc2 := 4) dX8_init_1 mlX8_1 (Nat.le_of_ble_eq_true rfl) rfl ?_
  refine T_aload_n (pc2 := 5) dX8_init_4 rfl rfl ?_
  refine T_bipush (pc2 := 7) dX8_init_5 bp8 rfl ?_
  refine G_newi (N := 8) (kc := 12) (ks := 1699) (n := 45) (pc2 := 9) dX8_init_7 ai_in (by decide) rfl ?_
  have B1 := B0.arr (c := .inr (.int, 8, none)) (by decide) rfl
  refine T_dup (pc2 := 10) dX8_init_9 rfl rfl ?_
  refine T_iconst (pc2 := 11) dX8_init_10 ic0 rfl ?_
  refine T_iconst (pc2 := 12) dX8_init_11 icm1 rfl ?_
  refine G_iast (i := 49) (len := 8) (k := 0) (n := 46) (pc2 := 13) dX8_init_12 ⟨by decide, by decide, rfl⟩ (by decide) (by decide) rfl ?_
  refine T_dup (pc2 := 14) dX8_init_13 rfl rfl ?_
  refine T_iconst (pc2 := 15) dX8_init_14 ic1 rfl ?_
  refine T_iconst (pc2 := 16) dX8_init_15 icm1 rfl ?_
  refine G_iast (i := 49) (len := 8) (k := 1) (n := 46) (pc2 := 17) dX8_init_16 ⟨by decide, by decide, rfl⟩ (by decide) (by decide) rfl ?_
  refine T_dup (pc2 := 18) dX8_init_17 rfl rfl ?_
  refine T_iconst (pc2 := 19) dX8_init_18 ic2 rfl ?_
  refine T_iconst (pc2 := 20) dX8_init_19 icm1 rfl ?_
  refine G_iast (i := 49) (len := 8) (k := 2) (n := 46) (pc2 := 21) dX8_init_20 ⟨by decide, by decide, rfl⟩ (by decide) (by decide) rfl ?_
  refine T_dup (pc2 := 22) dX8_init_21 rfl rfl ?_
  refine T_iconst (pc2 := 23) dX8_init_22 ic3 rfl ?_
  refine T_iconst (pc2 := 24) dX8_init_23 icm1 rfl ?_
  refine G_iast (i := 49) (len := 8) (k := 3) (n := 46) (pc2 := 25) dX8_init_24 ⟨by decide, by decide, rfl⟩ (by decide) (by decide) rfl ?_
  refine T_dup (pc2 := 26) dX8_init_25 rfl rfl ?_
  refine T_iconst (pc2 := 27) dX8_init_26 ic4 rfl ?_
  refine T_iconst (pc2 := 28) dX8_init_27 icm1 rfl ?_
  refine G_iast (i := 49) (len := 8) (k := 4) (n := 46) (pc2 := 29) dX8_init_28 ⟨by decide, by decide, rfl⟩ (by decide) (by decide) rfl ?_
  refine T_dup (pc2 := 30) dX8_init_29 rfl rfl ?_
  refine T_iconst (pc2 := 31) dX8_init_30 ic5 rfl ?_
  refine T_iconst (pc2 := 32) dX8_init_31 icm1 rfl ?_
  refine G_iast (i := 49) (len := 8) (k := 5) (n := 46) (pc2 := 33) dX8_init_32 ⟨by decide, by decide, rfl⟩ (by decide) (by decide) rfl ?_
  refine T_dup (pc2 := 34) dX8_init_33 rfl rfl ?_
  refine T_bipush (pc2 := 36) dX8_init_34 bp6 rfl ?_
  refine T_iconst (pc2 := 37) dX8_init_36 icm1 rfl ?_
  refine G_iast (i := 49) (len := 8) (k := 6) (n := 46) (pc2 := 38) dX8_init_37 ⟨by decide, by decide, rfl⟩ (by decide) (by decide) rfl ?_
  refine T_dup (pc2 := 39) dX8_init_38 rfl rfl ?_
  refine T_bipush (pc2 := 41) dX8_init_39 bp7 rfl ?_
  refine T_iconst (pc2 := 42) dX8_init_41 icm1 rfl ?_
  refine G_iast (i := 49) (len := 8) (k := 7) (n := 46) (pc2 := 43) dX8_init_42 ⟨by decide, by decide, rfl⟩ (by decide) (by decide) rfl ?_
  have hl : ∀ r, r < 8 → (gset (gset (gset (gset (gset (gset (gset (gset (va_up g 49 (fun _ => 0)) 49 0 (-1)) 49 1 (-1)) 49 2 (-1)) 49 3 (-1)) 49 4 (-1)) 49 5 (-1)) 49 6 (-1)) 49 7 (-1)) 49 r = -1 := fun r hr => by
    have : r = 0 ∨ r = 1 ∨ r = 2 ∨ r = 3 ∨ r = 4 ∨ r = 5 ∨ r = 6 ∨ r = 7 := by omega
    rcases this with rfl | rfl | rfl | rfl | rfl | rfl | rfl | rfl <;> rfl
  have hG : ∀ i, i < 49 → (gset (gset (gset (gset (gset (gset (gset (gset (va_up g 49 (fun _ => 0)) 49 0 (-1)) 49 1 (-1)) 49 2 (-1)) 49 3 (-1)) 49 4 (-1)) 49 5 (-1)) 49 6 (-1)) 49 7 (-1)) i = g i := fun i hi => by
    rw [gs_row (by omega), gs_row (by omega), gs_row (by omega), gs_row (by omega), gs_row (by omega), gs_row (by omega), gs_row (by omega), gs_row (by omega), vu_ne (by omega)]
  generalize gset (gset (gset (gset (gset (gset (gset (gset (va_up g 49 (fun _ => 0)) 49 0 (-1)) 49 1 (-1)) 49 2 (-1)) 49 3 (-1)) 49 4 (-1)) 49 5 (-1)) 49 6 (-1)) 49 7 (-1) = g1 at hl hG ⊢
  refine G_putR (ci := 8) (kf := 2) (i := 48) (q := 49) (n := 46) (pc2 := 46) dX8_init_43 flX8_7 ⟨by decide, by decide, B1.2.2.1⟩ (Nat.le_of_ble_eq_true rfl) rfl rfl rfl rfl rfl ?_
  have B2 := B1.put (L2 := [none, none, some (.ref 49), some .null, some .null, some .null, some .null, some .null, some .null, none, some .null, none, none, none, none, none, none, none, none, some .null, some .null, none, none, none, some .null, some .null, some .null, none])
  refine T_aload_n (pc2 := 47) dX8_init_46 rfl rfl ?_
  refine T_bipush (pc2 := 49) dX8_init_47 bp8 rfl ?_
  refine G_newi (N := 8) (kc := 11) (ks := 1691) (n := 46) (pc2 := 51) dX8_init_49 ai_in (by decide) rfl ?_
  have B3 := B2.arr (c := .inr (.int, 8, none)) (by decide) rfl
  refine G_putR (ci := 8) (kf := 3) (i := 48) (q := 50) (n := 47) (pc2 := 54) dX8_init_51 flX8_13 ⟨by decide, by decide, B3.2.2.1⟩ (Nat.le_of_ble_eq_true rfl) rfl rfl rfl rfl rfl ?_
  have B4 := B3.put (L2 := [none, none, some (.ref 49), some (.ref 50), some .null, some .null, some .null, some .null, some .null, none, some .null, none, none, none, none, none, none, none, none, some .null, some .null, none, none, none, some .null, some .null, some .null, none])
  refine T_aload_n (pc2 := 55) dX8_init_54 rfl rfl ?_
  refine T_sipush (pc2 := 58) dX8_init_55 sp320 rfl ?_
  refine G_newi (N := 320) (kc := 10) (ks := 1371) (n := 47) (pc2 := 60) dX8_init_58 ai_in (by decide) rfl ?_
  have B5 := B4.arr (c := .inr (.int, 320, none)) (by decide) rfl
  refine G_putR (ci := 8) (kf := 4) (i := 48) (q := 51) (n := 48) (pc2 := 63) dX8_init_60 flX8_16 ⟨by decide, by decide, B5.2.2.1⟩ (Nat.le_of_ble_eq_true rfl) rfl rfl rfl rfl rfl ?_
  have B6 := B5.put (L2 := [none, none, some (.ref 49), some (.ref 50), some (.ref 51), some .null, some .null, some .null, some .null, none, some .null, none, none, none, none, none, none, none, none, some .null, some .null, none, none, none, some .null, some .null, some .null, none])
  refine T_aload_n (pc2 := 64) dX8_init_63 rfl rfl ?_
  refine T_bipush (pc2 := 66) dX8_init_64 bp43 rfl ?_
  refine G_newi (N := 43) (kc := 9) (ks := 1328) (n := 48) (pc2 := 68) dX8_init_66 ai_in (by decide) rfl ?_
  have B7 := B6.arr (c := .inr (.int, 43, none)) (by decide) rfl
  refine G_putR (ci := 8) (kf := 5) (i := 48) (q := 52) (n := 49) (pc2 := 71) dX8_init_68 flX8_19 ⟨by decide, by decide, B7.2.2.1⟩ (Nat.le_of_ble_eq_true rfl) rfl rfl rfl rfl rfl ?_
  have B8 := B7.put (L2 := [none, none, some (.ref 49), some (.ref 50), some (.ref 51), some (.ref 52), some .null, some .null, some .null, none, some .null, none, none, none, none, none, none, none, none, some .null, some .null, none, none, none, some .null, some .null, some .null, none])
  refine T_aload_n (pc2 := 72) dX8_init_71 rfl rfl ?_
  refine T_bipush (pc2 := 74) dX8_init_72 bp43 rfl ?_
  refine G_newi (N := 43) (kc := 8) (ks := 1285) (n := 49) (pc2 := 76) dX8_init_74 ai_in (by decide) rfl ?_
  have B9 := B8.arr (c := .inr (.int, 43, none)) (by decide) rfl
  refine G_putR (ci := 8) (kf := 6) (i := 48) (q := 53) (n := 50) (pc2 := 79) dX8_init_76 flX8_22 ⟨by decide, by decide, B9.2.2.1⟩ (Nat.le_of_ble_eq_true rfl) rfl rfl rfl rfl rfl ?_
  have B10 := B9.put (L2 := [none, none, some (.ref 49), some (.ref 50), some (.ref 51), some (.ref 52), some (.ref 53), some .null, some .null, none, some .null, none, none, none, none, none, none, none, none, some .null, some .null, none, none, none, some .null, some .null, some .null, none])
  refine T_aload_n (pc2 := 80) dX8_init_79 rfl rfl ?_
  refine T_bipush (pc2 := 82) dX8_init_80 bp43 rfl ?_
  refine G_newi (N := 43) (kc := 7) (ks := 1242) (n := 50) (pc2 := 84) dX8_init_82 ai_in (by decide) rfl ?_
  have B11 := B10.arr (c := .inr (.int, 43, none)) (by decide) rfl
  refine G_putR (ci := 8) (kf := 7) (i := 48) (q := 54) (n := 51) (pc2 := 87) dX8_init_84 flX8_25 ⟨by decide, by decide, B11.2.2.1⟩ (Nat.le_of_ble_eq_true rfl) rfl rfl rfl rfl rfl ?_
  have B12 := B11.put (L2 := [none, none, some (.ref 49), some (.ref 50), some (.ref 51), some (.ref 52), some (.ref 53), some (.ref 54), some .null, none, some .null, none, none, none, none, none, none, none, none, some .null, some .null, none, none, none, some .null, some .null, some .null, none])
  refine T_aload_n (pc2 := 88) dX8_init_87 rfl rfl ?_
  refine T_sipush (pc2 := 91) dX8_init_88 sp1032 rfl ?_
  refine G_newi (N := 1032) (kc := 6) (ks := 210) (n := 51) (pc2 := 93) dX8_init_91 ai_in (by decide) rfl ?_
  have B13 := B12.arr (c := .inr (.int, 1032, none)) (by decide) rfl
  refine G_putR (ci := 8) (kf := 8) (i := 48) (q := 55) (n := 52) (pc2 := 96) dX8_init_93 flX8_28 ⟨by decide, by decide, B13.2.2.1⟩ (Nat.le_of_ble_eq_true rfl) rfl rfl rfl rfl rfl ?_
  have B14 := B13.put (L2 := [none, none, some (.ref 49), some (.ref 50), some (.ref 51), some (.ref 52), some (.ref 53), some (.ref 54), some (.ref 55), none, some .null, none, none, none, none, none, none, none, none, some .null, some .null, none, none, none, some .null, some .null, some .null, none])
  refine T_aload_n (pc2 := 97) dX8_init_96 rfl rfl ?_
  refine T_bipush (pc2 := 99) dX8_init_97 bp90 rfl ?_
  refine G_newi (N := 90) (kc := 5) (ks := 120) (n := 52) (pc2 := 101) dX8_init_99 ai_in (by decide) rfl ?_
  have B15 := B14.arr (c := .inr (.int, 90, none)) (by decide) rfl
  refine G_putR (ci := 8) (kf := 10) (i := 48) (q := 56) (n := 53) (pc2 := 104) dX8_init_101 flX8_31 ⟨by decide, by decide, B15.2.2.1⟩ (Nat.le_of_ble_eq_true rfl) rfl rfl rfl rfl rfl ?_
  have B16 := B15.put (L2 := [none, none, some (.ref 49), some (.ref 50), some (.ref 51), some (.ref 52), some (.ref 53), some (.ref 54), some (.ref 55), none, some (.ref 56), none, none, none, none, none, none, none, none, some .null, some .null, none, none, none, some .null, some .null, some .null, none])
  refine T_aload_n (pc2 := 105) dX8_init_104 rfl rfl ?_
  refine T_bipush (pc2 := 107) dX8_init_105 bp8 rfl ?_
  refine G_newi (N := 8) (kc := 4) (ks := 112) (n := 53) (pc2 := 109) dX8_init_107 ai_in (by decide) rfl ?_
  have B17 := B16.arr (c := .inr (.int, 8, none)) (by decide) rfl
  refine G_putR (ci := 8) (kf := 19) (i := 48) (q := 57) (n := 54) (pc2 := 112) dX8_init_109 flX8_34 ⟨by decide, by decide, B17.2.2.1⟩ (Nat.le_of_ble_eq_true rfl) rfl rfl rfl rfl rfl ?_
  have B18 := B17.put (L2 := [none, none, some (.ref 49), some (.ref 50), some (.ref 51), some (.ref 52), some (.ref 53), some (.ref 54), some (.ref 55), none, some (.ref 56), none, none, none, none, none, none, none, none, some (.ref 57), some .null, none, none, none, some .null, some .null, some .null, none])
  refine T_aload_n (pc2 := 113) dX8_init_112 rfl rfl ?_
  refine T_bipush (pc2 := 115) dX8_init_113 bp8 rfl ?_
  refine G_newi (N := 8) (kc := 3) (ks := 104) (n := 54) (pc2 := 117) dX8_init_115 ai_in (by decide) rfl ?_
  have B19 := B18.arr (c := .inr (.int, 8, none)) (by decide) rfl
  refine G_putR (ci := 8) (kf := 20) (i := 48) (q := 58) (n := 55) (pc2 := 120) dX8_init_117 flX8_37 ⟨by decide, by decide, B19.2.2.1⟩ (Nat.le_of_ble_eq_true rfl) rfl rfl rfl rfl rfl ?_
  have B20 := B19.put (L2 := [none, none, some (.ref 49), some (.ref 50), some (.ref 51), some (.ref 52), some (.ref 53), some (.ref 54), some (.ref 55), none, some (.ref 56), none, none, none, none, none, none, none, none, some (.ref 57), some (.ref 58), none, none, none, some .null, some .null, some .null, none])
  refine T_aload_n (pc2 := 121) dX8_init_120 rfl rfl ?_
  refine T_iconst (pc2 := 122) dX8_init_121 ic2 rfl ?_
  refine G_newz (N := 2) (kc := 2) (ks := 102) (n := 55) (pc2 := 124) dX8_init_122 az_in (by decide) rfl ?_
  have B21 := B20.arr (c := .inr (.boolean, 2, none)) (by decide) rfl
  refine G_putR (ci := 8) (kf := 24) (i := 48) (q := 59) (n := 56) (pc2 := 127) dX8_init_124 flX8_40 ⟨by decide, by decide, B21.2.2.1⟩ (Nat.le_of_ble_eq_true rfl) rfl rfl rfl rfl rfl ?_
  have B22 := B21.put (L2 := [none, none, some (.ref 49), some (.ref 50), some (.ref 51), some (.ref 52), some (.ref 53), some (.ref 54), some (.ref 55), none, some (.ref 56), none, none, none, none, none, none, none, none, some (.ref 57), some (.ref 58), none, none, none, some (.ref 59), some .null, some .null, none])
  refine T_aload_n (pc2 := 128) dX8_init_127 rfl rfl ?_
  refine T_bipush (pc2 := 130) dX8_init_128 bp86 rfl ?_
  refine G_newi (N := 86) (kc := 1) (ks := 16) (n := 56) (pc2 := 132) dX8_init_130 ai_in (by decide) rfl ?_
  have B23 := B22.arr (c := .inr (.int, 86, none)) (by decide) rfl
  refine G_putR (ci := 8) (kf := 25) (i := 48) (q := 60) (n := 57) (pc2 := 135) dX8_init_132 flX8_44 ⟨by decide, by decide, B23.2.2.1⟩ (Nat.le_of_ble_eq_true rfl) rfl rfl rfl rfl rfl ?_
  have B24 := B23.put (L2 := [none, none, some (.ref 49), some (.ref 50), some (.ref 51), some (.ref 52), some (.ref 53), some (.ref 54), some (.ref 55), none, some (.ref 56), none, none, none, none, none, none, none, none, some (.ref 57), some (.ref 58), none, none, none, some (.ref 59), some (.ref 60), some .null, none])
  refine T_aload_n (pc2 := 136) dX8_init_135 rfl rfl ?_
  refine T_bipush (pc2 := 138) dX8_init_136 bp16 rfl ?_
  refine G_newi (N := 16) (kc := 0) (ks := 0) (n := 57) (pc2 := 140) dX8_init_138 ai_in (by decide) rfl ?_
  have B25 := B24.arr (c := .inr (.int, 16, none)) (by decide) rfl
  refine G_putR (ci := 8) (kf := 26) (i := 48) (q := 61) (n := 58) (pc2 := 143) dX8_init_140 flX8_47 ⟨by decide, by decide, B25.2.2.1⟩ (Nat.le_of_ble_eq_true rfl) rfl rfl rfl rfl rfl ?_
  have B26 := B25.put (L2 := [none, none, some (.ref 49), some (.ref 50), some (.ref 51), some (.ref 52), some (.ref 53), some (.ref 54), some (.ref 55), none, some (.ref 56), none, none, none, none, none, none, none, none, some (.ref 57), some (.ref 58), none, none, none, some (.ref 59), some (.ref 60), some (.ref 61), none])
  refine T_ret dX8_init_143 rfl ?_
  refine k _ _ B26.1 (fun i h1 h2 => ?_) (fun i hi => ?_) (fun i h1 h2 q => ?_) (fun r hr => ?_)
  · by_cases e : i = 48
    · subst e
      exact B26.2.2.1
    · exact B26.2.2.2.1 i (by omega) h2
  · rw [vu_ne (by omega), vu_ne (by omega), vu_ne (by omega), vu_ne (by omega), vu_ne (by omega), vu_ne (by omega), vu_ne (by omega), vu_ne (by omega), vu_ne (by omega), vu_ne (by omega), vu_ne (by omega), vu_ne (by omega)]
    exact hG i hi
  · have : i = 50 ∨ i = 51 ∨ i = 52 ∨ i = 53 ∨ i = 54 ∨ i = 55 ∨ i = 56 ∨ i = 57 ∨ i = 58 ∨ i = 59 ∨ i = 60 ∨ i = 61 := by omega
    rcases this with rfl | rfl | rfl | rfl | rfl | rfl | rfl | rfl | rfl | rfl | rfl | rfl <;> rfl
  · exact hl r hr
end Model0
def S0 : ST := ((fun _ => false, fun _ => 0, fun _ => 0, fun _ _ => 0), fun _ => 0, 0, C0 0, fun _ => C0 0, 0, fun _ => none, 0, 0, [])
theorem okV0 : okV (C0 0) := ⟨⟨Nat.zero_le 8, show (0 : Nat) < 100000 by decide, Nat.zero_le 8, fun j hj => absurd hj (Nat.not_lt_zero j), fun i j hi => absurd hi (Nat.not_lt_zero i)⟩, Nat.zero_le 999⟩
theorem ok_S0 : Ok S0 := ⟨(fun r _ h => by cases h), ⟨Nat.zero_le 90, fun i hi => absurd hi (Nat.not_lt_zero i)⟩, okV0, Nat.zero_le 24, fun i hi => absurd hi (Nat.not_lt_zero i), (fun k U h => by cases h), by decide, by decide, Nat.zero_le 16⟩
theorem JJ_S0 {sk : Nat → SK} {g : Nat → Nat → Int32} (h1 : isX sk 1 6) (h2 : isX sk 2 6) (h3 : isX sk 3 6) (hst : stat g) (hs : ∀ i, 4 ≤ i → i < 62 → sk i = skf nf nf 0 0 i) (hz : ∀ i, 4 ≤ i → i < 48 → ∀ q, g i q = 0) : JJ sk g 58 nf nf 0 0 0 S0 := by
  have z : ∀ i, 4 ≤ i → i < 48 → ∀ q, g i q = nI 0 := fun i a b q => hz i a b q
  refine ⟨⟨Nat.le_refl _, h1, h2, h3, hs⟩, ⟨0, rfl, (fun i b h => by cases h), (fun i b h => by cases h), (fun i j b h => by cases h), (fun i j b h => by cases h), (fun i j b h => by cases h)⟩, hst, fun r hr => ⟨z 6 (by decide) (by decide) r, (fun h => by cases h)⟩, ⟨z 18 (by decide) (by decide) 1, fun i hi => absurd hi (Nat.not_lt_zero i)⟩, ⟨z 20 (by decide) (by decide) 0, z 20 (by decide) (by decide) 1, z 20 (by decide) (by decide) 2, fun j hj => absurd hj (Nat.not_lt_zero j)⟩, ⟨z 32 (by decide) (by decide) 1, by decide, z 32 (by decide) (by decide) 2⟩, fun i hi => absurd hi (Nat.not_lt_zero i), ?_, fun k hk => ⟨fun _ => rfl, (fun U h => by cases h)⟩, z 4 (by decide) (by decide) 8, z 4 (by decide) (by decide) 9⟩
  exact ⟨z 45 (by decide) (by decide) 1, (fun i v h => by cases h)⟩
theorem InvM_S0 {g : Nat → Nat → Int32} (h49 : ∀ r, r < 8 → g 49 r = -1) (h48 : ∀ q, g 48 q = 0) (hz : ∀ i, 50 ≤ i → i < 62 → ∀ q, g i q = 0) : InvM g S0 := by
  have z : ∀ i, 50 ≤ i → i < 62 → ∀ q, g i q = nI 0 := fun i a b q => hz i a b q
  have z8 : ∀ q, g 48 q = nI 0 := h48
  exact ⟨fun r hr => ⟨fun _ => h49 r hr, (fun h => by cases h)⟩, ⟨z8 11, fun i hi => absurd hi (Nat.not_lt_zero i)⟩, ⟨z 52 (by decide) (by decide) 0, z 52 (by decide) (by decide) 1, z 52 (by decide) (by decide) 2, fun j hj => absurd hj (Nat.not_lt_zero j)⟩, z8 9, fun i hi => absurd hi (Nat.not_lt_zero i), ⟨z8 27, (fun i v h => by cases h)⟩, fun k hk => ⟨fun _ => z 59 (by decide) (by decide) k, (fun U h => by cases h)⟩, z8 18, z8 1⟩
/-- what the other side changes is apart -/
theorem JJ.m {sk : Nat → SK} {g g2 : Nat → Nat → Int32} {n : Nat} {bf im : Nat → Option Nat} {above below : Int64} {nx : Nat} {s : ST} (h : JJ sk g n bf im above below nx s) (f : Fr 48 62 g g2) : JJ sk g2 n bf im above below nx s := by
  obtain ⟨h1, h2, h3, h4, h5, h6, h7, h8, h9, h10, h11, h12⟩ := h
  refine ⟨h1, h2, h3.cg (fun i _ _ => f i (by omega)), h4.cg (fun i _ _ => f i (by omega)), h5.cg (fun i _ _ => f i (by omega)), h6.cg (fun i _ _ => f i (by omega)), ?_, h8.cg h2 (fun i _ => f i (by omega)), h9.cg (fun i _ _ => f i (by omega)), h10.cg h2 (fun k b hb i q1 q2 => ?_), ?_, ?_⟩
  · rw [f 32 (by omega)]; exact h7
  · obtain ⟨T, -, -, hI, -⟩ := h2
    obtain ⟨t, -, hb2, -⟩ := hI k b hb
    exact f i (by omega)
  · rw [f 4 (by omega)]; exact h11
  · rw [f 4 (by omega)]; exact h12
theorem InvM.fj {sk sk2 : Nat → SK} {g g2 : Nat → Nat → Int32} {s : ST} (h : InvM g s) (f : FrJ sk g sk2 g2) : InvM g2 s := by
  have e : ∀ i, 48 ≤ i → i < 62 → g2 i = g i := fun i a b => f.2 i (Or.inr ⟨a, b⟩)
  unfold InvM hasRm at h ⊢
  rw [e 48 (by decide) (by decide), e 49 (by decide) (by decide), e 50 (by decide) (by decide), e 51 (by decide) (by decide), e 52 (by decide) (by decide), e 55 (by decide) (by decide), e 56 (by decide) (by decide), e 59 (by decide) (by decide), e 60 (by decide) (by decide), e 61 (by decide) (by decide)]
  exact h

