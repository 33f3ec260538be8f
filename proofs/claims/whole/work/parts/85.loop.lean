/-! the law: its loop -/
theorem lgt0 : ∀ L, L < 7 → ∀ i, i < 500 → nI L - nI 7 < nI i := by decide +kernel
theorem lgt {L i : Nat} (hL : L ≤ 448) (hi : i < 500) : nI L - nI 7 < nI i ↔ L < i + 7 := by
  by_cases h : L < 7
  · exact ⟨fun _ => by omega, fun _ => lgt0 L h i hi⟩
  · rw [pk_sub (by omega), nI_ltI (by omega) (by omega)]
    omega
section LawL
variable {Q : Option Value → SH → Prop} {d L : Nat} {xs : Nat → Int32}
theorem law_loop (hL : L ≤ 448) (k : ∀ h, Q (some (.int (nI 1))) h) : ∀ m i sk g n s kc ks, L ≤ i + 7 * m + 6 → i < 500 → 144 * m ≤ kc → 1152 * m ≤ ks → isX sk 0 L → (∀ j, j < L → g 0 j = xs j) → InvJ sk g n s → InvM g s → Ok s → T ML_law (d + 12) kc ks 18 (lawL i) [] (HP sk g n) Q := by
  intro m
  induction m with
  | zero =>
    intro i sk g n s kc ks hm hi hkc hks hX0 hx hJ hM hok
    refine T_iload_n (pc2 := 19) dL_law_18 rfl rfl ?_
    refine T_aload_n (pc2 := 20) dL_law_19 rfl rfl ?_
    refine T_xlen (pc2 := 21) dL_law_20 (isX.h hX0 _ _) rfl rfl ?_
    refine T_bipush (pc2 := 23) dL_law_21 bp7 rfl ?_
    first | refine N_isub (pc2 := 24) dL_law_23 (by with_reducible rfl) (by with_reducible rfl) (by omega) rfl ?_ | refine T_isub (pc2 := 24) dL_law_23 rfl ?_
    refine T_icmpgt (pc2 := 27) (tgt := 1423) dL_law_24 (by decide) rfl (fun c24 => ?_) (fun c24 => ?_)
    · refine T_iconst (pc2 := 1424) dL_law_1423 ic1 rfl ?_
      refine T_iret dL_law_1424 rfl (by first | rfl | decide) ?_
      exact k _
    · have c24 : ¬ nI L - nI 7 < nI i := c24
      rw [lgt hL hi] at c24
      omega
  | succ m ih =>
    intro i sk g n s kc ks hm hi hkc hks hX0 hx hJ hM hok
    refine T_iload_n (pc2 := 19) dL_law_18 rfl rfl ?_
    refine T_aload_n (pc2 := 20) dL_law_19 rfl rfl ?_
    refine T_xlen (pc2 := 21) dL_law_20 (isX.h hX0 _ _) rfl rfl ?_
    refine T_bipush (pc2 := 23) dL_law_21 bp7 rfl ?_
    first | refine N_isub (pc2 := 24) dL_law_23 (by with_reducible rfl) (by with_reducible rfl) (by omega) rfl ?_ | refine T_isub (pc2 := 24) dL_law_23 rfl ?_
    refine T_icmpgt (pc2 := 27) (tgt := 1423) dL_law_24 (by decide) rfl (fun c24 => ?_) (fun c24 => ?_)
    · refine T_iconst (pc2 := 1424) dL_law_1423 ic1 rfl ?_
      refine T_iret dL_law_1424 rfl (by first | rfl | decide) ?_
      exact k _
    · have c24 : ¬ nI L - nI 7 < nI i := c24
      rw [lgt hL hi] at c24
      have hi7 : i + 7 ≤ L := by omega
      have x0 := hx i (by omega)
      refine T.more (kc := 144 * m + 144) (ks := 1152 * m + 1152) ?_ (by omega) (by omega)
      refine T_aload_n (pc2 := 28) dL_law_27 rfl rfl ?_
      refine T_iload_n (pc2 := 29) dL_law_28 rfl rfl ?_
      refine G_xald (pc2 := 30) dL_law_29 hX0 (by omega) (by first | decide | omega) (by first | with_reducible assumption | exact gs_eq _ _ _ _ | exact (gs_ne _ _ (by omega)).trans (by with_reducible assumption) | exact (gs_ne _ _ (by omega)).trans (gs_eq _ _ _ _) | exact (gs_ne _ _ (by omega)).trans ((gs_ne _ _ (by omega)).trans (by with_reducible assumption)) | exact (gs_ne _ _ (by omega)).trans ((gs_ne _ _ (by omega)).trans (gs_eq _ _ _ _)) | exact (gs_ne _ _ (by omega)).trans ((gs_ne _ _ (by omega)).trans ((gs_ne _ _ (by omega)).trans (by with_reducible assumption))) | rfl) rfl ?_
      refine T_bipush (pc2 := 32) dL_law_30 bp63 rfl ?_
      refine T_iand (pc2 := 33) dL_law_32 rfl ?_
      obtain ⟨q, hq, e⟩ := and63 (xs i)
      rw [e]
      have kn : Kn Q d m i L xs := by
        intro sk2 g2 n2 s2 kc2 ks2 h1 h2 h3 h4 h5 h6 h7
        first | refine N_iinc (pc2 := 1420) dL_law_1417 rfl (by with_reducible rfl) ic7 (by decide) rfl ?_ | refine T_iinc (pc2 := 1420) dL_law_1417 rfl rfl (by decide) rfl ?_
        refine T_goto (tgt := 18) dL_law_1420 (by decide) ?_
        refine T_sub (lks (i := 0) rfl (lks (i := 1) rfl (lks (i := 2) rfl (lks (i := 3) rfl lk0)))) ?_
        exact ih (i + 7) sk2 g2 n2 s2 kc2 ks2 (by omega) (by omega) h1 h2 h3 h4 h5 h6 h7
      obtain ⟨bf, im, ab, be, nx, hJ⟩ := hJ
      have hcs : q = 0 ∨ q = 1 ∨ q = 2 ∨ q = 3 ∨ q = 4 ∨ q = 5 ∨ q = 6 ∨ q = 7 ∨ q = 8 ∨ q = 9 ∨ q = 10 ∨ q = 11 ∨ q = 12 ∨ q = 13 ∨ q = 14 ∨ q = 15 ∨ q = 16 ∨ q = 17 ∨ q = 18 ∨ q = 19 ∨ q = 20 ∨ q = 21 ∨ q = 22 ∨ q = 23 ∨ q = 24 ∨ q = 25 ∨ q = 26 ∨ q = 27 ∨ q = 28 ∨ q = 29 ∨ q = 30 ∨ q = 31 ∨ q = 32 ∨ q = 33 ∨ q = 34 ∨ q = 35 ∨ q = 36 ∨ q = 37 ∨ 38 ≤ q := by omega
      rcases hcs with rfl | rfl | rfl | rfl | rfl | rfl | rfl | rfl | rfl | rfl | rfl | rfl | rfl | rfl | rfl | rfl | rfl | rfl | rfl | rfl | rfl | rfl | rfl | rfl | rfl | rfl | rfl | rfl | rfl | rfl | rfl | rfl | rfl | rfl | rfl | rfl | rfl | rfl | h38
      · refine T_tableIn (off := 167) (tgt := 200) dL_law_33 (by decide) (by decide) (by decide) (by decide) ?_
        exact lc_row hX0 hx hL hi7 hJ hM hok kn
      · refine T_tableIn (off := 210) (tgt := 243) dL_law_33 (by decide) (by decide) (by decide) (by decide) ?_
        exact lc_set hX0 hx hL hi7 hJ hM hok kn
      · refine T_tableIn (off := 253) (tgt := 286) dL_law_33 (by decide) (by decide) (by decide) (by decide) ?_
        exact lc_copy hX0 hx hL hi7 hJ hM hok kn
      · refine T_tableIn (off := 316) (tgt := 349) dL_law_33 (by decide) (by decide) (by decide) (by decide) ?_
        exact lc_drop hX0 hx hL hi7 hJ hM hok kn
      · refine T_tableIn (off := 339) (tgt := 372) dL_law_33 (by decide) (by decide) (by decide) (by decide) ?_
        exact lc_feed hX0 hx hL hi7 hJ hM hok kn
      · refine T_tableIn (off := 362) (tgt := 395) dL_law_33 (by decide) (by decide) (by decide) (by decide) ?_
        exact lc_cellar hX0 hx hL hi7 hJ hM hok kn
      · refine T_tableIn (off := 375) (tgt := 408) dL_law_33 (by decide) (by decide) (by decide) (by decide) ?_
        exact lc_fault hX0 hx hL hi7 hJ hM hok kn
      · refine T_tableIn (off := 388) (tgt := 421) dL_law_33 (by decide) (by decide) (by decide) (by decide) ?_
        exact lc_undo hX0 hx hL hi7 hJ hM hok kn
      · refine T_tableIn (off := 401) (tgt := 434) dL_law_33 (by decide) (by decide) (by decide) (by decide) ?_
        exact lc_years hX0 hx hL hi7 hJ hM hok kn
      · refine T_tableIn (off := 424) (tgt := 457) dL_law_33 (by decide) (by decide) (by decide) (by decide) ?_
        exact lc_sneeze hX0 hx hL hi7 hJ hM hok kn
      · refine T_tableIn (off := 457) (tgt := 490) dL_law_33 (by decide) (by decide) (by decide) (by decide) ?_
        exact lc_open hX0 hx hL hi7 hJ hM hok kn
      · refine T_tableIn (off := 480) (tgt := 513) dL_law_33 (by decide) (by decide) (by decide) (by decide) ?_
        exact lc_change hX0 hx hL hi7 hJ hM hok kn
      · refine T_tableIn (off := 513) (tgt := 546) dL_law_33 (by decide) (by decide) (by decide) (by decide) ?_
        exact lc_seal hX0 hx hL hi7 hJ hM hok kn
      · refine T_tableIn (off := 556) (tgt := 589) dL_law_33 (by decide) (by decide) (by decide) (by decide) ?_
        exact lc_reach hX0 hx hL hi7 hJ hM hok kn
      · refine T_tableIn (off := 579) (tgt := 612) dL_law_33 (by decide) (by decide) (by decide) (by decide) ?_
        exact lc_jar hX0 hx hL hi7 hJ hM hok kn
      · refine T_tableIn (off := 612) (tgt := 645) dL_law_33 (by decide) (by decide) (by decide) (by decide) ?_
        exact lc_stand hX0 hx hL hi7 hJ hM hok kn
      · refine T_tableIn (off := 635) (tgt := 668) dL_law_33 (by decide) (by decide) (by decide) (by decide) ?_
        exact lc_chain hX0 hx hL hi7 hJ hM hok kn
      · refine T_tableIn (off := 678) (tgt := 711) dL_law_33 (by decide) (by decide) (by decide) (by decide) ?_
        exact lc_worst hX0 hx hL hi7 hJ hM hok kn
      · refine T_tableIn (off := 701) (tgt := 734) dL_law_33 (by decide) (by decide) (by decide) (by decide) ?_
        exact lc_when hX0 hx hL hi7 hJ hM hok kn
      · refine T_tableIn (off := 724) (tgt := 757) dL_law_33 (by decide) (by decide) (by decide) (by decide) ?_
        exact lc_kept hX0 hx hL hi7 hJ hM hok kn
      · refine T_tableIn (off := 747) (tgt := 780) dL_law_33 (by decide) (by decide) (by decide) (by decide) ?_
        exact lc_guard hX0 hx hL hi7 hJ hM hok kn
      · refine T_tableIn (off := 800) (tgt := 833) dL_law_33 (by decide) (by decide) (by decide) (by decide) ?_
        exact lc_changes hX0 hx hL hi7 hJ hM hok kn
      · refine T_tableIn (off := 823) (tgt := 856) dL_law_33 (by decide) (by decide) (by decide) (by decide) ?_
        exact lc_tuned hX0 hx hL hi7 hJ hM hok kn
      · refine T_tableIn (off := 856) (tgt := 889) dL_law_33 (by decide) (by decide) (by decide) (by decide) ?_
        exact lc_spared hX0 hx hL hi7 hJ hM hok kn
      · refine T_tableIn (off := 879) (tgt := 912) dL_law_33 (by decide) (by decide) (by decide) (by decide) ?_
        exact lc_alike hX0 hx hL hi7 hJ hM hok kn
      · refine T_tableIn (off := 902) (tgt := 935) dL_law_33 (by decide) (by decide) (by decide) (by decide) ?_
        exact lc_song hX0 hx hL hi7 hJ hM hok kn
      · refine T_tableIn (off := 955) (tgt := 988) dL_law_33 (by decide) (by decide) (by decide) (by decide) ?_
        exact lc_who hX0 hx hL hi7 hJ hM hok kn
      · refine T_tableIn (off := 1030) (tgt := 1063) dL_law_33 (by decide) (by decide) (by decide) (by decide) ?_
        exact lc_reaches hX0 hx hL hi7 hJ hM hok kn
      · refine T_tableIn (off := 1083) (tgt := 1116) dL_law_33 (by decide) (by decide) (by decide) (by decide) ?_
        exact lc_mould hX0 hx hL hi7 hJ hM hok kn
      · refine T_tableIn (off := 1147) (tgt := 1180) dL_law_33 (by decide) (by decide) (by decide) (by decide) ?_
        exact lc_drawn hX0 hx hL hi7 hJ hM hok kn
      · refine T_tableIn (off := 1190) (tgt := 1223) dL_law_33 (by decide) (by decide) (by decide) (by decide) ?_
        exact lc_image hX0 hx hL hi7 hJ hM hok kn
      · refine T_tableIn (off := 1213) (tgt := 1246) dL_law_33 (by decide) (by decide) (by decide) (by decide) ?_
        exact lc_restore hX0 hx hL hi7 hJ hM hok kn
      · refine T_tableIn (off := 1236) (tgt := 1269) dL_law_33 (by decide) (by decide) (by decide) (by decide) ?_
        exact lc_kind hX0 hx hL hi7 hJ hM hok kn
      · refine T_tableIn (off := 1259) (tgt := 1292) dL_law_33 (by decide) (by decide) (by decide) (by decide) ?_
        exact lc_as hX0 hx hL hi7 hJ hM hok kn
      · refine T_tableIn (off := 1292) (tgt := 1325) dL_law_33 (by decide) (by decide) (by decide) (by decide) ?_
        exact lc_ask hX0 hx hL hi7 hJ hM hok kn
      · refine T_tableIn (off := 1325) (tgt := 1358) dL_law_33 (by decide) (by decide) (by decide) (by decide) ?_
        exact lc_trace hX0 hx hL hi7 hJ hM hok kn
      · refine T_tableIn (off := 1348) (tgt := 1381) dL_law_33 (by decide) (by decide) (by decide) (by decide) ?_
        exact lc_count hX0 hx hL hi7 hJ hM hok kn
      · refine T_tableIn (off := 1371) (tgt := 1404) dL_law_33 (by decide) (by decide) (by decide) (by decide) ?_
        exact lc_status hX0 hx hL hi7 hJ hM hok kn
      · refine T_tableOut (tgt := 1417) dL_law_33 (Or.inr (by rw [nI_toInt (by omega)]; omega)) (by decide) ?_
        exact kn sk g n s _ _ (by omega) (by omega) hX0 hx ⟨_, _, _, _, _, hJ⟩ hM hok
theorem law_all {sk : Nat → SK} {g : Nat → Nat → Int32} (hL : L ≤ 448) (k : ∀ h, Q (some (.int (nI 1))) h) (hX0 : isX sk 0 L) (h1 : isX sk 1 6) (h2 : isX sk 2 6) (h3 : isX sk 3 6) (hst : stat g) (hx : ∀ j, j < L → g 0 j = xs j) : T ML_law (d + 12) 9274 76156 0 [(0, .ref 0)] [] (HP sk g 0) Q := by
  refine G_new (kc := 9273) (ks := 76146) (n := 0) (pc2 := 3) (ci := 7) (L := bl7) dL_law_0 (by decide) clL_7 insX7 iniX7 bl7_ok rfl ?_
  refine T_dup (pc2 := 4) dL_law_3 rfl rfl ?_
  refine T_callI (As := []) (i := 4) (kc := 9230) (ks := 75463) (mc := 43) (ms := 683) (pc2 := 7) dL_law_4 ciX7_init mlL_9 rfl (Nat.le_of_ble_eq_true rfl) rfl ?_
  refine b_jar (d := d + 9) rfl (fun sk2 g2 B => ?_)
  refine T_astore_n (pc2 := 8) dL_law_7 (by decide) rfl ?_
  refine G_new (kc := 9229) (ks := 75435) (n := 44) (pc2 := 11) (ci := 8) (L := bl8) dL_law_8 (by decide) clL_10 insX8 iniX8 bl8_ok rfl ?_
  refine T_dup (pc2 := 12) dL_law_11 rfl rfl ?_
  refine T_callI (As := []) (i := 48) (kc := 9216) (ks := 73728) (mc := 13) (ms := 1707) (pc2 := 15) dL_law_12 ciX8_init mlL_12 rfl (Nat.le_of_ble_eq_true rfl) rfl ?_
  refine b_model rfl (fun sk3 g3 c1 c2 c3 c4 c5 => ?_)
  refine T_astore_n (pc2 := 16) dL_law_15 (by decide) rfl ?_
  refine T_iconst (pc2 := 17) dL_law_16 ic0 rfl ?_
  refine T_istore_n (pc2 := 18) dL_law_17 (by decide) rfl ?_
  refine T_sub (lks (i := 0) rfl (lks (i := 1) rfl (lks (i := 2) rfl (lks (i := 3) rfl lk0)))) ?_
  obtain ⟨b1, b2, b3, b4, b5⟩ := B
  have s48 : ∀ i, i < 48 → sk3 i = sk2 i := fun i hi => by rw [c1 i hi, vu_ne (by omega)]
  have s4 : ∀ i, i < 4 → sk3 i = sk i := fun i hi => by rw [s48 i (by omega), b1 i hi, vu_ne (by omega)]
  have g48 : ∀ i, i < 48 → g3 i = g2 i := fun i hi => by rw [c3 i (by omega), vu_ne (by omega)]
  have g4 : ∀ i, i < 4 → g3 i = g i := fun i hi => by rw [g48 i (by omega), b2 i (by omega), vu_ne (by omega)]
  have isx : ∀ i n, isX sk i n → isX sk3 i n := fun i n h => ⟨h.1, by rw [s4 i h.1]; exact h.2⟩
  refine law_loop (xs := xs) hL k 64 0 sk3 g3 58 S0 9216 73728 (by omega) (by decide) (by decide) (by decide) (isx 0 L hX0) (fun j hj => by rw [g4 0 (by decide)]; exact hx j hj) ⟨nf, nf, 0, 0, 0, JJ_S0 (isx 1 6 h1) (isx 2 6 h2) (isx 3 6 h3) (hst.cg (fun i a b => g4 i (by omega))) (fun i a b => ?_) (fun i a b q => ?_)⟩ (InvM_S0 c5 (fun q => ?_) c4) ok_S0
  · by_cases h : i < 48
    · rw [s48 i h]
      by_cases e : i = 4
      · subst e
        exact b3
      · exact b4 i (by omega) h
    · exact c2 i (by omega) b
  · rw [g48 i b]
    by_cases e : i = 4
    · subst e
      rw [b2 4 (by decide), vu_eq]
    · exact b5 i (by omega) b q
  · rw [c3 48 (by decide), vu_eq]
end LawL

