section CellarM3
variable {sk : Nat → SK} {g : Nat → Nat → Int32} {n c : Nat} {V : Cel} {Q : Option Value → SH → Prop} {d kc ks : Nat}
def smashJ (V : Cel) (b : Nat → Bool) (k : Nat) : Cel := (V.J, V.Y, V.R, V.kd, V.nt, V.kp, V.pl, fun j => if j < k ∧ b j = true then 1 else V.hw j)
theorem smash_loop {b : Nat → Bool} (hc : isC sk n c) (hJ : V.J ≤ 8) (k : ∀ g2, hasC g2 c (smashJ V b V.J) → Fr c (c + 6) g g2 → Q none (HP sk g2 n)) :
    ∀ m j g2, j + m = V.J → hasC g2 c (smashJ V b j) → Fr c (c + 6) g g2 → T MX2_smash (d + 1) kc ks 2 [(0, .ref c), (1, .int (nI (bm b 8))), (2, .int (nI j))] [] (HP sk g2 n) Q := by
  intro m
  induction m with
  | zero =>
    intro j g2 hj hg hf
    have e0 : g2 c 0 = nI V.J := hg.1
    refine T_iload_n (pc2 := 3) dX2_smash_2 rfl rfl ?_
    refine T_aload_n (pc2 := 4) dX2_smash_3 rfl rfl ?_
    refine G_getI (pc2 := 7) dX2_smash_4 flX2_27 hc.1 rfl (by first | with_reducible assumption | exact gs_eq _ _ _ _ | exact (gs_ne _ _ (by omega)).trans (by with_reducible assumption) | exact (gs_ne _ _ (by omega)).trans (gs_eq _ _ _ _) | exact (gs_ne _ _ (by omega)).trans ((gs_ne _ _ (by omega)).trans (by with_reducible assumption)) | exact (gs_ne _ _ (by omega)).trans ((gs_ne _ _ (by omega)).trans (gs_eq _ _ _ _)) | exact (gs_ne _ _ (by omega)).trans ((gs_ne _ _ (by omega)).trans ((gs_ne _ _ (by omega)).trans (by with_reducible assumption))) | rfl) rfl ?_
    first | refine N_icmpge (pc2 := 10) (tgt := 31) dX2_smash_7 (by decide) (by with_reducible rfl) (by with_reducible rfl) (by omega) (by omega) rfl (fun c7 => ?_) (fun c7 => ?_) | refine T_icmpge (pc2 := 10) (tgt := 31) dX2_smash_7 (by decide) rfl (fun c7 => ?_) (fun c7 => ?_)
    · refine T_ret dX2_smash_31 rfl ?_
      exact k g2 (by rw [← show j = V.J by omega]; exact hg) hf
    · exact absurd (by omega) c7
  | succ m ih =>
    intro j g2 hj hg hf
    have hjl : j < V.J := by omega
    have e0 : g2 c 0 = nI V.J := hg.1
    refine T_iload_n (pc2 := 3) dX2_smash_2 rfl rfl ?_
    refine T_aload_n (pc2 := 4) dX2_smash_3 rfl rfl ?_
    refine G_getI (pc2 := 7) dX2_smash_4 flX2_27 hc.1 rfl (by first | with_reducible assumption | exact gs_eq _ _ _ _ | exact (gs_ne _ _ (by omega)).trans (by with_reducible assumption) | exact (gs_ne _ _ (by omega)).trans (gs_eq _ _ _ _) | exact (gs_ne _ _ (by omega)).trans ((gs_ne _ _ (by omega)).trans (by with_reducible assumption)) | exact (gs_ne _ _ (by omega)).trans ((gs_ne _ _ (by omega)).trans (gs_eq _ _ _ _)) | exact (gs_ne _ _ (by omega)).trans ((gs_ne _ _ (by omega)).trans ((gs_ne _ _ (by omega)).trans (by with_reducible assumption))) | rfl) rfl ?_
    first | refine N_icmpge (pc2 := 10) (tgt := 31) dX2_smash_7 (by decide) (by with_reducible rfl) (by with_reducible rfl) (by omega) (by omega) rfl (fun c7 => ?_) (fun c7 => ?_) | refine T_icmpge (pc2 := 10) (tgt := 31) dX2_smash_7 (by decide) rfl (fun c7 => ?_) (fun c7 => ?_)
    · exact absurd c7 (by omega)
    · refine T_iload_n (pc2 := 11) dX2_smash_10 rfl rfl ?_
      refine T_iload_n (pc2 := 12) dX2_smash_11 rfl rfl ?_
      refine C_SN2 (pc2 := 15) (mc := 0) (ms := 0) dX2_smash_12 csX7_has mnX2_43 (Nat.le_of_ble_eq_true rfl) rfl ?_
      refine c_has (by decide) (by omega) (fun hp => ?_) (fun hp => ?_)
      · first | refine B_ifeq1 (pc2 := 18) (tgt := 25) dX2_smash_15 (by with_reducible rfl) (by decide) rfl ?_ | refine B_ifeq0 (tgt := 25) dX2_smash_15 (by with_reducible rfl) (by decide) ?_ | refine N_ifeq (pc2 := 18) (tgt := 25) dX2_smash_15 (by with_reducible rfl) (by decide) (by omega) rfl (fun c15 => ?_) (fun c15 => ?_) | refine T_ifeq (pc2 := 18) (tgt := 25) dX2_smash_15 (by decide) rfl (fun c15 => ?_) (fun c15 => ?_)
        refine T_aload_n (pc2 := 19) dX2_smash_18 rfl rfl ?_
        refine G_getR (pc2 := 22) dX2_smash_19 flX2_24 hc.1 rfl rfl ?_
        refine T_iload_n (pc2 := 23) dX2_smash_22 rfl rfl ?_
        refine T_iconst (pc2 := 24) dX2_smash_23 ic1 rfl ?_
        refine G_iast (pc2 := 25) dX2_smash_24 hc.2.2.2.2.2 (by omega) (by decide) rfl ?_
        first | refine N_iinc (pc2 := 28) dX2_smash_25 rfl (by with_reducible rfl) ic1 (by decide) rfl ?_ | refine T_iinc (pc2 := 28) dX2_smash_25 rfl rfl (by decide) rfl ?_
        refine T_goto (tgt := 2) dX2_smash_28 (by decide) ?_
        refine T_sub (lks (i := 0) rfl (lks (i := 1) rfl (lks (i := 2) rfl lk0))) ?_
        refine ih (j + 1) _ (by omega) ⟨by rw [gs_ne _ _ (by omega)]; exact hg.1, by rw [gs_ne _ _ (by omega)]; exact hg.2.1, by rw [gs_ne _ _ (by omega)]; exact hg.2.2.1, fun i hi => ?_⟩ (hf.st (by omega) (by omega))
        have := hg.2.2.2 i hi
        rw [gs_ne _ _ (by omega), gs_ne _ _ (by omega), gs_ne _ _ (by omega), gs_ne _ _ (by omega)]
        refine ⟨this.1, this.2.1, this.2.2.1, this.2.2.2.1, ?_⟩
        by_cases e : i = j
        · subst e
          rw [gs_eq]
          simp [smashJ, Cel.J, Cel.Y, Cel.R, Cel.kd, Cel.nt, Cel.kp, Cel.pl, Cel.hw, hp]
        · rw [gs_ne _ _ (by omega), this.2.2.2.2]
          have q : i < j + 1 ↔ i < j := by omega
          simp only [smashJ, Cel.J, Cel.Y, Cel.R, Cel.kd, Cel.nt, Cel.kp, Cel.pl, Cel.hw, q]
      · first | refine B_ifeq1 (pc2 := 18) (tgt := 25) dX2_smash_15 (by with_reducible rfl) (by decide) rfl ?_ | refine B_ifeq0 (tgt := 25) dX2_smash_15 (by with_reducible rfl) (by decide) ?_ | refine N_ifeq (pc2 := 18) (tgt := 25) dX2_smash_15 (by with_reducible rfl) (by decide) (by omega) rfl (fun c15 => ?_) (fun c15 => ?_) | refine T_ifeq (pc2 := 18) (tgt := 25) dX2_smash_15 (by decide) rfl (fun c15 => ?_) (fun c15 => ?_)
        first | refine N_iinc (pc2 := 28) dX2_smash_25 rfl (by with_reducible rfl) ic1 (by decide) rfl ?_ | refine T_iinc (pc2 := 28) dX2_smash_25 rfl rfl (by decide) rfl ?_
        refine T_goto (tgt := 2) dX2_smash_28 (by decide) ?_
        refine T_sub (lks (i := 0) rfl (lks (i := 1) rfl (lks (i := 2) rfl lk0))) ?_
        refine ih (j + 1) g2 (by omega) ⟨hg.1, hg.2.1, hg.2.2.1, fun i hi => ?_⟩ hf
        have := hg.2.2.2 i hi
        refine ⟨this.1, this.2.1, this.2.2.1, this.2.2.2.1, ?_⟩
        rw [this.2.2.2.2]
        by_cases e : i = j
        · subst e
          simp [smashJ, Cel.J, Cel.Y, Cel.R, Cel.kd, Cel.nt, Cel.kp, Cel.pl, Cel.hw, hp]
        · have q : i < j + 1 ↔ i < j := by omega
          simp only [smashJ, Cel.J, Cel.Y, Cel.R, Cel.kd, Cel.nt, Cel.kp, Cel.pl, Cel.hw, q]
theorem c_smash {b : Nat → Bool} (hc : isC sk n c) (hV : hasC g c V) (hJ : V.J ≤ 8) (k : ∀ g2, hasC g2 c (V.smash b) → Fr c (c + 6) g g2 → Q none (HP sk g2 n)) : Calls MX2_smash (d + 1) 0 0 [.ref c, .int (nI (bm b 8))] (HP sk g n) Q := by
  refine Calls.of (by decide +kernel) (Nat.le_of_ble_eq_true rfl) ?_
  refine T_iconst (pc2 := 1) dX2_smash_0 ic0 rfl ?_
  refine T_istore_n (pc2 := 2) dX2_smash_1 (by decide) rfl ?_
  refine T_sub (lks (i := 0) rfl (lks (i := 1) rfl (lks (i := 2) rfl lk0))) ?_
  refine smash_loop (g := g) hc hJ (fun g2 h1 h2 => k g2 ?_ h2) V.J 0 _ (by omega) ?_ Fr.rf
  · refine ⟨h1.1, h1.2.1, h1.2.2.1, fun i hi => ?_⟩
    have hi2 : i < V.J := hi
    have := h1.2.2.2 i hi
    simpa [smashJ, Cel.smash, Cel.J, Cel.Y, Cel.R, Cel.kd, Cel.nt, Cel.kp, Cel.pl, Cel.hw, hi2] using this
  · simpa [smashJ, Cel.J, Cel.Y, Cel.R, Cel.kd, Cel.nt, Cel.kp, Cel.pl, Cel.hw] using hV
theorem c_swap {a b : Nat} (hc : isC sk n c) (hV : hasC g c V) (hJ : V.J ≤ 8) (ha : a < V.J) (hb : b < V.J) (k : ∀ g2, hasC g2 c (V.swap a b) → Fr c (c + 6) g g2 → Q none (HP sk g2 n)) : Calls MX2_swapPlaces d 0 0 [.ref c, .int (nI a), .int (nI b)] (HP sk g n) Q := by
  refine Calls.of (by decide +kernel) (Nat.le_of_ble_eq_true rfl) ?_
  have ea := (hV.2.2.2 a ha).2.2.2.1
  have eb := (hV.2.2.2 b hb).2.2.2.1
  refine T_aload_n (pc2 := 1) dX2_swapPlaces_0 rfl rfl ?_
  refine G_getR (pc2 := 4) dX2_swapPlaces_1 flX2_21 hc.1 rfl rfl ?_
  refine T_iload_n (pc2 := 5) dX2_swapPlaces_4 rfl rfl ?_
  refine G_iald (pc2 := 6) dX2_swapPlaces_5 hc.2.2.2.2.1 (by omega) (by first | decide | omega) (by first | with_reducible assumption | exact gs_eq _ _ _ _ | exact (gs_ne _ _ (by omega)).trans (by with_reducible assumption) | exact (gs_ne _ _ (by omega)).trans (gs_eq _ _ _ _) | exact (gs_ne _ _ (by omega)).trans ((gs_ne _ _ (by omega)).trans (by with_reducible assumption)) | exact (gs_ne _ _ (by omega)).trans ((gs_ne _ _ (by omega)).trans (gs_eq _ _ _ _)) | exact (gs_ne _ _ (by omega)).trans ((gs_ne _ _ (by omega)).trans ((gs_ne _ _ (by omega)).trans (by with_reducible assumption))) | rfl) rfl ?_
  refine T_istore_n (pc2 := 7) dX2_swapPlaces_6 (by decide) rfl ?_
  refine T_aload_n (pc2 := 8) dX2_swapPlaces_7 rfl rfl ?_
  refine G_getR (pc2 := 11) dX2_swapPlaces_8 flX2_21 hc.1 rfl rfl ?_
  refine T_iload_n (pc2 := 12) dX2_swapPlaces_11 rfl rfl ?_
  refine T_aload_n (pc2 := 13) dX2_swapPlaces_12 rfl rfl ?_
  refine G_getR (pc2 := 16) dX2_swapPlaces_13 flX2_21 hc.1 rfl rfl ?_
  refine T_iload_n (pc2 := 17) dX2_swapPlaces_16 rfl rfl ?_
  refine G_iald (pc2 := 18) dX2_swapPlaces_17 hc.2.2.2.2.1 (by omega) (by first | decide | omega) (by first | with_reducible assumption | exact gs_eq _ _ _ _ | exact (gs_ne _ _ (by omega)).trans (by with_reducible assumption) | exact (gs_ne _ _ (by omega)).trans (gs_eq _ _ _ _) | exact (gs_ne _ _ (by omega)).trans ((gs_ne _ _ (by omega)).trans (by with_reducible assumption)) | exact (gs_ne _ _ (by omega)).trans ((gs_ne _ _ (by omega)).trans (gs_eq _ _ _ _)) | exact (gs_ne _ _ (by omega)).trans ((gs_ne _ _ (by omega)).trans ((gs_ne _ _ (by omega)).trans (by with_reducible assumption))) | rfl) rfl ?_
  refine G_iast (pc2 := 19) dX2_swapPlaces_18 hc.2.2.2.2.1 (by omega) (by decide) rfl ?_
  refine T_aload_n (pc2 := 20) dX2_swapPlaces_19 rfl rfl ?_
  refine G_getR (pc2 := 23) dX2_swapPlaces_20 flX2_21 hc.1 rfl rfl ?_
  refine T_iload_n (pc2 := 24) dX2_swapPlaces_23 rfl rfl ?_
  refine T_iload_n (pc2 := 25) dX2_swapPlaces_24 rfl rfl ?_
  refine G_iast (pc2 := 26) dX2_swapPlaces_25 hc.2.2.2.2.1 (by omega) (by decide) rfl ?_
  refine T_ret dX2_swapPlaces_26 rfl ?_
  refine k _ ⟨by rw [gs_ne _ _ (by omega), gs_ne _ _ (by omega)]; exact hV.1, by rw [gs_ne _ _ (by omega), gs_ne _ _ (by omega)]; exact hV.2.1, by rw [gs_ne _ _ (by omega), gs_ne _ _ (by omega)]; exact hV.2.2.1, fun i hi => ?_⟩ ((Fr.rf.st (by omega) (by omega)).st (by omega) (by omega))
  have := hV.2.2.2 i hi
  rw [gs_ne _ _ (by omega), gs_ne _ _ (by omega), gs_ne _ _ (by omega), gs_ne _ _ (by omega), gs_ne _ _ (by omega), gs_ne _ _ (by omega), gs_ne (i2 := c + 5) _ _ (by omega), gs_ne (i2 := c + 5) _ _ (by omega)]
  refine ⟨this.1, this.2.1, this.2.2.1, ?_, this.2.2.2.2⟩
  by_cases e : i = b
  · subst e
    rw [gs_eq]
    simp [Cel.swap, Cel.J, Cel.Y, Cel.R, Cel.kd, Cel.nt, Cel.kp, Cel.pl, Cel.hw]
  · rw [gs_ne _ _ (by omega)]
    by_cases e2 : i = a
    · subst e2
      rw [gs_eq]
      simp [Cel.swap, Cel.J, Cel.Y, Cel.R, Cel.kd, Cel.nt, Cel.kp, Cel.pl, Cel.hw, e]
    · rw [gs_ne _ _ (by omega), this.2.2.2.1]
      simp [Cel.swap, Cel.J, Cel.Y, Cel.R, Cel.kd, Cel.nt, Cel.kp, Cel.pl, Cel.hw, e, e2]
theorem cp8 {f f2 : Nat → Int32} {j : Nat} (h : j < 8) : va_cpy f f2 0 0 8 j = f j := by
  rw [pk_cpy_in (by omega) (by omega)]
  simp
theorem up_ne {g : Nat → Nat → Int32} {i j : Nat} {f : Nat → Int32} (h : j ≠ i) : va_up g i f j = g j := by simp [va_up, h]
theorem up_eq {g : Nat → Nat → Int32} {i : Nat} {f : Nat → Int32} : va_up g i f i = f := by simp [va_up]
theorem gs_row {g : Nat → Nat → Int32} {i j k : Nat} {v : Int32} (h : j ≠ i) : gset g i k v j = g j := by simp [gset, va_up, h]
theorem c_become {o : Nat} (hc : isC sk n c) (ho : isC sk n o) (hd : c + 6 ≤ o ∨ o + 6 ≤ c) (hV : hasC g o V) (hJ : V.J ≤ 8) (k : ∀ g2, hasC g2 c V → Fr c (c + 6) g g2 → Q none (HP sk g2 n)) : Calls MX2_become d 0 0 [.ref c, .ref o] (HP sk g n) Q := by
  refine Calls.of (by decide +kernel) (Nat.le_of_ble_eq_true rfl) ?_
  have e0 := hV.1
  have e1 := hV.2.1
  have e2 := hV.2.2.1
  refine T_aload_n (pc2 := 1) dX2_become_0 rfl rfl ?_
  refine T_aload_n (pc2 := 2) dX2_become_1 rfl rfl ?_
  refine G_getI (pc2 := 5) dX2_become_2 flX2_27 ho.1 rfl (by first | with_reducible assumption | exact gs_eq _ _ _ _ | exact (gs_ne _ _ (by omega)).trans (by with_reducible assumption) | exact (gs_ne _ _ (by omega)).trans (gs_eq _ _ _ _) | exact (gs_ne _ _ (by omega)).trans ((gs_ne _ _ (by omega)).trans (by with_reducible assumption)) | exact (gs_ne _ _ (by omega)).trans ((gs_ne _ _ (by omega)).trans (gs_eq _ _ _ _)) | exact (gs_ne _ _ (by omega)).trans ((gs_ne _ _ (by omega)).trans ((gs_ne _ _ (by omega)).trans (by with_reducible assumption))) | rfl) rfl ?_
  refine G_putI (pc2 := 8) dX2_become_5 flX2_27 hc.1 rfl rfl rfl rfl ?_
  refine T_aload_n (pc2 := 9) dX2_become_8 rfl rfl ?_
  refine T_aload_n (pc2 := 10) dX2_become_9 rfl rfl ?_
  refine G_getI (pc2 := 13) dX2_become_10 flX2_31 ho.1 rfl (by first | with_reducible assumption | exact gs_eq _ _ _ _ | exact (gs_ne _ _ (by omega)).trans (by with_reducible assumption) | exact (gs_ne _ _ (by omega)).trans (gs_eq _ _ _ _) | exact (gs_ne _ _ (by omega)).trans ((gs_ne _ _ (by omega)).trans (by with_reducible assumption)) | exact (gs_ne _ _ (by omega)).trans ((gs_ne _ _ (by omega)).trans (gs_eq _ _ _ _)) | exact (gs_ne _ _ (by omega)).trans ((gs_ne _ _ (by omega)).trans ((gs_ne _ _ (by omega)).trans (by with_reducible assumption))) | rfl) rfl ?_
  refine G_putI (pc2 := 16) dX2_become_13 flX2_31 hc.1 rfl rfl rfl rfl ?_
  refine T_aload_n (pc2 := 17) dX2_become_16 rfl rfl ?_
  refine T_aload_n (pc2 := 18) dX2_become_17 rfl rfl ?_
  refine G_getI (pc2 := 21) dX2_become_18 flX2_34 ho.1 rfl (by first | with_reducible assumption | exact gs_eq _ _ _ _ | exact (gs_ne _ _ (by omega)).trans (by with_reducible assumption) | exact (gs_ne _ _ (by omega)).trans (gs_eq _ _ _ _) | exact (gs_ne _ _ (by omega)).trans ((gs_ne _ _ (by omega)).trans (by with_reducible assumption)) | exact (gs_ne _ _ (by omega)).trans ((gs_ne _ _ (by omega)).trans (gs_eq _ _ _ _)) | exact (gs_ne _ _ (by omega)).trans ((gs_ne _ _ (by omega)).trans ((gs_ne _ _ (by omega)).trans (by with_reducible assumption))) | rfl) rfl ?_
  refine G_putI (pc2 := 24) dX2_become_21 flX2_34 hc.1 rfl rfl rfl rfl ?_
  refine T_aload_n (pc2 := 25) dX2_become_24 rfl rfl ?_
  refine G_getR (pc2 := 28) dX2_become_25 flX2_9 ho.1 rfl rfl ?_
  refine T_iconst (pc2 := 29) dX2_become_28 ic0 rfl ?_
  refine T_aload_n (pc2 := 30) dX2_become_29 rfl rfl ?_
  refine G_getR (pc2 := 33) dX2_become_30 flX2_9 hc.1 rfl rfl ?_
  refine T_iconst (pc2 := 34) dX2_become_33 ic0 rfl ?_
  refine T_bipush (pc2 := 36) dX2_become_34 bp8 rfl ?_
  refine G_copy (pc2 := 39) dX2_become_36 mlX2_37 ho.2.1 hc.2.1 (by decide) (by decide) (by omega) (by omega) (Nat.le_of_ble_eq_true rfl) rfl ?_
  refine T_aload_n (pc2 := 40) dX2_become_39 rfl rfl ?_
  refine G_getR (pc2 := 43) dX2_become_40 flX2_15 ho.1 rfl rfl ?_
  refine T_iconst (pc2 := 44) dX2_become_43 ic0 rfl ?_
  refine T_aload_n (pc2 := 45) dX2_become_44 rfl rfl ?_
  refine G_getR (pc2 := 48) dX2_become_45 flX2_15 hc.1 rfl rfl ?_
  refine T_iconst (pc2 := 49) dX2_become_48 ic0 rfl ?_
  refine T_bipush (pc2 := 51) dX2_become_49 bp8 rfl ?_
  refine G_copy (pc2 := 54) dX2_become_51 mlX2_37 ho.2.2.1 hc.2.2.1 (by decide) (by decide) (by omega) (by omega) (Nat.le_of_ble_eq_true rfl) rfl ?_
  refine T_aload_n (pc2 := 55) dX2_become_54 rfl rfl ?_
  refine G_getR (pc2 := 58) dX2_become_55 flX2_18 ho.1 rfl rfl ?_
  refine T_iconst (pc2 := 59) dX2_become_58 ic0 rfl ?_
  refine T_aload_n (pc2 := 60) dX2_become_59 rfl rfl ?_
  refine G_getR (pc2 := 63) dX2_become_60 flX2_18 hc.1 rfl rfl ?_
  refine T_iconst (pc2 := 64) dX2_become_63 ic0 rfl ?_
  refine T_bipush (pc2 := 66) dX2_become_64 bp8 rfl ?_
  refine G_copy (pc2 := 69) dX2_become_66 mlX2_37 ho.2.2.2.1 hc.2.2.2.1 (by decide) (by decide) (by omega) (by omega) (Nat.le_of_ble_eq_true rfl) rfl ?_
  refine T_aload_n (pc2 := 70) dX2_become_69 rfl rfl ?_
  refine G_getR (pc2 := 73) dX2_become_70 flX2_21 ho.1 rfl rfl ?_
  refine T_iconst (pc2 := 74) dX2_become_73 ic0 rfl ?_
  refine T_aload_n (pc2 := 75) dX2_become_74 rfl rfl ?_
  refine G_getR (pc2 := 78) dX2_become_75 flX2_21 hc.1 rfl rfl ?_
  refine T_iconst (pc2 := 79) dX2_become_78 ic0 rfl ?_
  refine T_bipush (pc2 := 81) dX2_become_79 bp8 rfl ?_
  refine G_copy (pc2 := 84) dX2_become_81 mlX2_37 ho.2.2.2.2.1 hc.2.2.2.2.1 (by decide) (by decide) (by omega) (by omega) (Nat.le_of_ble_eq_true rfl) rfl ?_
  refine T_aload_n (pc2 := 85) dX2_become_84 rfl rfl ?_
  refine G_getR (pc2 := 88) dX2_become_85 flX2_24 ho.1 rfl rfl ?_
  refine T_iconst (pc2 := 89) dX2_become_88 ic0 rfl ?_
  refine T_aload_n (pc2 := 90) dX2_become_89 rfl rfl ?_
  refine G_getR (pc2 := 93) dX2_become_90 flX2_24 hc.1 rfl rfl ?_
  refine T_iconst (pc2 := 94) dX2_become_93 ic0 rfl ?_
  refine T_bipush (pc2 := 96) dX2_become_94 bp8 rfl ?_
  refine G_copy (pc2 := 99) dX2_become_96 mlX2_37 ho.2.2.2.2.2 hc.2.2.2.2.2 (by decide) (by decide) (by omega) (by omega) (Nat.le_of_ble_eq_true rfl) rfl ?_
  refine T_ret dX2_become_99 rfl ?_
  refine k _ ⟨?_, ?_, ?_, fun i hi => ?_⟩ ((((((((Fr.rf.st (by omega) (by omega)).st (by omega) (by omega)).st (by omega) (by omega)).up (by omega) (by omega)).up (by omega) (by omega)).up (by omega) (by omega)).up (by omega) (by omega)).up (by omega) (by omega))
  · rw [up_ne (by omega), up_ne (by omega), up_ne (by omega), up_ne (by omega), up_ne (by omega), gs_ne _ _ (by omega), gs_ne _ _ (by omega), gs_eq]
  · rw [up_ne (by omega), up_ne (by omega), up_ne (by omega), up_ne (by omega), up_ne (by omega), gs_ne _ _ (by omega), gs_eq]
  · rw [up_ne (by omega), up_ne (by omega), up_ne (by omega), up_ne (by omega), up_ne (by omega), gs_eq]
  · have := hV.2.2.2 i hi
    have hi8 : i < 8 := by omega
    refine ⟨?_, ?_, ?_, ?_, ?_⟩
    · rw [up_ne (by omega), up_ne (by omega), up_ne (by omega), up_ne (by omega), up_eq, cp8 hi8, gs_row (by omega), gs_row (by omega), gs_row (by omega)]
      exact this.1
    · rw [up_ne (by omega), up_ne (by omega), up_ne (by omega), up_eq, cp8 hi8, up_ne (by omega), gs_row (by omega), gs_row (by omega), gs_row (by omega)]
      exact this.2.1
    · rw [up_ne (by omega), up_ne (by omega), up_eq, cp8 hi8, up_ne (by omega), up_ne (by omega), gs_row (by omega), gs_row (by omega), gs_row (by omega)]
      exact this.2.2.1
    · rw [up_ne (by omega), up_eq, cp8 hi8, up_ne (by omega), up_ne (by omega), up_ne (by omega), gs_row (by omega), gs_row (by omega), gs_row (by omega)]
      exact this.2.2.2.1
    · rw [up_eq, cp8 hi8, up_ne (by omega), up_ne (by omega), up_ne (by omega), up_ne (by omega), gs_row (by omega), gs_row (by omega), gs_row (by omega)]
      exact this.2.2.2.2
theorem c_clear (hc : isC sk n c) (k : Q none (HP sk (gset (gset (gset g c 0 (nI 0)) c 1 (nI 0)) c 2 (nI 0)) n)) : Calls MX2_clear d 0 0 [.ref c] (HP sk g n) Q := by
  refine Calls.of (by decide +kernel) (Nat.le_of_ble_eq_true rfl) ?_
  refine T_aload_n (pc2 := 1) dX2_clear_0 rfl rfl ?_
  refine T_iconst (pc2 := 2) dX2_clear_1 ic0 rfl ?_
  refine G_putI (pc2 := 5) dX2_clear_2 flX2_27 hc.1 rfl rfl rfl rfl ?_
  refine T_aload_n (pc2 := 6) dX2_clear_5 rfl rfl ?_
  refine T_iconst (pc2 := 7) dX2_clear_6 ic0 rfl ?_
  refine G_putI (pc2 := 10) dX2_clear_7 flX2_31 hc.1 rfl rfl rfl rfl ?_
  refine T_aload_n (pc2 := 11) dX2_clear_10 rfl rfl ?_
  refine T_iconst (pc2 := 12) dX2_clear_11 ic0 rfl ?_
  refine G_putI (pc2 := 15) dX2_clear_12 flX2_34 hc.1 rfl rfl rfl rfl ?_
  refine T_ret dX2_clear_15 rfl ?_
  exact k
def Cel.add (V : Cel) (kd nt yr : Nat) : Cel := (V.J + 1, V.Y, V.R, va_up V.kd V.J kd, va_up V.nt V.J nt, va_up V.kp V.J yr, va_up V.pl V.J V.J, va_up V.hw V.J 0)
theorem c_add {kd nt yr : Nat} (hc : isC sk n c) (hV : hasC g c V) (hJ : V.J < 8) (k : ∀ g2, hasC g2 c (V.add kd nt yr) → Fr c (c + 6) g g2 → Q none (HP sk g2 n)) : Calls MX2_add d 0 0 [.ref c, .int (nI kd), .int (nI nt), .int (nI yr)] (HP sk g n) Q := by
  refine Calls.of (by decide +kernel) (Nat.le_of_ble_eq_true rfl) ?_
  have e0 := hV.1
  refine T_aload_n (pc2 := 1) dX2_add_0 rfl rfl ?_
  refine G_getI (pc2 := 4) dX2_add_1 flX2_27 hc.1 rfl (by first | with_reducible assumption | exact gs_eq _ _ _ _ | exact (gs_ne _ _ (by omega)).trans (by with_reducible assumption) | exact (gs_ne _ _ (by omega)).trans (gs_eq _ _ _ _) | exact (gs_ne _ _ (by omega)).trans ((gs_ne _ _ (by omega)).trans (by with_reducible assumption)) | exact (gs_ne _ _ (by omega)).trans ((gs_ne _ _ (by omega)).trans (gs_eq _ _ _ _)) | exact (gs_ne _ _ (by omega)).trans ((gs_ne _ _ (by omega)).trans ((gs_ne _ _ (by omega)).trans (by with_reducible assumption))) | rfl) rfl ?_
  refine T_bipush (pc2 := 6) dX2_add_4 bp8 rfl ?_
  first | refine N_icmplt (pc2 := 9) (tgt := 10) dX2_add_6 (by decide) (by with_reducible rfl) (by with_reducible rfl) (by omega) (by omega) rfl (fun c6 => ?_) (fun c6 => ?_) | refine T_icmplt (pc2 := 9) (tgt := 10) dX2_add_6 (by decide) rfl (fun c6 => ?_) (fun c6 => ?_)
  · refine T_aload_n (pc2 := 11) dX2_add_10 rfl rfl ?_
    refine G_getR (pc2 := 14) dX2_add_11 flX2_9 hc.1 rfl rfl ?_
    refine T_aload_n (pc2 := 15) dX2_add_14 rfl rfl ?_
    refine G_getI (pc2 := 18) dX2_add_15 flX2_27 hc.1 rfl (by first | with_reducible assumption | exact gs_eq _ _ _ _ | exact (gs_ne _ _ (by omega)).trans (by with_reducible assumption) | exact (gs_ne _ _ (by omega)).trans (gs_eq _ _ _ _) | exact (gs_ne _ _ (by omega)).trans ((gs_ne _ _ (by omega)).trans (by with_reducible assumption)) | exact (gs_ne _ _ (by omega)).trans ((gs_ne _ _ (by omega)).trans (gs_eq _ _ _ _)) | exact (gs_ne _ _ (by omega)).trans ((gs_ne _ _ (by omega)).trans ((gs_ne _ _ (by omega)).trans (by with_reducible assumption))) | rfl) rfl ?_
    refine T_iload_n (pc2 := 19) dX2_add_18 rfl rfl ?_
    refine G_iast (pc2 := 20) dX2_add_19 hc.2.1 (by omega) (by decide) rfl ?_
    have e0 : gset g (c + 1) V.J (nI kd) c 0 = nI V.J := by rw [gs_ne _ _ (by omega)]; exact e0
    refine T_aload_n (pc2 := 21) dX2_add_20 rfl rfl ?_
    refine G_getR (pc2 := 24) dX2_add_21 flX2_15 hc.1 rfl rfl ?_
    refine T_aload_n (pc2 := 25) dX2_add_24 rfl rfl ?_
    refine G_getI (pc2 := 28) dX2_add_25 flX2_27 hc.1 rfl (by first | with_reducible assumption | exact gs_eq _ _ _ _ | exact (gs_ne _ _ (by omega)).trans (by with_reducible assumption) | exact (gs_ne _ _ (by omega)).trans (gs_eq _ _ _ _) | exact (gs_ne _ _ (by omega)).trans ((gs_ne _ _ (by omega)).trans (by with_reducible assumption)) | exact (gs_ne _ _ (by omega)).trans ((gs_ne _ _ (by omega)).trans (gs_eq _ _ _ _)) | exact (gs_ne _ _ (by omega)).trans ((gs_ne _ _ (by omega)).trans ((gs_ne _ _ (by omega)).trans (by with_reducible assumption))) | rfl) rfl ?_
    refine T_iload_n (pc2 := 29) dX2_add_28 rfl rfl ?_
    refine G_iast (pc2 := 30) dX2_add_29 hc.2.2.1 (by omega) (by decide) rfl ?_
    have e0 : gset (gset g (c + 1) V.J (nI kd)) (c + 2) V.J (nI nt) c 0 = nI V.J := by rw [gs_ne _ _ (by omega)]; exact e0
    refine T_aload_n (pc2 := 31) dX2_add_30 rfl rfl ?_
    refine G_getR (pc2 := 34) dX2_add_31 flX2_18 hc.1 rfl rfl ?_
    refine T_aload_n (pc2 := 35) dX2_add_34 rfl rfl ?_
    refine G_getI (pc2 := 38) dX2_add_35 flX2_27 hc.1 rfl (by first | with_reducible assumption | exact gs_eq _ _ _ _ | exact (gs_ne _ _ (by omega)).trans (by with_reducible assumption) | exact (gs_ne _ _ (by omega)).trans (gs_eq _ _ _ _) | exact (gs_ne _ _ (by omega)).trans ((gs_ne _ _ (by omega)).trans (by with_reducible assumption)) | exact (gs_ne _ _ (by omega)).trans ((gs_ne _ _ (by omega)).trans (gs_eq _ _ _ _)) | exact (gs_ne _ _ (by omega)).trans ((gs_ne _ _ (by omega)).trans ((gs_ne _ _ (by omega)).trans (by with_reducible assumption))) | rfl) rfl ?_
    refine T_iload_n (pc2 := 39) dX2_add_38 rfl rfl ?_
    refine G_iast (pc2 := 40) dX2_add_39 hc.2.2.2.1 (by omega) (by decide) rfl ?_
    have e0 : gset (gset (gset g (c + 1) V.J (nI kd)) (c + 2) V.J (nI nt)) (c + 3) V.J (nI yr) c 0 = nI V.J := by rw [gs_ne _ _ (by omega)]; exact e0
    refine T_aload_n (pc2 := 41) dX2_add_40 rfl rfl ?_
    refine G_getR (pc2 := 44) dX2_add_41 flX2_21 hc.1 rfl rfl ?_
    refine T_aload_n (pc2 := 45) dX2_add_44 rfl rfl ?_
    refine G_getI (pc2 := 48) dX2_add_45 flX2_27 hc.1 rfl (by first | with_reducible assumption | exact gs_eq _ _ _ _ | exact (gs_ne _ _ (by omega)).trans (by with_reducible assumption) | exact (gs_ne _ _ (by omega)).trans (gs_eq _ _ _ _) | exact (gs_ne _ _ (by omega)).trans ((gs_ne _ _ (by omega)).trans (by with_reducible assumption)) | exact (gs_ne _ _ (by omega)).trans ((gs_ne _ _ (by omega)).trans (gs_eq _ _ _ _)) | exact (gs_ne _ _ (by omega)).trans ((gs_ne _ _ (by omega)).trans ((gs_ne _ _ (by omega)).trans (by with_reducible assumption))) | rfl) rfl ?_
    refine T_aload_n (pc2 := 49) dX2_add_48 rfl rfl ?_
    refine G_getI (pc2 := 52) dX2_add_49 flX2_27 hc.1 rfl (by first | with_reducible assumption | exact gs_eq _ _ _ _ | exact (gs_ne _ _ (by omega)).trans (by with_reducible assumption) | exact (gs_ne _ _ (by omega)).trans (gs_eq _ _ _ _) | exact (gs_ne _ _ (by omega)).trans ((gs_ne _ _ (by omega)).trans (by with_reducible assumption)) | exact (gs_ne _ _ (by omega)).trans ((gs_ne _ _ (by omega)).trans (gs_eq _ _ _ _)) | exact (gs_ne _ _ (by omega)).trans ((gs_ne _ _ (by omega)).trans ((gs_ne _ _ (by omega)).trans (by with_reducible assumption))) | rfl) rfl ?_
    refine G_iast (pc2 := 53) dX2_add_52 hc.2.2.2.2.1 (by omega) (by decide) rfl ?_
    have e0 : gset (gset (gset (gset g (c + 1) V.J (nI kd)) (c + 2) V.J (nI nt)) (c + 3) V.J (nI yr)) (c + 4) V.J (nI V.J) c 0 = nI V.J := by rw [gs_ne _ _ (by omega)]; exact e0
    refine T_aload_n (pc2 := 54) dX2_add_53 rfl rfl ?_
    refine G_getR (pc2 := 57) dX2_add_54 flX2_24 hc.1 rfl rfl ?_
    refine T_aload_n (pc2 := 58) dX2_add_57 rfl rfl ?_
    refine G_getI (pc2 := 61) dX2_add_58 flX2_27 hc.1 rfl (by first | with_reducible assumption | exact gs_eq _ _ _ _ | exact (gs_ne _ _ (by omega)).trans (by with_reducible assumption) | exact (gs_ne _ _ (by omega)).trans (gs_eq _ _ _ _) | exact (gs_ne _ _ (by omega)).trans ((gs_ne _ _ (by omega)).trans (by with_reducible assumption)) | exact (gs_ne _ _ (by omega)).trans ((gs_ne _ _ (by omega)).trans (gs_eq _ _ _ _)) | exact (gs_ne _ _ (by omega)).trans ((gs_ne _ _ (by omega)).trans ((gs_ne _ _ (by omega)).trans (by with_reducible assumption))) | rfl) rfl ?_
    refine T_iconst (pc2 := 62) dX2_add_61 ic0 rfl ?_
    refine G_iast (pc2 := 63) dX2_add_62 hc.2.2.2.2.2 (by omega) (by decide) rfl ?_
    have e0 : gset (gset (gset (gset (gset g (c + 1) V.J (nI kd)) (c + 2) V.J (nI nt)) (c + 3) V.J (nI yr)) (c + 4) V.J (nI V.J)) (c + 5) V.J (nI 0) c 0 = nI V.J := by rw [gs_ne _ _ (by omega)]; exact e0
    refine T_aload_n (pc2 := 64) dX2_add_63 rfl rfl ?_
    refine T_dup (pc2 := 65) dX2_add_64 rfl rfl ?_
    refine G_getI (pc2 := 68) dX2_add_65 flX2_27 hc.1 rfl (by first | with_reducible assumption | exact gs_eq _ _ _ _ | exact (gs_ne _ _ (by omega)).trans (by with_reducible assumption) | exact (gs_ne _ _ (by omega)).trans (gs_eq _ _ _ _) | exact (gs_ne _ _ (by omega)).trans ((gs_ne _ _ (by omega)).trans (by with_reducible assumption)) | exact (gs_ne _ _ (by omega)).trans ((gs_ne _ _ (by omega)).trans (gs_eq _ _ _ _)) | exact (gs_ne _ _ (by omega)).trans ((gs_ne _ _ (by omega)).trans ((gs_ne _ _ (by omega)).trans (by with_reducible assumption))) | rfl) rfl ?_
    refine T_iconst (pc2 := 69) dX2_add_68 ic1 rfl ?_
    first | refine N_iadd (pc2 := 70) dX2_add_69 (by with_reducible rfl) (by with_reducible rfl) rfl ?_ | refine T_iadd (pc2 := 70) dX2_add_69 rfl ?_
    refine G_putI (pc2 := 73) dX2_add_70 flX2_27 hc.1 rfl rfl rfl rfl ?_
    refine T_ret dX2_add_73 rfl ?_
    refine k _ ⟨by rw [gs_eq]; rfl, ?_, ?_, fun i hi => ?_⟩ ((((((Fr.rf.st (by omega) (by omega)).st (by omega) (by omega)).st (by omega) (by omega)).st (by omega) (by omega)).st (by omega) (by omega)).st (by omega) (by omega))
    · rw [gs_ne _ _ (by omega), gs_ne _ _ (by omega), gs_ne _ _ (by omega), gs_ne _ _ (by omega), gs_ne _ _ (by omega), gs_ne _ _ (by omega)]; exact hV.2.1
    · rw [gs_ne _ _ (by omega), gs_ne _ _ (by omega), gs_ne _ _ (by omega), gs_ne _ _ (by omega), gs_ne _ _ (by omega), gs_ne _ _ (by omega)]; exact hV.2.2.1
    · have hi2 : i < V.J + 1 := hi
      by_cases e : i = V.J
      · subst e
        simp only [gset_at]
        simp [Cel.add, Cel.J, Cel.Y, Cel.R, Cel.kd, Cel.nt, Cel.kp, Cel.pl, Cel.hw, va_up]
      · have := hV.2.2.2 i (by omega)
        simp only [gset_at]
        simp [Cel.add, Cel.J, Cel.Y, Cel.R, Cel.kd, Cel.nt, Cel.kp, Cel.pl, Cel.hw, va_up, e, this]
  · exact absurd (by omega) c6
end CellarM3

