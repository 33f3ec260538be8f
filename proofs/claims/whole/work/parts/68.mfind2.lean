/-! the model: changes, tuning, who is spared, who is alike -/
theorem itC_same {U V : Cel} (h : sameS U V) : ∀ f l b r, itC U f l b r = itC V f l b r := by
  obtain ⟨J, Y, R, kd, nt, kp, pl, hw⟩ := U
  obtain ⟨J2, Y2, R2, kd2, nt2, kp2, pl2, hw2⟩ := V
  obtain ⟨h1, h2, h3, h4, h5⟩ := h
  simp only [Cel.J, Cel.Y, Cel.R, Cel.kd, Cel.nt, Cel.kp, Cel.pl, Cel.hw] at h1 h2 h3 h4 h5
  subst h1 h2 h3 h4 h5
  intro f
  induction f with
  | zero => intro l b r; rfl
  | succ f ih =>
    intro l b r
    show (if bm b 8 = 0 then (l, r) else itC _ f _ _ _) = (if bm b 8 = 0 then (l, r) else itC _ f _ _ _)
    rw [ih]
    rfl
theorem brk_same {U V : Cel} (h : sameS U V) (nt p : Nat) (w : Nat → Bool) : U.brk nt p w = V.brk nt p w := by
  have h2 := itC_same h
  obtain ⟨J, Y, R, kd, nt, kp, pl, hw⟩ := U
  obtain ⟨J2, Y2, R2, kd2, nt2, kp2, pl2, hw2⟩ := V
  obtain ⟨h1, h3, h4, h5, h6⟩ := h
  simp only [Cel.J, Cel.Y, Cel.R, Cel.kd, Cel.nt, Cel.kp, Cel.pl, Cel.hw] at h1 h3 h4 h5 h6
  subst h1 h3 h4 h5 h6
  funext j
  unfold Cel.brk Cel.chn
  rw [h2]
  rfl
theorem mx_same {U V : Cel} (h : sameS U V) (w : Nat → Bool) : U.mx w = V.mx w := by
  have e : ∀ nt, mxf U w nt = mxf V w nt := fun nt => by
    funext p s
    unfold mxf Cel.cB
    rw [brk_same h]
  unfold Cel.mx mxAll
  have e2 : (fun nt s => mxRow U w nt s U.J) = fun nt s => mxRow V w nt s V.J := by
    funext nt s
    unfold mxRow
    rw [e nt, h.1]
  rw [e2]
theorem wv_same {U V : Cel} (h : sameS U V) (w : Nat → Bool) : U.wv w = V.wv w := by
  unfold Cel.wv
  rw [mx_same h]
theorem okD.sethw {V : Cel} (h : okD V) {j v : Nat} (hv : v ≤ 3) : okD (V.sethw j v) := by
  refine ⟨h.1, trivial, h.2.2.1, fun i hi => ?_, h.2.2.2.2⟩
  have a := h.2.2.2.1 i hi
  refine ⟨a.1, a.2.1, a.2.2.1, trivial, trivial, a.2.2.2.2.2.1, ?_⟩
  show va_up V.hw j v i ≤ 3
  by_cases e : i = j
  · simp [va_up, e, hv]
  · simp only [va_up, if_neg e]; exact a.2.2.2.2.2.2
theorem okD.setnt {V : Cel} (h : okD V) {j v : Nat} (hv : v < 12) : okD (V.setnt j v) := by
  refine ⟨h.1, trivial, h.2.2.1, fun i hi => ?_, h.2.2.2.2⟩
  have a := h.2.2.2.1 i hi
  refine ⟨a.1, a.2.1, ?_, a.2.2.2⟩
  show va_up V.nt j v i < 12
  by_cases e : i = j
  · simp [va_up, e, hv]
  · simp only [va_up, if_neg e]; exact a.2.2.1
theorem th_add {V : Cel} {j t : Nat} (hj : j < V.J) : ((V.sethw j 0).setnt j t).th 0 = addJ (V.th 0) j := by
  funext i
  show (decide (i < V.J) && decide (va_up V.hw j 0 i = 0)) = ((decide (i < V.J) && decide (V.hw i = 0)) || decide (i = j))
  by_cases e : i = j
  · subst e
    simp [va_up, hj]
  · simp [va_up, e]
theorem th_cut {V : Cel} {j : Nat} : (V.sethw j 3).th 0 = cutJ (V.th 0) j := by
  funext i
  show (decide (i < V.J) && decide (va_up V.hw j 3 i = 0)) = ((decide (i < V.J) && decide (V.hw i = 0)) && !decide (i = j))
  by_cases e : i = j
  · subst e
    simp [va_up]
  · simp [va_up, e]
theorem th0 {V : Cel} {j : Nat} (hj : j < V.J) : V.th 0 j = decide (V.hw j = 0) := by simp [Cel.th, hj]
theorem tn_le (V : Cel) (w : Nat → Bool) (j : Nat) : ∀ m, m ≤ 100 → (itr (tnf V w j) (9, 0) m).1 ≤ 9 ∧ (itr (tnf V w j) (9, 0) m).2 ≤ m
  | 0, _ => ⟨Nat.le_refl _, Nat.le_refl _⟩
  | m + 1, h => by
    have ih := tn_le V w j m (by omega)
    have e : itr (tnf V w j) (9, 0) (m + 1) = tnf V w j m (itr (tnf V w j) (9, 0) m) := rfl
    rw [e]
    generalize itr (tnf V w j) (9, 0) m = z at ih ⊢
    unfold tnf
    split
    · have := wv_le (V.setnt j m) w
      exact ⟨by show (V.setnt j m).wv w ≤ 9; omega, by show m ≤ m + 1; omega⟩
    · exact ⟨ih.1, by omega⟩
theorem sp_le (V : Cel) (w : Nat → Bool) : ∀ m, (itr (spf V w) (9, none) m).1 ≤ 9
  | 0 => Nat.le_refl _
  | m + 1 => by
    have ih := sp_le V w m
    have e : itr (spf V w) (9, none) (m + 1) = spf V w m (itr (spf V w) (9, none) m) := rfl
    rw [e]
    generalize itr (spf V w) (9, none) m = z at ih ⊢
    unfold spf
    split
    · have := wv_le V (cutJ w m)
      show V.wv _ ≤ 9
      omega
    · exact ih
section MFind2
variable {sk : Nat → SK} {g : Nat → Nat → Int32} {n w : Nat} {V : Cel} {Q : Option Value → SH → Prop} {d kc ks : Nat} {bf im : Nat → Option Nat} {above below : Int64} {h : SH} {s : ST}
theorem fin_o {x : Nat} {a : Nat} {b : Option Nat} (h1 : x = 0 ∨ b = none) : (if x = 0 then oN b else oN (b.map fun _ => a)) = oN b := by
  rcases h1 with e | e
  · rw [if_pos e]
  · subst e
    split <;> rfl
/-- lay then, and the worst there -/
theorem mtuned_loop {j x : Nat} (S : Sh sk n bf im above below) (hV : hasM (g 52) V) (hok : okD V) (hj : j < V.J)
    (k : ∀ g2, Ms g g2 → T MX8_tuned (d + 4) kc ks 96 [(2, .int (nI x)), (3, .int (nI (V.tn j).1)), (4, .int (nI (V.tn j).2))] [] (HP sk g2 n) Q) :
    ∀ m t g2, t + m = 12 → Ms g g2 → T MX8_tuned (d + 4) kc ks 35 [(0, .ref 48), (1, .int (nI j)), (2, .int (nI x)), (3, .int (nI (itr (tnf V (addJ (V.th 0) j) j) (9, 0) t).1)), (4, .int (nI (itr (tnf V (addJ (V.th 0) j) j) (9, 0) t).2)), (5, .int (nI t))] [] (HP sk g2 n) Q := by
  have hJ8 := hok.1
  intro m
  induction m with
  | zero =>
    intro t g2 ht hf
    have e : t = 12 := by omega
    subst e
    refine T_iload (pc2 := 37) dX8_tuned_35 rfl rfl ?_
    refine T_bipush (pc2 := 39) dX8_tuned_37 bp12 rfl ?_
    first | refine N_icmpge (pc2 := 42) (tgt := 96) dX8_tuned_39 (by decide) (by with_reducible rfl) (by with_reducible rfl) (by omega) (by omega) rfl (fun c39 => ?_) (fun c39 => ?_) | refine T_icmpge (pc2 := 42) (tgt := 96) dX8_tuned_39 (by decide) rfl (fun c39 => ?_) (fun c39 => ?_)
    · refine T_sub (lks (i := 2) rfl (lks (i := 3) rfl (lks (i := 4) rfl lk0))) ?_
      exact k g2 hf
    · exact absurd (by omega) c39
  | succ m ih =>
    intro t g2 ht hf
    have hle := tn_le V (addJ (V.th 0) j) j t (by omega)
    have hV2 : hasM (g2 52) V := by rw [hf.1 52 (by decide) (by decide) (by decide) (by decide) (by decide)]; exact hV
    have hst : itr (tnf V (addJ (V.th 0) j) j) (9, 0) (t + 1) = tnf V (addJ (V.th 0) j) j t (itr (tnf V (addJ (V.th 0) j) j) (9, 0) t) := rfl
    have ih2 := fun g3 => ih (t + 1) g3 (by omega)
    rw [hst] at ih2
    generalize itr (tnf V (addJ (V.th 0) j) j) (9, 0) t = z at hle ih2 ⊢
    refine T_iload (pc2 := 37) dX8_tuned_35 rfl rfl ?_
    refine T_bipush (pc2 := 39) dX8_tuned_37 bp12 rfl ?_
    first | refine N_icmpge (pc2 := 42) (tgt := 96) dX8_tuned_39 (by decide) (by with_reducible rfl) (by with_reducible rfl) (by omega) (by omega) rfl (fun c39 => ?_) (fun c39 => ?_) | refine T_icmpge (pc2 := 42) (tgt := 96) dX8_tuned_39 (by decide) rfl (fun c39 => ?_) (fun c39 => ?_)
    · exact absurd c39 (by omega)
    · refine T_aload_n (pc2 := 43) dX8_tuned_42 rfl rfl ?_
      refine C_V0 (pc2 := 46) (mc := 0) (ms := 0) dX8_tuned_43 cvX8_layThen mlX8_233 (isO.h (sh48 S) _) (Nat.le_of_ble_eq_true rfl) rfl ?_
      refine m_lay S hV2 hJ8 (fun g3 hM3 hf3 => ?_)
      refine T_aload_n (pc2 := 47) dX8_tuned_46 rfl rfl ?_
      refine G_getR (pc2 := 50) dX8_tuned_47 flX8_25 (sh48 S) rfl rfl ?_
      refine T_iload_n (pc2 := 51) dX8_tuned_50 rfl rfl ?_
      refine T_iconst (pc2 := 52) dX8_tuned_51 ic4 rfl ?_
      refine T_iconst (pc2 := 53) dX8_tuned_52 ic0 rfl ?_
      refine C_S4 (pc2 := 56) (mc := 0) (ms := 0) dX8_tuned_53 csX8_be mlX8_192 (Nat.le_of_ble_eq_true rfl) rfl ?_
      refine m_be (sh54 S) (by omega) ?_
      refine T_aload_n (pc2 := 57) dX8_tuned_56 rfl rfl ?_
      refine G_getR (pc2 := 60) dX8_tuned_57 flX8_25 (sh48 S) rfl rfl ?_
      refine T_iload_n (pc2 := 61) dX8_tuned_60 rfl rfl ?_
      refine T_iconst (pc2 := 62) dX8_tuned_61 ic1 rfl ?_
      refine T_iload (pc2 := 64) dX8_tuned_62 rfl rfl ?_
      refine C_S4 (pc2 := 67) (mc := 0) (ms := 0) dX8_tuned_64 csX8_be mlX8_192 (Nat.le_of_ble_eq_true rfl) rfl ?_
      refine m_be (sh54 S) (by omega) ?_
      have hM4 := (hM3.sethw (j := j) (v := 0)).setnt (j := j) (v := t)
      have hm4 : Ms g2 (gset (gset g3 54 (3 + 5 * j + 4) (nI 0)) 54 (3 + 5 * j + 1) (nI t)) := ((hf3.ms (by omega)).st (by omega)).st (by omega)
      refine T_aload_n (pc2 := 68) dX8_tuned_67 rfl rfl ?_
      refine T_aload_n (pc2 := 69) dX8_tuned_68 rfl rfl ?_
      refine G_getR (pc2 := 72) dX8_tuned_69 flX8_25 (sh48 S) rfl rfl ?_
      refine C_V1 (pc2 := 75) (mc := 0) (ms := 0) dX8_tuned_72 cvX8_worstOf mlX8_229 (isO.h (sh48 S) _) (Nat.le_of_ble_eq_true rfl) rfl ?_
      refine m_worst S (sh54 S) (by decide) hM4 ((hok.sethw (by decide)).setnt (by omega)) (show 0 < V.J by omega) (fun g5 _ _ hf5 => ?_)
      have hm5 := (hf.tr hm4).tr hf5.ms
      have e1 : ((V.sethw j 0).setnt j t).wv (((V.sethw j 0).setnt j t).th 0) = (V.setnt j t).wv (addJ (V.th 0) j) := by
        rw [th_add hj]
        exact wv_same (U := (V.sethw j 0).setnt j t) (V := V.setnt j t) (show sameS _ _ from ⟨rfl, rfl, rfl, rfl, rfl⟩) (addJ (V.th 0) j)
      rw [e1]
      have hwl := wv_le (V.setnt j t) (addJ (V.th 0) j)
      unfold tnf at ih2
      refine T_istore (pc2 := 77) dX8_tuned_75 (by decide) rfl ?_
      refine T_iload (pc2 := 79) dX8_tuned_77 rfl rfl ?_
      refine T_iload_n (pc2 := 80) dX8_tuned_79 rfl rfl ?_
      first | refine N_icmpge (pc2 := 83) (tgt := 90) dX8_tuned_80 (by decide) (by with_reducible rfl) (by with_reducible rfl) (by omega) (by omega) rfl (fun c80 => ?_) (fun c80 => ?_) | refine T_icmpge (pc2 := 83) (tgt := 90) dX8_tuned_80 (by decide) rfl (fun c80 => ?_) (fun c80 => ?_)
      · rw [if_neg (by omega)] at ih2
        first | refine N_iinc (pc2 := 93) dX8_tuned_90 rfl (by with_reducible rfl) ic1 (by decide) rfl ?_ | refine T_iinc (pc2 := 93) dX8_tuned_90 rfl rfl (by decide) rfl ?_
        refine T_goto (tgt := 35) dX8_tuned_93 (by decide) ?_
        refine T_sub (lks (i := 0) rfl (lks (i := 1) rfl (lks (i := 2) rfl (lks (i := 3) rfl (lks (i := 4) rfl (lks (i := 5) rfl lk0)))))) ?_
        exact ih2 g5 hm5
      · rw [if_pos (by omega)] at ih2
        refine T_iload (pc2 := 85) dX8_tuned_83 rfl rfl ?_
        refine T_istore_n (pc2 := 86) dX8_tuned_85 (by decide) rfl ?_
        refine T_iload (pc2 := 88) dX8_tuned_86 rfl rfl ?_
        refine T_istore (pc2 := 90) dX8_tuned_88 (by decide) rfl ?_
        first | refine N_iinc (pc2 := 93) dX8_tuned_90 rfl (by with_reducible rfl) ic1 (by decide) rfl ?_ | refine T_iinc (pc2 := 93) dX8_tuned_90 rfl rfl (by decide) rfl ?_
        refine T_goto (tgt := 35) dX8_tuned_93 (by decide) ?_
        refine T_sub (lks (i := 0) rfl (lks (i := 1) rfl (lks (i := 2) rfl (lks (i := 3) rfl (lks (i := 4) rfl (lks (i := 5) rfl lk0)))))) ?_
        exact ih2 g5 hm5
theorem mm_tuned {j w : Int32} (S : Sh sk n bf im above below) (hI : InvM g s) (hok : Ok s) (k : ∀ g2, InvM g2 (sTuned s j w).2 → Fr 48 62 g g2 → Q (some (.int (sTuned s j w).1)) (HP sk g2 n)) : Calls MX8_tuned (d + 4) 0 0 [.ref 48, .int j, .int w] (HP sk g n) Q := by
  have hokV := hok.2.2.1.1
  have hJ8 := hokV.1
  refine Calls.of (by decide +kernel) (Nat.le_of_ble_eq_true rfl) ?_
  refine T_aload_n (pc2 := 1) dX8_tuned_0 rfl rfl ?_
  refine T_iconst (pc2 := 2) dX8_tuned_1 ic0 rfl ?_
  refine G_putI (pc2 := 5) dX8_tuned_2 flX8_50 (sh48 S) rfl rfl rfl rfl ?_
  have hI := hI.ms (Ms.rf.st (i := 48) (k := 0) (v := nI 0) (by omega))
  have k := fm_start k
  generalize gset g 48 0 (nI 0) = g1 at hI k ⊢
  have hV := hI.2.2.1
  refine T_aload_n (pc2 := 6) dX8_tuned_5 rfl rfl ?_
  refine T_iload_n (pc2 := 7) dX8_tuned_6 rfl rfl ?_
  refine C_V1 (pc2 := 10) (mc := 0) (ms := 0) dX8_tuned_7 cvX8_isJar mlX8_213 (isO.h (sh48 S) _) (Nat.le_of_ble_eq_true rfl) rfl ?_
  refine m_isJar S hV.1 hJ8 (fun i hi ei => ?_) (fun hno => ?_)
  · subst ei
    first | refine B_ifeq1 (pc2 := 13) (tgt := 23) dX8_tuned_10 (by with_reducible rfl) (by decide) rfl ?_ | refine B_ifeq0 (tgt := 23) dX8_tuned_10 (by with_reducible rfl) (by decide) ?_ | refine N_ifeq (pc2 := 13) (tgt := 23) dX8_tuned_10 (by with_reducible rfl) (by decide) (by omega) rfl (fun c10 => ?_) (fun c10 => ?_) | refine T_ifeq (pc2 := 13) (tgt := 23) dX8_tuned_10 (by decide) rfl (fun c10 => ?_) (fun c10 => ?_)
    refine T_iload_n (pc2 := 14) dX8_tuned_13 rfl rfl ?_
    refine T_i2l (pc2 := 15) dX8_tuned_14 rfl ?_
    refine T_lconst (pc2 := 16) (v := lN 0) dX8_tuned_15 rfl rfl ?_
    refine T_lconst (pc2 := 17) (v := lN 1) dX8_tuned_16 rfl rfl ?_
    refine C_S3 (pc2 := 20) (mc := 0) (ms := 0) dX8_tuned_17 csX8_in mlX8_60 (Nat.le_of_ble_eq_true rfl) rfl ?_
    refine m_inI (k := 1) rfl rfl (by decide) (by decide) (fun x hx ex => ?_) (fun hno => ?_)
    · subst ex
      have hs : sTuned s (nI i) (nI x) = (if x = 0 then nI (s.V.tn i).2 else nI (s.V.tn i).1, s) := by
        unfold sTuned
        rw [inN_some hi (by omega), inN_some (show x < 2 by omega) (by decide)]
      first | refine B_ifne1 (tgt := 26) dX8_tuned_20 (by with_reducible rfl) (by decide) ?_ | refine B_ifne0 (pc2 := 23) (tgt := 26) dX8_tuned_20 (by with_reducible rfl) (by decide) rfl ?_ | refine N_ifne (pc2 := 23) (tgt := 26) dX8_tuned_20 (by with_reducible rfl) (by decide) (by omega) rfl (fun c20 => ?_) (fun c20 => ?_) | refine T_ifne (pc2 := 23) (tgt := 26) dX8_tuned_20 (by decide) rfl (fun c20 => ?_) (fun c20 => ?_)
      refine T_bipush (pc2 := 28) dX8_tuned_26 bp9 rfl ?_
      refine T_istore_n (pc2 := 29) dX8_tuned_28 (by decide) rfl ?_
      refine T_iconst (pc2 := 30) dX8_tuned_29 ic0 rfl ?_
      refine T_istore (pc2 := 32) dX8_tuned_30 (by decide) rfl ?_
      refine T_iconst (pc2 := 33) dX8_tuned_32 ic0 rfl ?_
      refine T_istore (pc2 := 35) dX8_tuned_33 (by decide) rfl ?_
      refine T_sub (lks (i := 0) rfl (lks (i := 1) rfl (lks (i := 2) rfl (lks (i := 3) rfl (lks (i := 4) rfl (lks (i := 5) rfl lk0)))))) ?_
      refine mtuned_loop (g := g1) (x := x) S hV hokV.d hi (fun g2 hf => ?_) 12 0 g1 rfl Ms.rf
      refine T_iload_n (pc2 := 97) dX8_tuned_96 rfl rfl ?_
      first | refine B_ifne1 (tgt := 105) dX8_tuned_97 (by with_reducible rfl) (by decide) ?_ | refine B_ifne0 (pc2 := 100) (tgt := 105) dX8_tuned_97 (by with_reducible rfl) (by decide) rfl ?_ | refine N_ifne (pc2 := 100) (tgt := 105) dX8_tuned_97 (by with_reducible rfl) (by decide) (by omega) rfl (fun c97 => ?_) (fun c97 => ?_) | refine T_ifne (pc2 := 100) (tgt := 105) dX8_tuned_97 (by decide) rfl (fun c97 => ?_) (fun c97 => ?_)
      · refine T_iload_n (pc2 := 106) dX8_tuned_105 rfl rfl ?_
        refine T_iret dX8_tuned_106 rfl rfl ?_
        exact fm_same k hI hf (by rw [hs, if_neg c97])
      · refine T_iload (pc2 := 102) dX8_tuned_100 rfl rfl ?_
        refine T_goto (tgt := 106) dX8_tuned_102 (by decide) ?_
        refine T_iret dX8_tuned_106 rfl rfl ?_
        exact fm_same k hI hf (by rw [hs, if_pos c97])
    · first | refine B_ifne1 (tgt := 26) dX8_tuned_20 (by with_reducible rfl) (by decide) ?_ | refine B_ifne0 (pc2 := 23) (tgt := 26) dX8_tuned_20 (by with_reducible rfl) (by decide) rfl ?_ | refine N_ifne (pc2 := 23) (tgt := 26) dX8_tuned_20 (by with_reducible rfl) (by decide) (by omega) rfl (fun c20 => ?_) (fun c20 => ?_) | refine T_ifne (pc2 := 23) (tgt := 26) dX8_tuned_20 (by decide) rfl (fun c20 => ?_) (fun c20 => ?_)
      refine T_ldc (pc2 := 25) dX8_tuned_23 kcX8_70 rfl ?_
      refine T_iret dX8_tuned_25 rfl rfl ?_
      refine fm_same k hI Ms.rf ?_
      unfold sTuned
      rw [inN_none (v := w) (k := 2) (fun q hq => hno q (by omega))]
      cases inN (nI i) s.V.J <;> rfl
  · first | refine B_ifeq1 (pc2 := 13) (tgt := 23) dX8_tuned_10 (by with_reducible rfl) (by decide) rfl ?_ | refine B_ifeq0 (tgt := 23) dX8_tuned_10 (by with_reducible rfl) (by decide) ?_ | refine N_ifeq (pc2 := 13) (tgt := 23) dX8_tuned_10 (by with_reducible rfl) (by decide) (by omega) rfl (fun c10 => ?_) (fun c10 => ?_) | refine T_ifeq (pc2 := 13) (tgt := 23) dX8_tuned_10 (by decide) rfl (fun c10 => ?_) (fun c10 => ?_)
    refine T_ldc (pc2 := 25) dX8_tuned_23 kcX8_70 rfl ?_
    refine T_iret dX8_tuned_25 rfl rfl ?_
    refine fm_same k hI Ms.rf ?_
    unfold sTuned
    rw [inN_none hno]
theorem mspared_loop {x : Nat} (S : Sh sk n bf im above below) (hV : hasM (g 52) V) (hok : okD V)
    (k : ∀ g2, Ms g g2 → T MX8_spared (d + 4) kc ks 104 [(1, .int (nI x)), (2, .int (nI V.sp.1)), (3, .int (oN V.sp.2))] [] (HP sk g2 n) Q) :
    ∀ m t g2, t + m = V.J → Ms g g2 → T MX8_spared (d + 4) kc ks 37 [(0, .ref 48), (1, .int (nI x)), (2, .int (nI (itr (spf V (V.th 0)) (9, none) t).1)), (3, .int (oN (itr (spf V (V.th 0)) (9, none) t).2)), (4, .int (nI t))] [] (HP sk g2 n) Q := by
  have hJ8 := hok.1
  intro m
  induction m with
  | zero =>
    intro t g2 ht hf
    have e : t = V.J := by omega
    subst e
    have e0 : g2 52 0 = nI V.J := by rw [hf.1 52 (by decide) (by decide) (by decide) (by decide) (by decide)]; exact hV.1
    refine T_iload (pc2 := 39) dX8_spared_37 rfl rfl ?_
    refine T_aload_n (pc2 := 40) dX8_spared_39 rfl rfl ?_
    refine G_getR (pc2 := 43) dX8_spared_40 flX8_19 (sh48 S) rfl rfl ?_
    refine T_iconst (pc2 := 44) dX8_spared_43 ic0 rfl ?_
    refine G_iald (pc2 := 45) dX8_spared_44 (sh52 S) (by omega) (by first | decide | omega) (by first | with_reducible assumption | exact gs_eq _ _ _ _ | exact (gs_ne _ _ (by omega)).trans (by with_reducible assumption) | exact (gs_ne _ _ (by omega)).trans (gs_eq _ _ _ _) | exact (gs_ne _ _ (by omega)).trans ((gs_ne _ _ (by omega)).trans (by with_reducible assumption)) | exact (gs_ne _ _ (by omega)).trans ((gs_ne _ _ (by omega)).trans (gs_eq _ _ _ _)) | exact (gs_ne _ _ (by omega)).trans ((gs_ne _ _ (by omega)).trans ((gs_ne _ _ (by omega)).trans (by with_reducible assumption))) | rfl) rfl ?_
    first | refine N_icmpge (pc2 := 48) (tgt := 104) dX8_spared_45 (by decide) (by with_reducible rfl) (by with_reducible rfl) (by omega) (by omega) rfl (fun c45 => ?_) (fun c45 => ?_) | refine T_icmpge (pc2 := 48) (tgt := 104) dX8_spared_45 (by decide) rfl (fun c45 => ?_) (fun c45 => ?_)
    · refine T_sub (lks (i := 1) rfl (lks (i := 2) rfl (lks (i := 3) rfl lk0))) ?_
      exact k g2 hf
    · exact absurd (by omega) c45
  | succ m ih =>
    intro t g2 ht hf
    have htl : t < V.J := by omega
    have hle := sp_le V (V.th 0) t
    have hV2 : hasM (g2 52) V := by rw [hf.1 52 (by decide) (by decide) (by decide) (by decide) (by decide)]; exact hV
    have e0 := hV2.1
    have o3 := (hok.2.2.2.1 t htl).2.2.2.2.2.2
    have hst : itr (spf V (V.th 0)) (9, none) (t + 1) = spf V (V.th 0) t (itr (spf V (V.th 0)) (9, none) t) := rfl
    have ih2 := fun g3 => ih (t + 1) g3 (by omega)
    rw [hst] at ih2
    generalize itr (spf V (V.th 0)) (9, none) t = z at hle ih2 ⊢
    unfold spf at ih2
    rw [th0 htl] at ih2
    refine T_iload (pc2 := 39) dX8_spared_37 rfl rfl ?_
    refine T_aload_n (pc2 := 40) dX8_spared_39 rfl rfl ?_
    refine G_getR (pc2 := 43) dX8_spared_40 flX8_19 (sh48 S) rfl rfl ?_
    refine T_iconst (pc2 := 44) dX8_spared_43 ic0 rfl ?_
    refine G_iald (pc2 := 45) dX8_spared_44 (sh52 S) (by omega) (by first | decide | omega) (by first | with_reducible assumption | exact gs_eq _ _ _ _ | exact (gs_ne _ _ (by omega)).trans (by with_reducible assumption) | exact (gs_ne _ _ (by omega)).trans (gs_eq _ _ _ _) | exact (gs_ne _ _ (by omega)).trans ((gs_ne _ _ (by omega)).trans (by with_reducible assumption)) | exact (gs_ne _ _ (by omega)).trans ((gs_ne _ _ (by omega)).trans (gs_eq _ _ _ _)) | exact (gs_ne _ _ (by omega)).trans ((gs_ne _ _ (by omega)).trans ((gs_ne _ _ (by omega)).trans (by with_reducible assumption))) | rfl) rfl ?_
    first | refine N_icmpge (pc2 := 48) (tgt := 104) dX8_spared_45 (by decide) (by with_reducible rfl) (by with_reducible rfl) (by omega) (by omega) rfl (fun c45 => ?_) (fun c45 => ?_) | refine T_icmpge (pc2 := 48) (tgt := 104) dX8_spared_45 (by decide) rfl (fun c45 => ?_) (fun c45 => ?_)
    · exact absurd c45 (by omega)
    · refine T_aload_n (pc2 := 49) dX8_spared_48 rfl rfl ?_
      refine G_getR (pc2 := 52) dX8_spared_49 flX8_19 (sh48 S) rfl rfl ?_
      refine T_iload (pc2 := 54) dX8_spared_52 rfl rfl ?_
      refine T_iconst (pc2 := 55) dX8_spared_54 ic4 rfl ?_
      refine C_S3 (pc2 := 58) (mc := 0) (ms := 0) dX8_spared_55 csX8_of mlX8_154 (Nat.le_of_ble_eq_true rfl) rfl ?_
      refine m_of (sh52 S) (by omega) (hV2.2.2.2 t htl).2.2.2.2 ?_
      first | refine B_ifne1 (tgt := 98) dX8_spared_58 (by with_reducible rfl) (by decide) ?_ | refine B_ifne0 (pc2 := 61) (tgt := 98) dX8_spared_58 (by with_reducible rfl) (by decide) rfl ?_ | refine N_ifne (pc2 := 61) (tgt := 98) dX8_spared_58 (by with_reducible rfl) (by decide) (by omega) rfl (fun c58 => ?_) (fun c58 => ?_) | refine T_ifne (pc2 := 61) (tgt := 98) dX8_spared_58 (by decide) rfl (fun c58 => ?_) (fun c58 => ?_)
      · rw [if_neg (fun q => c58 (of_decide_eq_true q.1))] at ih2
        first | refine N_iinc (pc2 := 101) dX8_spared_98 rfl (by with_reducible rfl) ic1 (by decide) rfl ?_ | refine T_iinc (pc2 := 101) dX8_spared_98 rfl rfl (by decide) rfl ?_
        refine T_goto (tgt := 37) dX8_spared_101 (by decide) ?_
        refine T_sub (lks (i := 0) rfl (lks (i := 1) rfl (lks (i := 2) rfl (lks (i := 3) rfl (lks (i := 4) rfl lk0))))) ?_
        exact ih2 g2 hf
      · refine T_aload_n (pc2 := 62) dX8_spared_61 rfl rfl ?_
        refine C_V0 (pc2 := 65) (mc := 0) (ms := 0) dX8_spared_62 cvX8_layThen mlX8_233 (isO.h (sh48 S) _) (Nat.le_of_ble_eq_true rfl) rfl ?_
        refine m_lay S hV2 hJ8 (fun g3 hM3 hf3 => ?_)
        refine T_aload_n (pc2 := 66) dX8_spared_65 rfl rfl ?_
        refine G_getR (pc2 := 69) dX8_spared_66 flX8_25 (sh48 S) rfl rfl ?_
        refine T_iload (pc2 := 71) dX8_spared_69 rfl rfl ?_
        refine T_iconst (pc2 := 72) dX8_spared_71 ic4 rfl ?_
        refine T_iconst (pc2 := 73) dX8_spared_72 ic3 rfl ?_
        refine C_S4 (pc2 := 76) (mc := 0) (ms := 0) dX8_spared_73 csX8_be mlX8_192 (Nat.le_of_ble_eq_true rfl) rfl ?_
        refine m_be (sh54 S) (by omega) ?_
        have hM4 := hM3.sethw (j := t) (v := 3)
        have hm4 : Ms g2 (gset g3 54 (3 + 5 * t + 4) (nI 3)) := (hf3.ms (by omega)).st (by omega)
        refine T_aload_n (pc2 := 77) dX8_spared_76 rfl rfl ?_
        refine T_aload_n (pc2 := 78) dX8_spared_77 rfl rfl ?_
        refine G_getR (pc2 := 81) dX8_spared_78 flX8_25 (sh48 S) rfl rfl ?_
        refine C_V1 (pc2 := 84) (mc := 0) (ms := 0) dX8_spared_81 cvX8_worstOf mlX8_229 (isO.h (sh48 S) _) (Nat.le_of_ble_eq_true rfl) rfl ?_
        refine m_worst S (sh54 S) (by decide) hM4 (hok.sethw (by decide)) (show 0 < V.J by omega) (fun g5 _ _ hf5 => ?_)
        have hm5 := (hf.tr hm4).tr hf5.ms
        have e1 : (V.sethw t 3).wv ((V.sethw t 3).th 0) = V.wv (cutJ (V.th 0) t) := by
          rw [th_cut]
          exact wv_same ⟨rfl, rfl, rfl, rfl, rfl⟩ _
        rw [e1]
        have hwl := wv_le V (cutJ (V.th 0) t)
        refine T_istore (pc2 := 86) dX8_spared_84 (by decide) rfl ?_
        refine T_iload (pc2 := 88) dX8_spared_86 rfl rfl ?_
        refine T_iload_n (pc2 := 89) dX8_spared_88 rfl rfl ?_
        first | refine N_icmpge (pc2 := 92) (tgt := 98) dX8_spared_89 (by decide) (by with_reducible rfl) (by with_reducible rfl) (by omega) (by omega) rfl (fun c89 => ?_) (fun c89 => ?_) | refine T_icmpge (pc2 := 92) (tgt := 98) dX8_spared_89 (by decide) rfl (fun c89 => ?_) (fun c89 => ?_)
        · rw [if_neg (fun q => by have := q.2; omega)] at ih2
          first | refine N_iinc (pc2 := 101) dX8_spared_98 rfl (by with_reducible rfl) ic1 (by decide) rfl ?_ | refine T_iinc (pc2 := 101) dX8_spared_98 rfl rfl (by decide) rfl ?_
          refine T_goto (tgt := 37) dX8_spared_101 (by decide) ?_
          refine T_sub (lks (i := 0) rfl (lks (i := 1) rfl (lks (i := 2) rfl (lks (i := 3) rfl (lks (i := 4) rfl lk0))))) ?_
          exact ih2 g5 hm5
        · rw [if_pos ⟨decide_eq_true c58, by omega⟩] at ih2
          refine T_iload (pc2 := 94) dX8_spared_92 rfl rfl ?_
          refine T_istore_n (pc2 := 95) dX8_spared_94 (by decide) rfl ?_
          refine T_iload (pc2 := 97) dX8_spared_95 rfl rfl ?_
          refine T_istore_n (pc2 := 98) dX8_spared_97 (by decide) rfl ?_
          first | refine N_iinc (pc2 := 101) dX8_spared_98 rfl (by with_reducible rfl) ic1 (by decide) rfl ?_ | refine T_iinc (pc2 := 101) dX8_spared_98 rfl rfl (by decide) rfl ?_
          refine T_goto (tgt := 37) dX8_spared_101 (by decide) ?_
          refine T_sub (lks (i := 0) rfl (lks (i := 1) rfl (lks (i := 2) rfl (lks (i := 3) rfl (lks (i := 4) rfl lk0))))) ?_
          exact ih2 g5 hm5
theorem msp_lt (V : Cel) (w : Nat → Bool) : ∀ m j, (itr (spf V w) (9, none) m).2 = some j → j < m
  | 0, j, h => by cases h
  | m + 1, j, h => by
    have ih := msp_lt V w m j
    have e : itr (spf V w) (9, none) (m + 1) = spf V w m (itr (spf V w) (9, none) m) := rfl
    rw [e] at h
    unfold spf at h
    split at h
    · cases h; omega
    · have := ih h
      omega
theorem mm_spared {w : Int32} (S : Sh sk n bf im above below) (hI : InvM g s) (hok : Ok s) (k : ∀ g2, InvM g2 (sSpared s w).2 → Fr 48 62 g g2 → Q (some (.int (sSpared s w).1)) (HP sk g2 n)) : Calls MX8_spared (d + 4) 0 0 [.ref 48, .int w] (HP sk g n) Q := by
  have hokV := hok.2.2.1.1
  have hJ8 := hokV.1
  refine Calls.of (by decide +kernel) (Nat.le_of_ble_eq_true rfl) ?_
  refine T_aload_n (pc2 := 1) dX8_spared_0 rfl rfl ?_
  refine T_iconst (pc2 := 2) dX8_spared_1 ic0 rfl ?_
  refine G_putI (pc2 := 5) dX8_spared_2 flX8_50 (sh48 S) rfl rfl rfl rfl ?_
  have hI := hI.ms (Ms.rf.st (i := 48) (k := 0) (v := nI 0) (by omega))
  have k := fm_start k
  generalize gset g 48 0 (nI 0) = g1 at hI k ⊢
  have hV := hI.2.2.1
  refine T_aload_n (pc2 := 6) dX8_spared_5 rfl rfl ?_
  refine C_V0 (pc2 := 9) (mc := 0) (ms := 0) dX8_spared_6 cvX8_isThere mlX8_196 (isO.h (sh48 S) _) (Nat.le_of_ble_eq_true rfl) rfl ?_
  refine m_isThere S hV.1 hJ8 (fun h0 => ?_) (fun h0 => ?_)
  · first | refine B_ifne1 (tgt := 15) dX8_spared_9 (by with_reducible rfl) (by decide) ?_ | refine B_ifne0 (pc2 := 12) (tgt := 15) dX8_spared_9 (by with_reducible rfl) (by decide) rfl ?_ | refine N_ifne (pc2 := 12) (tgt := 15) dX8_spared_9 (by with_reducible rfl) (by decide) (by omega) rfl (fun c9 => ?_) (fun c9 => ?_) | refine T_ifne (pc2 := 12) (tgt := 15) dX8_spared_9 (by decide) rfl (fun c9 => ?_) (fun c9 => ?_)
    refine T_iload_n (pc2 := 16) dX8_spared_15 rfl rfl ?_
    refine T_i2l (pc2 := 17) dX8_spared_16 rfl ?_
    refine T_lconst (pc2 := 18) (v := lN 0) dX8_spared_17 rfl rfl ?_
    refine T_lconst (pc2 := 19) (v := lN 1) dX8_spared_18 rfl rfl ?_
    refine C_S3 (pc2 := 22) (mc := 0) (ms := 0) dX8_spared_19 csX8_in mlX8_60 (Nat.le_of_ble_eq_true rfl) rfl ?_
    refine m_inI (k := 1) rfl rfl (by decide) (by decide) (fun x hx ex => ?_) (fun hno => ?_)
    · subst ex
      have hs : sSpared s (nI x) = (if x = 0 then oN s.V.sp.2 else oN (s.V.sp.2.map fun _ => s.V.sp.1), s) := by
        unfold sSpared q2
        rw [if_neg (by omega), inN_some (show x < 2 by omega) (by decide)]
      first | refine B_ifne1 (tgt := 28) dX8_spared_22 (by with_reducible rfl) (by decide) ?_ | refine B_ifne0 (pc2 := 25) (tgt := 28) dX8_spared_22 (by with_reducible rfl) (by decide) rfl ?_ | refine N_ifne (pc2 := 25) (tgt := 28) dX8_spared_22 (by with_reducible rfl) (by decide) (by omega) rfl (fun c22 => ?_) (fun c22 => ?_) | refine T_ifne (pc2 := 25) (tgt := 28) dX8_spared_22 (by decide) rfl (fun c22 => ?_) (fun c22 => ?_)
      refine T_bipush (pc2 := 30) dX8_spared_28 bp9 rfl ?_
      refine T_istore_n (pc2 := 31) dX8_spared_30 (by decide) rfl ?_
      refine T_ldc (pc2 := 33) dX8_spared_31 kcX8_93 rfl ?_
      refine T_istore_n (pc2 := 34) dX8_spared_33 (by decide) rfl ?_
      refine T_iconst (pc2 := 35) dX8_spared_34 ic0 rfl ?_
      refine T_istore (pc2 := 37) dX8_spared_35 (by decide) rfl ?_
      refine T_sub (lks (i := 0) rfl (lks (i := 1) rfl (lks (i := 2) rfl (lks (i := 3) rfl (lks (i := 4) rfl lk0))))) ?_
      refine mspared_loop (g := g1) (x := x) S hV hokV.d (fun g2 hf => ?_) s.V.J 0 g1 (by omega) Ms.rf
      have hlt := msp_lt s.V (s.V.th 0) s.V.J
      have hlt : ∀ j, s.V.sp.2 = some j → j < s.V.J := hlt
      cases hq : s.V.sp.2 with
      | none =>
        refine T_iload_n (pc2 := 105) dX8_spared_104 rfl rfl ?_
        refine T_ldc (pc2 := 107) dX8_spared_105 kcX8_93 rfl ?_
        refine T_icmpeq (pc2 := 110) (tgt := 114) dX8_spared_107 (by decide) rfl (fun c107 => ?_) (fun c107 => ?_)
        · refine T_iload_n (pc2 := 115) dX8_spared_114 rfl rfl ?_
          refine T_goto (tgt := 119) dX8_spared_115 (by decide) ?_
          refine T_iret dX8_spared_119 rfl rfl ?_
          refine fm_same k hI hf ?_
          rw [hs, hq, fin_o (Or.inr rfl)]
        · exact absurd rfl c107
      | some j =>
        have hj := hlt j hq
        refine T_iload_n (pc2 := 105) dX8_spared_104 rfl rfl ?_
        refine T_ldc (pc2 := 107) dX8_spared_105 kcX8_93 rfl ?_
        refine T_icmpeq (pc2 := 110) (tgt := 114) dX8_spared_107 (by decide) rfl (fun c107 => ?_) (fun c107 => ?_)
        · exact absurd c107 (nI_none (by omega))
        · refine T_iload_n (pc2 := 111) dX8_spared_110 rfl rfl ?_
          first | refine B_ifne1 (tgt := 118) dX8_spared_111 (by with_reducible rfl) (by decide) ?_ | refine B_ifne0 (pc2 := 114) (tgt := 118) dX8_spared_111 (by with_reducible rfl) (by decide) rfl ?_ | refine N_ifne (pc2 := 114) (tgt := 118) dX8_spared_111 (by with_reducible rfl) (by decide) (by omega) rfl (fun c111 => ?_) (fun c111 => ?_) | refine T_ifne (pc2 := 114) (tgt := 118) dX8_spared_111 (by decide) rfl (fun c111 => ?_) (fun c111 => ?_)
          · refine T_iload_n (pc2 := 119) dX8_spared_118 rfl rfl ?_
            refine T_iret dX8_spared_119 rfl rfl ?_
            exact fm_same k hI hf (by rw [hs, hq, if_neg c111]; rfl)
          · refine T_iload_n (pc2 := 115) dX8_spared_114 rfl rfl ?_
            refine T_goto (tgt := 119) dX8_spared_115 (by decide) ?_
            refine T_iret dX8_spared_119 rfl rfl ?_
            refine fm_same k hI hf ?_
            rw [hs, hq, if_pos c111]
    · first | refine B_ifne1 (tgt := 28) dX8_spared_22 (by with_reducible rfl) (by decide) ?_ | refine B_ifne0 (pc2 := 25) (tgt := 28) dX8_spared_22 (by with_reducible rfl) (by decide) rfl ?_ | refine N_ifne (pc2 := 25) (tgt := 28) dX8_spared_22 (by with_reducible rfl) (by decide) (by omega) rfl (fun c22 => ?_) (fun c22 => ?_) | refine T_ifne (pc2 := 25) (tgt := 28) dX8_spared_22 (by decide) rfl (fun c22 => ?_) (fun c22 => ?_)
      refine T_ldc (pc2 := 27) dX8_spared_25 kcX8_70 rfl ?_
      refine T_iret dX8_spared_27 rfl rfl ?_
      refine fm_same k hI Ms.rf ?_
      unfold sSpared q2
      rw [if_neg (by omega), inN_none (fun j hj => hno j (by omega))]
  · first | refine B_ifne1 (tgt := 15) dX8_spared_9 (by with_reducible rfl) (by decide) ?_ | refine B_ifne0 (pc2 := 12) (tgt := 15) dX8_spared_9 (by with_reducible rfl) (by decide) rfl ?_ | refine N_ifne (pc2 := 12) (tgt := 15) dX8_spared_9 (by with_reducible rfl) (by decide) (by omega) rfl (fun c9 => ?_) (fun c9 => ?_) | refine T_ifne (pc2 := 12) (tgt := 15) dX8_spared_9 (by decide) rfl (fun c9 => ?_) (fun c9 => ?_)
    refine T_ldc (pc2 := 14) dX8_spared_12 kcX8_199 rfl ?_
    refine T_iret dX8_spared_14 rfl rfl ?_
    exact fm_same k hI Ms.rf (if_pos h0)
theorem chf_le {V : Cel} {w : Nat → Bool} {a b : Nat} {s : Nat × Option Nat} (h : s.1 ≤ 8) : (chf V w a b s).1 ≤ 8 := by
  unfold chf
  split
  · exact wv_le _ _
  · exact h
theorem chRow_le {V : Cel} {w : Nat → Bool} {a : Nat} {s : Nat × Option Nat} (h : s.1 ≤ 8) : ∀ k, (chRow V w a s k).1 ≤ 8
  | 0 => h
  | k + 1 => chf_le (chRow_le h k)
theorem chAll_le (V : Cel) (w : Nat → Bool) : ∀ k, (chAll V w k).1 ≤ 8
  | 0 => wv_le _ _
  | k + 1 => chRow_le (chAll_le V w k) _
theorem chf_o {V : Cel} {w : Nat → Bool} {a b : Nat} {s : Nat × Option Nat} (h : ∀ v, s.2 = some v → v < 200) (hab : 10 * a + b < 200) : ∀ v, (chf V w a b s).2 = some v → v < 200 := by
  unfold chf
  split
  · intro v hv; cases hv; exact hab
  · exact h
theorem chRow_o {V : Cel} {w : Nat → Bool} {a : Nat} {s : Nat × Option Nat} (h : ∀ v, s.2 = some v → v < 200) : ∀ k, 10 * a + (a + 1 + k) < 200 → ∀ v, (chRow V w a s k).2 = some v → v < 200
  | 0, _ => h
  | k + 1, hk => chf_o (chRow_o h k (by omega)) (by omega)
theorem chAll_o {V : Cel} (hJ : V.J ≤ 8) (w : Nat → Bool) : ∀ k, k ≤ V.J → ∀ v, (chAll V w k).2 = some v → v < 200
  | 0, _ => fun v hv => by cases hv
  | k + 1, hk => chRow_o (chAll_o hJ w k (by omega)) _ (by omega)
theorem okD.swap {V : Cel} (h : okC V) {a b : Nat} (ha : a < V.J) (hb : b < V.J) : okD (V.swap a b) := (okC.swap h ha hb).d
theorem mch_in {a x : Nat} (S : Sh sk n bf im above below) (hV : hasM (g 52) V) (hok : okC V) (ha : a < V.J) (s0 : Nat × Option Nat) (h0 : s0.1 ≤ 8)
    (k : ∀ g2, Ms g g2 → T MX8_changes (d + 4) kc ks 120 [(0, .ref 48), (1, .int (nI x)), (2, .int (nI (chRow V (V.th 0) a s0 (V.J - (a + 1))).1)), (3, .int (oN (chRow V (V.th 0) a s0 (V.J - (a + 1))).2)), (4, .int (nI a))] [] (HP sk g2 n) Q) :
    ∀ m t g2, a + 1 + t + m = V.J → Ms g g2 → T MX8_changes (d + 4) kc ks 60 [(0, .ref 48), (1, .int (nI x)), (2, .int (nI (chRow V (V.th 0) a s0 t).1)), (3, .int (oN (chRow V (V.th 0) a s0 t).2)), (4, .int (nI a)), (5, .int (nI (a + 1 + t)))] [] (HP sk g2 n) Q := by
  have hJ8 := hok.1
  intro m
  induction m with
  | zero =>
    intro t g2 ht hf
    have e : t = V.J - (a + 1) := by omega
    subst e
    have e0 : g2 52 0 = nI V.J := by rw [hf.1 52 (by decide) (by decide) (by decide) (by decide) (by decide)]; exact hV.1
    refine T_iload (pc2 := 62) dX8_changes_60 rfl rfl ?_
    refine T_aload_n (pc2 := 63) dX8_changes_62 rfl rfl ?_
    refine G_getR (pc2 := 66) dX8_changes_63 flX8_19 (sh48 S) rfl rfl ?_
    refine T_iconst (pc2 := 67) dX8_changes_66 ic0 rfl ?_
    refine G_iald (pc2 := 68) dX8_changes_67 (sh52 S) (by omega) (by first | decide | omega) (by first | with_reducible assumption | exact gs_eq _ _ _ _ | exact (gs_ne _ _ (by omega)).trans (by with_reducible assumption) | exact (gs_ne _ _ (by omega)).trans (gs_eq _ _ _ _) | exact (gs_ne _ _ (by omega)).trans ((gs_ne _ _ (by omega)).trans (by with_reducible assumption)) | exact (gs_ne _ _ (by omega)).trans ((gs_ne _ _ (by omega)).trans (gs_eq _ _ _ _)) | exact (gs_ne _ _ (by omega)).trans ((gs_ne _ _ (by omega)).trans ((gs_ne _ _ (by omega)).trans (by with_reducible assumption))) | rfl) rfl ?_
    first | refine N_icmpge (pc2 := 71) (tgt := 120) dX8_changes_68 (by decide) (by with_reducible rfl) (by with_reducible rfl) (by omega) (by omega) rfl (fun c68 => ?_) (fun c68 => ?_) | refine T_icmpge (pc2 := 71) (tgt := 120) dX8_changes_68 (by decide) rfl (fun c68 => ?_) (fun c68 => ?_)
    · refine T_sub (lks (i := 0) rfl (lks (i := 1) rfl (lks (i := 2) rfl (lks (i := 3) rfl (lks (i := 4) rfl lk0))))) ?_
      exact k g2 hf
    · exact absurd (by omega) c68
  | succ m ih =>
    intro t g2 ht hf
    have hb : a + 1 + t < V.J := by omega
    have hle := chRow_le (V := V) (w := V.th 0) (a := a) h0 t
    have hV2 : hasM (g2 52) V := by rw [hf.1 52 (by decide) (by decide) (by decide) (by decide) (by decide)]; exact hV
    have e0 := hV2.1
    have hst : chRow V (V.th 0) a s0 (t + 1) = chf V (V.th 0) a (a + 1 + t) (chRow V (V.th 0) a s0 t) := rfl
    have ih2 := fun g3 => ih (t + 1) g3 (by omega)
    rw [hst] at ih2
    generalize chRow V (V.th 0) a s0 t = z at hle ih2 ⊢
    unfold chf at ih2
    refine T_iload (pc2 := 62) dX8_changes_60 rfl rfl ?_
    refine T_aload_n (pc2 := 63) dX8_changes_62 rfl rfl ?_
    refine G_getR (pc2 := 66) dX8_changes_63 flX8_19 (sh48 S) rfl rfl ?_
    refine T_iconst (pc2 := 67) dX8_changes_66 ic0 rfl ?_
    refine G_iald (pc2 := 68) dX8_changes_67 (sh52 S) (by omega) (by first | decide | omega) (by first | with_reducible assumption | exact gs_eq _ _ _ _ | exact (gs_ne _ _ (by omega)).trans (by with_reducible assumption) | exact (gs_ne _ _ (by omega)).trans (gs_eq _ _ _ _) | exact (gs_ne _ _ (by omega)).trans ((gs_ne _ _ (by omega)).trans (by with_reducible assumption)) | exact (gs_ne _ _ (by omega)).trans ((gs_ne _ _ (by omega)).trans (gs_eq _ _ _ _)) | exact (gs_ne _ _ (by omega)).trans ((gs_ne _ _ (by omega)).trans ((gs_ne _ _ (by omega)).trans (by with_reducible assumption))) | rfl) rfl ?_
    first | refine N_icmpge (pc2 := 71) (tgt := 120) dX8_changes_68 (by decide) (by with_reducible rfl) (by with_reducible rfl) (by omega) (by omega) rfl (fun c68 => ?_) (fun c68 => ?_) | refine T_icmpge (pc2 := 71) (tgt := 120) dX8_changes_68 (by decide) rfl (fun c68 => ?_) (fun c68 => ?_)
    · exact absurd c68 (by omega)
    · refine T_aload_n (pc2 := 72) dX8_changes_71 rfl rfl ?_
      refine C_V0 (pc2 := 75) (mc := 0) (ms := 0) dX8_changes_72 cvX8_layThen mlX8_233 (isO.h (sh48 S) _) (Nat.le_of_ble_eq_true rfl) rfl ?_
      refine m_lay S hV2 hJ8 (fun g3 hM3 hf3 => ?_)
      refine T_aload_n (pc2 := 76) dX8_changes_75 rfl rfl ?_
      refine G_getR (pc2 := 79) dX8_changes_76 flX8_25 (sh48 S) rfl rfl ?_
      refine T_iload (pc2 := 81) dX8_changes_79 rfl rfl ?_
      refine T_iload (pc2 := 83) dX8_changes_81 rfl rfl ?_
      refine C_S3 (pc2 := 86) (mc := 0) (ms := 0) dX8_changes_83 csX8_changePlaces mlX8_220 (Nat.le_of_ble_eq_true rfl) rfl ?_
      refine m_swap (sh54 S) hM3 hJ8 ha hb (fun g4 hM4 hf4 => ?_)
      have hm4 : Ms g2 g4 := (hf3.tr hf4).ms (by omega)
      refine T_aload_n (pc2 := 87) dX8_changes_86 rfl rfl ?_
      refine T_aload_n (pc2 := 88) dX8_changes_87 rfl rfl ?_
      refine G_getR (pc2 := 91) dX8_changes_88 flX8_25 (sh48 S) rfl rfl ?_
      refine C_V1 (pc2 := 94) (mc := 0) (ms := 0) dX8_changes_91 cvX8_worstOf mlX8_229 (isO.h (sh48 S) _) (Nat.le_of_ble_eq_true rfl) rfl ?_
      refine m_worst S (sh54 S) (by decide) hM4 (okD.swap hok ha hb) (show 0 < V.J by omega) (fun g5 _ _ hf5 => ?_)
      have hm5 := (hf.tr hm4).tr hf5.ms
      have e1 : (V.swap a (a + 1 + t)).wv ((V.swap a (a + 1 + t)).th 0) = (V.swap a (a + 1 + t)).wv (V.th 0) := rfl
      rw [e1]
      have hwl := wv_le (V.swap a (a + 1 + t)) (V.th 0)
      refine T_istore (pc2 := 96) dX8_changes_94 (by decide) rfl ?_
      refine T_iload (pc2 := 98) dX8_changes_96 rfl rfl ?_
      refine T_iload_n (pc2 := 99) dX8_changes_98 rfl rfl ?_
      first | refine N_icmpge (pc2 := 102) (tgt := 114) dX8_changes_99 (by decide) (by with_reducible rfl) (by with_reducible rfl) (by omega) (by omega) rfl (fun c99 => ?_) (fun c99 => ?_) | refine T_icmpge (pc2 := 102) (tgt := 114) dX8_changes_99 (by decide) rfl (fun c99 => ?_) (fun c99 => ?_)
      · rw [if_neg (by omega)] at ih2
        first | refine N_iinc (pc2 := 117) dX8_changes_114 rfl (by with_reducible rfl) ic1 (by decide) rfl ?_ | refine T_iinc (pc2 := 117) dX8_changes_114 rfl rfl (by decide) rfl ?_
        refine T_goto (tgt := 60) dX8_changes_117 (by decide) ?_
        refine T_sub (lks (i := 0) rfl (lks (i := 1) rfl (lks (i := 2) rfl (lks (i := 3) rfl (lks (i := 4) rfl (lks (i := 5) rfl lk0)))))) ?_
        exact ih2 g5 hm5
      · rw [if_pos (by omega)] at ih2
        refine T_iload (pc2 := 104) dX8_changes_102 rfl rfl ?_
        refine T_istore_n (pc2 := 105) dX8_changes_104 (by decide) rfl ?_
        refine T_bipush (pc2 := 107) dX8_changes_105 bp10 rfl ?_
        refine T_iload (pc2 := 109) dX8_changes_107 rfl rfl ?_
        first | refine N_imul (pc2 := 110) dX8_changes_109 (by with_reducible rfl) (by with_reducible rfl) rfl ?_ | refine T_imul (pc2 := 110) dX8_changes_109 rfl ?_
        refine T_iload (pc2 := 112) dX8_changes_110 rfl rfl ?_
        first | refine N_iadd (pc2 := 113) dX8_changes_112 (by with_reducible rfl) (by with_reducible rfl) rfl ?_ | refine T_iadd (pc2 := 113) dX8_changes_112 rfl ?_
        refine T_istore_n (pc2 := 114) dX8_changes_113 (by decide) rfl ?_
        first | refine N_iinc (pc2 := 117) dX8_changes_114 rfl (by with_reducible rfl) ic1 (by decide) rfl ?_ | refine T_iinc (pc2 := 117) dX8_changes_114 rfl rfl (by decide) rfl ?_
        refine T_goto (tgt := 60) dX8_changes_117 (by decide) ?_
        refine T_sub (lks (i := 0) rfl (lks (i := 1) rfl (lks (i := 2) rfl (lks (i := 3) rfl (lks (i := 4) rfl (lks (i := 5) rfl lk0)))))) ?_
        exact ih2 g5 hm5
theorem mch_out {x : Nat} (S : Sh sk n bf im above below) (hV : hasM (g 52) V) (hok : okC V)
    (k : ∀ g2, Ms g g2 → T MX8_changes (d + 4) kc ks 126 [(1, .int (nI x)), (2, .int (nI V.ch.1)), (3, .int (oN V.ch.2))] [] (HP sk g2 n) Q) :
    ∀ m a g2, a + m = V.J → Ms g g2 → T MX8_changes (d + 4) kc ks 43 [(0, .ref 48), (1, .int (nI x)), (2, .int (nI (chAll V (V.th 0) a).1)), (3, .int (oN (chAll V (V.th 0) a).2)), (4, .int (nI a))] [] (HP sk g2 n) Q := by
  have hJ8 := hok.1
  intro m
  induction m with
  | zero =>
    intro a g2 ha hf
    have e : a = V.J := by omega
    subst e
    have e0 : g2 52 0 = nI V.J := by rw [hf.1 52 (by decide) (by decide) (by decide) (by decide) (by decide)]; exact hV.1
    refine T_iload (pc2 := 45) dX8_changes_43 rfl rfl ?_
    refine T_aload_n (pc2 := 46) dX8_changes_45 rfl rfl ?_
    refine G_getR (pc2 := 49) dX8_changes_46 flX8_19 (sh48 S) rfl rfl ?_
    refine T_iconst (pc2 := 50) dX8_changes_49 ic0 rfl ?_
    refine G_iald (pc2 := 51) dX8_changes_50 (sh52 S) (by omega) (by first | decide | omega) (by first | with_reducible assumption | exact gs_eq _ _ _ _ | exact (gs_ne _ _ (by omega)).trans (by with_reducible assumption) | exact (gs_ne _ _ (by omega)).trans (gs_eq _ _ _ _) | exact (gs_ne _ _ (by omega)).trans ((gs_ne _ _ (by omega)).trans (by with_reducible assumption)) | exact (gs_ne _ _ (by omega)).trans ((gs_ne _ _ (by omega)).trans (gs_eq _ _ _ _)) | exact (gs_ne _ _ (by omega)).trans ((gs_ne _ _ (by omega)).trans ((gs_ne _ _ (by omega)).trans (by with_reducible assumption))) | rfl) rfl ?_
    first | refine N_icmpge (pc2 := 54) (tgt := 126) dX8_changes_51 (by decide) (by with_reducible rfl) (by with_reducible rfl) (by omega) (by omega) rfl (fun c51 => ?_) (fun c51 => ?_) | refine T_icmpge (pc2 := 54) (tgt := 126) dX8_changes_51 (by decide) rfl (fun c51 => ?_) (fun c51 => ?_)
    · refine T_sub (lks (i := 1) rfl (lks (i := 2) rfl (lks (i := 3) rfl lk0))) ?_
      exact k g2 hf
    · exact absurd (by omega) c51
  | succ m ih =>
    intro a g2 ha hf
    have e0 : g2 52 0 = nI V.J := by rw [hf.1 52 (by decide) (by decide) (by decide) (by decide) (by decide)]; exact hV.1
    refine T_iload (pc2 := 45) dX8_changes_43 rfl rfl ?_
    refine T_aload_n (pc2 := 46) dX8_changes_45 rfl rfl ?_
    refine G_getR (pc2 := 49) dX8_changes_46 flX8_19 (sh48 S) rfl rfl ?_
    refine T_iconst (pc2 := 50) dX8_changes_49 ic0 rfl ?_
    refine G_iald (pc2 := 51) dX8_changes_50 (sh52 S) (by omega) (by first | decide | omega) (by first | with_reducible assumption | exact gs_eq _ _ _ _ | exact (gs_ne _ _ (by omega)).trans (by with_reducible assumption) | exact (gs_ne _ _ (by omega)).trans (gs_eq _ _ _ _) | exact (gs_ne _ _ (by omega)).trans ((gs_ne _ _ (by omega)).trans (by with_reducible assumption)) | exact (gs_ne _ _ (by omega)).trans ((gs_ne _ _ (by omega)).trans (gs_eq _ _ _ _)) | exact (gs_ne _ _ (by omega)).trans ((gs_ne _ _ (by omega)).trans ((gs_ne _ _ (by omega)).trans (by with_reducible assumption))) | rfl) rfl ?_
    first | refine N_icmpge (pc2 := 54) (tgt := 126) dX8_changes_51 (by decide) (by with_reducible rfl) (by with_reducible rfl) (by omega) (by omega) rfl (fun c51 => ?_) (fun c51 => ?_) | refine T_icmpge (pc2 := 54) (tgt := 126) dX8_changes_51 (by decide) rfl (fun c51 => ?_) (fun c51 => ?_)
    · exact absurd c51 (by omega)
    · refine T_iload (pc2 := 56) dX8_changes_54 rfl rfl ?_
      refine T_iconst (pc2 := 57) dX8_changes_56 ic1 rfl ?_
      first | refine N_iadd (pc2 := 58) dX8_changes_57 (by with_reducible rfl) (by with_reducible rfl) rfl ?_ | refine T_iadd (pc2 := 58) dX8_changes_57 rfl ?_
      refine T_istore (pc2 := 60) dX8_changes_58 (by decide) rfl ?_
      refine T_sub (lks (i := 0) rfl (lks (i := 1) rfl (lks (i := 2) rfl (lks (i := 3) rfl (lks (i := 4) rfl (lks (i := 5) rfl lk0)))))) ?_
      refine mch_in (g := g) (x := x) S hV hok (by omega) (chAll V (V.th 0) a) (chAll_le V (V.th 0) a) (fun g3 hf3 => ?_) (V.J - (a + 1)) 0 g2 (by omega) hf
      first | refine N_iinc (pc2 := 123) dX8_changes_120 rfl (by with_reducible rfl) ic1 (by decide) rfl ?_ | refine T_iinc (pc2 := 123) dX8_changes_120 rfl rfl (by decide) rfl ?_
      refine T_goto (tgt := 43) dX8_changes_123 (by decide) ?_
      refine T_sub (lks (i := 0) rfl (lks (i := 1) rfl (lks (i := 2) rfl (lks (i := 3) rfl (lks (i := 4) rfl lk0))))) ?_
      exact ih (a + 1) g3 (by omega) hf3
theorem mm_changes {w : Int32} (S : Sh sk n bf im above below) (hI : InvM g s) (hok : Ok s) (k : ∀ g2, InvM g2 (sChanges s w).2 → Fr 48 62 g g2 → Q (some (.int (sChanges s w).1)) (HP sk g2 n)) : Calls MX8_changes (d + 4) 0 0 [.ref 48, .int w] (HP sk g n) Q := by
  have hokV := hok.2.2.1.1
  have hJ8 := hokV.1
  refine Calls.of (by decide +kernel) (Nat.le_of_ble_eq_true rfl) ?_
  refine T_aload_n (pc2 := 1) dX8_changes_0 rfl rfl ?_
  refine T_iconst (pc2 := 2) dX8_changes_1 ic0 rfl ?_
  refine G_putI (pc2 := 5) dX8_changes_2 flX8_50 (sh48 S) rfl rfl rfl rfl ?_
  have hI := hI.ms (Ms.rf.st (i := 48) (k := 0) (v := nI 0) (by omega))
  have k := fm_start k
  generalize gset g 48 0 (nI 0) = g1 at hI k ⊢
  have hV := hI.2.2.1
  refine T_aload_n (pc2 := 6) dX8_changes_5 rfl rfl ?_
  refine C_V0 (pc2 := 9) (mc := 0) (ms := 0) dX8_changes_6 cvX8_isThere mlX8_196 (isO.h (sh48 S) _) (Nat.le_of_ble_eq_true rfl) rfl ?_
  refine m_isThere S hV.1 hJ8 (fun h0 => ?_) (fun h0 => ?_)
  · first | refine B_ifne1 (tgt := 15) dX8_changes_9 (by with_reducible rfl) (by decide) ?_ | refine B_ifne0 (pc2 := 12) (tgt := 15) dX8_changes_9 (by with_reducible rfl) (by decide) rfl ?_ | refine N_ifne (pc2 := 12) (tgt := 15) dX8_changes_9 (by with_reducible rfl) (by decide) (by omega) rfl (fun c9 => ?_) (fun c9 => ?_) | refine T_ifne (pc2 := 12) (tgt := 15) dX8_changes_9 (by decide) rfl (fun c9 => ?_) (fun c9 => ?_)
    refine T_iload_n (pc2 := 16) dX8_changes_15 rfl rfl ?_
    refine T_i2l (pc2 := 17) dX8_changes_16 rfl ?_
    refine T_lconst (pc2 := 18) (v := lN 0) dX8_changes_17 rfl rfl ?_
    refine T_lconst (pc2 := 19) (v := lN 1) dX8_changes_18 rfl rfl ?_
    refine C_S3 (pc2 := 22) (mc := 0) (ms := 0) dX8_changes_19 csX8_in mlX8_60 (Nat.le_of_ble_eq_true rfl) rfl ?_
    refine m_inI (k := 1) rfl rfl (by decide) (by decide) (fun x hx ex => ?_) (fun hno => ?_)
    · subst ex
      have hs : sChanges s (nI x) = (if x = 0 then oN s.V.ch.2 else oN (s.V.ch.2.map fun _ => s.V.ch.1), s) := by
        unfold sChanges q2
        rw [if_neg (by omega), inN_some (show x < 2 by omega) (by decide)]
      first | refine B_ifne1 (tgt := 28) dX8_changes_22 (by with_reducible rfl) (by decide) ?_ | refine B_ifne0 (pc2 := 25) (tgt := 28) dX8_changes_22 (by with_reducible rfl) (by decide) rfl ?_ | refine N_ifne (pc2 := 25) (tgt := 28) dX8_changes_22 (by with_reducible rfl) (by decide) (by omega) rfl (fun c22 => ?_) (fun c22 => ?_) | refine T_ifne (pc2 := 25) (tgt := 28) dX8_changes_22 (by decide) rfl (fun c22 => ?_) (fun c22 => ?_)
      refine T_aload_n (pc2 := 29) dX8_changes_28 rfl rfl ?_
      refine T_aload_n (pc2 := 30) dX8_changes_29 rfl rfl ?_
      refine G_getR (pc2 := 33) dX8_changes_30 flX8_19 (sh48 S) rfl rfl ?_
      refine C_V1 (pc2 := 36) (mc := 0) (ms := 0) dX8_changes_33 cvX8_worstOf mlX8_229 (isO.h (sh48 S) _) (Nat.le_of_ble_eq_true rfl) rfl ?_
      refine m_worst S (sh52 S) (by decide) hV hokV.d h0 (fun g3 _ _ hf3 => ?_)
      have hV3 : hasM (g3 52) s.V := by rw [hf3.1 52 (by decide) (by decide) (by decide)]; exact hV
      refine T_istore_n (pc2 := 37) dX8_changes_36 (by decide) rfl ?_
      refine T_ldc (pc2 := 39) dX8_changes_37 kcX8_93 rfl ?_
      refine T_istore_n (pc2 := 40) dX8_changes_39 (by decide) rfl ?_
      refine T_iconst (pc2 := 41) dX8_changes_40 ic0 rfl ?_
      refine T_istore (pc2 := 43) dX8_changes_41 (by decide) rfl ?_
      refine T_sub (lks (i := 0) rfl (lks (i := 1) rfl (lks (i := 2) rfl (lks (i := 3) rfl (lks (i := 4) rfl lk0))))) ?_
      refine mch_out (g := g3) (x := x) S hV3 hokV (fun g2 hf => ?_) s.V.J 0 g3 (by omega) Ms.rf
      have hf := hf3.ms.tr hf
      have hlt : ∀ v, s.V.ch.2 = some v → v < 200 := chAll_o hJ8 (s.V.th 0) s.V.J (Nat.le_refl _)
      cases hq : s.V.ch.2 with
      | none =>
        refine T_iload_n (pc2 := 127) dX8_changes_126 rfl rfl ?_
        refine T_ldc (pc2 := 129) dX8_changes_127 kcX8_93 rfl ?_
        refine T_icmpeq (pc2 := 132) (tgt := 136) dX8_changes_129 (by decide) rfl (fun c129 => ?_) (fun c129 => ?_)
        · refine T_iload_n (pc2 := 137) dX8_changes_136 rfl rfl ?_
          refine T_goto (tgt := 141) dX8_changes_137 (by decide) ?_
          refine T_iret dX8_changes_141 rfl rfl ?_
          refine fm_same k hI hf ?_
          rw [hs, hq, fin_o (Or.inr rfl)]
        · exact absurd rfl c129
      | some j =>
        have hj := hlt j hq
        refine T_iload_n (pc2 := 127) dX8_changes_126 rfl rfl ?_
        refine T_ldc (pc2 := 129) dX8_changes_127 kcX8_93 rfl ?_
        refine T_icmpeq (pc2 := 132) (tgt := 136) dX8_changes_129 (by decide) rfl (fun c129 => ?_) (fun c129 => ?_)
        · exact absurd c129 (nI_none (by omega))
        · refine T_iload_n (pc2 := 133) dX8_changes_132 rfl rfl ?_
          first | refine B_ifne1 (tgt := 140) dX8_changes_133 (by with_reducible rfl) (by decide) ?_ | refine B_ifne0 (pc2 := 136) (tgt := 140) dX8_changes_133 (by with_reducible rfl) (by decide) rfl ?_ | refine N_ifne (pc2 := 136) (tgt := 140) dX8_changes_133 (by with_reducible rfl) (by decide) (by omega) rfl (fun c133 => ?_) (fun c133 => ?_) | refine T_ifne (pc2 := 136) (tgt := 140) dX8_changes_133 (by decide) rfl (fun c133 => ?_) (fun c133 => ?_)
          · refine T_iload_n (pc2 := 141) dX8_changes_140 rfl rfl ?_
            refine T_iret dX8_changes_141 rfl rfl ?_
            exact fm_same k hI hf (by rw [hs, hq, if_neg c133]; rfl)
          · refine T_iload_n (pc2 := 137) dX8_changes_136 rfl rfl ?_
            refine T_goto (tgt := 141) dX8_changes_137 (by decide) ?_
            refine T_iret dX8_changes_141 rfl rfl ?_
            refine fm_same k hI hf ?_
            rw [hs, hq, if_pos c133]
    · first | refine B_ifne1 (tgt := 28) dX8_changes_22 (by with_reducible rfl) (by decide) ?_ | refine B_ifne0 (pc2 := 25) (tgt := 28) dX8_changes_22 (by with_reducible rfl) (by decide) rfl ?_ | refine N_ifne (pc2 := 25) (tgt := 28) dX8_changes_22 (by with_reducible rfl) (by decide) (by omega) rfl (fun c22 => ?_) (fun c22 => ?_) | refine T_ifne (pc2 := 25) (tgt := 28) dX8_changes_22 (by decide) rfl (fun c22 => ?_) (fun c22 => ?_)
      refine T_ldc (pc2 := 27) dX8_changes_25 kcX8_70 rfl ?_
      refine T_iret dX8_changes_27 rfl rfl ?_
      refine fm_same k hI Ms.rf ?_
      unfold sChanges q2
      rw [if_neg (by omega), inN_none (fun j hj => hno j (by omega))]
  · first | refine B_ifne1 (tgt := 15) dX8_changes_9 (by with_reducible rfl) (by decide) ?_ | refine B_ifne0 (pc2 := 12) (tgt := 15) dX8_changes_9 (by with_reducible rfl) (by decide) rfl ?_ | refine N_ifne (pc2 := 12) (tgt := 15) dX8_changes_9 (by with_reducible rfl) (by decide) (by omega) rfl (fun c9 => ?_) (fun c9 => ?_) | refine T_ifne (pc2 := 12) (tgt := 15) dX8_changes_9 (by decide) rfl (fun c9 => ?_) (fun c9 => ?_)
    refine T_ldc (pc2 := 14) dX8_changes_12 kcX8_199 rfl ?_
    refine T_iret dX8_changes_14 rfl rfl ?_
    exact fm_same k hI Ms.rf (if_pos h0)
end MFind2

