def Cel.fitK (V : Cel) (j p m : Nat) (it : Nat → Int32) : Nat → Bool := fun kd => decide (1 ≤ kd) && fitsB (V.setkd j kd) (V.th 0) p it m
def Cel.fitN (V : Cel) (j p m : Nat) (it : Nat → Int32) : Nat → Bool := fun t => fitsB (V.setnt j t) (V.th 0) p it m
def Cel.fitR (V : Cel) (p m : Nat) (it : Nat → Int32) : Nat → Bool := fun r => fitsB (V.setR r) (V.th 0) p it m
section Fore5
variable {sk : Nat → SK} {g : Nat → Nat → Int32} {n c : Nat} {V : Cel} {Q : Option Value → SH → Prop} {d kc ks : Nat} {h : SH} {bf im : Nat → Option Nat} {above below : Int64} {w : Nat → Bool}
theorem fits_loop {q p fr mm : Nat} (S : Sh sk n bf im above below) (hq : isA sk n q .int 40) (hqd : q < 34 ∨ 45 ≤ q) (hJ : V.J ≤ 8) (hp : p < V.J) (hm : mm ≤ 12) (hfm : fr + mm ≤ 40)
    (kt : ∀ g2, fitsB V w p (fun t => g q (fr + t)) mm = true → Fr 34 39 g g2 → Q (some (.int (nI 1))) (HP sk g2 n)) (kf : ∀ g2, fitsB V w p (fun t => g q (fr + t)) mm = false → Fr 34 39 g g2 → Q (some (.int (nI 0))) (HP sk g2 n)) :
    ∀ m t g2, t + m = mm → fitsB V w p (fun t => g q (fr + t)) t = true → tunedE g2 V → Fr 34 39 g g2 → T MX4_guessFits (d + 3) kc ks 24 [(0, .ref 34), (1, .int (nI p)), (2, .ref q), (3, .int (nI fr)), (4, .int (nI mm)), (5, .int (nI (bm w 8))), (6, .int (nI t))] [] (HP sk g2 n) Q := by
  intro m
  induction m with
  | zero =>
    intro t g2 ht hb hE hf
    refine T_iload (pc2 := 26) dX4_guessFits_24 rfl rfl ?_
    refine T_iload (pc2 := 28) dX4_guessFits_26 rfl rfl ?_
    first | refine N_icmpge (pc2 := 31) (tgt := 63) dX4_guessFits_28 (by decide) (by with_reducible rfl) (by with_reducible rfl) (by omega) (by omega) rfl (fun c28 => ?_) (fun c28 => ?_) | refine T_icmpge (pc2 := 31) (tgt := 63) dX4_guessFits_28 (by decide) rfl (fun c28 => ?_) (fun c28 => ?_)
    · refine T_iconst (pc2 := 64) dX4_guessFits_63 ic1 rfl ?_
      refine T_iret dX4_guessFits_64 rfl (by first | rfl | decide) ?_
      have : t = mm := by omega
      subst this
      exact kt g2 hb hf
    · exact absurd (by omega) c28
  | succ m ih =>
    intro t g2 ht hb hE hf
    refine T_iload (pc2 := 26) dX4_guessFits_24 rfl rfl ?_
    refine T_iload (pc2 := 28) dX4_guessFits_26 rfl rfl ?_
    first | refine N_icmpge (pc2 := 31) (tgt := 63) dX4_guessFits_28 (by decide) (by with_reducible rfl) (by with_reducible rfl) (by omega) (by omega) rfl (fun c28 => ?_) (fun c28 => ?_) | refine T_icmpge (pc2 := 31) (tgt := 63) dX4_guessFits_28 (by decide) rfl (fun c28 => ?_) (fun c28 => ?_)
    · exact absurd c28 (by omega)
    · refine T_aload_n (pc2 := 32) dX4_guessFits_31 rfl rfl ?_
      refine G_getR (pc2 := 35) dX4_guessFits_32 flX4_12 (sh34 S) rfl rfl ?_
      refine T_iload (pc2 := 37) dX4_guessFits_35 rfl rfl ?_
      refine T_iload_n (pc2 := 38) dX4_guessFits_37 rfl rfl ?_
      refine T_iload (pc2 := 40) dX4_guessFits_38 rfl rfl ?_
      refine C_V3 (pc2 := 43) (mc := 0) (ms := 0) dX4_guessFits_40 cvX3_broken mlX4_33 (isO.h (sh35 S) _) (Nat.le_of_ble_eq_true rfl) rfl ?_
      refine c_broken S hE hJ (by omega) hp (fun g3 hE3 _ hf3 => ?_)
      have hf4 : Fr 34 39 g g3 := hf.tr (hf3.wd (by omega) (by omega))
      have eq : g3 q (fr + t) = g q (fr + t) := by rw [hf4 q (by omega)]
      refine C_S1 (pc2 := 46) (mc := 0) (ms := 0) dX4_guessFits_43 csJ6_bitCount_0f7a4 mlX4_54 (Nat.le_of_ble_eq_true rfl) rfl ?_
      refine c_bits ?_
      refine T_aload_n (pc2 := 47) dX4_guessFits_46 rfl rfl ?_
      refine T_iload_n (pc2 := 48) dX4_guessFits_47 rfl rfl ?_
      refine T_iload (pc2 := 50) dX4_guessFits_48 rfl rfl ?_
      first | refine N_iadd (pc2 := 51) dX4_guessFits_50 (by with_reducible rfl) (by with_reducible rfl) rfl ?_ | refine T_iadd (pc2 := 51) dX4_guessFits_50 rfl ?_
      refine G_iald (pc2 := 52) dX4_guessFits_51 hq (by omega) (by first | decide | omega) (by first | with_reducible assumption | exact gs_eq _ _ _ _ | exact (gs_ne _ _ (by omega)).trans (by with_reducible assumption) | exact (gs_ne _ _ (by omega)).trans (gs_eq _ _ _ _) | exact (gs_ne _ _ (by omega)).trans ((gs_ne _ _ (by omega)).trans (by with_reducible assumption)) | exact (gs_ne _ _ (by omega)).trans ((gs_ne _ _ (by omega)).trans (gs_eq _ _ _ _)) | exact (gs_ne _ _ (by omega)).trans ((gs_ne _ _ (by omega)).trans ((gs_ne _ _ (by omega)).trans (by with_reducible assumption))) | rfl) rfl ?_
      refine T_icmpeq (pc2 := 55) (tgt := 57) dX4_guessFits_52 (by decide) rfl (fun c52 => ?_) (fun c52 => ?_)
      · first | refine N_iinc (pc2 := 60) dX4_guessFits_57 rfl (by with_reducible rfl) ic1 (by decide) rfl ?_ | refine T_iinc (pc2 := 60) dX4_guessFits_57 rfl rfl (by decide) rfl ?_
        refine T_goto (tgt := 24) dX4_guessFits_60 (by decide) ?_
        refine T_sub (lks (i := 0) rfl (lks (i := 1) rfl (lks (i := 2) rfl (lks (i := 3) rfl (lks (i := 4) rfl (lks (i := 5) rfl (lks (i := 6) rfl lk0))))))) ?_
        refine ih (t + 1) g3 (by omega) ?_ hE3 hf4
        show (fitsB V w p (fun t => g q (fr + t)) t && decide (nI (V.cB w t p) = g q (fr + t))) = true
        rw [hb, Bool.true_and, decide_eq_true_eq]
        exact c52
      · refine T_iconst (pc2 := 56) dX4_guessFits_55 ic0 rfl ?_
        refine T_iret dX4_guessFits_56 rfl (by first | rfl | decide) ?_
        refine kf g3 ?_ hf4
        have : fitsB V w p (fun t => g q (fr + t)) (t + 1) = false := by
          show (fitsB V w p (fun t => g q (fr + t)) t && decide (nI (V.cB w t p) = g q (fr + t))) = false
          rw [hb, Bool.true_and, decide_eq_false_iff_not]
          exact c52
        have := fits_down this (mm - (t + 1))
        rw [show t + 1 + (mm - (t + 1)) = mm by omega] at this
        exact this
theorem c_guessFits {q p fr mm : Nat} (S : Sh sk n bf im above below) (hV : hasC g 39 V) (hok : okC V) (hq : isA sk n q .int 40) (hqd : q < 34 ∨ 45 ≤ q) (hp : p < V.J) (hm : mm ≤ 12) (hfm : fr + mm ≤ 40)
    (kt : ∀ g2, fitsB V (V.th 0) p (fun t => g q (fr + t)) mm = true → Fr 34 39 g g2 → Q (some (.int (nI 1))) (HP sk g2 n)) (kf : ∀ g2, fitsB V (V.th 0) p (fun t => g q (fr + t)) mm = false → Fr 34 39 g g2 → Q (some (.int (nI 0))) (HP sk g2 n)) : Calls MX4_guessFits (d + 3) 0 0 [.ref 34, .int (nI p), .ref q, .int (nI fr), .int (nI mm)] (HP sk g n) Q := by
  refine Calls.of (by decide +kernel) (Nat.le_of_ble_eq_true rfl) ?_
  refine T_aload_n (pc2 := 1) dX4_guessFits_0 rfl rfl ?_
  refine G_getR (pc2 := 4) dX4_guessFits_1 flX4_12 (sh34 S) rfl rfl ?_
  refine T_aload_n (pc2 := 5) dX4_guessFits_4 rfl rfl ?_
  refine G_getR (pc2 := 8) dX4_guessFits_5 flX4_21 (sh34 S) rfl rfl ?_
  refine C_V1 (pc2 := 11) (mc := 0) (ms := 0) dX4_guessFits_8 cvX3_tune mlX4_25 (isO.h (sh35 S) _) (Nat.le_of_ble_eq_true rfl) rfl ?_
  refine c_tune S (sc39 S) (by omega) hV hok (fun g2 hE hf => ?_)
  refine T_aload_n (pc2 := 12) dX4_guessFits_11 rfl rfl ?_
  refine G_getR (pc2 := 15) dX4_guessFits_12 flX4_21 (sh34 S) rfl rfl ?_
  refine T_iconst (pc2 := 16) dX4_guessFits_15 ic0 rfl ?_
  refine C_V1 (pc2 := 19) (mc := 0) (ms := 0) dX4_guessFits_16 cvX2_those mlX4_29 (isO.h (sc39 S).1 _) (Nat.le_of_ble_eq_true rfl) rfl ?_
  refine c_those (sc39 S) (hV.fr hf (by omega)) hok.1 (by decide) (hw31 hok) ?_
  refine T_istore (pc2 := 21) dX4_guessFits_19 (by decide) rfl ?_
  refine T_iconst (pc2 := 22) dX4_guessFits_21 ic0 rfl ?_
  refine T_istore (pc2 := 24) dX4_guessFits_22 (by decide) rfl ?_
  refine T_sub (lks (i := 0) rfl (lks (i := 1) rfl (lks (i := 2) rfl (lks (i := 3) rfl (lks (i := 4) rfl (lks (i := 5) rfl (lks (i := 6) rfl lk0))))))) ?_
  exact fits_loop (g := g) (w := V.th 0) S hq hqd hok.1 hp hm hfm kt kf mm 0 g2 (by omega) rfl hE (hf.wd (by omega) (by omega))
theorem kinds_loop {j q p fr mm : Nat} (S : Sh sk n bf im above below) (hok : okC V) (hj : j < V.J) (hq : isA sk n q .int 40) (hqd : q < 34 ∨ 45 ≤ q) (hp : p < V.J) (hm : mm ≤ 12) (hfm : fr + mm ≤ 40)
    (k : ∀ g2, Fr 34 45 g g2 → Q (some (.int (nI (bm (V.fitK j p mm (fun t => g q (fr + t))) 6)))) (HP sk g2 n)) :
    ∀ m kd g2 U, kd + m = 6 → 1 ≤ kd → hasC g2 39 U → (∀ v, U.setkd j v = V.setkd j v) → Fr 34 45 g g2 → T MX4_fittingKinds (d + 4) kc ks 14 [(0, .ref 34), (2, .int (nI j)), (3, .int (nI p)), (4, .ref q), (5, .int (nI fr)), (6, .int (nI mm)), (7, .int (nI (bm (V.fitK j p mm (fun t => g q (fr + t))) kd))), (8, .int (nI kd))] [] (HP sk g2 n) Q := by
  have hJ8 := hok.1
  intro m
  induction m with
  | zero =>
    intro kd g2 U hk h1 hU hUV hf
    refine T_iload (pc2 := 16) dX4_fittingKinds_14 rfl rfl ?_
    refine T_iconst (pc2 := 17) dX4_fittingKinds_16 ic5 rfl ?_
    first | refine N_icmpgt (pc2 := 20) (tgt := 60) dX4_fittingKinds_17 (by decide) (by with_reducible rfl) (by with_reducible rfl) (by omega) (by omega) rfl (fun c17 => ?_) (fun c17 => ?_) | refine T_icmpgt (pc2 := 20) (tgt := 60) dX4_fittingKinds_17 (by decide) rfl (fun c17 => ?_) (fun c17 => ?_)
    · refine T_iload (pc2 := 62) dX4_fittingKinds_60 rfl rfl ?_
      refine T_iret dX4_fittingKinds_62 rfl rfl ?_
      rw [show kd = 6 by omega]
      exact k g2 hf
    · exact absurd (by omega) c17
  | succ m ih =>
    intro kd g2 U hk h1 hU hUV hf
    refine T_iload (pc2 := 16) dX4_fittingKinds_14 rfl rfl ?_
    refine T_iconst (pc2 := 17) dX4_fittingKinds_16 ic5 rfl ?_
    first | refine N_icmpgt (pc2 := 20) (tgt := 60) dX4_fittingKinds_17 (by decide) (by with_reducible rfl) (by with_reducible rfl) (by omega) (by omega) rfl (fun c17 => ?_) (fun c17 => ?_) | refine T_icmpgt (pc2 := 20) (tgt := 60) dX4_fittingKinds_17 (by decide) rfl (fun c17 => ?_) (fun c17 => ?_)
    · exact absurd c17 (by omega)
    · refine T_aload_n (pc2 := 21) dX4_fittingKinds_20 rfl rfl ?_
      refine G_getR (pc2 := 24) dX4_fittingKinds_21 flX4_21 (sh34 S) rfl rfl ?_
      refine G_getR (pc2 := 27) dX4_fittingKinds_24 flX4_86 (sc39 S).1 rfl rfl ?_
      refine T_iload_n (pc2 := 28) dX4_fittingKinds_27 rfl rfl ?_
      refine T_iload (pc2 := 30) dX4_fittingKinds_28 rfl rfl ?_
      refine G_iast (pc2 := 31) dX4_fittingKinds_30 (sc39 S).2.1 (by omega) (by decide) rfl ?_
      refine T_aload_n (pc2 := 32) dX4_fittingKinds_31 rfl rfl ?_
      refine T_iload_n (pc2 := 33) dX4_fittingKinds_32 rfl rfl ?_
      refine T_aload (pc2 := 35) dX4_fittingKinds_33 rfl rfl ?_
      refine T_iload (pc2 := 37) dX4_fittingKinds_35 rfl rfl ?_
      refine T_iload (pc2 := 39) dX4_fittingKinds_37 rfl rfl ?_
      refine C_V4 (pc2 := 42) (mc := 0) (ms := 0) dX4_fittingKinds_39 cvX4_guessFits mlX4_89 (isO.h (sh34 S) _) (Nat.le_of_ble_eq_true rfl) rfl ?_
      have hU2 := hU.setkd (j := j) (v := kd)
      rw [hUV] at hU2
      have hok2 := hok.setkd (j := j) (v := kd) h1 (by omega)
      have hUV2 : ∀ v, (V.setkd j kd).setkd j v = V.setkd j v := by
        intro v
        unfold Cel.setkd
        simp only [Cel.J, Cel.Y, Cel.R, Cel.kd, Cel.nt, Cel.kp, Cel.pl, Cel.hw]
        congr 4
        funext i
        by_cases e : i = j
        · simp [va_up, e]
        · simp [va_up, e]
      have eit : (fun t => gset g2 (39 + 1) j (nI kd) q (fr + t)) = (fun t => g q (fr + t)) := by
        funext t
        rw [gs_ne _ _ (by omega), hf q (by omega)]
      refine c_guessFits (V := V.setkd j kd) S hU2 hok2 hq hqd hp hm hfm (fun g3 hb hf3 => ?_) (fun g3 hb hf3 => ?_)
      · rw [eit] at hb
        first | refine B_ifeq1 (pc2 := 45) (tgt := 54) dX4_fittingKinds_42 (by with_reducible rfl) (by decide) rfl ?_ | refine B_ifeq0 (tgt := 54) dX4_fittingKinds_42 (by with_reducible rfl) (by decide) ?_ | refine N_ifeq (pc2 := 45) (tgt := 54) dX4_fittingKinds_42 (by with_reducible rfl) (by decide) (by omega) rfl (fun c42 => ?_) (fun c42 => ?_) | refine T_ifeq (pc2 := 45) (tgt := 54) dX4_fittingKinds_42 (by decide) rfl (fun c42 => ?_) (fun c42 => ?_)
        refine T_iload (pc2 := 47) dX4_fittingKinds_45 rfl rfl ?_
        refine T_iconst (pc2 := 48) dX4_fittingKinds_47 ic1 rfl ?_
        refine T_iload (pc2 := 50) dX4_fittingKinds_48 rfl rfl ?_
        refine T_ishl (pc2 := 51) dX4_fittingKinds_50 rfl ?_
        refine T_ior (pc2 := 52) dX4_fittingKinds_51 rfl ?_
        rw [bm_add (by omega)]
        refine T_istore (pc2 := 54) dX4_fittingKinds_52 (by decide) rfl ?_
        first | refine N_iinc (pc2 := 57) dX4_fittingKinds_54 rfl (by with_reducible rfl) ic1 (by decide) rfl ?_ | refine T_iinc (pc2 := 57) dX4_fittingKinds_54 rfl rfl (by decide) rfl ?_
        refine T_goto (tgt := 14) dX4_fittingKinds_57 (by decide) ?_
        refine T_sub (lks (i := 0) rfl (lks (i := 2) rfl (lks (i := 3) rfl (lks (i := 4) rfl (lks (i := 5) rfl (lks (i := 6) rfl (lks (i := 7) rfl (lks (i := 8) rfl lk0)))))))) ?_
        have hbit : V.fitK j p mm (fun t => g q (fr + t)) kd = true := by
          show (decide (1 ≤ kd) && fitsB (V.setkd j kd) (V.th 0) p _ mm) = true
          rw [decide_eq_true h1, Bool.true_and]
          exact hb
        have e : bm (V.fitK j p mm (fun t => g q (fr + t))) (kd + 1) = bm (V.fitK j p mm (fun t => g q (fr + t))) kd + 2 ^ kd := by
          show bm _ kd + _ = _
          rw [hbit, if_pos rfl]
        rw [← e]
        exact ih (kd + 1) g3 (V.setkd j kd) (by omega) (by omega) (hU2.fr hf3 (by omega)) hUV2 ((hf.st (by omega) (by omega)).tr (hf3.wd (by omega) (by omega)))
      · rw [eit] at hb
        first | refine B_ifeq1 (pc2 := 45) (tgt := 54) dX4_fittingKinds_42 (by with_reducible rfl) (by decide) rfl ?_ | refine B_ifeq0 (tgt := 54) dX4_fittingKinds_42 (by with_reducible rfl) (by decide) ?_ | refine N_ifeq (pc2 := 45) (tgt := 54) dX4_fittingKinds_42 (by with_reducible rfl) (by decide) (by omega) rfl (fun c42 => ?_) (fun c42 => ?_) | refine T_ifeq (pc2 := 45) (tgt := 54) dX4_fittingKinds_42 (by decide) rfl (fun c42 => ?_) (fun c42 => ?_)
        first | refine N_iinc (pc2 := 57) dX4_fittingKinds_54 rfl (by with_reducible rfl) ic1 (by decide) rfl ?_ | refine T_iinc (pc2 := 57) dX4_fittingKinds_54 rfl rfl (by decide) rfl ?_
        refine T_goto (tgt := 14) dX4_fittingKinds_57 (by decide) ?_
        refine T_sub (lks (i := 0) rfl (lks (i := 2) rfl (lks (i := 3) rfl (lks (i := 4) rfl (lks (i := 5) rfl (lks (i := 6) rfl (lks (i := 7) rfl (lks (i := 8) rfl lk0)))))))) ?_
        have hbit : V.fitK j p mm (fun t => g q (fr + t)) kd = false := by
          show (decide (1 ≤ kd) && fitsB (V.setkd j kd) (V.th 0) p _ mm) = false
          rw [decide_eq_true h1, Bool.true_and]
          exact hb
        have e : bm (V.fitK j p mm (fun t => g q (fr + t))) (kd + 1) = bm (V.fitK j p mm (fun t => g q (fr + t))) kd := by
          show bm _ kd + _ = _
          rw [hbit, if_neg (by decide), Nat.add_zero]
        rw [← e]
        exact ih (kd + 1) g3 (V.setkd j kd) (by omega) (by omega) (hU2.fr hf3 (by omega)) hUV2 ((hf.st (by omega) (by omega)).tr (hf3.wd (by omega) (by omega)))
theorem c_fitKinds {j q p fr mm : Nat} (S : Sh sk n bf im above below) (hc : isC sk n c) (hd : c + 6 ≤ 34 ∨ 45 ≤ c) (hV : hasC g c V) (hok : okC V) (hj : j < V.J) (hq : isA sk n q .int 40) (hqd : q < 34 ∨ 45 ≤ q) (hp : p < V.J) (hm : mm ≤ 12) (hfm : fr + mm ≤ 40)
    (k : ∀ g2, Fr 34 45 g g2 → Q (some (.int (nI (bm (V.fitK j p mm (fun t => g q (fr + t))) 6)))) (HP sk g2 n)) : Calls MX4_fittingKinds (d + 4) 0 0 [.ref 34, .ref c, .int (nI j), .int (nI p), .ref q, .int (nI fr), .int (nI mm)] (HP sk g n) Q := by
  refine Calls.of (by decide +kernel) (Nat.le_of_ble_eq_true rfl) ?_
  refine T_iconst (pc2 := 1) dX4_fittingKinds_0 ic0 rfl ?_
  refine T_istore (pc2 := 3) dX4_fittingKinds_1 (by decide) rfl ?_
  refine T_aload_n (pc2 := 4) dX4_fittingKinds_3 rfl rfl ?_
  refine G_getR (pc2 := 7) dX4_fittingKinds_4 flX4_21 (sh34 S) rfl rfl ?_
  refine T_aload_n (pc2 := 8) dX4_fittingKinds_7 rfl rfl ?_
  refine C_V1 (pc2 := 11) (mc := 0) (ms := 0) dX4_fittingKinds_8 cvX2_become mlX4_60 (isO.h (sc39 S).1 _) (Nat.le_of_ble_eq_true rfl) rfl ?_
  refine c_become (sc39 S) hc (by omega) hV hok.1 (fun g2 h39 hf => ?_)
  refine T_iconst (pc2 := 12) dX4_fittingKinds_11 ic1 rfl ?_
  refine T_istore (pc2 := 14) dX4_fittingKinds_12 (by decide) rfl ?_
  refine T_sub (lks (i := 0) rfl (lks (i := 2) rfl (lks (i := 3) rfl (lks (i := 4) rfl (lks (i := 5) rfl (lks (i := 6) rfl (lks (i := 7) rfl (lks (i := 8) rfl lk0)))))))) ?_
  have := kinds_loop (g := g) (d := d) (kc := 0) (ks := 0) S hok hj hq hqd hp hm hfm k 5 1 g2 V (by omega) (by omega) h39 (fun _ => rfl) (hf.wd (by omega) (by omega))
  exact this
theorem notes_loop {j q p fr mm : Nat} (S : Sh sk n bf im above below) (hok : okC V) (hj : j < V.J) (hq : isA sk n q .int 40) (hqd : q < 34 ∨ 45 ≤ q) (hp : p < V.J) (hm : mm ≤ 12) (hfm : fr + mm ≤ 40)
    (k : ∀ g2, Fr 34 45 g g2 → Q (some (.int (nI (bm (V.fitN j p mm (fun t => g q (fr + t))) 12)))) (HP sk g2 n)) :
    ∀ m kd g2 U, kd + m = 12 → hasC g2 39 U → (∀ v, U.setnt j v = V.setnt j v) → Fr 34 45 g g2 → T MX4_fittingNotes (d + 4) kc ks 14 [(0, .ref 34), (2, .int (nI j)), (3, .int (nI p)), (4, .ref q), (5, .int (nI fr)), (6, .int (nI mm)), (7, .int (nI (bm (V.fitN j p mm (fun t => g q (fr + t))) kd))), (8, .int (nI kd))] [] (HP sk g2 n) Q := by
  have hJ8 := hok.1
  intro m
  induction m with
  | zero =>
    intro kd g2 U hk hU hUV hf
    refine T_iload (pc2 := 16) dX4_fittingNotes_14 rfl rfl ?_
    refine T_bipush (pc2 := 18) dX4_fittingNotes_16 bp12 rfl ?_
    first | refine N_icmpge (pc2 := 21) (tgt := 61) dX4_fittingNotes_18 (by decide) (by with_reducible rfl) (by with_reducible rfl) (by omega) (by omega) rfl (fun c18 => ?_) (fun c18 => ?_) | refine T_icmpge (pc2 := 21) (tgt := 61) dX4_fittingNotes_18 (by decide) rfl (fun c18 => ?_) (fun c18 => ?_)
    · refine T_iload (pc2 := 63) dX4_fittingNotes_61 rfl rfl ?_
      refine T_iret dX4_fittingNotes_63 rfl rfl ?_
      rw [show kd = 12 by omega]
      exact k g2 hf
    · exact absurd (by omega) c18
  | succ m ih =>
    intro kd g2 U hk hU hUV hf
    refine T_iload (pc2 := 16) dX4_fittingNotes_14 rfl rfl ?_
    refine T_bipush (pc2 := 18) dX4_fittingNotes_16 bp12 rfl ?_
    first | refine N_icmpge (pc2 := 21) (tgt := 61) dX4_fittingNotes_18 (by decide) (by with_reducible rfl) (by with_reducible rfl) (by omega) (by omega) rfl (fun c18 => ?_) (fun c18 => ?_) | refine T_icmpge (pc2 := 21) (tgt := 61) dX4_fittingNotes_18 (by decide) rfl (fun c18 => ?_) (fun c18 => ?_)
    · exact absurd c18 (by omega)
    · refine T_aload_n (pc2 := 22) dX4_fittingNotes_21 rfl rfl ?_
      refine G_getR (pc2 := 25) dX4_fittingNotes_22 flX4_21 (sh34 S) rfl rfl ?_
      refine G_getR (pc2 := 28) dX4_fittingNotes_25 flX4_68 (sc39 S).1 rfl rfl ?_
      refine T_iload_n (pc2 := 29) dX4_fittingNotes_28 rfl rfl ?_
      refine T_iload (pc2 := 31) dX4_fittingNotes_29 rfl rfl ?_
      refine G_iast (pc2 := 32) dX4_fittingNotes_31 (sc39 S).2.2.1 (by omega) (by decide) rfl ?_
      refine T_aload_n (pc2 := 33) dX4_fittingNotes_32 rfl rfl ?_
      refine T_iload_n (pc2 := 34) dX4_fittingNotes_33 rfl rfl ?_
      refine T_aload (pc2 := 36) dX4_fittingNotes_34 rfl rfl ?_
      refine T_iload (pc2 := 38) dX4_fittingNotes_36 rfl rfl ?_
      refine T_iload (pc2 := 40) dX4_fittingNotes_38 rfl rfl ?_
      refine C_V4 (pc2 := 43) (mc := 0) (ms := 0) dX4_fittingNotes_40 cvX4_guessFits mlX4_89 (isO.h (sh34 S) _) (Nat.le_of_ble_eq_true rfl) rfl ?_
      have hU2 := hU.setnt (j := j) (v := kd)
      rw [hUV] at hU2
      have hok2 := hok.setnt (j := j) (v := kd) (by omega)
      have hUV2 : ∀ v, (V.setnt j kd).setnt j v = V.setnt j v := by
        intro v
        unfold Cel.setnt
        simp only [Cel.J, Cel.Y, Cel.R, Cel.kd, Cel.nt, Cel.kp, Cel.pl, Cel.hw]
        congr 5
        funext i
        by_cases e : i = j
        · simp [va_up, e]
        · simp [va_up, e]
      have eit : (fun t => gset g2 (39 + 2) j (nI kd) q (fr + t)) = (fun t => g q (fr + t)) := by
        funext t
        rw [gs_ne _ _ (by omega), hf q (by omega)]
      refine c_guessFits (V := V.setnt j kd) S hU2 hok2 hq hqd hp hm hfm (fun g3 hb hf3 => ?_) (fun g3 hb hf3 => ?_)
      · rw [eit] at hb
        first | refine B_ifeq1 (pc2 := 46) (tgt := 55) dX4_fittingNotes_43 (by with_reducible rfl) (by decide) rfl ?_ | refine B_ifeq0 (tgt := 55) dX4_fittingNotes_43 (by with_reducible rfl) (by decide) ?_ | refine N_ifeq (pc2 := 46) (tgt := 55) dX4_fittingNotes_43 (by with_reducible rfl) (by decide) (by omega) rfl (fun c43 => ?_) (fun c43 => ?_) | refine T_ifeq (pc2 := 46) (tgt := 55) dX4_fittingNotes_43 (by decide) rfl (fun c43 => ?_) (fun c43 => ?_)
        refine T_iload (pc2 := 48) dX4_fittingNotes_46 rfl rfl ?_
        refine T_iconst (pc2 := 49) dX4_fittingNotes_48 ic1 rfl ?_
        refine T_iload (pc2 := 51) dX4_fittingNotes_49 rfl rfl ?_
        refine T_ishl (pc2 := 52) dX4_fittingNotes_51 rfl ?_
        refine T_ior (pc2 := 53) dX4_fittingNotes_52 rfl ?_
        rw [bm_add (by omega)]
        refine T_istore (pc2 := 55) dX4_fittingNotes_53 (by decide) rfl ?_
        first | refine N_iinc (pc2 := 58) dX4_fittingNotes_55 rfl (by with_reducible rfl) ic1 (by decide) rfl ?_ | refine T_iinc (pc2 := 58) dX4_fittingNotes_55 rfl rfl (by decide) rfl ?_
        refine T_goto (tgt := 14) dX4_fittingNotes_58 (by decide) ?_
        refine T_sub (lks (i := 0) rfl (lks (i := 2) rfl (lks (i := 3) rfl (lks (i := 4) rfl (lks (i := 5) rfl (lks (i := 6) rfl (lks (i := 7) rfl (lks (i := 8) rfl lk0)))))))) ?_
        have e : bm (V.fitN j p mm (fun t => g q (fr + t))) (kd + 1) = bm (V.fitN j p mm (fun t => g q (fr + t))) kd + 2 ^ kd := by
          show bm _ kd + _ = _
          rw [show V.fitN j p mm (fun t => g q (fr + t)) kd = true from hb, if_pos rfl]
        rw [← e]
        exact ih (kd + 1) g3 (V.setnt j kd) (by omega) (hU2.fr hf3 (by omega)) hUV2 ((hf.st (by omega) (by omega)).tr (hf3.wd (by omega) (by omega)))
      · rw [eit] at hb
        first | refine B_ifeq1 (pc2 := 46) (tgt := 55) dX4_fittingNotes_43 (by with_reducible rfl) (by decide) rfl ?_ | refine B_ifeq0 (tgt := 55) dX4_fittingNotes_43 (by with_reducible rfl) (by decide) ?_ | refine N_ifeq (pc2 := 46) (tgt := 55) dX4_fittingNotes_43 (by with_reducible rfl) (by decide) (by omega) rfl (fun c43 => ?_) (fun c43 => ?_) | refine T_ifeq (pc2 := 46) (tgt := 55) dX4_fittingNotes_43 (by decide) rfl (fun c43 => ?_) (fun c43 => ?_)
        first | refine N_iinc (pc2 := 58) dX4_fittingNotes_55 rfl (by with_reducible rfl) ic1 (by decide) rfl ?_ | refine T_iinc (pc2 := 58) dX4_fittingNotes_55 rfl rfl (by decide) rfl ?_
        refine T_goto (tgt := 14) dX4_fittingNotes_58 (by decide) ?_
        refine T_sub (lks (i := 0) rfl (lks (i := 2) rfl (lks (i := 3) rfl (lks (i := 4) rfl (lks (i := 5) rfl (lks (i := 6) rfl (lks (i := 7) rfl (lks (i := 8) rfl lk0)))))))) ?_
        have e : bm (V.fitN j p mm (fun t => g q (fr + t))) (kd + 1) = bm (V.fitN j p mm (fun t => g q (fr + t))) kd := by
          show bm _ kd + _ = _
          rw [show V.fitN j p mm (fun t => g q (fr + t)) kd = false from hb, if_neg (by decide), Nat.add_zero]
        rw [← e]
        exact ih (kd + 1) g3 (V.setnt j kd) (by omega) (hU2.fr hf3 (by omega)) hUV2 ((hf.st (by omega) (by omega)).tr (hf3.wd (by omega) (by omega)))
theorem c_fitNotes {j q p fr mm : Nat} (S : Sh sk n bf im above below) (hc : isC sk n c) (hd : c + 6 ≤ 34 ∨ 45 ≤ c) (hV : hasC g c V) (hok : okC V) (hj : j < V.J) (hq : isA sk n q .int 40) (hqd : q < 34 ∨ 45 ≤ q) (hp : p < V.J) (hm : mm ≤ 12) (hfm : fr + mm ≤ 40)
    (k : ∀ g2, Fr 34 45 g g2 → Q (some (.int (nI (bm (V.fitN j p mm (fun t => g q (fr + t))) 12)))) (HP sk g2 n)) : Calls MX4_fittingNotes (d + 4) 0 0 [.ref 34, .ref c, .int (nI j), .int (nI p), .ref q, .int (nI fr), .int (nI mm)] (HP sk g n) Q := by
  refine Calls.of (by decide +kernel) (Nat.le_of_ble_eq_true rfl) ?_
  refine T_iconst (pc2 := 1) dX4_fittingNotes_0 ic0 rfl ?_
  refine T_istore (pc2 := 3) dX4_fittingNotes_1 (by decide) rfl ?_
  refine T_aload_n (pc2 := 4) dX4_fittingNotes_3 rfl rfl ?_
  refine G_getR (pc2 := 7) dX4_fittingNotes_4 flX4_21 (sh34 S) rfl rfl ?_
  refine T_aload_n (pc2 := 8) dX4_fittingNotes_7 rfl rfl ?_
  refine C_V1 (pc2 := 11) (mc := 0) (ms := 0) dX4_fittingNotes_8 cvX2_become mlX4_60 (isO.h (sc39 S).1 _) (Nat.le_of_ble_eq_true rfl) rfl ?_
  refine c_become (sc39 S) hc (by omega) hV hok.1 (fun g2 h39 hf => ?_)
  refine T_iconst (pc2 := 12) dX4_fittingNotes_11 ic0 rfl ?_
  refine T_istore (pc2 := 14) dX4_fittingNotes_12 (by decide) rfl ?_
  refine T_sub (lks (i := 0) rfl (lks (i := 2) rfl (lks (i := 3) rfl (lks (i := 4) rfl (lks (i := 5) rfl (lks (i := 6) rfl (lks (i := 7) rfl (lks (i := 8) rfl lk0)))))))) ?_
  exact notes_loop (g := g) S hok hj hq hqd hp hm hfm k 12 0 g2 V (by omega) h39 (fun _ => rfl) (hf.wd (by omega) (by omega))
theorem reach_loop {q p fr mm : Nat} (S : Sh sk n bf im above below) (hok : okC V) (hq : isA sk n q .int 40) (hqd : q < 34 ∨ 45 ≤ q) (hp : p < V.J) (hm : mm ≤ 12) (hfm : fr + mm ≤ 40)
    (k : ∀ g2, Fr 34 45 g g2 → Q (some (.int (nI (bm (V.fitR p mm (fun t => g q (fr + t))) 9)))) (HP sk g2 n)) :
    ∀ m kd g2 U, kd + m = 9 → hasC g2 39 U → (∀ v, U.setR v = V.setR v) → Fr 34 45 g g2 → T MX4_fittingReaches (d + 4) kc ks 14 [(0, .ref 34), (2, .int (nI p)), (3, .ref q), (4, .int (nI fr)), (5, .int (nI mm)), (6, .int (nI (bm (V.fitR p mm (fun t => g q (fr + t))) kd))), (7, .int (nI kd))] [] (HP sk g2 n) Q := by
  have hJ8 := hok.1
  intro m
  induction m with
  | zero =>
    intro kd g2 U hk hU hUV hf
    refine T_iload (pc2 := 16) dX4_fittingReaches_14 rfl rfl ?_
    refine T_bipush (pc2 := 18) dX4_fittingReaches_16 bp8 rfl ?_
    first | refine N_icmpgt (pc2 := 21) (tgt := 58) dX4_fittingReaches_18 (by decide) (by with_reducible rfl) (by with_reducible rfl) (by omega) (by omega) rfl (fun c18 => ?_) (fun c18 => ?_) | refine T_icmpgt (pc2 := 21) (tgt := 58) dX4_fittingReaches_18 (by decide) rfl (fun c18 => ?_) (fun c18 => ?_)
    · refine T_iload (pc2 := 60) dX4_fittingReaches_58 rfl rfl ?_
      refine T_iret dX4_fittingReaches_60 rfl rfl ?_
      rw [show kd = 9 by omega]
      exact k g2 hf
    · exact absurd (by omega) c18
  | succ m ih =>
    intro kd g2 U hk hU hUV hf
    refine T_iload (pc2 := 16) dX4_fittingReaches_14 rfl rfl ?_
    refine T_bipush (pc2 := 18) dX4_fittingReaches_16 bp8 rfl ?_
    first | refine N_icmpgt (pc2 := 21) (tgt := 58) dX4_fittingReaches_18 (by decide) (by with_reducible rfl) (by with_reducible rfl) (by omega) (by omega) rfl (fun c18 => ?_) (fun c18 => ?_) | refine T_icmpgt (pc2 := 21) (tgt := 58) dX4_fittingReaches_18 (by decide) rfl (fun c18 => ?_) (fun c18 => ?_)
    · exact absurd c18 (by omega)
    · refine T_aload_n (pc2 := 22) dX4_fittingReaches_21 rfl rfl ?_
      refine G_getR (pc2 := 25) dX4_fittingReaches_22 flX4_21 (sh34 S) rfl rfl ?_
      refine T_iload (pc2 := 27) dX4_fittingReaches_25 rfl rfl ?_
      refine G_putI (pc2 := 30) dX4_fittingReaches_27 flX4_93 (sc39 S).1 rfl rfl rfl rfl ?_
      refine T_aload_n (pc2 := 31) dX4_fittingReaches_30 rfl rfl ?_
      refine T_iload_n (pc2 := 32) dX4_fittingReaches_31 rfl rfl ?_
      refine T_aload_n (pc2 := 33) dX4_fittingReaches_32 rfl rfl ?_
      refine T_iload (pc2 := 35) dX4_fittingReaches_33 rfl rfl ?_
      refine T_iload (pc2 := 37) dX4_fittingReaches_35 rfl rfl ?_
      refine C_V4 (pc2 := 40) (mc := 0) (ms := 0) dX4_fittingReaches_37 cvX4_guessFits mlX4_89 (isO.h (sh34 S) _) (Nat.le_of_ble_eq_true rfl) rfl ?_
      have hU2 := hU.setR (v := kd)
      rw [hUV] at hU2
      have hok2 := hok.setR (v := kd) (by omega)
      have eit : (fun t => gset g2 39 2 (nI kd) q (fr + t)) = (fun t => g q (fr + t)) := by
        funext t
        rw [gs_ne _ _ (by omega), hf q (by omega)]
      refine c_guessFits (V := V.setR kd) S hU2 hok2 hq hqd hp hm hfm (fun g3 hb hf3 => ?_) (fun g3 hb hf3 => ?_)
      · rw [eit] at hb
        first | refine B_ifeq1 (pc2 := 43) (tgt := 52) dX4_fittingReaches_40 (by with_reducible rfl) (by decide) rfl ?_ | refine B_ifeq0 (tgt := 52) dX4_fittingReaches_40 (by with_reducible rfl) (by decide) ?_ | refine N_ifeq (pc2 := 43) (tgt := 52) dX4_fittingReaches_40 (by with_reducible rfl) (by decide) (by omega) rfl (fun c40 => ?_) (fun c40 => ?_) | refine T_ifeq (pc2 := 43) (tgt := 52) dX4_fittingReaches_40 (by decide) rfl (fun c40 => ?_) (fun c40 => ?_)
        refine T_iload (pc2 := 45) dX4_fittingReaches_43 rfl rfl ?_
        refine T_iconst (pc2 := 46) dX4_fittingReaches_45 ic1 rfl ?_
        refine T_iload (pc2 := 48) dX4_fittingReaches_46 rfl rfl ?_
        refine T_ishl (pc2 := 49) dX4_fittingReaches_48 rfl ?_
        refine T_ior (pc2 := 50) dX4_fittingReaches_49 rfl ?_
        rw [bm_add (by omega)]
        refine T_istore (pc2 := 52) dX4_fittingReaches_50 (by decide) rfl ?_
        first | refine N_iinc (pc2 := 55) dX4_fittingReaches_52 rfl (by with_reducible rfl) ic1 (by decide) rfl ?_ | refine T_iinc (pc2 := 55) dX4_fittingReaches_52 rfl rfl (by decide) rfl ?_
        refine T_goto (tgt := 14) dX4_fittingReaches_55 (by decide) ?_
        refine T_sub (lks (i := 0) rfl (lks (i := 2) rfl (lks (i := 3) rfl (lks (i := 4) rfl (lks (i := 5) rfl (lks (i := 6) rfl (lks (i := 7) rfl lk0))))))) ?_
        have e : bm (V.fitR p mm (fun t => g q (fr + t))) (kd + 1) = bm (V.fitR p mm (fun t => g q (fr + t))) kd + 2 ^ kd := by
          show bm _ kd + _ = _
          rw [show V.fitR p mm (fun t => g q (fr + t)) kd = true from hb, if_pos rfl]
        rw [← e]
        exact ih (kd + 1) g3 (V.setR kd) (by omega) (hU2.fr hf3 (by omega)) (fun _ => rfl) ((hf.st (by omega) (by omega)).tr (hf3.wd (by omega) (by omega)))
      · rw [eit] at hb
        first | refine B_ifeq1 (pc2 := 43) (tgt := 52) dX4_fittingReaches_40 (by with_reducible rfl) (by decide) rfl ?_ | refine B_ifeq0 (tgt := 52) dX4_fittingReaches_40 (by with_reducible rfl) (by decide) ?_ | refine N_ifeq (pc2 := 43) (tgt := 52) dX4_fittingReaches_40 (by with_reducible rfl) (by decide) (by omega) rfl (fun c40 => ?_) (fun c40 => ?_) | refine T_ifeq (pc2 := 43) (tgt := 52) dX4_fittingReaches_40 (by decide) rfl (fun c40 => ?_) (fun c40 => ?_)
        first | refine N_iinc (pc2 := 55) dX4_fittingReaches_52 rfl (by with_reducible rfl) ic1 (by decide) rfl ?_ | refine T_iinc (pc2 := 55) dX4_fittingReaches_52 rfl rfl (by decide) rfl ?_
        refine T_goto (tgt := 14) dX4_fittingReaches_55 (by decide) ?_
        refine T_sub (lks (i := 0) rfl (lks (i := 2) rfl (lks (i := 3) rfl (lks (i := 4) rfl (lks (i := 5) rfl (lks (i := 6) rfl (lks (i := 7) rfl lk0))))))) ?_
        have e : bm (V.fitR p mm (fun t => g q (fr + t))) (kd + 1) = bm (V.fitR p mm (fun t => g q (fr + t))) kd := by
          show bm _ kd + _ = _
          rw [show V.fitR p mm (fun t => g q (fr + t)) kd = false from hb, if_neg (by decide), Nat.add_zero]
        rw [← e]
        exact ih (kd + 1) g3 (V.setR kd) (by omega) (hU2.fr hf3 (by omega)) (fun _ => rfl) ((hf.st (by omega) (by omega)).tr (hf3.wd (by omega) (by omega)))
theorem c_fitReaches {q p fr mm : Nat} (S : Sh sk n bf im above below) (hc : isC sk n c) (hd : c + 6 ≤ 34 ∨ 45 ≤ c) (hV : hasC g c V) (hok : okC V) (hq : isA sk n q .int 40) (hqd : q < 34 ∨ 45 ≤ q) (hp : p < V.J) (hm : mm ≤ 12) (hfm : fr + mm ≤ 40)
    (k : ∀ g2, Fr 34 45 g g2 → Q (some (.int (nI (bm (V.fitR p mm (fun t => g q (fr + t))) 9)))) (HP sk g2 n)) : Calls MX4_fittingReaches (d + 4) 0 0 [.ref 34, .ref c, .int (nI p), .ref q, .int (nI fr), .int (nI mm)] (HP sk g n) Q := by
  refine Calls.of (by decide +kernel) (Nat.le_of_ble_eq_true rfl) ?_
  refine T_iconst (pc2 := 1) dX4_fittingReaches_0 ic0 rfl ?_
  refine T_istore (pc2 := 3) dX4_fittingReaches_1 (by decide) rfl ?_
  refine T_aload_n (pc2 := 4) dX4_fittingReaches_3 rfl rfl ?_
  refine G_getR (pc2 := 7) dX4_fittingReaches_4 flX4_21 (sh34 S) rfl rfl ?_
  refine T_aload_n (pc2 := 8) dX4_fittingReaches_7 rfl rfl ?_
  refine C_V1 (pc2 := 11) (mc := 0) (ms := 0) dX4_fittingReaches_8 cvX2_become mlX4_60 (isO.h (sc39 S).1 _) (Nat.le_of_ble_eq_true rfl) rfl ?_
  refine c_become (sc39 S) hc (by omega) hV hok.1 (fun g2 h39 hf => ?_)
  refine T_iconst (pc2 := 12) dX4_fittingReaches_11 ic0 rfl ?_
  refine T_istore (pc2 := 14) dX4_fittingReaches_12 (by decide) rfl ?_
  refine T_sub (lks (i := 0) rfl (lks (i := 2) rfl (lks (i := 3) rfl (lks (i := 4) rfl (lks (i := 5) rfl (lks (i := 6) rfl (lks (i := 7) rfl lk0))))))) ?_
  exact reach_loop (g := g) S hok hq hqd hp hm hfm k 9 0 g2 V (by omega) h39 (fun _ => rfl) (hf.wd (by omega) (by omega))
end Fore5

