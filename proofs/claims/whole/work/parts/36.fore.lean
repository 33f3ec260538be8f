/-! what is foretold -/
def oN : Option Nat → Int32
  | none => -1000000
  | some v => nI v
def Cel.setnt (V : Cel) (j v : Nat) : Cel := (V.J, V.Y, V.R, V.kd, va_up V.nt j v, V.kp, V.pl, V.hw)
def Cel.setkd (V : Cel) (j v : Nat) : Cel := (V.J, V.Y, V.R, va_up V.kd j v, V.nt, V.kp, V.pl, V.hw)
def Cel.setR (V : Cel) (v : Nat) : Cel := (V.J, V.Y, v, V.kd, V.nt, V.kp, V.pl, V.hw)
/-- the most that break by any sneeze -/
def Cel.wv (V : Cel) (w : Nat → Bool) : Nat := (V.mx w).1 - 1
def subW (w : Nat → Bool) (o : Nat) : Nat := bm (fun j => o.testBit j && !w j) 8
def ctN (o : Nat) : Nat := ct (fun j => o.testBit j) 8
def gdf (V : Cel) (w : Nat → Bool) (nt p k o : Nat) (s : Nat × Nat) : Nat × Nat := if subW w o = 0 ∧ ctN o < s.1 ∧ ct (V.brk nt p (fun j => w j && !o.testBit j)) 8 ≤ k then (ctN o, o) else s
def Cel.gd (V : Cel) (w : Nat → Bool) (nt p k : Nat) : Nat × Nat := itr (gdf V w nt p k) (9, 0) 256
def tnf (V : Cel) (w : Nat → Bool) (j t : Nat) (s : Nat × Nat) : Nat × Nat := if (V.setnt j t).wv w < s.1 then ((V.setnt j t).wv w, t) else s
def addJ (w : Nat → Bool) (i : Nat) : Nat → Bool := fun j => w j || decide (j = i)
def cutJ (w : Nat → Bool) (i : Nat) : Nat → Bool := fun j => w j && !decide (j = i)
def Cel.tn (V : Cel) (j : Nat) : Nat × Nat := itr (tnf V (addJ (V.th 0) j) j) (9, 0) 12
def spf (V : Cel) (w : Nat → Bool) (j : Nat) (s : Nat × Option Nat) : Nat × Option Nat := if w j = true ∧ V.wv (cutJ w j) < s.1 then (V.wv (cutJ w j), some j) else s
def Cel.sp (V : Cel) : Nat × Option Nat := itr (spf V (V.th 0)) (9, none) V.J
theorem okC.setnt {V : Cel} (h : okC V) {j v : Nat} (hv : v < 12) : okC (V.setnt j v) := by
  refine ⟨h.1, h.2.1, h.2.2.1, fun i hi => ?_, h.2.2.2.2⟩
  have := h.2.2.2.1 i hi
  refine ⟨this.1, this.2.1, ?_, this.2.2.2⟩
  show va_up V.nt j v i < 12
  by_cases e : i = j
  · simp [va_up, e, hv]
  · simp only [va_up, if_neg e]; exact this.2.2.1
theorem wv_le (V : Cel) (w : Nat → Bool) : V.wv w ≤ 8 := by
  have := all_le V w 12
  show (mxAll V w 12).1 - 1 ≤ 8
  omega
section Fore
variable {sk : Nat → SK} {g : Nat → Nat → Int32} {n c : Nat} {V : Cel} {Q : Option Value → SH → Prop} {d kc ks : Nat} {h : SH} {bf im : Nat → Option Nat} {above below : Int64} {w : Nat → Bool}
theorem hw31 (hok : okC V) : ∀ j, j < V.J → V.hw j < 2 ^ 31 := fun j hj => by
  have := (hok.2.2.2.1 j hj).2.2.2.2.2.2
  omega
theorem c_brokenBy {note p : Nat} (S : Sh sk n bf im above below) (hc : isC sk n c) (hd : c + 6 ≤ 34 ∨ 45 ≤ c) (hV : hasC g c V) (hok : okC V) (hn : note < 12) (hp : p < V.J) (k : ∀ g2, g2 35 5 = nI (V.chn note p (V.th 0)).2 → Fr 34 45 g g2 → Q (some (.int (nI (bm (V.brk note p (V.th 0)) 8)))) (HP sk g2 n)) : Calls MX4_brokenBy (d + 3) 0 0 [.ref 34, .ref c, .int (nI note), .int (nI p)] (HP sk g n) Q := by
  refine Calls.of (by decide +kernel) (Nat.le_of_ble_eq_true rfl) ?_
  refine T_aload_n (pc2 := 1) dX4_brokenBy_0 rfl rfl ?_
  refine G_getR (pc2 := 4) dX4_brokenBy_1 flX4_12 (sh34 S) rfl rfl ?_
  refine T_aload_n (pc2 := 5) dX4_brokenBy_4 rfl rfl ?_
  refine C_V1 (pc2 := 8) (mc := 0) (ms := 0) dX4_brokenBy_5 cvX3_tune mlX4_25 (isO.h (sh35 S) _) (Nat.le_of_ble_eq_true rfl) rfl ?_
  refine c_tune S hc (by omega) hV hok (fun g2 hE hf => ?_)
  refine T_aload_n (pc2 := 9) dX4_brokenBy_8 rfl rfl ?_
  refine G_getR (pc2 := 12) dX4_brokenBy_9 flX4_12 (sh34 S) rfl rfl ?_
  refine T_iload_n (pc2 := 13) dX4_brokenBy_12 rfl rfl ?_
  refine T_iload_n (pc2 := 14) dX4_brokenBy_13 rfl rfl ?_
  refine T_aload_n (pc2 := 15) dX4_brokenBy_14 rfl rfl ?_
  refine T_iconst (pc2 := 16) dX4_brokenBy_15 ic0 rfl ?_
  refine C_V1 (pc2 := 19) (mc := 0) (ms := 0) dX4_brokenBy_16 cvX2_those mlX4_29 (isO.h hc.1 _) (Nat.le_of_ble_eq_true rfl) rfl ?_
  have hV2 := hV.fr hf (by omega)
  refine c_those hc hV2 hok.1 (by decide) (hw31 hok) ?_
  refine C_V3 (pc2 := 22) (mc := 0) (ms := 0) dX4_brokenBy_19 cvX3_broken mlX4_33 (isO.h (sh35 S) _) (Nat.le_of_ble_eq_true rfl) rfl ?_
  refine c_broken S hE hok.1 hn hp (fun g3 hE3 e5 hf3 => ?_)
  refine T_iret dX4_brokenBy_22 rfl rfl ?_
  exact k g3 e5 ((hf.wd (by omega) (by omega)).tr (hf3.wd (by omega) (by omega)))
theorem c_findWorst (S : Sh sk n bf im above below) (hc : isC sk n c) (hd : c + 6 ≤ 34 ∨ 45 ≤ c) (hV : hasC g c V) (hok : okC V) (hJ0 : 0 < V.J) (k : ∀ g2, g2 34 2 = nI (100 * (V.mx (V.th 0)).2.1 + (V.mx (V.th 0)).2.2) → g2 34 3 = nI (V.wv (V.th 0)) → Fr 34 45 g g2 → Q none (HP sk g2 n)) : Calls MX4_findWorst (d + 4) 0 0 [.ref 34, .ref c] (HP sk g n) Q := by
  refine Calls.of (by decide +kernel) (Nat.le_of_ble_eq_true rfl) ?_
  refine T_aload_n (pc2 := 1) dX4_findWorst_0 rfl rfl ?_
  refine G_getR (pc2 := 4) dX4_findWorst_1 flX4_12 (sh34 S) rfl rfl ?_
  refine T_aload_n (pc2 := 5) dX4_findWorst_4 rfl rfl ?_
  refine C_V1 (pc2 := 8) (mc := 0) (ms := 0) dX4_findWorst_5 cvX3_tune mlX4_25 (isO.h (sh35 S) _) (Nat.le_of_ble_eq_true rfl) rfl ?_
  refine c_tune S hc (by omega) hV hok (fun g2 hE hf => ?_)
  refine T_aload_n (pc2 := 9) dX4_findWorst_8 rfl rfl ?_
  refine T_aload_n (pc2 := 10) dX4_findWorst_9 rfl rfl ?_
  refine T_aload_n (pc2 := 11) dX4_findWorst_10 rfl rfl ?_
  refine T_iconst (pc2 := 12) dX4_findWorst_11 ic0 rfl ?_
  refine C_V1 (pc2 := 15) (mc := 0) (ms := 0) dX4_findWorst_12 cvX2_those mlX4_29 (isO.h hc.1 _) (Nat.le_of_ble_eq_true rfl) rfl ?_
  have hV2 := hV.fr hf (by omega)
  refine c_those hc hV2 hok.1 (by decide) (hw31 hok) ?_
  refine T_bipush (pc2 := 17) dX4_findWorst_15 bp8 rfl ?_
  refine C_V2 (pc2 := 20) (mc := 0) (ms := 0) dX4_findWorst_17 cvX4_mostBroken mlX4_37 (isO.h (sh34 S) _) (Nat.le_of_ble_eq_true rfl) rfl ?_
  refine c_most S hE hok.1 hJ0 (by decide) (fun s g3 hs h1 h9 hE3 e6 hf3 _ => ?_)
  have hs : s = V.mx (V.th 0) := by
    rcases hs with hs | hs
    · exact hs
    · exact hs.2.2 hs.1
  subst hs
  refine G_putI (pc2 := 23) dX4_findWorst_20 flX4_41 (sh34 S) rfl rfl rfl rfl ?_
  refine T_aload_n (pc2 := 24) dX4_findWorst_23 rfl rfl ?_
  refine T_aload_n (pc2 := 25) dX4_findWorst_24 rfl rfl ?_
  refine G_getI (pc2 := 28) dX4_findWorst_25 flX4_45 (sh34 S) rfl (by first | with_reducible assumption | exact gs_eq _ _ _ _ | exact (gs_ne _ _ (by omega)).trans (by with_reducible assumption) | exact (gs_ne _ _ (by omega)).trans (gs_eq _ _ _ _) | exact (gs_ne _ _ (by omega)).trans ((gs_ne _ _ (by omega)).trans (by with_reducible assumption)) | exact (gs_ne _ _ (by omega)).trans ((gs_ne _ _ (by omega)).trans (gs_eq _ _ _ _)) | exact (gs_ne _ _ (by omega)).trans ((gs_ne _ _ (by omega)).trans ((gs_ne _ _ (by omega)).trans (by with_reducible assumption))) | rfl) rfl ?_
  refine G_putI (pc2 := 31) dX4_findWorst_28 flX4_48 (sh34 S) rfl rfl rfl rfl ?_
  refine T_ret dX4_findWorst_31 rfl ?_
  refine k _ (gs_eq _ _ _ _) ?_ ((((hf.wd (by omega) (by omega)).tr (hf3.wd (by omega) (by omega))).st (by omega) (by omega)).st (by omega) (by omega))
  rw [gs_ne _ _ (by omega), gs_eq]
  rfl
theorem c_keepFewest {one m hm : Nat} (S : Sh sk n bf im above below) (e3 : g 34 3 = nI hm) (hm1 : m < 100) (hm2 : hm < 100) (ht : m < hm → Q none (HP sk (gset (gset g 34 2 (nI one)) 34 3 (nI m)) n)) (hf : ¬ m < hm → Q none (HP sk g n)) : Calls MX4_keepFewest d 0 0 [.ref 34, .int (nI one), .int (nI m)] (HP sk g n) Q := by
  refine Calls.of (by decide +kernel) (Nat.le_of_ble_eq_true rfl) ?_
  refine T_iload_n (pc2 := 1) dX4_keepFewest_0 rfl rfl ?_
  refine T_aload_n (pc2 := 2) dX4_keepFewest_1 rfl rfl ?_
  refine G_getI (pc2 := 5) dX4_keepFewest_2 flX4_41 (sh34 S) rfl (by first | with_reducible assumption | exact gs_eq _ _ _ _ | exact (gs_ne _ _ (by omega)).trans (by with_reducible assumption) | exact (gs_ne _ _ (by omega)).trans (gs_eq _ _ _ _) | exact (gs_ne _ _ (by omega)).trans ((gs_ne _ _ (by omega)).trans (by with_reducible assumption)) | exact (gs_ne _ _ (by omega)).trans ((gs_ne _ _ (by omega)).trans (gs_eq _ _ _ _)) | exact (gs_ne _ _ (by omega)).trans ((gs_ne _ _ (by omega)).trans ((gs_ne _ _ (by omega)).trans (by with_reducible assumption))) | rfl) rfl ?_
  first | refine N_icmpge (pc2 := 8) (tgt := 18) dX4_keepFewest_5 (by decide) (by with_reducible rfl) (by with_reducible rfl) (by omega) (by omega) rfl (fun c5 => ?_) (fun c5 => ?_) | refine T_icmpge (pc2 := 8) (tgt := 18) dX4_keepFewest_5 (by decide) rfl (fun c5 => ?_) (fun c5 => ?_)
  · refine T_ret dX4_keepFewest_18 rfl ?_
    exact hf (by omega)
  · refine T_aload_n (pc2 := 9) dX4_keepFewest_8 rfl rfl ?_
    refine T_iload_n (pc2 := 10) dX4_keepFewest_9 rfl rfl ?_
    refine G_putI (pc2 := 13) dX4_keepFewest_10 flX4_48 (sh34 S) rfl rfl rfl rfl ?_
    refine T_aload_n (pc2 := 14) dX4_keepFewest_13 rfl rfl ?_
    refine T_iload_n (pc2 := 15) dX4_keepFewest_14 rfl rfl ?_
    refine G_putI (pc2 := 18) dX4_keepFewest_15 flX4_41 (sh34 S) rfl rfl rfl rfl ?_
    refine T_ret dX4_keepFewest_18 rfl ?_
    exact ht (by omega)
theorem guard_loop {nt p kk : Nat} (S : Sh sk n bf im above below) (hJ : V.J ≤ 8) (hn : nt < 12) (hp : p < V.J) (hk : kk < 100) (k : ∀ g2, g2 34 3 = nI (V.gd w nt p kk).1 → g2 34 2 = nI (V.gd w nt p kk).2 → Fr 34 45 g g2 → Q none (HP sk g2 n)) :
    ∀ m o g2 s, o + m = 256 → s = itr (gdf V w nt p kk) (9, 0) o → s.1 ≤ 9 → tunedE g2 V → g2 34 3 = nI s.1 → g2 34 2 = nI s.2 → Fr 34 45 g g2 → T MX4_findGuard (d + 3) kc ks 29 [(0, .ref 34), (2, .int (nI nt)), (3, .int (nI p)), (4, .int (nI kk)), (5, .int (nI (bm w 8))), (6, .int (nI o))] [] (HP sk g2 n) Q := by
  intro m
  induction m with
  | zero =>
    intro o g2 s ho hs h9 hE e3 e2 hf
    refine T_iload (pc2 := 31) dX4_findGuard_29 rfl rfl ?_
    refine T_sipush (pc2 := 34) dX4_findGuard_31 sp256 rfl ?_
    first | refine N_icmpge (pc2 := 37) (tgt := 105) dX4_findGuard_34 (by decide) (by with_reducible rfl) (by with_reducible rfl) (by omega) (by omega) rfl (fun c34 => ?_) (fun c34 => ?_) | refine T_icmpge (pc2 := 37) (tgt := 105) dX4_findGuard_34 (by decide) rfl (fun c34 => ?_) (fun c34 => ?_)
    · refine T_ret dX4_findGuard_105 rfl ?_
      have : o = 256 := by omega
      subst this
      subst hs
      exact k g2 e3 e2 hf
    · exact absurd (by omega) c34
  | succ m ih =>
    intro o g2 s ho hs h9 hE e3 e2 hf
    have hno : ∀ g3 ls, s = itr (gdf V w nt p kk) (9, 0) (o + 1) → tunedE g3 V → g3 34 3 = nI s.1 → g3 34 2 = nI s.2 → Fr 34 45 g g3 → (∀ q ∈ [(0, Value.ref 34), (2, .int (nI nt)), (3, .int (nI p)), (4, .int (nI kk)), (5, .int (nI (bm w 8))), (6, .int (nI o))], ls.lookup q.1 = some q.2) → T MX4_findGuard (d + 3) kc ks 99 ls [] (HP sk g3 n) Q := by
      intro g3 ls h1 h2 h3 h4 h5 hl
      refine T_sub hl ?_
      first | refine N_iinc (pc2 := 102) dX4_findGuard_99 rfl (by with_reducible rfl) ic1 (by decide) rfl ?_ | refine T_iinc (pc2 := 102) dX4_findGuard_99 rfl rfl (by decide) rfl ?_
      refine T_goto (tgt := 29) dX4_findGuard_102 (by decide) ?_
      refine T_sub (lks (i := 0) rfl (lks (i := 2) rfl (lks (i := 3) rfl (lks (i := 4) rfl (lks (i := 5) rfl (lks (i := 6) rfl lk0)))))) ?_
      exact ih (o + 1) g3 s (by omega) h1 h9 h2 h3 h4 h5
    have hstep : itr (gdf V w nt p kk) (9, 0) (o + 1) = gdf V w nt p kk o s := by rw [hs]; rfl
    refine T_iload (pc2 := 31) dX4_findGuard_29 rfl rfl ?_
    refine T_sipush (pc2 := 34) dX4_findGuard_31 sp256 rfl ?_
    first | refine N_icmpge (pc2 := 37) (tgt := 105) dX4_findGuard_34 (by decide) (by with_reducible rfl) (by with_reducible rfl) (by omega) (by omega) rfl (fun c34 => ?_) (fun c34 => ?_) | refine T_icmpge (pc2 := 37) (tgt := 105) dX4_findGuard_34 (by decide) rfl (fun c34 => ?_) (fun c34 => ?_)
    · exact absurd c34 (by omega)
    · refine T_iload (pc2 := 39) dX4_findGuard_37 rfl rfl ?_
      refine C_S1 (pc2 := 42) (mc := 0) (ms := 0) dX4_findGuard_39 csJ6_bitCount_0f7a4 mlX4_54 (Nat.le_of_ble_eq_true rfl) rfl ?_
      refine c_bitsN (by omega) ?_
      refine T_istore (pc2 := 44) dX4_findGuard_42 (by decide) rfl ?_
      refine T_iload (pc2 := 46) dX4_findGuard_44 rfl rfl ?_
      refine T_iload (pc2 := 48) dX4_findGuard_46 rfl rfl ?_
      refine T_iconst (pc2 := 49) dX4_findGuard_48 icm1 rfl ?_
      refine T_ixor (pc2 := 50) dX4_findGuard_49 rfl ?_
      refine T_iand (pc2 := 51) dX4_findGuard_50 rfl ?_
      have q1 : nI o &&& (nI (bm w 8) ^^^ (-1)) = nI (subW w o) := by
        have := bm_not (fun j => o.testBit j) w 8
        rw [bm_self (k := 8) (show o < 2 ^ 8 by omega)] at this
        exact this
      rw [q1]
      have hlt : subW w o < 2 ^ 31 := bm_le _ (by decide)
      have hct : ctN o ≤ 8 := ct_le _ 8
      first | refine B_ifne1 (tgt := 99) dX4_findGuard_51 (by with_reducible rfl) (by decide) ?_ | refine B_ifne0 (pc2 := 54) (tgt := 99) dX4_findGuard_51 (by with_reducible rfl) (by decide) rfl ?_ | refine N_ifne (pc2 := 54) (tgt := 99) dX4_findGuard_51 (by with_reducible rfl) (by decide) (by omega) rfl (fun c51 => ?_) (fun c51 => ?_) | refine T_ifne (pc2 := 54) (tgt := 99) dX4_findGuard_51 (by decide) rfl (fun c51 => ?_) (fun c51 => ?_)
      · refine hno g2 _ ?_ hE e3 e2 hf (lks (i := 0) rfl (lks (i := 2) rfl (lks (i := 3) rfl (lks (i := 4) rfl (lks (i := 5) rfl (lks (i := 6) rfl lk0))))))
        rw [hstep]
        unfold gdf
        rw [if_neg (fun z => c51 z.1)]
      · have hct2 : ct (fun j => o.testBit j) 8 ≤ 8 := ct_le _ 8
        refine T_iload (pc2 := 56) dX4_findGuard_54 rfl rfl ?_
        refine T_aload_n (pc2 := 57) dX4_findGuard_56 rfl rfl ?_
        refine G_getI (pc2 := 60) dX4_findGuard_57 flX4_41 (sh34 S) rfl (by first | with_reducible assumption | exact gs_eq _ _ _ _ | exact (gs_ne _ _ (by omega)).trans (by with_reducible assumption) | exact (gs_ne _ _ (by omega)).trans (gs_eq _ _ _ _) | exact (gs_ne _ _ (by omega)).trans ((gs_ne _ _ (by omega)).trans (by with_reducible assumption)) | exact (gs_ne _ _ (by omega)).trans ((gs_ne _ _ (by omega)).trans (gs_eq _ _ _ _)) | exact (gs_ne _ _ (by omega)).trans ((gs_ne _ _ (by omega)).trans ((gs_ne _ _ (by omega)).trans (by with_reducible assumption))) | rfl) rfl ?_
        first | refine N_icmpge (pc2 := 63) (tgt := 99) dX4_findGuard_60 (by decide) (by with_reducible rfl) (by with_reducible rfl) (by omega) (by omega) rfl (fun c60 => ?_) (fun c60 => ?_) | refine T_icmpge (pc2 := 63) (tgt := 99) dX4_findGuard_60 (by decide) rfl (fun c60 => ?_) (fun c60 => ?_)
        · refine hno g2 _ ?_ hE e3 e2 hf (lks (i := 0) rfl (lks (i := 2) rfl (lks (i := 3) rfl (lks (i := 4) rfl (lks (i := 5) rfl (lks (i := 6) rfl lk0))))))
          rw [hstep]
          unfold gdf
          rw [if_neg (fun z => by have := z.2.1; unfold ctN at this; omega)]
        · refine T_aload_n (pc2 := 64) dX4_findGuard_63 rfl rfl ?_
          refine G_getR (pc2 := 67) dX4_findGuard_64 flX4_12 (sh34 S) rfl rfl ?_
          refine T_iload_n (pc2 := 68) dX4_findGuard_67 rfl rfl ?_
          refine T_iload_n (pc2 := 69) dX4_findGuard_68 rfl rfl ?_
          refine T_iload (pc2 := 71) dX4_findGuard_69 rfl rfl ?_
          refine T_iload (pc2 := 73) dX4_findGuard_71 rfl rfl ?_
          refine T_iconst (pc2 := 74) dX4_findGuard_73 icm1 rfl ?_
          refine T_ixor (pc2 := 75) dX4_findGuard_74 rfl ?_
          refine T_iand (pc2 := 76) dX4_findGuard_75 rfl ?_
          have q2 : nI (bm w 8) &&& (nI o ^^^ (-1)) = nI (bm (fun j => w j && !o.testBit j) 8) := by
            have := bm_not w (fun j => o.testBit j) 8
            rw [bm_self (k := 8) (show o < 2 ^ 8 by omega)] at this
            exact this
          rw [q2]
          refine C_V3 (pc2 := 79) (mc := 0) (ms := 0) dX4_findGuard_76 cvX3_broken mlX4_33 (isO.h (sh35 S) _) (Nat.le_of_ble_eq_true rfl) rfl ?_
          refine c_broken S hE hJ hn hp (fun g3 hE3 _ hf3 => ?_)
          refine C_S1 (pc2 := 82) (mc := 0) (ms := 0) dX4_findGuard_79 csJ6_bitCount_0f7a4 mlX4_54 (Nat.le_of_ble_eq_true rfl) rfl ?_
          refine c_bits ?_
          have hb8 : ct (V.brk nt p (fun j => w j && !o.testBit j)) 8 ≤ 8 := ct_le _ 8
          have e3b : g3 34 3 = nI s.1 := by rw [hf3 34 (by omega)]; exact e3
          have e2b : g3 34 2 = nI s.2 := by rw [hf3 34 (by omega)]; exact e2
          have hf4 : Fr 34 45 g g3 := hf.tr (hf3.wd (by omega) (by omega))
          refine T_iload (pc2 := 84) dX4_findGuard_82 rfl rfl ?_
          first | refine N_icmpgt (pc2 := 87) (tgt := 99) dX4_findGuard_84 (by decide) (by with_reducible rfl) (by with_reducible rfl) (by omega) (by omega) rfl (fun c84 => ?_) (fun c84 => ?_) | refine T_icmpgt (pc2 := 87) (tgt := 99) dX4_findGuard_84 (by decide) rfl (fun c84 => ?_) (fun c84 => ?_)
          · refine hno g3 _ ?_ hE3 e3b e2b hf4 (lks (i := 0) rfl (lks (i := 2) rfl (lks (i := 3) rfl (lks (i := 4) rfl (lks (i := 5) rfl (lks (i := 6) rfl lk0))))))
            rw [hstep]
            unfold gdf
            rw [if_neg (fun z => by have := z.2.2; omega)]
          · refine T_aload_n (pc2 := 88) dX4_findGuard_87 rfl rfl ?_
            refine T_iload (pc2 := 90) dX4_findGuard_88 rfl rfl ?_
            refine G_putI (pc2 := 93) dX4_findGuard_90 flX4_41 (sh34 S) rfl rfl rfl rfl ?_
            refine T_aload_n (pc2 := 94) dX4_findGuard_93 rfl rfl ?_
            refine T_iload (pc2 := 96) dX4_findGuard_94 rfl rfl ?_
            refine G_putI (pc2 := 99) dX4_findGuard_96 flX4_48 (sh34 S) rfl rfl rfl rfl ?_
            first | refine N_iinc (pc2 := 102) dX4_findGuard_99 rfl (by with_reducible rfl) ic1 (by decide) rfl ?_ | refine T_iinc (pc2 := 102) dX4_findGuard_99 rfl rfl (by decide) rfl ?_
            refine T_goto (tgt := 29) dX4_findGuard_102 (by decide) ?_
            refine T_sub (lks (i := 0) rfl (lks (i := 2) rfl (lks (i := 3) rfl (lks (i := 4) rfl (lks (i := 5) rfl (lks (i := 6) rfl lk0)))))) ?_
            refine ih (o + 1) _ (ctN o, o) (by omega) ?_ (by show ctN o ≤ 9; omega) (hE3.fr (lo := 34) (hi := 35) ((Fr.rf.st (by omega) (by omega)).st (by omega) (by omega)) (by omega)) ?_ (gs_eq _ _ _ _) ((hf4.st (by omega) (by omega)).st (by omega) (by omega))
            · rw [hstep]
              unfold gdf
              rw [if_pos ⟨c51, by unfold ctN; omega, by omega⟩]
            · rw [gs_ne _ _ (by omega), gs_eq]
              rfl
theorem c_findGuard {nt p kk : Nat} (S : Sh sk n bf im above below) (hc : isC sk n c) (hd : c + 6 ≤ 34 ∨ 45 ≤ c) (hV : hasC g c V) (hok : okC V) (hn : nt < 12) (hp : p < V.J) (hk : kk < 100) (k : ∀ g2, g2 34 3 = nI (V.gd (V.th 0) nt p kk).1 → g2 34 2 = nI (V.gd (V.th 0) nt p kk).2 → Fr 34 45 g g2 → Q none (HP sk g2 n)) : Calls MX4_findGuard (d + 3) 0 0 [.ref 34, .ref c, .int (nI nt), .int (nI p), .int (nI kk)] (HP sk g n) Q := by
  refine Calls.of (by decide +kernel) (Nat.le_of_ble_eq_true rfl) ?_
  refine T_aload_n (pc2 := 1) dX4_findGuard_0 rfl rfl ?_
  refine G_getR (pc2 := 4) dX4_findGuard_1 flX4_12 (sh34 S) rfl rfl ?_
  refine T_aload_n (pc2 := 5) dX4_findGuard_4 rfl rfl ?_
  refine C_V1 (pc2 := 8) (mc := 0) (ms := 0) dX4_findGuard_5 cvX3_tune mlX4_25 (isO.h (sh35 S) _) (Nat.le_of_ble_eq_true rfl) rfl ?_
  refine c_tune S hc (by omega) hV hok (fun g2 hE hf => ?_)
  refine T_aload_n (pc2 := 9) dX4_findGuard_8 rfl rfl ?_
  refine T_iconst (pc2 := 10) dX4_findGuard_9 ic0 rfl ?_
  refine C_V1 (pc2 := 13) (mc := 0) (ms := 0) dX4_findGuard_10 cvX2_those mlX4_29 (isO.h hc.1 _) (Nat.le_of_ble_eq_true rfl) rfl ?_
  have hV2 := hV.fr hf (by omega)
  refine c_those hc hV2 hok.1 (by decide) (hw31 hok) ?_
  refine T_istore (pc2 := 15) dX4_findGuard_13 (by decide) rfl ?_
  refine T_aload_n (pc2 := 16) dX4_findGuard_15 rfl rfl ?_
  refine T_bipush (pc2 := 18) dX4_findGuard_16 bp9 rfl ?_
  refine G_putI (pc2 := 21) dX4_findGuard_18 flX4_41 (sh34 S) rfl rfl rfl rfl ?_
  refine T_aload_n (pc2 := 22) dX4_findGuard_21 rfl rfl ?_
  refine T_iconst (pc2 := 23) dX4_findGuard_22 ic0 rfl ?_
  refine G_putI (pc2 := 26) dX4_findGuard_23 flX4_48 (sh34 S) rfl rfl rfl rfl ?_
  refine T_iconst (pc2 := 27) dX4_findGuard_26 ic0 rfl ?_
  refine T_istore (pc2 := 29) dX4_findGuard_27 (by decide) rfl ?_
  refine T_sub (lks (i := 0) rfl (lks (i := 2) rfl (lks (i := 3) rfl (lks (i := 4) rfl (lks (i := 5) rfl (lks (i := 6) rfl lk0)))))) ?_
  refine guard_loop (g := g) S hok.1 hn hp hk k 256 0 _ (9, 0) (by omega) rfl (by decide) (hE.fr (lo := 34) (hi := 35) ((Fr.rf.st (by omega) (by omega)).st (by omega) (by omega)) (by omega)) ?_ (gs_eq _ _ _ _) (((hf.wd (by omega) (by omega)).st (by omega) (by omega)).st (by omega) (by omega))
  rw [gs_ne _ _ (by omega), gs_eq]
end Fore

