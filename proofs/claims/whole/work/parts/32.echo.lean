/-! what answers what -/
def gapN (x y : Nat) : Nat := if x ≤ y then y - x else x - y
def apartN (x y : Nat) : Nat := if 12 - gapN x y < gapN x y then 12 - gapN x y else gapN x y
def ansN (kd ap : Nat) : Bool := if kd = 1 ∨ kd = 3 then decide (ap = 0) else if kd = 2 then decide (ap ≤ 1) else if kd = 4 then decide (ap = 5) else if kd = 5 then decide (ap = 5 ∨ ap = 6) else false
def Cel.ansM (V : Cel) (note : Nat) : Nat → Bool := fun j => decide (j < V.J) && ansN (V.kd j) (apartN (V.nt j) note)
def Cel.nearM (V : Cel) (p : Nat) : Nat → Bool := fun j => decide (j < V.J) && decide (gapN (V.pl j) p ≤ V.R)
def Cel.hit (V : Cel) (note p : Nat) : Nat → Bool := fun j => V.ansM note j && V.nearM p j
def Cel.thick (V : Cel) : Nat → Bool := fun j => decide (j < V.J) && decide (V.kd j = 3)
theorem gap_abs {x y : Nat} (hx : x < 16) (hy : y < 16) : (if 0 ≤ nI x - nI y then nI x - nI y else 0 - (nI x - nI y)) = nI (gapN x y) := by
  have : ∀ x, x < 16 → ∀ y, y < 16 → (if 0 ≤ nI x - nI y then nI x - nI y else 0 - (nI x - nI y)) = nI (gapN x y) := by decide +kernel
  exact this x hx y hy
theorem gap_lt {x y k : Nat} (hx : x < k) (hy : y < k) : gapN x y < k := by
  unfold gapN
  split <;> omega
theorem apart_min {w : Nat} (hw : w < 12) : (if nI (12 - w) < nI w then nI (12 - w) else nI w) = nI (if 12 - w < w then 12 - w else w) := by
  have : ∀ w, w < 12 → (if nI (12 - w) < nI w then nI (12 - w) else nI w) = nI (if 12 - w < w then 12 - w else w) := by decide +kernel
  exact this w hw
section EchoM
variable {sk : Nat → SK} {g : Nat → Nat → Int32} {n c : Nat} {V : Cel} {Q : Option Value → SH → Prop} {d kc ks : Nat} {h : SH} {bf im : Nat → Option Nat} {above below : Int64}
theorem c_apart {x y : Nat} (hx : x < 12) (hy : y < 12) (k : Q (some (.int (nI (apartN x y)))) h) : Calls MX3_apart d 0 0 [.int (nI x), .int (nI y)] h Q := by
  refine Calls.of (by decide +kernel) (Nat.le_of_ble_eq_true rfl) ?_
  refine T_iload_n (pc2 := 1) dX3_apart_0 rfl rfl ?_
  refine T_iload_n (pc2 := 2) dX3_apart_1 rfl rfl ?_
  refine T_isub (pc2 := 3) dX3_apart_2 rfl ?_
  refine T_mabs (pc2 := 6) dX3_apart_3 mlX3_58 (Nat.le_of_ble_eq_true rfl) rfl ?_
  rw [gap_abs (by omega) (by omega)]
  have hg := gap_lt hx hy
  refine T_istore_n (pc2 := 7) dX3_apart_6 (by decide) rfl ?_
  refine T_iload_n (pc2 := 8) dX3_apart_7 rfl rfl ?_
  refine T_bipush (pc2 := 10) dX3_apart_8 bp12 rfl ?_
  refine T_iload_n (pc2 := 11) dX3_apart_10 rfl rfl ?_
  first | refine N_isub (pc2 := 12) dX3_apart_11 (by with_reducible rfl) (by with_reducible rfl) (by omega) rfl ?_ | refine T_isub (pc2 := 12) dX3_apart_11 rfl ?_
  refine T_mmin (pc2 := 15) dX3_apart_12 mlX3_67 (Nat.le_of_ble_eq_true rfl) rfl ?_
  rw [apart_min hg]
  refine T_iret dX3_apart_15 rfl rfl ?_
  exact k
theorem c_answers {kd ap : Nat} (h1 : 1 ≤ kd) (h5 : kd ≤ 5) (ha : ap < 12) (ht : ansN kd ap = true → Q (some (.int (nI 1))) h) (hf : ansN kd ap = false → Q (some (.int (nI 0))) h) : Calls MX3_answers d 0 0 [.int (nI kd), .int (nI ap)] h Q := by
  refine Calls.of (by decide +kernel) (Nat.le_of_ble_eq_true rfl) ?_
  refine T_iload_n (pc2 := 1) dX3_answers_0 rfl rfl ?_
  have hk : kd = 1 ∨ kd = 2 ∨ kd = 3 ∨ kd = 4 ∨ kd = 5 := by omega
  rcases hk with rfl | rfl | rfl | rfl | rfl
  · refine T_tableIn (off := 35) (tgt := 36) dX3_answers_1 (by decide) (by decide) (by decide) (by decide) ?_
    refine T_iload_n (pc2 := 37) dX3_answers_36 rfl rfl ?_
    first | refine B_ifne1 (tgt := 44) dX3_answers_37 (by with_reducible rfl) (by decide) ?_ | refine B_ifne0 (pc2 := 40) (tgt := 44) dX3_answers_37 (by with_reducible rfl) (by decide) rfl ?_ | refine N_ifne (pc2 := 40) (tgt := 44) dX3_answers_37 (by with_reducible rfl) (by decide) (by omega) rfl (fun c37 => ?_) (fun c37 => ?_) | refine T_ifne (pc2 := 40) (tgt := 44) dX3_answers_37 (by decide) rfl (fun c37 => ?_) (fun c37 => ?_)
    · refine T_iconst (pc2 := 45) dX3_answers_44 ic0 rfl ?_
      refine T_iret dX3_answers_45 rfl (by first | rfl | decide) ?_
      exact hf (by simp [ansN, c37])
    · refine T_iconst (pc2 := 41) dX3_answers_40 ic1 rfl ?_
      refine T_goto (tgt := 45) dX3_answers_41 (by decide) ?_
      refine T_iret dX3_answers_45 rfl (by first | rfl | decide) ?_
      exact ht (by simp [ansN, c37])
  · refine T_tableIn (off := 45) (tgt := 46) dX3_answers_1 (by decide) (by decide) (by decide) (by decide) ?_
    refine T_iload_n (pc2 := 47) dX3_answers_46 rfl rfl ?_
    refine T_iconst (pc2 := 48) dX3_answers_47 ic1 rfl ?_
    first | refine N_icmpgt (pc2 := 51) (tgt := 55) dX3_answers_48 (by decide) (by with_reducible rfl) (by with_reducible rfl) (by omega) (by omega) rfl (fun c48 => ?_) (fun c48 => ?_) | refine T_icmpgt (pc2 := 51) (tgt := 55) dX3_answers_48 (by decide) rfl (fun c48 => ?_) (fun c48 => ?_)
    · refine T_iconst (pc2 := 56) dX3_answers_55 ic0 rfl ?_
      refine T_iret dX3_answers_56 rfl (by first | rfl | decide) ?_
      exact hf (by simp [ansN]; omega)
    · refine T_iconst (pc2 := 52) dX3_answers_51 ic1 rfl ?_
      refine T_goto (tgt := 56) dX3_answers_52 (by decide) ?_
      refine T_iret dX3_answers_56 rfl (by first | rfl | decide) ?_
      exact ht (by simp [ansN]; omega)
  · refine T_tableIn (off := 35) (tgt := 36) dX3_answers_1 (by decide) (by decide) (by decide) (by decide) ?_
    refine T_iload_n (pc2 := 37) dX3_answers_36 rfl rfl ?_
    first | refine B_ifne1 (tgt := 44) dX3_answers_37 (by with_reducible rfl) (by decide) ?_ | refine B_ifne0 (pc2 := 40) (tgt := 44) dX3_answers_37 (by with_reducible rfl) (by decide) rfl ?_ | refine N_ifne (pc2 := 40) (tgt := 44) dX3_answers_37 (by with_reducible rfl) (by decide) (by omega) rfl (fun c37 => ?_) (fun c37 => ?_) | refine T_ifne (pc2 := 40) (tgt := 44) dX3_answers_37 (by decide) rfl (fun c37 => ?_) (fun c37 => ?_)
    · refine T_iconst (pc2 := 45) dX3_answers_44 ic0 rfl ?_
      refine T_iret dX3_answers_45 rfl (by first | rfl | decide) ?_
      exact hf (by simp [ansN, c37])
    · refine T_iconst (pc2 := 41) dX3_answers_40 ic1 rfl ?_
      refine T_goto (tgt := 45) dX3_answers_41 (by decide) ?_
      refine T_iret dX3_answers_45 rfl (by first | rfl | decide) ?_
      exact ht (by simp [ansN, c37])
  · refine T_tableIn (off := 56) (tgt := 57) dX3_answers_1 (by decide) (by decide) (by decide) (by decide) ?_
    refine T_iload_n (pc2 := 58) dX3_answers_57 rfl rfl ?_
    refine T_iconst (pc2 := 59) dX3_answers_58 ic5 rfl ?_
    first | refine N_icmpne (pc2 := 62) (tgt := 66) dX3_answers_59 (by decide) (by with_reducible rfl) (by with_reducible rfl) (by omega) (by omega) rfl (fun c59 => ?_) (fun c59 => ?_) | refine T_icmpne (pc2 := 62) (tgt := 66) dX3_answers_59 (by decide) rfl (fun c59 => ?_) (fun c59 => ?_)
    · refine T_iconst (pc2 := 67) dX3_answers_66 ic0 rfl ?_
      refine T_iret dX3_answers_67 rfl (by first | rfl | decide) ?_
      exact hf (by simp [ansN, c59])
    · refine T_iconst (pc2 := 63) dX3_answers_62 ic1 rfl ?_
      refine T_goto (tgt := 67) dX3_answers_63 (by decide) ?_
      refine T_iret dX3_answers_67 rfl (by first | rfl | decide) ?_
      exact ht (by simp [ansN, c59])
  · refine T_tableIn (off := 67) (tgt := 68) dX3_answers_1 (by decide) (by decide) (by decide) (by decide) ?_
    refine T_iload_n (pc2 := 69) dX3_answers_68 rfl rfl ?_
    refine T_iconst (pc2 := 70) dX3_answers_69 ic5 rfl ?_
    first | refine N_icmpeq (pc2 := 73) (tgt := 79) dX3_answers_70 (by decide) (by with_reducible rfl) (by with_reducible rfl) (by omega) (by omega) rfl (fun c70 => ?_) (fun c70 => ?_) | refine T_icmpeq (pc2 := 73) (tgt := 79) dX3_answers_70 (by decide) rfl (fun c70 => ?_) (fun c70 => ?_)
    · refine T_iconst (pc2 := 80) dX3_answers_79 ic1 rfl ?_
      refine T_goto (tgt := 84) dX3_answers_80 (by decide) ?_
      refine T_iret dX3_answers_84 rfl (by first | rfl | decide) ?_
      exact ht (by simp [ansN, c70])
    · refine T_iload_n (pc2 := 74) dX3_answers_73 rfl rfl ?_
      refine T_bipush (pc2 := 76) dX3_answers_74 bp6 rfl ?_
      first | refine N_icmpne (pc2 := 79) (tgt := 83) dX3_answers_76 (by decide) (by with_reducible rfl) (by with_reducible rfl) (by omega) (by omega) rfl (fun c76 => ?_) (fun c76 => ?_) | refine T_icmpne (pc2 := 79) (tgt := 83) dX3_answers_76 (by decide) rfl (fun c76 => ?_) (fun c76 => ?_)
      · refine T_iconst (pc2 := 84) dX3_answers_83 ic0 rfl ?_
        refine T_iret dX3_answers_84 rfl (by first | rfl | decide) ?_
        exact hf (by simp [ansN, c70, c76])
      · refine T_iconst (pc2 := 80) dX3_answers_79 ic1 rfl ?_
        refine T_goto (tgt := 84) dX3_answers_80 (by decide) ?_
        refine T_iret dX3_answers_84 rfl (by first | rfl | decide) ?_
        exact ht (by simp [ansN, c76])
theorem ansTo_loop {note : Nat} (hc : isC sk n c) (hV : hasC g c V) (hok : okC V) (hn : note < 12) (k : Q (some (.int (nI (bm (V.ansM note) 8)))) (HP sk g n)) :
    ∀ m j, j + m = V.J → T MX3_answeringTo (d + 1) kc ks 4 [(0, .ref c), (1, .int (nI note)), (2, .int (nI (bm (V.ansM note) j))), (3, .int (nI j))] [] (HP sk g n) Q := by
  have e0 := hV.1
  have hJ := hok.1
  intro m
  induction m with
  | zero =>
    intro j hj
    refine T_iload_n (pc2 := 5) dX3_answeringTo_4 rfl rfl ?_
    refine T_aload_n (pc2 := 6) dX3_answeringTo_5 rfl rfl ?_
    refine G_getI (pc2 := 9) dX3_answeringTo_6 flX3_21 hc.1 rfl (by first | with_reducible assumption | exact gs_eq _ _ _ _ | exact (gs_ne _ _ (by omega)).trans (by with_reducible assumption) | exact (gs_ne _ _ (by omega)).trans (gs_eq _ _ _ _) | exact (gs_ne _ _ (by omega)).trans ((gs_ne _ _ (by omega)).trans (by with_reducible assumption)) | exact (gs_ne _ _ (by omega)).trans ((gs_ne _ _ (by omega)).trans (gs_eq _ _ _ _)) | exact (gs_ne _ _ (by omega)).trans ((gs_ne _ _ (by omega)).trans ((gs_ne _ _ (by omega)).trans (by with_reducible assumption))) | rfl) rfl ?_
    first | refine N_icmpge (pc2 := 12) (tgt := 46) dX3_answeringTo_9 (by decide) (by with_reducible rfl) (by with_reducible rfl) (by omega) (by omega) rfl (fun c9 => ?_) (fun c9 => ?_) | refine T_icmpge (pc2 := 12) (tgt := 46) dX3_answeringTo_9 (by decide) rfl (fun c9 => ?_) (fun c9 => ?_)
    · refine T_iload_n (pc2 := 47) dX3_answeringTo_46 rfl rfl ?_
      refine T_iret dX3_answeringTo_47 rfl rfl ?_
      rw [show j = V.J by omega, ← bm_up hJ (fun i h1 _ => by simp [Cel.ansM, Nat.not_lt.mpr h1])]
      exact k
    · exact absurd (by omega) c9
  | succ m ih =>
    intro j hj
    have hjl : j < V.J := by omega
    have e1 := (hV.2.2.2 j hjl).1
    have e2 := (hV.2.2.2 j hjl).2.1
    obtain ⟨h1, h2, h3, h4, h5, h6, h7⟩ := hok.2.2.2.1 j hjl
    refine T_iload_n (pc2 := 5) dX3_answeringTo_4 rfl rfl ?_
    refine T_aload_n (pc2 := 6) dX3_answeringTo_5 rfl rfl ?_
    refine G_getI (pc2 := 9) dX3_answeringTo_6 flX3_21 hc.1 rfl (by first | with_reducible assumption | exact gs_eq _ _ _ _ | exact (gs_ne _ _ (by omega)).trans (by with_reducible assumption) | exact (gs_ne _ _ (by omega)).trans (gs_eq _ _ _ _) | exact (gs_ne _ _ (by omega)).trans ((gs_ne _ _ (by omega)).trans (by with_reducible assumption)) | exact (gs_ne _ _ (by omega)).trans ((gs_ne _ _ (by omega)).trans (gs_eq _ _ _ _)) | exact (gs_ne _ _ (by omega)).trans ((gs_ne _ _ (by omega)).trans ((gs_ne _ _ (by omega)).trans (by with_reducible assumption))) | rfl) rfl ?_
    first | refine N_icmpge (pc2 := 12) (tgt := 46) dX3_answeringTo_9 (by decide) (by with_reducible rfl) (by with_reducible rfl) (by omega) (by omega) rfl (fun c9 => ?_) (fun c9 => ?_) | refine T_icmpge (pc2 := 12) (tgt := 46) dX3_answeringTo_9 (by decide) rfl (fun c9 => ?_) (fun c9 => ?_)
    · exact absurd c9 (by omega)
    · refine T_aload_n (pc2 := 13) dX3_answeringTo_12 rfl rfl ?_
      refine G_getR (pc2 := 16) dX3_answeringTo_13 flX3_48 hc.1 rfl rfl ?_
      refine T_iload_n (pc2 := 17) dX3_answeringTo_16 rfl rfl ?_
      refine G_iald (pc2 := 18) dX3_answeringTo_17 hc.2.1 (by omega) (by first | decide | omega) (by first | with_reducible assumption | exact gs_eq _ _ _ _ | exact (gs_ne _ _ (by omega)).trans (by with_reducible assumption) | exact (gs_ne _ _ (by omega)).trans (gs_eq _ _ _ _) | exact (gs_ne _ _ (by omega)).trans ((gs_ne _ _ (by omega)).trans (by with_reducible assumption)) | exact (gs_ne _ _ (by omega)).trans ((gs_ne _ _ (by omega)).trans (gs_eq _ _ _ _)) | exact (gs_ne _ _ (by omega)).trans ((gs_ne _ _ (by omega)).trans ((gs_ne _ _ (by omega)).trans (by with_reducible assumption))) | rfl) rfl ?_
      refine T_aload_n (pc2 := 19) dX3_answeringTo_18 rfl rfl ?_
      refine G_getR (pc2 := 22) dX3_answeringTo_19 flX3_38 hc.1 rfl rfl ?_
      refine T_iload_n (pc2 := 23) dX3_answeringTo_22 rfl rfl ?_
      refine G_iald (pc2 := 24) dX3_answeringTo_23 hc.2.2.1 (by omega) (by first | decide | omega) (by first | with_reducible assumption | exact gs_eq _ _ _ _ | exact (gs_ne _ _ (by omega)).trans (by with_reducible assumption) | exact (gs_ne _ _ (by omega)).trans (gs_eq _ _ _ _) | exact (gs_ne _ _ (by omega)).trans ((gs_ne _ _ (by omega)).trans (by with_reducible assumption)) | exact (gs_ne _ _ (by omega)).trans ((gs_ne _ _ (by omega)).trans (gs_eq _ _ _ _)) | exact (gs_ne _ _ (by omega)).trans ((gs_ne _ _ (by omega)).trans ((gs_ne _ _ (by omega)).trans (by with_reducible assumption))) | rfl) rfl ?_
      refine T_iload_n (pc2 := 25) dX3_answeringTo_24 rfl rfl ?_
      refine C_S2 (pc2 := 28) (mc := 0) (ms := 0) dX3_answeringTo_25 csX3_apart mlX3_51 (Nat.le_of_ble_eq_true rfl) rfl ?_
      refine c_apart h3 hn ?_
      refine C_S2 (pc2 := 31) (mc := 0) (ms := 0) dX3_answeringTo_28 csX3_answers mlX3_54 (Nat.le_of_ble_eq_true rfl) rfl ?_
      have hap : apartN (V.nt j) note < 12 := by
        have := gap_lt h3 hn
        unfold apartN
        split <;> omega
      refine c_answers h1 h2 hap (fun hp => ?_) (fun hp => ?_)
      · first | refine B_ifeq1 (pc2 := 34) (tgt := 40) dX3_answeringTo_31 (by with_reducible rfl) (by decide) rfl ?_ | refine B_ifeq0 (tgt := 40) dX3_answeringTo_31 (by with_reducible rfl) (by decide) ?_ | refine N_ifeq (pc2 := 34) (tgt := 40) dX3_answeringTo_31 (by with_reducible rfl) (by decide) (by omega) rfl (fun c31 => ?_) (fun c31 => ?_) | refine T_ifeq (pc2 := 34) (tgt := 40) dX3_answeringTo_31 (by decide) rfl (fun c31 => ?_) (fun c31 => ?_)
        refine T_iload_n (pc2 := 35) dX3_answeringTo_34 rfl rfl ?_
        refine T_iconst (pc2 := 36) dX3_answeringTo_35 ic1 rfl ?_
        refine T_iload_n (pc2 := 37) dX3_answeringTo_36 rfl rfl ?_
        refine T_ishl (pc2 := 38) dX3_answeringTo_37 rfl ?_
        refine T_ior (pc2 := 39) dX3_answeringTo_38 rfl ?_
        rw [bm_add (by omega)]
        refine T_istore_n (pc2 := 40) dX3_answeringTo_39 (by decide) rfl ?_
        first | refine N_iinc (pc2 := 43) dX3_answeringTo_40 rfl (by with_reducible rfl) ic1 (by decide) rfl ?_ | refine T_iinc (pc2 := 43) dX3_answeringTo_40 rfl rfl (by decide) rfl ?_
        refine T_goto (tgt := 4) dX3_answeringTo_43 (by decide) ?_
        refine T_sub (lks (i := 0) rfl (lks (i := 1) rfl (lks (i := 2) rfl (lks (i := 3) rfl lk0)))) ?_
        have e : bm (V.ansM note) (j + 1) = bm (V.ansM note) j + 2 ^ j := by
          show bm (V.ansM note) j + _ = _
          simp [Cel.ansM, hp, hjl]
        rw [← e]
        exact ih (j + 1) (by omega)
      · first | refine B_ifeq1 (pc2 := 34) (tgt := 40) dX3_answeringTo_31 (by with_reducible rfl) (by decide) rfl ?_ | refine B_ifeq0 (tgt := 40) dX3_answeringTo_31 (by with_reducible rfl) (by decide) ?_ | refine N_ifeq (pc2 := 34) (tgt := 40) dX3_answeringTo_31 (by with_reducible rfl) (by decide) (by omega) rfl (fun c31 => ?_) (fun c31 => ?_) | refine T_ifeq (pc2 := 34) (tgt := 40) dX3_answeringTo_31 (by decide) rfl (fun c31 => ?_) (fun c31 => ?_)
        first | refine N_iinc (pc2 := 43) dX3_answeringTo_40 rfl (by with_reducible rfl) ic1 (by decide) rfl ?_ | refine T_iinc (pc2 := 43) dX3_answeringTo_40 rfl rfl (by decide) rfl ?_
        refine T_goto (tgt := 4) dX3_answeringTo_43 (by decide) ?_
        refine T_sub (lks (i := 0) rfl (lks (i := 1) rfl (lks (i := 2) rfl (lks (i := 3) rfl lk0)))) ?_
        have e : bm (V.ansM note) (j + 1) = bm (V.ansM note) j := by
          show bm (V.ansM note) j + _ = _
          simp [Cel.ansM, hp]
        rw [← e]
        exact ih (j + 1) (by omega)
theorem c_ansTo {note : Nat} (hc : isC sk n c) (hV : hasC g c V) (hok : okC V) (hn : note < 12) (k : Q (some (.int (nI (bm (V.ansM note) 8)))) (HP sk g n)) : Calls MX3_answeringTo (d + 1) 0 0 [.ref c, .int (nI note)] (HP sk g n) Q := by
  refine Calls.of (by decide +kernel) (Nat.le_of_ble_eq_true rfl) ?_
  refine T_iconst (pc2 := 1) dX3_answeringTo_0 ic0 rfl ?_
  refine T_istore_n (pc2 := 2) dX3_answeringTo_1 (by decide) rfl ?_
  refine T_iconst (pc2 := 3) dX3_answeringTo_2 ic0 rfl ?_
  refine T_istore_n (pc2 := 4) dX3_answeringTo_3 (by decide) rfl ?_
  refine T_sub (lks (i := 0) rfl (lks (i := 1) rfl (lks (i := 2) rfl (lks (i := 3) rfl lk0)))) ?_
  exact ansTo_loop hc hV hok hn k V.J 0 (by omega)
theorem nearTo_loop {p : Nat} (hc : isC sk n c) (hV : hasC g c V) (hok : okC V) (hp8 : p < 8) (k : Q (some (.int (nI (bm (V.nearM p) 8)))) (HP sk g n)) :
    ∀ m j, j + m = V.J → T MX3_nearTo d kc ks 4 [(0, .ref c), (1, .int (nI p)), (2, .int (nI (bm (V.nearM p) j))), (3, .int (nI j))] [] (HP sk g n) Q := by
  have e0 := hV.1
  have er := hV.2.2.1
  have hJ := hok.1
  have hR := hok.2.2.1
  intro m
  induction m with
  | zero =>
    intro j hj
    refine T_iload_n (pc2 := 5) dX3_nearTo_4 rfl rfl ?_
    refine T_aload_n (pc2 := 6) dX3_nearTo_5 rfl rfl ?_
    refine G_getI (pc2 := 9) dX3_nearTo_6 flX3_21 hc.1 rfl (by first | with_reducible assumption | exact gs_eq _ _ _ _ | exact (gs_ne _ _ (by omega)).trans (by with_reducible assumption) | exact (gs_ne _ _ (by omega)).trans (gs_eq _ _ _ _) | exact (gs_ne _ _ (by omega)).trans ((gs_ne _ _ (by omega)).trans (by with_reducible assumption)) | exact (gs_ne _ _ (by omega)).trans ((gs_ne _ _ (by omega)).trans (gs_eq _ _ _ _)) | exact (gs_ne _ _ (by omega)).trans ((gs_ne _ _ (by omega)).trans ((gs_ne _ _ (by omega)).trans (by with_reducible assumption))) | rfl) rfl ?_
    first | refine N_icmpge (pc2 := 12) (tgt := 42) dX3_nearTo_9 (by decide) (by with_reducible rfl) (by with_reducible rfl) (by omega) (by omega) rfl (fun c9 => ?_) (fun c9 => ?_) | refine T_icmpge (pc2 := 12) (tgt := 42) dX3_nearTo_9 (by decide) rfl (fun c9 => ?_) (fun c9 => ?_)
    · refine T_iload_n (pc2 := 43) dX3_nearTo_42 rfl rfl ?_
      refine T_iret dX3_nearTo_43 rfl rfl ?_
      rw [show j = V.J by omega, ← bm_up hJ (fun i h1 _ => by simp [Cel.nearM, Nat.not_lt.mpr h1])]
      exact k
    · exact absurd (by omega) c9
  | succ m ih =>
    intro j hj
    have hjl : j < V.J := by omega
    have e4 := (hV.2.2.2 j hjl).2.2.2.1
    obtain ⟨h1, h2, h3, h4, h5, h6, h7⟩ := hok.2.2.2.1 j hjl
    refine T_iload_n (pc2 := 5) dX3_nearTo_4 rfl rfl ?_
    refine T_aload_n (pc2 := 6) dX3_nearTo_5 rfl rfl ?_
    refine G_getI (pc2 := 9) dX3_nearTo_6 flX3_21 hc.1 rfl (by first | with_reducible assumption | exact gs_eq _ _ _ _ | exact (gs_ne _ _ (by omega)).trans (by with_reducible assumption) | exact (gs_ne _ _ (by omega)).trans (gs_eq _ _ _ _) | exact (gs_ne _ _ (by omega)).trans ((gs_ne _ _ (by omega)).trans (by with_reducible assumption)) | exact (gs_ne _ _ (by omega)).trans ((gs_ne _ _ (by omega)).trans (gs_eq _ _ _ _)) | exact (gs_ne _ _ (by omega)).trans ((gs_ne _ _ (by omega)).trans ((gs_ne _ _ (by omega)).trans (by with_reducible assumption))) | rfl) rfl ?_
    first | refine N_icmpge (pc2 := 12) (tgt := 42) dX3_nearTo_9 (by decide) (by with_reducible rfl) (by with_reducible rfl) (by omega) (by omega) rfl (fun c9 => ?_) (fun c9 => ?_) | refine T_icmpge (pc2 := 12) (tgt := 42) dX3_nearTo_9 (by decide) rfl (fun c9 => ?_) (fun c9 => ?_)
    · exact absurd c9 (by omega)
    · refine T_aload_n (pc2 := 13) dX3_nearTo_12 rfl rfl ?_
      refine G_getR (pc2 := 16) dX3_nearTo_13 flX3_41 hc.1 rfl rfl ?_
      refine T_iload_n (pc2 := 17) dX3_nearTo_16 rfl rfl ?_
      refine G_iald (pc2 := 18) dX3_nearTo_17 hc.2.2.2.2.1 (by omega) (by first | decide | omega) (by first | with_reducible assumption | exact gs_eq _ _ _ _ | exact (gs_ne _ _ (by omega)).trans (by with_reducible assumption) | exact (gs_ne _ _ (by omega)).trans (gs_eq _ _ _ _) | exact (gs_ne _ _ (by omega)).trans ((gs_ne _ _ (by omega)).trans (by with_reducible assumption)) | exact (gs_ne _ _ (by omega)).trans ((gs_ne _ _ (by omega)).trans (gs_eq _ _ _ _)) | exact (gs_ne _ _ (by omega)).trans ((gs_ne _ _ (by omega)).trans ((gs_ne _ _ (by omega)).trans (by with_reducible assumption))) | rfl) rfl ?_
      refine T_iload_n (pc2 := 19) dX3_nearTo_18 rfl rfl ?_
      refine T_isub (pc2 := 20) dX3_nearTo_19 rfl ?_
      refine T_mabs (pc2 := 23) dX3_nearTo_20 mlX3_58 (Nat.le_of_ble_eq_true rfl) rfl ?_
      rw [gap_abs (by omega) (by omega)]
      have hg := gap_lt (show V.pl j < 8 by omega) hp8
      refine T_aload_n (pc2 := 24) dX3_nearTo_23 rfl rfl ?_
      refine G_getI (pc2 := 27) dX3_nearTo_24 flX3_64 hc.1 rfl (by first | with_reducible assumption | exact gs_eq _ _ _ _ | exact (gs_ne _ _ (by omega)).trans (by with_reducible assumption) | exact (gs_ne _ _ (by omega)).trans (gs_eq _ _ _ _) | exact (gs_ne _ _ (by omega)).trans ((gs_ne _ _ (by omega)).trans (by with_reducible assumption)) | exact (gs_ne _ _ (by omega)).trans ((gs_ne _ _ (by omega)).trans (gs_eq _ _ _ _)) | exact (gs_ne _ _ (by omega)).trans ((gs_ne _ _ (by omega)).trans ((gs_ne _ _ (by omega)).trans (by with_reducible assumption))) | rfl) rfl ?_
      first | refine N_icmpgt (pc2 := 30) (tgt := 36) dX3_nearTo_27 (by decide) (by with_reducible rfl) (by with_reducible rfl) (by omega) (by omega) rfl (fun c27 => ?_) (fun c27 => ?_) | refine T_icmpgt (pc2 := 30) (tgt := 36) dX3_nearTo_27 (by decide) rfl (fun c27 => ?_) (fun c27 => ?_)
      · first | refine N_iinc (pc2 := 39) dX3_nearTo_36 rfl (by with_reducible rfl) ic1 (by decide) rfl ?_ | refine T_iinc (pc2 := 39) dX3_nearTo_36 rfl rfl (by decide) rfl ?_
        refine T_goto (tgt := 4) dX3_nearTo_39 (by decide) ?_
        refine T_sub (lks (i := 0) rfl (lks (i := 1) rfl (lks (i := 2) rfl (lks (i := 3) rfl lk0)))) ?_
        have e : bm (V.nearM p) (j + 1) = bm (V.nearM p) j := by
          show bm (V.nearM p) j + _ = _
          simp [Cel.nearM]
          omega
        rw [← e]
        exact ih (j + 1) (by omega)
      · refine T_iload_n (pc2 := 31) dX3_nearTo_30 rfl rfl ?_
        refine T_iconst (pc2 := 32) dX3_nearTo_31 ic1 rfl ?_
        refine T_iload_n (pc2 := 33) dX3_nearTo_32 rfl rfl ?_
        refine T_ishl (pc2 := 34) dX3_nearTo_33 rfl ?_
        refine T_ior (pc2 := 35) dX3_nearTo_34 rfl ?_
        rw [bm_add (by omega)]
        refine T_istore_n (pc2 := 36) dX3_nearTo_35 (by decide) rfl ?_
        first | refine N_iinc (pc2 := 39) dX3_nearTo_36 rfl (by with_reducible rfl) ic1 (by decide) rfl ?_ | refine T_iinc (pc2 := 39) dX3_nearTo_36 rfl rfl (by decide) rfl ?_
        refine T_goto (tgt := 4) dX3_nearTo_39 (by decide) ?_
        refine T_sub (lks (i := 0) rfl (lks (i := 1) rfl (lks (i := 2) rfl (lks (i := 3) rfl lk0)))) ?_
        have e : bm (V.nearM p) (j + 1) = bm (V.nearM p) j + 2 ^ j := by
          show bm (V.nearM p) j + _ = _
          simp [Cel.nearM, hjl]
          omega
        rw [← e]
        exact ih (j + 1) (by omega)
theorem c_nearTo {p : Nat} (hc : isC sk n c) (hV : hasC g c V) (hok : okC V) (hp8 : p < 8) (k : Q (some (.int (nI (bm (V.nearM p) 8)))) (HP sk g n)) : Calls MX3_nearTo d 0 0 [.ref c, .int (nI p)] (HP sk g n) Q := by
  refine Calls.of (by decide +kernel) (Nat.le_of_ble_eq_true rfl) ?_
  refine T_iconst (pc2 := 1) dX3_nearTo_0 ic0 rfl ?_
  refine T_istore_n (pc2 := 2) dX3_nearTo_1 (by decide) rfl ?_
  refine T_iconst (pc2 := 3) dX3_nearTo_2 ic0 rfl ?_
  refine T_istore_n (pc2 := 4) dX3_nearTo_3 (by decide) rfl ?_
  refine T_sub (lks (i := 0) rfl (lks (i := 1) rfl (lks (i := 2) rfl (lks (i := 3) rfl lk0)))) ?_
  exact nearTo_loop hc hV hok hp8 k V.J 0 (by omega)
end EchoM

