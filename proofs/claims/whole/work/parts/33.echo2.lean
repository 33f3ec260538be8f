/-- the echo as a cellar tunes it -/
def tunedE (g : Nat → Nat → Int32) (V : Cel) : Prop := g 35 4 = nI V.J ∧ g 35 3 = nI (bm V.thick 8) ∧ (∀ t, t < 12 → g 36 t = nI (bm (V.ansM t) 8)) ∧ (∀ p, p < V.J → g 37 p = nI (bm (V.nearM p) 8)) ∧ ∀ j, j < V.J → g 38 j = nI (bm (V.hit (V.nt j) (V.pl j)) 8)
theorem tunedE.fr {g g2 : Nat → Nat → Int32} {V : Cel} {lo hi : Nat} (h : tunedE g V) (f : Fr lo hi g g2) (hd : 39 ≤ lo ∨ hi ≤ 35) : tunedE g2 V := by
  unfold tunedE
  rw [f 35 (by omega), f 36 (by omega), f 37 (by omega), f 38 (by omega)]
  exact h
/-- how many of b set j off -/
def Cel.cnt (V : Cel) (b : Nat → Bool) (k j : Nat) : Nat := ct (fun s => b s && V.hit (V.nt s) (V.pl s) j) k
def Cel.brkBy (V : Cel) (b : Nat → Bool) : Nat → Bool := fun j => if V.thick j then decide (2 ≤ V.cnt b V.J j) else decide (1 ≤ V.cnt b V.J j)
def itC (V : Cel) : Nat → (Nat → Bool) → (Nat → Bool) → Nat → (Nat → Bool) × Nat
  | 0, l, _, r => (l, r)
  | f + 1, l, b, r => if bm b 8 = 0 then (l, r) else itC V f (fun j => l j && !b j) (fun j => (l j && !b j) && V.brkBy b j) (r + 1)
def Cel.fst (V : Cel) (note p : Nat) (w : Nat → Bool) : Nat → Bool := fun j => (w j && V.hit note p j) && !V.thick j
def Cel.chn (V : Cel) (note p : Nat) (w : Nat → Bool) : (Nat → Bool) × Nat := itC V 8 w (V.fst note p w) 0
def Cel.brk (V : Cel) (note p : Nat) (w : Nat → Bool) : Nat → Bool := fun j => w j && !(V.chn note p w).1 j
section EchoM2
variable {sk : Nat → SK} {g : Nat → Nat → Int32} {n c : Nat} {V : Cel} {Q : Option Value → SH → Prop} {d kc ks : Nat} {h : SH} {bf im : Nat → Option Nat} {above below : Int64}
theorem c_struck {note p : Nat} (S : Sh sk n bf im above below) (e4 : g 35 4 = nI V.J) (hJ : V.J ≤ 8) (hn : note < 12) (hp : p < V.J) (ea : g 36 note = nI (bm (V.ansM note) 8)) (en : g 37 p = nI (bm (V.nearM p) 8)) (k : Q (some (.int (nI (bm (V.hit note p) 8)))) (HP sk g n)) : Calls MX3_struckFrom (d + 1) 0 0 [.ref 35, .int (nI note), .int (nI p)] (HP sk g n) Q := by
  refine Calls.of (by decide +kernel) (Nat.le_of_ble_eq_true rfl) ?_
  refine T_iload_n (pc2 := 1) dX3_struckFrom_0 rfl rfl ?_
  refine T_iconst (pc2 := 2) dX3_struckFrom_1 ic0 rfl ?_
  refine T_bipush (pc2 := 4) dX3_struckFrom_2 bp11 rfl ?_
  refine C_SN3 (pc2 := 7) (mc := 0) (ms := 0) dX3_struckFrom_4 csX7_within mnX3_70 (Nat.le_of_ble_eq_true rfl) rfl ?_
  refine c_withinN (by omega) (by decide) (by decide) (fun _ _ => ?_) (fun z => absurd ⟨by omega, by omega⟩ z)
  first | refine B_ifeq1 (pc2 := 10) (tgt := 28) dX3_struckFrom_7 (by with_reducible rfl) (by decide) rfl ?_ | refine B_ifeq0 (tgt := 28) dX3_struckFrom_7 (by with_reducible rfl) (by decide) ?_ | refine N_ifeq (pc2 := 10) (tgt := 28) dX3_struckFrom_7 (by with_reducible rfl) (by decide) (by omega) rfl (fun c7 => ?_) (fun c7 => ?_) | refine T_ifeq (pc2 := 10) (tgt := 28) dX3_struckFrom_7 (by decide) rfl (fun c7 => ?_) (fun c7 => ?_)
  refine T_iload_n (pc2 := 11) dX3_struckFrom_10 rfl rfl ?_
  refine T_iconst (pc2 := 12) dX3_struckFrom_11 ic0 rfl ?_
  refine T_aload_n (pc2 := 13) dX3_struckFrom_12 rfl rfl ?_
  refine G_getI (pc2 := 16) dX3_struckFrom_13 flX3_27 (sh35 S) rfl (by first | with_reducible assumption | exact gs_eq _ _ _ _ | exact (gs_ne _ _ (by omega)).trans (by with_reducible assumption) | exact (gs_ne _ _ (by omega)).trans (gs_eq _ _ _ _) | exact (gs_ne _ _ (by omega)).trans ((gs_ne _ _ (by omega)).trans (by with_reducible assumption)) | exact (gs_ne _ _ (by omega)).trans ((gs_ne _ _ (by omega)).trans (gs_eq _ _ _ _)) | exact (gs_ne _ _ (by omega)).trans ((gs_ne _ _ (by omega)).trans ((gs_ne _ _ (by omega)).trans (by with_reducible assumption))) | rfl) rfl ?_
  refine T_iconst (pc2 := 17) dX3_struckFrom_16 ic1 rfl ?_
  first | refine N_isub (pc2 := 18) dX3_struckFrom_17 (by with_reducible rfl) (by with_reducible rfl) (by omega) rfl ?_ | refine T_isub (pc2 := 18) dX3_struckFrom_17 rfl ?_
  refine C_SN3 (pc2 := 21) (mc := 0) (ms := 0) dX3_struckFrom_18 csX7_within mnX3_70 (Nat.le_of_ble_eq_true rfl) rfl ?_
  refine c_withinN (by omega) (by decide) (by omega) (fun _ _ => ?_) (fun z => absurd ⟨by omega, by omega⟩ z)
  first | refine B_ifeq1 (pc2 := 24) (tgt := 28) dX3_struckFrom_21 (by with_reducible rfl) (by decide) rfl ?_ | refine B_ifeq0 (tgt := 28) dX3_struckFrom_21 (by with_reducible rfl) (by decide) ?_ | refine N_ifeq (pc2 := 24) (tgt := 28) dX3_struckFrom_21 (by with_reducible rfl) (by decide) (by omega) rfl (fun c21 => ?_) (fun c21 => ?_) | refine T_ifeq (pc2 := 24) (tgt := 28) dX3_struckFrom_21 (by decide) rfl (fun c21 => ?_) (fun c21 => ?_)
  refine T_iconst (pc2 := 25) dX3_struckFrom_24 ic1 rfl ?_
  refine T_goto (tgt := 29) dX3_struckFrom_25 (by decide) ?_
  refine T_istore_n (pc2 := 30) dX3_struckFrom_29 (by decide) rfl ?_
  refine T_iload_n (pc2 := 31) dX3_struckFrom_30 rfl rfl ?_
  first | refine B_ifeq1 (pc2 := 34) (tgt := 50) dX3_struckFrom_31 (by with_reducible rfl) (by decide) rfl ?_ | refine B_ifeq0 (tgt := 50) dX3_struckFrom_31 (by with_reducible rfl) (by decide) ?_ | refine N_ifeq (pc2 := 34) (tgt := 50) dX3_struckFrom_31 (by with_reducible rfl) (by decide) (by omega) rfl (fun c31 => ?_) (fun c31 => ?_) | refine T_ifeq (pc2 := 34) (tgt := 50) dX3_struckFrom_31 (by decide) rfl (fun c31 => ?_) (fun c31 => ?_)
  refine T_aload_n (pc2 := 35) dX3_struckFrom_34 rfl rfl ?_
  refine G_getR (pc2 := 38) dX3_struckFrom_35 flX3_9 (sh35 S) rfl rfl ?_
  refine T_iload_n (pc2 := 39) dX3_struckFrom_38 rfl rfl ?_
  refine G_iald (pc2 := 40) dX3_struckFrom_39 (sh36 S) (by omega) (by first | decide | omega) (by first | with_reducible assumption | exact gs_eq _ _ _ _ | exact (gs_ne _ _ (by omega)).trans (by with_reducible assumption) | exact (gs_ne _ _ (by omega)).trans (gs_eq _ _ _ _) | exact (gs_ne _ _ (by omega)).trans ((gs_ne _ _ (by omega)).trans (by with_reducible assumption)) | exact (gs_ne _ _ (by omega)).trans ((gs_ne _ _ (by omega)).trans (gs_eq _ _ _ _)) | exact (gs_ne _ _ (by omega)).trans ((gs_ne _ _ (by omega)).trans ((gs_ne _ _ (by omega)).trans (by with_reducible assumption))) | rfl) rfl ?_
  refine T_aload_n (pc2 := 41) dX3_struckFrom_40 rfl rfl ?_
  refine G_getR (pc2 := 44) dX3_struckFrom_41 flX3_15 (sh35 S) rfl rfl ?_
  refine T_iload_n (pc2 := 45) dX3_struckFrom_44 rfl rfl ?_
  refine G_iald (pc2 := 46) dX3_struckFrom_45 (sh37 S) (by omega) (by first | decide | omega) (by first | with_reducible assumption | exact gs_eq _ _ _ _ | exact (gs_ne _ _ (by omega)).trans (by with_reducible assumption) | exact (gs_ne _ _ (by omega)).trans (gs_eq _ _ _ _) | exact (gs_ne _ _ (by omega)).trans ((gs_ne _ _ (by omega)).trans (by with_reducible assumption)) | exact (gs_ne _ _ (by omega)).trans ((gs_ne _ _ (by omega)).trans (gs_eq _ _ _ _)) | exact (gs_ne _ _ (by omega)).trans ((gs_ne _ _ (by omega)).trans ((gs_ne _ _ (by omega)).trans (by with_reducible assumption))) | rfl) rfl ?_
  refine T_iand (pc2 := 47) dX3_struckFrom_46 rfl ?_
  refine T_goto (tgt := 51) dX3_struckFrom_47 (by decide) ?_
  rw [bm_and]
  refine T_iret dX3_struckFrom_51 rfl rfl ?_
  exact k
theorem brkBy_loop {b : Nat → Bool} (S : Sh sk n bf im above below) (hE : tunedE g V) (hJ : V.J ≤ 8) (k : Q (some (.int (nI (bm (V.brkBy b) 8)))) (HP sk g n)) :
    ∀ m j, j + m = V.J → T MX3_breakingBy (d + 1) kc ks 7 [(0, .ref 35), (1, .int (nI (bm b 8))), (2, .int (nI (bm (fun i => decide (1 ≤ V.cnt b j i)) 8))), (3, .int (nI (bm (fun i => decide (2 ≤ V.cnt b j i)) 8))), (4, .int (nI j))] [] (HP sk g n) Q := by
  have e4 := hE.1
  have e3 := hE.2.1
  intro m
  induction m with
  | zero =>
    intro j hj
    refine T_iload (pc2 := 9) dX3_breakingBy_7 rfl rfl ?_
    refine T_aload_n (pc2 := 10) dX3_breakingBy_9 rfl rfl ?_
    refine G_getI (pc2 := 13) dX3_breakingBy_10 flX3_27 (sh35 S) rfl (by first | with_reducible assumption | exact gs_eq _ _ _ _ | exact (gs_ne _ _ (by omega)).trans (by with_reducible assumption) | exact (gs_ne _ _ (by omega)).trans (gs_eq _ _ _ _) | exact (gs_ne _ _ (by omega)).trans ((gs_ne _ _ (by omega)).trans (by with_reducible assumption)) | exact (gs_ne _ _ (by omega)).trans ((gs_ne _ _ (by omega)).trans (gs_eq _ _ _ _)) | exact (gs_ne _ _ (by omega)).trans ((gs_ne _ _ (by omega)).trans ((gs_ne _ _ (by omega)).trans (by with_reducible assumption))) | rfl) rfl ?_
    first | refine N_icmpge (pc2 := 16) (tgt := 53) dX3_breakingBy_13 (by decide) (by with_reducible rfl) (by with_reducible rfl) (by omega) (by omega) rfl (fun c13 => ?_) (fun c13 => ?_) | refine T_icmpge (pc2 := 16) (tgt := 53) dX3_breakingBy_13 (by decide) rfl (fun c13 => ?_) (fun c13 => ?_)
    · refine T_iload_n (pc2 := 54) dX3_breakingBy_53 rfl rfl ?_
      refine T_aload_n (pc2 := 55) dX3_breakingBy_54 rfl rfl ?_
      refine G_getI (pc2 := 58) dX3_breakingBy_55 flX3_28 (sh35 S) rfl (by first | with_reducible assumption | exact gs_eq _ _ _ _ | exact (gs_ne _ _ (by omega)).trans (by with_reducible assumption) | exact (gs_ne _ _ (by omega)).trans (gs_eq _ _ _ _) | exact (gs_ne _ _ (by omega)).trans ((gs_ne _ _ (by omega)).trans (by with_reducible assumption)) | exact (gs_ne _ _ (by omega)).trans ((gs_ne _ _ (by omega)).trans (gs_eq _ _ _ _)) | exact (gs_ne _ _ (by omega)).trans ((gs_ne _ _ (by omega)).trans ((gs_ne _ _ (by omega)).trans (by with_reducible assumption))) | rfl) rfl ?_
      refine T_iconst (pc2 := 59) dX3_breakingBy_58 icm1 rfl ?_
      refine T_ixor (pc2 := 60) dX3_breakingBy_59 rfl ?_
      refine T_iand (pc2 := 61) dX3_breakingBy_60 rfl ?_
      rw [bm_not]
      refine T_iload_n (pc2 := 62) dX3_breakingBy_61 rfl rfl ?_
      refine T_aload_n (pc2 := 63) dX3_breakingBy_62 rfl rfl ?_
      refine G_getI (pc2 := 66) dX3_breakingBy_63 flX3_28 (sh35 S) rfl (by first | with_reducible assumption | exact gs_eq _ _ _ _ | exact (gs_ne _ _ (by omega)).trans (by with_reducible assumption) | exact (gs_ne _ _ (by omega)).trans (gs_eq _ _ _ _) | exact (gs_ne _ _ (by omega)).trans ((gs_ne _ _ (by omega)).trans (by with_reducible assumption)) | exact (gs_ne _ _ (by omega)).trans ((gs_ne _ _ (by omega)).trans (gs_eq _ _ _ _)) | exact (gs_ne _ _ (by omega)).trans ((gs_ne _ _ (by omega)).trans ((gs_ne _ _ (by omega)).trans (by with_reducible assumption))) | rfl) rfl ?_
      refine T_iand (pc2 := 67) dX3_breakingBy_66 rfl ?_
      rw [bm_and]
      refine T_ior (pc2 := 68) dX3_breakingBy_67 rfl ?_
      rw [bm_or]
      refine T_iret dX3_breakingBy_68 rfl rfl ?_
      have e : bm (fun i => (decide (1 ≤ V.cnt b j i) && !V.thick i) || (decide (2 ≤ V.cnt b j i) && V.thick i)) 8 = bm (V.brkBy b) 8 := by
        apply bm_cg
        intro i _
        unfold Cel.brkBy
        rw [show j = V.J by omega]
        by_cases ht : V.thick i <;> simp [ht]
      rw [e]
      exact k
    · exact absurd (by omega) c13
  | succ m ih =>
    intro j hj
    have hjl : j < V.J := by omega
    have e8 := hE.2.2.2.2 j hjl
    refine T_iload (pc2 := 9) dX3_breakingBy_7 rfl rfl ?_
    refine T_aload_n (pc2 := 10) dX3_breakingBy_9 rfl rfl ?_
    refine G_getI (pc2 := 13) dX3_breakingBy_10 flX3_27 (sh35 S) rfl (by first | with_reducible assumption | exact gs_eq _ _ _ _ | exact (gs_ne _ _ (by omega)).trans (by with_reducible assumption) | exact (gs_ne _ _ (by omega)).trans (gs_eq _ _ _ _) | exact (gs_ne _ _ (by omega)).trans ((gs_ne _ _ (by omega)).trans (by with_reducible assumption)) | exact (gs_ne _ _ (by omega)).trans ((gs_ne _ _ (by omega)).trans (gs_eq _ _ _ _)) | exact (gs_ne _ _ (by omega)).trans ((gs_ne _ _ (by omega)).trans ((gs_ne _ _ (by omega)).trans (by with_reducible assumption))) | rfl) rfl ?_
    first | refine N_icmpge (pc2 := 16) (tgt := 53) dX3_breakingBy_13 (by decide) (by with_reducible rfl) (by with_reducible rfl) (by omega) (by omega) rfl (fun c13 => ?_) (fun c13 => ?_) | refine T_icmpge (pc2 := 16) (tgt := 53) dX3_breakingBy_13 (by decide) rfl (fun c13 => ?_) (fun c13 => ?_)
    · exact absurd c13 (by omega)
    · refine T_iload_n (pc2 := 17) dX3_breakingBy_16 rfl rfl ?_
      refine T_iload (pc2 := 19) dX3_breakingBy_17 rfl rfl ?_
      refine C_SN2 (pc2 := 22) (mc := 0) (ms := 0) dX3_breakingBy_19 csX7_has mnX3_80 (Nat.le_of_ble_eq_true rfl) rfl ?_
      refine c_has (by decide) (by omega) (fun hp => ?_) (fun hp => ?_)
      · first | refine B_ifeq1 (pc2 := 25) (tgt := 47) dX3_breakingBy_22 (by with_reducible rfl) (by decide) rfl ?_ | refine B_ifeq0 (tgt := 47) dX3_breakingBy_22 (by with_reducible rfl) (by decide) ?_ | refine N_ifeq (pc2 := 25) (tgt := 47) dX3_breakingBy_22 (by with_reducible rfl) (by decide) (by omega) rfl (fun c22 => ?_) (fun c22 => ?_) | refine T_ifeq (pc2 := 25) (tgt := 47) dX3_breakingBy_22 (by decide) rfl (fun c22 => ?_) (fun c22 => ?_)
        refine T_iload_n (pc2 := 26) dX3_breakingBy_25 rfl rfl ?_
        refine T_iload_n (pc2 := 27) dX3_breakingBy_26 rfl rfl ?_
        refine T_aload_n (pc2 := 28) dX3_breakingBy_27 rfl rfl ?_
        refine G_getR (pc2 := 31) dX3_breakingBy_28 flX3_18 (sh35 S) rfl rfl ?_
        refine T_iload (pc2 := 33) dX3_breakingBy_31 rfl rfl ?_
        refine G_iald (pc2 := 34) dX3_breakingBy_33 (sh38 S) (by omega) (by first | decide | omega) (by first | with_reducible assumption | exact gs_eq _ _ _ _ | exact (gs_ne _ _ (by omega)).trans (by with_reducible assumption) | exact (gs_ne _ _ (by omega)).trans (gs_eq _ _ _ _) | exact (gs_ne _ _ (by omega)).trans ((gs_ne _ _ (by omega)).trans (by with_reducible assumption)) | exact (gs_ne _ _ (by omega)).trans ((gs_ne _ _ (by omega)).trans (gs_eq _ _ _ _)) | exact (gs_ne _ _ (by omega)).trans ((gs_ne _ _ (by omega)).trans ((gs_ne _ _ (by omega)).trans (by with_reducible assumption))) | rfl) rfl ?_
        refine T_iand (pc2 := 35) dX3_breakingBy_34 rfl ?_
        rw [bm_and]
        refine T_ior (pc2 := 36) dX3_breakingBy_35 rfl ?_
        rw [bm_or]
        refine T_istore_n (pc2 := 37) dX3_breakingBy_36 (by decide) rfl ?_
        refine T_iload_n (pc2 := 38) dX3_breakingBy_37 rfl rfl ?_
        refine T_aload_n (pc2 := 39) dX3_breakingBy_38 rfl rfl ?_
        refine G_getR (pc2 := 42) dX3_breakingBy_39 flX3_18 (sh35 S) rfl rfl ?_
        refine T_iload (pc2 := 44) dX3_breakingBy_42 rfl rfl ?_
        refine G_iald (pc2 := 45) dX3_breakingBy_44 (sh38 S) (by omega) (by first | decide | omega) (by first | with_reducible assumption | exact gs_eq _ _ _ _ | exact (gs_ne _ _ (by omega)).trans (by with_reducible assumption) | exact (gs_ne _ _ (by omega)).trans (gs_eq _ _ _ _) | exact (gs_ne _ _ (by omega)).trans ((gs_ne _ _ (by omega)).trans (by with_reducible assumption)) | exact (gs_ne _ _ (by omega)).trans ((gs_ne _ _ (by omega)).trans (gs_eq _ _ _ _)) | exact (gs_ne _ _ (by omega)).trans ((gs_ne _ _ (by omega)).trans ((gs_ne _ _ (by omega)).trans (by with_reducible assumption))) | rfl) rfl ?_
        refine T_ior (pc2 := 46) dX3_breakingBy_45 rfl ?_
        rw [bm_or]
        refine T_istore_n (pc2 := 47) dX3_breakingBy_46 (by decide) rfl ?_
        first | refine N_iinc (pc2 := 50) dX3_breakingBy_47 rfl (by with_reducible rfl) ic1 (by decide) rfl ?_ | refine T_iinc (pc2 := 50) dX3_breakingBy_47 rfl rfl (by decide) rfl ?_
        refine T_goto (tgt := 7) dX3_breakingBy_50 (by decide) ?_
        refine T_sub (lks (i := 0) rfl (lks (i := 1) rfl (lks (i := 2) rfl (lks (i := 3) rfl (lks (i := 4) rfl lk0))))) ?_
        have q1 : bm (fun i => decide (1 ≤ V.cnt b j i) || V.hit (V.nt j) (V.pl j) i) 8 = bm (fun i => decide (1 ≤ V.cnt b (j + 1) i)) 8 := by
          apply bm_cg
          intro i _
          show _ = decide (1 ≤ V.cnt b j i + (if (b j && V.hit (V.nt j) (V.pl j) i) = true then 1 else 0))
          rw [hp]
          by_cases hh : V.hit (V.nt j) (V.pl j) i <;> simp [hh]
        have q2 : bm (fun i => decide (2 ≤ V.cnt b j i) || (decide (1 ≤ V.cnt b j i) && V.hit (V.nt j) (V.pl j) i)) 8 = bm (fun i => decide (2 ≤ V.cnt b (j + 1) i)) 8 := by
          apply bm_cg
          intro i _
          show _ = decide (2 ≤ V.cnt b j i + (if (b j && V.hit (V.nt j) (V.pl j) i) = true then 1 else 0))
          rw [hp]
          by_cases hh : V.hit (V.nt j) (V.pl j) i
          · simp [hh]
            omega
          · simp [hh]
        rw [q1, q2]
        exact ih (j + 1) (by omega)
      · first | refine B_ifeq1 (pc2 := 25) (tgt := 47) dX3_breakingBy_22 (by with_reducible rfl) (by decide) rfl ?_ | refine B_ifeq0 (tgt := 47) dX3_breakingBy_22 (by with_reducible rfl) (by decide) ?_ | refine N_ifeq (pc2 := 25) (tgt := 47) dX3_breakingBy_22 (by with_reducible rfl) (by decide) (by omega) rfl (fun c22 => ?_) (fun c22 => ?_) | refine T_ifeq (pc2 := 25) (tgt := 47) dX3_breakingBy_22 (by decide) rfl (fun c22 => ?_) (fun c22 => ?_)
        first | refine N_iinc (pc2 := 50) dX3_breakingBy_47 rfl (by with_reducible rfl) ic1 (by decide) rfl ?_ | refine T_iinc (pc2 := 50) dX3_breakingBy_47 rfl rfl (by decide) rfl ?_
        refine T_goto (tgt := 7) dX3_breakingBy_50 (by decide) ?_
        refine T_sub (lks (i := 0) rfl (lks (i := 1) rfl (lks (i := 2) rfl (lks (i := 3) rfl (lks (i := 4) rfl lk0))))) ?_
        have q : ∀ i, V.cnt b (j + 1) i = V.cnt b j i := by
          intro i
          show V.cnt b j i + _ = _
          simp [hp]
        have := ih (j + 1) (by omega)
        simp only [q] at this
        exact this
theorem c_brkBy {b : Nat → Bool} (S : Sh sk n bf im above below) (hE : tunedE g V) (hJ : V.J ≤ 8) (k : Q (some (.int (nI (bm (V.brkBy b) 8)))) (HP sk g n)) : Calls MX3_breakingBy (d + 1) 0 0 [.ref 35, .int (nI (bm b 8))] (HP sk g n) Q := by
  refine Calls.of (by decide +kernel) (Nat.le_of_ble_eq_true rfl) ?_
  refine T_iconst (pc2 := 1) dX3_breakingBy_0 ic0 rfl ?_
  refine T_istore_n (pc2 := 2) dX3_breakingBy_1 (by decide) rfl ?_
  refine T_iconst (pc2 := 3) dX3_breakingBy_2 ic0 rfl ?_
  refine T_istore_n (pc2 := 4) dX3_breakingBy_3 (by decide) rfl ?_
  refine T_iconst (pc2 := 5) dX3_breakingBy_4 ic0 rfl ?_
  refine T_istore (pc2 := 7) dX3_breakingBy_5 (by decide) rfl ?_
  refine T_sub (lks (i := 0) rfl (lks (i := 1) rfl (lks (i := 2) rfl (lks (i := 3) rfl (lks (i := 4) rfl lk0))))) ?_
  have := brkBy_loop (d := d) (kc := 0) (ks := 0) S hE hJ k V.J 0 (by omega)
  rw [show bm (fun i => decide (1 ≤ V.cnt b 0 i)) 8 = 0 from bm_0 8, show bm (fun i => decide (2 ≤ V.cnt b 0 i)) 8 = 0 from bm_0 8] at this
  exact this
theorem broken_loop {note p : Nat} {w : Nat → Bool} (S : Sh sk n bf im above below) (hJ : V.J ≤ 8) (res : (Nat → Bool) × Nat) (k : ∀ g2, tunedE g2 V → g2 35 5 = nI res.2 → Fr 35 36 g g2 → Q (some (.int (nI (bm (fun j => w j && !res.1 j) 8)))) (HP sk g2 n)) :
    ∀ f l b r g2, r + f = 8 → itC V f l b r = res → tunedE g2 V → g2 35 5 = nI r → Fr 35 36 g g2 → T MX3_broken (d + 2) kc ks 26 [(0, .ref 35), (1, .int (nI note)), (2, .int (nI p)), (3, .int (nI (bm w 8))), (4, .int (nI (bm l 8))), (5, .int (nI (bm b 8)))] [] (HP sk g2 n) Q := by
  intro f
  have hlt : ∀ b, bm b 8 < 2 ^ 31 := fun b => bm_le b (by decide)
  induction f with
  | zero =>
    intro l b r g2 hr hi hE e5 hf
    have e9 : T MX3_broken (d + 2) kc ks 73 [(0, .ref 35), (1, .int (nI note)), (2, .int (nI p)), (3, .int (nI (bm w 8))), (4, .int (nI (bm l 8))), (5, .int (nI (bm b 8)))] [] (HP sk g2 n) Q := by
      refine T_iload_n (pc2 := 74) dX3_broken_73 rfl rfl ?_
      refine T_iload (pc2 := 76) dX3_broken_74 rfl rfl ?_
      refine T_iconst (pc2 := 77) dX3_broken_76 icm1 rfl ?_
      refine T_ixor (pc2 := 78) dX3_broken_77 rfl ?_
      refine T_iand (pc2 := 79) dX3_broken_78 rfl ?_
      rw [bm_not]
      refine T_iret dX3_broken_79 rfl rfl ?_
      subst hi
      exact k g2 hE e5 hf
    have := hlt b
    refine T_iload (pc2 := 28) dX3_broken_26 rfl rfl ?_
    first | refine B_ifeq1 (pc2 := 31) (tgt := 73) dX3_broken_28 (by with_reducible rfl) (by decide) rfl ?_ | refine B_ifeq0 (tgt := 73) dX3_broken_28 (by with_reducible rfl) (by decide) ?_ | refine N_ifeq (pc2 := 31) (tgt := 73) dX3_broken_28 (by with_reducible rfl) (by decide) (by omega) rfl (fun c28 => ?_) (fun c28 => ?_) | refine T_ifeq (pc2 := 31) (tgt := 73) dX3_broken_28 (by decide) rfl (fun c28 => ?_) (fun c28 => ?_)
    · exact e9
    · refine T_aload_n (pc2 := 32) dX3_broken_31 rfl rfl ?_
      refine G_getI (pc2 := 35) dX3_broken_32 flX3_74 (sh35 S) rfl (by first | with_reducible assumption | exact gs_eq _ _ _ _ | exact (gs_ne _ _ (by omega)).trans (by with_reducible assumption) | exact (gs_ne _ _ (by omega)).trans (gs_eq _ _ _ _) | exact (gs_ne _ _ (by omega)).trans ((gs_ne _ _ (by omega)).trans (by with_reducible assumption)) | exact (gs_ne _ _ (by omega)).trans ((gs_ne _ _ (by omega)).trans (gs_eq _ _ _ _)) | exact (gs_ne _ _ (by omega)).trans ((gs_ne _ _ (by omega)).trans ((gs_ne _ _ (by omega)).trans (by with_reducible assumption))) | rfl) rfl ?_
      refine T_bipush (pc2 := 37) dX3_broken_35 bp8 rfl ?_
      first | refine N_icmpge (pc2 := 40) (tgt := 73) dX3_broken_37 (by decide) (by with_reducible rfl) (by with_reducible rfl) (by omega) (by omega) rfl (fun c37 => ?_) (fun c37 => ?_) | refine T_icmpge (pc2 := 40) (tgt := 73) dX3_broken_37 (by decide) rfl (fun c37 => ?_) (fun c37 => ?_)
      · exact e9
      · exact absurd (by omega) c37
  | succ f ih =>
    intro l b r g2 hr hi hE e5 hf
    have := hlt b
    refine T_iload (pc2 := 28) dX3_broken_26 rfl rfl ?_
    first | refine B_ifeq1 (pc2 := 31) (tgt := 73) dX3_broken_28 (by with_reducible rfl) (by decide) rfl ?_ | refine B_ifeq0 (tgt := 73) dX3_broken_28 (by with_reducible rfl) (by decide) ?_ | refine N_ifeq (pc2 := 31) (tgt := 73) dX3_broken_28 (by with_reducible rfl) (by decide) (by omega) rfl (fun c28 => ?_) (fun c28 => ?_) | refine T_ifeq (pc2 := 31) (tgt := 73) dX3_broken_28 (by decide) rfl (fun c28 => ?_) (fun c28 => ?_)
    · refine T_iload_n (pc2 := 74) dX3_broken_73 rfl rfl ?_
      refine T_iload (pc2 := 76) dX3_broken_74 rfl rfl ?_
      refine T_iconst (pc2 := 77) dX3_broken_76 icm1 rfl ?_
      refine T_ixor (pc2 := 78) dX3_broken_77 rfl ?_
      refine T_iand (pc2 := 79) dX3_broken_78 rfl ?_
      rw [bm_not]
      refine T_iret dX3_broken_79 rfl rfl ?_
      have : res = (l, r) := by
        rw [← hi]
        simp [itC, c28]
      subst this
      exact k g2 hE e5 hf
    · refine T_aload_n (pc2 := 32) dX3_broken_31 rfl rfl ?_
      refine G_getI (pc2 := 35) dX3_broken_32 flX3_74 (sh35 S) rfl (by first | with_reducible assumption | exact gs_eq _ _ _ _ | exact (gs_ne _ _ (by omega)).trans (by with_reducible assumption) | exact (gs_ne _ _ (by omega)).trans (gs_eq _ _ _ _) | exact (gs_ne _ _ (by omega)).trans ((gs_ne _ _ (by omega)).trans (by with_reducible assumption)) | exact (gs_ne _ _ (by omega)).trans ((gs_ne _ _ (by omega)).trans (gs_eq _ _ _ _)) | exact (gs_ne _ _ (by omega)).trans ((gs_ne _ _ (by omega)).trans ((gs_ne _ _ (by omega)).trans (by with_reducible assumption))) | rfl) rfl ?_
      refine T_bipush (pc2 := 37) dX3_broken_35 bp8 rfl ?_
      first | refine N_icmpge (pc2 := 40) (tgt := 73) dX3_broken_37 (by decide) (by with_reducible rfl) (by with_reducible rfl) (by omega) (by omega) rfl (fun c37 => ?_) (fun c37 => ?_) | refine T_icmpge (pc2 := 40) (tgt := 73) dX3_broken_37 (by decide) rfl (fun c37 => ?_) (fun c37 => ?_)
      · exact absurd c37 (by omega)
      · have hE2 : tunedE (gset g2 35 5 (nI (r + 1))) V := by
          unfold tunedE
          rw [gs_ne _ _ (by omega), gs_ne _ _ (by omega), gs_row (by omega), gs_row (by omega), gs_row (by omega)]
          exact hE
        refine T_aload_n (pc2 := 41) dX3_broken_40 rfl rfl ?_
        refine T_dup (pc2 := 42) dX3_broken_41 rfl rfl ?_
        refine G_getI (pc2 := 45) dX3_broken_42 flX3_74 (sh35 S) rfl (by first | with_reducible assumption | exact gs_eq _ _ _ _ | exact (gs_ne _ _ (by omega)).trans (by with_reducible assumption) | exact (gs_ne _ _ (by omega)).trans (gs_eq _ _ _ _) | exact (gs_ne _ _ (by omega)).trans ((gs_ne _ _ (by omega)).trans (by with_reducible assumption)) | exact (gs_ne _ _ (by omega)).trans ((gs_ne _ _ (by omega)).trans (gs_eq _ _ _ _)) | exact (gs_ne _ _ (by omega)).trans ((gs_ne _ _ (by omega)).trans ((gs_ne _ _ (by omega)).trans (by with_reducible assumption))) | rfl) rfl ?_
        refine T_iconst (pc2 := 46) dX3_broken_45 ic1 rfl ?_
        first | refine N_iadd (pc2 := 47) dX3_broken_46 (by with_reducible rfl) (by with_reducible rfl) rfl ?_ | refine T_iadd (pc2 := 47) dX3_broken_46 rfl ?_
        refine G_putI (pc2 := 50) dX3_broken_47 flX3_74 (sh35 S) rfl rfl rfl rfl ?_
        refine T_iload (pc2 := 52) dX3_broken_50 rfl rfl ?_
        refine T_iload (pc2 := 54) dX3_broken_52 rfl rfl ?_
        refine T_iconst (pc2 := 55) dX3_broken_54 icm1 rfl ?_
        refine T_ixor (pc2 := 56) dX3_broken_55 rfl ?_
        refine T_iand (pc2 := 57) dX3_broken_56 rfl ?_
        rw [bm_not]
        refine T_istore (pc2 := 59) dX3_broken_57 (by decide) rfl ?_
        refine T_iload (pc2 := 61) dX3_broken_59 rfl rfl ?_
        refine T_aload_n (pc2 := 62) dX3_broken_61 rfl rfl ?_
        refine T_iload (pc2 := 64) dX3_broken_62 rfl rfl ?_
        refine C_V1 (pc2 := 67) (mc := 0) (ms := 0) dX3_broken_64 cvX3_breakingBy mlX3_77 (isO.h (sh35 S) _) (Nat.le_of_ble_eq_true rfl) rfl ?_
        refine c_brkBy S hE2 hJ ?_
        refine T_iand (pc2 := 68) dX3_broken_67 rfl ?_
        rw [bm_and]
        refine T_istore (pc2 := 70) dX3_broken_68 (by decide) rfl ?_
        refine T_goto (tgt := 26) dX3_broken_70 (by decide) ?_
        refine T_sub (lks (i := 0) rfl (lks (i := 1) rfl (lks (i := 2) rfl (lks (i := 3) rfl (lks (i := 4) rfl (lks (i := 5) rfl lk0)))))) ?_
        refine ih _ _ (r + 1) _ (by omega) ?_ hE2 (gs_eq _ _ _ _) (hf.st (by omega) (by omega))
        rw [← hi]
        simp [itC, c28]
theorem c_broken {note p : Nat} {w : Nat → Bool} (S : Sh sk n bf im above below) (hE : tunedE g V) (hJ : V.J ≤ 8) (hn : note < 12) (hp : p < V.J) (k : ∀ g2, tunedE g2 V → g2 35 5 = nI (V.chn note p w).2 → Fr 35 36 g g2 → Q (some (.int (nI (bm (V.brk note p w) 8)))) (HP sk g2 n)) : Calls MX3_broken (d + 2) 0 0 [.ref 35, .int (nI note), .int (nI p), .int (nI (bm w 8))] (HP sk g n) Q := by
  refine Calls.of (by decide +kernel) (Nat.le_of_ble_eq_true rfl) ?_
  refine T_iload_n (pc2 := 1) dX3_broken_0 rfl rfl ?_
  refine T_istore (pc2 := 3) dX3_broken_1 (by decide) rfl ?_
  refine T_iload (pc2 := 5) dX3_broken_3 rfl rfl ?_
  refine T_aload_n (pc2 := 6) dX3_broken_5 rfl rfl ?_
  refine T_iload_n (pc2 := 7) dX3_broken_6 rfl rfl ?_
  refine T_iload_n (pc2 := 8) dX3_broken_7 rfl rfl ?_
  refine C_V2 (pc2 := 11) (mc := 0) (ms := 0) dX3_broken_8 cvX3_struckFrom mlX3_44 (isO.h (sh35 S) _) (Nat.le_of_ble_eq_true rfl) rfl ?_
  refine c_struck S hE.1 hJ hn hp (hE.2.2.1 _ hn) (hE.2.2.2.1 _ hp) ?_
  have e3 := hE.2.1
  refine T_iand (pc2 := 12) dX3_broken_11 rfl ?_
  rw [bm_and]
  refine T_aload_n (pc2 := 13) dX3_broken_12 rfl rfl ?_
  refine G_getI (pc2 := 16) dX3_broken_13 flX3_28 (sh35 S) rfl (by first | with_reducible assumption | exact gs_eq _ _ _ _ | exact (gs_ne _ _ (by omega)).trans (by with_reducible assumption) | exact (gs_ne _ _ (by omega)).trans (gs_eq _ _ _ _) | exact (gs_ne _ _ (by omega)).trans ((gs_ne _ _ (by omega)).trans (by with_reducible assumption)) | exact (gs_ne _ _ (by omega)).trans ((gs_ne _ _ (by omega)).trans (gs_eq _ _ _ _)) | exact (gs_ne _ _ (by omega)).trans ((gs_ne _ _ (by omega)).trans ((gs_ne _ _ (by omega)).trans (by with_reducible assumption))) | rfl) rfl ?_
  refine T_iconst (pc2 := 17) dX3_broken_16 icm1 rfl ?_
  refine T_ixor (pc2 := 18) dX3_broken_17 rfl ?_
  refine T_iand (pc2 := 19) dX3_broken_18 rfl ?_
  rw [bm_not]
  refine T_istore (pc2 := 21) dX3_broken_19 (by decide) rfl ?_
  refine T_aload_n (pc2 := 22) dX3_broken_21 rfl rfl ?_
  refine T_iconst (pc2 := 23) dX3_broken_22 ic0 rfl ?_
  refine G_putI (pc2 := 26) dX3_broken_23 flX3_74 (sh35 S) rfl rfl rfl rfl ?_
  refine T_sub (lks (i := 0) rfl (lks (i := 1) rfl (lks (i := 2) rfl (lks (i := 3) rfl (lks (i := 4) rfl (lks (i := 5) rfl lk0)))))) ?_
  have hE2 : tunedE (gset g 35 5 (nI 0)) V := by
    unfold tunedE
    rw [gs_ne _ _ (by omega), gs_ne _ _ (by omega), gs_row (by omega), gs_row (by omega), gs_row (by omega)]
    exact hE
  exact broken_loop (g := g) S hJ (V.chn note p w) k 8 w (V.fst note p w) 0 _ (by omega) rfl hE2 (gs_eq _ _ _ _) (Fr.rf.st (by omega) (by omega))
theorem c_each {a b : Nat} (S : Sh sk n bf im above below) (hE : tunedE g V) (hJ : V.J ≤ 8) (ha : a < V.J) (hb : b < V.J)
    (ht : (V.hit (V.nt a) (V.pl a) b && !V.thick b) = true → (V.hit (V.nt b) (V.pl b) a && !V.thick a) = true → Q (some (.int (nI 1))) (HP sk g n)) (hf : ¬ ((V.hit (V.nt a) (V.pl a) b && !V.thick b) = true ∧ (V.hit (V.nt b) (V.pl b) a && !V.thick a) = true) → Q (some (.int (nI 0))) (HP sk g n)) : Calls MX3_eachStrikesOther (d + 1) 0 0 [.ref 35, .int (nI a), .int (nI b)] (HP sk g n) Q := by
  refine Calls.of (by decide +kernel) (Nat.le_of_ble_eq_true rfl) ?_
  have e3 := hE.2.1
  have ea := hE.2.2.2.2 a ha
  have eb := hE.2.2.2.2 b hb
  refine T_aload_n (pc2 := 1) dX3_eachStrikesOther_0 rfl rfl ?_
  refine G_getR (pc2 := 4) dX3_eachStrikesOther_1 flX3_18 (sh35 S) rfl rfl ?_
  refine T_iload_n (pc2 := 5) dX3_eachStrikesOther_4 rfl rfl ?_
  refine G_iald (pc2 := 6) dX3_eachStrikesOther_5 (sh38 S) (by omega) (by first | decide | omega) (by first | with_reducible assumption | exact gs_eq _ _ _ _ | exact (gs_ne _ _ (by omega)).trans (by with_reducible assumption) | exact (gs_ne _ _ (by omega)).trans (gs_eq _ _ _ _) | exact (gs_ne _ _ (by omega)).trans ((gs_ne _ _ (by omega)).trans (by with_reducible assumption)) | exact (gs_ne _ _ (by omega)).trans ((gs_ne _ _ (by omega)).trans (gs_eq _ _ _ _)) | exact (gs_ne _ _ (by omega)).trans ((gs_ne _ _ (by omega)).trans ((gs_ne _ _ (by omega)).trans (by with_reducible assumption))) | rfl) rfl ?_
  refine T_aload_n (pc2 := 7) dX3_eachStrikesOther_6 rfl rfl ?_
  refine G_getI (pc2 := 10) dX3_eachStrikesOther_7 flX3_28 (sh35 S) rfl (by first | with_reducible assumption | exact gs_eq _ _ _ _ | exact (gs_ne _ _ (by omega)).trans (by with_reducible assumption) | exact (gs_ne _ _ (by omega)).trans (gs_eq _ _ _ _) | exact (gs_ne _ _ (by omega)).trans ((gs_ne _ _ (by omega)).trans (by with_reducible assumption)) | exact (gs_ne _ _ (by omega)).trans ((gs_ne _ _ (by omega)).trans (gs_eq _ _ _ _)) | exact (gs_ne _ _ (by omega)).trans ((gs_ne _ _ (by omega)).trans ((gs_ne _ _ (by omega)).trans (by with_reducible assumption))) | rfl) rfl ?_
  refine T_iconst (pc2 := 11) dX3_eachStrikesOther_10 icm1 rfl ?_
  refine T_ixor (pc2 := 12) dX3_eachStrikesOther_11 rfl ?_
  refine T_iand (pc2 := 13) dX3_eachStrikesOther_12 rfl ?_
  rw [bm_not]
  refine T_iload_n (pc2 := 14) dX3_eachStrikesOther_13 rfl rfl ?_
  refine C_SN2 (pc2 := 17) (mc := 0) (ms := 0) dX3_eachStrikesOther_14 csX7_has mnX3_80 (Nat.le_of_ble_eq_true rfl) rfl ?_
  refine c_has (by decide) (by omega) (fun hp => ?_) (fun hp => ?_)
  · first | refine B_ifeq1 (pc2 := 20) (tgt := 44) dX3_eachStrikesOther_17 (by with_reducible rfl) (by decide) rfl ?_ | refine B_ifeq0 (tgt := 44) dX3_eachStrikesOther_17 (by with_reducible rfl) (by decide) ?_ | refine N_ifeq (pc2 := 20) (tgt := 44) dX3_eachStrikesOther_17 (by with_reducible rfl) (by decide) (by omega) rfl (fun c17 => ?_) (fun c17 => ?_) | refine T_ifeq (pc2 := 20) (tgt := 44) dX3_eachStrikesOther_17 (by decide) rfl (fun c17 => ?_) (fun c17 => ?_)
    refine T_aload_n (pc2 := 21) dX3_eachStrikesOther_20 rfl rfl ?_
    refine G_getR (pc2 := 24) dX3_eachStrikesOther_21 flX3_18 (sh35 S) rfl rfl ?_
    refine T_iload_n (pc2 := 25) dX3_eachStrikesOther_24 rfl rfl ?_
    refine G_iald (pc2 := 26) dX3_eachStrikesOther_25 (sh38 S) (by omega) (by first | decide | omega) (by first | with_reducible assumption | exact gs_eq _ _ _ _ | exact (gs_ne _ _ (by omega)).trans (by with_reducible assumption) | exact (gs_ne _ _ (by omega)).trans (gs_eq _ _ _ _) | exact (gs_ne _ _ (by omega)).trans ((gs_ne _ _ (by omega)).trans (by with_reducible assumption)) | exact (gs_ne _ _ (by omega)).trans ((gs_ne _ _ (by omega)).trans (gs_eq _ _ _ _)) | exact (gs_ne _ _ (by omega)).trans ((gs_ne _ _ (by omega)).trans ((gs_ne _ _ (by omega)).trans (by with_reducible assumption))) | rfl) rfl ?_
    refine T_aload_n (pc2 := 27) dX3_eachStrikesOther_26 rfl rfl ?_
    refine G_getI (pc2 := 30) dX3_eachStrikesOther_27 flX3_28 (sh35 S) rfl (by first | with_reducible assumption | exact gs_eq _ _ _ _ | exact (gs_ne _ _ (by omega)).trans (by with_reducible assumption) | exact (gs_ne _ _ (by omega)).trans (gs_eq _ _ _ _) | exact (gs_ne _ _ (by omega)).trans ((gs_ne _ _ (by omega)).trans (by with_reducible assumption)) | exact (gs_ne _ _ (by omega)).trans ((gs_ne _ _ (by omega)).trans (gs_eq _ _ _ _)) | exact (gs_ne _ _ (by omega)).trans ((gs_ne _ _ (by omega)).trans ((gs_ne _ _ (by omega)).trans (by with_reducible assumption))) | rfl) rfl ?_
    refine T_iconst (pc2 := 31) dX3_eachStrikesOther_30 icm1 rfl ?_
    refine T_ixor (pc2 := 32) dX3_eachStrikesOther_31 rfl ?_
    refine T_iand (pc2 := 33) dX3_eachStrikesOther_32 rfl ?_
    rw [bm_not]
    refine T_iload_n (pc2 := 34) dX3_eachStrikesOther_33 rfl rfl ?_
    refine C_SN2 (pc2 := 37) (mc := 0) (ms := 0) dX3_eachStrikesOther_34 csX7_has mnX3_80 (Nat.le_of_ble_eq_true rfl) rfl ?_
    refine c_has (by decide) (by omega) (fun hq => ?_) (fun hq => ?_)
    · first | refine B_ifeq1 (pc2 := 40) (tgt := 44) dX3_eachStrikesOther_37 (by with_reducible rfl) (by decide) rfl ?_ | refine B_ifeq0 (tgt := 44) dX3_eachStrikesOther_37 (by with_reducible rfl) (by decide) ?_ | refine N_ifeq (pc2 := 40) (tgt := 44) dX3_eachStrikesOther_37 (by with_reducible rfl) (by decide) (by omega) rfl (fun c37 => ?_) (fun c37 => ?_) | refine T_ifeq (pc2 := 40) (tgt := 44) dX3_eachStrikesOther_37 (by decide) rfl (fun c37 => ?_) (fun c37 => ?_)
      refine T_iconst (pc2 := 41) dX3_eachStrikesOther_40 ic1 rfl ?_
      refine T_goto (tgt := 45) dX3_eachStrikesOther_41 (by decide) ?_
      refine T_iret dX3_eachStrikesOther_45 rfl (by first | rfl | decide) ?_
      exact ht hp hq
    · first | refine B_ifeq1 (pc2 := 40) (tgt := 44) dX3_eachStrikesOther_37 (by with_reducible rfl) (by decide) rfl ?_ | refine B_ifeq0 (tgt := 44) dX3_eachStrikesOther_37 (by with_reducible rfl) (by decide) ?_ | refine N_ifeq (pc2 := 40) (tgt := 44) dX3_eachStrikesOther_37 (by with_reducible rfl) (by decide) (by omega) rfl (fun c37 => ?_) (fun c37 => ?_) | refine T_ifeq (pc2 := 40) (tgt := 44) dX3_eachStrikesOther_37 (by decide) rfl (fun c37 => ?_) (fun c37 => ?_)
      refine T_iconst (pc2 := 45) dX3_eachStrikesOther_44 ic0 rfl ?_
      refine T_iret dX3_eachStrikesOther_45 rfl (by first | rfl | decide) ?_
      exact hf (fun z => by rw [hq] at z; exact absurd z.2 (by decide))
  · first | refine B_ifeq1 (pc2 := 20) (tgt := 44) dX3_eachStrikesOther_17 (by with_reducible rfl) (by decide) rfl ?_ | refine B_ifeq0 (tgt := 44) dX3_eachStrikesOther_17 (by with_reducible rfl) (by decide) ?_ | refine N_ifeq (pc2 := 20) (tgt := 44) dX3_eachStrikesOther_17 (by with_reducible rfl) (by decide) (by omega) rfl (fun c17 => ?_) (fun c17 => ?_) | refine T_ifeq (pc2 := 20) (tgt := 44) dX3_eachStrikesOther_17 (by decide) rfl (fun c17 => ?_) (fun c17 => ?_)
    refine T_iconst (pc2 := 45) dX3_eachStrikesOther_44 ic0 rfl ?_
    refine T_iret dX3_eachStrikesOther_45 rfl (by first | rfl | decide) ?_
    exact hf (fun z => by rw [hp] at z; exact absurd z.1 (by decide))
end EchoM2

