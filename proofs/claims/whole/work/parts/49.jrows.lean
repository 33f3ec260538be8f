/-! the class's calls: rows, tape -/
def hN (i m : Int32) (sz : Nat) : Option (Nat × Nat) := if i = nI i.toNatClampNeg ∧ m = nI m.toNatClampNeg ∧ i.toNatClampNeg + m.toNatClampNeg ≤ sz then some (i.toNatClampNeg, m.toNatClampNeg) else none
theorem hN_some {a b sz : Nat} (hs : sz ≤ 1000) (h : a + b ≤ sz) : hN (nI a) (nI b) sz = some (a, b) := by
  unfold hN
  rw [nI_clamp (by omega), nI_clamp (by omega), if_pos ⟨rfl, rfl, h⟩]
theorem clamp_lt (x : Int32) : x.toNatClampNeg < 2 ^ 31 := by
  have h := Int32.toInt_lt x
  show x.toInt.toNat < 2 ^ 31
  omega
theorem hN_none {i m : Int32} {sz : Nat} (h : ∀ a b, i = nI a → m = nI b → a < 2 ^ 31 → b < 2 ^ 31 → ¬ a + b ≤ sz) : hN i m sz = none := by
  unfold hN
  exact if_neg (fun z => h _ _ z.1 z.2.1 (clamp_lt i) (clamp_lt m) z.2.2)
def RS.cpy (A : RS) (a b i j m : Nat) : RS := (A.1, A.2.1, A.2.2.1, va_up A.2.2.2 b (va_cpy (A.2.2.2 a) (A.2.2.2 b) i j m))
def sRow (s : ST) (r l m : Int32) : Int32 × ST := match inN r 8, inN l 3 with
  | some r, some l => if nI 40 < m then (BAD, s) else if m < 0 then (fnd 4, s.setfd 4) else (m, (s.setA (s.A.lay r l m.toNatClampNeg)).setfd 0)
  | _, _ => (BAD, s)
def sSet (s : ST) (r i v : Int32) : Int32 × ST := match inN r 8 with
  | none => (BAD, s)
  | some r => if s.A.1 r = false then (fnd 1, s.setfd 1) else match hN i (nI 1) (s.A.2.2.1 r) with
    | none => (fnd 2, s.setfd 2)
    | some q => (laneV (s.A.2.1 r) v, (s.setA (s.A.put r q.1 (laneV (s.A.2.1 r) v))).setfd 0)
def sCopy (s : ST) (a i b j m : Int32) : Int32 × ST := match inN a 8, inN b 8 with
  | some a, some b => if s.A.1 a = false ∨ s.A.1 b = false then (fnd 1, s.setfd 1) else if s.A.2.1 a ≠ s.A.2.1 b then (fnd 5, s.setfd 5) else match hN i m (s.A.2.2.1 a), hN j m (s.A.2.2.1 b) with
    | some q, some p => (m, (s.setA (s.A.cpy a b q.1 p.1 q.2)).setfd 0)
    | _, _ => (fnd 2, s.setfd 2)
  | _, _ => (BAD, s)
def sDrop (s : ST) (r : Int32) : Int32 × ST := match inN r 8 with
  | none => (BAD, s)
  | some r => if s.A.1 r = false then (fnd 1, s.setfd 1) else (nI (s.A.2.2.1 r), (s.setA (s.A.drop r)).setfd 0)
def sFeed (s : ST) (b : Int32) : Int32 × ST := match inN b 256 with
  | none => (BAD, s)
  | some b => if s.sz < 90 then (nI (s.sz + 1), s.setT (va_up s.tp s.sz b) (s.sz + 1)) else (FULL, s)
def sCellar (s : ST) : Int32 × ST := if (parse s.tp s.sz).1 ≠ 0 then (-1000100 - nI (parse s.tp s.sz).2.1, (s.setT s.tp 0).setlf (parse s.tp s.sz).1) else (nI (parse s.tp s.sz).2.2.J, ((s.setT s.tp 0).setV (parse s.tp s.sz).2.2).setac s.ac 0)
def sUndo (s : ST) : Int32 × ST := if s.an = 0 then (STATE, s) else (nI (s.an - 1), (s.setV (s.ac 0)).setac (fun i => s.ac (i + 1)) (s.an - 1))
section JRows
variable {sk : Nat → SK} {g : Nat → Nat → Int32} {n : Nat} {Q : Option Value → SH → Prop} {d kc ks : Nat} {bf im : Nat → Option Nat} {above below : Int64} {nx : Nat} {s : ST}
theorem fin_same {sp : Int32 × ST} (k : ∀ sk2 g2 n2, InvJ sk2 g2 n2 sp.2 → FrJ sk g sk2 g2 → Q (some (.int sp.1)) (HP sk2 g2 n2)) (hI : JJ sk g n bf im above below nx s) {v : Int32} (e : sp = (v, s)) : Q (some (.int v)) (HP sk g n) := by
  have := k sk g n (by rw [e]; exact ⟨_, _, _, _, _, hI⟩) FrJ.rf
  rw [e] at this
  exact this
theorem JJ.fd (hI : JJ sk g n bf im above below nx s) (f : Nat) : JJ sk (gset g 4 9 (nI f)) n bf im above below nx (s.setfd f) := by
  obtain ⟨h1, h2, h3, h4, h5, h6, h7, h8, h9, h10, h11, h12⟩ := hI
  refine ⟨h1, h2, h3.cg (fun i _ _ => gs_row (by omega)), h4.cg (fun i _ _ => gs_row (by omega)), h5.cg (fun i _ _ => gs_row (by omega)), h6.cg (fun i _ _ => gs_row (by omega)), by rw [gs_row (by omega)]; exact h7, h8.cg h2 (fun i _ => gs_row (by omega)), h9.cg (fun i _ _ => gs_row (by omega)), h10.cg h2 (fun kk b hb i q1 q2 => ?_), by rw [gs_ne _ _ (by omega)]; exact h11, gs_eq _ _ _ _⟩
  obtain ⟨T, -, -, hI, -⟩ := h2
  obtain ⟨t, -, hb2, -⟩ := hI kk b hb
  exact gs_row (by omega)
theorem fin_fd {sp : Int32 × ST} (k : ∀ sk2 g2 n2, InvJ sk2 g2 n2 sp.2 → FrJ sk g sk2 g2 → Q (some (.int sp.1)) (HP sk2 g2 n2)) (hI : JJ sk g n bf im above below nx s) {v : Int32} {f : Nat} (e : sp = (v, s.setfd f)) : Q (some (.int v)) (HP sk (gset g 4 9 (nI f)) n) := by
  have := k sk (gset g 4 9 (nI f)) n (by rw [e]; exact ⟨_, _, _, _, _, hI.fd f⟩) ⟨rfl, fun i hi => gs_row (by omega)⟩
  rw [e] at this
  exact this
theorem fin_new {sp : Int32 × ST} {sk3 : Nat → SK} {g3 : Nat → Nat → Int32} {n3 : Nat} {bf3 im3 : Nat → Option Nat} {above3 below3 : Int64} {nx3 : Nat} {s3 : ST} (k : ∀ sk2 g2 n2, InvJ sk2 g2 n2 sp.2 → FrJ sk g sk2 g2 → Q (some (.int sp.1)) (HP sk2 g2 n2)) (hI : JJ sk3 g3 n3 bf3 im3 above3 below3 nx3 s3) (hf : FrJ sk g sk3 g3) {v : Int32} (e : sp = (v, s3)) : Q (some (.int v)) (HP sk3 g3 n3) := by
  have := k sk3 g3 n3 (by rw [e]; exact ⟨_, _, _, _, _, hI⟩) hf
  rw [e] at this
  exact this
theorem JJ.rows {g2 : Nat → Nat → Int32} {A : RS} (hI : JJ sk g n bf im above below nx s) (hA : hasR g2 A) (hf : Fr 5 18 g g2) : JJ sk g2 n bf im above below nx (s.setA A) := by
  obtain ⟨h1, h2, h3, h4, h5, h6, h7, h8, h9, h10, h11, h12⟩ := hI
  refine ⟨h1, h2, h3.cg (fun i _ _ => hf i (by omega)), hA, h5.cg (fun i _ _ => hf i (by omega)), h6.cg (fun i _ _ => hf i (by omega)), by rw [hf 32 (by omega)]; exact h7, h8.cg h2 (fun i _ => hf i (by omega)), h9.cg (fun i _ _ => hf i (by omega)), h10.cg h2 (fun kk b hb i q1 q2 => ?_), by rw [hf 4 (by omega)]; exact h11, by rw [hf 4 (by omega)]; exact h12⟩
  obtain ⟨T, -, -, hI, -⟩ := h2
  obtain ⟨t, -, hb2, -⟩ := hI kk b hb
  exact hf i (by omega)
theorem j_row {r l m : Int32} (hI : JJ sk g n bf im above below nx s) (hok : Ok s) (k : ∀ sk2 g2 n2, InvJ sk2 g2 n2 (sRow s r l m).2 → FrJ sk g sk2 g2 → Q (some (.int (sRow s r l m).1)) (HP sk2 g2 n2)) : Calls MX7_row (d + 2) 0 0 [.ref 4, .int r, .int l, .int m] (HP sk g n) Q := by
  have S := hI.1
  refine Calls.of (by decide +kernel) (Nat.le_of_ble_eq_true rfl) ?_
  refine T_iload_n (pc2 := 1) dX7_row_0 rfl rfl ?_
  refine C_S1 (pc2 := 4) (mc := 0) (ms := 0) dX7_row_1 csX7_isRow mlX7_58 (Nat.le_of_ble_eq_true rfl) rfl ?_
  refine c_isRow (fun a ha ea => ?_) (fun hno => ?_)
  · subst ea
    first | refine B_ifeq1 (pc2 := 7) (tgt := 22) dX7_row_4 (by with_reducible rfl) (by decide) rfl ?_ | refine B_ifeq0 (tgt := 22) dX7_row_4 (by with_reducible rfl) (by decide) ?_ | refine N_ifeq (pc2 := 7) (tgt := 22) dX7_row_4 (by with_reducible rfl) (by decide) (by omega) rfl (fun c4 => ?_) (fun c4 => ?_) | refine T_ifeq (pc2 := 7) (tgt := 22) dX7_row_4 (by decide) rfl (fun c4 => ?_) (fun c4 => ?_)
    refine T_iload_n (pc2 := 8) dX7_row_7 rfl rfl ?_
    refine T_iconst (pc2 := 9) dX7_row_8 ic0 rfl ?_
    refine T_iconst (pc2 := 10) dX7_row_9 ic2 rfl ?_
    refine C_S3 (pc2 := 13) (mc := 0) (ms := 0) dX7_row_10 csX7_within mlX7_62 (Nat.le_of_ble_eq_true rfl) rfl ?_
    refine c_withinI (by decide) (fun b hb eb => ?_) (fun hno => ?_)
    · subst eb
      first | refine B_ifeq1 (pc2 := 16) (tgt := 22) dX7_row_13 (by with_reducible rfl) (by decide) rfl ?_ | refine B_ifeq0 (tgt := 22) dX7_row_13 (by with_reducible rfl) (by decide) ?_ | refine N_ifeq (pc2 := 16) (tgt := 22) dX7_row_13 (by with_reducible rfl) (by decide) (by omega) rfl (fun c13 => ?_) (fun c13 => ?_) | refine T_ifeq (pc2 := 16) (tgt := 22) dX7_row_13 (by decide) rfl (fun c13 => ?_) (fun c13 => ?_)
      have hs : sRow s (nI a) (nI b) m = if nI 40 < m then (BAD, s) else if m < 0 then (fnd 4, s.setfd 4) else (m, (s.setA (s.A.lay a b m.toNatClampNeg)).setfd 0) := by
        unfold sRow
        rw [inN_some ha (by decide), inN_some (show b < 3 by omega) (by decide)]
      refine T_iload_n (pc2 := 17) dX7_row_16 rfl rfl ?_
      refine T_bipush (pc2 := 19) dX7_row_17 bp40 rfl ?_
      refine T_icmple (pc2 := 22) (tgt := 25) dX7_row_19 (by decide) rfl (fun c19 => ?_) (fun c19 => ?_)
      · refine T_iload_n (pc2 := 26) dX7_row_25 rfl rfl ?_
        refine T_ifge (pc2 := 29) (tgt := 35) dX7_row_26 (by decide) rfl (fun c26 => ?_) (fun c26 => ?_)
        · obtain ⟨mm, hm, e⟩ := nI_of2 (x := m) (M := nI 40) (n := 40) (nI_toInt (by decide)) (Int32.not_lt.mpr c26) c19
          subst e
          have hmm : mm ≤ 40 := hm
          refine T_aload_n (pc2 := 36) dX7_row_35 rfl rfl ?_
          refine G_getR (pc2 := 39) dX7_row_36 flX7_10 (sh4 S) rfl rfl ?_
          refine T_iload_n (pc2 := 40) dX7_row_39 rfl rfl ?_
          refine T_iload_n (pc2 := 41) dX7_row_40 rfl rfl ?_
          refine T_iload_n (pc2 := 42) dX7_row_41 rfl rfl ?_
          refine C_V3 (pc2 := 45) (mc := 0) (ms := 0) dX7_row_42 cvX5_lay mlX7_71 (isO.h (sh5 S) _) (Nat.le_of_ble_eq_true rfl) rfl ?_
          refine c_lay S hI.2.2.2.1 ha (fun g2 hA hf => ?_)
          refine T_aload_n (pc2 := 46) dX7_row_45 rfl rfl ?_
          refine T_iload_n (pc2 := 47) dX7_row_46 rfl rfl ?_
          refine C_V1 (pc2 := 50) (mc := 0) (ms := 0) dX7_row_47 cvX7_fine mlX7_75 (isO.h (sh4 S) _) (Nat.le_of_ble_eq_true rfl) rfl ?_
          refine c_fine S ?_
          refine T_iret dX7_row_50 rfl rfl ?_
          refine fin_new k ((hI.rows hA hf).fd 0) ⟨rfl, fun i hi => by rw [gs_row (by omega)]; exact hf i (by omega)⟩ ?_
          rw [hs, if_neg (Int32.not_lt.mpr c19), if_neg (Int32.not_lt.mpr c26), nI_clamp (by omega)]
        · refine T_aload_n (pc2 := 30) dX7_row_29 rfl rfl ?_
          refine T_iconst (pc2 := 31) dX7_row_30 ic4 rfl ?_
          refine C_V1 (pc2 := 34) (mc := 0) (ms := 0) dX7_row_31 cvX7_found mlX7_67 (isO.h (sh4 S) _) (Nat.le_of_ble_eq_true rfl) rfl ?_
          refine c_found S ?_
          refine T_iret dX7_row_34 rfl rfl ?_
          refine fin_fd k hI ?_
          rw [hs, if_neg (Int32.not_lt.mpr c19), if_pos (by rw [Int32.not_le] at c26; exact c26)]
      · refine T_ldc (pc2 := 24) dX7_row_22 kcX7_66 rfl ?_
        refine T_iret dX7_row_24 rfl rfl ?_
        refine fin_same k hI ?_
        rw [hs, if_pos (by rw [Int32.not_le] at c19; exact c19)]
    · first | refine B_ifeq1 (pc2 := 16) (tgt := 22) dX7_row_13 (by with_reducible rfl) (by decide) rfl ?_ | refine B_ifeq0 (tgt := 22) dX7_row_13 (by with_reducible rfl) (by decide) ?_ | refine N_ifeq (pc2 := 16) (tgt := 22) dX7_row_13 (by with_reducible rfl) (by decide) (by omega) rfl (fun c13 => ?_) (fun c13 => ?_) | refine T_ifeq (pc2 := 16) (tgt := 22) dX7_row_13 (by decide) rfl (fun c13 => ?_) (fun c13 => ?_)
      refine T_ldc (pc2 := 24) dX7_row_22 kcX7_66 rfl ?_
      refine T_iret dX7_row_24 rfl rfl ?_
      refine fin_same k hI ?_
      unfold sRow
      rw [inN_none (k := 3) (fun j hj => hno j (by omega))]
      cases inN (nI a) 8 <;> rfl
  · first | refine B_ifeq1 (pc2 := 7) (tgt := 22) dX7_row_4 (by with_reducible rfl) (by decide) rfl ?_ | refine B_ifeq0 (tgt := 22) dX7_row_4 (by with_reducible rfl) (by decide) ?_ | refine N_ifeq (pc2 := 7) (tgt := 22) dX7_row_4 (by with_reducible rfl) (by decide) (by omega) rfl (fun c4 => ?_) (fun c4 => ?_) | refine T_ifeq (pc2 := 7) (tgt := 22) dX7_row_4 (by decide) rfl (fun c4 => ?_) (fun c4 => ?_)
    refine T_ldc (pc2 := 24) dX7_row_22 kcX7_66 rfl ?_
    refine T_iret dX7_row_24 rfl rfl ?_
    refine fin_same k hI ?_
    unfold sRow
    rw [inN_none hno]
theorem j_set {r i v : Int32} (hI : JJ sk g n bf im above below nx s) (hok : Ok s) (k : ∀ sk2 g2 n2, InvJ sk2 g2 n2 (sSet s r i v).2 → FrJ sk g sk2 g2 → Q (some (.int (sSet s r i v).1)) (HP sk2 g2 n2)) : Calls MX7_set (d + 2) 0 0 [.ref 4, .int r, .int i, .int v] (HP sk g n) Q := by
  have S := hI.1
  refine Calls.of (by decide +kernel) (Nat.le_of_ble_eq_true rfl) ?_
  refine T_iload_n (pc2 := 1) dX7_set_0 rfl rfl ?_
  refine C_S1 (pc2 := 4) (mc := 0) (ms := 0) dX7_set_1 csX7_isRow mlX7_58 (Nat.le_of_ble_eq_true rfl) rfl ?_
  refine c_isRow (fun a ha ea => ?_) (fun hno => ?_)
  · subst ea
    have hs : sSet s (nI a) i v = if s.A.1 a = false then (fnd 1, s.setfd 1) else match hN i (nI 1) (s.A.2.2.1 a) with
        | none => (fnd 2, s.setfd 2)
        | some q => (laneV (s.A.2.1 a) v, (s.setA (s.A.put a q.1 (laneV (s.A.2.1 a) v))).setfd 0) := by
      unfold sSet
      rw [inN_some ha (by decide)]
    first | refine B_ifne1 (tgt := 10) dX7_set_4 (by with_reducible rfl) (by decide) ?_ | refine B_ifne0 (pc2 := 7) (tgt := 10) dX7_set_4 (by with_reducible rfl) (by decide) rfl ?_ | refine N_ifne (pc2 := 7) (tgt := 10) dX7_set_4 (by with_reducible rfl) (by decide) (by omega) rfl (fun c4 => ?_) (fun c4 => ?_) | refine T_ifne (pc2 := 7) (tgt := 10) dX7_set_4 (by decide) rfl (fun c4 => ?_) (fun c4 => ?_)
    refine T_aload_n (pc2 := 11) dX7_set_10 rfl rfl ?_
    refine G_getR (pc2 := 14) dX7_set_11 flX7_10 (sh4 S) rfl rfl ?_
    refine T_iload_n (pc2 := 15) dX7_set_14 rfl rfl ?_
    refine T_iload_n (pc2 := 16) dX7_set_15 rfl rfl ?_
    refine T_iconst (pc2 := 17) dX7_set_16 ic1 rfl ?_
    refine C_V3 (pc2 := 20) (mc := 0) (ms := 0) dX7_set_17 cvX5_lacking mlX7_78 (isO.h (sh5 S) _) (Nat.le_of_ble_eq_true rfl) rfl ?_
    refine c_lacking S hI.2.2.2.1 hok.1 ha (fun h0 => ?_) (fun x y ht ex ey hxy => ?_) (fun ht hno => ?_)
    · refine T_istore (pc2 := 22) dX7_set_20 (by decide) rfl ?_
      refine T_iload (pc2 := 24) dX7_set_22 rfl rfl ?_
      first | refine B_ifeq1 (pc2 := 27) (tgt := 34) dX7_set_24 (by with_reducible rfl) (by decide) rfl ?_ | refine B_ifeq0 (tgt := 34) dX7_set_24 (by with_reducible rfl) (by decide) ?_ | refine N_ifeq (pc2 := 27) (tgt := 34) dX7_set_24 (by with_reducible rfl) (by decide) (by omega) rfl (fun c24 => ?_) (fun c24 => ?_) | refine T_ifeq (pc2 := 27) (tgt := 34) dX7_set_24 (by decide) rfl (fun c24 => ?_) (fun c24 => ?_)
      refine T_aload_n (pc2 := 28) dX7_set_27 rfl rfl ?_
      refine T_iload (pc2 := 30) dX7_set_28 rfl rfl ?_
      refine C_V1 (pc2 := 33) (mc := 0) (ms := 0) dX7_set_30 cvX7_found mlX7_67 (isO.h (sh4 S) _) (Nat.le_of_ble_eq_true rfl) rfl ?_
      refine c_found S ?_
      refine T_iret dX7_set_33 rfl rfl ?_
      exact fin_fd k hI (by rw [hs, if_pos h0])
    · subst ex
      have hsz := (hok.1 a ha ht).2
      have ey : (1 : Nat) = y := by
        rcases Nat.lt_or_ge y (2 ^ 31) with q | q
        · exact (nI_eq (by decide) q).mp ey
        · omega
      subst ey
      refine T_istore (pc2 := 22) dX7_set_20 (by decide) rfl ?_
      refine T_iload (pc2 := 24) dX7_set_22 rfl rfl ?_
      first | refine B_ifeq1 (pc2 := 27) (tgt := 34) dX7_set_24 (by with_reducible rfl) (by decide) rfl ?_ | refine B_ifeq0 (tgt := 34) dX7_set_24 (by with_reducible rfl) (by decide) ?_ | refine N_ifeq (pc2 := 27) (tgt := 34) dX7_set_24 (by with_reducible rfl) (by decide) (by omega) rfl (fun c24 => ?_) (fun c24 => ?_) | refine T_ifeq (pc2 := 27) (tgt := 34) dX7_set_24 (by decide) rfl (fun c24 => ?_) (fun c24 => ?_)
      refine T_aload_n (pc2 := 35) dX7_set_34 rfl rfl ?_
      refine T_aload_n (pc2 := 36) dX7_set_35 rfl rfl ?_
      refine G_getR (pc2 := 39) dX7_set_36 flX7_10 (sh4 S) rfl rfl ?_
      refine T_iload_n (pc2 := 40) dX7_set_39 rfl rfl ?_
      refine T_iload_n (pc2 := 41) dX7_set_40 rfl rfl ?_
      refine T_iload_n (pc2 := 42) dX7_set_41 rfl rfl ?_
      refine C_V3 (pc2 := 45) (mc := 0) (ms := 0) dX7_set_42 cvX5_put mlX7_82 (isO.h (sh5 S) _) (Nat.le_of_ble_eq_true rfl) rfl ?_
      refine c_put S hI.2.2.2.1 hok.1 ha ht (by omega) (fun g2 hA hf => ?_)
      refine C_V1 (pc2 := 48) (mc := 0) (ms := 0) dX7_set_45 cvX7_fine mlX7_75 (isO.h (sh4 S) _) (Nat.le_of_ble_eq_true rfl) rfl ?_
      refine c_fine S ?_
      refine T_iret dX7_set_48 rfl rfl ?_
      refine fin_new k ((hI.rows hA hf).fd 0) ⟨rfl, fun i hi => by rw [gs_row (by omega)]; exact hf i (by omega)⟩ ?_
      rw [hs, if_neg (by rw [ht]; decide), hN_some (by omega) hxy]
    · refine T_istore (pc2 := 22) dX7_set_20 (by decide) rfl ?_
      refine T_iload (pc2 := 24) dX7_set_22 rfl rfl ?_
      first | refine B_ifeq1 (pc2 := 27) (tgt := 34) dX7_set_24 (by with_reducible rfl) (by decide) rfl ?_ | refine B_ifeq0 (tgt := 34) dX7_set_24 (by with_reducible rfl) (by decide) ?_ | refine N_ifeq (pc2 := 27) (tgt := 34) dX7_set_24 (by with_reducible rfl) (by decide) (by omega) rfl (fun c24 => ?_) (fun c24 => ?_) | refine T_ifeq (pc2 := 27) (tgt := 34) dX7_set_24 (by decide) rfl (fun c24 => ?_) (fun c24 => ?_)
      · exact absurd c24 (by decide)
      · refine T_aload_n (pc2 := 28) dX7_set_27 rfl rfl ?_
        refine T_iload (pc2 := 30) dX7_set_28 rfl rfl ?_
        refine C_V1 (pc2 := 33) (mc := 0) (ms := 0) dX7_set_30 cvX7_found mlX7_67 (isO.h (sh4 S) _) (Nat.le_of_ble_eq_true rfl) rfl ?_
        refine c_found S ?_
        refine T_iret dX7_set_33 rfl rfl ?_
        exact fin_fd k hI (by rw [hs, if_neg (by rw [ht]; decide), hN_none hno])
  · first | refine B_ifne1 (tgt := 10) dX7_set_4 (by with_reducible rfl) (by decide) ?_ | refine B_ifne0 (pc2 := 7) (tgt := 10) dX7_set_4 (by with_reducible rfl) (by decide) rfl ?_ | refine N_ifne (pc2 := 7) (tgt := 10) dX7_set_4 (by with_reducible rfl) (by decide) (by omega) rfl (fun c4 => ?_) (fun c4 => ?_) | refine T_ifne (pc2 := 7) (tgt := 10) dX7_set_4 (by decide) rfl (fun c4 => ?_) (fun c4 => ?_)
    refine T_ldc (pc2 := 9) dX7_set_7 kcX7_66 rfl ?_
    refine T_iret dX7_set_9 rfl rfl ?_
    refine fin_same k hI ?_
    unfold sSet
    rw [inN_none hno]
theorem j_drop {r : Int32} (hI : JJ sk g n bf im above below nx s) (hok : Ok s) (k : ∀ sk2 g2 n2, InvJ sk2 g2 n2 (sDrop s r).2 → FrJ sk g sk2 g2 → Q (some (.int (sDrop s r).1)) (HP sk2 g2 n2)) : Calls MX7_drop (d + 2) 0 0 [.ref 4, .int r] (HP sk g n) Q := by
  have S := hI.1
  refine Calls.of (by decide +kernel) (Nat.le_of_ble_eq_true rfl) ?_
  refine T_iload_n (pc2 := 1) dX7_drop_0 rfl rfl ?_
  refine C_S1 (pc2 := 4) (mc := 0) (ms := 0) dX7_drop_1 csX7_isRow mlX7_58 (Nat.le_of_ble_eq_true rfl) rfl ?_
  refine c_isRow (fun a ha ea => ?_) (fun hno => ?_)
  · subst ea
    have hs : sDrop s (nI a) = if s.A.1 a = false then (fnd 1, s.setfd 1) else (nI (s.A.2.2.1 a), (s.setA (s.A.drop a)).setfd 0) := by
      unfold sDrop
      rw [inN_some ha (by decide)]
    have hA := hI.2.2.2.1
    have e6 := (hA a ha).1
    first | refine B_ifne1 (tgt := 10) dX7_drop_4 (by with_reducible rfl) (by decide) ?_ | refine B_ifne0 (pc2 := 7) (tgt := 10) dX7_drop_4 (by with_reducible rfl) (by decide) rfl ?_ | refine N_ifne (pc2 := 7) (tgt := 10) dX7_drop_4 (by with_reducible rfl) (by decide) (by omega) rfl (fun c4 => ?_) (fun c4 => ?_) | refine T_ifne (pc2 := 7) (tgt := 10) dX7_drop_4 (by decide) rfl (fun c4 => ?_) (fun c4 => ?_)
    cases ht : s.A.1 a with
    | false =>
      rw [ht, if_neg (by decide)] at e6
      refine T_aload_n (pc2 := 11) dX7_drop_10 rfl rfl ?_
      refine G_getR (pc2 := 14) dX7_drop_11 flX7_10 (sh4 S) rfl rfl ?_
      refine G_getR (pc2 := 17) dX7_drop_14 flX7_85 (sh5 S) rfl rfl ?_
      refine T_iload_n (pc2 := 18) dX7_drop_17 rfl rfl ?_
      refine G_bald (pc2 := 19) dX7_drop_18 (sh6 S) (by omega) (by first | decide | omega) (by first | with_reducible assumption | exact gs_eq _ _ _ _ | exact (gs_ne _ _ (by omega)).trans (by with_reducible assumption) | exact (gs_ne _ _ (by omega)).trans (gs_eq _ _ _ _) | exact (gs_ne _ _ (by omega)).trans ((gs_ne _ _ (by omega)).trans (by with_reducible assumption)) | exact (gs_ne _ _ (by omega)).trans ((gs_ne _ _ (by omega)).trans (gs_eq _ _ _ _)) | exact (gs_ne _ _ (by omega)).trans ((gs_ne _ _ (by omega)).trans ((gs_ne _ _ (by omega)).trans (by with_reducible assumption))) | rfl) rfl ?_
      first | refine B_ifne1 (tgt := 28) dX7_drop_19 (by with_reducible rfl) (by decide) ?_ | refine B_ifne0 (pc2 := 22) (tgt := 28) dX7_drop_19 (by with_reducible rfl) (by decide) rfl ?_ | refine N_ifne (pc2 := 22) (tgt := 28) dX7_drop_19 (by with_reducible rfl) (by decide) (by omega) rfl (fun c19 => ?_) (fun c19 => ?_) | refine T_ifne (pc2 := 22) (tgt := 28) dX7_drop_19 (by decide) rfl (fun c19 => ?_) (fun c19 => ?_)
      refine T_aload_n (pc2 := 23) dX7_drop_22 rfl rfl ?_
      refine T_iconst (pc2 := 24) dX7_drop_23 ic1 rfl ?_
      refine C_V1 (pc2 := 27) (mc := 0) (ms := 0) dX7_drop_24 cvX7_found mlX7_67 (isO.h (sh4 S) _) (Nat.le_of_ble_eq_true rfl) rfl ?_
      refine c_found S ?_
      refine T_iret dX7_drop_27 rfl rfl ?_
      exact fin_fd k hI (by rw [hs, if_pos ht])
    | true =>
      rw [ht, if_pos rfl] at e6
      have e8 := ((hA a ha).2 ht).2.1
      refine T_aload_n (pc2 := 11) dX7_drop_10 rfl rfl ?_
      refine G_getR (pc2 := 14) dX7_drop_11 flX7_10 (sh4 S) rfl rfl ?_
      refine G_getR (pc2 := 17) dX7_drop_14 flX7_85 (sh5 S) rfl rfl ?_
      refine T_iload_n (pc2 := 18) dX7_drop_17 rfl rfl ?_
      refine G_bald (pc2 := 19) dX7_drop_18 (sh6 S) (by omega) (by first | decide | omega) (by first | with_reducible assumption | exact gs_eq _ _ _ _ | exact (gs_ne _ _ (by omega)).trans (by with_reducible assumption) | exact (gs_ne _ _ (by omega)).trans (gs_eq _ _ _ _) | exact (gs_ne _ _ (by omega)).trans ((gs_ne _ _ (by omega)).trans (by with_reducible assumption)) | exact (gs_ne _ _ (by omega)).trans ((gs_ne _ _ (by omega)).trans (gs_eq _ _ _ _)) | exact (gs_ne _ _ (by omega)).trans ((gs_ne _ _ (by omega)).trans ((gs_ne _ _ (by omega)).trans (by with_reducible assumption))) | rfl) rfl ?_
      first | refine B_ifne1 (tgt := 28) dX7_drop_19 (by with_reducible rfl) (by decide) ?_ | refine B_ifne0 (pc2 := 22) (tgt := 28) dX7_drop_19 (by with_reducible rfl) (by decide) rfl ?_ | refine N_ifne (pc2 := 22) (tgt := 28) dX7_drop_19 (by with_reducible rfl) (by decide) (by omega) rfl (fun c19 => ?_) (fun c19 => ?_) | refine T_ifne (pc2 := 22) (tgt := 28) dX7_drop_19 (by decide) rfl (fun c19 => ?_) (fun c19 => ?_)
      refine T_aload_n (pc2 := 29) dX7_drop_28 rfl rfl ?_
      refine G_getR (pc2 := 32) dX7_drop_29 flX7_10 (sh4 S) rfl rfl ?_
      refine G_getR (pc2 := 35) dX7_drop_32 flX7_85 (sh5 S) rfl rfl ?_
      refine T_iload_n (pc2 := 36) dX7_drop_35 rfl rfl ?_
      refine T_iconst (pc2 := 37) dX7_drop_36 ic0 rfl ?_
      refine G_bast (pc2 := 38) dX7_drop_37 (sh6 S) (by omega) (by decide) (by first | assumption | decide) rfl ?_
      refine T_aload_n (pc2 := 39) dX7_drop_38 rfl rfl ?_
      refine T_aload_n (pc2 := 40) dX7_drop_39 rfl rfl ?_
      refine G_getR (pc2 := 43) dX7_drop_40 flX7_10 (sh4 S) rfl rfl ?_
      refine G_getR (pc2 := 46) dX7_drop_43 flX7_106 (sh5 S) rfl rfl ?_
      refine T_iload_n (pc2 := 47) dX7_drop_46 rfl rfl ?_
      refine G_iald (pc2 := 48) dX7_drop_47 (sh8 S) (by omega) (by first | decide | omega) (by first | with_reducible assumption | exact gs_eq _ _ _ _ | exact (gs_ne _ _ (by omega)).trans (by with_reducible assumption) | exact (gs_ne _ _ (by omega)).trans (gs_eq _ _ _ _) | exact (gs_ne _ _ (by omega)).trans ((gs_ne _ _ (by omega)).trans (by with_reducible assumption)) | exact (gs_ne _ _ (by omega)).trans ((gs_ne _ _ (by omega)).trans (gs_eq _ _ _ _)) | exact (gs_ne _ _ (by omega)).trans ((gs_ne _ _ (by omega)).trans ((gs_ne _ _ (by omega)).trans (by with_reducible assumption))) | rfl) rfl ?_
      refine C_V1 (pc2 := 51) (mc := 0) (ms := 0) dX7_drop_48 cvX7_fine mlX7_75 (isO.h (sh4 S) _) (Nat.le_of_ble_eq_true rfl) rfl ?_
      refine c_fine S ?_
      refine T_iret dX7_drop_51 rfl rfl ?_
      have hA2 : hasR (gset g 6 a (nI 0)) (s.A.drop a) := by
        intro q hq
        have := hA q hq
        rw [gs_row (i := 6) (j := 7) (by decide), gs_row (i := 6) (j := 8) (by decide), gs_row (i := 6) (j := 10 + q) (by omega)]
        by_cases e : q = a
        · subst e
          rw [gs_eq]
          refine ⟨by simp [RS.drop, va_up], fun z => ?_⟩
          simp [RS.drop, va_up] at z
        · rw [gs_ne _ _ (by omega)]
          simpa [RS.drop, va_up, e] using this
      refine fin_new k ((hI.rows hA2 (Fr.rf.st (by omega) (by omega))).fd 0) ⟨rfl, fun i hi => by rw [gs_row (by omega), gs_row (by omega)]⟩ ?_
      rw [hs, if_neg (by rw [ht]; decide)]
  · first | refine B_ifne1 (tgt := 10) dX7_drop_4 (by with_reducible rfl) (by decide) ?_ | refine B_ifne0 (pc2 := 7) (tgt := 10) dX7_drop_4 (by with_reducible rfl) (by decide) rfl ?_ | refine N_ifne (pc2 := 7) (tgt := 10) dX7_drop_4 (by with_reducible rfl) (by decide) (by omega) rfl (fun c4 => ?_) (fun c4 => ?_) | refine T_ifne (pc2 := 7) (tgt := 10) dX7_drop_4 (by decide) rfl (fun c4 => ?_) (fun c4 => ?_)
    refine T_ldc (pc2 := 9) dX7_drop_7 kcX7_66 rfl ?_
    refine T_iret dX7_drop_9 rfl rfl ?_
    refine fin_same k hI ?_
    unfold sDrop
    rw [inN_none hno]
theorem j_feed {b : Int32} (hI : JJ sk g n bf im above below nx s) (hok : Ok s) (k : ∀ sk2 g2 n2, InvJ sk2 g2 n2 (sFeed s b).2 → FrJ sk g sk2 g2 → Q (some (.int (sFeed s b).1)) (HP sk2 g2 n2)) : Calls MX7_feed (d + 2) 0 0 [.ref 4, .int b] (HP sk g n) Q := by
  have S := hI.1
  have h90 := hok.2.1.1
  refine Calls.of (by decide +kernel) (Nat.le_of_ble_eq_true rfl) ?_
  refine T_iload_n (pc2 := 1) dX7_feed_0 rfl rfl ?_
  refine T_iconst (pc2 := 2) dX7_feed_1 ic0 rfl ?_
  refine T_sipush (pc2 := 5) dX7_feed_2 sp255 rfl ?_
  refine C_S3 (pc2 := 8) (mc := 0) (ms := 0) dX7_feed_5 csX7_within mlX7_62 (Nat.le_of_ble_eq_true rfl) rfl ?_
  refine c_withinI (by decide) (fun a ha ea => ?_) (fun hno => ?_)
  · subst ea
    have hs : sFeed s (nI a) = if s.sz < 90 then (nI (s.sz + 1), s.setT (va_up s.tp s.sz a) (s.sz + 1)) else (FULL, s) := by
      unfold sFeed
      rw [inN_some (show a < 256 by omega) (by decide)]
    first | refine B_ifne1 (tgt := 14) dX7_feed_8 (by with_reducible rfl) (by decide) ?_ | refine B_ifne0 (pc2 := 11) (tgt := 14) dX7_feed_8 (by with_reducible rfl) (by decide) rfl ?_ | refine N_ifne (pc2 := 11) (tgt := 14) dX7_feed_8 (by with_reducible rfl) (by decide) (by omega) rfl (fun c8 => ?_) (fun c8 => ?_) | refine T_ifne (pc2 := 11) (tgt := 14) dX7_feed_8 (by decide) rfl (fun c8 => ?_) (fun c8 => ?_)
    refine T_aload_n (pc2 := 15) dX7_feed_14 rfl rfl ?_
    refine G_getR (pc2 := 18) dX7_feed_15 flX7_19 (sh4 S) rfl rfl ?_
    refine T_iload_n (pc2 := 19) dX7_feed_18 rfl rfl ?_
    refine C_V1 (pc2 := 22) (mc := 0) (ms := 0) dX7_feed_19 cvX6_takes mlX7_109 (isO.h (sh18 S) _) (Nat.le_of_ble_eq_true rfl) rfl ?_
    refine c_takes S hI.2.2.2.2.1 hok.2.1 (fun g2 hlt hT2 hf => ?_) (fun hge => ?_)
    · have e1 := hT2.1
      first | refine B_ifeq1 (pc2 := 25) (tgt := 35) dX7_feed_22 (by with_reducible rfl) (by decide) rfl ?_ | refine B_ifeq0 (tgt := 35) dX7_feed_22 (by with_reducible rfl) (by decide) ?_ | refine N_ifeq (pc2 := 25) (tgt := 35) dX7_feed_22 (by with_reducible rfl) (by decide) (by omega) rfl (fun c22 => ?_) (fun c22 => ?_) | refine T_ifeq (pc2 := 25) (tgt := 35) dX7_feed_22 (by decide) rfl (fun c22 => ?_) (fun c22 => ?_)
      refine T_aload_n (pc2 := 26) dX7_feed_25 rfl rfl ?_
      refine G_getR (pc2 := 29) dX7_feed_26 flX7_19 (sh4 S) rfl rfl ?_
      refine G_getI (pc2 := 32) dX7_feed_29 flX7_112 (sh18 S) rfl (by first | with_reducible assumption | exact gs_eq _ _ _ _ | exact (gs_ne _ _ (by omega)).trans (by with_reducible assumption) | exact (gs_ne _ _ (by omega)).trans (gs_eq _ _ _ _) | exact (gs_ne _ _ (by omega)).trans ((gs_ne _ _ (by omega)).trans (by with_reducible assumption)) | exact (gs_ne _ _ (by omega)).trans ((gs_ne _ _ (by omega)).trans (gs_eq _ _ _ _)) | exact (gs_ne _ _ (by omega)).trans ((gs_ne _ _ (by omega)).trans ((gs_ne _ _ (by omega)).trans (by with_reducible assumption))) | rfl) rfl ?_
      refine T_goto (tgt := 37) dX7_feed_32 (by decide) ?_
      refine T_iret dX7_feed_37 rfl rfl ?_
      have hJ2 : JJ sk g2 n bf im above below nx (s.setT (va_up s.tp s.sz a) (s.sz + 1)) := by
        obtain ⟨h1, h2, h3, h4, h5, h6, h7, h8, h9, h10, h11, h12⟩ := hI
        refine ⟨h1, h2, h3.cg (fun i _ _ => hf i (by omega)), h4.cg (fun i _ _ => hf i (by omega)), hT2, h6.cg (fun i _ _ => hf i (by omega)), by rw [hf 32 (by omega)]; exact h7, h8.cg h2 (fun i _ => hf i (by omega)), h9.cg (fun i _ _ => hf i (by omega)), h10.cg h2 (fun kk b hb i q1 q2 => ?_), by rw [hf 4 (by omega)]; exact h11, by rw [hf 4 (by omega)]; exact h12⟩
        obtain ⟨T, -, -, hI, -⟩ := h2
        obtain ⟨t, -, hb2, -⟩ := hI kk b hb
        exact hf i (by omega)
      exact fin_new k hJ2 (FrJ.of hf (by decide) (by decide)) (by rw [hs, if_pos hlt])
    · first | refine B_ifeq1 (pc2 := 25) (tgt := 35) dX7_feed_22 (by with_reducible rfl) (by decide) rfl ?_ | refine B_ifeq0 (tgt := 35) dX7_feed_22 (by with_reducible rfl) (by decide) ?_ | refine N_ifeq (pc2 := 25) (tgt := 35) dX7_feed_22 (by with_reducible rfl) (by decide) (by omega) rfl (fun c22 => ?_) (fun c22 => ?_) | refine T_ifeq (pc2 := 25) (tgt := 35) dX7_feed_22 (by decide) rfl (fun c22 => ?_) (fun c22 => ?_)
      refine T_ldc (pc2 := 37) dX7_feed_35 kcX7_116 rfl ?_
      refine T_iret dX7_feed_37 rfl rfl ?_
      exact fin_same k hI (by rw [hs, if_neg hge])
  · first | refine B_ifne1 (tgt := 14) dX7_feed_8 (by with_reducible rfl) (by decide) ?_ | refine B_ifne0 (pc2 := 11) (tgt := 14) dX7_feed_8 (by with_reducible rfl) (by decide) rfl ?_ | refine N_ifne (pc2 := 11) (tgt := 14) dX7_feed_8 (by with_reducible rfl) (by decide) (by omega) rfl (fun c8 => ?_) (fun c8 => ?_) | refine T_ifne (pc2 := 11) (tgt := 14) dX7_feed_8 (by decide) rfl (fun c8 => ?_) (fun c8 => ?_)
    refine T_ldc (pc2 := 13) dX7_feed_11 kcX7_66 rfl ?_
    refine T_iret dX7_feed_13 rfl rfl ?_
    refine fin_same k hI ?_
    unfold sFeed
    rw [inN_none (fun j hj => hno j (by omega))]
theorem j_fault (hI : JJ sk g n bf im above below nx s) (k : ∀ sk2 g2 n2, InvJ sk2 g2 n2 s → FrJ sk g sk2 g2 → Q (some (.int (nI s.lf))) (HP sk2 g2 n2)) : Calls MX7_fault d 0 0 [.ref 4] (HP sk g n) Q := by
  have S := hI.1
  have e := hI.2.2.2.2.2.2.2.2.2.2.1
  refine Calls.of (by decide +kernel) (Nat.le_of_ble_eq_true rfl) ?_
  refine T_aload_n (pc2 := 1) dX7_fault_0 rfl rfl ?_
  refine G_getI (pc2 := 4) dX7_fault_1 flX7_124 (sh4 S) rfl (by first | with_reducible assumption | exact gs_eq _ _ _ _ | exact (gs_ne _ _ (by omega)).trans (by with_reducible assumption) | exact (gs_ne _ _ (by omega)).trans (gs_eq _ _ _ _) | exact (gs_ne _ _ (by omega)).trans ((gs_ne _ _ (by omega)).trans (by with_reducible assumption)) | exact (gs_ne _ _ (by omega)).trans ((gs_ne _ _ (by omega)).trans (gs_eq _ _ _ _)) | exact (gs_ne _ _ (by omega)).trans ((gs_ne _ _ (by omega)).trans ((gs_ne _ _ (by omega)).trans (by with_reducible assumption))) | rfl) rfl ?_
  refine T_iret dX7_fault_4 rfl rfl ?_
  exact k sk g n ⟨_, _, _, _, _, hI⟩ FrJ.rf
theorem j_status (hI : JJ sk g n bf im above below nx s) (k : ∀ sk2 g2 n2, InvJ sk2 g2 n2 s → FrJ sk g sk2 g2 → Q (some (.int (nI s.fd))) (HP sk2 g2 n2)) : Calls MX7_status d 0 0 [.ref 4] (HP sk g n) Q := by
  have S := hI.1
  have e := hI.2.2.2.2.2.2.2.2.2.2.2
  refine Calls.of (by decide +kernel) (Nat.le_of_ble_eq_true rfl) ?_
  refine T_aload_n (pc2 := 1) dX7_status_0 rfl rfl ?_
  refine G_getI (pc2 := 4) dX7_status_1 flX7_301 (sh4 S) rfl (by first | with_reducible assumption | exact gs_eq _ _ _ _ | exact (gs_ne _ _ (by omega)).trans (by with_reducible assumption) | exact (gs_ne _ _ (by omega)).trans (gs_eq _ _ _ _) | exact (gs_ne _ _ (by omega)).trans ((gs_ne _ _ (by omega)).trans (by with_reducible assumption)) | exact (gs_ne _ _ (by omega)).trans ((gs_ne _ _ (by omega)).trans (gs_eq _ _ _ _)) | exact (gs_ne _ _ (by omega)).trans ((gs_ne _ _ (by omega)).trans ((gs_ne _ _ (by omega)).trans (by with_reducible assumption))) | rfl) rfl ?_
  refine T_iret dX7_status_4 rfl rfl ?_
  exact k sk g n ⟨_, _, _, _, _, hI⟩ FrJ.rf
end JRows

