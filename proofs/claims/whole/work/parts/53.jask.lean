/-! the class's calls: what is asked and foretold -/
def inP (v : Int32) (k : Nat) : Option Nat := match inN v (k + 1) with
  | some (z + 1) => some z
  | _ => none
theorem inP_some {z k : Nat} (h : z < k) (hk : k + 1 < 2 ^ 31) : inP (nI (z + 1)) k = some z := by
  unfold inP
  rw [inN_some (show z + 1 < k + 1 by omega) (by omega)]
theorem inP_none {v : Int32} {k : Nat} (h : ∀ z, z < k → v ≠ nI (z + 1)) : inP v k = none := by
  unfold inP
  cases q : inN v (k + 1) with
  | none => rfl
  | some w =>
    cases w with
    | zero => rfl
    | succ w =>
      have := inN_of q
      exact absurd this.2 (h w (by omega))
theorem inP_of {v : Int32} {k z : Nat} (h : inP v k = some z) : z < k ∧ v = nI (z + 1) := by
  unfold inP at h
  cases q : inN v (k + 1) with
  | none => rw [q] at h; cases h
  | some w =>
    rw [q] at h
    cases w with
    | zero => cases h
    | succ w =>
      cases h
      have := inN_of q
      exact ⟨by omega, this.2⟩
theorem inN_no {v : Int32} {k : Nat} (hk : k < 2 ^ 31) (h : inN v k = none) : ∀ j, j < k → v ≠ nI j := by
  intro j hj e
  subst e
  rw [inN_some hj hk] at h
  cases h
theorem nI_out {v : Int32} {k : Nat} (hk : k < 2 ^ 31) (h : ∀ j, j < k → v ≠ nI j) : v.toInt < 0 ∨ (k : Int) - 1 < v.toInt := by
  apply Classical.byContradiction
  intro hn
  have h0 : 0 ≤ v.toInt := by omega
  have h1 : v.toInt ≤ (k : Int) - 1 := by omega
  obtain ⟨j, hj, e⟩ := nI_of2 (x := v) (M := nI (k - 1)) (n := k - 1) (nI_toInt (by omega)) (by rw [Int32.lt_iff_toInt_lt]; show ¬ v.toInt < 0; omega) (by rw [Int32.le_iff_toInt_le, nI_toInt (by omega)]; omega)
  exact h j (by omega) e
theorem c_within1 {Q : Option Value → SH → Prop} {d : Nat} {h : SH} {v : Int32} {k : Nat} (hk : k < 2 ^ 31) (ht : ∀ z, z < k → v = nI (z + 1) → Q (some (.int (nI 1))) h) (hf : (∀ z, z < k → v ≠ nI (z + 1)) → Q (some (.int (nI 0))) h) : Calls MX7_within d 0 0 [.int v, .int (nI 1), .int (nI k)] h Q := by
  refine c_within (fun h1 h2 => ?_) (fun hno => ?_)
  · obtain ⟨yy, hyy, e⟩ := nI_of2 (x := v) (M := nI k) (n := k) (nI_toInt (by omega)) (Int32.not_lt.mpr (Int32.le_trans (by decide) h1)) h2
    subst e
    have h1 : 1 ≤ yy := (nI_leI (by decide) (by omega)).mp h1
    obtain ⟨z, rfl⟩ : ∃ z, yy = z + 1 := ⟨yy - 1, by omega⟩
    exact ht z (by omega) rfl
  · refine hf (fun z hz e => hno ?_)
    subst e
    exact ⟨nI_le (by omega) (by omega), nI_le (by omega) (by omega)⟩
theorem itr_cg {σ : Type} {f f2 : Nat → σ → σ} {s : σ} : ∀ m, (∀ k, k < m → f k = f2 k) → itr f s m = itr f2 s m
  | 0, _ => rfl
  | m + 1, h => by
    show f m (itr f s m) = f2 m (itr f2 s m)
    rw [itr_cg m (fun k hk => h k (by omega)), h m (by omega)]
theorem sg_cg {V : Cel} {it it2 : Nat → Int32} {m : Nat} (h : ∀ k, k < m → it k = it2 k) : V.sg it m = V.sg it2 m := by
  unfold Cel.sg
  refine itr_cg m (fun k hk => ?_)
  funext z
  unfold sgf
  rw [h k hk]
theorem fitsB_cg {V : Cel} {w : Nat → Bool} {p : Nat} {it it2 : Nat → Int32} : ∀ m, (∀ k, k < m → it k = it2 k) → fitsB V w p it m = fitsB V w p it2 m
  | 0, _ => rfl
  | m + 1, h => by
    show (fitsB V w p it m && _) = (fitsB V w p it2 m && _)
    rw [fitsB_cg m (fun k hk => h k (by omega)), h m (by omega)]
def allB (f : Nat → Bool) : Nat → Bool
  | 0 => true
  | k + 1 => allB f k && f k
theorem allB_true {f : Nat → Bool} : ∀ m, (∀ t, t < m → f t = true) → allB f m = true
  | 0, _ => rfl
  | m + 1, h => by
    show (allB f m && f m) = true
    rw [allB_true m (fun t ht => h t (by omega)), h m (by omega)]
    rfl
theorem allB_false {f : Nat → Bool} : ∀ m t, t < m → f t = false → allB f m = false
  | 0, t, h, _ => absurd h (Nat.not_lt_zero t)
  | m + 1, t, h, e => by
    show (allB f m && f m) = false
    by_cases q : t = m
    · subst q
      rw [e, Bool.and_false]
    · rw [allB_false m t (by omega) e]
      rfl
def ntB (v : Int32) : Bool := (inN v 12).isSome
def Cel.fld (V : Cel) (j w : Nat) : Nat := if w = 0 then V.nt j else if w = 1 then V.kp j else if w = 2 then V.pl j else V.hw j
def isaN (kd k : Nat) : Bool := decide (k = 0) || decide (kd = k) || (decide (k = 1) && decide (kd < 4)) || (decide (k = 4) && decide (kd = 5))
def sJar (s : ST) (j w : Int32) : Int32 × ST := match inN j s.V.J, inN w 4 with
  | some j, some w => (nI (s.V.fld j w), s)
  | _, _ => (BAD, s)
def sStand (s : ST) (h : Int32) : Int32 × ST := if s.V.J = 0 then (STATE, s) else match inN h 4 with
  | none => (BAD, s)
  | some h => (nI (bm (s.V.th h) 8), s)
def sChain (s : ST) (nt p w : Int32) : Int32 × ST := match inN nt 12, inN p s.V.J, inN w 2 with
  | some nt, some p, some w => (if w = 0 then nI (bm (s.V.brk nt p (s.V.th 0)) 8) else nI (s.V.chn nt p (s.V.th 0)).2, s)
  | _, _, _ => (BAD, s)
def q2 (s : ST) (w a b : Int32) : Int32 × ST := if s.V.J = 0 then (STATE, s) else match inN w 2 with
  | none => (BAD, s)
  | some w => (if w = 0 then a else b, s)
def sWorst (s : ST) (w : Int32) : Int32 × ST := q2 s w (nI (100 * (s.V.mx (s.V.th 0)).2.1 + (s.V.mx (s.V.th 0)).2.2)) (nI (s.V.wv (s.V.th 0)))
def sChanges (s : ST) (w : Int32) : Int32 × ST := q2 s w (oN s.V.ch.2) (oN (s.V.ch.2.map fun _ => s.V.ch.1))
def sSpared (s : ST) (w : Int32) : Int32 × ST := q2 s w (oN s.V.sp.2) (oN (s.V.sp.2.map fun _ => s.V.sp.1))
def sAlike (s : ST) (w : Int32) : Int32 × ST := q2 s w (nI s.V.al.1) (oN s.V.al.2)
def sWhen (s : ST) (j : Int32) : Int32 × ST := match inN j s.V.J with
  | none => (BAD, s)
  | some j => (if s.V.hw j = 0 then nI (s.V.kp j) else if s.V.hw j = 2 then nI 0 else NONE, s)
def sKept (s : ST) (m : Int32) : Int32 × ST := if s.V.J = 0 then (STATE, s) else match inN m 61 with
  | none => (BAD, s)
  | some m => (nI (bm (s.V.kept m) 8), s)
def sGuard (s : ST) (nt p k w : Int32) : Int32 × ST := match inN nt 12, inN p s.V.J, inN k 9, inN w 2 with
  | some nt, some p, some k, some w => (if w = 0 then nI (s.V.gd (s.V.th 0) nt p k).1 else nI (s.V.gd (s.V.th 0) nt p k).2, s)
  | _, _, _, _ => (BAD, s)
def sTuned (s : ST) (j w : Int32) : Int32 × ST := match inN j s.V.J, inN w 2 with
  | some j, some w => (if w = 0 then nI (s.V.tn j).2 else nI (s.V.tn j).1, s)
  | _, _ => (BAD, s)
def rowF (s : ST) (r : Nat) (i : Int32) (m : Nat) (f : Nat → Int32 × ST) : Int32 × ST := if s.A.1 r = false then (fnd 1, s.setfd 1) else match hN i (nI m) (s.A.2.2.1 r) with
  | none => (fnd 2, s.setfd 2)
  | some q => f q.1
def sSong (s : ST) (w r i m : Int32) : Int32 × ST := if s.V.J = 0 then (STATE, s) else match inN w 2, inN r 8, inP m 12 with
  | some w, some r, some m => rowF s r i (m + 1) (fun a => if allB (fun t => ntB (s.A.2.2.2 r (a + t))) (m + 1) then (if w = 0 then nI (bm (s.V.sg (fun t => s.A.2.2.2 r (a + t)) (m + 1)).2.1 8) else nI (s.V.sg (fun t => s.A.2.2.2 r (a + t)) (m + 1)).2.2, s.setfd 0) else (fnd 3, s.setfd 3))
  | _, _, _ => (BAD, s)
def sWho (s : ST) (j wh p r i m : Int32) : Int32 × ST := match inN j s.V.J, inN wh 2, inN p s.V.J, inN r 8, inP m 12 with
  | some j, some wh, some p, some r, some m => rowF s r i (m + 1) (fun a => (if wh = 0 then nI (bm (s.V.fitK j p (m + 1) (fun t => s.A.2.2.2 r (a + t))) 6) else nI (bm (s.V.fitN j p (m + 1) (fun t => s.A.2.2.2 r (a + t))) 12), s.setfd 0))
  | _, _, _, _, _ => (BAD, s)
def sReaches (s : ST) (p r i m : Int32) : Int32 × ST := match inN p s.V.J, inN r 8, inP m 12 with
  | some p, some r, some m => rowF s r i (m + 1) (fun a => (nI (bm (s.V.fitR p (m + 1) (fun t => s.A.2.2.2 r (a + t))) 9), s.setfd 0))
  | _, _, _ => (BAD, s)
def sMould (s : ST) (j nt p c w : Int32) : Int64 × ST := match inN j s.V.J, inN nt 12, inN p s.V.J, inN c 11, inN w 2 with
  | some j, some nt, some p, some c, some w => (if w = 0 then lN (s.V.mdA j nt p c / Nat.gcd (s.V.mdA j nt p c) s.V.mdB) else lN (s.V.mdB / Nat.gcd (s.V.mdA j nt p c) s.V.mdB), s)
  | _, _, _, _, _ => (-1000001, s)
def sDrawn (s : ST) (m x w : Int32) : Int32 × ST := if s.V.J = 0 then (STATE, s) else match inN m 61, inP x 999999, inN w 2 with
  | some m, some x, some w => (if w = 0 then nI (bm ((s.V.vn (x + 1) m).2.th 0) 8) else nI (ct ((s.V.vn (x + 1) m).2.th 1) 8), s)
  | _, _, _ => (BAD, s)
def sKind (s : ST) (j : Int32) : Int32 × ST := match inN j s.V.J with
  | none => (BAD, s)
  | some j => (nI (s.V.kd j), s)
def sAs (s : ST) (j k : Int32) : Int32 × ST := match inN j s.V.J, inN k 6 with
  | some j, some k => if isaN (s.V.kd j) k then (nI j, s.setfd 0) else (fnd 3, s.setfd 3)
  | _, _ => (BAD, s)
def sAsk (s : ST) (j w : Int32) : Int32 × ST := match inN j s.V.J, inN w 2 with
  | some j, some w => (if w = 0 then szV (s.V.kd j) j (s.V.nt j) (s.V.kp j) else mkV (s.V.kd j) j (s.V.nt j) (s.V.kp j), s.settr (if w = 0 then szL (s.V.kd j) else mkL (s.V.kd j)))
  | _, _ => (BAD, s)
def sTrace (s : ST) (i : Int32) : Int32 × ST := match inN i s.tr.length with
  | none => (NONE, s)
  | some i => (nI (s.tr.getD i 0), s)
def sCount (s : ST) (w : Int32) : Int32 × ST := match inN w 8 with
  | none => (BAD, s)
  | some w => (nI (if w = 0 then ct s.A.1 8 else if w = 1 then s.V.J else if w = 2 then s.V.Y else if w = 3 then s.V.R else if w = 4 then ct (s.V.th 0) 8 else if w = 5 then ct (s.V.th 1) 8 else if w = 6 then s.an else s.sz), s)
section JAsk
variable {sk : Nat → SK} {g : Nat → Nat → Int32} {n : Nat} {Q : Option Value → SH → Prop} {d kc ks : Nat} {bf im : Nat → Option Nat} {above below : Int64} {nx : Nat} {s : ST}
theorem j_jar {j w : Int32} (hI : JJ sk g n bf im above below nx s) (hok : Ok s) (k : ∀ sk2 g2 n2, InvJ sk2 g2 n2 (sJar s j w).2 → FrJ sk g sk2 g2 → Q (some (.int (sJar s j w).1)) (HP sk2 g2 n2)) : Calls MX7_jar (d + 2) 0 0 [.ref 4, .int j, .int w] (HP sk g n) Q := by
  have S := hI.1
  have hV := hI.2.2.2.2.2.1
  have hokV := hok.2.2.1.1
  have hJ8 := hokV.1
  refine Calls.of (by decide +kernel) (Nat.le_of_ble_eq_true rfl) ?_
  refine T_aload_n (pc2 := 1) dX7_jar_0 rfl rfl ?_
  refine T_iload_n (pc2 := 2) dX7_jar_1 rfl rfl ?_
  refine C_V1 (pc2 := 5) (mc := 0) (ms := 0) dX7_jar_2 cvX7_isJar mlX7_174 (isO.h (sh4 S) _) (Nat.le_of_ble_eq_true rfl) rfl ?_
  refine c_isJar S hV.1 hokV.1 (fun i hi ei => ?_) (fun hno => ?_)
  · subst ei
    have eh := hV.2.2.2 i hi
    have e1 := eh.2.1
    have e2 := eh.2.2.1
    have e3 := eh.2.2.2.1
    have e4 := eh.2.2.2.2
    first | refine B_ifne1 (tgt := 11) dX7_jar_5 (by with_reducible rfl) (by decide) ?_ | refine B_ifne0 (pc2 := 8) (tgt := 11) dX7_jar_5 (by with_reducible rfl) (by decide) rfl ?_ | refine N_ifne (pc2 := 8) (tgt := 11) dX7_jar_5 (by with_reducible rfl) (by decide) (by omega) rfl (fun c5 => ?_) (fun c5 => ?_) | refine T_ifne (pc2 := 8) (tgt := 11) dX7_jar_5 (by decide) rfl (fun c5 => ?_) (fun c5 => ?_)
    have hs : sJar s (nI i) w = match inN w 4 with
        | some w => (nI (s.V.fld i w), s)
        | none => (BAD, s) := by
      unfold sJar
      rw [inN_some hi (by omega)]
      cases inN w 4 <;> rfl
    cases q : inN w 4 with
    | none =>
      refine T_iload_n (pc2 := 12) dX7_jar_11 rfl rfl ?_
      refine T_tableOut (tgt := 84) dX7_jar_12 (nI_out (k := 4) (by decide) (inN_no (by decide) q)) (by decide) ?_
      refine T_ldc (pc2 := 86) dX7_jar_84 kcX7_66 rfl ?_
      refine T_iret dX7_jar_86 rfl rfl ?_
      exact fin_same k hI (by rw [hs, q])
    | some x =>
      obtain ⟨h4, e⟩ := inN_of q
      subst e
      rcases (by omega : x = 0 ∨ x = 1 ∨ x = 2 ∨ x = 3) with e | e | e | e
      · subst e
        refine T_iload_n (pc2 := 12) dX7_jar_11 rfl rfl ?_
        refine T_tableIn (off := 32) (tgt := 44) dX7_jar_12 (by decide) (by decide) (by decide) (by decide) ?_
        refine T_aload_n (pc2 := 45) dX7_jar_44 rfl rfl ?_
        refine G_getR (pc2 := 48) dX7_jar_45 flX7_26 (sh4 S) rfl rfl ?_
        refine G_getR (pc2 := 51) dX7_jar_48 flX7_180 (sc20 S).1 rfl rfl ?_
        refine T_iload_n (pc2 := 52) dX7_jar_51 rfl rfl ?_
        refine G_iald (pc2 := 53) dX7_jar_52 (sc20 S).2.2.1 (by omega) (by first | decide | omega) (by first | with_reducible assumption | exact gs_eq _ _ _ _ | exact (gs_ne _ _ (by omega)).trans (by with_reducible assumption) | exact (gs_ne _ _ (by omega)).trans (gs_eq _ _ _ _) | exact (gs_ne _ _ (by omega)).trans ((gs_ne _ _ (by omega)).trans (by with_reducible assumption)) | exact (gs_ne _ _ (by omega)).trans ((gs_ne _ _ (by omega)).trans (gs_eq _ _ _ _)) | exact (gs_ne _ _ (by omega)).trans ((gs_ne _ _ (by omega)).trans ((gs_ne _ _ (by omega)).trans (by with_reducible assumption))) | rfl) rfl ?_
        refine T_iret dX7_jar_53 rfl rfl ?_
        exact fin_same k hI (by rw [hs, q]; rfl)
      · subst e
        refine T_iload_n (pc2 := 12) dX7_jar_11 rfl rfl ?_
        refine T_tableIn (off := 42) (tgt := 54) dX7_jar_12 (by decide) (by decide) (by decide) (by decide) ?_
        refine T_aload_n (pc2 := 55) dX7_jar_54 rfl rfl ?_
        refine G_getR (pc2 := 58) dX7_jar_55 flX7_26 (sh4 S) rfl rfl ?_
        refine G_getR (pc2 := 61) dX7_jar_58 flX7_193 (sc20 S).1 rfl rfl ?_
        refine T_iload_n (pc2 := 62) dX7_jar_61 rfl rfl ?_
        refine G_iald (pc2 := 63) dX7_jar_62 (sc20 S).2.2.2.1 (by omega) (by first | decide | omega) (by first | with_reducible assumption | exact gs_eq _ _ _ _ | exact (gs_ne _ _ (by omega)).trans (by with_reducible assumption) | exact (gs_ne _ _ (by omega)).trans (gs_eq _ _ _ _) | exact (gs_ne _ _ (by omega)).trans ((gs_ne _ _ (by omega)).trans (by with_reducible assumption)) | exact (gs_ne _ _ (by omega)).trans ((gs_ne _ _ (by omega)).trans (gs_eq _ _ _ _)) | exact (gs_ne _ _ (by omega)).trans ((gs_ne _ _ (by omega)).trans ((gs_ne _ _ (by omega)).trans (by with_reducible assumption))) | rfl) rfl ?_
        refine T_iret dX7_jar_63 rfl rfl ?_
        exact fin_same k hI (by rw [hs, q]; rfl)
      · subst e
        refine T_iload_n (pc2 := 12) dX7_jar_11 rfl rfl ?_
        refine T_tableIn (off := 52) (tgt := 64) dX7_jar_12 (by decide) (by decide) (by decide) (by decide) ?_
        refine T_aload_n (pc2 := 65) dX7_jar_64 rfl rfl ?_
        refine G_getR (pc2 := 68) dX7_jar_65 flX7_26 (sh4 S) rfl rfl ?_
        refine G_getR (pc2 := 71) dX7_jar_68 flX7_187 (sc20 S).1 rfl rfl ?_
        refine T_iload_n (pc2 := 72) dX7_jar_71 rfl rfl ?_
        refine G_iald (pc2 := 73) dX7_jar_72 (sc20 S).2.2.2.2.1 (by omega) (by first | decide | omega) (by first | with_reducible assumption | exact gs_eq _ _ _ _ | exact (gs_ne _ _ (by omega)).trans (by with_reducible assumption) | exact (gs_ne _ _ (by omega)).trans (gs_eq _ _ _ _) | exact (gs_ne _ _ (by omega)).trans ((gs_ne _ _ (by omega)).trans (by with_reducible assumption)) | exact (gs_ne _ _ (by omega)).trans ((gs_ne _ _ (by omega)).trans (gs_eq _ _ _ _)) | exact (gs_ne _ _ (by omega)).trans ((gs_ne _ _ (by omega)).trans ((gs_ne _ _ (by omega)).trans (by with_reducible assumption))) | rfl) rfl ?_
        refine T_iret dX7_jar_73 rfl rfl ?_
        exact fin_same k hI (by rw [hs, q]; rfl)
      · subst e
        refine T_iload_n (pc2 := 12) dX7_jar_11 rfl rfl ?_
        refine T_tableIn (off := 62) (tgt := 74) dX7_jar_12 (by decide) (by decide) (by decide) (by decide) ?_
        refine T_aload_n (pc2 := 75) dX7_jar_74 rfl rfl ?_
        refine G_getR (pc2 := 78) dX7_jar_75 flX7_26 (sh4 S) rfl rfl ?_
        refine G_getR (pc2 := 81) dX7_jar_78 flX7_177 (sc20 S).1 rfl rfl ?_
        refine T_iload_n (pc2 := 82) dX7_jar_81 rfl rfl ?_
        refine G_iald (pc2 := 83) dX7_jar_82 (sc20 S).2.2.2.2.2 (by omega) (by first | decide | omega) (by first | with_reducible assumption | exact gs_eq _ _ _ _ | exact (gs_ne _ _ (by omega)).trans (by with_reducible assumption) | exact (gs_ne _ _ (by omega)).trans (gs_eq _ _ _ _) | exact (gs_ne _ _ (by omega)).trans ((gs_ne _ _ (by omega)).trans (by with_reducible assumption)) | exact (gs_ne _ _ (by omega)).trans ((gs_ne _ _ (by omega)).trans (gs_eq _ _ _ _)) | exact (gs_ne _ _ (by omega)).trans ((gs_ne _ _ (by omega)).trans ((gs_ne _ _ (by omega)).trans (by with_reducible assumption))) | rfl) rfl ?_
        refine T_iret dX7_jar_83 rfl rfl ?_
        exact fin_same k hI (by rw [hs, q]; rfl)
  · first | refine B_ifne1 (tgt := 11) dX7_jar_5 (by with_reducible rfl) (by decide) ?_ | refine B_ifne0 (pc2 := 8) (tgt := 11) dX7_jar_5 (by with_reducible rfl) (by decide) rfl ?_ | refine N_ifne (pc2 := 8) (tgt := 11) dX7_jar_5 (by with_reducible rfl) (by decide) (by omega) rfl (fun c5 => ?_) (fun c5 => ?_) | refine T_ifne (pc2 := 8) (tgt := 11) dX7_jar_5 (by decide) rfl (fun c5 => ?_) (fun c5 => ?_)
    refine T_ldc (pc2 := 10) dX7_jar_8 kcX7_66 rfl ?_
    refine T_iret dX7_jar_10 rfl rfl ?_
    refine fin_same k hI ?_
    unfold sJar
    rw [inN_none hno]
theorem j_stand {h : Int32} (hI : JJ sk g n bf im above below nx s) (hok : Ok s) (k : ∀ sk2 g2 n2, InvJ sk2 g2 n2 (sStand s h).2 → FrJ sk g sk2 g2 → Q (some (.int (sStand s h).1)) (HP sk2 g2 n2)) : Calls MX7_stand (d + 2) 0 0 [.ref 4, .int h] (HP sk g n) Q := by
  have S := hI.1
  have hV := hI.2.2.2.2.2.1
  have hokV := hok.2.2.1.1
  have hJ8 := hokV.1
  refine Calls.of (by decide +kernel) (Nat.le_of_ble_eq_true rfl) ?_
  refine T_aload_n (pc2 := 1) dX7_stand_0 rfl rfl ?_
  refine C_V0 (pc2 := 4) (mc := 0) (ms := 0) dX7_stand_1 cvX7_noCellar mlX7_146 (isO.h (sh4 S) _) (Nat.le_of_ble_eq_true rfl) rfl ?_
  refine c_noCellar S hV.1 hokV.1 (fun h0 => ?_) (fun h0 => ?_)
  · first | refine B_ifeq1 (pc2 := 7) (tgt := 10) dX7_stand_4 (by with_reducible rfl) (by decide) rfl ?_ | refine B_ifeq0 (tgt := 10) dX7_stand_4 (by with_reducible rfl) (by decide) ?_ | refine N_ifeq (pc2 := 7) (tgt := 10) dX7_stand_4 (by with_reducible rfl) (by decide) (by omega) rfl (fun c4 => ?_) (fun c4 => ?_) | refine T_ifeq (pc2 := 7) (tgt := 10) dX7_stand_4 (by decide) rfl (fun c4 => ?_) (fun c4 => ?_)
    refine T_ldc (pc2 := 9) dX7_stand_7 kcX7_145 rfl ?_
    refine T_iret dX7_stand_9 rfl rfl ?_
    exact fin_same k hI (if_pos h0)
  · first | refine B_ifeq1 (pc2 := 7) (tgt := 10) dX7_stand_4 (by with_reducible rfl) (by decide) rfl ?_ | refine B_ifeq0 (tgt := 10) dX7_stand_4 (by with_reducible rfl) (by decide) ?_ | refine N_ifeq (pc2 := 7) (tgt := 10) dX7_stand_4 (by with_reducible rfl) (by decide) (by omega) rfl (fun c4 => ?_) (fun c4 => ?_) | refine T_ifeq (pc2 := 7) (tgt := 10) dX7_stand_4 (by decide) rfl (fun c4 => ?_) (fun c4 => ?_)
    refine T_iload_n (pc2 := 11) dX7_stand_10 rfl rfl ?_
    refine T_iconst (pc2 := 12) dX7_stand_11 ic0 rfl ?_
    refine T_iconst (pc2 := 13) dX7_stand_12 ic3 rfl ?_
    refine C_S3 (pc2 := 16) (mc := 0) (ms := 0) dX7_stand_13 csX7_within mlX7_62 (Nat.le_of_ble_eq_true rfl) rfl ?_
    refine c_withinI (by decide) (fun x hx ex => ?_) (fun hno => ?_)
    · subst ex
      first | refine B_ifeq1 (pc2 := 19) (tgt := 30) dX7_stand_16 (by with_reducible rfl) (by decide) rfl ?_ | refine B_ifeq0 (tgt := 30) dX7_stand_16 (by with_reducible rfl) (by decide) ?_ | refine N_ifeq (pc2 := 19) (tgt := 30) dX7_stand_16 (by with_reducible rfl) (by decide) (by omega) rfl (fun c16 => ?_) (fun c16 => ?_) | refine T_ifeq (pc2 := 19) (tgt := 30) dX7_stand_16 (by decide) rfl (fun c16 => ?_) (fun c16 => ?_)
      refine T_aload_n (pc2 := 20) dX7_stand_19 rfl rfl ?_
      refine G_getR (pc2 := 23) dX7_stand_20 flX7_26 (sh4 S) rfl rfl ?_
      refine T_iload_n (pc2 := 24) dX7_stand_23 rfl rfl ?_
      refine C_V1 (pc2 := 27) (mc := 0) (ms := 0) dX7_stand_24 cvX2_those mlX7_159 (isO.h (sc20 S).1 _) (Nat.le_of_ble_eq_true rfl) rfl ?_
      refine c_those (sc20 S) hV hokV.1 (by omega) (fun i hi => ?_) ?_
      · have := (hokV.2.2.2.1 i hi).2.2.2.2.2.2
        omega
      · refine T_goto (tgt := 32) dX7_stand_27 (by decide) ?_
        refine T_iret dX7_stand_32 rfl rfl ?_
        refine fin_same k hI ?_
        unfold sStand
        rw [if_neg (by omega), inN_some (show x < 4 by omega) (by decide)]
    · first | refine B_ifeq1 (pc2 := 19) (tgt := 30) dX7_stand_16 (by with_reducible rfl) (by decide) rfl ?_ | refine B_ifeq0 (tgt := 30) dX7_stand_16 (by with_reducible rfl) (by decide) ?_ | refine N_ifeq (pc2 := 19) (tgt := 30) dX7_stand_16 (by with_reducible rfl) (by decide) (by omega) rfl (fun c16 => ?_) (fun c16 => ?_) | refine T_ifeq (pc2 := 19) (tgt := 30) dX7_stand_16 (by decide) rfl (fun c16 => ?_) (fun c16 => ?_)
      refine T_ldc (pc2 := 32) dX7_stand_30 kcX7_66 rfl ?_
      refine T_iret dX7_stand_32 rfl rfl ?_
      refine fin_same k hI ?_
      unfold sStand
      rw [if_neg (by omega), inN_none (fun j hj => hno j (by omega))]
theorem j_chain {nt p w : Int32} (hI : JJ sk g n bf im above below nx s) (hok : Ok s) (k : ∀ sk2 g2 n2, InvJ sk2 g2 n2 (sChain s nt p w).2 → FrJ sk g sk2 g2 → Q (some (.int (sChain s nt p w).1)) (HP sk2 g2 n2)) : Calls MX7_chain (d + 4) 0 0 [.ref 4, .int nt, .int p, .int w] (HP sk g n) Q := by
  have S := hI.1
  have hV := hI.2.2.2.2.2.1
  have hokV := hok.2.2.1.1
  have hJ8 := hokV.1
  refine Calls.of (by decide +kernel) (Nat.le_of_ble_eq_true rfl) ?_
  refine T_aload_n (pc2 := 1) dX7_chain_0 rfl rfl ?_
  refine T_iload_n (pc2 := 2) dX7_chain_1 rfl rfl ?_
  refine T_iload_n (pc2 := 3) dX7_chain_2 rfl rfl ?_
  refine C_V2 (pc2 := 6) (mc := 0) (ms := 0) dX7_chain_3 cvX7_isSneeze mlX7_162 (isO.h (sh4 S) _) (Nat.le_of_ble_eq_true rfl) rfl ?_
  refine c_isSneeze S hV.1 hokV.1 (fun a j ha ea hj ej => ?_) (fun hno => ?_)
  · subst ea
    subst ej
    first | refine B_ifeq1 (pc2 := 9) (tgt := 16) dX7_chain_6 (by with_reducible rfl) (by decide) rfl ?_ | refine B_ifeq0 (tgt := 16) dX7_chain_6 (by with_reducible rfl) (by decide) ?_ | refine N_ifeq (pc2 := 9) (tgt := 16) dX7_chain_6 (by with_reducible rfl) (by decide) (by omega) rfl (fun c6 => ?_) (fun c6 => ?_) | refine T_ifeq (pc2 := 9) (tgt := 16) dX7_chain_6 (by decide) rfl (fun c6 => ?_) (fun c6 => ?_)
    refine T_iload_n (pc2 := 10) dX7_chain_9 rfl rfl ?_
    refine C_S1 (pc2 := 13) (mc := 0) (ms := 0) dX7_chain_10 csX7_isHalf mlX7_199 (Nat.le_of_ble_eq_true rfl) rfl ?_
    refine c_isHalf (fun x hx ex => ?_) (fun hno => ?_)
    · subst ex
      have hs : sChain s (nI a) (nI j) (nI x) = (if x = 0 then nI (bm (s.V.brk a j (s.V.th 0)) 8) else nI (s.V.chn a j (s.V.th 0)).2, s) := by
        unfold sChain
        rw [inN_some ha (by decide), inN_some hj (by omega), inN_some hx (by decide)]
      first | refine B_ifne1 (tgt := 19) dX7_chain_13 (by with_reducible rfl) (by decide) ?_ | refine B_ifne0 (pc2 := 16) (tgt := 19) dX7_chain_13 (by with_reducible rfl) (by decide) rfl ?_ | refine N_ifne (pc2 := 16) (tgt := 19) dX7_chain_13 (by with_reducible rfl) (by decide) (by omega) rfl (fun c13 => ?_) (fun c13 => ?_) | refine T_ifne (pc2 := 16) (tgt := 19) dX7_chain_13 (by decide) rfl (fun c13 => ?_) (fun c13 => ?_)
      refine T_aload_n (pc2 := 20) dX7_chain_19 rfl rfl ?_
      refine G_getR (pc2 := 23) dX7_chain_20 flX7_43 (sh4 S) rfl rfl ?_
      refine T_aload_n (pc2 := 24) dX7_chain_23 rfl rfl ?_
      refine G_getR (pc2 := 27) dX7_chain_24 flX7_26 (sh4 S) rfl rfl ?_
      refine T_iload_n (pc2 := 28) dX7_chain_27 rfl rfl ?_
      refine T_iload_n (pc2 := 29) dX7_chain_28 rfl rfl ?_
      refine C_V3 (pc2 := 32) (mc := 0) (ms := 0) dX7_chain_29 cvX4_brokenBy mlX7_166 (isO.h (sh34 S) _) (Nat.le_of_ble_eq_true rfl) rfl ?_
      refine c_brokenBy S (sc20 S) (by omega) hV hokV ha hj (fun g2 e5 hf2 => ?_)
      refine T_istore (pc2 := 34) dX7_chain_32 (by decide) rfl ?_
      refine T_iload_n (pc2 := 35) dX7_chain_34 rfl rfl ?_
      first | refine B_ifne1 (tgt := 43) dX7_chain_35 (by with_reducible rfl) (by decide) ?_ | refine B_ifne0 (pc2 := 38) (tgt := 43) dX7_chain_35 (by with_reducible rfl) (by decide) rfl ?_ | refine N_ifne (pc2 := 38) (tgt := 43) dX7_chain_35 (by with_reducible rfl) (by decide) (by omega) rfl (fun c35 => ?_) (fun c35 => ?_) | refine T_ifne (pc2 := 38) (tgt := 43) dX7_chain_35 (by decide) rfl (fun c35 => ?_) (fun c35 => ?_)
      · refine T_aload_n (pc2 := 44) dX7_chain_43 rfl rfl ?_
        refine G_getR (pc2 := 47) dX7_chain_44 flX7_43 (sh4 S) rfl rfl ?_
        refine G_getR (pc2 := 50) dX7_chain_47 flX7_202 (sh34 S) rfl rfl ?_
        refine G_getI (pc2 := 53) dX7_chain_50 flX7_206 (sh35 S) rfl (by first | with_reducible assumption | exact gs_eq _ _ _ _ | exact (gs_ne _ _ (by omega)).trans (by with_reducible assumption) | exact (gs_ne _ _ (by omega)).trans (gs_eq _ _ _ _) | exact (gs_ne _ _ (by omega)).trans ((gs_ne _ _ (by omega)).trans (by with_reducible assumption)) | exact (gs_ne _ _ (by omega)).trans ((gs_ne _ _ (by omega)).trans (gs_eq _ _ _ _)) | exact (gs_ne _ _ (by omega)).trans ((gs_ne _ _ (by omega)).trans ((gs_ne _ _ (by omega)).trans (by with_reducible assumption))) | rfl) rfl ?_
        refine T_iret dX7_chain_53 rfl rfl ?_
        exact fin_new k (hI.scr hf2) (FrJ.of hf2 (by decide) (by decide)) (by rw [hs, if_neg c35])
      · refine T_iload (pc2 := 40) dX7_chain_38 rfl rfl ?_
        refine T_goto (tgt := 53) dX7_chain_40 (by decide) ?_
        refine T_iret dX7_chain_53 rfl rfl ?_
        exact fin_new k (hI.scr hf2) (FrJ.of hf2 (by decide) (by decide)) (by rw [hs, if_pos c35])
    · first | refine B_ifne1 (tgt := 19) dX7_chain_13 (by with_reducible rfl) (by decide) ?_ | refine B_ifne0 (pc2 := 16) (tgt := 19) dX7_chain_13 (by with_reducible rfl) (by decide) rfl ?_ | refine N_ifne (pc2 := 16) (tgt := 19) dX7_chain_13 (by with_reducible rfl) (by decide) (by omega) rfl (fun c13 => ?_) (fun c13 => ?_) | refine T_ifne (pc2 := 16) (tgt := 19) dX7_chain_13 (by decide) rfl (fun c13 => ?_) (fun c13 => ?_)
      refine T_ldc (pc2 := 18) dX7_chain_16 kcX7_66 rfl ?_
      refine T_iret dX7_chain_18 rfl rfl ?_
      refine fin_same k hI ?_
      unfold sChain
      rw [inN_none hno]
      cases inN (nI a) 12 <;> cases inN (nI j) s.V.J <;> rfl
  · first | refine B_ifeq1 (pc2 := 9) (tgt := 16) dX7_chain_6 (by with_reducible rfl) (by decide) rfl ?_ | refine B_ifeq0 (tgt := 16) dX7_chain_6 (by with_reducible rfl) (by decide) ?_ | refine N_ifeq (pc2 := 9) (tgt := 16) dX7_chain_6 (by with_reducible rfl) (by decide) (by omega) rfl (fun c6 => ?_) (fun c6 => ?_) | refine T_ifeq (pc2 := 9) (tgt := 16) dX7_chain_6 (by decide) rfl (fun c6 => ?_) (fun c6 => ?_)
    refine T_ldc (pc2 := 18) dX7_chain_16 kcX7_66 rfl ?_
    refine T_iret dX7_chain_18 rfl rfl ?_
    refine fin_same k hI ?_
    unfold sChain
    rcases hno with q | q
    · rw [inN_none q]
    · rw [inN_none q]
      cases inN nt 12 <;> rfl
theorem j_worst {w : Int32} (hI : JJ sk g n bf im above below nx s) (hok : Ok s) (k : ∀ sk2 g2 n2, InvJ sk2 g2 n2 (sWorst s w).2 → FrJ sk g sk2 g2 → Q (some (.int (sWorst s w).1)) (HP sk2 g2 n2)) : Calls MX7_worst (d + 5) 0 0 [.ref 4, .int w] (HP sk g n) Q := by
  have S := hI.1
  have hV := hI.2.2.2.2.2.1
  have hokV := hok.2.2.1.1
  have hJ8 := hokV.1
  refine Calls.of (by decide +kernel) (Nat.le_of_ble_eq_true rfl) ?_
  refine T_aload_n (pc2 := 1) dX7_worst_0 rfl rfl ?_
  refine C_V0 (pc2 := 4) (mc := 0) (ms := 0) dX7_worst_1 cvX7_noCellar mlX7_146 (isO.h (sh4 S) _) (Nat.le_of_ble_eq_true rfl) rfl ?_
  refine c_noCellar S hV.1 hokV.1 (fun h0 => ?_) (fun h0 => ?_)
  · first | refine B_ifeq1 (pc2 := 7) (tgt := 10) dX7_worst_4 (by with_reducible rfl) (by decide) rfl ?_ | refine B_ifeq0 (tgt := 10) dX7_worst_4 (by with_reducible rfl) (by decide) ?_ | refine N_ifeq (pc2 := 7) (tgt := 10) dX7_worst_4 (by with_reducible rfl) (by decide) (by omega) rfl (fun c4 => ?_) (fun c4 => ?_) | refine T_ifeq (pc2 := 7) (tgt := 10) dX7_worst_4 (by decide) rfl (fun c4 => ?_) (fun c4 => ?_)
    refine T_ldc (pc2 := 9) dX7_worst_7 kcX7_145 rfl ?_
    refine T_iret dX7_worst_9 rfl rfl ?_
    exact fin_same k hI (if_pos h0)
  · first | refine B_ifeq1 (pc2 := 7) (tgt := 10) dX7_worst_4 (by with_reducible rfl) (by decide) rfl ?_ | refine B_ifeq0 (tgt := 10) dX7_worst_4 (by with_reducible rfl) (by decide) ?_ | refine N_ifeq (pc2 := 7) (tgt := 10) dX7_worst_4 (by with_reducible rfl) (by decide) (by omega) rfl (fun c4 => ?_) (fun c4 => ?_) | refine T_ifeq (pc2 := 7) (tgt := 10) dX7_worst_4 (by decide) rfl (fun c4 => ?_) (fun c4 => ?_)
    refine T_iload_n (pc2 := 11) dX7_worst_10 rfl rfl ?_
    refine C_S1 (pc2 := 14) (mc := 0) (ms := 0) dX7_worst_11 csX7_isHalf mlX7_199 (Nat.le_of_ble_eq_true rfl) rfl ?_
    refine c_isHalf (fun x hx ex => ?_) (fun hno => ?_)
    · subst ex
      first | refine B_ifne1 (tgt := 20) dX7_worst_14 (by with_reducible rfl) (by decide) ?_ | refine B_ifne0 (pc2 := 17) (tgt := 20) dX7_worst_14 (by with_reducible rfl) (by decide) rfl ?_ | refine N_ifne (pc2 := 17) (tgt := 20) dX7_worst_14 (by with_reducible rfl) (by decide) (by omega) rfl (fun c14 => ?_) (fun c14 => ?_) | refine T_ifne (pc2 := 17) (tgt := 20) dX7_worst_14 (by decide) rfl (fun c14 => ?_) (fun c14 => ?_)
      refine T_aload_n (pc2 := 21) dX7_worst_20 rfl rfl ?_
      refine G_getR (pc2 := 24) dX7_worst_21 flX7_43 (sh4 S) rfl rfl ?_
      refine T_aload_n (pc2 := 25) dX7_worst_24 rfl rfl ?_
      refine G_getR (pc2 := 28) dX7_worst_25 flX7_26 (sh4 S) rfl rfl ?_
      refine C_V1 (pc2 := 31) (mc := 0) (ms := 0) dX7_worst_28 cvX4_findWorst mlX7_211 (isO.h (sh34 S) _) (Nat.le_of_ble_eq_true rfl) rfl ?_
      refine c_findWorst S (sc20 S) (by omega) hV hokV h0 (fun g2 ea eb hf2 => ?_)
      refine T_iload_n (pc2 := 32) dX7_worst_31 rfl rfl ?_
      first | refine B_ifne1 (tgt := 45) dX7_worst_32 (by with_reducible rfl) (by decide) ?_ | refine B_ifne0 (pc2 := 35) (tgt := 45) dX7_worst_32 (by with_reducible rfl) (by decide) rfl ?_ | refine N_ifne (pc2 := 35) (tgt := 45) dX7_worst_32 (by with_reducible rfl) (by decide) (by omega) rfl (fun c32 => ?_) (fun c32 => ?_) | refine T_ifne (pc2 := 35) (tgt := 45) dX7_worst_32 (by decide) rfl (fun c32 => ?_) (fun c32 => ?_)
      · refine T_aload_n (pc2 := 46) dX7_worst_45 rfl rfl ?_
        refine G_getR (pc2 := 49) dX7_worst_46 flX7_43 (sh4 S) rfl rfl ?_
        refine G_getI (pc2 := 52) dX7_worst_49 flX7_217 (sh34 S) rfl (by first | with_reducible assumption | exact gs_eq _ _ _ _ | exact (gs_ne _ _ (by omega)).trans (by with_reducible assumption) | exact (gs_ne _ _ (by omega)).trans (gs_eq _ _ _ _) | exact (gs_ne _ _ (by omega)).trans ((gs_ne _ _ (by omega)).trans (by with_reducible assumption)) | exact (gs_ne _ _ (by omega)).trans ((gs_ne _ _ (by omega)).trans (gs_eq _ _ _ _)) | exact (gs_ne _ _ (by omega)).trans ((gs_ne _ _ (by omega)).trans ((gs_ne _ _ (by omega)).trans (by with_reducible assumption))) | rfl) rfl ?_
        refine T_iret dX7_worst_52 rfl rfl ?_
        refine fin_new k (hI.scr hf2) (FrJ.of hf2 (by decide) (by decide)) ?_
        unfold sWorst q2
        rw [if_neg (by omega), inN_some hx (by decide)]
        show (if x = 0 then _ else _, s) = _
        rw [if_neg c32]
      · refine T_aload_n (pc2 := 36) dX7_worst_35 rfl rfl ?_
        refine G_getR (pc2 := 39) dX7_worst_36 flX7_43 (sh4 S) rfl rfl ?_
        refine G_getI (pc2 := 42) dX7_worst_39 flX7_214 (sh34 S) rfl (by first | with_reducible assumption | exact gs_eq _ _ _ _ | exact (gs_ne _ _ (by omega)).trans (by with_reducible assumption) | exact (gs_ne _ _ (by omega)).trans (gs_eq _ _ _ _) | exact (gs_ne _ _ (by omega)).trans ((gs_ne _ _ (by omega)).trans (by with_reducible assumption)) | exact (gs_ne _ _ (by omega)).trans ((gs_ne _ _ (by omega)).trans (gs_eq _ _ _ _)) | exact (gs_ne _ _ (by omega)).trans ((gs_ne _ _ (by omega)).trans ((gs_ne _ _ (by omega)).trans (by with_reducible assumption))) | rfl) rfl ?_
        refine T_goto (tgt := 52) dX7_worst_42 (by decide) ?_
        refine T_iret dX7_worst_52 rfl rfl ?_
        refine fin_new k (hI.scr hf2) (FrJ.of hf2 (by decide) (by decide)) ?_
        unfold sWorst q2
        rw [if_neg (by omega), inN_some hx (by decide)]
        show (if x = 0 then _ else _, s) = _
        rw [if_pos c32]
    · first | refine B_ifne1 (tgt := 20) dX7_worst_14 (by with_reducible rfl) (by decide) ?_ | refine B_ifne0 (pc2 := 17) (tgt := 20) dX7_worst_14 (by with_reducible rfl) (by decide) rfl ?_ | refine N_ifne (pc2 := 17) (tgt := 20) dX7_worst_14 (by with_reducible rfl) (by decide) (by omega) rfl (fun c14 => ?_) (fun c14 => ?_) | refine T_ifne (pc2 := 17) (tgt := 20) dX7_worst_14 (by decide) rfl (fun c14 => ?_) (fun c14 => ?_)
      refine T_ldc (pc2 := 19) dX7_worst_17 kcX7_66 rfl ?_
      refine T_iret dX7_worst_19 rfl rfl ?_
      refine fin_same k hI ?_
      unfold sWorst q2
      rw [if_neg (by omega), inN_none hno]
theorem j_changes {w : Int32} (hI : JJ sk g n bf im above below nx s) (hok : Ok s) (k : ∀ sk2 g2 n2, InvJ sk2 g2 n2 (sChanges s w).2 → FrJ sk g sk2 g2 → Q (some (.int (sChanges s w).1)) (HP sk2 g2 n2)) : Calls MX7_changes (d + 5) 0 0 [.ref 4, .int w] (HP sk g n) Q := by
  have S := hI.1
  have hV := hI.2.2.2.2.2.1
  have hokV := hok.2.2.1.1
  have hJ8 := hokV.1
  refine Calls.of (by decide +kernel) (Nat.le_of_ble_eq_true rfl) ?_
  refine T_aload_n (pc2 := 1) dX7_changes_0 rfl rfl ?_
  refine C_V0 (pc2 := 4) (mc := 0) (ms := 0) dX7_changes_1 cvX7_noCellar mlX7_146 (isO.h (sh4 S) _) (Nat.le_of_ble_eq_true rfl) rfl ?_
  refine c_noCellar S hV.1 hokV.1 (fun h0 => ?_) (fun h0 => ?_)
  · first | refine B_ifeq1 (pc2 := 7) (tgt := 10) dX7_changes_4 (by with_reducible rfl) (by decide) rfl ?_ | refine B_ifeq0 (tgt := 10) dX7_changes_4 (by with_reducible rfl) (by decide) ?_ | refine N_ifeq (pc2 := 7) (tgt := 10) dX7_changes_4 (by with_reducible rfl) (by decide) (by omega) rfl (fun c4 => ?_) (fun c4 => ?_) | refine T_ifeq (pc2 := 7) (tgt := 10) dX7_changes_4 (by decide) rfl (fun c4 => ?_) (fun c4 => ?_)
    refine T_ldc (pc2 := 9) dX7_changes_7 kcX7_145 rfl ?_
    refine T_iret dX7_changes_9 rfl rfl ?_
    exact fin_same k hI (if_pos h0)
  · first | refine B_ifeq1 (pc2 := 7) (tgt := 10) dX7_changes_4 (by with_reducible rfl) (by decide) rfl ?_ | refine B_ifeq0 (tgt := 10) dX7_changes_4 (by with_reducible rfl) (by decide) ?_ | refine N_ifeq (pc2 := 7) (tgt := 10) dX7_changes_4 (by with_reducible rfl) (by decide) (by omega) rfl (fun c4 => ?_) (fun c4 => ?_) | refine T_ifeq (pc2 := 7) (tgt := 10) dX7_changes_4 (by decide) rfl (fun c4 => ?_) (fun c4 => ?_)
    refine T_iload_n (pc2 := 11) dX7_changes_10 rfl rfl ?_
    refine C_S1 (pc2 := 14) (mc := 0) (ms := 0) dX7_changes_11 csX7_isHalf mlX7_199 (Nat.le_of_ble_eq_true rfl) rfl ?_
    refine c_isHalf (fun x hx ex => ?_) (fun hno => ?_)
    · subst ex
      first | refine B_ifne1 (tgt := 20) dX7_changes_14 (by with_reducible rfl) (by decide) ?_ | refine B_ifne0 (pc2 := 17) (tgt := 20) dX7_changes_14 (by with_reducible rfl) (by decide) rfl ?_ | refine N_ifne (pc2 := 17) (tgt := 20) dX7_changes_14 (by with_reducible rfl) (by decide) (by omega) rfl (fun c14 => ?_) (fun c14 => ?_) | refine T_ifne (pc2 := 17) (tgt := 20) dX7_changes_14 (by decide) rfl (fun c14 => ?_) (fun c14 => ?_)
      refine T_aload_n (pc2 := 21) dX7_changes_20 rfl rfl ?_
      refine G_getR (pc2 := 24) dX7_changes_21 flX7_43 (sh4 S) rfl rfl ?_
      refine T_aload_n (pc2 := 25) dX7_changes_24 rfl rfl ?_
      refine G_getR (pc2 := 28) dX7_changes_25 flX7_26 (sh4 S) rfl rfl ?_
      refine C_V1 (pc2 := 31) (mc := 0) (ms := 0) dX7_changes_28 cvX4_findChange mlX7_228 (isO.h (sh34 S) _) (Nat.le_of_ble_eq_true rfl) rfl ?_
      refine c_findChange S (sc20 S) (by omega) hV hokV h0 (fun g2 ea eb hf2 => ?_)
      refine T_iload_n (pc2 := 32) dX7_changes_31 rfl rfl ?_
      first | refine B_ifne1 (tgt := 45) dX7_changes_32 (by with_reducible rfl) (by decide) ?_ | refine B_ifne0 (pc2 := 35) (tgt := 45) dX7_changes_32 (by with_reducible rfl) (by decide) rfl ?_ | refine N_ifne (pc2 := 35) (tgt := 45) dX7_changes_32 (by with_reducible rfl) (by decide) (by omega) rfl (fun c32 => ?_) (fun c32 => ?_) | refine T_ifne (pc2 := 35) (tgt := 45) dX7_changes_32 (by decide) rfl (fun c32 => ?_) (fun c32 => ?_)
      · refine T_aload_n (pc2 := 46) dX7_changes_45 rfl rfl ?_
        refine G_getR (pc2 := 49) dX7_changes_46 flX7_43 (sh4 S) rfl rfl ?_
        refine G_getI (pc2 := 52) dX7_changes_49 flX7_217 (sh34 S) rfl (by first | with_reducible assumption | exact gs_eq _ _ _ _ | exact (gs_ne _ _ (by omega)).trans (by with_reducible assumption) | exact (gs_ne _ _ (by omega)).trans (gs_eq _ _ _ _) | exact (gs_ne _ _ (by omega)).trans ((gs_ne _ _ (by omega)).trans (by with_reducible assumption)) | exact (gs_ne _ _ (by omega)).trans ((gs_ne _ _ (by omega)).trans (gs_eq _ _ _ _)) | exact (gs_ne _ _ (by omega)).trans ((gs_ne _ _ (by omega)).trans ((gs_ne _ _ (by omega)).trans (by with_reducible assumption))) | rfl) rfl ?_
        refine T_iret dX7_changes_52 rfl rfl ?_
        refine fin_new k (hI.scr hf2) (FrJ.of hf2 (by decide) (by decide)) ?_
        unfold sChanges q2
        rw [if_neg (by omega), inN_some hx (by decide)]
        show (if x = 0 then _ else _, s) = _
        rw [if_neg c32]
      · refine T_aload_n (pc2 := 36) dX7_changes_35 rfl rfl ?_
        refine G_getR (pc2 := 39) dX7_changes_36 flX7_43 (sh4 S) rfl rfl ?_
        refine G_getI (pc2 := 42) dX7_changes_39 flX7_214 (sh34 S) rfl (by first | with_reducible assumption | exact gs_eq _ _ _ _ | exact (gs_ne _ _ (by omega)).trans (by with_reducible assumption) | exact (gs_ne _ _ (by omega)).trans (gs_eq _ _ _ _) | exact (gs_ne _ _ (by omega)).trans ((gs_ne _ _ (by omega)).trans (by with_reducible assumption)) | exact (gs_ne _ _ (by omega)).trans ((gs_ne _ _ (by omega)).trans (gs_eq _ _ _ _)) | exact (gs_ne _ _ (by omega)).trans ((gs_ne _ _ (by omega)).trans ((gs_ne _ _ (by omega)).trans (by with_reducible assumption))) | rfl) rfl ?_
        refine T_goto (tgt := 52) dX7_changes_42 (by decide) ?_
        refine T_iret dX7_changes_52 rfl rfl ?_
        refine fin_new k (hI.scr hf2) (FrJ.of hf2 (by decide) (by decide)) ?_
        unfold sChanges q2
        rw [if_neg (by omega), inN_some hx (by decide)]
        show (if x = 0 then _ else _, s) = _
        rw [if_pos c32]
    · first | refine B_ifne1 (tgt := 20) dX7_changes_14 (by with_reducible rfl) (by decide) ?_ | refine B_ifne0 (pc2 := 17) (tgt := 20) dX7_changes_14 (by with_reducible rfl) (by decide) rfl ?_ | refine N_ifne (pc2 := 17) (tgt := 20) dX7_changes_14 (by with_reducible rfl) (by decide) (by omega) rfl (fun c14 => ?_) (fun c14 => ?_) | refine T_ifne (pc2 := 17) (tgt := 20) dX7_changes_14 (by decide) rfl (fun c14 => ?_) (fun c14 => ?_)
      refine T_ldc (pc2 := 19) dX7_changes_17 kcX7_66 rfl ?_
      refine T_iret dX7_changes_19 rfl rfl ?_
      refine fin_same k hI ?_
      unfold sChanges q2
      rw [if_neg (by omega), inN_none hno]
theorem j_spared {w : Int32} (hI : JJ sk g n bf im above below nx s) (hok : Ok s) (k : ∀ sk2 g2 n2, InvJ sk2 g2 n2 (sSpared s w).2 → FrJ sk g sk2 g2 → Q (some (.int (sSpared s w).1)) (HP sk2 g2 n2)) : Calls MX7_spared (d + 5) 0 0 [.ref 4, .int w] (HP sk g n) Q := by
  have S := hI.1
  have hV := hI.2.2.2.2.2.1
  have hokV := hok.2.2.1.1
  have hJ8 := hokV.1
  refine Calls.of (by decide +kernel) (Nat.le_of_ble_eq_true rfl) ?_
  refine T_aload_n (pc2 := 1) dX7_spared_0 rfl rfl ?_
  refine C_V0 (pc2 := 4) (mc := 0) (ms := 0) dX7_spared_1 cvX7_noCellar mlX7_146 (isO.h (sh4 S) _) (Nat.le_of_ble_eq_true rfl) rfl ?_
  refine c_noCellar S hV.1 hokV.1 (fun h0 => ?_) (fun h0 => ?_)
  · first | refine B_ifeq1 (pc2 := 7) (tgt := 10) dX7_spared_4 (by with_reducible rfl) (by decide) rfl ?_ | refine B_ifeq0 (tgt := 10) dX7_spared_4 (by with_reducible rfl) (by decide) ?_ | refine N_ifeq (pc2 := 7) (tgt := 10) dX7_spared_4 (by with_reducible rfl) (by decide) (by omega) rfl (fun c4 => ?_) (fun c4 => ?_) | refine T_ifeq (pc2 := 7) (tgt := 10) dX7_spared_4 (by decide) rfl (fun c4 => ?_) (fun c4 => ?_)
    refine T_ldc (pc2 := 9) dX7_spared_7 kcX7_145 rfl ?_
    refine T_iret dX7_spared_9 rfl rfl ?_
    exact fin_same k hI (if_pos h0)
  · first | refine B_ifeq1 (pc2 := 7) (tgt := 10) dX7_spared_4 (by with_reducible rfl) (by decide) rfl ?_ | refine B_ifeq0 (tgt := 10) dX7_spared_4 (by with_reducible rfl) (by decide) ?_ | refine N_ifeq (pc2 := 7) (tgt := 10) dX7_spared_4 (by with_reducible rfl) (by decide) (by omega) rfl (fun c4 => ?_) (fun c4 => ?_) | refine T_ifeq (pc2 := 7) (tgt := 10) dX7_spared_4 (by decide) rfl (fun c4 => ?_) (fun c4 => ?_)
    refine T_iload_n (pc2 := 11) dX7_spared_10 rfl rfl ?_
    refine C_S1 (pc2 := 14) (mc := 0) (ms := 0) dX7_spared_11 csX7_isHalf mlX7_199 (Nat.le_of_ble_eq_true rfl) rfl ?_
    refine c_isHalf (fun x hx ex => ?_) (fun hno => ?_)
    · subst ex
      first | refine B_ifne1 (tgt := 20) dX7_spared_14 (by with_reducible rfl) (by decide) ?_ | refine B_ifne0 (pc2 := 17) (tgt := 20) dX7_spared_14 (by with_reducible rfl) (by decide) rfl ?_ | refine N_ifne (pc2 := 17) (tgt := 20) dX7_spared_14 (by with_reducible rfl) (by decide) (by omega) rfl (fun c14 => ?_) (fun c14 => ?_) | refine T_ifne (pc2 := 17) (tgt := 20) dX7_spared_14 (by decide) rfl (fun c14 => ?_) (fun c14 => ?_)
      refine T_aload_n (pc2 := 21) dX7_spared_20 rfl rfl ?_
      refine G_getR (pc2 := 24) dX7_spared_21 flX7_43 (sh4 S) rfl rfl ?_
      refine T_aload_n (pc2 := 25) dX7_spared_24 rfl rfl ?_
      refine G_getR (pc2 := 28) dX7_spared_25 flX7_26 (sh4 S) rfl rfl ?_
      refine C_V1 (pc2 := 31) (mc := 0) (ms := 0) dX7_spared_28 cvX4_findSpared mlX7_235 (isO.h (sh34 S) _) (Nat.le_of_ble_eq_true rfl) rfl ?_
      refine c_findSpared S (sc20 S) (by omega) hV hokV (fun g2 ea eb hf2 => ?_)
      refine T_iload_n (pc2 := 32) dX7_spared_31 rfl rfl ?_
      first | refine B_ifne1 (tgt := 45) dX7_spared_32 (by with_reducible rfl) (by decide) ?_ | refine B_ifne0 (pc2 := 35) (tgt := 45) dX7_spared_32 (by with_reducible rfl) (by decide) rfl ?_ | refine N_ifne (pc2 := 35) (tgt := 45) dX7_spared_32 (by with_reducible rfl) (by decide) (by omega) rfl (fun c32 => ?_) (fun c32 => ?_) | refine T_ifne (pc2 := 35) (tgt := 45) dX7_spared_32 (by decide) rfl (fun c32 => ?_) (fun c32 => ?_)
      · refine T_aload_n (pc2 := 46) dX7_spared_45 rfl rfl ?_
        refine G_getR (pc2 := 49) dX7_spared_46 flX7_43 (sh4 S) rfl rfl ?_
        refine G_getI (pc2 := 52) dX7_spared_49 flX7_217 (sh34 S) rfl (by first | with_reducible assumption | exact gs_eq _ _ _ _ | exact (gs_ne _ _ (by omega)).trans (by with_reducible assumption) | exact (gs_ne _ _ (by omega)).trans (gs_eq _ _ _ _) | exact (gs_ne _ _ (by omega)).trans ((gs_ne _ _ (by omega)).trans (by with_reducible assumption)) | exact (gs_ne _ _ (by omega)).trans ((gs_ne _ _ (by omega)).trans (gs_eq _ _ _ _)) | exact (gs_ne _ _ (by omega)).trans ((gs_ne _ _ (by omega)).trans ((gs_ne _ _ (by omega)).trans (by with_reducible assumption))) | rfl) rfl ?_
        refine T_iret dX7_spared_52 rfl rfl ?_
        refine fin_new k (hI.scr hf2) (FrJ.of hf2 (by decide) (by decide)) ?_
        unfold sSpared q2
        rw [if_neg (by omega), inN_some hx (by decide)]
        show (if x = 0 then _ else _, s) = _
        rw [if_neg c32]
      · refine T_aload_n (pc2 := 36) dX7_spared_35 rfl rfl ?_
        refine G_getR (pc2 := 39) dX7_spared_36 flX7_43 (sh4 S) rfl rfl ?_
        refine G_getI (pc2 := 42) dX7_spared_39 flX7_214 (sh34 S) rfl (by first | with_reducible assumption | exact gs_eq _ _ _ _ | exact (gs_ne _ _ (by omega)).trans (by with_reducible assumption) | exact (gs_ne _ _ (by omega)).trans (gs_eq _ _ _ _) | exact (gs_ne _ _ (by omega)).trans ((gs_ne _ _ (by omega)).trans (by with_reducible assumption)) | exact (gs_ne _ _ (by omega)).trans ((gs_ne _ _ (by omega)).trans (gs_eq _ _ _ _)) | exact (gs_ne _ _ (by omega)).trans ((gs_ne _ _ (by omega)).trans ((gs_ne _ _ (by omega)).trans (by with_reducible assumption))) | rfl) rfl ?_
        refine T_goto (tgt := 52) dX7_spared_42 (by decide) ?_
        refine T_iret dX7_spared_52 rfl rfl ?_
        refine fin_new k (hI.scr hf2) (FrJ.of hf2 (by decide) (by decide)) ?_
        unfold sSpared q2
        rw [if_neg (by omega), inN_some hx (by decide)]
        show (if x = 0 then _ else _, s) = _
        rw [if_pos c32]
    · first | refine B_ifne1 (tgt := 20) dX7_spared_14 (by with_reducible rfl) (by decide) ?_ | refine B_ifne0 (pc2 := 17) (tgt := 20) dX7_spared_14 (by with_reducible rfl) (by decide) rfl ?_ | refine N_ifne (pc2 := 17) (tgt := 20) dX7_spared_14 (by with_reducible rfl) (by decide) (by omega) rfl (fun c14 => ?_) (fun c14 => ?_) | refine T_ifne (pc2 := 17) (tgt := 20) dX7_spared_14 (by decide) rfl (fun c14 => ?_) (fun c14 => ?_)
      refine T_ldc (pc2 := 19) dX7_spared_17 kcX7_66 rfl ?_
      refine T_iret dX7_spared_19 rfl rfl ?_
      refine fin_same k hI ?_
      unfold sSpared q2
      rw [if_neg (by omega), inN_none hno]
theorem j_alike {w : Int32} (hI : JJ sk g n bf im above below nx s) (hok : Ok s) (k : ∀ sk2 g2 n2, InvJ sk2 g2 n2 (sAlike s w).2 → FrJ sk g sk2 g2 → Q (some (.int (sAlike s w).1)) (HP sk2 g2 n2)) : Calls MX7_alike (d + 4) 0 0 [.ref 4, .int w] (HP sk g n) Q := by
  have S := hI.1
  have hV := hI.2.2.2.2.2.1
  have hokV := hok.2.2.1.1
  have hJ8 := hokV.1
  refine Calls.of (by decide +kernel) (Nat.le_of_ble_eq_true rfl) ?_
  refine T_aload_n (pc2 := 1) dX7_alike_0 rfl rfl ?_
  refine C_V0 (pc2 := 4) (mc := 0) (ms := 0) dX7_alike_1 cvX7_noCellar mlX7_146 (isO.h (sh4 S) _) (Nat.le_of_ble_eq_true rfl) rfl ?_
  refine c_noCellar S hV.1 hokV.1 (fun h0 => ?_) (fun h0 => ?_)
  · first | refine B_ifeq1 (pc2 := 7) (tgt := 10) dX7_alike_4 (by with_reducible rfl) (by decide) rfl ?_ | refine B_ifeq0 (tgt := 10) dX7_alike_4 (by with_reducible rfl) (by decide) ?_ | refine N_ifeq (pc2 := 7) (tgt := 10) dX7_alike_4 (by with_reducible rfl) (by decide) (by omega) rfl (fun c4 => ?_) (fun c4 => ?_) | refine T_ifeq (pc2 := 7) (tgt := 10) dX7_alike_4 (by decide) rfl (fun c4 => ?_) (fun c4 => ?_)
    refine T_ldc (pc2 := 9) dX7_alike_7 kcX7_145 rfl ?_
    refine T_iret dX7_alike_9 rfl rfl ?_
    exact fin_same k hI (if_pos h0)
  · first | refine B_ifeq1 (pc2 := 7) (tgt := 10) dX7_alike_4 (by with_reducible rfl) (by decide) rfl ?_ | refine B_ifeq0 (tgt := 10) dX7_alike_4 (by with_reducible rfl) (by decide) ?_ | refine N_ifeq (pc2 := 7) (tgt := 10) dX7_alike_4 (by with_reducible rfl) (by decide) (by omega) rfl (fun c4 => ?_) (fun c4 => ?_) | refine T_ifeq (pc2 := 7) (tgt := 10) dX7_alike_4 (by decide) rfl (fun c4 => ?_) (fun c4 => ?_)
    refine T_iload_n (pc2 := 11) dX7_alike_10 rfl rfl ?_
    refine C_S1 (pc2 := 14) (mc := 0) (ms := 0) dX7_alike_11 csX7_isHalf mlX7_199 (Nat.le_of_ble_eq_true rfl) rfl ?_
    refine c_isHalf (fun x hx ex => ?_) (fun hno => ?_)
    · subst ex
      first | refine B_ifne1 (tgt := 20) dX7_alike_14 (by with_reducible rfl) (by decide) ?_ | refine B_ifne0 (pc2 := 17) (tgt := 20) dX7_alike_14 (by with_reducible rfl) (by decide) rfl ?_ | refine N_ifne (pc2 := 17) (tgt := 20) dX7_alike_14 (by with_reducible rfl) (by decide) (by omega) rfl (fun c14 => ?_) (fun c14 => ?_) | refine T_ifne (pc2 := 17) (tgt := 20) dX7_alike_14 (by decide) rfl (fun c14 => ?_) (fun c14 => ?_)
      refine T_aload_n (pc2 := 21) dX7_alike_20 rfl rfl ?_
      refine G_getR (pc2 := 24) dX7_alike_21 flX7_43 (sh4 S) rfl rfl ?_
      refine T_aload_n (pc2 := 25) dX7_alike_24 rfl rfl ?_
      refine G_getR (pc2 := 28) dX7_alike_25 flX7_26 (sh4 S) rfl rfl ?_
      refine C_V1 (pc2 := 31) (mc := 0) (ms := 0) dX7_alike_28 cvX4_findAlike mlX7_238 (isO.h (sh34 S) _) (Nat.le_of_ble_eq_true rfl) rfl ?_
      refine c_findAlike S (sc20 S) (by omega) hV hokV (fun g2 ea eb hf2 => ?_)
      refine T_iload_n (pc2 := 32) dX7_alike_31 rfl rfl ?_
      first | refine B_ifne1 (tgt := 45) dX7_alike_32 (by with_reducible rfl) (by decide) ?_ | refine B_ifne0 (pc2 := 35) (tgt := 45) dX7_alike_32 (by with_reducible rfl) (by decide) rfl ?_ | refine N_ifne (pc2 := 35) (tgt := 45) dX7_alike_32 (by with_reducible rfl) (by decide) (by omega) rfl (fun c32 => ?_) (fun c32 => ?_) | refine T_ifne (pc2 := 35) (tgt := 45) dX7_alike_32 (by decide) rfl (fun c32 => ?_) (fun c32 => ?_)
      · refine T_aload_n (pc2 := 46) dX7_alike_45 rfl rfl ?_
        refine G_getR (pc2 := 49) dX7_alike_46 flX7_43 (sh4 S) rfl rfl ?_
        refine G_getI (pc2 := 52) dX7_alike_49 flX7_214 (sh34 S) rfl (by first | with_reducible assumption | exact gs_eq _ _ _ _ | exact (gs_ne _ _ (by omega)).trans (by with_reducible assumption) | exact (gs_ne _ _ (by omega)).trans (gs_eq _ _ _ _) | exact (gs_ne _ _ (by omega)).trans ((gs_ne _ _ (by omega)).trans (by with_reducible assumption)) | exact (gs_ne _ _ (by omega)).trans ((gs_ne _ _ (by omega)).trans (gs_eq _ _ _ _)) | exact (gs_ne _ _ (by omega)).trans ((gs_ne _ _ (by omega)).trans ((gs_ne _ _ (by omega)).trans (by with_reducible assumption))) | rfl) rfl ?_
        refine T_iret dX7_alike_52 rfl rfl ?_
        refine fin_new k (hI.scr hf2) (FrJ.of hf2 (by decide) (by decide)) ?_
        unfold sAlike q2
        rw [if_neg (by omega), inN_some hx (by decide)]
        show (if x = 0 then _ else _, s) = _
        rw [if_neg c32]
      · refine T_aload_n (pc2 := 36) dX7_alike_35 rfl rfl ?_
        refine G_getR (pc2 := 39) dX7_alike_36 flX7_43 (sh4 S) rfl rfl ?_
        refine G_getI (pc2 := 42) dX7_alike_39 flX7_217 (sh34 S) rfl (by first | with_reducible assumption | exact gs_eq _ _ _ _ | exact (gs_ne _ _ (by omega)).trans (by with_reducible assumption) | exact (gs_ne _ _ (by omega)).trans (gs_eq _ _ _ _) | exact (gs_ne _ _ (by omega)).trans ((gs_ne _ _ (by omega)).trans (by with_reducible assumption)) | exact (gs_ne _ _ (by omega)).trans ((gs_ne _ _ (by omega)).trans (gs_eq _ _ _ _)) | exact (gs_ne _ _ (by omega)).trans ((gs_ne _ _ (by omega)).trans ((gs_ne _ _ (by omega)).trans (by with_reducible assumption))) | rfl) rfl ?_
        refine T_goto (tgt := 52) dX7_alike_42 (by decide) ?_
        refine T_iret dX7_alike_52 rfl rfl ?_
        refine fin_new k (hI.scr hf2) (FrJ.of hf2 (by decide) (by decide)) ?_
        unfold sAlike q2
        rw [if_neg (by omega), inN_some hx (by decide)]
        show (if x = 0 then _ else _, s) = _
        rw [if_pos c32]
    · first | refine B_ifne1 (tgt := 20) dX7_alike_14 (by with_reducible rfl) (by decide) ?_ | refine B_ifne0 (pc2 := 17) (tgt := 20) dX7_alike_14 (by with_reducible rfl) (by decide) rfl ?_ | refine N_ifne (pc2 := 17) (tgt := 20) dX7_alike_14 (by with_reducible rfl) (by decide) (by omega) rfl (fun c14 => ?_) (fun c14 => ?_) | refine T_ifne (pc2 := 17) (tgt := 20) dX7_alike_14 (by decide) rfl (fun c14 => ?_) (fun c14 => ?_)
      refine T_ldc (pc2 := 19) dX7_alike_17 kcX7_66 rfl ?_
      refine T_iret dX7_alike_19 rfl rfl ?_
      refine fin_same k hI ?_
      unfold sAlike q2
      rw [if_neg (by omega), inN_none hno]
theorem j_when {j : Int32} (hI : JJ sk g n bf im above below nx s) (hok : Ok s) (k : ∀ sk2 g2 n2, InvJ sk2 g2 n2 (sWhen s j).2 → FrJ sk g sk2 g2 → Q (some (.int (sWhen s j).1)) (HP sk2 g2 n2)) : Calls MX7_when (d + 2) 0 0 [.ref 4, .int j] (HP sk g n) Q := by
  have S := hI.1
  have hV := hI.2.2.2.2.2.1
  have hokV := hok.2.2.1.1
  have hJ8 := hokV.1
  refine Calls.of (by decide +kernel) (Nat.le_of_ble_eq_true rfl) ?_
  refine T_aload_n (pc2 := 1) dX7_when_0 rfl rfl ?_
  refine T_iload_n (pc2 := 2) dX7_when_1 rfl rfl ?_
  refine C_V1 (pc2 := 5) (mc := 0) (ms := 0) dX7_when_2 cvX7_isJar mlX7_174 (isO.h (sh4 S) _) (Nat.le_of_ble_eq_true rfl) rfl ?_
  refine c_isJar S hV.1 hokV.1 (fun i hi ei => ?_) (fun hno => ?_)
  · subst ei
    have eh := hV.2.2.2 i hi
    have e2 := eh.2.2.1
    have e4 := eh.2.2.2.2
    have h3 := (hokV.2.2.2.1 i hi).2.2.2.2.2.2
    have hs : sWhen s (nI i) = (if s.V.hw i = 0 then nI (s.V.kp i) else if s.V.hw i = 2 then nI 0 else NONE, s) := by
      unfold sWhen
      rw [inN_some hi (by omega)]
    first | refine B_ifne1 (tgt := 11) dX7_when_5 (by with_reducible rfl) (by decide) ?_ | refine B_ifne0 (pc2 := 8) (tgt := 11) dX7_when_5 (by with_reducible rfl) (by decide) rfl ?_ | refine N_ifne (pc2 := 8) (tgt := 11) dX7_when_5 (by with_reducible rfl) (by decide) (by omega) rfl (fun c5 => ?_) (fun c5 => ?_) | refine T_ifne (pc2 := 8) (tgt := 11) dX7_when_5 (by decide) rfl (fun c5 => ?_) (fun c5 => ?_)
    rcases (by omega : s.V.hw i = 0 ∨ s.V.hw i = 2 ∨ s.V.hw i = 1 ∨ s.V.hw i = 3) with e | e | e | e
    · rw [e] at e4
      refine T_aload_n (pc2 := 12) dX7_when_11 rfl rfl ?_
      refine G_getR (pc2 := 15) dX7_when_12 flX7_26 (sh4 S) rfl rfl ?_
      refine G_getR (pc2 := 18) dX7_when_15 flX7_177 (sc20 S).1 rfl rfl ?_
      refine T_iload_n (pc2 := 19) dX7_when_18 rfl rfl ?_
      refine G_iald (pc2 := 20) dX7_when_19 (sc20 S).2.2.2.2.2 (by omega) (by first | decide | omega) (by first | with_reducible assumption | exact gs_eq _ _ _ _ | exact (gs_ne _ _ (by omega)).trans (by with_reducible assumption) | exact (gs_ne _ _ (by omega)).trans (gs_eq _ _ _ _) | exact (gs_ne _ _ (by omega)).trans ((gs_ne _ _ (by omega)).trans (by with_reducible assumption)) | exact (gs_ne _ _ (by omega)).trans ((gs_ne _ _ (by omega)).trans (gs_eq _ _ _ _)) | exact (gs_ne _ _ (by omega)).trans ((gs_ne _ _ (by omega)).trans ((gs_ne _ _ (by omega)).trans (by with_reducible assumption))) | rfl) rfl ?_
      refine T_lookup (off := 28) (tgt := 48) dX7_when_20 (by decide) (by decide) (by decide) ?_
      refine T_aload_n (pc2 := 49) dX7_when_48 rfl rfl ?_
      refine G_getR (pc2 := 52) dX7_when_49 flX7_26 (sh4 S) rfl rfl ?_
      refine G_getR (pc2 := 55) dX7_when_52 flX7_193 (sc20 S).1 rfl rfl ?_
      refine T_iload_n (pc2 := 56) dX7_when_55 rfl rfl ?_
      refine G_iald (pc2 := 57) dX7_when_56 (sc20 S).2.2.2.1 (by omega) (by first | decide | omega) (by first | with_reducible assumption | exact gs_eq _ _ _ _ | exact (gs_ne _ _ (by omega)).trans (by with_reducible assumption) | exact (gs_ne _ _ (by omega)).trans (gs_eq _ _ _ _) | exact (gs_ne _ _ (by omega)).trans ((gs_ne _ _ (by omega)).trans (by with_reducible assumption)) | exact (gs_ne _ _ (by omega)).trans ((gs_ne _ _ (by omega)).trans (gs_eq _ _ _ _)) | exact (gs_ne _ _ (by omega)).trans ((gs_ne _ _ (by omega)).trans ((gs_ne _ _ (by omega)).trans (by with_reducible assumption))) | rfl) rfl ?_
      refine T_iret dX7_when_57 rfl rfl ?_
      exact fin_same k hI (by rw [hs, if_pos e])
    · rw [e] at e4
      refine T_aload_n (pc2 := 12) dX7_when_11 rfl rfl ?_
      refine G_getR (pc2 := 15) dX7_when_12 flX7_26 (sh4 S) rfl rfl ?_
      refine G_getR (pc2 := 18) dX7_when_15 flX7_177 (sc20 S).1 rfl rfl ?_
      refine T_iload_n (pc2 := 19) dX7_when_18 rfl rfl ?_
      refine G_iald (pc2 := 20) dX7_when_19 (sc20 S).2.2.2.2.2 (by omega) (by first | decide | omega) (by first | with_reducible assumption | exact gs_eq _ _ _ _ | exact (gs_ne _ _ (by omega)).trans (by with_reducible assumption) | exact (gs_ne _ _ (by omega)).trans (gs_eq _ _ _ _) | exact (gs_ne _ _ (by omega)).trans ((gs_ne _ _ (by omega)).trans (by with_reducible assumption)) | exact (gs_ne _ _ (by omega)).trans ((gs_ne _ _ (by omega)).trans (gs_eq _ _ _ _)) | exact (gs_ne _ _ (by omega)).trans ((gs_ne _ _ (by omega)).trans ((gs_ne _ _ (by omega)).trans (by with_reducible assumption))) | rfl) rfl ?_
      refine T_lookup (off := 38) (tgt := 58) dX7_when_20 (by decide) (by decide) (by decide) ?_
      refine T_iconst (pc2 := 59) dX7_when_58 ic0 rfl ?_
      refine T_iret dX7_when_59 rfl rfl ?_
      exact fin_same k hI (by rw [hs, if_neg (by omega), if_pos e])
    · rw [e] at e4
      refine T_aload_n (pc2 := 12) dX7_when_11 rfl rfl ?_
      refine G_getR (pc2 := 15) dX7_when_12 flX7_26 (sh4 S) rfl rfl ?_
      refine G_getR (pc2 := 18) dX7_when_15 flX7_177 (sc20 S).1 rfl rfl ?_
      refine T_iload_n (pc2 := 19) dX7_when_18 rfl rfl ?_
      refine G_iald (pc2 := 20) dX7_when_19 (sc20 S).2.2.2.2.2 (by omega) (by first | decide | omega) (by first | with_reducible assumption | exact gs_eq _ _ _ _ | exact (gs_ne _ _ (by omega)).trans (by with_reducible assumption) | exact (gs_ne _ _ (by omega)).trans (gs_eq _ _ _ _) | exact (gs_ne _ _ (by omega)).trans ((gs_ne _ _ (by omega)).trans (by with_reducible assumption)) | exact (gs_ne _ _ (by omega)).trans ((gs_ne _ _ (by omega)).trans (gs_eq _ _ _ _)) | exact (gs_ne _ _ (by omega)).trans ((gs_ne _ _ (by omega)).trans ((gs_ne _ _ (by omega)).trans (by with_reducible assumption))) | rfl) rfl ?_
      refine T_lookup (off := 40) (tgt := 60) dX7_when_20 (by decide) (by decide) (by decide) ?_
      refine T_ldc (pc2 := 62) dX7_when_60 kcX7_220 rfl ?_
      refine T_iret dX7_when_62 rfl rfl ?_
      exact fin_same k hI (by rw [hs, if_neg (by omega), if_neg (by omega)])
    · rw [e] at e4
      refine T_aload_n (pc2 := 12) dX7_when_11 rfl rfl ?_
      refine G_getR (pc2 := 15) dX7_when_12 flX7_26 (sh4 S) rfl rfl ?_
      refine G_getR (pc2 := 18) dX7_when_15 flX7_177 (sc20 S).1 rfl rfl ?_
      refine T_iload_n (pc2 := 19) dX7_when_18 rfl rfl ?_
      refine G_iald (pc2 := 20) dX7_when_19 (sc20 S).2.2.2.2.2 (by omega) (by first | decide | omega) (by first | with_reducible assumption | exact gs_eq _ _ _ _ | exact (gs_ne _ _ (by omega)).trans (by with_reducible assumption) | exact (gs_ne _ _ (by omega)).trans (gs_eq _ _ _ _) | exact (gs_ne _ _ (by omega)).trans ((gs_ne _ _ (by omega)).trans (by with_reducible assumption)) | exact (gs_ne _ _ (by omega)).trans ((gs_ne _ _ (by omega)).trans (gs_eq _ _ _ _)) | exact (gs_ne _ _ (by omega)).trans ((gs_ne _ _ (by omega)).trans ((gs_ne _ _ (by omega)).trans (by with_reducible assumption))) | rfl) rfl ?_
      refine T_lookup (off := 40) (tgt := 60) dX7_when_20 (by decide) (by decide) (by decide) ?_
      refine T_ldc (pc2 := 62) dX7_when_60 kcX7_220 rfl ?_
      refine T_iret dX7_when_62 rfl rfl ?_
      exact fin_same k hI (by rw [hs, if_neg (by omega), if_neg (by omega)])
  · first | refine B_ifne1 (tgt := 11) dX7_when_5 (by with_reducible rfl) (by decide) ?_ | refine B_ifne0 (pc2 := 8) (tgt := 11) dX7_when_5 (by with_reducible rfl) (by decide) rfl ?_ | refine N_ifne (pc2 := 8) (tgt := 11) dX7_when_5 (by with_reducible rfl) (by decide) (by omega) rfl (fun c5 => ?_) (fun c5 => ?_) | refine T_ifne (pc2 := 8) (tgt := 11) dX7_when_5 (by decide) rfl (fun c5 => ?_) (fun c5 => ?_)
    refine T_ldc (pc2 := 10) dX7_when_8 kcX7_66 rfl ?_
    refine T_iret dX7_when_10 rfl rfl ?_
    refine fin_same k hI ?_
    unfold sWhen
    rw [inN_none hno]
theorem j_kept {m : Int32} (hI : JJ sk g n bf im above below nx s) (hok : Ok s) (k : ∀ sk2 g2 n2, InvJ sk2 g2 n2 (sKept s m).2 → FrJ sk g sk2 g2 → Q (some (.int (sKept s m).1)) (HP sk2 g2 n2)) : Calls MX7_kept (d + 2) 0 0 [.ref 4, .int m] (HP sk g n) Q := by
  have S := hI.1
  have hV := hI.2.2.2.2.2.1
  have hokV := hok.2.2.1.1
  have hJ8 := hokV.1
  refine Calls.of (by decide +kernel) (Nat.le_of_ble_eq_true rfl) ?_
  refine T_aload_n (pc2 := 1) dX7_kept_0 rfl rfl ?_
  refine C_V0 (pc2 := 4) (mc := 0) (ms := 0) dX7_kept_1 cvX7_noCellar mlX7_146 (isO.h (sh4 S) _) (Nat.le_of_ble_eq_true rfl) rfl ?_
  refine c_noCellar S hV.1 hokV.1 (fun h0 => ?_) (fun h0 => ?_)
  · first | refine B_ifeq1 (pc2 := 7) (tgt := 10) dX7_kept_4 (by with_reducible rfl) (by decide) rfl ?_ | refine B_ifeq0 (tgt := 10) dX7_kept_4 (by with_reducible rfl) (by decide) ?_ | refine N_ifeq (pc2 := 7) (tgt := 10) dX7_kept_4 (by with_reducible rfl) (by decide) (by omega) rfl (fun c4 => ?_) (fun c4 => ?_) | refine T_ifeq (pc2 := 7) (tgt := 10) dX7_kept_4 (by decide) rfl (fun c4 => ?_) (fun c4 => ?_)
    refine T_ldc (pc2 := 9) dX7_kept_7 kcX7_145 rfl ?_
    refine T_iret dX7_kept_9 rfl rfl ?_
    exact fin_same k hI (if_pos h0)
  · first | refine B_ifeq1 (pc2 := 7) (tgt := 10) dX7_kept_4 (by with_reducible rfl) (by decide) rfl ?_ | refine B_ifeq0 (tgt := 10) dX7_kept_4 (by with_reducible rfl) (by decide) ?_ | refine N_ifeq (pc2 := 7) (tgt := 10) dX7_kept_4 (by with_reducible rfl) (by decide) (by omega) rfl (fun c4 => ?_) (fun c4 => ?_) | refine T_ifeq (pc2 := 7) (tgt := 10) dX7_kept_4 (by decide) rfl (fun c4 => ?_) (fun c4 => ?_)
    refine T_iload_n (pc2 := 11) dX7_kept_10 rfl rfl ?_
    refine T_iconst (pc2 := 12) dX7_kept_11 ic0 rfl ?_
    refine T_bipush (pc2 := 14) dX7_kept_12 bp60 rfl ?_
    refine C_S3 (pc2 := 17) (mc := 0) (ms := 0) dX7_kept_14 csX7_within mlX7_62 (Nat.le_of_ble_eq_true rfl) rfl ?_
    refine c_withinI (by decide) (fun x hx ex => ?_) (fun hno => ?_)
    · subst ex
      first | refine B_ifeq1 (pc2 := 20) (tgt := 31) dX7_kept_17 (by with_reducible rfl) (by decide) rfl ?_ | refine B_ifeq0 (tgt := 31) dX7_kept_17 (by with_reducible rfl) (by decide) ?_ | refine N_ifeq (pc2 := 20) (tgt := 31) dX7_kept_17 (by with_reducible rfl) (by decide) (by omega) rfl (fun c17 => ?_) (fun c17 => ?_) | refine T_ifeq (pc2 := 20) (tgt := 31) dX7_kept_17 (by decide) rfl (fun c17 => ?_) (fun c17 => ?_)
      refine T_aload_n (pc2 := 21) dX7_kept_20 rfl rfl ?_
      refine G_getR (pc2 := 24) dX7_kept_21 flX7_26 (sh4 S) rfl rfl ?_
      refine T_iload_n (pc2 := 25) dX7_kept_24 rfl rfl ?_
      refine C_V1 (pc2 := 28) (mc := 0) (ms := 0) dX7_kept_25 cvX2_wholeBehind mlX7_221 (isO.h (sc20 S).1 _) (Nat.le_of_ble_eq_true rfl) rfl ?_
      refine c_behind (sc20 S) hV hokV.1 (by omega) (fun i hi => ?_) ?_
      · have := hokV.2.2.2.1 i hi
        omega
      · refine T_goto (tgt := 33) dX7_kept_28 (by decide) ?_
        refine T_iret dX7_kept_33 rfl rfl ?_
        refine fin_same k hI ?_
        unfold sKept
        rw [if_neg (by omega), inN_some (show x < 61 by omega) (by decide)]
    · first | refine B_ifeq1 (pc2 := 20) (tgt := 31) dX7_kept_17 (by with_reducible rfl) (by decide) rfl ?_ | refine B_ifeq0 (tgt := 31) dX7_kept_17 (by with_reducible rfl) (by decide) ?_ | refine N_ifeq (pc2 := 20) (tgt := 31) dX7_kept_17 (by with_reducible rfl) (by decide) (by omega) rfl (fun c17 => ?_) (fun c17 => ?_) | refine T_ifeq (pc2 := 20) (tgt := 31) dX7_kept_17 (by decide) rfl (fun c17 => ?_) (fun c17 => ?_)
      refine T_ldc (pc2 := 33) dX7_kept_31 kcX7_66 rfl ?_
      refine T_iret dX7_kept_33 rfl rfl ?_
      refine fin_same k hI ?_
      unfold sKept
      rw [if_neg (by omega), inN_none (fun j hj => hno j (by omega))]
theorem j_guard {nt p kk w : Int32} (hI : JJ sk g n bf im above below nx s) (hok : Ok s) (k : ∀ sk2 g2 n2, InvJ sk2 g2 n2 (sGuard s nt p kk w).2 → FrJ sk g sk2 g2 → Q (some (.int (sGuard s nt p kk w).1)) (HP sk2 g2 n2)) : Calls MX7_guard (d + 4) 0 0 [.ref 4, .int nt, .int p, .int kk, .int w] (HP sk g n) Q := by
  have S := hI.1
  have hV := hI.2.2.2.2.2.1
  have hokV := hok.2.2.1.1
  have hJ8 := hokV.1
  refine Calls.of (by decide +kernel) (Nat.le_of_ble_eq_true rfl) ?_
  refine T_aload_n (pc2 := 1) dX7_guard_0 rfl rfl ?_
  refine T_iload_n (pc2 := 2) dX7_guard_1 rfl rfl ?_
  refine T_iload_n (pc2 := 3) dX7_guard_2 rfl rfl ?_
  refine C_V2 (pc2 := 6) (mc := 0) (ms := 0) dX7_guard_3 cvX7_isSneeze mlX7_162 (isO.h (sh4 S) _) (Nat.le_of_ble_eq_true rfl) rfl ?_
  refine c_isSneeze S hV.1 hokV.1 (fun a j ha ea hj ej => ?_) (fun hno => ?_)
  · subst ea
    subst ej
    first | refine B_ifeq1 (pc2 := 9) (tgt := 27) dX7_guard_6 (by with_reducible rfl) (by decide) rfl ?_ | refine B_ifeq0 (tgt := 27) dX7_guard_6 (by with_reducible rfl) (by decide) ?_ | refine N_ifeq (pc2 := 9) (tgt := 27) dX7_guard_6 (by with_reducible rfl) (by decide) (by omega) rfl (fun c6 => ?_) (fun c6 => ?_) | refine T_ifeq (pc2 := 9) (tgt := 27) dX7_guard_6 (by decide) rfl (fun c6 => ?_) (fun c6 => ?_)
    refine T_iload_n (pc2 := 10) dX7_guard_9 rfl rfl ?_
    refine T_iconst (pc2 := 11) dX7_guard_10 ic0 rfl ?_
    refine T_bipush (pc2 := 13) dX7_guard_11 bp8 rfl ?_
    refine C_S3 (pc2 := 16) (mc := 0) (ms := 0) dX7_guard_13 csX7_within mlX7_62 (Nat.le_of_ble_eq_true rfl) rfl ?_
    refine c_withinI (by decide) (fun y hy ey => ?_) (fun hno => ?_)
    · subst ey
      first | refine B_ifeq1 (pc2 := 19) (tgt := 27) dX7_guard_16 (by with_reducible rfl) (by decide) rfl ?_ | refine B_ifeq0 (tgt := 27) dX7_guard_16 (by with_reducible rfl) (by decide) ?_ | refine N_ifeq (pc2 := 19) (tgt := 27) dX7_guard_16 (by with_reducible rfl) (by decide) (by omega) rfl (fun c16 => ?_) (fun c16 => ?_) | refine T_ifeq (pc2 := 19) (tgt := 27) dX7_guard_16 (by decide) rfl (fun c16 => ?_) (fun c16 => ?_)
      refine T_iload (pc2 := 21) dX7_guard_19 rfl rfl ?_
      refine C_S1 (pc2 := 24) (mc := 0) (ms := 0) dX7_guard_21 csX7_isHalf mlX7_199 (Nat.le_of_ble_eq_true rfl) rfl ?_
      refine c_isHalf (fun x hx ex => ?_) (fun hno => ?_)
      · subst ex
        have hs : sGuard s (nI a) (nI j) (nI y) (nI x) = (if x = 0 then nI (s.V.gd (s.V.th 0) a j y).1 else nI (s.V.gd (s.V.th 0) a j y).2, s) := by
          unfold sGuard
          rw [inN_some ha (by decide), inN_some hj (by omega), inN_some (show y < 9 by omega) (by decide), inN_some hx (by decide)]
        first | refine B_ifne1 (tgt := 30) dX7_guard_24 (by with_reducible rfl) (by decide) ?_ | refine B_ifne0 (pc2 := 27) (tgt := 30) dX7_guard_24 (by with_reducible rfl) (by decide) rfl ?_ | refine N_ifne (pc2 := 27) (tgt := 30) dX7_guard_24 (by with_reducible rfl) (by decide) (by omega) rfl (fun c24 => ?_) (fun c24 => ?_) | refine T_ifne (pc2 := 27) (tgt := 30) dX7_guard_24 (by decide) rfl (fun c24 => ?_) (fun c24 => ?_)
        refine T_aload_n (pc2 := 31) dX7_guard_30 rfl rfl ?_
        refine G_getR (pc2 := 34) dX7_guard_31 flX7_43 (sh4 S) rfl rfl ?_
        refine T_aload_n (pc2 := 35) dX7_guard_34 rfl rfl ?_
        refine G_getR (pc2 := 38) dX7_guard_35 flX7_26 (sh4 S) rfl rfl ?_
        refine T_iload_n (pc2 := 39) dX7_guard_38 rfl rfl ?_
        refine T_iload_n (pc2 := 40) dX7_guard_39 rfl rfl ?_
        refine T_iload_n (pc2 := 41) dX7_guard_40 rfl rfl ?_
        refine C_V4 (pc2 := 44) (mc := 0) (ms := 0) dX7_guard_41 cvX4_findGuard mlX7_224 (isO.h (sh34 S) _) (Nat.le_of_ble_eq_true rfl) rfl ?_
        refine c_findGuard S (sc20 S) (by omega) hV hokV ha hj (by omega) (fun g2 e3 e2 hf2 => ?_)
        refine T_iload (pc2 := 46) dX7_guard_44 rfl rfl ?_
        first | refine B_ifne1 (tgt := 59) dX7_guard_46 (by with_reducible rfl) (by decide) ?_ | refine B_ifne0 (pc2 := 49) (tgt := 59) dX7_guard_46 (by with_reducible rfl) (by decide) rfl ?_ | refine N_ifne (pc2 := 49) (tgt := 59) dX7_guard_46 (by with_reducible rfl) (by decide) (by omega) rfl (fun c46 => ?_) (fun c46 => ?_) | refine T_ifne (pc2 := 49) (tgt := 59) dX7_guard_46 (by decide) rfl (fun c46 => ?_) (fun c46 => ?_)
        · refine T_aload_n (pc2 := 60) dX7_guard_59 rfl rfl ?_
          refine G_getR (pc2 := 63) dX7_guard_60 flX7_43 (sh4 S) rfl rfl ?_
          refine G_getI (pc2 := 66) dX7_guard_63 flX7_214 (sh34 S) rfl (by first | with_reducible assumption | exact gs_eq _ _ _ _ | exact (gs_ne _ _ (by omega)).trans (by with_reducible assumption) | exact (gs_ne _ _ (by omega)).trans (gs_eq _ _ _ _) | exact (gs_ne _ _ (by omega)).trans ((gs_ne _ _ (by omega)).trans (by with_reducible assumption)) | exact (gs_ne _ _ (by omega)).trans ((gs_ne _ _ (by omega)).trans (gs_eq _ _ _ _)) | exact (gs_ne _ _ (by omega)).trans ((gs_ne _ _ (by omega)).trans ((gs_ne _ _ (by omega)).trans (by with_reducible assumption))) | rfl) rfl ?_
          refine T_iret dX7_guard_66 rfl rfl ?_
          exact fin_new k (hI.scr hf2) (FrJ.of hf2 (by decide) (by decide)) (by rw [hs, if_neg c46])
        · refine T_aload_n (pc2 := 50) dX7_guard_49 rfl rfl ?_
          refine G_getR (pc2 := 53) dX7_guard_50 flX7_43 (sh4 S) rfl rfl ?_
          refine G_getI (pc2 := 56) dX7_guard_53 flX7_217 (sh34 S) rfl (by first | with_reducible assumption | exact gs_eq _ _ _ _ | exact (gs_ne _ _ (by omega)).trans (by with_reducible assumption) | exact (gs_ne _ _ (by omega)).trans (gs_eq _ _ _ _) | exact (gs_ne _ _ (by omega)).trans ((gs_ne _ _ (by omega)).trans (by with_reducible assumption)) | exact (gs_ne _ _ (by omega)).trans ((gs_ne _ _ (by omega)).trans (gs_eq _ _ _ _)) | exact (gs_ne _ _ (by omega)).trans ((gs_ne _ _ (by omega)).trans ((gs_ne _ _ (by omega)).trans (by with_reducible assumption))) | rfl) rfl ?_
          refine T_goto (tgt := 66) dX7_guard_56 (by decide) ?_
          refine T_iret dX7_guard_66 rfl rfl ?_
          exact fin_new k (hI.scr hf2) (FrJ.of hf2 (by decide) (by decide)) (by rw [hs, if_pos c46])
      · first | refine B_ifne1 (tgt := 30) dX7_guard_24 (by with_reducible rfl) (by decide) ?_ | refine B_ifne0 (pc2 := 27) (tgt := 30) dX7_guard_24 (by with_reducible rfl) (by decide) rfl ?_ | refine N_ifne (pc2 := 27) (tgt := 30) dX7_guard_24 (by with_reducible rfl) (by decide) (by omega) rfl (fun c24 => ?_) (fun c24 => ?_) | refine T_ifne (pc2 := 27) (tgt := 30) dX7_guard_24 (by decide) rfl (fun c24 => ?_) (fun c24 => ?_)
        refine T_ldc (pc2 := 29) dX7_guard_27 kcX7_66 rfl ?_
        refine T_iret dX7_guard_29 rfl rfl ?_
        refine fin_same k hI ?_
        unfold sGuard
        rw [inN_none hno]
        cases inN (nI a) 12 <;> cases inN (nI j) s.V.J <;> cases inN (nI y) 9 <;> rfl
    · first | refine B_ifeq1 (pc2 := 19) (tgt := 27) dX7_guard_16 (by with_reducible rfl) (by decide) rfl ?_ | refine B_ifeq0 (tgt := 27) dX7_guard_16 (by with_reducible rfl) (by decide) ?_ | refine N_ifeq (pc2 := 19) (tgt := 27) dX7_guard_16 (by with_reducible rfl) (by decide) (by omega) rfl (fun c16 => ?_) (fun c16 => ?_) | refine T_ifeq (pc2 := 19) (tgt := 27) dX7_guard_16 (by decide) rfl (fun c16 => ?_) (fun c16 => ?_)
      refine T_ldc (pc2 := 29) dX7_guard_27 kcX7_66 rfl ?_
      refine T_iret dX7_guard_29 rfl rfl ?_
      refine fin_same k hI ?_
      unfold sGuard
      rw [inN_none (v := kk) (k := 9) (fun q hq => hno q (by omega))]
      cases inN (nI a) 12 <;> cases inN (nI j) s.V.J <;> rfl
  · first | refine B_ifeq1 (pc2 := 9) (tgt := 27) dX7_guard_6 (by with_reducible rfl) (by decide) rfl ?_ | refine B_ifeq0 (tgt := 27) dX7_guard_6 (by with_reducible rfl) (by decide) ?_ | refine N_ifeq (pc2 := 9) (tgt := 27) dX7_guard_6 (by with_reducible rfl) (by decide) (by omega) rfl (fun c6 => ?_) (fun c6 => ?_) | refine T_ifeq (pc2 := 9) (tgt := 27) dX7_guard_6 (by decide) rfl (fun c6 => ?_) (fun c6 => ?_)
    refine T_ldc (pc2 := 29) dX7_guard_27 kcX7_66 rfl ?_
    refine T_iret dX7_guard_29 rfl rfl ?_
    refine fin_same k hI ?_
    unfold sGuard
    rcases hno with q | q
    · rw [inN_none q]
    · rw [inN_none q]
      cases inN nt 12 <;> rfl
theorem j_tuned {j w : Int32} (hI : JJ sk g n bf im above below nx s) (hok : Ok s) (k : ∀ sk2 g2 n2, InvJ sk2 g2 n2 (sTuned s j w).2 → FrJ sk g sk2 g2 → Q (some (.int (sTuned s j w).1)) (HP sk2 g2 n2)) : Calls MX7_tuned (d + 5) 0 0 [.ref 4, .int j, .int w] (HP sk g n) Q := by
  have S := hI.1
  have hV := hI.2.2.2.2.2.1
  have hokV := hok.2.2.1.1
  have hJ8 := hokV.1
  refine Calls.of (by decide +kernel) (Nat.le_of_ble_eq_true rfl) ?_
  refine T_aload_n (pc2 := 1) dX7_tuned_0 rfl rfl ?_
  refine T_iload_n (pc2 := 2) dX7_tuned_1 rfl rfl ?_
  refine C_V1 (pc2 := 5) (mc := 0) (ms := 0) dX7_tuned_2 cvX7_isJar mlX7_174 (isO.h (sh4 S) _) (Nat.le_of_ble_eq_true rfl) rfl ?_
  refine c_isJar S hV.1 hokV.1 (fun i hi ei => ?_) (fun hno => ?_)
  · subst ei
    first | refine B_ifeq1 (pc2 := 8) (tgt := 15) dX7_tuned_5 (by with_reducible rfl) (by decide) rfl ?_ | refine B_ifeq0 (tgt := 15) dX7_tuned_5 (by with_reducible rfl) (by decide) ?_ | refine N_ifeq (pc2 := 8) (tgt := 15) dX7_tuned_5 (by with_reducible rfl) (by decide) (by omega) rfl (fun c5 => ?_) (fun c5 => ?_) | refine T_ifeq (pc2 := 8) (tgt := 15) dX7_tuned_5 (by decide) rfl (fun c5 => ?_) (fun c5 => ?_)
    refine T_iload_n (pc2 := 9) dX7_tuned_8 rfl rfl ?_
    refine C_S1 (pc2 := 12) (mc := 0) (ms := 0) dX7_tuned_9 csX7_isHalf mlX7_199 (Nat.le_of_ble_eq_true rfl) rfl ?_
    refine c_isHalf (fun x hx ex => ?_) (fun hno => ?_)
    · subst ex
      have hs : sTuned s (nI i) (nI x) = (if x = 0 then nI (s.V.tn i).2 else nI (s.V.tn i).1, s) := by
        unfold sTuned
        rw [inN_some hi (by omega), inN_some hx (by decide)]
      first | refine B_ifne1 (tgt := 18) dX7_tuned_12 (by with_reducible rfl) (by decide) ?_ | refine B_ifne0 (pc2 := 15) (tgt := 18) dX7_tuned_12 (by with_reducible rfl) (by decide) rfl ?_ | refine N_ifne (pc2 := 15) (tgt := 18) dX7_tuned_12 (by with_reducible rfl) (by decide) (by omega) rfl (fun c12 => ?_) (fun c12 => ?_) | refine T_ifne (pc2 := 15) (tgt := 18) dX7_tuned_12 (by decide) rfl (fun c12 => ?_) (fun c12 => ?_)
      refine T_aload_n (pc2 := 19) dX7_tuned_18 rfl rfl ?_
      refine G_getR (pc2 := 22) dX7_tuned_19 flX7_43 (sh4 S) rfl rfl ?_
      refine T_aload_n (pc2 := 23) dX7_tuned_22 rfl rfl ?_
      refine G_getR (pc2 := 26) dX7_tuned_23 flX7_26 (sh4 S) rfl rfl ?_
      refine T_iload_n (pc2 := 27) dX7_tuned_26 rfl rfl ?_
      refine C_V2 (pc2 := 30) (mc := 0) (ms := 0) dX7_tuned_27 cvX4_findTuned mlX7_231 (isO.h (sh34 S) _) (Nat.le_of_ble_eq_true rfl) rfl ?_
      refine c_findTuned S (sc20 S) (by omega) hV hokV hi (fun g2 e3 e2 hf2 => ?_)
      refine T_iload_n (pc2 := 31) dX7_tuned_30 rfl rfl ?_
      first | refine B_ifne1 (tgt := 44) dX7_tuned_31 (by with_reducible rfl) (by decide) ?_ | refine B_ifne0 (pc2 := 34) (tgt := 44) dX7_tuned_31 (by with_reducible rfl) (by decide) rfl ?_ | refine N_ifne (pc2 := 34) (tgt := 44) dX7_tuned_31 (by with_reducible rfl) (by decide) (by omega) rfl (fun c31 => ?_) (fun c31 => ?_) | refine T_ifne (pc2 := 34) (tgt := 44) dX7_tuned_31 (by decide) rfl (fun c31 => ?_) (fun c31 => ?_)
      · refine T_aload_n (pc2 := 45) dX7_tuned_44 rfl rfl ?_
        refine G_getR (pc2 := 48) dX7_tuned_45 flX7_43 (sh4 S) rfl rfl ?_
        refine G_getI (pc2 := 51) dX7_tuned_48 flX7_217 (sh34 S) rfl (by first | with_reducible assumption | exact gs_eq _ _ _ _ | exact (gs_ne _ _ (by omega)).trans (by with_reducible assumption) | exact (gs_ne _ _ (by omega)).trans (gs_eq _ _ _ _) | exact (gs_ne _ _ (by omega)).trans ((gs_ne _ _ (by omega)).trans (by with_reducible assumption)) | exact (gs_ne _ _ (by omega)).trans ((gs_ne _ _ (by omega)).trans (gs_eq _ _ _ _)) | exact (gs_ne _ _ (by omega)).trans ((gs_ne _ _ (by omega)).trans ((gs_ne _ _ (by omega)).trans (by with_reducible assumption))) | rfl) rfl ?_
        refine T_iret dX7_tuned_51 rfl rfl ?_
        exact fin_new k (hI.scr hf2) (FrJ.of hf2 (by decide) (by decide)) (by rw [hs, if_neg c31])
      · refine T_aload_n (pc2 := 35) dX7_tuned_34 rfl rfl ?_
        refine G_getR (pc2 := 38) dX7_tuned_35 flX7_43 (sh4 S) rfl rfl ?_
        refine G_getI (pc2 := 41) dX7_tuned_38 flX7_214 (sh34 S) rfl (by first | with_reducible assumption | exact gs_eq _ _ _ _ | exact (gs_ne _ _ (by omega)).trans (by with_reducible assumption) | exact (gs_ne _ _ (by omega)).trans (gs_eq _ _ _ _) | exact (gs_ne _ _ (by omega)).trans ((gs_ne _ _ (by omega)).trans (by with_reducible assumption)) | exact (gs_ne _ _ (by omega)).trans ((gs_ne _ _ (by omega)).trans (gs_eq _ _ _ _)) | exact (gs_ne _ _ (by omega)).trans ((gs_ne _ _ (by omega)).trans ((gs_ne _ _ (by omega)).trans (by with_reducible assumption))) | rfl) rfl ?_
        refine T_goto (tgt := 51) dX7_tuned_41 (by decide) ?_
        refine T_iret dX7_tuned_51 rfl rfl ?_
        exact fin_new k (hI.scr hf2) (FrJ.of hf2 (by decide) (by decide)) (by rw [hs, if_pos c31])
    · first | refine B_ifne1 (tgt := 18) dX7_tuned_12 (by with_reducible rfl) (by decide) ?_ | refine B_ifne0 (pc2 := 15) (tgt := 18) dX7_tuned_12 (by with_reducible rfl) (by decide) rfl ?_ | refine N_ifne (pc2 := 15) (tgt := 18) dX7_tuned_12 (by with_reducible rfl) (by decide) (by omega) rfl (fun c12 => ?_) (fun c12 => ?_) | refine T_ifne (pc2 := 15) (tgt := 18) dX7_tuned_12 (by decide) rfl (fun c12 => ?_) (fun c12 => ?_)
      refine T_ldc (pc2 := 17) dX7_tuned_15 kcX7_66 rfl ?_
      refine T_iret dX7_tuned_17 rfl rfl ?_
      refine fin_same k hI ?_
      unfold sTuned
      rw [inN_none hno]
      cases inN (nI i) s.V.J <;> rfl
  · first | refine B_ifeq1 (pc2 := 8) (tgt := 15) dX7_tuned_5 (by with_reducible rfl) (by decide) rfl ?_ | refine B_ifeq0 (tgt := 15) dX7_tuned_5 (by with_reducible rfl) (by decide) ?_ | refine N_ifeq (pc2 := 8) (tgt := 15) dX7_tuned_5 (by with_reducible rfl) (by decide) (by omega) rfl (fun c5 => ?_) (fun c5 => ?_) | refine T_ifeq (pc2 := 8) (tgt := 15) dX7_tuned_5 (by decide) rfl (fun c5 => ?_) (fun c5 => ?_)
    refine T_ldc (pc2 := 17) dX7_tuned_15 kcX7_66 rfl ?_
    refine T_iret dX7_tuned_17 rfl rfl ?_
    refine fin_same k hI ?_
    unfold sTuned
    rw [inN_none hno]
theorem j_kind {j : Int32} (hI : JJ sk g n bf im above below nx s) (hok : Ok s) (k : ∀ sk2 g2 n2, InvJ sk2 g2 n2 (sKind s j).2 → FrJ sk g sk2 g2 → Q (some (.int (sKind s j).1)) (HP sk2 g2 n2)) : Calls MX7_kind (d + 2) 0 0 [.ref 4, .int j] (HP sk g n) Q := by
  have S := hI.1
  have hV := hI.2.2.2.2.2.1
  have hokV := hok.2.2.1.1
  have hJ8 := hokV.1
  refine Calls.of (by decide +kernel) (Nat.le_of_ble_eq_true rfl) ?_
  refine T_aload_n (pc2 := 1) dX7_kind_0 rfl rfl ?_
  refine T_iload_n (pc2 := 2) dX7_kind_1 rfl rfl ?_
  refine C_V1 (pc2 := 5) (mc := 0) (ms := 0) dX7_kind_2 cvX7_isJar mlX7_174 (isO.h (sh4 S) _) (Nat.le_of_ble_eq_true rfl) rfl ?_
  refine c_isJar S hV.1 hokV.1 (fun i hi ei => ?_) (fun hno => ?_)
  · subst ei
    have e1 := (hV.2.2.2 i hi).1
    first | refine B_ifeq1 (pc2 := 8) (tgt := 20) dX7_kind_5 (by with_reducible rfl) (by decide) rfl ?_ | refine B_ifeq0 (tgt := 20) dX7_kind_5 (by with_reducible rfl) (by decide) ?_ | refine N_ifeq (pc2 := 8) (tgt := 20) dX7_kind_5 (by with_reducible rfl) (by decide) (by omega) rfl (fun c5 => ?_) (fun c5 => ?_) | refine T_ifeq (pc2 := 8) (tgt := 20) dX7_kind_5 (by decide) rfl (fun c5 => ?_) (fun c5 => ?_)
    refine T_aload_n (pc2 := 9) dX7_kind_8 rfl rfl ?_
    refine G_getR (pc2 := 12) dX7_kind_9 flX7_26 (sh4 S) rfl rfl ?_
    refine G_getR (pc2 := 15) dX7_kind_12 flX7_280 (sc20 S).1 rfl rfl ?_
    refine T_iload_n (pc2 := 16) dX7_kind_15 rfl rfl ?_
    refine G_iald (pc2 := 17) dX7_kind_16 (sc20 S).2.1 (by omega) (by first | decide | omega) (by first | with_reducible assumption | exact gs_eq _ _ _ _ | exact (gs_ne _ _ (by omega)).trans (by with_reducible assumption) | exact (gs_ne _ _ (by omega)).trans (gs_eq _ _ _ _) | exact (gs_ne _ _ (by omega)).trans ((gs_ne _ _ (by omega)).trans (by with_reducible assumption)) | exact (gs_ne _ _ (by omega)).trans ((gs_ne _ _ (by omega)).trans (gs_eq _ _ _ _)) | exact (gs_ne _ _ (by omega)).trans ((gs_ne _ _ (by omega)).trans ((gs_ne _ _ (by omega)).trans (by with_reducible assumption))) | rfl) rfl ?_
    refine T_goto (tgt := 22) dX7_kind_17 (by decide) ?_
    refine T_iret dX7_kind_22 rfl rfl ?_
    refine fin_same k hI ?_
    unfold sKind
    rw [inN_some hi (by omega)]
  · first | refine B_ifeq1 (pc2 := 8) (tgt := 20) dX7_kind_5 (by with_reducible rfl) (by decide) rfl ?_ | refine B_ifeq0 (tgt := 20) dX7_kind_5 (by with_reducible rfl) (by decide) ?_ | refine N_ifeq (pc2 := 8) (tgt := 20) dX7_kind_5 (by with_reducible rfl) (by decide) (by omega) rfl (fun c5 => ?_) (fun c5 => ?_) | refine T_ifeq (pc2 := 8) (tgt := 20) dX7_kind_5 (by decide) rfl (fun c5 => ?_) (fun c5 => ?_)
    refine T_ldc (pc2 := 22) dX7_kind_20 kcX7_66 rfl ?_
    refine T_iret dX7_kind_22 rfl rfl ?_
    refine fin_same k hI ?_
    unfold sKind
    rw [inN_none hno]
theorem j_ask {j w : Int32} (hI : JJ sk g n bf im above below nx s) (hok : Ok s) (k : ∀ sk2 g2 n2, InvJ sk2 g2 n2 (sAsk s j w).2 → FrJ sk g sk2 g2 → Q (some (.int (sAsk s j w).1)) (HP sk2 g2 n2)) : Calls MX7_ask (d + 11) 0 0 [.ref 4, .int j, .int w] (HP sk g n) Q := by
  have S := hI.1
  have hV := hI.2.2.2.2.2.1
  have hokV := hok.2.2.1.1
  have hJ8 := hokV.1
  refine Calls.of (by decide +kernel) (Nat.le_of_ble_eq_true rfl) ?_
  refine T_aload_n (pc2 := 1) dX7_ask_0 rfl rfl ?_
  refine T_iload_n (pc2 := 2) dX7_ask_1 rfl rfl ?_
  refine C_V1 (pc2 := 5) (mc := 0) (ms := 0) dX7_ask_2 cvX7_isJar mlX7_174 (isO.h (sh4 S) _) (Nat.le_of_ble_eq_true rfl) rfl ?_
  refine c_isJar S hV.1 hokV.1 (fun i hi ei => ?_) (fun hno => ?_)
  · subst ei
    first | refine B_ifeq1 (pc2 := 8) (tgt := 15) dX7_ask_5 (by with_reducible rfl) (by decide) rfl ?_ | refine B_ifeq0 (tgt := 15) dX7_ask_5 (by with_reducible rfl) (by decide) ?_ | refine N_ifeq (pc2 := 8) (tgt := 15) dX7_ask_5 (by with_reducible rfl) (by decide) (by omega) rfl (fun c5 => ?_) (fun c5 => ?_) | refine T_ifeq (pc2 := 8) (tgt := 15) dX7_ask_5 (by decide) rfl (fun c5 => ?_) (fun c5 => ?_)
    refine T_iload_n (pc2 := 9) dX7_ask_8 rfl rfl ?_
    refine C_S1 (pc2 := 12) (mc := 0) (ms := 0) dX7_ask_9 csX7_isHalf mlX7_199 (Nat.le_of_ble_eq_true rfl) rfl ?_
    refine c_isHalf (fun x hx ex => ?_) (fun hno => ?_)
    · subst ex
      first | refine B_ifne1 (tgt := 18) dX7_ask_12 (by with_reducible rfl) (by decide) ?_ | refine B_ifne0 (pc2 := 15) (tgt := 18) dX7_ask_12 (by with_reducible rfl) (by decide) rfl ?_ | refine N_ifne (pc2 := 15) (tgt := 18) dX7_ask_12 (by with_reducible rfl) (by decide) (by omega) rfl (fun c12 => ?_) (fun c12 => ?_) | refine T_ifne (pc2 := 15) (tgt := 18) dX7_ask_12 (by decide) rfl (fun c12 => ?_) (fun c12 => ?_)
      refine T_aload_n (pc2 := 19) dX7_ask_18 rfl rfl ?_
      refine G_getR (pc2 := 22) dX7_ask_19 flX7_50 (sh4 S) rfl rfl ?_
      refine T_aload_n (pc2 := 23) dX7_ask_22 rfl rfl ?_
      refine G_getR (pc2 := 26) dX7_ask_23 flX7_26 (sh4 S) rfl rfl ?_
      refine T_iload_n (pc2 := 27) dX7_ask_26 rfl rfl ?_
      refine T_iload_n (pc2 := 28) dX7_ask_27 rfl rfl ?_
      refine C_V3 (pc2 := 31) (mc := 0) (ms := 0) dX7_ask_28 cvX1_answer mlX7_286 (isO.h (sh45 S) _) (Nat.le_of_ble_eq_true rfl) rfl ?_
      refine c_answer S hI.2.2.1 (sc20 S) (by omega) hV hokV hi hx (fun g2 hT hf => ?_)
      refine T_iret dX7_ask_31 rfl rfl ?_
      have hJ2 : JJ sk g2 n bf im above below nx (s.settr (if x = 0 then szL (s.V.kd i) else mkL (s.V.kd i))) := by
        obtain ⟨h1, h2, h3, h4, h5, h6, h7, h8, h9, h10, h11, h12⟩ := hI
        refine ⟨h1, h2, h3.cg (fun i _ _ => hf i (by omega)), h4.cg (fun i _ _ => hf i (by omega)), h5.cg (fun i _ _ => hf i (by omega)), h6.cg (fun i _ _ => hf i (by omega)), by rw [hf 32 (by omega)]; exact h7, h8.cg h2 (fun i _ => hf i (by omega)), hT, h10.cg h2 (fun kk b hb i q1 q2 => ?_), by rw [hf 4 (by omega)]; exact h11, by rw [hf 4 (by omega)]; exact h12⟩
        obtain ⟨T, -, -, hI, -⟩ := h2
        obtain ⟨t, -, hb2, -⟩ := hI kk b hb
        exact hf i (by omega)
      refine fin_new k hJ2 (FrJ.of hf (by decide) (by decide)) ?_
      unfold sAsk
      rw [inN_some hi (by omega), inN_some hx (by decide)]
    · first | refine B_ifne1 (tgt := 18) dX7_ask_12 (by with_reducible rfl) (by decide) ?_ | refine B_ifne0 (pc2 := 15) (tgt := 18) dX7_ask_12 (by with_reducible rfl) (by decide) rfl ?_ | refine N_ifne (pc2 := 15) (tgt := 18) dX7_ask_12 (by with_reducible rfl) (by decide) (by omega) rfl (fun c12 => ?_) (fun c12 => ?_) | refine T_ifne (pc2 := 15) (tgt := 18) dX7_ask_12 (by decide) rfl (fun c12 => ?_) (fun c12 => ?_)
      refine T_ldc (pc2 := 17) dX7_ask_15 kcX7_66 rfl ?_
      refine T_iret dX7_ask_17 rfl rfl ?_
      refine fin_same k hI ?_
      unfold sAsk
      rw [inN_none hno]
      cases inN (nI i) s.V.J <;> rfl
  · first | refine B_ifeq1 (pc2 := 8) (tgt := 15) dX7_ask_5 (by with_reducible rfl) (by decide) rfl ?_ | refine B_ifeq0 (tgt := 15) dX7_ask_5 (by with_reducible rfl) (by decide) ?_ | refine N_ifeq (pc2 := 8) (tgt := 15) dX7_ask_5 (by with_reducible rfl) (by decide) (by omega) rfl (fun c5 => ?_) (fun c5 => ?_) | refine T_ifeq (pc2 := 8) (tgt := 15) dX7_ask_5 (by decide) rfl (fun c5 => ?_) (fun c5 => ?_)
    refine T_ldc (pc2 := 17) dX7_ask_15 kcX7_66 rfl ?_
    refine T_iret dX7_ask_17 rfl rfl ?_
    refine fin_same k hI ?_
    unfold sAsk
    rw [inN_none hno]
end JAsk

