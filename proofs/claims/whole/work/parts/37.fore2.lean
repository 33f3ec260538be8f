theorem hasC.setnt {g : Nat → Nat → Int32} {c : Nat} {V : Cel} (h : hasC g c V) {j v : Nat} : hasC (gset g (c + 2) j (nI v)) c (V.setnt j v) := by
  refine ⟨by rw [gs_ne _ _ (by omega)]; exact h.1, by rw [gs_ne _ _ (by omega)]; exact h.2.1, by rw [gs_ne _ _ (by omega)]; exact h.2.2.1, fun i hi => ?_⟩
  have := h.2.2.2 i hi
  rw [gs_ne _ _ (by omega), gs_ne (i2 := c + 3) _ _ (by omega), gs_ne (i2 := c + 4) _ _ (by omega), gs_ne (i2 := c + 5) _ _ (by omega)]
  refine ⟨this.1, ?_, this.2.2⟩
  show _ = nI (va_up V.nt j v i)
  by_cases e : i = j
  · subst e
    rw [gs_eq]
    simp [va_up]
  · rw [gs_ne _ _ (by omega), this.2.1]
    simp [va_up, e]
theorem hasC.setkd {g : Nat → Nat → Int32} {c : Nat} {V : Cel} (h : hasC g c V) {j v : Nat} : hasC (gset g (c + 1) j (nI v)) c (V.setkd j v) := by
  refine ⟨by rw [gs_ne _ _ (by omega)]; exact h.1, by rw [gs_ne _ _ (by omega)]; exact h.2.1, by rw [gs_ne _ _ (by omega)]; exact h.2.2.1, fun i hi => ?_⟩
  have := h.2.2.2 i hi
  rw [gs_ne (i2 := c + 2) _ _ (by omega), gs_ne (i2 := c + 3) _ _ (by omega), gs_ne (i2 := c + 4) _ _ (by omega), gs_ne (i2 := c + 5) _ _ (by omega)]
  refine ⟨?_, this.2⟩
  show _ = nI (va_up V.kd j v i)
  by_cases e : i = j
  · subst e
    rw [gs_eq]
    simp [va_up]
  · rw [gs_ne _ _ (by omega), this.1]
    simp [va_up, e]
theorem hasC.setR {g : Nat → Nat → Int32} {c : Nat} {V : Cel} (h : hasC g c V) {v : Nat} : hasC (gset g c 2 (nI v)) c (V.setR v) := by
  refine ⟨by rw [gs_ne _ _ (by omega)]; exact h.1, by rw [gs_ne _ _ (by omega)]; exact h.2.1, gs_eq _ _ _ _, fun i hi => ?_⟩
  have := h.2.2.2 i hi
  rw [gs_ne _ _ (by omega), gs_ne _ _ (by omega), gs_ne _ _ (by omega), gs_ne _ _ (by omega), gs_ne _ _ (by omega)]
  exact this
theorem okC.setkd {V : Cel} (h : okC V) {j v : Nat} (h1 : 1 ≤ v) (h5 : v ≤ 5) : okC (V.setkd j v) := by
  refine ⟨h.1, h.2.1, h.2.2.1, fun i hi => ?_, h.2.2.2.2⟩
  have := h.2.2.2.1 i hi
  refine ⟨?_, ?_, this.2.2⟩
  · show 1 ≤ va_up V.kd j v i
    by_cases e : i = j
    · simp [va_up, e, h1]
    · simp only [va_up, if_neg e]; exact this.1
  · show va_up V.kd j v i ≤ 5
    by_cases e : i = j
    · simp [va_up, e, h5]
    · simp only [va_up, if_neg e]; exact this.2.1
theorem okC.setR {V : Cel} (h : okC V) {v : Nat} (hv : v ≤ 8) : okC (V.setR v) := ⟨h.1, h.2.1, hv, h.2.2.2⟩
theorem okC.swap {V : Cel} (h : okC V) {a b : Nat} (ha : a < V.J) (hb : b < V.J) : okC (V.swap a b) := by
  refine ⟨h.1, h.2.1, h.2.2.1, fun i hi => ?_, fun i j hi hj e => ?_⟩
  · have := h.2.2.2.1 i hi
    refine ⟨this.1, this.2.1, this.2.2.1, this.2.2.2.1, this.2.2.2.2.1, ?_, this.2.2.2.2.2.2⟩
    show (if i = b then V.pl a else if i = a then V.pl b else V.pl i) < V.J
    have pa := (h.2.2.2.1 a ha).2.2.2.2.2.1
    have pb := (h.2.2.2.1 b hb).2.2.2.2.2.1
    split
    · exact pa
    · split
      · exact pb
      · exact this.2.2.2.2.2.1
  · have hin := h.2.2.2.2
    have e : (if i = b then V.pl a else if i = a then V.pl b else V.pl i) = (if j = b then V.pl a else if j = a then V.pl b else V.pl j) := e
    have hi : i < V.J := hi
    have hj : j < V.J := hj
    by_cases i1 : i = b
    · rw [if_pos i1] at e
      by_cases j1 : j = b
      · omega
      · rw [if_neg j1] at e
        by_cases j2 : j = a
        · rw [if_pos j2] at e
          have := hin a b ha hb e
          omega
        · rw [if_neg j2] at e
          have := hin a j ha hj e
          omega
    · rw [if_neg i1] at e
      by_cases i2 : i = a
      · rw [if_pos i2] at e
        by_cases j1 : j = b
        · rw [if_pos j1] at e
          have := hin b a hb ha e
          omega
        · rw [if_neg j1] at e
          by_cases j2 : j = a
          · omega
          · rw [if_neg j2] at e
            have := hin b j hb hj e
            omega
      · rw [if_neg i2] at e
        by_cases j1 : j = b
        · rw [if_pos j1] at e
          have := hin i a hi ha e
          omega
        · rw [if_neg j1] at e
          by_cases j2 : j = a
          · rw [if_pos j2] at e
            have := hin i b hi hb e
            omega
          · rw [if_neg j2] at e
            exact hin i j hi hj e
theorem swap2 (V : Cel) {a b : Nat} (h : a ≠ b) : (V.swap a b).swap a b = V := by
  have : (fun j => if j = b then (V.swap a b).pl a else if j = a then (V.swap a b).pl b else (V.swap a b).pl j) = V.pl := by
    funext j
    have h2 : ¬ b = a := fun e => h e.symm
    by_cases e1 : j = b
    · subst e1
      simp [Cel.swap, Cel.J, Cel.Y, Cel.R, Cel.kd, Cel.nt, Cel.kp, Cel.pl, Cel.hw, h]
    · by_cases e2 : j = a
      · subst e2
        simp [Cel.swap, Cel.J, Cel.Y, Cel.R, Cel.kd, Cel.nt, Cel.kp, Cel.pl, Cel.hw, h]
      · simp [Cel.swap, Cel.J, Cel.Y, Cel.R, Cel.kd, Cel.nt, Cel.kp, Cel.pl, Cel.hw, e1, e2]
  show (V.J, V.Y, V.R, V.kd, V.nt, V.kp, _, V.hw) = V
  rw [this]
def chf (V : Cel) (w : Nat → Bool) (a b : Nat) (s : Nat × Option Nat) : Nat × Option Nat := if (V.swap a b).wv w < s.1 then ((V.swap a b).wv w, some (10 * a + b)) else s
def chRow (V : Cel) (w : Nat → Bool) (a : Nat) (s : Nat × Option Nat) (k : Nat) : Nat × Option Nat := itr (fun t => chf V w a (a + 1 + t)) s k
def chAll (V : Cel) (w : Nat → Bool) (k : Nat) : Nat × Option Nat := itr (fun a s => chRow V w a s (V.J - (a + 1))) (V.wv w, none) k
def Cel.ch (V : Cel) : Nat × Option Nat := chAll V (V.th 0) V.J
/-- the pairs that are alike: how many, the first -/
def Cel.alk (V : Cel) (w : Nat → Bool) (a b : Nat) : Bool := (w a && w b) && ((V.hit (V.nt a) (V.pl a) b && !V.thick b) && (V.hit (V.nt b) (V.pl b) a && !V.thick a))
def alf (V : Cel) (w : Nat → Bool) (a b : Nat) (s : Nat × Option Nat) : Nat × Option Nat := if V.alk w a b then (s.1 + 1, if s.1 = 0 then some (10 * a + b) else s.2) else s
def alRow (V : Cel) (w : Nat → Bool) (a : Nat) (s : Nat × Option Nat) (k : Nat) : Nat × Option Nat := itr (fun t => alf V w a (a + 1 + t)) s k
def Cel.al (V : Cel) : Nat × Option Nat := itr (fun a s => alRow V (V.th 0) a s (V.J - (a + 1))) (0, none) V.J
section Fore2
variable {sk : Nat → SK} {g : Nat → Nat → Int32} {n c : Nat} {V : Cel} {Q : Option Value → SH → Prop} {d kc ks : Nat} {h : SH} {bf im : Nat → Option Nat} {above below : Int64} {w : Nat → Bool}
/-- what the early end of the search means -/
theorem most_val {s : Nat × Nat × Nat} {en : Nat} (hs : s = V.mx w ∨ (en + 1 ≤ s.1 ∧ s.1 ≤ (V.mx w).1 ∧ (9 ≤ s.1 → s = V.mx w))) (h1 : 1 ≤ s.1) : (s.1 - 1 < en ↔ V.wv w < en) ∧ (s.1 - 1 < en → s.1 - 1 = V.wv w) := by
  unfold Cel.wv
  rcases hs with hs | hs
  · rw [hs]
    exact ⟨Iff.rfl, fun _ => rfl⟩
  · exact ⟨by omega, fun _ => by omega⟩
theorem tuned_loop {j : Nat} (S : Sh sk n bf im above below) (hok : okC V) (hj : j < V.J) (k : ∀ g2, g2 34 3 = nI (itr (tnf V w j) (9, 0) 12).1 → g2 34 2 = nI (itr (tnf V w j) (9, 0) 12).2 → Fr 34 45 g g2 → Q none (HP sk g2 n)) :
    ∀ m t g2 U, t + m = 12 → hasC g2 39 U → (∀ v, U.setnt j v = V.setnt j v) → g2 34 3 = nI (itr (tnf V w j) (9, 0) t).1 → (t = 0 ∨ g2 34 2 = nI (itr (tnf V w j) (9, 0) t).2) → (itr (tnf V w j) (9, 0) t).1 ≤ 9 → Fr 34 45 g g2 → T MX4_findTuned (d + 4) kc ks 27 [(0, .ref 34), (2, .int (nI j)), (3, .int (nI (bm w 8))), (4, .int (nI t))] [] (HP sk g2 n) Q := by
  intro m
  induction m with
  | zero =>
    intro t g2 U ht hU hUV e3 e2 h9 hf
    refine T_iload (pc2 := 29) dX4_findTuned_27 rfl rfl ?_
    refine T_bipush (pc2 := 31) dX4_findTuned_29 bp12 rfl ?_
    first | refine N_icmpge (pc2 := 34) (tgt := 77) dX4_findTuned_31 (by decide) (by with_reducible rfl) (by with_reducible rfl) (by omega) (by omega) rfl (fun c31 => ?_) (fun c31 => ?_) | refine T_icmpge (pc2 := 34) (tgt := 77) dX4_findTuned_31 (by decide) rfl (fun c31 => ?_) (fun c31 => ?_)
    · refine T_ret dX4_findTuned_77 rfl ?_
      have : t = 12 := by omega
      subst this
      exact k g2 e3 (by rcases e2 with e2 | e2; exact absurd e2 (by decide); exact e2) hf
    · exact absurd (by omega) c31
  | succ m ih =>
    intro t g2 U ht hU hUV e3 e2 h9 hf
    have hJ8 := hok.1
    refine T_iload (pc2 := 29) dX4_findTuned_27 rfl rfl ?_
    refine T_bipush (pc2 := 31) dX4_findTuned_29 bp12 rfl ?_
    first | refine N_icmpge (pc2 := 34) (tgt := 77) dX4_findTuned_31 (by decide) (by with_reducible rfl) (by with_reducible rfl) (by omega) (by omega) rfl (fun c31 => ?_) (fun c31 => ?_) | refine T_icmpge (pc2 := 34) (tgt := 77) dX4_findTuned_31 (by decide) rfl (fun c31 => ?_) (fun c31 => ?_)
    · exact absurd c31 (by omega)
    · refine T_aload_n (pc2 := 35) dX4_findTuned_34 rfl rfl ?_
      refine G_getR (pc2 := 38) dX4_findTuned_35 flX4_21 (sh34 S) rfl rfl ?_
      refine G_getR (pc2 := 41) dX4_findTuned_38 flX4_68 (sc39 S).1 rfl rfl ?_
      refine T_iload_n (pc2 := 42) dX4_findTuned_41 rfl rfl ?_
      refine T_iload (pc2 := 44) dX4_findTuned_42 rfl rfl ?_
      refine G_iast (pc2 := 45) dX4_findTuned_44 (sc39 S).2.2.1 (by omega) (by decide) rfl ?_
      refine T_aload_n (pc2 := 46) dX4_findTuned_45 rfl rfl ?_
      refine G_getR (pc2 := 49) dX4_findTuned_46 flX4_12 (sh34 S) rfl rfl ?_
      refine T_aload_n (pc2 := 50) dX4_findTuned_49 rfl rfl ?_
      refine G_getR (pc2 := 53) dX4_findTuned_50 flX4_21 (sh34 S) rfl rfl ?_
      refine C_V1 (pc2 := 56) (mc := 0) (ms := 0) dX4_findTuned_53 cvX3_tune mlX4_25 (isO.h (sh35 S) _) (Nat.le_of_ble_eq_true rfl) rfl ?_
      have hU2 := hU.setnt (j := j) (v := t)
      rw [hUV] at hU2
      have hok2 := hok.setnt (j := j) (v := t) (by omega)
      refine c_tune S (sc39 S) (by omega) hU2 hok2 (fun g3 hE hf3 => ?_)
      have e3b : g3 34 3 = nI (itr (tnf V w j) (9, 0) t).1 := by rw [hf3 34 (by omega), gs_row (by omega)]; exact e3
      refine T_aload_n (pc2 := 57) dX4_findTuned_56 rfl rfl ?_
      refine T_iload (pc2 := 59) dX4_findTuned_57 rfl rfl ?_
      refine T_aload_n (pc2 := 60) dX4_findTuned_59 rfl rfl ?_
      refine T_iload_n (pc2 := 61) dX4_findTuned_60 rfl rfl ?_
      refine T_aload_n (pc2 := 62) dX4_findTuned_61 rfl rfl ?_
      refine G_getI (pc2 := 65) dX4_findTuned_62 flX4_41 (sh34 S) rfl (by first | with_reducible assumption | exact gs_eq _ _ _ _ | exact (gs_ne _ _ (by omega)).trans (by with_reducible assumption) | exact (gs_ne _ _ (by omega)).trans (gs_eq _ _ _ _) | exact (gs_ne _ _ (by omega)).trans ((gs_ne _ _ (by omega)).trans (by with_reducible assumption)) | exact (gs_ne _ _ (by omega)).trans ((gs_ne _ _ (by omega)).trans (gs_eq _ _ _ _)) | exact (gs_ne _ _ (by omega)).trans ((gs_ne _ _ (by omega)).trans ((gs_ne _ _ (by omega)).trans (by with_reducible assumption))) | rfl) rfl ?_
      refine C_V2 (pc2 := 68) (mc := 0) (ms := 0) dX4_findTuned_65 cvX4_mostBroken mlX4_37 (isO.h (sh34 S) _) (Nat.le_of_ble_eq_true rfl) rfl ?_
      refine c_most (V := V.setnt j t) S hE hok.1 (show 0 < V.J by omega) (by omega) (fun s g4 hs h1 h9b hE4 e6 hf4 hk4 => ?_)
      have hmv := most_val hs h1
      have e3c : g4 34 3 = nI (itr (tnf V w j) (9, 0) t).1 := by rw [hk4 3 (by decide)]; exact e3b
      have hstep : itr (tnf V w j) (9, 0) (t + 1) = tnf V w j t (itr (tnf V w j) (9, 0) t) := rfl
      have hf5 : Fr 34 45 g g4 := ((hf.st (i := 39 + 2) (by omega) (by omega)).tr (hf3.wd (by omega) (by omega))).tr (hf4.wd (by omega) (by omega))
      have hU3 : hasC g4 39 (V.setnt j t) := (hU2.fr hf3 (by omega)).fr hf4 (by omega)
      have hUV2 : ∀ v, (V.setnt j t).setnt j v = V.setnt j v := by
        intro v
        unfold Cel.setnt
        simp only [Cel.J, Cel.Y, Cel.R, Cel.kd, Cel.nt, Cel.kp, Cel.pl, Cel.hw]
        congr 5
        funext q
        by_cases e : q = j
        · simp [va_up, e]
        · simp [va_up, e]
      refine C_V2 (pc2 := 71) (mc := 0) (ms := 0) dX4_findTuned_68 cvX4_keepFewest mlX4_72 (isO.h (sh34 S) _) (Nat.le_of_ble_eq_true rfl) rfl ?_
      refine c_keepFewest S e3c (by omega) (by omega) (fun hlt => ?_) (fun hlt => ?_)
      · first | refine N_iinc (pc2 := 74) dX4_findTuned_71 rfl (by with_reducible rfl) ic1 (by decide) rfl ?_ | refine T_iinc (pc2 := 74) dX4_findTuned_71 rfl rfl (by decide) rfl ?_
        refine T_goto (tgt := 27) dX4_findTuned_74 (by decide) ?_
        refine T_sub (lks (i := 0) rfl (lks (i := 2) rfl (lks (i := 3) rfl (lks (i := 4) rfl lk0)))) ?_
        have hx : itr (tnf V w j) (9, 0) (t + 1) = ((V.setnt j t).wv w, t) := by
          rw [hstep]
          exact if_pos (hmv.1.mp hlt)
        have h8 := wv_le (V.setnt j t) w
        refine ih (t + 1) _ (V.setnt j t) (by omega) (hU3.fr (lo := 34) (hi := 35) ((Fr.rf.st (by omega) (by omega)).st (by omega) (by omega)) (by omega)) hUV2 ?_ (Or.inr ?_) ?_ ((hf5.st (by omega) (by omega)).st (by omega) (by omega))
        · rw [gs_eq, hx, hmv.2 hlt]
        · rw [gs_ne _ _ (by omega), gs_eq, hx]
        · rw [hx]
          show (V.setnt j t).wv w ≤ 9
          omega
      · first | refine N_iinc (pc2 := 74) dX4_findTuned_71 rfl (by with_reducible rfl) ic1 (by decide) rfl ?_ | refine T_iinc (pc2 := 74) dX4_findTuned_71 rfl rfl (by decide) rfl ?_
        refine T_goto (tgt := 27) dX4_findTuned_74 (by decide) ?_
        refine T_sub (lks (i := 0) rfl (lks (i := 2) rfl (lks (i := 3) rfl (lks (i := 4) rfl lk0)))) ?_
        have hx : itr (tnf V w j) (9, 0) (t + 1) = itr (tnf V w j) (9, 0) t := by
          rw [hstep]
          exact if_neg (fun z => hlt (hmv.1.mpr z))
        have ht0 : t ≠ 0 := by
          intro e
          subst e
          have := wv_le (V.setnt j 0) w
          exact hlt (hmv.1.mpr (show (V.setnt j 0).wv w < 9 by omega))
        refine ih (t + 1) _ (V.setnt j t) (by omega) hU3 hUV2 ?_ (Or.inr ?_) ?_ hf5
        · rw [hx]; exact e3c
        · rw [hx, hk4 2 (by decide), hf3 34 (by omega), gs_row (by omega)]
          rcases e2 with e2 | e2
          · exact absurd e2 ht0
          · exact e2
        · rw [hx]; exact h9
theorem c_findTuned {j : Nat} (S : Sh sk n bf im above below) (hc : isC sk n c) (hd : c + 6 ≤ 34 ∨ 45 ≤ c) (hV : hasC g c V) (hok : okC V) (hj : j < V.J) (k : ∀ g2, g2 34 3 = nI (V.tn j).1 → g2 34 2 = nI (V.tn j).2 → Fr 34 45 g g2 → Q none (HP sk g2 n)) : Calls MX4_findTuned (d + 4) 0 0 [.ref 34, .ref c, .int (nI j)] (HP sk g n) Q := by
  have hJ8 := hok.1
  refine Calls.of (by decide +kernel) (Nat.le_of_ble_eq_true rfl) ?_
  refine T_aload_n (pc2 := 1) dX4_findTuned_0 rfl rfl ?_
  refine T_iconst (pc2 := 2) dX4_findTuned_1 ic0 rfl ?_
  refine C_V1 (pc2 := 5) (mc := 0) (ms := 0) dX4_findTuned_2 cvX2_those mlX4_29 (isO.h hc.1 _) (Nat.le_of_ble_eq_true rfl) rfl ?_
  refine c_those hc hV hok.1 (by decide) (hw31 hok) ?_
  refine T_iconst (pc2 := 6) dX4_findTuned_5 ic1 rfl ?_
  refine T_iload_n (pc2 := 7) dX4_findTuned_6 rfl rfl ?_
  refine T_ishl (pc2 := 8) dX4_findTuned_7 rfl ?_
  refine T_ior (pc2 := 9) dX4_findTuned_8 rfl ?_
  rw [bm_one (by decide) (by omega)]
  refine T_istore_n (pc2 := 10) dX4_findTuned_9 (by decide) rfl ?_
  refine T_aload_n (pc2 := 11) dX4_findTuned_10 rfl rfl ?_
  refine T_bipush (pc2 := 13) dX4_findTuned_11 bp9 rfl ?_
  refine G_putI (pc2 := 16) dX4_findTuned_13 flX4_41 (sh34 S) rfl rfl rfl rfl ?_
  refine T_aload_n (pc2 := 17) dX4_findTuned_16 rfl rfl ?_
  refine G_getR (pc2 := 20) dX4_findTuned_17 flX4_21 (sh34 S) rfl rfl ?_
  refine T_aload_n (pc2 := 21) dX4_findTuned_20 rfl rfl ?_
  refine C_V1 (pc2 := 24) (mc := 0) (ms := 0) dX4_findTuned_21 cvX2_become mlX4_60 (isO.h (sc39 S).1 _) (Nat.le_of_ble_eq_true rfl) rfl ?_
  have hV2 : hasC (gset g 34 3 (nI 9)) c V := hV.fr (lo := 34) (hi := 35) (Fr.rf.st (by omega) (by omega)) (by omega)
  refine c_become (sc39 S) hc (by omega) hV2 hok.1 (fun g2 h39 hf => ?_)
  refine T_iconst (pc2 := 25) dX4_findTuned_24 ic0 rfl ?_
  refine T_istore (pc2 := 27) dX4_findTuned_25 (by decide) rfl ?_
  refine T_sub (lks (i := 0) rfl (lks (i := 2) rfl (lks (i := 3) rfl (lks (i := 4) rfl lk0)))) ?_
  refine tuned_loop (g := g) (w := addJ (V.th 0) j) S hok hj k 12 0 g2 V (by omega) h39 (fun _ => rfl) ?_ (Or.inl rfl) (show (9 : Nat) ≤ 9 by decide) ((Fr.rf.st (i := 34) (k := 3) (v := nI 9) (by omega) (by omega)).tr (hf.wd (by omega) (by omega)))
  rw [hf 34 (by omega), gs_eq]
  rfl
theorem spared_loop (S : Sh sk n bf im above below) (hc : isC sk n c) (hd : c + 6 ≤ 34 ∨ 45 ≤ c) (hV : hasC g c V) (hok : okC V) (k : ∀ g2, g2 34 3 = nI (itr (spf V w) (9, none) V.J).1 → (∀ v, (itr (spf V w) (9, none) V.J).2 = some v → g2 34 2 = nI v) → Fr 34 45 g g2 → Q none (HP sk g2 n)) :
    ∀ m j g2, j + m = V.J → tunedE g2 V → g2 34 3 = nI (itr (spf V w) (9, none) j).1 → (∀ v, (itr (spf V w) (9, none) j).2 = some v → g2 34 2 = nI v) → (itr (spf V w) (9, none) j).1 ≤ 9 → Fr 34 45 g g2 → T MX4_findSpared (d + 4) kc ks 39 [(0, .ref 34), (1, .ref c), (2, .int (nI (bm w 8))), (3, .int (nI j))] [] (HP sk g2 n) Q := by
  have hJ8 := hok.1
  intro m
  induction m with
  | zero =>
    intro j g2 hj hE e3 e2 h9 hf
    have e0 := (hV.fr hf hd).1
    refine T_iload_n (pc2 := 40) dX4_findSpared_39 rfl rfl ?_
    refine T_aload_n (pc2 := 41) dX4_findSpared_40 rfl rfl ?_
    refine G_getI (pc2 := 44) dX4_findSpared_41 flX4_63 hc.1 rfl (by first | with_reducible assumption | exact gs_eq _ _ _ _ | exact (gs_ne _ _ (by omega)).trans (by with_reducible assumption) | exact (gs_ne _ _ (by omega)).trans (gs_eq _ _ _ _) | exact (gs_ne _ _ (by omega)).trans ((gs_ne _ _ (by omega)).trans (by with_reducible assumption)) | exact (gs_ne _ _ (by omega)).trans ((gs_ne _ _ (by omega)).trans (gs_eq _ _ _ _)) | exact (gs_ne _ _ (by omega)).trans ((gs_ne _ _ (by omega)).trans ((gs_ne _ _ (by omega)).trans (by with_reducible assumption))) | rfl) rfl ?_
    first | refine N_icmpge (pc2 := 47) (tgt := 81) dX4_findSpared_44 (by decide) (by with_reducible rfl) (by with_reducible rfl) (by omega) (by omega) rfl (fun c44 => ?_) (fun c44 => ?_) | refine T_icmpge (pc2 := 47) (tgt := 81) dX4_findSpared_44 (by decide) rfl (fun c44 => ?_) (fun c44 => ?_)
    · refine T_ret dX4_findSpared_81 rfl ?_
      have : j = V.J := by omega
      subst this
      exact k g2 e3 e2 hf
    · exact absurd (by omega) c44
  | succ m ih =>
    intro j g2 hj hE e3 e2 h9 hf
    have e0 := (hV.fr hf hd).1
    have hstep : itr (spf V w) (9, none) (j + 1) = spf V w j (itr (spf V w) (9, none) j) := rfl
    refine T_iload_n (pc2 := 40) dX4_findSpared_39 rfl rfl ?_
    refine T_aload_n (pc2 := 41) dX4_findSpared_40 rfl rfl ?_
    refine G_getI (pc2 := 44) dX4_findSpared_41 flX4_63 hc.1 rfl (by first | with_reducible assumption | exact gs_eq _ _ _ _ | exact (gs_ne _ _ (by omega)).trans (by with_reducible assumption) | exact (gs_ne _ _ (by omega)).trans (gs_eq _ _ _ _) | exact (gs_ne _ _ (by omega)).trans ((gs_ne _ _ (by omega)).trans (by with_reducible assumption)) | exact (gs_ne _ _ (by omega)).trans ((gs_ne _ _ (by omega)).trans (gs_eq _ _ _ _)) | exact (gs_ne _ _ (by omega)).trans ((gs_ne _ _ (by omega)).trans ((gs_ne _ _ (by omega)).trans (by with_reducible assumption))) | rfl) rfl ?_
    first | refine N_icmpge (pc2 := 47) (tgt := 81) dX4_findSpared_44 (by decide) (by with_reducible rfl) (by with_reducible rfl) (by omega) (by omega) rfl (fun c44 => ?_) (fun c44 => ?_) | refine T_icmpge (pc2 := 47) (tgt := 81) dX4_findSpared_44 (by decide) rfl (fun c44 => ?_) (fun c44 => ?_)
    · exact absurd c44 (by omega)
    · refine T_iload_n (pc2 := 48) dX4_findSpared_47 rfl rfl ?_
      refine T_iload_n (pc2 := 49) dX4_findSpared_48 rfl rfl ?_
      refine C_SN2 (pc2 := 52) (mc := 0) (ms := 0) dX4_findSpared_49 csX7_has mnX4_75 (Nat.le_of_ble_eq_true rfl) rfl ?_
      refine c_has (by decide) (by omega) (fun hp => ?_) (fun hp => ?_)
      · first | refine B_ifeq1 (pc2 := 55) (tgt := 75) dX4_findSpared_52 (by with_reducible rfl) (by decide) rfl ?_ | refine B_ifeq0 (tgt := 75) dX4_findSpared_52 (by with_reducible rfl) (by decide) ?_ | refine N_ifeq (pc2 := 55) (tgt := 75) dX4_findSpared_52 (by with_reducible rfl) (by decide) (by omega) rfl (fun c52 => ?_) (fun c52 => ?_) | refine T_ifeq (pc2 := 55) (tgt := 75) dX4_findSpared_52 (by decide) rfl (fun c52 => ?_) (fun c52 => ?_)
        refine T_aload_n (pc2 := 56) dX4_findSpared_55 rfl rfl ?_
        refine T_iload_n (pc2 := 57) dX4_findSpared_56 rfl rfl ?_
        refine T_aload_n (pc2 := 58) dX4_findSpared_57 rfl rfl ?_
        refine T_iload_n (pc2 := 59) dX4_findSpared_58 rfl rfl ?_
        refine T_iconst (pc2 := 60) dX4_findSpared_59 ic1 rfl ?_
        refine T_iload_n (pc2 := 61) dX4_findSpared_60 rfl rfl ?_
        refine T_ishl (pc2 := 62) dX4_findSpared_61 rfl ?_
        refine T_iconst (pc2 := 63) dX4_findSpared_62 icm1 rfl ?_
        refine T_ixor (pc2 := 64) dX4_findSpared_63 rfl ?_
        refine T_iand (pc2 := 65) dX4_findSpared_64 rfl ?_
        have q2 : nI (bm w 8) &&& ((nI 1 <<< (nI j &&& 31)) ^^^ (-1)) = nI (bm (cutJ w j) 8) := by
          rw [shl1 (by omega)]
          have := bm_not w (fun i => (2 ^ j).testBit i) 8
          rw [bm_self (k := 8) (show 2 ^ j < 2 ^ 8 from Nat.pow_lt_pow_right (by decide) (by omega))] at this
          rw [this]
          congr 1
          apply bm_cg
          intro i _
          unfold cutJ
          rw [Nat.testBit_two_pow]
          congr 2
          exact decide_eq_decide.mpr ⟨fun e => e.symm, fun e => e.symm⟩
        rw [q2]
        refine T_aload_n (pc2 := 66) dX4_findSpared_65 rfl rfl ?_
        refine G_getI (pc2 := 69) dX4_findSpared_66 flX4_41 (sh34 S) rfl (by first | with_reducible assumption | exact gs_eq _ _ _ _ | exact (gs_ne _ _ (by omega)).trans (by with_reducible assumption) | exact (gs_ne _ _ (by omega)).trans (gs_eq _ _ _ _) | exact (gs_ne _ _ (by omega)).trans ((gs_ne _ _ (by omega)).trans (by with_reducible assumption)) | exact (gs_ne _ _ (by omega)).trans ((gs_ne _ _ (by omega)).trans (gs_eq _ _ _ _)) | exact (gs_ne _ _ (by omega)).trans ((gs_ne _ _ (by omega)).trans ((gs_ne _ _ (by omega)).trans (by with_reducible assumption))) | rfl) rfl ?_
        refine C_V2 (pc2 := 72) (mc := 0) (ms := 0) dX4_findSpared_69 cvX4_mostBroken mlX4_37 (isO.h (sh34 S) _) (Nat.le_of_ble_eq_true rfl) rfl ?_
        refine c_most (V := V) S hE hok.1 (show 0 < V.J by omega) (by omega) (fun s g4 hs h1 h9b hE4 e6 hf4 hk4 => ?_)
        have hmv := most_val hs h1
        have e3c : g4 34 3 = nI (itr (spf V w) (9, none) j).1 := by rw [hk4 3 (by decide)]; exact e3
        have hf5 : Fr 34 45 g g4 := hf.tr (hf4.wd (by omega) (by omega))
        refine C_V2 (pc2 := 75) (mc := 0) (ms := 0) dX4_findSpared_72 cvX4_keepFewest mlX4_72 (isO.h (sh34 S) _) (Nat.le_of_ble_eq_true rfl) rfl ?_
        refine c_keepFewest S e3c (by omega) (by omega) (fun hlt => ?_) (fun hlt => ?_)
        · first | refine N_iinc (pc2 := 78) dX4_findSpared_75 rfl (by with_reducible rfl) ic1 (by decide) rfl ?_ | refine T_iinc (pc2 := 78) dX4_findSpared_75 rfl rfl (by decide) rfl ?_
          refine T_goto (tgt := 39) dX4_findSpared_78 (by decide) ?_
          refine T_sub (lks (i := 0) rfl (lks (i := 1) rfl (lks (i := 2) rfl (lks (i := 3) rfl lk0)))) ?_
          have hx : itr (spf V w) (9, none) (j + 1) = (V.wv (cutJ w j), some j) := by
            rw [hstep]
            exact if_pos ⟨hp, hmv.1.mp hlt⟩
          have h8 := wv_le V (cutJ w j)
          refine ih (j + 1) _ (by omega) (hE4.fr (lo := 34) (hi := 35) ((Fr.rf.st (by omega) (by omega)).st (by omega) (by omega)) (by omega)) ?_ ?_ ?_ ((hf5.st (by omega) (by omega)).st (by omega) (by omega))
          · rw [gs_eq, hx, hmv.2 hlt]
          · intro v hv
            rw [hx] at hv
            cases hv
            rw [gs_ne _ _ (by omega), gs_eq]
          · rw [hx]
            show V.wv (cutJ w j) ≤ 9
            omega
        · first | refine N_iinc (pc2 := 78) dX4_findSpared_75 rfl (by with_reducible rfl) ic1 (by decide) rfl ?_ | refine T_iinc (pc2 := 78) dX4_findSpared_75 rfl rfl (by decide) rfl ?_
          refine T_goto (tgt := 39) dX4_findSpared_78 (by decide) ?_
          refine T_sub (lks (i := 0) rfl (lks (i := 1) rfl (lks (i := 2) rfl (lks (i := 3) rfl lk0)))) ?_
          have hx : itr (spf V w) (9, none) (j + 1) = itr (spf V w) (9, none) j := by
            rw [hstep]
            exact if_neg (fun z => hlt (hmv.1.mpr z.2))
          refine ih (j + 1) _ (by omega) hE4 ?_ ?_ ?_ hf5
          · rw [hx]; exact e3c
          · rw [hx, hk4 2 (by decide)]; exact e2
          · rw [hx]; exact h9
      · first | refine B_ifeq1 (pc2 := 55) (tgt := 75) dX4_findSpared_52 (by with_reducible rfl) (by decide) rfl ?_ | refine B_ifeq0 (tgt := 75) dX4_findSpared_52 (by with_reducible rfl) (by decide) ?_ | refine N_ifeq (pc2 := 55) (tgt := 75) dX4_findSpared_52 (by with_reducible rfl) (by decide) (by omega) rfl (fun c52 => ?_) (fun c52 => ?_) | refine T_ifeq (pc2 := 55) (tgt := 75) dX4_findSpared_52 (by decide) rfl (fun c52 => ?_) (fun c52 => ?_)
        first | refine N_iinc (pc2 := 78) dX4_findSpared_75 rfl (by with_reducible rfl) ic1 (by decide) rfl ?_ | refine T_iinc (pc2 := 78) dX4_findSpared_75 rfl rfl (by decide) rfl ?_
        refine T_goto (tgt := 39) dX4_findSpared_78 (by decide) ?_
        refine T_sub (lks (i := 0) rfl (lks (i := 1) rfl (lks (i := 2) rfl (lks (i := 3) rfl lk0)))) ?_
        have hx : itr (spf V w) (9, none) (j + 1) = itr (spf V w) (9, none) j := by
          rw [hstep]
          exact if_neg (fun z => by rw [hp] at z; exact absurd z.1 (by decide))
        refine ih (j + 1) _ (by omega) hE ?_ ?_ ?_ hf
        · rw [hx]; exact e3
        · rw [hx]; exact e2
        · rw [hx]; exact h9
theorem sp_lt (V : Cel) (w : Nat → Bool) : ∀ j, (itr (spf V w) (9, none) j).1 < 9 → ∃ v, (itr (spf V w) (9, none) j).2 = some v := by
  intro j
  induction j with
  | zero => intro h; exact absurd h (Nat.lt_irrefl 9)
  | succ j ih =>
    show (spf V w j (itr (spf V w) (9, none) j)).1 < 9 → ∃ v, (spf V w j (itr (spf V w) (9, none) j)).2 = some v
    generalize itr (spf V w) (9, none) j = s at ih
    unfold spf
    by_cases hc : w j = true ∧ V.wv (cutJ w j) < s.1
    · rw [if_pos hc]
      intro _
      exact ⟨j, rfl⟩
    · rw [if_neg hc]
      exact ih
theorem sp_some (V : Cel) (w : Nat → Bool) : ∀ j i, i < j → w i = true → ∃ v, (itr (spf V w) (9, none) j).2 = some v ∧ (itr (spf V w) (9, none) j).1 ≤ 8 := by
  intro j
  induction j with
  | zero => intro i hi; omega
  | succ j ih =>
    intro i hi hw
    have h8 := wv_le V (cutJ w j)
    show ∃ v, (spf V w j (itr (spf V w) (9, none) j)).2 = some v ∧ (spf V w j (itr (spf V w) (9, none) j)).1 ≤ 8
    by_cases hc : w j = true ∧ V.wv (cutJ w j) < (itr (spf V w) (9, none) j).1
    · rw [show spf V w j (itr (spf V w) (9, none) j) = (V.wv (cutJ w j), some j) from if_pos hc]
      exact ⟨j, rfl, h8⟩
    · rw [show spf V w j (itr (spf V w) (9, none) j) = itr (spf V w) (9, none) j from if_neg hc]
      by_cases e : i = j
      · subst e
        have hge : (itr (spf V w) (9, none) i).1 ≤ V.wv (cutJ w i) := by
          rcases Nat.lt_or_ge (V.wv (cutJ w i)) (itr (spf V w) (9, none) i).1 with q | q
          · exact absurd ⟨hw, q⟩ hc
          · exact q
        have hsm : (itr (spf V w) (9, none) i).1 < 9 → ∃ v, (itr (spf V w) (9, none) i).2 = some v := sp_lt V w i
        obtain ⟨v, hv⟩ := hsm (by omega)
        exact ⟨v, hv, by omega⟩
      · exact ih i (by omega) hw
theorem c_findSpared (S : Sh sk n bf im above below) (hc : isC sk n c) (hd : c + 6 ≤ 34 ∨ 45 ≤ c) (hV : hasC g c V) (hok : okC V) (k : ∀ g2, g2 34 2 = oN V.sp.2 → g2 34 3 = oN (V.sp.2.map fun _ => V.sp.1) → Fr 34 45 g g2 → Q none (HP sk g2 n)) : Calls MX4_findSpared (d + 4) 0 0 [.ref 34, .ref c] (HP sk g n) Q := by
  refine Calls.of (by decide +kernel) (Nat.le_of_ble_eq_true rfl) ?_
  have hJ8 := hok.1
  refine T_aload_n (pc2 := 1) dX4_findSpared_0 rfl rfl ?_
  refine T_iconst (pc2 := 2) dX4_findSpared_1 ic0 rfl ?_
  refine C_V1 (pc2 := 5) (mc := 0) (ms := 0) dX4_findSpared_2 cvX2_those mlX4_29 (isO.h hc.1 _) (Nat.le_of_ble_eq_true rfl) rfl ?_
  refine c_those hc hV hok.1 (by decide) (hw31 hok) ?_
  have hlt : bm (V.th 0) 8 < 2 ^ 31 := bm_le _ (by decide)
  refine T_istore_n (pc2 := 6) dX4_findSpared_5 (by decide) rfl ?_
  refine T_iload_n (pc2 := 7) dX4_findSpared_6 rfl rfl ?_
  first | refine B_ifne1 (tgt := 23) dX4_findSpared_7 (by with_reducible rfl) (by decide) ?_ | refine B_ifne0 (pc2 := 10) (tgt := 23) dX4_findSpared_7 (by with_reducible rfl) (by decide) rfl ?_ | refine N_ifne (pc2 := 10) (tgt := 23) dX4_findSpared_7 (by with_reducible rfl) (by decide) (by omega) rfl (fun c7 => ?_) (fun c7 => ?_) | refine T_ifne (pc2 := 10) (tgt := 23) dX4_findSpared_7 (by decide) rfl (fun c7 => ?_) (fun c7 => ?_)
  · refine T_aload_n (pc2 := 24) dX4_findSpared_23 rfl rfl ?_
    refine G_getR (pc2 := 27) dX4_findSpared_24 flX4_12 (sh34 S) rfl rfl ?_
    refine T_aload_n (pc2 := 28) dX4_findSpared_27 rfl rfl ?_
    refine C_V1 (pc2 := 31) (mc := 0) (ms := 0) dX4_findSpared_28 cvX3_tune mlX4_25 (isO.h (sh35 S) _) (Nat.le_of_ble_eq_true rfl) rfl ?_
    refine c_tune S hc (by omega) hV hok (fun g2 hE hf => ?_)
    refine T_aload_n (pc2 := 32) dX4_findSpared_31 rfl rfl ?_
    refine T_bipush (pc2 := 34) dX4_findSpared_32 bp9 rfl ?_
    refine G_putI (pc2 := 37) dX4_findSpared_34 flX4_41 (sh34 S) rfl rfl rfl rfl ?_
    refine T_iconst (pc2 := 38) dX4_findSpared_37 ic0 rfl ?_
    refine T_istore_n (pc2 := 39) dX4_findSpared_38 (by decide) rfl ?_
    refine T_sub (lks (i := 0) rfl (lks (i := 1) rfl (lks (i := 2) rfl (lks (i := 3) rfl lk0)))) ?_
    refine spared_loop (g := g) (w := V.th 0) S hc hd hV hok (fun g3 e3 e2 hf3 => ?_) V.J 0 _ (by omega) (hE.fr (lo := 34) (hi := 35) (Fr.rf.st (by omega) (by omega)) (by omega)) (gs_eq _ _ _ _) (fun v hv => by cases hv) (show (9 : Nat) ≤ 9 by decide) ((hf.wd (by omega) (by omega)).st (by omega) (by omega))
    obtain ⟨i, hi, hw⟩ : ∃ i, i < V.J ∧ V.th 0 i = true := by
      apply Classical.byContradiction
      intro hno
      apply c7
      rw [show bm (V.th 0) 8 = bm (fun _ => false) 8 from bm_cg (fun j _ => ?_), bm_0]
      cases q : V.th 0 j with
      | false => rfl
      | true => exact absurd ⟨j, by have : V.th 0 j = true := q; simp [Cel.th] at this; exact this.1, q⟩ hno
    obtain ⟨v, hv, h8⟩ := sp_some V (V.th 0) V.J i hi hw
    have hv2 : V.sp.2 = some v := hv
    refine k g3 ?_ ?_ hf3
    · rw [hv2]; exact e2 v hv
    · rw [hv2]; exact e3
  · refine T_aload_n (pc2 := 11) dX4_findSpared_10 rfl rfl ?_
    refine T_ldc (pc2 := 13) dX4_findSpared_11 kcX4_59 rfl ?_
    refine G_putI (pc2 := 16) dX4_findSpared_13 flX4_48 (sh34 S) rfl rfl rfl rfl ?_
    refine T_aload_n (pc2 := 17) dX4_findSpared_16 rfl rfl ?_
    refine T_ldc (pc2 := 19) dX4_findSpared_17 kcX4_59 rfl ?_
    refine G_putI (pc2 := 22) dX4_findSpared_19 flX4_41 (sh34 S) rfl rfl rfl rfl ?_
    refine T_ret dX4_findSpared_22 rfl ?_
    have hz : ∀ j, j < 8 → V.th 0 j = false := fun j hj => bm_inj (q := fun _ => false) (by rw [c7, bm_0]) j hj
    have hsp : ∀ j, j ≤ V.J → itr (spf V (V.th 0)) (9, none) j = (9, none) := by
      intro j
      induction j with
      | zero => intro _; rfl
      | succ j ih =>
        intro hj
        show spf V (V.th 0) j (itr (spf V (V.th 0)) (9, none) j) = _
        rw [ih (by omega)]
        exact if_neg (fun z => by rw [hz j (by omega)] at z; exact absurd z.1 (by decide))
    have hx : V.sp = (9, none) := hsp V.J (Nat.le_refl _)
    refine k _ ?_ ?_ ((Fr.rf.st (by omega) (by omega)).st (by omega) (by omega))
    · rw [gs_ne _ _ (by omega), gs_eq, hx]; rfl
    · rw [gs_eq, hx]; rfl
end Fore2

