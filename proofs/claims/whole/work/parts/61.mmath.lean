/-! what sounds at which place, and who is set off -/
def okD (V : Cel) : Prop := V.J ≤ 8 ∧ True ∧ V.R ≤ 8 ∧ (∀ j, j < V.J → 1 ≤ V.kd j ∧ V.kd j ≤ 5 ∧ V.nt j < 12 ∧ True ∧ True ∧ V.pl j < V.J ∧ V.hw j ≤ 3) ∧ ∀ i j, i < V.J → j < V.J → V.pl i = V.pl j → i = j
theorem okC.d {V : Cel} (h : okC V) : okD V := ⟨h.1, trivial, h.2.2.1, fun j hj => have a := h.2.2.2.1 j hj; ⟨a.1, a.2.1, a.2.2.1, trivial, trivial, a.2.2.2.2.2.1, a.2.2.2.2.2.2⟩, h.2.2.2.2⟩
theorem hw31d {V : Cel} (h : okD V) : ∀ j, j < V.J → V.hw j < 2 ^ 31 := fun j hj => by
  have := (h.2.2.2.1 j hj).2.2.2.2.2.2
  omega
theorem ct_pos {P : Nat → Bool} : ∀ {k : Nat}, 0 < ct P k ↔ ∃ i, i < k ∧ P i = true
  | 0 => ⟨fun h => absurd h (Nat.lt_irrefl 0), fun ⟨i, h, _⟩ => absurd h (Nat.not_lt_zero i)⟩
  | k + 1 => by
    have ih := ct_pos (P := P) (k := k)
    have e : ct P (k + 1) = ct P k + (if P k then 1 else 0) := rfl
    rw [e]
    by_cases h : P k = true
    · rw [if_pos h]
      exact ⟨fun _ => ⟨k, by omega, h⟩, fun _ => by omega⟩
    · rw [if_neg h, Nat.add_zero, ih]
      refine ⟨fun ⟨i, h1, h2⟩ => ⟨i, by omega, h2⟩, fun ⟨i, h1, h2⟩ => ⟨i, ?_, h2⟩⟩
      have : i ≠ k := fun e => h (e ▸ h2)
      omega
theorem ct_two {P : Nat → Bool} : ∀ {k : Nat}, 1 < ct P k ↔ ∃ i i2, i < i2 ∧ i2 < k ∧ P i = true ∧ P i2 = true
  | 0 => ⟨fun h => absurd h (by show ¬ 1 < 0; omega), fun ⟨i, i2, _, h, _⟩ => absurd h (Nat.not_lt_zero i2)⟩
  | k + 1 => by
    have ih := ct_two (P := P) (k := k)
    have ip := ct_pos (P := P) (k := k)
    have e : ct P (k + 1) = ct P k + (if P k then 1 else 0) := rfl
    rw [e]
    by_cases h : P k = true
    · rw [if_pos h]
      constructor
      · intro q
        obtain ⟨i, h1, h2⟩ := ip.mp (by omega)
        exact ⟨i, k, h1, by omega, h2, h⟩
      · rintro ⟨i, i2, h1, h2, h3, h4⟩
        have := ip.mpr ⟨i, by omega, h3⟩
        omega
    · rw [if_neg h, Nat.add_zero, ih]
      refine ⟨fun ⟨i, i2, h0, h1, h2, h3⟩ => ⟨i, i2, h0, by omega, h2, h3⟩, fun ⟨i, i2, h0, h1, h2, h3⟩ => ⟨i, i2, h0, ?_, h2, h3⟩⟩
      have : i2 ≠ k := fun e => h (e ▸ h3)
      omega
theorem ct_bij {P G : Nat → Bool} {J : Nat} {pl : Nat → Nat} (hl : ∀ s, s < J → pl s < J) (hinj : ∀ i j, i < J → j < J → pl i = pl j → i = j) (h : ∀ p, p < J → (P p = true ↔ ∃ s, s < J ∧ pl s = p ∧ G s = true)) : (0 < ct P J ↔ 0 < ct G J) ∧ (1 < ct P J ↔ 1 < ct G J) := by
  refine ⟨?_, ?_⟩
  · rw [ct_pos, ct_pos]
    constructor
    · rintro ⟨p, h1, h2⟩
      obtain ⟨s, a, b, c⟩ := (h p h1).mp h2
      exact ⟨s, a, c⟩
    · rintro ⟨s, h1, h2⟩
      exact ⟨pl s, hl s h1, (h _ (hl s h1)).mpr ⟨s, h1, rfl, h2⟩⟩
  · rw [ct_two, ct_two]
    constructor
    · rintro ⟨p, p2, h0, h1, h2, h3⟩
      obtain ⟨s, a, b, c⟩ := (h p (by omega)).mp h2
      obtain ⟨s2, a2, b2, c2⟩ := (h p2 h1).mp h3
      have hne : s ≠ s2 := fun e => by subst e; omega
      rcases Nat.lt_or_gt_of_ne hne with q | q
      · exact ⟨s, s2, q, a2, c, c2⟩
      · exact ⟨s2, s, q, a, c2, c⟩
    · rintro ⟨s, s2, h0, h1, h2, h3⟩
      have hs : s < J := by omega
      have hne : pl s ≠ pl s2 := fun e => by
        have := hinj s s2 hs h1 e
        omega
      have q1 := (h _ (hl s hs)).mpr ⟨s, hs, rfl, h2⟩
      have q2 := (h _ (hl s2 h1)).mpr ⟨s2, h1, rfl, h3⟩
      rcases Nat.lt_or_gt_of_ne hne with q | q
      · exact ⟨_, _, q, hl s2 h1, q1, q2⟩
      · exact ⟨_, _, q, hl s hs, q2, q1⟩
theorem gapN_comm (x y : Nat) : gapN x y = gapN y x := by
  unfold gapN
  split <;> split <;> omega
theorem apartN_comm (x y : Nat) : apartN x y = apartN y x := by
  unfold apartN
  rw [gapN_comm x y]
def soP (V : Cel) (sd : Nat → Option Nat) (j : Nat) (q : Nat → Bool) : Nat → Bool := fun p => match sd p with
  | some t => decide (gapN p (V.pl j) ≤ V.R) && q (apartN t (V.nt j))
  | none => false
def soC (V : Cel) (sd : Nat → Option Nat) (j : Nat) (q : Nat → Bool) : Nat := ct (soP V sd j q) V.J
def soB (V : Cel) (sd : Nat → Option Nat) (j : Nat) : Bool := if V.kd j = 1 then decide (0 < soC V sd j (fun a => decide (a = 0))) else if V.kd j = 2 then decide (0 < soC V sd j (fun a => decide (a ≤ 1))) else if V.kd j = 3 then decide (1 < soC V sd j (fun a => decide (a = 0))) else if V.kd j = 4 then decide (0 < soC V sd j (fun a => decide (a = 5))) else decide (0 < soC V sd j (fun a => decide (a = 5))) || decide (0 < soC V sd j (fun a => decide (a = 6)))
theorem soB_eq {V : Cel} {sd : Nat → Option Nat} {j : Nat} (h1 : 1 ≤ V.kd j) (h5 : V.kd j ≤ 5) : soB V sd j = if V.kd j = 3 then decide (1 < soC V sd j (ansN (V.kd j))) else decide (0 < soC V sd j (ansN (V.kd j))) := by
  have a1 : ansN 1 = fun a => decide (a = 0) := by funext a; simp [ansN]
  have a2 : ansN 2 = fun a => decide (a ≤ 1) := by funext a; simp [ansN]
  have a3 : ansN 3 = fun a => decide (a = 0) := by funext a; simp [ansN]
  have a4 : ansN 4 = fun a => decide (a = 5) := by funext a; simp [ansN]
  have a5 : ansN 5 = fun a => decide (a = 5 ∨ a = 6) := by funext a; simp [ansN]
  unfold soB
  rcases (by omega : V.kd j = 1 ∨ V.kd j = 2 ∨ V.kd j = 3 ∨ V.kd j = 4 ∨ V.kd j = 5) with e | e | e | e | e
  · rw [e, a1, if_pos rfl, if_neg (by decide)]
  · rw [e, a2, if_neg (by decide), if_pos rfl, if_neg (by decide)]
  · rw [e, a3, if_neg (by decide), if_neg (by decide), if_pos rfl, if_pos rfl]
  · rw [e, a4, if_neg (by decide), if_neg (by decide), if_neg (by decide), if_pos rfl, if_neg (by decide)]
  · rw [e, a5, if_neg (by decide), if_neg (by decide), if_neg (by decide), if_neg (by decide), if_neg (by decide), ← Bool.decide_or]
    apply decide_eq_decide.mpr
    unfold soC
    rw [ct_pos, ct_pos, ct_pos]
    constructor
    · rintro (⟨i, q1, q2⟩ | ⟨i, q1, q2⟩)
      · refine ⟨i, q1, ?_⟩
        unfold soP at q2 ⊢
        cases hs : sd i with
        | none => rw [hs] at q2; cases q2
        | some t => rw [hs] at q2; simp at q2 ⊢; exact ⟨q2.1, Or.inl q2.2⟩
      · refine ⟨i, q1, ?_⟩
        unfold soP at q2 ⊢
        cases hs : sd i with
        | none => rw [hs] at q2; cases q2
        | some t => rw [hs] at q2; simp at q2 ⊢; exact ⟨q2.1, Or.inr q2.2⟩
    · rintro ⟨i, q1, q2⟩
      unfold soP at q2
      cases hs : sd i with
      | none => rw [hs] at q2; cases q2
      | some t =>
        rw [hs] at q2
        simp at q2
        rcases q2.2 with z | z
        · exact Or.inl ⟨i, q1, by simp [soP, hs, q2.1, z]⟩
        · exact Or.inr ⟨i, q1, by simp [soP, hs, q2.1, z]⟩
def sdN (V : Cel) (N : Nat → Bool) : Nat → Nat → Option Nat
  | 0 => fun _ => none
  | k + 1 => if N k then va_up (sdN V N k) (V.pl k) (some (V.nt k)) else sdN V N k
theorem sdN_some {V : Cel} {N : Nat → Bool} {J : Nat} (hinj : ∀ i j, i < J → j < J → V.pl i = V.pl j → i = j) : ∀ k, k ≤ J → ∀ p t, sdN V N k p = some t ↔ ∃ i, i < k ∧ N i = true ∧ V.pl i = p ∧ V.nt i = t
  | 0, _, p, t => ⟨fun h => (by cases h), fun ⟨i, h, _⟩ => absurd h (Nat.not_lt_zero i)⟩
  | k + 1, hk, p, t => by
    have ih := sdN_some (N := N) hinj k (by omega) p t
    by_cases h : N k = true
    · have e : sdN V N (k + 1) = va_up (sdN V N k) (V.pl k) (some (V.nt k)) := if_pos h
      rw [e]
      by_cases hp : p = V.pl k
      · subst hp
        have e2 : va_up (sdN V N k) (V.pl k) (some (V.nt k)) (V.pl k) = some (V.nt k) := by simp [va_up]
        rw [e2]
        constructor
        · intro q
          cases q
          exact ⟨k, by omega, h, rfl, rfl⟩
        · rintro ⟨i, q1, q2, q3, q4⟩
          have := hinj i k (by omega) (by omega) q3
          subst this
          rw [q4]
      · have e2 : va_up (sdN V N k) (V.pl k) (some (V.nt k)) p = sdN V N k p := by simp [va_up, hp]
        rw [e2, ih]
        refine ⟨fun ⟨i, q1, q2⟩ => ⟨i, by omega, q2⟩, fun ⟨i, q1, q2, q3, q4⟩ => ⟨i, ?_, q2, q3, q4⟩⟩
        have : i ≠ k := fun e => hp (by rw [← e]; exact q3.symm)
        omega
    · have e : sdN V N (k + 1) = sdN V N k := if_neg h
      rw [e, ih]
      refine ⟨fun ⟨i, q1, q2⟩ => ⟨i, by omega, q2⟩, fun ⟨i, q1, q2, q3, q4⟩ => ⟨i, ?_, q2, q3, q4⟩⟩
      have : i ≠ k := fun e => h (e ▸ q2)
      omega
theorem thick_iff {V : Cel} {j : Nat} (hj : j < V.J) : V.thick j = decide (V.kd j = 3) := by simp [Cel.thick, hj]
theorem soB_brk {V : Cel} {N : Nat → Bool} (hok : okD V) {j : Nat} (hj : j < V.J) : soB V (sdN V N V.J) j = V.brkBy N j := by
  have o := hok.2.2.2.1 j hj
  have hb := ct_bij (P := soP V (sdN V N V.J) j (ansN (V.kd j))) (G := fun s => N s && V.hit (V.nt s) (V.pl s) j) (J := V.J) (pl := V.pl) (fun s hs => (hok.2.2.2.1 s hs).2.2.2.2.2.1) hok.2.2.2.2 (fun p hp => by
    unfold soP
    constructor
    · intro q
      cases hs : sdN V N V.J p with
      | none => rw [hs] at q; cases q
      | some t =>
        rw [hs] at q
        obtain ⟨i, h1, h2, h3, h4⟩ := (sdN_some hok.2.2.2.2 V.J (Nat.le_refl _) p t).mp hs
        refine ⟨i, h1, h3, ?_⟩
        rw [h3, h4]
        simp [Cel.hit, Cel.ansM, Cel.nearM, hj, h2] at q ⊢
        rw [gapN_comm, apartN_comm]
        exact ⟨q.2, q.1⟩
    · rintro ⟨i, h1, h3, q⟩
      have h2 : N i = true := by
        cases hN : N i with
        | true => rfl
        | false => rw [hN] at q; cases q
      have hs := (sdN_some (N := N) hok.2.2.2.2 V.J (Nat.le_refl _) p (V.nt i)).mpr ⟨i, h1, h2, h3, rfl⟩
      rw [hs]
      rw [h3] at q
      simp [Cel.hit, Cel.ansM, Cel.nearM, hj, h2] at q ⊢
      rw [gapN_comm, apartN_comm]
      exact ⟨q.2, q.1⟩)
  rw [soB_eq o.1 o.2.1]
  unfold Cel.brkBy Cel.cnt
  rw [thick_iff hj]
  by_cases e : V.kd j = 3
  · rw [if_pos e, decide_eq_true e, if_pos rfl]
    exact decide_eq_decide.mpr hb.2
  · rw [if_neg e, decide_eq_false e, if_neg (by decide)]
    exact decide_eq_decide.mpr hb.1
def sd1 (note p : Nat) : Nat → Option Nat := fun q => if q = p then some note else none
theorem soB_one {V : Cel} {note p : Nat} (hok : okD V) (hp : p < V.J) {j : Nat} (hj : j < V.J) : soB V (sd1 note p) j = (V.hit note p j && !V.thick j) := by
  have o := hok.2.2.2.1 j hj
  have hP : ∀ q, soP V (sd1 note p) j (ansN (V.kd j)) q = (decide (q = p) && V.hit note p j) := fun q => by
    unfold soP sd1
    by_cases e : q = p
    · subst e
      rw [if_pos rfl]
      simp only [Cel.hit, Cel.ansM, Cel.nearM, hj, decide_true, Bool.true_and]
      rw [gapN_comm, apartN_comm, Bool.and_comm]
    · rw [if_neg e]
      simp [e]
  rw [soB_eq o.1 o.2.1, thick_iff hj]
  unfold soC
  by_cases e : V.kd j = 3
  · rw [if_pos e, decide_eq_true e, Bool.not_true, Bool.and_false]
    apply decide_eq_false
    rw [ct_two]
    rintro ⟨i, i2, h0, h1, h2, h3⟩
    rw [hP] at h2 h3
    simp at h2 h3
    omega
  · rw [if_neg e, decide_eq_false e, Bool.not_false, Bool.and_true]
    cases hh : V.hit note p j with
    | true =>
      apply decide_eq_true
      rw [ct_pos]
      exact ⟨p, hp, by rw [hP, hh]; simp⟩
    | false =>
      apply decide_eq_false
      rw [ct_pos]
      rintro ⟨i, h1, h2⟩
      rw [hP, hh] at h2
      simp at h2
def nxt (V : Cel) (l : Nat → Bool) (sd : Nat → Option Nat) : Nat → Bool := fun j => l j && (decide (j < V.J) && soB V sd j)
theorem nxt_one {V : Cel} {w : Nat → Bool} {note p : Nat} (hok : okD V) (hp : p < V.J) : nxt V w (sd1 note p) = V.fst note p w := by
  funext j
  unfold nxt Cel.fst
  by_cases hj : j < V.J
  · rw [soB_one hok hp hj, decide_eq_true hj, Bool.true_and, Bool.and_assoc]
  · have e : V.hit note p j = false := by simp [Cel.hit, Cel.ansM, hj]
    simp [hj, e]
theorem nxt_brk {V : Cel} {l N : Nat → Bool} (hok : okD V) : nxt V (fun j => l j && !N j) (sdN V N V.J) = fun j => (l j && !N j) && V.brkBy N j := by
  funext j
  unfold nxt
  by_cases hj : j < V.J
  · rw [soB_brk hok hj, decide_eq_true hj, Bool.true_and]
  · have e : V.brkBy N j = false := by
      unfold Cel.brkBy Cel.cnt
      have : (fun s => N s && V.hit (V.nt s) (V.pl s) j) = fun _ => false := by
        funext s
        simp [Cel.hit, Cel.ansM, hj]
      rw [this]
      have z : ∀ k, ct (fun _ => false) k = 0 := fun k => by
        induction k with
        | zero => rfl
        | succ k ih => show ct _ k + _ = 0; rw [ih]; rfl
      rw [z]
      split <;> rfl
    simp [hj, e]
theorem ct_sub {l N : Nat → Bool} (hsub : ∀ j, N j = true → l j = true) : ∀ k, ct (fun j => l j && !N j) k + ct N k = ct l k
  | 0 => rfl
  | k + 1 => by
    have ih := ct_sub hsub k
    show (ct (fun j => l j && !N j) k + (if (l k && !N k) then 1 else 0)) + (ct N k + (if N k then 1 else 0)) = ct l k + (if l k then 1 else 0)
    cases h : N k with
    | true => rw [hsub k h]; simp; omega
    | false => cases l k <;> simp <;> omega
theorem ct_bm0 {N : Nat → Bool} : ∀ {k : Nat}, bm N k = 0 ↔ ct N k = 0
  | 0 => ⟨fun _ => rfl, fun _ => rfl⟩
  | k + 1 => by
    have ih := ct_bm0 (N := N) (k := k)
    have e1 : bm N (k + 1) = bm N k + (if N k then 2 ^ k else 0) := rfl
    have e2 : ct N (k + 1) = ct N k + (if N k then 1 else 0) := rfl
    rw [e1, e2]
    by_cases h : N k = true
    · rw [if_pos h, if_pos h]
      have := Nat.two_pow_pos k
      exact ⟨fun q => by omega, fun q => by omega⟩
    · rw [if_neg h, if_neg h]
      exact ih
theorem nI_none {t : Nat} (h : t < 2 ^ 31) : nI t ≠ -1000000 := fun e => by
  have h1 := congrArg Int32.toInt e
  rw [nI_toInt h] at h1
  have h2 : (-1000000 : Int32).toInt = -1000000 := by decide
  omega

