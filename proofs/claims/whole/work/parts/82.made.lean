/-! made new: the constructors -/
def hrows (h : SH) : Nat → SH
  | 0 => h
  | i + 1 => hnew (hrows h i) (.inr (.int, 40, .inl (fun _ => 0)))
def hout (h : SH) : SH := hnew h (.inr (.array .int, 8, .inr (.inr (.inr (.inr (fun j => if j < 8 then some (h.2 + 5 + j) else none))))))
theorem pre_size {H : Heap} {k : Nat} (h : k ≤ H.size) : (H.extract 0 k).size = k := by
  rw [Array.size_extract]
  omega
theorem pre_get {H : Heap} {k i : Nat} (h : k ≤ H.size) (hi : i < k) : (H.extract 0 k)[i]? = H[i]? := by
  rw [Array.getElem?_extract, if_pos (by omega), Nat.zero_add]
section TMulti
variable {M : MI} {d kc ks pc pc2 : Nat} {ls : List (Nat × Value)} {st : List Value} {h : SH} {Q : Option Value → SH → Prop}
theorem T_multi {idx : Nat} (hf : decode M.2.1 pc = .ok (.multianewarray idx 2, 4)) (hcl : Cond.classLink M.1.cls idx "[[I" ∈ lw_g) (hp : pc + 4 = pc2) (k : T M d kc ks pc2 ls (.ref (h.2 + 4) :: st) (hrows (hout h) 8) Q) : T M d (kc + 9) (ks + 328) pc ls (.int (nI 40) :: .int (nI 8) :: st) h Q := by
  subst hp
  intro p l e R s m args below meth c Z D base x E H locs cells slots ca tys lsA F Y L
  obtain ⟨hx, hb, hml, hown, hts, hbs, hR, hXt, hnm, hret⟩ := id F
  have hb1 := Y.2.2.2.2.2.2.1
  have hb2 := Y.2.2.2.2.2.2.2
  have hsz := Y.2.2.2.1
  have h3 : cells + 9 ≤ R.cells := by omega
  have h4 : slots + 328 ≤ R.slots := Nat.le_trans (Nat.add_le_add_left (Nat.le_add_left 328 ks) slots) hb2
  refine W_grid (g := F0 m pc lsA ((.int (nI 40) :: .int (nI 8) :: st).map (trV (adr base x)))) (rest := st.map (trV (adr base x))) hx hb hown (hts _ hcl) hXt.2.2.2.2.2.2 (hts _ ai_in) rfl hf (by rw [List.map_cons, List.map_cons]; rfl) h3 h4 fun H1 cA cI n1 n2 a1 a2 z1 e0 e1 o1 => ?_
  have hK2 : va_K D vwCl (tys ++ [(cA, .array .int), (cI, .int)]) s := by
    refine ⟨Y.1.1, fun j q hq => ?_⟩
    by_cases hl : j < tys.length
    · rw [List.getElem?_append_left hl] at hq
      exact Y.1.2 j q hq
    · rw [List.getElem?_append_right (by omega)] at hq
      have hz : j - tys.length < 2 := (List.getElem?_eq_some_iff.mp hq).1
      by_cases h0 : j - tys.length = 0
      · rw [h0] at hq
        cases hq
        exact ⟨a1, n1⟩
      · rw [show j - tys.length = 1 by omega] at hq
        cases hq
        exact ⟨a2, n2⟩
  have hr : ∀ i, i ≤ 8 → ∃ ca2, Dy R s D base x E (H1.extract 0 (H.size + 1 + i)) locs (cells + (kc + 9)) (slots + (ks + 328)) ca2 (tys ++ [(cA, .array .int), (cI, .int)]) (hrows (hout h) i) := by
    intro i
    induction i with
    | zero =>
      intro _
      refine ⟨_, Y.new (tys2 := [(cA, .array .int), (cI, .int)]) (cA := cA) hK2 (fun ty a q => by cases q; exact ⟨tys.length, by simp⟩) ?_ (pre_size (by omega)) (fun q hq => (pre_get (by omega) (by omega)).trans (o1 q hq))⟩
      show (H1.extract 0 (H.size + 1 + 0))[H.size]? = some (vp_cell cA (8, .inr (.inr (.inr (.inr (fun j => (if j < 8 then some (h.2 + 5 + j) else none : Option Nat).map (adr base x)))))))
      rw [pre_get (by omega) (by omega), e0, vp_cell_q]
      unfold colC
      congr 2
      funext j
      by_cases hj : j < 8
      · simp only [if_pos hj, Option.map_some]
        rw [adr_ge (by omega), show base + (h.2 + 5 + j - 4) = H.size + 1 + j by omega]
      · simp only [if_neg hj]
        rfl
    | succ i ih =>
      intro hi
      obtain ⟨ca2, Yi⟩ := ih (by omega)
      have Y2 := Yi.new (H1 := H1.extract 0 (H.size + 1 + (i + 1))) (tys2 := []) (c := .inr (.int, 40, .inl (fun _ => 0))) (cA := cI) (by rw [List.append_nil]; exact hK2) (fun ty a q => by cases q; exact ⟨tys.length + 1, by simp⟩) (by
        show (H1.extract 0 (H.size + 1 + (i + 1)))[(H1.extract 0 (H.size + 1 + i)).size]? = some (rowC cI)
        rw [pre_size (by omega), pre_get (by omega) (by omega)]
        exact e1 i (by omega)) (by rw [pre_size (by omega), pre_size (by omega)]; omega) (fun q hq => by
        rw [pre_size (by omega)] at hq
        rw [pre_get (by omega) (by omega), pre_get (by omega) hq])
      rw [List.append_nil] at Y2
      exact ⟨_, Y2⟩
  obtain ⟨ca2, Y9⟩ := hr 8 (Nat.le_refl _)
  rw [show H.size + 1 + 8 = H1.size by omega, Array.extract_size] at Y9
  have Yb := Y9.budget (cells2 := cells + 9 + kc) (slots2 := slots + 328 + ks) (by omega) (Nat.le_of_eq (by rw [Nat.add_assoc, Nat.add_comm 328 ks]))
  have hk := k p l e R s m args below meth c Z D base x E H1 locs (cells + 9) (slots + 328) _ _ lsA F Yb L
  have ea : adr base x (h.2 + 4) = H.size := by rw [adr_ge (by omega), hsz]; omega
  rw [List.map_cons, show trV (adr base x) (.ref (h.2 + 4)) = .ref H.size by rw [← ea]; rfl] at hk
  exact hk
end TMulti
def rSk (sk : Nat → SK) (n : Nat) : Nat → Nat → SK
  | 0 => sk
  | i + 1 => va_up (rSk sk n i) (n + i + 4) (.inr (.int, 40, none))
def rG (g : Nat → Nat → Int32) (n : Nat) : Nat → Nat → Nat → Int32
  | 0 => g
  | i + 1 => va_up (rG g n i) (n + i + 4) (fun _ => 0)
theorem hrows_HP (sk : Nat → SK) (g : Nat → Nat → Int32) (n : Nat) : ∀ i, hrows (HP sk g n) i = HP (rSk sk n i) (rG g n i) (n + i)
  | 0 => rfl
  | i + 1 => by
    show hnew (hrows (HP sk g n) i) (cellOf (.inr (.int, 40, none)) (fun _ => 0)) = _
    rw [hrows_HP sk g n i, HP_new rfl]
    rfl
section GMulti
variable {M : MI} {d kc ks pc pc2 : Nat} {ls : List (Nat × Value)} {st : List Value} {sk : Nat → SK} {g : Nat → Nat → Int32} {n : Nat} {Q : Option Value → SH → Prop}
theorem G_multi {idx : Nat} (hf : decode M.2.1 pc = .ok (.multianewarray idx 2, 4)) (hcl : Cond.classLink M.1.cls idx "[[I" ∈ lw_g) (hp : pc + 4 = pc2) (k : T M d kc ks pc2 ls (.ref (n + 4) :: st) (HP (rSk (va_up sk (n + 4) (.inr (.array .int, 8, some (fun j => if j < 8 then some (n + 5 + j) else none)))) (n + 1) 8) (rG (va_up g (n + 4) (fun _ => 0)) (n + 1) 8) (n + 1 + 8)) Q) : T M d (kc + 9) (ks + 328) pc ls (.int (nI 40) :: .int (nI 8) :: st) (HP sk g n) Q := by
  refine T_multi hf hcl hp ?_
  rw [← hrows_HP] at k
  have e : hout (HP sk g n) = HP (va_up sk (n + 4) (.inr (.array .int, 8, some (fun j => if j < 8 then some (n + 5 + j) else none)))) (va_up g (n + 4) (fun _ => 0)) (n + 1) := by
    show hnew (HP sk g n) (cellOf (.inr (.array .int, 8, some (fun j => if j < 8 then some (n + 5 + j) else none))) (fun _ => 0)) = _
    rw [HP_new rfl]
  rw [e]
  exact k
end GMulti
abbrev bl0 : List (Option Value) := [some .null, none, none]
theorem bl0_ok : ∀ (a : Nat → Nat) (j : Nat), j < NN 0 → defaultValue (tyT 0 j) = vp_V ((slotV (fun _ => 0) 0 bl0).map (trV a)) j := by
  intro a j hj
  match j, hj with
  | 0, _ => rfl
  | 1, _ => rfl
  | 2, _ => rfl
  | k + 3, h => exact absurd h (by show ¬ k + 3 < 3; omega)
abbrev bl1 : List (Option Value) := [some .null, none]
theorem bl1_ok : ∀ (a : Nat → Nat) (j : Nat), j < NN 1 → defaultValue (tyT 1 j) = vp_V ((slotV (fun _ => 0) 0 bl1).map (trV a)) j := by
  intro a j hj
  match j, hj with
  | 0, _ => rfl
  | 1, _ => rfl
  | k + 2, h => exact absurd h (by show ¬ k + 2 < 2; omega)
abbrev bl3 : List (Option Value) := [some .null, some .null, some .null, none, none, none]
theorem bl3_ok : ∀ (a : Nat → Nat) (j : Nat), j < NN 3 → defaultValue (tyT 3 j) = vp_V ((slotV (fun _ => 0) 0 bl3).map (trV a)) j := by
  intro a j hj
  match j, hj with
  | 0, _ => rfl
  | 1, _ => rfl
  | 2, _ => rfl
  | 3, _ => rfl
  | 4, _ => rfl
  | 5, _ => rfl
  | k + 6, h => exact absurd h (by show ¬ k + 6 < 6; omega)
abbrev bl4 : List (Option Value) := [some .null, some .null, none, none, some (.long 0), some (.long 0), none]
theorem bl4_ok : ∀ (a : Nat → Nat) (j : Nat), j < NN 4 → defaultValue (tyT 4 j) = vp_V ((slotV (fun _ => 0) 0 bl4).map (trV a)) j := by
  intro a j hj
  match j, hj with
  | 0, _ => rfl
  | 1, _ => rfl
  | 2, _ => rfl
  | 3, _ => rfl
  | 4, _ => rfl
  | 5, _ => rfl
  | 6, _ => rfl
  | k + 7, h => exact absurd h (by show ¬ k + 7 < 7; omega)
abbrev bl5 : List (Option Value) := [some .null, some .null, some .null, some .null]
theorem bl5_ok : ∀ (a : Nat → Nat) (j : Nat), j < NN 5 → defaultValue (tyT 5 j) = vp_V ((slotV (fun _ => 0) 0 bl5).map (trV a)) j := by
  intro a j hj
  match j, hj with
  | 0, _ => rfl
  | 1, _ => rfl
  | 2, _ => rfl
  | 3, _ => rfl
  | k + 4, h => exact absurd h (by show ¬ k + 4 < 4; omega)
abbrev bl6 : List (Option Value) := [some .null, none, none, none, none]
theorem bl6_ok : ∀ (a : Nat → Nat) (j : Nat), j < NN 6 → defaultValue (tyT 6 j) = vp_V ((slotV (fun _ => 0) 0 bl6).map (trV a)) j := by
  intro a j hj
  match j, hj with
  | 0, _ => rfl
  | 1, _ => rfl
  | 2, _ => rfl
  | 3, _ => rfl
  | 4, _ => rfl
  | k + 5, h => exact absurd h (by show ¬ k + 5 < 5; omega)
abbrev bl7 : List (Option Value) := [some .null, some .null, some .null, some .null, some .null, some .null, some .null, some .null, none, none]
theorem bl7_ok : ∀ (a : Nat → Nat) (j : Nat), j < NN 7 → defaultValue (tyT 7 j) = vp_V ((slotV (fun _ => 0) 0 bl7).map (trV a)) j := by
  intro a j hj
  match j, hj with
  | 0, _ => rfl
  | 1, _ => rfl
  | 2, _ => rfl
  | 3, _ => rfl
  | 4, _ => rfl
  | 5, _ => rfl
  | 6, _ => rfl
  | 7, _ => rfl
  | 8, _ => rfl
  | 9, _ => rfl
  | k + 10, h => exact absurd h (by show ¬ k + 10 < 10; omega)
abbrev bl8 : List (Option Value) := [none, none, some .null, some .null, some .null, some .null, some .null, some .null, some .null, none, some .null, none, none, none, none, none, none, none, none, some .null, some .null, none, none, none, some .null, some .null, some .null, none]
theorem bl8_ok : ∀ (a : Nat → Nat) (j : Nat), j < NN 8 → defaultValue (tyT 8 j) = vp_V ((slotV (fun _ => 0) 0 bl8).map (trV a)) j := by
  intro a j hj
  match j, hj with
  | 0, _ => rfl
  | 1, _ => rfl
  | 2, _ => rfl
  | 3, _ => rfl
  | 4, _ => rfl
  | 5, _ => rfl
  | 6, _ => rfl
  | 7, _ => rfl
  | 8, _ => rfl
  | 9, _ => rfl
  | 10, _ => rfl
  | 11, _ => rfl
  | 12, _ => rfl
  | 13, _ => rfl
  | 14, _ => rfl
  | 15, _ => rfl
  | 16, _ => rfl
  | 17, _ => rfl
  | 18, _ => rfl
  | 19, _ => rfl
  | 20, _ => rfl
  | 21, _ => rfl
  | 22, _ => rfl
  | 23, _ => rfl
  | 24, _ => rfl
  | 25, _ => rfl
  | 26, _ => rfl
  | 27, _ => rfl
  | k + 28, h => exact absurd h (by show ¬ k + 28 < 28; omega)
abbrev nf : Nat → Option Nat := fun _ => none
def Bt (t ci : Nat) (sk0 : Nat → SK) (g0 : Nat → Nat → Int32) (sk : Nat → SK) (g : Nat → Nat → Int32) (K : Nat) (L : List (Option Value)) : Prop := (∀ i, i < t → sk i = sk0 i) ∧ (∀ i, i < t + 1 → g i = g0 i) ∧ sk t = .inl (ci, L) ∧ (∀ i, t + 1 ≤ i → i < K → sk i = skf nf nf 0 0 i) ∧ (∀ i, t + 1 ≤ i → i < K → ∀ q, g i q = 0)
theorem vu_ne {α : Type} {f : Nat → α} {i j : Nat} {x : α} (h : i ≠ j) : va_up f j x i = f i := by simp [va_up, h]
theorem vu_eq {α : Type} {f : Nat → α} {j : Nat} {x : α} : va_up f j x j = x := by simp [va_up]
theorem Bt.step {t ci c2 K K2 : Nat} {sk0 sk sk2 : Nat → SK} {g0 g g2 : Nat → Nat → Int32} {L L2 : List (Option Value)} {c : SK} (h : Bt t ci sk0 g0 sk g K L) (h2 : Bt K c2 (va_up sk K c) (va_up g K (fun _ => 0)) sk2 g2 K2 L2) (hK : t < K) (he : skf nf nf 0 0 K = .inl (c2, L2)) : Bt t ci sk0 g0 sk2 g2 K2 L := by
  obtain ⟨a1, a2, a3, a4, a5⟩ := h
  obtain ⟨b1, b2, b3, b4, b5⟩ := h2
  have e1 : ∀ i, i < K → sk2 i = sk i := fun i hi => by rw [b1 i hi, vu_ne (by omega)]
  have e2 : ∀ i, i < K → g2 i = g i := fun i hi => by rw [b2 i (by omega), vu_ne (by omega)]
  refine ⟨fun i hi => (e1 i (by omega)).trans (a1 i hi), fun i hi => (e2 i (by omega)).trans (a2 i hi), (e1 t hK).trans a3, fun i h1 h2 => ?_, fun i h1 h2 q => ?_⟩
  · by_cases q : i < K
    · exact (e1 i q).trans (a4 i h1 q)
    · by_cases e : i = K
      · subst e
        rw [b3, he]
      · exact b4 i (by omega) h2
  · by_cases z : i < K
    · rw [e2 i z]
      exact a5 i h1 z q
    · by_cases e : i = K
      · subst e
        rw [b2 i (by omega), vu_eq]
      · exact b5 i (by omega) h2 q
theorem Bt.put {t ci K : Nat} {sk0 sk : Nat → SK} {g0 g : Nat → Nat → Int32} {L L2 : List (Option Value)} (h : Bt t ci sk0 g0 sk g K L) : Bt t ci sk0 g0 (va_up sk t (.inl (ci, L2))) g K L2 := by
  obtain ⟨a1, a2, a3, a4, a5⟩ := h
  exact ⟨fun i hi => by rw [vu_ne (by omega)]; exact a1 i hi, a2, vu_eq, fun i h1 h2 => by rw [vu_ne (by omega)]; exact a4 i h1 h2, a5⟩
theorem Bt.arr {t ci K : Nat} {sk0 sk : Nat → SK} {g0 g : Nat → Nat → Int32} {L : List (Option Value)} {c : SK} (h : Bt t ci sk0 g0 sk g K L) (hK : t < K) (he : skf nf nf 0 0 K = c) : Bt t ci sk0 g0 (va_up sk K c) (va_up g K (fun _ => 0)) (K + 1) L := by
  obtain ⟨a1, a2, a3, a4, a5⟩ := h
  refine ⟨fun i hi => by rw [vu_ne (by omega)]; exact a1 i (by omega), fun i hi => by rw [vu_ne (by omega)]; exact a2 i hi, by rw [vu_ne (by omega)]; exact a3, fun i h1 h2 => ?_, fun i h1 h2 q => ?_⟩
  · by_cases e : i = K
    · subst e
      rw [vu_eq, he]
    · rw [vu_ne e]
      exact a4 i h1 (by omega)
  · by_cases e : i = K
    · subst e
      rw [vu_eq]
    · rw [vu_ne e]
      exact a5 i h1 (by omega) q
theorem Bt.st {t ci : Nat} {sk : Nat → SK} {g : Nat → Nat → Int32} {L : List (Option Value)} (h : sk t = .inl (ci, L)) : Bt t ci sk g sk g (t + 1) L := ⟨fun _ _ => rfl, fun _ _ => rfl, h, fun i h1 h2 => by omega, fun i h1 h2 => by omega⟩
section Cons
variable {sk : Nat → SK} {g : Nat → Nat → Int32} {Q : Option Value → SH → Prop} {d : Nat}
theorem b_cel {t : Nat} (ht : 4 ≤ t) (h : sk t = .inl (2, bl2)) (hs : ∀ i, t ≤ i → i < t + 6 → skf nf nf 0 0 i = if i = t then .inl (2, [none, none, none, some (.ref (t + 1)), some (.ref (t + 2)), some (.ref (t + 3)), some (.ref (t + 4)), some (.ref (t + 5))]) else .inr (.int, 8, none)) (k : ∀ sk2 g2, Bt t 2 sk g sk2 g2 (t + 6) [none, none, none, some (.ref (t + 1)), some (.ref (t + 2)), some (.ref (t + 3)), some (.ref (t + 4)), some (.ref (t + 5))] → Q none (HP sk2 g2 (t + 2))) : Calls MX2_init d 5 40 [.ref t] (HP sk g (t - 3)) Q := by
  obtain ⟨n, rfl⟩ : ∃ n, t = n + 3 := ⟨t - 3, by omega⟩
  rw [show n + 3 - 3 = n by omega]
  refine c_cinit ⟨by omega, by omega, h⟩ (by omega) (fun sk2 g2 hc h1 h2 h3 => ?_)
  refine k sk2 g2 ⟨h1, h2, hc.1.2.2, fun i q1 q2 => ?_, fun i q1 q2 q => h3 i (by omega) (by omega) q⟩
  rw [hs i (by omega) (by omega), if_neg (by omega)]
  obtain ⟨-, c1, c2, c3, c4, c5⟩ := hc
  by_cases e1 : i = n + 3 + 1
  · subst e1; exact c1.2.2
  by_cases e2 : i = n + 3 + 2
  · subst e2; exact c2.2.2
  by_cases e3 : i = n + 3 + 3
  · subst e3; exact c3.2.2
  by_cases e4 : i = n + 3 + 4
  · subst e4; exact c4.2.2
  rw [show i = n + 3 + 5 by omega]
  exact c5.2.2
theorem b_rows (h : sk 5 = .inl (5, bl5)) (k : ∀ sk2 g2, Bt 5 5 sk g sk2 g2 18 [some (.ref 6), some (.ref 7), some (.ref 8), some (.ref 9)] → Q none (HP sk2 g2 14)) : Calls MX5_init (d + 0) 12 352 [.ref 5] (HP sk g 2) Q := by
  refine Calls.of (by decide +kernel) (Nat.le_of_ble_eq_true rfl) ?_
  have B0 : Bt 5 5 sk g sk g 6 bl5 := Bt.st h
  refine T_aload_n (pc2 := 1) dX5_init_0 rfl rfl ?_
  refine T_objinit (pc2 := 4) dX5_init_1 mlX5_3 (Nat.le_of_ble_eq_true rfl) rfl ?_
  refine T_aload_n (pc2 := 5) dX5_init_4 rfl rfl ?_
  refine T_bipush (pc2 := 7) dX5_init_5 bp8 rfl ?_
  refine G_newz (N := 8) (kc := 11) (ks := 344) (n := 2) (pc2 := 9) dX5_init_7 az_in (by decide) rfl ?_
  have B1 := B0.arr (c := .inr (.boolean, 8, none)) (by decide) rfl
  refine G_putR (ci := 5) (kf := 0) (i := 5) (q := 6) (n := 3) (pc2 := 12) dX5_init_9 flX5_9 ⟨by decide, by decide, B1.2.2.1⟩ (Nat.le_of_ble_eq_true rfl) rfl rfl rfl rfl rfl ?_
  have B2 := B1.put (L2 := [some (.ref 6), some .null, some .null, some .null])
  refine T_aload_n (pc2 := 13) dX5_init_12 rfl rfl ?_
  refine T_bipush (pc2 := 15) dX5_init_13 bp8 rfl ?_
  refine G_newi (N := 8) (kc := 10) (ks := 336) (n := 3) (pc2 := 17) dX5_init_15 ai_in (by decide) rfl ?_
  have B3 := B2.arr (c := .inr (.int, 8, none)) (by decide) rfl
  refine G_putR (ci := 5) (kf := 1) (i := 5) (q := 7) (n := 4) (pc2 := 20) dX5_init_17 flX5_15 ⟨by decide, by decide, B3.2.2.1⟩ (Nat.le_of_ble_eq_true rfl) rfl rfl rfl rfl rfl ?_
  have B4 := B3.put (L2 := [some (.ref 6), some (.ref 7), some .null, some .null])
  refine T_aload_n (pc2 := 21) dX5_init_20 rfl rfl ?_
  refine T_bipush (pc2 := 23) dX5_init_21 bp8 rfl ?_
  refine G_newi (N := 8) (kc := 9) (ks := 328) (n := 4) (pc2 := 25) dX5_init_23 ai_in (by decide) rfl ?_
  have B5 := B4.arr (c := .inr (.int, 8, none)) (by decide) rfl
  refine G_putR (ci := 5) (kf := 2) (i := 5) (q := 8) (n := 5) (pc2 := 28) dX5_init_25 flX5_19 ⟨by decide, by decide, B5.2.2.1⟩ (Nat.le_of_ble_eq_true rfl) rfl rfl rfl rfl rfl ?_
  have B6 := B5.put (L2 := [some (.ref 6), some (.ref 7), some (.ref 8), some .null])
  refine T_aload_n (pc2 := 29) dX5_init_28 rfl rfl ?_
  refine T_bipush (pc2 := 31) dX5_init_29 bp8 rfl ?_
  refine T_bipush (pc2 := 33) dX5_init_31 bp40 rfl ?_
  refine G_multi (kc := 0) (ks := 0) (n := 5) (pc2 := 37) dX5_init_33 clX5_22 rfl ?_
  have B7 := B6.arr (c := .inr (.array .int, 8, some (fun j => if j < 8 then some (5 + 5 + j) else none))) (by decide) rfl
  have B8 := B7.arr (c := .inr (.int, 40, none)) (by decide) rfl
  have B9 := B8.arr (c := .inr (.int, 40, none)) (by decide) rfl
  have B10 := B9.arr (c := .inr (.int, 40, none)) (by decide) rfl
  have B11 := B10.arr (c := .inr (.int, 40, none)) (by decide) rfl
  have B12 := B11.arr (c := .inr (.int, 40, none)) (by decide) rfl
  have B13 := B12.arr (c := .inr (.int, 40, none)) (by decide) rfl
  have B14 := B13.arr (c := .inr (.int, 40, none)) (by decide) rfl
  have B15 := B14.arr (c := .inr (.int, 40, none)) (by decide) rfl
  refine G_putR (ci := 5) (kf := 3) (i := 5) (q := 9) (n := 14) (pc2 := 40) dX5_init_37 flX5_24 ⟨by decide, by decide, B15.2.2.1⟩ (Nat.le_of_ble_eq_true rfl) rfl rfl rfl rfl rfl ?_
  have B16 := B15.put (L2 := [some (.ref 6), some (.ref 7), some (.ref 8), some (.ref 9)])
  refine T_ret dX5_init_40 rfl ?_
  exact k _ _ B16
theorem b_tape (h : sk 18 = .inl (6, bl6)) (k : ∀ sk2 g2, Bt 18 6 sk g sk2 g2 20 [some (.ref 19), none, none, none, none] → Q none (HP sk2 g2 16)) : Calls MX6_init (d + 0) 1 90 [.ref 18] (HP sk g 15) Q := by
  refine Calls.of (by decide +kernel) (Nat.le_of_ble_eq_true rfl) ?_
  have B0 : Bt 18 6 sk g sk g 19 bl6 := Bt.st h
  refine T_aload_n (pc2 := 1) dX6_init_0 rfl rfl ?_
  refine T_objinit (pc2 := 4) dX6_init_1 mlX6_3 (Nat.le_of_ble_eq_true rfl) rfl ?_
  refine T_aload_n (pc2 := 5) dX6_init_4 rfl rfl ?_
  refine T_bipush (pc2 := 7) dX6_init_5 bp90 rfl ?_
  refine G_newi (N := 90) (kc := 0) (ks := 0) (n := 15) (pc2 := 9) dX6_init_7 ai_in (by decide) rfl ?_
  have B1 := B0.arr (c := .inr (.int, 90, none)) (by decide) rfl
  refine G_putR (ci := 6) (kf := 0) (i := 18) (q := 19) (n := 16) (pc2 := 12) dX6_init_9 flX6_9 ⟨by decide, by decide, B1.2.2.1⟩ (Nat.le_of_ble_eq_true rfl) rfl rfl rfl rfl rfl ?_
  have B2 := B1.put (L2 := [some (.ref 19), none, none, none, none])
  refine T_ret dX6_init_12 rfl ?_
  exact k _ _ B2
theorem b_acts (h : sk 32 = .inl (0, bl0)) (k : ∀ sk2 g2, Bt 32 0 sk g sk2 g2 34 [some (.ref 33), none, none] → Q none (HP sk2 g2 30)) : Calls MX0_init (d + 0) 1 24 [.ref 32] (HP sk g 29) Q := by
  refine Calls.of (by decide +kernel) (Nat.le_of_ble_eq_true rfl) ?_
  have B0 : Bt 32 0 sk g sk g 33 bl0 := Bt.st h
  refine T_aload_n (pc2 := 1) dX0_init_0 rfl rfl ?_
  refine T_objinit (pc2 := 4) dX0_init_1 mlX0_3 (Nat.le_of_ble_eq_true rfl) rfl ?_
  refine T_aload_n (pc2 := 5) dX0_init_4 rfl rfl ?_
  refine T_bipush (pc2 := 7) dX0_init_5 bp24 rfl ?_
  refine G_newq (N := 24) (kc := 0) (ks := 0) (n := 29) (pc2 := 10) dX0_init_7 clX0_9 (by decide) rfl ?_
  have B1 := B0.arr (c := .inr (.object RX2, 24, some nf)) (by decide) rfl
  refine G_putR (ci := 0) (kf := 0) (i := 32) (q := 33) (n := 30) (pc2 := 13) dX0_init_10 flX0_11 ⟨by decide, by decide, B1.2.2.1⟩ (Nat.le_of_ble_eq_true rfl) rfl rfl rfl rfl rfl ?_
  have B2 := B1.put (L2 := [some (.ref 33), none, none])
  refine T_ret dX0_init_13 rfl ?_
  exact k _ _ B2
theorem b_echo (h : sk 35 = .inl (3, bl3)) (k : ∀ sk2 g2, Bt 35 3 sk g sk2 g2 39 [some (.ref 36), some (.ref 37), some (.ref 38), none, none, none] → Q none (HP sk2 g2 35)) : Calls MX3_init (d + 0) 3 28 [.ref 35] (HP sk g 32) Q := by
  refine Calls.of (by decide +kernel) (Nat.le_of_ble_eq_true rfl) ?_
  have B0 : Bt 35 3 sk g sk g 36 bl3 := Bt.st h
  refine T_aload_n (pc2 := 1) dX3_init_0 rfl rfl ?_
  refine T_objinit (pc2 := 4) dX3_init_1 mlX3_3 (Nat.le_of_ble_eq_true rfl) rfl ?_
  refine T_aload_n (pc2 := 5) dX3_init_4 rfl rfl ?_
  refine T_bipush (pc2 := 7) dX3_init_5 bp12 rfl ?_
  refine G_newi (N := 12) (kc := 2) (ks := 16) (n := 32) (pc2 := 9) dX3_init_7 ai_in (by decide) rfl ?_
  have B1 := B0.arr (c := .inr (.int, 12, none)) (by decide) rfl
  refine G_putR (ci := 3) (kf := 0) (i := 35) (q := 36) (n := 33) (pc2 := 12) dX3_init_9 flX3_9 ⟨by decide, by decide, B1.2.2.1⟩ (Nat.le_of_ble_eq_true rfl) rfl rfl rfl rfl rfl ?_
  have B2 := B1.put (L2 := [some (.ref 36), some .null, some .null, none, none, none])
  refine T_aload_n (pc2 := 13) dX3_init_12 rfl rfl ?_
  refine T_bipush (pc2 := 15) dX3_init_13 bp8 rfl ?_
  refine G_newi (N := 8) (kc := 1) (ks := 8) (n := 33) (pc2 := 17) dX3_init_15 ai_in (by decide) rfl ?_
  have B3 := B2.arr (c := .inr (.int, 8, none)) (by decide) rfl
  refine G_putR (ci := 3) (kf := 1) (i := 35) (q := 37) (n := 34) (pc2 := 20) dX3_init_17 flX3_15 ⟨by decide, by decide, B3.2.2.1⟩ (Nat.le_of_ble_eq_true rfl) rfl rfl rfl rfl rfl ?_
  have B4 := B3.put (L2 := [some (.ref 36), some (.ref 37), some .null, none, none, none])
  refine T_aload_n (pc2 := 21) dX3_init_20 rfl rfl ?_
  refine T_bipush (pc2 := 23) dX3_init_21 bp8 rfl ?_
  refine G_newi (N := 8) (kc := 0) (ks := 0) (n := 34) (pc2 := 25) dX3_init_23 ai_in (by decide) rfl ?_
  have B5 := B4.arr (c := .inr (.int, 8, none)) (by decide) rfl
  refine G_putR (ci := 3) (kf := 2) (i := 35) (q := 38) (n := 35) (pc2 := 28) dX3_init_25 flX3_18 ⟨by decide, by decide, B5.2.2.1⟩ (Nat.le_of_ble_eq_true rfl) rfl rfl rfl rfl rfl ?_
  have B6 := B5.put (L2 := [some (.ref 36), some (.ref 37), some (.ref 38), none, none, none])
  refine T_ret dX3_init_28 rfl ?_
  exact k _ _ B6
theorem b_asks (h : sk 45 = .inl (1, bl1)) (k : ∀ sk2 g2, Bt 45 1 sk g sk2 g2 47 [some (.ref 46), none] → Q none (HP sk2 g2 43)) : Calls MX1_init (d + 0) 1 16 [.ref 45] (HP sk g 42) Q := by
  refine Calls.of (by decide +kernel) (Nat.le_of_ble_eq_true rfl) ?_
  have B0 : Bt 45 1 sk g sk g 46 bl1 := Bt.st h
  refine T_aload_n (pc2 := 1) dX1_init_0 rfl rfl ?_
  refine T_objinit (pc2 := 4) dX1_init_1 mlX1_3 (Nat.le_of_ble_eq_true rfl) rfl ?_
  refine T_aload_n (pc2 := 5) dX1_init_4 rfl rfl ?_
  refine T_bipush (pc2 := 7) dX1_init_5 bp16 rfl ?_
  refine G_newi (N := 16) (kc := 0) (ks := 0) (n := 42) (pc2 := 9) dX1_init_7 ai_in (by decide) rfl ?_
  have B1 := B0.arr (c := .inr (.int, 16, none)) (by decide) rfl
  refine G_putR (ci := 1) (kf := 0) (i := 45) (q := 46) (n := 43) (pc2 := 12) dX1_init_9 flX1_9 ⟨by decide, by decide, B1.2.2.1⟩ (Nat.le_of_ble_eq_true rfl) rfl rfl rfl rfl rfl ?_
  have B2 := B1.put (L2 := [some (.ref 46), none])
  refine T_ret dX1_init_12 rfl ?_
  exact k _ _ B2
theorem b_fore (h : sk 34 = .inl (4, bl4)) (k : ∀ sk2 g2, Bt 34 4 sk g sk2 g2 45 [some (.ref 35), some (.ref 39), none, none, some (.long 0), some (.long 0), none] → Q none (HP sk2 g2 41)) : Calls MX4_init (d + 1) 10 82 [.ref 34] (HP sk g 31) Q := by
  refine Calls.of (by decide +kernel) (Nat.le_of_ble_eq_true rfl) ?_
  have B0 : Bt 34 4 sk g sk g 35 bl4 := Bt.st h
  refine T_aload_n (pc2 := 1) dX4_init_0 rfl rfl ?_
  refine T_objinit (pc2 := 4) dX4_init_1 mlX4_3 (Nat.le_of_ble_eq_true rfl) rfl ?_
  refine T_aload_n (pc2 := 5) dX4_init_4 rfl rfl ?_
  refine G_new (kc := 9) (ks := 76) (n := 31) (pc2 := 8) (ci := 3) (L := bl3) dX4_init_5 (by decide) clX4_9 insX3 iniX3 bl3_ok rfl ?_
  refine T_dup (pc2 := 9) dX4_init_8 rfl rfl ?_
  refine T_callIN (As := []) (i := 35) (kc := 6) (ks := 48) (mc := 3) (ms := 28) (pc2 := 12) dX4_init_9 ciX3_init mnX4_11 rfl (Nat.le_of_ble_eq_true rfl) rfl ?_
  refine b_echo (d := d) rfl (fun sk1 g1 h1 => ?_)
  have B1 := B0.step h1 (by decide) rfl
  refine G_putR (ci := 4) (kf := 0) (i := 34) (q := 35) (n := 35) (pc2 := 15) dX4_init_12 flX4_12 ⟨by decide, by decide, B1.2.2.1⟩ (Nat.le_of_ble_eq_true rfl) rfl rfl rfl rfl rfl ?_
  have B2 := B1.put (L2 := [some (.ref 35), some .null, none, none, some (.long 0), some (.long 0), none])
  refine T_aload_n (pc2 := 16) dX4_init_15 rfl rfl ?_
  refine G_new (kc := 5) (ks := 40) (n := 35) (pc2 := 19) (ci := 2) (L := bl2) dX4_init_16 (by decide) clX4_18 insX2 iniX2 bl2_ok rfl ?_
  refine T_dup (pc2 := 20) dX4_init_19 rfl rfl ?_
  refine T_callIN (As := []) (i := 39) (kc := 0) (ks := 0) (mc := 5) (ms := 40) (pc2 := 23) dX4_init_20 ciX2_init mnX4_20 rfl (Nat.le_of_ble_eq_true rfl) rfl ?_
  refine b_cel (t := 39) (by decide) rfl (fun i h1 h2 => by have : i = 39 ∨ i = 40 ∨ i = 41 ∨ i = 42 ∨ i = 43 ∨ i = 44 := (by omega); rcases this with rfl | rfl | rfl | rfl | rfl | rfl <;> rfl) (fun sk3 g3 h3 => ?_)
  have B3 := B2.step h3 (by decide) rfl
  refine G_putR (ci := 4) (kf := 1) (i := 34) (q := 39) (n := 41) (pc2 := 26) dX4_init_23 flX4_21 ⟨by decide, by decide, B3.2.2.1⟩ (Nat.le_of_ble_eq_true rfl) rfl rfl rfl rfl rfl ?_
  have B4 := B3.put (L2 := [some (.ref 35), some (.ref 39), none, none, some (.long 0), some (.long 0), none])
  refine T_ret dX4_init_26 rfl ?_
  exact k _ _ B4
theorem b_jar (h : sk 4 = .inl (7, bl7)) (k : ∀ sk2 g2, Bt 4 7 sk g sk2 g2 48 [some (.ref 5), some (.ref 18), some (.ref 20), some (.ref 26), some (.ref 32), some (.ref 34), some (.ref 45), some (.ref 47), none, none] → Q none (HP sk2 g2 44)) : Calls MX7_init (d + 2) 43 683 [.ref 4] (HP sk g 1) Q := by
  refine Calls.of (by decide +kernel) (Nat.le_of_ble_eq_true rfl) ?_
  have B0 : Bt 4 7 sk g sk g 5 bl7 := Bt.st h
  refine T_aload_n (pc2 := 1) dX7_init_0 rfl rfl ?_
  refine T_objinit (pc2 := 4) dX7_init_1 mlX7_1 (Nat.le_of_ble_eq_true rfl) rfl ?_
  refine T_aload_n (pc2 := 5) dX7_init_4 rfl rfl ?_
  refine G_new (kc := 42) (ks := 679) (n := 1) (pc2 := 8) (ci := 5) (L := bl5) dX7_init_5 (by decide) clX7_7 insX5 iniX5 bl5_ok rfl ?_
  refine T_dup (pc2 := 9) dX7_init_8 rfl rfl ?_
  refine T_callIN (As := []) (i := 5) (kc := 30) (ks := 327) (mc := 12) (ms := 352) (pc2 := 12) dX7_init_9 ciX5_init mnX7_9 rfl (Nat.le_of_ble_eq_true rfl) rfl ?_
  refine b_rows (d := d + 1) rfl (fun sk1 g1 h1 => ?_)
  have B1 := B0.step h1 (by decide) rfl
  refine G_putR (ci := 7) (kf := 0) (i := 4) (q := 5) (n := 14) (pc2 := 15) dX7_init_12 flX7_10 ⟨by decide, by decide, B1.2.2.1⟩ (Nat.le_of_ble_eq_true rfl) rfl rfl rfl rfl rfl ?_
  have B2 := B1.put (L2 := [some (.ref 5), some .null, some .null, some .null, some .null, some .null, some .null, some .null, none, none])
  refine T_aload_n (pc2 := 16) dX7_init_15 rfl rfl ?_
  refine G_new (kc := 29) (ks := 322) (n := 14) (pc2 := 19) (ci := 6) (L := bl6) dX7_init_16 (by decide) clX7_16 insX6 iniX6 bl6_ok rfl ?_
  refine T_dup (pc2 := 20) dX7_init_19 rfl rfl ?_
  refine T_callIN (As := []) (i := 18) (kc := 28) (ks := 232) (mc := 1) (ms := 90) (pc2 := 23) dX7_init_20 ciX6_init mnX7_18 rfl (Nat.le_of_ble_eq_true rfl) rfl ?_
  refine b_tape (d := d + 1) rfl (fun sk3 g3 h3 => ?_)
  have B3 := B2.step h3 (by decide) rfl
  refine G_putR (ci := 7) (kf := 1) (i := 4) (q := 18) (n := 16) (pc2 := 26) dX7_init_23 flX7_19 ⟨by decide, by decide, B3.2.2.1⟩ (Nat.le_of_ble_eq_true rfl) rfl rfl rfl rfl rfl ?_
  have B4 := B3.put (L2 := [some (.ref 5), some (.ref 18), some .null, some .null, some .null, some .null, some .null, some .null, none, none])
  refine T_aload_n (pc2 := 27) dX7_init_26 rfl rfl ?_
  refine G_new (kc := 27) (ks := 224) (n := 16) (pc2 := 30) (ci := 2) (L := bl2) dX7_init_27 (by decide) clX7_23 insX2 iniX2 bl2_ok rfl ?_
  refine T_dup (pc2 := 31) dX7_init_30 rfl rfl ?_
  refine T_callIN (As := []) (i := 20) (kc := 22) (ks := 184) (mc := 5) (ms := 40) (pc2 := 34) dX7_init_31 ciX2_init mnX7_25 rfl (Nat.le_of_ble_eq_true rfl) rfl ?_
  refine b_cel (t := 20) (by decide) rfl (fun i h1 h2 => by have : i = 20 ∨ i = 21 ∨ i = 22 ∨ i = 23 ∨ i = 24 ∨ i = 25 := (by omega); rcases this with rfl | rfl | rfl | rfl | rfl | rfl <;> rfl) (fun sk5 g5 h5 => ?_)
  have B5 := B4.step h5 (by decide) rfl
  refine G_putR (ci := 7) (kf := 2) (i := 4) (q := 20) (n := 22) (pc2 := 37) dX7_init_34 flX7_26 ⟨by decide, by decide, B5.2.2.1⟩ (Nat.le_of_ble_eq_true rfl) rfl rfl rfl rfl rfl ?_
  have B6 := B5.put (L2 := [some (.ref 5), some (.ref 18), some (.ref 20), some .null, some .null, some .null, some .null, some .null, none, none])
  refine T_aload_n (pc2 := 38) dX7_init_37 rfl rfl ?_
  refine G_new (kc := 21) (ks := 176) (n := 22) (pc2 := 41) (ci := 2) (L := bl2) dX7_init_38 (by decide) clX7_23 insX2 iniX2 bl2_ok rfl ?_
  refine T_dup (pc2 := 42) dX7_init_41 rfl rfl ?_
  refine T_callIN (As := []) (i := 26) (kc := 16) (ks := 136) (mc := 5) (ms := 40) (pc2 := 45) dX7_init_42 ciX2_init mnX7_25 rfl (Nat.le_of_ble_eq_true rfl) rfl ?_
  refine b_cel (t := 26) (by decide) rfl (fun i h1 h2 => by have : i = 26 ∨ i = 27 ∨ i = 28 ∨ i = 29 ∨ i = 30 ∨ i = 31 := (by omega); rcases this with rfl | rfl | rfl | rfl | rfl | rfl <;> rfl) (fun sk7 g7 h7 => ?_)
  have B7 := B6.step h7 (by decide) rfl
  refine G_putR (ci := 7) (kf := 3) (i := 4) (q := 26) (n := 28) (pc2 := 48) dX7_init_45 flX7_30 ⟨by decide, by decide, B7.2.2.1⟩ (Nat.le_of_ble_eq_true rfl) rfl rfl rfl rfl rfl ?_
  have B8 := B7.put (L2 := [some (.ref 5), some (.ref 18), some (.ref 20), some (.ref 26), some .null, some .null, some .null, some .null, none, none])
  refine T_aload_n (pc2 := 49) dX7_init_48 rfl rfl ?_
  refine G_new (kc := 15) (ks := 133) (n := 28) (pc2 := 52) (ci := 0) (L := bl0) dX7_init_49 (by decide) clX7_33 insX0 iniX0 bl0_ok rfl ?_
  refine T_dup (pc2 := 53) dX7_init_52 rfl rfl ?_
  refine T_callIN (As := []) (i := 32) (kc := 14) (ks := 109) (mc := 1) (ms := 24) (pc2 := 56) dX7_init_53 ciX0_init mnX7_35 rfl (Nat.le_of_ble_eq_true rfl) rfl ?_
  refine b_acts (d := d + 1) rfl (fun sk9 g9 h9 => ?_)
  have B9 := B8.step h9 (by decide) rfl
  refine G_putR (ci := 7) (kf := 4) (i := 4) (q := 32) (n := 30) (pc2 := 59) dX7_init_56 flX7_36 ⟨by decide, by decide, B9.2.2.1⟩ (Nat.le_of_ble_eq_true rfl) rfl rfl rfl rfl rfl ?_
  have B10 := B9.put (L2 := [some (.ref 5), some (.ref 18), some (.ref 20), some (.ref 26), some (.ref 32), some .null, some .null, some .null, none, none])
  refine T_aload_n (pc2 := 60) dX7_init_59 rfl rfl ?_
  refine G_new (kc := 13) (ks := 102) (n := 30) (pc2 := 63) (ci := 4) (L := bl4) dX7_init_60 (by decide) clX7_40 insX4 iniX4 bl4_ok rfl ?_
  refine T_dup (pc2 := 64) dX7_init_63 rfl rfl ?_
  refine T_callIN (As := []) (i := 34) (kc := 3) (ks := 20) (mc := 10) (ms := 82) (pc2 := 67) dX7_init_64 ciX4_init mnX7_42 rfl (Nat.le_of_ble_eq_true rfl) rfl ?_
  refine b_fore rfl (fun sk11 g11 h11 => ?_)
  have B11 := B10.step h11 (by decide) rfl
  refine G_putR (ci := 7) (kf := 5) (i := 4) (q := 34) (n := 41) (pc2 := 70) dX7_init_67 flX7_43 ⟨by decide, by decide, B11.2.2.1⟩ (Nat.le_of_ble_eq_true rfl) rfl rfl rfl rfl rfl ?_
  have B12 := B11.put (L2 := [some (.ref 5), some (.ref 18), some (.ref 20), some (.ref 26), some (.ref 32), some (.ref 34), some .null, some .null, none, none])
  refine T_aload_n (pc2 := 71) dX7_init_70 rfl rfl ?_
  refine G_new (kc := 2) (ks := 18) (n := 41) (pc2 := 74) (ci := 1) (L := bl1) dX7_init_71 (by decide) clX7_47 insX1 iniX1 bl1_ok rfl ?_
  refine T_dup (pc2 := 75) dX7_init_74 rfl rfl ?_
  refine T_callIN (As := []) (i := 45) (kc := 1) (ks := 2) (mc := 1) (ms := 16) (pc2 := 78) dX7_init_75 ciX1_init mnX7_49 rfl (Nat.le_of_ble_eq_true rfl) rfl ?_
  refine b_asks (d := d + 1) rfl (fun sk13 g13 h13 => ?_)
  have B13 := B12.step h13 (by decide) rfl
  refine G_putR (ci := 7) (kf := 6) (i := 4) (q := 45) (n := 43) (pc2 := 81) dX7_init_78 flX7_50 ⟨by decide, by decide, B13.2.2.1⟩ (Nat.le_of_ble_eq_true rfl) rfl rfl rfl rfl rfl ?_
  have B14 := B13.put (L2 := [some (.ref 5), some (.ref 18), some (.ref 20), some (.ref 26), some (.ref 32), some (.ref 34), some (.ref 45), some .null, none, none])
  refine T_aload_n (pc2 := 82) dX7_init_81 rfl rfl ?_
  refine T_iconst (pc2 := 83) dX7_init_82 ic2 rfl ?_
  refine G_newq (N := 2) (kc := 0) (ks := 0) (n := 43) (pc2 := 86) dX7_init_83 clX7_23 (by decide) rfl ?_
  have B15 := B14.arr (c := .inr (.object RX2, 2, some nf)) (by decide) rfl
  refine G_putR (ci := 7) (kf := 7) (i := 4) (q := 47) (n := 44) (pc2 := 89) dX7_init_86 flX7_54 ⟨by decide, by decide, B15.2.2.1⟩ (Nat.le_of_ble_eq_true rfl) rfl rfl rfl rfl rfl ?_
  have B16 := B15.put (L2 := [some (.ref 5), some (.ref 18), some (.ref 20), some (.ref 26), some (.ref 32), some (.ref 34), some (.ref 45), some (.ref 47), none, none])
  refine T_ret dX7_init_89 rfl ?_
  exact k _ _ B16
end Cons

