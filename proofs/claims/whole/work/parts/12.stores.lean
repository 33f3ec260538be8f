section TStores
variable {M : MI} {d kc ks pc pc2 : Nat} {ls : List (Nat × Value)} {st : List Value} {h : SH} {Q : Option Value → SH → Prop}
theorem Tys.set {tys : List (ClassId × FieldType)} {ca : Nat → ClassId} {h : SH} {i : Nat} {c : SC} (h0 : Tys tys ca h) (hc : ∀ ty a, c = .inr (ty, a) → ∃ b, h.1 i = .inr (ty, b)) : Tys tys ca (hset h i c) := by
  intro j hj ty a e
  by_cases q : j + 4 = i
  · subst q
    have e2 : c = .inr (ty, a) := by
      have : va_up h.1 (j + 4) c (j + 4) = .inr (ty, a) := e
      simpa [va_up] using this
    obtain ⟨b, hb⟩ := hc ty a e2
    exact h0 j hj ty b hb
  · have : va_up h.1 i c (j + 4) = .inr (ty, a) := e
    simp only [va_up, if_neg q] at this
    exact h0 j hj ty a this
/-- what is left of a store: the world with one cell set -/
theorem Dy.set {R : Room} {s : State} {D : va_G} {base : Nat} {x : Nat → Nat} {E : Nat → SC} {H H1 : Heap} {locs : List Loc} {cells slots : Nat} {ca : Nat → ClassId} {tys : List (ClassId × FieldType)} {i : Nat} {c : SC} {j : Nat}
    (Y : Dy R s D base x E H locs cells slots ca tys h) (h4 : 4 ≤ i) (hi : i < h.2 + 4) (hc : ∀ ty a, c = .inr (ty, a) → ∃ b, h.1 i = .inr (ty, b)) (he : va_at D vwCl (adr base x i, trC (adr base x) (ca (i - 4)) c) H1) (z : H1.size = H.size) (oq : ∀ q : Nat, q ≠ adr base x i → H1[q]? = H[q]?) :
    Dy R s D base x E H1 (locs ++ [⟨adr base x i, j⟩]) cells slots ca tys (hset h i c) := by
  refine ⟨Y.1, ?_, Y.2.2.1.put z oq (by show base ≤ adr base x i; rw [adr_ge h4]; omega), by rw [z]; exact Y.2.2.2.1, Y.2.2.2.2.1.set hc, fun q hq => ?_, Y.2.2.2.2.2.2⟩
  · rw [wd_set h4]
    exact Y.2.1.set (wd_D base x ca h) (wd_at h4 hi rfl) he oq
  · have : q ≠ i := by omega
    show va_up h.1 i c q = E q
    simp only [va_up, if_neg this]
    exact Y.2.2.2.2.2.1 q hq
theorem T_putfield {idx ci kf i : Nat} {fs : List Value} {v : Value} (hf : decode M.2.1 pc = .ok (.putfield idx, 3)) (hl : FL M.1.cls idx ci kf) (ho : hob h i ci fs) (hfin : (TT ci kf).2.2.2 = false) (hn : ∀ a, narrow (tyT ci kf) (trV a v) = trV a v) (hfit : ∀ a, fits (tyT ci kf) (trV a v) = true) (hlen : kf < fs.length) (hp : pc + 3 = pc2) (k : T M d kc ks pc2 ls st (hset h i (.inl (ci, fs.set kf v))) Q) : T M d kc ks pc ls (v :: .ref i :: st) h Q := by
  subst hp
  intro p l e R s m args below meth c Z D base x E H locs cells slots ca tys lsA F Y L
  obtain ⟨hx, hb, hml, hown, hts, hbs, hR, hXt, hnm, hret⟩ := id F
  have hci := hl.2.1
  have hap := va_apart (D := D) (cl := vwCl) (own := M.1.cls) hts (in_ok ci hci) (tyT ci) (tyT_ok ci hci) (nm_ok ci hci) Y.1 (vwCl_get ci hci)
  obtain ⟨r, h1, cell, q1, q2, q3, q4⟩ := Y.2.1 _ _ (wd_at (base := base) (x := x) (ca := ca) ho.1 ho.2.1 ho.2.2)
  have hr : r = (RR ci, TT ci, NN ci) := Option.some.inj (h1.symm.trans (vwCl_get ci hci))
  subst hr
  obtain ⟨hS, hfc, kC, hkC, hkind⟩ := Y.1.1 ci _ (vwCl_get ci hci)
  obtain ⟨cf, kq, fi, f, hi, hsl⟩ := hS kf hl.2.2
  have hlay := hts _ (in_ok ci hci _ (u_in_lay hl.2.2))
  unfold u_lay at hlay
  rw [if_neg (by rw [hfin]; decide)] at hlay
  have hst := (u_facts hfc hkC (u_lays hts (in_ok ci hci) hl.2.2) hi).1
  have h6 := u_store hfc hkC hkind hlay hi (tyT_ok ci hci kf hl.2.2) (hn (adr base x)) (hfit (adr base x))
  refine W.putK hx hb (f := f) ⟨hown, hts _ hl.1, ⟨_, _, _, hi⟩, hst⟩ (by rw [q2]; exact h6) q1 q3 (by rw [hsl]; exact k2_hasslot (q4 kf hl.2.2)) rfl rfl hf fun H' e1 e2 e3 => ?_
  rw [hsl] at e1 ⊢
  refine k p l e R s m args below meth c Z D base x E H' _ cells slots ca tys lsA F (Y.set ho.1 ho.2.1 (fun ty a q => by cases q) ?_ e2 e3) L
  refine ⟨_, vwCl_get ci hci, t_OB.to (V := updV (vp_V (fs.map (trV (adr base x)))) kf (trV (adr base x) v)) ⟨_, e1, q2, q3, t_set q4 hap hl.2.2 _⟩ (fun j _ => ?_)⟩
  rw [vp_updV_set (by rw [List.length_map]; exact hlen)]
  show _ = vp_V ((fs.set kf v).map (trV (adr base x))) j
  rw [List.map_set]
theorem T_putfinal {idx ci kf i : Nat} {fs : List Value} {v : Value} (hf : decode M.2.1 pc = .ok (.putfield idx, 3)) (hl : FL M.1.cls idx ci kf) (ho : hob h i ci fs) (hfin : (TT ci kf).2.2.2 = true) (hin2 : M.1.name = "<init>") (hdecl : (TT ci kf).1 = M.1.cls) (hn : ∀ a, narrow (tyT ci kf) (trV a v) = trV a v) (hfit : ∀ a, fits (tyT ci kf) (trV a v) = true) (hlen : kf < fs.length) (hp : pc + 3 = pc2) (k : T M d kc ks pc2 ls st (hset h i (.inl (ci, fs.set kf v))) Q) : T M d kc ks pc ls (v :: .ref i :: st) h Q := by
  subst hp
  intro p l e R s m args below meth c Z D base x E H locs cells slots ca tys lsA F Y L
  obtain ⟨hx, hb, hml, hown, hts, hbs, hR, hXt, hnm, hret⟩ := id F
  have hci := hl.2.1
  have hap := va_apart (D := D) (cl := vwCl) (own := M.1.cls) hts (in_ok ci hci) (tyT ci) (tyT_ok ci hci) (nm_ok ci hci) Y.1 (vwCl_get ci hci)
  obtain ⟨r, h1, cell, q1, q2, q3, q4⟩ := Y.2.1 _ _ (wd_at (base := base) (x := x) (ca := ca) ho.1 ho.2.1 ho.2.2)
  have hr : r = (RR ci, TT ci, NN ci) := Option.some.inj (h1.symm.trans (vwCl_get ci hci))
  subst hr
  obtain ⟨hS, hfc, kC, hkC, hkind⟩ := Y.1.1 ci _ (vwCl_get ci hci)
  obtain ⟨cf, kq, fi, f, hi, hsl⟩ := hS kf hl.2.2
  have hlay := hts _ (in_ok ci hci _ (u_in_lay hl.2.2))
  unfold u_lay at hlay
  rw [if_pos hfin] at hlay
  have hst := (u_facts hfc hkC (u_lays hts (in_ok ci hci) hl.2.2) hi).1
  have hcf : m.cls = cf := by
    obtain ⟨_, _, c', _, _, _, -, -, hf', -, -, -, hown2, -⟩ := Cond.laysFinal_spec hlay
    have e1 : c' = cf := by have := hi.symm.trans hf'; simp at this; exact this.1.symm
    rw [hdecl] at hown2
    rw [← e1]; exact Option.some.inj (hown.symm.trans hown2)
  have h6 := u_fits hfc hkC hkind (Or.inr hlay) hi (tyT_ok ci hci kf hl.2.2) (hn (adr base x)) (hfit (adr base x))
  refine W.putFinK hx hb hown (hts _ hl.1) hi hst hcf (hnm.trans hin2) (by rw [q2]; exact h6) q1 q3 (by rw [hsl]; exact k2_hasslot (q4 kf hl.2.2)) rfl rfl hf fun H' e1 e2 e3 => ?_
  rw [hsl] at e1 ⊢
  refine k p l e R s m args below meth c Z D base x E H' _ cells slots ca tys lsA F (Y.set ho.1 ho.2.1 (fun ty a q => by cases q) ?_ e2 e3) L
  refine ⟨_, vwCl_get ci hci, t_OB.to (V := updV (vp_V (fs.map (trV (adr base x)))) kf (trV (adr base x) v)) ⟨_, e1, q2, q3, t_set q4 hap hl.2.2 _⟩ (fun j _ => ?_)⟩
  rw [vp_updV_set (by rw [List.length_map]; exact hlen)]
  show _ = vp_V ((fs.set kf v).map (trV (adr base x))) j
  rw [List.map_set]
theorem T_iastore {i n : Nat} {f : Nat → Int32} {j v : Int32} (hf : decode M.2.1 pc = .ok (.iastore, 1)) (ho : har h i .int (n, .inl f)) (hj : vp_in j n) (hp : pc + 1 = pc2) (k : T M d kc ks pc2 ls st (hset h i (.inr (.int, n, .inl (upd f j.toNatClampNeg v)))) Q) : T M d kc ks pc ls (.int v :: .int j :: .ref i :: st) h Q := by
  subst hp
  intro p l e R s m args below meth c Z D base x E H locs cells slots ca tys lsA F Y L
  obtain ⟨hx, hb, hml, hown, hts, hbs, hR, hXt, hnm, hret⟩ := id F
  obtain ⟨t0, ht0⟩ := Y.2.2.2.2.1 (i - 4) (by have := ho.1; have := ho.2.1; omega) .int (n, .inl f) (by rw [show i - 4 + 4 = i by have := ho.1; omega]; exact ho.2.2)
  have hc : H[adr base x i]? = some (arrV (ca (i - 4)) n (fun q => .int (f q))) := Y.2.1 _ _ (wd_at (base := base) (x := x) (ca := ca) ho.1 ho.2.1 ho.2.2)
  refine W.iast hx hb hc ((Y.1.2 t0 _ ht0).1 n (fun q => .int (f q))) (fun q => by cases q) (by rw [arrV_size]; exact hj) rfl rfl hf fun H1 e1 z oq => ?_
  refine k p l e R s m args below meth c Z D base x E H1 _ cells slots ca tys lsA F (Y.set ho.1 ho.2.1 (fun ty a q => by cases q; exact ⟨_, ho.2.2⟩) ?_ z oq) L
  show H1[adr base x i]? = some (arrV (ca (i - 4)) n (fun q => .int (upd f j.toNatClampNeg v q)))
  rw [e1, arrV_store]
  congr 2
  funext q
  by_cases hq : q = j.toNatClampNeg
  · subst hq
    simp [updV, upd, vp_nar]
    try rfl
  · simp [updV, upd, hq]
theorem T_bastore {i n : Nat} {f : Nat → Int32} {j v : Int32} (hf : decode M.2.1 pc = .ok (.bastore, 1)) (ho : har h i .boolean (n, .inl f)) (hj : vp_in j n) (hp : pc + 1 = pc2) (k : T M d kc ks pc2 ls st (hset h i (.inr (.boolean, n, .inl (upd f j.toNatClampNeg (vp_nar .boolean v))))) Q) : T M d kc ks pc ls (.int v :: .int j :: .ref i :: st) h Q := by
  subst hp
  intro p l e R s m args below meth c Z D base x E H locs cells slots ca tys lsA F Y L
  obtain ⟨hx, hb, hml, hown, hts, hbs, hR, hXt, hnm, hret⟩ := id F
  obtain ⟨t0, ht0⟩ := Y.2.2.2.2.1 (i - 4) (by have := ho.1; have := ho.2.1; omega) .boolean (n, .inl f) (by rw [show i - 4 + 4 = i by have := ho.1; omega]; exact ho.2.2)
  have hc : H[adr base x i]? = some (arrV (ca (i - 4)) n (fun q => .int (f q))) := Y.2.1 _ _ (wd_at (base := base) (x := x) (ca := ca) ho.1 ho.2.1 ho.2.2)
  refine W.zast hx hb hc ((Y.1.2 t0 _ ht0).1 n (fun q => .int (f q))) (fun q => by cases q) (by rw [arrV_size]; exact hj) rfl rfl hf fun H1 e1 z oq => ?_
  refine k p l e R s m args below meth c Z D base x E H1 _ cells slots ca tys lsA F (Y.set ho.1 ho.2.1 (fun ty a q => by cases q; exact ⟨_, ho.2.2⟩) ?_ z oq) L
  show H1[adr base x i]? = some (arrV (ca (i - 4)) n (fun q => .int (upd f j.toNatClampNeg (vp_nar .boolean v) q)))
  rw [e1, arrV_store]
  congr 2
  funext q
  by_cases hq : q = j.toNatClampNeg
  · subst hq
    simp [updV, upd, vp_nar]
    try rfl
  · simp [updV, upd, hq]
theorem T_aastore {i n ci q : Nat} {fs : List Value} {f : Nat → Option Nat} {j : Int32} (hf : decode M.2.1 pc = .ok (.aastore, 1)) (hci : ci < 9) (ho : har h i (.object (RR ci)) (n, .inr (.inr (.inr (.inr f))))) (hq : hob h q ci fs) (hj : vp_in j n) (hp : pc + 1 = pc2) (k : T M d kc ks pc2 ls st (hset h i (.inr (.object (RR ci), n, .inr (.inr (.inr (.inr (va_up f j.toNatClampNeg (some q)))))))) Q) : T M d kc ks pc ls (.ref q :: .int j :: .ref i :: st) h Q := by
  subst hp
  intro p l e R s m args below meth c Z D base x E H locs cells slots ca tys lsA F Y L
  obtain ⟨hx, hb, hml, hown, hts, hbs, hR, hXt, hnm, hret⟩ := id F
  obtain ⟨t0, ht0⟩ := Y.2.2.2.2.1 (i - 4) (by have := ho.1; have := ho.2.1; omega) _ _ (by rw [show i - 4 + 4 = i by have := ho.1; omega]; exact ho.2.2)
  have hc : H[adr base x i]? = some (arrV (ca (i - 4)) n (fun q => va_rf ((f q).map (adr base x)))) := Y.2.1 _ _ (wd_at (base := base) (x := x) (ca := ca) ho.1 ho.2.1 ho.2.2)
  have hlt : j.toNatClampNeg < n := Nat.not_le.mp fun q => hj (Or.inr q)
  have h0 : ¬ j < 0 := fun q => hj (Or.inl q)
  obtain ⟨r', hr', cellV, g1, g2, g3, -⟩ := Y.2.1 _ _ (wd_at (base := base) (x := x) (ca := ca) hq.1 hq.2.1 hq.2.2)
  have hcls := (Y.1.1 ci _ (vwCl_get ci hci)).2
  obtain ⟨kA, comp, k1, k2, k3, -⟩ := (Y.1.2 t0 _ ht0).2
  have hcomp : comp = D.1 ci := Option.some.inj (k3.symm.trans hcls.1)
  subst hcomp
  obtain ⟨kC, hkC, -⟩ := hcls.2
  refine W.aast hx hb hc (fun q h => by cases h) (fun h => by cases h) k1 k2 rfl hkC ⟨h0, by rw [arrV_size]; exact hlt⟩ g1 (fun q h => by rw [g3] at h; cases h) (by rw [g2]; exact hkC) (by rw [g2]; exact va_assign hcls) rfl rfl hf fun H1 e1 z oq => ?_
  refine k p l e R s m args below meth c Z D base x E H1 _ cells slots ca tys lsA F (Y.set ho.1 ho.2.1 (fun ty a q => by cases q; exact ⟨_, ho.2.2⟩) ?_ z oq) L
  show H1[adr base x i]? = some (arrV (ca (i - 4)) n (fun z => va_rf ((va_up f j.toNatClampNeg (some q) z).map (adr base x))))
  rw [e1, arrV_store]
  congr 2
  funext y
  by_cases hy : y = j.toNatClampNeg
  · subst hy
    simp [updV, va_up, va_rf]
  · simp [updV, va_up, hy]
/-- a cell more -/
theorem Dy.new {R : Room} {s : State} {D : va_G} {base : Nat} {x : Nat → Nat} {E : Nat → SC} {H H1 : Heap} {locs : List Loc} {cells slots : Nat} {ca : Nat → ClassId} {tys tys2 : List (ClassId × FieldType)} {c : SC} {cA : ClassId}
    (Y : Dy R s D base x E H locs cells slots ca tys h) (hK : va_K D vwCl (tys ++ tys2) s) (hc : ∀ ty a, c = .inr (ty, a) → ∃ t0 : Nat, (tys ++ tys2)[t0]? = some (cA, ty)) (he : va_at D vwCl (H.size, trC (adr base x) cA c) H1) (z : H1.size = H.size + 1) (oq : ∀ q : Nat, q < H.size → H1[q]? = H[q]?) :
    Dy R s D base x E H1 locs cells slots (va_up ca h.2 cA) (tys ++ tys2) (hnew h c) := by
  have hk : ∀ (k : Nat) (q : Nat × va_E), (wd base x ca h)[k]? = some q → H1[q.1]? = H[q.1]? := fun k q hq => oq q.1 ((Y.2.1 k q hq).lt)
  refine ⟨hK, ?_, ⟨Nat.le_trans Y.2.2.1.1 (by omega), fun q h1 h2 => (oq q (Nat.lt_of_lt_of_le h1 Y.2.2.1.1)).trans (Y.2.2.1.2.1 q h1 h2), Y.2.2.1.2.2⟩, ?_, ?_, fun q hq => ?_, Y.2.2.2.2.2.2⟩
  · rw [wd_new]
    refine (Y.2.1.kept hk).app (fun k q hq => ?_)
    have h0 : k < 1 := (List.getElem?_eq_some_iff.mp hq).1
    rw [show k = 0 by omega] at hq
    cases hq
    rw [← Y.2.2.2.1]
    exact he
  · show H1.size = base + (h.2 + 1)
    rw [z, Y.2.2.2.1]
    omega
  · intro j hj ty a ea
    have hj : j < h.2 + 1 := hj
    have ea : va_up h.1 (h.2 + 4) c (j + 4) = .inr (ty, a) := ea
    by_cases q : j = h.2
    · subst q
      simp only [va_up, if_pos] at ea
      obtain ⟨t0, ht⟩ := hc ty a ea
      exact ⟨t0, by simpa [va_up] using ht⟩
    · have q2 : ¬ j + 4 = h.2 + 4 := by omega
      simp only [va_up, if_neg q2] at ea
      obtain ⟨t0, ht⟩ := Y.2.2.2.2.1 j (by omega) ty a ea
      refine ⟨t0, ?_⟩
      rw [List.getElem?_append_left (List.getElem?_eq_some_iff.mp ht).1, ht]
      simp [va_up, q]
  · have : q ≠ h.2 + 4 := by omega
    show va_up h.1 (h.2 + 4) c q = E q
    simp only [va_up, if_neg this]
    exact Y.2.2.2.2.2.1 q hq
theorem Dy.budget {R : Room} {s : State} {D : va_G} {base : Nat} {x : Nat → Nat} {E : Nat → SC} {H : Heap} {locs : List Loc} {cells slots cells2 slots2 : Nat} {ca : Nat → ClassId} {tys : List (ClassId × FieldType)}
    (Y : Dy R s D base x E H locs cells slots ca tys h) (h1 : cells2 ≤ cells) (h2 : slots2 ≤ slots) : Dy R s D base x E H locs cells2 slots2 ca tys h :=
  ⟨Y.1, Y.2.1, Y.2.2.1, Y.2.2.2.1, Y.2.2.2.2.1, Y.2.2.2.2.2.1, Nat.le_trans h1 Y.2.2.2.2.2.2.1, Nat.le_trans h2 Y.2.2.2.2.2.2.2⟩
theorem T_new {idx ci : Nat} {fs : List Value} (hf : decode M.2.1 pc = .ok (.new idx, 3)) (hci : ci < 9) (hcl : Cond.classLink M.1.cls idx (RR ci) ∈ lw_g) (hins : Cond.instantiable (RR ci) (NN ci) ∈ lw_g) (hini : Cond.initialized (RR ci) ∈ lw_g) (hfs : ∀ a j, j < NN ci → defaultValue (tyT ci j) = vp_V (fs.map (trV a)) j) (hp : pc + 3 = pc2) (k : T M d kc ks pc2 ls (.ref (h.2 + 4) :: st) (hnew h (.inl (ci, fs))) Q) : T M d (kc + 1) (ks + NN ci) pc ls st h Q := by
  subst hp
  intro p l e R s m args below meth c Z D base x E H locs cells slots ca tys lsA F Y L
  obtain ⟨hx, hb, hml, hown, hts, hbs, hR, hXt, hnm, hret⟩ := id F
  have hKn := Y.1.1 ci _ (vwCl_get ci hci)
  have hb1 := Y.2.2.2.2.2.2.1
  have hb2 := Y.2.2.2.2.2.2.2
  refine W.newcK hx hb hown (hts _ hcl) (hts _ hins) (hts _ hini) rfl hf (by omega) (by omega) hKn.2.1 rfl fun H1 kC hkC e1 z1 o1 => ?_
  have Y2 := (Y.new (tys2 := []) (c := .inl (ci, fs)) (cA := 0) (by rw [List.append_nil]; exact Y.1) (fun ty a q => by cases q) ⟨_, vwCl_get ci hci, (u_born (tyT ci) hts (in_ok ci hci) hKn hkC e1 (tyT_ok ci hci)).to (hfs (adr base x))⟩ z1 o1).budget (cells2 := cells + 1 + kc) (slots2 := slots + NN ci + ks) (by omega) (by omega)
  have hk := k p l e R s m args below meth c Z D base x E H1 locs (cells + 1) (slots + NN ci) _ _ lsA F Y2 L
  have ea : adr base x (h.2 + 4) = H.size := by rw [adr_ge (by omega), Y.2.2.2.1]; omega
  rw [List.map_cons, show trV (adr base x) (.ref (h.2 + 4)) = .ref H.size by rw [← ea]; rfl] at hk
  exact hk
theorem T_newarray {at2 : ArrayType} {ty : FieldType} {n : Int32} {N : Nat} {a0 : vp_A} (hf : decode M.2.1 pc = .ok (.newarray at2, 2)) (harr : Cond.arrayClass (newarray.typeOf at2) ∈ lw_g) (hty : newarray.typeOf at2 = ty) (ha : ∀ (cA : ClassId) (a : Nat → Nat), vp_cell cA (trA a a0) = arrV cA N (fun _ => defaultValue ty)) (hn : ¬ n < 0) (hN : n.toNatClampNeg = N) (hbytes : N * componentBytes ty ≤ 536870912) (hp : pc + 2 = pc2) (k : T M d kc ks pc2 ls (.ref (h.2 + 4) :: st) (hnew h (.inr (ty, a0))) Q) : T M d (kc + 1) (ks + N) pc ls (.int n :: st) h Q := by
  subst hp
  intro p l e R s m args below meth c Z D base x E H locs cells slots ca tys lsA F Y L
  obtain ⟨hx, hb, hml, hown, hts, hbs, hR, hXt, hnm, hret⟩ := id F
  subst hty
  have hb1 := Y.2.2.2.2.2.2.1
  have hb2 := Y.2.2.2.2.2.2.2
  refine va_newaK hx hb (hts _ harr) rfl hf rfl hn hN hbytes (by omega) (by omega) rfl fun H1 cA e1 z1 o1 hAr hNm => ?_
  have hK2 : va_K D vwCl (tys ++ [(cA, newarray.typeOf at2)]) s := by
    refine ⟨Y.1.1, fun j q hq => ?_⟩
    by_cases hl : j < tys.length
    · rw [List.getElem?_append_left hl] at hq
      exact Y.1.2 j q hq
    · rw [List.getElem?_append_right (by omega)] at hq
      have hz : j - tys.length < 1 := (List.getElem?_eq_some_iff.mp hq).1
      rw [show j - tys.length = 0 by omega] at hq
      cases hq
      exact ⟨hAr, by cases at2 <;> exact hNm⟩
  have Y2 := (Y.new (tys2 := [(cA, newarray.typeOf at2)]) (c := .inr (newarray.typeOf at2, a0)) (cA := cA) hK2 (fun ty a q => by cases q; exact ⟨tys.length, by simp⟩) (show H1[H.size]? = some (vp_cell cA (trA (adr base x) a0)) by rw [ha]; exact e1) z1 o1).budget (cells2 := cells + 1 + kc) (slots2 := slots + N + ks) (by omega) (by omega)
  have hk := k p l e R s m args below meth c Z D base x E H1 locs (cells + 1) (slots + N) _ _ lsA F Y2 L
  have ea : adr base x (h.2 + 4) = H.size := by rw [adr_ge (by omega), Y.2.2.2.1]; omega
  rw [List.map_cons, show trV (adr base x) (.ref (h.2 + 4)) = .ref H.size by rw [← ea]; rfl] at hk
  exact hk
theorem T_anewarray {idx N : Nat} {n : Int32} (hf : decode M.2.1 pc = .ok (.anewarray idx, 3)) (hcl : Cond.classLink M.1.cls idx RX2 ∈ lw_g) (hn : ¬ n < 0) (hN : n.toNatClampNeg = N) (hbytes : N * 4 ≤ 536870912) (hp : pc + 3 = pc2) (k : T M d kc ks pc2 ls (.ref (h.2 + 4) :: st) (hnew h (.inr (.object RX2, N, .inr (.inr (.inr (.inr (fun _ => none))))))) Q) : T M d (kc + 1) (ks + N) pc ls (.int n :: st) h Q := by
  subst hp
  intro p l e R s m args below meth c Z D base x E H locs cells slots ca tys lsA F Y L
  obtain ⟨hx, hb, hml, hown, hts, hbs, hR, hXt, hnm, hret⟩ := id F
  subst hN
  have hb1 := Y.2.2.2.2.2.2.1
  have hb2 := Y.2.2.2.2.2.2.2
  refine W.anew hx hb hown (hts _ hcl) (va_AO.use hXt.2.2.2.2.2.1) rfl hf rfl hn hbytes (by omega) (by omega) fun cA kA comp f1 f2 f3 f4 => ?_
  generalize hH1 : H.push ({ cls := cA, slots := Array.replicate n.toNatClampNeg .null, vm := .none } : Cell) = H1
  have z1 : H1.size = H.size + 1 := by rw [← hH1, Array.size_push]
  have e1 : H1[H.size]? = some (arrV cA n.toNatClampNeg (fun _ => .null)) := by rw [← hH1, Array.getElem?_push_size, ← arrV_new]
  have o1 : ∀ q : Nat, q < H.size → H1[q]? = H[q]? := fun q hq => by rw [← hH1, Array.getElem?_push, if_neg (Nat.ne_of_lt hq)]
  have hAr : ArrOfT s cA (.object RX2) := fun N z => ⟨(fun k h => by cases h), kA, f2, comp, f3⟩
  have hK2 : va_K D vwCl (tys ++ [(cA, .object RX2)]) s := by
    refine ⟨Y.1.1, fun j q hq => ?_⟩
    by_cases hl : j < tys.length
    · rw [List.getElem?_append_left hl] at hq
      exact Y.1.2 j q hq
    · rw [List.getElem?_append_right (by omega)] at hq
      have hz : j - tys.length < 1 := (List.getElem?_eq_some_iff.mp hq).1
      rw [show j - tys.length = 0 by omega] at hq
      cases hq
      exact ⟨hAr, kA, comp, f2, f3, f4, f1⟩
  have Y2 := (Y.new (tys2 := [(cA, .object RX2)]) (c := .inr (.object RX2, n.toNatClampNeg, .inr (.inr (.inr (.inr (fun _ => none)))))) (cA := cA) hK2 (fun ty a q => by cases q; exact ⟨tys.length, by simp⟩) (show H1[H.size]? = some (vp_cell cA _) from e1) z1 o1).budget (cells2 := cells + 1 + kc) (slots2 := slots + n.toNatClampNeg + ks) (by omega) (by omega)
  have hk := k p l e R s m args below meth c Z D base x E H1 locs (cells + 1) (slots + n.toNatClampNeg) _ _ lsA F Y2 L
  have ea : adr base x (h.2 + 4) = H.size := by rw [adr_ge (by omega), Y.2.2.2.1]; omega
  rw [List.map_cons, show trV (adr base x) (.ref (h.2 + 4)) = .ref H.size by rw [← ea]; rfl] at hk
  exact hk
end TStores
