theorem objI_in : Cond.instanceMethod Lib.objectInit ∈ lw_g := gd 19 (by decide +kernel) (by decide +kernel)
theorem objC_in : Cond.code Lib.objectInit ⟨#[0xb1]⟩ 1 none ∈ lw_g := gd 20 (by decide +kernel) (by decide +kernel)
section TCalls
variable {M : MI} {d kc ks pc pc2 : Nat} {ls : List (Nat × Value)} {st : List Value} {h : SH} {Q : Option Value → SH → Prop}
theorem trV_catsum (a : Nat → Nat) (st : List Value) : ((st.map (trV a)).map fun v => v.category).sum = (st.map fun v => v.category).sum := by
  rw [List.map_map]
  congr 1
  apply List.map_congr_left
  intro v _
  exact trV_cat a v
/-- arraycopy over two int arrays -/
theorem T_arraycopy {idx i0 i1 n0 n1 : Nat} {f g : Nat → Int32} {sp dp n : Int32} (hf : decode M.2.1 pc = .ok (.invokestatic idx, 3)) (hlk : Cond.methodLink M.1.cls idx arraycopyName ∈ lw_g) (hnat : Cond.native arraycopyName ∈ lw_g) (hstat : Cond.static arraycopyName ∈ lw_g) (hini : Cond.initialized "java/lang/System" ∈ lw_g)
    (ho0 : har h i0 .int (n0, .inl f)) (ho1 : har h i1 .int (n1, .inl g)) (h1 : ¬ sp < 0) (h2 : ¬ dp < 0) (h3 : ¬ n < 0) (h4 : sp.toNatClampNeg + n.toNatClampNeg ≤ n0) (h5 : dp.toNatClampNeg + n.toNatClampNeg ≤ n1) (hst : (st.map fun v => v.category).sum ≤ 8) (hp : pc + 3 = pc2)
    (k : T M d kc ks pc2 ls st (hset h i1 (.inr (.int, n1, .inl (va_cpy f g sp.toNatClampNeg dp.toNatClampNeg n.toNatClampNeg)))) Q) : T M d kc ks pc ls (.int n :: .int dp :: .ref i1 :: .int sp :: .ref i0 :: st) h Q := by
  subst hp
  intro p l e R s m args below meth c Z D base x E H locs cells slots ca tys lsA F Y L
  obtain ⟨hx, hb, hml, hown, hts, hbs, hR, hXt, hnm, hret⟩ := id F
  have nn : ∀ z : Int32, ¬ z < 0 → z.toInt = (z.toNatClampNeg : Int) := by
    intro z hz
    have hz0 : (0 : Int) ≤ z.toInt := by
      have := Int32.not_lt.mp hz
      simpa using Int32.le_iff_toInt_le.mp this
    show z.toInt = ((z.toInt.toNat : Nat) : Int)
    omega
  obtain ⟨t0, ht0⟩ := Y.2.2.2.2.1 (i0 - 4) (by have := ho0.1; have := ho0.2.1; omega) _ _ (by rw [show i0 - 4 + 4 = i0 by have := ho0.1; omega]; exact ho0.2.2)
  obtain ⟨t1, ht1⟩ := Y.2.2.2.2.1 (i1 - 4) (by have := ho1.1; have := ho1.2.1; omega) _ _ (by rw [show i1 - 4 + 4 = i1 by have := ho1.1; omega]; exact ho1.2.2)
  have hc0 : H[adr base x i0]? = some (arrV (ca (i0 - 4)) n0 (fun q => .int (f q))) := Y.2.1 _ _ (wd_at (base := base) (x := x) (ca := ca) ho0.1 ho0.2.1 ho0.2.2)
  have hc1 : H[adr base x i1]? = some (arrV (ca (i1 - 4)) n1 (fun q => .int (g q))) := Y.2.1 _ _ (wd_at (base := base) (x := x) (ca := ca) ho1.1 ho1.2.1 ho1.2.2)
  obtain ⟨-, k0, hk0, cm0, hkk0⟩ := (Y.1.2 t0 _ ht0).1 n0 (fun j => .int (f j))
  obtain ⟨-, k1, hk1, cm1, hkk1⟩ := (Y.1.2 t1 _ ht1).1 n1 (fun j => .int (g j))
  intro T hT X
  obtain ⟨vm', X', step⟩ := X.arraycopy hx hown (hts _ hlk) (hts _ hnat) (hts _ hstat) (hts _ hini) (src := adr base x i0) (dst := adr base x i1) (srcPos := sp) (destPos := dp) (n := n) (by rw [hT]; exact hc0) (by rw [hT]; exact hc1)
    (fun _ h => by cases h) (fun _ h => by cases h) (fun h => by cases h) (fun h => by cases h) hk0 hk1 hkk0 hkk1 (by show ((refKind FieldType.int != refKind FieldType.int) || (!refKind FieldType.int && FieldType.int != FieldType.int)) = false; decide) h1 h2 h3
    (by rw [nn sp h1, nn n h3, arrV_size]; omega)
    (by rw [nn dp h2, nn n h3, arrV_size]; omega)
    (fun vm₁ _ i hi => by
      have e : (arrV (ca (i0 - 4)) n0 (fun q => .int (f q))).slots.getD (sp.toNatClampNeg + i) .null = .int (f (sp.toNatClampNeg + i)) := by
        rw [Array.getD_eq_getD_getElem?, arrV_read _ _ (by omega)]
        rfl
      refine ⟨?_, ?_⟩
      · rw [e]
        rfl
      · rw [e]
        exact trivial)
    (g := F0 m pc lsA ((.int n :: .int dp :: .ref i1 :: .int sp :: .ref i0 :: st).map (trV (adr base x)))) rfl (by rw [hml]; exact L.1) (rest := st.map (trV (adr base x))) rfl (by rw [hb]; exact hf) (by omega) (by
      show 2 * 0 + ((st.map (trV (adr base x))).map fun v => v.category).sum + (nativeFrameWords "java/lang/System" "arraycopy" 5 + 11) ≤ R.locals
      rw [trV_catsum, show nativeFrameWords "java/lang/System" "arraycopy" 5 = 7 by decide]
      omega)
  have e1 : copied (arrV (ca (i0 - 4)) n0 (fun q => .int (f q))) (arrV (ca (i1 - 4)) n1 (fun q => .int (g q))) sp dp n = arrV (ca (i1 - 4)) n1 (fun q => .int (va_cpy f g sp.toNatClampNeg dp.toNatClampNeg n.toNatClampNeg q)) := va_copied (fun z => .int z) _ _ f g h4
  rw [e1] at X' step
  have hl : adr base x i1 < H.size := (Array.getElem?_eq_some_iff.mp hc1).1
  generalize hcl : arrV (ca (i1 - 4)) n1 (fun q => .int (va_cpy f g sp.toNatClampNeg dp.toNatClampNeg n.toNatClampNeg q)) = cl at X' step
  have hheap : ((T.setVm vm').setCell (adr base x i1) cl).heap = H.setIfInBounds (adr base x i1) cl := by rw [← hT]; rfl
  have oq : ∀ q : Nat, q ≠ adr base x i1 → (H.setIfInBounds (adr base x i1) cl)[q]? = H[q]? := fun q hq => by simp [Array.getElem?_setIfInBounds, Ne.symm hq]
  have Y2 := Y.set (j := 0) (H1 := H.setIfInBounds (adr base x i1) cl) (c := .inr (.int, n1, .inl (va_cpy f g sp.toNatClampNeg dp.toNatClampNeg n.toNatClampNeg))) ho1.1 ho1.2.1 (fun ty a q => by cases q; exact ⟨_, ho1.2.2⟩) (show (H.setIfInBounds (adr base x i1) cl)[adr base x i1]? = some (arrV (ca (i1 - 4)) n1 (fun q => .int (va_cpy f g sp.toNatClampNeg dp.toNatClampNeg n.toNatClampNeg q))) by rw [hcl]; simp [Array.getElem?_setIfInBounds, hl]) (by simp) oq
  have Y3 : Dy R s D base x E (H.setIfInBounds (adr base x i1) cl) (locs ++ ((arrV (ca (i0 - 4)) n0 (fun q => .int (f q))).stretch sp.toNatClampNeg n.toNatClampNeg).zipIdx.map fun q => ⟨adr base x i1, dp.toNatClampNeg + q.2⟩) (cells + kc) (slots + ks) ca tys (hset h i1 (.inr (.int, n1, .inl (va_cpy f g sp.toNatClampNeg dp.toNatClampNeg n.toNatClampNeg)))) :=
    ⟨Y2.1, Y2.2.1, ⟨Y2.2.2.1.1, Y2.2.2.1.2.1, fun q hq => by
      rcases List.mem_append.mp hq with h | h
      · exact Y.2.2.1.2.2 q h
      · obtain ⟨z, -, hz⟩ := List.mem_map.mp h
        rw [← hz]
        show base ≤ adr base x i1
        rw [adr_ge ho1.1]
        omega⟩, Y2.2.2.2⟩
  obtain ⟨t, a1, b1⟩ := k p l e R s m args below meth c Z D base x E _ _ cells slots ca tys lsA F Y3 L _ hheap X'
  exact ⟨t, step t a1, b1⟩
theorem T_gets {idx i : Nat} {C n : String} (hf : decode M.2.1 pc = .ok (.getstatic idx, 3)) (hi : (i = 1 ∧ C = RX7 ∧ n = "KIND_ABOVE") ∨ (i = 2 ∧ C = RX1 ∧ n = "SIZE_BODIES") ∨ (i = 3 ∧ C = RX1 ∧ n = "MARK_BODIES")) (hlk : Cond.fieldLink M.1.cls idx C n "[I" ∈ lw_g) (hp : pc + 3 = pc2) (k : T M d kc ks pc2 ls (.ref i :: st) h Q) : T M d kc ks pc ls st h Q := by
  subst hp
  intro p l e R s m args below meth c Z D base x E H locs cells slots ca tys lsA F Y L
  obtain ⟨hx, hb, hml, hown, hts, hbs, hR, hXt, hnm, hret⟩ := id F
  have hZ : va_Z C n "[I" (.ref (x i)) (fun q => base ≤ q) s s.heap := by
    rcases hi with ⟨rfl, rfl, rfl⟩ | ⟨rfl, rfl, rfl⟩ | ⟨rfl, rfl, rfl⟩
    · exact hXt.2.1
    · exact hXt.2.2.1
    · exact hXt.2.2.2.1
  have hk := (k p l e R s m args below meth c Z D base x E H locs cells slots ca tys lsA F Y L)
  rw [List.map_cons, show trV (adr base x) (.ref i) = .ref (x i) by show Value.ref (adr base x i) = _; rw [adr_lt (by omega)]] at hk
  exact va_gets hx hb hZ Y.2.2.1 hown (hts _ hlk) (fun _ h9 => h9) hf hk
theorem T_getsN {idx i : Nat} {C n host : String} (hf : decode M.2.1 pc = .ok (.getstatic idx, 3)) (hi : (i = 1 ∧ C = RX7 ∧ n = "KIND_ABOVE") ∨ (i = 2 ∧ C = RX1 ∧ n = "SIZE_BODIES") ∨ (i = 3 ∧ C = RX1 ∧ n = "MARK_BODIES")) (hlk : Cond.fieldLinkNest M.1.cls idx C n "[I" host ∈ nestW) (hp : pc + 3 = pc2) (k : T M d kc ks pc2 ls (.ref i :: st) h Q) : T M d kc ks pc ls st h Q := by
  subst hp
  intro p l e R s m args below meth c Z D base x E H locs cells slots ca tys lsA F Y L
  obtain ⟨hx, hb, hml, hown, hts, hbs, hR, hXt, hnm, hret⟩ := id F
  have hZ : va_Z C n "[I" (.ref (x i)) (fun q => base ≤ q) s s.heap := by
    rcases hi with ⟨rfl, rfl, rfl⟩ | ⟨rfl, rfl, rfl⟩ | ⟨rfl, rfl, rfl⟩
    · exact hXt.2.1
    · exact hXt.2.2.1
    · exact hXt.2.2.2.1
  have hk := (k p l e R s m args below meth c Z D base x E H locs cells slots ca tys lsA F Y L)
  rw [List.map_cons, show trV (adr base x) (.ref i) = .ref (x i) by show Value.ref (adr base x i) = _; rw [adr_lt (by omega)]] at hk
  exact va_getsN hx hb hZ Y.2.2.1 hown (va_Nw.use rfl (hXt.2.2.2.2.1 _ hlk)) (fun _ h9 => h9) hf hk
theorem T_objinit {idx i : Nat} (hf : decode M.2.1 pc = .ok (.invokespecial idx, 3)) (hlk : Cond.methodLink M.1.cls idx Lib.objectInit ∈ lw_g) (hst : (st.map fun v => v.category).sum ≤ 8) (hp : pc + 3 = pc2) (k : T M d kc ks pc2 ls st h Q) : T M d kc ks pc ls (.ref i :: st) h Q := by
  subst hp
  intro p l e R s m args below meth c Z D base x E H locs cells slots ca tys lsA F Y L
  obtain ⟨hx, hb, hml, hown, hts, hbs, hR, hXt, hnm, hret⟩ := id F
  exact W.objInit hx hb hown (hts _ hlk) (hts _ objI_in) (hts _ objC_in) rfl (by rw [hml]; exact L.1) rfl hf (by omega) (by
      show 2 * 0 + ((st.map (trV (adr base x))).map fun v => v.category).sum + 12 ≤ R.locals
      rw [trV_catsum]
      omega) (k p l e R s m args below meth c Z D base x E H locs cells slots ca tys lsA F Y L)
theorem T_ret (hf : decode M.2.1 pc = .ok (.return_, 1)) (hr : M.2.2.2 = none) (k : Q none h) : T M d kc ks pc ls [] h Q := by
  intro p l e R s m args below meth c Z D base x E H locs cells slots ca tys lsA F Y L
  obtain ⟨hx, hb, hml, hown, hts, hbs, hR, hXt, hnm, hret⟩ := id F
  exact hret pc none h H locs cells slots ca tys lsA (Or.inl ⟨rfl, hr, hf⟩) (Y.budget (by omega) (by omega)) k
theorem T_iret {v : Int32} {ty : FieldType} (hf : decode M.2.1 pc = .ok (.ireturn, 1)) (hr : M.2.2.2 = some ty) (hn : narrow ty (.int v) = .int v) (k : Q (some (.int v)) h) : T M d kc ks pc ls [.int v] h Q := by
  intro p l e R s m args below meth c Z D base x E H locs cells slots ca tys lsA F Y L
  obtain ⟨hx, hb, hml, hown, hts, hbs, hR, hXt, hnm, hret⟩ := id F
  exact hret pc (some (.int v)) h H locs cells slots ca tys lsA (Or.inr (Or.inl ⟨v, ty, rfl, hr, hn, hf⟩)) (Y.budget (by omega) (by omega)) k
theorem T_lret {v : Int64} (hf : decode M.2.1 pc = .ok (.lreturn, 1)) (hr : M.2.2.2 = some .long) (k : Q (some (.long v)) h) : T M d kc ks pc ls [.long v] h Q := by
  intro p l e R s m args below meth c Z D base x E H locs cells slots ca tys lsA F Y L
  obtain ⟨hx, hb, hml, hown, hts, hbs, hR, hXt, hnm, hret⟩ := id F
  exact hret pc (some (.long v)) h H locs cells slots ca tys lsA (Or.inr (Or.inr ⟨v, rfl, hr, hf⟩)) (Y.budget (by omega) (by omega)) k
/-! calls -/
def wsm (M : MI) : List Cond := .code M.1 M.2.1 M.2.2.1 M.2.2.2 :: lw_g
def PcB (D : va_G) (base : Nat) (x : Nat → Nat) (ca : Nat → ClassId) (tys : List (ClassId × FieldType)) (E : Nat → SC) (h : SH) (U : State) : Prop :=
  va_K D vwCl tys U ∧ va_P D vwCl (wd base x ca h) U.heap ∧ U.heap.size = base + h.2 ∧ Tys tys ca h ∧ (∀ i, i < 4 → h.1 i = E i) ∧ Xt x base E U
def QcB (D : va_G) (base : Nat) (x : Nat → Nat) (E : Nat → SC) (Q : Option Value → SH → Prop) : Array Value → State → Outcome → State → Prop := fun _ st o t =>
  (∃ (r : Option Value) (h' : SH) (ca' : Nat → ClassId) (tys' : List (ClassId × FieldType)), o = .returned (r.map (trV (adr base x))) ∧ Q r h' ∧ va_K D vwCl tys' t ∧ va_P D vwCl (wd base x ca' h') t.heap ∧ t.heap.size = base + h'.2 ∧ Tys tys' ca' h' ∧ ∀ i, i < 4 → h'.1 i = E i) ∧ va_F (fun q => base ≤ q) st t
def Calls (M : MI) (d mc ms : Nat) (av : List Value) (h : SH) (Q : Option Value → SH → Prop) : Prop :=
  ∀ (l : Launch) (D : va_G) (base : Nat) (x : Nat → Nat) (ca : Nat → ClassId) (tys : List (ClassId × FieldType)) (E : Nat → SC),
    Met l M.1 (wsm M) { frames := d + 1, cells := mc, slots := ms, locals := 64 * (d + 1) } (va_Pc (av.map (trV (adr base x))) (PcB D base x ca tys E h)) (QcB D base x E Q) mc ms (fun q => base ≤ q)
theorem lv_args_tr (a : Nat → Nat) : ∀ (av : List Value) (i : Nat), lv_args i (av.map (trV a)) = (lv_args i av).map (trL a)
  | [], _ => rfl
  | v :: vs, i => by
    show (i, trV a v) :: lv_args (if (trV a v).category = 2 then i + 2 else i + 1) (vs.map (trV a)) = _
    rw [lv_args_tr a vs, trV_cat]
    rfl
theorem lg_sl_tr (a : Nat → Nat) (av : List Value) : (lg_sl (av.map (trV a))).length = (lg_sl av).length := by
  induction av with
  | nil => rfl
  | cons v vs ih =>
    unfold lg_sl at ih ⊢
    simp only [List.map_cons, List.flatMap_cons, List.length_append, trV_cat]
    rw [ih]
    split <;> rfl
theorem Calls.of {mc ms : Nat} {av : List Value} (hpl : plainName M.1.cls = true) (hlen : (lg_sl av).length ≤ M.2.2.1) (k : T M d mc ms 0 (lv_args 0 av) [] h Q) : Calls M d mc ms av h Q := by
  intro l D base x ca tys E
  refine Met.ofW (cc := M.2.1) (maxL := M.2.2.1) (ret := M.2.2.2) hpl rfl ?_
  intro p e s m args below meth c s₁ B hml hv
  obtain ⟨rfl, hK, hP, hz, hT, hE, hX⟩ := hv
  have hts := atoms_spec (ws := wsm M) B.pre
  have hown : s.vm.findClass M.1.cls = some m.cls := findClass_of_methodNamed B.named
  have hlocks := B.notSynchronized
  rw [lg_entry_eq]
  have L := lv_entry (av.map (trV (adr base x))) (n := M.2.2.1) (by rw [lg_sl_tr]; exact hlen)
  rw [lv_args_tr] at L
  refine k p l e _ s m _ below meth c _ D base x E s.heap [] 0 0 ca tys _ ⟨B.exec, B.bytes, hml, hown, fun w hw => hts w (List.mem_cons_of_mem _ hw), by rw [hz]; omega, ⟨Nat.le_refl _, Nat.le_refl _⟩, hX, (name_of_methodNamed B.named B.method).1, ?_⟩ ⟨hK, hP, va_S.rf, hz, hT, hE, by simp [headSpec], by simp [headSpec]⟩ L
  intro pc r h' H' locs' cells' slots' ca' tys' lsA' hra Y hQ
  have hb1 : cells' ≤ mc := Y.2.2.2.2.2.2.1
  have hb2 : slots' ≤ ms := Y.2.2.2.2.2.2.2
  have hend : ∀ t : State, t.heap = H' → s.WarmedH t.vm → QcB D base x E Q (av.map (trV (adr base x))).toArray s (.returned (r.map (trV (adr base x)))) t := fun t ht hW =>
    ⟨⟨r, h', ca', tys', rfl, hQ, va_K.moved hW.alike Y.1, by rw [ht]; exact Y.2.1, by rw [ht]; exact Y.2.2.2.1, Y.2.2.2.2.1, Y.2.2.2.2.2.1⟩, Y.2.2.1.F ht⟩
  refine W.widen (k := mc) (n := ms) hb1 hb2 ?_
  rcases hra with ⟨rfl, hr, hd⟩ | ⟨v, ty, rfl, hr, hn, hd⟩ | ⟨v, rfl, hr, hd⟩
  · exact W.vret B.exec B.bytes (B.returns.trans hr) hend Y.2.2.1.2.2 hd
  · exact W.zret B.exec B.bytes (B.returns.trans hr) hn hend Y.2.2.1.2.2 hd
  · exact W.lret B.exec B.bytes (B.returns.trans hr) hend Y.2.2.1.2.2 hd
theorem Xt.same {x : Nat → Nat} {base : Nat} {E : Nat → SC} {u U : State} (hX : Xt x base E u) (hv : u.vm.Alike U.vm) (hN : Nws U) (hh : ∀ a : Nat, a < u.heap.size → ¬ base ≤ a → U.heap[a]? = u.heap[a]?) : Xt x base E U := by
  refine ⟨fun i hi => ?_, (hX.2.1.kept hh).moved hv, (hX.2.2.1.kept hh).moved hv, (hX.2.2.2.1.kept hh).moved hv, hN⟩
  obtain ⟨n, f, e1, h1⟩ := hX.1 i hi
  exact ⟨n, f, e1, (h1.kept hh).moved hv⟩
theorem Nws.same {u U : State} (h : Nws u) (e : u.vm = U.vm) : Nws U := by
  have ha : u.vm.Alike U.vm := by rw [e]; exact Vm.Alike.refl _
  refine ⟨fun w hw => ?_, h.2.1.moved ha, h.2.2.moved ha⟩
  have h1 := h.1 w hw
  have h2 := (List.mem_filter.mp hw).2
  cases w <;> first | (exact va_Nw.same rfl e h1) | (cases h2)
theorem PcB.blind {D : va_G} {base : Nat} {x : Nat → Nat} {ca : Nat → ClassId} {tys : List (ClassId × FieldType)} {E : Nat → SC} {av : List Value} : FrameBlind (va_Pc av (PcB D base x ca tys E h)) := by
  intro a U g mk q
  obtain ⟨q0, hK, hP, hz, hT, hE, hX⟩ := q
  exact ⟨q0, va_K.moved (u := U) (U := U.calling g mk a) (Vm.Alike.refl U.vm) hK, hP, hz, hT, hE, hX.same (U := U.calling g mk a) (Vm.Alike.refl U.vm) (hX.2.2.2.2.same (U := U.calling g mk a) rfl) (fun _ _ _ => rfl)⟩
theorem PcB.pre {R : Room} {s : State} {D : va_G} {base : Nat} {x : Nat → Nat} {E : Nat → SC} {H : Heap} {locs : List Loc} {cells slots : Nat} {ca : Nat → ClassId} {tys : List (ClassId × FieldType)} (Y : Dy R s D base x E H locs cells slots ca tys h) (hX : Xt x base E s) (av : List Value) : ∀ U : State, U.heap = H → s.WarmedH U.vm → va_Pc (av.map (trV (adr base x))) (PcB D base x ca tys E h) (av.map (trV (adr base x))).toArray U := by
  intro U hU hW
  refine ⟨rfl, va_K.moved hW.alike Y.1, by rw [hU]; exact Y.2.1, by rw [hU]; exact Y.2.2.2.1, Y.2.2.2.2.1, Y.2.2.2.2.2.1, hX.same hW.alike (hX.2.2.2.2.warm hW) (fun a h1 h2 => ?_)⟩
  rw [hU]
  exact Y.2.2.1.2.1 a h1 h2
theorem run_W {p : Program} {l : Launch} {e : Env} {R : Room} {s : State} {m : MethodId} {args : Array Value} {below : List Frame} {meth : Method} {c : Code} {Z : State → Prop} {D : va_G} {base : Nat} {x : Nat → Nat} {E : Nat → SC} {H : Heap} {locs : List Loc} {cells slots mc ms : Nat} {ca : Nat → ClassId} {tys : List (ClassId × FieldType)} {lsA : Array Slot} {st0 rest : List Value} {a : Array Value} {Q1 : Option Value → SH → Prop}
    (hrun : va_Run p l e R s m args below meth c H locs cells slots mc ms (F0 m pc lsA st0) rest (QcB D base x E Q1 a) (fun q => base ≤ q)) (Y : Dy R s D base x E H locs (cells + (kc + mc)) (slots + (ks + ms)) ca tys h)
    (kk : ∀ (r : Option Value) (h' : SH) (H1 : Heap) (locs1 : List Loc) (ca' : Nat → ClassId) (tys' : List (ClassId × FieldType)), Q1 r h' → Dy R s D base x E H1 locs1 (cells + mc + kc) (slots + ms + ks) ca' tys' h' → W p l e R s m args below meth c H1 locs1 (cells + mc) (slots + ms) Z (F0 m (pc + 3) lsA ((r.map (trV (adr base x))).toList ++ rest))) :
    W p l e R s m args below meth c H locs cells slots Z (F0 m pc lsA st0) := by
  intro T hT X
  obtain ⟨v, st₀, t, T', L, h0, X', hL, e1, e2, ⟨⟨r, h', ca', tys', hv, hq, hK, hP, hz, hTy, hE⟩, hz2, hk⟩, st⟩ := hrun T hT X
  cases hv
  rw [h0] at hz2 hk
  have hal : t.vm.Alike s.vm := by rw [← e2]; exact X'.warmed.alike.symm
  have hS := Y.2.2.1
  obtain ⟨t2, a1, b1⟩ := kk r h' T'.heap (locs ++ L) ca' tys' hq ⟨va_K.moved hal hK, by rw [e1]; exact hP, ⟨Nat.le_trans hS.1 (by rw [e1]; exact hz2), fun q h1 h2 => by rw [e1, hk q (Nat.lt_of_lt_of_le h1 hS.1) h2]; exact hS.2.1 q h1 h2, fun q hq => by
      rcases List.mem_append.mp hq with h | h
      · exact hS.2.2 q h
      · exact hL q h⟩, by rw [e1]; exact hz, hTy, hE, by have := Y.2.2.2.2.2.2.1; omega, by have := Y.2.2.2.2.2.2.2; omega⟩ T' rfl X'
  exact ⟨t2, st t2 a1, b1⟩
/-- what is known of a method that is called: n parameters -/
def CM (M : MI) (n : Nat) : Prop := Cond.code M.1 M.2.1 M.2.2.1 M.2.2.2 ∈ lw_g ∧ M.2.2.1 ≤ 40 ∧ Cond.initialized M.1.cls ∈ lw_g ∧ (M.1.cls ≠ "java/lang/invoke/MethodHandle" ∧ M.1.cls ≠ "java/lang/invoke/VarHandle" ∧ (parseMethodDescriptor M.1.desc).map (fun d => d.parameters.length) = some n)
theorem gi {M : MI} {n : Nat} (h : CM M n) : GoodIn lw_g (wsm M) := by
  intro w hw
  rcases List.mem_cons.mp hw with rfl | hw
  · exact ⟨h.1, good_of_word (lw_g_good _ h.1)⟩
  · exact ⟨hw, good_of_word (lw_g_good _ hw)⟩
theorem gi_app {ws : List Cond} {M : MI} {n : Nat} (h : CM M n) (hw : ∀ w ∈ ws, w ∈ lw_g) : GoodIn lw_g (ws ++ wsm M) := by
  intro w hq
  rcases List.mem_append.mp hq with hq | hq
  · exact ⟨hw _ hq, good_of_word (lw_g_good _ (hw _ hq))⟩
  · exact gi h w hq
def CV (M : MI) (ci n : Nat) : Prop := CM M n ∧ ci < 9 ∧ M.1.cls = RR ci ∧ Cond.instanceMethod M.1 ∈ lw_g ∧ Cond.selects (RR ci) M.1 M.1 ∈ lw_g
def CSt (M : MI) (n : Nat) : Prop := CM M n ∧ Cond.static M.1 ∈ lw_g
def CI (M : MI) (n : Nat) : Prop := CM M n ∧ M.1.name = "<init>" ∧ M.2.2.2 = none ∧ Cond.instanceMethod M.1 ∈ lw_g
theorem T_callV {M2 : MI} {idx i ci n mc ms : Nat} {fs As : List Value} (hf : decode M.2.1 pc = .ok (.invokevirtual idx, 3)) (hc : CV M2 ci n) (hlk : Cond.methodLink M.1.cls idx M2.1 ∈ lw_g) (ho : hob h i ci fs) (hn : As.length = n) (hst : (st.map fun v => v.category).sum ≤ 8) (hp : pc + 3 = pc2)
    (k : Calls M2 d mc ms (.ref i :: As) h (fun r h' => T M (d + 1) kc ks pc2 ls (r.toList ++ st) h' Q)) : T M (d + 1) (kc + mc) (ks + ms) pc ls (As.reverse ++ .ref i :: st) h Q := by
  subst hp
  intro p l e R s m args below meth c Z D base x E H locs cells slots ca tys lsA F Y L
  obtain ⟨hx, hb, hml, hown, hts, hbs, hR, hXt, hnm, hret⟩ := id F
  have hrun := va_runV (l := l) (p := p) (e := e) (below := below) (meth := meth) (locs := locs) (cells := cells) (slots := slots) (nL := M.2.2.1) (own := M.1.cls) (C := RR ci) (index := idx) (bytes := M2.2.1) (maxL := M2.2.2.1) (ret := M2.2.2.2) (n := n) (b := adr base x i) (As := As.map (trV (adr base x))) (rest := st.map (trV (adr base x))) (g := F0 m pc lsA ((As.reverse ++ .ref i :: st).map (trV (adr base x)))) (Ts := lw_g) ⟨hx, hb, hml, hown, hts⟩ (k l D base x ca tys E)
    (cwV n hts (gi_app hc.1 (fun w hw => by
      simp only [List.mem_cons, List.not_mem_nil, or_false] at hw
      rcases hw with rfl | rfl | rfl | rfl
      · exact hlk
      · exact hc.2.2.2.1
      · exact hc.2.2.2.2
      · exact hc.2.2.1 ▸ hc.1.2.2.1)) rfl rfl rfl ⟨hc.2.2.1, hc.1.2.2.2⟩ ⟨by show d + 1 + 1 ≤ R.frames; omega, by show 8 + (M2.2.2.1 + 11) + 64 * (d + 1) ≤ R.locals; have := hc.1.2.1; omega⟩)
    ⟨PcB.blind, va_recv Y.1 Y.2.1 (vwCl_get ci hc.2.1) (wd_at ho.1 ho.2.1 ho.2.2), PcB.pre Y hXt (.ref i :: As)⟩ rfl (by rw [List.length_map]; exact hn) L.1 (by simp [trV]) (by show 2 * 0 + _ ≤ 8; rw [trV_catsum]; omega) hf ⟨by have := Y.2.2.2.2.2.2.1; omega, by have := Y.2.2.2.2.2.2.2; omega⟩
  refine run_W hrun Y ?_
  intro r h' H1 locs1 ca' tys' hq Y2
  have hk := hq p l e R s m args below meth c Z D base x E H1 locs1 (cells + mc) (slots + ms) ca' tys' lsA (by exact F) Y2 L
  rw [List.map_append] at hk
  have er : (r.map (trV (adr base x))).toList = r.toList.map (trV (adr base x)) := by cases r <;> rfl
  rw [er]
  exact hk
theorem T_callS {M2 : MI} {idx n mc ms : Nat} {As : List Value} (hf : decode M.2.1 pc = .ok (.invokestatic idx, 3)) (hc : CSt M2 n) (hlk : Cond.methodLink M.1.cls idx M2.1 ∈ lw_g) (hn : As.length = n) (hst : (st.map fun v => v.category).sum ≤ 8) (hp : pc + 3 = pc2)
    (k : Calls M2 d mc ms As h (fun r h' => T M (d + 1) kc ks pc2 ls (r.toList ++ st) h' Q)) : T M (d + 1) (kc + mc) (ks + ms) pc ls (As.reverse ++ st) h Q := by
  subst hp
  intro p l e R s m args below meth c Z D base x E H locs cells slots ca tys lsA F Y L
  obtain ⟨hx, hb, hml, hown, hts, hbs, hR, hXt, hnm, hret⟩ := id F
  have hrun := va_runS (l := l) (p := p) (e := e) (below := below) (meth := meth) (locs := locs) (cells := cells) (slots := slots) (nL := M.2.2.1) (own := M.1.cls) (index := idx) (bytes := M2.2.1) (maxL := M2.2.2.1) (ret := M2.2.2.2) (n := n) (As := As.map (trV (adr base x))) (rest := st.map (trV (adr base x))) (g := F0 m pc lsA ((As.reverse ++ st).map (trV (adr base x)))) (Ts := lw_g) ⟨hx, hb, hml, hown, hts⟩ (k l D base x ca tys E)
    (va_cwS n hts (gi_app hc.1 (fun w hw => by
      simp only [List.mem_cons, List.not_mem_nil, or_false] at hw
      rcases hw with rfl | rfl | rfl
      · exact hlk
      · exact hc.2
      · exact hc.1.2.2.1)) rfl rfl rfl hc.1.2.2.2 ⟨by show d + 1 + 1 ≤ R.frames; omega, by show 8 + (M2.2.2.1 + 11) + 64 * (d + 1) ≤ R.locals; have := hc.1.2.1; omega⟩)
    ⟨PcB.blind, PcB.pre Y hXt As⟩ rfl (by rw [List.length_map]; exact hn) L.1 (by simp) (by show 2 * 0 + _ ≤ 8; rw [trV_catsum]; omega) hf ⟨by have := Y.2.2.2.2.2.2.1; omega, by have := Y.2.2.2.2.2.2.2; omega⟩
  refine run_W hrun Y ?_
  intro r h' H1 locs1 ca' tys' hq Y2
  have hk := hq p l e R s m args below meth c Z D base x E H1 locs1 (cells + mc) (slots + ms) ca' tys' lsA (by exact F) Y2 L
  rw [List.map_append] at hk
  have er : (r.map (trV (adr base x))).toList = r.toList.map (trV (adr base x)) := by cases r <;> rfl
  rw [er]
  exact hk
theorem T_callSN {M2 : MI} {idx n mc ms : Nat} {host : String} {As : List Value} (hf : decode M.2.1 pc = .ok (.invokestatic idx, 3)) (hc : CSt M2 n) (hlk : Cond.methodLinkNest M.1.cls idx M2.1 host ∈ nestW) (hn : As.length = n) (hst : (st.map fun v => v.category).sum ≤ 8) (hp : pc + 3 = pc2)
    (k : Calls M2 d mc ms As h (fun r h' => T M (d + 1) kc ks pc2 ls (r.toList ++ st) h' Q)) : T M (d + 1) (kc + mc) (ks + ms) pc ls (As.reverse ++ st) h Q := by
  subst hp
  intro p l e R s m args below meth c Z D base x E H locs cells slots ca tys lsA F Y L
  obtain ⟨hx, hb, hml, hown, hts, hbs, hR, hXt, hnm, hret⟩ := id F
  have hrun := va_runSN (l := l) (p := p) (e := e) (below := below) (meth := meth) (locs := locs) (cells := cells) (slots := slots) (nL := M.2.2.1) (own := M.1.cls) (host := host) (index := idx) (bytes := M2.2.1) (maxL := M2.2.2.1) (ret := M2.2.2.2) (n := n) (As := As.map (trV (adr base x))) (rest := st.map (trV (adr base x))) (g := F0 m pc lsA ((As.reverse ++ st).map (trV (adr base x)))) (Ts := lw_g) ⟨hx, hb, hml, hown, hts⟩ (k l D base x ca tys E)
    ⟨va_cnB n hts (gi hc.1) rfl rfl rfl (hXt.2.2.2.2.1 _ hlk) (hts _ hc.1.2.2.1) hc.1.2.2.2 ⟨by show d + 1 + 1 ≤ R.frames; omega, by show 8 + (M2.2.2.1 + 11) + 64 * (d + 1) ≤ R.locals; have := hc.1.2.1; omega⟩, hts _ hc.2, trivial⟩
    ⟨PcB.blind, PcB.pre Y hXt As⟩ rfl (by rw [List.length_map]; exact hn) L.1 (by simp) (by show 2 * 0 + _ ≤ 8; rw [trV_catsum]; omega) hf ⟨by have := Y.2.2.2.2.2.2.1; omega, by have := Y.2.2.2.2.2.2.2; omega⟩
  refine run_W hrun Y ?_
  intro r h' H1 locs1 ca' tys' hq Y2
  have hk := hq p l e R s m args below meth c Z D base x E H1 locs1 (cells + mc) (slots + ms) ca' tys' lsA (by exact F) Y2 L
  rw [List.map_append] at hk
  have er : (r.map (trV (adr base x))).toList = r.toList.map (trV (adr base x)) := by cases r <;> rfl
  rw [er]
  exact hk
theorem T_callI {M2 : MI} {idx i n mc ms : Nat} {As : List Value} (hf : decode M.2.1 pc = .ok (.invokespecial idx, 3)) (hc : CI M2 n) (hlk : Cond.methodLink M.1.cls idx M2.1 ∈ lw_g) (hn : As.length = n) (hst : (st.map fun v => v.category).sum ≤ 8) (hp : pc + 3 = pc2)
    (k : Calls M2 d mc ms (.ref i :: As) h (fun r h' => T M (d + 1) kc ks pc2 ls (r.toList ++ st) h' Q)) : T M (d + 1) (kc + mc) (ks + ms) pc ls (As.reverse ++ .ref i :: st) h Q := by
  subst hp
  intro p l e R s m args below meth c Z D base x E H locs cells slots ca tys lsA F Y L
  obtain ⟨hx, hb, hml, hown, hts, hbs, hR, hXt, hnm, hret⟩ := id F
  have hrun := va_runI (l := l) (p := p) (e := e) (below := below) (meth := meth) (locs := locs) (cells := cells) (slots := slots) (nL := M.2.2.1) (own := M.1.cls) (index := idx) (bytes := M2.2.1) (maxL := M2.2.2.1) (n := n) (b := adr base x i) (As := As.map (trV (adr base x))) (rest := st.map (trV (adr base x))) (g := F0 m pc lsA ((As.reverse ++ .ref i :: st).map (trV (adr base x)))) (Ts := lw_g) ⟨hx, hb, hml, hown, hts⟩ (k l D base x ca tys E)
    (cwI n hts (gi hc.1) (show wsm M2 = Cond.code M2.1 M2.2.1 M2.2.2.1 none :: lw_g by rw [← hc.2.2.1]; rfl) rfl rfl (hts _ hc.1.2.2.1) (hts _ hlk) (hts _ hc.2.2.2) hc.2.1 hc.1.2.2.2 ⟨by show d + 1 + 1 ≤ R.frames; omega, by show 8 + (M2.2.2.1 + 11) + 64 * (d + 1) ≤ R.locals; have := hc.1.2.1; omega⟩)
    ⟨PcB.blind, PcB.pre Y hXt (.ref i :: As)⟩ rfl (by rw [List.length_map]; exact hn) L.1 (by simp [trV]) (by show 2 * 0 + _ ≤ 8; rw [trV_catsum]; omega) hf ⟨by have := Y.2.2.2.2.2.2.1; omega, by have := Y.2.2.2.2.2.2.2; omega⟩
  refine run_W hrun Y ?_
  intro r h' H1 locs1 ca' tys' hq Y2
  have hk := hq p l e R s m args below meth c Z D base x E H1 locs1 (cells + mc) (slots + ms) ca' tys' lsA (by exact F) Y2 L
  rw [List.map_append] at hk
  have er : (r.map (trV (adr base x))).toList = r.toList.map (trV (adr base x)) := by cases r <;> rfl
  rw [er]
  exact hk
theorem T_callIN {M2 : MI} {idx i n mc ms : Nat} {host : String} {As : List Value} (hf : decode M.2.1 pc = .ok (.invokespecial idx, 3)) (hc : CI M2 n) (hlk : Cond.methodLinkNest M.1.cls idx M2.1 host ∈ nestW) (hn : As.length = n) (hst : (st.map fun v => v.category).sum ≤ 8) (hp : pc + 3 = pc2)
    (k : Calls M2 d mc ms (.ref i :: As) h (fun r h' => T M (d + 1) kc ks pc2 ls (r.toList ++ st) h' Q)) : T M (d + 1) (kc + mc) (ks + ms) pc ls (As.reverse ++ .ref i :: st) h Q := by
  subst hp
  intro p l e R s m args below meth c Z D base x E H locs cells slots ca tys lsA F Y L
  obtain ⟨hx, hb, hml, hown, hts, hbs, hR, hXt, hnm, hret⟩ := id F
  have hrun := va_runIN (l := l) (p := p) (e := e) (below := below) (meth := meth) (locs := locs) (cells := cells) (slots := slots) (nL := M.2.2.1) (own := M.1.cls) (host := host) (index := idx) (bytes := M2.2.1) (maxL := M2.2.2.1) (n := n) (b := adr base x i) (As := As.map (trV (adr base x))) (rest := st.map (trV (adr base x))) (g := F0 m pc lsA ((As.reverse ++ .ref i :: st).map (trV (adr base x)))) (Ts := lw_g) ⟨hx, hb, hml, hown, hts⟩ (k l D base x ca tys E)
    ⟨va_cnB n hts (gi hc.1) (show wsm M2 = Cond.code M2.1 M2.2.1 M2.2.2.1 none :: lw_g by rw [← hc.2.2.1]; rfl) rfl rfl (hXt.2.2.2.2.1 _ hlk) (hts _ hc.1.2.2.1) hc.1.2.2.2 ⟨by show d + 1 + 1 ≤ R.frames; omega, by show 8 + (M2.2.2.1 + 11) + 64 * (d + 1) ≤ R.locals; have := hc.1.2.1; omega⟩, hc.2.1, hts _ hc.2.2.2⟩
    ⟨PcB.blind, PcB.pre Y hXt (.ref i :: As)⟩ rfl (by rw [List.length_map]; exact hn) L.1 (by simp [trV]) (by show 2 * 0 + _ ≤ 8; rw [trV_catsum]; omega) hf ⟨by have := Y.2.2.2.2.2.2.1; omega, by have := Y.2.2.2.2.2.2.2; omega⟩
  refine run_W hrun Y ?_
  intro r h' H1 locs1 ca' tys' hq Y2
  have hk := hq p l e R s m args below meth c Z D base x E H1 locs1 (cells + mc) (slots + ms) ca' tys' lsA (by exact F) Y2 L
  rw [List.map_append] at hk
  have er : (r.map (trV (adr base x))).toList = r.toList.map (trV (adr base x)) := by cases r <;> rfl
  rw [er]
  exact hk
end TCalls
