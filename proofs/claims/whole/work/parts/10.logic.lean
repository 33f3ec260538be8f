
/-! THE LOGIC: a small machine over numbered cells, with its rows out of the kit's rows -/
abbrev MI : Type := MethodName × ByteArray × Nat × Option FieldType
abbrev SC : Type := (Nat × List Value) ⊕ (FieldType × vp_A)
abbrev SH : Type := (Nat → SC) × Nat
abbrev vwCl : List vw_C := [(RX0, TX0, 3), (RX1, TX1, 2), (RX2, TX2, 8), (RX3, TX3, 6), (RX4, TX4, 7), (RX5, TX5, 4), (RX6, TX6, 5), (RX7, TX7, 10), (RX8, TX8, 28)]
def TT : Nat → u_T := fun ci => match ci with
  | 0 => TX0 | 1 => TX1 | 2 => TX2 | 3 => TX3 | 4 => TX4 | 5 => TX5 | 6 => TX6 | 7 => TX7 | _ => TX8
def RR : Nat → String := fun ci => match ci with
  | 0 => RX0 | 1 => RX1 | 2 => RX2 | 3 => RX3 | 4 => RX4 | 5 => RX5 | 6 => RX6 | 7 => RX7 | _ => RX8
def NN : Nat → Nat := fun ci => match ci with
  | 0 => 3 | 1 => 2 | 2 => 8 | 3 => 6 | 4 => 7 | 5 => 4 | 6 => 5 | 7 => 10 | _ => 28
def tyT : Nat → Nat → FieldType := fun ci => match ci with
  | 0 => tyX0 | 1 => tyX1 | 2 => tyX2 | 3 => tyX3 | 4 => tyX4 | 5 => tyX5 | 6 => tyX6 | 7 => tyX7 | _ => tyX8
def lw_g : List Cond := lw_tbl.filter goodWord
def isNest : Cond → Bool
  | .methodLinkNest .. => true
  | .fieldLinkNest .. => true
  | _ => false
def nestW : List Cond := lw_tbl.filter isNest
theorem lw_g_good : ∀ w ∈ lw_g, goodWord w = true := fun w h => (List.mem_filter.mp h).2
theorem lw_g_in : ∀ w ∈ lw_g, w ∈ lw_tbl := fun w h => (List.mem_filter.mp h).1
theorem gd {w : Cond} (i : Nat) (h : tables_1[i]? = some w) (hg : goodWord w = true) : w ∈ lw_g := List.mem_filter.mpr ⟨List.mem_append_right _ (List.mem_of_getElem? h), hg⟩
theorem gdp {w : Cond} (i : Nat) (h : (k2_sels lw_privs)[i]? = some w) (hg : goodWord w = true) : w ∈ lw_g := List.mem_filter.mpr ⟨List.mem_append_left _ (List.mem_of_getElem? h), hg⟩
theorem gdn {w : Cond} (i : Nat) (h : tables_1[i]? = some w) (hg : isNest w = true) : w ∈ nestW := List.mem_filter.mpr ⟨List.mem_append_right _ (List.mem_of_getElem? h), hg⟩
def aoA (U : State) : Prop := (Cond.arrayOver (.array .int)).before #[] U = true
def Nws (U : State) : Prop := (∀ w ∈ nestW, va_Nw w U) ∧ va_AO RX2 U ∧ aoA U
theorem aoA.moved {u U : State} (hvm : u.vm.Alike U.vm) (h : aoA u) : aoA U := by
  have hv : ∀ V : State, aoA V ↔ ((V.vm.findClass (FieldType.array .int).toString).bind fun comp => (V.vm.classes.findIdx? fun (x : Class) => match x.kind with | .array component _ => component == comp | _ => false).bind fun c => (V.vm.classes[c]?).map fun (k : Class) => match k.kind with | .array _ ty => decide (ty = FieldType.array .int) && decide (V.vm.findClass ("[" ++ (FieldType.array .int).toString) = some c) | _ => false) = some true := by
    intro V
    unfold aoA Cond.before Cond.holds
    simp only [Cond.value, beq_iff_eq]
    exact Iff.rfl
  rw [hv] at h ⊢
  rw [hvm.findClass]
  cases hc : u.vm.findClass (FieldType.array .int).toString with
  | none => rw [hc] at h; cases h
  | some comp =>
    rw [hc] at h
    simp only [Option.bind_some] at h ⊢
    have hi : (U.vm.classes.findIdx? fun (x : Class) => match x.kind with | .array component _ => component == comp | _ => false) = (u.vm.classes.findIdx? fun (x : Class) => match x.kind with | .array component _ => component == comp | _ => false) := by
      have a1 := va_idx_bare U.vm comp
      have a2 := va_idx_bare u.vm comp
      first | rw [hvm.bare_eq] at a1 | rw [← hvm.bare_eq] at a1
      exact a1.symm.trans a2
    rw [hi]
    cases hx : (u.vm.classes.findIdx? fun (x : Class) => match x.kind with | .array component _ => component == comp | _ => false) with
    | none => rw [hx] at h; cases h
    | some c =>
      rw [hx] at h
      simp only [Option.bind_some] at h ⊢
      cases hk : u.vm.classes[c]? with
      | none => rw [hk] at h; cases h
      | some k =>
        obtain ⟨k', hk', he⟩ := hvm.2.2 _ _ hk
        rw [hk] at h
        rw [hk']
        simp only [Option.map_some] at h ⊢
        have hkk : k'.kind = k.kind := by rw [he]
        rw [hkk, hvm.findClass]
        exact h
theorem Nws.warm {s U : State} (hW : s.WarmedH U.vm) (h : Nws s) : Nws U := by
  refine ⟨fun w hw => ?_, h.2.1.moved hW.alike, h.2.2.moved hW.alike⟩
  have h1 := h.1 w hw
  have h2 := (List.mem_filter.mp hw).2
  cases w <;> first | (exact va_Nw.warmM hW h1) | (exact va_Nw.warmF hW h1) | (cases h2)
theorem nine {P : Nat → Prop} (h0 : P 0) (h1 : P 1) (h2 : P 2) (h3 : P 3) (h4 : P 4) (h5 : P 5) (h6 : P 6) (h7 : P 7) (h8 : P 8) : ∀ ci, ci < 9 → P ci := by
  intro ci h
  match ci, h with
  | 0, _ => exact h0
  | 1, _ => exact h1
  | 2, _ => exact h2
  | 3, _ => exact h3
  | 4, _ => exact h4
  | 5, _ => exact h5
  | 6, _ => exact h6
  | 7, _ => exact h7
  | 8, _ => exact h8
  | k + 9, h => omega
theorem vwCl_get : ∀ ci, ci < 9 → vwCl[ci]? = some (RR ci, TT ci, NN ci) := nine rfl rfl rfl rfl rfl rfl rfl rfl rfl
theorem tyT_ok : ∀ ci, ci < 9 → ∀ k, k < NN ci → parseFieldDescriptor (TT ci k).2.2.1 = some (tyT ci k) := nine tyX0_ok tyX1_ok tyX2_ok tyX3_ok tyX4_ok tyX5_ok tyX6_ok tyX7_ok tyX8_ok
theorem nm_ok : ∀ ci, ci < 9 → ∀ a, a < NN ci → ∀ b, b < NN ci → a ≠ b → (TT ci a).2.1 ≠ (TT ci b).2.1 := nine nmX0 nmX1 nmX2 nmX3 nmX4 nmX5 nmX6 nmX7 nmX8
theorem in_ok0 : ∀ w ∈ u_ws RX0 TX0 3, w ∈ lw_g := by decide +kernel
theorem in_ok1 : ∀ w ∈ u_ws RX1 TX1 2, w ∈ lw_g := by decide +kernel
theorem in_ok2 : ∀ w ∈ u_ws RX2 TX2 8, w ∈ lw_g := by decide +kernel
theorem in_ok3 : ∀ w ∈ u_ws RX3 TX3 6, w ∈ lw_g := by decide +kernel
theorem in_ok4 : ∀ w ∈ u_ws RX4 TX4 7, w ∈ lw_g := by decide +kernel
theorem in_ok5 : ∀ w ∈ u_ws RX5 TX5 4, w ∈ lw_g := by decide +kernel
theorem in_ok6 : ∀ w ∈ u_ws RX6 TX6 5, w ∈ lw_g := by decide +kernel
theorem in_ok7 : ∀ w ∈ u_ws RX7 TX7 10, w ∈ lw_g := by decide +kernel
theorem in_ok8 : ∀ w ∈ u_ws RX8 TX8 28, w ∈ lw_g := by decide +kernel
theorem in_ok : ∀ ci, ci < 9 → ∀ w ∈ u_ws (RR ci) (TT ci) (NN ci), w ∈ lw_g := nine in_ok0 in_ok1 in_ok2 in_ok3 in_ok4 in_ok5 in_ok6 in_ok7 in_ok8

def adr (base : Nat) (x : Nat → Nat) (i : Nat) : Nat := if i < 4 then x i else base + (i - 4)
theorem adr_ge {base : Nat} {x : Nat → Nat} {i : Nat} (h : 4 ≤ i) : adr base x i = base + (i - 4) := if_neg (Nat.not_lt.mpr h)
theorem adr_lt {base : Nat} {x : Nat → Nat} {i : Nat} (h : i < 4) : adr base x i = x i := if_pos h
def trV (a : Nat → Nat) : Value → Value
  | .ref i => .ref (a i)
  | v => v
theorem trV_cat (a : Nat → Nat) (v : Value) : (trV a v).category = v.category := by cases v <;> rfl
def trA (a : Nat → Nat) : vp_A → vp_A
  | (n, .inr (.inr (.inr (.inr f)))) => (n, .inr (.inr (.inr (.inr (fun j => (f j).map a)))))
  | b => b
def trC (a : Nat → Nat) (ca : ClassId) : SC → va_E
  | .inl o => .inr (o.1, o.2.map (trV a))
  | .inr b => .inl (ca, trA a b.2)
def wd (base : Nat) (x : Nat → Nat) (ca : Nat → ClassId) (h : SH) : va_W := (List.range h.2).map (fun i => (base + i, trC (adr base x) (ca i) (h.1 (i + 4))))
theorem wd_get (base : Nat) (x : Nat → Nat) (ca : Nat → ClassId) (h : SH) {i : Nat} (hi : i < h.2) : (wd base x ca h)[i]? = some (base + i, trC (adr base x) (ca i) (h.1 (i + 4))) := by
  unfold wd
  rw [List.getElem?_map, List.getElem?_range hi]
  rfl
theorem wd_at {base : Nat} {x : Nat → Nat} {ca : Nat → ClassId} {h : SH} {i : Nat} {c : SC} (h4 : 4 ≤ i) (hi : i < h.2 + 4) (hc : h.1 i = c) : (wd base x ca h)[i - 4]? = some (adr base x i, trC (adr base x) (ca (i - 4)) c) := by
  rw [wd_get base x ca h (by omega), show i - 4 + 4 = i by omega, hc, adr_ge h4]
theorem wd_some {base : Nat} {x : Nat → Nat} {ca : Nat → ClassId} {h : SH} {k : Nat} {q : Nat × va_E} (hq : (wd base x ca h)[k]? = some q) : k < h.2 ∧ q.1 = base + k := by
  have hl : k < h.2 := by
    have := (List.getElem?_eq_some_iff.mp hq).1
    simpa [wd] using this
  rw [wd_get base x ca h hl] at hq
  cases hq
  exact ⟨hl, rfl⟩
theorem wd_D (base : Nat) (x : Nat → Nat) (ca : Nat → ClassId) (h : SH) : va_D (fun q => base ≤ q) (wd base x ca h) := by
  refine ⟨fun i j p q hi hj e => ?_, fun k q hk => ?_⟩
  · have := (wd_some hi).2
    have := (wd_some hj).2
    omega
  · have := (wd_some hk).2
    show base ≤ q.1
    omega
def hset (h : SH) (i : Nat) (c : SC) : SH := (va_up h.1 i c, h.2)
def hnew (h : SH) (c : SC) : SH := (va_up h.1 (h.2 + 4) c, h.2 + 1)
theorem wd_set {base : Nat} {x : Nat → Nat} {ca : Nat → ClassId} {h : SH} {i : Nat} {c : SC} (h4 : 4 ≤ i) : wd base x ca (hset h i c) = (wd base x ca h).set (i - 4) (adr base x i, trC (adr base x) (ca (i - 4)) c) := by
  apply List.ext_getElem?
  intro k
  by_cases hk : k < h.2
  · rw [wd_get base x ca (hset h i c) hk, List.getElem?_set]
    by_cases e : i - 4 = k
    · subst e
      rw [if_pos rfl, if_pos (by simpa [wd] using hk)]
      show some (base + (i - 4), trC (adr base x) (ca (i - 4)) (va_up h.1 i c (i - 4 + 4))) = _
      rw [show i - 4 + 4 = i by omega, adr_ge h4]
      simp [va_up]
    · rw [if_neg e, wd_get base x ca h hk]
      show some (base + k, trC (adr base x) (ca k) (va_up h.1 i c (k + 4))) = _
      have : k + 4 ≠ i := by omega
      simp [va_up, this]
  · have l1 : (wd base x ca (hset h i c)).length = h.2 := by simp [wd, hset]
    have l2 : ((wd base x ca h).set (i - 4) (adr base x i, trC (adr base x) (ca (i - 4)) c)).length = h.2 := by simp [wd]
    rw [List.getElem?_eq_none (by omega), List.getElem?_eq_none (by omega)]
theorem wd_new {base : Nat} {x : Nat → Nat} {ca : Nat → ClassId} {h : SH} {c : SC} {cA : ClassId} : wd base x (va_up ca h.2 cA) (hnew h c) = wd base x ca h ++ [(base + h.2, trC (adr base x) cA c)] := by
  apply List.ext_getElem?
  intro k
  have hlen : (wd base x ca h).length = h.2 := by simp [wd]
  rcases Nat.lt_trichotomy k h.2 with hk | hk | hk
  · rw [List.getElem?_append_left (by omega), wd_get base x ca h hk, wd_get base x _ (hnew h c) (by show k < h.2 + 1; omega)]
    show some (base + k, trC (adr base x) (va_up ca h.2 cA k) (va_up h.1 (h.2 + 4) c (k + 4))) = _
    have e1 : k ≠ h.2 := by omega
    have e2 : k + 4 ≠ h.2 + 4 := by omega
    simp [va_up, e1]
  · subst hk
    rw [List.getElem?_append_right (by omega), hlen, Nat.sub_self, wd_get base x _ (hnew h c) (by show h.2 < h.2 + 1; omega)]
    show some (base + h.2, trC (adr base x) (va_up ca h.2 cA h.2) (va_up h.1 (h.2 + 4) c (h.2 + 4))) = _
    simp [va_up]
  · have l1 : (wd base x (va_up ca h.2 cA) (hnew h c)).length = h.2 + 1 := by simp [wd, hnew]
    rw [List.getElem?_eq_none (by omega), List.getElem?_eq_none (by simp [hlen]; omega)]
def Tys (tys : List (ClassId × FieldType)) (ca : Nat → ClassId) (h : SH) : Prop := ∀ i, i < h.2 → ∀ ty a, h.1 (i + 4) = .inr (ty, a) → ∃ t0 : Nat, tys[t0]? = some (ca i, ty)
def Xt (x : Nat → Nat) (base : Nat) (E : Nat → SC) (s : State) : Prop := (∀ i, i < 4 → ∃ (n : Nat) (f : Nat → Int32), E i = .inr (.int, n, .inl f) ∧ va_T .int (x i) n (fun j => .int (f j)) (fun q => base ≤ q) s s.heap) ∧
  va_Z RX7 "KIND_ABOVE" "[I" (.ref (x 1)) (fun q => base ≤ q) s s.heap ∧ va_Z RX1 "SIZE_BODIES" "[I" (.ref (x 2)) (fun q => base ≤ q) s s.heap ∧ va_Z RX1 "MARK_BODIES" "[I" (.ref (x 3)) (fun q => base ≤ q) s s.heap ∧ Nws s
def Dy (R : Room) (s : State) (D : va_G) (base : Nat) (x : Nat → Nat) (E : Nat → SC) (H : Heap) (locs : List Loc) (cells slots : Nat) (ca : Nat → ClassId) (tys : List (ClassId × FieldType)) (h : SH) : Prop :=
  va_K D vwCl tys s ∧ va_P D vwCl (wd base x ca h) H ∧ va_S (fun q => base ≤ q) s.heap H locs ∧ H.size = base + h.2 ∧ Tys tys ca h ∧ (∀ i, i < 4 → h.1 i = E i) ∧ cells ≤ R.cells ∧ slots ≤ R.slots
def RetAt (M : MI) (pc : Nat) (r : Option Value) : Prop :=
  (r = none ∧ M.2.2.2 = none ∧ decode M.2.1 pc = .ok (.return_, 1)) ∨ (∃ (v : Int32) (ty : FieldType), r = some (.int v) ∧ M.2.2.2 = some ty ∧ narrow ty (.int v) = .int v ∧ decode M.2.1 pc = .ok (.ireturn, 1)) ∨ (∃ v : Int64, r = some (.long v) ∧ M.2.2.2 = some .long ∧ decode M.2.1 pc = .ok (.lreturn, 1))
def Fx (M : MI) (d : Nat) (p : Program) (l : Launch) (e : Env) (R : Room) (s : State) (m : MethodId) (args : Array Value) (below : List Frame) (meth : Method) (c : Code) (Z : State → Prop) (D : va_G) (base : Nat) (x : Nat → Nat) (E : Nat → SC) (Q : Option Value → SH → Prop) : Prop :=
  p.tables.exec = Jvm.exec ∧ c.code = M.2.1 ∧ c.maxLocals = M.2.2.1 ∧ s.vm.findClass M.1.cls = some m.cls ∧ (∀ w ∈ lw_g, w.before args s = true) ∧ base ≤ s.heap.size ∧ (d + 1 ≤ R.frames ∧ 64 * (d + 1) ≤ R.locals) ∧ Xt x base E s ∧ meth.name = M.1.name ∧
  ∀ (pc : Nat) (r : Option Value) (h' : SH) (H' : Heap) (locs' : List Loc) (cells' slots' : Nat) (ca' : Nat → ClassId) (tys' : List (ClassId × FieldType)) (lsA' : Array Slot), RetAt M pc r → Dy R s D base x E H' locs' cells' slots' ca' tys' h' → Q r h' → W p l e R s m args below meth c H' locs' cells' slots' Z (F0 m pc lsA' (r.toList.map (trV (adr base x))))
abbrev trL (a : Nat → Nat) (q : Nat × Value) : Nat × Value := (q.1, trV a q.2)
def T (M : MI) (d kc ks pc : Nat) (ls : List (Nat × Value)) (st : List Value) (h : SH) (Q : Option Value → SH → Prop) : Prop :=
  ∀ (p : Program) (l : Launch) (e : Env) (R : Room) (s : State) (m : MethodId) (args : Array Value) (below : List Frame) (meth : Method) (c : Code) (Z : State → Prop) (D : va_G) (base : Nat) (x : Nat → Nat) (E : Nat → SC) (H : Heap) (locs : List Loc) (cells slots : Nat) (ca : Nat → ClassId) (tys : List (ClassId × FieldType)) (lsA : Array Slot),
    Fx M d p l e R s m args below meth c Z D base x E Q → Dy R s D base x E H locs (cells + kc) (slots + ks) ca tys h → lv_has lsA M.2.2.1 (ls.map (trL (adr base x))) →
    W p l e R s m args below meth c H locs cells slots Z (F0 m pc lsA (st.map (trV (adr base x))))
def lset (i : Nat) (v : Value) (ls : List (Nat × Value)) : List (Nat × Value) := (i, v) :: ls.filter (fun q => !(q.1 == i) && !(q.1 + 1 == i && q.2.category == 2))
def lsetL (i : Nat) (v : Value) (ls : List (Nat × Value)) : List (Nat × Value) := (i, v) :: ls.filter (fun q => !(q.1 == i) && (!(q.1 == i + 1) && !(q.1 + 1 == i && q.2.category == 2)))
theorem lset_tr (a : Nat → Nat) (i : Nat) (v : Value) (ls : List (Nat × Value)) : (i, trV a v) :: (ls.map (trL a)).filter (fun q => !(q.1 == i) && !(q.1 + 1 == i && q.2.category == 2)) = (lset i v ls).map (trL a) := by
  unfold lset
  rw [List.map_cons, List.filter_map]
  congr 2
  apply List.filter_congr
  intro q _
  simp [trV_cat]
theorem lsetL_tr (a : Nat → Nat) (i : Nat) (v : Value) (ls : List (Nat × Value)) : (i, trV a v) :: (ls.map (trL a)).filter (fun q => !(q.1 == i) && (!(q.1 == i + 1) && !(q.1 + 1 == i && q.2.category == 2))) = (lsetL i v ls).map (trL a) := by
  unfold lsetL
  rw [List.map_cons, List.filter_map]
  congr 2
  apply List.filter_congr
  intro q _
  simp [trV_cat]
theorem lk_mem {ls : List (Nat × Value)} {i : Nat} {v : Value} (h : ls.lookup i = some v) : (i, v) ∈ ls := by
  induction ls with
  | nil => cases h
  | cons q t ih =>
    obtain ⟨k, w⟩ := q
    rw [List.lookup_cons] at h
    by_cases e : i == k
    · rw [e] at h
      cases h
      rw [eq_of_beq e]
      exact List.mem_cons_self
    · rw [show (i == k) = false by simpa using e] at h
      exact List.mem_cons_of_mem _ (ih h)
theorem lk_at {a : Nat → Nat} {lsA : Array Slot} {n : Nat} {ls : List (Nat × Value)} {i : Nat} {v : Value} (L : lv_has lsA n (ls.map (trL a))) (h : ls.lookup i = some v) : lsA[i]? = some (.val (trV a v)) :=
  L.2.2 (i, trV a v) (List.mem_map.mpr ⟨(i, v), lk_mem h, rfl⟩)
def hob (h : SH) (i ci : Nat) (fs : List Value) : Prop := 4 ≤ i ∧ i < h.2 + 4 ∧ h.1 i = .inl (ci, fs)
def har (h : SH) (i : Nat) (ty : FieldType) (a : vp_A) : Prop := 4 ≤ i ∧ i < h.2 + 4 ∧ h.1 i = .inr (ty, a)
def hxa (h : SH) (i n : Nat) (f : Nat → Int32) : Prop := i < 4 ∧ h.1 i = .inr (.int, n, .inl f)
def FL (own : String) (idx ci k : Nat) : Prop := Cond.fieldLink own idx (TT ci k).1 (TT ci k).2.1 (TT ci k).2.2.1 ∈ lw_g ∧ ci < 9 ∧ k < NN ci
