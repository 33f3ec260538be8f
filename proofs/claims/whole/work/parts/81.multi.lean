/-! eight rows of forty ints, made in one go -/
def rowC (cI : ClassId) : Cell := arrV cI 40 (fun _ => .int 0)
def colC (cA : ClassId) (h0 i : Nat) : Cell := arrV cA 8 (fun j => va_rf (if j < i then some (h0 + 1 + j) else none))
theorem colC_s (cA : ClassId) (h0 i : Nat) : (colC cA h0 i).setSlot i (.ref (h0 + 1 + i)) = colC cA h0 (i + 1) := by
  unfold colC
  rw [arrV_store]
  congr 1
  funext j
  by_cases e : j = i
  · subst e
    simp [updV, va_rf]
  · have : j < i + 1 ↔ j < i := by omega
    simp only [updV, if_neg e, this]
def gridS (s : State) (cA cI : ClassId) : Nat → State
  | 0 => s.pushCell (colC cA s.heap.size 0)
  | i + 1 => ((gridS s cA cI i).pushCell (rowC cI)).setCell s.heap.size (colC cA s.heap.size (i + 1))
theorem gridS_f (s : State) (cA cI : ClassId) : ∀ i, (gridS s cA cI i).heap.size = s.heap.size + 1 + i ∧ (gridS s cA cI i).heap[s.heap.size]? = some (colC cA s.heap.size i) ∧ (gridS s cA cI i).vm = s.vm ∧ (gridS s cA cI i).slotsUsed = s.slotsUsed + 8 + i * 40
  | 0 => ⟨by simp [gridS], by simp [gridS], rfl, by simp [gridS, colC, arrV]⟩
  | i + 1 => by
    obtain ⟨a, b, d, u⟩ := gridS_f s cA cI i
    have hlt : s.heap.size < (gridS s cA cI i).heap.size := by omega
    have hb : ((gridS s cA cI i).pushCell (rowC cI)).heap[s.heap.size]? = some (colC cA s.heap.size i) := by rw [State.heap_pushCell_of_lt (h := hlt)]; exact b
    refine ⟨?_, State.heap_setCell_self hb, by simp [gridS, d], ?_⟩
    · simp [gridS, State.setCell, a]
      omega
    · simp [gridS, u, rowC, arrV]
      omega
theorem gridS_top (s : State) (f : JFrame) (cA cI : ClassId) : ∀ i, gridS (s.setTop f) cA cI i = (gridS s cA cI i).setTop f
  | 0 => rfl
  | i + 1 => by simp only [gridS, gridS_top s f cA cI i, State.heap_setTop, State.pushCell_setTop, State.setCell_setTop]
theorem gridS_old (s : State) (cA cI : ClassId) {a : Nat} (ha : a < s.heap.size) : ∀ i, (gridS s cA cI i).heap[a]? = s.heap[a]?
  | 0 => State.heap_pushCell_of_lt _ _ ha
  | i + 1 => by
    have hlt : a < (gridS s cA cI i).heap.size := by rw [(gridS_f s cA cI i).1]; omega
    show (((gridS s cA cI i).pushCell (rowC cI)).setCell s.heap.size _).heap[a]? = _
    rw [State.heap_setCell_other (Nat.ne_of_gt ha), State.heap_pushCell_of_lt (h := hlt)]
    exact gridS_old s cA cI ha i
theorem gridS_row (s : State) (cA cI : ClassId) : ∀ i j, j < i → (gridS s cA cI i).heap[s.heap.size + 1 + j]? = some (rowC cI)
  | 0, _, h => absurd h (Nat.not_lt_zero _)
  | i + 1, j, h => by
    have f1 := (gridS_f s cA cI i).1
    show (((gridS s cA cI i).pushCell (rowC cI)).setCell s.heap.size _).heap[s.heap.size + 1 + j]? = _
    rw [State.heap_setCell_other (show s.heap.size ≠ s.heap.size + 1 + j by omega)]
    by_cases hj : j < i
    · have hlt : s.heap.size + 1 + j < (gridS s cA cI i).heap.size := by rw [f1]; omega
      rw [State.heap_pushCell_of_lt (h := hlt)]
      exact gridS_row s cA cI i j hj
    · rw [show j = i by omega, ← f1]
      exact State.heap_pushCell_size _ _
section Grid
variable {E : CtlPost} {e : Env} {d : Bool} {acts : List Action} {s : State}
theorem wp_row1 {cI cc : ClassId} {kC : Class} (hkc : s.vm.classes[cI]? = some kC) (hkind : kC.kind = .array cc .int) (hl : ¬ 40 > e.platform.arrayLengthLimit) (hh : ¬ 40 * 4 > e.platform.maxHeapBytes) (h1 : s.heap.size < e.platform.maxCells) (h2 : s.slotsUsed + 40 ≤ e.platform.maxSlots)
    {Q : Addr → Pre} (hq : ∀ acts', Q s.heap.size d acts' (s.pushCell (rowC cI))) : wp (multianewarray.make cI [nI 40]) Q E e d acts s := by
  have hm : ¬ nI 40 < 0 := by decide
  have hc : (nI 40).toNatClampNeg = 40 := by decide
  rw [multianewarray.make]
  simp only [wp_bind', W.ite, hm, if_false, wp_pure', W.theClass, hkc, hkind, Option.some.injEq, exists_eq_left', hc]
  refine W.newArray_of hkc hkind hl hh h1 h2 rfl (fun acts' => ?_)
  have := hq acts'
  unfold rowC at this
  rw [← arrV_new] at this
  exact this
theorem wp_grid {cA cI cc : ClassId} {kA kC : Class} (hk : s.vm.classes[cA]? = some kA) (hkind : kA.kind = .array cI (.array .int)) (hkc : s.vm.classes[cI]? = some kC) (hkindc : kC.kind = .array cc .int)
    (hl1 : ¬ 8 > e.platform.arrayLengthLimit) (hh1 : ¬ 8 * 4 > e.platform.maxHeapBytes) (hl2 : ¬ 40 > e.platform.arrayLengthLimit) (hh2 : ¬ 40 * 4 > e.platform.maxHeapBytes)
    (hc : s.heap.size + 9 ≤ e.platform.maxCells) (hs : s.slotsUsed + 328 ≤ e.platform.maxSlots)
    {Q : Addr → Pre} (hq : ∀ d' acts', Q s.heap.size d' acts' (gridS s cA cI 8)) : wp (multianewarray.make cA [nI 8, nI 40]) Q E e d acts s := by
  have hn : ¬ nI 8 < 0 := by decide
  have h8 : (nI 8).toNatClampNeg = 8 := by decide
  have hb : (nI 8 == 0) = false := by decide
  rw [multianewarray.make]
  simp only [wp_bind', W.ite, hn, if_false, wp_pure', W.theClass, hk, hkind, Option.some.injEq, exists_eq_left', h8]
  refine W.newArray_of hk hkind hl1 hh1 (by omega) (by omega) rfl (fun acts1 => ?_)
  rw [arrV_new]
  have e0 : s.pushCell (arrV cA 8 (fun _ => .null)) = gridS s cA cI 0 := by
    show _ = s.pushCell (colC cA s.heap.size 0)
    congr 1
  rw [e0]
  simp only [hb]
  rw [if_neg (by decide), wp_bind', Std.Legacy.Range.forIn_eq_forIn_range']
  have hsz : ([:8] : Std.Legacy.Range).size = 8 := by simp [Std.Legacy.Range.size]
  rw [hsz]
  show wp (forIn (List.range' 0 8 1) PUnit.unit _) _ E e d acts1 _
  refine wp_forIn_inv (fun rest s' => ∃ i, i ≤ 8 ∧ rest = List.range' i (8 - i) ∧ s' = gridS s cA cI i) _ _ ⟨0, Nat.zero_le _, rfl, rfl⟩ ?_ ?_
  · rintro x rest s' d' acts' Q' ⟨i, hi, hl, rfl⟩ hnext
    have hlt : i < 8 := by
      apply Classical.byContradiction
      intro hno
      rw [show 8 - i = 0 by omega] at hl
      cases hl
    rw [show 8 - i = (8 - (i + 1)) + 1 by omega, List.range'_succ] at hl
    obtain ⟨rfl, hrest⟩ := List.cons.inj hl
    obtain ⟨f1, f2, f3, f4⟩ := gridS_f s cA cI x
    simp only [wp_bind']
    refine wp_row1 (by rw [f3]; exact hkc) hkindc hl2 hh2 (by rw [f1]; omega) (by rw [f4]; omega) (fun acts2 => ?_)
    have hlt0 : s.heap.size < (gridS s cA cI x).heap.size := by rw [f1]; omega
    simp only [wp_bind', W.writeLoc, wp_pure']
    refine ⟨colC cA s.heap.size x, by rw [State.heap_pushCell_of_lt (h := hlt0)]; exact f2, by simp [colC, arrV], by rw [show (colC cA s.heap.size x).slots.size = 8 from arrV_size _ _ _]; exact hlt, ?_, hnext _ _ _ ⟨x + 1, hlt, hrest, ?_⟩⟩
    · show State.fitsSlot _ cA .none x _ = true
      simp [State.fitsSlot, State.slotType?, f3, hk, hkind, fits]
    · rw [f1]
      show _ = ((gridS s cA cI x).pushCell (rowC cI)).setCell s.heap.size (colC cA s.heap.size (x + 1))
      rw [colC_s]
  · rintro s' d' acts' ⟨i, hi, hl, rfl⟩
    have h8 : i = 8 := by
      apply Classical.byContradiction
      intro hno
      rw [show 8 - i = (8 - (i + 1)) + 1 by omega, List.range'_succ] at hl
      cases hl
    subst h8
    simp only [wp_pure']
    exact hq _ _
end Grid
section GridW
variable {p : Program} {l : Launch} {e : Env} {R : Room} {s : State} {m : MethodId} {args : Array Value} {below : List Frame} {meth : Method} {c : Code} {T0 : State} {H : Heap} {locs : List Loc} {cells slots : Nat} {Q : State → Prop}
theorem grid_X (X : Stand p l e R s m args below meth c T0 locs cells slots) (cA cI : ClassId) : ∀ i, ∃ J : List Loc, (∀ x ∈ J, x.base = T0.heap.size) ∧ Stand p l e R s m args below meth c (gridS T0 cA cI i) (locs ++ J) (cells + 1 + i) (slots + 8 + i * 40)
  | 0 => ⟨[], fun x h => absurd h List.not_mem_nil, by
    have h := X.pushed (colC cA T0.heap.size 0)
    rw [show (colC cA T0.heap.size 0).slots.size = 8 from arrV_size _ _ _] at h
    simpa [gridS] using h⟩
  | i + 1 => by
    obtain ⟨J, hJ, Xi⟩ := grid_X X cA cI i
    obtain ⟨f1, f2, f3, f4⟩ := gridS_f T0 cA cI i
    have hlt0 : T0.heap.size < (gridS T0 cA cI i).heap.size := by rw [f1]; omega
    have hcell : ((gridS T0 cA cI i).pushCell (rowC cI)).heap[T0.heap.size]? = some (colC cA T0.heap.size i) := by rw [State.heap_pushCell_of_lt (h := hlt0)]; exact f2
    have h := (Xi.pushed (rowC cI)).stored hcell i (.ref (T0.heap.size + 1 + i))
    rw [show (rowC cI).slots.size = 40 from arrV_size _ _ _, colC_s, show slots + 8 + i * 40 + 40 = slots + 8 + (i + 1) * 40 by omega, List.append_assoc] at h
    refine ⟨J ++ [(⟨T0.heap.size, i⟩ : Loc)], fun x hx => ?_, ?_⟩
    · rcases List.mem_append.mp hx with q | q
      · exact hJ x q
      · rw [List.mem_singleton.mp q]
    · exact h
theorem W_grid {cc : ByteArray} (hexec : p.tables.exec = Jvm.exec) (hb : c.code = cc) {own : String} {index : Nat} (hown : s.vm.findClass own = some m.cls) (hclink : (Cond.classLink own index ("[" ++ (FieldType.array .int).toString)).before args s = true) (hover : (Cond.arrayOver (.array .int)).before args s = true) (harr : (Cond.arrayClass .int).before args s = true)
    {g : JFrame} (hg : g.method = m) (hdg : decode cc g.pc = .ok (.multianewarray index 2, 4)) {rest : List Value} (hstack : g.stack = .int (nI 40) :: .int (nI 8) :: rest) (hcells : cells + 9 ≤ R.cells) (hslots : slots + 328 ≤ R.slots)
    (kk : ∀ (H1 : Heap) (cA cI : ClassId), s.vm.findClass ("[" ++ (FieldType.array .int).toString) = some cA → s.vm.findClass (FieldType.array .int).toString = some cI → ArrOfT s cA (.array .int) → ArrOfT s cI .int → H1.size = H.size + 9 → H1[H.size]? = some (colC cA H.size 8) → (∀ j, j < 8 → H1[H.size + 1 + j]? = some (rowC cI)) → (∀ q : Nat, q < H.size → H1[q]? = H[q]?) →
      W p l e R s m args below meth c H1 locs (cells + 9) (slots + 328) Q { g with pc := g.pc + 4, stack := .ref H.size :: rest }) : W p l e R s m args below meth c H locs cells slots Q g := by
  intro T hT X
  subst hT; subst hb; subst hg
  have hpl : e.platform.magicAccessors = ({} : Platform).magicAccessors := by rw [X.admits.platform]
  obtain ⟨cI, cA, kA, hcI, hidx, hkA, hkindA, hnameA⟩ := arrayOverA_spec hover
  obtain ⟨cI', kC, cc, hcI', hkC, hkindC⟩ := Cond.arrayClass_spec harr
  have ecI : cI' = cI := Option.some.inj (hcI'.symm.trans hcI)
  subst ecI
  obtain ⟨c0, hfc0, hcl⟩ := Cond.classLink_spec hown hclink e.platform hpl
  cases hnameA.symm.trans hfc0
  obtain ⟨hg1, hwarm1, hready1⟩ := State.classEntry (e := e) X.warmed hcl
  generalize T.vm.noted g.method.cls index (.cls cA) = vm1 at hg1 hwarm1 hready1
  have hal : s.vm.Alike vm1 := hwarm1.alike
  obtain ⟨kA1, hkA1, heA⟩ := hal.2.2 _ _ hkA
  obtain ⟨kC1, hkC1, heC⟩ := hal.2.2 _ _ hkC
  have hkindA1 : kA1.kind = .array cI' (.array .int) := by rw [heA]; exact hkindA
  have hkindC1 : kC1.kind = .array cc .int := by rw [heC]; exact hkindC
  have X1 := X.noted hwarm1
  obtain ⟨hr1, hr2⟩ := X.roomAbove hcells hslots
  obtain ⟨J, hJ, XF⟩ := grid_X X1 cA cI' 8
  have XG := XF.dropFresh (fun x hx => by rw [hJ x hx]; exact X1.heapGrown)
  obtain ⟨f1, f2, f3, f4⟩ := gridS_f (T.setVm vm1) cA cI' 8
  obtain ⟨t, a1, b1⟩ := kk (gridS (T.setVm vm1) cA cI' 8).heap cA cI' hnameA hcI (fun N z => ⟨(fun k h => by cases h), kA, hkA, cI', hkindA⟩) (fun N z => ⟨(fun k h => by cases h), kC, hkC, cc, hkindC⟩) f1 f2 (fun j hj => gridS_row (T.setVm vm1) cA cI' 8 j hj) (fun q hq => gridS_old (T.setVm vm1) cA cI' (a := q) hq 8) _ rfl XG
  refine ⟨t, ?_, b1⟩
  have hl1 : ¬ 8 > e.platform.arrayLengthLimit := by rw [Launch.admits_arrayLengthLimit X.admits]; omega
  have hh1 : ¬ 8 * 4 > e.platform.maxHeapBytes := by rw [Launch.admits_maxHeapBytes X.admits]; omega
  have hl2 : ¬ 40 > e.platform.arrayLengthLimit := by rw [Launch.admits_arrayLengthLimit X.admits]; omega
  have hh2 : ¬ 40 * 4 > e.platform.maxHeapBytes := by rw [Launch.admits_maxHeapBytes X.admits]; omega
  jvm_step X.here [hexec, hdg]
  simp only [multianewarray.sem, wp_bind', W.resolveClassAt_links (State.method?_setTop g X.here.top) hg1]
  rw [W.popN, if_neg (by decide)]
  refine ⟨g, State.topJava?_setTop' (s := T.setVm vm1) g X.here.top, [.int (nI 8), .int (nI 40)], rest, rfl, hstack, ?_⟩
  simp only [List.mapM_cons, List.mapM_nil, wp_bind', wp_pure']
  refine wp_grid (kA := kA1) (kC := kC1) (cI := cI') (cc := cc) hkA1 hkindA1 hkC1 hkindC1 hl1 hh1 hl2 hh2 (by show T.heap.size + 9 ≤ _; omega) (by show T.slotsUsed + 328 ≤ _; omega) (fun d2 acts2 => ?_)
  have eS : ((T.setTop g).setVm vm1).setTop { g with stack := rest } = (T.setVm vm1).setTop { g with stack := rest } := by
    show ((T.setVm vm1).setTop g).setTop _ = _
    rw [State.setTop_setTop]
  rw [eS, gridS_top]
  simp only [wp_bind', W.mark, W.pushRef, State.topJava?_setTop' _ XF.here.top, Option.some.injEq, exists_eq_left', State.setTop_setTop, State.heap_setTop]
  intro acts3
  simp [jvm, XF.here.top]
  exact a1
end GridW

