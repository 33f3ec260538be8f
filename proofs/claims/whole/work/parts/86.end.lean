/-! THE CLAIM OUT OF ONE WALK OF THE LAW'S BODY. Your part is whole_start (and what it stands on); all else here is the same for every law, but numbers. -/
def R_law : String := "JarNotesLaw"
def lw_P (b : Addr) (xs : List Int32) (args : Array Value) (s : State) : Prop := args = #[.ref b] ∧ s.IntsAt b xs ∧ xs.length ≤ 448 ∧ (Jvm.Cond.and given_1 narrow_1).before args s = true
def lw_Q (_ : Array Value) (s : State) (o : Outcome) (t : State) : Prop := o = .returned (some (.int 1)) ∧ Framed s o t [] 600000 7302250
def lw_Z (below : List Frame) (a : Array Value) (s : State) : State → Prop := fun t => ∃ o, t.status = .running ∧ Ended t below o ∧ lw_Q a s o t
/-- the law's own end, with 1 on the stack, nothing written that was there before, its room as the claim has it -/
theorem lw_ret {p : Program} {l : Launch} {e : Env} {s : State} {m : MethodId} {below : List Frame} {meth : Method} {c : Code} {b : Nat} (hx : p.tables.exec = Jvm.exec) (hb : c.code = code) (hr : meth.sig.returnType = ret) (hlocks : meth.locks = false) {pc : Nat} {H : Heap} {ls : Array Slot} (hdg : decode code pc = .ok (.ireturn, 1)) : W p l e room_1 s m #[Value.ref b] below meth c H [] 600000 7302250 (lw_Z below #[Value.ref b] s) (F0 m pc ls [.int 1]) := by
  intro T hT X
  obtain ⟨fs, hret, hrun, hended, hW, hframe⟩ := X.leave (v := some (.int 1)) (hlocks := hlocks) (fun h => by rw [hr] at h; cases h)
  have hmeth' : T.vm.method? m = some meth := X.method'
  refine ⟨T.setFrames fs, ?_, .returned (some (.int 1)), hrun, hended, rfl, ⟨_, rfl⟩, hW, hframe⟩
  jvm_step X.here [X.here.top, hx, hb, hdg, hmeth', hr, ret, narrow_b1]
  (try refine ⟨rfl, ?_⟩); (try refine ⟨rfl, ?_⟩)
  first | (intro acts; rw [hret _ acts rfl rfl rfl]) | rw [hret _ _ rfl rfl rfl]
  exact Steps.refl _
/-- what holds at the law's entry: the machine, the code, the tables' words (any of lw_tbl by 'hts w (by decide +kernel)'), the script of L ints xs at the cell b, what the Statement gives of the start (any of its parts by flat_of_before) -/
def lw_At (p : Program) (s : State) (m : MethodId) (meth : Method) (c : Code) (b L : Nat) (xs : Nat → Int32) : Prop :=
  p.tables.exec = Jvm.exec ∧ c.code = code ∧ meth.sig.returnType = ret ∧ c.maxLocals = 4 ∧ s.vm.findClass R_law = some m.cls ∧ (∀ w ∈ lw_tbl, w.before #[Value.ref b] s = true) ∧ va_X b L xs s s.heap ∧ b < s.heap.size ∧ meth.locks = false ∧ (Jvm.Cond.and given_1 narrow_1).before #[Value.ref b] s = true ∧ meth.name = "law"
theorem a4 {P : Nat → Prop} (h0 : P 0) (h1 : P 1) (h2 : P 2) (h3 : P 3) : ∀ i, i < 4 → P i := by
  intro i h
  match i, h with
  | 0, _ => exact h0
  | 1, _ => exact h1
  | 2, _ => exact h2
  | 3, _ => exact h3
theorem a6 {P : Nat → Prop} (h0 : P 0) (h1 : P 1) (h2 : P 2) (h3 : P 3) (h4 : P 4) (h5 : P 5) : ∀ i, i < 6 → P i := by
  intro i h
  match i, h with
  | 0, _ => exact h0
  | 1, _ => exact h1
  | 2, _ => exact h2
  | 3, _ => exact h3
  | 4, _ => exact h4
  | 5, _ => exact h5
def lwSk (L : Nat) : Nat → SK := fun i => if i = 0 then .inr (.int, L, none) else .inr (.int, 6, none)
def lwG (xs : Nat → Int32) : Nat → Nat → Int32 := fun i => if i = 0 then xs else if i = 1 then kaT else if i = 2 then (fun k => nI (szT k)) else (fun k => nI (mkT k))
def lwX (b t1 t2 t3 : Nat) : Nat → Nat := fun i => if i = 0 then b else if i = 1 then t1 else if i = 2 then t2 else t3
theorem lw_D {s : State} {args : Array Value} (hts : ∀ w ∈ lw_g, w.before args s = true) : ∃ D : va_G, va_K D vwCl [] s := by
  have H : ∀ ci, ∃ q : ClassId × (Nat → Nat), ci < 9 → u_Kn s (RR ci) (TT ci) (NN ci) q.1 q.2 := by
    intro ci
    by_cases h : ci < 9
    · have hi : Cond.instantiable (RR ci) (NN ci) ∈ lw_g := nine (P := fun ci => Cond.instantiable (RR ci) (NN ci) ∈ lw_g) insX0 insX1 insX2 insX3 insX4 insX5 insX6 insX7 insX8 ci h
      obtain ⟨cC, iS, hK⟩ := u_known hts (in_ok ci h) (hts _ hi)
      exact ⟨(cC, iS), fun _ => hK⟩
    · exact ⟨(0, fun _ => 0), fun z => absurd z h⟩
  obtain ⟨f, hf⟩ := Classical.axiomOfChoice H
  refine ⟨(fun c => (f c).1, fun c => (f c).2), fun c q hq => ?_, fun k q hq => by cases hq⟩
  have hc : c < 9 := (List.getElem?_eq_some_iff.mp hq).1
  have e := vwCl_get c hc
  rw [hq] at e
  cases e
  exact hf c hc
theorem whole_start {p : Program} {e : Env} {s : State} {m : MethodId} {below : List Frame} {meth : Method} {c : Code} (l : Launch) {b L : Nat} {xs : Nat → Int32} (hL : L ≤ 448) (C0 : lw_At p s m meth c b L xs) : W p l e room_1 s m #[Value.ref b] below meth c s.heap [] 0 0 (lw_Z below #[Value.ref b] s) (entryFrame m ([Value.ref b] : List Value).toArray 4) := by
  obtain ⟨hx, hb, hr, hml, hown, hts, hX, hbl, hlocks, hgv, hnm⟩ := C0
  have hs := flat_of_before _ hgv
  have hg : ∀ w ∈ lw_g, w.before #[Value.ref b] s = true := fun w hw => hts w (lw_g_in w hw)
  have hA : ∀ a : Nat, a < s.heap.size → ¬ s.heap.size ≤ a := fun a h => by omega
  obtain ⟨t1, v1, T1⟩ := va_Tof (args := #[Value.ref b]) (s := s) (tm := .static "JarNotes" "KIND_ABOVE" "[I") (ty := .int) (N := 6) (f := fun k => .int (kaT k)) (A := fun q => s.heap.size ≤ q) (by decide) (hs _ (by decide +kernel)) (va_eqt (hs _ (by decide +kernel))) (a6 (va_eqt (hs _ (by decide +kernel))) (va_eqt (hs _ (by decide +kernel))) (va_eqt (hs _ (by decide +kernel))) (va_eqt (hs _ (by decide +kernel))) (va_eqt (hs _ (by decide +kernel))) (va_eqt (hs _ (by decide +kernel)))) hA
  obtain ⟨t2, v2, T2⟩ := va_Tof (args := #[Value.ref b]) (s := s) (tm := .static "JarNotes$Asks" "SIZE_BODIES" "[I") (ty := .int) (N := 6) (f := fun k => .int (nI (szT k))) (A := fun q => s.heap.size ≤ q) (by decide) (hs _ (by decide +kernel)) (va_eqt (hs _ (by decide +kernel))) (a6 (va_eqt (hs _ (by decide +kernel))) (va_eqt (hs _ (by decide +kernel))) (va_eqt (hs _ (by decide +kernel))) (va_eqt (hs _ (by decide +kernel))) (va_eqt (hs _ (by decide +kernel))) (va_eqt (hs _ (by decide +kernel)))) hA
  obtain ⟨t3, v3, T3⟩ := va_Tof (args := #[Value.ref b]) (s := s) (tm := .static "JarNotes$Asks" "MARK_BODIES" "[I") (ty := .int) (N := 6) (f := fun k => .int (nI (mkT k))) (A := fun q => s.heap.size ≤ q) (by decide) (hs _ (by decide +kernel)) (va_eqt (hs _ (by decide +kernel))) (a6 (va_eqt (hs _ (by decide +kernel))) (va_eqt (hs _ (by decide +kernel))) (va_eqt (hs _ (by decide +kernel))) (va_eqt (hs _ (by decide +kernel))) (va_eqt (hs _ (by decide +kernel))) (va_eqt (hs _ (by decide +kernel)))) hA
  have T0 : va_T .int b L (fun j => .int (xs j)) (fun q => s.heap.size ≤ q) s s.heap := by
    obtain ⟨scr, h1, h2, h3, h4, h5⟩ := hX
    exact ⟨scr, h1, h2, h3, by omega, by rw [h4], h5, hA b hbl⟩
  have hN : Nws s := by
    refine ⟨fun w hw => ?_, va_AO.of (A := #[Value.ref b]) (hts _ (by decide +kernel)), ?_⟩
    · have h1 := (List.mem_filter.mp hw).1
      have h2 := (List.mem_filter.mp hw).2
      cases w <;> first | (exact va_Nw.of rfl (hts _ h1)) | (cases h2)
    · exact hts (Cond.arrayOver (.array .int)) (by decide +kernel)
  obtain ⟨D, hK⟩ := lw_D hg
  have hXt : Xt (lwX b t1 t2 t3) s.heap.size (HP (lwSk L) (lwG xs) 0).1 s := by
    refine ⟨a4 ⟨L, xs, rfl, T0⟩ ⟨6, kaT, rfl, T1⟩ ⟨6, fun k => nI (szT k), rfl, T2⟩ ⟨6, fun k => nI (mkT k), rfl, T3⟩, ?_, ?_, ?_, hN⟩
    · exact va_Zof (args := #[Value.ref b]) (hts _ (by decide +kernel)) (hts _ (by decide +kernel)) v1 hA
    · exact va_Zof (args := #[Value.ref b]) (hts _ (by decide +kernel)) (hts _ (by decide +kernel)) v2 hA
    · exact va_Zof (args := #[Value.ref b]) (hts _ (by decide +kernel)) (hts _ (by decide +kernel)) v3 hA
  have hT := law_all (d := 0) (Q := fun r _ => r = some (.int (nI 1))) (xs := xs) (sk := lwSk L) (g := lwG xs) hL (fun _ => rfl) ⟨by decide, rfl⟩ ⟨by decide, rfl⟩ ⟨by decide, rfl⟩ ⟨by decide, rfl⟩ ⟨fun _ _ => rfl, fun _ _ => rfl, fun _ _ => rfl⟩ (fun _ _ => rfl)
  rw [lg_entry_eq]
  have hLs := lv_entry ([Value.ref b] : List Value) (n := 4) (Nat.le_of_ble_eq_true rfl)
  refine hT p l e room_1 s m #[Value.ref b] below meth c (lw_Z below #[Value.ref b] s) D s.heap.size (lwX b t1 t2 t3) (HP (lwSk L) (lwG xs) 0).1 s.heap [] 0 0 (fun _ => 0) [] _ ⟨hx, hb, hml, hown, hg, Nat.le_refl _, ⟨by decide, by decide⟩, hXt, hnm, ?_⟩ ⟨hK, (fun k q hq => by cases hq), va_S.rf, rfl, fun i hi => absurd hi (Nat.not_lt_zero i), fun _ _ => rfl, by decide, by decide⟩ hLs
  intro pc r h' H' locs' cells' slots' ca' tys' lsA' hra Y hQ
  have hQ : r = some (.int (nI 1)) := hQ
  subst hQ
  have hb1 : cells' ≤ 600000 := Y.2.2.2.2.2.2.1
  have hb2 : slots' ≤ 7302250 := Y.2.2.2.2.2.2.2
  have hd : decode code pc = .ok (.ireturn, 1) := by
    rcases hra with ⟨h, -⟩ | ⟨v, ty, -, -, -, hd⟩ | ⟨v, h, -⟩
    · cases h
    · exact hd
    · cases h
  refine W.widen (k := 600000) (n := 7302250) hb1 hb2 ?_
  intro T hT2 X
  exact lw_ret hx hb hr hlocks hd T hT2 (Stand.dropFresh (locs := []) (J := locs') X (fun q hq => Y.2.2.1.2.2 q hq))
set_option maxHeartbeats 4000000 in
theorem lw_walk (l : Launch) (b : Addr) (xs : List Int32) : MetFree l x (headSpec (Jvm.Cond.code x code maxLocals ret :: tables_1) room_1) (lw_P b xs) (fun _ _ _ _ _ => True) lw_Q := by
  refine MetFree.of_bodyS (code := code) (maxLocals := maxLocals) (ret := ret) (by decide) ?_ ?_
  · intro args s m h hn
    obtain ⟨meth, c, h1, h2, h3, h4, h5, h6, -, -⟩ := Cond.code_spec hn (atoms_spec (ws := Jvm.Cond.code x code maxLocals ret :: tables_1) h _ List.mem_cons_self)
    exact ⟨meth, c, h1, h2, h3, h4, h5, h6⟩
  · intro p e s m args below meth c s₁ B hml0 hP _
    obtain ⟨rfl, hx, hbd, hgv⟩ := hP
    obtain ⟨scr, harrAt, hlist, hof, hsmall⟩ := hx
    obtain ⟨hcb, hkn, -, -⟩ := State.arrayAt?_spec harrAt
    have hown : s.vm.findClass R_law = some m.cls := findClass_of_methodNamed B.named
    have hts0 : ∀ c ∈ (Jvm.Cond.code x code maxLocals ret :: tables_1), c.before #[Value.ref b] s = true := atoms_spec (ws := Jvm.Cond.code x code maxLocals ret :: tables_1) B.pre
    have hts : ∀ w ∈ lw_tbl, w.before #[Value.ref b] s = true := k2_hts_sels lw_privs (fun w hw => hts0 w (List.mem_cons_of_mem _ hw)) lw_privs_ok
    have hml : c.maxLocals = 4 := B.maxLocals_eq (hts0 _ List.mem_cons_self)
    have X₀ : Stand p l e room_1 s m #[Value.ref b] below meth c s₁ [] 0 0 := Stand.of_body B
    have hh0 : s₁.heap = s.heap := by rw [B.state]; rfl
    have hsz : scr.slots.size = xs.length := by rw [← Array.length_toList, hlist, List.length_map]
    have hval : ∀ j : Nat, j < xs.length → scr.slots[j]? = some (.int (xs.getD j 0)) := fun j hj => by
      rw [← Array.getElem?_toList, hlist]
      simp [hj]
    have hbl : b < s.heap.size := (Array.getElem?_eq_some_iff.mp hcb).1
    have hX : va_X b xs.length (fun j => xs.getD j 0) s s.heap := ⟨scr, hcb, hof, hkn, hsz, hval⟩
    have K : W p l e room_1 s m #[Value.ref b] below meth c s₁.heap [] 0 0 (lw_Z below #[Value.ref b] s) (entryFrame m ([Value.ref b] : List Value).toArray 4) := by
      rw [hh0]
      exact whole_start l hbd ⟨B.exec, B.bytes, B.returns, hml, hown, hts, hX, hbl, B.notSynchronized, hgv, (name_of_methodNamed B.named B.method).1⟩
    obtain ⟨t, a1, o, b1, b2, b3⟩ := K s₁ rfl X₀
    exact ⟨t, o, a1, b1, b2, b3⟩
theorem lw_pre_spec {args : Array Value} {s : State} (h : (Jvm.Cond.and given_1 narrow_1).before args s = true) (hr : rest_1_c.before args s = true) : ∃ (b : Addr) (xs : List Int32), lw_P b xs args s := by
  have hs := flat_of_before _ h
  have hq := flat_of_before _ hr
  have hc : (Cond.count 1).before args s = true := hs _ (by decide +kernel)
  have harr : (Cond.arrayOf (.arg 0) .int).before args s = true := hs _ (by decide +kernel)
  have hle : (Cond.le (.length (.arg 0)) (.int 448)).before args s = true := hs _ (by decide +kernel)
  have hlen : (Cond.isInt (.length (.arg 0))).before args s = true := hq _ (by decide +kernel)
  have hall : (Cond.all (.arg 0) (.isInt (.elem (.arg 0) (.index 0)))).before args s = true := hq _ (by decide +kernel)
  obtain ⟨b, xs, hb, hx⟩ := State.ints_of_pre rfl harr hlen hall
  have hsm : xs.length < 2 ^ 31 := hx.choose_spec.2.2.2
  have hev : (Term.length (.arg 0)).eval args s none [] s = some (.int xs.length.toInt32) := hx.length_eval hb
  have hv := Cond.le_ints hev (show (Term.int 448).eval args s none [] s = some (.int 448) from rfl)
  have hd : xs.length.toInt32 ≤ 448 := by
    simpa [Cond.before, Cond.holds, hv] using hle
  have hN : xs.length ≤ 448 := (Int32.ofNat_le_ofNat hsm (by decide)).mp (show Int32.ofNat xs.length ≤ Int32.ofNat 448 from hd)
  exact ⟨b, xs, Cond.one_arg hc (show args[0]? = some (.ref b) from hb), hx, hN, h⟩
theorem lw_comes (l : Launch) : Comes l x (Jvm.Cond.code x code maxLocals ret :: tables_1) room_1 (fun tb e args s => Calls_1 tb e args s ∧ rest_1 tb e args s ∧ Pre_1 tb e args s)
    (fun _ _ args s o t => lw_Q args s o t) := by
  intro p e ha hc hk s m args below hf hfit hheap happ hpre
  obtain ⟨b, xs, hP⟩ := lw_pre_spec hpre.2.2 hpre.2.1
  obtain ⟨k, o, h1, h2, h3, hQ⟩ := lw_walk l b xs p e ha hc hk s m args below hf ((Spec.applies_iff_loose hf).mp happ).1 hP trivial
  exact ⟨k, o, h1, h2, h3, hQ⟩
theorem lw_frame {s t : State} {o : Outcome} {args : Array Value} (h : Framed s o t [] 600000 7302250) :
    Framed s o t (fieldLocs frame_1_writes args s ++ arrayLocs frame_1_arrays args s ++ staticLocs frame_1_statics s) 600000 7302250 := h
theorem lw_limb (L : Cond) (hL : ∀ (args : Array Value) (s t : State), L.after args s (.returned (some (.int 1))) t = true) :
    ArmFor flags0 classFile x code maxLocals ret World_1 tables_1 room_1 Calls_1 rest_1 Pre_1
      (fun tb e a s o t => postC L tb e a s o t ∧ Framed s o t (fieldLocs frame_1_writes a s ++ arrayLocs frame_1_arrays a s ++ staticLocs frame_1_statics s) 600000 7302250) := by
  intro l _ _ _ p e ha hc hk s m args below hf hfit hheap happ hpre
  obtain ⟨k, o, h1, h2, h3, rfl, hF⟩ := lw_comes l p e ha hc hk s m args below hf hfit hheap happ hpre
  exact ⟨k, _, h1, h2, h3, hL args s _, lw_frame hF⟩
theorem i_vc : Claimed_1_1 ∧ Claimed_1_2 := ⟨lw_limb limb_1_1 (fun args s t => by simp [limb_1_1, Cond.after, Cond.holds, Cond.value]), lw_limb limb_1_2 (fun args s t => Cond.after_iff.mpr (by
  first | (rw [show limb_1_2 = Cond.eq .result (.int 1) from rfl, Cond.eq_ints (x := 1) (y := 1) rfl rfl]; simp; done) | (simp [limb_1_2, Cond.value, Term.eval]; done)))⟩
