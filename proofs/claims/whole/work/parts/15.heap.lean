theorem cpN_in : Cond.native arraycopyName ∈ lw_g := gd 303 (by decide +kernel) (by decide +kernel)
theorem cpS_in : Cond.static arraycopyName ∈ lw_g := gd 302 (by decide +kernel) (by decide +kernel)
theorem cpI_in : Cond.initialized "java/lang/System" ∈ lw_g := gd 10 (by decide +kernel) (by decide +kernel)
theorem ai_in : Cond.arrayClass .int ∈ lw_g := gd 47 (by decide +kernel) (by decide +kernel)
theorem az_in : Cond.arrayClass .boolean ∈ lw_g := gd 46 (by decide +kernel) (by decide +kernel)
/-! THE HEAP AS NUMBERS: a shape sk, and what the int slots hold, g -/
abbrev SK : Type := (Nat × List (Option Value)) ⊕ (FieldType × Nat × Option (Nat → Option Nat))
def slotV (gi : Nat → Int32) : Nat → List (Option Value) → List Value
  | _, [] => []
  | k, none :: t => .int (gi k) :: slotV gi (k + 1) t
  | k, some v :: t => v :: slotV gi (k + 1) t
def cellOf (s : SK) (gi : Nat → Int32) : SC := match s with
  | .inl o => .inl (o.1, slotV gi 0 o.2)
  | .inr (ty, n, none) => .inr (ty, n, .inl gi)
  | .inr (ty, n, some f) => .inr (ty, n, .inr (.inr (.inr (.inr f))))
def HP (sk : Nat → SK) (g : Nat → Nat → Int32) (n : Nat) : SH := (fun i => cellOf (sk i) (g i), n)
def gset (g : Nat → Nat → Int32) (i k : Nat) (v : Int32) : Nat → Nat → Int32 := va_up g i (upd (g i) k v)
theorem slotV_get (gi : Nat → Int32) : ∀ (L : List (Option Value)) (k j : Nat), (slotV gi k L)[j]? = (L[j]?).map (fun o => o.getD (.int (gi (k + j))))
  | [], k, j => by simp [slotV]
  | none :: t, k, 0 => by simp [slotV]
  | some v :: t, k, 0 => by simp [slotV]
  | none :: t, k, j + 1 => by
    show (slotV gi (k + 1) t)[j]? = _
    rw [slotV_get gi t (k + 1) j, show k + 1 + j = k + (j + 1) by omega]
    simp
  | some v :: t, k, j + 1 => by
    show (slotV gi (k + 1) t)[j]? = _
    rw [slotV_get gi t (k + 1) j, show k + 1 + j = k + (j + 1) by omega]
    simp
theorem slotV_len (gi : Nat → Int32) : ∀ (L : List (Option Value)) (k : Nat), (slotV gi k L).length = L.length
  | [], _ => rfl
  | none :: t, k => by simp [slotV, slotV_len gi t]
  | some v :: t, k => by simp [slotV, slotV_len gi t]
theorem slotV_setI {gi : Nat → Int32} {L : List (Option Value)} {k : Nat} {v : Int32} (h : L[k]? = some none) : (slotV gi 0 L).set k (.int v) = slotV (upd gi k v) 0 L := by
  apply List.ext_getElem?
  intro j
  rw [List.getElem?_set, slotV_get, slotV_get, slotV_len]
  by_cases e : k = j
  · subst e
    have hl := (List.getElem?_eq_some_iff.mp h).1
    simp [hl, h, upd]
    have h3 : L[k] = none := by
      have := List.getElem?_eq_getElem hl
      rw [h] at this
      exact (Option.some.inj this).symm
    rw [h3]
    rfl
  · have e2 : ¬ j = k := fun q => e q.symm
    simp [e, upd, e2]
theorem slotV_setV {gi : Nat → Int32} {L : List (Option Value)} {k : Nat} {v : Value} (h : k < L.length) : (slotV gi 0 L).set k v = slotV gi 0 (L.set k (some v)) := by
  apply List.ext_getElem?
  intro j
  rw [List.getElem?_set, slotV_get, slotV_get, slotV_len, List.getElem?_set]
  by_cases e : k = j
  · subst e
    simp [h]
  · simp [e]
theorem HP_set {sk : Nat → SK} {g : Nat → Nat → Int32} {n i : Nat} {c : SC} {s2 : SK} {gi : Nat → Int32} (h : c = cellOf s2 gi) : hset (HP sk g n) i c = HP (va_up sk i s2) (va_up g i gi) n := by
  subst h
  refine Prod.ext (funext fun j => ?_) rfl
  show va_up (fun a => cellOf (sk a) (g a)) i (cellOf s2 gi) j = cellOf (va_up sk i s2 j) (va_up g i gi j)
  by_cases e : j = i
  · simp [va_up, e]
  · simp [va_up, e]
theorem HP_setg {sk : Nat → SK} {g : Nat → Nat → Int32} {n i : Nat} {c : SC} {gi : Nat → Int32} (h : c = cellOf (sk i) gi) : hset (HP sk g n) i c = HP sk (va_up g i gi) n := by
  rw [HP_set h]
  congr 1
  funext j
  by_cases e : j = i
  · simp [va_up, e]
  · simp [va_up, e]
theorem HP_sets {sk : Nat → SK} {g : Nat → Nat → Int32} {n i : Nat} {c : SC} {s2 : SK} (h : c = cellOf s2 (g i)) : hset (HP sk g n) i c = HP (va_up sk i s2) g n := by
  rw [HP_set h]
  congr 1
  funext j
  by_cases e : j = i
  · simp [va_up, e]
  · simp [va_up, e]
theorem HP_new {sk : Nat → SK} {g : Nat → Nat → Int32} {n : Nat} {c : SC} {s2 : SK} {gi : Nat → Int32} (h : c = cellOf s2 gi) : hnew (HP sk g n) c = HP (va_up sk (n + 4) s2) (va_up g (n + 4) gi) (n + 1) := by
  subst h
  refine Prod.ext (funext fun j => ?_) rfl
  show va_up (fun a => cellOf (sk a) (g a)) (n + 4) (cellOf s2 gi) j = cellOf (va_up sk (n + 4) s2 j) (va_up g (n + 4) gi j)
  by_cases e : j = n + 4
  · simp [va_up, e]
  · simp [va_up, e]
def isO (sk : Nat → SK) (n i ci : Nat) (L : List (Option Value)) : Prop := 4 ≤ i ∧ i < n + 4 ∧ sk i = .inl (ci, L)
def isA (sk : Nat → SK) (n i : Nat) (ty : FieldType) (len : Nat) : Prop := 4 ≤ i ∧ i < n + 4 ∧ sk i = .inr (ty, len, none)
def isR (sk : Nat → SK) (n i : Nat) (ty : FieldType) (len : Nat) (f : Nat → Option Nat) : Prop := 4 ≤ i ∧ i < n + 4 ∧ sk i = .inr (ty, len, some f)
def isX (sk : Nat → SK) (i len : Nat) : Prop := i < 4 ∧ sk i = .inr (.int, len, none)
theorem isO.h {sk : Nat → SK} {n i ci : Nat} {L : List (Option Value)} (o : isO sk n i ci L) (g : Nat → Nat → Int32) : hob (HP sk g n) i ci (slotV (g i) 0 L) := ⟨o.1, o.2.1, by show cellOf (sk i) (g i) = _; rw [o.2.2]; rfl⟩
theorem isA.h {sk : Nat → SK} {n i len : Nat} {ty : FieldType} (o : isA sk n i ty len) (g : Nat → Nat → Int32) : har (HP sk g n) i ty (len, .inl (g i)) := ⟨o.1, o.2.1, by show cellOf (sk i) (g i) = _; rw [o.2.2]; rfl⟩
theorem isR.h {sk : Nat → SK} {n i len : Nat} {ty : FieldType} {f : Nat → Option Nat} (o : isR sk n i ty len f) (g : Nat → Nat → Int32) : har (HP sk g n) i ty (len, .inr (.inr (.inr (.inr f)))) := ⟨o.1, o.2.1, by show cellOf (sk i) (g i) = _; rw [o.2.2]; rfl⟩
theorem isX.h {sk : Nat → SK} {i len : Nat} (o : isX sk i len) (g : Nat → Nat → Int32) (n : Nat) : hxa (HP sk g n) i len (g i) := ⟨o.1, by show cellOf (sk i) (g i) = _; rw [o.2]; rfl⟩
theorem nIc {k : Nat} (h : k < 2 ^ 31) : (nI k).toNatClampNeg = k := nI_clamp h
section GRows
variable {M : MI} {d kc ks pc pc2 : Nat} {ls : List (Nat × Value)} {st : List Value} {sk : Nat → SK} {g : Nat → Nat → Int32} {n : Nat} {Q : Option Value → SH → Prop}

theorem G_getI {idx ci kf i : Nat} {L : List (Option Value)} {v : Int32} (hf : decode M.2.1 pc = .ok (.getfield idx, 3)) (hl : FL M.1.cls idx ci kf) (ho : isO sk n i ci L) (hL : L[kf]? = some none) (hv : g i kf = v) (hp : pc + 3 = pc2) (k : T M d kc ks pc2 ls (.int v :: st) (HP sk g n) Q) : T M d kc ks pc ls (.ref i :: st) (HP sk g n) Q :=
  T_getfield hf hl (ho.h g) (by rw [slotV_get, hL]; show some (Value.int (g i (0 + kf))) = some (Value.int v); rw [Nat.zero_add, hv]) hp k
theorem G_getR {idx ci kf i : Nat} {L : List (Option Value)} {v : Value} (hf : decode M.2.1 pc = .ok (.getfield idx, 3)) (hl : FL M.1.cls idx ci kf) (ho : isO sk n i ci L) (hL : L[kf]? = some (some v)) (hp : pc + 3 = pc2) (k : T M d kc ks pc2 ls (v :: st) (HP sk g n) Q) : T M d kc ks pc ls (.ref i :: st) (HP sk g n) Q :=
  T_getfield hf hl (ho.h g) (by rw [slotV_get, hL]; rfl) hp k
theorem G_putI {idx ci kf i : Nat} {L : List (Option Value)} {v : Int32} (hf : decode M.2.1 pc = .ok (.putfield idx, 3)) (hl : FL M.1.cls idx ci kf) (ho : isO sk n i ci L) (hL : L[kf]? = some none) (hfin : (TT ci kf).2.2.2 = false) (hty : tyT ci kf = .int) (hp : pc + 3 = pc2) (k : T M d kc ks pc2 ls st (HP sk (gset g i kf v) n) Q) : T M d kc ks pc ls (.int v :: .ref i :: st) (HP sk g n) Q := by
  refine T_putfield hf hl (ho.h g) hfin (fun a => by rw [hty]; rfl) (fun a => by rw [hty]; rfl) (by rw [slotV_len]; exact (List.getElem?_eq_some_iff.mp hL).1) hp ?_
  rw [HP_setg (gi := upd (g i) kf v) (by rw [ho.2.2, slotV_setI hL]; rfl)]
  exact k
theorem G_putL {idx ci kf i : Nat} {L : List (Option Value)} {v : Int64} (hf : decode M.2.1 pc = .ok (.putfield idx, 3)) (hl : FL M.1.cls idx ci kf) (ho : isO sk n i ci L) (hL : kf < L.length) (hfin : (TT ci kf).2.2.2 = false) (hty : tyT ci kf = .long) (hp : pc + 3 = pc2) (k : T M d kc ks pc2 ls st (HP (va_up sk i (.inl (ci, L.set kf (some (.long v))))) g n) Q) : T M d kc ks pc ls (.long v :: .ref i :: st) (HP sk g n) Q := by
  refine T_putfield hf hl (ho.h g) hfin (fun a => by rw [hty]; rfl) (fun a => by rw [hty]; rfl) (by rw [slotV_len]; exact hL) hp ?_
  rw [HP_sets (s2 := .inl (ci, L.set kf (some (.long v)))) (by rw [slotV_setV hL]; rfl)]
  exact k
theorem G_putR {idx ci kf i q : Nat} {L : List (Option Value)} (hf : decode M.2.1 pc = .ok (.putfield idx, 3)) (hl : FL M.1.cls idx ci kf) (ho : isO sk n i ci L) (hL : kf < L.length) (hfin : (TT ci kf).2.2.2 = true) (hin2 : M.1.name = "<init>") (hdecl : (TT ci kf).1 = M.1.cls) (hty : (tyT ci kf).isReference = true) (hp : pc + 3 = pc2) (k : T M d kc ks pc2 ls st (HP (va_up sk i (.inl (ci, L.set kf (some (.ref q))))) g n) Q) : T M d kc ks pc ls (.ref q :: .ref i :: st) (HP sk g n) Q := by
  refine T_putfinal hf hl (ho.h g) hfin hin2 hdecl (fun a => by show narrow _ (Value.ref (a q)) = Value.ref (a q); cases hq : tyT ci kf <;> rw [hq] at hty <;> first | rfl | cases hty) (fun a => by show fits _ (Value.ref (a q)) = true; cases hq : tyT ci kf <;> rw [hq] at hty <;> first | rfl | cases hty) (by rw [slotV_len]; exact hL) hp ?_
  rw [HP_sets (s2 := .inl (ci, L.set kf (some (.ref q)))) (by rw [slotV_setV hL]; rfl)]
  exact k
theorem G_iald {i len k : Nat} {v : Int32} (hf : decode M.2.1 pc = .ok (.iaload, 1)) (ho : isA sk n i .int len) (hk : k < len) (hlen : len < 2 ^ 31) (hv : g i k = v) (hp : pc + 1 = pc2) (kk : T M d kc ks pc2 ls (.int v :: st) (HP sk g n) Q) : T M d kc ks pc ls (.int (nI k) :: .ref i :: st) (HP sk g n) Q :=
  T_iaload hf (ho.h g) (vp_in_nI hk hlen) hp (by rw [nIc (by omega), hv]; exact kk)
theorem G_bald {i len k : Nat} {v : Int32} (hf : decode M.2.1 pc = .ok (.baload, 1)) (ho : isA sk n i .boolean len) (hk : k < len) (hlen : len < 2 ^ 31) (hv : g i k = v) (hp : pc + 1 = pc2) (kk : T M d kc ks pc2 ls (.int v :: st) (HP sk g n) Q) : T M d kc ks pc ls (.int (nI k) :: .ref i :: st) (HP sk g n) Q :=
  T_baload hf (ho.h g) (vp_in_nI hk hlen) hp (by rw [nIc (by omega), hv]; exact kk)
theorem G_xald {i len k : Nat} {v : Int32} (hf : decode M.2.1 pc = .ok (.iaload, 1)) (ho : isX sk i len) (hk : k < len) (hlen : len < 2 ^ 31) (hv : g i k = v) (hp : pc + 1 = pc2) (kk : T M d kc ks pc2 ls (.int v :: st) (HP sk g n) Q) : T M d kc ks pc ls (.int (nI k) :: .ref i :: st) (HP sk g n) Q :=
  T_xaload hf (ho.h g n) (vp_in_nI hk hlen) hp (by rw [nIc (by omega), hv]; exact kk)
theorem G_aald {i len k : Nat} {ty : FieldType} {f : Nat → Option Nat} {r : Option Nat} (hf : decode M.2.1 pc = .ok (.aaload, 1)) (ho : isR sk n i ty len f) (hty : ty.isReference = true) (hk : k < len) (hlen : len < 2 ^ 31) (hv : f k = r) (hp : pc + 1 = pc2) (kk : T M d kc ks pc2 ls (va_rf r :: st) (HP sk g n) Q) : T M d kc ks pc ls (.int (nI k) :: .ref i :: st) (HP sk g n) Q :=
  T_aaload hf (ho.h g) hty (vp_in_nI hk hlen) hp (by rw [nIc (by omega), hv]; exact kk)
theorem G_iast {i len k : Nat} {v : Int32} (hf : decode M.2.1 pc = .ok (.iastore, 1)) (ho : isA sk n i .int len) (hk : k < len) (hlen : len < 2 ^ 31) (hp : pc + 1 = pc2) (kk : T M d kc ks pc2 ls st (HP sk (gset g i k v) n) Q) : T M d kc ks pc ls (.int v :: .int (nI k) :: .ref i :: st) (HP sk g n) Q := by
  refine T_iastore hf (ho.h g) (vp_in_nI hk hlen) hp ?_
  rw [nIc (by omega), HP_setg (gi := upd (g i) k v) (by rw [ho.2.2]; rfl)]
  exact kk
theorem G_bast {i len k : Nat} {v : Int32} (hf : decode M.2.1 pc = .ok (.bastore, 1)) (ho : isA sk n i .boolean len) (hk : k < len) (hlen : len < 2 ^ 31) (hn : vp_nar .boolean v = v) (hp : pc + 1 = pc2) (kk : T M d kc ks pc2 ls st (HP sk (gset g i k v) n) Q) : T M d kc ks pc ls (.int v :: .int (nI k) :: .ref i :: st) (HP sk g n) Q := by
  refine T_bastore hf (ho.h g) (vp_in_nI hk hlen) hp ?_
  rw [nIc (by omega), hn, HP_setg (gi := upd (g i) k v) (by rw [ho.2.2]; rfl)]
  exact kk
theorem G_aast {i len k q ci : Nat} {f : Nat → Option Nat} {L : List (Option Value)} (hf : decode M.2.1 pc = .ok (.aastore, 1)) (hci : ci < 9) (ho : isR sk n i (.object (RR ci)) len f) (hq : isO sk n q ci L) (hk : k < len) (hlen : len < 2 ^ 31) (hp : pc + 1 = pc2) (kk : T M d kc ks pc2 ls st (HP (va_up sk i (.inr (.object (RR ci), len, some (va_up f k (some q))))) g n) Q) : T M d kc ks pc ls (.ref q :: .int (nI k) :: .ref i :: st) (HP sk g n) Q := by
  refine T_aastore hf hci (ho.h g) (hq.h g) (vp_in_nI hk hlen) hp ?_
  rw [nIc (by omega)]
  show T M d kc ks pc2 ls st (hset (HP sk g n) i (cellOf (.inr (.object (RR ci), len, some (va_up f k (some q)))) (g i))) Q
  rw [HP_sets rfl]
  exact kk
theorem G_new {idx ci : Nat} {L : List (Option Value)} (hf : decode M.2.1 pc = .ok (.new idx, 3)) (hci : ci < 9) (hcl : Cond.classLink M.1.cls idx (RR ci) ∈ lw_g) (hins : Cond.instantiable (RR ci) (NN ci) ∈ lw_g) (hini : Cond.initialized (RR ci) ∈ lw_g) (hfs : ∀ a j, j < NN ci → defaultValue (tyT ci j) = vp_V ((slotV (fun _ => 0) 0 L).map (trV a)) j) (hp : pc + 3 = pc2) (k : T M d kc ks pc2 ls (.ref (n + 4) :: st) (HP (va_up sk (n + 4) (.inl (ci, L))) (va_up g (n + 4) (fun _ => 0)) (n + 1)) Q) : T M d (kc + 1) (ks + NN ci) pc ls st (HP sk g n) Q := by
  refine T_new (fs := slotV (fun _ => 0) 0 L) hf hci hcl hins hini hfs hp ?_
  show T M d kc ks pc2 ls (.ref (n + 4) :: st) (hnew (HP sk g n) (cellOf (.inl (ci, L)) (fun _ => 0))) Q
  rw [HP_new rfl]
  exact k
theorem G_newi {N : Nat} (hf : decode M.2.1 pc = .ok (.newarray .int, 2)) (harr : Cond.arrayClass .int ∈ lw_g) (hN : N < 1000000) (hp : pc + 2 = pc2) (k : T M d kc ks pc2 ls (.ref (n + 4) :: st) (HP (va_up sk (n + 4) (.inr (.int, N, none))) (va_up g (n + 4) (fun _ => 0)) (n + 1)) Q) : T M d (kc + 1) (ks + N) pc ls (.int (nI N) :: st) (HP sk g n) Q := by
  refine T_newarray (a0 := (N, .inl (fun _ => 0))) hf harr rfl (fun cA a => rfl) (nI_pos (by omega)) (nI_clamp (by omega)) (by show N * 4 ≤ _; omega) hp ?_
  show T M d kc ks pc2 ls (.ref (n + 4) :: st) (hnew (HP sk g n) (cellOf (.inr (.int, N, none)) (fun _ => 0))) Q
  rw [HP_new rfl]
  exact k
theorem G_newz {N : Nat} (hf : decode M.2.1 pc = .ok (.newarray .boolean, 2)) (harr : Cond.arrayClass .boolean ∈ lw_g) (hN : N < 1000000) (hp : pc + 2 = pc2) (k : T M d kc ks pc2 ls (.ref (n + 4) :: st) (HP (va_up sk (n + 4) (.inr (.boolean, N, none))) (va_up g (n + 4) (fun _ => 0)) (n + 1)) Q) : T M d (kc + 1) (ks + N) pc ls (.int (nI N) :: st) (HP sk g n) Q := by
  refine T_newarray (a0 := (N, .inl (fun _ => 0))) hf harr rfl (fun cA a => rfl) (nI_pos (by omega)) (nI_clamp (by omega)) (by show N * 1 ≤ _; omega) hp ?_
  show T M d kc ks pc2 ls (.ref (n + 4) :: st) (hnew (HP sk g n) (cellOf (.inr (.boolean, N, none)) (fun _ => 0))) Q
  rw [HP_new rfl]
  exact k
theorem G_newq {idx N : Nat} (hf : decode M.2.1 pc = .ok (.anewarray idx, 3)) (hcl : Cond.classLink M.1.cls idx RX2 ∈ lw_g) (hN : N < 1000000) (hp : pc + 3 = pc2) (k : T M d kc ks pc2 ls (.ref (n + 4) :: st) (HP (va_up sk (n + 4) (.inr (.object RX2, N, some (fun _ => none)))) (va_up g (n + 4) (fun _ => 0)) (n + 1)) Q) : T M d (kc + 1) (ks + N) pc ls (.int (nI N) :: st) (HP sk g n) Q := by
  refine T_anewarray hf hcl (nI_pos (by omega)) (nI_clamp (by omega)) (by omega) hp ?_
  show T M d kc ks pc2 ls (.ref (n + 4) :: st) (hnew (HP sk g n) (cellOf (.inr (.object RX2, N, some (fun _ => none))) (fun _ => 0))) Q
  rw [HP_new rfl]
  exact k
theorem G_copy {idx i0 i1 n0 n1 a b c : Nat} (hf : decode M.2.1 pc = .ok (.invokestatic idx, 3)) (hlk : Cond.methodLink M.1.cls idx arraycopyName ∈ lw_g) (ho0 : isA sk n i0 .int n0) (ho1 : isA sk n i1 .int n1) (h0 : n0 < 2 ^ 31) (h1 : n1 < 2 ^ 31) (h4 : a + c ≤ n0) (h5 : b + c ≤ n1) (hst : (st.map fun v => v.category).sum ≤ 8) (hp : pc + 3 = pc2)
    (k : T M d kc ks pc2 ls st (HP sk (va_up g i1 (va_cpy (g i0) (g i1) a b c)) n) Q) : T M d kc ks pc ls (.int (nI c) :: .int (nI b) :: .ref i1 :: .int (nI a) :: .ref i0 :: st) (HP sk g n) Q := by
  refine T_arraycopy hf hlk cpN_in cpS_in cpI_in (ho0.h g) (ho1.h g) (nI_pos (by omega)) (nI_pos (by omega)) (nI_pos (by omega)) (by rw [nIc (by omega), nIc (by omega)]; exact h4) (by rw [nIc (by omega), nIc (by omega)]; exact h5) hst hp ?_
  rw [nIc (by omega), nIc (by omega), nIc (by omega), HP_setg (gi := va_cpy (g i0) (g i1) a b c) (by rw [ho1.2.2]; rfl)]
  exact k
end GRows
section NRows
variable {M : MI} {d kc ks pc pc2 : Nat} {ls : List (Nat × Value)} {st : List Value} {h : SH} {Q : Option Value → SH → Prop}
theorem N_iadd {x y : Int32} {a b : Nat} (hf : decode M.2.1 pc = .ok (.iadd, 1)) (hx : x = nI a) (hy : y = nI b) (hp : pc + 1 = pc2) (k : T M d kc ks pc2 ls (.int (nI (a + b)) :: st) h Q) : T M d kc ks pc ls (.int y :: .int x :: st) h Q := T_iadd hf hp (by rw [hx, hy, nI_add]; exact k)
theorem N_imul {x y : Int32} {a b : Nat} (hf : decode M.2.1 pc = .ok (.imul, 1)) (hx : x = nI a) (hy : y = nI b) (hp : pc + 1 = pc2) (k : T M d kc ks pc2 ls (.int (nI (a * b)) :: st) h Q) : T M d kc ks pc ls (.int y :: .int x :: st) h Q := T_imul hf hp (by rw [hx, hy, pk_mul]; exact k)
theorem N_isub {x y : Int32} {a b : Nat} (hf : decode M.2.1 pc = .ok (.isub, 1)) (hx : x = nI a) (hy : y = nI b) (hab : b ≤ a) (hp : pc + 1 = pc2) (k : T M d kc ks pc2 ls (.int (nI (a - b)) :: st) h Q) : T M d kc ks pc ls (.int y :: .int x :: st) h Q := T_isub hf hp (by rw [hx, hy, pk_sub hab]; exact k)
theorem N_iinc {x : Int32} {i a m : Nat} {n : Int} (hf : decode M.2.1 pc = .ok (.iinc i n, 3)) (hl : ls.lookup i = some (.int x)) (hx : x = nI a) (hm : Int32.ofInt n = nI m) (hn : i < M.2.2.1) (hp : pc + 3 = pc2) (k : T M d kc ks pc2 (lset i (.int (nI (a + m))) ls) st h Q) : T M d kc ks pc ls st h Q := T_iinc hf hl (by rw [hm, hx, nI_add]) hn hp k
theorem N_icmpeq {x y : Int32} {a b : Nat} {off : Int} {tgt : Nat} (hf : decode M.2.1 pc = .ok (.if_icmp .eq off, 3)) (ht : (pc : Int) + off = (tgt : Int)) (hx : x = nI a) (hy : y = nI b) (ha : a < 2 ^ 31) (hb : b < 2 ^ 31) (hp : pc + 3 = pc2) (kt : a = b → T M d kc ks tgt ls st h Q) (kf : ¬ a = b → T M d kc ks pc2 ls st h Q) : T M d kc ks pc ls (.int y :: .int x :: st) h Q := by
  subst hx
  subst hy
  exact T_icmpeq hf ht hp (fun z => kt ((nI_eq ha hb).mp z)) (fun z => kf (fun w => z ((nI_eq ha hb).mpr w)))
theorem N_icmpne {x y : Int32} {a b : Nat} {off : Int} {tgt : Nat} (hf : decode M.2.1 pc = .ok (.if_icmp .ne off, 3)) (ht : (pc : Int) + off = (tgt : Int)) (hx : x = nI a) (hy : y = nI b) (ha : a < 2 ^ 31) (hb : b < 2 ^ 31) (hp : pc + 3 = pc2) (kt : ¬ a = b → T M d kc ks tgt ls st h Q) (kf : a = b → T M d kc ks pc2 ls st h Q) : T M d kc ks pc ls (.int y :: .int x :: st) h Q := by
  subst hx
  subst hy
  exact T_icmpne hf ht hp (fun z => kt (fun w => z ((nI_eq ha hb).mpr w))) (fun z => kf ((nI_eq ha hb).mp z))
theorem N_icmplt {x y : Int32} {a b : Nat} {off : Int} {tgt : Nat} (hf : decode M.2.1 pc = .ok (.if_icmp .lt off, 3)) (ht : (pc : Int) + off = (tgt : Int)) (hx : x = nI a) (hy : y = nI b) (ha : a < 2 ^ 31) (hb : b < 2 ^ 31) (hp : pc + 3 = pc2) (kt : a < b → T M d kc ks tgt ls st h Q) (kf : ¬ a < b → T M d kc ks pc2 ls st h Q) : T M d kc ks pc ls (.int y :: .int x :: st) h Q := by
  subst hx
  subst hy
  exact T_icmplt hf ht hp (fun z => kt ((nI_ltI ha hb).mp z)) (fun z => kf (fun w => z ((nI_ltI ha hb).mpr w)))
theorem N_icmpge {x y : Int32} {a b : Nat} {off : Int} {tgt : Nat} (hf : decode M.2.1 pc = .ok (.if_icmp .ge off, 3)) (ht : (pc : Int) + off = (tgt : Int)) (hx : x = nI a) (hy : y = nI b) (ha : a < 2 ^ 31) (hb : b < 2 ^ 31) (hp : pc + 3 = pc2) (kt : b ≤ a → T M d kc ks tgt ls st h Q) (kf : ¬ b ≤ a → T M d kc ks pc2 ls st h Q) : T M d kc ks pc ls (.int y :: .int x :: st) h Q := by
  subst hx
  subst hy
  exact T_icmpge hf ht hp (fun z => kt ((nI_leI hb ha).mp z)) (fun z => kf (fun w => z ((nI_leI hb ha).mpr w)))
theorem N_icmpgt {x y : Int32} {a b : Nat} {off : Int} {tgt : Nat} (hf : decode M.2.1 pc = .ok (.if_icmp .gt off, 3)) (ht : (pc : Int) + off = (tgt : Int)) (hx : x = nI a) (hy : y = nI b) (ha : a < 2 ^ 31) (hb : b < 2 ^ 31) (hp : pc + 3 = pc2) (kt : b < a → T M d kc ks tgt ls st h Q) (kf : ¬ b < a → T M d kc ks pc2 ls st h Q) : T M d kc ks pc ls (.int y :: .int x :: st) h Q := by
  subst hx
  subst hy
  exact T_icmpgt hf ht hp (fun z => kt ((nI_ltI hb ha).mp z)) (fun z => kf (fun w => z ((nI_ltI hb ha).mpr w)))
theorem N_icmple {x y : Int32} {a b : Nat} {off : Int} {tgt : Nat} (hf : decode M.2.1 pc = .ok (.if_icmp .le off, 3)) (ht : (pc : Int) + off = (tgt : Int)) (hx : x = nI a) (hy : y = nI b) (ha : a < 2 ^ 31) (hb : b < 2 ^ 31) (hp : pc + 3 = pc2) (kt : a ≤ b → T M d kc ks tgt ls st h Q) (kf : ¬ a ≤ b → T M d kc ks pc2 ls st h Q) : T M d kc ks pc ls (.int y :: .int x :: st) h Q := by
  subst hx
  subst hy
  exact T_icmple hf ht hp (fun z => kt ((nI_leI ha hb).mp z)) (fun z => kf (fun w => z ((nI_leI ha hb).mpr w)))
end NRows
