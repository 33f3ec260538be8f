section TRows
variable {M : MI} {d kc ks pc pc2 : Nat} {ls : List (Nat × Value)} {st : List Value} {h : SH} {Q : Option Value → SH → Prop}
theorem T_iconst {n : Int} {v : Int32} (hf : decode M.2.1 pc = .ok (.iconst n, 1)) (hv : Int32.ofInt n = v) (hp : pc + 1 = pc2) (k : T M d kc ks pc2 ls (.int v :: st) h Q) : T M d kc ks pc ls (st) h Q := by
  subst hp
  intro p l e R s m args below meth c Z D base x E H locs cells slots ca tys lsA F Y L
  exact lv_iconst F.1 F.2.1 hf hv (k p l e R s m args below meth c Z D base x E H locs cells slots ca tys lsA F Y L)
theorem T_bipush {n : Int} {v : Int32} (hf : decode M.2.1 pc = .ok (.bipush n, 2)) (hv : (Int8.ofInt n).toInt32 = v) (hp : pc + 2 = pc2) (k : T M d kc ks pc2 ls (.int v :: st) h Q) : T M d kc ks pc ls (st) h Q := by
  subst hp
  intro p l e R s m args below meth c Z D base x E H locs cells slots ca tys lsA F Y L
  exact lv_bipush F.1 F.2.1 hf hv (k p l e R s m args below meth c Z D base x E H locs cells slots ca tys lsA F Y L)
theorem T_sipush {n : Int} {v : Int32} (hf : decode M.2.1 pc = .ok (.sipush n, 3)) (hv : (Int16.ofInt n).toInt32 = v) (hp : pc + 3 = pc2) (k : T M d kc ks pc2 ls (.int v :: st) h Q) : T M d kc ks pc ls (st) h Q := by
  subst hp
  intro p l e R s m args below meth c Z D base x E H locs cells slots ca tys lsA F Y L
  exact lv_sipush F.1 F.2.1 hf hv (k p l e R s m args below meth c Z D base x E H locs cells slots ca tys lsA F Y L)
theorem T_lconst {n : Fin 2} {v : Int64} (hf : decode M.2.1 pc = .ok (.lconst n, 1)) (hv : Int64.ofNat (n : Nat) = v) (hp : pc + 1 = pc2) (k : T M d kc ks pc2 ls (.long v :: st) h Q) : T M d kc ks pc ls (st) h Q := by
  subst hp
  intro p l e R s m args below meth c Z D base x E H locs cells slots ca tys lsA F Y L
  exact lv_lconst F.1 F.2.1 hf hv (k p l e R s m args below meth c Z D base x E H locs cells slots ca tys lsA F Y L)
theorem T_iadd {a b : Int32} (hf : decode M.2.1 pc = .ok (.iadd, 1)) (hp : pc + 1 = pc2) (k : T M d kc ks pc2 ls (.int (a + b) :: st) h Q) : T M d kc ks pc ls (.int b :: .int a :: st) h Q := by
  subst hp
  intro p l e R s m args below meth c Z D base x E H locs cells slots ca tys lsA F Y L
  exact lv_iadd F.1 F.2.1 hf (k p l e R s m args below meth c Z D base x E H locs cells slots ca tys lsA F Y L)
theorem T_isub {a b : Int32} (hf : decode M.2.1 pc = .ok (.isub, 1)) (hp : pc + 1 = pc2) (k : T M d kc ks pc2 ls (.int (a - b) :: st) h Q) : T M d kc ks pc ls (.int b :: .int a :: st) h Q := by
  subst hp
  intro p l e R s m args below meth c Z D base x E H locs cells slots ca tys lsA F Y L
  exact lv_isub F.1 F.2.1 hf (k p l e R s m args below meth c Z D base x E H locs cells slots ca tys lsA F Y L)
theorem T_imul {a b : Int32} (hf : decode M.2.1 pc = .ok (.imul, 1)) (hp : pc + 1 = pc2) (k : T M d kc ks pc2 ls (.int (a * b) :: st) h Q) : T M d kc ks pc ls (.int b :: .int a :: st) h Q := by
  subst hp
  intro p l e R s m args below meth c Z D base x E H locs cells slots ca tys lsA F Y L
  exact lv_imul F.1 F.2.1 hf (k p l e R s m args below meth c Z D base x E H locs cells slots ca tys lsA F Y L)
theorem T_iand {a b : Int32} (hf : decode M.2.1 pc = .ok (.iand, 1)) (hp : pc + 1 = pc2) (k : T M d kc ks pc2 ls (.int (a &&& b) :: st) h Q) : T M d kc ks pc ls (.int b :: .int a :: st) h Q := by
  subst hp
  intro p l e R s m args below meth c Z D base x E H locs cells slots ca tys lsA F Y L
  exact lv_iand F.1 F.2.1 hf (k p l e R s m args below meth c Z D base x E H locs cells slots ca tys lsA F Y L)
theorem T_ior {a b : Int32} (hf : decode M.2.1 pc = .ok (.ior, 1)) (hp : pc + 1 = pc2) (k : T M d kc ks pc2 ls (.int (a ||| b) :: st) h Q) : T M d kc ks pc ls (.int b :: .int a :: st) h Q := by
  subst hp
  intro p l e R s m args below meth c Z D base x E H locs cells slots ca tys lsA F Y L
  exact lv_ior F.1 F.2.1 hf (k p l e R s m args below meth c Z D base x E H locs cells slots ca tys lsA F Y L)
theorem T_ixor {a b : Int32} (hf : decode M.2.1 pc = .ok (.ixor, 1)) (hp : pc + 1 = pc2) (k : T M d kc ks pc2 ls (.int (a ^^^ b) :: st) h Q) : T M d kc ks pc ls (.int b :: .int a :: st) h Q := by
  subst hp
  intro p l e R s m args below meth c Z D base x E H locs cells slots ca tys lsA F Y L
  exact lv_ixor F.1 F.2.1 hf (k p l e R s m args below meth c Z D base x E H locs cells slots ca tys lsA F Y L)
theorem T_ishl {a b : Int32} (hf : decode M.2.1 pc = .ok (.ishl, 1)) (hp : pc + 1 = pc2) (k : T M d kc ks pc2 ls (.int (a <<< (b &&& 31)) :: st) h Q) : T M d kc ks pc ls (.int b :: .int a :: st) h Q := by
  subst hp
  intro p l e R s m args below meth c Z D base x E H locs cells slots ca tys lsA F Y L
  exact lv_ishl F.1 F.2.1 hf (k p l e R s m args below meth c Z D base x E H locs cells slots ca tys lsA F Y L)
theorem T_ishr {a b : Int32} (hf : decode M.2.1 pc = .ok (.ishr, 1)) (hp : pc + 1 = pc2) (k : T M d kc ks pc2 ls (.int (a >>> (b &&& 31)) :: st) h Q) : T M d kc ks pc ls (.int b :: .int a :: st) h Q := by
  subst hp
  intro p l e R s m args below meth c Z D base x E H locs cells slots ca tys lsA F Y L
  exact lv_ishr F.1 F.2.1 hf (k p l e R s m args below meth c Z D base x E H locs cells slots ca tys lsA F Y L)
theorem T_iushr {a b : Int32} (hf : decode M.2.1 pc = .ok (.iushr, 1)) (hp : pc + 1 = pc2) (k : T M d kc ks pc2 ls (.int ((a.toUInt32 >>> (b.toUInt32 &&& Int32.toUInt32 31)).toInt32) :: st) h Q) : T M d kc ks pc ls (.int b :: .int a :: st) h Q := by
  subst hp
  intro p l e R s m args below meth c Z D base x E H locs cells slots ca tys lsA F Y L
  exact lv_iushr F.1 F.2.1 hf rfl (k p l e R s m args below meth c Z D base x E H locs cells slots ca tys lsA F Y L)
theorem T_ladd {a b : Int64} (hf : decode M.2.1 pc = .ok (.ladd, 1)) (hp : pc + 1 = pc2) (k : T M d kc ks pc2 ls (.long (a + b) :: st) h Q) : T M d kc ks pc ls (.long b :: .long a :: st) h Q := by
  subst hp
  intro p l e R s m args below meth c Z D base x E H locs cells slots ca tys lsA F Y L
  exact lv_ladd F.1 F.2.1 hf (k p l e R s m args below meth c Z D base x E H locs cells slots ca tys lsA F Y L)
theorem T_lsub {a b : Int64} (hf : decode M.2.1 pc = .ok (.lsub, 1)) (hp : pc + 1 = pc2) (k : T M d kc ks pc2 ls (.long (a - b) :: st) h Q) : T M d kc ks pc ls (.long b :: .long a :: st) h Q := by
  subst hp
  intro p l e R s m args below meth c Z D base x E H locs cells slots ca tys lsA F Y L
  exact lv_lsub F.1 F.2.1 hf (k p l e R s m args below meth c Z D base x E H locs cells slots ca tys lsA F Y L)
theorem T_lmul {a b : Int64} (hf : decode M.2.1 pc = .ok (.lmul, 1)) (hp : pc + 1 = pc2) (k : T M d kc ks pc2 ls (.long (a * b) :: st) h Q) : T M d kc ks pc ls (.long b :: .long a :: st) h Q := by
  subst hp
  intro p l e R s m args below meth c Z D base x E H locs cells slots ca tys lsA F Y L
  exact lv_lmul F.1 F.2.1 hf (k p l e R s m args below meth c Z D base x E H locs cells slots ca tys lsA F Y L)
theorem T_irem {a b : Int32} (hf : decode M.2.1 pc = .ok (.irem, 1)) (hne : ¬ b = 0) (hp : pc + 1 = pc2) (k : T M d kc ks pc2 ls (.int (a - a / b * b) :: st) h Q) : T M d kc ks pc ls (.int b :: .int a :: st) h Q := by
  subst hp
  intro p l e R s m args below meth c Z D base x E H locs cells slots ca tys lsA F Y L
  exact lv_irem F.1 F.2.1 hf hne (k p l e R s m args below meth c Z D base x E H locs cells slots ca tys lsA F Y L)
theorem T_ldiv {a b : Int64} (hf : decode M.2.1 pc = .ok (.ldiv, 1)) (hne : ¬ b = 0) (hp : pc + 1 = pc2) (k : T M d kc ks pc2 ls (.long (a / b) :: st) h Q) : T M d kc ks pc ls (.long b :: .long a :: st) h Q := by
  subst hp
  intro p l e R s m args below meth c Z D base x E H locs cells slots ca tys lsA F Y L
  exact lv_ldiv F.1 F.2.1 hf hne (k p l e R s m args below meth c Z D base x E H locs cells slots ca tys lsA F Y L)
theorem T_lrem {a b : Int64} (hf : decode M.2.1 pc = .ok (.lrem, 1)) (hne : ¬ b = 0) (hp : pc + 1 = pc2) (k : T M d kc ks pc2 ls (.long (a - a / b * b) :: st) h Q) : T M d kc ks pc ls (.long b :: .long a :: st) h Q := by
  subst hp
  intro p l e R s m args below meth c Z D base x E H locs cells slots ca tys lsA F Y L
  exact lv_lrem F.1 F.2.1 hf hne (k p l e R s m args below meth c Z D base x E H locs cells slots ca tys lsA F Y L)
theorem T_lcmp {a b : Int64} (hf : decode M.2.1 pc = .ok (.lcmp, 1)) (hp : pc + 1 = pc2) (k : T M d kc ks pc2 ls (.int (lg_cmp a b) :: st) h Q) : T M d kc ks pc ls (.long b :: .long a :: st) h Q := by
  subst hp
  intro p l e R s m args below meth c Z D base x E H locs cells slots ca tys lsA F Y L
  exact W.lcmp F.1 F.2.1 hf (k p l e R s m args below meth c Z D base x E H locs cells slots ca tys lsA F Y L)
theorem T_ineg {a : Int32} (hf : decode M.2.1 pc = .ok (.ineg, 1)) (hp : pc + 1 = pc2) (k : T M d kc ks pc2 ls (.int (-a) :: st) h Q) : T M d kc ks pc ls (.int a :: st) h Q := by
  subst hp
  intro p l e R s m args below meth c Z D base x E H locs cells slots ca tys lsA F Y L
  exact lv_ineg F.1 F.2.1 hf (k p l e R s m args below meth c Z D base x E H locs cells slots ca tys lsA F Y L)
theorem T_i2l {a : Int32} (hf : decode M.2.1 pc = .ok (.i2l, 1)) (hp : pc + 1 = pc2) (k : T M d kc ks pc2 ls (.long a.toInt64 :: st) h Q) : T M d kc ks pc ls (.int a :: st) h Q := by
  subst hp
  intro p l e R s m args below meth c Z D base x E H locs cells slots ca tys lsA F Y L
  exact lv_i2l F.1 F.2.1 hf rfl (k p l e R s m args below meth c Z D base x E H locs cells slots ca tys lsA F Y L)
theorem T_l2i {a : Int64} (hf : decode M.2.1 pc = .ok (.l2i, 1)) (hp : pc + 1 = pc2) (k : T M d kc ks pc2 ls (.int a.toInt32 :: st) h Q) : T M d kc ks pc ls (.long a :: st) h Q := by
  subst hp
  intro p l e R s m args below meth c Z D base x E H locs cells slots ca tys lsA F Y L
  exact lv_l2i F.1 F.2.1 hf rfl (k p l e R s m args below meth c Z D base x E H locs cells slots ca tys lsA F Y L)
theorem T_i2b {a : Int32} (hf : decode M.2.1 pc = .ok (.i2b, 1)) (hp : pc + 1 = pc2) (k : T M d kc ks pc2 ls (.int a.toInt8.toInt32 :: st) h Q) : T M d kc ks pc ls (.int a :: st) h Q := by
  subst hp
  intro p l e R s m args below meth c Z D base x E H locs cells slots ca tys lsA F Y L
  exact lv_i2b F.1 F.2.1 hf rfl (k p l e R s m args below meth c Z D base x E H locs cells slots ca tys lsA F Y L)
theorem T_i2s {a : Int32} (hf : decode M.2.1 pc = .ok (.i2s, 1)) (hp : pc + 1 = pc2) (k : T M d kc ks pc2 ls (.int a.toInt16.toInt32 :: st) h Q) : T M d kc ks pc ls (.int a :: st) h Q := by
  subst hp
  intro p l e R s m args below meth c Z D base x E H locs cells slots ca tys lsA F Y L
  exact lv_i2s F.1 F.2.1 hf rfl (k p l e R s m args below meth c Z D base x E H locs cells slots ca tys lsA F Y L)
theorem T_dup {v : Value} (hf : decode M.2.1 pc = .ok (.dup, 1)) (hv : v.category = 1) (hp : pc + 1 = pc2) (k : T M d kc ks pc2 ls (v :: v :: st) h Q) : T M d kc ks pc ls (v :: st) h Q := by
  subst hp
  intro p l e R s m args below meth c Z D base x E H locs cells slots ca tys lsA F Y L
  exact lv_dup F.1 F.2.1 hf (by rw [trV_cat]; exact hv) (k p l e R s m args below meth c Z D base x E H locs cells slots ca tys lsA F Y L)
theorem T_pop {v : Value} (hf : decode M.2.1 pc = .ok (.pop, 1)) (hv : v.category = 1) (hp : pc + 1 = pc2) (k : T M d kc ks pc2 ls (st) h Q) : T M d kc ks pc ls (v :: st) h Q := by
  subst hp
  intro p l e R s m args below meth c Z D base x E H locs cells slots ca tys lsA F Y L
  exact lv_pop F.1 F.2.1 hf (by rw [trV_cat]; exact hv) (k p l e R s m args below meth c Z D base x E H locs cells slots ca tys lsA F Y L)
theorem T_dup2 {v w : Value} (hf : decode M.2.1 pc = .ok (.dup2, 1)) (hv : v.category = 1) (hw : w.category = 1) (hp : pc + 1 = pc2) (k : T M d kc ks pc2 ls (v :: w :: v :: w :: st) h Q) : T M d kc ks pc ls (v :: w :: st) h Q := by
  subst hp
  intro p l e R s m args below meth c Z D base x E H locs cells slots ca tys lsA F Y L
  exact lv_dup2_11 F.1 F.2.1 hf (by rw [trV_cat]; exact hv) (by rw [trV_cat]; exact hw) (k p l e R s m args below meth c Z D base x E H locs cells slots ca tys lsA F Y L)
theorem T_iload_n {i : Fin 4} {v : Int32} (hf : decode M.2.1 pc = .ok (.iload_n i, 1)) (hl : ls.lookup (i : Nat) = some (.int v)) (hp : pc + 1 = pc2) (k : T M d kc ks pc2 ls (.int v :: st) h Q) : T M d kc ks pc ls st h Q := by
  subst hp
  intro p l e R s m args below meth c Z D base x E H locs cells slots ca tys lsA F Y L
  exact lv_iload_n F.1 F.2.1 hf rfl (lk_at L hl) (k p l e R s m args below meth c Z D base x E H locs cells slots ca tys lsA F Y L)
theorem T_iload {i : Nat} {v : Int32} (hf : decode M.2.1 pc = .ok (.iload i, 2)) (hl : ls.lookup i = some (.int v)) (hp : pc + 2 = pc2) (k : T M d kc ks pc2 ls (.int v :: st) h Q) : T M d kc ks pc ls st h Q := by
  subst hp
  intro p l e R s m args below meth c Z D base x E H locs cells slots ca tys lsA F Y L
  exact lv_iload F.1 F.2.1 hf (lk_at L hl) (k p l e R s m args below meth c Z D base x E H locs cells slots ca tys lsA F Y L)
theorem T_lload_n {i : Fin 4} {v : Int64} (hf : decode M.2.1 pc = .ok (.lload_n i, 1)) (hl : ls.lookup (i : Nat) = some (.long v)) (hp : pc + 1 = pc2) (k : T M d kc ks pc2 ls (.long v :: st) h Q) : T M d kc ks pc ls st h Q := by
  subst hp
  intro p l e R s m args below meth c Z D base x E H locs cells slots ca tys lsA F Y L
  exact lv_lload_n F.1 F.2.1 hf rfl (lk_at L hl) (k p l e R s m args below meth c Z D base x E H locs cells slots ca tys lsA F Y L)
theorem T_lload {i : Nat} {v : Int64} (hf : decode M.2.1 pc = .ok (.lload i, 2)) (hl : ls.lookup i = some (.long v)) (hp : pc + 2 = pc2) (k : T M d kc ks pc2 ls (.long v :: st) h Q) : T M d kc ks pc ls st h Q := by
  subst hp
  intro p l e R s m args below meth c Z D base x E H locs cells slots ca tys lsA F Y L
  exact lv_lload F.1 F.2.1 hf (lk_at L hl) (k p l e R s m args below meth c Z D base x E H locs cells slots ca tys lsA F Y L)
theorem T_aload_n {i : Fin 4} {v : Nat} (hf : decode M.2.1 pc = .ok (.aload_n i, 1)) (hl : ls.lookup (i : Nat) = some (.ref v)) (hp : pc + 1 = pc2) (k : T M d kc ks pc2 ls (.ref v :: st) h Q) : T M d kc ks pc ls st h Q := by
  subst hp
  intro p l e R s m args below meth c Z D base x E H locs cells slots ca tys lsA F Y L
  exact lv_aload_n F.1 F.2.1 hf rfl (lk_at L hl) (k p l e R s m args below meth c Z D base x E H locs cells slots ca tys lsA F Y L)
theorem T_aload {i : Nat} {v : Nat} (hf : decode M.2.1 pc = .ok (.aload i, 2)) (hl : ls.lookup i = some (.ref v)) (hp : pc + 2 = pc2) (k : T M d kc ks pc2 ls (.ref v :: st) h Q) : T M d kc ks pc ls st h Q := by
  subst hp
  intro p l e R s m args below meth c Z D base x E H locs cells slots ca tys lsA F Y L
  exact lv_aload F.1 F.2.1 hf (lk_at L hl) (k p l e R s m args below meth c Z D base x E H locs cells slots ca tys lsA F Y L)
theorem T_istore_n {i : Fin 4} {v : Int32} (hf : decode M.2.1 pc = .ok (.istore_n i, 1)) (hn : (i : Nat) < M.2.2.1) (hp : pc + 1 = pc2) (k : T M d kc ks pc2 (lset (i : Nat) (.int v) ls) st h Q) : T M d kc ks pc ls (.int v :: st) h Q := by
  subst hp
  intro p l e R s m args below meth c Z D base x E H locs cells slots ca tys lsA F Y L
  exact lv_istore_n F.1 F.2.1 hf rfl L hn (lset_tr (adr base x) (i : Nat) (.int v) ls) (fun lsB L2 => k p l e R s m args below meth c Z D base x E H locs cells slots ca tys lsB F Y L2)
theorem T_istore {i : Nat} {v : Int32} (hf : decode M.2.1 pc = .ok (.istore i, 2)) (hn : i < M.2.2.1) (hp : pc + 2 = pc2) (k : T M d kc ks pc2 (lset i (.int v) ls) st h Q) : T M d kc ks pc ls (.int v :: st) h Q := by
  subst hp
  intro p l e R s m args below meth c Z D base x E H locs cells slots ca tys lsA F Y L
  exact lv_istore F.1 F.2.1 hf L hn (lset_tr (adr base x) i (.int v) ls) (fun lsB L2 => k p l e R s m args below meth c Z D base x E H locs cells slots ca tys lsB F Y L2)
theorem T_lstore_n {i : Fin 4} {v : Int64} (hf : decode M.2.1 pc = .ok (.lstore_n i, 1)) (hn : (i : Nat) + 1 < M.2.2.1) (hp : pc + 1 = pc2) (k : T M d kc ks pc2 (lsetL (i : Nat) (.long v) ls) st h Q) : T M d kc ks pc ls (.long v :: st) h Q := by
  subst hp
  intro p l e R s m args below meth c Z D base x E H locs cells slots ca tys lsA F Y L
  exact lv_lstore_n F.1 F.2.1 hf rfl L hn (lsetL_tr (adr base x) (i : Nat) (.long v) ls) (fun lsB L2 => k p l e R s m args below meth c Z D base x E H locs cells slots ca tys lsB F Y L2)
theorem T_lstore {i : Nat} {v : Int64} (hf : decode M.2.1 pc = .ok (.lstore i, 2)) (hn : i + 1 < M.2.2.1) (hp : pc + 2 = pc2) (k : T M d kc ks pc2 (lsetL i (.long v) ls) st h Q) : T M d kc ks pc ls (.long v :: st) h Q := by
  subst hp
  intro p l e R s m args below meth c Z D base x E H locs cells slots ca tys lsA F Y L
  exact lv_lstore F.1 F.2.1 hf L hn (lsetL_tr (adr base x) i (.long v) ls) (fun lsB L2 => k p l e R s m args below meth c Z D base x E H locs cells slots ca tys lsB F Y L2)
theorem T_astore_n {i : Fin 4} {v : Nat} (hf : decode M.2.1 pc = .ok (.astore_n i, 1)) (hn : (i : Nat) < M.2.2.1) (hp : pc + 1 = pc2) (k : T M d kc ks pc2 (lset (i : Nat) (.ref v) ls) st h Q) : T M d kc ks pc ls (.ref v :: st) h Q := by
  subst hp
  intro p l e R s m args below meth c Z D base x E H locs cells slots ca tys lsA F Y L
  exact lv_astore_n F.1 F.2.1 hf rfl L hn (lset_tr (adr base x) (i : Nat) (.ref v) ls) (fun lsB L2 => k p l e R s m args below meth c Z D base x E H locs cells slots ca tys lsB F Y L2)
theorem T_astore {i : Nat} {v : Nat} (hf : decode M.2.1 pc = .ok (.astore i, 2)) (hn : i < M.2.2.1) (hp : pc + 2 = pc2) (k : T M d kc ks pc2 (lset i (.ref v) ls) st h Q) : T M d kc ks pc ls (.ref v :: st) h Q := by
  subst hp
  intro p l e R s m args below meth c Z D base x E H locs cells slots ca tys lsA F Y L
  exact lv_astore F.1 F.2.1 hf L hn (lset_tr (adr base x) i (.ref v) ls) (fun lsB L2 => k p l e R s m args below meth c Z D base x E H locs cells slots ca tys lsB F Y L2)
theorem T_iinc {i : Nat} {n : Int} {v w : Int32} (hf : decode M.2.1 pc = .ok (.iinc i n, 3)) (hl : ls.lookup i = some (.int v)) (hw : v + Int32.ofInt n = w) (hn : i < M.2.2.1) (hp : pc + 3 = pc2) (k : T M d kc ks pc2 (lset i (.int w) ls) st h Q) : T M d kc ks pc ls st h Q := by
  subst hp
  intro p l e R s m args below meth c Z D base x E H locs cells slots ca tys lsA F Y L
  obtain ⟨j, hj⟩ := List.getElem?_of_mem (List.mem_map.mpr ⟨(i, Value.int v), lk_mem hl, rfl⟩ : (i, Value.int v) ∈ ls.map (trL (adr base x)))
  exact lv_iinc F.1 F.2.1 hf L hj hw hn (lset_tr (adr base x) i (.int w) ls) (fun lsB L2 => k p l e R s m args below meth c Z D base x E H locs cells slots ca tys lsB F Y L2)
theorem T_ifeq {a : Int32} {off : Int} {tgt : Nat} (hf : decode M.2.1 pc = .ok (.ifCond .eq off, 3)) (ht : (pc : Int) + off = (tgt : Int)) (hp : pc + 3 = pc2) (kt : a = 0 → T M d kc ks tgt ls st h Q) (kf : ¬ a = 0 → T M d kc ks pc2 ls st h Q) : T M d kc ks pc ls (.int a :: st) h Q := by
  subst hp
  intro p l e R s m args below meth c Z D base x E H locs cells slots ca tys lsA F Y L
  exact lv_if_eq F.1 F.2.1 hf ht (fun z => kt z p l e R s m args below meth c Z D base x E H locs cells slots ca tys lsA F Y L) (fun z => kf z p l e R s m args below meth c Z D base x E H locs cells slots ca tys lsA F Y L)
theorem T_ifne {a : Int32} {off : Int} {tgt : Nat} (hf : decode M.2.1 pc = .ok (.ifCond .ne off, 3)) (ht : (pc : Int) + off = (tgt : Int)) (hp : pc + 3 = pc2) (kt : ¬ a = 0 → T M d kc ks tgt ls st h Q) (kf : a = 0 → T M d kc ks pc2 ls st h Q) : T M d kc ks pc ls (.int a :: st) h Q := by
  subst hp
  intro p l e R s m args below meth c Z D base x E H locs cells slots ca tys lsA F Y L
  exact lv_if_ne F.1 F.2.1 hf ht (fun z => kt z p l e R s m args below meth c Z D base x E H locs cells slots ca tys lsA F Y L) (fun z => kf z p l e R s m args below meth c Z D base x E H locs cells slots ca tys lsA F Y L)
theorem T_iflt {a : Int32} {off : Int} {tgt : Nat} (hf : decode M.2.1 pc = .ok (.ifCond .lt off, 3)) (ht : (pc : Int) + off = (tgt : Int)) (hp : pc + 3 = pc2) (kt : a < 0 → T M d kc ks tgt ls st h Q) (kf : ¬ a < 0 → T M d kc ks pc2 ls st h Q) : T M d kc ks pc ls (.int a :: st) h Q := by
  subst hp
  intro p l e R s m args below meth c Z D base x E H locs cells slots ca tys lsA F Y L
  exact lv_if_lt F.1 F.2.1 hf ht (fun z => kt z p l e R s m args below meth c Z D base x E H locs cells slots ca tys lsA F Y L) (fun z => kf z p l e R s m args below meth c Z D base x E H locs cells slots ca tys lsA F Y L)
theorem T_ifge {a : Int32} {off : Int} {tgt : Nat} (hf : decode M.2.1 pc = .ok (.ifCond .ge off, 3)) (ht : (pc : Int) + off = (tgt : Int)) (hp : pc + 3 = pc2) (kt : 0 ≤ a → T M d kc ks tgt ls st h Q) (kf : ¬ 0 ≤ a → T M d kc ks pc2 ls st h Q) : T M d kc ks pc ls (.int a :: st) h Q := by
  subst hp
  intro p l e R s m args below meth c Z D base x E H locs cells slots ca tys lsA F Y L
  exact lv_if_ge F.1 F.2.1 hf ht (fun z => kt z p l e R s m args below meth c Z D base x E H locs cells slots ca tys lsA F Y L) (fun z => kf z p l e R s m args below meth c Z D base x E H locs cells slots ca tys lsA F Y L)
theorem T_ifgt {a : Int32} {off : Int} {tgt : Nat} (hf : decode M.2.1 pc = .ok (.ifCond .gt off, 3)) (ht : (pc : Int) + off = (tgt : Int)) (hp : pc + 3 = pc2) (kt : 0 < a → T M d kc ks tgt ls st h Q) (kf : ¬ 0 < a → T M d kc ks pc2 ls st h Q) : T M d kc ks pc ls (.int a :: st) h Q := by
  subst hp
  intro p l e R s m args below meth c Z D base x E H locs cells slots ca tys lsA F Y L
  exact lv_if_gt F.1 F.2.1 hf ht (fun z => kt z p l e R s m args below meth c Z D base x E H locs cells slots ca tys lsA F Y L) (fun z => kf z p l e R s m args below meth c Z D base x E H locs cells slots ca tys lsA F Y L)
theorem T_ifle {a : Int32} {off : Int} {tgt : Nat} (hf : decode M.2.1 pc = .ok (.ifCond .le off, 3)) (ht : (pc : Int) + off = (tgt : Int)) (hp : pc + 3 = pc2) (kt : a ≤ 0 → T M d kc ks tgt ls st h Q) (kf : ¬ a ≤ 0 → T M d kc ks pc2 ls st h Q) : T M d kc ks pc ls (.int a :: st) h Q := by
  subst hp
  intro p l e R s m args below meth c Z D base x E H locs cells slots ca tys lsA F Y L
  exact lv_if_le F.1 F.2.1 hf ht (fun z => kt z p l e R s m args below meth c Z D base x E H locs cells slots ca tys lsA F Y L) (fun z => kf z p l e R s m args below meth c Z D base x E H locs cells slots ca tys lsA F Y L)
theorem T_icmpeq {a b : Int32} {off : Int} {tgt : Nat} (hf : decode M.2.1 pc = .ok (.if_icmp .eq off, 3)) (ht : (pc : Int) + off = (tgt : Int)) (hp : pc + 3 = pc2) (kt : a = b → T M d kc ks tgt ls st h Q) (kf : ¬ a = b → T M d kc ks pc2 ls st h Q) : T M d kc ks pc ls (.int b :: .int a :: st) h Q := by
  subst hp
  intro p l e R s m args below meth c Z D base x E H locs cells slots ca tys lsA F Y L
  exact lv_icmp_eq F.1 F.2.1 hf ht (fun z => kt z p l e R s m args below meth c Z D base x E H locs cells slots ca tys lsA F Y L) (fun z => kf z p l e R s m args below meth c Z D base x E H locs cells slots ca tys lsA F Y L)
theorem T_icmpne {a b : Int32} {off : Int} {tgt : Nat} (hf : decode M.2.1 pc = .ok (.if_icmp .ne off, 3)) (ht : (pc : Int) + off = (tgt : Int)) (hp : pc + 3 = pc2) (kt : ¬ a = b → T M d kc ks tgt ls st h Q) (kf : a = b → T M d kc ks pc2 ls st h Q) : T M d kc ks pc ls (.int b :: .int a :: st) h Q := by
  subst hp
  intro p l e R s m args below meth c Z D base x E H locs cells slots ca tys lsA F Y L
  exact lv_icmp_ne F.1 F.2.1 hf ht (fun z => kt z p l e R s m args below meth c Z D base x E H locs cells slots ca tys lsA F Y L) (fun z => kf z p l e R s m args below meth c Z D base x E H locs cells slots ca tys lsA F Y L)
theorem T_icmplt {a b : Int32} {off : Int} {tgt : Nat} (hf : decode M.2.1 pc = .ok (.if_icmp .lt off, 3)) (ht : (pc : Int) + off = (tgt : Int)) (hp : pc + 3 = pc2) (kt : a < b → T M d kc ks tgt ls st h Q) (kf : ¬ a < b → T M d kc ks pc2 ls st h Q) : T M d kc ks pc ls (.int b :: .int a :: st) h Q := by
  subst hp
  intro p l e R s m args below meth c Z D base x E H locs cells slots ca tys lsA F Y L
  exact lv_icmp_lt F.1 F.2.1 hf ht (fun z => kt z p l e R s m args below meth c Z D base x E H locs cells slots ca tys lsA F Y L) (fun z => kf z p l e R s m args below meth c Z D base x E H locs cells slots ca tys lsA F Y L)
theorem T_icmpge {a b : Int32} {off : Int} {tgt : Nat} (hf : decode M.2.1 pc = .ok (.if_icmp .ge off, 3)) (ht : (pc : Int) + off = (tgt : Int)) (hp : pc + 3 = pc2) (kt : b ≤ a → T M d kc ks tgt ls st h Q) (kf : ¬ b ≤ a → T M d kc ks pc2 ls st h Q) : T M d kc ks pc ls (.int b :: .int a :: st) h Q := by
  subst hp
  intro p l e R s m args below meth c Z D base x E H locs cells slots ca tys lsA F Y L
  exact lv_icmp_ge F.1 F.2.1 hf ht (fun z => kt z p l e R s m args below meth c Z D base x E H locs cells slots ca tys lsA F Y L) (fun z => kf z p l e R s m args below meth c Z D base x E H locs cells slots ca tys lsA F Y L)
theorem T_icmpgt {a b : Int32} {off : Int} {tgt : Nat} (hf : decode M.2.1 pc = .ok (.if_icmp .gt off, 3)) (ht : (pc : Int) + off = (tgt : Int)) (hp : pc + 3 = pc2) (kt : b < a → T M d kc ks tgt ls st h Q) (kf : ¬ b < a → T M d kc ks pc2 ls st h Q) : T M d kc ks pc ls (.int b :: .int a :: st) h Q := by
  subst hp
  intro p l e R s m args below meth c Z D base x E H locs cells slots ca tys lsA F Y L
  exact lv_icmp_gt F.1 F.2.1 hf ht (fun z => kt z p l e R s m args below meth c Z D base x E H locs cells slots ca tys lsA F Y L) (fun z => kf z p l e R s m args below meth c Z D base x E H locs cells slots ca tys lsA F Y L)
theorem T_icmple {a b : Int32} {off : Int} {tgt : Nat} (hf : decode M.2.1 pc = .ok (.if_icmp .le off, 3)) (ht : (pc : Int) + off = (tgt : Int)) (hp : pc + 3 = pc2) (kt : a ≤ b → T M d kc ks tgt ls st h Q) (kf : ¬ a ≤ b → T M d kc ks pc2 ls st h Q) : T M d kc ks pc ls (.int b :: .int a :: st) h Q := by
  subst hp
  intro p l e R s m args below meth c Z D base x E H locs cells slots ca tys lsA F Y L
  exact lv_icmp_le F.1 F.2.1 hf ht (fun z => kt z p l e R s m args below meth c Z D base x E H locs cells slots ca tys lsA F Y L) (fun z => kf z p l e R s m args below meth c Z D base x E H locs cells slots ca tys lsA F Y L)
theorem T_goto {off : Int} {tgt : Nat} (hf : decode M.2.1 pc = .ok (.goto off, 3)) (ht : (pc : Int) + off = (tgt : Int)) (k : T M d kc ks tgt ls st h Q) : T M d kc ks pc ls st h Q := by
  intro p l e R s m args below meth c Z D base x E H locs cells slots ca tys lsA F Y L
  exact lv_goto F.1 F.2.1 hf ht (k p l e R s m args below meth c Z D base x E H locs cells slots ca tys lsA F Y L)
theorem T_tableIn {a : Int32} {dflt lo hi : Int} {offs : Array Int} {len : Nat} {off : Int} {tgt : Nat} (hf : decode M.2.1 pc = .ok (.tableswitch dflt lo hi offs, len)) (h1 : ¬ a.toInt < lo) (h2 : ¬ hi < a.toInt) (ho : offs[(a.toInt - lo).toNat]? = some off) (ht : (pc : Int) + off = (tgt : Int)) (k : T M d kc ks tgt ls st h Q) : T M d kc ks pc ls (.int a :: st) h Q := by
  intro p l e R s m args below meth c Z D base x E H locs cells slots ca tys lsA F Y L
  exact lv_tableIn F.1 F.2.1 hf h1 h2 ho ht (k p l e R s m args below meth c Z D base x E H locs cells slots ca tys lsA F Y L)
theorem T_tableOut {a : Int32} {dflt lo hi : Int} {offs : Array Int} {len : Nat} {tgt : Nat} (hf : decode M.2.1 pc = .ok (.tableswitch dflt lo hi offs, len)) (h1 : a.toInt < lo ∨ hi < a.toInt) (ht : (pc : Int) + dflt = (tgt : Int)) (k : T M d kc ks tgt ls st h Q) : T M d kc ks pc ls (.int a :: st) h Q := by
  intro p l e R s m args below meth c Z D base x E H locs cells slots ca tys lsA F Y L
  exact lv_tableOut F.1 F.2.1 hf h1 ht (k p l e R s m args below meth c Z D base x E H locs cells slots ca tys lsA F Y L)
theorem T_lookup {a : Int32} {dflt : Int} {ps : Array (Int × Int)} {len : Nat} {off : Int} {tgt : Nat} (hf : decode M.2.1 pc = .ok (.lookupswitch dflt ps, len)) (h1 : (ps.toList.zip (ps.toList.drop 1)).all (fun (a, next) => a.1 < next.1) = true) (ho : Op.lookupswitch.offset ps.toList dflt a.toInt = off) (ht : (pc : Int) + off = (tgt : Int)) (k : T M d kc ks tgt ls st h Q) : T M d kc ks pc ls (.int a :: st) h Q := by
  intro p l e R s m args below meth c Z D base x E H locs cells slots ca tys lsA F Y L
  exact lv_lookup F.1 F.2.1 hf h1 ho ht (k p l e R s m args below meth c Z D base x E H locs cells slots ca tys lsA F Y L)
theorem T_ifnonnull {r : Option Nat} {off : Int} {tgt : Nat} (hf : decode M.2.1 pc = .ok (.ifnonnull off, 3)) (ht : (pc : Int) + off = (tgt : Int)) (hp : pc + 3 = pc2) (kt : ∀ i, r = some i → T M d kc ks tgt ls st h Q) (kf : r = none → T M d kc ks pc2 ls st h Q) : T M d kc ks pc ls (va_rf r :: st) h Q := by
  subst hp
  intro p l e R s m args below meth c Z D base x E H locs cells slots ca tys lsA F Y L
  cases r with
  | none => exact lv_ifnonnullN F.1 F.2.1 hf (kf rfl p l e R s m args below meth c Z D base x E H locs cells slots ca tys lsA F Y L)
  | some i => exact lv_ifnonnull F.1 F.2.1 hf ht (kt i rfl p l e R s m args below meth c Z D base x E H locs cells slots ca tys lsA F Y L)
theorem T_ldc {index : Nat} {v : Int32} (hf : decode M.2.1 pc = .ok (.ldc index, 2)) (hc : Cond.constant M.1.cls index v ∈ lw_g) (hp : pc + 2 = pc2) (k : T M d kc ks pc2 ls (.int v :: st) h Q) : T M d kc ks pc ls st h Q := by
  subst hp
  intro p l e R s m args below meth c Z D base x E H locs cells slots ca tys lsA F Y L
  obtain ⟨hx, hb, hml, hown, hts, hbs, hR, hXt, hnm, hret⟩ := id F
  exact lv_ldc hx hb hown (hts _ hc) hf (k p l e R s m args below meth c Z D base x E H locs cells slots ca tys lsA F Y L)
theorem T_ldcw {index : Nat} {v : Int32} (hf : decode M.2.1 pc = .ok (.ldc_w index, 3)) (hc : Cond.constant M.1.cls index v ∈ lw_g) (hp : pc + 3 = pc2) (k : T M d kc ks pc2 ls (.int v :: st) h Q) : T M d kc ks pc ls st h Q := by
  subst hp
  intro p l e R s m args below meth c Z D base x E H locs cells slots ca tys lsA F Y L
  obtain ⟨hx, hb, hml, hown, hts, hbs, hR, hXt, hnm, hret⟩ := id F
  exact lv_ldcw hx hb hown (hts _ hc) hf (k p l e R s m args below meth c Z D base x E H locs cells slots ca tys lsA F Y L)
theorem T_ldc2 {index : Nat} {v : Int64} (hf : decode M.2.1 pc = .ok (.ldc2_w index, 3)) (hc : Cond.constantLong M.1.cls index v ∈ lw_g) (hp : pc + 3 = pc2) (k : T M d kc ks pc2 ls (.long v :: st) h Q) : T M d kc ks pc ls st h Q := by
  subst hp
  intro p l e R s m args below meth c Z D base x E H locs cells slots ca tys lsA F Y L
  obtain ⟨hx, hb, hml, hown, hts, hbs, hR, hXt, hnm, hret⟩ := id F
  exact lv_ldc2 hx hb hown (hts _ hc) hf (k p l e R s m args below meth c Z D base x E H locs cells slots ca tys lsA F Y L)
theorem T_getfield {idx ci kf i : Nat} {fs : List Value} {v : Value} (hf : decode M.2.1 pc = .ok (.getfield idx, 3)) (hl : FL M.1.cls idx ci kf) (ho : hob h i ci fs) (hv : fs[kf]? = some v) (hp : pc + 3 = pc2) (k : T M d kc ks pc2 ls (v :: st) h Q) : T M d kc ks pc ls (.ref i :: st) h Q := by
  subst hp
  intro p l e R s m args below meth c Z D base x E H locs cells slots ca tys lsA F Y L
  obtain ⟨hx, hb, hml, hown, hts, hbs, hR, hXt, hnm, hret⟩ := id F
  exact va_get (C := RR ci) (T := TT ci) (N := NN ci) (ci := ci) hx hb hts (in_ok ci hl.2.1) hown Y.1 Y.2.1 (i - 4) (wd_at ho.1 ho.2.1 ho.2.2) (vwCl_get ci hl.2.1) kf hl.2.2 (hts _ hl.1) (fun _ h9 => h9) (by rw [List.getElem?_map, hv]; rfl) hf (k p l e R s m args below meth c Z D base x E H locs cells slots ca tys lsA F Y L)
theorem T_iaload {i n : Nat} {f : Nat → Int32} {j : Int32} (hf : decode M.2.1 pc = .ok (.iaload, 1)) (ho : har h i .int (n, .inl f)) (hj : vp_in j n) (hp : pc + 1 = pc2) (k : T M d kc ks pc2 ls (.int (f j.toNatClampNeg) :: st) h Q) : T M d kc ks pc ls (.int j :: .ref i :: st) h Q := by
  subst hp
  intro p l e R s m args below meth c Z D base x E H locs cells slots ca tys lsA F Y L
  obtain ⟨hx, hb, hml, hown, hts, hbs, hR, hXt, hnm, hret⟩ := id F
  obtain ⟨t0, ht0⟩ := Y.2.2.2.2.1 (i - 4) (by have := ho.1; have := ho.2.1; omega) .int (n, .inl f) (by rw [show i - 4 + 4 = i by have := ho.1; omega]; exact ho.2.2)
  exact va_iald hx hb Y.1 Y.2.1 (i - 4) t0 (wd_at ho.1 ho.2.1 ho.2.2) ht0 hj hf (k p l e R s m args below meth c Z D base x E H locs cells slots ca tys lsA F Y L)
theorem T_baload {i n : Nat} {f : Nat → Int32} {j : Int32} (hf : decode M.2.1 pc = .ok (.baload, 1)) (ho : har h i .boolean (n, .inl f)) (hj : vp_in j n) (hp : pc + 1 = pc2) (k : T M d kc ks pc2 ls (.int (f j.toNatClampNeg) :: st) h Q) : T M d kc ks pc ls (.int j :: .ref i :: st) h Q := by
  subst hp
  intro p l e R s m args below meth c Z D base x E H locs cells slots ca tys lsA F Y L
  obtain ⟨hx, hb, hml, hown, hts, hbs, hR, hXt, hnm, hret⟩ := id F
  obtain ⟨t0, ht0⟩ := Y.2.2.2.2.1 (i - 4) (by have := ho.1; have := ho.2.1; omega) .boolean (n, .inl f) (by rw [show i - 4 + 4 = i by have := ho.1; omega]; exact ho.2.2)
  exact va_zald hx hb Y.1 Y.2.1 (i - 4) t0 (wd_at ho.1 ho.2.1 ho.2.2) ht0 hj hf (k p l e R s m args below meth c Z D base x E H locs cells slots ca tys lsA F Y L)
theorem T_xaload {i n : Nat} {f : Nat → Int32} {j : Int32} (hf : decode M.2.1 pc = .ok (.iaload, 1)) (ho : hxa h i n f) (hj : vp_in j n) (hp : pc + 1 = pc2) (k : T M d kc ks pc2 ls (.int (f j.toNatClampNeg) :: st) h Q) : T M d kc ks pc ls (.int j :: .ref i :: st) h Q := by
  subst hp
  intro p l e R s m args below meth c Z D base x E H locs cells slots ca tys lsA F Y L
  obtain ⟨hx, hb, hml, hown, hts, hbs, hR, hXt, hnm, hret⟩ := id F
  obtain ⟨n2, f2, e2, hT⟩ := hXt.1 i ho.1
  have e3 := (Y.2.2.2.2.2.1 i ho.1).symm.trans ho.2
  rw [e2] at e3
  cases e3
  show W p l e R s m args below meth c H locs cells slots Z (F0 m pc lsA (.int j :: .ref (adr base x i) :: st.map (trV (adr base x))))
  rw [adr_lt ho.1]
  exact va_ti hx hb hT Y.2.2.1 hj rfl hf (k p l e R s m args below meth c Z D base x E H locs cells slots ca tys lsA F Y L)
theorem T_xlen {i n : Nat} {f : Nat → Int32} {v : Int32} (hf : decode M.2.1 pc = .ok (.arraylength, 1)) (ho : hxa h i n f) (hv : Int32.ofNat n = v) (hp : pc + 1 = pc2) (k : T M d kc ks pc2 ls (.int v :: st) h Q) : T M d kc ks pc ls (.ref i :: st) h Q := by
  subst hp
  intro p l e R s m args below meth c Z D base x E H locs cells slots ca tys lsA F Y L
  obtain ⟨hx, hb, hml, hown, hts, hbs, hR, hXt, hnm, hret⟩ := id F
  obtain ⟨n2, f2, e2, hT⟩ := hXt.1 i ho.1
  have e3 := (Y.2.2.2.2.2.1 i ho.1).symm.trans ho.2
  rw [e2] at e3
  cases e3
  show W p l e R s m args below meth c H locs cells slots Z (F0 m pc lsA (.ref (adr base x i) :: st.map (trV (adr base x))))
  rw [adr_lt ho.1]
  exact va_tlen hx hb hT Y.2.2.1 hv hf (k p l e R s m args below meth c Z D base x E H locs cells slots ca tys lsA F Y L)
theorem trV_rf (a : Nat → Nat) (r : Option Nat) : trV a (va_rf r) = va_rf (r.map a) := by cases r <;> rfl
theorem T_aaload {i n : Nat} {ty : FieldType} {f : Nat → Option Nat} {j : Int32} (hf : decode M.2.1 pc = .ok (.aaload, 1)) (ho : har h i ty (n, .inr (.inr (.inr (.inr f))))) (hty : ty.isReference = true) (hj : vp_in j n) (hp : pc + 1 = pc2) (k : T M d kc ks pc2 ls (va_rf (f j.toNatClampNeg) :: st) h Q) : T M d kc ks pc ls (.int j :: .ref i :: st) h Q := by
  subst hp
  intro p l e R s m args below meth c Z D base x E H locs cells slots ca tys lsA F Y L
  obtain ⟨hx, hb, hml, hown, hts, hbs, hR, hXt, hnm, hret⟩ := id F
  obtain ⟨t0, ht0⟩ := Y.2.2.2.2.1 (i - 4) (by have := ho.1; have := ho.2.1; omega) ty _ (by rw [show i - 4 + 4 = i by have := ho.1; omega]; exact ho.2.2)
  have hlt : j.toNatClampNeg < n := Nat.not_le.mp fun q => hj (Or.inr q)
  have hk := (k p l e R s m args below meth c Z D base x E H locs cells slots ca tys lsA F Y L)
  rw [List.map_cons, trV_rf] at hk
  have hc : H[adr base x i]? = some (arrV (ca (i - 4)) n (fun q => va_rf ((f q).map (adr base x)))) := Y.2.1 _ _ (wd_at (base := base) (x := x) (ca := ca) ho.1 ho.2.1 ho.2.2)
  exact W.aald (v := va_rf ((f j.toNatClampNeg).map (adr base x))) (ty := ty) hx hb hc ((Y.1.2 t0 _ ht0).1 n (fun q => va_rf ((f q).map (adr base x)))) hty (fun q => by cases q) (by rw [arrV_size]; exact hj) (by rw [arrV_read _ _ hlt]) rfl rfl hf hk
end TRows
