/-! counting bits; the worst sneeze -/
def bcx (x : Int32) : Int32 :=
  let x1 := x - ((x.toUInt32 >>> ((nI 1).toUInt32 &&& Int32.toUInt32 31)).toInt32 &&& nI 1431655765)
  let x2 := (x1 &&& nI 858993459) + ((x1.toUInt32 >>> ((nI 2).toUInt32 &&& Int32.toUInt32 31)).toInt32 &&& nI 858993459)
  let x3 := (x2 + (x2.toUInt32 >>> ((nI 4).toUInt32 &&& Int32.toUInt32 31)).toInt32) &&& nI 252645135
  let x4 := x3 + (x3.toUInt32 >>> ((nI 8).toUInt32 &&& Int32.toUInt32 31)).toInt32
  let x5 := x4 + (x4.toUInt32 >>> ((nI 16).toUInt32 &&& Int32.toUInt32 31)).toInt32
  x5 &&& nI 63
theorem bcx_ok : ∀ n, n < 256 → bcx (nI n) = nI (ct (fun j => n.testBit j) 8) := by decide +kernel
theorem bm_self {o k : Nat} (h : o < 2 ^ k) : bm (fun j => o.testBit j) k = o := by
  symm
  apply bm_ext
  intro j
  by_cases q : j < k
  · simp [q]
  · have : o.testBit j = false := Nat.testBit_lt_two_pow (Nat.lt_of_lt_of_le h (Nat.pow_le_pow_right (by decide) (by omega)))
    simp [q, this]
def itr {σ : Type} (f : Nat → σ → σ) (s : σ) : Nat → σ
  | 0 => s
  | k + 1 => f k (itr f s k)
def Cel.cB (V : Cel) (w : Nat → Bool) (nt p : Nat) : Nat := ct (V.brk nt p w) 8
def mxf (V : Cel) (w : Nat → Bool) (nt p : Nat) (s : Nat × Nat × Nat) : Nat × Nat × Nat := if s.1 ≤ V.cB w nt p then (V.cB w nt p + 1, nt, p) else s
def mxRow (V : Cel) (w : Nat → Bool) (nt : Nat) (s : Nat × Nat × Nat) (k : Nat) : Nat × Nat × Nat := itr (mxf V w nt) s k
def mxAll (V : Cel) (w : Nat → Bool) (k : Nat) : Nat × Nat × Nat := itr (fun nt s => mxRow V w nt s V.J) (0, 0, 0) k
/-- the worst: one more than how many, its note and its place -/
def Cel.mx (V : Cel) (w : Nat → Bool) : Nat × Nat × Nat := mxAll V w 12
theorem cB_le (V : Cel) (w : Nat → Bool) (nt p : Nat) : V.cB w nt p ≤ 8 := ct_le _ 8
theorem mxf_mono (V : Cel) (w : Nat → Bool) (nt p : Nat) (s : Nat × Nat × Nat) : s.1 ≤ (mxf V w nt p s).1 := by
  unfold mxf
  split
  · show s.1 ≤ V.cB w nt p + 1
    omega
  · exact Nat.le_refl _
theorem mxf_9 (V : Cel) (w : Nat → Bool) (nt p : Nat) (s : Nat × Nat × Nat) (h : 9 ≤ s.1) : mxf V w nt p s = s := by
  unfold mxf
  rw [if_neg (by have := cB_le V w nt p; omega)]
theorem mxf_le (V : Cel) (w : Nat → Bool) (nt p : Nat) (s : Nat × Nat × Nat) (h : s.1 ≤ 9) : (mxf V w nt p s).1 ≤ 9 := by
  unfold mxf
  split
  · have := cB_le V w nt p
    show V.cB w nt p + 1 ≤ 9
    omega
  · exact h
theorem itr_mono {f : Nat → Nat × Nat × Nat → Nat × Nat × Nat} (hf : ∀ k s, s.1 ≤ (f k s).1) (s : Nat × Nat × Nat) (k : Nat) : ∀ m, (itr f s k).1 ≤ (itr f s (k + m)).1
  | 0 => Nat.le_refl _
  | m + 1 => Nat.le_trans (itr_mono hf s k m) (hf _ _)
theorem itr_9 {f : Nat → Nat × Nat × Nat → Nat × Nat × Nat} (hf : ∀ k s, 9 ≤ s.1 → f k s = s) (s : Nat × Nat × Nat) (k : Nat) (h : 9 ≤ (itr f s k).1) : ∀ m, itr f s (k + m) = itr f s k
  | 0 => rfl
  | m + 1 => by
    show f (k + m) (itr f s (k + m)) = _
    rw [itr_9 hf s k h m]
    exact hf _ _ h
theorem itr_le {f : Nat → Nat × Nat × Nat → Nat × Nat × Nat} (hf : ∀ k s, s.1 ≤ 9 → (f k s).1 ≤ 9) (s : Nat × Nat × Nat) (h : s.1 ≤ 9) : ∀ m, (itr f s m).1 ≤ 9
  | 0 => h
  | m + 1 => hf _ _ (itr_le hf s h m)
theorem row_mono (V : Cel) (w : Nat → Bool) (nt : Nat) (s : Nat × Nat × Nat) (k : Nat) : s.1 ≤ (mxRow V w nt s k).1 := by
  have := itr_mono (f := mxf V w nt) (fun k s => mxf_mono V w nt k s) s 0 k
  rw [Nat.zero_add] at this
  exact this
theorem row_9 (V : Cel) (w : Nat → Bool) (nt : Nat) (s : Nat × Nat × Nat) (k : Nat) (h : 9 ≤ s.1) : mxRow V w nt s k = s := by
  have := itr_9 (f := mxf V w nt) (fun k s => mxf_9 V w nt k s) s 0 h k
  rw [Nat.zero_add] at this
  exact this
theorem row_le (V : Cel) (w : Nat → Bool) (nt : Nat) (s : Nat × Nat × Nat) (k : Nat) (h : s.1 ≤ 9) : (mxRow V w nt s k).1 ≤ 9 := itr_le (f := mxf V w nt) (fun k s => mxf_le V w nt k s) s h k
theorem all_mono (V : Cel) (w : Nat → Bool) {k : Nat} (h : k ≤ 12) : (mxAll V w k).1 ≤ (V.mx w).1 := by
  have := itr_mono (f := fun nt s => mxRow V w nt s V.J) (fun k s => row_mono V w k s V.J) (0, 0, 0) k (12 - k)
  rw [show k + (12 - k) = 12 by omega] at this
  exact this
theorem all_9 (V : Cel) (w : Nat → Bool) {k : Nat} (h : k ≤ 12) (h9 : 9 ≤ (mxAll V w k).1) : mxAll V w k = V.mx w := by
  have := itr_9 (f := fun nt s => mxRow V w nt s V.J) (fun k s => row_9 V w k s V.J) (0, 0, 0) k h9 (12 - k)
  rw [show k + (12 - k) = 12 by omega] at this
  exact this.symm
theorem all_le (V : Cel) (w : Nat → Bool) (k : Nat) : (mxAll V w k).1 ≤ 9 := itr_le (f := fun nt s => mxRow V w nt s V.J) (fun k s => row_le V w k s V.J) (0, 0, 0) (by decide) k
theorem row_pos (V : Cel) (w : Nat → Bool) (nt : Nat) (s : Nat × Nat × Nat) {k : Nat} (h : 0 < k) : 1 ≤ (mxRow V w nt s k).1 := by
  obtain ⟨k, rfl⟩ : ∃ q, k = q + 1 := ⟨k - 1, by omega⟩
  show 1 ≤ (mxf V w nt k _).1
  unfold mxf
  split
  · show 1 ≤ _ + 1
    omega
  · omega
theorem mx_pos (V : Cel) (w : Nat → Bool) (h : 0 < V.J) : 1 ≤ (V.mx w).1 := row_pos V w 11 _ h
def mI (m : Nat) : Int32 := nI m - nI 1
theorem mI_le {e m : Nat} (he : e < 16) (hm : m < 16) : nI e ≤ mI m ↔ e + 1 ≤ m := by
  have : ∀ e, e < 16 → ∀ m, m < 16 → (nI e ≤ mI m ↔ e + 1 ≤ m) := by decide +kernel
  exact this e he m hm
theorem mI_pos {m : Nat} (h : 1 ≤ m) : mI m = nI (m - 1) := pk_sub h
section Most
variable {sk : Nat → SK} {g : Nat → Nat → Int32} {n c : Nat} {V : Cel} {Q : Option Value → SH → Prop} {d kc ks : Nat} {h : SH} {bf im : Nat → Option Nat} {above below : Int64} {w : Nat → Bool} {en : Nat}
theorem c_bits {p : Nat → Bool} (k : Q (some (.int (nI (ct p 8)))) h) : Calls MJ6_bitCount_0f7a4 d 0 0 [.int (nI (bm p 8))] h Q := by
  refine Calls.of (by decide +kernel) (Nat.le_of_ble_eq_true rfl) ?_
  refine T_iload_n (pc2 := 1) dJ6_bitCount_0f7a4_0 rfl rfl ?_
  refine T_iload_n (pc2 := 2) dJ6_bitCount_0f7a4_1 rfl rfl ?_
  refine T_iconst (pc2 := 3) dJ6_bitCount_0f7a4_2 ic1 rfl ?_
  refine T_iushr (pc2 := 4) dJ6_bitCount_0f7a4_3 rfl ?_
  refine T_ldcw (pc2 := 7) dJ6_bitCount_0f7a4_4 kcJ6_265 rfl ?_
  refine T_iand (pc2 := 8) dJ6_bitCount_0f7a4_7 rfl ?_
  first | refine N_isub (pc2 := 9) dJ6_bitCount_0f7a4_8 (by with_reducible rfl) (by with_reducible rfl) (by omega) rfl ?_ | refine T_isub (pc2 := 9) dJ6_bitCount_0f7a4_8 rfl ?_
  refine T_istore_n (pc2 := 10) dJ6_bitCount_0f7a4_9 (by decide) rfl ?_
  refine T_iload_n (pc2 := 11) dJ6_bitCount_0f7a4_10 rfl rfl ?_
  refine T_ldcw (pc2 := 14) dJ6_bitCount_0f7a4_11 kcJ6_266 rfl ?_
  refine T_iand (pc2 := 15) dJ6_bitCount_0f7a4_14 rfl ?_
  refine T_iload_n (pc2 := 16) dJ6_bitCount_0f7a4_15 rfl rfl ?_
  refine T_iconst (pc2 := 17) dJ6_bitCount_0f7a4_16 ic2 rfl ?_
  refine T_iushr (pc2 := 18) dJ6_bitCount_0f7a4_17 rfl ?_
  refine T_ldcw (pc2 := 21) dJ6_bitCount_0f7a4_18 kcJ6_266 rfl ?_
  refine T_iand (pc2 := 22) dJ6_bitCount_0f7a4_21 rfl ?_
  first | refine N_iadd (pc2 := 23) dJ6_bitCount_0f7a4_22 (by with_reducible rfl) (by with_reducible rfl) rfl ?_ | refine T_iadd (pc2 := 23) dJ6_bitCount_0f7a4_22 rfl ?_
  refine T_istore_n (pc2 := 24) dJ6_bitCount_0f7a4_23 (by decide) rfl ?_
  refine T_iload_n (pc2 := 25) dJ6_bitCount_0f7a4_24 rfl rfl ?_
  refine T_iload_n (pc2 := 26) dJ6_bitCount_0f7a4_25 rfl rfl ?_
  refine T_iconst (pc2 := 27) dJ6_bitCount_0f7a4_26 ic4 rfl ?_
  refine T_iushr (pc2 := 28) dJ6_bitCount_0f7a4_27 rfl ?_
  first | refine N_iadd (pc2 := 29) dJ6_bitCount_0f7a4_28 (by with_reducible rfl) (by with_reducible rfl) rfl ?_ | refine T_iadd (pc2 := 29) dJ6_bitCount_0f7a4_28 rfl ?_
  refine T_ldcw (pc2 := 32) dJ6_bitCount_0f7a4_29 kcJ6_267 rfl ?_
  refine T_iand (pc2 := 33) dJ6_bitCount_0f7a4_32 rfl ?_
  refine T_istore_n (pc2 := 34) dJ6_bitCount_0f7a4_33 (by decide) rfl ?_
  refine T_iload_n (pc2 := 35) dJ6_bitCount_0f7a4_34 rfl rfl ?_
  refine T_iload_n (pc2 := 36) dJ6_bitCount_0f7a4_35 rfl rfl ?_
  refine T_bipush (pc2 := 38) dJ6_bitCount_0f7a4_36 bp8 rfl ?_
  refine T_iushr (pc2 := 39) dJ6_bitCount_0f7a4_38 rfl ?_
  first | refine N_iadd (pc2 := 40) dJ6_bitCount_0f7a4_39 (by with_reducible rfl) (by with_reducible rfl) rfl ?_ | refine T_iadd (pc2 := 40) dJ6_bitCount_0f7a4_39 rfl ?_
  refine T_istore_n (pc2 := 41) dJ6_bitCount_0f7a4_40 (by decide) rfl ?_
  refine T_iload_n (pc2 := 42) dJ6_bitCount_0f7a4_41 rfl rfl ?_
  refine T_iload_n (pc2 := 43) dJ6_bitCount_0f7a4_42 rfl rfl ?_
  refine T_bipush (pc2 := 45) dJ6_bitCount_0f7a4_43 bp16 rfl ?_
  refine T_iushr (pc2 := 46) dJ6_bitCount_0f7a4_45 rfl ?_
  first | refine N_iadd (pc2 := 47) dJ6_bitCount_0f7a4_46 (by with_reducible rfl) (by with_reducible rfl) rfl ?_ | refine T_iadd (pc2 := 47) dJ6_bitCount_0f7a4_46 rfl ?_
  refine T_istore_n (pc2 := 48) dJ6_bitCount_0f7a4_47 (by decide) rfl ?_
  refine T_iload_n (pc2 := 49) dJ6_bitCount_0f7a4_48 rfl rfl ?_
  refine T_bipush (pc2 := 51) dJ6_bitCount_0f7a4_49 bp63 rfl ?_
  refine T_iand (pc2 := 52) dJ6_bitCount_0f7a4_51 rfl ?_
  refine T_iret dJ6_bitCount_0f7a4_52 rfl rfl ?_
  show Q (some (.int (bcx (nI (bm p 8))))) h
  rw [bcx_ok _ (bm_lt p 8), ct_cg (q := p) (fun j hj => by rw [bm_tb]; simp [hj])]
  exact k
theorem c_bitsN {o : Nat} (ho : o < 256) (k : Q (some (.int (nI (ct (fun j => o.testBit j) 8)))) h) : Calls MJ6_bitCount_0f7a4 d 0 0 [.int (nI o)] h Q := by
  have := c_bits (d := d) (h := h) (Q := Q) (p := fun j => o.testBit j) k
  rw [bm_self (k := 8) ho] at this
  exact this
def locM (w : Nat → Bool) (en : Nat) (s : Nat × Nat × Nat) (t p : Nat) : List (Nat × Value) := [(0, .ref 34), (1, .int (nI (bm w 8))), (2, .int (nI en)), (3, .int (mI s.1)), (4, .int (nI t)), (5, .int (nI p))]
def okM (V : Cel) (g g2 : Nat → Nat → Int32) (s : Nat × Nat × Nat) : Prop := tunedE g2 V ∧ (1 ≤ s.1 → g2 34 6 = nI (100 * s.2.1 + s.2.2)) ∧ Fr 34 36 g g2 ∧ ∀ k, k ≠ 6 → g2 34 k = g 34 k
theorem most_in (S : Sh sk n bf im above below) (hJ : V.J ≤ 8) (he : en < 16) {t : Nat} (ht : t < 12) (s0 : Nat × Nat × Nat) (h0 : s0.1 ≤ 9)
    (kk : ∀ s q g2, (s = mxRow V w t s0 V.J ∨ (en + 1 ≤ s.1 ∧ s.1 ≤ (mxRow V w t s0 V.J).1 ∧ (9 ≤ s.1 → s = mxRow V w t s0 V.J))) → s.1 ≤ 9 → okM V g g2 s → T MX4_mostBroken (d + 3) kc ks 81 (locM w en s t q) [] (HP sk g2 n) Q) :
    ∀ m q g2 s, q + m = V.J → s = mxRow V w t s0 q → okM V g g2 s → T MX4_mostBroken (d + 3) kc ks 20 (locM w en s t q) [] (HP sk g2 n) Q := by
  intro m
  induction m with
  | zero =>
    intro q g2 s hq hs ho
    have e4 := ho.1.1
    unfold locM
    refine T_iload (pc2 := 22) dX4_mostBroken_20 rfl rfl ?_
    refine T_aload_n (pc2 := 23) dX4_mostBroken_22 rfl rfl ?_
    refine G_getR (pc2 := 26) dX4_mostBroken_23 flX4_12 (sh34 S) rfl rfl ?_
    refine G_getI (pc2 := 29) dX4_mostBroken_26 flX4_51 (sh35 S) rfl (by first | with_reducible assumption | exact gs_eq _ _ _ _ | exact (gs_ne _ _ (by omega)).trans (by with_reducible assumption) | exact (gs_ne _ _ (by omega)).trans (gs_eq _ _ _ _) | exact (gs_ne _ _ (by omega)).trans ((gs_ne _ _ (by omega)).trans (by with_reducible assumption)) | exact (gs_ne _ _ (by omega)).trans ((gs_ne _ _ (by omega)).trans (gs_eq _ _ _ _)) | exact (gs_ne _ _ (by omega)).trans ((gs_ne _ _ (by omega)).trans ((gs_ne _ _ (by omega)).trans (by with_reducible assumption))) | rfl) rfl ?_
    first | refine N_icmpge (pc2 := 32) (tgt := 81) dX4_mostBroken_29 (by decide) (by with_reducible rfl) (by with_reducible rfl) (by omega) (by omega) rfl (fun c29 => ?_) (fun c29 => ?_) | refine T_icmpge (pc2 := 32) (tgt := 81) dX4_mostBroken_29 (by decide) rfl (fun c29 => ?_) (fun c29 => ?_)
    · have : q = V.J := by omega
      subst this
      exact kk s _ g2 (Or.inl hs) (by rw [hs]; exact row_le V w t s0 _ h0) ho
    · exact absurd (by omega) c29
  | succ m ih =>
    intro q g2 s hq hs ho
    have e4 := ho.1.1
    have hs9 : s.1 ≤ 9 := by rw [hs]; exact row_le V w t s0 _ h0
    unfold locM
    refine T_iload (pc2 := 22) dX4_mostBroken_20 rfl rfl ?_
    refine T_aload_n (pc2 := 23) dX4_mostBroken_22 rfl rfl ?_
    refine G_getR (pc2 := 26) dX4_mostBroken_23 flX4_12 (sh34 S) rfl rfl ?_
    refine G_getI (pc2 := 29) dX4_mostBroken_26 flX4_51 (sh35 S) rfl (by first | with_reducible assumption | exact gs_eq _ _ _ _ | exact (gs_ne _ _ (by omega)).trans (by with_reducible assumption) | exact (gs_ne _ _ (by omega)).trans (gs_eq _ _ _ _) | exact (gs_ne _ _ (by omega)).trans ((gs_ne _ _ (by omega)).trans (by with_reducible assumption)) | exact (gs_ne _ _ (by omega)).trans ((gs_ne _ _ (by omega)).trans (gs_eq _ _ _ _)) | exact (gs_ne _ _ (by omega)).trans ((gs_ne _ _ (by omega)).trans ((gs_ne _ _ (by omega)).trans (by with_reducible assumption))) | rfl) rfl ?_
    first | refine N_icmpge (pc2 := 32) (tgt := 81) dX4_mostBroken_29 (by decide) (by with_reducible rfl) (by with_reducible rfl) (by omega) (by omega) rfl (fun c29 => ?_) (fun c29 => ?_) | refine T_icmpge (pc2 := 32) (tgt := 81) dX4_mostBroken_29 (by decide) rfl (fun c29 => ?_) (fun c29 => ?_)
    · exact absurd c29 (by omega)
    · refine T_iload_n (pc2 := 33) dX4_mostBroken_32 rfl rfl ?_
      refine T_iload_n (pc2 := 34) dX4_mostBroken_33 rfl rfl ?_
      refine T_icmpge (pc2 := 37) (tgt := 81) dX4_mostBroken_34 (by decide) rfl (fun c34 => ?_) (fun c34 => ?_)
      · have hm := (mI_le he (by omega)).mp c34
        refine kk s q g2 (Or.inr ⟨hm, ?_, fun h9 => ?_⟩) hs9 ho
        · rw [hs]
          have := itr_mono (f := mxf V w t) (fun k s => mxf_mono V w t k s) s0 q (V.J - q)
          rw [show q + (V.J - q) = V.J by omega] at this
          exact this
        · rw [hs] at h9 ⊢
          have := itr_9 (f := mxf V w t) (fun k s => mxf_9 V w t k s) s0 q h9 (V.J - q)
          rw [show q + (V.J - q) = V.J by omega] at this
          exact this.symm
      · refine T_aload_n (pc2 := 38) dX4_mostBroken_37 rfl rfl ?_
        refine G_getR (pc2 := 41) dX4_mostBroken_38 flX4_12 (sh34 S) rfl rfl ?_
        refine T_iload (pc2 := 43) dX4_mostBroken_41 rfl rfl ?_
        refine T_iload (pc2 := 45) dX4_mostBroken_43 rfl rfl ?_
        refine T_iload_n (pc2 := 46) dX4_mostBroken_45 rfl rfl ?_
        refine C_V3 (pc2 := 49) (mc := 0) (ms := 0) dX4_mostBroken_46 cvX3_broken mlX4_33 (isO.h (sh35 S) _) (Nat.le_of_ble_eq_true rfl) rfl ?_
        refine c_broken S ho.1 hJ ht (by omega) (fun g3 hE3 _ hf3 => ?_)
        refine C_S1 (pc2 := 52) (mc := 0) (ms := 0) dX4_mostBroken_49 csJ6_bitCount_0f7a4 mlX4_54 (Nat.le_of_ble_eq_true rfl) rfl ?_
        refine c_bits ?_
        have hc8 := cB_le V w t q
        have hsx : mxf V w t q s = mxRow V w t s0 (q + 1) := by rw [hs]; rfl
        have hf4 : Fr 34 36 g g3 := ho.2.2.1.tr (hf3.wd (by omega) (by omega))
        have e6 : g3 34 = g2 34 := hf3 34 (by omega)
        refine T_istore (pc2 := 54) dX4_mostBroken_52 (by decide) rfl ?_
        refine T_iload (pc2 := 56) dX4_mostBroken_54 rfl rfl ?_
        refine T_iload_n (pc2 := 57) dX4_mostBroken_56 rfl rfl ?_
        refine T_icmple (pc2 := 60) (tgt := 75) dX4_mostBroken_57 (by decide) rfl (fun c57 => ?_) (fun c57 => ?_)
        · have hm := (mI_le (show V.cB w t q < 16 by omega) (by omega)).mp c57
          first | refine N_iinc (pc2 := 78) dX4_mostBroken_75 rfl (by with_reducible rfl) ic1 (by decide) rfl ?_ | refine T_iinc (pc2 := 78) dX4_mostBroken_75 rfl rfl (by decide) rfl ?_
          refine T_goto (tgt := 20) dX4_mostBroken_78 (by decide) ?_
          refine T_sub (lks (i := 0) rfl (lks (i := 1) rfl (lks (i := 2) rfl (lks (i := 3) rfl (lks (i := 4) rfl (lks (i := 5) rfl lk0)))))) ?_
          refine ih (q + 1) g3 s (by omega) ?_ ⟨hE3, fun h1 => by rw [e6]; exact ho.2.1 h1, hf4, by rw [e6]; exact ho.2.2.2⟩
          rw [← hsx]
          unfold mxf
          rw [if_neg (by omega)]
        · have hm : s.1 ≤ V.cB w t q := by
            rcases Nat.lt_or_ge (V.cB w t q) s.1 with q1 | q1
            · exact absurd ((mI_le (show V.cB w t q < 16 by omega) (by omega)).mpr q1) c57
            · exact q1
          refine T_iload (pc2 := 62) dX4_mostBroken_60 rfl rfl ?_
          refine T_istore_n (pc2 := 63) dX4_mostBroken_62 (by decide) rfl ?_
          refine T_aload_n (pc2 := 64) dX4_mostBroken_63 rfl rfl ?_
          refine T_bipush (pc2 := 66) dX4_mostBroken_64 bp100 rfl ?_
          refine T_iload (pc2 := 68) dX4_mostBroken_66 rfl rfl ?_
          first | refine N_imul (pc2 := 69) dX4_mostBroken_68 (by with_reducible rfl) (by with_reducible rfl) rfl ?_ | refine T_imul (pc2 := 69) dX4_mostBroken_68 rfl ?_
          refine T_iload (pc2 := 71) dX4_mostBroken_69 rfl rfl ?_
          first | refine N_iadd (pc2 := 72) dX4_mostBroken_71 (by with_reducible rfl) (by with_reducible rfl) rfl ?_ | refine T_iadd (pc2 := 72) dX4_mostBroken_71 rfl ?_
          refine G_putI (pc2 := 75) dX4_mostBroken_72 flX4_45 (sh34 S) rfl rfl rfl rfl ?_
          first | refine N_iinc (pc2 := 78) dX4_mostBroken_75 rfl (by with_reducible rfl) ic1 (by decide) rfl ?_ | refine T_iinc (pc2 := 78) dX4_mostBroken_75 rfl rfl (by decide) rfl ?_
          refine T_goto (tgt := 20) dX4_mostBroken_78 (by decide) ?_
          rw [show nI (ct (V.brk t q w) 8) = mI (V.cB w t q + 1) from (mI_pos (m := V.cB w t q + 1) (by omega)).symm]
          refine T_sub (lks (i := 0) rfl (lks (i := 1) rfl (lks (i := 2) rfl (lks (i := 3) rfl (lks (i := 4) rfl (lks (i := 5) rfl lk0)))))) ?_
          refine ih (q + 1) _ (V.cB w t q + 1, t, q) (by omega) ?_ ⟨hE3.fr (lo := 34) (hi := 35) (Fr.rf.st (by omega) (by omega)) (by omega), fun _ => by rw [gs_eq], hf4.st (by omega) (by omega), fun k hk => by rw [gs_ne _ _ (by omega), e6]; exact ho.2.2.2 k hk⟩
          rw [← hsx]
          unfold mxf
          rw [if_pos hm]
theorem most_out (S : Sh sk n bf im above below) (hJ : V.J ≤ 8) (hJ0 : 0 < V.J) (he : en < 16)
    (kk : ∀ s g2, (s = V.mx w ∨ (en + 1 ≤ s.1 ∧ s.1 ≤ (V.mx w).1 ∧ (9 ≤ s.1 → s = V.mx w))) → 1 ≤ s.1 → s.1 ≤ 9 → tunedE g2 V → g2 34 6 = nI (100 * s.2.1 + s.2.2) → Fr 34 36 g g2 → (∀ k, k ≠ 6 → g2 34 k = g 34 k) → Q (some (.int (nI (s.1 - 1)))) (HP sk g2 n)) :
    ∀ m t g2 s, t + m = 12 → (s = mxAll V w t ∨ (en + 1 ≤ s.1 ∧ s.1 ≤ (V.mx w).1 ∧ (9 ≤ s.1 → s = V.mx w))) → (1 ≤ s.1 ∨ t = 0) → s.1 ≤ 9 → okM V g g2 s → T MX4_mostBroken (d + 3) kc ks 5 [(0, .ref 34), (1, .int (nI (bm w 8))), (2, .int (nI en)), (3, .int (mI s.1)), (4, .int (nI t))] [] (HP sk g2 n) Q := by
  intro m
  have hex : ∀ t g2 s, (s = V.mx w ∨ (en + 1 ≤ s.1 ∧ s.1 ≤ (V.mx w).1 ∧ (9 ≤ s.1 → s = V.mx w))) → 1 ≤ s.1 → s.1 ≤ 9 → okM V g g2 s → T MX4_mostBroken (d + 3) kc ks 87 [(0, .ref 34), (1, .int (nI (bm w 8))), (2, .int (nI en)), (3, .int (mI s.1)), (4, .int (nI t))] [] (HP sk g2 n) Q := by
    intro t g2 s h1 h2 h3 h4
    rw [mI_pos h2]
    refine T_iload_n (pc2 := 88) dX4_mostBroken_87 rfl rfl ?_
    refine T_iret dX4_mostBroken_88 rfl rfl ?_
    exact kk s g2 h1 h2 h3 h4.1 (h4.2.1 h2) h4.2.2.1 h4.2.2.2
  induction m with
  | zero =>
    intro t g2 s ht hs hp h9 ho
    refine T_iload (pc2 := 7) dX4_mostBroken_5 rfl rfl ?_
    refine T_bipush (pc2 := 9) dX4_mostBroken_7 bp12 rfl ?_
    first | refine N_icmpge (pc2 := 12) (tgt := 87) dX4_mostBroken_9 (by decide) (by with_reducible rfl) (by with_reducible rfl) (by omega) (by omega) rfl (fun c9 => ?_) (fun c9 => ?_) | refine T_icmpge (pc2 := 12) (tgt := 87) dX4_mostBroken_9 (by decide) rfl (fun c9 => ?_) (fun c9 => ?_)
    · have ht2 : t = 12 := by omega
      subst ht2
      exact hex _ g2 s hs (by omega) h9 ho
    · exact absurd (by omega) c9
  | succ m ih =>
    intro t g2 s ht hs hp h9 ho
    refine T_iload (pc2 := 7) dX4_mostBroken_5 rfl rfl ?_
    refine T_bipush (pc2 := 9) dX4_mostBroken_7 bp12 rfl ?_
    first | refine N_icmpge (pc2 := 12) (tgt := 87) dX4_mostBroken_9 (by decide) (by with_reducible rfl) (by with_reducible rfl) (by omega) (by omega) rfl (fun c9 => ?_) (fun c9 => ?_) | refine T_icmpge (pc2 := 12) (tgt := 87) dX4_mostBroken_9 (by decide) rfl (fun c9 => ?_) (fun c9 => ?_)
    · exact absurd c9 (by omega)
    · refine T_iload_n (pc2 := 13) dX4_mostBroken_12 rfl rfl ?_
      refine T_iload_n (pc2 := 14) dX4_mostBroken_13 rfl rfl ?_
      refine T_icmpge (pc2 := 17) (tgt := 87) dX4_mostBroken_14 (by decide) rfl (fun c14 => ?_) (fun c14 => ?_)
      · have hm := (mI_le he (by omega)).mp c14
        refine hex _ g2 s (Or.inr ⟨hm, ?_, ?_⟩) (by omega) h9 ho
        · rcases hs with hs | hs
          · rw [hs]; exact all_mono V w (by omega)
          · exact hs.2.1
        · intro q9
          rcases hs with hs | hs
          · rw [hs] at q9 ⊢
            exact all_9 V w (by omega) q9
          · exact hs.2.2 q9
      · have hs : s = mxAll V w t := by
          rcases hs with hs | hs
          · exact hs
          · exact absurd ((mI_le he (by omega)).mpr hs.1) c14
        refine T_iconst (pc2 := 18) dX4_mostBroken_17 ic0 rfl ?_
        refine T_istore (pc2 := 20) dX4_mostBroken_18 (by decide) rfl ?_
        refine T_sub (lks (i := 0) rfl (lks (i := 1) rfl (lks (i := 2) rfl (lks (i := 3) rfl (lks (i := 4) rfl (lks (i := 5) rfl lk0)))))) ?_
        refine most_in (g := g) (V := V) (w := w) (en := en) S hJ he (t := t) (by omega) s h9 (fun s2 q g3 h1 h2 h3 => ?_) V.J 0 g2 s (by omega) rfl ho
        unfold locM
        first | refine N_iinc (pc2 := 84) dX4_mostBroken_81 rfl (by with_reducible rfl) ic1 (by decide) rfl ?_ | refine T_iinc (pc2 := 84) dX4_mostBroken_81 rfl rfl (by decide) rfl ?_
        refine T_goto (tgt := 5) dX4_mostBroken_84 (by decide) ?_
        refine T_sub (lks (i := 0) rfl (lks (i := 1) rfl (lks (i := 2) rfl (lks (i := 3) rfl (lks (i := 4) rfl lk0))))) ?_
        have hx : mxRow V w t s V.J = mxAll V w (t + 1) := by rw [hs]; rfl
        rw [hx] at h1
        refine ih (t + 1) g3 s2 (by omega) ?_ ?_ h2 h3
        · rcases h1 with h1 | h1
          · exact Or.inl h1
          · refine Or.inr ⟨h1.1, Nat.le_trans h1.2.1 (all_mono V w (by omega)), fun q9 => ?_⟩
            have := h1.2.2 q9
            rw [this] at q9 ⊢
            exact all_9 V w (by omega) q9
        · rcases h1 with h1 | h1
          · left
            rw [h1, ← hx]
            exact row_pos V w t s hJ0
          · left
            omega
theorem c_most (S : Sh sk n bf im above below) (hE : tunedE g V) (hJ : V.J ≤ 8) (hJ0 : 0 < V.J) (he : en < 16)
    (kk : ∀ s g2, (s = V.mx w ∨ (en + 1 ≤ s.1 ∧ s.1 ≤ (V.mx w).1 ∧ (9 ≤ s.1 → s = V.mx w))) → 1 ≤ s.1 → s.1 ≤ 9 → tunedE g2 V → g2 34 6 = nI (100 * s.2.1 + s.2.2) → Fr 34 36 g g2 → (∀ k, k ≠ 6 → g2 34 k = g 34 k) → Q (some (.int (nI (s.1 - 1)))) (HP sk g2 n)) :
    Calls MX4_mostBroken (d + 3) 0 0 [.ref 34, .int (nI (bm w 8)), .int (nI en)] (HP sk g n) Q := by
  refine Calls.of (by decide +kernel) (Nat.le_of_ble_eq_true rfl) ?_
  refine T_iconst (pc2 := 1) dX4_mostBroken_0 icm1 rfl ?_
  refine T_istore_n (pc2 := 2) dX4_mostBroken_1 (by decide) rfl ?_
  refine T_iconst (pc2 := 3) dX4_mostBroken_2 ic0 rfl ?_
  refine T_istore (pc2 := 5) dX4_mostBroken_3 (by decide) rfl ?_
  rw [show (-1 : Int32) = mI (0, 0, 0).1 by decide]
  refine T_sub (lks (i := 0) rfl (lks (i := 1) rfl (lks (i := 2) rfl (lks (i := 3) rfl (lks (i := 4) rfl lk0))))) ?_
  exact most_out (g := g) S hJ hJ0 he kk 12 0 g (0, 0, 0) (by omega) (Or.inl rfl) (Or.inr rfl) (by decide) ⟨hE, fun h1 => absurd h1 (by decide), Fr.rf, fun _ _ => rfl⟩
end Most

