/-! the rows -/
abbrev RS : Type := (Nat → Bool) × (Nat → Nat) × (Nat → Nat) × (Nat → Nat → Int32)
/-- rows: there, lane, size, items -/
def hasR (g : Nat → Nat → Int32) (A : RS) : Prop := ∀ r, r < 8 → g 6 r = nI (if A.1 r then 1 else 0) ∧ (A.1 r = true → g 7 r = nI (A.2.1 r) ∧ g 8 r = nI (A.2.2.1 r) ∧ ∀ i, i < 40 → g (10 + r) i = A.2.2.2 r i)
def okR (A : RS) : Prop := ∀ r, r < 8 → A.1 r = true → A.2.1 r < 3 ∧ A.2.2.1 r ≤ 40
theorem hasR.fr {g g2 : Nat → Nat → Int32} {A : RS} {lo hi : Nat} (h : hasR g A) (f : Fr lo hi g g2) (hd : 18 ≤ lo ∨ hi ≤ 5) : hasR g2 A := by
  intro r hr
  rw [f 6 (by omega), f 7 (by omega), f 8 (by omega), f (10 + r) (by omega)]
  exact h r hr
def laneV (l : Nat) (v : Int32) : Int32 := if l = 0 then v.toInt8.toInt32 else if l = 1 then v.toInt16.toInt32 else v
theorem sub_toInt {s b : Nat} (hs : s ≤ 1000) (hb : b < 2 ^ 31) : (nI s - nI b).toInt = (s : Int) - b := by
  rw [Int32.toInt_sub, nI_toInt (by omega), nI_toInt hb]
  rw [Int.bmod_def]
  omega
def RS.put (A : RS) (r i : Nat) (v : Int32) : RS := (A.1, A.2.1, A.2.2.1, va_up A.2.2.2 r (va_up (A.2.2.2 r) i v))
def RS.lay (A : RS) (r l m : Nat) : RS := (va_up A.1 r true, va_up A.2.1 r l, va_up A.2.2.1 r m, va_up A.2.2.2 r (fun _ => 0))
def RS.drop (A : RS) (r : Nat) : RS := (va_up A.1 r false, A.2.1, A.2.2.1, A.2.2.2)
section RowsM
variable {sk : Nat → SK} {g : Nat → Nat → Int32} {n : Nat} {A : RS} {Q : Option Value → SH → Prop} {d kc ks : Nat} {h : SH} {bf im : Nat → Option Nat} {above below : Int64}
theorem shRow (S : Sh sk n bf im above below) : ∀ r, r < 8 → isA sk n (10 + r) .int 40 := by
  intro r hr
  match r, hr with
  | 0, _ => exact sh10 S
  | 1, _ => exact sh11 S
  | 2, _ => exact sh12 S
  | 3, _ => exact sh13 S
  | 4, _ => exact sh14 S
  | 5, _ => exact sh15 S
  | 6, _ => exact sh16 S
  | 7, _ => exact sh17 S
  | k + 8, h => omega
theorem lay_loop {r : Nat} (S : Sh sk n bf im above below) (hr : r < 8) (k : ∀ g2, (∀ j, j ≠ 10 + r → g2 j = g j) → (∀ i, i < 40 → g2 (10 + r) i = 0) → Q none (HP sk g2 n)) :
    ∀ m t g2, t + m = 40 → (∀ j, j ≠ 10 + r → g2 j = g j) → (∀ i, i < t → g2 (10 + r) i = 0) → T MX5_lay d kc ks 24 [(0, .ref 5), (1, .int (nI r)), (4, .int (nI t))] [] (HP sk g2 n) Q := by
  have hz := shRow S r hr
  have ez : (if r < 8 then some (10 + r) else none) = some (10 + r) := if_pos hr
  intro m
  induction m with
  | zero =>
    intro t g2 ht h1 h2
    refine T_iload (pc2 := 26) dX5_lay_24 rfl rfl ?_
    refine T_bipush (pc2 := 28) dX5_lay_26 bp40 rfl ?_
    first | refine N_icmpge (pc2 := 31) (tgt := 47) dX5_lay_28 (by decide) (by with_reducible rfl) (by with_reducible rfl) (by omega) (by omega) rfl (fun c28 => ?_) (fun c28 => ?_) | refine T_icmpge (pc2 := 31) (tgt := 47) dX5_lay_28 (by decide) rfl (fun c28 => ?_) (fun c28 => ?_)
    · refine T_ret dX5_lay_47 rfl ?_
      exact k g2 h1 (fun i hi => h2 i (by omega))
    · exact absurd (by omega) c28
  | succ m ih =>
    intro t g2 ht h1 h2
    refine T_iload (pc2 := 26) dX5_lay_24 rfl rfl ?_
    refine T_bipush (pc2 := 28) dX5_lay_26 bp40 rfl ?_
    first | refine N_icmpge (pc2 := 31) (tgt := 47) dX5_lay_28 (by decide) (by with_reducible rfl) (by with_reducible rfl) (by omega) (by omega) rfl (fun c28 => ?_) (fun c28 => ?_) | refine T_icmpge (pc2 := 31) (tgt := 47) dX5_lay_28 (by decide) rfl (fun c28 => ?_) (fun c28 => ?_)
    · exact absurd c28 (by omega)
    · refine T_aload_n (pc2 := 32) dX5_lay_31 rfl rfl ?_
      refine G_getR (pc2 := 35) dX5_lay_32 flX5_24 (sh5 S) rfl rfl ?_
      refine T_iload_n (pc2 := 36) dX5_lay_35 rfl rfl ?_
      refine G_aald (pc2 := 37) dX5_lay_36 (sh9 S) rfl (by omega) (by decide) (by first | with_reducible assumption | rfl) rfl ?_
      refine T_iload (pc2 := 39) dX5_lay_37 rfl rfl ?_
      refine T_iconst (pc2 := 40) dX5_lay_39 ic0 rfl ?_
      refine G_iast (pc2 := 41) dX5_lay_40 hz (by omega) (by decide) rfl ?_
      first | refine N_iinc (pc2 := 44) dX5_lay_41 rfl (by with_reducible rfl) ic1 (by decide) rfl ?_ | refine T_iinc (pc2 := 44) dX5_lay_41 rfl rfl (by decide) rfl ?_
      refine T_goto (tgt := 24) dX5_lay_44 (by decide) ?_
      refine T_sub (lks (i := 0) rfl (lks (i := 1) rfl (lks (i := 4) rfl lk0))) ?_
      refine ih (t + 1) _ (by omega) (fun j hj => by rw [gs_row hj]; exact h1 j hj) (fun i hi => ?_)
      by_cases e : i = t
      · subst e
        rw [gs_eq]
        rfl
      · rw [gs_ne _ _ (by omega)]
        exact h2 i (by omega)
theorem c_lay {r l m : Nat} (S : Sh sk n bf im above below) (hA : hasR g A) (hr : r < 8) (k : ∀ g2, hasR g2 (A.lay r l m) → Fr 5 18 g g2 → Q none (HP sk g2 n)) : Calls MX5_lay d 0 0 [.ref 5, .int (nI r), .int (nI l), .int (nI m)] (HP sk g n) Q := by
  refine Calls.of (by decide +kernel) (Nat.le_of_ble_eq_true rfl) ?_
  refine T_aload_n (pc2 := 1) dX5_lay_0 rfl rfl ?_
  refine G_getR (pc2 := 4) dX5_lay_1 flX5_9 (sh5 S) rfl rfl ?_
  refine T_iload_n (pc2 := 5) dX5_lay_4 rfl rfl ?_
  refine T_iconst (pc2 := 6) dX5_lay_5 ic1 rfl ?_
  refine G_bast (pc2 := 7) dX5_lay_6 (sh6 S) (by omega) (by decide) (by first | assumption | decide) rfl ?_
  refine T_aload_n (pc2 := 8) dX5_lay_7 rfl rfl ?_
  refine G_getR (pc2 := 11) dX5_lay_8 flX5_15 (sh5 S) rfl rfl ?_
  refine T_iload_n (pc2 := 12) dX5_lay_11 rfl rfl ?_
  refine T_iload_n (pc2 := 13) dX5_lay_12 rfl rfl ?_
  refine G_iast (pc2 := 14) dX5_lay_13 (sh7 S) (by omega) (by decide) rfl ?_
  refine T_aload_n (pc2 := 15) dX5_lay_14 rfl rfl ?_
  refine G_getR (pc2 := 18) dX5_lay_15 flX5_19 (sh5 S) rfl rfl ?_
  refine T_iload_n (pc2 := 19) dX5_lay_18 rfl rfl ?_
  refine T_iload_n (pc2 := 20) dX5_lay_19 rfl rfl ?_
  refine G_iast (pc2 := 21) dX5_lay_20 (sh8 S) (by omega) (by decide) rfl ?_
  refine T_iconst (pc2 := 22) dX5_lay_21 ic0 rfl ?_
  refine T_istore (pc2 := 24) dX5_lay_22 (by decide) rfl ?_
  refine T_sub (lks (i := 0) rfl (lks (i := 1) rfl (lks (i := 4) rfl lk0))) ?_
  refine lay_loop (g := gset (gset (gset g 6 r (nI 1)) 7 r (nI l)) 8 r (nI m)) S hr (fun g2 h1 h2 => k g2 ?_ ?_) 40 0 _ (by omega) (fun _ _ => rfl) (fun i hi => absurd hi (by omega))
  · intro q hq
    have e6 : g2 6 = gset g 6 r (nI 1) 6 := by rw [h1 6 (by omega), gs_row (by omega), gs_row (by omega)]
    have e7 : g2 7 = gset g 7 r (nI l) 7 := by
      rw [h1 7 (by omega), gs_row (by omega)]
      funext x
      simp [gset, va_up, upd]
    have e8 : g2 8 = gset g 8 r (nI m) 8 := by
      rw [h1 8 (by omega)]
      funext x
      simp [gset, va_up, upd]
    have := hA q hq
    by_cases e : q = r
    · subst e
      rw [e6, e7, e8, gs_eq, gs_eq, gs_eq]
      refine ⟨by simp [RS.lay, va_up], fun _ => ⟨by simp [RS.lay, va_up], by simp [RS.lay, va_up], fun i hi => ?_⟩⟩
      rw [h2 i hi]
      simp [RS.lay, va_up]
    · rw [e6, e7, e8, gs_ne _ _ (by omega), gs_ne _ _ (by omega), gs_ne _ _ (by omega), h1 (10 + q) (by omega), gs_row (by omega), gs_row (by omega), gs_row (by omega)]
      simpa [RS.lay, va_up, e] using this
  · intro j hj
    rw [h1 j (by omega), gs_row (by omega), gs_row (by omega), gs_row (by omega)]
theorem c_narrowed {l : Nat} {v : Int32} (hl : l < 3) (k : Q (some (.int (laneV l v))) h) : Calls MX5_narrowed d 0 0 [.int (nI l), .int v] h Q := by
  refine Calls.of (by decide +kernel) (Nat.le_of_ble_eq_true rfl) ?_
  refine T_iload_n (pc2 := 1) dX5_narrowed_0 rfl rfl ?_
  have hk : l = 0 ∨ l = 1 ∨ l = 2 := by omega
  rcases hk with rfl | rfl | rfl
  · refine T_lookup (off := 27) (tgt := 28) dX5_narrowed_1 (by decide) (by decide) (by decide) ?_
    refine T_iload_n (pc2 := 29) dX5_narrowed_28 rfl rfl ?_
    refine T_i2b (pc2 := 30) dX5_narrowed_29 rfl ?_
    refine T_iret dX5_narrowed_30 rfl rfl ?_
    exact k
  · refine T_lookup (off := 30) (tgt := 31) dX5_narrowed_1 (by decide) (by decide) (by decide) ?_
    refine T_iload_n (pc2 := 32) dX5_narrowed_31 rfl rfl ?_
    refine T_i2s (pc2 := 33) dX5_narrowed_32 rfl ?_
    refine T_iret dX5_narrowed_33 rfl rfl ?_
    exact k
  · refine T_lookup (off := 33) (tgt := 34) dX5_narrowed_1 (by decide) (by decide) (by decide) ?_
    refine T_iload_n (pc2 := 35) dX5_narrowed_34 rfl rfl ?_
    refine T_iret dX5_narrowed_35 rfl rfl ?_
    exact k
theorem c_put {r i : Nat} {v : Int32} (S : Sh sk n bf im above below) (hA : hasR g A) (hok : okR A) (hr : r < 8) (ht : A.1 r = true) (hi : i < 40) (k : ∀ g2, hasR g2 (A.put r i (laneV (A.2.1 r) v)) → Fr 5 18 g g2 → Q (some (.int (laneV (A.2.1 r) v))) (HP sk g2 n)) : Calls MX5_put (d + 1) 0 0 [.ref 5, .int (nI r), .int (nI i), .int v] (HP sk g n) Q := by
  refine Calls.of (by decide +kernel) (Nat.le_of_ble_eq_true rfl) ?_
  have hz := shRow S r hr
  have ez : (if r < 8 then some (10 + r) else none) = some (10 + r) := if_pos hr
  have e7 := ((hA r hr).2 ht).1
  refine T_aload_n (pc2 := 1) dX5_put_0 rfl rfl ?_
  refine G_getR (pc2 := 4) dX5_put_1 flX5_24 (sh5 S) rfl rfl ?_
  refine T_iload_n (pc2 := 5) dX5_put_4 rfl rfl ?_
  refine G_aald (pc2 := 6) dX5_put_5 (sh9 S) rfl (by omega) (by decide) (by first | with_reducible assumption | rfl) rfl ?_
  refine T_iload_n (pc2 := 7) dX5_put_6 rfl rfl ?_
  refine T_aload_n (pc2 := 8) dX5_put_7 rfl rfl ?_
  refine G_getR (pc2 := 11) dX5_put_8 flX5_15 (sh5 S) rfl rfl ?_
  refine T_iload_n (pc2 := 12) dX5_put_11 rfl rfl ?_
  refine G_iald (pc2 := 13) dX5_put_12 (sh7 S) (by omega) (by first | decide | omega) (by first | with_reducible assumption | exact gs_eq _ _ _ _ | exact (gs_ne _ _ (by omega)).trans (by with_reducible assumption) | exact (gs_ne _ _ (by omega)).trans (gs_eq _ _ _ _) | exact (gs_ne _ _ (by omega)).trans ((gs_ne _ _ (by omega)).trans (by with_reducible assumption)) | exact (gs_ne _ _ (by omega)).trans ((gs_ne _ _ (by omega)).trans (gs_eq _ _ _ _)) | exact (gs_ne _ _ (by omega)).trans ((gs_ne _ _ (by omega)).trans ((gs_ne _ _ (by omega)).trans (by with_reducible assumption))) | rfl) rfl ?_
  refine T_iload_n (pc2 := 14) dX5_put_13 rfl rfl ?_
  refine C_S2 (pc2 := 17) (mc := 0) (ms := 0) dX5_put_14 csX5_narrowed mlX5_27 (Nat.le_of_ble_eq_true rfl) rfl ?_
  refine c_narrowed (hok r hr ht).1 ?_
  refine G_iast (pc2 := 18) dX5_put_17 hz (by omega) (by decide) rfl ?_
  refine T_aload_n (pc2 := 19) dX5_put_18 rfl rfl ?_
  refine G_getR (pc2 := 22) dX5_put_19 flX5_24 (sh5 S) rfl rfl ?_
  refine T_iload_n (pc2 := 23) dX5_put_22 rfl rfl ?_
  refine G_aald (pc2 := 24) dX5_put_23 (sh9 S) rfl (by omega) (by decide) (by first | with_reducible assumption | rfl) rfl ?_
  refine T_iload_n (pc2 := 25) dX5_put_24 rfl rfl ?_
  refine G_iald (pc2 := 26) dX5_put_25 hz (by omega) (by first | decide | omega) (by first | with_reducible assumption | exact gs_eq _ _ _ _ | exact (gs_ne _ _ (by omega)).trans (by with_reducible assumption) | exact (gs_ne _ _ (by omega)).trans (gs_eq _ _ _ _) | exact (gs_ne _ _ (by omega)).trans ((gs_ne _ _ (by omega)).trans (by with_reducible assumption)) | exact (gs_ne _ _ (by omega)).trans ((gs_ne _ _ (by omega)).trans (gs_eq _ _ _ _)) | exact (gs_ne _ _ (by omega)).trans ((gs_ne _ _ (by omega)).trans ((gs_ne _ _ (by omega)).trans (by with_reducible assumption))) | rfl) rfl ?_
  refine T_iret dX5_put_26 rfl rfl ?_
  refine k _ (fun q hq => ?_) (Fr.rf.st (by omega) (by omega))
  have := hA q hq
  rw [gs_row (by omega), gs_row (by omega), gs_row (by omega)]
  refine ⟨this.1, fun h2 => ⟨(this.2 h2).1, (this.2 h2).2.1, fun j hj => ?_⟩⟩
  have h3 := (this.2 h2).2.2 j hj
  by_cases e : q = r
  · subst e
    by_cases e2 : j = i
    · subst e2
      rw [gs_eq]
      simp [RS.put, va_up]
    · rw [gs_ne _ _ (by omega), h3]
      simp [RS.put, va_up, e2]
  · rw [gs_row (by omega), h3]
    simp [RS.put, va_up, e]
theorem c_holds {r : Nat} {i m : Int32} (S : Sh sk n bf im above below) (hA : hasR g A) (hok : okR A) (hr : r < 8) (ht : A.1 r = true) (kt : ∀ a b, i = nI a → m = nI b → a + b ≤ A.2.2.1 r → Q (some (.int (nI 1))) (HP sk g n)) (kf : (∀ a b, i = nI a → m = nI b → a < 2 ^ 31 → b < 2 ^ 31 → ¬ a + b ≤ A.2.2.1 r) → Q (some (.int (nI 0))) (HP sk g n)) : Calls MX5_holds d 0 0 [.ref 5, .int (nI r), .int i, .int m] (HP sk g n) Q := by
  refine Calls.of (by decide +kernel) (Nat.le_of_ble_eq_true rfl) ?_
  have e8 := ((hA r hr).2 ht).2.1
  have hs := (hok r hr ht).2
  refine T_iload_n (pc2 := 1) dX5_holds_0 rfl rfl ?_
  refine T_iflt (pc2 := 4) (tgt := 24) dX5_holds_1 (by decide) rfl (fun c1 => ?_) (fun c1 => ?_)
  · refine T_iconst (pc2 := 25) dX5_holds_24 ic0 rfl ?_
    refine T_iret dX5_holds_25 rfl (by first | rfl | decide) ?_
    exact kf (fun a b ha hb h1 h2 => by subst ha; exact absurd c1 (nI_pos h1))
  · refine T_iload_n (pc2 := 5) dX5_holds_4 rfl rfl ?_
    refine T_iflt (pc2 := 8) (tgt := 24) dX5_holds_5 (by decide) rfl (fun c5 => ?_) (fun c5 => ?_)
    · refine T_iconst (pc2 := 25) dX5_holds_24 ic0 rfl ?_
      refine T_iret dX5_holds_25 rfl (by first | rfl | decide) ?_
      exact kf (fun a b ha hb h1 h2 => by subst hb; exact absurd c5 (nI_pos h2))
    · obtain ⟨a, ha, rfl⟩ := nI_of c1
      obtain ⟨b, hb, rfl⟩ := nI_of c5
      refine T_iload_n (pc2 := 9) dX5_holds_8 rfl rfl ?_
      refine T_aload_n (pc2 := 10) dX5_holds_9 rfl rfl ?_
      refine G_getR (pc2 := 13) dX5_holds_10 flX5_19 (sh5 S) rfl rfl ?_
      refine T_iload_n (pc2 := 14) dX5_holds_13 rfl rfl ?_
      refine G_iald (pc2 := 15) dX5_holds_14 (sh8 S) (by omega) (by first | decide | omega) (by first | with_reducible assumption | exact gs_eq _ _ _ _ | exact (gs_ne _ _ (by omega)).trans (by with_reducible assumption) | exact (gs_ne _ _ (by omega)).trans (gs_eq _ _ _ _) | exact (gs_ne _ _ (by omega)).trans ((gs_ne _ _ (by omega)).trans (by with_reducible assumption)) | exact (gs_ne _ _ (by omega)).trans ((gs_ne _ _ (by omega)).trans (gs_eq _ _ _ _)) | exact (gs_ne _ _ (by omega)).trans ((gs_ne _ _ (by omega)).trans ((gs_ne _ _ (by omega)).trans (by with_reducible assumption))) | rfl) rfl ?_
      refine T_iload_n (pc2 := 16) dX5_holds_15 rfl rfl ?_
      refine T_isub (pc2 := 17) dX5_holds_16 rfl ?_
      have hcmp : (nI (A.2.2.1 r) - nI b < nI a) ↔ ¬ a + b ≤ A.2.2.1 r := by
        rw [Int32.lt_iff_toInt_lt, sub_toInt (by omega) hb, nI_toInt ha]
        omega
      refine T_icmpgt (pc2 := 20) (tgt := 24) dX5_holds_17 (by decide) rfl (fun c17 => ?_) (fun c17 => ?_)
      · refine T_iconst (pc2 := 25) dX5_holds_24 ic0 rfl ?_
        refine T_iret dX5_holds_25 rfl (by first | rfl | decide) ?_
        refine kf (fun a2 b2 h1 h2 h3 h4 => ?_)
        rw [← (nI_eq ha h3).mp h1, ← (nI_eq hb h4).mp h2]
        exact hcmp.mp c17
      · refine T_iconst (pc2 := 21) dX5_holds_20 ic1 rfl ?_
        refine T_goto (tgt := 25) dX5_holds_21 (by decide) ?_
        refine T_iret dX5_holds_25 rfl (by first | rfl | decide) ?_
        refine kt a b rfl rfl ?_
        rcases Nat.lt_or_ge (A.2.2.1 r) (a + b) with q | q
        · exact absurd (hcmp.mpr (by omega)) c17
        · exact q
theorem c_lacking {r : Nat} {i m : Int32} (S : Sh sk n bf im above below) (hA : hasR g A) (hok : okR A) (hr : r < 8) (k0 : A.1 r = false → Q (some (.int (nI 1))) (HP sk g n)) (kt : ∀ a b, A.1 r = true → i = nI a → m = nI b → a + b ≤ A.2.2.1 r → Q (some (.int (nI 0))) (HP sk g n)) (kf : A.1 r = true → (∀ a b, i = nI a → m = nI b → a < 2 ^ 31 → b < 2 ^ 31 → ¬ a + b ≤ A.2.2.1 r) → Q (some (.int (nI 2))) (HP sk g n)) : Calls MX5_lacking (d + 1) 0 0 [.ref 5, .int (nI r), .int i, .int m] (HP sk g n) Q := by
  refine Calls.of (by decide +kernel) (Nat.le_of_ble_eq_true rfl) ?_
  have e6 := (hA r hr).1
  cases ht : A.1 r with
  | false =>
    rw [ht, if_neg (by decide)] at e6
    refine T_aload_n (pc2 := 1) dX5_lacking_0 rfl rfl ?_
    refine G_getR (pc2 := 4) dX5_lacking_1 flX5_9 (sh5 S) rfl rfl ?_
    refine T_iload_n (pc2 := 5) dX5_lacking_4 rfl rfl ?_
    refine G_bald (pc2 := 6) dX5_lacking_5 (sh6 S) (by omega) (by first | decide | omega) (by first | with_reducible assumption | exact gs_eq _ _ _ _ | exact (gs_ne _ _ (by omega)).trans (by with_reducible assumption) | exact (gs_ne _ _ (by omega)).trans (gs_eq _ _ _ _) | exact (gs_ne _ _ (by omega)).trans ((gs_ne _ _ (by omega)).trans (by with_reducible assumption)) | exact (gs_ne _ _ (by omega)).trans ((gs_ne _ _ (by omega)).trans (gs_eq _ _ _ _)) | exact (gs_ne _ _ (by omega)).trans ((gs_ne _ _ (by omega)).trans ((gs_ne _ _ (by omega)).trans (by with_reducible assumption))) | rfl) rfl ?_
    first | refine B_ifne1 (tgt := 11) dX5_lacking_6 (by with_reducible rfl) (by decide) ?_ | refine B_ifne0 (pc2 := 9) (tgt := 11) dX5_lacking_6 (by with_reducible rfl) (by decide) rfl ?_ | refine N_ifne (pc2 := 9) (tgt := 11) dX5_lacking_6 (by with_reducible rfl) (by decide) (by omega) rfl (fun c6 => ?_) (fun c6 => ?_) | refine T_ifne (pc2 := 9) (tgt := 11) dX5_lacking_6 (by decide) rfl (fun c6 => ?_) (fun c6 => ?_)
    refine T_iconst (pc2 := 10) dX5_lacking_9 ic1 rfl ?_
    refine T_iret dX5_lacking_10 rfl rfl ?_
    exact k0 ht
  | true =>
    rw [ht, if_pos rfl] at e6
    refine T_aload_n (pc2 := 1) dX5_lacking_0 rfl rfl ?_
    refine G_getR (pc2 := 4) dX5_lacking_1 flX5_9 (sh5 S) rfl rfl ?_
    refine T_iload_n (pc2 := 5) dX5_lacking_4 rfl rfl ?_
    refine G_bald (pc2 := 6) dX5_lacking_5 (sh6 S) (by omega) (by first | decide | omega) (by first | with_reducible assumption | exact gs_eq _ _ _ _ | exact (gs_ne _ _ (by omega)).trans (by with_reducible assumption) | exact (gs_ne _ _ (by omega)).trans (gs_eq _ _ _ _) | exact (gs_ne _ _ (by omega)).trans ((gs_ne _ _ (by omega)).trans (by with_reducible assumption)) | exact (gs_ne _ _ (by omega)).trans ((gs_ne _ _ (by omega)).trans (gs_eq _ _ _ _)) | exact (gs_ne _ _ (by omega)).trans ((gs_ne _ _ (by omega)).trans ((gs_ne _ _ (by omega)).trans (by with_reducible assumption))) | rfl) rfl ?_
    first | refine B_ifne1 (tgt := 11) dX5_lacking_6 (by with_reducible rfl) (by decide) ?_ | refine B_ifne0 (pc2 := 9) (tgt := 11) dX5_lacking_6 (by with_reducible rfl) (by decide) rfl ?_ | refine N_ifne (pc2 := 9) (tgt := 11) dX5_lacking_6 (by with_reducible rfl) (by decide) (by omega) rfl (fun c6 => ?_) (fun c6 => ?_) | refine T_ifne (pc2 := 9) (tgt := 11) dX5_lacking_6 (by decide) rfl (fun c6 => ?_) (fun c6 => ?_)
    refine T_aload_n (pc2 := 12) dX5_lacking_11 rfl rfl ?_
    refine T_iload_n (pc2 := 13) dX5_lacking_12 rfl rfl ?_
    refine T_iload_n (pc2 := 14) dX5_lacking_13 rfl rfl ?_
    refine T_iload_n (pc2 := 15) dX5_lacking_14 rfl rfl ?_
    refine C_V3 (pc2 := 18) (mc := 0) (ms := 0) dX5_lacking_15 cvX5_holds mlX5_31 (isO.h (sh5 S) _) (Nat.le_of_ble_eq_true rfl) rfl ?_
    refine c_holds S hA hok hr ht (fun a b h1 h2 h3 => ?_) (fun h1 => ?_)
    · first | refine B_ifeq1 (pc2 := 21) (tgt := 25) dX5_lacking_18 (by with_reducible rfl) (by decide) rfl ?_ | refine B_ifeq0 (tgt := 25) dX5_lacking_18 (by with_reducible rfl) (by decide) ?_ | refine N_ifeq (pc2 := 21) (tgt := 25) dX5_lacking_18 (by with_reducible rfl) (by decide) (by omega) rfl (fun c18 => ?_) (fun c18 => ?_) | refine T_ifeq (pc2 := 21) (tgt := 25) dX5_lacking_18 (by decide) rfl (fun c18 => ?_) (fun c18 => ?_)
      refine T_iconst (pc2 := 22) dX5_lacking_21 ic0 rfl ?_
      refine T_goto (tgt := 26) dX5_lacking_22 (by decide) ?_
      refine T_iret dX5_lacking_26 rfl rfl ?_
      exact kt a b ht h1 h2 h3
    · first | refine B_ifeq1 (pc2 := 21) (tgt := 25) dX5_lacking_18 (by with_reducible rfl) (by decide) rfl ?_ | refine B_ifeq0 (tgt := 25) dX5_lacking_18 (by with_reducible rfl) (by decide) ?_ | refine N_ifeq (pc2 := 21) (tgt := 25) dX5_lacking_18 (by with_reducible rfl) (by decide) (by omega) rfl (fun c18 => ?_) (fun c18 => ?_) | refine T_ifeq (pc2 := 21) (tgt := 25) dX5_lacking_18 (by decide) rfl (fun c18 => ?_) (fun c18 => ?_)
      refine T_iconst (pc2 := 26) dX5_lacking_25 ic2 rfl ?_
      refine T_iret dX5_lacking_26 rfl rfl ?_
      exact kf ht h1
theorem tells_loop {r a b : Nat} (S : Sh sk n bf im above below) (hA : hasR g A) (hr : r < 8) (ht : A.1 r = true) (hab : a + b ≤ 40) (hb : b < 100) (kt : (∀ t, t < b → ∃ v, v < 12 ∧ A.2.2.2 r (a + t) = nI v) → Q (some (.int (nI 1))) (HP sk g n)) (kf : (∃ t, t < b ∧ ∀ v, v < 12 → A.2.2.2 r (a + t) ≠ nI v) → Q (some (.int (nI 0))) (HP sk g n)) :
    ∀ m t, t + m = b → (∀ s, s < t → ∃ v, v < 12 ∧ A.2.2.2 r (a + s) = nI v) → T MX5_tellsNotes (d + 2) kc ks 3 [(0, .ref 5), (1, .int (nI r)), (2, .int (nI a)), (3, .int (nI b)), (4, .int (nI t))] [] (HP sk g n) Q := by
  have hz := shRow S r hr
  have ez : (if r < 8 then some (10 + r) else none) = some (10 + r) := if_pos hr
  intro m
  induction m with
  | zero =>
    intro t hm hs
    refine T_iload (pc2 := 5) dX5_tellsNotes_3 rfl rfl ?_
    refine T_iload_n (pc2 := 6) dX5_tellsNotes_5 rfl rfl ?_
    first | refine N_icmpge (pc2 := 9) (tgt := 34) dX5_tellsNotes_6 (by decide) (by with_reducible rfl) (by with_reducible rfl) (by omega) (by omega) rfl (fun c6 => ?_) (fun c6 => ?_) | refine T_icmpge (pc2 := 9) (tgt := 34) dX5_tellsNotes_6 (by decide) rfl (fun c6 => ?_) (fun c6 => ?_)
    · refine T_iconst (pc2 := 35) dX5_tellsNotes_34 ic1 rfl ?_
      refine T_iret dX5_tellsNotes_35 rfl (by first | rfl | decide) ?_
      exact kt (fun s h1 => hs s (by omega))
    · exact absurd (by omega) c6
  | succ m ih =>
    intro t hm hs
    have e9 := ((hA r hr).2 ht).2.2 (a + t) (by omega)
    refine T_iload (pc2 := 5) dX5_tellsNotes_3 rfl rfl ?_
    refine T_iload_n (pc2 := 6) dX5_tellsNotes_5 rfl rfl ?_
    first | refine N_icmpge (pc2 := 9) (tgt := 34) dX5_tellsNotes_6 (by decide) (by with_reducible rfl) (by with_reducible rfl) (by omega) (by omega) rfl (fun c6 => ?_) (fun c6 => ?_) | refine T_icmpge (pc2 := 9) (tgt := 34) dX5_tellsNotes_6 (by decide) rfl (fun c6 => ?_) (fun c6 => ?_)
    · exact absurd c6 (by omega)
    · refine T_aload_n (pc2 := 10) dX5_tellsNotes_9 rfl rfl ?_
      refine G_getR (pc2 := 13) dX5_tellsNotes_10 flX5_24 (sh5 S) rfl rfl ?_
      refine T_iload_n (pc2 := 14) dX5_tellsNotes_13 rfl rfl ?_
      refine G_aald (pc2 := 15) dX5_tellsNotes_14 (sh9 S) rfl (by omega) (by decide) (by first | with_reducible assumption | rfl) rfl ?_
      refine T_iload_n (pc2 := 16) dX5_tellsNotes_15 rfl rfl ?_
      refine T_iload (pc2 := 18) dX5_tellsNotes_16 rfl rfl ?_
      first | refine N_iadd (pc2 := 19) dX5_tellsNotes_18 (by with_reducible rfl) (by with_reducible rfl) rfl ?_ | refine T_iadd (pc2 := 19) dX5_tellsNotes_18 rfl ?_
      refine G_iald (pc2 := 20) dX5_tellsNotes_19 hz (by omega) (by first | decide | omega) (by first | with_reducible assumption | exact gs_eq _ _ _ _ | exact (gs_ne _ _ (by omega)).trans (by with_reducible assumption) | exact (gs_ne _ _ (by omega)).trans (gs_eq _ _ _ _) | exact (gs_ne _ _ (by omega)).trans ((gs_ne _ _ (by omega)).trans (by with_reducible assumption)) | exact (gs_ne _ _ (by omega)).trans ((gs_ne _ _ (by omega)).trans (gs_eq _ _ _ _)) | exact (gs_ne _ _ (by omega)).trans ((gs_ne _ _ (by omega)).trans ((gs_ne _ _ (by omega)).trans (by with_reducible assumption))) | rfl) rfl ?_
      refine C_SN1 (pc2 := 23) (mc := 0) (ms := 0) dX5_tellsNotes_20 csX7_isNote mnX5_35 (Nat.le_of_ble_eq_true rfl) rfl ?_
      refine c_isNote (fun v hv e => ?_) (fun hno => ?_)
      · first | refine B_ifne1 (tgt := 28) dX5_tellsNotes_23 (by with_reducible rfl) (by decide) ?_ | refine B_ifne0 (pc2 := 26) (tgt := 28) dX5_tellsNotes_23 (by with_reducible rfl) (by decide) rfl ?_ | refine N_ifne (pc2 := 26) (tgt := 28) dX5_tellsNotes_23 (by with_reducible rfl) (by decide) (by omega) rfl (fun c23 => ?_) (fun c23 => ?_) | refine T_ifne (pc2 := 26) (tgt := 28) dX5_tellsNotes_23 (by decide) rfl (fun c23 => ?_) (fun c23 => ?_)
        first | refine N_iinc (pc2 := 31) dX5_tellsNotes_28 rfl (by with_reducible rfl) ic1 (by decide) rfl ?_ | refine T_iinc (pc2 := 31) dX5_tellsNotes_28 rfl rfl (by decide) rfl ?_
        refine T_goto (tgt := 3) dX5_tellsNotes_31 (by decide) ?_
        refine T_sub (lks (i := 0) rfl (lks (i := 1) rfl (lks (i := 2) rfl (lks (i := 3) rfl (lks (i := 4) rfl lk0))))) ?_
        refine ih (t + 1) (by omega) (fun s h1 => ?_)
        by_cases e2 : s = t
        · subst e2
          exact ⟨v, hv, e⟩
        · exact hs s (by omega)
      · first | refine B_ifne1 (tgt := 28) dX5_tellsNotes_23 (by with_reducible rfl) (by decide) ?_ | refine B_ifne0 (pc2 := 26) (tgt := 28) dX5_tellsNotes_23 (by with_reducible rfl) (by decide) rfl ?_ | refine N_ifne (pc2 := 26) (tgt := 28) dX5_tellsNotes_23 (by with_reducible rfl) (by decide) (by omega) rfl (fun c23 => ?_) (fun c23 => ?_) | refine T_ifne (pc2 := 26) (tgt := 28) dX5_tellsNotes_23 (by decide) rfl (fun c23 => ?_) (fun c23 => ?_)
        refine T_iconst (pc2 := 27) dX5_tellsNotes_26 ic0 rfl ?_
        refine T_iret dX5_tellsNotes_27 rfl (by first | rfl | decide) ?_
        exact kf ⟨t, by omega, hno⟩
theorem c_tells {r a b : Nat} (S : Sh sk n bf im above below) (hA : hasR g A) (hr : r < 8) (ht : A.1 r = true) (hab : a + b ≤ 40) (hb : b < 100) (kt : (∀ t, t < b → ∃ v, v < 12 ∧ A.2.2.2 r (a + t) = nI v) → Q (some (.int (nI 1))) (HP sk g n)) (kf : (∃ t, t < b ∧ ∀ v, v < 12 → A.2.2.2 r (a + t) ≠ nI v) → Q (some (.int (nI 0))) (HP sk g n)) : Calls MX5_tellsNotes (d + 2) 0 0 [.ref 5, .int (nI r), .int (nI a), .int (nI b)] (HP sk g n) Q := by
  refine Calls.of (by decide +kernel) (Nat.le_of_ble_eq_true rfl) ?_
  refine T_iconst (pc2 := 1) dX5_tellsNotes_0 ic0 rfl ?_
  refine T_istore (pc2 := 3) dX5_tellsNotes_1 (by decide) rfl ?_
  refine T_sub (lks (i := 0) rfl (lks (i := 1) rfl (lks (i := 2) rfl (lks (i := 3) rfl (lks (i := 4) rfl lk0))))) ?_
  exact tells_loop S hA hr ht hab hb kt kf b 0 (by omega) (fun s h => absurd h (by omega))
theorem howMany_loop (S : Sh sk n bf im above below) (hA : hasR g A) (k : Q (some (.int (nI (ct A.1 8)))) (HP sk g n)) : ∀ m t, t + m = 8 → T MX5_howMany d kc ks 4 [(0, .ref 5), (1, .int (nI (ct A.1 t))), (2, .int (nI t))] [] (HP sk g n) Q := by
  intro m
  induction m with
  | zero =>
    intro t hm
    refine T_iload_n (pc2 := 5) dX5_howMany_4 rfl rfl ?_
    refine T_bipush (pc2 := 7) dX5_howMany_5 bp8 rfl ?_
    first | refine N_icmpge (pc2 := 10) (tgt := 33) dX5_howMany_7 (by decide) (by with_reducible rfl) (by with_reducible rfl) (by omega) (by omega) rfl (fun c7 => ?_) (fun c7 => ?_) | refine T_icmpge (pc2 := 10) (tgt := 33) dX5_howMany_7 (by decide) rfl (fun c7 => ?_) (fun c7 => ?_)
    · refine T_iload_n (pc2 := 34) dX5_howMany_33 rfl rfl ?_
      refine T_iret dX5_howMany_34 rfl rfl ?_
      rw [show t = 8 by omega]
      exact k
    · exact absurd (by omega) c7
  | succ m ih =>
    intro t hm
    have e6 := (hA t (by omega)).1
    have hx : ct A.1 (t + 1) = ct A.1 t + (if A.1 t then 1 else 0) := rfl
    refine T_iload_n (pc2 := 5) dX5_howMany_4 rfl rfl ?_
    refine T_bipush (pc2 := 7) dX5_howMany_5 bp8 rfl ?_
    first | refine N_icmpge (pc2 := 10) (tgt := 33) dX5_howMany_7 (by decide) (by with_reducible rfl) (by with_reducible rfl) (by omega) (by omega) rfl (fun c7 => ?_) (fun c7 => ?_) | refine T_icmpge (pc2 := 10) (tgt := 33) dX5_howMany_7 (by decide) rfl (fun c7 => ?_) (fun c7 => ?_)
    · exact absurd c7 (by omega)
    · cases ht : A.1 t with
      | false =>
        rw [ht, if_neg (by decide)] at e6 hx
        refine T_iload_n (pc2 := 11) dX5_howMany_10 rfl rfl ?_
        refine T_aload_n (pc2 := 12) dX5_howMany_11 rfl rfl ?_
        refine G_getR (pc2 := 15) dX5_howMany_12 flX5_9 (sh5 S) rfl rfl ?_
        refine T_iload_n (pc2 := 16) dX5_howMany_15 rfl rfl ?_
        refine G_bald (pc2 := 17) dX5_howMany_16 (sh6 S) (by omega) (by first | decide | omega) (by first | with_reducible assumption | exact gs_eq _ _ _ _ | exact (gs_ne _ _ (by omega)).trans (by with_reducible assumption) | exact (gs_ne _ _ (by omega)).trans (gs_eq _ _ _ _) | exact (gs_ne _ _ (by omega)).trans ((gs_ne _ _ (by omega)).trans (by with_reducible assumption)) | exact (gs_ne _ _ (by omega)).trans ((gs_ne _ _ (by omega)).trans (gs_eq _ _ _ _)) | exact (gs_ne _ _ (by omega)).trans ((gs_ne _ _ (by omega)).trans ((gs_ne _ _ (by omega)).trans (by with_reducible assumption))) | rfl) rfl ?_
        first | refine B_ifeq1 (pc2 := 20) (tgt := 24) dX5_howMany_17 (by with_reducible rfl) (by decide) rfl ?_ | refine B_ifeq0 (tgt := 24) dX5_howMany_17 (by with_reducible rfl) (by decide) ?_ | refine N_ifeq (pc2 := 20) (tgt := 24) dX5_howMany_17 (by with_reducible rfl) (by decide) (by omega) rfl (fun c17 => ?_) (fun c17 => ?_) | refine T_ifeq (pc2 := 20) (tgt := 24) dX5_howMany_17 (by decide) rfl (fun c17 => ?_) (fun c17 => ?_)
        refine T_iconst (pc2 := 25) dX5_howMany_24 ic0 rfl ?_
        first | refine N_iadd (pc2 := 26) dX5_howMany_25 (by with_reducible rfl) (by with_reducible rfl) rfl ?_ | refine T_iadd (pc2 := 26) dX5_howMany_25 rfl ?_
        refine T_istore_n (pc2 := 27) dX5_howMany_26 (by decide) rfl ?_
        first | refine N_iinc (pc2 := 30) dX5_howMany_27 rfl (by with_reducible rfl) ic1 (by decide) rfl ?_ | refine T_iinc (pc2 := 30) dX5_howMany_27 rfl rfl (by decide) rfl ?_
        refine T_goto (tgt := 4) dX5_howMany_30 (by decide) ?_
        refine T_sub (lks (i := 0) rfl (lks (i := 1) rfl (lks (i := 2) rfl lk0))) ?_
        rw [← hx]
        exact ih (t + 1) (by omega)
      | true =>
        rw [ht, if_pos rfl] at e6 hx
        refine T_iload_n (pc2 := 11) dX5_howMany_10 rfl rfl ?_
        refine T_aload_n (pc2 := 12) dX5_howMany_11 rfl rfl ?_
        refine G_getR (pc2 := 15) dX5_howMany_12 flX5_9 (sh5 S) rfl rfl ?_
        refine T_iload_n (pc2 := 16) dX5_howMany_15 rfl rfl ?_
        refine G_bald (pc2 := 17) dX5_howMany_16 (sh6 S) (by omega) (by first | decide | omega) (by first | with_reducible assumption | exact gs_eq _ _ _ _ | exact (gs_ne _ _ (by omega)).trans (by with_reducible assumption) | exact (gs_ne _ _ (by omega)).trans (gs_eq _ _ _ _) | exact (gs_ne _ _ (by omega)).trans ((gs_ne _ _ (by omega)).trans (by with_reducible assumption)) | exact (gs_ne _ _ (by omega)).trans ((gs_ne _ _ (by omega)).trans (gs_eq _ _ _ _)) | exact (gs_ne _ _ (by omega)).trans ((gs_ne _ _ (by omega)).trans ((gs_ne _ _ (by omega)).trans (by with_reducible assumption))) | rfl) rfl ?_
        first | refine B_ifeq1 (pc2 := 20) (tgt := 24) dX5_howMany_17 (by with_reducible rfl) (by decide) rfl ?_ | refine B_ifeq0 (tgt := 24) dX5_howMany_17 (by with_reducible rfl) (by decide) ?_ | refine N_ifeq (pc2 := 20) (tgt := 24) dX5_howMany_17 (by with_reducible rfl) (by decide) (by omega) rfl (fun c17 => ?_) (fun c17 => ?_) | refine T_ifeq (pc2 := 20) (tgt := 24) dX5_howMany_17 (by decide) rfl (fun c17 => ?_) (fun c17 => ?_)
        refine T_iconst (pc2 := 21) dX5_howMany_20 ic1 rfl ?_
        refine T_goto (tgt := 25) dX5_howMany_21 (by decide) ?_
        first | refine N_iadd (pc2 := 26) dX5_howMany_25 (by with_reducible rfl) (by with_reducible rfl) rfl ?_ | refine T_iadd (pc2 := 26) dX5_howMany_25 rfl ?_
        refine T_istore_n (pc2 := 27) dX5_howMany_26 (by decide) rfl ?_
        first | refine N_iinc (pc2 := 30) dX5_howMany_27 rfl (by with_reducible rfl) ic1 (by decide) rfl ?_ | refine T_iinc (pc2 := 30) dX5_howMany_27 rfl rfl (by decide) rfl ?_
        refine T_goto (tgt := 4) dX5_howMany_30 (by decide) ?_
        refine T_sub (lks (i := 0) rfl (lks (i := 1) rfl (lks (i := 2) rfl lk0))) ?_
        rw [← hx]
        exact ih (t + 1) (by omega)
theorem c_howMany (S : Sh sk n bf im above below) (hA : hasR g A) (k : Q (some (.int (nI (ct A.1 8)))) (HP sk g n)) : Calls MX5_howMany d 0 0 [.ref 5] (HP sk g n) Q := by
  refine Calls.of (by decide +kernel) (Nat.le_of_ble_eq_true rfl) ?_
  refine T_iconst (pc2 := 1) dX5_howMany_0 ic0 rfl ?_
  refine T_istore_n (pc2 := 2) dX5_howMany_1 (by decide) rfl ?_
  refine T_iconst (pc2 := 3) dX5_howMany_2 ic0 rfl ?_
  refine T_istore_n (pc2 := 4) dX5_howMany_3 (by decide) rfl ?_
  refine T_sub (lks (i := 0) rfl (lks (i := 1) rfl (lks (i := 2) rfl lk0))) ?_
  exact howMany_loop S hA k 8 0 (by omega)
end RowsM

