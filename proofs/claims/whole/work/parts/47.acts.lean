/-! made anew: a cellar; the acts -/
abbrev bl2 : List (Option Value) := [none, none, none, some .null, some .null, some .null, some .null, some .null]
theorem bl2_ok : ∀ (a : Nat → Nat) (j : Nat), j < NN 2 → defaultValue (tyT 2 j) = vp_V ((slotV (fun _ => 0) 0 bl2).map (trV a)) j := by
  intro a j hj
  match j, hj with
  | 0, _ => rfl
  | 1, _ => rfl
  | 2, _ => rfl
  | 3, _ => rfl
  | 4, _ => rfl
  | 5, _ => rfl
  | 6, _ => rfl
  | 7, _ => rfl
  | k + 8, h => exact absurd h (by show ¬ k + 8 < 8; omega)
theorem isC.mono {sk sk2 : Nat → SK} {n n2 c : Nat} (h : isC sk n c) (hs : ∀ i, c ≤ i → i < c + 6 → sk2 i = sk i) (hn : n ≤ n2) : isC sk2 n2 c := by
  unfold isC isO isA at h ⊢
  rw [hs c (by omega) (by omega), hs (c + 1) (by omega) (by omega), hs (c + 2) (by omega) (by omega), hs (c + 3) (by omega) (by omega), hs (c + 4) (by omega) (by omega), hs (c + 5) (by omega) (by omega)]
  obtain ⟨⟨a1, a2, a3⟩, ⟨b1, b2, b3⟩, ⟨c1, c2, c3⟩, ⟨d1, d2, d3⟩, ⟨e1, e2, e3⟩, ⟨f1, f2, f3⟩⟩ := h
  exact ⟨⟨a1, by omega, a3⟩, ⟨b1, by omega, b3⟩, ⟨c1, by omega, c3⟩, ⟨d1, by omega, d3⟩, ⟨e1, by omega, e3⟩, ⟨f1, by omega, f3⟩⟩
theorem Sh.ext {sk sk2 : Nat → SK} {n n2 : Nat} {bf im : Nat → Option Nat} {above below : Int64} (S : Sh sk n bf im above below) (hs : ∀ i, i < 62 → sk2 i = sk i) (hn : n ≤ n2) : Sh sk2 n2 bf im above below := by
  refine ⟨Nat.le_trans S.1 hn, ?_, ?_, ?_, fun i h1 h2 => by rw [hs i h2]; exact S.2.2.2.2 i h1 h2⟩
  · unfold isX; rw [hs 1 (by decide)]; exact S.2.1
  · unfold isX; rw [hs 2 (by decide)]; exact S.2.2.1
  · unfold isX; rw [hs 3 (by decide)]; exact S.2.2.2.1
section ActsM
variable {sk : Nat → SK} {g : Nat → Nat → Int32} {n c : Nat} {V : Cel} {Q : Option Value → SH → Prop} {d kc ks : Nat} {bf im : Nat → Option Nat} {above below : Int64}
theorem c_cinit (ho : isO sk n (n + 3) 2 bl2) (hn : 1 ≤ n) (k : ∀ sk2 g2, isC sk2 (n + 5) (n + 3) → (∀ i, i < n + 3 → sk2 i = sk i) → (∀ i, i < n + 4 → g2 i = g i) → (∀ i, n + 4 ≤ i → i < n + 9 → ∀ k, g2 i k = 0) → Q none (HP sk2 g2 (n + 5))) : Calls MX2_init d 5 40 [.ref (n + 3)] (HP sk g n) Q := by
  refine Calls.of (by decide +kernel) (Nat.le_of_ble_eq_true rfl) ?_
  refine T_aload_n (pc2 := 1) dX2_init_0 rfl rfl ?_
  refine T_objinit (pc2 := 4) dX2_init_1 mlX2_3 (Nat.le_of_ble_eq_true rfl) rfl ?_
  refine T_aload_n (pc2 := 5) dX2_init_4 rfl rfl ?_
  refine T_bipush (pc2 := 7) dX2_init_5 bp8 rfl ?_
  refine G_newi (N := 8) (kc := 4) (ks := 32) (n := n) (pc2 := 9) dX2_init_7 ai_in (by decide) rfl ?_
  refine G_putR (ci := 2) (kf := 3) (L := [none, none, none, some .null, some .null, some .null, some .null, some .null]) (n := n + 1) (pc2 := 12) dX2_init_9 flX2_9 ⟨by omega, by omega, by rw [show va_up sk (n + 4) (.inr (.int, 8, none)) (n + 3) = sk (n + 3) by simp [va_up]]; exact ho.2.2⟩ (Nat.le_of_ble_eq_true rfl) rfl rfl rfl rfl rfl ?_
  refine T_aload_n (pc2 := 13) dX2_init_12 rfl rfl ?_
  refine T_bipush (pc2 := 15) dX2_init_13 bp8 rfl ?_
  refine G_newi (N := 8) (kc := 3) (ks := 24) (n := (n + 1)) (pc2 := 17) dX2_init_15 ai_in (by decide) rfl ?_
  refine G_putR (ci := 2) (kf := 4) (L := [none, none, none, some (.ref (n + 4)), some .null, some .null, some .null, some .null]) (n := n + 2) (pc2 := 20) dX2_init_17 flX2_15 ⟨by omega, by omega, by simp [va_up]⟩ (Nat.le_of_ble_eq_true rfl) rfl rfl rfl rfl rfl ?_
  refine T_aload_n (pc2 := 21) dX2_init_20 rfl rfl ?_
  refine T_bipush (pc2 := 23) dX2_init_21 bp8 rfl ?_
  refine G_newi (N := 8) (kc := 2) (ks := 16) (n := (n + 2)) (pc2 := 25) dX2_init_23 ai_in (by decide) rfl ?_
  refine G_putR (ci := 2) (kf := 5) (L := [none, none, none, some (.ref (n + 4)), some (.ref (n + 1 + 4)), some .null, some .null, some .null]) (n := n + 3) (pc2 := 28) dX2_init_25 flX2_18 ⟨by omega, by omega, by simp [va_up]⟩ (Nat.le_of_ble_eq_true rfl) rfl rfl rfl rfl rfl ?_
  refine T_aload_n (pc2 := 29) dX2_init_28 rfl rfl ?_
  refine T_bipush (pc2 := 31) dX2_init_29 bp8 rfl ?_
  refine G_newi (N := 8) (kc := 1) (ks := 8) (n := (n + 3)) (pc2 := 33) dX2_init_31 ai_in (by decide) rfl ?_
  refine G_putR (ci := 2) (kf := 6) (L := [none, none, none, some (.ref (n + 4)), some (.ref (n + 1 + 4)), some (.ref (n + 2 + 4)), some .null, some .null]) (n := n + 4) (pc2 := 36) dX2_init_33 flX2_21 ⟨by omega, by omega, by simp [va_up]⟩ (Nat.le_of_ble_eq_true rfl) rfl rfl rfl rfl rfl ?_
  refine T_aload_n (pc2 := 37) dX2_init_36 rfl rfl ?_
  refine T_bipush (pc2 := 39) dX2_init_37 bp8 rfl ?_
  refine G_newi (N := 8) (kc := 0) (ks := 0) (n := (n + 4)) (pc2 := 41) dX2_init_39 ai_in (by decide) rfl ?_
  refine G_putR (ci := 2) (kf := 7) (L := [none, none, none, some (.ref (n + 4)), some (.ref (n + 1 + 4)), some (.ref (n + 2 + 4)), some (.ref (n + 3 + 4)), some .null]) (n := n + 5) (pc2 := 44) dX2_init_41 flX2_24 ⟨by omega, by omega, by simp [va_up]⟩ (Nat.le_of_ble_eq_true rfl) rfl rfl rfl rfl rfl ?_
  refine T_ret dX2_init_44 rfl ?_
  refine k _ _ ?_ (fun i hi => ?_) (fun i hi => ?_) (fun i h1 h2 q => ?_)
  · refine ⟨⟨by omega, by omega, ?_⟩, ⟨by omega, by omega, ?_⟩, ⟨by omega, by omega, ?_⟩, ⟨by omega, by omega, ?_⟩, ⟨by omega, by omega, ?_⟩, ⟨by omega, by omega, ?_⟩⟩
    · simp [va_up]
    · simp [va_up]
    · simp [va_up]
    · simp [va_up]
    · simp [va_up]
    · simp [va_up]
  · have : ∀ j, n + 3 ≤ j → i ≠ j := fun j hj => by omega
    simp [va_up, this (n + 3) (by omega), this (n + 4) (by omega), this (n + 1 + 4) (by omega), this (n + 2 + 4) (by omega), this (n + 3 + 4) (by omega), this (n + 4 + 4) (by omega)]
  · have : ∀ j, n + 4 ≤ j → i ≠ j := fun j hj => by omega
    simp [va_up, this (n + 4) (by omega), this (n + 1 + 4) (by omega), this (n + 2 + 4) (by omega), this (n + 3 + 4) (by omega), this (n + 4 + 4) (by omega)]
  · have hi : i = n + 4 ∨ i = n + 5 ∨ i = n + 6 ∨ i = n + 7 ∨ i = n + 8 := by omega
    rcases hi with rfl | rfl | rfl | rfl | rfl <;> simp [va_up]
/-- the cellars that are kept, and the images: each by itself -/
def Dyn (sk : Nat → SK) (n : Nat) (bf im : Nat → Option Nat) : Prop := ∃ T : Nat, n = 58 + 6 * T ∧ (∀ i b, bf i = some b → ∃ t, t < T ∧ b = 62 + 6 * t ∧ isC sk n b) ∧ (∀ i b, im i = some b → ∃ t, t < T ∧ b = 62 + 6 * t ∧ isC sk n b) ∧ (∀ i j b, bf i = some b → bf j = some b → i = j) ∧ (∀ i j b, im i = some b → im j = some b → i = j) ∧ ∀ i j b, bf i = some b → im j = some b → False
def hasActs (g : Nat → Nat → Int32) (bf : Nat → Option Nat) (as2 : Nat → Cel) (sz nx : Nat) : Prop := ∀ i, i < sz → ∃ b, bf ((nx + 23 - i) % 24) = some b ∧ hasC g b (as2 i)
def pushC (V : Cel) (as2 : Nat → Cel) : Nat → Cel := fun i => match i with | 0 => V | k + 1 => as2 k
def FrA (im : Nat → Option Nat) (g g2 : Nat → Nat → Int32) : Prop := (∀ i, i < 62 → i ≠ 32 → g2 i = g i) ∧ ∀ k b, im k = some b → ∀ i, b ≤ i → i < b + 6 → g2 i = g i
theorem rem24 {a : Nat} (h : a < 1000) : nI a - nI a / nI 24 * nI 24 = nI (a % 24) := pk_rem (by omega) (by decide) (by decide)
theorem keep_tail {nx sz b : Nat} {as2 : Nat → Cel} (S : Sh sk n bf im above below) (D : Dyn sk n bf im) (hV : hasC g 20 V) (hok : okC V) (e1 : g 32 1 = nI nx) (e2 : g 32 2 = nI sz) (hnx : nx < 24) (hsz : sz ≤ 24) (hA : ∀ i, i < sz → i < 23 → ∃ b, bf ((nx + 23 - i) % 24) = some b ∧ hasC g b (as2 i)) (hb : bf nx = some b)
    (k : ∀ g2, g2 32 1 = nI ((nx + 1) % 24) → g2 32 2 = nI (min (sz + 1) 24) → hasActs g2 bf (pushC V as2) (min (sz + 1) 24) ((nx + 1) % 24) → FrA im g g2 → Q none (HP sk g2 n)) :
    T MX0_keep (d + 1) kc ks 28 [(0, .ref 32), (1, .ref 20)] [] (HP sk g n) Q := by
  obtain ⟨T0, hT, hB, hI, hBi, hIi, hBI⟩ := D
  obtain ⟨t, ht, hbt, hcb⟩ := hB nx b hb
  have hz := hcb.1
  refine T_aload_n (pc2 := 29) dX0_keep_28 rfl rfl ?_
  refine G_getR (pc2 := 32) dX0_keep_29 flX0_11 (sh32 S) rfl rfl ?_
  refine T_aload_n (pc2 := 33) dX0_keep_32 rfl rfl ?_
  refine G_getI (pc2 := 36) dX0_keep_33 flX0_17 (sh32 S) rfl (by first | with_reducible assumption | exact gs_eq _ _ _ _ | exact (gs_ne _ _ (by omega)).trans (by with_reducible assumption) | exact (gs_ne _ _ (by omega)).trans (gs_eq _ _ _ _) | exact (gs_ne _ _ (by omega)).trans ((gs_ne _ _ (by omega)).trans (by with_reducible assumption)) | exact (gs_ne _ _ (by omega)).trans ((gs_ne _ _ (by omega)).trans (gs_eq _ _ _ _)) | exact (gs_ne _ _ (by omega)).trans ((gs_ne _ _ (by omega)).trans ((gs_ne _ _ (by omega)).trans (by with_reducible assumption))) | rfl) rfl ?_
  refine G_aald (pc2 := 37) dX0_keep_36 (sh33 S) rfl (by omega) (by decide) (by first | with_reducible assumption | rfl) rfl ?_
  refine T_aload_n (pc2 := 38) dX0_keep_37 rfl rfl ?_
  refine C_V1 (pc2 := 41) (mc := 0) (ms := 0) dX0_keep_38 cvX2_become mlX0_22 (isO.h hz _) (Nat.le_of_ble_eq_true rfl) rfl ?_
  refine c_become hcb (sc20 S) (by omega) hV hok.1 (fun g2 hV2 hf2 => ?_)
  have e1b : g2 32 1 = nI nx := by rw [hf2 32 (by omega)]; exact e1
  have hne : ¬ nI 24 = 0 := by decide
  refine T_aload_n (pc2 := 42) dX0_keep_41 rfl rfl ?_
  refine T_aload_n (pc2 := 43) dX0_keep_42 rfl rfl ?_
  refine G_getI (pc2 := 46) dX0_keep_43 flX0_17 (sh32 S) rfl (by first | with_reducible assumption | exact gs_eq _ _ _ _ | exact (gs_ne _ _ (by omega)).trans (by with_reducible assumption) | exact (gs_ne _ _ (by omega)).trans (gs_eq _ _ _ _) | exact (gs_ne _ _ (by omega)).trans ((gs_ne _ _ (by omega)).trans (by with_reducible assumption)) | exact (gs_ne _ _ (by omega)).trans ((gs_ne _ _ (by omega)).trans (gs_eq _ _ _ _)) | exact (gs_ne _ _ (by omega)).trans ((gs_ne _ _ (by omega)).trans ((gs_ne _ _ (by omega)).trans (by with_reducible assumption))) | rfl) rfl ?_
  refine T_iconst (pc2 := 47) dX0_keep_46 ic1 rfl ?_
  first | refine N_iadd (pc2 := 48) dX0_keep_47 (by with_reducible rfl) (by with_reducible rfl) rfl ?_ | refine T_iadd (pc2 := 48) dX0_keep_47 rfl ?_
  refine T_bipush (pc2 := 50) dX0_keep_48 bp24 rfl ?_
  refine T_irem (pc2 := 51) dX0_keep_50 (by first | assumption | decide) rfl ?_
  rw [rem24 (by omega)]
  have e2b : gset g2 32 1 (nI ((nx + 1) % 24)) 32 2 = nI sz := by rw [gs_ne _ _ (by omega), hf2 32 (by omega)]; exact e2
  refine G_putI (pc2 := 54) dX0_keep_51 flX0_17 (sh32 S) rfl rfl rfl rfl ?_
  refine T_aload_n (pc2 := 55) dX0_keep_54 rfl rfl ?_
  refine T_aload_n (pc2 := 56) dX0_keep_55 rfl rfl ?_
  refine G_getI (pc2 := 59) dX0_keep_56 flX0_26 (sh32 S) rfl (by first | with_reducible assumption | exact gs_eq _ _ _ _ | exact (gs_ne _ _ (by omega)).trans (by with_reducible assumption) | exact (gs_ne _ _ (by omega)).trans (gs_eq _ _ _ _) | exact (gs_ne _ _ (by omega)).trans ((gs_ne _ _ (by omega)).trans (by with_reducible assumption)) | exact (gs_ne _ _ (by omega)).trans ((gs_ne _ _ (by omega)).trans (gs_eq _ _ _ _)) | exact (gs_ne _ _ (by omega)).trans ((gs_ne _ _ (by omega)).trans ((gs_ne _ _ (by omega)).trans (by with_reducible assumption))) | rfl) rfl ?_
  refine T_iconst (pc2 := 60) dX0_keep_59 ic1 rfl ?_
  first | refine N_iadd (pc2 := 61) dX0_keep_60 (by with_reducible rfl) (by with_reducible rfl) rfl ?_ | refine T_iadd (pc2 := 61) dX0_keep_60 rfl ?_
  refine T_bipush (pc2 := 63) dX0_keep_61 bp24 rfl ?_
  refine T_mmin (pc2 := 66) dX0_keep_63 mlX0_29 (Nat.le_of_ble_eq_true rfl) rfl ?_
  have hmin : (if nI 24 < nI (sz + 1) then nI 24 else nI (sz + 1)) = nI (min (sz + 1) 24) := by
    by_cases q : 24 < sz + 1
    · rw [if_pos ((nI_ltI (by decide) (by omega)).mpr q), Nat.min_eq_right (by omega)]
    · rw [if_neg (fun z => q ((nI_ltI (by decide) (by omega)).mp z)), Nat.min_eq_left (by omega)]
  rw [hmin]
  refine G_putI (pc2 := 69) dX0_keep_66 flX0_26 (sh32 S) rfl rfl rfl rfl ?_
  refine T_ret dX0_keep_69 rfl ?_
  have hfr : ∀ i, i ≠ 32 → gset (gset g2 32 1 (nI ((nx + 1) % 24))) 32 2 (nI (min (sz + 1) 24)) i = g2 i := fun i hi => by rw [gs_row hi, gs_row hi]
  have hfr2 : Fr 32 33 g2 (gset (gset g2 32 1 (nI ((nx + 1) % 24))) 32 2 (nI (min (sz + 1) 24))) := fun i hi => hfr i (by omega)
  refine k _ ?_ (gs_eq _ _ _ _) (fun i hi => ?_) ⟨fun i h1 h2 => ?_, fun kk b2 h3 i h1 h2 => ?_⟩
  · rw [gs_ne _ _ (by omega), gs_eq]
  · cases i with
    | zero =>
      refine ⟨b, ?_, hV2.fr hfr2 (by omega)⟩
      rw [show ((nx + 1) % 24 + 23 - 0) % 24 = nx by omega]
      exact hb
    | succ i =>
      have hi2 : i < sz ∧ i < 23 := by omega
      obtain ⟨b2, q1, q2⟩ := hA i hi2.1 hi2.2
      refine ⟨b2, ?_, ?_⟩
      · rw [show ((nx + 1) % 24 + 23 - (i + 1)) % 24 = (nx + 23 - i) % 24 by omega]
        exact q1
      · obtain ⟨t2, ht2, hbt2, hcb2⟩ := hB _ b2 q1
        have hdiff : b2 ≠ b := by
          intro e
          have := hBi ((nx + 23 - i) % 24) nx b (by rw [← e]; exact q1) hb
          omega
        exact (q2.fr hf2 (by omega)).fr hfr2 (by omega)
  · rw [hfr i h2, hf2 i (by omega)]
  · obtain ⟨t2, ht2, hbt2, hcb2⟩ := hI kk b2 h3
    have hdiff : b2 ≠ b := fun e => hBI nx kk b hb (by rw [← e]; exact h3)
    rw [hfr i (by omega), hf2 i (by omega)]
theorem c_keep {nx sz : Nat} {as2 : Nat → Cel} (S : Sh sk n bf im above below) (D : Dyn sk n bf im) (hV : hasC g 20 V) (hok : okC V) (e1 : g 32 1 = nI nx) (e2 : g 32 2 = nI sz) (hnx : nx < 24) (hsz : sz ≤ 24) (hA : hasActs g bf as2 sz nx)
    (k : ∀ sk2 g2 n2 bf2, Sh sk2 n2 bf2 im above below → Dyn sk2 n2 bf2 im → g2 32 1 = nI ((nx + 1) % 24) → g2 32 2 = nI (min (sz + 1) 24) → hasActs g2 bf2 (pushC V as2) (min (sz + 1) 24) ((nx + 1) % 24) → FrA im g g2 → (∀ i, i < 62 → i ≠ 33 → sk2 i = sk i) → Q none (HP sk2 g2 n2)) :
    Calls MX0_keep (d + 1) 6 48 [.ref 32, .ref 20] (HP sk g n) Q := by
  refine Calls.of (by decide +kernel) (Nat.le_of_ble_eq_true rfl) ?_
  cases hb : bf nx with
  | some b =>
    refine T_aload_n (pc2 := 1) dX0_keep_0 rfl rfl ?_
    refine G_getR (pc2 := 4) dX0_keep_1 flX0_11 (sh32 S) rfl rfl ?_
    refine T_aload_n (pc2 := 5) dX0_keep_4 rfl rfl ?_
    refine G_getI (pc2 := 8) dX0_keep_5 flX0_17 (sh32 S) rfl (by first | with_reducible assumption | exact gs_eq _ _ _ _ | exact (gs_ne _ _ (by omega)).trans (by with_reducible assumption) | exact (gs_ne _ _ (by omega)).trans (gs_eq _ _ _ _) | exact (gs_ne _ _ (by omega)).trans ((gs_ne _ _ (by omega)).trans (by with_reducible assumption)) | exact (gs_ne _ _ (by omega)).trans ((gs_ne _ _ (by omega)).trans (gs_eq _ _ _ _)) | exact (gs_ne _ _ (by omega)).trans ((gs_ne _ _ (by omega)).trans ((gs_ne _ _ (by omega)).trans (by with_reducible assumption))) | rfl) rfl ?_
    refine G_aald (pc2 := 9) dX0_keep_8 (sh33 S) rfl (by omega) (by decide) (by first | with_reducible assumption | rfl) rfl ?_
    refine T_ifnonnull (pc2 := 12) (tgt := 28) dX0_keep_9 (by decide) rfl (fun i9 e9 => ?_) (fun e9 => ?_)
    · exact keep_tail S D hV hok e1 e2 hnx hsz (fun i h1 _ => hA i h1) hb (fun g2 h1 h2 h3 h4 => k sk g2 n bf S D h1 h2 h3 h4 (fun _ _ _ => rfl))
    · cases e9
  | none =>
    refine T_aload_n (pc2 := 1) dX0_keep_0 rfl rfl ?_
    refine G_getR (pc2 := 4) dX0_keep_1 flX0_11 (sh32 S) rfl rfl ?_
    refine T_aload_n (pc2 := 5) dX0_keep_4 rfl rfl ?_
    refine G_getI (pc2 := 8) dX0_keep_5 flX0_17 (sh32 S) rfl (by first | with_reducible assumption | exact gs_eq _ _ _ _ | exact (gs_ne _ _ (by omega)).trans (by with_reducible assumption) | exact (gs_ne _ _ (by omega)).trans (gs_eq _ _ _ _) | exact (gs_ne _ _ (by omega)).trans ((gs_ne _ _ (by omega)).trans (by with_reducible assumption)) | exact (gs_ne _ _ (by omega)).trans ((gs_ne _ _ (by omega)).trans (gs_eq _ _ _ _)) | exact (gs_ne _ _ (by omega)).trans ((gs_ne _ _ (by omega)).trans ((gs_ne _ _ (by omega)).trans (by with_reducible assumption))) | rfl) rfl ?_
    refine G_aald (pc2 := 9) dX0_keep_8 (sh33 S) rfl (by omega) (by decide) (by first | with_reducible assumption | rfl) rfl ?_
    refine T_ifnonnull (pc2 := 12) (tgt := 28) dX0_keep_9 (by decide) rfl (fun i9 e9 => ?_) (fun e9 => ?_)
    · cases e9
    · refine T_aload_n (pc2 := 13) dX0_keep_12 rfl rfl ?_
      refine G_getR (pc2 := 16) dX0_keep_13 flX0_11 (sh32 S) rfl rfl ?_
      refine T_aload_n (pc2 := 17) dX0_keep_16 rfl rfl ?_
      refine G_getI (pc2 := 20) dX0_keep_17 flX0_17 (sh32 S) rfl (by first | with_reducible assumption | exact gs_eq _ _ _ _ | exact (gs_ne _ _ (by omega)).trans (by with_reducible assumption) | exact (gs_ne _ _ (by omega)).trans (gs_eq _ _ _ _) | exact (gs_ne _ _ (by omega)).trans ((gs_ne _ _ (by omega)).trans (by with_reducible assumption)) | exact (gs_ne _ _ (by omega)).trans ((gs_ne _ _ (by omega)).trans (gs_eq _ _ _ _)) | exact (gs_ne _ _ (by omega)).trans ((gs_ne _ _ (by omega)).trans ((gs_ne _ _ (by omega)).trans (by with_reducible assumption))) | rfl) rfl ?_
      refine G_new (kc := 5) (ks := 40) (pc2 := 23) (ci := 2) (L := bl2) dX0_keep_20 (by decide) clX0_9 insX2 iniX2 bl2_ok rfl ?_
      refine T_dup (pc2 := 24) dX0_keep_23 rfl rfl ?_
      refine T_callIN (As := []) (kc := 0) (ks := 0) (mc := 5) (ms := 40) (pc2 := 27) dX0_keep_24 ciX2_init mnX0_21 rfl (Nat.le_of_ble_eq_true rfl) rfl ?_
      have hn58 := S.1
      refine c_cinit (n := n + 1) ⟨by omega, by omega, by simp [va_up]⟩ (by omega) (fun sk2 g2 hc2 hs2 hg2 hz2 => ?_)
      have hsk : ∀ i, i < n + 4 → sk2 i = sk i := fun i hi => by
        rw [hs2 i (by omega)]
        have : i ≠ n + 4 := by omega
        simp [va_up, this]
      have hgg : ∀ i, i < n + 4 → g2 i = g i := fun i hi => by
        rw [hg2 i (by omega)]
        have : i ≠ n + 4 := by omega
        simp [va_up, this]
      have S2 : Sh sk2 (n + 1 + 5) bf im above below := S.ext (fun i hi => hsk i (by omega)) (by omega)
      obtain ⟨T0, hT, hB, hI, hBi, hIi, hBI⟩ := D
      refine G_aast (pc2 := 28) (ci := 2) dX0_keep_27 (by decide) (sh33 S2) hc2.1 (by omega) (by decide) rfl ?_
      have S3 : Sh (va_up sk2 33 (.inr (.object RX2, 24, some (va_up bf nx (some (n + 1 + 3)))))) (n + 1 + 5) (va_up bf nx (some (n + 1 + 3))) im above below := S2.bef
      have hb33 : ∀ i, i ≠ 33 → va_up sk2 33 (.inr (.object RX2, 24, some (va_up bf nx (some (n + 1 + 3))))) i = sk2 i := fun i hi => by simp [va_up, hi]
      have hold : ∀ b t, t < T0 → b = 62 + 6 * t → isC sk n b → isC (va_up sk2 33 (.inr (.object RX2, 24, some (va_up bf nx (some (n + 1 + 3)))))) (n + 1 + 5) b := fun b t h1 h2 h3 => h3.mono (fun i q1 q2 => by rw [hb33 i (by omega)]; exact hsk i (by omega)) (by omega)
      have D3 : Dyn (va_up sk2 33 (.inr (.object RX2, 24, some (va_up bf nx (some (n + 1 + 3)))))) (n + 1 + 5) (va_up bf nx (some (n + 1 + 3))) im := by
        have hnew : isC (va_up sk2 33 (.inr (.object RX2, 24, some (va_up bf nx (some (n + 1 + 3)))))) (n + 1 + 5) (n + 1 + 3) := hc2.mono (fun i q1 q2 => hb33 i (by omega)) (Nat.le_refl _)
        have hup : ∀ i b, va_up bf nx (some (n + 1 + 3)) i = some b → (i = nx ∧ b = n + 1 + 3) ∨ (i ≠ nx ∧ bf i = some b) := by
          intro i b h
          by_cases e : i = nx
          · subst e
            simp [va_up] at h
            exact Or.inl ⟨rfl, by omega⟩
          · simp [va_up, e] at h
            exact Or.inr ⟨e, h⟩
        refine ⟨T0 + 1, by omega, fun i b h => ?_, fun i b h => ?_, fun i j b h1 h2 => ?_, hIi, fun i j b h1 h2 => ?_⟩
        · rcases hup i b h with ⟨_, e⟩ | ⟨_, h2⟩
          · exact ⟨T0, by omega, by omega, by rw [e]; exact hnew⟩
          · obtain ⟨t, q1, q2, q3⟩ := hB i b h2
            exact ⟨t, by omega, q2, hold b t q1 q2 q3⟩
        · obtain ⟨t, q1, q2, q3⟩ := hI i b h
          exact ⟨t, by omega, q2, hold b t q1 q2 q3⟩
        · rcases hup i b h1 with ⟨e1, e2⟩ | ⟨e1, e2⟩ <;> rcases hup j b h2 with ⟨f1, f2⟩ | ⟨f1, f2⟩
          · omega
          · obtain ⟨t, q1, q2, q3⟩ := hB j b f2
            omega
          · obtain ⟨t, q1, q2, q3⟩ := hB i b e2
            omega
          · exact hBi i j b e2 f2
        · obtain ⟨t, q1, q2, q3⟩ := hI j b h2
          rcases hup i b h1 with ⟨e1, e2⟩ | ⟨e1, e2⟩
          · omega
          · exact hBI i j b e2 h2
      have hFr : ∀ b V2, b + 6 ≤ n + 4 → hasC g b V2 → hasC g2 b V2 := fun b V2 hb2 h2 => by
        unfold hasC at h2 ⊢
        rw [hgg b (by omega), hgg (b + 1) (by omega), hgg (b + 2) (by omega), hgg (b + 3) (by omega), hgg (b + 4) (by omega), hgg (b + 5) (by omega)]
        exact h2
      have hbx : va_up bf nx (some (n + 1 + 3)) nx = some (n + 1 + 3) := by simp [va_up]
      refine keep_tail (as2 := as2) S3 D3 (hFr 20 V (by omega) hV) hok (by rw [hgg 32 (by omega)]; exact e1) (by rw [hgg 32 (by omega)]; exact e2) hnx hsz (fun i h1 h2 => ?_) hbx (fun g3 h1 h2 h3 h4 => ?_)
      · obtain ⟨b, q1, q2⟩ := hA i h1
        obtain ⟨t, q3, q4, q5⟩ := hB _ b q1
        have hne : (nx + 23 - i) % 24 ≠ nx := by omega
        exact ⟨b, by simp [va_up, hne]; exact q1, hFr b _ (by omega) q2⟩
      · refine k _ g3 _ _ S3 D3 h1 h2 h3 ⟨fun i q1 q2 => ?_, fun kk b q0 i q1 q2 => ?_⟩ (fun i q1 q2 => ?_)
        · rw [h4.1 i q1 q2, hgg i (by omega)]
        · obtain ⟨t, q3, q4, q5⟩ := hI kk b q0
          rw [h4.2 kk b q0 i q1 q2, hgg i (by omega)]
        · exact (hb33 i q2).trans (hsk i (by omega))
theorem c_forget (S : Sh sk n bf im above below) (k : Q none (HP sk (gset g 32 2 (nI 0)) n)) : Calls MX0_forget d 0 0 [.ref 32] (HP sk g n) Q := by
  refine Calls.of (by decide +kernel) (Nat.le_of_ble_eq_true rfl) ?_
  refine T_aload_n (pc2 := 1) dX0_forget_0 rfl rfl ?_
  refine T_iconst (pc2 := 2) dX0_forget_1 ic0 rfl ?_
  refine G_putI (pc2 := 5) dX0_forget_2 flX0_26 (sh32 S) rfl rfl rfl rfl ?_
  refine T_ret dX0_forget_5 rfl ?_
  exact k
theorem c_takeBack {nx sz : Nat} {as2 : Nat → Cel} (S : Sh sk n bf im above below) (D : Dyn sk n bf im) (e1 : g 32 1 = nI nx) (e2 : g 32 2 = nI sz) (hnx : nx < 24) (hsz : sz ≤ 24) (hA : hasActs g bf as2 sz nx) (hokA : ∀ i, i < sz → okC (as2 i))
    (kf : sz = 0 → Q (some (.int (nI 0))) (HP sk g n))
    (kt : ∀ g2, 0 < sz → hasC g2 20 (as2 0) → g2 32 1 = nI ((nx + 23) % 24) → g2 32 2 = nI (sz - 1) → hasActs g2 bf (fun i => as2 (i + 1)) (sz - 1) ((nx + 23) % 24) → (∀ i, (i < 20 ∨ 26 ≤ i) → i ≠ 32 → g2 i = g i) → Q (some (.int (nI 1))) (HP sk g2 n)) :
    Calls MX0_takeBack (d + 1) 0 0 [.ref 32, .ref 20] (HP sk g n) Q := by
  refine Calls.of (by decide +kernel) (Nat.le_of_ble_eq_true rfl) ?_
  have hne : ¬ nI 24 = 0 := by decide
  refine T_aload_n (pc2 := 1) dX0_takeBack_0 rfl rfl ?_
  refine G_getI (pc2 := 4) dX0_takeBack_1 flX0_17 (sh32 S) rfl (by first | with_reducible assumption | exact gs_eq _ _ _ _ | exact (gs_ne _ _ (by omega)).trans (by with_reducible assumption) | exact (gs_ne _ _ (by omega)).trans (gs_eq _ _ _ _) | exact (gs_ne _ _ (by omega)).trans ((gs_ne _ _ (by omega)).trans (by with_reducible assumption)) | exact (gs_ne _ _ (by omega)).trans ((gs_ne _ _ (by omega)).trans (gs_eq _ _ _ _)) | exact (gs_ne _ _ (by omega)).trans ((gs_ne _ _ (by omega)).trans ((gs_ne _ _ (by omega)).trans (by with_reducible assumption))) | rfl) rfl ?_
  refine T_bipush (pc2 := 6) dX0_takeBack_4 bp24 rfl ?_
  first | refine N_iadd (pc2 := 7) dX0_takeBack_6 (by with_reducible rfl) (by with_reducible rfl) rfl ?_ | refine T_iadd (pc2 := 7) dX0_takeBack_6 rfl ?_
  refine T_iconst (pc2 := 8) dX0_takeBack_7 ic1 rfl ?_
  first | refine N_isub (pc2 := 9) dX0_takeBack_8 (by with_reducible rfl) (by with_reducible rfl) (by omega) rfl ?_ | refine T_isub (pc2 := 9) dX0_takeBack_8 rfl ?_
  refine T_bipush (pc2 := 11) dX0_takeBack_9 bp24 rfl ?_
  refine T_irem (pc2 := 12) dX0_takeBack_11 (by first | assumption | decide) rfl ?_
  rw [rem24 (by omega)]
  rw [show (nx + 24 - 1) % 24 = (nx + 23) % 24 by omega]
  refine T_istore_n (pc2 := 13) dX0_takeBack_12 (by decide) rfl ?_
  refine T_aload_n (pc2 := 14) dX0_takeBack_13 rfl rfl ?_
  refine G_getI (pc2 := 17) dX0_takeBack_14 flX0_26 (sh32 S) rfl (by first | with_reducible assumption | exact gs_eq _ _ _ _ | exact (gs_ne _ _ (by omega)).trans (by with_reducible assumption) | exact (gs_ne _ _ (by omega)).trans (gs_eq _ _ _ _) | exact (gs_ne _ _ (by omega)).trans ((gs_ne _ _ (by omega)).trans (by with_reducible assumption)) | exact (gs_ne _ _ (by omega)).trans ((gs_ne _ _ (by omega)).trans (gs_eq _ _ _ _)) | exact (gs_ne _ _ (by omega)).trans ((gs_ne _ _ (by omega)).trans ((gs_ne _ _ (by omega)).trans (by with_reducible assumption))) | rfl) rfl ?_
  first | refine B_ifeq1 (pc2 := 20) (tgt := 29) dX0_takeBack_17 (by with_reducible rfl) (by decide) rfl ?_ | refine B_ifeq0 (tgt := 29) dX0_takeBack_17 (by with_reducible rfl) (by decide) ?_ | refine N_ifeq (pc2 := 20) (tgt := 29) dX0_takeBack_17 (by with_reducible rfl) (by decide) (by omega) rfl (fun c17 => ?_) (fun c17 => ?_) | refine T_ifeq (pc2 := 20) (tgt := 29) dX0_takeBack_17 (by decide) rfl (fun c17 => ?_) (fun c17 => ?_)
  · refine T_iconst (pc2 := 30) dX0_takeBack_29 ic0 rfl ?_
    refine T_iret dX0_takeBack_30 rfl (by first | rfl | decide) ?_
    exact kf c17
  · obtain ⟨b, q1, q2⟩ := hA 0 (by omega)
    rw [Nat.sub_zero] at q1
    obtain ⟨T0, hT, hB, hI, hBi, hIi, hBI⟩ := D
    obtain ⟨t, ht, hbt, hcb⟩ := hB _ b q1
    refine T_aload_n (pc2 := 21) dX0_takeBack_20 rfl rfl ?_
    refine G_getR (pc2 := 24) dX0_takeBack_21 flX0_11 (sh32 S) rfl rfl ?_
    refine T_iload_n (pc2 := 25) dX0_takeBack_24 rfl rfl ?_
    refine G_aald (pc2 := 26) dX0_takeBack_25 (sh33 S) rfl (by omega) (by decide) (by first | with_reducible assumption | rfl) rfl ?_
    refine T_ifnonnull (pc2 := 29) (tgt := 31) dX0_takeBack_26 (by decide) rfl (fun i26 e26 => ?_) (fun e26 => ?_)
    · refine T_aload_n (pc2 := 32) dX0_takeBack_31 rfl rfl ?_
      refine T_aload_n (pc2 := 33) dX0_takeBack_32 rfl rfl ?_
      refine G_getR (pc2 := 36) dX0_takeBack_33 flX0_11 (sh32 S) rfl rfl ?_
      refine T_iload_n (pc2 := 37) dX0_takeBack_36 rfl rfl ?_
      refine G_aald (pc2 := 38) dX0_takeBack_37 (sh33 S) rfl (by omega) (by decide) (by first | with_reducible assumption | rfl) rfl ?_
      refine C_V1 (pc2 := 41) (mc := 0) (ms := 0) dX0_takeBack_38 cvX2_become mlX0_22 (isO.h (sc20 S).1 _) (Nat.le_of_ble_eq_true rfl) rfl ?_
      refine c_become (sc20 S) hcb (by omega) q2 (hokA 0 (by omega)).1 (fun g2 hV2 hf2 => ?_)
      have e2b : gset g2 32 1 (nI ((nx + 23) % 24)) 32 2 = nI sz := by rw [gs_ne _ _ (by omega), hf2 32 (by omega)]; exact e2
      refine T_aload_n (pc2 := 42) dX0_takeBack_41 rfl rfl ?_
      refine T_iload_n (pc2 := 43) dX0_takeBack_42 rfl rfl ?_
      refine G_putI (pc2 := 46) dX0_takeBack_43 flX0_17 (sh32 S) rfl rfl rfl rfl ?_
      refine T_aload_n (pc2 := 47) dX0_takeBack_46 rfl rfl ?_
      refine T_dup (pc2 := 48) dX0_takeBack_47 rfl rfl ?_
      refine G_getI (pc2 := 51) dX0_takeBack_48 flX0_26 (sh32 S) rfl (by first | with_reducible assumption | exact gs_eq _ _ _ _ | exact (gs_ne _ _ (by omega)).trans (by with_reducible assumption) | exact (gs_ne _ _ (by omega)).trans (gs_eq _ _ _ _) | exact (gs_ne _ _ (by omega)).trans ((gs_ne _ _ (by omega)).trans (by with_reducible assumption)) | exact (gs_ne _ _ (by omega)).trans ((gs_ne _ _ (by omega)).trans (gs_eq _ _ _ _)) | exact (gs_ne _ _ (by omega)).trans ((gs_ne _ _ (by omega)).trans ((gs_ne _ _ (by omega)).trans (by with_reducible assumption))) | rfl) rfl ?_
      refine T_iconst (pc2 := 52) dX0_takeBack_51 ic1 rfl ?_
      first | refine N_isub (pc2 := 53) dX0_takeBack_52 (by with_reducible rfl) (by with_reducible rfl) (by omega) rfl ?_ | refine T_isub (pc2 := 53) dX0_takeBack_52 rfl ?_
      refine G_putI (pc2 := 56) dX0_takeBack_53 flX0_26 (sh32 S) rfl rfl rfl rfl ?_
      refine T_iconst (pc2 := 57) dX0_takeBack_56 ic1 rfl ?_
      refine T_iret dX0_takeBack_57 rfl (by first | rfl | decide) ?_
      have hfr : ∀ i, i ≠ 32 → gset (gset g2 32 1 (nI ((nx + 23) % 24))) 32 2 (nI (sz - 1)) i = g2 i := fun i hi => by rw [gs_row hi, gs_row hi]
      have hfr2 : Fr 32 33 g2 (gset (gset g2 32 1 (nI ((nx + 23) % 24))) 32 2 (nI (sz - 1))) := fun i hi => hfr i (by omega)
      refine kt _ (by omega) (hV2.fr hfr2 (by omega)) (by rw [gs_ne _ _ (by omega), gs_eq]) (gs_eq _ _ _ _) (fun i hi => ?_) (fun i h1 h2 => ?_)
      · obtain ⟨b2, p1, p2⟩ := hA (i + 1) (by omega)
        obtain ⟨t2, ht2, hbt2, hcb2⟩ := hB _ b2 p1
        refine ⟨b2, ?_, (p2.fr hf2 (by omega)).fr hfr2 (by omega)⟩
        rw [show ((nx + 23) % 24 + 23 - i) % 24 = (nx + 23 - (i + 1)) % 24 by omega]
        exact p1
      · rw [hfr i h2, hf2 i (by omega)]
    · cases e26
end ActsM

