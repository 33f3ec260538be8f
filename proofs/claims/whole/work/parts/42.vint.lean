def sameS (U V : Cel) : Prop := U.J = V.J ∧ U.R = V.R ∧ U.kd = V.kd ∧ U.nt = V.nt ∧ U.pl = V.pl
theorem tunedE.same {g : Nat → Nat → Int32} {U V : Cel} (h : tunedE g V) (hs : sameS U V) : tunedE g U := by
  obtain ⟨J, Y, R, kd, nt, kp, pl, hw⟩ := U
  obtain ⟨J2, Y2, R2, kd2, nt2, kp2, pl2, hw2⟩ := V
  obtain ⟨h1, h2, h3, h4, h5⟩ := hs
  simp only [Cel.J, Cel.Y, Cel.R, Cel.kd, Cel.nt, Cel.kp, Cel.pl, Cel.hw] at h1 h2 h3 h4 h5
  subst h1 h2 h3 h4 h5
  exact h
theorem okC.age {V : Cel} (h : okC V) (hY : V.Y + 1 < 100000) : okC V.age := by
  refine ⟨h.1, hY, h.2.2.1, fun i hi => ?_, h.2.2.2.2⟩
  have := h.2.2.2.1 i hi
  have hi : i < V.J := hi
  refine ⟨this.1, this.2.1, this.2.2.1, ?_, ?_, this.2.2.2.2.2.1, ?_⟩
  · show (if i < V.J ∧ V.hw i = 0 then V.kp i - 1 else V.kp i) ≤ 60
    split <;> omega
  · show (if i < V.J ∧ V.hw i = 0 ∧ V.kp i ≤ 1 then 2 else V.hw i) = 0 → 1 ≤ (if i < V.J ∧ V.hw i = 0 then V.kp i - 1 else V.kp i)
    intro q
    split at q
    · cases q
    · rename_i hq
      rw [if_pos ⟨hi, q⟩]
      omega
  · show (if i < V.J ∧ V.hw i = 0 ∧ V.kp i ≤ 1 then 2 else V.hw i) ≤ 3
    split
    · decide
    · exact this.2.2.2.2.2.2
theorem okC.smash {V : Cel} (h : okC V) (b : Nat → Bool) : okC (V.smash b) := by
  refine ⟨h.1, h.2.1, h.2.2.1, fun i hi => ?_, h.2.2.2.2⟩
  have := h.2.2.2.1 i hi
  refine ⟨this.1, this.2.1, this.2.2.1, this.2.2.2.1, ?_, this.2.2.2.2.2.1, ?_⟩
  · show (if b i then 1 else V.hw i) = 0 → 1 ≤ V.kp i
    split
    · intro q; cases q
    · exact this.2.2.2.2.1
  · show (if b i then 1 else V.hw i) ≤ 3
    split
    · decide
    · exact this.2.2.2.2.2.2
def drw (x : Nat) : Nat := x * 16807 % 2147483647
def vnf (_ : Nat) (s : Nat × Cel) : Nat × Cel := (drw s.1, (if drw s.1 % 3 = 0 then s.2.smash (s.2.brk (drw s.1 % 12) (drw s.1 % s.2.J) (s.2.th 0)) else s.2).age)
def Cel.vn (V : Cel) (x m : Nat) : Nat × Cel := itr vnf (x, V) m
theorem vn_ok {V : Cel} (hok : okC V) (hY : V.Y ≤ 1000) {x : Nat} (hx : x < 2147483647) : ∀ m, m ≤ 60 → (V.vn x m).1 < 2147483647 ∧ okC (V.vn x m).2 ∧ sameS (V.vn x m).2 V ∧ (V.vn x m).2.Y = V.Y + m := by
  intro m
  induction m with
  | zero => intro _; exact ⟨hx, hok, ⟨rfl, rfl, rfl, rfl, rfl⟩, rfl⟩
  | succ m ih =>
    intro hm
    obtain ⟨h1, h2, h3, h4⟩ := ih (by omega)
    have hst : V.vn x (m + 1) = vnf m (V.vn x m) := rfl
    rw [hst]
    generalize V.vn x m = s at h1 h2 h3 h4
    refine ⟨Nat.mod_lt _ (by decide), ?_, ?_, ?_⟩
    · show okC (Cel.age _)
      split
      · exact (h2.smash _).age (show s.2.Y + 1 < 100000 by omega)
      · exact h2.age (by omega)
    · show sameS (Cel.age _) V
      split
      · exact h3
      · exact h3
    · show (Cel.age _).Y = _
      split
      · show s.2.Y + 1 = _
        omega
      · show s.2.Y + 1 = _
        omega
section Vint
variable {sk : Nat → SK} {g : Nat → Nat → Int32} {n c : Nat} {V : Cel} {Q : Option Value → SH → Prop} {d kc ks : Nat} {bf im : Nat → Option Nat} {above below : Int64}
theorem vint_loop {x mm : Nat} (S : Sh sk n bf im above below) (hok : okC V) (hY : V.Y ≤ 1000) (hJ0 : 0 < V.J) (hx : x < 2147483647) (hm : mm ≤ 60)
    (k : ∀ g2, hasC g2 39 (V.vn x mm).2 → Fr 34 45 g g2 → T MX4_findVintage (d + 3) kc ks 123 [(0, .ref 34)] [] (HP sk g2 n) Q) :
    ∀ m t g2, t + m = mm → hasC g2 39 (V.vn x t).2 → tunedE g2 V → Fr 34 45 g g2 → T MX4_findVintage (d + 3) kc ks 26 [(0, .ref 34), (2, .int (nI mm)), (4, .long (lN (V.vn x t).1)), (6, .int (nI t))] [] (HP sk g2 n) Q := by
  intro m
  induction m with
  | zero =>
    intro t g2 ht hU hE hf
    refine T_iload (pc2 := 28) dX4_findVintage_26 rfl rfl ?_
    refine T_iload_n (pc2 := 29) dX4_findVintage_28 rfl rfl ?_
    first | refine N_icmpge (pc2 := 32) (tgt := 123) dX4_findVintage_29 (by decide) (by with_reducible rfl) (by with_reducible rfl) (by omega) (by omega) rfl (fun c29 => ?_) (fun c29 => ?_) | refine T_icmpge (pc2 := 32) (tgt := 123) dX4_findVintage_29 (by decide) rfl (fun c29 => ?_) (fun c29 => ?_)
    · refine T_sub (lks (i := 0) rfl lk0) ?_
      have : t = mm := by omega
      subst this
      exact k g2 hU hf
    · exact absurd (by omega) c29
  | succ m ih =>
    intro t g2 ht hU hE hf
    obtain ⟨h1, h2, h3, h4⟩ := vn_ok hok hY hx t (by omega)
    have hst : V.vn x (t + 1) = vnf t (V.vn x t) := rfl
    have hst2 : (V.vn x (t + 1)).1 = drw (V.vn x t).1 := by rw [hst]; rfl
    have hst3 : (V.vn x (t + 1)).2 = (if drw (V.vn x t).1 % 3 = 0 then (V.vn x t).2.smash ((V.vn x t).2.brk (drw (V.vn x t).1 % 12) (drw (V.vn x t).1 % (V.vn x t).2.J) ((V.vn x t).2.th 0)) else (V.vn x t).2).age := by rw [hst]; rfl
    have ih := fun g3 a b c => ih (t + 1) g3 (by omega) a b c
    rw [hst3, hst2] at ih
    generalize V.vn x t = s at h1 h2 h3 h4 hU ih ⊢
    have hx2 : drw s.1 < 2147483647 := Nat.mod_lt _ (by decide)
    have hend : ∀ g3 U, hasC g3 39 U → okC U → U.Y ≤ 2000 → tunedE g3 V → Fr 34 45 g g3 → (∀ g4, hasC g4 39 U.age → tunedE g4 V → Fr 34 45 g g4 → T MX4_findVintage (d + 3) kc ks 26 [(0, .ref 34), (2, .int (nI mm)), (4, .long (lN (drw s.1))), (6, .int (nI (t + 1)))] [] (HP sk g4 n) Q) → ∀ ls, (∀ q ∈ [(0, Value.ref 34), (2, .int (nI mm)), (4, .long (lN (drw s.1))), (6, .int (nI t))], ls.lookup q.1 = some q.2) → T MX4_findVintage (d + 3) kc ks 110 ls [] (HP sk g3 n) Q := by
      intro g3 U hU3 hok3 hY3 hE3 hf3 hk ls hl
      refine T_sub hl ?_
      refine T_aload_n (pc2 := 111) dX4_findVintage_110 rfl rfl ?_
      refine G_getR (pc2 := 114) dX4_findVintage_111 flX4_21 (sh34 S) rfl rfl ?_
      refine C_V0 (pc2 := 117) (mc := 0) (ms := 0) dX4_findVintage_114 cvX2_age mlX4_125 (isO.h (sc39 S).1 _) (Nat.le_of_ble_eq_true rfl) rfl ?_
      refine c_age (sc39 S) hU3 hok3 (fun g4 hU4 hf4 => ?_)
      first | refine N_iinc (pc2 := 120) dX4_findVintage_117 rfl (by with_reducible rfl) ic1 (by decide) rfl ?_ | refine T_iinc (pc2 := 120) dX4_findVintage_117 rfl rfl (by decide) rfl ?_
      refine T_goto (tgt := 26) dX4_findVintage_120 (by decide) ?_
      refine T_sub (lks (i := 0) rfl (lks (i := 2) rfl (lks (i := 4) rfl (lks (i := 6) rfl lk0)))) ?_
      exact hk g4 hU4 (hE3.fr hf4 (by omega)) (hf3.tr (hf4.wd (by omega) (by omega)))
    refine T_iload (pc2 := 28) dX4_findVintage_26 rfl rfl ?_
    refine T_iload_n (pc2 := 29) dX4_findVintage_28 rfl rfl ?_
    first | refine N_icmpge (pc2 := 32) (tgt := 123) dX4_findVintage_29 (by decide) (by with_reducible rfl) (by with_reducible rfl) (by omega) (by omega) rfl (fun c29 => ?_) (fun c29 => ?_) | refine T_icmpge (pc2 := 32) (tgt := 123) dX4_findVintage_29 (by decide) rfl (fun c29 => ?_) (fun c29 => ?_)
    · exact absurd c29 (by omega)
    · refine T_lload (pc2 := 34) dX4_findVintage_32 rfl rfl ?_
      refine T_ldc2 (pc2 := 37) dX4_findVintage_34 kcX4_113 rfl ?_
      refine T_lmul (pc2 := 38) dX4_findVintage_37 rfl ?_
      rw [lN_mul]
      have hne1 : ¬ lN 2147483647 = 0 := by decide
      refine T_ldc2 (pc2 := 41) dX4_findVintage_38 kcX4_115 rfl ?_
      refine T_lrem (pc2 := 42) dX4_findVintage_41 (by first | assumption | decide) rfl ?_
      rw [pk_lRem (by omega) (by decide) (by decide)]
      rw [show s.1 * 16807 % 2147483647 = drw s.1 from rfl]
      have hne2 : ¬ lN 3 = 0 := by decide
      refine T_lstore (pc2 := 44) dX4_findVintage_42 (by decide) rfl ?_
      refine T_lload (pc2 := 46) dX4_findVintage_44 rfl rfl ?_
      refine T_ldc2 (pc2 := 49) dX4_findVintage_46 kcX4_117 rfl ?_
      refine T_lrem (pc2 := 50) dX4_findVintage_49 (by first | assumption | decide) rfl ?_
      rw [pk_lRem (by omega) (by decide) (by decide)]
      refine T_lconst (pc2 := 51) (v := lN 0) dX4_findVintage_50 rfl rfl ?_
      refine T_lcmp (pc2 := 52) dX4_findVintage_51 rfl ?_
      rw [lgc (by omega) (by decide)]
      by_cases h30 : drw s.1 % 3 = 0
      · rw [h30, if_neg (by decide), if_pos rfl]
        rw [if_pos h30] at ih
        refine T_ifne (pc2 := 55) (tgt := 110) dX4_findVintage_52 (by decide) rfl (fun c52 => ?_) (fun c52 => ?_)
        · exact absurd rfl c52
        · have e0 := hU.1
          have hJs : s.2.J = V.J := h3.1
          have hJ8 := hok.1
          have hne3 : ¬ lN s.2.J = 0 := lN_ne0 (by omega) (by omega)
          refine T_aload_n (pc2 := 56) dX4_findVintage_55 rfl rfl ?_
          refine G_getR (pc2 := 59) dX4_findVintage_56 flX4_21 (sh34 S) rfl rfl ?_
          refine G_getI (pc2 := 62) dX4_findVintage_59 flX4_63 (sc39 S).1 rfl (by first | with_reducible assumption | exact gs_eq _ _ _ _ | exact (gs_ne _ _ (by omega)).trans (by with_reducible assumption) | exact (gs_ne _ _ (by omega)).trans (gs_eq _ _ _ _) | exact (gs_ne _ _ (by omega)).trans ((gs_ne _ _ (by omega)).trans (by with_reducible assumption)) | exact (gs_ne _ _ (by omega)).trans ((gs_ne _ _ (by omega)).trans (gs_eq _ _ _ _)) | exact (gs_ne _ _ (by omega)).trans ((gs_ne _ _ (by omega)).trans ((gs_ne _ _ (by omega)).trans (by with_reducible assumption))) | rfl) rfl ?_
          first | refine N_ifle (pc2 := 65) (tgt := 110) dX4_findVintage_62 (by with_reducible rfl) (by decide) (by omega) rfl (fun c62 => ?_) (fun c62 => ?_) | refine T_ifle (pc2 := 65) (tgt := 110) dX4_findVintage_62 (by decide) rfl (fun c62 => ?_) (fun c62 => ?_)
          · exact absurd c62 (by omega)
          · refine T_lload (pc2 := 67) dX4_findVintage_65 rfl rfl ?_
            refine T_aload_n (pc2 := 68) dX4_findVintage_67 rfl rfl ?_
            refine G_getR (pc2 := 71) dX4_findVintage_68 flX4_21 (sh34 S) rfl rfl ?_
            refine G_getI (pc2 := 74) dX4_findVintage_71 flX4_63 (sc39 S).1 rfl (by first | with_reducible assumption | exact gs_eq _ _ _ _ | exact (gs_ne _ _ (by omega)).trans (by with_reducible assumption) | exact (gs_ne _ _ (by omega)).trans (gs_eq _ _ _ _) | exact (gs_ne _ _ (by omega)).trans ((gs_ne _ _ (by omega)).trans (by with_reducible assumption)) | exact (gs_ne _ _ (by omega)).trans ((gs_ne _ _ (by omega)).trans (gs_eq _ _ _ _)) | exact (gs_ne _ _ (by omega)).trans ((gs_ne _ _ (by omega)).trans ((gs_ne _ _ (by omega)).trans (by with_reducible assumption))) | rfl) rfl ?_
            refine T_i2l (pc2 := 75) dX4_findVintage_74 rfl ?_
            rw [nI_l (by omega)]
            refine T_lrem (pc2 := 76) dX4_findVintage_75 (by first | assumption | decide) rfl ?_
            rw [pk_lRem (by omega) (by omega) (by omega)]
            refine T_l2i (pc2 := 77) dX4_findVintage_76 rfl ?_
            rw [lN_i]
            have hne4 : ¬ lN 12 = 0 := by decide
            refine T_istore (pc2 := 79) dX4_findVintage_77 (by decide) rfl ?_
            refine T_aload_n (pc2 := 80) dX4_findVintage_79 rfl rfl ?_
            refine G_getR (pc2 := 83) dX4_findVintage_80 flX4_21 (sh34 S) rfl rfl ?_
            refine T_aload_n (pc2 := 84) dX4_findVintage_83 rfl rfl ?_
            refine G_getR (pc2 := 87) dX4_findVintage_84 flX4_12 (sh34 S) rfl rfl ?_
            refine T_lload (pc2 := 89) dX4_findVintage_87 rfl rfl ?_
            refine T_ldc2 (pc2 := 92) dX4_findVintage_89 kcX4_119 rfl ?_
            refine T_lrem (pc2 := 93) dX4_findVintage_92 (by first | assumption | decide) rfl ?_
            rw [pk_lRem (by omega) (by decide) (by decide)]
            refine T_l2i (pc2 := 94) dX4_findVintage_93 rfl ?_
            rw [lN_i]
            refine T_iload (pc2 := 96) dX4_findVintage_94 rfl rfl ?_
            refine T_aload_n (pc2 := 97) dX4_findVintage_96 rfl rfl ?_
            refine G_getR (pc2 := 100) dX4_findVintage_97 flX4_21 (sh34 S) rfl rfl ?_
            refine T_iconst (pc2 := 101) dX4_findVintage_100 ic0 rfl ?_
            refine C_V1 (pc2 := 104) (mc := 0) (ms := 0) dX4_findVintage_101 cvX2_those mlX4_29 (isO.h (sc39 S).1 _) (Nat.le_of_ble_eq_true rfl) rfl ?_
            refine c_those (sc39 S) hU h2.1 (by decide) (hw31 h2) ?_
            refine C_V3 (pc2 := 107) (mc := 0) (ms := 0) dX4_findVintage_104 cvX3_broken mlX4_33 (isO.h (sh35 S) _) (Nat.le_of_ble_eq_true rfl) rfl ?_
            have hJ0s : 0 < s.2.J := by omega
            refine c_broken (V := s.2) S (hE.same h3) h2.1 (Nat.mod_lt _ (by decide)) (Nat.mod_lt _ hJ0s) (fun g3 hE3 _ hf3 => ?_)
            refine C_V1 (pc2 := 110) (mc := 0) (ms := 0) dX4_findVintage_107 cvX2_smash mlX4_121 (isO.h (sc39 S).1 _) (Nat.le_of_ble_eq_true rfl) rfl ?_
            have hE3b : tunedE g3 V := hE3.same ⟨h3.1.symm, h3.2.1.symm, h3.2.2.1.symm, h3.2.2.2.1.symm, h3.2.2.2.2.symm⟩
            refine c_smash (sc39 S) (hU.fr hf3 (by omega)) h2.1 (fun g4 hU4 hf4 => ?_)
            refine hend g4 _ hU4 (h2.smash _) (show s.2.Y ≤ 2000 by omega) (hE3b.fr hf4 (by omega)) ((hf.tr (hf3.wd (by omega) (by omega))).tr (hf4.wd (by omega) (by omega))) ih _ (lks (i := 0) rfl (lks (i := 2) rfl (lks (i := 4) rfl (lks (i := 6) rfl lk0))))
      · rw [if_pos (by omega)]
        rw [if_neg h30] at ih
        refine T_ifne (pc2 := 55) (tgt := 110) dX4_findVintage_52 (by decide) rfl (fun c52 => ?_) (fun c52 => ?_)
        · exact hend g2 s.2 hU h2 (by omega) hE hf ih _ (lks (i := 0) rfl (lks (i := 2) rfl (lks (i := 4) rfl (lks (i := 6) rfl lk0))))
        · exact absurd c52 (by decide)
theorem c_findVintage {x mm : Nat} (S : Sh sk n bf im above below) (hc : isC sk n c) (hd : c + 6 ≤ 34 ∨ 45 ≤ c) (hV : hasC g c V) (hok : okC V) (hY : V.Y ≤ 1000) (hJ0 : 0 < V.J) (hx : x < 2147483647) (hm : mm ≤ 60)
    (k : ∀ g2, g2 34 2 = nI (bm ((V.vn x mm).2.th 0) 8) → g2 34 3 = nI (ct ((V.vn x mm).2.th 1) 8) → Fr 34 45 g g2 → Q none (HP sk g2 n)) : Calls MX4_findVintage (d + 3) 0 0 [.ref 34, .ref c, .int (nI mm), .int (nI x)] (HP sk g n) Q := by
  refine Calls.of (by decide +kernel) (Nat.le_of_ble_eq_true rfl) ?_
  refine T_aload_n (pc2 := 1) dX4_findVintage_0 rfl rfl ?_
  refine G_getR (pc2 := 4) dX4_findVintage_1 flX4_21 (sh34 S) rfl rfl ?_
  refine T_aload_n (pc2 := 5) dX4_findVintage_4 rfl rfl ?_
  refine C_V1 (pc2 := 8) (mc := 0) (ms := 0) dX4_findVintage_5 cvX2_become mlX4_60 (isO.h (sc39 S).1 _) (Nat.le_of_ble_eq_true rfl) rfl ?_
  refine c_become (sc39 S) hc (by omega) hV hok.1 (fun g2 h39 hf => ?_)
  refine T_aload_n (pc2 := 9) dX4_findVintage_8 rfl rfl ?_
  refine G_getR (pc2 := 12) dX4_findVintage_9 flX4_12 (sh34 S) rfl rfl ?_
  refine T_aload_n (pc2 := 13) dX4_findVintage_12 rfl rfl ?_
  refine G_getR (pc2 := 16) dX4_findVintage_13 flX4_21 (sh34 S) rfl rfl ?_
  refine C_V1 (pc2 := 19) (mc := 0) (ms := 0) dX4_findVintage_16 cvX3_tune mlX4_25 (isO.h (sh35 S) _) (Nat.le_of_ble_eq_true rfl) rfl ?_
  refine c_tune S (sc39 S) (by omega) h39 hok (fun g3 hE hf3 => ?_)
  refine T_iload_n (pc2 := 20) dX4_findVintage_19 rfl rfl ?_
  refine T_i2l (pc2 := 21) dX4_findVintage_20 rfl ?_
  rw [nI_l (by omega)]
  refine T_lstore (pc2 := 23) dX4_findVintage_21 (by decide) rfl ?_
  refine T_iconst (pc2 := 24) dX4_findVintage_23 ic0 rfl ?_
  refine T_istore (pc2 := 26) dX4_findVintage_24 (by decide) rfl ?_
  refine T_sub (lks (i := 0) rfl (lks (i := 2) rfl (lks (i := 4) rfl (lks (i := 6) rfl lk0)))) ?_
  obtain ⟨h1, h2, h3, h4⟩ := vn_ok hok hY hx mm hm
  refine vint_loop (g := g) S hok hY hJ0 hx hm (fun g4 hU4 hf4 => ?_) mm 0 g3 (by omega) (h39.fr hf3 (by omega)) hE ((hf.wd (by omega) (by omega)).tr (hf3.wd (by omega) (by omega)))
  refine T_aload_n (pc2 := 124) dX4_findVintage_123 rfl rfl ?_
  refine T_aload_n (pc2 := 125) dX4_findVintage_124 rfl rfl ?_
  refine G_getR (pc2 := 128) dX4_findVintage_125 flX4_21 (sh34 S) rfl rfl ?_
  refine T_iconst (pc2 := 129) dX4_findVintage_128 ic0 rfl ?_
  refine C_V1 (pc2 := 132) (mc := 0) (ms := 0) dX4_findVintage_129 cvX2_those mlX4_29 (isO.h (sc39 S).1 _) (Nat.le_of_ble_eq_true rfl) rfl ?_
  refine c_those (sc39 S) hU4 h2.1 (by decide) (hw31 h2) ?_
  refine G_putI (pc2 := 135) dX4_findVintage_132 flX4_48 (sh34 S) rfl rfl rfl rfl ?_
  refine T_aload_n (pc2 := 136) dX4_findVintage_135 rfl rfl ?_
  refine T_aload_n (pc2 := 137) dX4_findVintage_136 rfl rfl ?_
  refine G_getR (pc2 := 140) dX4_findVintage_137 flX4_21 (sh34 S) rfl rfl ?_
  refine T_iconst (pc2 := 141) dX4_findVintage_140 ic1 rfl ?_
  refine C_V1 (pc2 := 144) (mc := 0) (ms := 0) dX4_findVintage_141 cvX2_those mlX4_29 (isO.h (sc39 S).1 _) (Nat.le_of_ble_eq_true rfl) rfl ?_
  have hU5 : hasC (gset g4 34 2 (nI (bm ((V.vn x mm).2.th 0) 8))) 39 (V.vn x mm).2 := hU4.fr (lo := 34) (hi := 35) (Fr.rf.st (by omega) (by omega)) (by omega)
  refine c_those (sc39 S) hU5 h2.1 (by decide) (hw31 h2) ?_
  refine C_S1 (pc2 := 147) (mc := 0) (ms := 0) dX4_findVintage_144 csJ6_bitCount_0f7a4 mlX4_54 (Nat.le_of_ble_eq_true rfl) rfl ?_
  refine c_bits ?_
  refine G_putI (pc2 := 150) dX4_findVintage_147 flX4_41 (sh34 S) rfl rfl rfl rfl ?_
  refine T_ret dX4_findVintage_150 rfl ?_
  refine k _ ?_ (gs_eq _ _ _ _) ((hf4.st (by omega) (by omega)).st (by omega) (by omega))
  rw [gs_ne _ _ (by omega), gs_eq]
end Vint

