/-! the model: songs, copies, draws -/
theorem least_none {p : Nat → Bool} : ∀ {k : Nat}, (∀ i, i < k → p i = false) → least p k = none
  | 0, _ => rfl
  | k + 1, h => by
    unfold least
    rw [least_none (fun i hi => h i (by omega)), h k (by omega)]
    rfl
theorem least_is {p : Nat → Bool} {j : Nat} (hp : p j = true) (h : ∀ i, i < j → p i = false) {k : Nat} (hj : j < k) : least p k = some j := by
  have e : least p (j + 1) = some j := by
    unfold least
    rw [least_none h, hp]
    rfl
  have := least_up e (k - (j + 1))
  rw [show j + 1 + (k - (j + 1)) = k by omega] at this
  exact this
theorem sg_left (V : Cel) (it : Nat → Int32) : ∀ m j, (V.sg it m).1 j = (V.th 0 j && !(V.sg it m).2.1 j)
  | 0, j => by
    show V.th 0 j = (V.th 0 j && !false)
    cases V.th 0 j <;> rfl
  | m + 1, j => by
    have ih := sg_left V it m j
    have e : V.sg it (m + 1) = sgf V it m (V.sg it m) := rfl
    rw [e]
    generalize V.sg it m = z at ih ⊢
    unfold sgf
    cases least (sgP V z.1 (it m)) V.J with
    | none => exact ih
    | some i =>
      show (z.1 j && !decide (j = i)) = (V.th 0 j && !(z.2.1 j || decide (j = i)))
      rw [ih]
      cases V.th 0 j <;> cases z.2.1 j <;> cases decide (j = i) <;> rfl
theorem sg_le (V : Cel) (it : Nat → Int32) : ∀ m, (V.sg it m).2.2 ≤ m
  | 0 => Nat.le_refl _
  | m + 1 => by
    have ih := sg_le V it m
    have e : V.sg it (m + 1) = sgf V it m (V.sg it m) := rfl
    rw [e]
    unfold sgf
    cases least (sgP V (V.sg it m).1 (it m)) V.J with
    | none => show (V.sg it m).2.2 + 1 ≤ _; omega
    | some i => show (V.sg it m).2.2 ≤ _; omega
section MSong2
variable {sk : Nat → SK} {g : Nat → Nat → Int32} {n w : Nat} {V : Cel} {Q : Option Value → SH → Prop} {d kc ks : Nat} {bf im : Nat → Option Nat} {above below : Int64} {h : SH} {s : ST}
theorem song_chk {r a m x : Nat} {it : Nat → Int32} (S : Sh sk n bf im above below) (hr : r < 8) (ham : a + m ≤ 40) (hm : m ≤ 12) (hit : ∀ t, t < m → g 51 (40 * r + a + t) = it t)
    (kt : allB (fun t => ntB (it t)) m = true → T MX8_song (d + 2) kc ks 98 [(0, .ref 48), (1, .int (nI x)), (2, .int (nI r)), (3, .int (nI a)), (4, .int (nI m))] [] (HP sk g n) Q) (kf : allB (fun t => ntB (it t)) m = false → Q (some (.int (fnd 3))) (HP sk (gset g 48 1 (nI 3)) n)) :
    ∀ l t, t + l = m → allB (fun t => ntB (it t)) t = true → T MX8_song (d + 2) kc ks 58 [(0, .ref 48), (1, .int (nI x)), (2, .int (nI r)), (3, .int (nI a)), (4, .int (nI m)), (6, .int (nI t))] [] (HP sk g n) Q := by
  intro l
  induction l with
  | zero =>
    intro t ht hb
    have e : t = m := by omega
    subst e
    refine T_iload (pc2 := 60) dX8_song_58 rfl rfl ?_
    refine T_iload (pc2 := 62) dX8_song_60 rfl rfl ?_
    first | refine N_icmpge (pc2 := 65) (tgt := 98) dX8_song_62 (by decide) (by with_reducible rfl) (by with_reducible rfl) (by omega) (by omega) rfl (fun c62 => ?_) (fun c62 => ?_) | refine T_icmpge (pc2 := 65) (tgt := 98) dX8_song_62 (by decide) rfl (fun c62 => ?_) (fun c62 => ?_)
    · refine T_sub (lks (i := 0) rfl (lks (i := 1) rfl (lks (i := 2) rfl (lks (i := 3) rfl (lks (i := 4) rfl lk0))))) ?_
      exact kt hb
    · omega
  | succ l ih =>
    intro t ht hb
    have ei := hit t (by omega)
    have hst : allB (fun t => ntB (it t)) (t + 1) = (allB (fun t => ntB (it t)) t && ntB (it t)) := rfl
    refine T_iload (pc2 := 60) dX8_song_58 rfl rfl ?_
    refine T_iload (pc2 := 62) dX8_song_60 rfl rfl ?_
    first | refine N_icmpge (pc2 := 65) (tgt := 98) dX8_song_62 (by decide) (by with_reducible rfl) (by with_reducible rfl) (by omega) (by omega) rfl (fun c62 => ?_) (fun c62 => ?_) | refine T_icmpge (pc2 := 65) (tgt := 98) dX8_song_62 (by decide) rfl (fun c62 => ?_) (fun c62 => ?_)
    · omega
    · refine T_aload_n (pc2 := 66) dX8_song_65 rfl rfl ?_
      refine G_getR (pc2 := 69) dX8_song_66 flX8_16 (sh48 S) rfl rfl ?_
      refine T_bipush (pc2 := 71) dX8_song_69 bp40 rfl ?_
      refine T_iload_n (pc2 := 72) dX8_song_71 rfl rfl ?_
      first | refine N_imul (pc2 := 73) dX8_song_72 (by with_reducible rfl) (by with_reducible rfl) rfl ?_ | refine T_imul (pc2 := 73) dX8_song_72 rfl ?_
      refine T_iload_n (pc2 := 74) dX8_song_73 rfl rfl ?_
      first | refine N_iadd (pc2 := 75) dX8_song_74 (by with_reducible rfl) (by with_reducible rfl) rfl ?_ | refine T_iadd (pc2 := 75) dX8_song_74 rfl ?_
      refine T_iload (pc2 := 77) dX8_song_75 rfl rfl ?_
      first | refine N_iadd (pc2 := 78) dX8_song_77 (by with_reducible rfl) (by with_reducible rfl) rfl ?_ | refine T_iadd (pc2 := 78) dX8_song_77 rfl ?_
      refine G_iald (pc2 := 79) dX8_song_78 (sh51 S) (by omega) (by first | decide | omega) (by first | with_reducible assumption | exact gs_eq _ _ _ _ | exact (gs_ne _ _ (by omega)).trans (by with_reducible assumption) | exact (gs_ne _ _ (by omega)).trans (gs_eq _ _ _ _) | exact (gs_ne _ _ (by omega)).trans ((gs_ne _ _ (by omega)).trans (by with_reducible assumption)) | exact (gs_ne _ _ (by omega)).trans ((gs_ne _ _ (by omega)).trans (gs_eq _ _ _ _)) | exact (gs_ne _ _ (by omega)).trans ((gs_ne _ _ (by omega)).trans ((gs_ne _ _ (by omega)).trans (by with_reducible assumption))) | rfl) rfl ?_
      refine T_i2l (pc2 := 80) dX8_song_79 rfl ?_
      refine C_S1 (pc2 := 83) (mc := 0) (ms := 0) dX8_song_80 csX8_isNote mlX8_209 (Nat.le_of_ble_eq_true rfl) rfl ?_
      refine m_isNote rfl (fun y hy ey => ?_) (fun hno => ?_)
      · first | refine B_ifne1 (tgt := 92) dX8_song_83 (by with_reducible rfl) (by decide) ?_ | refine B_ifne0 (pc2 := 86) (tgt := 92) dX8_song_83 (by with_reducible rfl) (by decide) rfl ?_ | refine N_ifne (pc2 := 86) (tgt := 92) dX8_song_83 (by with_reducible rfl) (by decide) (by omega) rfl (fun c83 => ?_) (fun c83 => ?_) | refine T_ifne (pc2 := 86) (tgt := 92) dX8_song_83 (by decide) rfl (fun c83 => ?_) (fun c83 => ?_)
        first | refine N_iinc (pc2 := 95) dX8_song_92 rfl (by with_reducible rfl) ic1 (by decide) rfl ?_ | refine T_iinc (pc2 := 95) dX8_song_92 rfl rfl (by decide) rfl ?_
        refine T_goto (tgt := 58) dX8_song_95 (by decide) ?_
        refine T_sub (lks (i := 0) rfl (lks (i := 1) rfl (lks (i := 2) rfl (lks (i := 3) rfl (lks (i := 4) rfl (lks (i := 6) rfl lk0)))))) ?_
        exact ih (t + 1) (by omega) (by rw [hst, hb, ntB_true ⟨y, hy, ey⟩]; rfl)
      · first | refine B_ifne1 (tgt := 92) dX8_song_83 (by with_reducible rfl) (by decide) ?_ | refine B_ifne0 (pc2 := 86) (tgt := 92) dX8_song_83 (by with_reducible rfl) (by decide) rfl ?_ | refine N_ifne (pc2 := 86) (tgt := 92) dX8_song_83 (by with_reducible rfl) (by decide) (by omega) rfl (fun c83 => ?_) (fun c83 => ?_) | refine T_ifne (pc2 := 86) (tgt := 92) dX8_song_83 (by decide) rfl (fun c83 => ?_) (fun c83 => ?_)
        refine T_aload_n (pc2 := 87) dX8_song_86 rfl rfl ?_
        refine T_iconst (pc2 := 88) dX8_song_87 ic3 rfl ?_
        refine C_V1 (pc2 := 91) (mc := 0) (ms := 0) dX8_song_88 cvX8_finding mlX8_71 (isO.h (sh48 S) _) (Nat.le_of_ble_eq_true rfl) rfl ?_
        refine m_finding S ?_
        refine T_iret dX8_song_91 rfl rfl ?_
        exact kf (allB_false m t (by omega) (ntB_false hno))
theorem song_in {r a m x t lk : Nat} {v : Int32} {b l : Nat → Bool} (S : Sh sk n bf im above below) (hV : hasM (g 52) V) (hok : okC V) (hr : r < 8) (hx : 40 * r + a + t < 320) (ei : g 51 (40 * r + a + t) = v) (hl : ∀ j, l j = (V.th 0 j && !b j))
    (k : ∀ j, ((least (sgP V l v) V.J = some j ∧ j < V.J) ∨ (least (sgP V l v) V.J = none ∧ j = V.J)) → T MX8_song (d + 2) kc ks 184 [(0, .ref 48), (1, .int (nI x)), (2, .int (nI r)), (3, .int (nI a)), (4, .int (nI m)), (6, .int (nI (bm b 8))), (7, .int (nI lk)), (8, .int (nI t)), (9, .int (nI j))] [] (HP sk g n) Q) :
    ∀ q j, j + q = V.J → (∀ i, i < j → sgP V l v i = false) → T MX8_song (d + 2) kc ks 117 [(0, .ref 48), (1, .int (nI x)), (2, .int (nI r)), (3, .int (nI a)), (4, .int (nI m)), (6, .int (nI (bm b 8))), (7, .int (nI lk)), (8, .int (nI t)), (9, .int (nI j))] [] (HP sk g n) Q := by
  have hJ8 := hok.1
  have e0 := hV.1
  intro q
  induction q with
  | zero =>
    intro j hj hno
    have e : j = V.J := by omega
    subst e
    refine T_iload (pc2 := 119) dX8_song_117 rfl rfl ?_
    refine T_aload_n (pc2 := 120) dX8_song_119 rfl rfl ?_
    refine G_getR (pc2 := 123) dX8_song_120 flX8_19 (sh48 S) rfl rfl ?_
    refine T_iconst (pc2 := 124) dX8_song_123 ic0 rfl ?_
    refine G_iald (pc2 := 125) dX8_song_124 (sh52 S) (by omega) (by first | decide | omega) (by first | with_reducible assumption | exact gs_eq _ _ _ _ | exact (gs_ne _ _ (by omega)).trans (by with_reducible assumption) | exact (gs_ne _ _ (by omega)).trans (gs_eq _ _ _ _) | exact (gs_ne _ _ (by omega)).trans ((gs_ne _ _ (by omega)).trans (by with_reducible assumption)) | exact (gs_ne _ _ (by omega)).trans ((gs_ne _ _ (by omega)).trans (gs_eq _ _ _ _)) | exact (gs_ne _ _ (by omega)).trans ((gs_ne _ _ (by omega)).trans ((gs_ne _ _ (by omega)).trans (by with_reducible assumption))) | rfl) rfl ?_
    first | refine N_icmpge (pc2 := 128) (tgt := 184) dX8_song_125 (by decide) (by with_reducible rfl) (by with_reducible rfl) (by omega) (by omega) rfl (fun c125 => ?_) (fun c125 => ?_) | refine T_icmpge (pc2 := 128) (tgt := 184) dX8_song_125 (by decide) rfl (fun c125 => ?_) (fun c125 => ?_)
    · exact k V.J (Or.inr ⟨least_none hno, rfl⟩)
    · omega
  | succ q ih =>
    intro j hj hno
    have hjl : j < V.J := by omega
    have oj := hok.2.2.2.1 j hjl
    have ej := hV.2.2.2 j hjl
    have hskip : sgP V l v j = false → T MX8_song (d + 2) kc ks 178 [(0, .ref 48), (1, .int (nI x)), (2, .int (nI r)), (3, .int (nI a)), (4, .int (nI m)), (6, .int (nI (bm b 8))), (7, .int (nI lk)), (8, .int (nI t)), (9, .int (nI j))] [] (HP sk g n) Q := fun hs => by
      first | refine N_iinc (pc2 := 181) dX8_song_178 rfl (by with_reducible rfl) ic1 (by decide) rfl ?_ | refine T_iinc (pc2 := 181) dX8_song_178 rfl rfl (by decide) rfl ?_
      refine T_goto (tgt := 117) dX8_song_181 (by decide) ?_
      refine T_sub (lks (i := 0) rfl (lks (i := 1) rfl (lks (i := 2) rfl (lks (i := 3) rfl (lks (i := 4) rfl (lks (i := 6) rfl (lks (i := 7) rfl (lks (i := 8) rfl (lks (i := 9) rfl lk0))))))))) ?_
      refine ih (j + 1) (by omega) (fun i hi => ?_)
      by_cases e : i = j
      · subst e; exact hs
      · exact hno i (by omega)
    refine T_iload (pc2 := 119) dX8_song_117 rfl rfl ?_
    refine T_aload_n (pc2 := 120) dX8_song_119 rfl rfl ?_
    refine G_getR (pc2 := 123) dX8_song_120 flX8_19 (sh48 S) rfl rfl ?_
    refine T_iconst (pc2 := 124) dX8_song_123 ic0 rfl ?_
    refine G_iald (pc2 := 125) dX8_song_124 (sh52 S) (by omega) (by first | decide | omega) (by first | with_reducible assumption | exact gs_eq _ _ _ _ | exact (gs_ne _ _ (by omega)).trans (by with_reducible assumption) | exact (gs_ne _ _ (by omega)).trans (gs_eq _ _ _ _) | exact (gs_ne _ _ (by omega)).trans ((gs_ne _ _ (by omega)).trans (by with_reducible assumption)) | exact (gs_ne _ _ (by omega)).trans ((gs_ne _ _ (by omega)).trans (gs_eq _ _ _ _)) | exact (gs_ne _ _ (by omega)).trans ((gs_ne _ _ (by omega)).trans ((gs_ne _ _ (by omega)).trans (by with_reducible assumption))) | rfl) rfl ?_
    first | refine N_icmpge (pc2 := 128) (tgt := 184) dX8_song_125 (by decide) (by with_reducible rfl) (by with_reducible rfl) (by omega) (by omega) rfl (fun c125 => ?_) (fun c125 => ?_) | refine T_icmpge (pc2 := 128) (tgt := 184) dX8_song_125 (by decide) rfl (fun c125 => ?_) (fun c125 => ?_)
    · omega
    · refine T_iload (pc2 := 130) dX8_song_128 rfl rfl ?_
      refine T_iload (pc2 := 132) dX8_song_130 rfl rfl ?_
      refine C_S2 (pc2 := 135) (mc := 0) (ms := 0) dX8_song_132 csX8_has mlX8_167 (Nat.le_of_ble_eq_true rfl) rfl ?_
      refine m_has (by omega) (fun hb => ?_) (fun hb => ?_)
      · first | refine B_ifne1 (tgt := 178) dX8_song_135 (by with_reducible rfl) (by decide) ?_ | refine B_ifne0 (pc2 := 138) (tgt := 178) dX8_song_135 (by with_reducible rfl) (by decide) rfl ?_ | refine N_ifne (pc2 := 138) (tgt := 178) dX8_song_135 (by with_reducible rfl) (by decide) (by omega) rfl (fun c135 => ?_) (fun c135 => ?_) | refine T_ifne (pc2 := 138) (tgt := 178) dX8_song_135 (by decide) rfl (fun c135 => ?_) (fun c135 => ?_)
        exact hskip (by unfold sgP; rw [hl, hb, Bool.not_true, Bool.and_false]; rfl)
      · first | refine B_ifne1 (tgt := 178) dX8_song_135 (by with_reducible rfl) (by decide) ?_ | refine B_ifne0 (pc2 := 138) (tgt := 178) dX8_song_135 (by with_reducible rfl) (by decide) rfl ?_ | refine N_ifne (pc2 := 138) (tgt := 178) dX8_song_135 (by with_reducible rfl) (by decide) (by omega) rfl (fun c135 => ?_) (fun c135 => ?_) | refine T_ifne (pc2 := 138) (tgt := 178) dX8_song_135 (by decide) rfl (fun c135 => ?_) (fun c135 => ?_)
        refine T_aload_n (pc2 := 139) dX8_song_138 rfl rfl ?_
        refine G_getR (pc2 := 142) dX8_song_139 flX8_19 (sh48 S) rfl rfl ?_
        refine T_iload (pc2 := 144) dX8_song_142 rfl rfl ?_
        refine T_iconst (pc2 := 145) dX8_song_144 ic4 rfl ?_
        refine C_S3 (pc2 := 148) (mc := 0) (ms := 0) dX8_song_145 csX8_of mlX8_154 (Nat.le_of_ble_eq_true rfl) rfl ?_
        refine m_of (sh52 S) (by omega) ej.2.2.2.2 ?_
        first | refine B_ifne1 (tgt := 178) dX8_song_148 (by with_reducible rfl) (by decide) ?_ | refine B_ifne0 (pc2 := 151) (tgt := 178) dX8_song_148 (by with_reducible rfl) (by decide) rfl ?_ | refine N_ifne (pc2 := 151) (tgt := 178) dX8_song_148 (by with_reducible rfl) (by decide) (by omega) rfl (fun c148 => ?_) (fun c148 => ?_) | refine T_ifne (pc2 := 151) (tgt := 178) dX8_song_148 (by decide) rfl (fun c148 => ?_) (fun c148 => ?_)
        · exact hskip (by unfold sgP; rw [hl, th0 hjl, decide_eq_false c148]; rfl)
        · refine T_aload_n (pc2 := 152) dX8_song_151 rfl rfl ?_
          refine G_getR (pc2 := 155) dX8_song_152 flX8_19 (sh48 S) rfl rfl ?_
          refine T_iload (pc2 := 157) dX8_song_155 rfl rfl ?_
          refine T_iconst (pc2 := 158) dX8_song_157 ic1 rfl ?_
          refine C_S3 (pc2 := 161) (mc := 0) (ms := 0) dX8_song_158 csX8_of mlX8_154 (Nat.le_of_ble_eq_true rfl) rfl ?_
          refine m_of (sh52 S) (by omega) ej.2.1 ?_
          refine T_aload_n (pc2 := 162) dX8_song_161 rfl rfl ?_
          refine G_getR (pc2 := 165) dX8_song_162 flX8_16 (sh48 S) rfl rfl ?_
          refine T_bipush (pc2 := 167) dX8_song_165 bp40 rfl ?_
          refine T_iload_n (pc2 := 168) dX8_song_167 rfl rfl ?_
          first | refine N_imul (pc2 := 169) dX8_song_168 (by with_reducible rfl) (by with_reducible rfl) rfl ?_ | refine T_imul (pc2 := 169) dX8_song_168 rfl ?_
          refine T_iload_n (pc2 := 170) dX8_song_169 rfl rfl ?_
          first | refine N_iadd (pc2 := 171) dX8_song_170 (by with_reducible rfl) (by with_reducible rfl) rfl ?_ | refine T_iadd (pc2 := 171) dX8_song_170 rfl ?_
          refine T_iload (pc2 := 173) dX8_song_171 rfl rfl ?_
          first | refine N_iadd (pc2 := 174) dX8_song_173 (by with_reducible rfl) (by with_reducible rfl) rfl ?_ | refine T_iadd (pc2 := 174) dX8_song_173 rfl ?_
          refine G_iald (pc2 := 175) dX8_song_174 (sh51 S) (by omega) (by first | decide | omega) (by first | with_reducible assumption | exact gs_eq _ _ _ _ | exact (gs_ne _ _ (by omega)).trans (by with_reducible assumption) | exact (gs_ne _ _ (by omega)).trans (gs_eq _ _ _ _) | exact (gs_ne _ _ (by omega)).trans ((gs_ne _ _ (by omega)).trans (by with_reducible assumption)) | exact (gs_ne _ _ (by omega)).trans ((gs_ne _ _ (by omega)).trans (gs_eq _ _ _ _)) | exact (gs_ne _ _ (by omega)).trans ((gs_ne _ _ (by omega)).trans ((gs_ne _ _ (by omega)).trans (by with_reducible assumption))) | rfl) rfl ?_
          refine T_icmpeq (pc2 := 178) (tgt := 184) dX8_song_175 (by decide) rfl (fun c175 => ?_) (fun c175 => ?_)
          · have hp : sgP V l v j = true := by
              unfold sgP
              rw [hl, th0 hjl, decide_eq_true c148, hb, decide_eq_true c175]
              rfl
            exact k j (Or.inl ⟨least_is hp hno hjl, hjl⟩)
          · exact hskip (by unfold sgP; rw [decide_eq_false c175, Bool.and_false])
theorem song_out {r a m x : Nat} {it : Nat → Int32} (S : Sh sk n bf im above below) (hV : hasM (g 52) V) (hok : okC V) (hr : r < 8) (ham : a + m ≤ 40) (hm : m ≤ 12) (hit : ∀ t, t < m → g 51 (40 * r + a + t) = it t)
    (k : T MX8_song (d + 2) kc ks 235 [(1, .int (nI x)), (6, .int (nI (bm (V.sg it m).2.1 8))), (7, .int (nI (V.sg it m).2.2))] [] (HP sk g n) Q) :
    ∀ l t, t + l = m → T MX8_song (d + 2) kc ks 107 [(0, .ref 48), (1, .int (nI x)), (2, .int (nI r)), (3, .int (nI a)), (4, .int (nI m)), (6, .int (nI (bm (V.sg it t).2.1 8))), (7, .int (nI (V.sg it t).2.2)), (8, .int (nI t))] [] (HP sk g n) Q := by
  have hJ8 := hok.1
  have e0 := hV.1
  intro l
  induction l with
  | zero =>
    intro t ht
    have e : t = m := by omega
    subst e
    refine T_iload (pc2 := 109) dX8_song_107 rfl rfl ?_
    refine T_iload (pc2 := 111) dX8_song_109 rfl rfl ?_
    first | refine N_icmpge (pc2 := 114) (tgt := 235) dX8_song_111 (by decide) (by with_reducible rfl) (by with_reducible rfl) (by omega) (by omega) rfl (fun c111 => ?_) (fun c111 => ?_) | refine T_icmpge (pc2 := 114) (tgt := 235) dX8_song_111 (by decide) rfl (fun c111 => ?_) (fun c111 => ?_)
    · refine T_sub (lks (i := 1) rfl (lks (i := 6) rfl (lks (i := 7) rfl lk0))) ?_
      exact k
    · omega
  | succ l ih =>
    intro t ht
    have ei := hit t (by omega)
    have hle := sg_le V it t
    have ih2 := ih (t + 1) (by omega)
    have hst : V.sg it (t + 1) = sgf V it t (V.sg it t) := rfl
    have hleft := sg_left V it t
    rw [hst] at ih2
    generalize V.sg it t = z at hle hleft ih2 ⊢
    unfold sgf at ih2
    refine T_iload (pc2 := 109) dX8_song_107 rfl rfl ?_
    refine T_iload (pc2 := 111) dX8_song_109 rfl rfl ?_
    first | refine N_icmpge (pc2 := 114) (tgt := 235) dX8_song_111 (by decide) (by with_reducible rfl) (by with_reducible rfl) (by omega) (by omega) rfl (fun c111 => ?_) (fun c111 => ?_) | refine T_icmpge (pc2 := 114) (tgt := 235) dX8_song_111 (by decide) rfl (fun c111 => ?_) (fun c111 => ?_)
    · omega
    · refine T_iconst (pc2 := 115) dX8_song_114 ic0 rfl ?_
      refine T_istore (pc2 := 117) dX8_song_115 (by decide) rfl ?_
      refine T_sub (lks (i := 0) rfl (lks (i := 1) rfl (lks (i := 2) rfl (lks (i := 3) rfl (lks (i := 4) rfl (lks (i := 6) rfl (lks (i := 7) rfl (lks (i := 8) rfl (lks (i := 9) rfl lk0))))))))) ?_
      refine song_in (b := z.2.1) (l := z.1) S hV hok hr (by omega) ei hleft (fun j hj => ?_) V.J 0 (by omega) (fun i hi => absurd hi (Nat.not_lt_zero i))
      rcases hj with ⟨hs, hjl⟩ | ⟨hs, hj⟩
      · rw [hs] at ih2
        refine T_iload (pc2 := 186) dX8_song_184 rfl rfl ?_
        refine T_iload (pc2 := 188) dX8_song_186 rfl rfl ?_
        refine T_aload_n (pc2 := 189) dX8_song_188 rfl rfl ?_
        refine G_getR (pc2 := 192) dX8_song_189 flX8_19 (sh48 S) rfl rfl ?_
        refine T_iconst (pc2 := 193) dX8_song_192 ic0 rfl ?_
        refine G_iald (pc2 := 194) dX8_song_193 (sh52 S) (by omega) (by first | decide | omega) (by first | with_reducible assumption | exact gs_eq _ _ _ _ | exact (gs_ne _ _ (by omega)).trans (by with_reducible assumption) | exact (gs_ne _ _ (by omega)).trans (gs_eq _ _ _ _) | exact (gs_ne _ _ (by omega)).trans ((gs_ne _ _ (by omega)).trans (by with_reducible assumption)) | exact (gs_ne _ _ (by omega)).trans ((gs_ne _ _ (by omega)).trans (gs_eq _ _ _ _)) | exact (gs_ne _ _ (by omega)).trans ((gs_ne _ _ (by omega)).trans ((gs_ne _ _ (by omega)).trans (by with_reducible assumption))) | rfl) rfl ?_
        first | refine N_icmpge (pc2 := 197) (tgt := 204) dX8_song_194 (by decide) (by with_reducible rfl) (by with_reducible rfl) (by omega) (by omega) rfl (fun c194 => ?_) (fun c194 => ?_) | refine T_icmpge (pc2 := 197) (tgt := 204) dX8_song_194 (by decide) rfl (fun c194 => ?_) (fun c194 => ?_)
        · omega
        · refine T_iconst (pc2 := 198) dX8_song_197 ic1 rfl ?_
          refine T_iload (pc2 := 200) dX8_song_198 rfl rfl ?_
          refine T_ishl (pc2 := 201) dX8_song_200 rfl ?_
          refine T_goto (tgt := 205) dX8_song_201 (by decide) ?_
          refine T_ior (pc2 := 206) dX8_song_205 rfl ?_
          rw [bm_one (by decide) (by omega)]
          refine T_istore (pc2 := 208) dX8_song_206 (by decide) rfl ?_
          refine T_iload (pc2 := 210) dX8_song_208 rfl rfl ?_
          refine T_iload (pc2 := 212) dX8_song_210 rfl rfl ?_
          refine T_aload_n (pc2 := 213) dX8_song_212 rfl rfl ?_
          refine G_getR (pc2 := 216) dX8_song_213 flX8_19 (sh48 S) rfl rfl ?_
          refine T_iconst (pc2 := 217) dX8_song_216 ic0 rfl ?_
          refine G_iald (pc2 := 218) dX8_song_217 (sh52 S) (by omega) (by first | decide | omega) (by first | with_reducible assumption | exact gs_eq _ _ _ _ | exact (gs_ne _ _ (by omega)).trans (by with_reducible assumption) | exact (gs_ne _ _ (by omega)).trans (gs_eq _ _ _ _) | exact (gs_ne _ _ (by omega)).trans ((gs_ne _ _ (by omega)).trans (by with_reducible assumption)) | exact (gs_ne _ _ (by omega)).trans ((gs_ne _ _ (by omega)).trans (gs_eq _ _ _ _)) | exact (gs_ne _ _ (by omega)).trans ((gs_ne _ _ (by omega)).trans ((gs_ne _ _ (by omega)).trans (by with_reducible assumption))) | rfl) rfl ?_
          first | refine N_icmpge (pc2 := 221) (tgt := 225) dX8_song_218 (by decide) (by with_reducible rfl) (by with_reducible rfl) (by omega) (by omega) rfl (fun c218 => ?_) (fun c218 => ?_) | refine T_icmpge (pc2 := 221) (tgt := 225) dX8_song_218 (by decide) rfl (fun c218 => ?_) (fun c218 => ?_)
          · omega
          · refine T_iconst (pc2 := 222) dX8_song_221 ic0 rfl ?_
            refine T_goto (tgt := 226) dX8_song_222 (by decide) ?_
            first | refine N_iadd (pc2 := 227) dX8_song_226 (by with_reducible rfl) (by with_reducible rfl) rfl ?_ | refine T_iadd (pc2 := 227) dX8_song_226 rfl ?_
            refine T_istore (pc2 := 229) dX8_song_227 (by decide) rfl ?_
            first | refine N_iinc (pc2 := 232) dX8_song_229 rfl (by with_reducible rfl) ic1 (by decide) rfl ?_ | refine T_iinc (pc2 := 232) dX8_song_229 rfl rfl (by decide) rfl ?_
            refine T_goto (tgt := 107) dX8_song_232 (by decide) ?_
            refine T_sub (lks (i := 0) rfl (lks (i := 1) rfl (lks (i := 2) rfl (lks (i := 3) rfl (lks (i := 4) rfl (lks (i := 6) rfl (lks (i := 7) rfl (lks (i := 8) rfl lk0)))))))) ?_
            exact ih2
      · subst hj
        rw [hs] at ih2
        refine T_iload (pc2 := 186) dX8_song_184 rfl rfl ?_
        refine T_iload (pc2 := 188) dX8_song_186 rfl rfl ?_
        refine T_aload_n (pc2 := 189) dX8_song_188 rfl rfl ?_
        refine G_getR (pc2 := 192) dX8_song_189 flX8_19 (sh48 S) rfl rfl ?_
        refine T_iconst (pc2 := 193) dX8_song_192 ic0 rfl ?_
        refine G_iald (pc2 := 194) dX8_song_193 (sh52 S) (by omega) (by first | decide | omega) (by first | with_reducible assumption | exact gs_eq _ _ _ _ | exact (gs_ne _ _ (by omega)).trans (by with_reducible assumption) | exact (gs_ne _ _ (by omega)).trans (gs_eq _ _ _ _) | exact (gs_ne _ _ (by omega)).trans ((gs_ne _ _ (by omega)).trans (by with_reducible assumption)) | exact (gs_ne _ _ (by omega)).trans ((gs_ne _ _ (by omega)).trans (gs_eq _ _ _ _)) | exact (gs_ne _ _ (by omega)).trans ((gs_ne _ _ (by omega)).trans ((gs_ne _ _ (by omega)).trans (by with_reducible assumption))) | rfl) rfl ?_
        first | refine N_icmpge (pc2 := 197) (tgt := 204) dX8_song_194 (by decide) (by with_reducible rfl) (by with_reducible rfl) (by omega) (by omega) rfl (fun c194 => ?_) (fun c194 => ?_) | refine T_icmpge (pc2 := 197) (tgt := 204) dX8_song_194 (by decide) rfl (fun c194 => ?_) (fun c194 => ?_)
        · refine T_iconst (pc2 := 205) dX8_song_204 ic0 rfl ?_
          refine T_ior (pc2 := 206) dX8_song_205 rfl ?_
          rw [nI_or, Nat.or_zero]
          refine T_istore (pc2 := 208) dX8_song_206 (by decide) rfl ?_
          refine T_iload (pc2 := 210) dX8_song_208 rfl rfl ?_
          refine T_iload (pc2 := 212) dX8_song_210 rfl rfl ?_
          refine T_aload_n (pc2 := 213) dX8_song_212 rfl rfl ?_
          refine G_getR (pc2 := 216) dX8_song_213 flX8_19 (sh48 S) rfl rfl ?_
          refine T_iconst (pc2 := 217) dX8_song_216 ic0 rfl ?_
          refine G_iald (pc2 := 218) dX8_song_217 (sh52 S) (by omega) (by first | decide | omega) (by first | with_reducible assumption | exact gs_eq _ _ _ _ | exact (gs_ne _ _ (by omega)).trans (by with_reducible assumption) | exact (gs_ne _ _ (by omega)).trans (gs_eq _ _ _ _) | exact (gs_ne _ _ (by omega)).trans ((gs_ne _ _ (by omega)).trans (by with_reducible assumption)) | exact (gs_ne _ _ (by omega)).trans ((gs_ne _ _ (by omega)).trans (gs_eq _ _ _ _)) | exact (gs_ne _ _ (by omega)).trans ((gs_ne _ _ (by omega)).trans ((gs_ne _ _ (by omega)).trans (by with_reducible assumption))) | rfl) rfl ?_
          first | refine N_icmpge (pc2 := 221) (tgt := 225) dX8_song_218 (by decide) (by with_reducible rfl) (by with_reducible rfl) (by omega) (by omega) rfl (fun c218 => ?_) (fun c218 => ?_) | refine T_icmpge (pc2 := 221) (tgt := 225) dX8_song_218 (by decide) rfl (fun c218 => ?_) (fun c218 => ?_)
          · refine T_iconst (pc2 := 226) dX8_song_225 ic1 rfl ?_
            first | refine N_iadd (pc2 := 227) dX8_song_226 (by with_reducible rfl) (by with_reducible rfl) rfl ?_ | refine T_iadd (pc2 := 227) dX8_song_226 rfl ?_
            refine T_istore (pc2 := 229) dX8_song_227 (by decide) rfl ?_
            first | refine N_iinc (pc2 := 232) dX8_song_229 rfl (by with_reducible rfl) ic1 (by decide) rfl ?_ | refine T_iinc (pc2 := 232) dX8_song_229 rfl rfl (by decide) rfl ?_
            refine T_goto (tgt := 107) dX8_song_232 (by decide) ?_
            refine T_sub (lks (i := 0) rfl (lks (i := 1) rfl (lks (i := 2) rfl (lks (i := 3) rfl (lks (i := 4) rfl (lks (i := 6) rfl (lks (i := 7) rfl (lks (i := 8) rfl lk0)))))))) ?_
            exact ih2
          · omega
        · omega
theorem mm_song {w r i m : Int32} (S : Sh sk n bf im above below) (hI : InvM g s) (hok : Ok s) (k : ∀ g2, InvM g2 (sSong s w r i m).2 → Fr 48 62 g g2 → Q (some (.int (sSong s w r i m).1)) (HP sk g2 n)) : Calls MX8_song (d + 3) 0 0 [.ref 48, .int w, .int r, .int i, .int m] (HP sk g n) Q := by
  have hokV := hok.2.2.1.1
  have hJ8 := hokV.1
  refine Calls.of (by decide +kernel) (Nat.le_of_ble_eq_true rfl) ?_
  refine T_aload_n (pc2 := 1) dX8_song_0 rfl rfl ?_
  refine T_iconst (pc2 := 2) dX8_song_1 ic0 rfl ?_
  refine G_putI (pc2 := 5) dX8_song_2 flX8_50 (sh48 S) rfl rfl rfl rfl ?_
  have hI := hI.ms (Ms.rf.st (i := 48) (k := 0) (v := nI 0) (by omega))
  have k := fm_start k
  generalize gset g 48 0 (nI 0) = g1 at hI k ⊢
  have hV := hI.2.2.1
  refine T_aload_n (pc2 := 6) dX8_song_5 rfl rfl ?_
  refine C_V0 (pc2 := 9) (mc := 0) (ms := 0) dX8_song_6 cvX8_isThere mlX8_196 (isO.h (sh48 S) _) (Nat.le_of_ble_eq_true rfl) rfl ?_
  refine m_isThere S hV.1 hJ8 (fun h0 => ?_) (fun h0 => ?_)
  · have hs : sSong s w r i m = match inN w 2, inN r 8, inP m 12 with
        | some w, some r, some m => rowF s r i (m + 1) (fun a => if allB (fun t => ntB (s.A.2.2.2 r (a + t))) (m + 1) then (if w = 0 then nI (bm (s.V.sg (fun t => s.A.2.2.2 r (a + t)) (m + 1)).2.1 8) else nI (s.V.sg (fun t => s.A.2.2.2 r (a + t)) (m + 1)).2.2, s.setfd 0) else (fnd 3, s.setfd 3))
        | _, _, _ => (BAD, s) := if_neg (by omega)
    first | refine B_ifne1 (tgt := 15) dX8_song_9 (by with_reducible rfl) (by decide) ?_ | refine B_ifne0 (pc2 := 12) (tgt := 15) dX8_song_9 (by with_reducible rfl) (by decide) rfl ?_ | refine N_ifne (pc2 := 12) (tgt := 15) dX8_song_9 (by with_reducible rfl) (by decide) (by omega) rfl (fun c9 => ?_) (fun c9 => ?_) | refine T_ifne (pc2 := 12) (tgt := 15) dX8_song_9 (by decide) rfl (fun c9 => ?_) (fun c9 => ?_)
    refine T_iload_n (pc2 := 16) dX8_song_15 rfl rfl ?_
    refine T_i2l (pc2 := 17) dX8_song_16 rfl ?_
    refine T_lconst (pc2 := 18) (v := lN 0) dX8_song_17 rfl rfl ?_
    refine T_lconst (pc2 := 19) (v := lN 1) dX8_song_18 rfl rfl ?_
    refine C_S3 (pc2 := 22) (mc := 0) (ms := 0) dX8_song_19 csX8_in mlX8_60 (Nat.le_of_ble_eq_true rfl) rfl ?_
    refine m_inI (k := 1) rfl rfl (by decide) (by decide) (fun x hx ex => ?_) (fun hno => ?_)
    · subst ex
      first | refine B_ifeq1 (pc2 := 25) (tgt := 34) dX8_song_22 (by with_reducible rfl) (by decide) rfl ?_ | refine B_ifeq0 (tgt := 34) dX8_song_22 (by with_reducible rfl) (by decide) ?_ | refine N_ifeq (pc2 := 25) (tgt := 34) dX8_song_22 (by with_reducible rfl) (by decide) (by omega) rfl (fun c22 => ?_) (fun c22 => ?_) | refine T_ifeq (pc2 := 25) (tgt := 34) dX8_song_22 (by decide) rfl (fun c22 => ?_) (fun c22 => ?_)
      refine T_iload_n (pc2 := 26) dX8_song_25 rfl rfl ?_
      refine T_iload (pc2 := 28) dX8_song_26 rfl rfl ?_
      refine C_S2 (pc2 := 31) (mc := 0) (ms := 0) dX8_song_28 csX8_isMany mlX8_241 (Nat.le_of_ble_eq_true rfl) rfl ?_
      refine m_isMany (fun b mm hb eb hmm em => ?_) (fun hno => ?_)
      · subst eb
        subst em
        rw [inN_some (show x < 2 by omega) (by decide), inN_some hb (by decide), inP_some hmm (by decide)] at hs
        have hs : sSong s (nI x) (nI b) i (nI (mm + 1)) = rowF s b i (mm + 1) (fun a => if allB (fun t => ntB (s.A.2.2.2 b (a + t))) (mm + 1) then (if x = 0 then nI (bm (s.V.sg (fun t => s.A.2.2.2 b (a + t)) (mm + 1)).2.1 8) else nI (s.V.sg (fun t => s.A.2.2.2 b (a + t)) (mm + 1)).2.2, s.setfd 0) else (fnd 3, s.setfd 3)) := hs
        first | refine B_ifne1 (tgt := 37) dX8_song_31 (by with_reducible rfl) (by decide) ?_ | refine B_ifne0 (pc2 := 34) (tgt := 37) dX8_song_31 (by with_reducible rfl) (by decide) rfl ?_ | refine N_ifne (pc2 := 34) (tgt := 37) dX8_song_31 (by with_reducible rfl) (by decide) (by omega) rfl (fun c31 => ?_) (fun c31 => ?_) | refine T_ifne (pc2 := 34) (tgt := 37) dX8_song_31 (by decide) rfl (fun c31 => ?_) (fun c31 => ?_)
        refine T_aload_n (pc2 := 38) dX8_song_37 rfl rfl ?_
        refine T_iload_n (pc2 := 39) dX8_song_38 rfl rfl ?_
        refine T_iload_n (pc2 := 40) dX8_song_39 rfl rfl ?_
        refine T_iload (pc2 := 42) dX8_song_40 rfl rfl ?_
        refine C_V3 (pc2 := 45) (mc := 0) (ms := 0) dX8_song_42 cvX8_rowFound mlX8_244 (isO.h (sh48 S) _) (Nat.le_of_ble_eq_true rfl) rfl ?_
        refine m_rowFound S hI.1 hok.1 hb (by omega) (fun h0 => ?_) (fun y ht ey hxy => ?_) (fun ht hno => ?_)
        · refine T_istore (pc2 := 47) dX8_song_45 (by decide) rfl ?_
          refine T_iload (pc2 := 49) dX8_song_47 rfl rfl ?_
          refine T_ifeq (pc2 := 52) (tgt := 55) dX8_song_49 (by decide) rfl (fun c49 => ?_) (fun c49 => ?_)
          · exact absurd c49 (by decide)
          · refine T_iload (pc2 := 54) dX8_song_52 rfl rfl ?_
            refine T_iret dX8_song_54 rfl rfl ?_
            exact fm_fd k hI (by rw [hs, rowF_0 h0])
        · subst ey
          have hsz := (hok.1 b hb ht).2
          have hI2 := hI.fd (f := 0)
          have hF0 : Fr 48 62 g1 (gset g1 48 1 (nI 0)) := Fr.rf.st (by omega) (by omega)
          generalize gset g1 48 1 (nI 0) = g2 at hI2 hF0 ⊢
          have hit : ∀ t, t < mm + 1 → g2 51 (40 * b + y + t) = s.A.2.2.2 b (y + t) := fun t ht2 => by
            rw [Nat.add_assoc]
            exact ((hI2.1 b hb).2 ht).2.2 (y + t) (by omega)
          refine T_istore (pc2 := 47) dX8_song_45 (by decide) rfl ?_
          refine T_iload (pc2 := 49) dX8_song_47 rfl rfl ?_
          first | refine B_ifeq1 (pc2 := 52) (tgt := 55) dX8_song_49 (by with_reducible rfl) (by decide) rfl ?_ | refine B_ifeq0 (tgt := 55) dX8_song_49 (by with_reducible rfl) (by decide) ?_ | refine N_ifeq (pc2 := 52) (tgt := 55) dX8_song_49 (by with_reducible rfl) (by decide) (by omega) rfl (fun c49 => ?_) (fun c49 => ?_) | refine T_ifeq (pc2 := 52) (tgt := 55) dX8_song_49 (by decide) rfl (fun c49 => ?_) (fun c49 => ?_)
          refine T_iconst (pc2 := 56) dX8_song_55 ic0 rfl ?_
          refine T_istore (pc2 := 58) dX8_song_56 (by decide) rfl ?_
          refine T_sub (lks (i := 0) rfl (lks (i := 1) rfl (lks (i := 2) rfl (lks (i := 3) rfl (lks (i := 4) rfl (lks (i := 6) rfl lk0)))))) ?_
          refine song_chk (d := d + 1) (it := fun t => s.A.2.2.2 b (y + t)) (x := x) S hb (by omega) (by omega) hit (fun hall => ?_) (fun hall => ?_) (mm + 1) 0 (by omega) rfl
          · refine T_iconst (pc2 := 99) dX8_song_98 ic0 rfl ?_
            refine T_istore (pc2 := 101) dX8_song_99 (by decide) rfl ?_
            refine T_iconst (pc2 := 102) dX8_song_101 ic0 rfl ?_
            refine T_istore (pc2 := 104) dX8_song_102 (by decide) rfl ?_
            refine T_iconst (pc2 := 105) dX8_song_104 ic0 rfl ?_
            refine T_istore (pc2 := 107) dX8_song_105 (by decide) rfl ?_
            refine T_sub (lks (i := 0) rfl (lks (i := 1) rfl (lks (i := 2) rfl (lks (i := 3) rfl (lks (i := 4) rfl (lks (i := 6) rfl (lks (i := 7) rfl (lks (i := 8) rfl lk0)))))))) ?_
            refine song_out (d := d + 1) (V := s.V) (it := fun t => s.A.2.2.2 b (y + t)) (x := x) S hI2.2.2.1 hokV hb (by omega) (by omega) hit ?_ (mm + 1) 0 (by omega)
            refine T_iload_n (pc2 := 236) dX8_song_235 rfl rfl ?_
            first | refine B_ifne1 (tgt := 244) dX8_song_236 (by with_reducible rfl) (by decide) ?_ | refine B_ifne0 (pc2 := 239) (tgt := 244) dX8_song_236 (by with_reducible rfl) (by decide) rfl ?_ | refine N_ifne (pc2 := 239) (tgt := 244) dX8_song_236 (by with_reducible rfl) (by decide) (by omega) rfl (fun c236 => ?_) (fun c236 => ?_) | refine T_ifne (pc2 := 239) (tgt := 244) dX8_song_236 (by decide) rfl (fun c236 => ?_) (fun c236 => ?_)
            · refine T_iload (pc2 := 246) dX8_song_244 rfl rfl ?_
              refine T_iret dX8_song_246 rfl rfl ?_
              exact fm_new k hI2 hF0 (by rw [hs, hN_one ht rfl (by omega) hxy, if_pos hall, if_neg c236])
            · refine T_iload (pc2 := 241) dX8_song_239 rfl rfl ?_
              refine T_goto (tgt := 246) dX8_song_241 (by decide) ?_
              refine T_iret dX8_song_246 rfl rfl ?_
              exact fm_new k hI2 hF0 (by rw [hs, hN_one ht rfl (by omega) hxy, if_pos hall, if_pos c236])
          · refine fm_new k hI2.fd (hF0.tr (Fr.rf.st (by omega) (by omega))) ?_
            rw [hs, hN_one ht rfl (by omega) hxy, hall]
            rfl
        · refine T_istore (pc2 := 47) dX8_song_45 (by decide) rfl ?_
          refine T_iload (pc2 := 49) dX8_song_47 rfl rfl ?_
          refine T_ifeq (pc2 := 52) (tgt := 55) dX8_song_49 (by decide) rfl (fun c49 => ?_) (fun c49 => ?_)
          · exact absurd c49 (by decide)
          · refine T_iload (pc2 := 54) dX8_song_52 rfl rfl ?_
            refine T_iret dX8_song_54 rfl rfl ?_
            exact fm_fd k hI (by rw [hs, rowF_2 ht hno])
      · first | refine B_ifne1 (tgt := 37) dX8_song_31 (by with_reducible rfl) (by decide) ?_ | refine B_ifne0 (pc2 := 34) (tgt := 37) dX8_song_31 (by with_reducible rfl) (by decide) rfl ?_ | refine N_ifne (pc2 := 34) (tgt := 37) dX8_song_31 (by with_reducible rfl) (by decide) (by omega) rfl (fun c31 => ?_) (fun c31 => ?_) | refine T_ifne (pc2 := 34) (tgt := 37) dX8_song_31 (by decide) rfl (fun c31 => ?_) (fun c31 => ?_)
        refine T_ldc (pc2 := 36) dX8_song_34 kcX8_70 rfl ?_
        refine T_iret dX8_song_36 rfl rfl ?_
        refine fm_same k hI Ms.rf ?_
        rw [hs]
        rcases hno with q | q
        · rw [inN_none q]
          cases inN (nI x) 2 <;> rfl
        · rw [inP_none q]
          cases inN (nI x) 2 <;> cases inN r 8 <;> rfl
    · first | refine B_ifeq1 (pc2 := 25) (tgt := 34) dX8_song_22 (by with_reducible rfl) (by decide) rfl ?_ | refine B_ifeq0 (tgt := 34) dX8_song_22 (by with_reducible rfl) (by decide) ?_ | refine N_ifeq (pc2 := 25) (tgt := 34) dX8_song_22 (by with_reducible rfl) (by decide) (by omega) rfl (fun c22 => ?_) (fun c22 => ?_) | refine T_ifeq (pc2 := 25) (tgt := 34) dX8_song_22 (by decide) rfl (fun c22 => ?_) (fun c22 => ?_)
      refine T_ldc (pc2 := 36) dX8_song_34 kcX8_70 rfl ?_
      refine T_iret dX8_song_36 rfl rfl ?_
      refine fm_same k hI Ms.rf ?_
      rw [hs, inN_none (v := w) (k := 2) (fun q hq => hno q (by omega))]
  · first | refine B_ifne1 (tgt := 15) dX8_song_9 (by with_reducible rfl) (by decide) ?_ | refine B_ifne0 (pc2 := 12) (tgt := 15) dX8_song_9 (by with_reducible rfl) (by decide) rfl ?_ | refine N_ifne (pc2 := 12) (tgt := 15) dX8_song_9 (by with_reducible rfl) (by decide) (by omega) rfl (fun c9 => ?_) (fun c9 => ?_) | refine T_ifne (pc2 := 12) (tgt := 15) dX8_song_9 (by decide) rfl (fun c9 => ?_) (fun c9 => ?_)
    refine T_ldc (pc2 := 14) dX8_song_12 kcX8_199 rfl ?_
    refine T_iret dX8_song_14 rfl rfl ?_
    exact fm_same k hI Ms.rf (if_pos h0)
end MSong2

