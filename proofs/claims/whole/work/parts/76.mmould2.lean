/-! the model: mould, walked -/
section MMould
variable {sk : Nat → SK} {g : Nat → Nat → Int32} {n w : Nat} {V : Cel} {Q : Option Value → SH → Prop} {d kc ks : Nat} {bf im : Nat → Option Nat} {above below : Int64} {h : SH} {s : ST}
theorem md_in {j nt p pp x o aa bb : Nat} (S : Sh sk n bf im above below) (hV : hasM (g 52) V) (hok : okD V) (hpp : pp ≤ 10) (ho : o < 256)
    (k : T MX8_mould (d + 3) kc ks 164 [(0, .ref 48), (1, .int (nI j)), (2, .int (nI nt)), (3, .int (nI p)), (4, .int (nI pp)), (5, .int (nI x)), (6, .int (nI (bm (V.th 0) 8))), (7, .long (lN aa)), (9, .long (lN bb)), (11, .int (nI o)), (12, .long (lN (mW (V.th 0) pp V.J o)))] [] (HP sk g n) Q) :
    ∀ m t, t + m = V.J → T MX8_mould (d + 3) kc ks 105 [(0, .ref 48), (1, .int (nI j)), (2, .int (nI nt)), (3, .int (nI p)), (4, .int (nI pp)), (5, .int (nI x)), (6, .int (nI (bm (V.th 0) 8))), (7, .long (lN aa)), (9, .long (lN bb)), (11, .int (nI o)), (12, .long (lN (mW (V.th 0) pp t o))), (14, .int (nI t))] [] (HP sk g n) Q := by
  have hJ8 := hok.1
  have e0 := hV.1
  intro m
  induction m with
  | zero =>
    intro t ht
    have e : t = V.J := by omega
    subst e
    refine T_iload (pc2 := 107) dX8_mould_105 rfl rfl ?_
    refine T_aload_n (pc2 := 108) dX8_mould_107 rfl rfl ?_
    refine G_getR (pc2 := 111) dX8_mould_108 flX8_19 (sh48 S) rfl rfl ?_
    refine T_iconst (pc2 := 112) dX8_mould_111 ic0 rfl ?_
    refine G_iald (pc2 := 113) dX8_mould_112 (sh52 S) (by omega) (by first | decide | omega) (by first | with_reducible assumption | exact gs_eq _ _ _ _ | exact (gs_ne _ _ (by omega)).trans (by with_reducible assumption) | exact (gs_ne _ _ (by omega)).trans (gs_eq _ _ _ _) | exact (gs_ne _ _ (by omega)).trans ((gs_ne _ _ (by omega)).trans (by with_reducible assumption)) | exact (gs_ne _ _ (by omega)).trans ((gs_ne _ _ (by omega)).trans (gs_eq _ _ _ _)) | exact (gs_ne _ _ (by omega)).trans ((gs_ne _ _ (by omega)).trans ((gs_ne _ _ (by omega)).trans (by with_reducible assumption))) | rfl) rfl ?_
    first | refine N_icmpge (pc2 := 116) (tgt := 164) dX8_mould_113 (by decide) (by with_reducible rfl) (by with_reducible rfl) (by omega) (by omega) rfl (fun c113 => ?_) (fun c113 => ?_) | refine T_icmpge (pc2 := 116) (tgt := 164) dX8_mould_113 (by decide) rfl (fun c113 => ?_) (fun c113 => ?_)
    · refine T_sub (lks (i := 0) rfl (lks (i := 1) rfl (lks (i := 2) rfl (lks (i := 3) rfl (lks (i := 4) rfl (lks (i := 5) rfl (lks (i := 6) rfl (lks (i := 7) rfl (lks (i := 9) rfl (lks (i := 11) rfl (lks (i := 12) rfl lk0))))))))))) ?_
      exact k
    · omega
  | succ m ih =>
    intro t ht
    have hst : mW (V.th 0) pp (t + 1) o = mW (V.th 0) pp t o * mF (V.th 0) pp o t := rfl
    have ih2 := ih (t + 1) (by omega)
    rw [hst] at ih2
    have fin : T MX8_mould (d + 3) kc ks 155 [(0, .ref 48), (1, .int (nI j)), (2, .int (nI nt)), (3, .int (nI p)), (4, .int (nI pp)), (5, .int (nI x)), (6, .int (nI (bm (V.th 0) 8))), (7, .long (lN aa)), (9, .long (lN bb)), (11, .int (nI o)), (12, .long (lN (mW (V.th 0) pp t o))), (14, .int (nI t))] [.long (lN (mF (V.th 0) pp o t)), .long (lN (mW (V.th 0) pp t o))] (HP sk g n) Q := by
      refine T_lmul (pc2 := 156) dX8_mould_155 rfl ?_
      rw [lN_mul]
      refine T_lstore (pc2 := 158) dX8_mould_156 (by decide) rfl ?_
      first | refine N_iinc (pc2 := 161) dX8_mould_158 rfl (by with_reducible rfl) ic1 (by decide) rfl ?_ | refine T_iinc (pc2 := 161) dX8_mould_158 rfl rfl (by decide) rfl ?_
      refine T_goto (tgt := 105) dX8_mould_161 (by decide) ?_
      refine T_sub (lks (i := 0) rfl (lks (i := 1) rfl (lks (i := 2) rfl (lks (i := 3) rfl (lks (i := 4) rfl (lks (i := 5) rfl (lks (i := 6) rfl (lks (i := 7) rfl (lks (i := 9) rfl (lks (i := 11) rfl (lks (i := 12) rfl (lks (i := 14) rfl lk0)))))))))))) ?_
      exact ih2
    unfold mF at fin
    refine T_iload (pc2 := 107) dX8_mould_105 rfl rfl ?_
    refine T_aload_n (pc2 := 108) dX8_mould_107 rfl rfl ?_
    refine G_getR (pc2 := 111) dX8_mould_108 flX8_19 (sh48 S) rfl rfl ?_
    refine T_iconst (pc2 := 112) dX8_mould_111 ic0 rfl ?_
    refine G_iald (pc2 := 113) dX8_mould_112 (sh52 S) (by omega) (by first | decide | omega) (by first | with_reducible assumption | exact gs_eq _ _ _ _ | exact (gs_ne _ _ (by omega)).trans (by with_reducible assumption) | exact (gs_ne _ _ (by omega)).trans (gs_eq _ _ _ _) | exact (gs_ne _ _ (by omega)).trans ((gs_ne _ _ (by omega)).trans (by with_reducible assumption)) | exact (gs_ne _ _ (by omega)).trans ((gs_ne _ _ (by omega)).trans (gs_eq _ _ _ _)) | exact (gs_ne _ _ (by omega)).trans ((gs_ne _ _ (by omega)).trans ((gs_ne _ _ (by omega)).trans (by with_reducible assumption))) | rfl) rfl ?_
    first | refine N_icmpge (pc2 := 116) (tgt := 164) dX8_mould_113 (by decide) (by with_reducible rfl) (by with_reducible rfl) (by omega) (by omega) rfl (fun c113 => ?_) (fun c113 => ?_) | refine T_icmpge (pc2 := 116) (tgt := 164) dX8_mould_113 (by decide) rfl (fun c113 => ?_) (fun c113 => ?_)
    · omega
    · refine T_lload (pc2 := 118) dX8_mould_116 rfl rfl ?_
      refine T_iload (pc2 := 120) dX8_mould_118 rfl rfl ?_
      refine T_iload (pc2 := 122) dX8_mould_120 rfl rfl ?_
      refine C_S2 (pc2 := 125) (mc := 0) (ms := 0) dX8_mould_122 csX8_has mlX8_167 (Nat.le_of_ble_eq_true rfl) rfl ?_
      refine m_has (by omega) (fun hw1 => ?_) (fun hw1 => ?_)
      · rw [hw1, if_pos rfl] at fin
        first | refine B_ifne1 (tgt := 132) dX8_mould_125 (by with_reducible rfl) (by decide) ?_ | refine B_ifne0 (pc2 := 128) (tgt := 132) dX8_mould_125 (by with_reducible rfl) (by decide) rfl ?_ | refine N_ifne (pc2 := 128) (tgt := 132) dX8_mould_125 (by with_reducible rfl) (by decide) (by omega) rfl (fun c125 => ?_) (fun c125 => ?_) | refine T_ifne (pc2 := 128) (tgt := 132) dX8_mould_125 (by decide) rfl (fun c125 => ?_) (fun c125 => ?_)
        refine T_iload (pc2 := 134) dX8_mould_132 rfl rfl ?_
        refine T_iload (pc2 := 136) dX8_mould_134 rfl rfl ?_
        refine C_S2 (pc2 := 139) (mc := 0) (ms := 0) dX8_mould_136 csX8_has mlX8_167 (Nat.le_of_ble_eq_true rfl) rfl ?_
        refine m_hasN ho (by omega) (fun hb => ?_) (fun hb => ?_)
        · rw [hb, if_pos rfl] at fin
          first | refine B_ifeq1 (pc2 := 142) (tgt := 148) dX8_mould_139 (by with_reducible rfl) (by decide) rfl ?_ | refine B_ifeq0 (tgt := 148) dX8_mould_139 (by with_reducible rfl) (by decide) ?_ | refine N_ifeq (pc2 := 142) (tgt := 148) dX8_mould_139 (by with_reducible rfl) (by decide) (by omega) rfl (fun c139 => ?_) (fun c139 => ?_) | refine T_ifeq (pc2 := 142) (tgt := 148) dX8_mould_139 (by decide) rfl (fun c139 => ?_) (fun c139 => ?_)
          refine T_iload (pc2 := 144) dX8_mould_142 rfl rfl ?_
          refine T_i2l (pc2 := 145) dX8_mould_144 rfl ?_
          rw [nI_l (by omega)]
          refine T_goto (tgt := 155) dX8_mould_145 (by decide) ?_
          exact fin
        · rw [hb, if_neg (by decide)] at fin
          first | refine B_ifeq1 (pc2 := 142) (tgt := 148) dX8_mould_139 (by with_reducible rfl) (by decide) rfl ?_ | refine B_ifeq0 (tgt := 148) dX8_mould_139 (by with_reducible rfl) (by decide) ?_ | refine N_ifeq (pc2 := 142) (tgt := 148) dX8_mould_139 (by with_reducible rfl) (by decide) (by omega) rfl (fun c139 => ?_) (fun c139 => ?_) | refine T_ifeq (pc2 := 142) (tgt := 148) dX8_mould_139 (by decide) rfl (fun c139 => ?_) (fun c139 => ?_)
          refine T_ldc2 (pc2 := 151) dX8_mould_148 kcX8_252 rfl ?_
          refine T_iload (pc2 := 153) dX8_mould_151 rfl rfl ?_
          refine T_i2l (pc2 := 154) dX8_mould_153 rfl ?_
          rw [nI_l (by omega)]
          refine T_lsub (pc2 := 155) dX8_mould_154 rfl ?_
          rw [show lN 10 - lN pp = lN (10 - pp) from lN_sub hpp]
          exact fin
      · rw [hw1, if_neg (by decide)] at fin
        first | refine B_ifne1 (tgt := 132) dX8_mould_125 (by with_reducible rfl) (by decide) ?_ | refine B_ifne0 (pc2 := 128) (tgt := 132) dX8_mould_125 (by with_reducible rfl) (by decide) rfl ?_ | refine N_ifne (pc2 := 128) (tgt := 132) dX8_mould_125 (by with_reducible rfl) (by decide) (by omega) rfl (fun c125 => ?_) (fun c125 => ?_) | refine T_ifne (pc2 := 128) (tgt := 132) dX8_mould_125 (by decide) rfl (fun c125 => ?_) (fun c125 => ?_)
        refine T_lconst (pc2 := 129) (v := lN 1) dX8_mould_128 rfl rfl ?_
        refine T_goto (tgt := 155) dX8_mould_129 (by decide) ?_
        exact fin
theorem md_out {j nt p pp x : Nat} (S : Sh sk n bf im above below) (hV : hasM (g 52) V) (hok : okD V) (hj : j < V.J) (hn : nt < 12) (hp : p < V.J) (hpp : pp ≤ 10)
    (k : ∀ g2, Fc g g2 → T MX8_mould (d + 3) kc ks 212 [(5, .int (nI x)), (7, .long (lN (V.mdA j nt p pp))), (9, .long (lN V.mdB))] [] (HP sk g2 n) Q) :
    ∀ m o g2, o + m = 2 ^ V.J → Fc g g2 → T MX8_mould (d + 3) kc ks 76 [(0, .ref 48), (1, .int (nI j)), (2, .int (nI nt)), (3, .int (nI p)), (4, .int (nI pp)), (5, .int (nI x)), (6, .int (nI (bm (V.th 0) 8))), (7, .long (lN (sumN (mA V (V.th 0) j nt p pp) o))), (9, .long (lN (sumN (mB (V.th 0) pp V.J) o))), (11, .int (nI o))] [] (HP sk g2 n) Q := by
  have hJ8 := hok.1
  have h256 : 2 ^ V.J ≤ 256 := show 2 ^ V.J ≤ 2 ^ 8 from Nat.pow_le_pow_right (by decide) hJ8
  intro m
  induction m with
  | zero =>
    intro o g2 ho hf
    have e : o = 2 ^ V.J := by omega
    subst e
    have e0 : g2 52 0 = nI V.J := by rw [hf.1 52 (by decide) (by decide) (by decide)]; exact hV.1
    refine T_iload (pc2 := 78) dX8_mould_76 rfl rfl ?_
    refine T_iconst (pc2 := 79) dX8_mould_78 ic1 rfl ?_
    refine T_aload_n (pc2 := 80) dX8_mould_79 rfl rfl ?_
    refine G_getR (pc2 := 83) dX8_mould_80 flX8_19 (sh48 S) rfl rfl ?_
    refine T_iconst (pc2 := 84) dX8_mould_83 ic0 rfl ?_
    refine G_iald (pc2 := 85) dX8_mould_84 (sh52 S) (by omega) (by first | decide | omega) (by first | with_reducible assumption | exact gs_eq _ _ _ _ | exact (gs_ne _ _ (by omega)).trans (by with_reducible assumption) | exact (gs_ne _ _ (by omega)).trans (gs_eq _ _ _ _) | exact (gs_ne _ _ (by omega)).trans ((gs_ne _ _ (by omega)).trans (by with_reducible assumption)) | exact (gs_ne _ _ (by omega)).trans ((gs_ne _ _ (by omega)).trans (gs_eq _ _ _ _)) | exact (gs_ne _ _ (by omega)).trans ((gs_ne _ _ (by omega)).trans ((gs_ne _ _ (by omega)).trans (by with_reducible assumption))) | rfl) rfl ?_
    refine T_ishl (pc2 := 86) dX8_mould_85 rfl ?_
    rw [shl1 (by omega)]
    first | refine N_icmpge (pc2 := 89) (tgt := 212) dX8_mould_86 (by decide) (by with_reducible rfl) (by with_reducible rfl) (by omega) (by omega) rfl (fun c86 => ?_) (fun c86 => ?_) | refine T_icmpge (pc2 := 89) (tgt := 212) dX8_mould_86 (by decide) rfl (fun c86 => ?_) (fun c86 => ?_)
    · refine T_sub (lks (i := 5) rfl (lks (i := 7) rfl (lks (i := 9) rfl lk0))) ?_
      rw [mA_sum hJ8 hj, mB_sum hJ8 hpp]
      exact k g2 hf
    · exact absurd (by omega) c86
  | succ m ih =>
    intro o g2 ho hf
    have ho2 : o < 256 := by omega
    have hV2 : hasM (g2 52) V := by rw [hf.1 52 (by decide) (by decide) (by decide)]; exact hV
    have e0 := hV2.1
    have hs1 : sumN (mA V (V.th 0) j nt p pp) (o + 1) = sumN (mA V (V.th 0) j nt p pp) o + mA V (V.th 0) j nt p pp o := rfl
    have hs2 : sumN (mB (V.th 0) pp V.J) (o + 1) = sumN (mB (V.th 0) pp V.J) o + mB (V.th 0) pp V.J o := rfl
    have ih2 := fun g3 => ih (o + 1) g3 (by omega)
    rw [hs1, hs2] at ih2
    generalize sumN (mA V (V.th 0) j nt p pp) o = aa at ih2 ⊢
    generalize sumN (mB (V.th 0) pp V.J) o = bb at ih2 ⊢
    unfold mA mB at ih2
    refine T_iload (pc2 := 78) dX8_mould_76 rfl rfl ?_
    refine T_iconst (pc2 := 79) dX8_mould_78 ic1 rfl ?_
    refine T_aload_n (pc2 := 80) dX8_mould_79 rfl rfl ?_
    refine G_getR (pc2 := 83) dX8_mould_80 flX8_19 (sh48 S) rfl rfl ?_
    refine T_iconst (pc2 := 84) dX8_mould_83 ic0 rfl ?_
    refine G_iald (pc2 := 85) dX8_mould_84 (sh52 S) (by omega) (by first | decide | omega) (by first | with_reducible assumption | exact gs_eq _ _ _ _ | exact (gs_ne _ _ (by omega)).trans (by with_reducible assumption) | exact (gs_ne _ _ (by omega)).trans (gs_eq _ _ _ _) | exact (gs_ne _ _ (by omega)).trans ((gs_ne _ _ (by omega)).trans (by with_reducible assumption)) | exact (gs_ne _ _ (by omega)).trans ((gs_ne _ _ (by omega)).trans (gs_eq _ _ _ _)) | exact (gs_ne _ _ (by omega)).trans ((gs_ne _ _ (by omega)).trans ((gs_ne _ _ (by omega)).trans (by with_reducible assumption))) | rfl) rfl ?_
    refine T_ishl (pc2 := 86) dX8_mould_85 rfl ?_
    rw [shl1 (by omega)]
    first | refine N_icmpge (pc2 := 89) (tgt := 212) dX8_mould_86 (by decide) (by with_reducible rfl) (by with_reducible rfl) (by omega) (by omega) rfl (fun c86 => ?_) (fun c86 => ?_) | refine T_icmpge (pc2 := 89) (tgt := 212) dX8_mould_86 (by decide) rfl (fun c86 => ?_) (fun c86 => ?_)
    · exact absurd c86 (by omega)
    · refine T_iload (pc2 := 91) dX8_mould_89 rfl rfl ?_
      refine T_iload (pc2 := 93) dX8_mould_91 rfl rfl ?_
      refine T_iconst (pc2 := 94) dX8_mould_93 icm1 rfl ?_
      refine T_ixor (pc2 := 95) dX8_mould_94 rfl ?_
      refine T_iand (pc2 := 96) dX8_mould_95 rfl ?_
      have q1 : nI o &&& (nI (bm (V.th 0) 8) ^^^ (-1)) = nI (subW (V.th 0) o) := by
        have := bm_not (fun j => o.testBit j) (V.th 0) 8
        rw [bm_self (k := 8) (show o < 2 ^ 8 by omega)] at this
        exact this
      rw [q1]
      have hlt : subW (V.th 0) o < 2 ^ 31 := bm_le _ (by decide)
      first | refine B_ifne1 (tgt := 206) dX8_mould_96 (by with_reducible rfl) (by decide) ?_ | refine B_ifne0 (pc2 := 99) (tgt := 206) dX8_mould_96 (by with_reducible rfl) (by decide) rfl ?_ | refine N_ifne (pc2 := 99) (tgt := 206) dX8_mould_96 (by with_reducible rfl) (by decide) (by omega) rfl (fun c96 => ?_) (fun c96 => ?_) | refine T_ifne (pc2 := 99) (tgt := 206) dX8_mould_96 (by decide) rfl (fun c96 => ?_) (fun c96 => ?_)
      · rw [if_neg c96, if_neg c96, Nat.add_zero, Nat.add_zero] at ih2
        first | refine N_iinc (pc2 := 209) dX8_mould_206 rfl (by with_reducible rfl) ic1 (by decide) rfl ?_ | refine T_iinc (pc2 := 209) dX8_mould_206 rfl rfl (by decide) rfl ?_
        refine T_goto (tgt := 76) dX8_mould_209 (by decide) ?_
        refine T_sub (lks (i := 0) rfl (lks (i := 1) rfl (lks (i := 2) rfl (lks (i := 3) rfl (lks (i := 4) rfl (lks (i := 5) rfl (lks (i := 6) rfl (lks (i := 7) rfl (lks (i := 9) rfl (lks (i := 11) rfl lk0)))))))))) ?_
        exact ih2 g2 hf
      · rw [if_pos c96, if_pos c96] at ih2
        refine T_lconst (pc2 := 100) (v := lN 1) dX8_mould_99 rfl rfl ?_
        refine T_lstore (pc2 := 102) dX8_mould_100 (by decide) rfl ?_
        refine T_iconst (pc2 := 103) dX8_mould_102 ic0 rfl ?_
        refine T_istore (pc2 := 105) dX8_mould_103 (by decide) rfl ?_
        refine T_sub (lks (i := 0) rfl (lks (i := 1) rfl (lks (i := 2) rfl (lks (i := 3) rfl (lks (i := 4) rfl (lks (i := 5) rfl (lks (i := 6) rfl (lks (i := 7) rfl (lks (i := 9) rfl (lks (i := 11) rfl (lks (i := 12) rfl (lks (i := 14) rfl lk0)))))))))))) ?_
        refine md_in (V := V) (aa := aa) (bb := bb) (x := x) S hV2 hok hpp ho2 ?_ V.J 0 (by omega)
        refine T_lload (pc2 := 166) dX8_mould_164 rfl rfl ?_
        refine T_lload (pc2 := 168) dX8_mould_166 rfl rfl ?_
        refine T_ladd (pc2 := 169) dX8_mould_168 rfl ?_
        rw [lN_add]
        refine T_lstore (pc2 := 171) dX8_mould_169 (by decide) rfl ?_
        refine T_lload (pc2 := 173) dX8_mould_171 rfl rfl ?_
        refine T_aload_n (pc2 := 174) dX8_mould_173 rfl rfl ?_
        refine T_aload_n (pc2 := 175) dX8_mould_174 rfl rfl ?_
        refine G_getR (pc2 := 178) dX8_mould_175 flX8_19 (sh48 S) rfl rfl ?_
        refine T_iload_n (pc2 := 179) dX8_mould_178 rfl rfl ?_
        refine T_iload_n (pc2 := 180) dX8_mould_179 rfl rfl ?_
        refine T_iload (pc2 := 182) dX8_mould_180 rfl rfl ?_
        refine T_iload (pc2 := 184) dX8_mould_182 rfl rfl ?_
        refine T_iconst (pc2 := 185) dX8_mould_184 icm1 rfl ?_
        refine T_ixor (pc2 := 186) dX8_mould_185 rfl ?_
        refine T_iand (pc2 := 187) dX8_mould_186 rfl ?_
        have q2 : nI (bm (V.th 0) 8) &&& (nI o ^^^ (-1)) = nI (bm (fun j => V.th 0 j && !o.testBit j) 8) := by
          have := bm_not (V.th 0) (fun j => o.testBit j) 8
          rw [bm_self (k := 8) (show o < 2 ^ 8 by omega)] at this
          exact this
        rw [q2]
        refine C_V4 (pc2 := 190) (mc := 0) (ms := 0) dX8_mould_187 cvX8_chainOf mlX8_179 (isO.h (sh48 S) _) (Nat.le_of_ble_eq_true rfl) rfl ?_
        refine m_chain S (sh52 S) (by decide) hV2 hok hn hp (fun g3 _ hf3 => ?_)
        refine T_iload_n (pc2 := 191) dX8_mould_190 rfl rfl ?_
        refine C_S2 (pc2 := 194) (mc := 0) (ms := 0) dX8_mould_191 csX8_has mlX8_167 (Nat.le_of_ble_eq_true rfl) rfl ?_
        refine m_has (by omega) (fun hb => ?_) (fun hb => ?_)
        · rw [if_pos hb] at ih2
          first | refine B_ifeq1 (pc2 := 197) (tgt := 202) dX8_mould_194 (by with_reducible rfl) (by decide) rfl ?_ | refine B_ifeq0 (tgt := 202) dX8_mould_194 (by with_reducible rfl) (by decide) ?_ | refine N_ifeq (pc2 := 197) (tgt := 202) dX8_mould_194 (by with_reducible rfl) (by decide) (by omega) rfl (fun c194 => ?_) (fun c194 => ?_) | refine T_ifeq (pc2 := 197) (tgt := 202) dX8_mould_194 (by decide) rfl (fun c194 => ?_) (fun c194 => ?_)
          refine T_lload (pc2 := 199) dX8_mould_197 rfl rfl ?_
          refine T_goto (tgt := 203) dX8_mould_199 (by decide) ?_
          refine T_ladd (pc2 := 204) dX8_mould_203 rfl ?_
          rw [lN_add]
          refine T_lstore (pc2 := 206) dX8_mould_204 (by decide) rfl ?_
          first | refine N_iinc (pc2 := 209) dX8_mould_206 rfl (by with_reducible rfl) ic1 (by decide) rfl ?_ | refine T_iinc (pc2 := 209) dX8_mould_206 rfl rfl (by decide) rfl ?_
          refine T_goto (tgt := 76) dX8_mould_209 (by decide) ?_
          refine T_sub (lks (i := 0) rfl (lks (i := 1) rfl (lks (i := 2) rfl (lks (i := 3) rfl (lks (i := 4) rfl (lks (i := 5) rfl (lks (i := 6) rfl (lks (i := 7) rfl (lks (i := 9) rfl (lks (i := 11) rfl lk0)))))))))) ?_
          exact ih2 g3 (hf.tr hf3)
        · rw [hb, if_neg (by decide)] at ih2
          first | refine B_ifeq1 (pc2 := 197) (tgt := 202) dX8_mould_194 (by with_reducible rfl) (by decide) rfl ?_ | refine B_ifeq0 (tgt := 202) dX8_mould_194 (by with_reducible rfl) (by decide) ?_ | refine N_ifeq (pc2 := 197) (tgt := 202) dX8_mould_194 (by with_reducible rfl) (by decide) (by omega) rfl (fun c194 => ?_) (fun c194 => ?_) | refine T_ifeq (pc2 := 197) (tgt := 202) dX8_mould_194 (by decide) rfl (fun c194 => ?_) (fun c194 => ?_)
          refine T_lconst (pc2 := 203) (v := lN 0) dX8_mould_202 rfl rfl ?_
          refine T_ladd (pc2 := 204) dX8_mould_203 rfl ?_
          rw [lN_add]
          refine T_lstore (pc2 := 206) dX8_mould_204 (by decide) rfl ?_
          first | refine N_iinc (pc2 := 209) dX8_mould_206 rfl (by with_reducible rfl) ic1 (by decide) rfl ?_ | refine T_iinc (pc2 := 209) dX8_mould_206 rfl rfl (by decide) rfl ?_
          refine T_goto (tgt := 76) dX8_mould_209 (by decide) ?_
          refine T_sub (lks (i := 0) rfl (lks (i := 1) rfl (lks (i := 2) rfl (lks (i := 3) rfl (lks (i := 4) rfl (lks (i := 5) rfl (lks (i := 6) rfl (lks (i := 7) rfl (lks (i := 9) rfl (lks (i := 11) rfl lk0)))))))))) ?_
          exact ih2 g3 (hf.tr hf3)
theorem md_gcd {x aa bb : Nat} (k : ∀ r, r = Nat.gcd aa bb → T MX8_mould (d + 3) kc ks 245 [(5, .int (nI x)), (7, .long (lN aa)), (9, .long (lN bb)), (11, .long (lN r))] [] h Q) :
    ∀ f u v, v ≤ f → u < 2 ^ 63 → v < 2 ^ 63 → Nat.gcd u v = Nat.gcd aa bb → T MX8_mould (d + 3) kc ks 220 [(5, .int (nI x)), (7, .long (lN aa)), (9, .long (lN bb)), (11, .long (lN u)), (13, .long (lN v))] [] h Q := by
  intro f
  induction f with
  | zero =>
    intro u v hv hu hv2 hg
    have e : v = 0 := Nat.le_zero.mp hv
    subst e
    refine T_lload (pc2 := 222) dX8_mould_220 rfl rfl ?_
    refine T_lconst (pc2 := 223) (v := lN 0) dX8_mould_222 rfl rfl ?_
    refine T_lcmp (pc2 := 224) dX8_mould_223 rfl ?_
    rw [lgc (by omega) (by decide), if_neg (by omega), if_pos rfl]
    refine T_ifeq (pc2 := 227) (tgt := 245) dX8_mould_224 (by decide) rfl (fun c224 => ?_) (fun c224 => ?_)
    · refine T_sub (lks (i := 5) rfl (lks (i := 7) rfl (lks (i := 9) rfl (lks (i := 11) rfl lk0)))) ?_
      exact k u (by rw [← hg, Nat.gcd_zero_right])
    · exact absurd rfl c224
  | succ f ih =>
    intro u v hv hu hv2 hg
    refine T_lload (pc2 := 222) dX8_mould_220 rfl rfl ?_
    refine T_lconst (pc2 := 223) (v := lN 0) dX8_mould_222 rfl rfl ?_
    refine T_lcmp (pc2 := 224) dX8_mould_223 rfl ?_
    rw [lgc hv2 (by decide)]
    by_cases h0 : v = 0
    · subst h0
      rw [if_neg (by omega), if_pos rfl]
      refine T_ifeq (pc2 := 227) (tgt := 245) dX8_mould_224 (by decide) rfl (fun c224 => ?_) (fun c224 => ?_)
      · refine T_sub (lks (i := 5) rfl (lks (i := 7) rfl (lks (i := 9) rfl (lks (i := 11) rfl lk0)))) ?_
        exact k u (by rw [← hg, Nat.gcd_zero_right])
      · exact absurd rfl c224
    · rw [if_pos (by omega)]
      refine T_ifeq (pc2 := 227) (tgt := 245) dX8_mould_224 (by decide) rfl (fun c224 => ?_) (fun c224 => ?_)
      · exact absurd c224 (by decide)
      · have hne : ¬ lN v = 0 := lN_ne0 (by omega) hv2
        have hml : u % v < v := Nat.mod_lt _ (by omega)
        refine T_lload (pc2 := 229) dX8_mould_227 rfl rfl ?_
        refine T_lload (pc2 := 231) dX8_mould_229 rfl rfl ?_
        refine T_lrem (pc2 := 232) dX8_mould_231 (by first | assumption | decide) rfl ?_
        rw [pk_lRem hu (by omega) hv2]
        refine T_lstore (pc2 := 234) dX8_mould_232 (by decide) rfl ?_
        refine T_lload (pc2 := 236) dX8_mould_234 rfl rfl ?_
        refine T_lstore (pc2 := 238) dX8_mould_236 (by decide) rfl ?_
        refine T_lload (pc2 := 240) dX8_mould_238 rfl rfl ?_
        refine T_lstore (pc2 := 242) dX8_mould_240 (by decide) rfl ?_
        refine T_goto (tgt := 220) dX8_mould_242 (by decide) ?_
        refine T_sub (lks (i := 5) rfl (lks (i := 7) rfl (lks (i := 9) rfl (lks (i := 11) rfl (lks (i := 13) rfl lk0))))) ?_
        refine ih v (u % v) (by omega) hv2 (by omega) ?_
        rw [← hg, Nat.gcd_comm u v, Nat.gcd_rec v u, Nat.gcd_comm]
theorem mm_mould {j nt p c w : Int32} (S : Sh sk n bf im above below) (hI : InvM g s) (hok : Ok s) (k : ∀ g2, InvM g2 (sMould s j nt p c w).2 → Fr 48 62 g g2 → Q (some (.long (sMould s j nt p c w).1)) (HP sk g2 n)) : Calls MX8_mould (d + 3) 0 0 [.ref 48, .int j, .int nt, .int p, .int c, .int w] (HP sk g n) Q := by
  have hokV := hok.2.2.1.1
  have hJ8 := hokV.1
  refine Calls.of (by decide +kernel) (Nat.le_of_ble_eq_true rfl) ?_
  refine T_aload_n (pc2 := 1) dX8_mould_0 rfl rfl ?_
  refine T_iconst (pc2 := 2) dX8_mould_1 ic0 rfl ?_
  refine G_putI (pc2 := 5) dX8_mould_2 flX8_50 (sh48 S) rfl rfl rfl rfl ?_
  have hI := hI.ms (Ms.rf.st (i := 48) (k := 0) (v := nI 0) (by omega))
  have k : ∀ g2, InvM g2 (sMould s j nt p c w).2 → Fr 48 62 (gset g 48 0 (nI 0)) g2 → Q (some (.long (sMould s j nt p c w).1)) (HP sk g2 n) := fun g2 h f => k g2 h ((Fr.rf.st (by omega) (by omega)).tr f)
  generalize gset g 48 0 (nI 0) = g1 at hI k ⊢
  have hV := hI.2.2.1
  have hbad : sMould s j nt p c w = (-1000001, s) → T MX8_mould (d + 3) 0 0 53 [] [] (HP sk g1 n) Q := fun e => by
    have := k g1 (by rw [e]; exact hI) Fr.rf
    rw [e] at this
    refine T_ldc2 (pc2 := 56) dX8_mould_53 kcX8_254 rfl ?_
    refine T_lret dX8_mould_56 rfl ?_
    exact this
  refine T_aload_n (pc2 := 6) dX8_mould_5 rfl rfl ?_
  refine T_iload_n (pc2 := 7) dX8_mould_6 rfl rfl ?_
  refine C_V1 (pc2 := 10) (mc := 0) (ms := 0) dX8_mould_7 cvX8_isJar mlX8_213 (isO.h (sh48 S) _) (Nat.le_of_ble_eq_true rfl) rfl ?_
  refine m_isJar S hV.1 hJ8 (fun jj hj ej => ?_) (fun hno => ?_)
  · subst ej
    first | refine B_ifeq1 (pc2 := 13) (tgt := 53) dX8_mould_10 (by with_reducible rfl) (by decide) rfl ?_ | refine B_ifeq0 (tgt := 53) dX8_mould_10 (by with_reducible rfl) (by decide) ?_ | refine N_ifeq (pc2 := 13) (tgt := 53) dX8_mould_10 (by with_reducible rfl) (by decide) (by omega) rfl (fun c10 => ?_) (fun c10 => ?_) | refine T_ifeq (pc2 := 13) (tgt := 53) dX8_mould_10 (by decide) rfl (fun c10 => ?_) (fun c10 => ?_)
    refine T_iload_n (pc2 := 14) dX8_mould_13 rfl rfl ?_
    refine T_i2l (pc2 := 15) dX8_mould_14 rfl ?_
    refine C_S1 (pc2 := 18) (mc := 0) (ms := 0) dX8_mould_15 csX8_isNote mlX8_209 (Nat.le_of_ble_eq_true rfl) rfl ?_
    refine m_isNote rfl (fun a ha ea => ?_) (fun hno => ?_)
    · subst ea
      first | refine B_ifeq1 (pc2 := 21) (tgt := 53) dX8_mould_18 (by with_reducible rfl) (by decide) rfl ?_ | refine B_ifeq0 (tgt := 53) dX8_mould_18 (by with_reducible rfl) (by decide) ?_ | refine N_ifeq (pc2 := 21) (tgt := 53) dX8_mould_18 (by with_reducible rfl) (by decide) (by omega) rfl (fun c18 => ?_) (fun c18 => ?_) | refine T_ifeq (pc2 := 21) (tgt := 53) dX8_mould_18 (by decide) rfl (fun c18 => ?_) (fun c18 => ?_)
      refine T_aload_n (pc2 := 22) dX8_mould_21 rfl rfl ?_
      refine T_iload_n (pc2 := 23) dX8_mould_22 rfl rfl ?_
      refine C_V1 (pc2 := 26) (mc := 0) (ms := 0) dX8_mould_23 cvX8_isJar mlX8_213 (isO.h (sh48 S) _) (Nat.le_of_ble_eq_true rfl) rfl ?_
      refine m_isJar S hV.1 hJ8 (fun b hb eb => ?_) (fun hno => ?_)
      · subst eb
        first | refine B_ifeq1 (pc2 := 29) (tgt := 53) dX8_mould_26 (by with_reducible rfl) (by decide) rfl ?_ | refine B_ifeq0 (tgt := 53) dX8_mould_26 (by with_reducible rfl) (by decide) ?_ | refine N_ifeq (pc2 := 29) (tgt := 53) dX8_mould_26 (by with_reducible rfl) (by decide) (by omega) rfl (fun c26 => ?_) (fun c26 => ?_) | refine T_ifeq (pc2 := 29) (tgt := 53) dX8_mould_26 (by decide) rfl (fun c26 => ?_) (fun c26 => ?_)
        refine T_iload (pc2 := 31) dX8_mould_29 rfl rfl ?_
        refine T_i2l (pc2 := 32) dX8_mould_31 rfl ?_
        refine T_lconst (pc2 := 33) (v := lN 0) dX8_mould_32 rfl rfl ?_
        refine T_ldc2 (pc2 := 36) dX8_mould_33 kcX8_252 rfl ?_
        refine C_S3 (pc2 := 39) (mc := 0) (ms := 0) dX8_mould_36 csX8_in mlX8_60 (Nat.le_of_ble_eq_true rfl) rfl ?_
        refine m_inI (k := 10) rfl rfl (by decide) (by decide) (fun y hy ey => ?_) (fun hno => ?_)
        · subst ey
          first | refine B_ifeq1 (pc2 := 42) (tgt := 53) dX8_mould_39 (by with_reducible rfl) (by decide) rfl ?_ | refine B_ifeq0 (tgt := 53) dX8_mould_39 (by with_reducible rfl) (by decide) ?_ | refine N_ifeq (pc2 := 42) (tgt := 53) dX8_mould_39 (by with_reducible rfl) (by decide) (by omega) rfl (fun c39 => ?_) (fun c39 => ?_) | refine T_ifeq (pc2 := 42) (tgt := 53) dX8_mould_39 (by decide) rfl (fun c39 => ?_) (fun c39 => ?_)
          refine T_iload (pc2 := 44) dX8_mould_42 rfl rfl ?_
          refine T_i2l (pc2 := 45) dX8_mould_44 rfl ?_
          refine T_lconst (pc2 := 46) (v := lN 0) dX8_mould_45 rfl rfl ?_
          refine T_lconst (pc2 := 47) (v := lN 1) dX8_mould_46 rfl rfl ?_
          refine C_S3 (pc2 := 50) (mc := 0) (ms := 0) dX8_mould_47 csX8_in mlX8_60 (Nat.le_of_ble_eq_true rfl) rfl ?_
          refine m_inI (k := 1) rfl rfl (by decide) (by decide) (fun x hx ex => ?_) (fun hno => ?_)
          · subst ex
            have hs : sMould s (nI jj) (nI a) (nI b) (nI y) (nI x) = (if x = 0 then lN (s.V.mdA jj a b y / Nat.gcd (s.V.mdA jj a b y) s.V.mdB) else lN (s.V.mdB / Nat.gcd (s.V.mdA jj a b y) s.V.mdB), s) := by
              unfold sMould
              rw [inN_some hj (by omega), inN_some ha (by decide), inN_some hb (by omega), inN_some (show y < 11 by omega) (by decide), inN_some (show x < 2 by omega) (by decide)]
            first | refine B_ifne1 (tgt := 57) dX8_mould_50 (by with_reducible rfl) (by decide) ?_ | refine B_ifne0 (pc2 := 53) (tgt := 57) dX8_mould_50 (by with_reducible rfl) (by decide) rfl ?_ | refine N_ifne (pc2 := 53) (tgt := 57) dX8_mould_50 (by with_reducible rfl) (by decide) (by omega) rfl (fun c50 => ?_) (fun c50 => ?_) | refine T_ifne (pc2 := 53) (tgt := 57) dX8_mould_50 (by decide) rfl (fun c50 => ?_) (fun c50 => ?_)
            refine T_aload_n (pc2 := 58) dX8_mould_57 rfl rfl ?_
            refine G_getR (pc2 := 61) dX8_mould_58 flX8_19 (sh48 S) rfl rfl ?_
            refine T_iconst (pc2 := 62) dX8_mould_61 ic0 rfl ?_
            refine C_S2 (pc2 := 65) (mc := 0) (ms := 0) dX8_mould_62 csX8_those mlX8_175 (Nat.le_of_ble_eq_true rfl) rfl ?_
            refine m_those (sh52 S) hV hJ8 (by decide) (hw31 hokV) ?_
            refine T_istore (pc2 := 67) dX8_mould_65 (by decide) rfl ?_
            refine T_lconst (pc2 := 68) (v := lN 0) dX8_mould_67 rfl rfl ?_
            refine T_lstore (pc2 := 70) dX8_mould_68 (by decide) rfl ?_
            refine T_lconst (pc2 := 71) (v := lN 0) dX8_mould_70 rfl rfl ?_
            refine T_lstore (pc2 := 73) dX8_mould_71 (by decide) rfl ?_
            refine T_iconst (pc2 := 74) dX8_mould_73 ic0 rfl ?_
            refine T_istore (pc2 := 76) dX8_mould_74 (by decide) rfl ?_
            refine T_sub (lks (i := 0) rfl (lks (i := 1) rfl (lks (i := 2) rfl (lks (i := 3) rfl (lks (i := 4) rfl (lks (i := 5) rfl (lks (i := 6) rfl (lks (i := 7) rfl (lks (i := 9) rfl (lks (i := 11) rfl lk0)))))))))) ?_
            refine md_out (V := s.V) (x := x) (g := g1) S hV hokV.d hj ha hb (by omega) (fun g2 hf => ?_) (2 ^ s.V.J) 0 g1 (by omega) Fc.rf
            have hB := mdB_le s.V
            have hB0 : 0 < s.V.mdB := Nat.pow_pos (by decide)
            have hA : s.V.mdA jj a b y ≤ s.V.mdB := by
              rw [← mA_sum hJ8 hj, ← mB_sum hJ8 (show y ≤ 10 by omega)]
              exact sumN_le (mA_le s.V (s.V.th 0) jj a b y) _
            refine T_lload (pc2 := 214) dX8_mould_212 rfl rfl ?_
            refine T_lstore (pc2 := 216) dX8_mould_214 (by decide) rfl ?_
            refine T_lload (pc2 := 218) dX8_mould_216 rfl rfl ?_
            refine T_lstore (pc2 := 220) dX8_mould_218 (by decide) rfl ?_
            refine T_sub (lks (i := 5) rfl (lks (i := 7) rfl (lks (i := 9) rfl (lks (i := 11) rfl (lks (i := 13) rfl lk0))))) ?_
            refine md_gcd (fun r hr => ?_) s.V.mdB (s.V.mdA jj a b y) s.V.mdB (Nat.le_refl _) (by omega) (by omega) rfl
            have hg0 : 0 < r := by rw [hr]; exact Nat.gcd_pos_of_pos_right _ hB0
            have hgl : r ≤ s.V.mdB := by rw [hr]; exact Nat.gcd_le_right _ hB0
            have hne : ¬ lN r = 0 := lN_ne0 hg0 (by omega)
            rw [hs, ← hr] at k
            have hkk := k g2 (hI.ms hf.ms) hf.ms.fr
            refine T_iload (pc2 := 247) dX8_mould_245 rfl rfl ?_
            first | refine B_ifne1 (tgt := 255) dX8_mould_247 (by with_reducible rfl) (by decide) ?_ | refine B_ifne0 (pc2 := 250) (tgt := 255) dX8_mould_247 (by with_reducible rfl) (by decide) rfl ?_ | refine N_ifne (pc2 := 250) (tgt := 255) dX8_mould_247 (by with_reducible rfl) (by decide) (by omega) rfl (fun c247 => ?_) (fun c247 => ?_) | refine T_ifne (pc2 := 250) (tgt := 255) dX8_mould_247 (by decide) rfl (fun c247 => ?_) (fun c247 => ?_)
            · refine T_lload (pc2 := 257) dX8_mould_255 rfl rfl ?_
              refine T_lload (pc2 := 259) dX8_mould_257 rfl rfl ?_
              refine T_ldiv (pc2 := 260) dX8_mould_259 (by first | assumption | decide) rfl ?_
              rw [pk_lDiv (by omega) hg0 (by omega)]
              refine T_lret dX8_mould_260 rfl ?_
              rw [if_neg c247] at hkk
              exact hkk
            · refine T_lload (pc2 := 252) dX8_mould_250 rfl rfl ?_
              refine T_goto (tgt := 257) dX8_mould_252 (by decide) ?_
              refine T_lload (pc2 := 259) dX8_mould_257 rfl rfl ?_
              refine T_ldiv (pc2 := 260) dX8_mould_259 (by first | assumption | decide) rfl ?_
              rw [pk_lDiv (by omega) hg0 (by omega)]
              refine T_lret dX8_mould_260 rfl ?_
              rw [if_pos c247] at hkk
              exact hkk
          · first | refine B_ifne1 (tgt := 57) dX8_mould_50 (by with_reducible rfl) (by decide) ?_ | refine B_ifne0 (pc2 := 53) (tgt := 57) dX8_mould_50 (by with_reducible rfl) (by decide) rfl ?_ | refine N_ifne (pc2 := 53) (tgt := 57) dX8_mould_50 (by with_reducible rfl) (by decide) (by omega) rfl (fun c50 => ?_) (fun c50 => ?_) | refine T_ifne (pc2 := 53) (tgt := 57) dX8_mould_50 (by decide) rfl (fun c50 => ?_) (fun c50 => ?_)
            refine T_sub lk0 (hbad ?_)
            unfold sMould
            rw [inN_none (v := w) (k := 2) (fun q hq => hno q (by omega))]
            cases inN (nI jj) s.V.J <;> cases inN (nI a) 12 <;> cases inN (nI b) s.V.J <;> cases inN (nI y) 11 <;> rfl
        · first | refine B_ifeq1 (pc2 := 42) (tgt := 53) dX8_mould_39 (by with_reducible rfl) (by decide) rfl ?_ | refine B_ifeq0 (tgt := 53) dX8_mould_39 (by with_reducible rfl) (by decide) ?_ | refine N_ifeq (pc2 := 42) (tgt := 53) dX8_mould_39 (by with_reducible rfl) (by decide) (by omega) rfl (fun c39 => ?_) (fun c39 => ?_) | refine T_ifeq (pc2 := 42) (tgt := 53) dX8_mould_39 (by decide) rfl (fun c39 => ?_) (fun c39 => ?_)
          refine T_sub lk0 (hbad ?_)
          unfold sMould
          rw [inN_none (v := c) (k := 11) (fun q hq => hno q (by omega))]
          cases inN (nI jj) s.V.J <;> cases inN (nI a) 12 <;> cases inN (nI b) s.V.J <;> rfl
      · first | refine B_ifeq1 (pc2 := 29) (tgt := 53) dX8_mould_26 (by with_reducible rfl) (by decide) rfl ?_ | refine B_ifeq0 (tgt := 53) dX8_mould_26 (by with_reducible rfl) (by decide) ?_ | refine N_ifeq (pc2 := 29) (tgt := 53) dX8_mould_26 (by with_reducible rfl) (by decide) (by omega) rfl (fun c26 => ?_) (fun c26 => ?_) | refine T_ifeq (pc2 := 29) (tgt := 53) dX8_mould_26 (by decide) rfl (fun c26 => ?_) (fun c26 => ?_)
        refine T_sub lk0 (hbad ?_)
        unfold sMould
        rw [inN_none (v := p) hno]
        cases inN (nI jj) s.V.J <;> cases inN (nI a) 12 <;> rfl
    · first | refine B_ifeq1 (pc2 := 21) (tgt := 53) dX8_mould_18 (by with_reducible rfl) (by decide) rfl ?_ | refine B_ifeq0 (tgt := 53) dX8_mould_18 (by with_reducible rfl) (by decide) ?_ | refine N_ifeq (pc2 := 21) (tgt := 53) dX8_mould_18 (by with_reducible rfl) (by decide) (by omega) rfl (fun c18 => ?_) (fun c18 => ?_) | refine T_ifeq (pc2 := 21) (tgt := 53) dX8_mould_18 (by decide) rfl (fun c18 => ?_) (fun c18 => ?_)
      refine T_sub lk0 (hbad ?_)
      unfold sMould
      rw [inN_none (v := nt) hno]
      cases inN (nI jj) s.V.J <;> rfl
  · first | refine B_ifeq1 (pc2 := 13) (tgt := 53) dX8_mould_10 (by with_reducible rfl) (by decide) rfl ?_ | refine B_ifeq0 (tgt := 53) dX8_mould_10 (by with_reducible rfl) (by decide) ?_ | refine N_ifeq (pc2 := 13) (tgt := 53) dX8_mould_10 (by with_reducible rfl) (by decide) (by omega) rfl (fun c10 => ?_) (fun c10 => ?_) | refine T_ifeq (pc2 := 13) (tgt := 53) dX8_mould_10 (by decide) rfl (fun c10 => ?_) (fun c10 => ?_)
    refine T_sub lk0 (hbad ?_)
    unfold sMould
    rw [inN_none (v := j) hno]
end MMould

