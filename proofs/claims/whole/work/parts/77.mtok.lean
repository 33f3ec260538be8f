/-! the model: its tokens -/
def tkN (tp : Nat → Nat) (sz a : Nat) : Nat := if sz ≤ a then 1 else if 97 ≤ tp a ∧ tp a ≤ 122 then 2 else if dig (tp a) = true then (if rn tp sz a ≤ 2 then 3 else 0) else if tp a = 44 ∨ tp a = 59 then 4 else 0
def vlI (tp : Nat → Nat) (sz a : Nat) : Int32 := if sz ≤ a then -1000000 else if dig (tp a) = true then nI (vl tp sz a) else nI (tp a)
def enN (tp : Nat → Nat) (sz a : Nat) : Nat := if sz ≤ a then sz else if dig (tp a) = true then a + rn tp sz a else a + 1
def hasTp (g : Nat → Nat → Int32) (tp : Nat → Nat) (sz : Nat) : Prop := g 48 11 = nI sz ∧ ∀ i, i < sz → g 56 i = nI (tp i)
def PG (g : Nat → Nat → Int32) (tp : Nat → Nat) (sz a : Nat) : Prop := hasTp g tp sz ∧ a ≤ sz ∧ g 48 16 = nI 0 ∧ g 48 13 = nI a ∧ g 48 14 = nI (tkN tp sz a) ∧ g 48 15 = vlI tp sz a ∧ g 48 12 = nI (enN tp sz a)
def PF (g : Nat → Nat → Int32) (f a : Nat) : Prop := f ≠ 0 ∧ f < 100 ∧ g 48 16 = nI f ∧ g 48 17 = nI a
def Fp (g g2 : Nat → Nat → Int32) : Prop := (∀ i, i ≠ 48 → g2 i = g i) ∧ ∀ k, (k < 12 ∨ 17 < k) → g2 48 k = g 48 k
theorem Fp.rf {g : Nat → Nat → Int32} : Fp g g := ⟨fun _ _ => rfl, fun _ _ => rfl⟩
theorem Fp.tr {g g2 g3 : Nat → Nat → Int32} (h : Fp g g2) (h2 : Fp g2 g3) : Fp g g3 := ⟨fun i a => (h2.1 i a).trans (h.1 i a), fun k hk => (h2.2 k hk).trans (h.2 k hk)⟩
theorem Fp.st {g g2 : Nat → Nat → Int32} {k : Nat} {v : Int32} (h : Fp g g2) (h1 : 12 ≤ k) (h2 : k ≤ 17) : Fp g (gset g2 48 k v) := ⟨fun i a => by rw [gs_row a]; exact h.1 i a, fun q hq => by rw [gs_ne _ _ (by omega)]; exact h.2 q hq⟩
theorem hasTp.fp {g g2 : Nat → Nat → Int32} {tp : Nat → Nat} {sz : Nat} (h : hasTp g tp sz) (hf : Fp g g2) : hasTp g2 tp sz := ⟨by rw [hf.2 11 (by omega)]; exact h.1, fun i hi => by rw [hf.1 56 (by decide)]; exact h.2 i hi⟩
theorem hasTp.st {g : Nat → Nat → Int32} {tp : Nat → Nat} {sz k : Nat} {v : Int32} (h : hasTp g tp sz) (hk : k ≠ 11) : hasTp (gset g 48 k v) tp sz := ⟨by rw [gs_ne _ _ (by omega)]; exact h.1, fun i hi => by rw [gs_row (by decide)]; exact h.2 i hi⟩
theorem dig_iff {b : Nat} : dig b = true ↔ 48 ≤ b ∧ b ≤ 57 := by simp [dig]
section MTok
variable {sk : Nat → SK} {g : Nat → Nat → Int32} {n : Nat} {Q : Option Value → SH → Prop} {d kc ks : Nat} {bf im : Nat → Option Nat} {above below : Int64} {h : SH} {tp : Nat → Nat} {sz : Nat}
theorem m_inN {b lo hi : Nat} {x y z : Int64} (hb : b < 2 ^ 31) (hl : lo < 2 ^ 31) (hh : hi < 2 ^ 31) (hx : x = (nI b).toInt64) (hy : y = lN lo) (hz : z = lN hi) (kt : lo ≤ b → b ≤ hi → Q (some (.int (nI 1))) h) (kf : ¬ (lo ≤ b ∧ b ≤ hi) → Q (some (.int (nI 0))) h) : Calls MX8_in d 0 0 [.long x, .long y, .long z] h Q := by
  subst hx hy hz
  rw [nI_l hb]
  refine m_in (fun h1 h2 => kt ((pk_lLE (by omega) (by omega)).mp h1) ((pk_lLE (by omega) (by omega)).mp h2)) (fun hno => kf (fun z => hno ⟨(pk_lLE (by omega) (by omega)).mpr z.1, (pk_lLE (by omega) (by omega)).mpr z.2⟩))
/-- the digits after the first -/
theorem nt_dig {a : Nat} (S : Sh sk n bf im above below) (hok : okT tp sz) (ha : a < sz) (hda : dig (tp a) = true)
    (k : ∀ g2, hasTp g2 tp sz → g2 48 13 = nI a → g2 48 14 = nI (if rn tp sz a ≤ 2 then 3 else 0) → g2 48 15 = nI (vl tp sz a) → g2 48 12 = nI (a + rn tp sz a) → g2 48 16 = g 48 16 → Fp g g2 → Q none (HP sk g2 n)) :
    ∀ m c g2, c + m = sz → a < c → rn tp sz a = (c - a) + rn tp sz c → hasTp g2 tp sz → g2 48 13 = nI a → g2 48 12 = nI c → g2 48 15 = nI (if c - a = 1 then tp a - 48 else (tp a - 48) * 10 + (tp (a + 1) - 48)) → g2 48 16 = g 48 16 → Fp g g2 → T MX8_nextToken (d + 1) kc ks 165 [(0, .ref 48)] [] (HP sk g2 n) Q := by
  have h90 := hok.1
  have hba := dig_iff.mp hda
  -- the end of the digits
  have hend : ∀ c g2, c ≤ sz → a < c → rn tp sz c = 0 → rn tp sz a = (c - a) + rn tp sz c → hasTp g2 tp sz → g2 48 13 = nI a → g2 48 12 = nI c → g2 48 15 = nI (if c - a = 1 then tp a - 48 else (tp a - 48) * 10 + (tp (a + 1) - 48)) → g2 48 16 = g 48 16 → Fp g g2 → T MX8_nextToken (d + 1) kc ks 255 [(0, .ref 48)] [] (HP sk g2 n) Q := by
    intro c g2 hc hac h0 hrn hT e13 e12 e15 e16 hf
    have hr : rn tp sz a = c - a := by omega
    have fin : ∀ v, v = (if rn tp sz a ≤ 2 then 3 else 0) → Q none (HP sk (gset g2 48 14 (nI v)) n) := fun v hv => by
      refine k _ (hT.st (by decide)) (by rw [gs_ne _ _ (by omega)]; exact e13) (by rw [gs_eq, hv]) ?_ ?_ (by rw [gs_ne _ _ (by omega)]; exact e16) (hf.st (by omega) (by omega))
      · rw [gs_ne _ _ (by omega), e15]
        unfold vl
        rw [hr]
      · rw [gs_ne _ _ (by omega), e12, hr]
        congr 1
        omega
    refine T_aload_n (pc2 := 256) dX8_nextToken_255 rfl rfl ?_
    refine T_aload_n (pc2 := 257) dX8_nextToken_256 rfl rfl ?_
    refine G_getI (pc2 := 260) dX8_nextToken_257 flX8_90 (sh48 S) rfl (by first | with_reducible assumption | exact gs_eq _ _ _ _ | exact (gs_ne _ _ (by omega)).trans (by with_reducible assumption) | exact (gs_ne _ _ (by omega)).trans (gs_eq _ _ _ _) | exact (gs_ne _ _ (by omega)).trans ((gs_ne _ _ (by omega)).trans (by with_reducible assumption)) | exact (gs_ne _ _ (by omega)).trans ((gs_ne _ _ (by omega)).trans (gs_eq _ _ _ _)) | exact (gs_ne _ _ (by omega)).trans ((gs_ne _ _ (by omega)).trans ((gs_ne _ _ (by omega)).trans (by with_reducible assumption))) | rfl) rfl ?_
    refine T_aload_n (pc2 := 261) dX8_nextToken_260 rfl rfl ?_
    refine G_getI (pc2 := 264) dX8_nextToken_261 flX8_84 (sh48 S) rfl (by first | with_reducible assumption | exact gs_eq _ _ _ _ | exact (gs_ne _ _ (by omega)).trans (by with_reducible assumption) | exact (gs_ne _ _ (by omega)).trans (gs_eq _ _ _ _) | exact (gs_ne _ _ (by omega)).trans ((gs_ne _ _ (by omega)).trans (by with_reducible assumption)) | exact (gs_ne _ _ (by omega)).trans ((gs_ne _ _ (by omega)).trans (gs_eq _ _ _ _)) | exact (gs_ne _ _ (by omega)).trans ((gs_ne _ _ (by omega)).trans ((gs_ne _ _ (by omega)).trans (by with_reducible assumption))) | rfl) rfl ?_
    first | refine N_isub (pc2 := 265) dX8_nextToken_264 (by with_reducible rfl) (by with_reducible rfl) (by omega) rfl ?_ | refine T_isub (pc2 := 265) dX8_nextToken_264 rfl ?_
    refine T_iconst (pc2 := 266) dX8_nextToken_265 ic2 rfl ?_
    first | refine N_icmple (pc2 := 269) (tgt := 273) dX8_nextToken_266 (by decide) (by with_reducible rfl) (by with_reducible rfl) (by omega) (by omega) rfl (fun c266 => ?_) (fun c266 => ?_) | refine T_icmple (pc2 := 269) (tgt := 273) dX8_nextToken_266 (by decide) rfl (fun c266 => ?_) (fun c266 => ?_)
    · refine T_iconst (pc2 := 274) dX8_nextToken_273 ic3 rfl ?_
      refine G_putI (pc2 := 277) dX8_nextToken_274 flX8_105 (sh48 S) rfl rfl rfl rfl ?_
      refine T_ret dX8_nextToken_277 rfl ?_
      exact fin 3 (if_pos (by omega)).symm
    · refine T_iconst (pc2 := 270) dX8_nextToken_269 ic0 rfl ?_
      refine T_goto (tgt := 274) dX8_nextToken_270 (by decide) ?_
      refine G_putI (pc2 := 277) dX8_nextToken_274 flX8_105 (sh48 S) rfl rfl rfl rfl ?_
      refine T_ret dX8_nextToken_277 rfl ?_
      exact fin 0 (if_neg (by omega)).symm
  intro m
  induction m with
  | zero =>
    intro c g2 hc hac hrn hT e13 e12 e15 e16 hf
    have e11 := hT.1
    refine T_aload_n (pc2 := 166) dX8_nextToken_165 rfl rfl ?_
    refine G_getI (pc2 := 169) dX8_nextToken_166 flX8_90 (sh48 S) rfl (by first | with_reducible assumption | exact gs_eq _ _ _ _ | exact (gs_ne _ _ (by omega)).trans (by with_reducible assumption) | exact (gs_ne _ _ (by omega)).trans (gs_eq _ _ _ _) | exact (gs_ne _ _ (by omega)).trans ((gs_ne _ _ (by omega)).trans (by with_reducible assumption)) | exact (gs_ne _ _ (by omega)).trans ((gs_ne _ _ (by omega)).trans (gs_eq _ _ _ _)) | exact (gs_ne _ _ (by omega)).trans ((gs_ne _ _ (by omega)).trans ((gs_ne _ _ (by omega)).trans (by with_reducible assumption))) | rfl) rfl ?_
    refine T_aload_n (pc2 := 170) dX8_nextToken_169 rfl rfl ?_
    refine G_getI (pc2 := 173) dX8_nextToken_170 flX8_77 (sh48 S) rfl (by first | with_reducible assumption | exact gs_eq _ _ _ _ | exact (gs_ne _ _ (by omega)).trans (by with_reducible assumption) | exact (gs_ne _ _ (by omega)).trans (gs_eq _ _ _ _) | exact (gs_ne _ _ (by omega)).trans ((gs_ne _ _ (by omega)).trans (by with_reducible assumption)) | exact (gs_ne _ _ (by omega)).trans ((gs_ne _ _ (by omega)).trans (gs_eq _ _ _ _)) | exact (gs_ne _ _ (by omega)).trans ((gs_ne _ _ (by omega)).trans ((gs_ne _ _ (by omega)).trans (by with_reducible assumption))) | rfl) rfl ?_
    first | refine N_icmpge (pc2 := 176) (tgt := 255) dX8_nextToken_173 (by decide) (by with_reducible rfl) (by with_reducible rfl) (by omega) (by omega) rfl (fun c173 => ?_) (fun c173 => ?_) | refine T_icmpge (pc2 := 176) (tgt := 255) dX8_nextToken_173 (by decide) rfl (fun c173 => ?_) (fun c173 => ?_)
    · exact hend c g2 (by omega) hac (rn_0 (fun z => by omega)) hrn hT e13 e12 e15 e16 hf
    · omega
  | succ m ih =>
    intro c g2 hc hac hrn hT e13 e12 e15 e16 hf
    have e11 := hT.1
    have hcl : c < sz := by omega
    have ec := hT.2 c hcl
    have hbc := hok.2 c hcl
    refine T_aload_n (pc2 := 166) dX8_nextToken_165 rfl rfl ?_
    refine G_getI (pc2 := 169) dX8_nextToken_166 flX8_90 (sh48 S) rfl (by first | with_reducible assumption | exact gs_eq _ _ _ _ | exact (gs_ne _ _ (by omega)).trans (by with_reducible assumption) | exact (gs_ne _ _ (by omega)).trans (gs_eq _ _ _ _) | exact (gs_ne _ _ (by omega)).trans ((gs_ne _ _ (by omega)).trans (by with_reducible assumption)) | exact (gs_ne _ _ (by omega)).trans ((gs_ne _ _ (by omega)).trans (gs_eq _ _ _ _)) | exact (gs_ne _ _ (by omega)).trans ((gs_ne _ _ (by omega)).trans ((gs_ne _ _ (by omega)).trans (by with_reducible assumption))) | rfl) rfl ?_
    refine T_aload_n (pc2 := 170) dX8_nextToken_169 rfl rfl ?_
    refine G_getI (pc2 := 173) dX8_nextToken_170 flX8_77 (sh48 S) rfl (by first | with_reducible assumption | exact gs_eq _ _ _ _ | exact (gs_ne _ _ (by omega)).trans (by with_reducible assumption) | exact (gs_ne _ _ (by omega)).trans (gs_eq _ _ _ _) | exact (gs_ne _ _ (by omega)).trans ((gs_ne _ _ (by omega)).trans (by with_reducible assumption)) | exact (gs_ne _ _ (by omega)).trans ((gs_ne _ _ (by omega)).trans (gs_eq _ _ _ _)) | exact (gs_ne _ _ (by omega)).trans ((gs_ne _ _ (by omega)).trans ((gs_ne _ _ (by omega)).trans (by with_reducible assumption))) | rfl) rfl ?_
    first | refine N_icmpge (pc2 := 176) (tgt := 255) dX8_nextToken_173 (by decide) (by with_reducible rfl) (by with_reducible rfl) (by omega) (by omega) rfl (fun c173 => ?_) (fun c173 => ?_) | refine T_icmpge (pc2 := 176) (tgt := 255) dX8_nextToken_173 (by decide) rfl (fun c173 => ?_) (fun c173 => ?_)
    · omega
    · refine T_aload_n (pc2 := 177) dX8_nextToken_176 rfl rfl ?_
      refine G_getR (pc2 := 180) dX8_nextToken_177 flX8_31 (sh48 S) rfl rfl ?_
      refine T_aload_n (pc2 := 181) dX8_nextToken_180 rfl rfl ?_
      refine G_getI (pc2 := 184) dX8_nextToken_181 flX8_90 (sh48 S) rfl (by first | with_reducible assumption | exact gs_eq _ _ _ _ | exact (gs_ne _ _ (by omega)).trans (by with_reducible assumption) | exact (gs_ne _ _ (by omega)).trans (gs_eq _ _ _ _) | exact (gs_ne _ _ (by omega)).trans ((gs_ne _ _ (by omega)).trans (by with_reducible assumption)) | exact (gs_ne _ _ (by omega)).trans ((gs_ne _ _ (by omega)).trans (gs_eq _ _ _ _)) | exact (gs_ne _ _ (by omega)).trans ((gs_ne _ _ (by omega)).trans ((gs_ne _ _ (by omega)).trans (by with_reducible assumption))) | rfl) rfl ?_
      refine G_iald (pc2 := 185) dX8_nextToken_184 (sh56 S) (by omega) (by first | decide | omega) (by first | with_reducible assumption | exact gs_eq _ _ _ _ | exact (gs_ne _ _ (by omega)).trans (by with_reducible assumption) | exact (gs_ne _ _ (by omega)).trans (gs_eq _ _ _ _) | exact (gs_ne _ _ (by omega)).trans ((gs_ne _ _ (by omega)).trans (by with_reducible assumption)) | exact (gs_ne _ _ (by omega)).trans ((gs_ne _ _ (by omega)).trans (gs_eq _ _ _ _)) | exact (gs_ne _ _ (by omega)).trans ((gs_ne _ _ (by omega)).trans ((gs_ne _ _ (by omega)).trans (by with_reducible assumption))) | rfl) rfl ?_
      refine T_i2l (pc2 := 186) dX8_nextToken_185 rfl ?_
      refine T_ldc2 (pc2 := 189) dX8_nextToken_186 kcX8_101 rfl ?_
      refine T_ldc2 (pc2 := 192) dX8_nextToken_189 kcX8_103 rfl ?_
      refine C_S3 (pc2 := 195) (mc := 0) (ms := 0) dX8_nextToken_192 csX8_in mlX8_60 (Nat.le_of_ble_eq_true rfl) rfl ?_
      refine m_inN (lo := 48) (hi := 57) (by omega) (by decide) (by decide) rfl (by decide) (by decide) (fun h1 h2 => ?_) (fun hno => ?_)
      · have hdc : dig (tp c) = true := dig_iff.mpr ⟨h1, h2⟩
        have hrc := rn_s hcl hdc
        first | refine B_ifeq1 (pc2 := 198) (tgt := 255) dX8_nextToken_195 (by with_reducible rfl) (by decide) rfl ?_ | refine B_ifeq0 (tgt := 255) dX8_nextToken_195 (by with_reducible rfl) (by decide) ?_ | refine N_ifeq (pc2 := 198) (tgt := 255) dX8_nextToken_195 (by with_reducible rfl) (by decide) (by omega) rfl (fun c195 => ?_) (fun c195 => ?_) | refine T_ifeq (pc2 := 198) (tgt := 255) dX8_nextToken_195 (by decide) rfl (fun c195 => ?_) (fun c195 => ?_)
        refine T_aload_n (pc2 := 199) dX8_nextToken_198 rfl rfl ?_
        refine T_aload_n (pc2 := 200) dX8_nextToken_199 rfl rfl ?_
        refine G_getI (pc2 := 203) dX8_nextToken_200 flX8_90 (sh48 S) rfl (by first | with_reducible assumption | exact gs_eq _ _ _ _ | exact (gs_ne _ _ (by omega)).trans (by with_reducible assumption) | exact (gs_ne _ _ (by omega)).trans (gs_eq _ _ _ _) | exact (gs_ne _ _ (by omega)).trans ((gs_ne _ _ (by omega)).trans (by with_reducible assumption)) | exact (gs_ne _ _ (by omega)).trans ((gs_ne _ _ (by omega)).trans (gs_eq _ _ _ _)) | exact (gs_ne _ _ (by omega)).trans ((gs_ne _ _ (by omega)).trans ((gs_ne _ _ (by omega)).trans (by with_reducible assumption))) | rfl) rfl ?_
        refine T_aload_n (pc2 := 204) dX8_nextToken_203 rfl rfl ?_
        refine G_getI (pc2 := 207) dX8_nextToken_204 flX8_84 (sh48 S) rfl (by first | with_reducible assumption | exact gs_eq _ _ _ _ | exact (gs_ne _ _ (by omega)).trans (by with_reducible assumption) | exact (gs_ne _ _ (by omega)).trans (gs_eq _ _ _ _) | exact (gs_ne _ _ (by omega)).trans ((gs_ne _ _ (by omega)).trans (by with_reducible assumption)) | exact (gs_ne _ _ (by omega)).trans ((gs_ne _ _ (by omega)).trans (gs_eq _ _ _ _)) | exact (gs_ne _ _ (by omega)).trans ((gs_ne _ _ (by omega)).trans ((gs_ne _ _ (by omega)).trans (by with_reducible assumption))) | rfl) rfl ?_
        first | refine N_isub (pc2 := 208) dX8_nextToken_207 (by with_reducible rfl) (by with_reducible rfl) (by omega) rfl ?_ | refine T_isub (pc2 := 208) dX8_nextToken_207 rfl ?_
        refine T_iconst (pc2 := 209) dX8_nextToken_208 ic2 rfl ?_
        first | refine N_icmpge (pc2 := 212) (tgt := 235) dX8_nextToken_209 (by decide) (by with_reducible rfl) (by with_reducible rfl) (by omega) (by omega) rfl (fun c209 => ?_) (fun c209 => ?_) | refine T_icmpge (pc2 := 212) (tgt := 235) dX8_nextToken_209 (by decide) rfl (fun c209 => ?_) (fun c209 => ?_)
        · have e15b : (if c - a = 1 then tp a - 48 else (tp a - 48) * 10 + (tp (a + 1) - 48)) = (tp a - 48) * 10 + (tp (a + 1) - 48) := if_neg (by omega)
          rw [e15b] at e15
          refine T_aload_n (pc2 := 236) dX8_nextToken_235 rfl rfl ?_
          refine G_getI (pc2 := 239) dX8_nextToken_236 flX8_94 (sh48 S) rfl (by first | with_reducible assumption | exact gs_eq _ _ _ _ | exact (gs_ne _ _ (by omega)).trans (by with_reducible assumption) | exact (gs_ne _ _ (by omega)).trans (gs_eq _ _ _ _) | exact (gs_ne _ _ (by omega)).trans ((gs_ne _ _ (by omega)).trans (by with_reducible assumption)) | exact (gs_ne _ _ (by omega)).trans ((gs_ne _ _ (by omega)).trans (gs_eq _ _ _ _)) | exact (gs_ne _ _ (by omega)).trans ((gs_ne _ _ (by omega)).trans ((gs_ne _ _ (by omega)).trans (by with_reducible assumption))) | rfl) rfl ?_
          refine G_putI (pc2 := 242) dX8_nextToken_239 flX8_94 (sh48 S) rfl rfl rfl rfl ?_
          have e12b : gset g2 48 15 (nI ((tp a - 48) * 10 + (tp (a + 1) - 48))) 48 12 = nI c := by rw [gs_ne _ _ (by omega)]; exact e12
          refine T_aload_n (pc2 := 243) dX8_nextToken_242 rfl rfl ?_
          refine T_dup (pc2 := 244) dX8_nextToken_243 rfl rfl ?_
          refine G_getI (pc2 := 247) dX8_nextToken_244 flX8_90 (sh48 S) rfl (by first | with_reducible assumption | exact gs_eq _ _ _ _ | exact (gs_ne _ _ (by omega)).trans (by with_reducible assumption) | exact (gs_ne _ _ (by omega)).trans (gs_eq _ _ _ _) | exact (gs_ne _ _ (by omega)).trans ((gs_ne _ _ (by omega)).trans (by with_reducible assumption)) | exact (gs_ne _ _ (by omega)).trans ((gs_ne _ _ (by omega)).trans (gs_eq _ _ _ _)) | exact (gs_ne _ _ (by omega)).trans ((gs_ne _ _ (by omega)).trans ((gs_ne _ _ (by omega)).trans (by with_reducible assumption))) | rfl) rfl ?_
          refine T_iconst (pc2 := 248) dX8_nextToken_247 ic1 rfl ?_
          first | refine N_iadd (pc2 := 249) dX8_nextToken_248 (by with_reducible rfl) (by with_reducible rfl) rfl ?_ | refine T_iadd (pc2 := 249) dX8_nextToken_248 rfl ?_
          refine G_putI (pc2 := 252) dX8_nextToken_249 flX8_90 (sh48 S) rfl rfl rfl rfl ?_
          refine T_goto (tgt := 165) dX8_nextToken_252 (by decide) ?_
          refine ih (c + 1) _ (by omega) (by omega) (by omega) ((hT.st (by decide)).st (by decide)) (by rw [gs_ne _ _ (by omega), gs_ne _ _ (by omega)]; exact e13) (gs_eq _ _ _ _) ?_ (by rw [gs_ne _ _ (by omega), gs_ne _ _ (by omega)]; exact e16) ((hf.st (by omega) (by omega)).st (by omega) (by omega))
          rw [gs_ne _ _ (by omega), gs_eq, if_neg (by omega)]
        · have hc1 : c = a + 1 := by omega
          subst hc1
          rw [if_pos (by omega)] at e15
          refine T_bipush (pc2 := 214) dX8_nextToken_212 bp10 rfl ?_
          refine T_aload_n (pc2 := 215) dX8_nextToken_214 rfl rfl ?_
          refine G_getI (pc2 := 218) dX8_nextToken_215 flX8_94 (sh48 S) rfl (by first | with_reducible assumption | exact gs_eq _ _ _ _ | exact (gs_ne _ _ (by omega)).trans (by with_reducible assumption) | exact (gs_ne _ _ (by omega)).trans (gs_eq _ _ _ _) | exact (gs_ne _ _ (by omega)).trans ((gs_ne _ _ (by omega)).trans (by with_reducible assumption)) | exact (gs_ne _ _ (by omega)).trans ((gs_ne _ _ (by omega)).trans (gs_eq _ _ _ _)) | exact (gs_ne _ _ (by omega)).trans ((gs_ne _ _ (by omega)).trans ((gs_ne _ _ (by omega)).trans (by with_reducible assumption))) | rfl) rfl ?_
          first | refine N_imul (pc2 := 219) dX8_nextToken_218 (by with_reducible rfl) (by with_reducible rfl) rfl ?_ | refine T_imul (pc2 := 219) dX8_nextToken_218 rfl ?_
          refine T_aload_n (pc2 := 220) dX8_nextToken_219 rfl rfl ?_
          refine G_getR (pc2 := 223) dX8_nextToken_220 flX8_31 (sh48 S) rfl rfl ?_
          refine T_aload_n (pc2 := 224) dX8_nextToken_223 rfl rfl ?_
          refine G_getI (pc2 := 227) dX8_nextToken_224 flX8_90 (sh48 S) rfl (by first | with_reducible assumption | exact gs_eq _ _ _ _ | exact (gs_ne _ _ (by omega)).trans (by with_reducible assumption) | exact (gs_ne _ _ (by omega)).trans (gs_eq _ _ _ _) | exact (gs_ne _ _ (by omega)).trans ((gs_ne _ _ (by omega)).trans (by with_reducible assumption)) | exact (gs_ne _ _ (by omega)).trans ((gs_ne _ _ (by omega)).trans (gs_eq _ _ _ _)) | exact (gs_ne _ _ (by omega)).trans ((gs_ne _ _ (by omega)).trans ((gs_ne _ _ (by omega)).trans (by with_reducible assumption))) | rfl) rfl ?_
          refine G_iald (pc2 := 228) dX8_nextToken_227 (sh56 S) (by omega) (by first | decide | omega) (by first | with_reducible assumption | exact gs_eq _ _ _ _ | exact (gs_ne _ _ (by omega)).trans (by with_reducible assumption) | exact (gs_ne _ _ (by omega)).trans (gs_eq _ _ _ _) | exact (gs_ne _ _ (by omega)).trans ((gs_ne _ _ (by omega)).trans (by with_reducible assumption)) | exact (gs_ne _ _ (by omega)).trans ((gs_ne _ _ (by omega)).trans (gs_eq _ _ _ _)) | exact (gs_ne _ _ (by omega)).trans ((gs_ne _ _ (by omega)).trans ((gs_ne _ _ (by omega)).trans (by with_reducible assumption))) | rfl) rfl ?_
          first | refine N_iadd (pc2 := 229) dX8_nextToken_228 (by with_reducible rfl) (by with_reducible rfl) rfl ?_ | refine T_iadd (pc2 := 229) dX8_nextToken_228 rfl ?_
          refine T_bipush (pc2 := 231) dX8_nextToken_229 bp48 rfl ?_
          first | refine N_isub (pc2 := 232) dX8_nextToken_231 (by with_reducible rfl) (by with_reducible rfl) (by omega) rfl ?_ | refine T_isub (pc2 := 232) dX8_nextToken_231 rfl ?_
          refine T_goto (tgt := 239) dX8_nextToken_232 (by decide) ?_
          have e12b : gset g2 48 15 (nI (10 * (tp a - 48) + tp (a + 1) - 48)) 48 12 = nI (a + 1) := by rw [gs_ne _ _ (by omega)]; exact e12
          refine G_putI (pc2 := 242) dX8_nextToken_239 flX8_94 (sh48 S) rfl rfl rfl rfl ?_
          refine T_aload_n (pc2 := 243) dX8_nextToken_242 rfl rfl ?_
          refine T_dup (pc2 := 244) dX8_nextToken_243 rfl rfl ?_
          refine G_getI (pc2 := 247) dX8_nextToken_244 flX8_90 (sh48 S) rfl (by first | with_reducible assumption | exact gs_eq _ _ _ _ | exact (gs_ne _ _ (by omega)).trans (by with_reducible assumption) | exact (gs_ne _ _ (by omega)).trans (gs_eq _ _ _ _) | exact (gs_ne _ _ (by omega)).trans ((gs_ne _ _ (by omega)).trans (by with_reducible assumption)) | exact (gs_ne _ _ (by omega)).trans ((gs_ne _ _ (by omega)).trans (gs_eq _ _ _ _)) | exact (gs_ne _ _ (by omega)).trans ((gs_ne _ _ (by omega)).trans ((gs_ne _ _ (by omega)).trans (by with_reducible assumption))) | rfl) rfl ?_
          refine T_iconst (pc2 := 248) dX8_nextToken_247 ic1 rfl ?_
          first | refine N_iadd (pc2 := 249) dX8_nextToken_248 (by with_reducible rfl) (by with_reducible rfl) rfl ?_ | refine T_iadd (pc2 := 249) dX8_nextToken_248 rfl ?_
          refine G_putI (pc2 := 252) dX8_nextToken_249 flX8_90 (sh48 S) rfl rfl rfl rfl ?_
          refine T_goto (tgt := 165) dX8_nextToken_252 (by decide) ?_
          refine ih (a + 1 + 1) _ (by omega) (by omega) (by omega) ((hT.st (by decide)).st (by decide)) (by rw [gs_ne _ _ (by omega), gs_ne _ _ (by omega)]; exact e13) (gs_eq _ _ _ _) ?_ (by rw [gs_ne _ _ (by omega), gs_ne _ _ (by omega)]; exact e16) ((hf.st (by omega) (by omega)).st (by omega) (by omega))
          rw [gs_ne _ _ (by omega), gs_eq, if_neg (by omega)]
          congr 1
          omega
      · first | refine B_ifeq1 (pc2 := 198) (tgt := 255) dX8_nextToken_195 (by with_reducible rfl) (by decide) rfl ?_ | refine B_ifeq0 (tgt := 255) dX8_nextToken_195 (by with_reducible rfl) (by decide) ?_ | refine N_ifeq (pc2 := 198) (tgt := 255) dX8_nextToken_195 (by with_reducible rfl) (by decide) (by omega) rfl (fun c195 => ?_) (fun c195 => ?_) | refine T_ifeq (pc2 := 198) (tgt := 255) dX8_nextToken_195 (by decide) rfl (fun c195 => ?_) (fun c195 => ?_)
        exact hend c g2 (by omega) hac (rn_0 (fun z => hno (dig_iff.mp z.2))) hrn hT e13 e12 e15 e16 hf
theorem nt_tok {a t : Nat} (S : Sh sk n bf im above below) (hok : okT tp sz) (ha : a ≤ sz) (hT : hasTp g tp sz) (e12 : g 48 12 = nI a) (e13 : g 48 13 = nI a) (ht : (a = sz ∧ t = 1 ∧ g 48 15 = -1000000) ∨ (a < sz ∧ g 48 15 = nI (tp a) ∧ ((97 ≤ tp a ∧ tp a ≤ 122 ∧ t = 2) ∨ (dig (tp a) = true ∧ t = 3) ∨ (¬ (97 ≤ tp a ∧ tp a ≤ 122) ∧ dig (tp a) = false ∧ (tp a = 44 ∨ tp a = 59) ∧ t = 4) ∨ (¬ (97 ≤ tp a ∧ tp a ≤ 122) ∧ dig (tp a) = false ∧ ¬ (tp a = 44 ∨ tp a = 59) ∧ t = 0))))
    (k : ∀ g2, hasTp g2 tp sz → g2 48 13 = nI a → g2 48 14 = nI (tkN tp sz a) → g2 48 15 = vlI tp sz a → g2 48 12 = nI (enN tp sz a) → g2 48 16 = g 48 16 → Fp g g2 → Q none (HP sk g2 n)) :
    T MX8_nextToken (d + 1) kc ks 118 [(0, .ref 48)] [.int (nI t), .ref 48] (HP sk g n) Q := by
  have h90 := hok.1
  have e11 := hT.1
  have ht5 : t < 5 := by omega
  have e11b : gset g 48 14 (nI t) 48 11 = nI sz := by rw [gs_ne _ _ (by omega)]; exact e11
  have e12b : gset g 48 14 (nI t) 48 12 = nI a := by rw [gs_ne _ _ (by omega)]; exact e12
  rcases ht with ⟨h1, h2, h3⟩ | ⟨h1, h3, hcs⟩
  · -- the end
    subst h1
    subst h2
    refine G_putI (pc2 := 121) dX8_nextToken_118 flX8_105 (sh48 S) rfl rfl rfl rfl ?_
    refine T_aload_n (pc2 := 122) dX8_nextToken_121 rfl rfl ?_
    refine T_dup (pc2 := 123) dX8_nextToken_122 rfl rfl ?_
    refine G_getI (pc2 := 126) dX8_nextToken_123 flX8_90 (sh48 S) rfl (by first | with_reducible assumption | exact gs_eq _ _ _ _ | exact (gs_ne _ _ (by omega)).trans (by with_reducible assumption) | exact (gs_ne _ _ (by omega)).trans (gs_eq _ _ _ _) | exact (gs_ne _ _ (by omega)).trans ((gs_ne _ _ (by omega)).trans (by with_reducible assumption)) | exact (gs_ne _ _ (by omega)).trans ((gs_ne _ _ (by omega)).trans (gs_eq _ _ _ _)) | exact (gs_ne _ _ (by omega)).trans ((gs_ne _ _ (by omega)).trans ((gs_ne _ _ (by omega)).trans (by with_reducible assumption))) | rfl) rfl ?_
    refine T_aload_n (pc2 := 127) dX8_nextToken_126 rfl rfl ?_
    refine G_getI (pc2 := 130) dX8_nextToken_127 flX8_90 (sh48 S) rfl (by first | with_reducible assumption | exact gs_eq _ _ _ _ | exact (gs_ne _ _ (by omega)).trans (by with_reducible assumption) | exact (gs_ne _ _ (by omega)).trans (gs_eq _ _ _ _) | exact (gs_ne _ _ (by omega)).trans ((gs_ne _ _ (by omega)).trans (by with_reducible assumption)) | exact (gs_ne _ _ (by omega)).trans ((gs_ne _ _ (by omega)).trans (gs_eq _ _ _ _)) | exact (gs_ne _ _ (by omega)).trans ((gs_ne _ _ (by omega)).trans ((gs_ne _ _ (by omega)).trans (by with_reducible assumption))) | rfl) rfl ?_
    refine T_aload_n (pc2 := 131) dX8_nextToken_130 rfl rfl ?_
    refine G_getI (pc2 := 134) dX8_nextToken_131 flX8_77 (sh48 S) rfl (by first | with_reducible assumption | exact gs_eq _ _ _ _ | exact (gs_ne _ _ (by omega)).trans (by with_reducible assumption) | exact (gs_ne _ _ (by omega)).trans (gs_eq _ _ _ _) | exact (gs_ne _ _ (by omega)).trans ((gs_ne _ _ (by omega)).trans (by with_reducible assumption)) | exact (gs_ne _ _ (by omega)).trans ((gs_ne _ _ (by omega)).trans (gs_eq _ _ _ _)) | exact (gs_ne _ _ (by omega)).trans ((gs_ne _ _ (by omega)).trans ((gs_ne _ _ (by omega)).trans (by with_reducible assumption))) | rfl) rfl ?_
    first | refine N_icmpge (pc2 := 137) (tgt := 141) dX8_nextToken_134 (by decide) (by with_reducible rfl) (by with_reducible rfl) (by omega) (by omega) rfl (fun c134 => ?_) (fun c134 => ?_) | refine T_icmpge (pc2 := 137) (tgt := 141) dX8_nextToken_134 (by decide) rfl (fun c134 => ?_) (fun c134 => ?_)
    · have e14 : gset (gset g 48 14 (nI 1)) 48 12 (nI (a + 0)) 48 14 = nI 1 := by rw [gs_ne _ _ (by omega), gs_eq]
      refine T_iconst (pc2 := 142) dX8_nextToken_141 ic0 rfl ?_
      first | refine N_iadd (pc2 := 143) dX8_nextToken_142 (by with_reducible rfl) (by with_reducible rfl) rfl ?_ | refine T_iadd (pc2 := 143) dX8_nextToken_142 rfl ?_
      refine G_putI (pc2 := 146) dX8_nextToken_143 flX8_90 (sh48 S) rfl rfl rfl rfl ?_
      refine T_aload_n (pc2 := 147) dX8_nextToken_146 rfl rfl ?_
      refine G_getI (pc2 := 150) dX8_nextToken_147 flX8_105 (sh48 S) rfl (by first | with_reducible assumption | exact gs_eq _ _ _ _ | exact (gs_ne _ _ (by omega)).trans (by with_reducible assumption) | exact (gs_ne _ _ (by omega)).trans (gs_eq _ _ _ _) | exact (gs_ne _ _ (by omega)).trans ((gs_ne _ _ (by omega)).trans (by with_reducible assumption)) | exact (gs_ne _ _ (by omega)).trans ((gs_ne _ _ (by omega)).trans (gs_eq _ _ _ _)) | exact (gs_ne _ _ (by omega)).trans ((gs_ne _ _ (by omega)).trans ((gs_ne _ _ (by omega)).trans (by with_reducible assumption))) | rfl) rfl ?_
      refine T_iconst (pc2 := 151) dX8_nextToken_150 ic3 rfl ?_
      first | refine N_icmpne (pc2 := 154) (tgt := 277) dX8_nextToken_151 (by decide) (by with_reducible rfl) (by with_reducible rfl) (by omega) (by omega) rfl (fun c151 => ?_) (fun c151 => ?_) | refine T_icmpne (pc2 := 154) (tgt := 277) dX8_nextToken_151 (by decide) rfl (fun c151 => ?_) (fun c151 => ?_)
      · refine T_ret dX8_nextToken_277 rfl ?_
        refine k _ ((hT.st (by decide)).st (by decide)) (by rw [gs_ne _ _ (by omega), gs_ne _ _ (by omega)]; exact e13) ?_ ?_ ?_ (by rw [gs_ne _ _ (by omega), gs_ne _ _ (by omega)]) ((Fp.rf.st (by omega) (by omega)).st (by omega) (by omega))
        · rw [e14]
          unfold tkN
          rw [if_pos (Nat.le_refl _)]
        · rw [gs_ne _ _ (by omega), gs_ne _ _ (by omega), h3]
          unfold vlI
          rw [if_pos (Nat.le_refl _)]
        · rw [gs_eq]
          unfold enN
          rw [if_pos (Nat.le_refl _)]
          rfl
      · exact absurd c151 (by decide)
    · omega
  · refine G_putI (pc2 := 121) dX8_nextToken_118 flX8_105 (sh48 S) rfl rfl rfl rfl ?_
    refine T_aload_n (pc2 := 122) dX8_nextToken_121 rfl rfl ?_
    refine T_dup (pc2 := 123) dX8_nextToken_122 rfl rfl ?_
    refine G_getI (pc2 := 126) dX8_nextToken_123 flX8_90 (sh48 S) rfl (by first | with_reducible assumption | exact gs_eq _ _ _ _ | exact (gs_ne _ _ (by omega)).trans (by with_reducible assumption) | exact (gs_ne _ _ (by omega)).trans (gs_eq _ _ _ _) | exact (gs_ne _ _ (by omega)).trans ((gs_ne _ _ (by omega)).trans (by with_reducible assumption)) | exact (gs_ne _ _ (by omega)).trans ((gs_ne _ _ (by omega)).trans (gs_eq _ _ _ _)) | exact (gs_ne _ _ (by omega)).trans ((gs_ne _ _ (by omega)).trans ((gs_ne _ _ (by omega)).trans (by with_reducible assumption))) | rfl) rfl ?_
    refine T_aload_n (pc2 := 127) dX8_nextToken_126 rfl rfl ?_
    refine G_getI (pc2 := 130) dX8_nextToken_127 flX8_90 (sh48 S) rfl (by first | with_reducible assumption | exact gs_eq _ _ _ _ | exact (gs_ne _ _ (by omega)).trans (by with_reducible assumption) | exact (gs_ne _ _ (by omega)).trans (gs_eq _ _ _ _) | exact (gs_ne _ _ (by omega)).trans ((gs_ne _ _ (by omega)).trans (by with_reducible assumption)) | exact (gs_ne _ _ (by omega)).trans ((gs_ne _ _ (by omega)).trans (gs_eq _ _ _ _)) | exact (gs_ne _ _ (by omega)).trans ((gs_ne _ _ (by omega)).trans ((gs_ne _ _ (by omega)).trans (by with_reducible assumption))) | rfl) rfl ?_
    refine T_aload_n (pc2 := 131) dX8_nextToken_130 rfl rfl ?_
    refine G_getI (pc2 := 134) dX8_nextToken_131 flX8_77 (sh48 S) rfl (by first | with_reducible assumption | exact gs_eq _ _ _ _ | exact (gs_ne _ _ (by omega)).trans (by with_reducible assumption) | exact (gs_ne _ _ (by omega)).trans (gs_eq _ _ _ _) | exact (gs_ne _ _ (by omega)).trans ((gs_ne _ _ (by omega)).trans (by with_reducible assumption)) | exact (gs_ne _ _ (by omega)).trans ((gs_ne _ _ (by omega)).trans (gs_eq _ _ _ _)) | exact (gs_ne _ _ (by omega)).trans ((gs_ne _ _ (by omega)).trans ((gs_ne _ _ (by omega)).trans (by with_reducible assumption))) | rfl) rfl ?_
    first | refine N_icmpge (pc2 := 137) (tgt := 141) dX8_nextToken_134 (by decide) (by with_reducible rfl) (by with_reducible rfl) (by omega) (by omega) rfl (fun c134 => ?_) (fun c134 => ?_) | refine T_icmpge (pc2 := 137) (tgt := 141) dX8_nextToken_134 (by decide) rfl (fun c134 => ?_) (fun c134 => ?_)
    · omega
    · have e14 : gset (gset g 48 14 (nI t)) 48 12 (nI (a + 1)) 48 14 = nI t := by rw [gs_ne _ _ (by omega), gs_eq]
      have e15 : gset (gset g 48 14 (nI t)) 48 12 (nI (a + 1)) 48 15 = nI (tp a) := by rw [gs_ne _ _ (by omega), gs_ne _ _ (by omega)]; exact h3
      by_cases hd : dig (tp a) = true
      · have hda := dig_iff.mp hd
        have ht3 : t = 3 := by
          rcases hcs with q | q | q | q
          · omega
          · exact q.2
          · rw [hd] at q; exact absurd q.2.1 (by decide)
          · rw [hd] at q; exact absurd q.2.1 (by decide)
        subst ht3
        refine T_iconst (pc2 := 138) dX8_nextToken_137 ic1 rfl ?_
        refine T_goto (tgt := 142) dX8_nextToken_138 (by decide) ?_
        first | refine N_iadd (pc2 := 143) dX8_nextToken_142 (by with_reducible rfl) (by with_reducible rfl) rfl ?_ | refine T_iadd (pc2 := 143) dX8_nextToken_142 rfl ?_
        refine G_putI (pc2 := 146) dX8_nextToken_143 flX8_90 (sh48 S) rfl rfl rfl rfl ?_
        refine T_aload_n (pc2 := 147) dX8_nextToken_146 rfl rfl ?_
        refine G_getI (pc2 := 150) dX8_nextToken_147 flX8_105 (sh48 S) rfl (by first | with_reducible assumption | exact gs_eq _ _ _ _ | exact (gs_ne _ _ (by omega)).trans (by with_reducible assumption) | exact (gs_ne _ _ (by omega)).trans (gs_eq _ _ _ _) | exact (gs_ne _ _ (by omega)).trans ((gs_ne _ _ (by omega)).trans (by with_reducible assumption)) | exact (gs_ne _ _ (by omega)).trans ((gs_ne _ _ (by omega)).trans (gs_eq _ _ _ _)) | exact (gs_ne _ _ (by omega)).trans ((gs_ne _ _ (by omega)).trans ((gs_ne _ _ (by omega)).trans (by with_reducible assumption))) | rfl) rfl ?_
        refine T_iconst (pc2 := 151) dX8_nextToken_150 ic3 rfl ?_
        first | refine N_icmpne (pc2 := 154) (tgt := 277) dX8_nextToken_151 (by decide) (by with_reducible rfl) (by with_reducible rfl) (by omega) (by omega) rfl (fun c151 => ?_) (fun c151 => ?_) | refine T_icmpne (pc2 := 154) (tgt := 277) dX8_nextToken_151 (by decide) rfl (fun c151 => ?_) (fun c151 => ?_)
        · exact absurd rfl c151
        · refine T_aload_n (pc2 := 155) dX8_nextToken_154 rfl rfl ?_
          refine T_dup (pc2 := 156) dX8_nextToken_155 rfl rfl ?_
          refine G_getI (pc2 := 159) dX8_nextToken_156 flX8_94 (sh48 S) rfl (by first | with_reducible assumption | exact gs_eq _ _ _ _ | exact (gs_ne _ _ (by omega)).trans (by with_reducible assumption) | exact (gs_ne _ _ (by omega)).trans (gs_eq _ _ _ _) | exact (gs_ne _ _ (by omega)).trans ((gs_ne _ _ (by omega)).trans (by with_reducible assumption)) | exact (gs_ne _ _ (by omega)).trans ((gs_ne _ _ (by omega)).trans (gs_eq _ _ _ _)) | exact (gs_ne _ _ (by omega)).trans ((gs_ne _ _ (by omega)).trans ((gs_ne _ _ (by omega)).trans (by with_reducible assumption))) | rfl) rfl ?_
          refine T_bipush (pc2 := 161) dX8_nextToken_159 bp48 rfl ?_
          first | refine N_isub (pc2 := 162) dX8_nextToken_161 (by with_reducible rfl) (by with_reducible rfl) (by omega) rfl ?_ | refine T_isub (pc2 := 162) dX8_nextToken_161 rfl ?_
          refine G_putI (pc2 := 165) dX8_nextToken_162 flX8_94 (sh48 S) rfl rfl rfl rfl ?_
          refine nt_dig (g := g) (a := a) S hok h1 hd (fun g2 q1 q2 q3 q4 q5 q6 q7 => ?_) (sz - (a + 1)) (a + 1) _ (by omega) (by omega) (by rw [rn_s h1 hd]; omega) (((hT.st (by decide)).st (by decide)).st (by decide)) (by rw [gs_ne _ _ (by omega), gs_ne _ _ (by omega), gs_ne _ _ (by omega)]; exact e13) (by rw [gs_ne _ _ (by omega), gs_eq]) (by rw [gs_eq, if_pos (by omega)]) (by rw [gs_ne _ _ (by omega), gs_ne _ _ (by omega), gs_ne _ _ (by omega)]) (((Fp.rf.st (by omega) (by omega)).st (by omega) (by omega)).st (by omega) (by omega))
          refine k g2 q1 q2 ?_ ?_ ?_ q6 q7
          · have e : tkN tp sz a = if rn tp sz a ≤ 2 then 3 else 0 := by
              unfold tkN
              rw [if_neg (by omega), if_neg (by omega), if_pos hd]
            rw [q3, e]
          · rw [q4]
            unfold vlI
            rw [if_neg (by omega), if_pos hd]
          · rw [q5]
            unfold enN
            rw [if_neg (by omega), if_pos hd]
      · have hdf : dig (tp a) = false := by cases q : dig (tp a) with | true => exact absurd q hd | false => rfl
        have ht3 : t ≠ 3 := by
          rcases hcs with q | q | q | q
          · omega
          · exact absurd q.1 hd
          · omega
          · omega
        have htk : tkN tp sz a = t := by
          unfold tkN
          rw [if_neg (by omega)]
          rcases hcs with q | q | q | q
          · rw [if_pos ⟨q.1, q.2.1⟩]; exact q.2.2.symm
          · exact absurd q.1 hd
          · rw [if_neg q.1, if_neg hd, if_pos q.2.2.1]; exact q.2.2.2.symm
          · rw [if_neg q.1, if_neg hd, if_neg q.2.2.1]; exact q.2.2.2.symm
        refine T_iconst (pc2 := 138) dX8_nextToken_137 ic1 rfl ?_
        refine T_goto (tgt := 142) dX8_nextToken_138 (by decide) ?_
        first | refine N_iadd (pc2 := 143) dX8_nextToken_142 (by with_reducible rfl) (by with_reducible rfl) rfl ?_ | refine T_iadd (pc2 := 143) dX8_nextToken_142 rfl ?_
        refine G_putI (pc2 := 146) dX8_nextToken_143 flX8_90 (sh48 S) rfl rfl rfl rfl ?_
        refine T_aload_n (pc2 := 147) dX8_nextToken_146 rfl rfl ?_
        refine G_getI (pc2 := 150) dX8_nextToken_147 flX8_105 (sh48 S) rfl (by first | with_reducible assumption | exact gs_eq _ _ _ _ | exact (gs_ne _ _ (by omega)).trans (by with_reducible assumption) | exact (gs_ne _ _ (by omega)).trans (gs_eq _ _ _ _) | exact (gs_ne _ _ (by omega)).trans ((gs_ne _ _ (by omega)).trans (by with_reducible assumption)) | exact (gs_ne _ _ (by omega)).trans ((gs_ne _ _ (by omega)).trans (gs_eq _ _ _ _)) | exact (gs_ne _ _ (by omega)).trans ((gs_ne _ _ (by omega)).trans ((gs_ne _ _ (by omega)).trans (by with_reducible assumption))) | rfl) rfl ?_
        refine T_iconst (pc2 := 151) dX8_nextToken_150 ic3 rfl ?_
        first | refine N_icmpne (pc2 := 154) (tgt := 277) dX8_nextToken_151 (by decide) (by with_reducible rfl) (by with_reducible rfl) (by omega) (by omega) rfl (fun c151 => ?_) (fun c151 => ?_) | refine T_icmpne (pc2 := 154) (tgt := 277) dX8_nextToken_151 (by decide) rfl (fun c151 => ?_) (fun c151 => ?_)
        · refine T_ret dX8_nextToken_277 rfl ?_
          refine k _ ((hT.st (by decide)).st (by decide)) (by rw [gs_ne _ _ (by omega), gs_ne _ _ (by omega)]; exact e13) ?_ ?_ ?_ (by rw [gs_ne _ _ (by omega), gs_ne _ _ (by omega)]) ((Fp.rf.st (by omega) (by omega)).st (by omega) (by omega))
          · rw [e14, htk]
          · rw [e15]
            unfold vlI
            rw [if_neg (by omega), if_neg hd]
          · rw [gs_eq]
            unfold enN
            rw [if_neg (by omega), if_neg hd]
        · omega
theorem m_next {a : Nat} (S : Sh sk n bf im above below) (hok : okT tp sz) (ha : a ≤ sz) (hT : hasTp g tp sz) (e12 : g 48 12 = nI a) (e16 : g 48 16 = nI 0) (k : ∀ g2, PG g2 tp sz a → Fp g g2 → Q none (HP sk g2 n)) : Calls MX8_nextToken (d + 1) 0 0 [.ref 48] (HP sk g n) Q := by
  have h90 := hok.1
  have e11 := hT.1
  have e11b : gset g 48 13 (nI a) 48 11 = nI sz := by rw [gs_ne _ _ (by omega)]; exact e11
  have e12b : gset g 48 13 (nI a) 48 12 = nI a := by rw [gs_ne _ _ (by omega)]; exact e12
  refine Calls.of (by decide +kernel) (Nat.le_of_ble_eq_true rfl) ?_
  -- from the token's number on
  have tail : ∀ v t, (v = if sz ≤ a then -1000000 else nI (tp a)) → ((a = sz ∧ t = 1) ∨ (a < sz ∧ ((97 ≤ tp a ∧ tp a ≤ 122 ∧ t = 2) ∨ (dig (tp a) = true ∧ t = 3) ∨ (¬ (97 ≤ tp a ∧ tp a ≤ 122) ∧ dig (tp a) = false ∧ (tp a = 44 ∨ tp a = 59) ∧ t = 4) ∨ (¬ (97 ≤ tp a ∧ tp a ≤ 122) ∧ dig (tp a) = false ∧ ¬ (tp a = 44 ∨ tp a = 59) ∧ t = 0)))) → T MX8_nextToken (d + 1) 0 0 118 [(0, .ref 48)] [.int (nI t), .ref 48] (HP sk (gset (gset g 48 13 (nI a)) 48 15 v) n) Q := by
    intro v t hv ht
    have hf0 : Fp g (gset (gset g 48 13 (nI a)) 48 15 v) := (Fp.rf.st (by omega) (by omega)).st (by omega) (by omega)
    have e16b : gset (gset g 48 13 (nI a)) 48 15 v 48 16 = nI 0 := by rw [gs_ne _ _ (by omega), gs_ne _ _ (by omega)]; exact e16
    refine nt_tok (a := a) (t := t) S hok ha ((hT.st (by decide)).st (by decide)) (by rw [gs_ne _ _ (by omega)]; exact e12b) (by rw [gs_ne _ _ (by omega), gs_eq]) ?_ (fun g2 q1 q2 q3 q4 q5 q6 q7 => k g2 ⟨q1, ha, q6.trans e16b, q2, q3, q4, q5⟩ (hf0.tr q7))
    rcases ht with ⟨h1, h2⟩ | ⟨h1, h2⟩
    · exact Or.inl ⟨h1, h2, by rw [gs_eq, hv, if_pos (by omega)]⟩
    · exact Or.inr ⟨h1, by rw [gs_eq, hv, if_neg (by omega)], h2⟩
  by_cases hz : a = sz
  · subst hz
    have hv : (-1000000 : Int32) = if a ≤ a then -1000000 else nI (tp a) := (if_pos (Nat.le_refl _)).symm
    refine T_aload_n (pc2 := 1) dX8_nextToken_0 rfl rfl ?_
    refine T_aload_n (pc2 := 2) dX8_nextToken_1 rfl rfl ?_
    refine G_getI (pc2 := 5) dX8_nextToken_2 flX8_90 (sh48 S) rfl (by first | with_reducible assumption | exact gs_eq _ _ _ _ | exact (gs_ne _ _ (by omega)).trans (by with_reducible assumption) | exact (gs_ne _ _ (by omega)).trans (gs_eq _ _ _ _) | exact (gs_ne _ _ (by omega)).trans ((gs_ne _ _ (by omega)).trans (by with_reducible assumption)) | exact (gs_ne _ _ (by omega)).trans ((gs_ne _ _ (by omega)).trans (gs_eq _ _ _ _)) | exact (gs_ne _ _ (by omega)).trans ((gs_ne _ _ (by omega)).trans ((gs_ne _ _ (by omega)).trans (by with_reducible assumption))) | rfl) rfl ?_
    refine G_putI (pc2 := 8) dX8_nextToken_5 flX8_84 (sh48 S) rfl rfl rfl rfl ?_
    refine T_aload_n (pc2 := 9) dX8_nextToken_8 rfl rfl ?_
    refine T_aload_n (pc2 := 10) dX8_nextToken_9 rfl rfl ?_
    refine G_getI (pc2 := 13) dX8_nextToken_10 flX8_90 (sh48 S) rfl (by first | with_reducible assumption | exact gs_eq _ _ _ _ | exact (gs_ne _ _ (by omega)).trans (by with_reducible assumption) | exact (gs_ne _ _ (by omega)).trans (gs_eq _ _ _ _) | exact (gs_ne _ _ (by omega)).trans ((gs_ne _ _ (by omega)).trans (by with_reducible assumption)) | exact (gs_ne _ _ (by omega)).trans ((gs_ne _ _ (by omega)).trans (gs_eq _ _ _ _)) | exact (gs_ne _ _ (by omega)).trans ((gs_ne _ _ (by omega)).trans ((gs_ne _ _ (by omega)).trans (by with_reducible assumption))) | rfl) rfl ?_
    refine T_aload_n (pc2 := 14) dX8_nextToken_13 rfl rfl ?_
    refine G_getI (pc2 := 17) dX8_nextToken_14 flX8_77 (sh48 S) rfl (by first | with_reducible assumption | exact gs_eq _ _ _ _ | exact (gs_ne _ _ (by omega)).trans (by with_reducible assumption) | exact (gs_ne _ _ (by omega)).trans (gs_eq _ _ _ _) | exact (gs_ne _ _ (by omega)).trans ((gs_ne _ _ (by omega)).trans (by with_reducible assumption)) | exact (gs_ne _ _ (by omega)).trans ((gs_ne _ _ (by omega)).trans (gs_eq _ _ _ _)) | exact (gs_ne _ _ (by omega)).trans ((gs_ne _ _ (by omega)).trans ((gs_ne _ _ (by omega)).trans (by with_reducible assumption))) | rfl) rfl ?_
    first | refine N_icmpge (pc2 := 20) (tgt := 32) dX8_nextToken_17 (by decide) (by with_reducible rfl) (by with_reducible rfl) (by omega) (by omega) rfl (fun c17 => ?_) (fun c17 => ?_) | refine T_icmpge (pc2 := 20) (tgt := 32) dX8_nextToken_17 (by decide) rfl (fun c17 => ?_) (fun c17 => ?_)
    · refine T_ldc (pc2 := 34) dX8_nextToken_32 kcX8_93 rfl ?_
      refine G_putI (pc2 := 37) dX8_nextToken_34 flX8_94 (sh48 S) rfl rfl rfl rfl ?_
      refine T_aload_n (pc2 := 38) dX8_nextToken_37 rfl rfl ?_
      refine T_aload_n (pc2 := 39) dX8_nextToken_38 rfl rfl ?_
      refine G_getI (pc2 := 42) dX8_nextToken_39 flX8_90 (sh48 S) rfl (by first | with_reducible assumption | exact gs_eq _ _ _ _ | exact (gs_ne _ _ (by omega)).trans (by with_reducible assumption) | exact (gs_ne _ _ (by omega)).trans (gs_eq _ _ _ _) | exact (gs_ne _ _ (by omega)).trans ((gs_ne _ _ (by omega)).trans (by with_reducible assumption)) | exact (gs_ne _ _ (by omega)).trans ((gs_ne _ _ (by omega)).trans (gs_eq _ _ _ _)) | exact (gs_ne _ _ (by omega)).trans ((gs_ne _ _ (by omega)).trans ((gs_ne _ _ (by omega)).trans (by with_reducible assumption))) | rfl) rfl ?_
      refine T_aload_n (pc2 := 43) dX8_nextToken_42 rfl rfl ?_
      refine G_getI (pc2 := 46) dX8_nextToken_43 flX8_77 (sh48 S) rfl (by first | with_reducible assumption | exact gs_eq _ _ _ _ | exact (gs_ne _ _ (by omega)).trans (by with_reducible assumption) | exact (gs_ne _ _ (by omega)).trans (gs_eq _ _ _ _) | exact (gs_ne _ _ (by omega)).trans ((gs_ne _ _ (by omega)).trans (by with_reducible assumption)) | exact (gs_ne _ _ (by omega)).trans ((gs_ne _ _ (by omega)).trans (gs_eq _ _ _ _)) | exact (gs_ne _ _ (by omega)).trans ((gs_ne _ _ (by omega)).trans ((gs_ne _ _ (by omega)).trans (by with_reducible assumption))) | rfl) rfl ?_
      first | refine N_icmpne (pc2 := 49) (tgt := 53) dX8_nextToken_46 (by decide) (by with_reducible rfl) (by with_reducible rfl) (by omega) (by omega) rfl (fun c46 => ?_) (fun c46 => ?_) | refine T_icmpne (pc2 := 49) (tgt := 53) dX8_nextToken_46 (by decide) rfl (fun c46 => ?_) (fun c46 => ?_)
      · omega
      · refine T_iconst (pc2 := 50) dX8_nextToken_49 ic1 rfl ?_
        refine T_goto (tgt := 118) dX8_nextToken_50 (by decide) ?_
        exact tail _ 1 hv (Or.inl ⟨rfl, rfl⟩)
    · omega
  · have hal : a < sz := by omega
    have hv : nI (tp a) = if sz ≤ a then -1000000 else nI (tp a) := (if_neg (by omega)).symm
    have hb := hok.2 a hal
    have e56 : gset g 48 13 (nI a) 56 a = nI (tp a) := by rw [gs_row (by decide)]; exact hT.2 a hal
    refine T_aload_n (pc2 := 1) dX8_nextToken_0 rfl rfl ?_
    refine T_aload_n (pc2 := 2) dX8_nextToken_1 rfl rfl ?_
    refine G_getI (pc2 := 5) dX8_nextToken_2 flX8_90 (sh48 S) rfl (by first | with_reducible assumption | exact gs_eq _ _ _ _ | exact (gs_ne _ _ (by omega)).trans (by with_reducible assumption) | exact (gs_ne _ _ (by omega)).trans (gs_eq _ _ _ _) | exact (gs_ne _ _ (by omega)).trans ((gs_ne _ _ (by omega)).trans (by with_reducible assumption)) | exact (gs_ne _ _ (by omega)).trans ((gs_ne _ _ (by omega)).trans (gs_eq _ _ _ _)) | exact (gs_ne _ _ (by omega)).trans ((gs_ne _ _ (by omega)).trans ((gs_ne _ _ (by omega)).trans (by with_reducible assumption))) | rfl) rfl ?_
    refine G_putI (pc2 := 8) dX8_nextToken_5 flX8_84 (sh48 S) rfl rfl rfl rfl ?_
    refine T_aload_n (pc2 := 9) dX8_nextToken_8 rfl rfl ?_
    refine T_aload_n (pc2 := 10) dX8_nextToken_9 rfl rfl ?_
    refine G_getI (pc2 := 13) dX8_nextToken_10 flX8_90 (sh48 S) rfl (by first | with_reducible assumption | exact gs_eq _ _ _ _ | exact (gs_ne _ _ (by omega)).trans (by with_reducible assumption) | exact (gs_ne _ _ (by omega)).trans (gs_eq _ _ _ _) | exact (gs_ne _ _ (by omega)).trans ((gs_ne _ _ (by omega)).trans (by with_reducible assumption)) | exact (gs_ne _ _ (by omega)).trans ((gs_ne _ _ (by omega)).trans (gs_eq _ _ _ _)) | exact (gs_ne _ _ (by omega)).trans ((gs_ne _ _ (by omega)).trans ((gs_ne _ _ (by omega)).trans (by with_reducible assumption))) | rfl) rfl ?_
    refine T_aload_n (pc2 := 14) dX8_nextToken_13 rfl rfl ?_
    refine G_getI (pc2 := 17) dX8_nextToken_14 flX8_77 (sh48 S) rfl (by first | with_reducible assumption | exact gs_eq _ _ _ _ | exact (gs_ne _ _ (by omega)).trans (by with_reducible assumption) | exact (gs_ne _ _ (by omega)).trans (gs_eq _ _ _ _) | exact (gs_ne _ _ (by omega)).trans ((gs_ne _ _ (by omega)).trans (by with_reducible assumption)) | exact (gs_ne _ _ (by omega)).trans ((gs_ne _ _ (by omega)).trans (gs_eq _ _ _ _)) | exact (gs_ne _ _ (by omega)).trans ((gs_ne _ _ (by omega)).trans ((gs_ne _ _ (by omega)).trans (by with_reducible assumption))) | rfl) rfl ?_
    first | refine N_icmpge (pc2 := 20) (tgt := 32) dX8_nextToken_17 (by decide) (by with_reducible rfl) (by with_reducible rfl) (by omega) (by omega) rfl (fun c17 => ?_) (fun c17 => ?_) | refine T_icmpge (pc2 := 20) (tgt := 32) dX8_nextToken_17 (by decide) rfl (fun c17 => ?_) (fun c17 => ?_)
    · omega
    · have e12c : gset (gset g 48 13 (nI a)) 48 15 (nI (tp a)) 48 12 = nI a := by rw [gs_ne _ _ (by omega)]; exact e12b
      have e11c : gset (gset g 48 13 (nI a)) 48 15 (nI (tp a)) 48 11 = nI sz := by rw [gs_ne _ _ (by omega)]; exact e11b
      refine T_aload_n (pc2 := 21) dX8_nextToken_20 rfl rfl ?_
      refine G_getR (pc2 := 24) dX8_nextToken_21 flX8_31 (sh48 S) rfl rfl ?_
      refine T_aload_n (pc2 := 25) dX8_nextToken_24 rfl rfl ?_
      refine G_getI (pc2 := 28) dX8_nextToken_25 flX8_90 (sh48 S) rfl (by first | with_reducible assumption | exact gs_eq _ _ _ _ | exact (gs_ne _ _ (by omega)).trans (by with_reducible assumption) | exact (gs_ne _ _ (by omega)).trans (gs_eq _ _ _ _) | exact (gs_ne _ _ (by omega)).trans ((gs_ne _ _ (by omega)).trans (by with_reducible assumption)) | exact (gs_ne _ _ (by omega)).trans ((gs_ne _ _ (by omega)).trans (gs_eq _ _ _ _)) | exact (gs_ne _ _ (by omega)).trans ((gs_ne _ _ (by omega)).trans ((gs_ne _ _ (by omega)).trans (by with_reducible assumption))) | rfl) rfl ?_
      refine G_iald (pc2 := 29) dX8_nextToken_28 (sh56 S) (by omega) (by first | decide | omega) (by first | with_reducible assumption | exact gs_eq _ _ _ _ | exact (gs_ne _ _ (by omega)).trans (by with_reducible assumption) | exact (gs_ne _ _ (by omega)).trans (gs_eq _ _ _ _) | exact (gs_ne _ _ (by omega)).trans ((gs_ne _ _ (by omega)).trans (by with_reducible assumption)) | exact (gs_ne _ _ (by omega)).trans ((gs_ne _ _ (by omega)).trans (gs_eq _ _ _ _)) | exact (gs_ne _ _ (by omega)).trans ((gs_ne _ _ (by omega)).trans ((gs_ne _ _ (by omega)).trans (by with_reducible assumption))) | rfl) rfl ?_
      refine T_goto (tgt := 34) dX8_nextToken_29 (by decide) ?_
      refine G_putI (pc2 := 37) dX8_nextToken_34 flX8_94 (sh48 S) rfl rfl rfl rfl ?_
      refine T_aload_n (pc2 := 38) dX8_nextToken_37 rfl rfl ?_
      refine T_aload_n (pc2 := 39) dX8_nextToken_38 rfl rfl ?_
      refine G_getI (pc2 := 42) dX8_nextToken_39 flX8_90 (sh48 S) rfl (by first | with_reducible assumption | exact gs_eq _ _ _ _ | exact (gs_ne _ _ (by omega)).trans (by with_reducible assumption) | exact (gs_ne _ _ (by omega)).trans (gs_eq _ _ _ _) | exact (gs_ne _ _ (by omega)).trans ((gs_ne _ _ (by omega)).trans (by with_reducible assumption)) | exact (gs_ne _ _ (by omega)).trans ((gs_ne _ _ (by omega)).trans (gs_eq _ _ _ _)) | exact (gs_ne _ _ (by omega)).trans ((gs_ne _ _ (by omega)).trans ((gs_ne _ _ (by omega)).trans (by with_reducible assumption))) | rfl) rfl ?_
      refine T_aload_n (pc2 := 43) dX8_nextToken_42 rfl rfl ?_
      refine G_getI (pc2 := 46) dX8_nextToken_43 flX8_77 (sh48 S) rfl (by first | with_reducible assumption | exact gs_eq _ _ _ _ | exact (gs_ne _ _ (by omega)).trans (by with_reducible assumption) | exact (gs_ne _ _ (by omega)).trans (gs_eq _ _ _ _) | exact (gs_ne _ _ (by omega)).trans ((gs_ne _ _ (by omega)).trans (by with_reducible assumption)) | exact (gs_ne _ _ (by omega)).trans ((gs_ne _ _ (by omega)).trans (gs_eq _ _ _ _)) | exact (gs_ne _ _ (by omega)).trans ((gs_ne _ _ (by omega)).trans ((gs_ne _ _ (by omega)).trans (by with_reducible assumption))) | rfl) rfl ?_
      first | refine N_icmpne (pc2 := 49) (tgt := 53) dX8_nextToken_46 (by decide) (by with_reducible rfl) (by with_reducible rfl) (by omega) (by omega) rfl (fun c46 => ?_) (fun c46 => ?_) | refine T_icmpne (pc2 := 49) (tgt := 53) dX8_nextToken_46 (by decide) rfl (fun c46 => ?_) (fun c46 => ?_)
      · refine T_aload_n (pc2 := 54) dX8_nextToken_53 rfl rfl ?_
        refine G_getI (pc2 := 57) dX8_nextToken_54 flX8_94 (sh48 S) rfl (by first | with_reducible assumption | exact gs_eq _ _ _ _ | exact (gs_ne _ _ (by omega)).trans (by with_reducible assumption) | exact (gs_ne _ _ (by omega)).trans (gs_eq _ _ _ _) | exact (gs_ne _ _ (by omega)).trans ((gs_ne _ _ (by omega)).trans (by with_reducible assumption)) | exact (gs_ne _ _ (by omega)).trans ((gs_ne _ _ (by omega)).trans (gs_eq _ _ _ _)) | exact (gs_ne _ _ (by omega)).trans ((gs_ne _ _ (by omega)).trans ((gs_ne _ _ (by omega)).trans (by with_reducible assumption))) | rfl) rfl ?_
        refine T_i2l (pc2 := 58) dX8_nextToken_57 rfl ?_
        refine T_ldc2 (pc2 := 61) dX8_nextToken_58 kcX8_97 rfl ?_
        refine T_ldc2 (pc2 := 64) dX8_nextToken_61 kcX8_99 rfl ?_
        refine C_S3 (pc2 := 67) (mc := 0) (ms := 0) dX8_nextToken_64 csX8_in mlX8_60 (Nat.le_of_ble_eq_true rfl) rfl ?_
        refine m_inN (lo := 97) (hi := 122) (by omega) (by decide) (by decide) rfl (by decide) (by decide) (fun h1 h2 => ?_) (fun hno => ?_)
        · first | refine B_ifeq1 (pc2 := 70) (tgt := 74) dX8_nextToken_67 (by with_reducible rfl) (by decide) rfl ?_ | refine B_ifeq0 (tgt := 74) dX8_nextToken_67 (by with_reducible rfl) (by decide) ?_ | refine N_ifeq (pc2 := 70) (tgt := 74) dX8_nextToken_67 (by with_reducible rfl) (by decide) (by omega) rfl (fun c67 => ?_) (fun c67 => ?_) | refine T_ifeq (pc2 := 70) (tgt := 74) dX8_nextToken_67 (by decide) rfl (fun c67 => ?_) (fun c67 => ?_)
          refine T_iconst (pc2 := 71) dX8_nextToken_70 ic2 rfl ?_
          refine T_goto (tgt := 118) dX8_nextToken_71 (by decide) ?_
          exact tail _ 2 hv (Or.inr ⟨hal, Or.inl ⟨h1, h2, rfl⟩⟩)
        · first | refine B_ifeq1 (pc2 := 70) (tgt := 74) dX8_nextToken_67 (by with_reducible rfl) (by decide) rfl ?_ | refine B_ifeq0 (tgt := 74) dX8_nextToken_67 (by with_reducible rfl) (by decide) ?_ | refine N_ifeq (pc2 := 70) (tgt := 74) dX8_nextToken_67 (by with_reducible rfl) (by decide) (by omega) rfl (fun c67 => ?_) (fun c67 => ?_) | refine T_ifeq (pc2 := 70) (tgt := 74) dX8_nextToken_67 (by decide) rfl (fun c67 => ?_) (fun c67 => ?_)
          refine T_aload_n (pc2 := 75) dX8_nextToken_74 rfl rfl ?_
          refine G_getI (pc2 := 78) dX8_nextToken_75 flX8_94 (sh48 S) rfl (by first | with_reducible assumption | exact gs_eq _ _ _ _ | exact (gs_ne _ _ (by omega)).trans (by with_reducible assumption) | exact (gs_ne _ _ (by omega)).trans (gs_eq _ _ _ _) | exact (gs_ne _ _ (by omega)).trans ((gs_ne _ _ (by omega)).trans (by with_reducible assumption)) | exact (gs_ne _ _ (by omega)).trans ((gs_ne _ _ (by omega)).trans (gs_eq _ _ _ _)) | exact (gs_ne _ _ (by omega)).trans ((gs_ne _ _ (by omega)).trans ((gs_ne _ _ (by omega)).trans (by with_reducible assumption))) | rfl) rfl ?_
          refine T_i2l (pc2 := 79) dX8_nextToken_78 rfl ?_
          refine T_ldc2 (pc2 := 82) dX8_nextToken_79 kcX8_101 rfl ?_
          refine T_ldc2 (pc2 := 85) dX8_nextToken_82 kcX8_103 rfl ?_
          refine C_S3 (pc2 := 88) (mc := 0) (ms := 0) dX8_nextToken_85 csX8_in mlX8_60 (Nat.le_of_ble_eq_true rfl) rfl ?_
          refine m_inN (lo := 48) (hi := 57) (by omega) (by decide) (by decide) rfl (by decide) (by decide) (fun h1 h2 => ?_) (fun hno2 => ?_)
          · first | refine B_ifeq1 (pc2 := 91) (tgt := 95) dX8_nextToken_88 (by with_reducible rfl) (by decide) rfl ?_ | refine B_ifeq0 (tgt := 95) dX8_nextToken_88 (by with_reducible rfl) (by decide) ?_ | refine N_ifeq (pc2 := 91) (tgt := 95) dX8_nextToken_88 (by with_reducible rfl) (by decide) (by omega) rfl (fun c88 => ?_) (fun c88 => ?_) | refine T_ifeq (pc2 := 91) (tgt := 95) dX8_nextToken_88 (by decide) rfl (fun c88 => ?_) (fun c88 => ?_)
            refine T_iconst (pc2 := 92) dX8_nextToken_91 ic3 rfl ?_
            refine T_goto (tgt := 118) dX8_nextToken_92 (by decide) ?_
            exact tail _ 3 hv (Or.inr ⟨hal, Or.inr (Or.inl ⟨dig_iff.mpr ⟨h1, h2⟩, rfl⟩)⟩)
          · have hdf : dig (tp a) = false := by
              cases q : dig (tp a) with
              | true => exact absurd (dig_iff.mp q) hno2
              | false => rfl
            first | refine B_ifeq1 (pc2 := 91) (tgt := 95) dX8_nextToken_88 (by with_reducible rfl) (by decide) rfl ?_ | refine B_ifeq0 (tgt := 95) dX8_nextToken_88 (by with_reducible rfl) (by decide) ?_ | refine N_ifeq (pc2 := 91) (tgt := 95) dX8_nextToken_88 (by with_reducible rfl) (by decide) (by omega) rfl (fun c88 => ?_) (fun c88 => ?_) | refine T_ifeq (pc2 := 91) (tgt := 95) dX8_nextToken_88 (by decide) rfl (fun c88 => ?_) (fun c88 => ?_)
            refine T_aload_n (pc2 := 96) dX8_nextToken_95 rfl rfl ?_
            refine G_getI (pc2 := 99) dX8_nextToken_96 flX8_94 (sh48 S) rfl (by first | with_reducible assumption | exact gs_eq _ _ _ _ | exact (gs_ne _ _ (by omega)).trans (by with_reducible assumption) | exact (gs_ne _ _ (by omega)).trans (gs_eq _ _ _ _) | exact (gs_ne _ _ (by omega)).trans ((gs_ne _ _ (by omega)).trans (by with_reducible assumption)) | exact (gs_ne _ _ (by omega)).trans ((gs_ne _ _ (by omega)).trans (gs_eq _ _ _ _)) | exact (gs_ne _ _ (by omega)).trans ((gs_ne _ _ (by omega)).trans ((gs_ne _ _ (by omega)).trans (by with_reducible assumption))) | rfl) rfl ?_
            refine T_bipush (pc2 := 101) dX8_nextToken_99 bp44 rfl ?_
            first | refine N_icmpeq (pc2 := 104) (tgt := 113) dX8_nextToken_101 (by decide) (by with_reducible rfl) (by with_reducible rfl) (by omega) (by omega) rfl (fun c101 => ?_) (fun c101 => ?_) | refine T_icmpeq (pc2 := 104) (tgt := 113) dX8_nextToken_101 (by decide) rfl (fun c101 => ?_) (fun c101 => ?_)
            · refine T_iconst (pc2 := 114) dX8_nextToken_113 ic4 rfl ?_
              refine T_goto (tgt := 118) dX8_nextToken_114 (by decide) ?_
              exact tail _ 4 hv (Or.inr ⟨hal, Or.inr (Or.inr (Or.inl ⟨hno, hdf, Or.inl c101, rfl⟩))⟩)
            · refine T_aload_n (pc2 := 105) dX8_nextToken_104 rfl rfl ?_
              refine G_getI (pc2 := 108) dX8_nextToken_105 flX8_94 (sh48 S) rfl (by first | with_reducible assumption | exact gs_eq _ _ _ _ | exact (gs_ne _ _ (by omega)).trans (by with_reducible assumption) | exact (gs_ne _ _ (by omega)).trans (gs_eq _ _ _ _) | exact (gs_ne _ _ (by omega)).trans ((gs_ne _ _ (by omega)).trans (by with_reducible assumption)) | exact (gs_ne _ _ (by omega)).trans ((gs_ne _ _ (by omega)).trans (gs_eq _ _ _ _)) | exact (gs_ne _ _ (by omega)).trans ((gs_ne _ _ (by omega)).trans ((gs_ne _ _ (by omega)).trans (by with_reducible assumption))) | rfl) rfl ?_
              refine T_bipush (pc2 := 110) dX8_nextToken_108 bp59 rfl ?_
              first | refine N_icmpne (pc2 := 113) (tgt := 117) dX8_nextToken_110 (by decide) (by with_reducible rfl) (by with_reducible rfl) (by omega) (by omega) rfl (fun c110 => ?_) (fun c110 => ?_) | refine T_icmpne (pc2 := 113) (tgt := 117) dX8_nextToken_110 (by decide) rfl (fun c110 => ?_) (fun c110 => ?_)
              · refine T_iconst (pc2 := 118) dX8_nextToken_117 ic0 rfl ?_
                exact tail _ 0 hv (Or.inr ⟨hal, Or.inr (Or.inr (Or.inr ⟨hno, hdf, by omega, rfl⟩))⟩)
              · refine T_iconst (pc2 := 114) dX8_nextToken_113 ic4 rfl ?_
                refine T_goto (tgt := 118) dX8_nextToken_114 (by decide) ?_
                exact tail _ 4 hv (Or.inr ⟨hal, Or.inr (Or.inr (Or.inl ⟨hno, hdf, Or.inr c110, rfl⟩))⟩)
      · omega
end MTok

