/-! the law: its cases -/
theorem and63 (x : Int32) : ∃ q, q < 64 ∧ x &&& nI 63 = nI q := by
  refine ⟨(x &&& nI 63).toBitVec.toNat, ?_, ?_⟩
  · have h : (x &&& nI 63).toBitVec.toNat = x.toBitVec.toNat &&& 63 := by
      rw [Int32.toBitVec_and, BitVec.toNat_and]
      rfl
    rw [h]
    exact Nat.lt_of_le_of_lt Nat.and_le_right (by decide)
  · apply Int32.toBitVec_inj.mp
    show _ = (Int32.ofNat _).toBitVec
    rw [show ∀ k, (Int32.ofNat k).toBitVec = BitVec.ofNat 32 k from fun _ => rfl, BitVec.ofNat_toNat]
    simp
theorem isX.fj {sk sk2 : Nat → SK} {g g2 : Nat → Nat → Int32} {L : Nat} (h : isX sk 0 L) (f : FrJ sk g sk2 g2) : isX sk2 0 L := ⟨h.1, by rw [f.1]; exact h.2⟩
abbrev lawL (i : Nat) : List (Nat × Value) := [(0, .ref 0), (1, .ref 4), (2, .ref 48), (3, .int (nI i))]
def Kn (Q : Option Value → SH → Prop) (d m i L : Nat) (xs : Nat → Int32) : Prop := ∀ sk2 g2 n2 s2 kc2 ks2, 144 * m ≤ kc2 → 1152 * m ≤ ks2 → isX sk2 0 L → (∀ j, j < L → g2 0 j = xs j) → InvJ sk2 g2 n2 s2 → InvM g2 s2 → Ok s2 → T ML_law (d + 12) kc2 ks2 1417 (lawL i) [] (HP sk2 g2 n2) Q
section LawC
variable {sk : Nat → SK} {g : Nat → Nat → Int32} {n : Nat} {Q : Option Value → SH → Prop} {d m i L : Nat} {bf im : Nat → Option Nat} {above below : Int64} {nx : Nat} {s : ST} {xs : Nat → Int32}
theorem lc_row (hX0 : isX sk 0 L) (hx : ∀ j, j < L → g 0 j = xs j) (hL : L ≤ 448) (hi : i + 7 ≤ L) (hJ : JJ sk g n bf im above below nx s) (hM : InvM g s) (hok : Ok s) (kn : Kn Q d m i L xs) : T ML_law (d + 12) (144 * m + 144) (1152 * m + 1152) 200 (lawL i) [] (HP sk g n) Q := by
  have S := hJ.1
  have x1 := hx (i + 1) (by omega)
  have x2 := hx (i + 2) (by omega)
  have x3 := hx (i + 3) (by omega)
  refine T_aload_n (pc2 := 201) dL_law_200 rfl rfl ?_
  refine T_aload_n (pc2 := 202) dL_law_201 rfl rfl ?_
  refine T_iload_n (pc2 := 203) dL_law_202 rfl rfl ?_
  refine T_iconst (pc2 := 204) dL_law_203 ic1 rfl ?_
  first | refine N_iadd (pc2 := 205) dL_law_204 (by with_reducible rfl) (by with_reducible rfl) rfl ?_ | refine T_iadd (pc2 := 205) dL_law_204 rfl ?_
  refine G_xald (pc2 := 206) dL_law_205 hX0 (by omega) (by first | decide | omega) (by first | with_reducible assumption | exact gs_eq _ _ _ _ | exact (gs_ne _ _ (by omega)).trans (by with_reducible assumption) | exact (gs_ne _ _ (by omega)).trans (gs_eq _ _ _ _) | exact (gs_ne _ _ (by omega)).trans ((gs_ne _ _ (by omega)).trans (by with_reducible assumption)) | exact (gs_ne _ _ (by omega)).trans ((gs_ne _ _ (by omega)).trans (gs_eq _ _ _ _)) | exact (gs_ne _ _ (by omega)).trans ((gs_ne _ _ (by omega)).trans ((gs_ne _ _ (by omega)).trans (by with_reducible assumption))) | rfl) rfl ?_
  refine T_aload_n (pc2 := 207) dL_law_206 rfl rfl ?_
  refine T_iload_n (pc2 := 208) dL_law_207 rfl rfl ?_
  refine T_iconst (pc2 := 209) dL_law_208 ic2 rfl ?_
  first | refine N_iadd (pc2 := 210) dL_law_209 (by with_reducible rfl) (by with_reducible rfl) rfl ?_ | refine T_iadd (pc2 := 210) dL_law_209 rfl ?_
  refine G_xald (pc2 := 211) dL_law_210 hX0 (by omega) (by first | decide | omega) (by first | with_reducible assumption | exact gs_eq _ _ _ _ | exact (gs_ne _ _ (by omega)).trans (by with_reducible assumption) | exact (gs_ne _ _ (by omega)).trans (gs_eq _ _ _ _) | exact (gs_ne _ _ (by omega)).trans ((gs_ne _ _ (by omega)).trans (by with_reducible assumption)) | exact (gs_ne _ _ (by omega)).trans ((gs_ne _ _ (by omega)).trans (gs_eq _ _ _ _)) | exact (gs_ne _ _ (by omega)).trans ((gs_ne _ _ (by omega)).trans ((gs_ne _ _ (by omega)).trans (by with_reducible assumption))) | rfl) rfl ?_
  refine T_aload_n (pc2 := 212) dL_law_211 rfl rfl ?_
  refine T_iload_n (pc2 := 213) dL_law_212 rfl rfl ?_
  refine T_iconst (pc2 := 214) dL_law_213 ic3 rfl ?_
  first | refine N_iadd (pc2 := 215) dL_law_214 (by with_reducible rfl) (by with_reducible rfl) rfl ?_ | refine T_iadd (pc2 := 215) dL_law_214 rfl ?_
  refine G_xald (pc2 := 216) dL_law_215 hX0 (by omega) (by first | decide | omega) (by first | with_reducible assumption | exact gs_eq _ _ _ _ | exact (gs_ne _ _ (by omega)).trans (by with_reducible assumption) | exact (gs_ne _ _ (by omega)).trans (gs_eq _ _ _ _) | exact (gs_ne _ _ (by omega)).trans ((gs_ne _ _ (by omega)).trans (by with_reducible assumption)) | exact (gs_ne _ _ (by omega)).trans ((gs_ne _ _ (by omega)).trans (gs_eq _ _ _ _)) | exact (gs_ne _ _ (by omega)).trans ((gs_ne _ _ (by omega)).trans ((gs_ne _ _ (by omega)).trans (by with_reducible assumption))) | rfl) rfl ?_
  refine C_V3 (pc2 := 219) (mc := 0) (ms := 0) dL_law_216 cvX7_row mlL_13 (isO.h (sh4 S) _) (Nat.le_of_ble_eq_true rfl) rfl ?_
  refine j_row hJ hok (fun sk2 g2 n2 hJ2 hf2 => ?_)
  obtain ⟨bf2, im2, ab2, be2, nx2, hJ2⟩ := hJ2
  have S2 := hJ2.1
  have hX2 := hX0
  have hX0 : isX sk2 0 L := hX2.fj hf2
  have hM2 := hM.fj hf2
  have hx2 : ∀ j, j < L → g2 0 j = xs j := fun j hj => by rw [hf2.2 0 (Or.inl rfl)]; exact hx j hj
  clear S
  have S := S2
  have y1 := hx2 (i + 1) (by omega)
  have y2 := hx2 (i + 2) (by omega)
  have y3 := hx2 (i + 3) (by omega)
  refine T_aload_n (pc2 := 220) dL_law_219 rfl rfl ?_
  refine T_aload_n (pc2 := 221) dL_law_220 rfl rfl ?_
  refine T_iload_n (pc2 := 222) dL_law_221 rfl rfl ?_
  refine T_iconst (pc2 := 223) dL_law_222 ic1 rfl ?_
  first | refine N_iadd (pc2 := 224) dL_law_223 (by with_reducible rfl) (by with_reducible rfl) rfl ?_ | refine T_iadd (pc2 := 224) dL_law_223 rfl ?_
  refine G_xald (pc2 := 225) dL_law_224 hX0 (by omega) (by first | decide | omega) (by first | with_reducible assumption | exact gs_eq _ _ _ _ | exact (gs_ne _ _ (by omega)).trans (by with_reducible assumption) | exact (gs_ne _ _ (by omega)).trans (gs_eq _ _ _ _) | exact (gs_ne _ _ (by omega)).trans ((gs_ne _ _ (by omega)).trans (by with_reducible assumption)) | exact (gs_ne _ _ (by omega)).trans ((gs_ne _ _ (by omega)).trans (gs_eq _ _ _ _)) | exact (gs_ne _ _ (by omega)).trans ((gs_ne _ _ (by omega)).trans ((gs_ne _ _ (by omega)).trans (by with_reducible assumption))) | rfl) rfl ?_
  refine T_aload_n (pc2 := 226) dL_law_225 rfl rfl ?_
  refine T_iload_n (pc2 := 227) dL_law_226 rfl rfl ?_
  refine T_iconst (pc2 := 228) dL_law_227 ic2 rfl ?_
  first | refine N_iadd (pc2 := 229) dL_law_228 (by with_reducible rfl) (by with_reducible rfl) rfl ?_ | refine T_iadd (pc2 := 229) dL_law_228 rfl ?_
  refine G_xald (pc2 := 230) dL_law_229 hX0 (by omega) (by first | decide | omega) (by first | with_reducible assumption | exact gs_eq _ _ _ _ | exact (gs_ne _ _ (by omega)).trans (by with_reducible assumption) | exact (gs_ne _ _ (by omega)).trans (gs_eq _ _ _ _) | exact (gs_ne _ _ (by omega)).trans ((gs_ne _ _ (by omega)).trans (by with_reducible assumption)) | exact (gs_ne _ _ (by omega)).trans ((gs_ne _ _ (by omega)).trans (gs_eq _ _ _ _)) | exact (gs_ne _ _ (by omega)).trans ((gs_ne _ _ (by omega)).trans ((gs_ne _ _ (by omega)).trans (by with_reducible assumption))) | rfl) rfl ?_
  refine T_aload_n (pc2 := 231) dL_law_230 rfl rfl ?_
  refine T_iload_n (pc2 := 232) dL_law_231 rfl rfl ?_
  refine T_iconst (pc2 := 233) dL_law_232 ic3 rfl ?_
  first | refine N_iadd (pc2 := 234) dL_law_233 (by with_reducible rfl) (by with_reducible rfl) rfl ?_ | refine T_iadd (pc2 := 234) dL_law_233 rfl ?_
  refine G_xald (pc2 := 235) dL_law_234 hX0 (by omega) (by first | decide | omega) (by first | with_reducible assumption | exact gs_eq _ _ _ _ | exact (gs_ne _ _ (by omega)).trans (by with_reducible assumption) | exact (gs_ne _ _ (by omega)).trans (gs_eq _ _ _ _) | exact (gs_ne _ _ (by omega)).trans ((gs_ne _ _ (by omega)).trans (by with_reducible assumption)) | exact (gs_ne _ _ (by omega)).trans ((gs_ne _ _ (by omega)).trans (gs_eq _ _ _ _)) | exact (gs_ne _ _ (by omega)).trans ((gs_ne _ _ (by omega)).trans ((gs_ne _ _ (by omega)).trans (by with_reducible assumption))) | rfl) rfl ?_
  refine C_V3 (pc2 := 238) (mc := 0) (ms := 0) dL_law_235 cvX8_row mlL_17 (isO.h (sh48 S) _) (Nat.le_of_ble_eq_true rfl) rfl ?_
  refine mm_row S2 hM2 hok (fun g3 hM3 hf3 => ?_)
  have hx3 : ∀ j, j < L → g3 0 j = xs j := fun j hj => by rw [hf3 0 (by omega)]; exact hx2 j hj
  refine T_icmpeq (pc2 := 241) (tgt := 1417) dL_law_238 (by decide) rfl (fun c238 => ?_) (fun c238 => ?_)
  · exact kn sk2 g3 n2 _ _ _ (by first | omega | exact Nat.le_refl _) (by first | omega | exact Nat.le_refl _) hX0 hx3 ⟨_, _, _, _, _, hJ2.m hf3⟩ hM3 (ok_row hok)
  · exact absurd rfl c238
theorem lc_set (hX0 : isX sk 0 L) (hx : ∀ j, j < L → g 0 j = xs j) (hL : L ≤ 448) (hi : i + 7 ≤ L) (hJ : JJ sk g n bf im above below nx s) (hM : InvM g s) (hok : Ok s) (kn : Kn Q d m i L xs) : T ML_law (d + 12) (144 * m + 144) (1152 * m + 1152) 243 (lawL i) [] (HP sk g n) Q := by
  have S := hJ.1
  have x1 := hx (i + 1) (by omega)
  have x2 := hx (i + 2) (by omega)
  have x3 := hx (i + 3) (by omega)
  refine T_aload_n (pc2 := 244) dL_law_243 rfl rfl ?_
  refine T_aload_n (pc2 := 245) dL_law_244 rfl rfl ?_
  refine T_iload_n (pc2 := 246) dL_law_245 rfl rfl ?_
  refine T_iconst (pc2 := 247) dL_law_246 ic1 rfl ?_
  first | refine N_iadd (pc2 := 248) dL_law_247 (by with_reducible rfl) (by with_reducible rfl) rfl ?_ | refine T_iadd (pc2 := 248) dL_law_247 rfl ?_
  refine G_xald (pc2 := 249) dL_law_248 hX0 (by omega) (by first | decide | omega) (by first | with_reducible assumption | exact gs_eq _ _ _ _ | exact (gs_ne _ _ (by omega)).trans (by with_reducible assumption) | exact (gs_ne _ _ (by omega)).trans (gs_eq _ _ _ _) | exact (gs_ne _ _ (by omega)).trans ((gs_ne _ _ (by omega)).trans (by with_reducible assumption)) | exact (gs_ne _ _ (by omega)).trans ((gs_ne _ _ (by omega)).trans (gs_eq _ _ _ _)) | exact (gs_ne _ _ (by omega)).trans ((gs_ne _ _ (by omega)).trans ((gs_ne _ _ (by omega)).trans (by with_reducible assumption))) | rfl) rfl ?_
  refine T_aload_n (pc2 := 250) dL_law_249 rfl rfl ?_
  refine T_iload_n (pc2 := 251) dL_law_250 rfl rfl ?_
  refine T_iconst (pc2 := 252) dL_law_251 ic2 rfl ?_
  first | refine N_iadd (pc2 := 253) dL_law_252 (by with_reducible rfl) (by with_reducible rfl) rfl ?_ | refine T_iadd (pc2 := 253) dL_law_252 rfl ?_
  refine G_xald (pc2 := 254) dL_law_253 hX0 (by omega) (by first | decide | omega) (by first | with_reducible assumption | exact gs_eq _ _ _ _ | exact (gs_ne _ _ (by omega)).trans (by with_reducible assumption) | exact (gs_ne _ _ (by omega)).trans (gs_eq _ _ _ _) | exact (gs_ne _ _ (by omega)).trans ((gs_ne _ _ (by omega)).trans (by with_reducible assumption)) | exact (gs_ne _ _ (by omega)).trans ((gs_ne _ _ (by omega)).trans (gs_eq _ _ _ _)) | exact (gs_ne _ _ (by omega)).trans ((gs_ne _ _ (by omega)).trans ((gs_ne _ _ (by omega)).trans (by with_reducible assumption))) | rfl) rfl ?_
  refine T_aload_n (pc2 := 255) dL_law_254 rfl rfl ?_
  refine T_iload_n (pc2 := 256) dL_law_255 rfl rfl ?_
  refine T_iconst (pc2 := 257) dL_law_256 ic3 rfl ?_
  first | refine N_iadd (pc2 := 258) dL_law_257 (by with_reducible rfl) (by with_reducible rfl) rfl ?_ | refine T_iadd (pc2 := 258) dL_law_257 rfl ?_
  refine G_xald (pc2 := 259) dL_law_258 hX0 (by omega) (by first | decide | omega) (by first | with_reducible assumption | exact gs_eq _ _ _ _ | exact (gs_ne _ _ (by omega)).trans (by with_reducible assumption) | exact (gs_ne _ _ (by omega)).trans (gs_eq _ _ _ _) | exact (gs_ne _ _ (by omega)).trans ((gs_ne _ _ (by omega)).trans (by with_reducible assumption)) | exact (gs_ne _ _ (by omega)).trans ((gs_ne _ _ (by omega)).trans (gs_eq _ _ _ _)) | exact (gs_ne _ _ (by omega)).trans ((gs_ne _ _ (by omega)).trans ((gs_ne _ _ (by omega)).trans (by with_reducible assumption))) | rfl) rfl ?_
  refine C_V3 (pc2 := 262) (mc := 0) (ms := 0) dL_law_259 cvX7_set mlL_18 (isO.h (sh4 S) _) (Nat.le_of_ble_eq_true rfl) rfl ?_
  refine j_set hJ hok (fun sk2 g2 n2 hJ2 hf2 => ?_)
  obtain ⟨bf2, im2, ab2, be2, nx2, hJ2⟩ := hJ2
  have S2 := hJ2.1
  have hX2 := hX0
  have hX0 : isX sk2 0 L := hX2.fj hf2
  have hM2 := hM.fj hf2
  have hx2 : ∀ j, j < L → g2 0 j = xs j := fun j hj => by rw [hf2.2 0 (Or.inl rfl)]; exact hx j hj
  clear S
  have S := S2
  have y1 := hx2 (i + 1) (by omega)
  have y2 := hx2 (i + 2) (by omega)
  have y3 := hx2 (i + 3) (by omega)
  refine T_aload_n (pc2 := 263) dL_law_262 rfl rfl ?_
  refine T_aload_n (pc2 := 264) dL_law_263 rfl rfl ?_
  refine T_iload_n (pc2 := 265) dL_law_264 rfl rfl ?_
  refine T_iconst (pc2 := 266) dL_law_265 ic1 rfl ?_
  first | refine N_iadd (pc2 := 267) dL_law_266 (by with_reducible rfl) (by with_reducible rfl) rfl ?_ | refine T_iadd (pc2 := 267) dL_law_266 rfl ?_
  refine G_xald (pc2 := 268) dL_law_267 hX0 (by omega) (by first | decide | omega) (by first | with_reducible assumption | exact gs_eq _ _ _ _ | exact (gs_ne _ _ (by omega)).trans (by with_reducible assumption) | exact (gs_ne _ _ (by omega)).trans (gs_eq _ _ _ _) | exact (gs_ne _ _ (by omega)).trans ((gs_ne _ _ (by omega)).trans (by with_reducible assumption)) | exact (gs_ne _ _ (by omega)).trans ((gs_ne _ _ (by omega)).trans (gs_eq _ _ _ _)) | exact (gs_ne _ _ (by omega)).trans ((gs_ne _ _ (by omega)).trans ((gs_ne _ _ (by omega)).trans (by with_reducible assumption))) | rfl) rfl ?_
  refine T_aload_n (pc2 := 269) dL_law_268 rfl rfl ?_
  refine T_iload_n (pc2 := 270) dL_law_269 rfl rfl ?_
  refine T_iconst (pc2 := 271) dL_law_270 ic2 rfl ?_
  first | refine N_iadd (pc2 := 272) dL_law_271 (by with_reducible rfl) (by with_reducible rfl) rfl ?_ | refine T_iadd (pc2 := 272) dL_law_271 rfl ?_
  refine G_xald (pc2 := 273) dL_law_272 hX0 (by omega) (by first | decide | omega) (by first | with_reducible assumption | exact gs_eq _ _ _ _ | exact (gs_ne _ _ (by omega)).trans (by with_reducible assumption) | exact (gs_ne _ _ (by omega)).trans (gs_eq _ _ _ _) | exact (gs_ne _ _ (by omega)).trans ((gs_ne _ _ (by omega)).trans (by with_reducible assumption)) | exact (gs_ne _ _ (by omega)).trans ((gs_ne _ _ (by omega)).trans (gs_eq _ _ _ _)) | exact (gs_ne _ _ (by omega)).trans ((gs_ne _ _ (by omega)).trans ((gs_ne _ _ (by omega)).trans (by with_reducible assumption))) | rfl) rfl ?_
  refine T_aload_n (pc2 := 274) dL_law_273 rfl rfl ?_
  refine T_iload_n (pc2 := 275) dL_law_274 rfl rfl ?_
  refine T_iconst (pc2 := 276) dL_law_275 ic3 rfl ?_
  first | refine N_iadd (pc2 := 277) dL_law_276 (by with_reducible rfl) (by with_reducible rfl) rfl ?_ | refine T_iadd (pc2 := 277) dL_law_276 rfl ?_
  refine G_xald (pc2 := 278) dL_law_277 hX0 (by omega) (by first | decide | omega) (by first | with_reducible assumption | exact gs_eq _ _ _ _ | exact (gs_ne _ _ (by omega)).trans (by with_reducible assumption) | exact (gs_ne _ _ (by omega)).trans (gs_eq _ _ _ _) | exact (gs_ne _ _ (by omega)).trans ((gs_ne _ _ (by omega)).trans (by with_reducible assumption)) | exact (gs_ne _ _ (by omega)).trans ((gs_ne _ _ (by omega)).trans (gs_eq _ _ _ _)) | exact (gs_ne _ _ (by omega)).trans ((gs_ne _ _ (by omega)).trans ((gs_ne _ _ (by omega)).trans (by with_reducible assumption))) | rfl) rfl ?_
  refine C_V3 (pc2 := 281) (mc := 0) (ms := 0) dL_law_278 cvX8_set mlL_21 (isO.h (sh48 S) _) (Nat.le_of_ble_eq_true rfl) rfl ?_
  refine mm_set S2 hM2 hok (fun g3 hM3 hf3 => ?_)
  have hx3 : ∀ j, j < L → g3 0 j = xs j := fun j hj => by rw [hf3 0 (by omega)]; exact hx2 j hj
  refine T_icmpeq (pc2 := 284) (tgt := 1417) dL_law_281 (by decide) rfl (fun c281 => ?_) (fun c281 => ?_)
  · exact kn sk2 g3 n2 _ _ _ (by first | omega | exact Nat.le_refl _) (by first | omega | exact Nat.le_refl _) hX0 hx3 ⟨_, _, _, _, _, hJ2.m hf3⟩ hM3 (ok_set hok)
  · exact absurd rfl c281
theorem lc_copy (hX0 : isX sk 0 L) (hx : ∀ j, j < L → g 0 j = xs j) (hL : L ≤ 448) (hi : i + 7 ≤ L) (hJ : JJ sk g n bf im above below nx s) (hM : InvM g s) (hok : Ok s) (kn : Kn Q d m i L xs) : T ML_law (d + 12) (144 * m + 144) (1152 * m + 1152) 286 (lawL i) [] (HP sk g n) Q := by
  have S := hJ.1
  have x1 := hx (i + 1) (by omega)
  have x2 := hx (i + 2) (by omega)
  have x3 := hx (i + 3) (by omega)
  have x4 := hx (i + 4) (by omega)
  have x5 := hx (i + 5) (by omega)
  refine T_aload_n (pc2 := 287) dL_law_286 rfl rfl ?_
  refine T_aload_n (pc2 := 288) dL_law_287 rfl rfl ?_
  refine T_iload_n (pc2 := 289) dL_law_288 rfl rfl ?_
  refine T_iconst (pc2 := 290) dL_law_289 ic1 rfl ?_
  first | refine N_iadd (pc2 := 291) dL_law_290 (by with_reducible rfl) (by with_reducible rfl) rfl ?_ | refine T_iadd (pc2 := 291) dL_law_290 rfl ?_
  refine G_xald (pc2 := 292) dL_law_291 hX0 (by omega) (by first | decide | omega) (by first | with_reducible assumption | exact gs_eq _ _ _ _ | exact (gs_ne _ _ (by omega)).trans (by with_reducible assumption) | exact (gs_ne _ _ (by omega)).trans (gs_eq _ _ _ _) | exact (gs_ne _ _ (by omega)).trans ((gs_ne _ _ (by omega)).trans (by with_reducible assumption)) | exact (gs_ne _ _ (by omega)).trans ((gs_ne _ _ (by omega)).trans (gs_eq _ _ _ _)) | exact (gs_ne _ _ (by omega)).trans ((gs_ne _ _ (by omega)).trans ((gs_ne _ _ (by omega)).trans (by with_reducible assumption))) | rfl) rfl ?_
  refine T_aload_n (pc2 := 293) dL_law_292 rfl rfl ?_
  refine T_iload_n (pc2 := 294) dL_law_293 rfl rfl ?_
  refine T_iconst (pc2 := 295) dL_law_294 ic2 rfl ?_
  first | refine N_iadd (pc2 := 296) dL_law_295 (by with_reducible rfl) (by with_reducible rfl) rfl ?_ | refine T_iadd (pc2 := 296) dL_law_295 rfl ?_
  refine G_xald (pc2 := 297) dL_law_296 hX0 (by omega) (by first | decide | omega) (by first | with_reducible assumption | exact gs_eq _ _ _ _ | exact (gs_ne _ _ (by omega)).trans (by with_reducible assumption) | exact (gs_ne _ _ (by omega)).trans (gs_eq _ _ _ _) | exact (gs_ne _ _ (by omega)).trans ((gs_ne _ _ (by omega)).trans (by with_reducible assumption)) | exact (gs_ne _ _ (by omega)).trans ((gs_ne _ _ (by omega)).trans (gs_eq _ _ _ _)) | exact (gs_ne _ _ (by omega)).trans ((gs_ne _ _ (by omega)).trans ((gs_ne _ _ (by omega)).trans (by with_reducible assumption))) | rfl) rfl ?_
  refine T_aload_n (pc2 := 298) dL_law_297 rfl rfl ?_
  refine T_iload_n (pc2 := 299) dL_law_298 rfl rfl ?_
  refine T_iconst (pc2 := 300) dL_law_299 ic3 rfl ?_
  first | refine N_iadd (pc2 := 301) dL_law_300 (by with_reducible rfl) (by with_reducible rfl) rfl ?_ | refine T_iadd (pc2 := 301) dL_law_300 rfl ?_
  refine G_xald (pc2 := 302) dL_law_301 hX0 (by omega) (by first | decide | omega) (by first | with_reducible assumption | exact gs_eq _ _ _ _ | exact (gs_ne _ _ (by omega)).trans (by with_reducible assumption) | exact (gs_ne _ _ (by omega)).trans (gs_eq _ _ _ _) | exact (gs_ne _ _ (by omega)).trans ((gs_ne _ _ (by omega)).trans (by with_reducible assumption)) | exact (gs_ne _ _ (by omega)).trans ((gs_ne _ _ (by omega)).trans (gs_eq _ _ _ _)) | exact (gs_ne _ _ (by omega)).trans ((gs_ne _ _ (by omega)).trans ((gs_ne _ _ (by omega)).trans (by with_reducible assumption))) | rfl) rfl ?_
  refine T_aload_n (pc2 := 303) dL_law_302 rfl rfl ?_
  refine T_iload_n (pc2 := 304) dL_law_303 rfl rfl ?_
  refine T_iconst (pc2 := 305) dL_law_304 ic4 rfl ?_
  first | refine N_iadd (pc2 := 306) dL_law_305 (by with_reducible rfl) (by with_reducible rfl) rfl ?_ | refine T_iadd (pc2 := 306) dL_law_305 rfl ?_
  refine G_xald (pc2 := 307) dL_law_306 hX0 (by omega) (by first | decide | omega) (by first | with_reducible assumption | exact gs_eq _ _ _ _ | exact (gs_ne _ _ (by omega)).trans (by with_reducible assumption) | exact (gs_ne _ _ (by omega)).trans (gs_eq _ _ _ _) | exact (gs_ne _ _ (by omega)).trans ((gs_ne _ _ (by omega)).trans (by with_reducible assumption)) | exact (gs_ne _ _ (by omega)).trans ((gs_ne _ _ (by omega)).trans (gs_eq _ _ _ _)) | exact (gs_ne _ _ (by omega)).trans ((gs_ne _ _ (by omega)).trans ((gs_ne _ _ (by omega)).trans (by with_reducible assumption))) | rfl) rfl ?_
  refine T_aload_n (pc2 := 308) dL_law_307 rfl rfl ?_
  refine T_iload_n (pc2 := 309) dL_law_308 rfl rfl ?_
  refine T_iconst (pc2 := 310) dL_law_309 ic5 rfl ?_
  first | refine N_iadd (pc2 := 311) dL_law_310 (by with_reducible rfl) (by with_reducible rfl) rfl ?_ | refine T_iadd (pc2 := 311) dL_law_310 rfl ?_
  refine G_xald (pc2 := 312) dL_law_311 hX0 (by omega) (by first | decide | omega) (by first | with_reducible assumption | exact gs_eq _ _ _ _ | exact (gs_ne _ _ (by omega)).trans (by with_reducible assumption) | exact (gs_ne _ _ (by omega)).trans (gs_eq _ _ _ _) | exact (gs_ne _ _ (by omega)).trans ((gs_ne _ _ (by omega)).trans (by with_reducible assumption)) | exact (gs_ne _ _ (by omega)).trans ((gs_ne _ _ (by omega)).trans (gs_eq _ _ _ _)) | exact (gs_ne _ _ (by omega)).trans ((gs_ne _ _ (by omega)).trans ((gs_ne _ _ (by omega)).trans (by with_reducible assumption))) | rfl) rfl ?_
  refine C_V5 (pc2 := 315) (mc := 0) (ms := 0) dL_law_312 cvX7_copy mlL_22 (isO.h (sh4 S) _) (Nat.le_of_ble_eq_true rfl) rfl ?_
  refine j_copy hJ hok (fun sk2 g2 n2 hJ2 hf2 => ?_)
  obtain ⟨bf2, im2, ab2, be2, nx2, hJ2⟩ := hJ2
  have S2 := hJ2.1
  have hX2 := hX0
  have hX0 : isX sk2 0 L := hX2.fj hf2
  have hM2 := hM.fj hf2
  have hx2 : ∀ j, j < L → g2 0 j = xs j := fun j hj => by rw [hf2.2 0 (Or.inl rfl)]; exact hx j hj
  clear S
  have S := S2
  have y1 := hx2 (i + 1) (by omega)
  have y2 := hx2 (i + 2) (by omega)
  have y3 := hx2 (i + 3) (by omega)
  have y4 := hx2 (i + 4) (by omega)
  have y5 := hx2 (i + 5) (by omega)
  refine T_aload_n (pc2 := 316) dL_law_315 rfl rfl ?_
  refine T_aload_n (pc2 := 317) dL_law_316 rfl rfl ?_
  refine T_iload_n (pc2 := 318) dL_law_317 rfl rfl ?_
  refine T_iconst (pc2 := 319) dL_law_318 ic1 rfl ?_
  first | refine N_iadd (pc2 := 320) dL_law_319 (by with_reducible rfl) (by with_reducible rfl) rfl ?_ | refine T_iadd (pc2 := 320) dL_law_319 rfl ?_
  refine G_xald (pc2 := 321) dL_law_320 hX0 (by omega) (by first | decide | omega) (by first | with_reducible assumption | exact gs_eq _ _ _ _ | exact (gs_ne _ _ (by omega)).trans (by with_reducible assumption) | exact (gs_ne _ _ (by omega)).trans (gs_eq _ _ _ _) | exact (gs_ne _ _ (by omega)).trans ((gs_ne _ _ (by omega)).trans (by with_reducible assumption)) | exact (gs_ne _ _ (by omega)).trans ((gs_ne _ _ (by omega)).trans (gs_eq _ _ _ _)) | exact (gs_ne _ _ (by omega)).trans ((gs_ne _ _ (by omega)).trans ((gs_ne _ _ (by omega)).trans (by with_reducible assumption))) | rfl) rfl ?_
  refine T_aload_n (pc2 := 322) dL_law_321 rfl rfl ?_
  refine T_iload_n (pc2 := 323) dL_law_322 rfl rfl ?_
  refine T_iconst (pc2 := 324) dL_law_323 ic2 rfl ?_
  first | refine N_iadd (pc2 := 325) dL_law_324 (by with_reducible rfl) (by with_reducible rfl) rfl ?_ | refine T_iadd (pc2 := 325) dL_law_324 rfl ?_
  refine G_xald (pc2 := 326) dL_law_325 hX0 (by omega) (by first | decide | omega) (by first | with_reducible assumption | exact gs_eq _ _ _ _ | exact (gs_ne _ _ (by omega)).trans (by with_reducible assumption) | exact (gs_ne _ _ (by omega)).trans (gs_eq _ _ _ _) | exact (gs_ne _ _ (by omega)).trans ((gs_ne _ _ (by omega)).trans (by with_reducible assumption)) | exact (gs_ne _ _ (by omega)).trans ((gs_ne _ _ (by omega)).trans (gs_eq _ _ _ _)) | exact (gs_ne _ _ (by omega)).trans ((gs_ne _ _ (by omega)).trans ((gs_ne _ _ (by omega)).trans (by with_reducible assumption))) | rfl) rfl ?_
  refine T_aload_n (pc2 := 327) dL_law_326 rfl rfl ?_
  refine T_iload_n (pc2 := 328) dL_law_327 rfl rfl ?_
  refine T_iconst (pc2 := 329) dL_law_328 ic3 rfl ?_
  first | refine N_iadd (pc2 := 330) dL_law_329 (by with_reducible rfl) (by with_reducible rfl) rfl ?_ | refine T_iadd (pc2 := 330) dL_law_329 rfl ?_
  refine G_xald (pc2 := 331) dL_law_330 hX0 (by omega) (by first | decide | omega) (by first | with_reducible assumption | exact gs_eq _ _ _ _ | exact (gs_ne _ _ (by omega)).trans (by with_reducible assumption) | exact (gs_ne _ _ (by omega)).trans (gs_eq _ _ _ _) | exact (gs_ne _ _ (by omega)).trans ((gs_ne _ _ (by omega)).trans (by with_reducible assumption)) | exact (gs_ne _ _ (by omega)).trans ((gs_ne _ _ (by omega)).trans (gs_eq _ _ _ _)) | exact (gs_ne _ _ (by omega)).trans ((gs_ne _ _ (by omega)).trans ((gs_ne _ _ (by omega)).trans (by with_reducible assumption))) | rfl) rfl ?_
  refine T_aload_n (pc2 := 332) dL_law_331 rfl rfl ?_
  refine T_iload_n (pc2 := 333) dL_law_332 rfl rfl ?_
  refine T_iconst (pc2 := 334) dL_law_333 ic4 rfl ?_
  first | refine N_iadd (pc2 := 335) dL_law_334 (by with_reducible rfl) (by with_reducible rfl) rfl ?_ | refine T_iadd (pc2 := 335) dL_law_334 rfl ?_
  refine G_xald (pc2 := 336) dL_law_335 hX0 (by omega) (by first | decide | omega) (by first | with_reducible assumption | exact gs_eq _ _ _ _ | exact (gs_ne _ _ (by omega)).trans (by with_reducible assumption) | exact (gs_ne _ _ (by omega)).trans (gs_eq _ _ _ _) | exact (gs_ne _ _ (by omega)).trans ((gs_ne _ _ (by omega)).trans (by with_reducible assumption)) | exact (gs_ne _ _ (by omega)).trans ((gs_ne _ _ (by omega)).trans (gs_eq _ _ _ _)) | exact (gs_ne _ _ (by omega)).trans ((gs_ne _ _ (by omega)).trans ((gs_ne _ _ (by omega)).trans (by with_reducible assumption))) | rfl) rfl ?_
  refine T_aload_n (pc2 := 337) dL_law_336 rfl rfl ?_
  refine T_iload_n (pc2 := 338) dL_law_337 rfl rfl ?_
  refine T_iconst (pc2 := 339) dL_law_338 ic5 rfl ?_
  first | refine N_iadd (pc2 := 340) dL_law_339 (by with_reducible rfl) (by with_reducible rfl) rfl ?_ | refine T_iadd (pc2 := 340) dL_law_339 rfl ?_
  refine G_xald (pc2 := 341) dL_law_340 hX0 (by omega) (by first | decide | omega) (by first | with_reducible assumption | exact gs_eq _ _ _ _ | exact (gs_ne _ _ (by omega)).trans (by with_reducible assumption) | exact (gs_ne _ _ (by omega)).trans (gs_eq _ _ _ _) | exact (gs_ne _ _ (by omega)).trans ((gs_ne _ _ (by omega)).trans (by with_reducible assumption)) | exact (gs_ne _ _ (by omega)).trans ((gs_ne _ _ (by omega)).trans (gs_eq _ _ _ _)) | exact (gs_ne _ _ (by omega)).trans ((gs_ne _ _ (by omega)).trans ((gs_ne _ _ (by omega)).trans (by with_reducible assumption))) | rfl) rfl ?_
  refine C_V5 (pc2 := 344) (mc := 0) (ms := 0) dL_law_341 cvX8_copy mlL_26 (isO.h (sh48 S) _) (Nat.le_of_ble_eq_true rfl) rfl ?_
  refine mm_copy S2 hM2 hok (fun g3 hM3 hf3 => ?_)
  have hx3 : ∀ j, j < L → g3 0 j = xs j := fun j hj => by rw [hf3 0 (by omega)]; exact hx2 j hj
  refine T_icmpeq (pc2 := 347) (tgt := 1417) dL_law_344 (by decide) rfl (fun c344 => ?_) (fun c344 => ?_)
  · exact kn sk2 g3 n2 _ _ _ (by first | omega | exact Nat.le_refl _) (by first | omega | exact Nat.le_refl _) hX0 hx3 ⟨_, _, _, _, _, hJ2.m hf3⟩ hM3 (ok_copy hok)
  · exact absurd rfl c344
theorem lc_drop (hX0 : isX sk 0 L) (hx : ∀ j, j < L → g 0 j = xs j) (hL : L ≤ 448) (hi : i + 7 ≤ L) (hJ : JJ sk g n bf im above below nx s) (hM : InvM g s) (hok : Ok s) (kn : Kn Q d m i L xs) : T ML_law (d + 12) (144 * m + 144) (1152 * m + 1152) 349 (lawL i) [] (HP sk g n) Q := by
  have S := hJ.1
  have x1 := hx (i + 1) (by omega)
  refine T_aload_n (pc2 := 350) dL_law_349 rfl rfl ?_
  refine T_aload_n (pc2 := 351) dL_law_350 rfl rfl ?_
  refine T_iload_n (pc2 := 352) dL_law_351 rfl rfl ?_
  refine T_iconst (pc2 := 353) dL_law_352 ic1 rfl ?_
  first | refine N_iadd (pc2 := 354) dL_law_353 (by with_reducible rfl) (by with_reducible rfl) rfl ?_ | refine T_iadd (pc2 := 354) dL_law_353 rfl ?_
  refine G_xald (pc2 := 355) dL_law_354 hX0 (by omega) (by first | decide | omega) (by first | with_reducible assumption | exact gs_eq _ _ _ _ | exact (gs_ne _ _ (by omega)).trans (by with_reducible assumption) | exact (gs_ne _ _ (by omega)).trans (gs_eq _ _ _ _) | exact (gs_ne _ _ (by omega)).trans ((gs_ne _ _ (by omega)).trans (by with_reducible assumption)) | exact (gs_ne _ _ (by omega)).trans ((gs_ne _ _ (by omega)).trans (gs_eq _ _ _ _)) | exact (gs_ne _ _ (by omega)).trans ((gs_ne _ _ (by omega)).trans ((gs_ne _ _ (by omega)).trans (by with_reducible assumption))) | rfl) rfl ?_
  refine C_V1 (pc2 := 358) (mc := 0) (ms := 0) dL_law_355 cvX7_drop mlL_27 (isO.h (sh4 S) _) (Nat.le_of_ble_eq_true rfl) rfl ?_
  refine j_drop hJ hok (fun sk2 g2 n2 hJ2 hf2 => ?_)
  obtain ⟨bf2, im2, ab2, be2, nx2, hJ2⟩ := hJ2
  have S2 := hJ2.1
  have hX2 := hX0
  have hX0 : isX sk2 0 L := hX2.fj hf2
  have hM2 := hM.fj hf2
  have hx2 : ∀ j, j < L → g2 0 j = xs j := fun j hj => by rw [hf2.2 0 (Or.inl rfl)]; exact hx j hj
  clear S
  have S := S2
  have y1 := hx2 (i + 1) (by omega)
  refine T_aload_n (pc2 := 359) dL_law_358 rfl rfl ?_
  refine T_aload_n (pc2 := 360) dL_law_359 rfl rfl ?_
  refine T_iload_n (pc2 := 361) dL_law_360 rfl rfl ?_
  refine T_iconst (pc2 := 362) dL_law_361 ic1 rfl ?_
  first | refine N_iadd (pc2 := 363) dL_law_362 (by with_reducible rfl) (by with_reducible rfl) rfl ?_ | refine T_iadd (pc2 := 363) dL_law_362 rfl ?_
  refine G_xald (pc2 := 364) dL_law_363 hX0 (by omega) (by first | decide | omega) (by first | with_reducible assumption | exact gs_eq _ _ _ _ | exact (gs_ne _ _ (by omega)).trans (by with_reducible assumption) | exact (gs_ne _ _ (by omega)).trans (gs_eq _ _ _ _) | exact (gs_ne _ _ (by omega)).trans ((gs_ne _ _ (by omega)).trans (by with_reducible assumption)) | exact (gs_ne _ _ (by omega)).trans ((gs_ne _ _ (by omega)).trans (gs_eq _ _ _ _)) | exact (gs_ne _ _ (by omega)).trans ((gs_ne _ _ (by omega)).trans ((gs_ne _ _ (by omega)).trans (by with_reducible assumption))) | rfl) rfl ?_
  refine C_V1 (pc2 := 367) (mc := 0) (ms := 0) dL_law_364 cvX8_drop mlL_31 (isO.h (sh48 S) _) (Nat.le_of_ble_eq_true rfl) rfl ?_
  refine mm_drop S2 hM2 hok (fun g3 hM3 hf3 => ?_)
  have hx3 : ∀ j, j < L → g3 0 j = xs j := fun j hj => by rw [hf3 0 (by omega)]; exact hx2 j hj
  refine T_icmpeq (pc2 := 370) (tgt := 1417) dL_law_367 (by decide) rfl (fun c367 => ?_) (fun c367 => ?_)
  · exact kn sk2 g3 n2 _ _ _ (by first | omega | exact Nat.le_refl _) (by first | omega | exact Nat.le_refl _) hX0 hx3 ⟨_, _, _, _, _, hJ2.m hf3⟩ hM3 (ok_drop hok)
  · exact absurd rfl c367
theorem lc_feed (hX0 : isX sk 0 L) (hx : ∀ j, j < L → g 0 j = xs j) (hL : L ≤ 448) (hi : i + 7 ≤ L) (hJ : JJ sk g n bf im above below nx s) (hM : InvM g s) (hok : Ok s) (kn : Kn Q d m i L xs) : T ML_law (d + 12) (144 * m + 144) (1152 * m + 1152) 372 (lawL i) [] (HP sk g n) Q := by
  have S := hJ.1
  have x1 := hx (i + 1) (by omega)
  refine T_aload_n (pc2 := 373) dL_law_372 rfl rfl ?_
  refine T_aload_n (pc2 := 374) dL_law_373 rfl rfl ?_
  refine T_iload_n (pc2 := 375) dL_law_374 rfl rfl ?_
  refine T_iconst (pc2 := 376) dL_law_375 ic1 rfl ?_
  first | refine N_iadd (pc2 := 377) dL_law_376 (by with_reducible rfl) (by with_reducible rfl) rfl ?_ | refine T_iadd (pc2 := 377) dL_law_376 rfl ?_
  refine G_xald (pc2 := 378) dL_law_377 hX0 (by omega) (by first | decide | omega) (by first | with_reducible assumption | exact gs_eq _ _ _ _ | exact (gs_ne _ _ (by omega)).trans (by with_reducible assumption) | exact (gs_ne _ _ (by omega)).trans (gs_eq _ _ _ _) | exact (gs_ne _ _ (by omega)).trans ((gs_ne _ _ (by omega)).trans (by with_reducible assumption)) | exact (gs_ne _ _ (by omega)).trans ((gs_ne _ _ (by omega)).trans (gs_eq _ _ _ _)) | exact (gs_ne _ _ (by omega)).trans ((gs_ne _ _ (by omega)).trans ((gs_ne _ _ (by omega)).trans (by with_reducible assumption))) | rfl) rfl ?_
  refine C_V1 (pc2 := 381) (mc := 0) (ms := 0) dL_law_378 cvX7_feed mlL_32 (isO.h (sh4 S) _) (Nat.le_of_ble_eq_true rfl) rfl ?_
  refine j_feed hJ hok (fun sk2 g2 n2 hJ2 hf2 => ?_)
  obtain ⟨bf2, im2, ab2, be2, nx2, hJ2⟩ := hJ2
  have S2 := hJ2.1
  have hX2 := hX0
  have hX0 : isX sk2 0 L := hX2.fj hf2
  have hM2 := hM.fj hf2
  have hx2 : ∀ j, j < L → g2 0 j = xs j := fun j hj => by rw [hf2.2 0 (Or.inl rfl)]; exact hx j hj
  clear S
  have S := S2
  have y1 := hx2 (i + 1) (by omega)
  refine T_aload_n (pc2 := 382) dL_law_381 rfl rfl ?_
  refine T_aload_n (pc2 := 383) dL_law_382 rfl rfl ?_
  refine T_iload_n (pc2 := 384) dL_law_383 rfl rfl ?_
  refine T_iconst (pc2 := 385) dL_law_384 ic1 rfl ?_
  first | refine N_iadd (pc2 := 386) dL_law_385 (by with_reducible rfl) (by with_reducible rfl) rfl ?_ | refine T_iadd (pc2 := 386) dL_law_385 rfl ?_
  refine G_xald (pc2 := 387) dL_law_386 hX0 (by omega) (by first | decide | omega) (by first | with_reducible assumption | exact gs_eq _ _ _ _ | exact (gs_ne _ _ (by omega)).trans (by with_reducible assumption) | exact (gs_ne _ _ (by omega)).trans (gs_eq _ _ _ _) | exact (gs_ne _ _ (by omega)).trans ((gs_ne _ _ (by omega)).trans (by with_reducible assumption)) | exact (gs_ne _ _ (by omega)).trans ((gs_ne _ _ (by omega)).trans (gs_eq _ _ _ _)) | exact (gs_ne _ _ (by omega)).trans ((gs_ne _ _ (by omega)).trans ((gs_ne _ _ (by omega)).trans (by with_reducible assumption))) | rfl) rfl ?_
  refine C_V1 (pc2 := 390) (mc := 0) (ms := 0) dL_law_387 cvX8_feed mlL_35 (isO.h (sh48 S) _) (Nat.le_of_ble_eq_true rfl) rfl ?_
  refine mm_feed S2 hM2 hok (fun g3 hM3 hf3 => ?_)
  have hx3 : ∀ j, j < L → g3 0 j = xs j := fun j hj => by rw [hf3 0 (by omega)]; exact hx2 j hj
  refine T_icmpeq (pc2 := 393) (tgt := 1417) dL_law_390 (by decide) rfl (fun c390 => ?_) (fun c390 => ?_)
  · exact kn sk2 g3 n2 _ _ _ (by first | omega | exact Nat.le_refl _) (by first | omega | exact Nat.le_refl _) hX0 hx3 ⟨_, _, _, _, _, hJ2.m hf3⟩ hM3 (ok_feed hok)
  · exact absurd rfl c390
theorem lc_cellar (hX0 : isX sk 0 L) (hx : ∀ j, j < L → g 0 j = xs j) (hL : L ≤ 448) (hi : i + 7 ≤ L) (hJ : JJ sk g n bf im above below nx s) (hM : InvM g s) (hok : Ok s) (kn : Kn Q d m i L xs) : T ML_law (d + 12) (144 * m + 144) (1152 * m + 1152) 395 (lawL i) [] (HP sk g n) Q := by
  have S := hJ.1
  refine T_aload_n (pc2 := 396) dL_law_395 rfl rfl ?_
  refine C_V0 (pc2 := 399) (mc := 0) (ms := 0) dL_law_396 cvX7_cellar mlL_36 (isO.h (sh4 S) _) (Nat.le_of_ble_eq_true rfl) rfl ?_
  refine j_cellar hJ hok (fun sk2 g2 n2 hJ2 hf2 => ?_)
  obtain ⟨bf2, im2, ab2, be2, nx2, hJ2⟩ := hJ2
  have S2 := hJ2.1
  have hX2 := hX0
  have hX0 : isX sk2 0 L := hX2.fj hf2
  have hM2 := hM.fj hf2
  have hx2 : ∀ j, j < L → g2 0 j = xs j := fun j hj => by rw [hf2.2 0 (Or.inl rfl)]; exact hx j hj
  clear S
  have S := S2
  refine T_aload_n (pc2 := 400) dL_law_399 rfl rfl ?_
  refine C_V0 (pc2 := 403) (mc := 0) (ms := 0) dL_law_400 cvX8_cellar mlL_40 (isO.h (sh48 S) _) (Nat.le_of_ble_eq_true rfl) rfl ?_
  refine mm_cellar S2 hM2 hok (fun g3 hM3 hf3 => ?_)
  have hx3 : ∀ j, j < L → g3 0 j = xs j := fun j hj => by rw [hf3 0 (by omega)]; exact hx2 j hj
  refine T_icmpeq (pc2 := 406) (tgt := 1417) dL_law_403 (by decide) rfl (fun c403 => ?_) (fun c403 => ?_)
  · exact kn sk2 g3 n2 _ _ _ (by first | omega | exact Nat.le_refl _) (by first | omega | exact Nat.le_refl _) hX0 hx3 ⟨_, _, _, _, _, hJ2.m hf3⟩ hM3 (ok_cellar hok)
  · exact absurd rfl c403
theorem lc_fault (hX0 : isX sk 0 L) (hx : ∀ j, j < L → g 0 j = xs j) (hL : L ≤ 448) (hi : i + 7 ≤ L) (hJ : JJ sk g n bf im above below nx s) (hM : InvM g s) (hok : Ok s) (kn : Kn Q d m i L xs) : T ML_law (d + 12) (144 * m + 144) (1152 * m + 1152) 408 (lawL i) [] (HP sk g n) Q := by
  have S := hJ.1
  refine T_aload_n (pc2 := 409) dL_law_408 rfl rfl ?_
  refine C_V0 (pc2 := 412) (mc := 0) (ms := 0) dL_law_409 cvX7_fault mlL_41 (isO.h (sh4 S) _) (Nat.le_of_ble_eq_true rfl) rfl ?_
  refine j_fault hJ (fun sk2 g2 n2 hJ2 hf2 => ?_)
  obtain ⟨bf2, im2, ab2, be2, nx2, hJ2⟩ := hJ2
  have S2 := hJ2.1
  have hX2 := hX0
  have hX0 : isX sk2 0 L := hX2.fj hf2
  have hM2 := hM.fj hf2
  have hx2 : ∀ j, j < L → g2 0 j = xs j := fun j hj => by rw [hf2.2 0 (Or.inl rfl)]; exact hx j hj
  clear S
  have S := S2
  refine T_aload_n (pc2 := 413) dL_law_412 rfl rfl ?_
  refine C_V0 (pc2 := 416) (mc := 0) (ms := 0) dL_law_413 cvX8_fault mlL_44 (isO.h (sh48 S) _) (Nat.le_of_ble_eq_true rfl) rfl ?_
  refine mm_fault S2 hM2 (fun g3 hM3 hf3 => ?_)
  have hx3 : ∀ j, j < L → g3 0 j = xs j := fun j hj => by rw [hf3 0 (by omega)]; exact hx2 j hj
  refine T_icmpeq (pc2 := 419) (tgt := 1417) dL_law_416 (by decide) rfl (fun c416 => ?_) (fun c416 => ?_)
  · exact kn sk2 g3 n2 _ _ _ (by first | omega | exact Nat.le_refl _) (by first | omega | exact Nat.le_refl _) hX0 hx3 ⟨_, _, _, _, _, hJ2.m hf3⟩ hM3 hok
  · exact absurd rfl c416
theorem lc_undo (hX0 : isX sk 0 L) (hx : ∀ j, j < L → g 0 j = xs j) (hL : L ≤ 448) (hi : i + 7 ≤ L) (hJ : JJ sk g n bf im above below nx s) (hM : InvM g s) (hok : Ok s) (kn : Kn Q d m i L xs) : T ML_law (d + 12) (144 * m + 144) (1152 * m + 1152) 421 (lawL i) [] (HP sk g n) Q := by
  have S := hJ.1
  refine T_aload_n (pc2 := 422) dL_law_421 rfl rfl ?_
  refine C_V0 (pc2 := 425) (mc := 0) (ms := 0) dL_law_422 cvX7_undo mlL_45 (isO.h (sh4 S) _) (Nat.le_of_ble_eq_true rfl) rfl ?_
  refine j_undo hJ hok (fun sk2 g2 n2 hJ2 hf2 => ?_)
  obtain ⟨bf2, im2, ab2, be2, nx2, hJ2⟩ := hJ2
  have S2 := hJ2.1
  have hX2 := hX0
  have hX0 : isX sk2 0 L := hX2.fj hf2
  have hM2 := hM.fj hf2
  have hx2 : ∀ j, j < L → g2 0 j = xs j := fun j hj => by rw [hf2.2 0 (Or.inl rfl)]; exact hx j hj
  clear S
  have S := S2
  refine T_aload_n (pc2 := 426) dL_law_425 rfl rfl ?_
  refine C_V0 (pc2 := 429) (mc := 0) (ms := 0) dL_law_426 cvX8_undo mlL_48 (isO.h (sh48 S) _) (Nat.le_of_ble_eq_true rfl) rfl ?_
  refine mm_undo S2 hM2 hok (fun g3 hM3 hf3 => ?_)
  have hx3 : ∀ j, j < L → g3 0 j = xs j := fun j hj => by rw [hf3 0 (by omega)]; exact hx2 j hj
  refine T_icmpeq (pc2 := 432) (tgt := 1417) dL_law_429 (by decide) rfl (fun c429 => ?_) (fun c429 => ?_)
  · exact kn sk2 g3 n2 _ _ _ (by first | omega | exact Nat.le_refl _) (by first | omega | exact Nat.le_refl _) hX0 hx3 ⟨_, _, _, _, _, hJ2.m hf3⟩ hM3 (ok_undo hok)
  · exact absurd rfl c429
theorem lc_years (hX0 : isX sk 0 L) (hx : ∀ j, j < L → g 0 j = xs j) (hL : L ≤ 448) (hi : i + 7 ≤ L) (hJ : JJ sk g n bf im above below nx s) (hM : InvM g s) (hok : Ok s) (kn : Kn Q d m i L xs) : T ML_law (d + 12) (144 * m + 144) (1152 * m + 1152) 434 (lawL i) [] (HP sk g n) Q := by
  have S := hJ.1
  have x1 := hx (i + 1) (by omega)
  refine T_aload_n (pc2 := 435) dL_law_434 rfl rfl ?_
  refine T_aload_n (pc2 := 436) dL_law_435 rfl rfl ?_
  refine T_iload_n (pc2 := 437) dL_law_436 rfl rfl ?_
  refine T_iconst (pc2 := 438) dL_law_437 ic1 rfl ?_
  first | refine N_iadd (pc2 := 439) dL_law_438 (by with_reducible rfl) (by with_reducible rfl) rfl ?_ | refine T_iadd (pc2 := 439) dL_law_438 rfl ?_
  refine G_xald (pc2 := 440) dL_law_439 hX0 (by omega) (by first | decide | omega) (by first | with_reducible assumption | exact gs_eq _ _ _ _ | exact (gs_ne _ _ (by omega)).trans (by with_reducible assumption) | exact (gs_ne _ _ (by omega)).trans (gs_eq _ _ _ _) | exact (gs_ne _ _ (by omega)).trans ((gs_ne _ _ (by omega)).trans (by with_reducible assumption)) | exact (gs_ne _ _ (by omega)).trans ((gs_ne _ _ (by omega)).trans (gs_eq _ _ _ _)) | exact (gs_ne _ _ (by omega)).trans ((gs_ne _ _ (by omega)).trans ((gs_ne _ _ (by omega)).trans (by with_reducible assumption))) | rfl) rfl ?_
  refine C_V1 (pc2 := 443) (mc := 144) (ms := 1152) dL_law_440 cvX7_years mlL_49 (isO.h (sh4 S) _) (Nat.le_of_ble_eq_true rfl) rfl ?_
  refine j_years hJ hok (fun sk2 g2 n2 hJ2 hf2 => ?_)
  obtain ⟨bf2, im2, ab2, be2, nx2, hJ2⟩ := hJ2
  have S2 := hJ2.1
  have hX2 := hX0
  have hX0 : isX sk2 0 L := hX2.fj hf2
  have hM2 := hM.fj hf2
  have hx2 : ∀ j, j < L → g2 0 j = xs j := fun j hj => by rw [hf2.2 0 (Or.inl rfl)]; exact hx j hj
  clear S
  have S := S2
  have y1 := hx2 (i + 1) (by omega)
  refine T_aload_n (pc2 := 444) dL_law_443 rfl rfl ?_
  refine T_aload_n (pc2 := 445) dL_law_444 rfl rfl ?_
  refine T_iload_n (pc2 := 446) dL_law_445 rfl rfl ?_
  refine T_iconst (pc2 := 447) dL_law_446 ic1 rfl ?_
  first | refine N_iadd (pc2 := 448) dL_law_447 (by with_reducible rfl) (by with_reducible rfl) rfl ?_ | refine T_iadd (pc2 := 448) dL_law_447 rfl ?_
  refine G_xald (pc2 := 449) dL_law_448 hX0 (by omega) (by first | decide | omega) (by first | with_reducible assumption | exact gs_eq _ _ _ _ | exact (gs_ne _ _ (by omega)).trans (by with_reducible assumption) | exact (gs_ne _ _ (by omega)).trans (gs_eq _ _ _ _) | exact (gs_ne _ _ (by omega)).trans ((gs_ne _ _ (by omega)).trans (by with_reducible assumption)) | exact (gs_ne _ _ (by omega)).trans ((gs_ne _ _ (by omega)).trans (gs_eq _ _ _ _)) | exact (gs_ne _ _ (by omega)).trans ((gs_ne _ _ (by omega)).trans ((gs_ne _ _ (by omega)).trans (by with_reducible assumption))) | rfl) rfl ?_
  refine C_V1 (pc2 := 452) (mc := 0) (ms := 0) dL_law_449 cvX8_years mlL_52 (isO.h (sh48 S) _) (Nat.le_of_ble_eq_true rfl) rfl ?_
  refine mm_years S2 hM2 hok (fun g3 hM3 hf3 => ?_)
  have hx3 : ∀ j, j < L → g3 0 j = xs j := fun j hj => by rw [hf3 0 (by omega)]; exact hx2 j hj
  refine T_icmpeq (pc2 := 455) (tgt := 1417) dL_law_452 (by decide) rfl (fun c452 => ?_) (fun c452 => ?_)
  · exact kn sk2 g3 n2 _ _ _ (by first | omega | exact Nat.le_refl _) (by first | omega | exact Nat.le_refl _) hX0 hx3 ⟨_, _, _, _, _, hJ2.m hf3⟩ hM3 (ok_years hok)
  · exact absurd rfl c452
theorem lc_sneeze (hX0 : isX sk 0 L) (hx : ∀ j, j < L → g 0 j = xs j) (hL : L ≤ 448) (hi : i + 7 ≤ L) (hJ : JJ sk g n bf im above below nx s) (hM : InvM g s) (hok : Ok s) (kn : Kn Q d m i L xs) : T ML_law (d + 12) (144 * m + 144) (1152 * m + 1152) 457 (lawL i) [] (HP sk g n) Q := by
  have S := hJ.1
  have x1 := hx (i + 1) (by omega)
  have x2 := hx (i + 2) (by omega)
  refine T_aload_n (pc2 := 458) dL_law_457 rfl rfl ?_
  refine T_aload_n (pc2 := 459) dL_law_458 rfl rfl ?_
  refine T_iload_n (pc2 := 460) dL_law_459 rfl rfl ?_
  refine T_iconst (pc2 := 461) dL_law_460 ic1 rfl ?_
  first | refine N_iadd (pc2 := 462) dL_law_461 (by with_reducible rfl) (by with_reducible rfl) rfl ?_ | refine T_iadd (pc2 := 462) dL_law_461 rfl ?_
  refine G_xald (pc2 := 463) dL_law_462 hX0 (by omega) (by first | decide | omega) (by first | with_reducible assumption | exact gs_eq _ _ _ _ | exact (gs_ne _ _ (by omega)).trans (by with_reducible assumption) | exact (gs_ne _ _ (by omega)).trans (gs_eq _ _ _ _) | exact (gs_ne _ _ (by omega)).trans ((gs_ne _ _ (by omega)).trans (by with_reducible assumption)) | exact (gs_ne _ _ (by omega)).trans ((gs_ne _ _ (by omega)).trans (gs_eq _ _ _ _)) | exact (gs_ne _ _ (by omega)).trans ((gs_ne _ _ (by omega)).trans ((gs_ne _ _ (by omega)).trans (by with_reducible assumption))) | rfl) rfl ?_
  refine T_aload_n (pc2 := 464) dL_law_463 rfl rfl ?_
  refine T_iload_n (pc2 := 465) dL_law_464 rfl rfl ?_
  refine T_iconst (pc2 := 466) dL_law_465 ic2 rfl ?_
  first | refine N_iadd (pc2 := 467) dL_law_466 (by with_reducible rfl) (by with_reducible rfl) rfl ?_ | refine T_iadd (pc2 := 467) dL_law_466 rfl ?_
  refine G_xald (pc2 := 468) dL_law_467 hX0 (by omega) (by first | decide | omega) (by first | with_reducible assumption | exact gs_eq _ _ _ _ | exact (gs_ne _ _ (by omega)).trans (by with_reducible assumption) | exact (gs_ne _ _ (by omega)).trans (gs_eq _ _ _ _) | exact (gs_ne _ _ (by omega)).trans ((gs_ne _ _ (by omega)).trans (by with_reducible assumption)) | exact (gs_ne _ _ (by omega)).trans ((gs_ne _ _ (by omega)).trans (gs_eq _ _ _ _)) | exact (gs_ne _ _ (by omega)).trans ((gs_ne _ _ (by omega)).trans ((gs_ne _ _ (by omega)).trans (by with_reducible assumption))) | rfl) rfl ?_
  refine C_V2 (pc2 := 471) (mc := 6) (ms := 48) dL_law_468 cvX7_sneeze mlL_53 (isO.h (sh4 S) _) (Nat.le_of_ble_eq_true rfl) rfl ?_
  refine j_sneeze hJ hok (fun sk2 g2 n2 hJ2 hf2 => ?_)
  obtain ⟨bf2, im2, ab2, be2, nx2, hJ2⟩ := hJ2
  have S2 := hJ2.1
  have hX2 := hX0
  have hX0 : isX sk2 0 L := hX2.fj hf2
  have hM2 := hM.fj hf2
  have hx2 : ∀ j, j < L → g2 0 j = xs j := fun j hj => by rw [hf2.2 0 (Or.inl rfl)]; exact hx j hj
  clear S
  have S := S2
  have y1 := hx2 (i + 1) (by omega)
  have y2 := hx2 (i + 2) (by omega)
  refine T_aload_n (pc2 := 472) dL_law_471 rfl rfl ?_
  refine T_aload_n (pc2 := 473) dL_law_472 rfl rfl ?_
  refine T_iload_n (pc2 := 474) dL_law_473 rfl rfl ?_
  refine T_iconst (pc2 := 475) dL_law_474 ic1 rfl ?_
  first | refine N_iadd (pc2 := 476) dL_law_475 (by with_reducible rfl) (by with_reducible rfl) rfl ?_ | refine T_iadd (pc2 := 476) dL_law_475 rfl ?_
  refine G_xald (pc2 := 477) dL_law_476 hX0 (by omega) (by first | decide | omega) (by first | with_reducible assumption | exact gs_eq _ _ _ _ | exact (gs_ne _ _ (by omega)).trans (by with_reducible assumption) | exact (gs_ne _ _ (by omega)).trans (gs_eq _ _ _ _) | exact (gs_ne _ _ (by omega)).trans ((gs_ne _ _ (by omega)).trans (by with_reducible assumption)) | exact (gs_ne _ _ (by omega)).trans ((gs_ne _ _ (by omega)).trans (gs_eq _ _ _ _)) | exact (gs_ne _ _ (by omega)).trans ((gs_ne _ _ (by omega)).trans ((gs_ne _ _ (by omega)).trans (by with_reducible assumption))) | rfl) rfl ?_
  refine T_aload_n (pc2 := 478) dL_law_477 rfl rfl ?_
  refine T_iload_n (pc2 := 479) dL_law_478 rfl rfl ?_
  refine T_iconst (pc2 := 480) dL_law_479 ic2 rfl ?_
  first | refine N_iadd (pc2 := 481) dL_law_480 (by with_reducible rfl) (by with_reducible rfl) rfl ?_ | refine T_iadd (pc2 := 481) dL_law_480 rfl ?_
  refine G_xald (pc2 := 482) dL_law_481 hX0 (by omega) (by first | decide | omega) (by first | with_reducible assumption | exact gs_eq _ _ _ _ | exact (gs_ne _ _ (by omega)).trans (by with_reducible assumption) | exact (gs_ne _ _ (by omega)).trans (gs_eq _ _ _ _) | exact (gs_ne _ _ (by omega)).trans ((gs_ne _ _ (by omega)).trans (by with_reducible assumption)) | exact (gs_ne _ _ (by omega)).trans ((gs_ne _ _ (by omega)).trans (gs_eq _ _ _ _)) | exact (gs_ne _ _ (by omega)).trans ((gs_ne _ _ (by omega)).trans ((gs_ne _ _ (by omega)).trans (by with_reducible assumption))) | rfl) rfl ?_
  refine C_V2 (pc2 := 485) (mc := 0) (ms := 0) dL_law_482 cvX8_sneeze mlL_57 (isO.h (sh48 S) _) (Nat.le_of_ble_eq_true rfl) rfl ?_
  refine mm_sneeze S2 hM2 hok (fun g3 hM3 hf3 => ?_)
  have hx3 : ∀ j, j < L → g3 0 j = xs j := fun j hj => by rw [hf3 0 (by omega)]; exact hx2 j hj
  refine T_icmpeq (pc2 := 488) (tgt := 1417) dL_law_485 (by decide) rfl (fun c485 => ?_) (fun c485 => ?_)
  · exact kn sk2 g3 n2 _ _ _ (by first | omega | exact Nat.le_refl _) (by first | omega | exact Nat.le_refl _) hX0 hx3 ⟨_, _, _, _, _, hJ2.m hf3⟩ hM3 (ok_sneeze hok)
  · exact absurd rfl c485
theorem lc_open (hX0 : isX sk 0 L) (hx : ∀ j, j < L → g 0 j = xs j) (hL : L ≤ 448) (hi : i + 7 ≤ L) (hJ : JJ sk g n bf im above below nx s) (hM : InvM g s) (hok : Ok s) (kn : Kn Q d m i L xs) : T ML_law (d + 12) (144 * m + 144) (1152 * m + 1152) 490 (lawL i) [] (HP sk g n) Q := by
  have S := hJ.1
  have x1 := hx (i + 1) (by omega)
  refine T_aload_n (pc2 := 491) dL_law_490 rfl rfl ?_
  refine T_aload_n (pc2 := 492) dL_law_491 rfl rfl ?_
  refine T_iload_n (pc2 := 493) dL_law_492 rfl rfl ?_
  refine T_iconst (pc2 := 494) dL_law_493 ic1 rfl ?_
  first | refine N_iadd (pc2 := 495) dL_law_494 (by with_reducible rfl) (by with_reducible rfl) rfl ?_ | refine T_iadd (pc2 := 495) dL_law_494 rfl ?_
  refine G_xald (pc2 := 496) dL_law_495 hX0 (by omega) (by first | decide | omega) (by first | with_reducible assumption | exact gs_eq _ _ _ _ | exact (gs_ne _ _ (by omega)).trans (by with_reducible assumption) | exact (gs_ne _ _ (by omega)).trans (gs_eq _ _ _ _) | exact (gs_ne _ _ (by omega)).trans ((gs_ne _ _ (by omega)).trans (by with_reducible assumption)) | exact (gs_ne _ _ (by omega)).trans ((gs_ne _ _ (by omega)).trans (gs_eq _ _ _ _)) | exact (gs_ne _ _ (by omega)).trans ((gs_ne _ _ (by omega)).trans ((gs_ne _ _ (by omega)).trans (by with_reducible assumption))) | rfl) rfl ?_
  refine C_V1 (pc2 := 499) (mc := 6) (ms := 48) dL_law_496 cvX7_open mlL_58 (isO.h (sh4 S) _) (Nat.le_of_ble_eq_true rfl) rfl ?_
  refine j_open hJ hok (fun sk2 g2 n2 hJ2 hf2 => ?_)
  obtain ⟨bf2, im2, ab2, be2, nx2, hJ2⟩ := hJ2
  have S2 := hJ2.1
  have hX2 := hX0
  have hX0 : isX sk2 0 L := hX2.fj hf2
  have hM2 := hM.fj hf2
  have hx2 : ∀ j, j < L → g2 0 j = xs j := fun j hj => by rw [hf2.2 0 (Or.inl rfl)]; exact hx j hj
  clear S
  have S := S2
  have y1 := hx2 (i + 1) (by omega)
  refine T_aload_n (pc2 := 500) dL_law_499 rfl rfl ?_
  refine T_aload_n (pc2 := 501) dL_law_500 rfl rfl ?_
  refine T_iload_n (pc2 := 502) dL_law_501 rfl rfl ?_
  refine T_iconst (pc2 := 503) dL_law_502 ic1 rfl ?_
  first | refine N_iadd (pc2 := 504) dL_law_503 (by with_reducible rfl) (by with_reducible rfl) rfl ?_ | refine T_iadd (pc2 := 504) dL_law_503 rfl ?_
  refine G_xald (pc2 := 505) dL_law_504 hX0 (by omega) (by first | decide | omega) (by first | with_reducible assumption | exact gs_eq _ _ _ _ | exact (gs_ne _ _ (by omega)).trans (by with_reducible assumption) | exact (gs_ne _ _ (by omega)).trans (gs_eq _ _ _ _) | exact (gs_ne _ _ (by omega)).trans ((gs_ne _ _ (by omega)).trans (by with_reducible assumption)) | exact (gs_ne _ _ (by omega)).trans ((gs_ne _ _ (by omega)).trans (gs_eq _ _ _ _)) | exact (gs_ne _ _ (by omega)).trans ((gs_ne _ _ (by omega)).trans ((gs_ne _ _ (by omega)).trans (by with_reducible assumption))) | rfl) rfl ?_
  refine C_V1 (pc2 := 508) (mc := 0) (ms := 0) dL_law_505 cvX8_open mlL_61 (isO.h (sh48 S) _) (Nat.le_of_ble_eq_true rfl) rfl ?_
  refine mm_open S2 hM2 hok (fun g3 hM3 hf3 => ?_)
  have hx3 : ∀ j, j < L → g3 0 j = xs j := fun j hj => by rw [hf3 0 (by omega)]; exact hx2 j hj
  refine T_icmpeq (pc2 := 511) (tgt := 1417) dL_law_508 (by decide) rfl (fun c508 => ?_) (fun c508 => ?_)
  · exact kn sk2 g3 n2 _ _ _ (by first | omega | exact Nat.le_refl _) (by first | omega | exact Nat.le_refl _) hX0 hx3 ⟨_, _, _, _, _, hJ2.m hf3⟩ hM3 (ok_open hok)
  · exact absurd rfl c508
theorem lc_change (hX0 : isX sk 0 L) (hx : ∀ j, j < L → g 0 j = xs j) (hL : L ≤ 448) (hi : i + 7 ≤ L) (hJ : JJ sk g n bf im above below nx s) (hM : InvM g s) (hok : Ok s) (kn : Kn Q d m i L xs) : T ML_law (d + 12) (144 * m + 144) (1152 * m + 1152) 513 (lawL i) [] (HP sk g n) Q := by
  have S := hJ.1
  have x1 := hx (i + 1) (by omega)
  have x2 := hx (i + 2) (by omega)
  refine T_aload_n (pc2 := 514) dL_law_513 rfl rfl ?_
  refine T_aload_n (pc2 := 515) dL_law_514 rfl rfl ?_
  refine T_iload_n (pc2 := 516) dL_law_515 rfl rfl ?_
  refine T_iconst (pc2 := 517) dL_law_516 ic1 rfl ?_
  first | refine N_iadd (pc2 := 518) dL_law_517 (by with_reducible rfl) (by with_reducible rfl) rfl ?_ | refine T_iadd (pc2 := 518) dL_law_517 rfl ?_
  refine G_xald (pc2 := 519) dL_law_518 hX0 (by omega) (by first | decide | omega) (by first | with_reducible assumption | exact gs_eq _ _ _ _ | exact (gs_ne _ _ (by omega)).trans (by with_reducible assumption) | exact (gs_ne _ _ (by omega)).trans (gs_eq _ _ _ _) | exact (gs_ne _ _ (by omega)).trans ((gs_ne _ _ (by omega)).trans (by with_reducible assumption)) | exact (gs_ne _ _ (by omega)).trans ((gs_ne _ _ (by omega)).trans (gs_eq _ _ _ _)) | exact (gs_ne _ _ (by omega)).trans ((gs_ne _ _ (by omega)).trans ((gs_ne _ _ (by omega)).trans (by with_reducible assumption))) | rfl) rfl ?_
  refine T_aload_n (pc2 := 520) dL_law_519 rfl rfl ?_
  refine T_iload_n (pc2 := 521) dL_law_520 rfl rfl ?_
  refine T_iconst (pc2 := 522) dL_law_521 ic2 rfl ?_
  first | refine N_iadd (pc2 := 523) dL_law_522 (by with_reducible rfl) (by with_reducible rfl) rfl ?_ | refine T_iadd (pc2 := 523) dL_law_522 rfl ?_
  refine G_xald (pc2 := 524) dL_law_523 hX0 (by omega) (by first | decide | omega) (by first | with_reducible assumption | exact gs_eq _ _ _ _ | exact (gs_ne _ _ (by omega)).trans (by with_reducible assumption) | exact (gs_ne _ _ (by omega)).trans (gs_eq _ _ _ _) | exact (gs_ne _ _ (by omega)).trans ((gs_ne _ _ (by omega)).trans (by with_reducible assumption)) | exact (gs_ne _ _ (by omega)).trans ((gs_ne _ _ (by omega)).trans (gs_eq _ _ _ _)) | exact (gs_ne _ _ (by omega)).trans ((gs_ne _ _ (by omega)).trans ((gs_ne _ _ (by omega)).trans (by with_reducible assumption))) | rfl) rfl ?_
  refine C_V2 (pc2 := 527) (mc := 6) (ms := 48) dL_law_524 cvX7_change mlL_62 (isO.h (sh4 S) _) (Nat.le_of_ble_eq_true rfl) rfl ?_
  refine j_change hJ hok (fun sk2 g2 n2 hJ2 hf2 => ?_)
  obtain ⟨bf2, im2, ab2, be2, nx2, hJ2⟩ := hJ2
  have S2 := hJ2.1
  have hX2 := hX0
  have hX0 : isX sk2 0 L := hX2.fj hf2
  have hM2 := hM.fj hf2
  have hx2 : ∀ j, j < L → g2 0 j = xs j := fun j hj => by rw [hf2.2 0 (Or.inl rfl)]; exact hx j hj
  clear S
  have S := S2
  have y1 := hx2 (i + 1) (by omega)
  have y2 := hx2 (i + 2) (by omega)
  refine T_aload_n (pc2 := 528) dL_law_527 rfl rfl ?_
  refine T_aload_n (pc2 := 529) dL_law_528 rfl rfl ?_
  refine T_iload_n (pc2 := 530) dL_law_529 rfl rfl ?_
  refine T_iconst (pc2 := 531) dL_law_530 ic1 rfl ?_
  first | refine N_iadd (pc2 := 532) dL_law_531 (by with_reducible rfl) (by with_reducible rfl) rfl ?_ | refine T_iadd (pc2 := 532) dL_law_531 rfl ?_
  refine G_xald (pc2 := 533) dL_law_532 hX0 (by omega) (by first | decide | omega) (by first | with_reducible assumption | exact gs_eq _ _ _ _ | exact (gs_ne _ _ (by omega)).trans (by with_reducible assumption) | exact (gs_ne _ _ (by omega)).trans (gs_eq _ _ _ _) | exact (gs_ne _ _ (by omega)).trans ((gs_ne _ _ (by omega)).trans (by with_reducible assumption)) | exact (gs_ne _ _ (by omega)).trans ((gs_ne _ _ (by omega)).trans (gs_eq _ _ _ _)) | exact (gs_ne _ _ (by omega)).trans ((gs_ne _ _ (by omega)).trans ((gs_ne _ _ (by omega)).trans (by with_reducible assumption))) | rfl) rfl ?_
  refine T_aload_n (pc2 := 534) dL_law_533 rfl rfl ?_
  refine T_iload_n (pc2 := 535) dL_law_534 rfl rfl ?_
  refine T_iconst (pc2 := 536) dL_law_535 ic2 rfl ?_
  first | refine N_iadd (pc2 := 537) dL_law_536 (by with_reducible rfl) (by with_reducible rfl) rfl ?_ | refine T_iadd (pc2 := 537) dL_law_536 rfl ?_
  refine G_xald (pc2 := 538) dL_law_537 hX0 (by omega) (by first | decide | omega) (by first | with_reducible assumption | exact gs_eq _ _ _ _ | exact (gs_ne _ _ (by omega)).trans (by with_reducible assumption) | exact (gs_ne _ _ (by omega)).trans (gs_eq _ _ _ _) | exact (gs_ne _ _ (by omega)).trans ((gs_ne _ _ (by omega)).trans (by with_reducible assumption)) | exact (gs_ne _ _ (by omega)).trans ((gs_ne _ _ (by omega)).trans (gs_eq _ _ _ _)) | exact (gs_ne _ _ (by omega)).trans ((gs_ne _ _ (by omega)).trans ((gs_ne _ _ (by omega)).trans (by with_reducible assumption))) | rfl) rfl ?_
  refine C_V2 (pc2 := 541) (mc := 0) (ms := 0) dL_law_538 cvX8_change mlL_65 (isO.h (sh48 S) _) (Nat.le_of_ble_eq_true rfl) rfl ?_
  refine mm_change S2 hM2 hok (fun g3 hM3 hf3 => ?_)
  have hx3 : ∀ j, j < L → g3 0 j = xs j := fun j hj => by rw [hf3 0 (by omega)]; exact hx2 j hj
  refine T_icmpeq (pc2 := 544) (tgt := 1417) dL_law_541 (by decide) rfl (fun c541 => ?_) (fun c541 => ?_)
  · exact kn sk2 g3 n2 _ _ _ (by first | omega | exact Nat.le_refl _) (by first | omega | exact Nat.le_refl _) hX0 hx3 ⟨_, _, _, _, _, hJ2.m hf3⟩ hM3 (ok_change hok)
  · exact absurd rfl c541
theorem lc_seal (hX0 : isX sk 0 L) (hx : ∀ j, j < L → g 0 j = xs j) (hL : L ≤ 448) (hi : i + 7 ≤ L) (hJ : JJ sk g n bf im above below nx s) (hM : InvM g s) (hok : Ok s) (kn : Kn Q d m i L xs) : T ML_law (d + 12) (144 * m + 144) (1152 * m + 1152) 546 (lawL i) [] (HP sk g n) Q := by
  have S := hJ.1
  have x1 := hx (i + 1) (by omega)
  have x2 := hx (i + 2) (by omega)
  have x3 := hx (i + 3) (by omega)
  refine T_aload_n (pc2 := 547) dL_law_546 rfl rfl ?_
  refine T_aload_n (pc2 := 548) dL_law_547 rfl rfl ?_
  refine T_iload_n (pc2 := 549) dL_law_548 rfl rfl ?_
  refine T_iconst (pc2 := 550) dL_law_549 ic1 rfl ?_
  first | refine N_iadd (pc2 := 551) dL_law_550 (by with_reducible rfl) (by with_reducible rfl) rfl ?_ | refine T_iadd (pc2 := 551) dL_law_550 rfl ?_
  refine G_xald (pc2 := 552) dL_law_551 hX0 (by omega) (by first | decide | omega) (by first | with_reducible assumption | exact gs_eq _ _ _ _ | exact (gs_ne _ _ (by omega)).trans (by with_reducible assumption) | exact (gs_ne _ _ (by omega)).trans (gs_eq _ _ _ _) | exact (gs_ne _ _ (by omega)).trans ((gs_ne _ _ (by omega)).trans (by with_reducible assumption)) | exact (gs_ne _ _ (by omega)).trans ((gs_ne _ _ (by omega)).trans (gs_eq _ _ _ _)) | exact (gs_ne _ _ (by omega)).trans ((gs_ne _ _ (by omega)).trans ((gs_ne _ _ (by omega)).trans (by with_reducible assumption))) | rfl) rfl ?_
  refine T_aload_n (pc2 := 553) dL_law_552 rfl rfl ?_
  refine T_iload_n (pc2 := 554) dL_law_553 rfl rfl ?_
  refine T_iconst (pc2 := 555) dL_law_554 ic2 rfl ?_
  first | refine N_iadd (pc2 := 556) dL_law_555 (by with_reducible rfl) (by with_reducible rfl) rfl ?_ | refine T_iadd (pc2 := 556) dL_law_555 rfl ?_
  refine G_xald (pc2 := 557) dL_law_556 hX0 (by omega) (by first | decide | omega) (by first | with_reducible assumption | exact gs_eq _ _ _ _ | exact (gs_ne _ _ (by omega)).trans (by with_reducible assumption) | exact (gs_ne _ _ (by omega)).trans (gs_eq _ _ _ _) | exact (gs_ne _ _ (by omega)).trans ((gs_ne _ _ (by omega)).trans (by with_reducible assumption)) | exact (gs_ne _ _ (by omega)).trans ((gs_ne _ _ (by omega)).trans (gs_eq _ _ _ _)) | exact (gs_ne _ _ (by omega)).trans ((gs_ne _ _ (by omega)).trans ((gs_ne _ _ (by omega)).trans (by with_reducible assumption))) | rfl) rfl ?_
  refine T_aload_n (pc2 := 558) dL_law_557 rfl rfl ?_
  refine T_iload_n (pc2 := 559) dL_law_558 rfl rfl ?_
  refine T_iconst (pc2 := 560) dL_law_559 ic3 rfl ?_
  first | refine N_iadd (pc2 := 561) dL_law_560 (by with_reducible rfl) (by with_reducible rfl) rfl ?_ | refine T_iadd (pc2 := 561) dL_law_560 rfl ?_
  refine G_xald (pc2 := 562) dL_law_561 hX0 (by omega) (by first | decide | omega) (by first | with_reducible assumption | exact gs_eq _ _ _ _ | exact (gs_ne _ _ (by omega)).trans (by with_reducible assumption) | exact (gs_ne _ _ (by omega)).trans (gs_eq _ _ _ _) | exact (gs_ne _ _ (by omega)).trans ((gs_ne _ _ (by omega)).trans (by with_reducible assumption)) | exact (gs_ne _ _ (by omega)).trans ((gs_ne _ _ (by omega)).trans (gs_eq _ _ _ _)) | exact (gs_ne _ _ (by omega)).trans ((gs_ne _ _ (by omega)).trans ((gs_ne _ _ (by omega)).trans (by with_reducible assumption))) | rfl) rfl ?_
  refine C_V3 (pc2 := 565) (mc := 6) (ms := 48) dL_law_562 cvX7_seal mlL_66 (isO.h (sh4 S) _) (Nat.le_of_ble_eq_true rfl) rfl ?_
  refine j_seal hJ hok (fun sk2 g2 n2 hJ2 hf2 => ?_)
  obtain ⟨bf2, im2, ab2, be2, nx2, hJ2⟩ := hJ2
  have S2 := hJ2.1
  have hX2 := hX0
  have hX0 : isX sk2 0 L := hX2.fj hf2
  have hM2 := hM.fj hf2
  have hx2 : ∀ j, j < L → g2 0 j = xs j := fun j hj => by rw [hf2.2 0 (Or.inl rfl)]; exact hx j hj
  clear S
  have S := S2
  have y1 := hx2 (i + 1) (by omega)
  have y2 := hx2 (i + 2) (by omega)
  have y3 := hx2 (i + 3) (by omega)
  refine T_aload_n (pc2 := 566) dL_law_565 rfl rfl ?_
  refine T_aload_n (pc2 := 567) dL_law_566 rfl rfl ?_
  refine T_iload_n (pc2 := 568) dL_law_567 rfl rfl ?_
  refine T_iconst (pc2 := 569) dL_law_568 ic1 rfl ?_
  first | refine N_iadd (pc2 := 570) dL_law_569 (by with_reducible rfl) (by with_reducible rfl) rfl ?_ | refine T_iadd (pc2 := 570) dL_law_569 rfl ?_
  refine G_xald (pc2 := 571) dL_law_570 hX0 (by omega) (by first | decide | omega) (by first | with_reducible assumption | exact gs_eq _ _ _ _ | exact (gs_ne _ _ (by omega)).trans (by with_reducible assumption) | exact (gs_ne _ _ (by omega)).trans (gs_eq _ _ _ _) | exact (gs_ne _ _ (by omega)).trans ((gs_ne _ _ (by omega)).trans (by with_reducible assumption)) | exact (gs_ne _ _ (by omega)).trans ((gs_ne _ _ (by omega)).trans (gs_eq _ _ _ _)) | exact (gs_ne _ _ (by omega)).trans ((gs_ne _ _ (by omega)).trans ((gs_ne _ _ (by omega)).trans (by with_reducible assumption))) | rfl) rfl ?_
  refine T_aload_n (pc2 := 572) dL_law_571 rfl rfl ?_
  refine T_iload_n (pc2 := 573) dL_law_572 rfl rfl ?_
  refine T_iconst (pc2 := 574) dL_law_573 ic2 rfl ?_
  first | refine N_iadd (pc2 := 575) dL_law_574 (by with_reducible rfl) (by with_reducible rfl) rfl ?_ | refine T_iadd (pc2 := 575) dL_law_574 rfl ?_
  refine G_xald (pc2 := 576) dL_law_575 hX0 (by omega) (by first | decide | omega) (by first | with_reducible assumption | exact gs_eq _ _ _ _ | exact (gs_ne _ _ (by omega)).trans (by with_reducible assumption) | exact (gs_ne _ _ (by omega)).trans (gs_eq _ _ _ _) | exact (gs_ne _ _ (by omega)).trans ((gs_ne _ _ (by omega)).trans (by with_reducible assumption)) | exact (gs_ne _ _ (by omega)).trans ((gs_ne _ _ (by omega)).trans (gs_eq _ _ _ _)) | exact (gs_ne _ _ (by omega)).trans ((gs_ne _ _ (by omega)).trans ((gs_ne _ _ (by omega)).trans (by with_reducible assumption))) | rfl) rfl ?_
  refine T_aload_n (pc2 := 577) dL_law_576 rfl rfl ?_
  refine T_iload_n (pc2 := 578) dL_law_577 rfl rfl ?_
  refine T_iconst (pc2 := 579) dL_law_578 ic3 rfl ?_
  first | refine N_iadd (pc2 := 580) dL_law_579 (by with_reducible rfl) (by with_reducible rfl) rfl ?_ | refine T_iadd (pc2 := 580) dL_law_579 rfl ?_
  refine G_xald (pc2 := 581) dL_law_580 hX0 (by omega) (by first | decide | omega) (by first | with_reducible assumption | exact gs_eq _ _ _ _ | exact (gs_ne _ _ (by omega)).trans (by with_reducible assumption) | exact (gs_ne _ _ (by omega)).trans (gs_eq _ _ _ _) | exact (gs_ne _ _ (by omega)).trans ((gs_ne _ _ (by omega)).trans (by with_reducible assumption)) | exact (gs_ne _ _ (by omega)).trans ((gs_ne _ _ (by omega)).trans (gs_eq _ _ _ _)) | exact (gs_ne _ _ (by omega)).trans ((gs_ne _ _ (by omega)).trans ((gs_ne _ _ (by omega)).trans (by with_reducible assumption))) | rfl) rfl ?_
  refine C_V3 (pc2 := 584) (mc := 0) (ms := 0) dL_law_581 cvX8_seal mlL_69 (isO.h (sh48 S) _) (Nat.le_of_ble_eq_true rfl) rfl ?_
  refine mm_seal S2 hM2 hok (fun g3 hM3 hf3 => ?_)
  have hx3 : ∀ j, j < L → g3 0 j = xs j := fun j hj => by rw [hf3 0 (by omega)]; exact hx2 j hj
  refine T_icmpeq (pc2 := 587) (tgt := 1417) dL_law_584 (by decide) rfl (fun c584 => ?_) (fun c584 => ?_)
  · exact kn sk2 g3 n2 _ _ _ (by first | omega | exact Nat.le_refl _) (by first | omega | exact Nat.le_refl _) hX0 hx3 ⟨_, _, _, _, _, hJ2.m hf3⟩ hM3 (ok_seal hok)
  · exact absurd rfl c584
theorem lc_reach (hX0 : isX sk 0 L) (hx : ∀ j, j < L → g 0 j = xs j) (hL : L ≤ 448) (hi : i + 7 ≤ L) (hJ : JJ sk g n bf im above below nx s) (hM : InvM g s) (hok : Ok s) (kn : Kn Q d m i L xs) : T ML_law (d + 12) (144 * m + 144) (1152 * m + 1152) 589 (lawL i) [] (HP sk g n) Q := by
  have S := hJ.1
  have x1 := hx (i + 1) (by omega)
  refine T_aload_n (pc2 := 590) dL_law_589 rfl rfl ?_
  refine T_aload_n (pc2 := 591) dL_law_590 rfl rfl ?_
  refine T_iload_n (pc2 := 592) dL_law_591 rfl rfl ?_
  refine T_iconst (pc2 := 593) dL_law_592 ic1 rfl ?_
  first | refine N_iadd (pc2 := 594) dL_law_593 (by with_reducible rfl) (by with_reducible rfl) rfl ?_ | refine T_iadd (pc2 := 594) dL_law_593 rfl ?_
  refine G_xald (pc2 := 595) dL_law_594 hX0 (by omega) (by first | decide | omega) (by first | with_reducible assumption | exact gs_eq _ _ _ _ | exact (gs_ne _ _ (by omega)).trans (by with_reducible assumption) | exact (gs_ne _ _ (by omega)).trans (gs_eq _ _ _ _) | exact (gs_ne _ _ (by omega)).trans ((gs_ne _ _ (by omega)).trans (by with_reducible assumption)) | exact (gs_ne _ _ (by omega)).trans ((gs_ne _ _ (by omega)).trans (gs_eq _ _ _ _)) | exact (gs_ne _ _ (by omega)).trans ((gs_ne _ _ (by omega)).trans ((gs_ne _ _ (by omega)).trans (by with_reducible assumption))) | rfl) rfl ?_
  refine C_V1 (pc2 := 598) (mc := 6) (ms := 48) dL_law_595 cvX7_reach mlL_70 (isO.h (sh4 S) _) (Nat.le_of_ble_eq_true rfl) rfl ?_
  refine j_reach hJ hok (fun sk2 g2 n2 hJ2 hf2 => ?_)
  obtain ⟨bf2, im2, ab2, be2, nx2, hJ2⟩ := hJ2
  have S2 := hJ2.1
  have hX2 := hX0
  have hX0 : isX sk2 0 L := hX2.fj hf2
  have hM2 := hM.fj hf2
  have hx2 : ∀ j, j < L → g2 0 j = xs j := fun j hj => by rw [hf2.2 0 (Or.inl rfl)]; exact hx j hj
  clear S
  have S := S2
  have y1 := hx2 (i + 1) (by omega)
  refine T_aload_n (pc2 := 599) dL_law_598 rfl rfl ?_
  refine T_aload_n (pc2 := 600) dL_law_599 rfl rfl ?_
  refine T_iload_n (pc2 := 601) dL_law_600 rfl rfl ?_
  refine T_iconst (pc2 := 602) dL_law_601 ic1 rfl ?_
  first | refine N_iadd (pc2 := 603) dL_law_602 (by with_reducible rfl) (by with_reducible rfl) rfl ?_ | refine T_iadd (pc2 := 603) dL_law_602 rfl ?_
  refine G_xald (pc2 := 604) dL_law_603 hX0 (by omega) (by first | decide | omega) (by first | with_reducible assumption | exact gs_eq _ _ _ _ | exact (gs_ne _ _ (by omega)).trans (by with_reducible assumption) | exact (gs_ne _ _ (by omega)).trans (gs_eq _ _ _ _) | exact (gs_ne _ _ (by omega)).trans ((gs_ne _ _ (by omega)).trans (by with_reducible assumption)) | exact (gs_ne _ _ (by omega)).trans ((gs_ne _ _ (by omega)).trans (gs_eq _ _ _ _)) | exact (gs_ne _ _ (by omega)).trans ((gs_ne _ _ (by omega)).trans ((gs_ne _ _ (by omega)).trans (by with_reducible assumption))) | rfl) rfl ?_
  refine C_V1 (pc2 := 607) (mc := 0) (ms := 0) dL_law_604 cvX8_reach mlL_73 (isO.h (sh48 S) _) (Nat.le_of_ble_eq_true rfl) rfl ?_
  refine mm_reach S2 hM2 hok (fun g3 hM3 hf3 => ?_)
  have hx3 : ∀ j, j < L → g3 0 j = xs j := fun j hj => by rw [hf3 0 (by omega)]; exact hx2 j hj
  refine T_icmpeq (pc2 := 610) (tgt := 1417) dL_law_607 (by decide) rfl (fun c607 => ?_) (fun c607 => ?_)
  · exact kn sk2 g3 n2 _ _ _ (by first | omega | exact Nat.le_refl _) (by first | omega | exact Nat.le_refl _) hX0 hx3 ⟨_, _, _, _, _, hJ2.m hf3⟩ hM3 (ok_reach hok)
  · exact absurd rfl c607
theorem lc_jar (hX0 : isX sk 0 L) (hx : ∀ j, j < L → g 0 j = xs j) (hL : L ≤ 448) (hi : i + 7 ≤ L) (hJ : JJ sk g n bf im above below nx s) (hM : InvM g s) (hok : Ok s) (kn : Kn Q d m i L xs) : T ML_law (d + 12) (144 * m + 144) (1152 * m + 1152) 612 (lawL i) [] (HP sk g n) Q := by
  have S := hJ.1
  have x1 := hx (i + 1) (by omega)
  have x2 := hx (i + 2) (by omega)
  refine T_aload_n (pc2 := 613) dL_law_612 rfl rfl ?_
  refine T_aload_n (pc2 := 614) dL_law_613 rfl rfl ?_
  refine T_iload_n (pc2 := 615) dL_law_614 rfl rfl ?_
  refine T_iconst (pc2 := 616) dL_law_615 ic1 rfl ?_
  first | refine N_iadd (pc2 := 617) dL_law_616 (by with_reducible rfl) (by with_reducible rfl) rfl ?_ | refine T_iadd (pc2 := 617) dL_law_616 rfl ?_
  refine G_xald (pc2 := 618) dL_law_617 hX0 (by omega) (by first | decide | omega) (by first | with_reducible assumption | exact gs_eq _ _ _ _ | exact (gs_ne _ _ (by omega)).trans (by with_reducible assumption) | exact (gs_ne _ _ (by omega)).trans (gs_eq _ _ _ _) | exact (gs_ne _ _ (by omega)).trans ((gs_ne _ _ (by omega)).trans (by with_reducible assumption)) | exact (gs_ne _ _ (by omega)).trans ((gs_ne _ _ (by omega)).trans (gs_eq _ _ _ _)) | exact (gs_ne _ _ (by omega)).trans ((gs_ne _ _ (by omega)).trans ((gs_ne _ _ (by omega)).trans (by with_reducible assumption))) | rfl) rfl ?_
  refine T_aload_n (pc2 := 619) dL_law_618 rfl rfl ?_
  refine T_iload_n (pc2 := 620) dL_law_619 rfl rfl ?_
  refine T_iconst (pc2 := 621) dL_law_620 ic2 rfl ?_
  first | refine N_iadd (pc2 := 622) dL_law_621 (by with_reducible rfl) (by with_reducible rfl) rfl ?_ | refine T_iadd (pc2 := 622) dL_law_621 rfl ?_
  refine G_xald (pc2 := 623) dL_law_622 hX0 (by omega) (by first | decide | omega) (by first | with_reducible assumption | exact gs_eq _ _ _ _ | exact (gs_ne _ _ (by omega)).trans (by with_reducible assumption) | exact (gs_ne _ _ (by omega)).trans (gs_eq _ _ _ _) | exact (gs_ne _ _ (by omega)).trans ((gs_ne _ _ (by omega)).trans (by with_reducible assumption)) | exact (gs_ne _ _ (by omega)).trans ((gs_ne _ _ (by omega)).trans (gs_eq _ _ _ _)) | exact (gs_ne _ _ (by omega)).trans ((gs_ne _ _ (by omega)).trans ((gs_ne _ _ (by omega)).trans (by with_reducible assumption))) | rfl) rfl ?_
  refine C_V2 (pc2 := 626) (mc := 0) (ms := 0) dL_law_623 cvX7_jar mlL_74 (isO.h (sh4 S) _) (Nat.le_of_ble_eq_true rfl) rfl ?_
  refine j_jar hJ hok (fun sk2 g2 n2 hJ2 hf2 => ?_)
  obtain ⟨bf2, im2, ab2, be2, nx2, hJ2⟩ := hJ2
  have S2 := hJ2.1
  have hX2 := hX0
  have hX0 : isX sk2 0 L := hX2.fj hf2
  have hM2 := hM.fj hf2
  have hx2 : ∀ j, j < L → g2 0 j = xs j := fun j hj => by rw [hf2.2 0 (Or.inl rfl)]; exact hx j hj
  clear S
  have S := S2
  have y1 := hx2 (i + 1) (by omega)
  have y2 := hx2 (i + 2) (by omega)
  refine T_aload_n (pc2 := 627) dL_law_626 rfl rfl ?_
  refine T_aload_n (pc2 := 628) dL_law_627 rfl rfl ?_
  refine T_iload_n (pc2 := 629) dL_law_628 rfl rfl ?_
  refine T_iconst (pc2 := 630) dL_law_629 ic1 rfl ?_
  first | refine N_iadd (pc2 := 631) dL_law_630 (by with_reducible rfl) (by with_reducible rfl) rfl ?_ | refine T_iadd (pc2 := 631) dL_law_630 rfl ?_
  refine G_xald (pc2 := 632) dL_law_631 hX0 (by omega) (by first | decide | omega) (by first | with_reducible assumption | exact gs_eq _ _ _ _ | exact (gs_ne _ _ (by omega)).trans (by with_reducible assumption) | exact (gs_ne _ _ (by omega)).trans (gs_eq _ _ _ _) | exact (gs_ne _ _ (by omega)).trans ((gs_ne _ _ (by omega)).trans (by with_reducible assumption)) | exact (gs_ne _ _ (by omega)).trans ((gs_ne _ _ (by omega)).trans (gs_eq _ _ _ _)) | exact (gs_ne _ _ (by omega)).trans ((gs_ne _ _ (by omega)).trans ((gs_ne _ _ (by omega)).trans (by with_reducible assumption))) | rfl) rfl ?_
  refine T_aload_n (pc2 := 633) dL_law_632 rfl rfl ?_
  refine T_iload_n (pc2 := 634) dL_law_633 rfl rfl ?_
  refine T_iconst (pc2 := 635) dL_law_634 ic2 rfl ?_
  first | refine N_iadd (pc2 := 636) dL_law_635 (by with_reducible rfl) (by with_reducible rfl) rfl ?_ | refine T_iadd (pc2 := 636) dL_law_635 rfl ?_
  refine G_xald (pc2 := 637) dL_law_636 hX0 (by omega) (by first | decide | omega) (by first | with_reducible assumption | exact gs_eq _ _ _ _ | exact (gs_ne _ _ (by omega)).trans (by with_reducible assumption) | exact (gs_ne _ _ (by omega)).trans (gs_eq _ _ _ _) | exact (gs_ne _ _ (by omega)).trans ((gs_ne _ _ (by omega)).trans (by with_reducible assumption)) | exact (gs_ne _ _ (by omega)).trans ((gs_ne _ _ (by omega)).trans (gs_eq _ _ _ _)) | exact (gs_ne _ _ (by omega)).trans ((gs_ne _ _ (by omega)).trans ((gs_ne _ _ (by omega)).trans (by with_reducible assumption))) | rfl) rfl ?_
  refine C_V2 (pc2 := 640) (mc := 0) (ms := 0) dL_law_637 cvX8_jar mlL_77 (isO.h (sh48 S) _) (Nat.le_of_ble_eq_true rfl) rfl ?_
  refine mm_jar S2 hM2 hok (fun g3 hM3 hf3 => ?_)
  have hx3 : ∀ j, j < L → g3 0 j = xs j := fun j hj => by rw [hf3 0 (by omega)]; exact hx2 j hj
  refine T_icmpeq (pc2 := 643) (tgt := 1417) dL_law_640 (by decide) rfl (fun c640 => ?_) (fun c640 => ?_)
  · exact kn sk2 g3 n2 _ _ _ (by first | omega | exact Nat.le_refl _) (by first | omega | exact Nat.le_refl _) hX0 hx3 ⟨_, _, _, _, _, hJ2.m hf3⟩ hM3 (ok_jar hok)
  · exact absurd rfl c640
theorem lc_stand (hX0 : isX sk 0 L) (hx : ∀ j, j < L → g 0 j = xs j) (hL : L ≤ 448) (hi : i + 7 ≤ L) (hJ : JJ sk g n bf im above below nx s) (hM : InvM g s) (hok : Ok s) (kn : Kn Q d m i L xs) : T ML_law (d + 12) (144 * m + 144) (1152 * m + 1152) 645 (lawL i) [] (HP sk g n) Q := by
  have S := hJ.1
  have x1 := hx (i + 1) (by omega)
  refine T_aload_n (pc2 := 646) dL_law_645 rfl rfl ?_
  refine T_aload_n (pc2 := 647) dL_law_646 rfl rfl ?_
  refine T_iload_n (pc2 := 648) dL_law_647 rfl rfl ?_
  refine T_iconst (pc2 := 649) dL_law_648 ic1 rfl ?_
  first | refine N_iadd (pc2 := 650) dL_law_649 (by with_reducible rfl) (by with_reducible rfl) rfl ?_ | refine T_iadd (pc2 := 650) dL_law_649 rfl ?_
  refine G_xald (pc2 := 651) dL_law_650 hX0 (by omega) (by first | decide | omega) (by first | with_reducible assumption | exact gs_eq _ _ _ _ | exact (gs_ne _ _ (by omega)).trans (by with_reducible assumption) | exact (gs_ne _ _ (by omega)).trans (gs_eq _ _ _ _) | exact (gs_ne _ _ (by omega)).trans ((gs_ne _ _ (by omega)).trans (by with_reducible assumption)) | exact (gs_ne _ _ (by omega)).trans ((gs_ne _ _ (by omega)).trans (gs_eq _ _ _ _)) | exact (gs_ne _ _ (by omega)).trans ((gs_ne _ _ (by omega)).trans ((gs_ne _ _ (by omega)).trans (by with_reducible assumption))) | rfl) rfl ?_
  refine C_V1 (pc2 := 654) (mc := 0) (ms := 0) dL_law_651 cvX7_stand mlL_78 (isO.h (sh4 S) _) (Nat.le_of_ble_eq_true rfl) rfl ?_
  refine j_stand hJ hok (fun sk2 g2 n2 hJ2 hf2 => ?_)
  obtain ⟨bf2, im2, ab2, be2, nx2, hJ2⟩ := hJ2
  have S2 := hJ2.1
  have hX2 := hX0
  have hX0 : isX sk2 0 L := hX2.fj hf2
  have hM2 := hM.fj hf2
  have hx2 : ∀ j, j < L → g2 0 j = xs j := fun j hj => by rw [hf2.2 0 (Or.inl rfl)]; exact hx j hj
  clear S
  have S := S2
  have y1 := hx2 (i + 1) (by omega)
  refine T_aload_n (pc2 := 655) dL_law_654 rfl rfl ?_
  refine T_aload_n (pc2 := 656) dL_law_655 rfl rfl ?_
  refine T_iload_n (pc2 := 657) dL_law_656 rfl rfl ?_
  refine T_iconst (pc2 := 658) dL_law_657 ic1 rfl ?_
  first | refine N_iadd (pc2 := 659) dL_law_658 (by with_reducible rfl) (by with_reducible rfl) rfl ?_ | refine T_iadd (pc2 := 659) dL_law_658 rfl ?_
  refine G_xald (pc2 := 660) dL_law_659 hX0 (by omega) (by first | decide | omega) (by first | with_reducible assumption | exact gs_eq _ _ _ _ | exact (gs_ne _ _ (by omega)).trans (by with_reducible assumption) | exact (gs_ne _ _ (by omega)).trans (gs_eq _ _ _ _) | exact (gs_ne _ _ (by omega)).trans ((gs_ne _ _ (by omega)).trans (by with_reducible assumption)) | exact (gs_ne _ _ (by omega)).trans ((gs_ne _ _ (by omega)).trans (gs_eq _ _ _ _)) | exact (gs_ne _ _ (by omega)).trans ((gs_ne _ _ (by omega)).trans ((gs_ne _ _ (by omega)).trans (by with_reducible assumption))) | rfl) rfl ?_
  refine C_V1 (pc2 := 663) (mc := 0) (ms := 0) dL_law_660 cvX8_stand mlL_81 (isO.h (sh48 S) _) (Nat.le_of_ble_eq_true rfl) rfl ?_
  refine mm_stand S2 hM2 hok (fun g3 hM3 hf3 => ?_)
  have hx3 : ∀ j, j < L → g3 0 j = xs j := fun j hj => by rw [hf3 0 (by omega)]; exact hx2 j hj
  refine T_icmpeq (pc2 := 666) (tgt := 1417) dL_law_663 (by decide) rfl (fun c663 => ?_) (fun c663 => ?_)
  · exact kn sk2 g3 n2 _ _ _ (by first | omega | exact Nat.le_refl _) (by first | omega | exact Nat.le_refl _) hX0 hx3 ⟨_, _, _, _, _, hJ2.m hf3⟩ hM3 (ok_stand hok)
  · exact absurd rfl c663
theorem lc_chain (hX0 : isX sk 0 L) (hx : ∀ j, j < L → g 0 j = xs j) (hL : L ≤ 448) (hi : i + 7 ≤ L) (hJ : JJ sk g n bf im above below nx s) (hM : InvM g s) (hok : Ok s) (kn : Kn Q d m i L xs) : T ML_law (d + 12) (144 * m + 144) (1152 * m + 1152) 668 (lawL i) [] (HP sk g n) Q := by
  have S := hJ.1
  have x1 := hx (i + 1) (by omega)
  have x2 := hx (i + 2) (by omega)
  have x3 := hx (i + 3) (by omega)
  refine T_aload_n (pc2 := 669) dL_law_668 rfl rfl ?_
  refine T_aload_n (pc2 := 670) dL_law_669 rfl rfl ?_
  refine T_iload_n (pc2 := 671) dL_law_670 rfl rfl ?_
  refine T_iconst (pc2 := 672) dL_law_671 ic1 rfl ?_
  first | refine N_iadd (pc2 := 673) dL_law_672 (by with_reducible rfl) (by with_reducible rfl) rfl ?_ | refine T_iadd (pc2 := 673) dL_law_672 rfl ?_
  refine G_xald (pc2 := 674) dL_law_673 hX0 (by omega) (by first | decide | omega) (by first | with_reducible assumption | exact gs_eq _ _ _ _ | exact (gs_ne _ _ (by omega)).trans (by with_reducible assumption) | exact (gs_ne _ _ (by omega)).trans (gs_eq _ _ _ _) | exact (gs_ne _ _ (by omega)).trans ((gs_ne _ _ (by omega)).trans (by with_reducible assumption)) | exact (gs_ne _ _ (by omega)).trans ((gs_ne _ _ (by omega)).trans (gs_eq _ _ _ _)) | exact (gs_ne _ _ (by omega)).trans ((gs_ne _ _ (by omega)).trans ((gs_ne _ _ (by omega)).trans (by with_reducible assumption))) | rfl) rfl ?_
  refine T_aload_n (pc2 := 675) dL_law_674 rfl rfl ?_
  refine T_iload_n (pc2 := 676) dL_law_675 rfl rfl ?_
  refine T_iconst (pc2 := 677) dL_law_676 ic2 rfl ?_
  first | refine N_iadd (pc2 := 678) dL_law_677 (by with_reducible rfl) (by with_reducible rfl) rfl ?_ | refine T_iadd (pc2 := 678) dL_law_677 rfl ?_
  refine G_xald (pc2 := 679) dL_law_678 hX0 (by omega) (by first | decide | omega) (by first | with_reducible assumption | exact gs_eq _ _ _ _ | exact (gs_ne _ _ (by omega)).trans (by with_reducible assumption) | exact (gs_ne _ _ (by omega)).trans (gs_eq _ _ _ _) | exact (gs_ne _ _ (by omega)).trans ((gs_ne _ _ (by omega)).trans (by with_reducible assumption)) | exact (gs_ne _ _ (by omega)).trans ((gs_ne _ _ (by omega)).trans (gs_eq _ _ _ _)) | exact (gs_ne _ _ (by omega)).trans ((gs_ne _ _ (by omega)).trans ((gs_ne _ _ (by omega)).trans (by with_reducible assumption))) | rfl) rfl ?_
  refine T_aload_n (pc2 := 680) dL_law_679 rfl rfl ?_
  refine T_iload_n (pc2 := 681) dL_law_680 rfl rfl ?_
  refine T_iconst (pc2 := 682) dL_law_681 ic3 rfl ?_
  first | refine N_iadd (pc2 := 683) dL_law_682 (by with_reducible rfl) (by with_reducible rfl) rfl ?_ | refine T_iadd (pc2 := 683) dL_law_682 rfl ?_
  refine G_xald (pc2 := 684) dL_law_683 hX0 (by omega) (by first | decide | omega) (by first | with_reducible assumption | exact gs_eq _ _ _ _ | exact (gs_ne _ _ (by omega)).trans (by with_reducible assumption) | exact (gs_ne _ _ (by omega)).trans (gs_eq _ _ _ _) | exact (gs_ne _ _ (by omega)).trans ((gs_ne _ _ (by omega)).trans (by with_reducible assumption)) | exact (gs_ne _ _ (by omega)).trans ((gs_ne _ _ (by omega)).trans (gs_eq _ _ _ _)) | exact (gs_ne _ _ (by omega)).trans ((gs_ne _ _ (by omega)).trans ((gs_ne _ _ (by omega)).trans (by with_reducible assumption))) | rfl) rfl ?_
  refine C_V3 (pc2 := 687) (mc := 0) (ms := 0) dL_law_684 cvX7_chain mlL_82 (isO.h (sh4 S) _) (Nat.le_of_ble_eq_true rfl) rfl ?_
  refine j_chain hJ hok (fun sk2 g2 n2 hJ2 hf2 => ?_)
  obtain ⟨bf2, im2, ab2, be2, nx2, hJ2⟩ := hJ2
  have S2 := hJ2.1
  have hX2 := hX0
  have hX0 : isX sk2 0 L := hX2.fj hf2
  have hM2 := hM.fj hf2
  have hx2 : ∀ j, j < L → g2 0 j = xs j := fun j hj => by rw [hf2.2 0 (Or.inl rfl)]; exact hx j hj
  clear S
  have S := S2
  have y1 := hx2 (i + 1) (by omega)
  have y2 := hx2 (i + 2) (by omega)
  have y3 := hx2 (i + 3) (by omega)
  refine T_aload_n (pc2 := 688) dL_law_687 rfl rfl ?_
  refine T_aload_n (pc2 := 689) dL_law_688 rfl rfl ?_
  refine T_iload_n (pc2 := 690) dL_law_689 rfl rfl ?_
  refine T_iconst (pc2 := 691) dL_law_690 ic1 rfl ?_
  first | refine N_iadd (pc2 := 692) dL_law_691 (by with_reducible rfl) (by with_reducible rfl) rfl ?_ | refine T_iadd (pc2 := 692) dL_law_691 rfl ?_
  refine G_xald (pc2 := 693) dL_law_692 hX0 (by omega) (by first | decide | omega) (by first | with_reducible assumption | exact gs_eq _ _ _ _ | exact (gs_ne _ _ (by omega)).trans (by with_reducible assumption) | exact (gs_ne _ _ (by omega)).trans (gs_eq _ _ _ _) | exact (gs_ne _ _ (by omega)).trans ((gs_ne _ _ (by omega)).trans (by with_reducible assumption)) | exact (gs_ne _ _ (by omega)).trans ((gs_ne _ _ (by omega)).trans (gs_eq _ _ _ _)) | exact (gs_ne _ _ (by omega)).trans ((gs_ne _ _ (by omega)).trans ((gs_ne _ _ (by omega)).trans (by with_reducible assumption))) | rfl) rfl ?_
  refine T_aload_n (pc2 := 694) dL_law_693 rfl rfl ?_
  refine T_iload_n (pc2 := 695) dL_law_694 rfl rfl ?_
  refine T_iconst (pc2 := 696) dL_law_695 ic2 rfl ?_
  first | refine N_iadd (pc2 := 697) dL_law_696 (by with_reducible rfl) (by with_reducible rfl) rfl ?_ | refine T_iadd (pc2 := 697) dL_law_696 rfl ?_
  refine G_xald (pc2 := 698) dL_law_697 hX0 (by omega) (by first | decide | omega) (by first | with_reducible assumption | exact gs_eq _ _ _ _ | exact (gs_ne _ _ (by omega)).trans (by with_reducible assumption) | exact (gs_ne _ _ (by omega)).trans (gs_eq _ _ _ _) | exact (gs_ne _ _ (by omega)).trans ((gs_ne _ _ (by omega)).trans (by with_reducible assumption)) | exact (gs_ne _ _ (by omega)).trans ((gs_ne _ _ (by omega)).trans (gs_eq _ _ _ _)) | exact (gs_ne _ _ (by omega)).trans ((gs_ne _ _ (by omega)).trans ((gs_ne _ _ (by omega)).trans (by with_reducible assumption))) | rfl) rfl ?_
  refine T_aload_n (pc2 := 699) dL_law_698 rfl rfl ?_
  refine T_iload_n (pc2 := 700) dL_law_699 rfl rfl ?_
  refine T_iconst (pc2 := 701) dL_law_700 ic3 rfl ?_
  first | refine N_iadd (pc2 := 702) dL_law_701 (by with_reducible rfl) (by with_reducible rfl) rfl ?_ | refine T_iadd (pc2 := 702) dL_law_701 rfl ?_
  refine G_xald (pc2 := 703) dL_law_702 hX0 (by omega) (by first | decide | omega) (by first | with_reducible assumption | exact gs_eq _ _ _ _ | exact (gs_ne _ _ (by omega)).trans (by with_reducible assumption) | exact (gs_ne _ _ (by omega)).trans (gs_eq _ _ _ _) | exact (gs_ne _ _ (by omega)).trans ((gs_ne _ _ (by omega)).trans (by with_reducible assumption)) | exact (gs_ne _ _ (by omega)).trans ((gs_ne _ _ (by omega)).trans (gs_eq _ _ _ _)) | exact (gs_ne _ _ (by omega)).trans ((gs_ne _ _ (by omega)).trans ((gs_ne _ _ (by omega)).trans (by with_reducible assumption))) | rfl) rfl ?_
  refine C_V3 (pc2 := 706) (mc := 0) (ms := 0) dL_law_703 cvX8_chain mlL_85 (isO.h (sh48 S) _) (Nat.le_of_ble_eq_true rfl) rfl ?_
  refine mm_chain S2 hM2 hok (fun g3 hM3 hf3 => ?_)
  have hx3 : ∀ j, j < L → g3 0 j = xs j := fun j hj => by rw [hf3 0 (by omega)]; exact hx2 j hj
  refine T_icmpeq (pc2 := 709) (tgt := 1417) dL_law_706 (by decide) rfl (fun c706 => ?_) (fun c706 => ?_)
  · exact kn sk2 g3 n2 _ _ _ (by first | omega | exact Nat.le_refl _) (by first | omega | exact Nat.le_refl _) hX0 hx3 ⟨_, _, _, _, _, hJ2.m hf3⟩ hM3 (ok_chain hok)
  · exact absurd rfl c706
theorem lc_worst (hX0 : isX sk 0 L) (hx : ∀ j, j < L → g 0 j = xs j) (hL : L ≤ 448) (hi : i + 7 ≤ L) (hJ : JJ sk g n bf im above below nx s) (hM : InvM g s) (hok : Ok s) (kn : Kn Q d m i L xs) : T ML_law (d + 12) (144 * m + 144) (1152 * m + 1152) 711 (lawL i) [] (HP sk g n) Q := by
  have S := hJ.1
  have x1 := hx (i + 1) (by omega)
  refine T_aload_n (pc2 := 712) dL_law_711 rfl rfl ?_
  refine T_aload_n (pc2 := 713) dL_law_712 rfl rfl ?_
  refine T_iload_n (pc2 := 714) dL_law_713 rfl rfl ?_
  refine T_iconst (pc2 := 715) dL_law_714 ic1 rfl ?_
  first | refine N_iadd (pc2 := 716) dL_law_715 (by with_reducible rfl) (by with_reducible rfl) rfl ?_ | refine T_iadd (pc2 := 716) dL_law_715 rfl ?_
  refine G_xald (pc2 := 717) dL_law_716 hX0 (by omega) (by first | decide | omega) (by first | with_reducible assumption | exact gs_eq _ _ _ _ | exact (gs_ne _ _ (by omega)).trans (by with_reducible assumption) | exact (gs_ne _ _ (by omega)).trans (gs_eq _ _ _ _) | exact (gs_ne _ _ (by omega)).trans ((gs_ne _ _ (by omega)).trans (by with_reducible assumption)) | exact (gs_ne _ _ (by omega)).trans ((gs_ne _ _ (by omega)).trans (gs_eq _ _ _ _)) | exact (gs_ne _ _ (by omega)).trans ((gs_ne _ _ (by omega)).trans ((gs_ne _ _ (by omega)).trans (by with_reducible assumption))) | rfl) rfl ?_
  refine C_V1 (pc2 := 720) (mc := 0) (ms := 0) dL_law_717 cvX7_worst mlL_86 (isO.h (sh4 S) _) (Nat.le_of_ble_eq_true rfl) rfl ?_
  refine j_worst hJ hok (fun sk2 g2 n2 hJ2 hf2 => ?_)
  obtain ⟨bf2, im2, ab2, be2, nx2, hJ2⟩ := hJ2
  have S2 := hJ2.1
  have hX2 := hX0
  have hX0 : isX sk2 0 L := hX2.fj hf2
  have hM2 := hM.fj hf2
  have hx2 : ∀ j, j < L → g2 0 j = xs j := fun j hj => by rw [hf2.2 0 (Or.inl rfl)]; exact hx j hj
  clear S
  have S := S2
  have y1 := hx2 (i + 1) (by omega)
  refine T_aload_n (pc2 := 721) dL_law_720 rfl rfl ?_
  refine T_aload_n (pc2 := 722) dL_law_721 rfl rfl ?_
  refine T_iload_n (pc2 := 723) dL_law_722 rfl rfl ?_
  refine T_iconst (pc2 := 724) dL_law_723 ic1 rfl ?_
  first | refine N_iadd (pc2 := 725) dL_law_724 (by with_reducible rfl) (by with_reducible rfl) rfl ?_ | refine T_iadd (pc2 := 725) dL_law_724 rfl ?_
  refine G_xald (pc2 := 726) dL_law_725 hX0 (by omega) (by first | decide | omega) (by first | with_reducible assumption | exact gs_eq _ _ _ _ | exact (gs_ne _ _ (by omega)).trans (by with_reducible assumption) | exact (gs_ne _ _ (by omega)).trans (gs_eq _ _ _ _) | exact (gs_ne _ _ (by omega)).trans ((gs_ne _ _ (by omega)).trans (by with_reducible assumption)) | exact (gs_ne _ _ (by omega)).trans ((gs_ne _ _ (by omega)).trans (gs_eq _ _ _ _)) | exact (gs_ne _ _ (by omega)).trans ((gs_ne _ _ (by omega)).trans ((gs_ne _ _ (by omega)).trans (by with_reducible assumption))) | rfl) rfl ?_
  refine C_V1 (pc2 := 729) (mc := 0) (ms := 0) dL_law_726 cvX8_worst mlL_89 (isO.h (sh48 S) _) (Nat.le_of_ble_eq_true rfl) rfl ?_
  refine mm_worst S2 hM2 hok (fun g3 hM3 hf3 => ?_)
  have hx3 : ∀ j, j < L → g3 0 j = xs j := fun j hj => by rw [hf3 0 (by omega)]; exact hx2 j hj
  refine T_icmpeq (pc2 := 732) (tgt := 1417) dL_law_729 (by decide) rfl (fun c729 => ?_) (fun c729 => ?_)
  · exact kn sk2 g3 n2 _ _ _ (by first | omega | exact Nat.le_refl _) (by first | omega | exact Nat.le_refl _) hX0 hx3 ⟨_, _, _, _, _, hJ2.m hf3⟩ hM3 (ok_worst hok)
  · exact absurd rfl c729
theorem lc_when (hX0 : isX sk 0 L) (hx : ∀ j, j < L → g 0 j = xs j) (hL : L ≤ 448) (hi : i + 7 ≤ L) (hJ : JJ sk g n bf im above below nx s) (hM : InvM g s) (hok : Ok s) (kn : Kn Q d m i L xs) : T ML_law (d + 12) (144 * m + 144) (1152 * m + 1152) 734 (lawL i) [] (HP sk g n) Q := by
  have S := hJ.1
  have x1 := hx (i + 1) (by omega)
  refine T_aload_n (pc2 := 735) dL_law_734 rfl rfl ?_
  refine T_aload_n (pc2 := 736) dL_law_735 rfl rfl ?_
  refine T_iload_n (pc2 := 737) dL_law_736 rfl rfl ?_
  refine T_iconst (pc2 := 738) dL_law_737 ic1 rfl ?_
  first | refine N_iadd (pc2 := 739) dL_law_738 (by with_reducible rfl) (by with_reducible rfl) rfl ?_ | refine T_iadd (pc2 := 739) dL_law_738 rfl ?_
  refine G_xald (pc2 := 740) dL_law_739 hX0 (by omega) (by first | decide | omega) (by first | with_reducible assumption | exact gs_eq _ _ _ _ | exact (gs_ne _ _ (by omega)).trans (by with_reducible assumption) | exact (gs_ne _ _ (by omega)).trans (gs_eq _ _ _ _) | exact (gs_ne _ _ (by omega)).trans ((gs_ne _ _ (by omega)).trans (by with_reducible assumption)) | exact (gs_ne _ _ (by omega)).trans ((gs_ne _ _ (by omega)).trans (gs_eq _ _ _ _)) | exact (gs_ne _ _ (by omega)).trans ((gs_ne _ _ (by omega)).trans ((gs_ne _ _ (by omega)).trans (by with_reducible assumption))) | rfl) rfl ?_
  refine C_V1 (pc2 := 743) (mc := 0) (ms := 0) dL_law_740 cvX7_when mlL_90 (isO.h (sh4 S) _) (Nat.le_of_ble_eq_true rfl) rfl ?_
  refine j_when hJ hok (fun sk2 g2 n2 hJ2 hf2 => ?_)
  obtain ⟨bf2, im2, ab2, be2, nx2, hJ2⟩ := hJ2
  have S2 := hJ2.1
  have hX2 := hX0
  have hX0 : isX sk2 0 L := hX2.fj hf2
  have hM2 := hM.fj hf2
  have hx2 : ∀ j, j < L → g2 0 j = xs j := fun j hj => by rw [hf2.2 0 (Or.inl rfl)]; exact hx j hj
  clear S
  have S := S2
  have y1 := hx2 (i + 1) (by omega)
  refine T_aload_n (pc2 := 744) dL_law_743 rfl rfl ?_
  refine T_aload_n (pc2 := 745) dL_law_744 rfl rfl ?_
  refine T_iload_n (pc2 := 746) dL_law_745 rfl rfl ?_
  refine T_iconst (pc2 := 747) dL_law_746 ic1 rfl ?_
  first | refine N_iadd (pc2 := 748) dL_law_747 (by with_reducible rfl) (by with_reducible rfl) rfl ?_ | refine T_iadd (pc2 := 748) dL_law_747 rfl ?_
  refine G_xald (pc2 := 749) dL_law_748 hX0 (by omega) (by first | decide | omega) (by first | with_reducible assumption | exact gs_eq _ _ _ _ | exact (gs_ne _ _ (by omega)).trans (by with_reducible assumption) | exact (gs_ne _ _ (by omega)).trans (gs_eq _ _ _ _) | exact (gs_ne _ _ (by omega)).trans ((gs_ne _ _ (by omega)).trans (by with_reducible assumption)) | exact (gs_ne _ _ (by omega)).trans ((gs_ne _ _ (by omega)).trans (gs_eq _ _ _ _)) | exact (gs_ne _ _ (by omega)).trans ((gs_ne _ _ (by omega)).trans ((gs_ne _ _ (by omega)).trans (by with_reducible assumption))) | rfl) rfl ?_
  refine C_V1 (pc2 := 752) (mc := 0) (ms := 0) dL_law_749 cvX8_when mlL_93 (isO.h (sh48 S) _) (Nat.le_of_ble_eq_true rfl) rfl ?_
  refine mm_when S2 hM2 hok (fun g3 hM3 hf3 => ?_)
  have hx3 : ∀ j, j < L → g3 0 j = xs j := fun j hj => by rw [hf3 0 (by omega)]; exact hx2 j hj
  refine T_icmpeq (pc2 := 755) (tgt := 1417) dL_law_752 (by decide) rfl (fun c752 => ?_) (fun c752 => ?_)
  · exact kn sk2 g3 n2 _ _ _ (by first | omega | exact Nat.le_refl _) (by first | omega | exact Nat.le_refl _) hX0 hx3 ⟨_, _, _, _, _, hJ2.m hf3⟩ hM3 (ok_when hok)
  · exact absurd rfl c752
theorem lc_kept (hX0 : isX sk 0 L) (hx : ∀ j, j < L → g 0 j = xs j) (hL : L ≤ 448) (hi : i + 7 ≤ L) (hJ : JJ sk g n bf im above below nx s) (hM : InvM g s) (hok : Ok s) (kn : Kn Q d m i L xs) : T ML_law (d + 12) (144 * m + 144) (1152 * m + 1152) 757 (lawL i) [] (HP sk g n) Q := by
  have S := hJ.1
  have x1 := hx (i + 1) (by omega)
  refine T_aload_n (pc2 := 758) dL_law_757 rfl rfl ?_
  refine T_aload_n (pc2 := 759) dL_law_758 rfl rfl ?_
  refine T_iload_n (pc2 := 760) dL_law_759 rfl rfl ?_
  refine T_iconst (pc2 := 761) dL_law_760 ic1 rfl ?_
  first | refine N_iadd (pc2 := 762) dL_law_761 (by with_reducible rfl) (by with_reducible rfl) rfl ?_ | refine T_iadd (pc2 := 762) dL_law_761 rfl ?_
  refine G_xald (pc2 := 763) dL_law_762 hX0 (by omega) (by first | decide | omega) (by first | with_reducible assumption | exact gs_eq _ _ _ _ | exact (gs_ne _ _ (by omega)).trans (by with_reducible assumption) | exact (gs_ne _ _ (by omega)).trans (gs_eq _ _ _ _) | exact (gs_ne _ _ (by omega)).trans ((gs_ne _ _ (by omega)).trans (by with_reducible assumption)) | exact (gs_ne _ _ (by omega)).trans ((gs_ne _ _ (by omega)).trans (gs_eq _ _ _ _)) | exact (gs_ne _ _ (by omega)).trans ((gs_ne _ _ (by omega)).trans ((gs_ne _ _ (by omega)).trans (by with_reducible assumption))) | rfl) rfl ?_
  refine C_V1 (pc2 := 766) (mc := 0) (ms := 0) dL_law_763 cvX7_kept mlL_94 (isO.h (sh4 S) _) (Nat.le_of_ble_eq_true rfl) rfl ?_
  refine j_kept hJ hok (fun sk2 g2 n2 hJ2 hf2 => ?_)
  obtain ⟨bf2, im2, ab2, be2, nx2, hJ2⟩ := hJ2
  have S2 := hJ2.1
  have hX2 := hX0
  have hX0 : isX sk2 0 L := hX2.fj hf2
  have hM2 := hM.fj hf2
  have hx2 : ∀ j, j < L → g2 0 j = xs j := fun j hj => by rw [hf2.2 0 (Or.inl rfl)]; exact hx j hj
  clear S
  have S := S2
  have y1 := hx2 (i + 1) (by omega)
  refine T_aload_n (pc2 := 767) dL_law_766 rfl rfl ?_
  refine T_aload_n (pc2 := 768) dL_law_767 rfl rfl ?_
  refine T_iload_n (pc2 := 769) dL_law_768 rfl rfl ?_
  refine T_iconst (pc2 := 770) dL_law_769 ic1 rfl ?_
  first | refine N_iadd (pc2 := 771) dL_law_770 (by with_reducible rfl) (by with_reducible rfl) rfl ?_ | refine T_iadd (pc2 := 771) dL_law_770 rfl ?_
  refine G_xald (pc2 := 772) dL_law_771 hX0 (by omega) (by first | decide | omega) (by first | with_reducible assumption | exact gs_eq _ _ _ _ | exact (gs_ne _ _ (by omega)).trans (by with_reducible assumption) | exact (gs_ne _ _ (by omega)).trans (gs_eq _ _ _ _) | exact (gs_ne _ _ (by omega)).trans ((gs_ne _ _ (by omega)).trans (by with_reducible assumption)) | exact (gs_ne _ _ (by omega)).trans ((gs_ne _ _ (by omega)).trans (gs_eq _ _ _ _)) | exact (gs_ne _ _ (by omega)).trans ((gs_ne _ _ (by omega)).trans ((gs_ne _ _ (by omega)).trans (by with_reducible assumption))) | rfl) rfl ?_
  refine C_V1 (pc2 := 775) (mc := 0) (ms := 0) dL_law_772 cvX8_kept mlL_97 (isO.h (sh48 S) _) (Nat.le_of_ble_eq_true rfl) rfl ?_
  refine mm_kept S2 hM2 hok (fun g3 hM3 hf3 => ?_)
  have hx3 : ∀ j, j < L → g3 0 j = xs j := fun j hj => by rw [hf3 0 (by omega)]; exact hx2 j hj
  refine T_icmpeq (pc2 := 778) (tgt := 1417) dL_law_775 (by decide) rfl (fun c775 => ?_) (fun c775 => ?_)
  · exact kn sk2 g3 n2 _ _ _ (by first | omega | exact Nat.le_refl _) (by first | omega | exact Nat.le_refl _) hX0 hx3 ⟨_, _, _, _, _, hJ2.m hf3⟩ hM3 (ok_kept hok)
  · exact absurd rfl c775
theorem lc_guard (hX0 : isX sk 0 L) (hx : ∀ j, j < L → g 0 j = xs j) (hL : L ≤ 448) (hi : i + 7 ≤ L) (hJ : JJ sk g n bf im above below nx s) (hM : InvM g s) (hok : Ok s) (kn : Kn Q d m i L xs) : T ML_law (d + 12) (144 * m + 144) (1152 * m + 1152) 780 (lawL i) [] (HP sk g n) Q := by
  have S := hJ.1
  have x1 := hx (i + 1) (by omega)
  have x2 := hx (i + 2) (by omega)
  have x3 := hx (i + 3) (by omega)
  have x4 := hx (i + 4) (by omega)
  refine T_aload_n (pc2 := 781) dL_law_780 rfl rfl ?_
  refine T_aload_n (pc2 := 782) dL_law_781 rfl rfl ?_
  refine T_iload_n (pc2 := 783) dL_law_782 rfl rfl ?_
  refine T_iconst (pc2 := 784) dL_law_783 ic1 rfl ?_
  first | refine N_iadd (pc2 := 785) dL_law_784 (by with_reducible rfl) (by with_reducible rfl) rfl ?_ | refine T_iadd (pc2 := 785) dL_law_784 rfl ?_
  refine G_xald (pc2 := 786) dL_law_785 hX0 (by omega) (by first | decide | omega) (by first | with_reducible assumption | exact gs_eq _ _ _ _ | exact (gs_ne _ _ (by omega)).trans (by with_reducible assumption) | exact (gs_ne _ _ (by omega)).trans (gs_eq _ _ _ _) | exact (gs_ne _ _ (by omega)).trans ((gs_ne _ _ (by omega)).trans (by with_reducible assumption)) | exact (gs_ne _ _ (by omega)).trans ((gs_ne _ _ (by omega)).trans (gs_eq _ _ _ _)) | exact (gs_ne _ _ (by omega)).trans ((gs_ne _ _ (by omega)).trans ((gs_ne _ _ (by omega)).trans (by with_reducible assumption))) | rfl) rfl ?_
  refine T_aload_n (pc2 := 787) dL_law_786 rfl rfl ?_
  refine T_iload_n (pc2 := 788) dL_law_787 rfl rfl ?_
  refine T_iconst (pc2 := 789) dL_law_788 ic2 rfl ?_
  first | refine N_iadd (pc2 := 790) dL_law_789 (by with_reducible rfl) (by with_reducible rfl) rfl ?_ | refine T_iadd (pc2 := 790) dL_law_789 rfl ?_
  refine G_xald (pc2 := 791) dL_law_790 hX0 (by omega) (by first | decide | omega) (by first | with_reducible assumption | exact gs_eq _ _ _ _ | exact (gs_ne _ _ (by omega)).trans (by with_reducible assumption) | exact (gs_ne _ _ (by omega)).trans (gs_eq _ _ _ _) | exact (gs_ne _ _ (by omega)).trans ((gs_ne _ _ (by omega)).trans (by with_reducible assumption)) | exact (gs_ne _ _ (by omega)).trans ((gs_ne _ _ (by omega)).trans (gs_eq _ _ _ _)) | exact (gs_ne _ _ (by omega)).trans ((gs_ne _ _ (by omega)).trans ((gs_ne _ _ (by omega)).trans (by with_reducible assumption))) | rfl) rfl ?_
  refine T_aload_n (pc2 := 792) dL_law_791 rfl rfl ?_
  refine T_iload_n (pc2 := 793) dL_law_792 rfl rfl ?_
  refine T_iconst (pc2 := 794) dL_law_793 ic3 rfl ?_
  first | refine N_iadd (pc2 := 795) dL_law_794 (by with_reducible rfl) (by with_reducible rfl) rfl ?_ | refine T_iadd (pc2 := 795) dL_law_794 rfl ?_
  refine G_xald (pc2 := 796) dL_law_795 hX0 (by omega) (by first | decide | omega) (by first | with_reducible assumption | exact gs_eq _ _ _ _ | exact (gs_ne _ _ (by omega)).trans (by with_reducible assumption) | exact (gs_ne _ _ (by omega)).trans (gs_eq _ _ _ _) | exact (gs_ne _ _ (by omega)).trans ((gs_ne _ _ (by omega)).trans (by with_reducible assumption)) | exact (gs_ne _ _ (by omega)).trans ((gs_ne _ _ (by omega)).trans (gs_eq _ _ _ _)) | exact (gs_ne _ _ (by omega)).trans ((gs_ne _ _ (by omega)).trans ((gs_ne _ _ (by omega)).trans (by with_reducible assumption))) | rfl) rfl ?_
  refine T_aload_n (pc2 := 797) dL_law_796 rfl rfl ?_
  refine T_iload_n (pc2 := 798) dL_law_797 rfl rfl ?_
  refine T_iconst (pc2 := 799) dL_law_798 ic4 rfl ?_
  first | refine N_iadd (pc2 := 800) dL_law_799 (by with_reducible rfl) (by with_reducible rfl) rfl ?_ | refine T_iadd (pc2 := 800) dL_law_799 rfl ?_
  refine G_xald (pc2 := 801) dL_law_800 hX0 (by omega) (by first | decide | omega) (by first | with_reducible assumption | exact gs_eq _ _ _ _ | exact (gs_ne _ _ (by omega)).trans (by with_reducible assumption) | exact (gs_ne _ _ (by omega)).trans (gs_eq _ _ _ _) | exact (gs_ne _ _ (by omega)).trans ((gs_ne _ _ (by omega)).trans (by with_reducible assumption)) | exact (gs_ne _ _ (by omega)).trans ((gs_ne _ _ (by omega)).trans (gs_eq _ _ _ _)) | exact (gs_ne _ _ (by omega)).trans ((gs_ne _ _ (by omega)).trans ((gs_ne _ _ (by omega)).trans (by with_reducible assumption))) | rfl) rfl ?_
  refine C_V4 (pc2 := 804) (mc := 0) (ms := 0) dL_law_801 cvX7_guard mlL_98 (isO.h (sh4 S) _) (Nat.le_of_ble_eq_true rfl) rfl ?_
  refine j_guard hJ hok (fun sk2 g2 n2 hJ2 hf2 => ?_)
  obtain ⟨bf2, im2, ab2, be2, nx2, hJ2⟩ := hJ2
  have S2 := hJ2.1
  have hX2 := hX0
  have hX0 : isX sk2 0 L := hX2.fj hf2
  have hM2 := hM.fj hf2
  have hx2 : ∀ j, j < L → g2 0 j = xs j := fun j hj => by rw [hf2.2 0 (Or.inl rfl)]; exact hx j hj
  clear S
  have S := S2
  have y1 := hx2 (i + 1) (by omega)
  have y2 := hx2 (i + 2) (by omega)
  have y3 := hx2 (i + 3) (by omega)
  have y4 := hx2 (i + 4) (by omega)
  refine T_aload_n (pc2 := 805) dL_law_804 rfl rfl ?_
  refine T_aload_n (pc2 := 806) dL_law_805 rfl rfl ?_
  refine T_iload_n (pc2 := 807) dL_law_806 rfl rfl ?_
  refine T_iconst (pc2 := 808) dL_law_807 ic1 rfl ?_
  first | refine N_iadd (pc2 := 809) dL_law_808 (by with_reducible rfl) (by with_reducible rfl) rfl ?_ | refine T_iadd (pc2 := 809) dL_law_808 rfl ?_
  refine G_xald (pc2 := 810) dL_law_809 hX0 (by omega) (by first | decide | omega) (by first | with_reducible assumption | exact gs_eq _ _ _ _ | exact (gs_ne _ _ (by omega)).trans (by with_reducible assumption) | exact (gs_ne _ _ (by omega)).trans (gs_eq _ _ _ _) | exact (gs_ne _ _ (by omega)).trans ((gs_ne _ _ (by omega)).trans (by with_reducible assumption)) | exact (gs_ne _ _ (by omega)).trans ((gs_ne _ _ (by omega)).trans (gs_eq _ _ _ _)) | exact (gs_ne _ _ (by omega)).trans ((gs_ne _ _ (by omega)).trans ((gs_ne _ _ (by omega)).trans (by with_reducible assumption))) | rfl) rfl ?_
  refine T_aload_n (pc2 := 811) dL_law_810 rfl rfl ?_
  refine T_iload_n (pc2 := 812) dL_law_811 rfl rfl ?_
  refine T_iconst (pc2 := 813) dL_law_812 ic2 rfl ?_
  first | refine N_iadd (pc2 := 814) dL_law_813 (by with_reducible rfl) (by with_reducible rfl) rfl ?_ | refine T_iadd (pc2 := 814) dL_law_813 rfl ?_
  refine G_xald (pc2 := 815) dL_law_814 hX0 (by omega) (by first | decide | omega) (by first | with_reducible assumption | exact gs_eq _ _ _ _ | exact (gs_ne _ _ (by omega)).trans (by with_reducible assumption) | exact (gs_ne _ _ (by omega)).trans (gs_eq _ _ _ _) | exact (gs_ne _ _ (by omega)).trans ((gs_ne _ _ (by omega)).trans (by with_reducible assumption)) | exact (gs_ne _ _ (by omega)).trans ((gs_ne _ _ (by omega)).trans (gs_eq _ _ _ _)) | exact (gs_ne _ _ (by omega)).trans ((gs_ne _ _ (by omega)).trans ((gs_ne _ _ (by omega)).trans (by with_reducible assumption))) | rfl) rfl ?_
  refine T_aload_n (pc2 := 816) dL_law_815 rfl rfl ?_
  refine T_iload_n (pc2 := 817) dL_law_816 rfl rfl ?_
  refine T_iconst (pc2 := 818) dL_law_817 ic3 rfl ?_
  first | refine N_iadd (pc2 := 819) dL_law_818 (by with_reducible rfl) (by with_reducible rfl) rfl ?_ | refine T_iadd (pc2 := 819) dL_law_818 rfl ?_
  refine G_xald (pc2 := 820) dL_law_819 hX0 (by omega) (by first | decide | omega) (by first | with_reducible assumption | exact gs_eq _ _ _ _ | exact (gs_ne _ _ (by omega)).trans (by with_reducible assumption) | exact (gs_ne _ _ (by omega)).trans (gs_eq _ _ _ _) | exact (gs_ne _ _ (by omega)).trans ((gs_ne _ _ (by omega)).trans (by with_reducible assumption)) | exact (gs_ne _ _ (by omega)).trans ((gs_ne _ _ (by omega)).trans (gs_eq _ _ _ _)) | exact (gs_ne _ _ (by omega)).trans ((gs_ne _ _ (by omega)).trans ((gs_ne _ _ (by omega)).trans (by with_reducible assumption))) | rfl) rfl ?_
  refine T_aload_n (pc2 := 821) dL_law_820 rfl rfl ?_
  refine T_iload_n (pc2 := 822) dL_law_821 rfl rfl ?_
  refine T_iconst (pc2 := 823) dL_law_822 ic4 rfl ?_
  first | refine N_iadd (pc2 := 824) dL_law_823 (by with_reducible rfl) (by with_reducible rfl) rfl ?_ | refine T_iadd (pc2 := 824) dL_law_823 rfl ?_
  refine G_xald (pc2 := 825) dL_law_824 hX0 (by omega) (by first | decide | omega) (by first | with_reducible assumption | exact gs_eq _ _ _ _ | exact (gs_ne _ _ (by omega)).trans (by with_reducible assumption) | exact (gs_ne _ _ (by omega)).trans (gs_eq _ _ _ _) | exact (gs_ne _ _ (by omega)).trans ((gs_ne _ _ (by omega)).trans (by with_reducible assumption)) | exact (gs_ne _ _ (by omega)).trans ((gs_ne _ _ (by omega)).trans (gs_eq _ _ _ _)) | exact (gs_ne _ _ (by omega)).trans ((gs_ne _ _ (by omega)).trans ((gs_ne _ _ (by omega)).trans (by with_reducible assumption))) | rfl) rfl ?_
  refine C_V4 (pc2 := 828) (mc := 0) (ms := 0) dL_law_825 cvX8_guard mlL_102 (isO.h (sh48 S) _) (Nat.le_of_ble_eq_true rfl) rfl ?_
  refine mm_guard S2 hM2 hok (fun g3 hM3 hf3 => ?_)
  have hx3 : ∀ j, j < L → g3 0 j = xs j := fun j hj => by rw [hf3 0 (by omega)]; exact hx2 j hj
  refine T_icmpeq (pc2 := 831) (tgt := 1417) dL_law_828 (by decide) rfl (fun c828 => ?_) (fun c828 => ?_)
  · exact kn sk2 g3 n2 _ _ _ (by first | omega | exact Nat.le_refl _) (by first | omega | exact Nat.le_refl _) hX0 hx3 ⟨_, _, _, _, _, hJ2.m hf3⟩ hM3 (ok_guard hok)
  · exact absurd rfl c828
theorem lc_changes (hX0 : isX sk 0 L) (hx : ∀ j, j < L → g 0 j = xs j) (hL : L ≤ 448) (hi : i + 7 ≤ L) (hJ : JJ sk g n bf im above below nx s) (hM : InvM g s) (hok : Ok s) (kn : Kn Q d m i L xs) : T ML_law (d + 12) (144 * m + 144) (1152 * m + 1152) 833 (lawL i) [] (HP sk g n) Q := by
  have S := hJ.1
  have x1 := hx (i + 1) (by omega)
  refine T_aload_n (pc2 := 834) dL_law_833 rfl rfl ?_
  refine T_aload_n (pc2 := 835) dL_law_834 rfl rfl ?_
  refine T_iload_n (pc2 := 836) dL_law_835 rfl rfl ?_
  refine T_iconst (pc2 := 837) dL_law_836 ic1 rfl ?_
  first | refine N_iadd (pc2 := 838) dL_law_837 (by with_reducible rfl) (by with_reducible rfl) rfl ?_ | refine T_iadd (pc2 := 838) dL_law_837 rfl ?_
  refine G_xald (pc2 := 839) dL_law_838 hX0 (by omega) (by first | decide | omega) (by first | with_reducible assumption | exact gs_eq _ _ _ _ | exact (gs_ne _ _ (by omega)).trans (by with_reducible assumption) | exact (gs_ne _ _ (by omega)).trans (gs_eq _ _ _ _) | exact (gs_ne _ _ (by omega)).trans ((gs_ne _ _ (by omega)).trans (by with_reducible assumption)) | exact (gs_ne _ _ (by omega)).trans ((gs_ne _ _ (by omega)).trans (gs_eq _ _ _ _)) | exact (gs_ne _ _ (by omega)).trans ((gs_ne _ _ (by omega)).trans ((gs_ne _ _ (by omega)).trans (by with_reducible assumption))) | rfl) rfl ?_
  refine C_V1 (pc2 := 842) (mc := 0) (ms := 0) dL_law_839 cvX7_changes mlL_103 (isO.h (sh4 S) _) (Nat.le_of_ble_eq_true rfl) rfl ?_
  refine j_changes hJ hok (fun sk2 g2 n2 hJ2 hf2 => ?_)
  obtain ⟨bf2, im2, ab2, be2, nx2, hJ2⟩ := hJ2
  have S2 := hJ2.1
  have hX2 := hX0
  have hX0 : isX sk2 0 L := hX2.fj hf2
  have hM2 := hM.fj hf2
  have hx2 : ∀ j, j < L → g2 0 j = xs j := fun j hj => by rw [hf2.2 0 (Or.inl rfl)]; exact hx j hj
  clear S
  have S := S2
  have y1 := hx2 (i + 1) (by omega)
  refine T_aload_n (pc2 := 843) dL_law_842 rfl rfl ?_
  refine T_aload_n (pc2 := 844) dL_law_843 rfl rfl ?_
  refine T_iload_n (pc2 := 845) dL_law_844 rfl rfl ?_
  refine T_iconst (pc2 := 846) dL_law_845 ic1 rfl ?_
  first | refine N_iadd (pc2 := 847) dL_law_846 (by with_reducible rfl) (by with_reducible rfl) rfl ?_ | refine T_iadd (pc2 := 847) dL_law_846 rfl ?_
  refine G_xald (pc2 := 848) dL_law_847 hX0 (by omega) (by first | decide | omega) (by first | with_reducible assumption | exact gs_eq _ _ _ _ | exact (gs_ne _ _ (by omega)).trans (by with_reducible assumption) | exact (gs_ne _ _ (by omega)).trans (gs_eq _ _ _ _) | exact (gs_ne _ _ (by omega)).trans ((gs_ne _ _ (by omega)).trans (by with_reducible assumption)) | exact (gs_ne _ _ (by omega)).trans ((gs_ne _ _ (by omega)).trans (gs_eq _ _ _ _)) | exact (gs_ne _ _ (by omega)).trans ((gs_ne _ _ (by omega)).trans ((gs_ne _ _ (by omega)).trans (by with_reducible assumption))) | rfl) rfl ?_
  refine C_V1 (pc2 := 851) (mc := 0) (ms := 0) dL_law_848 cvX8_changes mlL_106 (isO.h (sh48 S) _) (Nat.le_of_ble_eq_true rfl) rfl ?_
  refine mm_changes S2 hM2 hok (fun g3 hM3 hf3 => ?_)
  have hx3 : ∀ j, j < L → g3 0 j = xs j := fun j hj => by rw [hf3 0 (by omega)]; exact hx2 j hj
  refine T_icmpeq (pc2 := 854) (tgt := 1417) dL_law_851 (by decide) rfl (fun c851 => ?_) (fun c851 => ?_)
  · exact kn sk2 g3 n2 _ _ _ (by first | omega | exact Nat.le_refl _) (by first | omega | exact Nat.le_refl _) hX0 hx3 ⟨_, _, _, _, _, hJ2.m hf3⟩ hM3 (ok_changes hok)
  · exact absurd rfl c851
theorem lc_tuned (hX0 : isX sk 0 L) (hx : ∀ j, j < L → g 0 j = xs j) (hL : L ≤ 448) (hi : i + 7 ≤ L) (hJ : JJ sk g n bf im above below nx s) (hM : InvM g s) (hok : Ok s) (kn : Kn Q d m i L xs) : T ML_law (d + 12) (144 * m + 144) (1152 * m + 1152) 856 (lawL i) [] (HP sk g n) Q := by
  have S := hJ.1
  have x1 := hx (i + 1) (by omega)
  have x2 := hx (i + 2) (by omega)
  refine T_aload_n (pc2 := 857) dL_law_856 rfl rfl ?_
  refine T_aload_n (pc2 := 858) dL_law_857 rfl rfl ?_
  refine T_iload_n (pc2 := 859) dL_law_858 rfl rfl ?_
  refine T_iconst (pc2 := 860) dL_law_859 ic1 rfl ?_
  first | refine N_iadd (pc2 := 861) dL_law_860 (by with_reducible rfl) (by with_reducible rfl) rfl ?_ | refine T_iadd (pc2 := 861) dL_law_860 rfl ?_
  refine G_xald (pc2 := 862) dL_law_861 hX0 (by omega) (by first | decide | omega) (by first | with_reducible assumption | exact gs_eq _ _ _ _ | exact (gs_ne _ _ (by omega)).trans (by with_reducible assumption) | exact (gs_ne _ _ (by omega)).trans (gs_eq _ _ _ _) | exact (gs_ne _ _ (by omega)).trans ((gs_ne _ _ (by omega)).trans (by with_reducible assumption)) | exact (gs_ne _ _ (by omega)).trans ((gs_ne _ _ (by omega)).trans (gs_eq _ _ _ _)) | exact (gs_ne _ _ (by omega)).trans ((gs_ne _ _ (by omega)).trans ((gs_ne _ _ (by omega)).trans (by with_reducible assumption))) | rfl) rfl ?_
  refine T_aload_n (pc2 := 863) dL_law_862 rfl rfl ?_
  refine T_iload_n (pc2 := 864) dL_law_863 rfl rfl ?_
  refine T_iconst (pc2 := 865) dL_law_864 ic2 rfl ?_
  first | refine N_iadd (pc2 := 866) dL_law_865 (by with_reducible rfl) (by with_reducible rfl) rfl ?_ | refine T_iadd (pc2 := 866) dL_law_865 rfl ?_
  refine G_xald (pc2 := 867) dL_law_866 hX0 (by omega) (by first | decide | omega) (by first | with_reducible assumption | exact gs_eq _ _ _ _ | exact (gs_ne _ _ (by omega)).trans (by with_reducible assumption) | exact (gs_ne _ _ (by omega)).trans (gs_eq _ _ _ _) | exact (gs_ne _ _ (by omega)).trans ((gs_ne _ _ (by omega)).trans (by with_reducible assumption)) | exact (gs_ne _ _ (by omega)).trans ((gs_ne _ _ (by omega)).trans (gs_eq _ _ _ _)) | exact (gs_ne _ _ (by omega)).trans ((gs_ne _ _ (by omega)).trans ((gs_ne _ _ (by omega)).trans (by with_reducible assumption))) | rfl) rfl ?_
  refine C_V2 (pc2 := 870) (mc := 0) (ms := 0) dL_law_867 cvX7_tuned mlL_107 (isO.h (sh4 S) _) (Nat.le_of_ble_eq_true rfl) rfl ?_
  refine j_tuned hJ hok (fun sk2 g2 n2 hJ2 hf2 => ?_)
  obtain ⟨bf2, im2, ab2, be2, nx2, hJ2⟩ := hJ2
  have S2 := hJ2.1
  have hX2 := hX0
  have hX0 : isX sk2 0 L := hX2.fj hf2
  have hM2 := hM.fj hf2
  have hx2 : ∀ j, j < L → g2 0 j = xs j := fun j hj => by rw [hf2.2 0 (Or.inl rfl)]; exact hx j hj
  clear S
  have S := S2
  have y1 := hx2 (i + 1) (by omega)
  have y2 := hx2 (i + 2) (by omega)
  refine T_aload_n (pc2 := 871) dL_law_870 rfl rfl ?_
  refine T_aload_n (pc2 := 872) dL_law_871 rfl rfl ?_
  refine T_iload_n (pc2 := 873) dL_law_872 rfl rfl ?_
  refine T_iconst (pc2 := 874) dL_law_873 ic1 rfl ?_
  first | refine N_iadd (pc2 := 875) dL_law_874 (by with_reducible rfl) (by with_reducible rfl) rfl ?_ | refine T_iadd (pc2 := 875) dL_law_874 rfl ?_
  refine G_xald (pc2 := 876) dL_law_875 hX0 (by omega) (by first | decide | omega) (by first | with_reducible assumption | exact gs_eq _ _ _ _ | exact (gs_ne _ _ (by omega)).trans (by with_reducible assumption) | exact (gs_ne _ _ (by omega)).trans (gs_eq _ _ _ _) | exact (gs_ne _ _ (by omega)).trans ((gs_ne _ _ (by omega)).trans (by with_reducible assumption)) | exact (gs_ne _ _ (by omega)).trans ((gs_ne _ _ (by omega)).trans (gs_eq _ _ _ _)) | exact (gs_ne _ _ (by omega)).trans ((gs_ne _ _ (by omega)).trans ((gs_ne _ _ (by omega)).trans (by with_reducible assumption))) | rfl) rfl ?_
  refine T_aload_n (pc2 := 877) dL_law_876 rfl rfl ?_
  refine T_iload_n (pc2 := 878) dL_law_877 rfl rfl ?_
  refine T_iconst (pc2 := 879) dL_law_878 ic2 rfl ?_
  first | refine N_iadd (pc2 := 880) dL_law_879 (by with_reducible rfl) (by with_reducible rfl) rfl ?_ | refine T_iadd (pc2 := 880) dL_law_879 rfl ?_
  refine G_xald (pc2 := 881) dL_law_880 hX0 (by omega) (by first | decide | omega) (by first | with_reducible assumption | exact gs_eq _ _ _ _ | exact (gs_ne _ _ (by omega)).trans (by with_reducible assumption) | exact (gs_ne _ _ (by omega)).trans (gs_eq _ _ _ _) | exact (gs_ne _ _ (by omega)).trans ((gs_ne _ _ (by omega)).trans (by with_reducible assumption)) | exact (gs_ne _ _ (by omega)).trans ((gs_ne _ _ (by omega)).trans (gs_eq _ _ _ _)) | exact (gs_ne _ _ (by omega)).trans ((gs_ne _ _ (by omega)).trans ((gs_ne _ _ (by omega)).trans (by with_reducible assumption))) | rfl) rfl ?_
  refine C_V2 (pc2 := 884) (mc := 0) (ms := 0) dL_law_881 cvX8_tuned mlL_110 (isO.h (sh48 S) _) (Nat.le_of_ble_eq_true rfl) rfl ?_
  refine mm_tuned S2 hM2 hok (fun g3 hM3 hf3 => ?_)
  have hx3 : ∀ j, j < L → g3 0 j = xs j := fun j hj => by rw [hf3 0 (by omega)]; exact hx2 j hj
  refine T_icmpeq (pc2 := 887) (tgt := 1417) dL_law_884 (by decide) rfl (fun c884 => ?_) (fun c884 => ?_)
  · exact kn sk2 g3 n2 _ _ _ (by first | omega | exact Nat.le_refl _) (by first | omega | exact Nat.le_refl _) hX0 hx3 ⟨_, _, _, _, _, hJ2.m hf3⟩ hM3 (ok_tuned hok)
  · exact absurd rfl c884
theorem lc_spared (hX0 : isX sk 0 L) (hx : ∀ j, j < L → g 0 j = xs j) (hL : L ≤ 448) (hi : i + 7 ≤ L) (hJ : JJ sk g n bf im above below nx s) (hM : InvM g s) (hok : Ok s) (kn : Kn Q d m i L xs) : T ML_law (d + 12) (144 * m + 144) (1152 * m + 1152) 889 (lawL i) [] (HP sk g n) Q := by
  have S := hJ.1
  have x1 := hx (i + 1) (by omega)
  refine T_aload_n (pc2 := 890) dL_law_889 rfl rfl ?_
  refine T_aload_n (pc2 := 891) dL_law_890 rfl rfl ?_
  refine T_iload_n (pc2 := 892) dL_law_891 rfl rfl ?_
  refine T_iconst (pc2 := 893) dL_law_892 ic1 rfl ?_
  first | refine N_iadd (pc2 := 894) dL_law_893 (by with_reducible rfl) (by with_reducible rfl) rfl ?_ | refine T_iadd (pc2 := 894) dL_law_893 rfl ?_
  refine G_xald (pc2 := 895) dL_law_894 hX0 (by omega) (by first | decide | omega) (by first | with_reducible assumption | exact gs_eq _ _ _ _ | exact (gs_ne _ _ (by omega)).trans (by with_reducible assumption) | exact (gs_ne _ _ (by omega)).trans (gs_eq _ _ _ _) | exact (gs_ne _ _ (by omega)).trans ((gs_ne _ _ (by omega)).trans (by with_reducible assumption)) | exact (gs_ne _ _ (by omega)).trans ((gs_ne _ _ (by omega)).trans (gs_eq _ _ _ _)) | exact (gs_ne _ _ (by omega)).trans ((gs_ne _ _ (by omega)).trans ((gs_ne _ _ (by omega)).trans (by with_reducible assumption))) | rfl) rfl ?_
  refine C_V1 (pc2 := 898) (mc := 0) (ms := 0) dL_law_895 cvX7_spared mlL_111 (isO.h (sh4 S) _) (Nat.le_of_ble_eq_true rfl) rfl ?_
  refine j_spared hJ hok (fun sk2 g2 n2 hJ2 hf2 => ?_)
  obtain ⟨bf2, im2, ab2, be2, nx2, hJ2⟩ := hJ2
  have S2 := hJ2.1
  have hX2 := hX0
  have hX0 : isX sk2 0 L := hX2.fj hf2
  have hM2 := hM.fj hf2
  have hx2 : ∀ j, j < L → g2 0 j = xs j := fun j hj => by rw [hf2.2 0 (Or.inl rfl)]; exact hx j hj
  clear S
  have S := S2
  have y1 := hx2 (i + 1) (by omega)
  refine T_aload_n (pc2 := 899) dL_law_898 rfl rfl ?_
  refine T_aload_n (pc2 := 900) dL_law_899 rfl rfl ?_
  refine T_iload_n (pc2 := 901) dL_law_900 rfl rfl ?_
  refine T_iconst (pc2 := 902) dL_law_901 ic1 rfl ?_
  first | refine N_iadd (pc2 := 903) dL_law_902 (by with_reducible rfl) (by with_reducible rfl) rfl ?_ | refine T_iadd (pc2 := 903) dL_law_902 rfl ?_
  refine G_xald (pc2 := 904) dL_law_903 hX0 (by omega) (by first | decide | omega) (by first | with_reducible assumption | exact gs_eq _ _ _ _ | exact (gs_ne _ _ (by omega)).trans (by with_reducible assumption) | exact (gs_ne _ _ (by omega)).trans (gs_eq _ _ _ _) | exact (gs_ne _ _ (by omega)).trans ((gs_ne _ _ (by omega)).trans (by with_reducible assumption)) | exact (gs_ne _ _ (by omega)).trans ((gs_ne _ _ (by omega)).trans (gs_eq _ _ _ _)) | exact (gs_ne _ _ (by omega)).trans ((gs_ne _ _ (by omega)).trans ((gs_ne _ _ (by omega)).trans (by with_reducible assumption))) | rfl) rfl ?_
  refine C_V1 (pc2 := 907) (mc := 0) (ms := 0) dL_law_904 cvX8_spared mlL_114 (isO.h (sh48 S) _) (Nat.le_of_ble_eq_true rfl) rfl ?_
  refine mm_spared S2 hM2 hok (fun g3 hM3 hf3 => ?_)
  have hx3 : ∀ j, j < L → g3 0 j = xs j := fun j hj => by rw [hf3 0 (by omega)]; exact hx2 j hj
  refine T_icmpeq (pc2 := 910) (tgt := 1417) dL_law_907 (by decide) rfl (fun c907 => ?_) (fun c907 => ?_)
  · exact kn sk2 g3 n2 _ _ _ (by first | omega | exact Nat.le_refl _) (by first | omega | exact Nat.le_refl _) hX0 hx3 ⟨_, _, _, _, _, hJ2.m hf3⟩ hM3 (ok_spared hok)
  · exact absurd rfl c907
theorem lc_alike (hX0 : isX sk 0 L) (hx : ∀ j, j < L → g 0 j = xs j) (hL : L ≤ 448) (hi : i + 7 ≤ L) (hJ : JJ sk g n bf im above below nx s) (hM : InvM g s) (hok : Ok s) (kn : Kn Q d m i L xs) : T ML_law (d + 12) (144 * m + 144) (1152 * m + 1152) 912 (lawL i) [] (HP sk g n) Q := by
  have S := hJ.1
  have x1 := hx (i + 1) (by omega)
  refine T_aload_n (pc2 := 913) dL_law_912 rfl rfl ?_
  refine T_aload_n (pc2 := 914) dL_law_913 rfl rfl ?_
  refine T_iload_n (pc2 := 915) dL_law_914 rfl rfl ?_
  refine T_iconst (pc2 := 916) dL_law_915 ic1 rfl ?_
  first | refine N_iadd (pc2 := 917) dL_law_916 (by with_reducible rfl) (by with_reducible rfl) rfl ?_ | refine T_iadd (pc2 := 917) dL_law_916 rfl ?_
  refine G_xald (pc2 := 918) dL_law_917 hX0 (by omega) (by first | decide | omega) (by first | with_reducible assumption | exact gs_eq _ _ _ _ | exact (gs_ne _ _ (by omega)).trans (by with_reducible assumption) | exact (gs_ne _ _ (by omega)).trans (gs_eq _ _ _ _) | exact (gs_ne _ _ (by omega)).trans ((gs_ne _ _ (by omega)).trans (by with_reducible assumption)) | exact (gs_ne _ _ (by omega)).trans ((gs_ne _ _ (by omega)).trans (gs_eq _ _ _ _)) | exact (gs_ne _ _ (by omega)).trans ((gs_ne _ _ (by omega)).trans ((gs_ne _ _ (by omega)).trans (by with_reducible assumption))) | rfl) rfl ?_
  refine C_V1 (pc2 := 921) (mc := 0) (ms := 0) dL_law_918 cvX7_alike mlL_115 (isO.h (sh4 S) _) (Nat.le_of_ble_eq_true rfl) rfl ?_
  refine j_alike hJ hok (fun sk2 g2 n2 hJ2 hf2 => ?_)
  obtain ⟨bf2, im2, ab2, be2, nx2, hJ2⟩ := hJ2
  have S2 := hJ2.1
  have hX2 := hX0
  have hX0 : isX sk2 0 L := hX2.fj hf2
  have hM2 := hM.fj hf2
  have hx2 : ∀ j, j < L → g2 0 j = xs j := fun j hj => by rw [hf2.2 0 (Or.inl rfl)]; exact hx j hj
  clear S
  have S := S2
  have y1 := hx2 (i + 1) (by omega)
  refine T_aload_n (pc2 := 922) dL_law_921 rfl rfl ?_
  refine T_aload_n (pc2 := 923) dL_law_922 rfl rfl ?_
  refine T_iload_n (pc2 := 924) dL_law_923 rfl rfl ?_
  refine T_iconst (pc2 := 925) dL_law_924 ic1 rfl ?_
  first | refine N_iadd (pc2 := 926) dL_law_925 (by with_reducible rfl) (by with_reducible rfl) rfl ?_ | refine T_iadd (pc2 := 926) dL_law_925 rfl ?_
  refine G_xald (pc2 := 927) dL_law_926 hX0 (by omega) (by first | decide | omega) (by first | with_reducible assumption | exact gs_eq _ _ _ _ | exact (gs_ne _ _ (by omega)).trans (by with_reducible assumption) | exact (gs_ne _ _ (by omega)).trans (gs_eq _ _ _ _) | exact (gs_ne _ _ (by omega)).trans ((gs_ne _ _ (by omega)).trans (by with_reducible assumption)) | exact (gs_ne _ _ (by omega)).trans ((gs_ne _ _ (by omega)).trans (gs_eq _ _ _ _)) | exact (gs_ne _ _ (by omega)).trans ((gs_ne _ _ (by omega)).trans ((gs_ne _ _ (by omega)).trans (by with_reducible assumption))) | rfl) rfl ?_
  refine C_V1 (pc2 := 930) (mc := 0) (ms := 0) dL_law_927 cvX8_alike mlL_118 (isO.h (sh48 S) _) (Nat.le_of_ble_eq_true rfl) rfl ?_
  refine mm_alike S2 hM2 hok (fun g3 hM3 hf3 => ?_)
  have hx3 : ∀ j, j < L → g3 0 j = xs j := fun j hj => by rw [hf3 0 (by omega)]; exact hx2 j hj
  refine T_icmpeq (pc2 := 933) (tgt := 1417) dL_law_930 (by decide) rfl (fun c930 => ?_) (fun c930 => ?_)
  · exact kn sk2 g3 n2 _ _ _ (by first | omega | exact Nat.le_refl _) (by first | omega | exact Nat.le_refl _) hX0 hx3 ⟨_, _, _, _, _, hJ2.m hf3⟩ hM3 (ok_alike hok)
  · exact absurd rfl c930
theorem lc_song (hX0 : isX sk 0 L) (hx : ∀ j, j < L → g 0 j = xs j) (hL : L ≤ 448) (hi : i + 7 ≤ L) (hJ : JJ sk g n bf im above below nx s) (hM : InvM g s) (hok : Ok s) (kn : Kn Q d m i L xs) : T ML_law (d + 12) (144 * m + 144) (1152 * m + 1152) 935 (lawL i) [] (HP sk g n) Q := by
  have S := hJ.1
  have x1 := hx (i + 1) (by omega)
  have x2 := hx (i + 2) (by omega)
  have x3 := hx (i + 3) (by omega)
  have x4 := hx (i + 4) (by omega)
  refine T_aload_n (pc2 := 936) dL_law_935 rfl rfl ?_
  refine T_aload_n (pc2 := 937) dL_law_936 rfl rfl ?_
  refine T_iload_n (pc2 := 938) dL_law_937 rfl rfl ?_
  refine T_iconst (pc2 := 939) dL_law_938 ic1 rfl ?_
  first | refine N_iadd (pc2 := 940) dL_law_939 (by with_reducible rfl) (by with_reducible rfl) rfl ?_ | refine T_iadd (pc2 := 940) dL_law_939 rfl ?_
  refine G_xald (pc2 := 941) dL_law_940 hX0 (by omega) (by first | decide | omega) (by first | with_reducible assumption | exact gs_eq _ _ _ _ | exact (gs_ne _ _ (by omega)).trans (by with_reducible assumption) | exact (gs_ne _ _ (by omega)).trans (gs_eq _ _ _ _) | exact (gs_ne _ _ (by omega)).trans ((gs_ne _ _ (by omega)).trans (by with_reducible assumption)) | exact (gs_ne _ _ (by omega)).trans ((gs_ne _ _ (by omega)).trans (gs_eq _ _ _ _)) | exact (gs_ne _ _ (by omega)).trans ((gs_ne _ _ (by omega)).trans ((gs_ne _ _ (by omega)).trans (by with_reducible assumption))) | rfl) rfl ?_
  refine T_aload_n (pc2 := 942) dL_law_941 rfl rfl ?_
  refine T_iload_n (pc2 := 943) dL_law_942 rfl rfl ?_
  refine T_iconst (pc2 := 944) dL_law_943 ic2 rfl ?_
  first | refine N_iadd (pc2 := 945) dL_law_944 (by with_reducible rfl) (by with_reducible rfl) rfl ?_ | refine T_iadd (pc2 := 945) dL_law_944 rfl ?_
  refine G_xald (pc2 := 946) dL_law_945 hX0 (by omega) (by first | decide | omega) (by first | with_reducible assumption | exact gs_eq _ _ _ _ | exact (gs_ne _ _ (by omega)).trans (by with_reducible assumption) | exact (gs_ne _ _ (by omega)).trans (gs_eq _ _ _ _) | exact (gs_ne _ _ (by omega)).trans ((gs_ne _ _ (by omega)).trans (by with_reducible assumption)) | exact (gs_ne _ _ (by omega)).trans ((gs_ne _ _ (by omega)).trans (gs_eq _ _ _ _)) | exact (gs_ne _ _ (by omega)).trans ((gs_ne _ _ (by omega)).trans ((gs_ne _ _ (by omega)).trans (by with_reducible assumption))) | rfl) rfl ?_
  refine T_aload_n (pc2 := 947) dL_law_946 rfl rfl ?_
  refine T_iload_n (pc2 := 948) dL_law_947 rfl rfl ?_
  refine T_iconst (pc2 := 949) dL_law_948 ic3 rfl ?_
  first | refine N_iadd (pc2 := 950) dL_law_949 (by with_reducible rfl) (by with_reducible rfl) rfl ?_ | refine T_iadd (pc2 := 950) dL_law_949 rfl ?_
  refine G_xald (pc2 := 951) dL_law_950 hX0 (by omega) (by first | decide | omega) (by first | with_reducible assumption | exact gs_eq _ _ _ _ | exact (gs_ne _ _ (by omega)).trans (by with_reducible assumption) | exact (gs_ne _ _ (by omega)).trans (gs_eq _ _ _ _) | exact (gs_ne _ _ (by omega)).trans ((gs_ne _ _ (by omega)).trans (by with_reducible assumption)) | exact (gs_ne _ _ (by omega)).trans ((gs_ne _ _ (by omega)).trans (gs_eq _ _ _ _)) | exact (gs_ne _ _ (by omega)).trans ((gs_ne _ _ (by omega)).trans ((gs_ne _ _ (by omega)).trans (by with_reducible assumption))) | rfl) rfl ?_
  refine T_aload_n (pc2 := 952) dL_law_951 rfl rfl ?_
  refine T_iload_n (pc2 := 953) dL_law_952 rfl rfl ?_
  refine T_iconst (pc2 := 954) dL_law_953 ic4 rfl ?_
  first | refine N_iadd (pc2 := 955) dL_law_954 (by with_reducible rfl) (by with_reducible rfl) rfl ?_ | refine T_iadd (pc2 := 955) dL_law_954 rfl ?_
  refine G_xald (pc2 := 956) dL_law_955 hX0 (by omega) (by first | decide | omega) (by first | with_reducible assumption | exact gs_eq _ _ _ _ | exact (gs_ne _ _ (by omega)).trans (by with_reducible assumption) | exact (gs_ne _ _ (by omega)).trans (gs_eq _ _ _ _) | exact (gs_ne _ _ (by omega)).trans ((gs_ne _ _ (by omega)).trans (by with_reducible assumption)) | exact (gs_ne _ _ (by omega)).trans ((gs_ne _ _ (by omega)).trans (gs_eq _ _ _ _)) | exact (gs_ne _ _ (by omega)).trans ((gs_ne _ _ (by omega)).trans ((gs_ne _ _ (by omega)).trans (by with_reducible assumption))) | rfl) rfl ?_
  refine C_V4 (pc2 := 959) (mc := 0) (ms := 0) dL_law_956 cvX7_song mlL_119 (isO.h (sh4 S) _) (Nat.le_of_ble_eq_true rfl) rfl ?_
  refine j_song hJ hok (fun sk2 g2 n2 hJ2 hf2 => ?_)
  obtain ⟨bf2, im2, ab2, be2, nx2, hJ2⟩ := hJ2
  have S2 := hJ2.1
  have hX2 := hX0
  have hX0 : isX sk2 0 L := hX2.fj hf2
  have hM2 := hM.fj hf2
  have hx2 : ∀ j, j < L → g2 0 j = xs j := fun j hj => by rw [hf2.2 0 (Or.inl rfl)]; exact hx j hj
  clear S
  have S := S2
  have y1 := hx2 (i + 1) (by omega)
  have y2 := hx2 (i + 2) (by omega)
  have y3 := hx2 (i + 3) (by omega)
  have y4 := hx2 (i + 4) (by omega)
  refine T_aload_n (pc2 := 960) dL_law_959 rfl rfl ?_
  refine T_aload_n (pc2 := 961) dL_law_960 rfl rfl ?_
  refine T_iload_n (pc2 := 962) dL_law_961 rfl rfl ?_
  refine T_iconst (pc2 := 963) dL_law_962 ic1 rfl ?_
  first | refine N_iadd (pc2 := 964) dL_law_963 (by with_reducible rfl) (by with_reducible rfl) rfl ?_ | refine T_iadd (pc2 := 964) dL_law_963 rfl ?_
  refine G_xald (pc2 := 965) dL_law_964 hX0 (by omega) (by first | decide | omega) (by first | with_reducible assumption | exact gs_eq _ _ _ _ | exact (gs_ne _ _ (by omega)).trans (by with_reducible assumption) | exact (gs_ne _ _ (by omega)).trans (gs_eq _ _ _ _) | exact (gs_ne _ _ (by omega)).trans ((gs_ne _ _ (by omega)).trans (by with_reducible assumption)) | exact (gs_ne _ _ (by omega)).trans ((gs_ne _ _ (by omega)).trans (gs_eq _ _ _ _)) | exact (gs_ne _ _ (by omega)).trans ((gs_ne _ _ (by omega)).trans ((gs_ne _ _ (by omega)).trans (by with_reducible assumption))) | rfl) rfl ?_
  refine T_aload_n (pc2 := 966) dL_law_965 rfl rfl ?_
  refine T_iload_n (pc2 := 967) dL_law_966 rfl rfl ?_
  refine T_iconst (pc2 := 968) dL_law_967 ic2 rfl ?_
  first | refine N_iadd (pc2 := 969) dL_law_968 (by with_reducible rfl) (by with_reducible rfl) rfl ?_ | refine T_iadd (pc2 := 969) dL_law_968 rfl ?_
  refine G_xald (pc2 := 970) dL_law_969 hX0 (by omega) (by first | decide | omega) (by first | with_reducible assumption | exact gs_eq _ _ _ _ | exact (gs_ne _ _ (by omega)).trans (by with_reducible assumption) | exact (gs_ne _ _ (by omega)).trans (gs_eq _ _ _ _) | exact (gs_ne _ _ (by omega)).trans ((gs_ne _ _ (by omega)).trans (by with_reducible assumption)) | exact (gs_ne _ _ (by omega)).trans ((gs_ne _ _ (by omega)).trans (gs_eq _ _ _ _)) | exact (gs_ne _ _ (by omega)).trans ((gs_ne _ _ (by omega)).trans ((gs_ne _ _ (by omega)).trans (by with_reducible assumption))) | rfl) rfl ?_
  refine T_aload_n (pc2 := 971) dL_law_970 rfl rfl ?_
  refine T_iload_n (pc2 := 972) dL_law_971 rfl rfl ?_
  refine T_iconst (pc2 := 973) dL_law_972 ic3 rfl ?_
  first | refine N_iadd (pc2 := 974) dL_law_973 (by with_reducible rfl) (by with_reducible rfl) rfl ?_ | refine T_iadd (pc2 := 974) dL_law_973 rfl ?_
  refine G_xald (pc2 := 975) dL_law_974 hX0 (by omega) (by first | decide | omega) (by first | with_reducible assumption | exact gs_eq _ _ _ _ | exact (gs_ne _ _ (by omega)).trans (by with_reducible assumption) | exact (gs_ne _ _ (by omega)).trans (gs_eq _ _ _ _) | exact (gs_ne _ _ (by omega)).trans ((gs_ne _ _ (by omega)).trans (by with_reducible assumption)) | exact (gs_ne _ _ (by omega)).trans ((gs_ne _ _ (by omega)).trans (gs_eq _ _ _ _)) | exact (gs_ne _ _ (by omega)).trans ((gs_ne _ _ (by omega)).trans ((gs_ne _ _ (by omega)).trans (by with_reducible assumption))) | rfl) rfl ?_
  refine T_aload_n (pc2 := 976) dL_law_975 rfl rfl ?_
  refine T_iload_n (pc2 := 977) dL_law_976 rfl rfl ?_
  refine T_iconst (pc2 := 978) dL_law_977 ic4 rfl ?_
  first | refine N_iadd (pc2 := 979) dL_law_978 (by with_reducible rfl) (by with_reducible rfl) rfl ?_ | refine T_iadd (pc2 := 979) dL_law_978 rfl ?_
  refine G_xald (pc2 := 980) dL_law_979 hX0 (by omega) (by first | decide | omega) (by first | with_reducible assumption | exact gs_eq _ _ _ _ | exact (gs_ne _ _ (by omega)).trans (by with_reducible assumption) | exact (gs_ne _ _ (by omega)).trans (gs_eq _ _ _ _) | exact (gs_ne _ _ (by omega)).trans ((gs_ne _ _ (by omega)).trans (by with_reducible assumption)) | exact (gs_ne _ _ (by omega)).trans ((gs_ne _ _ (by omega)).trans (gs_eq _ _ _ _)) | exact (gs_ne _ _ (by omega)).trans ((gs_ne _ _ (by omega)).trans ((gs_ne _ _ (by omega)).trans (by with_reducible assumption))) | rfl) rfl ?_
  refine C_V4 (pc2 := 983) (mc := 0) (ms := 0) dL_law_980 cvX8_song mlL_122 (isO.h (sh48 S) _) (Nat.le_of_ble_eq_true rfl) rfl ?_
  refine mm_song S2 hM2 hok (fun g3 hM3 hf3 => ?_)
  have hx3 : ∀ j, j < L → g3 0 j = xs j := fun j hj => by rw [hf3 0 (by omega)]; exact hx2 j hj
  refine T_icmpeq (pc2 := 986) (tgt := 1417) dL_law_983 (by decide) rfl (fun c983 => ?_) (fun c983 => ?_)
  · exact kn sk2 g3 n2 _ _ _ (by first | omega | exact Nat.le_refl _) (by first | omega | exact Nat.le_refl _) hX0 hx3 ⟨_, _, _, _, _, hJ2.m hf3⟩ hM3 (ok_song hok)
  · exact absurd rfl c983
theorem lc_who (hX0 : isX sk 0 L) (hx : ∀ j, j < L → g 0 j = xs j) (hL : L ≤ 448) (hi : i + 7 ≤ L) (hJ : JJ sk g n bf im above below nx s) (hM : InvM g s) (hok : Ok s) (kn : Kn Q d m i L xs) : T ML_law (d + 12) (144 * m + 144) (1152 * m + 1152) 988 (lawL i) [] (HP sk g n) Q := by
  have S := hJ.1
  have x1 := hx (i + 1) (by omega)
  have x2 := hx (i + 2) (by omega)
  have x3 := hx (i + 3) (by omega)
  have x4 := hx (i + 4) (by omega)
  have x5 := hx (i + 5) (by omega)
  have x6 := hx (i + 6) (by omega)
  refine T_aload_n (pc2 := 989) dL_law_988 rfl rfl ?_
  refine T_aload_n (pc2 := 990) dL_law_989 rfl rfl ?_
  refine T_iload_n (pc2 := 991) dL_law_990 rfl rfl ?_
  refine T_iconst (pc2 := 992) dL_law_991 ic1 rfl ?_
  first | refine N_iadd (pc2 := 993) dL_law_992 (by with_reducible rfl) (by with_reducible rfl) rfl ?_ | refine T_iadd (pc2 := 993) dL_law_992 rfl ?_
  refine G_xald (pc2 := 994) dL_law_993 hX0 (by omega) (by first | decide | omega) (by first | with_reducible assumption | exact gs_eq _ _ _ _ | exact (gs_ne _ _ (by omega)).trans (by with_reducible assumption) | exact (gs_ne _ _ (by omega)).trans (gs_eq _ _ _ _) | exact (gs_ne _ _ (by omega)).trans ((gs_ne _ _ (by omega)).trans (by with_reducible assumption)) | exact (gs_ne _ _ (by omega)).trans ((gs_ne _ _ (by omega)).trans (gs_eq _ _ _ _)) | exact (gs_ne _ _ (by omega)).trans ((gs_ne _ _ (by omega)).trans ((gs_ne _ _ (by omega)).trans (by with_reducible assumption))) | rfl) rfl ?_
  refine T_aload_n (pc2 := 995) dL_law_994 rfl rfl ?_
  refine T_iload_n (pc2 := 996) dL_law_995 rfl rfl ?_
  refine T_iconst (pc2 := 997) dL_law_996 ic2 rfl ?_
  first | refine N_iadd (pc2 := 998) dL_law_997 (by with_reducible rfl) (by with_reducible rfl) rfl ?_ | refine T_iadd (pc2 := 998) dL_law_997 rfl ?_
  refine G_xald (pc2 := 999) dL_law_998 hX0 (by omega) (by first | decide | omega) (by first | with_reducible assumption | exact gs_eq _ _ _ _ | exact (gs_ne _ _ (by omega)).trans (by with_reducible assumption) | exact (gs_ne _ _ (by omega)).trans (gs_eq _ _ _ _) | exact (gs_ne _ _ (by omega)).trans ((gs_ne _ _ (by omega)).trans (by with_reducible assumption)) | exact (gs_ne _ _ (by omega)).trans ((gs_ne _ _ (by omega)).trans (gs_eq _ _ _ _)) | exact (gs_ne _ _ (by omega)).trans ((gs_ne _ _ (by omega)).trans ((gs_ne _ _ (by omega)).trans (by with_reducible assumption))) | rfl) rfl ?_
  refine T_aload_n (pc2 := 1000) dL_law_999 rfl rfl ?_
  refine T_iload_n (pc2 := 1001) dL_law_1000 rfl rfl ?_
  refine T_iconst (pc2 := 1002) dL_law_1001 ic3 rfl ?_
  first | refine N_iadd (pc2 := 1003) dL_law_1002 (by with_reducible rfl) (by with_reducible rfl) rfl ?_ | refine T_iadd (pc2 := 1003) dL_law_1002 rfl ?_
  refine G_xald (pc2 := 1004) dL_law_1003 hX0 (by omega) (by first | decide | omega) (by first | with_reducible assumption | exact gs_eq _ _ _ _ | exact (gs_ne _ _ (by omega)).trans (by with_reducible assumption) | exact (gs_ne _ _ (by omega)).trans (gs_eq _ _ _ _) | exact (gs_ne _ _ (by omega)).trans ((gs_ne _ _ (by omega)).trans (by with_reducible assumption)) | exact (gs_ne _ _ (by omega)).trans ((gs_ne _ _ (by omega)).trans (gs_eq _ _ _ _)) | exact (gs_ne _ _ (by omega)).trans ((gs_ne _ _ (by omega)).trans ((gs_ne _ _ (by omega)).trans (by with_reducible assumption))) | rfl) rfl ?_
  refine T_aload_n (pc2 := 1005) dL_law_1004 rfl rfl ?_
  refine T_iload_n (pc2 := 1006) dL_law_1005 rfl rfl ?_
  refine T_iconst (pc2 := 1007) dL_law_1006 ic4 rfl ?_
  first | refine N_iadd (pc2 := 1008) dL_law_1007 (by with_reducible rfl) (by with_reducible rfl) rfl ?_ | refine T_iadd (pc2 := 1008) dL_law_1007 rfl ?_
  refine G_xald (pc2 := 1009) dL_law_1008 hX0 (by omega) (by first | decide | omega) (by first | with_reducible assumption | exact gs_eq _ _ _ _ | exact (gs_ne _ _ (by omega)).trans (by with_reducible assumption) | exact (gs_ne _ _ (by omega)).trans (gs_eq _ _ _ _) | exact (gs_ne _ _ (by omega)).trans ((gs_ne _ _ (by omega)).trans (by with_reducible assumption)) | exact (gs_ne _ _ (by omega)).trans ((gs_ne _ _ (by omega)).trans (gs_eq _ _ _ _)) | exact (gs_ne _ _ (by omega)).trans ((gs_ne _ _ (by omega)).trans ((gs_ne _ _ (by omega)).trans (by with_reducible assumption))) | rfl) rfl ?_
  refine T_aload_n (pc2 := 1010) dL_law_1009 rfl rfl ?_
  refine T_iload_n (pc2 := 1011) dL_law_1010 rfl rfl ?_
  refine T_iconst (pc2 := 1012) dL_law_1011 ic5 rfl ?_
  first | refine N_iadd (pc2 := 1013) dL_law_1012 (by with_reducible rfl) (by with_reducible rfl) rfl ?_ | refine T_iadd (pc2 := 1013) dL_law_1012 rfl ?_
  refine G_xald (pc2 := 1014) dL_law_1013 hX0 (by omega) (by first | decide | omega) (by first | with_reducible assumption | exact gs_eq _ _ _ _ | exact (gs_ne _ _ (by omega)).trans (by with_reducible assumption) | exact (gs_ne _ _ (by omega)).trans (gs_eq _ _ _ _) | exact (gs_ne _ _ (by omega)).trans ((gs_ne _ _ (by omega)).trans (by with_reducible assumption)) | exact (gs_ne _ _ (by omega)).trans ((gs_ne _ _ (by omega)).trans (gs_eq _ _ _ _)) | exact (gs_ne _ _ (by omega)).trans ((gs_ne _ _ (by omega)).trans ((gs_ne _ _ (by omega)).trans (by with_reducible assumption))) | rfl) rfl ?_
  refine T_aload_n (pc2 := 1015) dL_law_1014 rfl rfl ?_
  refine T_iload_n (pc2 := 1016) dL_law_1015 rfl rfl ?_
  refine T_bipush (pc2 := 1018) dL_law_1016 bp6 rfl ?_
  first | refine N_iadd (pc2 := 1019) dL_law_1018 (by with_reducible rfl) (by with_reducible rfl) rfl ?_ | refine T_iadd (pc2 := 1019) dL_law_1018 rfl ?_
  refine G_xald (pc2 := 1020) dL_law_1019 hX0 (by omega) (by first | decide | omega) (by first | with_reducible assumption | exact gs_eq _ _ _ _ | exact (gs_ne _ _ (by omega)).trans (by with_reducible assumption) | exact (gs_ne _ _ (by omega)).trans (gs_eq _ _ _ _) | exact (gs_ne _ _ (by omega)).trans ((gs_ne _ _ (by omega)).trans (by with_reducible assumption)) | exact (gs_ne _ _ (by omega)).trans ((gs_ne _ _ (by omega)).trans (gs_eq _ _ _ _)) | exact (gs_ne _ _ (by omega)).trans ((gs_ne _ _ (by omega)).trans ((gs_ne _ _ (by omega)).trans (by with_reducible assumption))) | rfl) rfl ?_
  refine C_V6 (pc2 := 1023) (mc := 0) (ms := 0) dL_law_1020 cvX7_who mlL_123 (isO.h (sh4 S) _) (Nat.le_of_ble_eq_true rfl) rfl ?_
  refine j_who hJ hok (fun sk2 g2 n2 hJ2 hf2 => ?_)
  obtain ⟨bf2, im2, ab2, be2, nx2, hJ2⟩ := hJ2
  have S2 := hJ2.1
  have hX2 := hX0
  have hX0 : isX sk2 0 L := hX2.fj hf2
  have hM2 := hM.fj hf2
  have hx2 : ∀ j, j < L → g2 0 j = xs j := fun j hj => by rw [hf2.2 0 (Or.inl rfl)]; exact hx j hj
  clear S
  have S := S2
  have y1 := hx2 (i + 1) (by omega)
  have y2 := hx2 (i + 2) (by omega)
  have y3 := hx2 (i + 3) (by omega)
  have y4 := hx2 (i + 4) (by omega)
  have y5 := hx2 (i + 5) (by omega)
  have y6 := hx2 (i + 6) (by omega)
  refine T_aload_n (pc2 := 1024) dL_law_1023 rfl rfl ?_
  refine T_aload_n (pc2 := 1025) dL_law_1024 rfl rfl ?_
  refine T_iload_n (pc2 := 1026) dL_law_1025 rfl rfl ?_
  refine T_iconst (pc2 := 1027) dL_law_1026 ic1 rfl ?_
  first | refine N_iadd (pc2 := 1028) dL_law_1027 (by with_reducible rfl) (by with_reducible rfl) rfl ?_ | refine T_iadd (pc2 := 1028) dL_law_1027 rfl ?_
  refine G_xald (pc2 := 1029) dL_law_1028 hX0 (by omega) (by first | decide | omega) (by first | with_reducible assumption | exact gs_eq _ _ _ _ | exact (gs_ne _ _ (by omega)).trans (by with_reducible assumption) | exact (gs_ne _ _ (by omega)).trans (gs_eq _ _ _ _) | exact (gs_ne _ _ (by omega)).trans ((gs_ne _ _ (by omega)).trans (by with_reducible assumption)) | exact (gs_ne _ _ (by omega)).trans ((gs_ne _ _ (by omega)).trans (gs_eq _ _ _ _)) | exact (gs_ne _ _ (by omega)).trans ((gs_ne _ _ (by omega)).trans ((gs_ne _ _ (by omega)).trans (by with_reducible assumption))) | rfl) rfl ?_
  refine T_aload_n (pc2 := 1030) dL_law_1029 rfl rfl ?_
  refine T_iload_n (pc2 := 1031) dL_law_1030 rfl rfl ?_
  refine T_iconst (pc2 := 1032) dL_law_1031 ic2 rfl ?_
  first | refine N_iadd (pc2 := 1033) dL_law_1032 (by with_reducible rfl) (by with_reducible rfl) rfl ?_ | refine T_iadd (pc2 := 1033) dL_law_1032 rfl ?_
  refine G_xald (pc2 := 1034) dL_law_1033 hX0 (by omega) (by first | decide | omega) (by first | with_reducible assumption | exact gs_eq _ _ _ _ | exact (gs_ne _ _ (by omega)).trans (by with_reducible assumption) | exact (gs_ne _ _ (by omega)).trans (gs_eq _ _ _ _) | exact (gs_ne _ _ (by omega)).trans ((gs_ne _ _ (by omega)).trans (by with_reducible assumption)) | exact (gs_ne _ _ (by omega)).trans ((gs_ne _ _ (by omega)).trans (gs_eq _ _ _ _)) | exact (gs_ne _ _ (by omega)).trans ((gs_ne _ _ (by omega)).trans ((gs_ne _ _ (by omega)).trans (by with_reducible assumption))) | rfl) rfl ?_
  refine T_aload_n (pc2 := 1035) dL_law_1034 rfl rfl ?_
  refine T_iload_n (pc2 := 1036) dL_law_1035 rfl rfl ?_
  refine T_iconst (pc2 := 1037) dL_law_1036 ic3 rfl ?_
  first | refine N_iadd (pc2 := 1038) dL_law_1037 (by with_reducible rfl) (by with_reducible rfl) rfl ?_ | refine T_iadd (pc2 := 1038) dL_law_1037 rfl ?_
  refine G_xald (pc2 := 1039) dL_law_1038 hX0 (by omega) (by first | decide | omega) (by first | with_reducible assumption | exact gs_eq _ _ _ _ | exact (gs_ne _ _ (by omega)).trans (by with_reducible assumption) | exact (gs_ne _ _ (by omega)).trans (gs_eq _ _ _ _) | exact (gs_ne _ _ (by omega)).trans ((gs_ne _ _ (by omega)).trans (by with_reducible assumption)) | exact (gs_ne _ _ (by omega)).trans ((gs_ne _ _ (by omega)).trans (gs_eq _ _ _ _)) | exact (gs_ne _ _ (by omega)).trans ((gs_ne _ _ (by omega)).trans ((gs_ne _ _ (by omega)).trans (by with_reducible assumption))) | rfl) rfl ?_
  refine T_aload_n (pc2 := 1040) dL_law_1039 rfl rfl ?_
  refine T_iload_n (pc2 := 1041) dL_law_1040 rfl rfl ?_
  refine T_iconst (pc2 := 1042) dL_law_1041 ic4 rfl ?_
  first | refine N_iadd (pc2 := 1043) dL_law_1042 (by with_reducible rfl) (by with_reducible rfl) rfl ?_ | refine T_iadd (pc2 := 1043) dL_law_1042 rfl ?_
  refine G_xald (pc2 := 1044) dL_law_1043 hX0 (by omega) (by first | decide | omega) (by first | with_reducible assumption | exact gs_eq _ _ _ _ | exact (gs_ne _ _ (by omega)).trans (by with_reducible assumption) | exact (gs_ne _ _ (by omega)).trans (gs_eq _ _ _ _) | exact (gs_ne _ _ (by omega)).trans ((gs_ne _ _ (by omega)).trans (by with_reducible assumption)) | exact (gs_ne _ _ (by omega)).trans ((gs_ne _ _ (by omega)).trans (gs_eq _ _ _ _)) | exact (gs_ne _ _ (by omega)).trans ((gs_ne _ _ (by omega)).trans ((gs_ne _ _ (by omega)).trans (by with_reducible assumption))) | rfl) rfl ?_
  refine T_aload_n (pc2 := 1045) dL_law_1044 rfl rfl ?_
  refine T_iload_n (pc2 := 1046) dL_law_1045 rfl rfl ?_
  refine T_iconst (pc2 := 1047) dL_law_1046 ic5 rfl ?_
  first | refine N_iadd (pc2 := 1048) dL_law_1047 (by with_reducible rfl) (by with_reducible rfl) rfl ?_ | refine T_iadd (pc2 := 1048) dL_law_1047 rfl ?_
  refine G_xald (pc2 := 1049) dL_law_1048 hX0 (by omega) (by first | decide | omega) (by first | with_reducible assumption | exact gs_eq _ _ _ _ | exact (gs_ne _ _ (by omega)).trans (by with_reducible assumption) | exact (gs_ne _ _ (by omega)).trans (gs_eq _ _ _ _) | exact (gs_ne _ _ (by omega)).trans ((gs_ne _ _ (by omega)).trans (by with_reducible assumption)) | exact (gs_ne _ _ (by omega)).trans ((gs_ne _ _ (by omega)).trans (gs_eq _ _ _ _)) | exact (gs_ne _ _ (by omega)).trans ((gs_ne _ _ (by omega)).trans ((gs_ne _ _ (by omega)).trans (by with_reducible assumption))) | rfl) rfl ?_
  refine T_aload_n (pc2 := 1050) dL_law_1049 rfl rfl ?_
  refine T_iload_n (pc2 := 1051) dL_law_1050 rfl rfl ?_
  refine T_bipush (pc2 := 1053) dL_law_1051 bp6 rfl ?_
  first | refine N_iadd (pc2 := 1054) dL_law_1053 (by with_reducible rfl) (by with_reducible rfl) rfl ?_ | refine T_iadd (pc2 := 1054) dL_law_1053 rfl ?_
  refine G_xald (pc2 := 1055) dL_law_1054 hX0 (by omega) (by first | decide | omega) (by first | with_reducible assumption | exact gs_eq _ _ _ _ | exact (gs_ne _ _ (by omega)).trans (by with_reducible assumption) | exact (gs_ne _ _ (by omega)).trans (gs_eq _ _ _ _) | exact (gs_ne _ _ (by omega)).trans ((gs_ne _ _ (by omega)).trans (by with_reducible assumption)) | exact (gs_ne _ _ (by omega)).trans ((gs_ne _ _ (by omega)).trans (gs_eq _ _ _ _)) | exact (gs_ne _ _ (by omega)).trans ((gs_ne _ _ (by omega)).trans ((gs_ne _ _ (by omega)).trans (by with_reducible assumption))) | rfl) rfl ?_
  refine C_V6 (pc2 := 1058) (mc := 0) (ms := 0) dL_law_1055 cvX8_who mlL_127 (isO.h (sh48 S) _) (Nat.le_of_ble_eq_true rfl) rfl ?_
  refine mm_who S2 hM2 hok (fun g3 hM3 hf3 => ?_)
  have hx3 : ∀ j, j < L → g3 0 j = xs j := fun j hj => by rw [hf3 0 (by omega)]; exact hx2 j hj
  refine T_icmpeq (pc2 := 1061) (tgt := 1417) dL_law_1058 (by decide) rfl (fun c1058 => ?_) (fun c1058 => ?_)
  · exact kn sk2 g3 n2 _ _ _ (by first | omega | exact Nat.le_refl _) (by first | omega | exact Nat.le_refl _) hX0 hx3 ⟨_, _, _, _, _, hJ2.m hf3⟩ hM3 (ok_who hok)
  · exact absurd rfl c1058
theorem lc_reaches (hX0 : isX sk 0 L) (hx : ∀ j, j < L → g 0 j = xs j) (hL : L ≤ 448) (hi : i + 7 ≤ L) (hJ : JJ sk g n bf im above below nx s) (hM : InvM g s) (hok : Ok s) (kn : Kn Q d m i L xs) : T ML_law (d + 12) (144 * m + 144) (1152 * m + 1152) 1063 (lawL i) [] (HP sk g n) Q := by
  have S := hJ.1
  have x1 := hx (i + 1) (by omega)
  have x2 := hx (i + 2) (by omega)
  have x3 := hx (i + 3) (by omega)
  have x4 := hx (i + 4) (by omega)
  refine T_aload_n (pc2 := 1064) dL_law_1063 rfl rfl ?_
  refine T_aload_n (pc2 := 1065) dL_law_1064 rfl rfl ?_
  refine T_iload_n (pc2 := 1066) dL_law_1065 rfl rfl ?_
  refine T_iconst (pc2 := 1067) dL_law_1066 ic1 rfl ?_
  first | refine N_iadd (pc2 := 1068) dL_law_1067 (by with_reducible rfl) (by with_reducible rfl) rfl ?_ | refine T_iadd (pc2 := 1068) dL_law_1067 rfl ?_
  refine G_xald (pc2 := 1069) dL_law_1068 hX0 (by omega) (by first | decide | omega) (by first | with_reducible assumption | exact gs_eq _ _ _ _ | exact (gs_ne _ _ (by omega)).trans (by with_reducible assumption) | exact (gs_ne _ _ (by omega)).trans (gs_eq _ _ _ _) | exact (gs_ne _ _ (by omega)).trans ((gs_ne _ _ (by omega)).trans (by with_reducible assumption)) | exact (gs_ne _ _ (by omega)).trans ((gs_ne _ _ (by omega)).trans (gs_eq _ _ _ _)) | exact (gs_ne _ _ (by omega)).trans ((gs_ne _ _ (by omega)).trans ((gs_ne _ _ (by omega)).trans (by with_reducible assumption))) | rfl) rfl ?_
  refine T_aload_n (pc2 := 1070) dL_law_1069 rfl rfl ?_
  refine T_iload_n (pc2 := 1071) dL_law_1070 rfl rfl ?_
  refine T_iconst (pc2 := 1072) dL_law_1071 ic2 rfl ?_
  first | refine N_iadd (pc2 := 1073) dL_law_1072 (by with_reducible rfl) (by with_reducible rfl) rfl ?_ | refine T_iadd (pc2 := 1073) dL_law_1072 rfl ?_
  refine G_xald (pc2 := 1074) dL_law_1073 hX0 (by omega) (by first | decide | omega) (by first | with_reducible assumption | exact gs_eq _ _ _ _ | exact (gs_ne _ _ (by omega)).trans (by with_reducible assumption) | exact (gs_ne _ _ (by omega)).trans (gs_eq _ _ _ _) | exact (gs_ne _ _ (by omega)).trans ((gs_ne _ _ (by omega)).trans (by with_reducible assumption)) | exact (gs_ne _ _ (by omega)).trans ((gs_ne _ _ (by omega)).trans (gs_eq _ _ _ _)) | exact (gs_ne _ _ (by omega)).trans ((gs_ne _ _ (by omega)).trans ((gs_ne _ _ (by omega)).trans (by with_reducible assumption))) | rfl) rfl ?_
  refine T_aload_n (pc2 := 1075) dL_law_1074 rfl rfl ?_
  refine T_iload_n (pc2 := 1076) dL_law_1075 rfl rfl ?_
  refine T_iconst (pc2 := 1077) dL_law_1076 ic3 rfl ?_
  first | refine N_iadd (pc2 := 1078) dL_law_1077 (by with_reducible rfl) (by with_reducible rfl) rfl ?_ | refine T_iadd (pc2 := 1078) dL_law_1077 rfl ?_
  refine G_xald (pc2 := 1079) dL_law_1078 hX0 (by omega) (by first | decide | omega) (by first | with_reducible assumption | exact gs_eq _ _ _ _ | exact (gs_ne _ _ (by omega)).trans (by with_reducible assumption) | exact (gs_ne _ _ (by omega)).trans (gs_eq _ _ _ _) | exact (gs_ne _ _ (by omega)).trans ((gs_ne _ _ (by omega)).trans (by with_reducible assumption)) | exact (gs_ne _ _ (by omega)).trans ((gs_ne _ _ (by omega)).trans (gs_eq _ _ _ _)) | exact (gs_ne _ _ (by omega)).trans ((gs_ne _ _ (by omega)).trans ((gs_ne _ _ (by omega)).trans (by with_reducible assumption))) | rfl) rfl ?_
  refine T_aload_n (pc2 := 1080) dL_law_1079 rfl rfl ?_
  refine T_iload_n (pc2 := 1081) dL_law_1080 rfl rfl ?_
  refine T_iconst (pc2 := 1082) dL_law_1081 ic4 rfl ?_
  first | refine N_iadd (pc2 := 1083) dL_law_1082 (by with_reducible rfl) (by with_reducible rfl) rfl ?_ | refine T_iadd (pc2 := 1083) dL_law_1082 rfl ?_
  refine G_xald (pc2 := 1084) dL_law_1083 hX0 (by omega) (by first | decide | omega) (by first | with_reducible assumption | exact gs_eq _ _ _ _ | exact (gs_ne _ _ (by omega)).trans (by with_reducible assumption) | exact (gs_ne _ _ (by omega)).trans (gs_eq _ _ _ _) | exact (gs_ne _ _ (by omega)).trans ((gs_ne _ _ (by omega)).trans (by with_reducible assumption)) | exact (gs_ne _ _ (by omega)).trans ((gs_ne _ _ (by omega)).trans (gs_eq _ _ _ _)) | exact (gs_ne _ _ (by omega)).trans ((gs_ne _ _ (by omega)).trans ((gs_ne _ _ (by omega)).trans (by with_reducible assumption))) | rfl) rfl ?_
  refine C_V4 (pc2 := 1087) (mc := 0) (ms := 0) dL_law_1084 cvX7_reaches mlL_128 (isO.h (sh4 S) _) (Nat.le_of_ble_eq_true rfl) rfl ?_
  refine j_reaches hJ hok (fun sk2 g2 n2 hJ2 hf2 => ?_)
  obtain ⟨bf2, im2, ab2, be2, nx2, hJ2⟩ := hJ2
  have S2 := hJ2.1
  have hX2 := hX0
  have hX0 : isX sk2 0 L := hX2.fj hf2
  have hM2 := hM.fj hf2
  have hx2 : ∀ j, j < L → g2 0 j = xs j := fun j hj => by rw [hf2.2 0 (Or.inl rfl)]; exact hx j hj
  clear S
  have S := S2
  have y1 := hx2 (i + 1) (by omega)
  have y2 := hx2 (i + 2) (by omega)
  have y3 := hx2 (i + 3) (by omega)
  have y4 := hx2 (i + 4) (by omega)
  refine T_aload_n (pc2 := 1088) dL_law_1087 rfl rfl ?_
  refine T_aload_n (pc2 := 1089) dL_law_1088 rfl rfl ?_
  refine T_iload_n (pc2 := 1090) dL_law_1089 rfl rfl ?_
  refine T_iconst (pc2 := 1091) dL_law_1090 ic1 rfl ?_
  first | refine N_iadd (pc2 := 1092) dL_law_1091 (by with_reducible rfl) (by with_reducible rfl) rfl ?_ | refine T_iadd (pc2 := 1092) dL_law_1091 rfl ?_
  refine G_xald (pc2 := 1093) dL_law_1092 hX0 (by omega) (by first | decide | omega) (by first | with_reducible assumption | exact gs_eq _ _ _ _ | exact (gs_ne _ _ (by omega)).trans (by with_reducible assumption) | exact (gs_ne _ _ (by omega)).trans (gs_eq _ _ _ _) | exact (gs_ne _ _ (by omega)).trans ((gs_ne _ _ (by omega)).trans (by with_reducible assumption)) | exact (gs_ne _ _ (by omega)).trans ((gs_ne _ _ (by omega)).trans (gs_eq _ _ _ _)) | exact (gs_ne _ _ (by omega)).trans ((gs_ne _ _ (by omega)).trans ((gs_ne _ _ (by omega)).trans (by with_reducible assumption))) | rfl) rfl ?_
  refine T_aload_n (pc2 := 1094) dL_law_1093 rfl rfl ?_
  refine T_iload_n (pc2 := 1095) dL_law_1094 rfl rfl ?_
  refine T_iconst (pc2 := 1096) dL_law_1095 ic2 rfl ?_
  first | refine N_iadd (pc2 := 1097) dL_law_1096 (by with_reducible rfl) (by with_reducible rfl) rfl ?_ | refine T_iadd (pc2 := 1097) dL_law_1096 rfl ?_
  refine G_xald (pc2 := 1098) dL_law_1097 hX0 (by omega) (by first | decide | omega) (by first | with_reducible assumption | exact gs_eq _ _ _ _ | exact (gs_ne _ _ (by omega)).trans (by with_reducible assumption) | exact (gs_ne _ _ (by omega)).trans (gs_eq _ _ _ _) | exact (gs_ne _ _ (by omega)).trans ((gs_ne _ _ (by omega)).trans (by with_reducible assumption)) | exact (gs_ne _ _ (by omega)).trans ((gs_ne _ _ (by omega)).trans (gs_eq _ _ _ _)) | exact (gs_ne _ _ (by omega)).trans ((gs_ne _ _ (by omega)).trans ((gs_ne _ _ (by omega)).trans (by with_reducible assumption))) | rfl) rfl ?_
  refine T_aload_n (pc2 := 1099) dL_law_1098 rfl rfl ?_
  refine T_iload_n (pc2 := 1100) dL_law_1099 rfl rfl ?_
  refine T_iconst (pc2 := 1101) dL_law_1100 ic3 rfl ?_
  first | refine N_iadd (pc2 := 1102) dL_law_1101 (by with_reducible rfl) (by with_reducible rfl) rfl ?_ | refine T_iadd (pc2 := 1102) dL_law_1101 rfl ?_
  refine G_xald (pc2 := 1103) dL_law_1102 hX0 (by omega) (by first | decide | omega) (by first | with_reducible assumption | exact gs_eq _ _ _ _ | exact (gs_ne _ _ (by omega)).trans (by with_reducible assumption) | exact (gs_ne _ _ (by omega)).trans (gs_eq _ _ _ _) | exact (gs_ne _ _ (by omega)).trans ((gs_ne _ _ (by omega)).trans (by with_reducible assumption)) | exact (gs_ne _ _ (by omega)).trans ((gs_ne _ _ (by omega)).trans (gs_eq _ _ _ _)) | exact (gs_ne _ _ (by omega)).trans ((gs_ne _ _ (by omega)).trans ((gs_ne _ _ (by omega)).trans (by with_reducible assumption))) | rfl) rfl ?_
  refine T_aload_n (pc2 := 1104) dL_law_1103 rfl rfl ?_
  refine T_iload_n (pc2 := 1105) dL_law_1104 rfl rfl ?_
  refine T_iconst (pc2 := 1106) dL_law_1105 ic4 rfl ?_
  first | refine N_iadd (pc2 := 1107) dL_law_1106 (by with_reducible rfl) (by with_reducible rfl) rfl ?_ | refine T_iadd (pc2 := 1107) dL_law_1106 rfl ?_
  refine G_xald (pc2 := 1108) dL_law_1107 hX0 (by omega) (by first | decide | omega) (by first | with_reducible assumption | exact gs_eq _ _ _ _ | exact (gs_ne _ _ (by omega)).trans (by with_reducible assumption) | exact (gs_ne _ _ (by omega)).trans (gs_eq _ _ _ _) | exact (gs_ne _ _ (by omega)).trans ((gs_ne _ _ (by omega)).trans (by with_reducible assumption)) | exact (gs_ne _ _ (by omega)).trans ((gs_ne _ _ (by omega)).trans (gs_eq _ _ _ _)) | exact (gs_ne _ _ (by omega)).trans ((gs_ne _ _ (by omega)).trans ((gs_ne _ _ (by omega)).trans (by with_reducible assumption))) | rfl) rfl ?_
  refine C_V4 (pc2 := 1111) (mc := 0) (ms := 0) dL_law_1108 cvX8_reaches mlL_131 (isO.h (sh48 S) _) (Nat.le_of_ble_eq_true rfl) rfl ?_
  refine mm_reaches S2 hM2 hok (fun g3 hM3 hf3 => ?_)
  have hx3 : ∀ j, j < L → g3 0 j = xs j := fun j hj => by rw [hf3 0 (by omega)]; exact hx2 j hj
  refine T_icmpeq (pc2 := 1114) (tgt := 1417) dL_law_1111 (by decide) rfl (fun c1111 => ?_) (fun c1111 => ?_)
  · exact kn sk2 g3 n2 _ _ _ (by first | omega | exact Nat.le_refl _) (by first | omega | exact Nat.le_refl _) hX0 hx3 ⟨_, _, _, _, _, hJ2.m hf3⟩ hM3 (ok_reaches hok)
  · exact absurd rfl c1111
theorem lc_mould (hX0 : isX sk 0 L) (hx : ∀ j, j < L → g 0 j = xs j) (hL : L ≤ 448) (hi : i + 7 ≤ L) (hJ : JJ sk g n bf im above below nx s) (hM : InvM g s) (hok : Ok s) (kn : Kn Q d m i L xs) : T ML_law (d + 12) (144 * m + 144) (1152 * m + 1152) 1116 (lawL i) [] (HP sk g n) Q := by
  have S := hJ.1
  have x1 := hx (i + 1) (by omega)
  have x2 := hx (i + 2) (by omega)
  have x3 := hx (i + 3) (by omega)
  have x4 := hx (i + 4) (by omega)
  have x5 := hx (i + 5) (by omega)
  refine T_aload_n (pc2 := 1117) dL_law_1116 rfl rfl ?_
  refine T_aload_n (pc2 := 1118) dL_law_1117 rfl rfl ?_
  refine T_iload_n (pc2 := 1119) dL_law_1118 rfl rfl ?_
  refine T_iconst (pc2 := 1120) dL_law_1119 ic1 rfl ?_
  first | refine N_iadd (pc2 := 1121) dL_law_1120 (by with_reducible rfl) (by with_reducible rfl) rfl ?_ | refine T_iadd (pc2 := 1121) dL_law_1120 rfl ?_
  refine G_xald (pc2 := 1122) dL_law_1121 hX0 (by omega) (by first | decide | omega) (by first | with_reducible assumption | exact gs_eq _ _ _ _ | exact (gs_ne _ _ (by omega)).trans (by with_reducible assumption) | exact (gs_ne _ _ (by omega)).trans (gs_eq _ _ _ _) | exact (gs_ne _ _ (by omega)).trans ((gs_ne _ _ (by omega)).trans (by with_reducible assumption)) | exact (gs_ne _ _ (by omega)).trans ((gs_ne _ _ (by omega)).trans (gs_eq _ _ _ _)) | exact (gs_ne _ _ (by omega)).trans ((gs_ne _ _ (by omega)).trans ((gs_ne _ _ (by omega)).trans (by with_reducible assumption))) | rfl) rfl ?_
  refine T_aload_n (pc2 := 1123) dL_law_1122 rfl rfl ?_
  refine T_iload_n (pc2 := 1124) dL_law_1123 rfl rfl ?_
  refine T_iconst (pc2 := 1125) dL_law_1124 ic2 rfl ?_
  first | refine N_iadd (pc2 := 1126) dL_law_1125 (by with_reducible rfl) (by with_reducible rfl) rfl ?_ | refine T_iadd (pc2 := 1126) dL_law_1125 rfl ?_
  refine G_xald (pc2 := 1127) dL_law_1126 hX0 (by omega) (by first | decide | omega) (by first | with_reducible assumption | exact gs_eq _ _ _ _ | exact (gs_ne _ _ (by omega)).trans (by with_reducible assumption) | exact (gs_ne _ _ (by omega)).trans (gs_eq _ _ _ _) | exact (gs_ne _ _ (by omega)).trans ((gs_ne _ _ (by omega)).trans (by with_reducible assumption)) | exact (gs_ne _ _ (by omega)).trans ((gs_ne _ _ (by omega)).trans (gs_eq _ _ _ _)) | exact (gs_ne _ _ (by omega)).trans ((gs_ne _ _ (by omega)).trans ((gs_ne _ _ (by omega)).trans (by with_reducible assumption))) | rfl) rfl ?_
  refine T_aload_n (pc2 := 1128) dL_law_1127 rfl rfl ?_
  refine T_iload_n (pc2 := 1129) dL_law_1128 rfl rfl ?_
  refine T_iconst (pc2 := 1130) dL_law_1129 ic3 rfl ?_
  first | refine N_iadd (pc2 := 1131) dL_law_1130 (by with_reducible rfl) (by with_reducible rfl) rfl ?_ | refine T_iadd (pc2 := 1131) dL_law_1130 rfl ?_
  refine G_xald (pc2 := 1132) dL_law_1131 hX0 (by omega) (by first | decide | omega) (by first | with_reducible assumption | exact gs_eq _ _ _ _ | exact (gs_ne _ _ (by omega)).trans (by with_reducible assumption) | exact (gs_ne _ _ (by omega)).trans (gs_eq _ _ _ _) | exact (gs_ne _ _ (by omega)).trans ((gs_ne _ _ (by omega)).trans (by with_reducible assumption)) | exact (gs_ne _ _ (by omega)).trans ((gs_ne _ _ (by omega)).trans (gs_eq _ _ _ _)) | exact (gs_ne _ _ (by omega)).trans ((gs_ne _ _ (by omega)).trans ((gs_ne _ _ (by omega)).trans (by with_reducible assumption))) | rfl) rfl ?_
  refine T_aload_n (pc2 := 1133) dL_law_1132 rfl rfl ?_
  refine T_iload_n (pc2 := 1134) dL_law_1133 rfl rfl ?_
  refine T_iconst (pc2 := 1135) dL_law_1134 ic4 rfl ?_
  first | refine N_iadd (pc2 := 1136) dL_law_1135 (by with_reducible rfl) (by with_reducible rfl) rfl ?_ | refine T_iadd (pc2 := 1136) dL_law_1135 rfl ?_
  refine G_xald (pc2 := 1137) dL_law_1136 hX0 (by omega) (by first | decide | omega) (by first | with_reducible assumption | exact gs_eq _ _ _ _ | exact (gs_ne _ _ (by omega)).trans (by with_reducible assumption) | exact (gs_ne _ _ (by omega)).trans (gs_eq _ _ _ _) | exact (gs_ne _ _ (by omega)).trans ((gs_ne _ _ (by omega)).trans (by with_reducible assumption)) | exact (gs_ne _ _ (by omega)).trans ((gs_ne _ _ (by omega)).trans (gs_eq _ _ _ _)) | exact (gs_ne _ _ (by omega)).trans ((gs_ne _ _ (by omega)).trans ((gs_ne _ _ (by omega)).trans (by with_reducible assumption))) | rfl) rfl ?_
  refine T_aload_n (pc2 := 1138) dL_law_1137 rfl rfl ?_
  refine T_iload_n (pc2 := 1139) dL_law_1138 rfl rfl ?_
  refine T_iconst (pc2 := 1140) dL_law_1139 ic5 rfl ?_
  first | refine N_iadd (pc2 := 1141) dL_law_1140 (by with_reducible rfl) (by with_reducible rfl) rfl ?_ | refine T_iadd (pc2 := 1141) dL_law_1140 rfl ?_
  refine G_xald (pc2 := 1142) dL_law_1141 hX0 (by omega) (by first | decide | omega) (by first | with_reducible assumption | exact gs_eq _ _ _ _ | exact (gs_ne _ _ (by omega)).trans (by with_reducible assumption) | exact (gs_ne _ _ (by omega)).trans (gs_eq _ _ _ _) | exact (gs_ne _ _ (by omega)).trans ((gs_ne _ _ (by omega)).trans (by with_reducible assumption)) | exact (gs_ne _ _ (by omega)).trans ((gs_ne _ _ (by omega)).trans (gs_eq _ _ _ _)) | exact (gs_ne _ _ (by omega)).trans ((gs_ne _ _ (by omega)).trans ((gs_ne _ _ (by omega)).trans (by with_reducible assumption))) | rfl) rfl ?_
  refine C_V5 (pc2 := 1145) (mc := 0) (ms := 0) dL_law_1142 cvX7_mould mlL_132 (isO.h (sh4 S) _) (Nat.le_of_ble_eq_true rfl) rfl ?_
  refine j_mould hJ hok (fun sk2 g2 n2 hJ2 hf2 => ?_)
  obtain ⟨bf2, im2, ab2, be2, nx2, hJ2⟩ := hJ2
  have S2 := hJ2.1
  have hX2 := hX0
  have hX0 : isX sk2 0 L := hX2.fj hf2
  have hM2 := hM.fj hf2
  have hx2 : ∀ j, j < L → g2 0 j = xs j := fun j hj => by rw [hf2.2 0 (Or.inl rfl)]; exact hx j hj
  clear S
  have S := S2
  have y1 := hx2 (i + 1) (by omega)
  have y2 := hx2 (i + 2) (by omega)
  have y3 := hx2 (i + 3) (by omega)
  have y4 := hx2 (i + 4) (by omega)
  have y5 := hx2 (i + 5) (by omega)
  refine T_aload_n (pc2 := 1146) dL_law_1145 rfl rfl ?_
  refine T_aload_n (pc2 := 1147) dL_law_1146 rfl rfl ?_
  refine T_iload_n (pc2 := 1148) dL_law_1147 rfl rfl ?_
  refine T_iconst (pc2 := 1149) dL_law_1148 ic1 rfl ?_
  first | refine N_iadd (pc2 := 1150) dL_law_1149 (by with_reducible rfl) (by with_reducible rfl) rfl ?_ | refine T_iadd (pc2 := 1150) dL_law_1149 rfl ?_
  refine G_xald (pc2 := 1151) dL_law_1150 hX0 (by omega) (by first | decide | omega) (by first | with_reducible assumption | exact gs_eq _ _ _ _ | exact (gs_ne _ _ (by omega)).trans (by with_reducible assumption) | exact (gs_ne _ _ (by omega)).trans (gs_eq _ _ _ _) | exact (gs_ne _ _ (by omega)).trans ((gs_ne _ _ (by omega)).trans (by with_reducible assumption)) | exact (gs_ne _ _ (by omega)).trans ((gs_ne _ _ (by omega)).trans (gs_eq _ _ _ _)) | exact (gs_ne _ _ (by omega)).trans ((gs_ne _ _ (by omega)).trans ((gs_ne _ _ (by omega)).trans (by with_reducible assumption))) | rfl) rfl ?_
  refine T_aload_n (pc2 := 1152) dL_law_1151 rfl rfl ?_
  refine T_iload_n (pc2 := 1153) dL_law_1152 rfl rfl ?_
  refine T_iconst (pc2 := 1154) dL_law_1153 ic2 rfl ?_
  first | refine N_iadd (pc2 := 1155) dL_law_1154 (by with_reducible rfl) (by with_reducible rfl) rfl ?_ | refine T_iadd (pc2 := 1155) dL_law_1154 rfl ?_
  refine G_xald (pc2 := 1156) dL_law_1155 hX0 (by omega) (by first | decide | omega) (by first | with_reducible assumption | exact gs_eq _ _ _ _ | exact (gs_ne _ _ (by omega)).trans (by with_reducible assumption) | exact (gs_ne _ _ (by omega)).trans (gs_eq _ _ _ _) | exact (gs_ne _ _ (by omega)).trans ((gs_ne _ _ (by omega)).trans (by with_reducible assumption)) | exact (gs_ne _ _ (by omega)).trans ((gs_ne _ _ (by omega)).trans (gs_eq _ _ _ _)) | exact (gs_ne _ _ (by omega)).trans ((gs_ne _ _ (by omega)).trans ((gs_ne _ _ (by omega)).trans (by with_reducible assumption))) | rfl) rfl ?_
  refine T_aload_n (pc2 := 1157) dL_law_1156 rfl rfl ?_
  refine T_iload_n (pc2 := 1158) dL_law_1157 rfl rfl ?_
  refine T_iconst (pc2 := 1159) dL_law_1158 ic3 rfl ?_
  first | refine N_iadd (pc2 := 1160) dL_law_1159 (by with_reducible rfl) (by with_reducible rfl) rfl ?_ | refine T_iadd (pc2 := 1160) dL_law_1159 rfl ?_
  refine G_xald (pc2 := 1161) dL_law_1160 hX0 (by omega) (by first | decide | omega) (by first | with_reducible assumption | exact gs_eq _ _ _ _ | exact (gs_ne _ _ (by omega)).trans (by with_reducible assumption) | exact (gs_ne _ _ (by omega)).trans (gs_eq _ _ _ _) | exact (gs_ne _ _ (by omega)).trans ((gs_ne _ _ (by omega)).trans (by with_reducible assumption)) | exact (gs_ne _ _ (by omega)).trans ((gs_ne _ _ (by omega)).trans (gs_eq _ _ _ _)) | exact (gs_ne _ _ (by omega)).trans ((gs_ne _ _ (by omega)).trans ((gs_ne _ _ (by omega)).trans (by with_reducible assumption))) | rfl) rfl ?_
  refine T_aload_n (pc2 := 1162) dL_law_1161 rfl rfl ?_
  refine T_iload_n (pc2 := 1163) dL_law_1162 rfl rfl ?_
  refine T_iconst (pc2 := 1164) dL_law_1163 ic4 rfl ?_
  first | refine N_iadd (pc2 := 1165) dL_law_1164 (by with_reducible rfl) (by with_reducible rfl) rfl ?_ | refine T_iadd (pc2 := 1165) dL_law_1164 rfl ?_
  refine G_xald (pc2 := 1166) dL_law_1165 hX0 (by omega) (by first | decide | omega) (by first | with_reducible assumption | exact gs_eq _ _ _ _ | exact (gs_ne _ _ (by omega)).trans (by with_reducible assumption) | exact (gs_ne _ _ (by omega)).trans (gs_eq _ _ _ _) | exact (gs_ne _ _ (by omega)).trans ((gs_ne _ _ (by omega)).trans (by with_reducible assumption)) | exact (gs_ne _ _ (by omega)).trans ((gs_ne _ _ (by omega)).trans (gs_eq _ _ _ _)) | exact (gs_ne _ _ (by omega)).trans ((gs_ne _ _ (by omega)).trans ((gs_ne _ _ (by omega)).trans (by with_reducible assumption))) | rfl) rfl ?_
  refine T_aload_n (pc2 := 1167) dL_law_1166 rfl rfl ?_
  refine T_iload_n (pc2 := 1168) dL_law_1167 rfl rfl ?_
  refine T_iconst (pc2 := 1169) dL_law_1168 ic5 rfl ?_
  first | refine N_iadd (pc2 := 1170) dL_law_1169 (by with_reducible rfl) (by with_reducible rfl) rfl ?_ | refine T_iadd (pc2 := 1170) dL_law_1169 rfl ?_
  refine G_xald (pc2 := 1171) dL_law_1170 hX0 (by omega) (by first | decide | omega) (by first | with_reducible assumption | exact gs_eq _ _ _ _ | exact (gs_ne _ _ (by omega)).trans (by with_reducible assumption) | exact (gs_ne _ _ (by omega)).trans (gs_eq _ _ _ _) | exact (gs_ne _ _ (by omega)).trans ((gs_ne _ _ (by omega)).trans (by with_reducible assumption)) | exact (gs_ne _ _ (by omega)).trans ((gs_ne _ _ (by omega)).trans (gs_eq _ _ _ _)) | exact (gs_ne _ _ (by omega)).trans ((gs_ne _ _ (by omega)).trans ((gs_ne _ _ (by omega)).trans (by with_reducible assumption))) | rfl) rfl ?_
  refine C_V5 (pc2 := 1174) (mc := 0) (ms := 0) dL_law_1171 cvX8_mould mlL_136 (isO.h (sh48 S) _) (Nat.le_of_ble_eq_true rfl) rfl ?_
  refine mm_mould S2 hM2 hok (fun g3 hM3 hf3 => ?_)
  have hx3 : ∀ j, j < L → g3 0 j = xs j := fun j hj => by rw [hf3 0 (by omega)]; exact hx2 j hj
  refine T_lcmp (pc2 := 1175) dL_law_1174 rfl ?_
  refine T_ifeq (pc2 := 1178) (tgt := 1417) dL_law_1175 (by decide) rfl (fun c1175 => ?_) (fun c1175 => ?_)
  · exact kn sk2 g3 n2 _ _ _ (by first | omega | exact Nat.le_refl _) (by first | omega | exact Nat.le_refl _) hX0 hx3 ⟨_, _, _, _, _, hJ2.m hf3⟩ hM3 (ok_mould hok)
  · exact absurd ((lg_cmp_eq _ _).mpr rfl) c1175
theorem lc_drawn (hX0 : isX sk 0 L) (hx : ∀ j, j < L → g 0 j = xs j) (hL : L ≤ 448) (hi : i + 7 ≤ L) (hJ : JJ sk g n bf im above below nx s) (hM : InvM g s) (hok : Ok s) (kn : Kn Q d m i L xs) : T ML_law (d + 12) (144 * m + 144) (1152 * m + 1152) 1180 (lawL i) [] (HP sk g n) Q := by
  have S := hJ.1
  have x1 := hx (i + 1) (by omega)
  have x2 := hx (i + 2) (by omega)
  have x3 := hx (i + 3) (by omega)
  refine T_aload_n (pc2 := 1181) dL_law_1180 rfl rfl ?_
  refine T_aload_n (pc2 := 1182) dL_law_1181 rfl rfl ?_
  refine T_iload_n (pc2 := 1183) dL_law_1182 rfl rfl ?_
  refine T_iconst (pc2 := 1184) dL_law_1183 ic1 rfl ?_
  first | refine N_iadd (pc2 := 1185) dL_law_1184 (by with_reducible rfl) (by with_reducible rfl) rfl ?_ | refine T_iadd (pc2 := 1185) dL_law_1184 rfl ?_
  refine G_xald (pc2 := 1186) dL_law_1185 hX0 (by omega) (by first | decide | omega) (by first | with_reducible assumption | exact gs_eq _ _ _ _ | exact (gs_ne _ _ (by omega)).trans (by with_reducible assumption) | exact (gs_ne _ _ (by omega)).trans (gs_eq _ _ _ _) | exact (gs_ne _ _ (by omega)).trans ((gs_ne _ _ (by omega)).trans (by with_reducible assumption)) | exact (gs_ne _ _ (by omega)).trans ((gs_ne _ _ (by omega)).trans (gs_eq _ _ _ _)) | exact (gs_ne _ _ (by omega)).trans ((gs_ne _ _ (by omega)).trans ((gs_ne _ _ (by omega)).trans (by with_reducible assumption))) | rfl) rfl ?_
  refine T_aload_n (pc2 := 1187) dL_law_1186 rfl rfl ?_
  refine T_iload_n (pc2 := 1188) dL_law_1187 rfl rfl ?_
  refine T_iconst (pc2 := 1189) dL_law_1188 ic2 rfl ?_
  first | refine N_iadd (pc2 := 1190) dL_law_1189 (by with_reducible rfl) (by with_reducible rfl) rfl ?_ | refine T_iadd (pc2 := 1190) dL_law_1189 rfl ?_
  refine G_xald (pc2 := 1191) dL_law_1190 hX0 (by omega) (by first | decide | omega) (by first | with_reducible assumption | exact gs_eq _ _ _ _ | exact (gs_ne _ _ (by omega)).trans (by with_reducible assumption) | exact (gs_ne _ _ (by omega)).trans (gs_eq _ _ _ _) | exact (gs_ne _ _ (by omega)).trans ((gs_ne _ _ (by omega)).trans (by with_reducible assumption)) | exact (gs_ne _ _ (by omega)).trans ((gs_ne _ _ (by omega)).trans (gs_eq _ _ _ _)) | exact (gs_ne _ _ (by omega)).trans ((gs_ne _ _ (by omega)).trans ((gs_ne _ _ (by omega)).trans (by with_reducible assumption))) | rfl) rfl ?_
  refine T_aload_n (pc2 := 1192) dL_law_1191 rfl rfl ?_
  refine T_iload_n (pc2 := 1193) dL_law_1192 rfl rfl ?_
  refine T_iconst (pc2 := 1194) dL_law_1193 ic3 rfl ?_
  first | refine N_iadd (pc2 := 1195) dL_law_1194 (by with_reducible rfl) (by with_reducible rfl) rfl ?_ | refine T_iadd (pc2 := 1195) dL_law_1194 rfl ?_
  refine G_xald (pc2 := 1196) dL_law_1195 hX0 (by omega) (by first | decide | omega) (by first | with_reducible assumption | exact gs_eq _ _ _ _ | exact (gs_ne _ _ (by omega)).trans (by with_reducible assumption) | exact (gs_ne _ _ (by omega)).trans (gs_eq _ _ _ _) | exact (gs_ne _ _ (by omega)).trans ((gs_ne _ _ (by omega)).trans (by with_reducible assumption)) | exact (gs_ne _ _ (by omega)).trans ((gs_ne _ _ (by omega)).trans (gs_eq _ _ _ _)) | exact (gs_ne _ _ (by omega)).trans ((gs_ne _ _ (by omega)).trans ((gs_ne _ _ (by omega)).trans (by with_reducible assumption))) | rfl) rfl ?_
  refine C_V3 (pc2 := 1199) (mc := 0) (ms := 0) dL_law_1196 cvX7_drawn mlL_137 (isO.h (sh4 S) _) (Nat.le_of_ble_eq_true rfl) rfl ?_
  refine j_drawn hJ hok (fun sk2 g2 n2 hJ2 hf2 => ?_)
  obtain ⟨bf2, im2, ab2, be2, nx2, hJ2⟩ := hJ2
  have S2 := hJ2.1
  have hX2 := hX0
  have hX0 : isX sk2 0 L := hX2.fj hf2
  have hM2 := hM.fj hf2
  have hx2 : ∀ j, j < L → g2 0 j = xs j := fun j hj => by rw [hf2.2 0 (Or.inl rfl)]; exact hx j hj
  clear S
  have S := S2
  have y1 := hx2 (i + 1) (by omega)
  have y2 := hx2 (i + 2) (by omega)
  have y3 := hx2 (i + 3) (by omega)
  refine T_aload_n (pc2 := 1200) dL_law_1199 rfl rfl ?_
  refine T_aload_n (pc2 := 1201) dL_law_1200 rfl rfl ?_
  refine T_iload_n (pc2 := 1202) dL_law_1201 rfl rfl ?_
  refine T_iconst (pc2 := 1203) dL_law_1202 ic1 rfl ?_
  first | refine N_iadd (pc2 := 1204) dL_law_1203 (by with_reducible rfl) (by with_reducible rfl) rfl ?_ | refine T_iadd (pc2 := 1204) dL_law_1203 rfl ?_
  refine G_xald (pc2 := 1205) dL_law_1204 hX0 (by omega) (by first | decide | omega) (by first | with_reducible assumption | exact gs_eq _ _ _ _ | exact (gs_ne _ _ (by omega)).trans (by with_reducible assumption) | exact (gs_ne _ _ (by omega)).trans (gs_eq _ _ _ _) | exact (gs_ne _ _ (by omega)).trans ((gs_ne _ _ (by omega)).trans (by with_reducible assumption)) | exact (gs_ne _ _ (by omega)).trans ((gs_ne _ _ (by omega)).trans (gs_eq _ _ _ _)) | exact (gs_ne _ _ (by omega)).trans ((gs_ne _ _ (by omega)).trans ((gs_ne _ _ (by omega)).trans (by with_reducible assumption))) | rfl) rfl ?_
  refine T_aload_n (pc2 := 1206) dL_law_1205 rfl rfl ?_
  refine T_iload_n (pc2 := 1207) dL_law_1206 rfl rfl ?_
  refine T_iconst (pc2 := 1208) dL_law_1207 ic2 rfl ?_
  first | refine N_iadd (pc2 := 1209) dL_law_1208 (by with_reducible rfl) (by with_reducible rfl) rfl ?_ | refine T_iadd (pc2 := 1209) dL_law_1208 rfl ?_
  refine G_xald (pc2 := 1210) dL_law_1209 hX0 (by omega) (by first | decide | omega) (by first | with_reducible assumption | exact gs_eq _ _ _ _ | exact (gs_ne _ _ (by omega)).trans (by with_reducible assumption) | exact (gs_ne _ _ (by omega)).trans (gs_eq _ _ _ _) | exact (gs_ne _ _ (by omega)).trans ((gs_ne _ _ (by omega)).trans (by with_reducible assumption)) | exact (gs_ne _ _ (by omega)).trans ((gs_ne _ _ (by omega)).trans (gs_eq _ _ _ _)) | exact (gs_ne _ _ (by omega)).trans ((gs_ne _ _ (by omega)).trans ((gs_ne _ _ (by omega)).trans (by with_reducible assumption))) | rfl) rfl ?_
  refine T_aload_n (pc2 := 1211) dL_law_1210 rfl rfl ?_
  refine T_iload_n (pc2 := 1212) dL_law_1211 rfl rfl ?_
  refine T_iconst (pc2 := 1213) dL_law_1212 ic3 rfl ?_
  first | refine N_iadd (pc2 := 1214) dL_law_1213 (by with_reducible rfl) (by with_reducible rfl) rfl ?_ | refine T_iadd (pc2 := 1214) dL_law_1213 rfl ?_
  refine G_xald (pc2 := 1215) dL_law_1214 hX0 (by omega) (by first | decide | omega) (by first | with_reducible assumption | exact gs_eq _ _ _ _ | exact (gs_ne _ _ (by omega)).trans (by with_reducible assumption) | exact (gs_ne _ _ (by omega)).trans (gs_eq _ _ _ _) | exact (gs_ne _ _ (by omega)).trans ((gs_ne _ _ (by omega)).trans (by with_reducible assumption)) | exact (gs_ne _ _ (by omega)).trans ((gs_ne _ _ (by omega)).trans (gs_eq _ _ _ _)) | exact (gs_ne _ _ (by omega)).trans ((gs_ne _ _ (by omega)).trans ((gs_ne _ _ (by omega)).trans (by with_reducible assumption))) | rfl) rfl ?_
  refine C_V3 (pc2 := 1218) (mc := 0) (ms := 0) dL_law_1215 cvX8_drawn mlL_140 (isO.h (sh48 S) _) (Nat.le_of_ble_eq_true rfl) rfl ?_
  refine mm_drawn S2 hM2 hok (fun g3 hM3 hf3 => ?_)
  have hx3 : ∀ j, j < L → g3 0 j = xs j := fun j hj => by rw [hf3 0 (by omega)]; exact hx2 j hj
  refine T_icmpeq (pc2 := 1221) (tgt := 1417) dL_law_1218 (by decide) rfl (fun c1218 => ?_) (fun c1218 => ?_)
  · exact kn sk2 g3 n2 _ _ _ (by first | omega | exact Nat.le_refl _) (by first | omega | exact Nat.le_refl _) hX0 hx3 ⟨_, _, _, _, _, hJ2.m hf3⟩ hM3 (ok_drawn hok)
  · exact absurd rfl c1218
theorem lc_image (hX0 : isX sk 0 L) (hx : ∀ j, j < L → g 0 j = xs j) (hL : L ≤ 448) (hi : i + 7 ≤ L) (hJ : JJ sk g n bf im above below nx s) (hM : InvM g s) (hok : Ok s) (kn : Kn Q d m i L xs) : T ML_law (d + 12) (144 * m + 144) (1152 * m + 1152) 1223 (lawL i) [] (HP sk g n) Q := by
  have S := hJ.1
  have x1 := hx (i + 1) (by omega)
  refine T_aload_n (pc2 := 1224) dL_law_1223 rfl rfl ?_
  refine T_aload_n (pc2 := 1225) dL_law_1224 rfl rfl ?_
  refine T_iload_n (pc2 := 1226) dL_law_1225 rfl rfl ?_
  refine T_iconst (pc2 := 1227) dL_law_1226 ic1 rfl ?_
  first | refine N_iadd (pc2 := 1228) dL_law_1227 (by with_reducible rfl) (by with_reducible rfl) rfl ?_ | refine T_iadd (pc2 := 1228) dL_law_1227 rfl ?_
  refine G_xald (pc2 := 1229) dL_law_1228 hX0 (by omega) (by first | decide | omega) (by first | with_reducible assumption | exact gs_eq _ _ _ _ | exact (gs_ne _ _ (by omega)).trans (by with_reducible assumption) | exact (gs_ne _ _ (by omega)).trans (gs_eq _ _ _ _) | exact (gs_ne _ _ (by omega)).trans ((gs_ne _ _ (by omega)).trans (by with_reducible assumption)) | exact (gs_ne _ _ (by omega)).trans ((gs_ne _ _ (by omega)).trans (gs_eq _ _ _ _)) | exact (gs_ne _ _ (by omega)).trans ((gs_ne _ _ (by omega)).trans ((gs_ne _ _ (by omega)).trans (by with_reducible assumption))) | rfl) rfl ?_
  refine C_V1 (pc2 := 1232) (mc := 6) (ms := 48) dL_law_1229 cvX7_image mlL_141 (isO.h (sh4 S) _) (Nat.le_of_ble_eq_true rfl) rfl ?_
  refine j_image hJ hok (fun sk2 g2 n2 hJ2 hf2 => ?_)
  obtain ⟨bf2, im2, ab2, be2, nx2, hJ2⟩ := hJ2
  have S2 := hJ2.1
  have hX2 := hX0
  have hX0 : isX sk2 0 L := hX2.fj hf2
  have hM2 := hM.fj hf2
  have hx2 : ∀ j, j < L → g2 0 j = xs j := fun j hj => by rw [hf2.2 0 (Or.inl rfl)]; exact hx j hj
  clear S
  have S := S2
  have y1 := hx2 (i + 1) (by omega)
  refine T_aload_n (pc2 := 1233) dL_law_1232 rfl rfl ?_
  refine T_aload_n (pc2 := 1234) dL_law_1233 rfl rfl ?_
  refine T_iload_n (pc2 := 1235) dL_law_1234 rfl rfl ?_
  refine T_iconst (pc2 := 1236) dL_law_1235 ic1 rfl ?_
  first | refine N_iadd (pc2 := 1237) dL_law_1236 (by with_reducible rfl) (by with_reducible rfl) rfl ?_ | refine T_iadd (pc2 := 1237) dL_law_1236 rfl ?_
  refine G_xald (pc2 := 1238) dL_law_1237 hX0 (by omega) (by first | decide | omega) (by first | with_reducible assumption | exact gs_eq _ _ _ _ | exact (gs_ne _ _ (by omega)).trans (by with_reducible assumption) | exact (gs_ne _ _ (by omega)).trans (gs_eq _ _ _ _) | exact (gs_ne _ _ (by omega)).trans ((gs_ne _ _ (by omega)).trans (by with_reducible assumption)) | exact (gs_ne _ _ (by omega)).trans ((gs_ne _ _ (by omega)).trans (gs_eq _ _ _ _)) | exact (gs_ne _ _ (by omega)).trans ((gs_ne _ _ (by omega)).trans ((gs_ne _ _ (by omega)).trans (by with_reducible assumption))) | rfl) rfl ?_
  refine C_V1 (pc2 := 1241) (mc := 0) (ms := 0) dL_law_1238 cvX8_image mlL_144 (isO.h (sh48 S) _) (Nat.le_of_ble_eq_true rfl) rfl ?_
  refine mm_image S2 hM2 hok (fun g3 hM3 hf3 => ?_)
  have hx3 : ∀ j, j < L → g3 0 j = xs j := fun j hj => by rw [hf3 0 (by omega)]; exact hx2 j hj
  refine T_icmpeq (pc2 := 1244) (tgt := 1417) dL_law_1241 (by decide) rfl (fun c1241 => ?_) (fun c1241 => ?_)
  · exact kn sk2 g3 n2 _ _ _ (by first | omega | exact Nat.le_refl _) (by first | omega | exact Nat.le_refl _) hX0 hx3 ⟨_, _, _, _, _, hJ2.m hf3⟩ hM3 (ok_image hok)
  · exact absurd rfl c1241
theorem lc_restore (hX0 : isX sk 0 L) (hx : ∀ j, j < L → g 0 j = xs j) (hL : L ≤ 448) (hi : i + 7 ≤ L) (hJ : JJ sk g n bf im above below nx s) (hM : InvM g s) (hok : Ok s) (kn : Kn Q d m i L xs) : T ML_law (d + 12) (144 * m + 144) (1152 * m + 1152) 1246 (lawL i) [] (HP sk g n) Q := by
  have S := hJ.1
  have x1 := hx (i + 1) (by omega)
  refine T_aload_n (pc2 := 1247) dL_law_1246 rfl rfl ?_
  refine T_aload_n (pc2 := 1248) dL_law_1247 rfl rfl ?_
  refine T_iload_n (pc2 := 1249) dL_law_1248 rfl rfl ?_
  refine T_iconst (pc2 := 1250) dL_law_1249 ic1 rfl ?_
  first | refine N_iadd (pc2 := 1251) dL_law_1250 (by with_reducible rfl) (by with_reducible rfl) rfl ?_ | refine T_iadd (pc2 := 1251) dL_law_1250 rfl ?_
  refine G_xald (pc2 := 1252) dL_law_1251 hX0 (by omega) (by first | decide | omega) (by first | with_reducible assumption | exact gs_eq _ _ _ _ | exact (gs_ne _ _ (by omega)).trans (by with_reducible assumption) | exact (gs_ne _ _ (by omega)).trans (gs_eq _ _ _ _) | exact (gs_ne _ _ (by omega)).trans ((gs_ne _ _ (by omega)).trans (by with_reducible assumption)) | exact (gs_ne _ _ (by omega)).trans ((gs_ne _ _ (by omega)).trans (gs_eq _ _ _ _)) | exact (gs_ne _ _ (by omega)).trans ((gs_ne _ _ (by omega)).trans ((gs_ne _ _ (by omega)).trans (by with_reducible assumption))) | rfl) rfl ?_
  refine C_V1 (pc2 := 1255) (mc := 0) (ms := 0) dL_law_1252 cvX7_restore mlL_145 (isO.h (sh4 S) _) (Nat.le_of_ble_eq_true rfl) rfl ?_
  refine j_restore hJ hok (fun sk2 g2 n2 hJ2 hf2 => ?_)
  obtain ⟨bf2, im2, ab2, be2, nx2, hJ2⟩ := hJ2
  have S2 := hJ2.1
  have hX2 := hX0
  have hX0 : isX sk2 0 L := hX2.fj hf2
  have hM2 := hM.fj hf2
  have hx2 : ∀ j, j < L → g2 0 j = xs j := fun j hj => by rw [hf2.2 0 (Or.inl rfl)]; exact hx j hj
  clear S
  have S := S2
  have y1 := hx2 (i + 1) (by omega)
  refine T_aload_n (pc2 := 1256) dL_law_1255 rfl rfl ?_
  refine T_aload_n (pc2 := 1257) dL_law_1256 rfl rfl ?_
  refine T_iload_n (pc2 := 1258) dL_law_1257 rfl rfl ?_
  refine T_iconst (pc2 := 1259) dL_law_1258 ic1 rfl ?_
  first | refine N_iadd (pc2 := 1260) dL_law_1259 (by with_reducible rfl) (by with_reducible rfl) rfl ?_ | refine T_iadd (pc2 := 1260) dL_law_1259 rfl ?_
  refine G_xald (pc2 := 1261) dL_law_1260 hX0 (by omega) (by first | decide | omega) (by first | with_reducible assumption | exact gs_eq _ _ _ _ | exact (gs_ne _ _ (by omega)).trans (by with_reducible assumption) | exact (gs_ne _ _ (by omega)).trans (gs_eq _ _ _ _) | exact (gs_ne _ _ (by omega)).trans ((gs_ne _ _ (by omega)).trans (by with_reducible assumption)) | exact (gs_ne _ _ (by omega)).trans ((gs_ne _ _ (by omega)).trans (gs_eq _ _ _ _)) | exact (gs_ne _ _ (by omega)).trans ((gs_ne _ _ (by omega)).trans ((gs_ne _ _ (by omega)).trans (by with_reducible assumption))) | rfl) rfl ?_
  refine C_V1 (pc2 := 1264) (mc := 0) (ms := 0) dL_law_1261 cvX8_restore mlL_148 (isO.h (sh48 S) _) (Nat.le_of_ble_eq_true rfl) rfl ?_
  refine mm_restore S2 hM2 hok (fun g3 hM3 hf3 => ?_)
  have hx3 : ∀ j, j < L → g3 0 j = xs j := fun j hj => by rw [hf3 0 (by omega)]; exact hx2 j hj
  refine T_icmpeq (pc2 := 1267) (tgt := 1417) dL_law_1264 (by decide) rfl (fun c1264 => ?_) (fun c1264 => ?_)
  · exact kn sk2 g3 n2 _ _ _ (by first | omega | exact Nat.le_refl _) (by first | omega | exact Nat.le_refl _) hX0 hx3 ⟨_, _, _, _, _, hJ2.m hf3⟩ hM3 (ok_restore hok)
  · exact absurd rfl c1264
theorem lc_kind (hX0 : isX sk 0 L) (hx : ∀ j, j < L → g 0 j = xs j) (hL : L ≤ 448) (hi : i + 7 ≤ L) (hJ : JJ sk g n bf im above below nx s) (hM : InvM g s) (hok : Ok s) (kn : Kn Q d m i L xs) : T ML_law (d + 12) (144 * m + 144) (1152 * m + 1152) 1269 (lawL i) [] (HP sk g n) Q := by
  have S := hJ.1
  have x1 := hx (i + 1) (by omega)
  refine T_aload_n (pc2 := 1270) dL_law_1269 rfl rfl ?_
  refine T_aload_n (pc2 := 1271) dL_law_1270 rfl rfl ?_
  refine T_iload_n (pc2 := 1272) dL_law_1271 rfl rfl ?_
  refine T_iconst (pc2 := 1273) dL_law_1272 ic1 rfl ?_
  first | refine N_iadd (pc2 := 1274) dL_law_1273 (by with_reducible rfl) (by with_reducible rfl) rfl ?_ | refine T_iadd (pc2 := 1274) dL_law_1273 rfl ?_
  refine G_xald (pc2 := 1275) dL_law_1274 hX0 (by omega) (by first | decide | omega) (by first | with_reducible assumption | exact gs_eq _ _ _ _ | exact (gs_ne _ _ (by omega)).trans (by with_reducible assumption) | exact (gs_ne _ _ (by omega)).trans (gs_eq _ _ _ _) | exact (gs_ne _ _ (by omega)).trans ((gs_ne _ _ (by omega)).trans (by with_reducible assumption)) | exact (gs_ne _ _ (by omega)).trans ((gs_ne _ _ (by omega)).trans (gs_eq _ _ _ _)) | exact (gs_ne _ _ (by omega)).trans ((gs_ne _ _ (by omega)).trans ((gs_ne _ _ (by omega)).trans (by with_reducible assumption))) | rfl) rfl ?_
  refine C_V1 (pc2 := 1278) (mc := 0) (ms := 0) dL_law_1275 cvX7_kind mlL_149 (isO.h (sh4 S) _) (Nat.le_of_ble_eq_true rfl) rfl ?_
  refine j_kind hJ hok (fun sk2 g2 n2 hJ2 hf2 => ?_)
  obtain ⟨bf2, im2, ab2, be2, nx2, hJ2⟩ := hJ2
  have S2 := hJ2.1
  have hX2 := hX0
  have hX0 : isX sk2 0 L := hX2.fj hf2
  have hM2 := hM.fj hf2
  have hx2 : ∀ j, j < L → g2 0 j = xs j := fun j hj => by rw [hf2.2 0 (Or.inl rfl)]; exact hx j hj
  clear S
  have S := S2
  have y1 := hx2 (i + 1) (by omega)
  refine T_aload_n (pc2 := 1279) dL_law_1278 rfl rfl ?_
  refine T_aload_n (pc2 := 1280) dL_law_1279 rfl rfl ?_
  refine T_iload_n (pc2 := 1281) dL_law_1280 rfl rfl ?_
  refine T_iconst (pc2 := 1282) dL_law_1281 ic1 rfl ?_
  first | refine N_iadd (pc2 := 1283) dL_law_1282 (by with_reducible rfl) (by with_reducible rfl) rfl ?_ | refine T_iadd (pc2 := 1283) dL_law_1282 rfl ?_
  refine G_xald (pc2 := 1284) dL_law_1283 hX0 (by omega) (by first | decide | omega) (by first | with_reducible assumption | exact gs_eq _ _ _ _ | exact (gs_ne _ _ (by omega)).trans (by with_reducible assumption) | exact (gs_ne _ _ (by omega)).trans (gs_eq _ _ _ _) | exact (gs_ne _ _ (by omega)).trans ((gs_ne _ _ (by omega)).trans (by with_reducible assumption)) | exact (gs_ne _ _ (by omega)).trans ((gs_ne _ _ (by omega)).trans (gs_eq _ _ _ _)) | exact (gs_ne _ _ (by omega)).trans ((gs_ne _ _ (by omega)).trans ((gs_ne _ _ (by omega)).trans (by with_reducible assumption))) | rfl) rfl ?_
  refine C_V1 (pc2 := 1287) (mc := 0) (ms := 0) dL_law_1284 cvX8_kind mlL_152 (isO.h (sh48 S) _) (Nat.le_of_ble_eq_true rfl) rfl ?_
  refine mm_kind S2 hM2 hok (fun g3 hM3 hf3 => ?_)
  have hx3 : ∀ j, j < L → g3 0 j = xs j := fun j hj => by rw [hf3 0 (by omega)]; exact hx2 j hj
  refine T_icmpeq (pc2 := 1290) (tgt := 1417) dL_law_1287 (by decide) rfl (fun c1287 => ?_) (fun c1287 => ?_)
  · exact kn sk2 g3 n2 _ _ _ (by first | omega | exact Nat.le_refl _) (by first | omega | exact Nat.le_refl _) hX0 hx3 ⟨_, _, _, _, _, hJ2.m hf3⟩ hM3 (ok_kind hok)
  · exact absurd rfl c1287
theorem lc_as (hX0 : isX sk 0 L) (hx : ∀ j, j < L → g 0 j = xs j) (hL : L ≤ 448) (hi : i + 7 ≤ L) (hJ : JJ sk g n bf im above below nx s) (hM : InvM g s) (hok : Ok s) (kn : Kn Q d m i L xs) : T ML_law (d + 12) (144 * m + 144) (1152 * m + 1152) 1292 (lawL i) [] (HP sk g n) Q := by
  have S := hJ.1
  have x1 := hx (i + 1) (by omega)
  have x2 := hx (i + 2) (by omega)
  refine T_aload_n (pc2 := 1293) dL_law_1292 rfl rfl ?_
  refine T_aload_n (pc2 := 1294) dL_law_1293 rfl rfl ?_
  refine T_iload_n (pc2 := 1295) dL_law_1294 rfl rfl ?_
  refine T_iconst (pc2 := 1296) dL_law_1295 ic1 rfl ?_
  first | refine N_iadd (pc2 := 1297) dL_law_1296 (by with_reducible rfl) (by with_reducible rfl) rfl ?_ | refine T_iadd (pc2 := 1297) dL_law_1296 rfl ?_
  refine G_xald (pc2 := 1298) dL_law_1297 hX0 (by omega) (by first | decide | omega) (by first | with_reducible assumption | exact gs_eq _ _ _ _ | exact (gs_ne _ _ (by omega)).trans (by with_reducible assumption) | exact (gs_ne _ _ (by omega)).trans (gs_eq _ _ _ _) | exact (gs_ne _ _ (by omega)).trans ((gs_ne _ _ (by omega)).trans (by with_reducible assumption)) | exact (gs_ne _ _ (by omega)).trans ((gs_ne _ _ (by omega)).trans (gs_eq _ _ _ _)) | exact (gs_ne _ _ (by omega)).trans ((gs_ne _ _ (by omega)).trans ((gs_ne _ _ (by omega)).trans (by with_reducible assumption))) | rfl) rfl ?_
  refine T_aload_n (pc2 := 1299) dL_law_1298 rfl rfl ?_
  refine T_iload_n (pc2 := 1300) dL_law_1299 rfl rfl ?_
  refine T_iconst (pc2 := 1301) dL_law_1300 ic2 rfl ?_
  first | refine N_iadd (pc2 := 1302) dL_law_1301 (by with_reducible rfl) (by with_reducible rfl) rfl ?_ | refine T_iadd (pc2 := 1302) dL_law_1301 rfl ?_
  refine G_xald (pc2 := 1303) dL_law_1302 hX0 (by omega) (by first | decide | omega) (by first | with_reducible assumption | exact gs_eq _ _ _ _ | exact (gs_ne _ _ (by omega)).trans (by with_reducible assumption) | exact (gs_ne _ _ (by omega)).trans (gs_eq _ _ _ _) | exact (gs_ne _ _ (by omega)).trans ((gs_ne _ _ (by omega)).trans (by with_reducible assumption)) | exact (gs_ne _ _ (by omega)).trans ((gs_ne _ _ (by omega)).trans (gs_eq _ _ _ _)) | exact (gs_ne _ _ (by omega)).trans ((gs_ne _ _ (by omega)).trans ((gs_ne _ _ (by omega)).trans (by with_reducible assumption))) | rfl) rfl ?_
  refine C_V2 (pc2 := 1306) (mc := 0) (ms := 0) dL_law_1303 cvX7_as mlL_153 (isO.h (sh4 S) _) (Nat.le_of_ble_eq_true rfl) rfl ?_
  refine j_as hJ hok (fun sk2 g2 n2 hJ2 hf2 => ?_)
  obtain ⟨bf2, im2, ab2, be2, nx2, hJ2⟩ := hJ2
  have S2 := hJ2.1
  have hX2 := hX0
  have hX0 : isX sk2 0 L := hX2.fj hf2
  have hM2 := hM.fj hf2
  have hx2 : ∀ j, j < L → g2 0 j = xs j := fun j hj => by rw [hf2.2 0 (Or.inl rfl)]; exact hx j hj
  clear S
  have S := S2
  have y1 := hx2 (i + 1) (by omega)
  have y2 := hx2 (i + 2) (by omega)
  refine T_aload_n (pc2 := 1307) dL_law_1306 rfl rfl ?_
  refine T_aload_n (pc2 := 1308) dL_law_1307 rfl rfl ?_
  refine T_iload_n (pc2 := 1309) dL_law_1308 rfl rfl ?_
  refine T_iconst (pc2 := 1310) dL_law_1309 ic1 rfl ?_
  first | refine N_iadd (pc2 := 1311) dL_law_1310 (by with_reducible rfl) (by with_reducible rfl) rfl ?_ | refine T_iadd (pc2 := 1311) dL_law_1310 rfl ?_
  refine G_xald (pc2 := 1312) dL_law_1311 hX0 (by omega) (by first | decide | omega) (by first | with_reducible assumption | exact gs_eq _ _ _ _ | exact (gs_ne _ _ (by omega)).trans (by with_reducible assumption) | exact (gs_ne _ _ (by omega)).trans (gs_eq _ _ _ _) | exact (gs_ne _ _ (by omega)).trans ((gs_ne _ _ (by omega)).trans (by with_reducible assumption)) | exact (gs_ne _ _ (by omega)).trans ((gs_ne _ _ (by omega)).trans (gs_eq _ _ _ _)) | exact (gs_ne _ _ (by omega)).trans ((gs_ne _ _ (by omega)).trans ((gs_ne _ _ (by omega)).trans (by with_reducible assumption))) | rfl) rfl ?_
  refine T_aload_n (pc2 := 1313) dL_law_1312 rfl rfl ?_
  refine T_iload_n (pc2 := 1314) dL_law_1313 rfl rfl ?_
  refine T_iconst (pc2 := 1315) dL_law_1314 ic2 rfl ?_
  first | refine N_iadd (pc2 := 1316) dL_law_1315 (by with_reducible rfl) (by with_reducible rfl) rfl ?_ | refine T_iadd (pc2 := 1316) dL_law_1315 rfl ?_
  refine G_xald (pc2 := 1317) dL_law_1316 hX0 (by omega) (by first | decide | omega) (by first | with_reducible assumption | exact gs_eq _ _ _ _ | exact (gs_ne _ _ (by omega)).trans (by with_reducible assumption) | exact (gs_ne _ _ (by omega)).trans (gs_eq _ _ _ _) | exact (gs_ne _ _ (by omega)).trans ((gs_ne _ _ (by omega)).trans (by with_reducible assumption)) | exact (gs_ne _ _ (by omega)).trans ((gs_ne _ _ (by omega)).trans (gs_eq _ _ _ _)) | exact (gs_ne _ _ (by omega)).trans ((gs_ne _ _ (by omega)).trans ((gs_ne _ _ (by omega)).trans (by with_reducible assumption))) | rfl) rfl ?_
  refine C_V2 (pc2 := 1320) (mc := 0) (ms := 0) dL_law_1317 cvX8_as mlL_156 (isO.h (sh48 S) _) (Nat.le_of_ble_eq_true rfl) rfl ?_
  refine mm_as S2 hM2 hok (fun g3 hM3 hf3 => ?_)
  have hx3 : ∀ j, j < L → g3 0 j = xs j := fun j hj => by rw [hf3 0 (by omega)]; exact hx2 j hj
  refine T_icmpeq (pc2 := 1323) (tgt := 1417) dL_law_1320 (by decide) rfl (fun c1320 => ?_) (fun c1320 => ?_)
  · exact kn sk2 g3 n2 _ _ _ (by first | omega | exact Nat.le_refl _) (by first | omega | exact Nat.le_refl _) hX0 hx3 ⟨_, _, _, _, _, hJ2.m hf3⟩ hM3 (ok_as hok)
  · exact absurd rfl c1320
theorem lc_ask (hX0 : isX sk 0 L) (hx : ∀ j, j < L → g 0 j = xs j) (hL : L ≤ 448) (hi : i + 7 ≤ L) (hJ : JJ sk g n bf im above below nx s) (hM : InvM g s) (hok : Ok s) (kn : Kn Q d m i L xs) : T ML_law (d + 12) (144 * m + 144) (1152 * m + 1152) 1325 (lawL i) [] (HP sk g n) Q := by
  have S := hJ.1
  have x1 := hx (i + 1) (by omega)
  have x2 := hx (i + 2) (by omega)
  refine T_aload_n (pc2 := 1326) dL_law_1325 rfl rfl ?_
  refine T_aload_n (pc2 := 1327) dL_law_1326 rfl rfl ?_
  refine T_iload_n (pc2 := 1328) dL_law_1327 rfl rfl ?_
  refine T_iconst (pc2 := 1329) dL_law_1328 ic1 rfl ?_
  first | refine N_iadd (pc2 := 1330) dL_law_1329 (by with_reducible rfl) (by with_reducible rfl) rfl ?_ | refine T_iadd (pc2 := 1330) dL_law_1329 rfl ?_
  refine G_xald (pc2 := 1331) dL_law_1330 hX0 (by omega) (by first | decide | omega) (by first | with_reducible assumption | exact gs_eq _ _ _ _ | exact (gs_ne _ _ (by omega)).trans (by with_reducible assumption) | exact (gs_ne _ _ (by omega)).trans (gs_eq _ _ _ _) | exact (gs_ne _ _ (by omega)).trans ((gs_ne _ _ (by omega)).trans (by with_reducible assumption)) | exact (gs_ne _ _ (by omega)).trans ((gs_ne _ _ (by omega)).trans (gs_eq _ _ _ _)) | exact (gs_ne _ _ (by omega)).trans ((gs_ne _ _ (by omega)).trans ((gs_ne _ _ (by omega)).trans (by with_reducible assumption))) | rfl) rfl ?_
  refine T_aload_n (pc2 := 1332) dL_law_1331 rfl rfl ?_
  refine T_iload_n (pc2 := 1333) dL_law_1332 rfl rfl ?_
  refine T_iconst (pc2 := 1334) dL_law_1333 ic2 rfl ?_
  first | refine N_iadd (pc2 := 1335) dL_law_1334 (by with_reducible rfl) (by with_reducible rfl) rfl ?_ | refine T_iadd (pc2 := 1335) dL_law_1334 rfl ?_
  refine G_xald (pc2 := 1336) dL_law_1335 hX0 (by omega) (by first | decide | omega) (by first | with_reducible assumption | exact gs_eq _ _ _ _ | exact (gs_ne _ _ (by omega)).trans (by with_reducible assumption) | exact (gs_ne _ _ (by omega)).trans (gs_eq _ _ _ _) | exact (gs_ne _ _ (by omega)).trans ((gs_ne _ _ (by omega)).trans (by with_reducible assumption)) | exact (gs_ne _ _ (by omega)).trans ((gs_ne _ _ (by omega)).trans (gs_eq _ _ _ _)) | exact (gs_ne _ _ (by omega)).trans ((gs_ne _ _ (by omega)).trans ((gs_ne _ _ (by omega)).trans (by with_reducible assumption))) | rfl) rfl ?_
  refine C_V2 (pc2 := 1339) (mc := 0) (ms := 0) dL_law_1336 cvX7_ask mlL_157 (isO.h (sh4 S) _) (Nat.le_of_ble_eq_true rfl) rfl ?_
  refine j_ask hJ hok (fun sk2 g2 n2 hJ2 hf2 => ?_)
  obtain ⟨bf2, im2, ab2, be2, nx2, hJ2⟩ := hJ2
  have S2 := hJ2.1
  have hX2 := hX0
  have hX0 : isX sk2 0 L := hX2.fj hf2
  have hM2 := hM.fj hf2
  have hx2 : ∀ j, j < L → g2 0 j = xs j := fun j hj => by rw [hf2.2 0 (Or.inl rfl)]; exact hx j hj
  clear S
  have S := S2
  have y1 := hx2 (i + 1) (by omega)
  have y2 := hx2 (i + 2) (by omega)
  refine T_aload_n (pc2 := 1340) dL_law_1339 rfl rfl ?_
  refine T_aload_n (pc2 := 1341) dL_law_1340 rfl rfl ?_
  refine T_iload_n (pc2 := 1342) dL_law_1341 rfl rfl ?_
  refine T_iconst (pc2 := 1343) dL_law_1342 ic1 rfl ?_
  first | refine N_iadd (pc2 := 1344) dL_law_1343 (by with_reducible rfl) (by with_reducible rfl) rfl ?_ | refine T_iadd (pc2 := 1344) dL_law_1343 rfl ?_
  refine G_xald (pc2 := 1345) dL_law_1344 hX0 (by omega) (by first | decide | omega) (by first | with_reducible assumption | exact gs_eq _ _ _ _ | exact (gs_ne _ _ (by omega)).trans (by with_reducible assumption) | exact (gs_ne _ _ (by omega)).trans (gs_eq _ _ _ _) | exact (gs_ne _ _ (by omega)).trans ((gs_ne _ _ (by omega)).trans (by with_reducible assumption)) | exact (gs_ne _ _ (by omega)).trans ((gs_ne _ _ (by omega)).trans (gs_eq _ _ _ _)) | exact (gs_ne _ _ (by omega)).trans ((gs_ne _ _ (by omega)).trans ((gs_ne _ _ (by omega)).trans (by with_reducible assumption))) | rfl) rfl ?_
  refine T_aload_n (pc2 := 1346) dL_law_1345 rfl rfl ?_
  refine T_iload_n (pc2 := 1347) dL_law_1346 rfl rfl ?_
  refine T_iconst (pc2 := 1348) dL_law_1347 ic2 rfl ?_
  first | refine N_iadd (pc2 := 1349) dL_law_1348 (by with_reducible rfl) (by with_reducible rfl) rfl ?_ | refine T_iadd (pc2 := 1349) dL_law_1348 rfl ?_
  refine G_xald (pc2 := 1350) dL_law_1349 hX0 (by omega) (by first | decide | omega) (by first | with_reducible assumption | exact gs_eq _ _ _ _ | exact (gs_ne _ _ (by omega)).trans (by with_reducible assumption) | exact (gs_ne _ _ (by omega)).trans (gs_eq _ _ _ _) | exact (gs_ne _ _ (by omega)).trans ((gs_ne _ _ (by omega)).trans (by with_reducible assumption)) | exact (gs_ne _ _ (by omega)).trans ((gs_ne _ _ (by omega)).trans (gs_eq _ _ _ _)) | exact (gs_ne _ _ (by omega)).trans ((gs_ne _ _ (by omega)).trans ((gs_ne _ _ (by omega)).trans (by with_reducible assumption))) | rfl) rfl ?_
  refine C_V2 (pc2 := 1353) (mc := 0) (ms := 0) dL_law_1350 cvX8_ask mlL_160 (isO.h (sh48 S) _) (Nat.le_of_ble_eq_true rfl) rfl ?_
  refine mm_ask S2 hM2 hok (fun g3 hM3 hf3 => ?_)
  have hx3 : ∀ j, j < L → g3 0 j = xs j := fun j hj => by rw [hf3 0 (by omega)]; exact hx2 j hj
  refine T_icmpeq (pc2 := 1356) (tgt := 1417) dL_law_1353 (by decide) rfl (fun c1353 => ?_) (fun c1353 => ?_)
  · exact kn sk2 g3 n2 _ _ _ (by first | omega | exact Nat.le_refl _) (by first | omega | exact Nat.le_refl _) hX0 hx3 ⟨_, _, _, _, _, hJ2.m hf3⟩ hM3 (ok_ask hok)
  · exact absurd rfl c1353
theorem lc_trace (hX0 : isX sk 0 L) (hx : ∀ j, j < L → g 0 j = xs j) (hL : L ≤ 448) (hi : i + 7 ≤ L) (hJ : JJ sk g n bf im above below nx s) (hM : InvM g s) (hok : Ok s) (kn : Kn Q d m i L xs) : T ML_law (d + 12) (144 * m + 144) (1152 * m + 1152) 1358 (lawL i) [] (HP sk g n) Q := by
  have S := hJ.1
  have x1 := hx (i + 1) (by omega)
  refine T_aload_n (pc2 := 1359) dL_law_1358 rfl rfl ?_
  refine T_aload_n (pc2 := 1360) dL_law_1359 rfl rfl ?_
  refine T_iload_n (pc2 := 1361) dL_law_1360 rfl rfl ?_
  refine T_iconst (pc2 := 1362) dL_law_1361 ic1 rfl ?_
  first | refine N_iadd (pc2 := 1363) dL_law_1362 (by with_reducible rfl) (by with_reducible rfl) rfl ?_ | refine T_iadd (pc2 := 1363) dL_law_1362 rfl ?_
  refine G_xald (pc2 := 1364) dL_law_1363 hX0 (by omega) (by first | decide | omega) (by first | with_reducible assumption | exact gs_eq _ _ _ _ | exact (gs_ne _ _ (by omega)).trans (by with_reducible assumption) | exact (gs_ne _ _ (by omega)).trans (gs_eq _ _ _ _) | exact (gs_ne _ _ (by omega)).trans ((gs_ne _ _ (by omega)).trans (by with_reducible assumption)) | exact (gs_ne _ _ (by omega)).trans ((gs_ne _ _ (by omega)).trans (gs_eq _ _ _ _)) | exact (gs_ne _ _ (by omega)).trans ((gs_ne _ _ (by omega)).trans ((gs_ne _ _ (by omega)).trans (by with_reducible assumption))) | rfl) rfl ?_
  refine C_V1 (pc2 := 1367) (mc := 0) (ms := 0) dL_law_1364 cvX7_trace mlL_161 (isO.h (sh4 S) _) (Nat.le_of_ble_eq_true rfl) rfl ?_
  refine j_trace hJ hok (fun sk2 g2 n2 hJ2 hf2 => ?_)
  obtain ⟨bf2, im2, ab2, be2, nx2, hJ2⟩ := hJ2
  have S2 := hJ2.1
  have hX2 := hX0
  have hX0 : isX sk2 0 L := hX2.fj hf2
  have hM2 := hM.fj hf2
  have hx2 : ∀ j, j < L → g2 0 j = xs j := fun j hj => by rw [hf2.2 0 (Or.inl rfl)]; exact hx j hj
  clear S
  have S := S2
  have y1 := hx2 (i + 1) (by omega)
  refine T_aload_n (pc2 := 1368) dL_law_1367 rfl rfl ?_
  refine T_aload_n (pc2 := 1369) dL_law_1368 rfl rfl ?_
  refine T_iload_n (pc2 := 1370) dL_law_1369 rfl rfl ?_
  refine T_iconst (pc2 := 1371) dL_law_1370 ic1 rfl ?_
  first | refine N_iadd (pc2 := 1372) dL_law_1371 (by with_reducible rfl) (by with_reducible rfl) rfl ?_ | refine T_iadd (pc2 := 1372) dL_law_1371 rfl ?_
  refine G_xald (pc2 := 1373) dL_law_1372 hX0 (by omega) (by first | decide | omega) (by first | with_reducible assumption | exact gs_eq _ _ _ _ | exact (gs_ne _ _ (by omega)).trans (by with_reducible assumption) | exact (gs_ne _ _ (by omega)).trans (gs_eq _ _ _ _) | exact (gs_ne _ _ (by omega)).trans ((gs_ne _ _ (by omega)).trans (by with_reducible assumption)) | exact (gs_ne _ _ (by omega)).trans ((gs_ne _ _ (by omega)).trans (gs_eq _ _ _ _)) | exact (gs_ne _ _ (by omega)).trans ((gs_ne _ _ (by omega)).trans ((gs_ne _ _ (by omega)).trans (by with_reducible assumption))) | rfl) rfl ?_
  refine C_V1 (pc2 := 1376) (mc := 0) (ms := 0) dL_law_1373 cvX8_trace mlL_164 (isO.h (sh48 S) _) (Nat.le_of_ble_eq_true rfl) rfl ?_
  refine mm_trace S2 hM2 hok (fun g3 hM3 hf3 => ?_)
  have hx3 : ∀ j, j < L → g3 0 j = xs j := fun j hj => by rw [hf3 0 (by omega)]; exact hx2 j hj
  refine T_icmpeq (pc2 := 1379) (tgt := 1417) dL_law_1376 (by decide) rfl (fun c1376 => ?_) (fun c1376 => ?_)
  · exact kn sk2 g3 n2 _ _ _ (by first | omega | exact Nat.le_refl _) (by first | omega | exact Nat.le_refl _) hX0 hx3 ⟨_, _, _, _, _, hJ2.m hf3⟩ hM3 (ok_trace hok)
  · exact absurd rfl c1376
theorem lc_count (hX0 : isX sk 0 L) (hx : ∀ j, j < L → g 0 j = xs j) (hL : L ≤ 448) (hi : i + 7 ≤ L) (hJ : JJ sk g n bf im above below nx s) (hM : InvM g s) (hok : Ok s) (kn : Kn Q d m i L xs) : T ML_law (d + 12) (144 * m + 144) (1152 * m + 1152) 1381 (lawL i) [] (HP sk g n) Q := by
  have S := hJ.1
  have x1 := hx (i + 1) (by omega)
  refine T_aload_n (pc2 := 1382) dL_law_1381 rfl rfl ?_
  refine T_aload_n (pc2 := 1383) dL_law_1382 rfl rfl ?_
  refine T_iload_n (pc2 := 1384) dL_law_1383 rfl rfl ?_
  refine T_iconst (pc2 := 1385) dL_law_1384 ic1 rfl ?_
  first | refine N_iadd (pc2 := 1386) dL_law_1385 (by with_reducible rfl) (by with_reducible rfl) rfl ?_ | refine T_iadd (pc2 := 1386) dL_law_1385 rfl ?_
  refine G_xald (pc2 := 1387) dL_law_1386 hX0 (by omega) (by first | decide | omega) (by first | with_reducible assumption | exact gs_eq _ _ _ _ | exact (gs_ne _ _ (by omega)).trans (by with_reducible assumption) | exact (gs_ne _ _ (by omega)).trans (gs_eq _ _ _ _) | exact (gs_ne _ _ (by omega)).trans ((gs_ne _ _ (by omega)).trans (by with_reducible assumption)) | exact (gs_ne _ _ (by omega)).trans ((gs_ne _ _ (by omega)).trans (gs_eq _ _ _ _)) | exact (gs_ne _ _ (by omega)).trans ((gs_ne _ _ (by omega)).trans ((gs_ne _ _ (by omega)).trans (by with_reducible assumption))) | rfl) rfl ?_
  refine C_V1 (pc2 := 1390) (mc := 0) (ms := 0) dL_law_1387 cvX7_count mlL_165 (isO.h (sh4 S) _) (Nat.le_of_ble_eq_true rfl) rfl ?_
  refine j_count hJ hok (fun sk2 g2 n2 hJ2 hf2 => ?_)
  obtain ⟨bf2, im2, ab2, be2, nx2, hJ2⟩ := hJ2
  have S2 := hJ2.1
  have hX2 := hX0
  have hX0 : isX sk2 0 L := hX2.fj hf2
  have hM2 := hM.fj hf2
  have hx2 : ∀ j, j < L → g2 0 j = xs j := fun j hj => by rw [hf2.2 0 (Or.inl rfl)]; exact hx j hj
  clear S
  have S := S2
  have y1 := hx2 (i + 1) (by omega)
  refine T_aload_n (pc2 := 1391) dL_law_1390 rfl rfl ?_
  refine T_aload_n (pc2 := 1392) dL_law_1391 rfl rfl ?_
  refine T_iload_n (pc2 := 1393) dL_law_1392 rfl rfl ?_
  refine T_iconst (pc2 := 1394) dL_law_1393 ic1 rfl ?_
  first | refine N_iadd (pc2 := 1395) dL_law_1394 (by with_reducible rfl) (by with_reducible rfl) rfl ?_ | refine T_iadd (pc2 := 1395) dL_law_1394 rfl ?_
  refine G_xald (pc2 := 1396) dL_law_1395 hX0 (by omega) (by first | decide | omega) (by first | with_reducible assumption | exact gs_eq _ _ _ _ | exact (gs_ne _ _ (by omega)).trans (by with_reducible assumption) | exact (gs_ne _ _ (by omega)).trans (gs_eq _ _ _ _) | exact (gs_ne _ _ (by omega)).trans ((gs_ne _ _ (by omega)).trans (by with_reducible assumption)) | exact (gs_ne _ _ (by omega)).trans ((gs_ne _ _ (by omega)).trans (gs_eq _ _ _ _)) | exact (gs_ne _ _ (by omega)).trans ((gs_ne _ _ (by omega)).trans ((gs_ne _ _ (by omega)).trans (by with_reducible assumption))) | rfl) rfl ?_
  refine C_V1 (pc2 := 1399) (mc := 0) (ms := 0) dL_law_1396 cvX8_count mlL_168 (isO.h (sh48 S) _) (Nat.le_of_ble_eq_true rfl) rfl ?_
  refine mm_count S2 hM2 hok (fun g3 hM3 hf3 => ?_)
  have hx3 : ∀ j, j < L → g3 0 j = xs j := fun j hj => by rw [hf3 0 (by omega)]; exact hx2 j hj
  refine T_icmpeq (pc2 := 1402) (tgt := 1417) dL_law_1399 (by decide) rfl (fun c1399 => ?_) (fun c1399 => ?_)
  · exact kn sk2 g3 n2 _ _ _ (by first | omega | exact Nat.le_refl _) (by first | omega | exact Nat.le_refl _) hX0 hx3 ⟨_, _, _, _, _, hJ2.m hf3⟩ hM3 (ok_count hok)
  · exact absurd rfl c1399
theorem lc_status (hX0 : isX sk 0 L) (hx : ∀ j, j < L → g 0 j = xs j) (hL : L ≤ 448) (hi : i + 7 ≤ L) (hJ : JJ sk g n bf im above below nx s) (hM : InvM g s) (hok : Ok s) (kn : Kn Q d m i L xs) : T ML_law (d + 12) (144 * m + 144) (1152 * m + 1152) 1404 (lawL i) [] (HP sk g n) Q := by
  have S := hJ.1
  refine T_aload_n (pc2 := 1405) dL_law_1404 rfl rfl ?_
  refine C_V0 (pc2 := 1408) (mc := 0) (ms := 0) dL_law_1405 cvX7_status mlL_169 (isO.h (sh4 S) _) (Nat.le_of_ble_eq_true rfl) rfl ?_
  refine j_status hJ (fun sk2 g2 n2 hJ2 hf2 => ?_)
  obtain ⟨bf2, im2, ab2, be2, nx2, hJ2⟩ := hJ2
  have S2 := hJ2.1
  have hX2 := hX0
  have hX0 : isX sk2 0 L := hX2.fj hf2
  have hM2 := hM.fj hf2
  have hx2 : ∀ j, j < L → g2 0 j = xs j := fun j hj => by rw [hf2.2 0 (Or.inl rfl)]; exact hx j hj
  clear S
  have S := S2
  refine T_aload_n (pc2 := 1409) dL_law_1408 rfl rfl ?_
  refine C_V0 (pc2 := 1412) (mc := 0) (ms := 0) dL_law_1409 cvX8_status mlL_172 (isO.h (sh48 S) _) (Nat.le_of_ble_eq_true rfl) rfl ?_
  refine mm_status S2 hM2 (fun g3 hM3 hf3 => ?_)
  have hx3 : ∀ j, j < L → g3 0 j = xs j := fun j hj => by rw [hf3 0 (by omega)]; exact hx2 j hj
  refine T_icmpeq (pc2 := 1415) (tgt := 1417) dL_law_1412 (by decide) rfl (fun c1412 => ?_) (fun c1412 => ?_)
  · exact kn sk2 g3 n2 _ _ _ (by first | omega | exact Nat.le_refl _) (by first | omega | exact Nat.le_refl _) hX0 hx3 ⟨_, _, _, _, _, hJ2.m hf3⟩ hM3 hok
  · exact absurd rfl c1412
end LawC

