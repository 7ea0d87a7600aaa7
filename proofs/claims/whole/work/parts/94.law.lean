theorem lg_self (x : Int64) : lg_cmp x x = 0 := by
  unfold lg_cmp
  first | simp | (split <;> simp_all) | rfl
section LAW
variable {X : KX} {own : String} {cc : ByteArray} {d k0 n0 : Nat} {w : va_W} {pc n : Nat} {L : List (Nat × Value)} {S : List Value}
theorem z_sld (C : Cx X own cc d) {b N : Nat} {sc : Nat → Int32} (hX : va_X b N sc (xs X) (xs X).heap) (hbl : b < (xs X).heap.size) (hbA : ¬ xA X b) (hN : N < 2 ^ 31) {x : Int32} {j : Nat} (hd : decode cc pc = .ok (.iaload, 1)) (hn : pc + 1 = n) (hx : x = nI j) (hj : j < N) (kk : Z X k0 n0 w n L (.int (sc j) :: S)) : Z X k0 n0 w pc L (.int x :: .ref b :: S) := by
  subst hn; subst hx
  intro H locs ls hP hD hS hl
  refine va_sld C.x C.b hX hbl hbA hS (vp_in_nI hj (by omega)) hd ?_
  rw [nI_clamp (show j < 2 ^ 31 by omega)]
  exact kk H locs ls hP hD hS hl
theorem z_slen (C : Cx X own cc d) {b N : Nat} {sc : Nat → Int32} (hX : va_X b N sc (xs X) (xs X).heap) (hbl : b < (xs X).heap.size) (hbA : ¬ xA X b) (hd : decode cc pc = .ok (.arraylength, 1)) (hn : pc + 1 = n) (kk : Z X k0 n0 w n L (.int (nI N) :: S)) : Z X k0 n0 w pc L (.ref b :: S) := by
  subst hn
  intro H locs ls hP hD hS hl
  exact va_slen C.x C.b hX hbl hbA hS hd (kk H locs ls hP hD hS hl)
theorem sub10 {N : Nat} (h : N ≤ 5120) : (nI N - 10).toInt = (N : Int) - 10 := by
  rw [Int32.toInt_sub, nI_toInt (by omega), show (10 : Int32).toInt = 10 from rfl, fb_bmod (by omega) (by omega)]
end LAW
set_option maxHeartbeats 4000000 in
set_option maxRecDepth 100000 in
theorem lc_streets {X : KX} {k0 n0 : Nat} (C : Cx X RL cL_law 2000) (K : Kx X) (hnL : xnL X = 4) (hR0 : k0 ≤ (xRm X).cells ∧ n0 ≤ (xRm X).slots) {b N : Nat} {sc : Nat → Int32} (hX : va_X b N sc (xs X) (xs X).heap) (hbl : b < (xs X).heap.size) (hbA : ¬ xA X b) (hN5 : N ≤ 5120) {t i : Nat} {I : KI} {J : KJ} (hI : Inv t I J) (hi : i + 9 < N) (hN : ∀ {t : Nat} {I : KI} {J : KJ}, Inv t I J → Z X k0 n0 (V X I J (rf t)) 1568 [(0, .ref b), (1, .ref (xad X 0)), (2, .ref (xad X 85)), (3, .int (nI i))] []) : Z X k0 n0 (V X I J (rf t)) 180 [(0, .ref b), (1, .ref (xad X 0)), (2, .ref (xad X 85)), (3, .int (nI i))] [] := by
  refine z_aload_n (n := 181) C 1 dL_law_180 rfl rfl ?_
  refine z_aload_n (n := 182) C 0 dL_law_181 rfl rfl ?_
  refine z_iload_n (n := 183) C 3 dL_law_182 rfl rfl ?_
  refine z_iconst (n := 184) (v := 1) C dL_law_183 rfl rfl ?_
  refine z_iadd (n := 185) C dL_law_184 rfl ?_
  refine z_sld (n := 186) (j := i + 1) C hX hbl hbA (by omega) dL_law_185 rfl (nI_add i 1) (by omega) ?_
  refine z_aload_n (n := 187) C 0 dL_law_186 rfl rfl ?_
  refine z_iload_n (n := 188) C 3 dL_law_187 rfl rfl ?_
  refine z_iconst (n := 189) (v := 2) C dL_law_188 rfl rfl ?_
  refine z_iadd (n := 190) C dL_law_189 rfl ?_
  refine z_sld (n := 191) (j := i + 2) C hX hbl hbA (by omega) dL_law_190 rfl (nI_add i 2) (by omega) ?_
  refine z_aload_n (n := 192) C 0 dL_law_191 rfl rfl ?_
  refine z_iload_n (n := 193) C 3 dL_law_192 rfl rfl ?_
  refine z_iconst (n := 194) (v := 3) C dL_law_193 rfl rfl ?_
  refine z_iadd (n := 195) C dL_law_194 rfl ?_
  refine z_sld (n := 196) (j := i + 3) C hX hbl hbA (by omega) dL_law_195 rfl (nI_add i 3) (by omega) ?_
  refine z_aload_n (n := 197) C 0 dL_law_196 rfl rfl ?_
  refine z_iload_n (n := 198) C 3 dL_law_197 rfl rfl ?_
  refine z_iconst (n := 199) (v := 4) C dL_law_198 rfl rfl ?_
  refine z_iadd (n := 200) C dL_law_199 rfl ?_
  refine z_sld (n := 201) (j := i + 4) C hX hbl hbA (by omega) dL_law_200 rfl (nI_add i 4) (by omega) ?_
  refine z_vi_4 (n := 204) (d' := 8) C K dL_law_201 rfl yk_X9_streets yv_X9_streets kM_RL_13 (by decide) hR0 rfl rfl sh_0 (by decide) (by decide) ?_
  refine op_streets hI (fun a I1 J1 t1 h2 => ?_)
  refine z_aload_n (n := 205) C 2 dL_law_204 rfl rfl ?_
  refine z_aload_n (n := 206) C 0 dL_law_205 rfl rfl ?_
  refine z_iload_n (n := 207) C 3 dL_law_206 rfl rfl ?_
  refine z_iconst (n := 208) (v := 1) C dL_law_207 rfl rfl ?_
  refine z_iadd (n := 209) C dL_law_208 rfl ?_
  refine z_sld (n := 210) (j := i + 1) C hX hbl hbA (by omega) dL_law_209 rfl (nI_add i 1) (by omega) ?_
  refine z_aload_n (n := 211) C 0 dL_law_210 rfl rfl ?_
  refine z_iload_n (n := 212) C 3 dL_law_211 rfl rfl ?_
  refine z_iconst (n := 213) (v := 2) C dL_law_212 rfl rfl ?_
  refine z_iadd (n := 214) C dL_law_213 rfl ?_
  refine z_sld (n := 215) (j := i + 2) C hX hbl hbA (by omega) dL_law_214 rfl (nI_add i 2) (by omega) ?_
  refine z_aload_n (n := 216) C 0 dL_law_215 rfl rfl ?_
  refine z_iload_n (n := 217) C 3 dL_law_216 rfl rfl ?_
  refine z_iconst (n := 218) (v := 3) C dL_law_217 rfl rfl ?_
  refine z_iadd (n := 219) C dL_law_218 rfl ?_
  refine z_sld (n := 220) (j := i + 3) C hX hbl hbA (by omega) dL_law_219 rfl (nI_add i 3) (by omega) ?_
  refine z_aload_n (n := 221) C 0 dL_law_220 rfl rfl ?_
  refine z_iload_n (n := 222) C 3 dL_law_221 rfl rfl ?_
  refine z_iconst (n := 223) (v := 4) C dL_law_222 rfl rfl ?_
  refine z_iadd (n := 224) C dL_law_223 rfl ?_
  refine z_sld (n := 225) (j := i + 4) C hX hbl hbA (by omega) dL_law_224 rfl (nI_add i 4) (by omega) ?_
  refine z_vi_4 (n := 228) (d' := 6) C K dL_law_225 rfl yk_X10_streets yv_X10_streets kM_RL_17 (by decide) hR0 rfl rfl sh_85 (by decide) (by decide) ?_
  refine h2 _ (fun I2 J2 hI2 => ?_)
  refine z_icmpT_eq (tgt := 1568) C rfl dL_law_228 rfl ?_
  exact hN hI2
set_option maxHeartbeats 4000000 in
set_option maxRecDepth 100000 in
theorem lc_ofRoad {X : KX} {k0 n0 : Nat} (C : Cx X RL cL_law 2000) (K : Kx X) (hnL : xnL X = 4) (hR0 : k0 ≤ (xRm X).cells ∧ n0 ≤ (xRm X).slots) {b N : Nat} {sc : Nat → Int32} (hX : va_X b N sc (xs X) (xs X).heap) (hbl : b < (xs X).heap.size) (hbA : ¬ xA X b) (hN5 : N ≤ 5120) {t i : Nat} {I : KI} {J : KJ} (hI : Inv t I J) (hi : i + 9 < N) (hN : ∀ {t : Nat} {I : KI} {J : KJ}, Inv t I J → Z X k0 n0 (V X I J (rf t)) 1568 [(0, .ref b), (1, .ref (xad X 0)), (2, .ref (xad X 85)), (3, .int (nI i))] []) : Z X k0 n0 (V X I J (rf t)) 233 [(0, .ref b), (1, .ref (xad X 0)), (2, .ref (xad X 85)), (3, .int (nI i))] [] := by
  refine z_aload_n (n := 234) C 1 dL_law_233 rfl rfl ?_
  refine z_aload_n (n := 235) C 0 dL_law_234 rfl rfl ?_
  refine z_iload_n (n := 236) C 3 dL_law_235 rfl rfl ?_
  refine z_iconst (n := 237) (v := 1) C dL_law_236 rfl rfl ?_
  refine z_iadd (n := 238) C dL_law_237 rfl ?_
  refine z_sld (n := 239) (j := i + 1) C hX hbl hbA (by omega) dL_law_238 rfl (nI_add i 1) (by omega) ?_
  refine z_aload_n (n := 240) C 0 dL_law_239 rfl rfl ?_
  refine z_iload_n (n := 241) C 3 dL_law_240 rfl rfl ?_
  refine z_iconst (n := 242) (v := 2) C dL_law_241 rfl rfl ?_
  refine z_iadd (n := 243) C dL_law_242 rfl ?_
  refine z_sld (n := 244) (j := i + 2) C hX hbl hbA (by omega) dL_law_243 rfl (nI_add i 2) (by omega) ?_
  refine z_vi_2 (n := 247) (d' := 2) C K dL_law_244 rfl yk_X9_ofRoad yv_X9_ofRoad kM_RL_18 (by decide) hR0 rfl rfl sh_0 (by decide) (by decide) ?_
  refine op_ofRoad hI (fun a I1 J1 t1 h2 => ?_)
  refine z_aload_n (n := 248) C 2 dL_law_247 rfl rfl ?_
  refine z_aload_n (n := 249) C 0 dL_law_248 rfl rfl ?_
  refine z_iload_n (n := 250) C 3 dL_law_249 rfl rfl ?_
  refine z_iconst (n := 251) (v := 1) C dL_law_250 rfl rfl ?_
  refine z_iadd (n := 252) C dL_law_251 rfl ?_
  refine z_sld (n := 253) (j := i + 1) C hX hbl hbA (by omega) dL_law_252 rfl (nI_add i 1) (by omega) ?_
  refine z_aload_n (n := 254) C 0 dL_law_253 rfl rfl ?_
  refine z_iload_n (n := 255) C 3 dL_law_254 rfl rfl ?_
  refine z_iconst (n := 256) (v := 2) C dL_law_255 rfl rfl ?_
  refine z_iadd (n := 257) C dL_law_256 rfl ?_
  refine z_sld (n := 258) (j := i + 2) C hX hbl hbA (by omega) dL_law_257 rfl (nI_add i 2) (by omega) ?_
  refine z_vi_2 (n := 261) (d' := 2) C K dL_law_258 rfl yk_X10_ofRoad yv_X10_ofRoad kM_RL_22 (by decide) hR0 rfl rfl sh_85 (by decide) (by decide) ?_
  refine h2 _ (fun I2 J2 hI2 => ?_)
  refine z_icmpT_eq (tgt := 1568) C rfl dL_law_261 rfl ?_
  exact hN hI2
set_option maxHeartbeats 4000000 in
set_option maxRecDepth 100000 in
theorem lc_way {X : KX} {k0 n0 : Nat} (C : Cx X RL cL_law 2000) (K : Kx X) (hnL : xnL X = 4) (hR0 : k0 ≤ (xRm X).cells ∧ n0 ≤ (xRm X).slots) {b N : Nat} {sc : Nat → Int32} (hX : va_X b N sc (xs X) (xs X).heap) (hbl : b < (xs X).heap.size) (hbA : ¬ xA X b) (hN5 : N ≤ 5120) {t i : Nat} {I : KI} {J : KJ} (hI : Inv t I J) (hi : i + 9 < N) (hN : ∀ {t : Nat} {I : KI} {J : KJ}, Inv t I J → Z X k0 n0 (V X I J (rf t)) 1568 [(0, .ref b), (1, .ref (xad X 0)), (2, .ref (xad X 85)), (3, .int (nI i))] []) : Z X k0 n0 (V X I J (rf t)) 266 [(0, .ref b), (1, .ref (xad X 0)), (2, .ref (xad X 85)), (3, .int (nI i))] [] := by
  refine z_aload_n (n := 267) C 1 dL_law_266 rfl rfl ?_
  refine z_aload_n (n := 268) C 0 dL_law_267 rfl rfl ?_
  refine z_iload_n (n := 269) C 3 dL_law_268 rfl rfl ?_
  refine z_iconst (n := 270) (v := 1) C dL_law_269 rfl rfl ?_
  refine z_iadd (n := 271) C dL_law_270 rfl ?_
  refine z_sld (n := 272) (j := i + 1) C hX hbl hbA (by omega) dL_law_271 rfl (nI_add i 1) (by omega) ?_
  refine z_aload_n (n := 273) C 0 dL_law_272 rfl rfl ?_
  refine z_iload_n (n := 274) C 3 dL_law_273 rfl rfl ?_
  refine z_iconst (n := 275) (v := 2) C dL_law_274 rfl rfl ?_
  refine z_iadd (n := 276) C dL_law_275 rfl ?_
  refine z_sld (n := 277) (j := i + 2) C hX hbl hbA (by omega) dL_law_276 rfl (nI_add i 2) (by omega) ?_
  refine z_aload_n (n := 278) C 0 dL_law_277 rfl rfl ?_
  refine z_iload_n (n := 279) C 3 dL_law_278 rfl rfl ?_
  refine z_iconst (n := 280) (v := 3) C dL_law_279 rfl rfl ?_
  refine z_iadd (n := 281) C dL_law_280 rfl ?_
  refine z_sld (n := 282) (j := i + 3) C hX hbl hbA (by omega) dL_law_281 rfl (nI_add i 3) (by omega) ?_
  refine z_vi_3 (n := 285) (d' := 3) C K dL_law_282 rfl yk_X9_way yv_X9_way kM_RL_23 (by decide) hR0 rfl rfl sh_0 (by decide) (by decide) ?_
  refine op_way hI (fun a I1 J1 t1 h2 => ?_)
  refine z_aload_n (n := 286) C 2 dL_law_285 rfl rfl ?_
  refine z_aload_n (n := 287) C 0 dL_law_286 rfl rfl ?_
  refine z_iload_n (n := 288) C 3 dL_law_287 rfl rfl ?_
  refine z_iconst (n := 289) (v := 1) C dL_law_288 rfl rfl ?_
  refine z_iadd (n := 290) C dL_law_289 rfl ?_
  refine z_sld (n := 291) (j := i + 1) C hX hbl hbA (by omega) dL_law_290 rfl (nI_add i 1) (by omega) ?_
  refine z_aload_n (n := 292) C 0 dL_law_291 rfl rfl ?_
  refine z_iload_n (n := 293) C 3 dL_law_292 rfl rfl ?_
  refine z_iconst (n := 294) (v := 2) C dL_law_293 rfl rfl ?_
  refine z_iadd (n := 295) C dL_law_294 rfl ?_
  refine z_sld (n := 296) (j := i + 2) C hX hbl hbA (by omega) dL_law_295 rfl (nI_add i 2) (by omega) ?_
  refine z_aload_n (n := 297) C 0 dL_law_296 rfl rfl ?_
  refine z_iload_n (n := 298) C 3 dL_law_297 rfl rfl ?_
  refine z_iconst (n := 299) (v := 3) C dL_law_298 rfl rfl ?_
  refine z_iadd (n := 300) C dL_law_299 rfl ?_
  refine z_sld (n := 301) (j := i + 3) C hX hbl hbA (by omega) dL_law_300 rfl (nI_add i 3) (by omega) ?_
  refine z_vi_3 (n := 304) (d' := 4) C K dL_law_301 rfl yk_X10_way yv_X10_way kM_RL_27 (by decide) hR0 rfl rfl sh_85 (by decide) (by decide) ?_
  refine h2 _ (fun I2 J2 hI2 => ?_)
  refine z_icmpT_eq (tgt := 1568) C rfl dL_law_304 rfl ?_
  exact hN hI2
set_option maxHeartbeats 4000000 in
set_option maxRecDepth 100000 in
theorem lc_along {X : KX} {k0 n0 : Nat} (C : Cx X RL cL_law 2000) (K : Kx X) (hnL : xnL X = 4) (hR0 : k0 ≤ (xRm X).cells ∧ n0 ≤ (xRm X).slots) {b N : Nat} {sc : Nat → Int32} (hX : va_X b N sc (xs X) (xs X).heap) (hbl : b < (xs X).heap.size) (hbA : ¬ xA X b) (hN5 : N ≤ 5120) {t i : Nat} {I : KI} {J : KJ} (hI : Inv t I J) (hi : i + 9 < N) (hN : ∀ {t : Nat} {I : KI} {J : KJ}, Inv t I J → Z X k0 n0 (V X I J (rf t)) 1568 [(0, .ref b), (1, .ref (xad X 0)), (2, .ref (xad X 85)), (3, .int (nI i))] []) : Z X k0 n0 (V X I J (rf t)) 309 [(0, .ref b), (1, .ref (xad X 0)), (2, .ref (xad X 85)), (3, .int (nI i))] [] := by
  refine z_aload_n (n := 310) C 1 dL_law_309 rfl rfl ?_
  refine z_aload_n (n := 311) C 0 dL_law_310 rfl rfl ?_
  refine z_iload_n (n := 312) C 3 dL_law_311 rfl rfl ?_
  refine z_iconst (n := 313) (v := 1) C dL_law_312 rfl rfl ?_
  refine z_iadd (n := 314) C dL_law_313 rfl ?_
  refine z_sld (n := 315) (j := i + 1) C hX hbl hbA (by omega) dL_law_314 rfl (nI_add i 1) (by omega) ?_
  refine z_aload_n (n := 316) C 0 dL_law_315 rfl rfl ?_
  refine z_iload_n (n := 317) C 3 dL_law_316 rfl rfl ?_
  refine z_iconst (n := 318) (v := 2) C dL_law_317 rfl rfl ?_
  refine z_iadd (n := 319) C dL_law_318 rfl ?_
  refine z_sld (n := 320) (j := i + 2) C hX hbl hbA (by omega) dL_law_319 rfl (nI_add i 2) (by omega) ?_
  refine z_aload_n (n := 321) C 0 dL_law_320 rfl rfl ?_
  refine z_iload_n (n := 322) C 3 dL_law_321 rfl rfl ?_
  refine z_iconst (n := 323) (v := 3) C dL_law_322 rfl rfl ?_
  refine z_iadd (n := 324) C dL_law_323 rfl ?_
  refine z_sld (n := 325) (j := i + 3) C hX hbl hbA (by omega) dL_law_324 rfl (nI_add i 3) (by omega) ?_
  refine z_vi_3 (n := 328) (d' := 3) C K dL_law_325 rfl yk_X9_along yv_X9_along kM_RL_28 (by decide) hR0 rfl rfl sh_0 (by decide) (by decide) ?_
  refine op_along hI (fun a I1 J1 t1 h2 => ?_)
  refine z_aload_n (n := 329) C 2 dL_law_328 rfl rfl ?_
  refine z_aload_n (n := 330) C 0 dL_law_329 rfl rfl ?_
  refine z_iload_n (n := 331) C 3 dL_law_330 rfl rfl ?_
  refine z_iconst (n := 332) (v := 1) C dL_law_331 rfl rfl ?_
  refine z_iadd (n := 333) C dL_law_332 rfl ?_
  refine z_sld (n := 334) (j := i + 1) C hX hbl hbA (by omega) dL_law_333 rfl (nI_add i 1) (by omega) ?_
  refine z_aload_n (n := 335) C 0 dL_law_334 rfl rfl ?_
  refine z_iload_n (n := 336) C 3 dL_law_335 rfl rfl ?_
  refine z_iconst (n := 337) (v := 2) C dL_law_336 rfl rfl ?_
  refine z_iadd (n := 338) C dL_law_337 rfl ?_
  refine z_sld (n := 339) (j := i + 2) C hX hbl hbA (by omega) dL_law_338 rfl (nI_add i 2) (by omega) ?_
  refine z_aload_n (n := 340) C 0 dL_law_339 rfl rfl ?_
  refine z_iload_n (n := 341) C 3 dL_law_340 rfl rfl ?_
  refine z_iconst (n := 342) (v := 3) C dL_law_341 rfl rfl ?_
  refine z_iadd (n := 343) C dL_law_342 rfl ?_
  refine z_sld (n := 344) (j := i + 3) C hX hbl hbA (by omega) dL_law_343 rfl (nI_add i 3) (by omega) ?_
  refine z_vi_3 (n := 347) (d' := 3) C K dL_law_344 rfl yk_X10_along yv_X10_along kM_RL_31 (by decide) hR0 rfl rfl sh_85 (by decide) (by decide) ?_
  refine h2 _ (fun I2 J2 hI2 => ?_)
  refine z_icmpT_eq (tgt := 1568) C rfl dL_law_347 rfl ?_
  exact hN hI2
set_option maxHeartbeats 4000000 in
set_option maxRecDepth 100000 in
theorem lc_child {X : KX} {k0 n0 : Nat} (C : Cx X RL cL_law 2000) (K : Kx X) (hnL : xnL X = 4) (hR0 : k0 ≤ (xRm X).cells ∧ n0 ≤ (xRm X).slots) {b N : Nat} {sc : Nat → Int32} (hX : va_X b N sc (xs X) (xs X).heap) (hbl : b < (xs X).heap.size) (hbA : ¬ xA X b) (hN5 : N ≤ 5120) {t i : Nat} {I : KI} {J : KJ} (hI : Inv t I J) (hi : i + 9 < N) (hN : ∀ {t : Nat} {I : KI} {J : KJ}, Inv t I J → Z X k0 n0 (V X I J (rf t)) 1568 [(0, .ref b), (1, .ref (xad X 0)), (2, .ref (xad X 85)), (3, .int (nI i))] []) : Z X k0 n0 (V X I J (rf t)) 352 [(0, .ref b), (1, .ref (xad X 0)), (2, .ref (xad X 85)), (3, .int (nI i))] [] := by
  refine z_aload_n (n := 353) C 1 dL_law_352 rfl rfl ?_
  refine z_aload_n (n := 354) C 0 dL_law_353 rfl rfl ?_
  refine z_iload_n (n := 355) C 3 dL_law_354 rfl rfl ?_
  refine z_iconst (n := 356) (v := 1) C dL_law_355 rfl rfl ?_
  refine z_iadd (n := 357) C dL_law_356 rfl ?_
  refine z_sld (n := 358) (j := i + 1) C hX hbl hbA (by omega) dL_law_357 rfl (nI_add i 1) (by omega) ?_
  refine z_aload_n (n := 359) C 0 dL_law_358 rfl rfl ?_
  refine z_iload_n (n := 360) C 3 dL_law_359 rfl rfl ?_
  refine z_iconst (n := 361) (v := 2) C dL_law_360 rfl rfl ?_
  refine z_iadd (n := 362) C dL_law_361 rfl ?_
  refine z_sld (n := 363) (j := i + 2) C hX hbl hbA (by omega) dL_law_362 rfl (nI_add i 2) (by omega) ?_
  refine z_aload_n (n := 364) C 0 dL_law_363 rfl rfl ?_
  refine z_iload_n (n := 365) C 3 dL_law_364 rfl rfl ?_
  refine z_iconst (n := 366) (v := 3) C dL_law_365 rfl rfl ?_
  refine z_iadd (n := 367) C dL_law_366 rfl ?_
  refine z_sld (n := 368) (j := i + 3) C hX hbl hbA (by omega) dL_law_367 rfl (nI_add i 3) (by omega) ?_
  refine z_aload_n (n := 369) C 0 dL_law_368 rfl rfl ?_
  refine z_iload_n (n := 370) C 3 dL_law_369 rfl rfl ?_
  refine z_iconst (n := 371) (v := 4) C dL_law_370 rfl rfl ?_
  refine z_iadd (n := 372) C dL_law_371 rfl ?_
  refine z_sld (n := 373) (j := i + 4) C hX hbl hbA (by omega) dL_law_372 rfl (nI_add i 4) (by omega) ?_
  refine z_vi_4 (n := 376) (d' := 3) C K dL_law_373 rfl yk_X9_child yv_X9_child kM_RL_32 (by decide) hR0 rfl rfl sh_0 (by decide) (by decide) ?_
  refine op_child hI (fun a I1 J1 t1 h2 => ?_)
  refine z_aload_n (n := 377) C 2 dL_law_376 rfl rfl ?_
  refine z_aload_n (n := 378) C 0 dL_law_377 rfl rfl ?_
  refine z_iload_n (n := 379) C 3 dL_law_378 rfl rfl ?_
  refine z_iconst (n := 380) (v := 1) C dL_law_379 rfl rfl ?_
  refine z_iadd (n := 381) C dL_law_380 rfl ?_
  refine z_sld (n := 382) (j := i + 1) C hX hbl hbA (by omega) dL_law_381 rfl (nI_add i 1) (by omega) ?_
  refine z_aload_n (n := 383) C 0 dL_law_382 rfl rfl ?_
  refine z_iload_n (n := 384) C 3 dL_law_383 rfl rfl ?_
  refine z_iconst (n := 385) (v := 2) C dL_law_384 rfl rfl ?_
  refine z_iadd (n := 386) C dL_law_385 rfl ?_
  refine z_sld (n := 387) (j := i + 2) C hX hbl hbA (by omega) dL_law_386 rfl (nI_add i 2) (by omega) ?_
  refine z_aload_n (n := 388) C 0 dL_law_387 rfl rfl ?_
  refine z_iload_n (n := 389) C 3 dL_law_388 rfl rfl ?_
  refine z_iconst (n := 390) (v := 3) C dL_law_389 rfl rfl ?_
  refine z_iadd (n := 391) C dL_law_390 rfl ?_
  refine z_sld (n := 392) (j := i + 3) C hX hbl hbA (by omega) dL_law_391 rfl (nI_add i 3) (by omega) ?_
  refine z_aload_n (n := 393) C 0 dL_law_392 rfl rfl ?_
  refine z_iload_n (n := 394) C 3 dL_law_393 rfl rfl ?_
  refine z_iconst (n := 395) (v := 4) C dL_law_394 rfl rfl ?_
  refine z_iadd (n := 396) C dL_law_395 rfl ?_
  refine z_sld (n := 397) (j := i + 4) C hX hbl hbA (by omega) dL_law_396 rfl (nI_add i 4) (by omega) ?_
  refine z_vi_4 (n := 400) (d' := 3) C K dL_law_397 rfl yk_X10_child yv_X10_child kM_RL_35 (by decide) hR0 rfl rfl sh_85 (by decide) (by decide) ?_
  refine h2 _ (fun I2 J2 hI2 => ?_)
  refine z_icmpT_eq (tgt := 1568) C rfl dL_law_400 rfl ?_
  exact hN hI2
set_option maxHeartbeats 4000000 in
set_option maxRecDepth 100000 in
theorem lc_ofChild {X : KX} {k0 n0 : Nat} (C : Cx X RL cL_law 2000) (K : Kx X) (hnL : xnL X = 4) (hR0 : k0 ≤ (xRm X).cells ∧ n0 ≤ (xRm X).slots) {b N : Nat} {sc : Nat → Int32} (hX : va_X b N sc (xs X) (xs X).heap) (hbl : b < (xs X).heap.size) (hbA : ¬ xA X b) (hN5 : N ≤ 5120) {t i : Nat} {I : KI} {J : KJ} (hI : Inv t I J) (hi : i + 9 < N) (hN : ∀ {t : Nat} {I : KI} {J : KJ}, Inv t I J → Z X k0 n0 (V X I J (rf t)) 1568 [(0, .ref b), (1, .ref (xad X 0)), (2, .ref (xad X 85)), (3, .int (nI i))] []) : Z X k0 n0 (V X I J (rf t)) 405 [(0, .ref b), (1, .ref (xad X 0)), (2, .ref (xad X 85)), (3, .int (nI i))] [] := by
  refine z_aload_n (n := 406) C 1 dL_law_405 rfl rfl ?_
  refine z_aload_n (n := 407) C 0 dL_law_406 rfl rfl ?_
  refine z_iload_n (n := 408) C 3 dL_law_407 rfl rfl ?_
  refine z_iconst (n := 409) (v := 1) C dL_law_408 rfl rfl ?_
  refine z_iadd (n := 410) C dL_law_409 rfl ?_
  refine z_sld (n := 411) (j := i + 1) C hX hbl hbA (by omega) dL_law_410 rfl (nI_add i 1) (by omega) ?_
  refine z_aload_n (n := 412) C 0 dL_law_411 rfl rfl ?_
  refine z_iload_n (n := 413) C 3 dL_law_412 rfl rfl ?_
  refine z_iconst (n := 414) (v := 2) C dL_law_413 rfl rfl ?_
  refine z_iadd (n := 415) C dL_law_414 rfl ?_
  refine z_sld (n := 416) (j := i + 2) C hX hbl hbA (by omega) dL_law_415 rfl (nI_add i 2) (by omega) ?_
  refine z_vi_2 (n := 419) (d' := 3) C K dL_law_416 rfl yk_X9_ofChild yv_X9_ofChild kM_RL_36 (by decide) hR0 rfl rfl sh_0 (by decide) (by decide) ?_
  refine op_ofChild hI (fun a I1 J1 t1 h2 => ?_)
  refine z_aload_n (n := 420) C 2 dL_law_419 rfl rfl ?_
  refine z_aload_n (n := 421) C 0 dL_law_420 rfl rfl ?_
  refine z_iload_n (n := 422) C 3 dL_law_421 rfl rfl ?_
  refine z_iconst (n := 423) (v := 1) C dL_law_422 rfl rfl ?_
  refine z_iadd (n := 424) C dL_law_423 rfl ?_
  refine z_sld (n := 425) (j := i + 1) C hX hbl hbA (by omega) dL_law_424 rfl (nI_add i 1) (by omega) ?_
  refine z_aload_n (n := 426) C 0 dL_law_425 rfl rfl ?_
  refine z_iload_n (n := 427) C 3 dL_law_426 rfl rfl ?_
  refine z_iconst (n := 428) (v := 2) C dL_law_427 rfl rfl ?_
  refine z_iadd (n := 429) C dL_law_428 rfl ?_
  refine z_sld (n := 430) (j := i + 2) C hX hbl hbA (by omega) dL_law_429 rfl (nI_add i 2) (by omega) ?_
  refine z_vi_2 (n := 433) (d' := 3) C K dL_law_430 rfl yk_X10_ofChild yv_X10_ofChild kM_RL_39 (by decide) hR0 rfl rfl sh_85 (by decide) (by decide) ?_
  refine h2 _ (fun I2 J2 hI2 => ?_)
  refine z_icmpT_eq (tgt := 1568) C rfl dL_law_433 rfl ?_
  exact hN hI2
set_option maxHeartbeats 4000000 in
set_option maxRecDepth 100000 in
theorem lc_ready {X : KX} {k0 n0 : Nat} (C : Cx X RL cL_law 2000) (K : Kx X) (hnL : xnL X = 4) (hR0 : k0 ≤ (xRm X).cells ∧ n0 ≤ (xRm X).slots) {b N : Nat} {sc : Nat → Int32} (hX : va_X b N sc (xs X) (xs X).heap) (hbl : b < (xs X).heap.size) (hbA : ¬ xA X b) (hN5 : N ≤ 5120) {t i : Nat} {I : KI} {J : KJ} (hI : Inv t I J) (hi : i + 9 < N) (hN : ∀ {t : Nat} {I : KI} {J : KJ}, Inv t I J → Z X k0 n0 (V X I J (rf t)) 1568 [(0, .ref b), (1, .ref (xad X 0)), (2, .ref (xad X 85)), (3, .int (nI i))] []) : Z X k0 n0 (V X I J (rf t)) 438 [(0, .ref b), (1, .ref (xad X 0)), (2, .ref (xad X 85)), (3, .int (nI i))] [] := by
  refine z_aload_n (n := 439) C 1 dL_law_438 rfl rfl ?_
  refine z_aload_n (n := 440) C 0 dL_law_439 rfl rfl ?_
  refine z_iload_n (n := 441) C 3 dL_law_440 rfl rfl ?_
  refine z_iconst (n := 442) (v := 1) C dL_law_441 rfl rfl ?_
  refine z_iadd (n := 443) C dL_law_442 rfl ?_
  refine z_sld (n := 444) (j := i + 1) C hX hbl hbA (by omega) dL_law_443 rfl (nI_add i 1) (by omega) ?_
  refine z_aload_n (n := 445) C 0 dL_law_444 rfl rfl ?_
  refine z_iload_n (n := 446) C 3 dL_law_445 rfl rfl ?_
  refine z_iconst (n := 447) (v := 2) C dL_law_446 rfl rfl ?_
  refine z_iadd (n := 448) C dL_law_447 rfl ?_
  refine z_sld (n := 449) (j := i + 2) C hX hbl hbA (by omega) dL_law_448 rfl (nI_add i 2) (by omega) ?_
  refine z_vi_2 (n := 452) (d' := 3) C K dL_law_449 rfl yk_X9_ready yv_X9_ready kM_RL_40 (by decide) hR0 rfl rfl sh_0 (by decide) (by decide) ?_
  refine op_ready hI (fun a I1 J1 t1 h2 => ?_)
  refine z_aload_n (n := 453) C 2 dL_law_452 rfl rfl ?_
  refine z_aload_n (n := 454) C 0 dL_law_453 rfl rfl ?_
  refine z_iload_n (n := 455) C 3 dL_law_454 rfl rfl ?_
  refine z_iconst (n := 456) (v := 1) C dL_law_455 rfl rfl ?_
  refine z_iadd (n := 457) C dL_law_456 rfl ?_
  refine z_sld (n := 458) (j := i + 1) C hX hbl hbA (by omega) dL_law_457 rfl (nI_add i 1) (by omega) ?_
  refine z_aload_n (n := 459) C 0 dL_law_458 rfl rfl ?_
  refine z_iload_n (n := 460) C 3 dL_law_459 rfl rfl ?_
  refine z_iconst (n := 461) (v := 2) C dL_law_460 rfl rfl ?_
  refine z_iadd (n := 462) C dL_law_461 rfl ?_
  refine z_sld (n := 463) (j := i + 2) C hX hbl hbA (by omega) dL_law_462 rfl (nI_add i 2) (by omega) ?_
  refine z_vi_2 (n := 466) (d' := 3) C K dL_law_463 rfl yk_X10_ready yv_X10_ready kM_RL_43 (by decide) hR0 rfl rfl sh_85 (by decide) (by decide) ?_
  refine h2 _ (fun I2 J2 hI2 => ?_)
  refine z_icmpT_eq (tgt := 1568) C rfl dL_law_466 rfl ?_
  exact hN hI2
set_option maxHeartbeats 4000000 in
set_option maxRecDepth 100000 in
theorem lc_tie {X : KX} {k0 n0 : Nat} (C : Cx X RL cL_law 2000) (K : Kx X) (hnL : xnL X = 4) (hR0 : k0 ≤ (xRm X).cells ∧ n0 ≤ (xRm X).slots) {b N : Nat} {sc : Nat → Int32} (hX : va_X b N sc (xs X) (xs X).heap) (hbl : b < (xs X).heap.size) (hbA : ¬ xA X b) (hN5 : N ≤ 5120) {t i : Nat} {I : KI} {J : KJ} (hI : Inv t I J) (hi : i + 9 < N) (hN : ∀ {t : Nat} {I : KI} {J : KJ}, Inv t I J → Z X k0 n0 (V X I J (rf t)) 1568 [(0, .ref b), (1, .ref (xad X 0)), (2, .ref (xad X 85)), (3, .int (nI i))] []) : Z X k0 n0 (V X I J (rf t)) 471 [(0, .ref b), (1, .ref (xad X 0)), (2, .ref (xad X 85)), (3, .int (nI i))] [] := by
  refine z_aload_n (n := 472) C 1 dL_law_471 rfl rfl ?_
  refine z_aload_n (n := 473) C 0 dL_law_472 rfl rfl ?_
  refine z_iload_n (n := 474) C 3 dL_law_473 rfl rfl ?_
  refine z_iconst (n := 475) (v := 1) C dL_law_474 rfl rfl ?_
  refine z_iadd (n := 476) C dL_law_475 rfl ?_
  refine z_sld (n := 477) (j := i + 1) C hX hbl hbA (by omega) dL_law_476 rfl (nI_add i 1) (by omega) ?_
  refine z_aload_n (n := 478) C 0 dL_law_477 rfl rfl ?_
  refine z_iload_n (n := 479) C 3 dL_law_478 rfl rfl ?_
  refine z_iconst (n := 480) (v := 2) C dL_law_479 rfl rfl ?_
  refine z_iadd (n := 481) C dL_law_480 rfl ?_
  refine z_sld (n := 482) (j := i + 2) C hX hbl hbA (by omega) dL_law_481 rfl (nI_add i 2) (by omega) ?_
  refine z_aload_n (n := 483) C 0 dL_law_482 rfl rfl ?_
  refine z_iload_n (n := 484) C 3 dL_law_483 rfl rfl ?_
  refine z_iconst (n := 485) (v := 3) C dL_law_484 rfl rfl ?_
  refine z_iadd (n := 486) C dL_law_485 rfl ?_
  refine z_sld (n := 487) (j := i + 3) C hX hbl hbA (by omega) dL_law_486 rfl (nI_add i 3) (by omega) ?_
  refine z_vi_3 (n := 490) (d' := 3) C K dL_law_487 rfl yk_X9_tie yv_X9_tie kM_RL_44 (by decide) hR0 rfl rfl sh_0 (by decide) (by decide) ?_
  refine op_tie hI (fun a I1 J1 t1 h2 => ?_)
  refine z_aload_n (n := 491) C 2 dL_law_490 rfl rfl ?_
  refine z_aload_n (n := 492) C 0 dL_law_491 rfl rfl ?_
  refine z_iload_n (n := 493) C 3 dL_law_492 rfl rfl ?_
  refine z_iconst (n := 494) (v := 1) C dL_law_493 rfl rfl ?_
  refine z_iadd (n := 495) C dL_law_494 rfl ?_
  refine z_sld (n := 496) (j := i + 1) C hX hbl hbA (by omega) dL_law_495 rfl (nI_add i 1) (by omega) ?_
  refine z_aload_n (n := 497) C 0 dL_law_496 rfl rfl ?_
  refine z_iload_n (n := 498) C 3 dL_law_497 rfl rfl ?_
  refine z_iconst (n := 499) (v := 2) C dL_law_498 rfl rfl ?_
  refine z_iadd (n := 500) C dL_law_499 rfl ?_
  refine z_sld (n := 501) (j := i + 2) C hX hbl hbA (by omega) dL_law_500 rfl (nI_add i 2) (by omega) ?_
  refine z_aload_n (n := 502) C 0 dL_law_501 rfl rfl ?_
  refine z_iload_n (n := 503) C 3 dL_law_502 rfl rfl ?_
  refine z_iconst (n := 504) (v := 3) C dL_law_503 rfl rfl ?_
  refine z_iadd (n := 505) C dL_law_504 rfl ?_
  refine z_sld (n := 506) (j := i + 3) C hX hbl hbA (by omega) dL_law_505 rfl (nI_add i 3) (by omega) ?_
  refine z_vi_3 (n := 509) (d' := 3) C K dL_law_506 rfl yk_X10_tie yv_X10_tie kM_RL_47 (by decide) hR0 rfl rfl sh_85 (by decide) (by decide) ?_
  refine h2 _ (fun I2 J2 hI2 => ?_)
  refine z_icmpT_eq (tgt := 1568) C rfl dL_law_509 rfl ?_
  exact hN hI2
set_option maxHeartbeats 4000000 in
set_option maxRecDepth 100000 in
theorem lc_late {X : KX} {k0 n0 : Nat} (C : Cx X RL cL_law 2000) (K : Kx X) (hnL : xnL X = 4) (hR0 : k0 ≤ (xRm X).cells ∧ n0 ≤ (xRm X).slots) {b N : Nat} {sc : Nat → Int32} (hX : va_X b N sc (xs X) (xs X).heap) (hbl : b < (xs X).heap.size) (hbA : ¬ xA X b) (hN5 : N ≤ 5120) {t i : Nat} {I : KI} {J : KJ} (hI : Inv t I J) (hi : i + 9 < N) (hN : ∀ {t : Nat} {I : KI} {J : KJ}, Inv t I J → Z X k0 n0 (V X I J (rf t)) 1568 [(0, .ref b), (1, .ref (xad X 0)), (2, .ref (xad X 85)), (3, .int (nI i))] []) : Z X k0 n0 (V X I J (rf t)) 514 [(0, .ref b), (1, .ref (xad X 0)), (2, .ref (xad X 85)), (3, .int (nI i))] [] := by
  refine z_aload_n (n := 515) C 1 dL_law_514 rfl rfl ?_
  refine z_aload_n (n := 516) C 0 dL_law_515 rfl rfl ?_
  refine z_iload_n (n := 517) C 3 dL_law_516 rfl rfl ?_
  refine z_iconst (n := 518) (v := 1) C dL_law_517 rfl rfl ?_
  refine z_iadd (n := 519) C dL_law_518 rfl ?_
  refine z_sld (n := 520) (j := i + 1) C hX hbl hbA (by omega) dL_law_519 rfl (nI_add i 1) (by omega) ?_
  refine z_aload_n (n := 521) C 0 dL_law_520 rfl rfl ?_
  refine z_iload_n (n := 522) C 3 dL_law_521 rfl rfl ?_
  refine z_iconst (n := 523) (v := 2) C dL_law_522 rfl rfl ?_
  refine z_iadd (n := 524) C dL_law_523 rfl ?_
  refine z_sld (n := 525) (j := i + 2) C hX hbl hbA (by omega) dL_law_524 rfl (nI_add i 2) (by omega) ?_
  refine z_aload_n (n := 526) C 0 dL_law_525 rfl rfl ?_
  refine z_iload_n (n := 527) C 3 dL_law_526 rfl rfl ?_
  refine z_iconst (n := 528) (v := 3) C dL_law_527 rfl rfl ?_
  refine z_iadd (n := 529) C dL_law_528 rfl ?_
  refine z_sld (n := 530) (j := i + 3) C hX hbl hbA (by omega) dL_law_529 rfl (nI_add i 3) (by omega) ?_
  refine z_aload_n (n := 531) C 0 dL_law_530 rfl rfl ?_
  refine z_iload_n (n := 532) C 3 dL_law_531 rfl rfl ?_
  refine z_iconst (n := 533) (v := 4) C dL_law_532 rfl rfl ?_
  refine z_iadd (n := 534) C dL_law_533 rfl ?_
  refine z_sld (n := 535) (j := i + 4) C hX hbl hbA (by omega) dL_law_534 rfl (nI_add i 4) (by omega) ?_
  refine z_aload_n (n := 536) C 0 dL_law_535 rfl rfl ?_
  refine z_iload_n (n := 537) C 3 dL_law_536 rfl rfl ?_
  refine z_iconst (n := 538) (v := 5) C dL_law_537 rfl rfl ?_
  refine z_iadd (n := 539) C dL_law_538 rfl ?_
  refine z_sld (n := 540) (j := i + 5) C hX hbl hbA (by omega) dL_law_539 rfl (nI_add i 5) (by omega) ?_
  refine z_aload_n (n := 541) C 0 dL_law_540 rfl rfl ?_
  refine z_iload_n (n := 542) C 3 dL_law_541 rfl rfl ?_
  refine z_bipush (n := 544) (v := 6) C dL_law_542 rfl rfl ?_
  refine z_iadd (n := 545) C dL_law_544 rfl ?_
  refine z_sld (n := 546) (j := i + 6) C hX hbl hbA (by omega) dL_law_545 rfl (nI_add i 6) (by omega) ?_
  refine z_aload_n (n := 547) C 0 dL_law_546 rfl rfl ?_
  refine z_iload_n (n := 548) C 3 dL_law_547 rfl rfl ?_
  refine z_bipush (n := 550) (v := 7) C dL_law_548 rfl rfl ?_
  refine z_iadd (n := 551) C dL_law_550 rfl ?_
  refine z_sld (n := 552) (j := i + 7) C hX hbl hbA (by omega) dL_law_551 rfl (nI_add i 7) (by omega) ?_
  refine z_aload_n (n := 553) C 0 dL_law_552 rfl rfl ?_
  refine z_iload_n (n := 554) C 3 dL_law_553 rfl rfl ?_
  refine z_bipush (n := 556) (v := 8) C dL_law_554 rfl rfl ?_
  refine z_iadd (n := 557) C dL_law_556 rfl ?_
  refine z_sld (n := 558) (j := i + 8) C hX hbl hbA (by omega) dL_law_557 rfl (nI_add i 8) (by omega) ?_
  refine z_aload_n (n := 559) C 0 dL_law_558 rfl rfl ?_
  refine z_iload_n (n := 560) C 3 dL_law_559 rfl rfl ?_
  refine z_bipush (n := 562) (v := 9) C dL_law_560 rfl rfl ?_
  refine z_iadd (n := 563) C dL_law_562 rfl ?_
  refine z_sld (n := 564) (j := i + 9) C hX hbl hbA (by omega) dL_law_563 rfl (nI_add i 9) (by omega) ?_
  refine z_vl_9 (n := 567) (d' := 5) C K dL_law_564 rfl yk_X9_late yv_X9_late kM_RL_48 (by decide) hR0 rfl rfl sh_0 (by decide) (by decide) ?_
  refine op_late hI (fun a I1 J1 t1 h2 => ?_)
  refine z_aload_n (n := 568) C 2 dL_law_567 rfl rfl ?_
  refine z_aload_n (n := 569) C 0 dL_law_568 rfl rfl ?_
  refine z_iload_n (n := 570) C 3 dL_law_569 rfl rfl ?_
  refine z_iconst (n := 571) (v := 1) C dL_law_570 rfl rfl ?_
  refine z_iadd (n := 572) C dL_law_571 rfl ?_
  refine z_sld (n := 573) (j := i + 1) C hX hbl hbA (by omega) dL_law_572 rfl (nI_add i 1) (by omega) ?_
  refine z_aload_n (n := 574) C 0 dL_law_573 rfl rfl ?_
  refine z_iload_n (n := 575) C 3 dL_law_574 rfl rfl ?_
  refine z_iconst (n := 576) (v := 2) C dL_law_575 rfl rfl ?_
  refine z_iadd (n := 577) C dL_law_576 rfl ?_
  refine z_sld (n := 578) (j := i + 2) C hX hbl hbA (by omega) dL_law_577 rfl (nI_add i 2) (by omega) ?_
  refine z_aload_n (n := 579) C 0 dL_law_578 rfl rfl ?_
  refine z_iload_n (n := 580) C 3 dL_law_579 rfl rfl ?_
  refine z_iconst (n := 581) (v := 3) C dL_law_580 rfl rfl ?_
  refine z_iadd (n := 582) C dL_law_581 rfl ?_
  refine z_sld (n := 583) (j := i + 3) C hX hbl hbA (by omega) dL_law_582 rfl (nI_add i 3) (by omega) ?_
  refine z_aload_n (n := 584) C 0 dL_law_583 rfl rfl ?_
  refine z_iload_n (n := 585) C 3 dL_law_584 rfl rfl ?_
  refine z_iconst (n := 586) (v := 4) C dL_law_585 rfl rfl ?_
  refine z_iadd (n := 587) C dL_law_586 rfl ?_
  refine z_sld (n := 588) (j := i + 4) C hX hbl hbA (by omega) dL_law_587 rfl (nI_add i 4) (by omega) ?_
  refine z_aload_n (n := 589) C 0 dL_law_588 rfl rfl ?_
  refine z_iload_n (n := 590) C 3 dL_law_589 rfl rfl ?_
  refine z_iconst (n := 591) (v := 5) C dL_law_590 rfl rfl ?_
  refine z_iadd (n := 592) C dL_law_591 rfl ?_
  refine z_sld (n := 593) (j := i + 5) C hX hbl hbA (by omega) dL_law_592 rfl (nI_add i 5) (by omega) ?_
  refine z_aload_n (n := 594) C 0 dL_law_593 rfl rfl ?_
  refine z_iload_n (n := 595) C 3 dL_law_594 rfl rfl ?_
  refine z_bipush (n := 597) (v := 6) C dL_law_595 rfl rfl ?_
  refine z_iadd (n := 598) C dL_law_597 rfl ?_
  refine z_sld (n := 599) (j := i + 6) C hX hbl hbA (by omega) dL_law_598 rfl (nI_add i 6) (by omega) ?_
  refine z_aload_n (n := 600) C 0 dL_law_599 rfl rfl ?_
  refine z_iload_n (n := 601) C 3 dL_law_600 rfl rfl ?_
  refine z_bipush (n := 603) (v := 7) C dL_law_601 rfl rfl ?_
  refine z_iadd (n := 604) C dL_law_603 rfl ?_
  refine z_sld (n := 605) (j := i + 7) C hX hbl hbA (by omega) dL_law_604 rfl (nI_add i 7) (by omega) ?_
  refine z_aload_n (n := 606) C 0 dL_law_605 rfl rfl ?_
  refine z_iload_n (n := 607) C 3 dL_law_606 rfl rfl ?_
  refine z_bipush (n := 609) (v := 8) C dL_law_607 rfl rfl ?_
  refine z_iadd (n := 610) C dL_law_609 rfl ?_
  refine z_sld (n := 611) (j := i + 8) C hX hbl hbA (by omega) dL_law_610 rfl (nI_add i 8) (by omega) ?_
  refine z_aload_n (n := 612) C 0 dL_law_611 rfl rfl ?_
  refine z_iload_n (n := 613) C 3 dL_law_612 rfl rfl ?_
  refine z_bipush (n := 615) (v := 9) C dL_law_613 rfl rfl ?_
  refine z_iadd (n := 616) C dL_law_615 rfl ?_
  refine z_sld (n := 617) (j := i + 9) C hX hbl hbA (by omega) dL_law_616 rfl (nI_add i 9) (by omega) ?_
  refine z_vl_9 (n := 620) (d' := 5) C K dL_law_617 rfl yk_X10_late yv_X10_late kM_RL_52 (by decide) hR0 rfl rfl sh_85 (by decide) (by decide) ?_
  refine h2 _ (fun I2 J2 hI2 => ?_)
  refine z_lcmp (n := 621) C dL_law_620 rfl ?_
  refine z_ifT_eq (tgt := 1568) C (lg_self _) dL_law_621 rfl ?_
  exact hN hI2
set_option maxHeartbeats 4000000 in
set_option maxRecDepth 100000 in
theorem lc_mean {X : KX} {k0 n0 : Nat} (C : Cx X RL cL_law 2000) (K : Kx X) (hnL : xnL X = 4) (hR0 : k0 ≤ (xRm X).cells ∧ n0 ≤ (xRm X).slots) {b N : Nat} {sc : Nat → Int32} (hX : va_X b N sc (xs X) (xs X).heap) (hbl : b < (xs X).heap.size) (hbA : ¬ xA X b) (hN5 : N ≤ 5120) {t i : Nat} {I : KI} {J : KJ} (hI : Inv t I J) (hi : i + 9 < N) (hN : ∀ {t : Nat} {I : KI} {J : KJ}, Inv t I J → Z X k0 n0 (V X I J (rf t)) 1568 [(0, .ref b), (1, .ref (xad X 0)), (2, .ref (xad X 85)), (3, .int (nI i))] []) : Z X k0 n0 (V X I J (rf t)) 626 [(0, .ref b), (1, .ref (xad X 0)), (2, .ref (xad X 85)), (3, .int (nI i))] [] := by
  refine z_aload_n (n := 627) C 1 dL_law_626 rfl rfl ?_
  refine z_aload_n (n := 628) C 0 dL_law_627 rfl rfl ?_
  refine z_iload_n (n := 629) C 3 dL_law_628 rfl rfl ?_
  refine z_iconst (n := 630) (v := 1) C dL_law_629 rfl rfl ?_
  refine z_iadd (n := 631) C dL_law_630 rfl ?_
  refine z_sld (n := 632) (j := i + 1) C hX hbl hbA (by omega) dL_law_631 rfl (nI_add i 1) (by omega) ?_
  refine z_aload_n (n := 633) C 0 dL_law_632 rfl rfl ?_
  refine z_iload_n (n := 634) C 3 dL_law_633 rfl rfl ?_
  refine z_iconst (n := 635) (v := 2) C dL_law_634 rfl rfl ?_
  refine z_iadd (n := 636) C dL_law_635 rfl ?_
  refine z_sld (n := 637) (j := i + 2) C hX hbl hbA (by omega) dL_law_636 rfl (nI_add i 2) (by omega) ?_
  refine z_aload_n (n := 638) C 0 dL_law_637 rfl rfl ?_
  refine z_iload_n (n := 639) C 3 dL_law_638 rfl rfl ?_
  refine z_iconst (n := 640) (v := 3) C dL_law_639 rfl rfl ?_
  refine z_iadd (n := 641) C dL_law_640 rfl ?_
  refine z_sld (n := 642) (j := i + 3) C hX hbl hbA (by omega) dL_law_641 rfl (nI_add i 3) (by omega) ?_
  refine z_aload_n (n := 643) C 0 dL_law_642 rfl rfl ?_
  refine z_iload_n (n := 644) C 3 dL_law_643 rfl rfl ?_
  refine z_iconst (n := 645) (v := 4) C dL_law_644 rfl rfl ?_
  refine z_iadd (n := 646) C dL_law_645 rfl ?_
  refine z_sld (n := 647) (j := i + 4) C hX hbl hbA (by omega) dL_law_646 rfl (nI_add i 4) (by omega) ?_
  refine z_aload_n (n := 648) C 0 dL_law_647 rfl rfl ?_
  refine z_iload_n (n := 649) C 3 dL_law_648 rfl rfl ?_
  refine z_iconst (n := 650) (v := 5) C dL_law_649 rfl rfl ?_
  refine z_iadd (n := 651) C dL_law_650 rfl ?_
  refine z_sld (n := 652) (j := i + 5) C hX hbl hbA (by omega) dL_law_651 rfl (nI_add i 5) (by omega) ?_
  refine z_aload_n (n := 653) C 0 dL_law_652 rfl rfl ?_
  refine z_iload_n (n := 654) C 3 dL_law_653 rfl rfl ?_
  refine z_bipush (n := 656) (v := 6) C dL_law_654 rfl rfl ?_
  refine z_iadd (n := 657) C dL_law_656 rfl ?_
  refine z_sld (n := 658) (j := i + 6) C hX hbl hbA (by omega) dL_law_657 rfl (nI_add i 6) (by omega) ?_
  refine z_aload_n (n := 659) C 0 dL_law_658 rfl rfl ?_
  refine z_iload_n (n := 660) C 3 dL_law_659 rfl rfl ?_
  refine z_bipush (n := 662) (v := 7) C dL_law_660 rfl rfl ?_
  refine z_iadd (n := 663) C dL_law_662 rfl ?_
  refine z_sld (n := 664) (j := i + 7) C hX hbl hbA (by omega) dL_law_663 rfl (nI_add i 7) (by omega) ?_
  refine z_aload_n (n := 665) C 0 dL_law_664 rfl rfl ?_
  refine z_iload_n (n := 666) C 3 dL_law_665 rfl rfl ?_
  refine z_bipush (n := 668) (v := 8) C dL_law_666 rfl rfl ?_
  refine z_iadd (n := 669) C dL_law_668 rfl ?_
  refine z_sld (n := 670) (j := i + 8) C hX hbl hbA (by omega) dL_law_669 rfl (nI_add i 8) (by omega) ?_
  refine z_vl_8 (n := 673) (d' := 5) C K dL_law_670 rfl yk_X9_mean yv_X9_mean kM_RL_53 (by decide) hR0 rfl rfl sh_0 (by decide) (by decide) ?_
  refine op_mean hI (fun a I1 J1 t1 h2 => ?_)
  refine z_aload_n (n := 674) C 2 dL_law_673 rfl rfl ?_
  refine z_aload_n (n := 675) C 0 dL_law_674 rfl rfl ?_
  refine z_iload_n (n := 676) C 3 dL_law_675 rfl rfl ?_
  refine z_iconst (n := 677) (v := 1) C dL_law_676 rfl rfl ?_
  refine z_iadd (n := 678) C dL_law_677 rfl ?_
  refine z_sld (n := 679) (j := i + 1) C hX hbl hbA (by omega) dL_law_678 rfl (nI_add i 1) (by omega) ?_
  refine z_aload_n (n := 680) C 0 dL_law_679 rfl rfl ?_
  refine z_iload_n (n := 681) C 3 dL_law_680 rfl rfl ?_
  refine z_iconst (n := 682) (v := 2) C dL_law_681 rfl rfl ?_
  refine z_iadd (n := 683) C dL_law_682 rfl ?_
  refine z_sld (n := 684) (j := i + 2) C hX hbl hbA (by omega) dL_law_683 rfl (nI_add i 2) (by omega) ?_
  refine z_aload_n (n := 685) C 0 dL_law_684 rfl rfl ?_
  refine z_iload_n (n := 686) C 3 dL_law_685 rfl rfl ?_
  refine z_iconst (n := 687) (v := 3) C dL_law_686 rfl rfl ?_
  refine z_iadd (n := 688) C dL_law_687 rfl ?_
  refine z_sld (n := 689) (j := i + 3) C hX hbl hbA (by omega) dL_law_688 rfl (nI_add i 3) (by omega) ?_
  refine z_aload_n (n := 690) C 0 dL_law_689 rfl rfl ?_
  refine z_iload_n (n := 691) C 3 dL_law_690 rfl rfl ?_
  refine z_iconst (n := 692) (v := 4) C dL_law_691 rfl rfl ?_
  refine z_iadd (n := 693) C dL_law_692 rfl ?_
  refine z_sld (n := 694) (j := i + 4) C hX hbl hbA (by omega) dL_law_693 rfl (nI_add i 4) (by omega) ?_
  refine z_aload_n (n := 695) C 0 dL_law_694 rfl rfl ?_
  refine z_iload_n (n := 696) C 3 dL_law_695 rfl rfl ?_
  refine z_iconst (n := 697) (v := 5) C dL_law_696 rfl rfl ?_
  refine z_iadd (n := 698) C dL_law_697 rfl ?_
  refine z_sld (n := 699) (j := i + 5) C hX hbl hbA (by omega) dL_law_698 rfl (nI_add i 5) (by omega) ?_
  refine z_aload_n (n := 700) C 0 dL_law_699 rfl rfl ?_
  refine z_iload_n (n := 701) C 3 dL_law_700 rfl rfl ?_
  refine z_bipush (n := 703) (v := 6) C dL_law_701 rfl rfl ?_
  refine z_iadd (n := 704) C dL_law_703 rfl ?_
  refine z_sld (n := 705) (j := i + 6) C hX hbl hbA (by omega) dL_law_704 rfl (nI_add i 6) (by omega) ?_
  refine z_aload_n (n := 706) C 0 dL_law_705 rfl rfl ?_
  refine z_iload_n (n := 707) C 3 dL_law_706 rfl rfl ?_
  refine z_bipush (n := 709) (v := 7) C dL_law_707 rfl rfl ?_
  refine z_iadd (n := 710) C dL_law_709 rfl ?_
  refine z_sld (n := 711) (j := i + 7) C hX hbl hbA (by omega) dL_law_710 rfl (nI_add i 7) (by omega) ?_
  refine z_aload_n (n := 712) C 0 dL_law_711 rfl rfl ?_
  refine z_iload_n (n := 713) C 3 dL_law_712 rfl rfl ?_
  refine z_bipush (n := 715) (v := 8) C dL_law_713 rfl rfl ?_
  refine z_iadd (n := 716) C dL_law_715 rfl ?_
  refine z_sld (n := 717) (j := i + 8) C hX hbl hbA (by omega) dL_law_716 rfl (nI_add i 8) (by omega) ?_
  refine z_vl_8 (n := 720) (d' := 5) C K dL_law_717 rfl yk_X10_mean yv_X10_mean kM_RL_57 (by decide) hR0 rfl rfl sh_85 (by decide) (by decide) ?_
  refine h2 _ (fun I2 J2 hI2 => ?_)
  refine z_lcmp (n := 721) C dL_law_720 rfl ?_
  refine z_ifT_eq (tgt := 1568) C (lg_self _) dL_law_721 rfl ?_
  exact hN hI2
set_option maxHeartbeats 4000000 in
set_option maxRecDepth 100000 in
theorem lc_start {X : KX} {k0 n0 : Nat} (C : Cx X RL cL_law 2000) (K : Kx X) (hnL : xnL X = 4) (hR0 : k0 ≤ (xRm X).cells ∧ n0 ≤ (xRm X).slots) {b N : Nat} {sc : Nat → Int32} (hX : va_X b N sc (xs X) (xs X).heap) (hbl : b < (xs X).heap.size) (hbA : ¬ xA X b) (hN5 : N ≤ 5120) {t i : Nat} {I : KI} {J : KJ} (hI : Inv t I J) (hi : i + 9 < N) (hN : ∀ {t : Nat} {I : KI} {J : KJ}, Inv t I J → Z X k0 n0 (V X I J (rf t)) 1568 [(0, .ref b), (1, .ref (xad X 0)), (2, .ref (xad X 85)), (3, .int (nI i))] []) : Z X k0 n0 (V X I J (rf t)) 726 [(0, .ref b), (1, .ref (xad X 0)), (2, .ref (xad X 85)), (3, .int (nI i))] [] := by
  refine z_aload_n (n := 727) C 1 dL_law_726 rfl rfl ?_
  refine z_aload_n (n := 728) C 0 dL_law_727 rfl rfl ?_
  refine z_iload_n (n := 729) C 3 dL_law_728 rfl rfl ?_
  refine z_iconst (n := 730) (v := 1) C dL_law_729 rfl rfl ?_
  refine z_iadd (n := 731) C dL_law_730 rfl ?_
  refine z_sld (n := 732) (j := i + 1) C hX hbl hbA (by omega) dL_law_731 rfl (nI_add i 1) (by omega) ?_
  refine z_aload_n (n := 733) C 0 dL_law_732 rfl rfl ?_
  refine z_iload_n (n := 734) C 3 dL_law_733 rfl rfl ?_
  refine z_iconst (n := 735) (v := 2) C dL_law_734 rfl rfl ?_
  refine z_iadd (n := 736) C dL_law_735 rfl ?_
  refine z_sld (n := 737) (j := i + 2) C hX hbl hbA (by omega) dL_law_736 rfl (nI_add i 2) (by omega) ?_
  refine z_aload_n (n := 738) C 0 dL_law_737 rfl rfl ?_
  refine z_iload_n (n := 739) C 3 dL_law_738 rfl rfl ?_
  refine z_iconst (n := 740) (v := 3) C dL_law_739 rfl rfl ?_
  refine z_iadd (n := 741) C dL_law_740 rfl ?_
  refine z_sld (n := 742) (j := i + 3) C hX hbl hbA (by omega) dL_law_741 rfl (nI_add i 3) (by omega) ?_
  refine z_aload_n (n := 743) C 0 dL_law_742 rfl rfl ?_
  refine z_iload_n (n := 744) C 3 dL_law_743 rfl rfl ?_
  refine z_iconst (n := 745) (v := 4) C dL_law_744 rfl rfl ?_
  refine z_iadd (n := 746) C dL_law_745 rfl ?_
  refine z_sld (n := 747) (j := i + 4) C hX hbl hbA (by omega) dL_law_746 rfl (nI_add i 4) (by omega) ?_
  refine z_vi_4 (n := 750) (d' := 6) C K dL_law_747 rfl yk_X9_start yv_X9_start kM_RL_58 (by decide) hR0 rfl rfl sh_0 (by decide) (by decide) ?_
  refine op_start hI (fun a I1 J1 t1 h2 => ?_)
  refine z_aload_n (n := 751) C 2 dL_law_750 rfl rfl ?_
  refine z_aload_n (n := 752) C 0 dL_law_751 rfl rfl ?_
  refine z_iload_n (n := 753) C 3 dL_law_752 rfl rfl ?_
  refine z_iconst (n := 754) (v := 1) C dL_law_753 rfl rfl ?_
  refine z_iadd (n := 755) C dL_law_754 rfl ?_
  refine z_sld (n := 756) (j := i + 1) C hX hbl hbA (by omega) dL_law_755 rfl (nI_add i 1) (by omega) ?_
  refine z_aload_n (n := 757) C 0 dL_law_756 rfl rfl ?_
  refine z_iload_n (n := 758) C 3 dL_law_757 rfl rfl ?_
  refine z_iconst (n := 759) (v := 2) C dL_law_758 rfl rfl ?_
  refine z_iadd (n := 760) C dL_law_759 rfl ?_
  refine z_sld (n := 761) (j := i + 2) C hX hbl hbA (by omega) dL_law_760 rfl (nI_add i 2) (by omega) ?_
  refine z_aload_n (n := 762) C 0 dL_law_761 rfl rfl ?_
  refine z_iload_n (n := 763) C 3 dL_law_762 rfl rfl ?_
  refine z_iconst (n := 764) (v := 3) C dL_law_763 rfl rfl ?_
  refine z_iadd (n := 765) C dL_law_764 rfl ?_
  refine z_sld (n := 766) (j := i + 3) C hX hbl hbA (by omega) dL_law_765 rfl (nI_add i 3) (by omega) ?_
  refine z_aload_n (n := 767) C 0 dL_law_766 rfl rfl ?_
  refine z_iload_n (n := 768) C 3 dL_law_767 rfl rfl ?_
  refine z_iconst (n := 769) (v := 4) C dL_law_768 rfl rfl ?_
  refine z_iadd (n := 770) C dL_law_769 rfl ?_
  refine z_sld (n := 771) (j := i + 4) C hX hbl hbA (by omega) dL_law_770 rfl (nI_add i 4) (by omega) ?_
  refine z_vi_4 (n := 774) (d' := 7) C K dL_law_771 rfl yk_X10_start yv_X10_start kM_RL_61 (by decide) hR0 rfl rfl sh_85 (by decide) (by decide) ?_
  refine h2 _ (fun I2 J2 hI2 => ?_)
  refine z_icmpT_eq (tgt := 1568) C rfl dL_law_774 rfl ?_
  exact hN hI2
set_option maxHeartbeats 4000000 in
set_option maxRecDepth 100000 in
theorem lc_gate {X : KX} {k0 n0 : Nat} (C : Cx X RL cL_law 2000) (K : Kx X) (hnL : xnL X = 4) (hR0 : k0 ≤ (xRm X).cells ∧ n0 ≤ (xRm X).slots) {b N : Nat} {sc : Nat → Int32} (hX : va_X b N sc (xs X) (xs X).heap) (hbl : b < (xs X).heap.size) (hbA : ¬ xA X b) (hN5 : N ≤ 5120) {t i : Nat} {I : KI} {J : KJ} (hI : Inv t I J) (hi : i + 9 < N) (hN : ∀ {t : Nat} {I : KI} {J : KJ}, Inv t I J → Z X k0 n0 (V X I J (rf t)) 1568 [(0, .ref b), (1, .ref (xad X 0)), (2, .ref (xad X 85)), (3, .int (nI i))] []) : Z X k0 n0 (V X I J (rf t)) 779 [(0, .ref b), (1, .ref (xad X 0)), (2, .ref (xad X 85)), (3, .int (nI i))] [] := by
  refine z_aload_n (n := 780) C 1 dL_law_779 rfl rfl ?_
  refine z_aload_n (n := 781) C 0 dL_law_780 rfl rfl ?_
  refine z_iload_n (n := 782) C 3 dL_law_781 rfl rfl ?_
  refine z_iconst (n := 783) (v := 1) C dL_law_782 rfl rfl ?_
  refine z_iadd (n := 784) C dL_law_783 rfl ?_
  refine z_sld (n := 785) (j := i + 1) C hX hbl hbA (by omega) dL_law_784 rfl (nI_add i 1) (by omega) ?_
  refine z_aload_n (n := 786) C 0 dL_law_785 rfl rfl ?_
  refine z_iload_n (n := 787) C 3 dL_law_786 rfl rfl ?_
  refine z_iconst (n := 788) (v := 2) C dL_law_787 rfl rfl ?_
  refine z_iadd (n := 789) C dL_law_788 rfl ?_
  refine z_sld (n := 790) (j := i + 2) C hX hbl hbA (by omega) dL_law_789 rfl (nI_add i 2) (by omega) ?_
  refine z_aload_n (n := 791) C 0 dL_law_790 rfl rfl ?_
  refine z_iload_n (n := 792) C 3 dL_law_791 rfl rfl ?_
  refine z_iconst (n := 793) (v := 3) C dL_law_792 rfl rfl ?_
  refine z_iadd (n := 794) C dL_law_793 rfl ?_
  refine z_sld (n := 795) (j := i + 3) C hX hbl hbA (by omega) dL_law_794 rfl (nI_add i 3) (by omega) ?_
  refine z_aload_n (n := 796) C 0 dL_law_795 rfl rfl ?_
  refine z_iload_n (n := 797) C 3 dL_law_796 rfl rfl ?_
  refine z_iconst (n := 798) (v := 4) C dL_law_797 rfl rfl ?_
  refine z_iadd (n := 799) C dL_law_798 rfl ?_
  refine z_sld (n := 800) (j := i + 4) C hX hbl hbA (by omega) dL_law_799 rfl (nI_add i 4) (by omega) ?_
  refine z_aload_n (n := 801) C 0 dL_law_800 rfl rfl ?_
  refine z_iload_n (n := 802) C 3 dL_law_801 rfl rfl ?_
  refine z_iconst (n := 803) (v := 5) C dL_law_802 rfl rfl ?_
  refine z_iadd (n := 804) C dL_law_803 rfl ?_
  refine z_sld (n := 805) (j := i + 5) C hX hbl hbA (by omega) dL_law_804 rfl (nI_add i 5) (by omega) ?_
  refine z_vi_5 (n := 808) (d' := 6) C K dL_law_805 rfl yk_X9_gate yv_X9_gate kM_RL_62 (by decide) hR0 rfl rfl sh_0 (by decide) (by decide) ?_
  refine op_gate hI (fun a I1 J1 t1 h2 => ?_)
  refine z_aload_n (n := 809) C 2 dL_law_808 rfl rfl ?_
  refine z_aload_n (n := 810) C 0 dL_law_809 rfl rfl ?_
  refine z_iload_n (n := 811) C 3 dL_law_810 rfl rfl ?_
  refine z_iconst (n := 812) (v := 1) C dL_law_811 rfl rfl ?_
  refine z_iadd (n := 813) C dL_law_812 rfl ?_
  refine z_sld (n := 814) (j := i + 1) C hX hbl hbA (by omega) dL_law_813 rfl (nI_add i 1) (by omega) ?_
  refine z_aload_n (n := 815) C 0 dL_law_814 rfl rfl ?_
  refine z_iload_n (n := 816) C 3 dL_law_815 rfl rfl ?_
  refine z_iconst (n := 817) (v := 2) C dL_law_816 rfl rfl ?_
  refine z_iadd (n := 818) C dL_law_817 rfl ?_
  refine z_sld (n := 819) (j := i + 2) C hX hbl hbA (by omega) dL_law_818 rfl (nI_add i 2) (by omega) ?_
  refine z_aload_n (n := 820) C 0 dL_law_819 rfl rfl ?_
  refine z_iload_n (n := 821) C 3 dL_law_820 rfl rfl ?_
  refine z_iconst (n := 822) (v := 3) C dL_law_821 rfl rfl ?_
  refine z_iadd (n := 823) C dL_law_822 rfl ?_
  refine z_sld (n := 824) (j := i + 3) C hX hbl hbA (by omega) dL_law_823 rfl (nI_add i 3) (by omega) ?_
  refine z_aload_n (n := 825) C 0 dL_law_824 rfl rfl ?_
  refine z_iload_n (n := 826) C 3 dL_law_825 rfl rfl ?_
  refine z_iconst (n := 827) (v := 4) C dL_law_826 rfl rfl ?_
  refine z_iadd (n := 828) C dL_law_827 rfl ?_
  refine z_sld (n := 829) (j := i + 4) C hX hbl hbA (by omega) dL_law_828 rfl (nI_add i 4) (by omega) ?_
  refine z_aload_n (n := 830) C 0 dL_law_829 rfl rfl ?_
  refine z_iload_n (n := 831) C 3 dL_law_830 rfl rfl ?_
  refine z_iconst (n := 832) (v := 5) C dL_law_831 rfl rfl ?_
  refine z_iadd (n := 833) C dL_law_832 rfl ?_
  refine z_sld (n := 834) (j := i + 5) C hX hbl hbA (by omega) dL_law_833 rfl (nI_add i 5) (by omega) ?_
  refine z_vi_5 (n := 837) (d' := 7) C K dL_law_834 rfl yk_X10_gate yv_X10_gate kM_RL_66 (by decide) hR0 rfl rfl sh_85 (by decide) (by decide) ?_
  refine h2 _ (fun I2 J2 hI2 => ?_)
  refine z_icmpT_eq (tgt := 1568) C rfl dL_law_837 rfl ?_
  exact hN hI2
set_option maxHeartbeats 4000000 in
set_option maxRecDepth 100000 in
theorem lc_holds {X : KX} {k0 n0 : Nat} (C : Cx X RL cL_law 2000) (K : Kx X) (hnL : xnL X = 4) (hR0 : k0 ≤ (xRm X).cells ∧ n0 ≤ (xRm X).slots) {b N : Nat} {sc : Nat → Int32} (hX : va_X b N sc (xs X) (xs X).heap) (hbl : b < (xs X).heap.size) (hbA : ¬ xA X b) (hN5 : N ≤ 5120) {t i : Nat} {I : KI} {J : KJ} (hI : Inv t I J) (hi : i + 9 < N) (hN : ∀ {t : Nat} {I : KI} {J : KJ}, Inv t I J → Z X k0 n0 (V X I J (rf t)) 1568 [(0, .ref b), (1, .ref (xad X 0)), (2, .ref (xad X 85)), (3, .int (nI i))] []) : Z X k0 n0 (V X I J (rf t)) 842 [(0, .ref b), (1, .ref (xad X 0)), (2, .ref (xad X 85)), (3, .int (nI i))] [] := by
  refine z_aload_n (n := 843) C 1 dL_law_842 rfl rfl ?_
  refine z_aload_n (n := 844) C 0 dL_law_843 rfl rfl ?_
  refine z_iload_n (n := 845) C 3 dL_law_844 rfl rfl ?_
  refine z_iconst (n := 846) (v := 1) C dL_law_845 rfl rfl ?_
  refine z_iadd (n := 847) C dL_law_846 rfl ?_
  refine z_sld (n := 848) (j := i + 1) C hX hbl hbA (by omega) dL_law_847 rfl (nI_add i 1) (by omega) ?_
  refine z_vi_1 (n := 851) (d' := 2) C K dL_law_848 rfl yk_X9_holds yv_X9_holds kM_RL_67 (by decide) hR0 rfl rfl sh_0 (by decide) (by decide) ?_
  refine op_holds hI (fun a I1 J1 t1 h2 => ?_)
  refine z_aload_n (n := 852) C 2 dL_law_851 rfl rfl ?_
  refine z_aload_n (n := 853) C 0 dL_law_852 rfl rfl ?_
  refine z_iload_n (n := 854) C 3 dL_law_853 rfl rfl ?_
  refine z_iconst (n := 855) (v := 1) C dL_law_854 rfl rfl ?_
  refine z_iadd (n := 856) C dL_law_855 rfl ?_
  refine z_sld (n := 857) (j := i + 1) C hX hbl hbA (by omega) dL_law_856 rfl (nI_add i 1) (by omega) ?_
  refine z_vi_1 (n := 860) (d' := 2) C K dL_law_857 rfl yk_X10_holds yv_X10_holds kM_RL_71 (by decide) hR0 rfl rfl sh_85 (by decide) (by decide) ?_
  refine h2 _ (fun I2 J2 hI2 => ?_)
  refine z_icmpT_eq (tgt := 1568) C rfl dL_law_860 rfl ?_
  exact hN hI2
set_option maxHeartbeats 4000000 in
set_option maxRecDepth 100000 in
theorem lc_grown {X : KX} {k0 n0 : Nat} (C : Cx X RL cL_law 2000) (K : Kx X) (hnL : xnL X = 4) (hR0 : k0 ≤ (xRm X).cells ∧ n0 ≤ (xRm X).slots) {b N : Nat} {sc : Nat → Int32} (hX : va_X b N sc (xs X) (xs X).heap) (hbl : b < (xs X).heap.size) (hbA : ¬ xA X b) (hN5 : N ≤ 5120) {t i : Nat} {I : KI} {J : KJ} (hI : Inv t I J) (hi : i + 9 < N) (hN : ∀ {t : Nat} {I : KI} {J : KJ}, Inv t I J → Z X k0 n0 (V X I J (rf t)) 1568 [(0, .ref b), (1, .ref (xad X 0)), (2, .ref (xad X 85)), (3, .int (nI i))] []) : Z X k0 n0 (V X I J (rf t)) 865 [(0, .ref b), (1, .ref (xad X 0)), (2, .ref (xad X 85)), (3, .int (nI i))] [] := by
  refine z_aload_n (n := 866) C 1 dL_law_865 rfl rfl ?_
  refine z_aload_n (n := 867) C 0 dL_law_866 rfl rfl ?_
  refine z_iload_n (n := 868) C 3 dL_law_867 rfl rfl ?_
  refine z_iconst (n := 869) (v := 1) C dL_law_868 rfl rfl ?_
  refine z_iadd (n := 870) C dL_law_869 rfl ?_
  refine z_sld (n := 871) (j := i + 1) C hX hbl hbA (by omega) dL_law_870 rfl (nI_add i 1) (by omega) ?_
  refine z_vi_1 (n := 874) (d' := 3) C K dL_law_871 rfl yk_X9_grown yv_X9_grown kM_RL_72 (by decide) hR0 rfl rfl sh_0 (by decide) (by decide) ?_
  refine op_grown hI (fun a I1 J1 t1 h2 => ?_)
  refine z_aload_n (n := 875) C 2 dL_law_874 rfl rfl ?_
  refine z_aload_n (n := 876) C 0 dL_law_875 rfl rfl ?_
  refine z_iload_n (n := 877) C 3 dL_law_876 rfl rfl ?_
  refine z_iconst (n := 878) (v := 1) C dL_law_877 rfl rfl ?_
  refine z_iadd (n := 879) C dL_law_878 rfl ?_
  refine z_sld (n := 880) (j := i + 1) C hX hbl hbA (by omega) dL_law_879 rfl (nI_add i 1) (by omega) ?_
  refine z_vi_1 (n := 883) (d' := 3) C K dL_law_880 rfl yk_X10_grown yv_X10_grown kM_RL_75 (by decide) hR0 rfl rfl sh_85 (by decide) (by decide) ?_
  refine h2 _ (fun I2 J2 hI2 => ?_)
  refine z_icmpT_eq (tgt := 1568) C rfl dL_law_883 rfl ?_
  exact hN hI2
set_option maxHeartbeats 4000000 in
set_option maxRecDepth 100000 in
theorem lc_split {X : KX} {k0 n0 : Nat} (C : Cx X RL cL_law 2000) (K : Kx X) (hnL : xnL X = 4) (hR0 : k0 ≤ (xRm X).cells ∧ n0 ≤ (xRm X).slots) {b N : Nat} {sc : Nat → Int32} (hX : va_X b N sc (xs X) (xs X).heap) (hbl : b < (xs X).heap.size) (hbA : ¬ xA X b) (hN5 : N ≤ 5120) {t i : Nat} {I : KI} {J : KJ} (hI : Inv t I J) (hi : i + 9 < N) (hN : ∀ {t : Nat} {I : KI} {J : KJ}, Inv t I J → Z X k0 n0 (V X I J (rf t)) 1568 [(0, .ref b), (1, .ref (xad X 0)), (2, .ref (xad X 85)), (3, .int (nI i))] []) : Z X k0 n0 (V X I J (rf t)) 888 [(0, .ref b), (1, .ref (xad X 0)), (2, .ref (xad X 85)), (3, .int (nI i))] [] := by
  refine z_aload_n (n := 889) C 1 dL_law_888 rfl rfl ?_
  refine z_aload_n (n := 890) C 0 dL_law_889 rfl rfl ?_
  refine z_iload_n (n := 891) C 3 dL_law_890 rfl rfl ?_
  refine z_iconst (n := 892) (v := 1) C dL_law_891 rfl rfl ?_
  refine z_iadd (n := 893) C dL_law_892 rfl ?_
  refine z_sld (n := 894) (j := i + 1) C hX hbl hbA (by omega) dL_law_893 rfl (nI_add i 1) (by omega) ?_
  refine z_aload_n (n := 895) C 0 dL_law_894 rfl rfl ?_
  refine z_iload_n (n := 896) C 3 dL_law_895 rfl rfl ?_
  refine z_iconst (n := 897) (v := 2) C dL_law_896 rfl rfl ?_
  refine z_iadd (n := 898) C dL_law_897 rfl ?_
  refine z_sld (n := 899) (j := i + 2) C hX hbl hbA (by omega) dL_law_898 rfl (nI_add i 2) (by omega) ?_
  refine z_aload_n (n := 900) C 0 dL_law_899 rfl rfl ?_
  refine z_iload_n (n := 901) C 3 dL_law_900 rfl rfl ?_
  refine z_iconst (n := 902) (v := 3) C dL_law_901 rfl rfl ?_
  refine z_iadd (n := 903) C dL_law_902 rfl ?_
  refine z_sld (n := 904) (j := i + 3) C hX hbl hbA (by omega) dL_law_903 rfl (nI_add i 3) (by omega) ?_
  refine z_aload_n (n := 905) C 0 dL_law_904 rfl rfl ?_
  refine z_iload_n (n := 906) C 3 dL_law_905 rfl rfl ?_
  refine z_iconst (n := 907) (v := 4) C dL_law_906 rfl rfl ?_
  refine z_iadd (n := 908) C dL_law_907 rfl ?_
  refine z_sld (n := 909) (j := i + 4) C hX hbl hbA (by omega) dL_law_908 rfl (nI_add i 4) (by omega) ?_
  refine z_aload_n (n := 910) C 0 dL_law_909 rfl rfl ?_
  refine z_iload_n (n := 911) C 3 dL_law_910 rfl rfl ?_
  refine z_iconst (n := 912) (v := 5) C dL_law_911 rfl rfl ?_
  refine z_iadd (n := 913) C dL_law_912 rfl ?_
  refine z_sld (n := 914) (j := i + 5) C hX hbl hbA (by omega) dL_law_913 rfl (nI_add i 5) (by omega) ?_
  refine z_vi_5 (n := 917) (d' := 7) C K dL_law_914 rfl yk_X9_split yv_X9_split kM_RL_76 (by decide) hR0 rfl rfl sh_0 (by decide) (by decide) ?_
  refine op_split hI (fun a I1 J1 t1 h2 => ?_)
  refine z_aload_n (n := 918) C 2 dL_law_917 rfl rfl ?_
  refine z_aload_n (n := 919) C 0 dL_law_918 rfl rfl ?_
  refine z_iload_n (n := 920) C 3 dL_law_919 rfl rfl ?_
  refine z_iconst (n := 921) (v := 1) C dL_law_920 rfl rfl ?_
  refine z_iadd (n := 922) C dL_law_921 rfl ?_
  refine z_sld (n := 923) (j := i + 1) C hX hbl hbA (by omega) dL_law_922 rfl (nI_add i 1) (by omega) ?_
  refine z_aload_n (n := 924) C 0 dL_law_923 rfl rfl ?_
  refine z_iload_n (n := 925) C 3 dL_law_924 rfl rfl ?_
  refine z_iconst (n := 926) (v := 2) C dL_law_925 rfl rfl ?_
  refine z_iadd (n := 927) C dL_law_926 rfl ?_
  refine z_sld (n := 928) (j := i + 2) C hX hbl hbA (by omega) dL_law_927 rfl (nI_add i 2) (by omega) ?_
  refine z_aload_n (n := 929) C 0 dL_law_928 rfl rfl ?_
  refine z_iload_n (n := 930) C 3 dL_law_929 rfl rfl ?_
  refine z_iconst (n := 931) (v := 3) C dL_law_930 rfl rfl ?_
  refine z_iadd (n := 932) C dL_law_931 rfl ?_
  refine z_sld (n := 933) (j := i + 3) C hX hbl hbA (by omega) dL_law_932 rfl (nI_add i 3) (by omega) ?_
  refine z_aload_n (n := 934) C 0 dL_law_933 rfl rfl ?_
  refine z_iload_n (n := 935) C 3 dL_law_934 rfl rfl ?_
  refine z_iconst (n := 936) (v := 4) C dL_law_935 rfl rfl ?_
  refine z_iadd (n := 937) C dL_law_936 rfl ?_
  refine z_sld (n := 938) (j := i + 4) C hX hbl hbA (by omega) dL_law_937 rfl (nI_add i 4) (by omega) ?_
  refine z_aload_n (n := 939) C 0 dL_law_938 rfl rfl ?_
  refine z_iload_n (n := 940) C 3 dL_law_939 rfl rfl ?_
  refine z_iconst (n := 941) (v := 5) C dL_law_940 rfl rfl ?_
  refine z_iadd (n := 942) C dL_law_941 rfl ?_
  refine z_sld (n := 943) (j := i + 5) C hX hbl hbA (by omega) dL_law_942 rfl (nI_add i 5) (by omega) ?_
  refine z_vi_5 (n := 946) (d' := 8) C K dL_law_943 rfl yk_X10_split yv_X10_split kM_RL_79 (by decide) hR0 rfl rfl sh_85 (by decide) (by decide) ?_
  refine h2 _ (fun I2 J2 hI2 => ?_)
  refine z_icmpT_eq (tgt := 1568) C rfl dL_law_946 rfl ?_
  exact hN hI2
set_option maxHeartbeats 4000000 in
set_option maxRecDepth 100000 in
theorem lc_ways {X : KX} {k0 n0 : Nat} (C : Cx X RL cL_law 2000) (K : Kx X) (hnL : xnL X = 4) (hR0 : k0 ≤ (xRm X).cells ∧ n0 ≤ (xRm X).slots) {b N : Nat} {sc : Nat → Int32} (hX : va_X b N sc (xs X) (xs X).heap) (hbl : b < (xs X).heap.size) (hbA : ¬ xA X b) (hN5 : N ≤ 5120) {t i : Nat} {I : KI} {J : KJ} (hI : Inv t I J) (hi : i + 9 < N) (hN : ∀ {t : Nat} {I : KI} {J : KJ}, Inv t I J → Z X k0 n0 (V X I J (rf t)) 1568 [(0, .ref b), (1, .ref (xad X 0)), (2, .ref (xad X 85)), (3, .int (nI i))] []) : Z X k0 n0 (V X I J (rf t)) 951 [(0, .ref b), (1, .ref (xad X 0)), (2, .ref (xad X 85)), (3, .int (nI i))] [] := by
  refine z_aload_n (n := 952) C 1 dL_law_951 rfl rfl ?_
  refine z_aload_n (n := 953) C 0 dL_law_952 rfl rfl ?_
  refine z_iload_n (n := 954) C 3 dL_law_953 rfl rfl ?_
  refine z_iconst (n := 955) (v := 1) C dL_law_954 rfl rfl ?_
  refine z_iadd (n := 956) C dL_law_955 rfl ?_
  refine z_sld (n := 957) (j := i + 1) C hX hbl hbA (by omega) dL_law_956 rfl (nI_add i 1) (by omega) ?_
  refine z_aload_n (n := 958) C 0 dL_law_957 rfl rfl ?_
  refine z_iload_n (n := 959) C 3 dL_law_958 rfl rfl ?_
  refine z_iconst (n := 960) (v := 2) C dL_law_959 rfl rfl ?_
  refine z_iadd (n := 961) C dL_law_960 rfl ?_
  refine z_sld (n := 962) (j := i + 2) C hX hbl hbA (by omega) dL_law_961 rfl (nI_add i 2) (by omega) ?_
  refine z_vl_2 (n := 965) (d' := 13) C K dL_law_962 rfl yk_X9_ways yv_X9_ways kM_RL_80 (by decide) hR0 rfl rfl sh_0 (by decide) (by decide) ?_
  refine op_ways hI (fun a I1 J1 t1 h2 => ?_)
  refine z_aload_n (n := 966) C 2 dL_law_965 rfl rfl ?_
  refine z_aload_n (n := 967) C 0 dL_law_966 rfl rfl ?_
  refine z_iload_n (n := 968) C 3 dL_law_967 rfl rfl ?_
  refine z_iconst (n := 969) (v := 1) C dL_law_968 rfl rfl ?_
  refine z_iadd (n := 970) C dL_law_969 rfl ?_
  refine z_sld (n := 971) (j := i + 1) C hX hbl hbA (by omega) dL_law_970 rfl (nI_add i 1) (by omega) ?_
  refine z_aload_n (n := 972) C 0 dL_law_971 rfl rfl ?_
  refine z_iload_n (n := 973) C 3 dL_law_972 rfl rfl ?_
  refine z_iconst (n := 974) (v := 2) C dL_law_973 rfl rfl ?_
  refine z_iadd (n := 975) C dL_law_974 rfl ?_
  refine z_sld (n := 976) (j := i + 2) C hX hbl hbA (by omega) dL_law_975 rfl (nI_add i 2) (by omega) ?_
  refine z_vl_2 (n := 979) (d' := 3) C K dL_law_976 rfl yk_X10_ways yv_X10_ways kM_RL_84 (by decide) hR0 rfl rfl sh_85 (by decide) (by decide) ?_
  refine h2 _ (fun I2 J2 hI2 => ?_)
  refine z_lcmp (n := 980) C dL_law_979 rfl ?_
  refine z_ifT_eq (tgt := 1568) C (lg_self _) dL_law_980 rfl ?_
  exact hN hI2
set_option maxHeartbeats 4000000 in
set_option maxRecDepth 100000 in
theorem lc_friendly {X : KX} {k0 n0 : Nat} (C : Cx X RL cL_law 2000) (K : Kx X) (hnL : xnL X = 4) (hR0 : k0 ≤ (xRm X).cells ∧ n0 ≤ (xRm X).slots) {b N : Nat} {sc : Nat → Int32} (hX : va_X b N sc (xs X) (xs X).heap) (hbl : b < (xs X).heap.size) (hbA : ¬ xA X b) (hN5 : N ≤ 5120) {t i : Nat} {I : KI} {J : KJ} (hI : Inv t I J) (hi : i + 9 < N) (hN : ∀ {t : Nat} {I : KI} {J : KJ}, Inv t I J → Z X k0 n0 (V X I J (rf t)) 1568 [(0, .ref b), (1, .ref (xad X 0)), (2, .ref (xad X 85)), (3, .int (nI i))] []) : Z X k0 n0 (V X I J (rf t)) 985 [(0, .ref b), (1, .ref (xad X 0)), (2, .ref (xad X 85)), (3, .int (nI i))] [] := by
  refine z_aload_n (n := 986) C 1 dL_law_985 rfl rfl ?_
  refine z_aload_n (n := 987) C 0 dL_law_986 rfl rfl ?_
  refine z_iload_n (n := 988) C 3 dL_law_987 rfl rfl ?_
  refine z_iconst (n := 989) (v := 1) C dL_law_988 rfl rfl ?_
  refine z_iadd (n := 990) C dL_law_989 rfl ?_
  refine z_sld (n := 991) (j := i + 1) C hX hbl hbA (by omega) dL_law_990 rfl (nI_add i 1) (by omega) ?_
  refine z_aload_n (n := 992) C 0 dL_law_991 rfl rfl ?_
  refine z_iload_n (n := 993) C 3 dL_law_992 rfl rfl ?_
  refine z_iconst (n := 994) (v := 2) C dL_law_993 rfl rfl ?_
  refine z_iadd (n := 995) C dL_law_994 rfl ?_
  refine z_sld (n := 996) (j := i + 2) C hX hbl hbA (by omega) dL_law_995 rfl (nI_add i 2) (by omega) ?_
  refine z_aload_n (n := 997) C 0 dL_law_996 rfl rfl ?_
  refine z_iload_n (n := 998) C 3 dL_law_997 rfl rfl ?_
  refine z_iconst (n := 999) (v := 3) C dL_law_998 rfl rfl ?_
  refine z_iadd (n := 1000) C dL_law_999 rfl ?_
  refine z_sld (n := 1001) (j := i + 3) C hX hbl hbA (by omega) dL_law_1000 rfl (nI_add i 3) (by omega) ?_
  refine z_vi_3 (n := 1004) (d' := 13) C K dL_law_1001 rfl yk_X9_friendly yv_X9_friendly kM_RL_85 (by decide) hR0 rfl rfl sh_0 (by decide) (by decide) ?_
  refine op_friendly hI (fun a I1 J1 t1 h2 => ?_)
  refine z_aload_n (n := 1005) C 2 dL_law_1004 rfl rfl ?_
  refine z_aload_n (n := 1006) C 0 dL_law_1005 rfl rfl ?_
  refine z_iload_n (n := 1007) C 3 dL_law_1006 rfl rfl ?_
  refine z_iconst (n := 1008) (v := 1) C dL_law_1007 rfl rfl ?_
  refine z_iadd (n := 1009) C dL_law_1008 rfl ?_
  refine z_sld (n := 1010) (j := i + 1) C hX hbl hbA (by omega) dL_law_1009 rfl (nI_add i 1) (by omega) ?_
  refine z_aload_n (n := 1011) C 0 dL_law_1010 rfl rfl ?_
  refine z_iload_n (n := 1012) C 3 dL_law_1011 rfl rfl ?_
  refine z_iconst (n := 1013) (v := 2) C dL_law_1012 rfl rfl ?_
  refine z_iadd (n := 1014) C dL_law_1013 rfl ?_
  refine z_sld (n := 1015) (j := i + 2) C hX hbl hbA (by omega) dL_law_1014 rfl (nI_add i 2) (by omega) ?_
  refine z_aload_n (n := 1016) C 0 dL_law_1015 rfl rfl ?_
  refine z_iload_n (n := 1017) C 3 dL_law_1016 rfl rfl ?_
  refine z_iconst (n := 1018) (v := 3) C dL_law_1017 rfl rfl ?_
  refine z_iadd (n := 1019) C dL_law_1018 rfl ?_
  refine z_sld (n := 1020) (j := i + 3) C hX hbl hbA (by omega) dL_law_1019 rfl (nI_add i 3) (by omega) ?_
  refine z_vi_3 (n := 1023) (d' := 3) C K dL_law_1020 rfl yk_X10_friendly yv_X10_friendly kM_RL_88 (by decide) hR0 rfl rfl sh_85 (by decide) (by decide) ?_
  refine h2 _ (fun I2 J2 hI2 => ?_)
  refine z_icmpT_eq (tgt := 1568) C rfl dL_law_1023 rfl ?_
  exact hN hI2
set_option maxHeartbeats 4000000 in
set_option maxRecDepth 100000 in
theorem lc_loss {X : KX} {k0 n0 : Nat} (C : Cx X RL cL_law 2000) (K : Kx X) (hnL : xnL X = 4) (hR0 : k0 ≤ (xRm X).cells ∧ n0 ≤ (xRm X).slots) {b N : Nat} {sc : Nat → Int32} (hX : va_X b N sc (xs X) (xs X).heap) (hbl : b < (xs X).heap.size) (hbA : ¬ xA X b) (hN5 : N ≤ 5120) {t i : Nat} {I : KI} {J : KJ} (hI : Inv t I J) (hi : i + 9 < N) (hN : ∀ {t : Nat} {I : KI} {J : KJ}, Inv t I J → Z X k0 n0 (V X I J (rf t)) 1568 [(0, .ref b), (1, .ref (xad X 0)), (2, .ref (xad X 85)), (3, .int (nI i))] []) : Z X k0 n0 (V X I J (rf t)) 1028 [(0, .ref b), (1, .ref (xad X 0)), (2, .ref (xad X 85)), (3, .int (nI i))] [] := by
  refine z_aload_n (n := 1029) C 1 dL_law_1028 rfl rfl ?_
  refine z_aload_n (n := 1030) C 0 dL_law_1029 rfl rfl ?_
  refine z_iload_n (n := 1031) C 3 dL_law_1030 rfl rfl ?_
  refine z_iconst (n := 1032) (v := 1) C dL_law_1031 rfl rfl ?_
  refine z_iadd (n := 1033) C dL_law_1032 rfl ?_
  refine z_sld (n := 1034) (j := i + 1) C hX hbl hbA (by omega) dL_law_1033 rfl (nI_add i 1) (by omega) ?_
  refine z_aload_n (n := 1035) C 0 dL_law_1034 rfl rfl ?_
  refine z_iload_n (n := 1036) C 3 dL_law_1035 rfl rfl ?_
  refine z_iconst (n := 1037) (v := 2) C dL_law_1036 rfl rfl ?_
  refine z_iadd (n := 1038) C dL_law_1037 rfl ?_
  refine z_sld (n := 1039) (j := i + 2) C hX hbl hbA (by omega) dL_law_1038 rfl (nI_add i 2) (by omega) ?_
  refine z_aload_n (n := 1040) C 0 dL_law_1039 rfl rfl ?_
  refine z_iload_n (n := 1041) C 3 dL_law_1040 rfl rfl ?_
  refine z_iconst (n := 1042) (v := 3) C dL_law_1041 rfl rfl ?_
  refine z_iadd (n := 1043) C dL_law_1042 rfl ?_
  refine z_sld (n := 1044) (j := i + 3) C hX hbl hbA (by omega) dL_law_1043 rfl (nI_add i 3) (by omega) ?_
  refine z_aload_n (n := 1045) C 0 dL_law_1044 rfl rfl ?_
  refine z_iload_n (n := 1046) C 3 dL_law_1045 rfl rfl ?_
  refine z_iconst (n := 1047) (v := 4) C dL_law_1046 rfl rfl ?_
  refine z_iadd (n := 1048) C dL_law_1047 rfl ?_
  refine z_sld (n := 1049) (j := i + 4) C hX hbl hbA (by omega) dL_law_1048 rfl (nI_add i 4) (by omega) ?_
  refine z_aload_n (n := 1050) C 0 dL_law_1049 rfl rfl ?_
  refine z_iload_n (n := 1051) C 3 dL_law_1050 rfl rfl ?_
  refine z_iconst (n := 1052) (v := 5) C dL_law_1051 rfl rfl ?_
  refine z_iadd (n := 1053) C dL_law_1052 rfl ?_
  refine z_sld (n := 1054) (j := i + 5) C hX hbl hbA (by omega) dL_law_1053 rfl (nI_add i 5) (by omega) ?_
  refine z_vl_5 (n := 1057) (d' := 3) C K dL_law_1054 rfl yk_X9_loss yv_X9_loss kM_RL_89 (by decide) hR0 rfl rfl sh_0 (by decide) (by decide) ?_
  refine op_loss hI (fun a I1 J1 t1 h2 => ?_)
  refine z_aload_n (n := 1058) C 2 dL_law_1057 rfl rfl ?_
  refine z_aload_n (n := 1059) C 0 dL_law_1058 rfl rfl ?_
  refine z_iload_n (n := 1060) C 3 dL_law_1059 rfl rfl ?_
  refine z_iconst (n := 1061) (v := 1) C dL_law_1060 rfl rfl ?_
  refine z_iadd (n := 1062) C dL_law_1061 rfl ?_
  refine z_sld (n := 1063) (j := i + 1) C hX hbl hbA (by omega) dL_law_1062 rfl (nI_add i 1) (by omega) ?_
  refine z_aload_n (n := 1064) C 0 dL_law_1063 rfl rfl ?_
  refine z_iload_n (n := 1065) C 3 dL_law_1064 rfl rfl ?_
  refine z_iconst (n := 1066) (v := 2) C dL_law_1065 rfl rfl ?_
  refine z_iadd (n := 1067) C dL_law_1066 rfl ?_
  refine z_sld (n := 1068) (j := i + 2) C hX hbl hbA (by omega) dL_law_1067 rfl (nI_add i 2) (by omega) ?_
  refine z_aload_n (n := 1069) C 0 dL_law_1068 rfl rfl ?_
  refine z_iload_n (n := 1070) C 3 dL_law_1069 rfl rfl ?_
  refine z_iconst (n := 1071) (v := 3) C dL_law_1070 rfl rfl ?_
  refine z_iadd (n := 1072) C dL_law_1071 rfl ?_
  refine z_sld (n := 1073) (j := i + 3) C hX hbl hbA (by omega) dL_law_1072 rfl (nI_add i 3) (by omega) ?_
  refine z_aload_n (n := 1074) C 0 dL_law_1073 rfl rfl ?_
  refine z_iload_n (n := 1075) C 3 dL_law_1074 rfl rfl ?_
  refine z_iconst (n := 1076) (v := 4) C dL_law_1075 rfl rfl ?_
  refine z_iadd (n := 1077) C dL_law_1076 rfl ?_
  refine z_sld (n := 1078) (j := i + 4) C hX hbl hbA (by omega) dL_law_1077 rfl (nI_add i 4) (by omega) ?_
  refine z_aload_n (n := 1079) C 0 dL_law_1078 rfl rfl ?_
  refine z_iload_n (n := 1080) C 3 dL_law_1079 rfl rfl ?_
  refine z_iconst (n := 1081) (v := 5) C dL_law_1080 rfl rfl ?_
  refine z_iadd (n := 1082) C dL_law_1081 rfl ?_
  refine z_sld (n := 1083) (j := i + 5) C hX hbl hbA (by omega) dL_law_1082 rfl (nI_add i 5) (by omega) ?_
  refine z_vl_5 (n := 1086) (d' := 3) C K dL_law_1083 rfl yk_X10_loss yv_X10_loss kM_RL_93 (by decide) hR0 rfl rfl sh_85 (by decide) (by decide) ?_
  refine h2 _ (fun I2 J2 hI2 => ?_)
  refine z_lcmp (n := 1087) C dL_law_1086 rfl ?_
  refine z_ifT_eq (tgt := 1568) C (lg_self _) dL_law_1087 rfl ?_
  exact hN hI2
set_option maxHeartbeats 4000000 in
set_option maxRecDepth 100000 in
theorem lc_patience {X : KX} {k0 n0 : Nat} (C : Cx X RL cL_law 2000) (K : Kx X) (hnL : xnL X = 4) (hR0 : k0 ≤ (xRm X).cells ∧ n0 ≤ (xRm X).slots) {b N : Nat} {sc : Nat → Int32} (hX : va_X b N sc (xs X) (xs X).heap) (hbl : b < (xs X).heap.size) (hbA : ¬ xA X b) (hN5 : N ≤ 5120) {t i : Nat} {I : KI} {J : KJ} (hI : Inv t I J) (hi : i + 9 < N) (hN : ∀ {t : Nat} {I : KI} {J : KJ}, Inv t I J → Z X k0 n0 (V X I J (rf t)) 1568 [(0, .ref b), (1, .ref (xad X 0)), (2, .ref (xad X 85)), (3, .int (nI i))] []) : Z X k0 n0 (V X I J (rf t)) 1092 [(0, .ref b), (1, .ref (xad X 0)), (2, .ref (xad X 85)), (3, .int (nI i))] [] := by
  refine z_aload_n (n := 1093) C 1 dL_law_1092 rfl rfl ?_
  refine z_aload_n (n := 1094) C 0 dL_law_1093 rfl rfl ?_
  refine z_iload_n (n := 1095) C 3 dL_law_1094 rfl rfl ?_
  refine z_iconst (n := 1096) (v := 1) C dL_law_1095 rfl rfl ?_
  refine z_iadd (n := 1097) C dL_law_1096 rfl ?_
  refine z_sld (n := 1098) (j := i + 1) C hX hbl hbA (by omega) dL_law_1097 rfl (nI_add i 1) (by omega) ?_
  refine z_aload_n (n := 1099) C 0 dL_law_1098 rfl rfl ?_
  refine z_iload_n (n := 1100) C 3 dL_law_1099 rfl rfl ?_
  refine z_iconst (n := 1101) (v := 2) C dL_law_1100 rfl rfl ?_
  refine z_iadd (n := 1102) C dL_law_1101 rfl ?_
  refine z_sld (n := 1103) (j := i + 2) C hX hbl hbA (by omega) dL_law_1102 rfl (nI_add i 2) (by omega) ?_
  refine z_aload_n (n := 1104) C 0 dL_law_1103 rfl rfl ?_
  refine z_iload_n (n := 1105) C 3 dL_law_1104 rfl rfl ?_
  refine z_iconst (n := 1106) (v := 3) C dL_law_1105 rfl rfl ?_
  refine z_iadd (n := 1107) C dL_law_1106 rfl ?_
  refine z_sld (n := 1108) (j := i + 3) C hX hbl hbA (by omega) dL_law_1107 rfl (nI_add i 3) (by omega) ?_
  refine z_vi_3 (n := 1111) (d' := 3) C K dL_law_1108 rfl yk_X9_patience yv_X9_patience kM_RL_94 (by decide) hR0 rfl rfl sh_0 (by decide) (by decide) ?_
  refine op_patience hI (fun a I1 J1 t1 h2 => ?_)
  refine z_aload_n (n := 1112) C 2 dL_law_1111 rfl rfl ?_
  refine z_aload_n (n := 1113) C 0 dL_law_1112 rfl rfl ?_
  refine z_iload_n (n := 1114) C 3 dL_law_1113 rfl rfl ?_
  refine z_iconst (n := 1115) (v := 1) C dL_law_1114 rfl rfl ?_
  refine z_iadd (n := 1116) C dL_law_1115 rfl ?_
  refine z_sld (n := 1117) (j := i + 1) C hX hbl hbA (by omega) dL_law_1116 rfl (nI_add i 1) (by omega) ?_
  refine z_aload_n (n := 1118) C 0 dL_law_1117 rfl rfl ?_
  refine z_iload_n (n := 1119) C 3 dL_law_1118 rfl rfl ?_
  refine z_iconst (n := 1120) (v := 2) C dL_law_1119 rfl rfl ?_
  refine z_iadd (n := 1121) C dL_law_1120 rfl ?_
  refine z_sld (n := 1122) (j := i + 2) C hX hbl hbA (by omega) dL_law_1121 rfl (nI_add i 2) (by omega) ?_
  refine z_aload_n (n := 1123) C 0 dL_law_1122 rfl rfl ?_
  refine z_iload_n (n := 1124) C 3 dL_law_1123 rfl rfl ?_
  refine z_iconst (n := 1125) (v := 3) C dL_law_1124 rfl rfl ?_
  refine z_iadd (n := 1126) C dL_law_1125 rfl ?_
  refine z_sld (n := 1127) (j := i + 3) C hX hbl hbA (by omega) dL_law_1126 rfl (nI_add i 3) (by omega) ?_
  refine z_vi_3 (n := 1130) (d' := 3) C K dL_law_1127 rfl yk_X10_patience yv_X10_patience kM_RL_97 (by decide) hR0 rfl rfl sh_85 (by decide) (by decide) ?_
  refine h2 _ (fun I2 J2 hI2 => ?_)
  refine z_icmpT_eq (tgt := 1568) C rfl dL_law_1130 rfl ?_
  exact hN hI2
set_option maxHeartbeats 4000000 in
set_option maxRecDepth 100000 in
theorem lc_helper {X : KX} {k0 n0 : Nat} (C : Cx X RL cL_law 2000) (K : Kx X) (hnL : xnL X = 4) (hR0 : k0 ≤ (xRm X).cells ∧ n0 ≤ (xRm X).slots) {b N : Nat} {sc : Nat → Int32} (hX : va_X b N sc (xs X) (xs X).heap) (hbl : b < (xs X).heap.size) (hbA : ¬ xA X b) (hN5 : N ≤ 5120) {t i : Nat} {I : KI} {J : KJ} (hI : Inv t I J) (hi : i + 9 < N) (hN : ∀ {t : Nat} {I : KI} {J : KJ}, Inv t I J → Z X k0 n0 (V X I J (rf t)) 1568 [(0, .ref b), (1, .ref (xad X 0)), (2, .ref (xad X 85)), (3, .int (nI i))] []) : Z X k0 n0 (V X I J (rf t)) 1135 [(0, .ref b), (1, .ref (xad X 0)), (2, .ref (xad X 85)), (3, .int (nI i))] [] := by
  refine z_aload_n (n := 1136) C 1 dL_law_1135 rfl rfl ?_
  refine z_aload_n (n := 1137) C 0 dL_law_1136 rfl rfl ?_
  refine z_iload_n (n := 1138) C 3 dL_law_1137 rfl rfl ?_
  refine z_iconst (n := 1139) (v := 1) C dL_law_1138 rfl rfl ?_
  refine z_iadd (n := 1140) C dL_law_1139 rfl ?_
  refine z_sld (n := 1141) (j := i + 1) C hX hbl hbA (by omega) dL_law_1140 rfl (nI_add i 1) (by omega) ?_
  refine z_vi_1 (n := 1144) (d' := 2) C K dL_law_1141 rfl yk_X9_helper yv_X9_helper kM_RL_98 (by decide) hR0 rfl rfl sh_0 (by decide) (by decide) ?_
  refine op_helper hI (fun a I1 J1 t1 h2 => ?_)
  refine z_aload_n (n := 1145) C 2 dL_law_1144 rfl rfl ?_
  refine z_aload_n (n := 1146) C 0 dL_law_1145 rfl rfl ?_
  refine z_iload_n (n := 1147) C 3 dL_law_1146 rfl rfl ?_
  refine z_iconst (n := 1148) (v := 1) C dL_law_1147 rfl rfl ?_
  refine z_iadd (n := 1149) C dL_law_1148 rfl ?_
  refine z_sld (n := 1150) (j := i + 1) C hX hbl hbA (by omega) dL_law_1149 rfl (nI_add i 1) (by omega) ?_
  refine z_vi_1 (n := 1153) (d' := 2) C K dL_law_1150 rfl yk_X10_helper yv_X10_helper kM_RL_101 (by decide) hR0 rfl rfl sh_85 (by decide) (by decide) ?_
  refine h2 _ (fun I2 J2 hI2 => ?_)
  refine z_icmpT_eq (tgt := 1568) C rfl dL_law_1153 rfl ?_
  exact hN hI2
set_option maxHeartbeats 4000000 in
set_option maxRecDepth 100000 in
theorem lc_days {X : KX} {k0 n0 : Nat} (C : Cx X RL cL_law 2000) (K : Kx X) (hnL : xnL X = 4) (hR0 : k0 ≤ (xRm X).cells ∧ n0 ≤ (xRm X).slots) {b N : Nat} {sc : Nat → Int32} (hX : va_X b N sc (xs X) (xs X).heap) (hbl : b < (xs X).heap.size) (hbA : ¬ xA X b) (hN5 : N ≤ 5120) {t i : Nat} {I : KI} {J : KJ} (hI : Inv t I J) (hi : i + 9 < N) (hN : ∀ {t : Nat} {I : KI} {J : KJ}, Inv t I J → Z X k0 n0 (V X I J (rf t)) 1568 [(0, .ref b), (1, .ref (xad X 0)), (2, .ref (xad X 85)), (3, .int (nI i))] []) : Z X k0 n0 (V X I J (rf t)) 1158 [(0, .ref b), (1, .ref (xad X 0)), (2, .ref (xad X 85)), (3, .int (nI i))] [] := by
  refine z_aload_n (n := 1159) C 1 dL_law_1158 rfl rfl ?_
  refine z_aload_n (n := 1160) C 0 dL_law_1159 rfl rfl ?_
  refine z_iload_n (n := 1161) C 3 dL_law_1160 rfl rfl ?_
  refine z_iconst (n := 1162) (v := 1) C dL_law_1161 rfl rfl ?_
  refine z_iadd (n := 1163) C dL_law_1162 rfl ?_
  refine z_sld (n := 1164) (j := i + 1) C hX hbl hbA (by omega) dL_law_1163 rfl (nI_add i 1) (by omega) ?_
  refine z_aload_n (n := 1165) C 0 dL_law_1164 rfl rfl ?_
  refine z_iload_n (n := 1166) C 3 dL_law_1165 rfl rfl ?_
  refine z_iconst (n := 1167) (v := 2) C dL_law_1166 rfl rfl ?_
  refine z_iadd (n := 1168) C dL_law_1167 rfl ?_
  refine z_sld (n := 1169) (j := i + 2) C hX hbl hbA (by omega) dL_law_1168 rfl (nI_add i 2) (by omega) ?_
  refine z_vi_2 (n := 1172) (d' := 2) C K dL_law_1169 rfl yk_X9_days yv_X9_days kM_RL_102 (by decide) hR0 rfl rfl sh_0 (by decide) (by decide) ?_
  refine op_days hI (fun a I1 J1 t1 h2 => ?_)
  refine z_aload_n (n := 1173) C 2 dL_law_1172 rfl rfl ?_
  refine z_aload_n (n := 1174) C 0 dL_law_1173 rfl rfl ?_
  refine z_iload_n (n := 1175) C 3 dL_law_1174 rfl rfl ?_
  refine z_iconst (n := 1176) (v := 1) C dL_law_1175 rfl rfl ?_
  refine z_iadd (n := 1177) C dL_law_1176 rfl ?_
  refine z_sld (n := 1178) (j := i + 1) C hX hbl hbA (by omega) dL_law_1177 rfl (nI_add i 1) (by omega) ?_
  refine z_aload_n (n := 1179) C 0 dL_law_1178 rfl rfl ?_
  refine z_iload_n (n := 1180) C 3 dL_law_1179 rfl rfl ?_
  refine z_iconst (n := 1181) (v := 2) C dL_law_1180 rfl rfl ?_
  refine z_iadd (n := 1182) C dL_law_1181 rfl ?_
  refine z_sld (n := 1183) (j := i + 2) C hX hbl hbA (by omega) dL_law_1182 rfl (nI_add i 2) (by omega) ?_
  refine z_vi_2 (n := 1186) (d' := 2) C K dL_law_1183 rfl yk_X10_days yv_X10_days kM_RL_105 (by decide) hR0 rfl rfl sh_85 (by decide) (by decide) ?_
  refine h2 _ (fun I2 J2 hI2 => ?_)
  refine z_icmpT_eq (tgt := 1568) C rfl dL_law_1186 rfl ?_
  exact hN hI2
set_option maxHeartbeats 4000000 in
set_option maxRecDepth 100000 in
theorem lc_week {X : KX} {k0 n0 : Nat} (C : Cx X RL cL_law 2000) (K : Kx X) (hnL : xnL X = 4) (hR0 : k0 ≤ (xRm X).cells ∧ n0 ≤ (xRm X).slots) {b N : Nat} {sc : Nat → Int32} (hX : va_X b N sc (xs X) (xs X).heap) (hbl : b < (xs X).heap.size) (hbA : ¬ xA X b) (hN5 : N ≤ 5120) {t i : Nat} {I : KI} {J : KJ} (hI : Inv t I J) (hi : i + 9 < N) (hN : ∀ {t : Nat} {I : KI} {J : KJ}, Inv t I J → Z X k0 n0 (V X I J (rf t)) 1568 [(0, .ref b), (1, .ref (xad X 0)), (2, .ref (xad X 85)), (3, .int (nI i))] []) : Z X k0 n0 (V X I J (rf t)) 1191 [(0, .ref b), (1, .ref (xad X 0)), (2, .ref (xad X 85)), (3, .int (nI i))] [] := by
  refine z_aload_n (n := 1192) C 1 dL_law_1191 rfl rfl ?_
  refine z_aload_n (n := 1193) C 0 dL_law_1192 rfl rfl ?_
  refine z_iload_n (n := 1194) C 3 dL_law_1193 rfl rfl ?_
  refine z_iconst (n := 1195) (v := 1) C dL_law_1194 rfl rfl ?_
  refine z_iadd (n := 1196) C dL_law_1195 rfl ?_
  refine z_sld (n := 1197) (j := i + 1) C hX hbl hbA (by omega) dL_law_1196 rfl (nI_add i 1) (by omega) ?_
  refine z_aload_n (n := 1198) C 0 dL_law_1197 rfl rfl ?_
  refine z_iload_n (n := 1199) C 3 dL_law_1198 rfl rfl ?_
  refine z_iconst (n := 1200) (v := 2) C dL_law_1199 rfl rfl ?_
  refine z_iadd (n := 1201) C dL_law_1200 rfl ?_
  refine z_sld (n := 1202) (j := i + 2) C hX hbl hbA (by omega) dL_law_1201 rfl (nI_add i 2) (by omega) ?_
  refine z_vi_2 (n := 1205) (d' := 10) C K dL_law_1202 rfl yk_X9_week yv_X9_week kM_RL_106 (by decide) hR0 rfl rfl sh_0 (by decide) (by decide) ?_
  refine op_week hI (fun a I1 J1 t1 h2 => ?_)
  refine z_aload_n (n := 1206) C 2 dL_law_1205 rfl rfl ?_
  refine z_aload_n (n := 1207) C 0 dL_law_1206 rfl rfl ?_
  refine z_iload_n (n := 1208) C 3 dL_law_1207 rfl rfl ?_
  refine z_iconst (n := 1209) (v := 1) C dL_law_1208 rfl rfl ?_
  refine z_iadd (n := 1210) C dL_law_1209 rfl ?_
  refine z_sld (n := 1211) (j := i + 1) C hX hbl hbA (by omega) dL_law_1210 rfl (nI_add i 1) (by omega) ?_
  refine z_aload_n (n := 1212) C 0 dL_law_1211 rfl rfl ?_
  refine z_iload_n (n := 1213) C 3 dL_law_1212 rfl rfl ?_
  refine z_iconst (n := 1214) (v := 2) C dL_law_1213 rfl rfl ?_
  refine z_iadd (n := 1215) C dL_law_1214 rfl ?_
  refine z_sld (n := 1216) (j := i + 2) C hX hbl hbA (by omega) dL_law_1215 rfl (nI_add i 2) (by omega) ?_
  refine z_vi_2 (n := 1219) (d' := 4) C K dL_law_1216 rfl yk_X10_week yv_X10_week kM_RL_109 (by decide) hR0 rfl rfl sh_85 (by decide) (by decide) ?_
  refine h2 _ (fun I2 J2 hI2 => ?_)
  refine z_icmpT_eq (tgt := 1568) C rfl dL_law_1219 rfl ?_
  exact hN hI2
set_option maxHeartbeats 4000000 in
set_option maxRecDepth 100000 in
theorem lc_sheet {X : KX} {k0 n0 : Nat} (C : Cx X RL cL_law 2000) (K : Kx X) (hnL : xnL X = 4) (hR0 : k0 ≤ (xRm X).cells ∧ n0 ≤ (xRm X).slots) {b N : Nat} {sc : Nat → Int32} (hX : va_X b N sc (xs X) (xs X).heap) (hbl : b < (xs X).heap.size) (hbA : ¬ xA X b) (hN5 : N ≤ 5120) {t i : Nat} {I : KI} {J : KJ} (hI : Inv t I J) (hi : i + 9 < N) (hN : ∀ {t : Nat} {I : KI} {J : KJ}, Inv t I J → Z X k0 n0 (V X I J (rf t)) 1568 [(0, .ref b), (1, .ref (xad X 0)), (2, .ref (xad X 85)), (3, .int (nI i))] []) : Z X k0 n0 (V X I J (rf t)) 1224 [(0, .ref b), (1, .ref (xad X 0)), (2, .ref (xad X 85)), (3, .int (nI i))] [] := by
  refine z_aload_n (n := 1225) C 1 dL_law_1224 rfl rfl ?_
  refine z_aload_n (n := 1226) C 0 dL_law_1225 rfl rfl ?_
  refine z_iload_n (n := 1227) C 3 dL_law_1226 rfl rfl ?_
  refine z_iconst (n := 1228) (v := 1) C dL_law_1227 rfl rfl ?_
  refine z_iadd (n := 1229) C dL_law_1228 rfl ?_
  refine z_sld (n := 1230) (j := i + 1) C hX hbl hbA (by omega) dL_law_1229 rfl (nI_add i 1) (by omega) ?_
  refine z_aload_n (n := 1231) C 0 dL_law_1230 rfl rfl ?_
  refine z_iload_n (n := 1232) C 3 dL_law_1231 rfl rfl ?_
  refine z_iconst (n := 1233) (v := 2) C dL_law_1232 rfl rfl ?_
  refine z_iadd (n := 1234) C dL_law_1233 rfl ?_
  refine z_sld (n := 1235) (j := i + 2) C hX hbl hbA (by omega) dL_law_1234 rfl (nI_add i 2) (by omega) ?_
  refine z_aload_n (n := 1236) C 0 dL_law_1235 rfl rfl ?_
  refine z_iload_n (n := 1237) C 3 dL_law_1236 rfl rfl ?_
  refine z_iconst (n := 1238) (v := 3) C dL_law_1237 rfl rfl ?_
  refine z_iadd (n := 1239) C dL_law_1238 rfl ?_
  refine z_sld (n := 1240) (j := i + 3) C hX hbl hbA (by omega) dL_law_1239 rfl (nI_add i 3) (by omega) ?_
  refine z_vi_3 (n := 1243) (d' := 3) C K dL_law_1240 rfl yk_X9_sheet yv_X9_sheet kM_RL_110 (by decide) hR0 rfl rfl sh_0 (by decide) (by decide) ?_
  refine op_sheet hI (fun a I1 J1 t1 h2 => ?_)
  refine z_aload_n (n := 1244) C 2 dL_law_1243 rfl rfl ?_
  refine z_aload_n (n := 1245) C 0 dL_law_1244 rfl rfl ?_
  refine z_iload_n (n := 1246) C 3 dL_law_1245 rfl rfl ?_
  refine z_iconst (n := 1247) (v := 1) C dL_law_1246 rfl rfl ?_
  refine z_iadd (n := 1248) C dL_law_1247 rfl ?_
  refine z_sld (n := 1249) (j := i + 1) C hX hbl hbA (by omega) dL_law_1248 rfl (nI_add i 1) (by omega) ?_
  refine z_aload_n (n := 1250) C 0 dL_law_1249 rfl rfl ?_
  refine z_iload_n (n := 1251) C 3 dL_law_1250 rfl rfl ?_
  refine z_iconst (n := 1252) (v := 2) C dL_law_1251 rfl rfl ?_
  refine z_iadd (n := 1253) C dL_law_1252 rfl ?_
  refine z_sld (n := 1254) (j := i + 2) C hX hbl hbA (by omega) dL_law_1253 rfl (nI_add i 2) (by omega) ?_
  refine z_aload_n (n := 1255) C 0 dL_law_1254 rfl rfl ?_
  refine z_iload_n (n := 1256) C 3 dL_law_1255 rfl rfl ?_
  refine z_iconst (n := 1257) (v := 3) C dL_law_1256 rfl rfl ?_
  refine z_iadd (n := 1258) C dL_law_1257 rfl ?_
  refine z_sld (n := 1259) (j := i + 3) C hX hbl hbA (by omega) dL_law_1258 rfl (nI_add i 3) (by omega) ?_
  refine z_vi_3 (n := 1262) (d' := 3) C K dL_law_1259 rfl yk_X10_sheet yv_X10_sheet kM_RL_113 (by decide) hR0 rfl rfl sh_85 (by decide) (by decide) ?_
  refine h2 _ (fun I2 J2 hI2 => ?_)
  refine z_icmpT_eq (tgt := 1568) C rfl dL_law_1262 rfl ?_
  exact hN hI2
set_option maxHeartbeats 4000000 in
set_option maxRecDepth 100000 in
theorem lc_lose {X : KX} {k0 n0 : Nat} (C : Cx X RL cL_law 2000) (K : Kx X) (hnL : xnL X = 4) (hR0 : k0 ≤ (xRm X).cells ∧ n0 ≤ (xRm X).slots) {b N : Nat} {sc : Nat → Int32} (hX : va_X b N sc (xs X) (xs X).heap) (hbl : b < (xs X).heap.size) (hbA : ¬ xA X b) (hN5 : N ≤ 5120) {t i : Nat} {I : KI} {J : KJ} (hI : Inv t I J) (hi : i + 9 < N) (hN : ∀ {t : Nat} {I : KI} {J : KJ}, Inv t I J → Z X k0 n0 (V X I J (rf t)) 1568 [(0, .ref b), (1, .ref (xad X 0)), (2, .ref (xad X 85)), (3, .int (nI i))] []) : Z X k0 n0 (V X I J (rf t)) 1267 [(0, .ref b), (1, .ref (xad X 0)), (2, .ref (xad X 85)), (3, .int (nI i))] [] := by
  refine z_aload_n (n := 1268) C 1 dL_law_1267 rfl rfl ?_
  refine z_aload_n (n := 1269) C 0 dL_law_1268 rfl rfl ?_
  refine z_iload_n (n := 1270) C 3 dL_law_1269 rfl rfl ?_
  refine z_iconst (n := 1271) (v := 1) C dL_law_1270 rfl rfl ?_
  refine z_iadd (n := 1272) C dL_law_1271 rfl ?_
  refine z_sld (n := 1273) (j := i + 1) C hX hbl hbA (by omega) dL_law_1272 rfl (nI_add i 1) (by omega) ?_
  refine z_vi_1 (n := 1276) (d' := 3) C K dL_law_1273 rfl yk_X9_lose yv_X9_lose kM_RL_114 (by decide) hR0 rfl rfl sh_0 (by decide) (by decide) ?_
  refine op_lose hI (fun a I1 J1 t1 h2 => ?_)
  refine z_aload_n (n := 1277) C 2 dL_law_1276 rfl rfl ?_
  refine z_aload_n (n := 1278) C 0 dL_law_1277 rfl rfl ?_
  refine z_iload_n (n := 1279) C 3 dL_law_1278 rfl rfl ?_
  refine z_iconst (n := 1280) (v := 1) C dL_law_1279 rfl rfl ?_
  refine z_iadd (n := 1281) C dL_law_1280 rfl ?_
  refine z_sld (n := 1282) (j := i + 1) C hX hbl hbA (by omega) dL_law_1281 rfl (nI_add i 1) (by omega) ?_
  refine z_vi_1 (n := 1285) (d' := 3) C K dL_law_1282 rfl yk_X10_lose yv_X10_lose kM_RL_117 (by decide) hR0 rfl rfl sh_85 (by decide) (by decide) ?_
  refine h2 _ (fun I2 J2 hI2 => ?_)
  refine z_icmpT_eq (tgt := 1568) C rfl dL_law_1285 rfl ?_
  exact hN hI2
set_option maxHeartbeats 4000000 in
set_option maxRecDepth 100000 in
theorem lc_put {X : KX} {k0 n0 : Nat} (C : Cx X RL cL_law 2000) (K : Kx X) (hnL : xnL X = 4) (hR0 : k0 ≤ (xRm X).cells ∧ n0 ≤ (xRm X).slots) {b N : Nat} {sc : Nat → Int32} (hX : va_X b N sc (xs X) (xs X).heap) (hbl : b < (xs X).heap.size) (hbA : ¬ xA X b) (hN5 : N ≤ 5120) {t i : Nat} {I : KI} {J : KJ} (hI : Inv t I J) (hi : i + 9 < N) (hN : ∀ {t : Nat} {I : KI} {J : KJ}, Inv t I J → Z X k0 n0 (V X I J (rf t)) 1568 [(0, .ref b), (1, .ref (xad X 0)), (2, .ref (xad X 85)), (3, .int (nI i))] []) : Z X k0 n0 (V X I J (rf t)) 1290 [(0, .ref b), (1, .ref (xad X 0)), (2, .ref (xad X 85)), (3, .int (nI i))] [] := by
  refine z_aload_n (n := 1291) C 1 dL_law_1290 rfl rfl ?_
  refine z_aload_n (n := 1292) C 0 dL_law_1291 rfl rfl ?_
  refine z_iload_n (n := 1293) C 3 dL_law_1292 rfl rfl ?_
  refine z_iconst (n := 1294) (v := 1) C dL_law_1293 rfl rfl ?_
  refine z_iadd (n := 1295) C dL_law_1294 rfl ?_
  refine z_sld (n := 1296) (j := i + 1) C hX hbl hbA (by omega) dL_law_1295 rfl (nI_add i 1) (by omega) ?_
  refine z_aload_n (n := 1297) C 0 dL_law_1296 rfl rfl ?_
  refine z_iload_n (n := 1298) C 3 dL_law_1297 rfl rfl ?_
  refine z_iconst (n := 1299) (v := 2) C dL_law_1298 rfl rfl ?_
  refine z_iadd (n := 1300) C dL_law_1299 rfl ?_
  refine z_sld (n := 1301) (j := i + 2) C hX hbl hbA (by omega) dL_law_1300 rfl (nI_add i 2) (by omega) ?_
  refine z_aload_n (n := 1302) C 0 dL_law_1301 rfl rfl ?_
  refine z_iload_n (n := 1303) C 3 dL_law_1302 rfl rfl ?_
  refine z_iconst (n := 1304) (v := 3) C dL_law_1303 rfl rfl ?_
  refine z_iadd (n := 1305) C dL_law_1304 rfl ?_
  refine z_sld (n := 1306) (j := i + 3) C hX hbl hbA (by omega) dL_law_1305 rfl (nI_add i 3) (by omega) ?_
  refine z_vi_3 (n := 1309) (d' := 3) C K dL_law_1306 rfl yk_X9_put yv_X9_put kM_RL_118 (by decide) hR0 rfl rfl sh_0 (by decide) (by decide) ?_
  refine op_put hI (fun a I1 J1 t1 h2 => ?_)
  refine z_aload_n (n := 1310) C 2 dL_law_1309 rfl rfl ?_
  refine z_aload_n (n := 1311) C 0 dL_law_1310 rfl rfl ?_
  refine z_iload_n (n := 1312) C 3 dL_law_1311 rfl rfl ?_
  refine z_iconst (n := 1313) (v := 1) C dL_law_1312 rfl rfl ?_
  refine z_iadd (n := 1314) C dL_law_1313 rfl ?_
  refine z_sld (n := 1315) (j := i + 1) C hX hbl hbA (by omega) dL_law_1314 rfl (nI_add i 1) (by omega) ?_
  refine z_aload_n (n := 1316) C 0 dL_law_1315 rfl rfl ?_
  refine z_iload_n (n := 1317) C 3 dL_law_1316 rfl rfl ?_
  refine z_iconst (n := 1318) (v := 2) C dL_law_1317 rfl rfl ?_
  refine z_iadd (n := 1319) C dL_law_1318 rfl ?_
  refine z_sld (n := 1320) (j := i + 2) C hX hbl hbA (by omega) dL_law_1319 rfl (nI_add i 2) (by omega) ?_
  refine z_aload_n (n := 1321) C 0 dL_law_1320 rfl rfl ?_
  refine z_iload_n (n := 1322) C 3 dL_law_1321 rfl rfl ?_
  refine z_iconst (n := 1323) (v := 3) C dL_law_1322 rfl rfl ?_
  refine z_iadd (n := 1324) C dL_law_1323 rfl ?_
  refine z_sld (n := 1325) (j := i + 3) C hX hbl hbA (by omega) dL_law_1324 rfl (nI_add i 3) (by omega) ?_
  refine z_vi_3 (n := 1328) (d' := 3) C K dL_law_1325 rfl yk_X10_put yv_X10_put kM_RL_121 (by decide) hR0 rfl rfl sh_85 (by decide) (by decide) ?_
  refine h2 _ (fun I2 J2 hI2 => ?_)
  refine z_icmpT_eq (tgt := 1568) C rfl dL_law_1328 rfl ?_
  exact hN hI2
set_option maxHeartbeats 4000000 in
set_option maxRecDepth 100000 in
theorem lc_cell {X : KX} {k0 n0 : Nat} (C : Cx X RL cL_law 2000) (K : Kx X) (hnL : xnL X = 4) (hR0 : k0 ≤ (xRm X).cells ∧ n0 ≤ (xRm X).slots) {b N : Nat} {sc : Nat → Int32} (hX : va_X b N sc (xs X) (xs X).heap) (hbl : b < (xs X).heap.size) (hbA : ¬ xA X b) (hN5 : N ≤ 5120) {t i : Nat} {I : KI} {J : KJ} (hI : Inv t I J) (hi : i + 9 < N) (hN : ∀ {t : Nat} {I : KI} {J : KJ}, Inv t I J → Z X k0 n0 (V X I J (rf t)) 1568 [(0, .ref b), (1, .ref (xad X 0)), (2, .ref (xad X 85)), (3, .int (nI i))] []) : Z X k0 n0 (V X I J (rf t)) 1333 [(0, .ref b), (1, .ref (xad X 0)), (2, .ref (xad X 85)), (3, .int (nI i))] [] := by
  refine z_aload_n (n := 1334) C 1 dL_law_1333 rfl rfl ?_
  refine z_aload_n (n := 1335) C 0 dL_law_1334 rfl rfl ?_
  refine z_iload_n (n := 1336) C 3 dL_law_1335 rfl rfl ?_
  refine z_iconst (n := 1337) (v := 1) C dL_law_1336 rfl rfl ?_
  refine z_iadd (n := 1338) C dL_law_1337 rfl ?_
  refine z_sld (n := 1339) (j := i + 1) C hX hbl hbA (by omega) dL_law_1338 rfl (nI_add i 1) (by omega) ?_
  refine z_aload_n (n := 1340) C 0 dL_law_1339 rfl rfl ?_
  refine z_iload_n (n := 1341) C 3 dL_law_1340 rfl rfl ?_
  refine z_iconst (n := 1342) (v := 2) C dL_law_1341 rfl rfl ?_
  refine z_iadd (n := 1343) C dL_law_1342 rfl ?_
  refine z_sld (n := 1344) (j := i + 2) C hX hbl hbA (by omega) dL_law_1343 rfl (nI_add i 2) (by omega) ?_
  refine z_aload_n (n := 1345) C 0 dL_law_1344 rfl rfl ?_
  refine z_iload_n (n := 1346) C 3 dL_law_1345 rfl rfl ?_
  refine z_iconst (n := 1347) (v := 3) C dL_law_1346 rfl rfl ?_
  refine z_iadd (n := 1348) C dL_law_1347 rfl ?_
  refine z_sld (n := 1349) (j := i + 3) C hX hbl hbA (by omega) dL_law_1348 rfl (nI_add i 3) (by omega) ?_
  refine z_vl_3 (n := 1352) (d' := 3) C K dL_law_1349 rfl yk_X9_cell yv_X9_cell kM_RL_122 (by decide) hR0 rfl rfl sh_0 (by decide) (by decide) ?_
  refine op_cell hI (fun a I1 J1 t1 h2 => ?_)
  refine z_aload_n (n := 1353) C 2 dL_law_1352 rfl rfl ?_
  refine z_aload_n (n := 1354) C 0 dL_law_1353 rfl rfl ?_
  refine z_iload_n (n := 1355) C 3 dL_law_1354 rfl rfl ?_
  refine z_iconst (n := 1356) (v := 1) C dL_law_1355 rfl rfl ?_
  refine z_iadd (n := 1357) C dL_law_1356 rfl ?_
  refine z_sld (n := 1358) (j := i + 1) C hX hbl hbA (by omega) dL_law_1357 rfl (nI_add i 1) (by omega) ?_
  refine z_aload_n (n := 1359) C 0 dL_law_1358 rfl rfl ?_
  refine z_iload_n (n := 1360) C 3 dL_law_1359 rfl rfl ?_
  refine z_iconst (n := 1361) (v := 2) C dL_law_1360 rfl rfl ?_
  refine z_iadd (n := 1362) C dL_law_1361 rfl ?_
  refine z_sld (n := 1363) (j := i + 2) C hX hbl hbA (by omega) dL_law_1362 rfl (nI_add i 2) (by omega) ?_
  refine z_aload_n (n := 1364) C 0 dL_law_1363 rfl rfl ?_
  refine z_iload_n (n := 1365) C 3 dL_law_1364 rfl rfl ?_
  refine z_iconst (n := 1366) (v := 3) C dL_law_1365 rfl rfl ?_
  refine z_iadd (n := 1367) C dL_law_1366 rfl ?_
  refine z_sld (n := 1368) (j := i + 3) C hX hbl hbA (by omega) dL_law_1367 rfl (nI_add i 3) (by omega) ?_
  refine z_vl_3 (n := 1371) (d' := 3) C K dL_law_1368 rfl yk_X10_cell yv_X10_cell kM_RL_126 (by decide) hR0 rfl rfl sh_85 (by decide) (by decide) ?_
  refine h2 _ (fun I2 J2 hI2 => ?_)
  refine z_lcmp (n := 1372) C dL_law_1371 rfl ?_
  refine z_ifT_eq (tgt := 1568) C (lg_self _) dL_law_1372 rfl ?_
  exact hN hI2
set_option maxHeartbeats 4000000 in
set_option maxRecDepth 100000 in
theorem lc_copy {X : KX} {k0 n0 : Nat} (C : Cx X RL cL_law 2000) (K : Kx X) (hnL : xnL X = 4) (hR0 : k0 ≤ (xRm X).cells ∧ n0 ≤ (xRm X).slots) {b N : Nat} {sc : Nat → Int32} (hX : va_X b N sc (xs X) (xs X).heap) (hbl : b < (xs X).heap.size) (hbA : ¬ xA X b) (hN5 : N ≤ 5120) {t i : Nat} {I : KI} {J : KJ} (hI : Inv t I J) (hi : i + 9 < N) (hN : ∀ {t : Nat} {I : KI} {J : KJ}, Inv t I J → Z X k0 n0 (V X I J (rf t)) 1568 [(0, .ref b), (1, .ref (xad X 0)), (2, .ref (xad X 85)), (3, .int (nI i))] []) : Z X k0 n0 (V X I J (rf t)) 1377 [(0, .ref b), (1, .ref (xad X 0)), (2, .ref (xad X 85)), (3, .int (nI i))] [] := by
  refine z_aload_n (n := 1378) C 1 dL_law_1377 rfl rfl ?_
  refine z_aload_n (n := 1379) C 0 dL_law_1378 rfl rfl ?_
  refine z_iload_n (n := 1380) C 3 dL_law_1379 rfl rfl ?_
  refine z_iconst (n := 1381) (v := 1) C dL_law_1380 rfl rfl ?_
  refine z_iadd (n := 1382) C dL_law_1381 rfl ?_
  refine z_sld (n := 1383) (j := i + 1) C hX hbl hbA (by omega) dL_law_1382 rfl (nI_add i 1) (by omega) ?_
  refine z_aload_n (n := 1384) C 0 dL_law_1383 rfl rfl ?_
  refine z_iload_n (n := 1385) C 3 dL_law_1384 rfl rfl ?_
  refine z_iconst (n := 1386) (v := 2) C dL_law_1385 rfl rfl ?_
  refine z_iadd (n := 1387) C dL_law_1386 rfl ?_
  refine z_sld (n := 1388) (j := i + 2) C hX hbl hbA (by omega) dL_law_1387 rfl (nI_add i 2) (by omega) ?_
  refine z_aload_n (n := 1389) C 0 dL_law_1388 rfl rfl ?_
  refine z_iload_n (n := 1390) C 3 dL_law_1389 rfl rfl ?_
  refine z_iconst (n := 1391) (v := 3) C dL_law_1390 rfl rfl ?_
  refine z_iadd (n := 1392) C dL_law_1391 rfl ?_
  refine z_sld (n := 1393) (j := i + 3) C hX hbl hbA (by omega) dL_law_1392 rfl (nI_add i 3) (by omega) ?_
  refine z_aload_n (n := 1394) C 0 dL_law_1393 rfl rfl ?_
  refine z_iload_n (n := 1395) C 3 dL_law_1394 rfl rfl ?_
  refine z_iconst (n := 1396) (v := 4) C dL_law_1395 rfl rfl ?_
  refine z_iadd (n := 1397) C dL_law_1396 rfl ?_
  refine z_sld (n := 1398) (j := i + 4) C hX hbl hbA (by omega) dL_law_1397 rfl (nI_add i 4) (by omega) ?_
  refine z_aload_n (n := 1399) C 0 dL_law_1398 rfl rfl ?_
  refine z_iload_n (n := 1400) C 3 dL_law_1399 rfl rfl ?_
  refine z_iconst (n := 1401) (v := 5) C dL_law_1400 rfl rfl ?_
  refine z_iadd (n := 1402) C dL_law_1401 rfl ?_
  refine z_sld (n := 1403) (j := i + 5) C hX hbl hbA (by omega) dL_law_1402 rfl (nI_add i 5) (by omega) ?_
  refine z_vi_5 (n := 1406) (d' := 3) C K dL_law_1403 rfl yk_X9_copy yv_X9_copy kM_RL_127 (by decide) hR0 rfl rfl sh_0 (by decide) (by decide) ?_
  refine op_copy hI (fun a I1 J1 t1 h2 => ?_)
  refine z_aload_n (n := 1407) C 2 dL_law_1406 rfl rfl ?_
  refine z_aload_n (n := 1408) C 0 dL_law_1407 rfl rfl ?_
  refine z_iload_n (n := 1409) C 3 dL_law_1408 rfl rfl ?_
  refine z_iconst (n := 1410) (v := 1) C dL_law_1409 rfl rfl ?_
  refine z_iadd (n := 1411) C dL_law_1410 rfl ?_
  refine z_sld (n := 1412) (j := i + 1) C hX hbl hbA (by omega) dL_law_1411 rfl (nI_add i 1) (by omega) ?_
  refine z_aload_n (n := 1413) C 0 dL_law_1412 rfl rfl ?_
  refine z_iload_n (n := 1414) C 3 dL_law_1413 rfl rfl ?_
  refine z_iconst (n := 1415) (v := 2) C dL_law_1414 rfl rfl ?_
  refine z_iadd (n := 1416) C dL_law_1415 rfl ?_
  refine z_sld (n := 1417) (j := i + 2) C hX hbl hbA (by omega) dL_law_1416 rfl (nI_add i 2) (by omega) ?_
  refine z_aload_n (n := 1418) C 0 dL_law_1417 rfl rfl ?_
  refine z_iload_n (n := 1419) C 3 dL_law_1418 rfl rfl ?_
  refine z_iconst (n := 1420) (v := 3) C dL_law_1419 rfl rfl ?_
  refine z_iadd (n := 1421) C dL_law_1420 rfl ?_
  refine z_sld (n := 1422) (j := i + 3) C hX hbl hbA (by omega) dL_law_1421 rfl (nI_add i 3) (by omega) ?_
  refine z_aload_n (n := 1423) C 0 dL_law_1422 rfl rfl ?_
  refine z_iload_n (n := 1424) C 3 dL_law_1423 rfl rfl ?_
  refine z_iconst (n := 1425) (v := 4) C dL_law_1424 rfl rfl ?_
  refine z_iadd (n := 1426) C dL_law_1425 rfl ?_
  refine z_sld (n := 1427) (j := i + 4) C hX hbl hbA (by omega) dL_law_1426 rfl (nI_add i 4) (by omega) ?_
  refine z_aload_n (n := 1428) C 0 dL_law_1427 rfl rfl ?_
  refine z_iload_n (n := 1429) C 3 dL_law_1428 rfl rfl ?_
  refine z_iconst (n := 1430) (v := 5) C dL_law_1429 rfl rfl ?_
  refine z_iadd (n := 1431) C dL_law_1430 rfl ?_
  refine z_sld (n := 1432) (j := i + 5) C hX hbl hbA (by omega) dL_law_1431 rfl (nI_add i 5) (by omega) ?_
  refine z_vi_5 (n := 1435) (d' := 3) C K dL_law_1432 rfl yk_X10_copy yv_X10_copy kM_RL_130 (by decide) hR0 rfl rfl sh_85 (by decide) (by decide) ?_
  refine h2 _ (fun I2 J2 hI2 => ?_)
  refine z_icmpT_eq (tgt := 1568) C rfl dL_law_1435 rfl ?_
  exact hN hI2
set_option maxHeartbeats 4000000 in
set_option maxRecDepth 100000 in
theorem lc_tell {X : KX} {k0 n0 : Nat} (C : Cx X RL cL_law 2000) (K : Kx X) (hnL : xnL X = 4) (hR0 : k0 ≤ (xRm X).cells ∧ n0 ≤ (xRm X).slots) {b N : Nat} {sc : Nat → Int32} (hX : va_X b N sc (xs X) (xs X).heap) (hbl : b < (xs X).heap.size) (hbA : ¬ xA X b) (hN5 : N ≤ 5120) {t i : Nat} {I : KI} {J : KJ} (hI : Inv t I J) (hi : i + 9 < N) (hN : ∀ {t : Nat} {I : KI} {J : KJ}, Inv t I J → Z X k0 n0 (V X I J (rf t)) 1568 [(0, .ref b), (1, .ref (xad X 0)), (2, .ref (xad X 85)), (3, .int (nI i))] []) : Z X k0 n0 (V X I J (rf t)) 1440 [(0, .ref b), (1, .ref (xad X 0)), (2, .ref (xad X 85)), (3, .int (nI i))] [] := by
  refine z_aload_n (n := 1441) C 1 dL_law_1440 rfl rfl ?_
  refine z_aload_n (n := 1442) C 0 dL_law_1441 rfl rfl ?_
  refine z_iload_n (n := 1443) C 3 dL_law_1442 rfl rfl ?_
  refine z_iconst (n := 1444) (v := 1) C dL_law_1443 rfl rfl ?_
  refine z_iadd (n := 1445) C dL_law_1444 rfl ?_
  refine z_sld (n := 1446) (j := i + 1) C hX hbl hbA (by omega) dL_law_1445 rfl (nI_add i 1) (by omega) ?_
  refine z_vi_1 (n := 1449) (d' := 5) C K dL_law_1446 rfl yk_X9_tell yv_X9_tell kM_RL_131 (by decide) hR0 rfl rfl sh_0 (by decide) (by decide) ?_
  refine op_tell hI (fun a I1 J1 t1 h2 => ?_)
  refine z_aload_n (n := 1450) C 2 dL_law_1449 rfl rfl ?_
  refine z_aload_n (n := 1451) C 0 dL_law_1450 rfl rfl ?_
  refine z_iload_n (n := 1452) C 3 dL_law_1451 rfl rfl ?_
  refine z_iconst (n := 1453) (v := 1) C dL_law_1452 rfl rfl ?_
  refine z_iadd (n := 1454) C dL_law_1453 rfl ?_
  refine z_sld (n := 1455) (j := i + 1) C hX hbl hbA (by omega) dL_law_1454 rfl (nI_add i 1) (by omega) ?_
  refine z_vi_1 (n := 1458) (d' := 5) C K dL_law_1455 rfl yk_X10_tell yv_X10_tell kM_RL_134 (by decide) hR0 rfl rfl sh_85 (by decide) (by decide) ?_
  refine h2 _ (fun I2 J2 hI2 => ?_)
  refine z_icmpT_eq (tgt := 1568) C rfl dL_law_1458 rfl ?_
  exact hN hI2
set_option maxHeartbeats 4000000 in
set_option maxRecDepth 100000 in
theorem lc_tag {X : KX} {k0 n0 : Nat} (C : Cx X RL cL_law 2000) (K : Kx X) (hnL : xnL X = 4) (hR0 : k0 ≤ (xRm X).cells ∧ n0 ≤ (xRm X).slots) {b N : Nat} {sc : Nat → Int32} (hX : va_X b N sc (xs X) (xs X).heap) (hbl : b < (xs X).heap.size) (hbA : ¬ xA X b) (hN5 : N ≤ 5120) {t i : Nat} {I : KI} {J : KJ} (hI : Inv t I J) (hi : i + 9 < N) (hN : ∀ {t : Nat} {I : KI} {J : KJ}, Inv t I J → Z X k0 n0 (V X I J (rf t)) 1568 [(0, .ref b), (1, .ref (xad X 0)), (2, .ref (xad X 85)), (3, .int (nI i))] []) : Z X k0 n0 (V X I J (rf t)) 1463 [(0, .ref b), (1, .ref (xad X 0)), (2, .ref (xad X 85)), (3, .int (nI i))] [] := by
  refine z_aload_n (n := 1464) C 1 dL_law_1463 rfl rfl ?_
  refine z_aload_n (n := 1465) C 0 dL_law_1464 rfl rfl ?_
  refine z_iload_n (n := 1466) C 3 dL_law_1465 rfl rfl ?_
  refine z_iconst (n := 1467) (v := 1) C dL_law_1466 rfl rfl ?_
  refine z_iadd (n := 1468) C dL_law_1467 rfl ?_
  refine z_sld (n := 1469) (j := i + 1) C hX hbl hbA (by omega) dL_law_1468 rfl (nI_add i 1) (by omega) ?_
  refine z_vi_1 (n := 1472) (d' := 3) C K dL_law_1469 rfl yk_X9_tag yv_X9_tag kM_RL_135 (by decide) hR0 rfl rfl sh_0 (by decide) (by decide) ?_
  refine op_tag hI (fun a I1 J1 t1 h2 => ?_)
  refine z_aload_n (n := 1473) C 2 dL_law_1472 rfl rfl ?_
  refine z_aload_n (n := 1474) C 0 dL_law_1473 rfl rfl ?_
  refine z_iload_n (n := 1475) C 3 dL_law_1474 rfl rfl ?_
  refine z_iconst (n := 1476) (v := 1) C dL_law_1475 rfl rfl ?_
  refine z_iadd (n := 1477) C dL_law_1476 rfl ?_
  refine z_sld (n := 1478) (j := i + 1) C hX hbl hbA (by omega) dL_law_1477 rfl (nI_add i 1) (by omega) ?_
  refine z_vi_1 (n := 1481) (d' := 3) C K dL_law_1478 rfl yk_X10_tag yv_X10_tag kM_RL_138 (by decide) hR0 rfl rfl sh_85 (by decide) (by decide) ?_
  refine h2 _ (fun I2 J2 hI2 => ?_)
  refine z_icmpT_eq (tgt := 1568) C rfl dL_law_1481 rfl ?_
  exact hN hI2
set_option maxHeartbeats 4000000 in
set_option maxRecDepth 100000 in
theorem lc_as {X : KX} {k0 n0 : Nat} (C : Cx X RL cL_law 2000) (K : Kx X) (hnL : xnL X = 4) (hR0 : k0 ≤ (xRm X).cells ∧ n0 ≤ (xRm X).slots) {b N : Nat} {sc : Nat → Int32} (hX : va_X b N sc (xs X) (xs X).heap) (hbl : b < (xs X).heap.size) (hbA : ¬ xA X b) (hN5 : N ≤ 5120) {t i : Nat} {I : KI} {J : KJ} (hI : Inv t I J) (hi : i + 9 < N) (hN : ∀ {t : Nat} {I : KI} {J : KJ}, Inv t I J → Z X k0 n0 (V X I J (rf t)) 1568 [(0, .ref b), (1, .ref (xad X 0)), (2, .ref (xad X 85)), (3, .int (nI i))] []) : Z X k0 n0 (V X I J (rf t)) 1486 [(0, .ref b), (1, .ref (xad X 0)), (2, .ref (xad X 85)), (3, .int (nI i))] [] := by
  refine z_aload_n (n := 1487) C 1 dL_law_1486 rfl rfl ?_
  refine z_aload_n (n := 1488) C 0 dL_law_1487 rfl rfl ?_
  refine z_iload_n (n := 1489) C 3 dL_law_1488 rfl rfl ?_
  refine z_iconst (n := 1490) (v := 1) C dL_law_1489 rfl rfl ?_
  refine z_iadd (n := 1491) C dL_law_1490 rfl ?_
  refine z_sld (n := 1492) (j := i + 1) C hX hbl hbA (by omega) dL_law_1491 rfl (nI_add i 1) (by omega) ?_
  refine z_aload_n (n := 1493) C 0 dL_law_1492 rfl rfl ?_
  refine z_iload_n (n := 1494) C 3 dL_law_1493 rfl rfl ?_
  refine z_iconst (n := 1495) (v := 2) C dL_law_1494 rfl rfl ?_
  refine z_iadd (n := 1496) C dL_law_1495 rfl ?_
  refine z_sld (n := 1497) (j := i + 2) C hX hbl hbA (by omega) dL_law_1496 rfl (nI_add i 2) (by omega) ?_
  refine z_vi_2 (n := 1500) (d' := 4) C K dL_law_1497 rfl yk_X9_as yv_X9_as kM_RL_139 (by decide) hR0 rfl rfl sh_0 (by decide) (by decide) ?_
  refine op_as hI (fun a I1 J1 t1 h2 => ?_)
  refine z_aload_n (n := 1501) C 2 dL_law_1500 rfl rfl ?_
  refine z_aload_n (n := 1502) C 0 dL_law_1501 rfl rfl ?_
  refine z_iload_n (n := 1503) C 3 dL_law_1502 rfl rfl ?_
  refine z_iconst (n := 1504) (v := 1) C dL_law_1503 rfl rfl ?_
  refine z_iadd (n := 1505) C dL_law_1504 rfl ?_
  refine z_sld (n := 1506) (j := i + 1) C hX hbl hbA (by omega) dL_law_1505 rfl (nI_add i 1) (by omega) ?_
  refine z_aload_n (n := 1507) C 0 dL_law_1506 rfl rfl ?_
  refine z_iload_n (n := 1508) C 3 dL_law_1507 rfl rfl ?_
  refine z_iconst (n := 1509) (v := 2) C dL_law_1508 rfl rfl ?_
  refine z_iadd (n := 1510) C dL_law_1509 rfl ?_
  refine z_sld (n := 1511) (j := i + 2) C hX hbl hbA (by omega) dL_law_1510 rfl (nI_add i 2) (by omega) ?_
  refine z_vi_2 (n := 1514) (d' := 4) C K dL_law_1511 rfl yk_X10_as yv_X10_as kM_RL_142 (by decide) hR0 rfl rfl sh_85 (by decide) (by decide) ?_
  refine h2 _ (fun I2 J2 hI2 => ?_)
  refine z_icmpT_eq (tgt := 1568) C rfl dL_law_1514 rfl ?_
  exact hN hI2
set_option maxHeartbeats 4000000 in
set_option maxRecDepth 100000 in
theorem lc_trace {X : KX} {k0 n0 : Nat} (C : Cx X RL cL_law 2000) (K : Kx X) (hnL : xnL X = 4) (hR0 : k0 ≤ (xRm X).cells ∧ n0 ≤ (xRm X).slots) {b N : Nat} {sc : Nat → Int32} (hX : va_X b N sc (xs X) (xs X).heap) (hbl : b < (xs X).heap.size) (hbA : ¬ xA X b) (hN5 : N ≤ 5120) {t i : Nat} {I : KI} {J : KJ} (hI : Inv t I J) (hi : i + 9 < N) (hN : ∀ {t : Nat} {I : KI} {J : KJ}, Inv t I J → Z X k0 n0 (V X I J (rf t)) 1568 [(0, .ref b), (1, .ref (xad X 0)), (2, .ref (xad X 85)), (3, .int (nI i))] []) : Z X k0 n0 (V X I J (rf t)) 1519 [(0, .ref b), (1, .ref (xad X 0)), (2, .ref (xad X 85)), (3, .int (nI i))] [] := by
  refine z_aload_n (n := 1520) C 1 dL_law_1519 rfl rfl ?_
  refine z_vi_0 (n := 1523) (d' := 1) C K dL_law_1520 rfl yk_X9_trace yv_X9_trace kM_RL_143 (by decide) hR0 rfl rfl sh_0 (by decide) (by decide) ?_
  refine op_trace hI (fun a I1 J1 t1 h2 => ?_)
  refine z_aload_n (n := 1524) C 2 dL_law_1523 rfl rfl ?_
  refine z_vi_0 (n := 1527) (d' := 1) C K dL_law_1524 rfl yk_X10_trace yv_X10_trace kM_RL_147 (by decide) hR0 rfl rfl sh_85 (by decide) (by decide) ?_
  refine h2 _ (fun I2 J2 hI2 => ?_)
  refine z_icmpT_eq (tgt := 1568) C rfl dL_law_1527 rfl ?_
  exact hN hI2
set_option maxHeartbeats 4000000 in
set_option maxRecDepth 100000 in
theorem lc_fault {X : KX} {k0 n0 : Nat} (C : Cx X RL cL_law 2000) (K : Kx X) (hnL : xnL X = 4) (hR0 : k0 ≤ (xRm X).cells ∧ n0 ≤ (xRm X).slots) {b N : Nat} {sc : Nat → Int32} (hX : va_X b N sc (xs X) (xs X).heap) (hbl : b < (xs X).heap.size) (hbA : ¬ xA X b) (hN5 : N ≤ 5120) {t i : Nat} {I : KI} {J : KJ} (hI : Inv t I J) (hi : i + 9 < N) (hN : ∀ {t : Nat} {I : KI} {J : KJ}, Inv t I J → Z X k0 n0 (V X I J (rf t)) 1568 [(0, .ref b), (1, .ref (xad X 0)), (2, .ref (xad X 85)), (3, .int (nI i))] []) : Z X k0 n0 (V X I J (rf t)) 1532 [(0, .ref b), (1, .ref (xad X 0)), (2, .ref (xad X 85)), (3, .int (nI i))] [] := by
  refine z_aload_n (n := 1533) C 1 dL_law_1532 rfl rfl ?_
  refine z_vi_0 (n := 1536) (d' := 1) C K dL_law_1533 rfl yk_X9_fault yv_X9_fault kM_RL_148 (by decide) hR0 rfl rfl sh_0 (by decide) (by decide) ?_
  refine op_fault hI (fun a I1 J1 t1 h2 => ?_)
  refine z_aload_n (n := 1537) C 2 dL_law_1536 rfl rfl ?_
  refine z_vi_0 (n := 1540) (d' := 1) C K dL_law_1537 rfl yk_X10_fault yv_X10_fault kM_RL_151 (by decide) hR0 rfl rfl sh_85 (by decide) (by decide) ?_
  refine h2 _ (fun I2 J2 hI2 => ?_)
  refine z_icmpT_eq (tgt := 1568) C rfl dL_law_1540 rfl ?_
  exact hN hI2
set_option maxHeartbeats 4000000 in
set_option maxRecDepth 100000 in
theorem lc_many {X : KX} {k0 n0 : Nat} (C : Cx X RL cL_law 2000) (K : Kx X) (hnL : xnL X = 4) (hR0 : k0 ≤ (xRm X).cells ∧ n0 ≤ (xRm X).slots) {b N : Nat} {sc : Nat → Int32} (hX : va_X b N sc (xs X) (xs X).heap) (hbl : b < (xs X).heap.size) (hbA : ¬ xA X b) (hN5 : N ≤ 5120) {t i : Nat} {I : KI} {J : KJ} (hI : Inv t I J) (hi : i + 9 < N) (hN : ∀ {t : Nat} {I : KI} {J : KJ}, Inv t I J → Z X k0 n0 (V X I J (rf t)) 1568 [(0, .ref b), (1, .ref (xad X 0)), (2, .ref (xad X 85)), (3, .int (nI i))] []) : Z X k0 n0 (V X I J (rf t)) 1545 [(0, .ref b), (1, .ref (xad X 0)), (2, .ref (xad X 85)), (3, .int (nI i))] [] := by
  refine z_aload_n (n := 1546) C 1 dL_law_1545 rfl rfl ?_
  refine z_aload_n (n := 1547) C 0 dL_law_1546 rfl rfl ?_
  refine z_iload_n (n := 1548) C 3 dL_law_1547 rfl rfl ?_
  refine z_iconst (n := 1549) (v := 1) C dL_law_1548 rfl rfl ?_
  refine z_iadd (n := 1550) C dL_law_1549 rfl ?_
  refine z_sld (n := 1551) (j := i + 1) C hX hbl hbA (by omega) dL_law_1550 rfl (nI_add i 1) (by omega) ?_
  refine z_vi_1 (n := 1554) (d' := 3) C K dL_law_1551 rfl yk_X9_many yv_X9_many kM_RL_152 (by decide) hR0 rfl rfl sh_0 (by decide) (by decide) ?_
  refine op_many hI (fun a I1 J1 t1 h2 => ?_)
  refine z_aload_n (n := 1555) C 2 dL_law_1554 rfl rfl ?_
  refine z_aload_n (n := 1556) C 0 dL_law_1555 rfl rfl ?_
  refine z_iload_n (n := 1557) C 3 dL_law_1556 rfl rfl ?_
  refine z_iconst (n := 1558) (v := 1) C dL_law_1557 rfl rfl ?_
  refine z_iadd (n := 1559) C dL_law_1558 rfl ?_
  refine z_sld (n := 1560) (j := i + 1) C hX hbl hbA (by omega) dL_law_1559 rfl (nI_add i 1) (by omega) ?_
  refine z_vi_1 (n := 1563) (d' := 3) C K dL_law_1560 rfl yk_X10_many yv_X10_many kM_RL_155 (by decide) hR0 rfl rfl sh_85 (by decide) (by decide) ?_
  refine h2 _ (fun I2 J2 hI2 => ?_)
  refine z_icmpT_eq (tgt := 1568) C rfl dL_law_1563 rfl ?_
  exact hN hI2
set_option maxHeartbeats 4000000 in
set_option maxRecDepth 100000 in
theorem lw_loop {X : KX} {k0 n0 : Nat} (C : Cx X RL cL_law 2000) (K : Kx X) (hnL : xnL X = 4) (hR0 : k0 ≤ (xRm X).cells ∧ n0 ≤ (xRm X).slots) {b N : Nat} {sc : Nat → Int32} (hX : va_X b N sc (xs X) (xs X).heap) (hbl : b < (xs X).heap.size) (hbA : ¬ xA X b) (hN5 : N ≤ 5120) (hE : ∀ (t i : Nat) (I : KI) (J : KJ), Inv t I J → Z X k0 n0 (V X I J (rf t)) 1574 [(0, .ref b), (1, .ref (xad X 0)), (2, .ref (xad X 85)), (3, .int (nI i))] []) : ∀ (f t i : Nat) (I : KI) (J : KJ), N + 10 - i < f → i ≤ N + 10 → Inv t I J → Z X k0 n0 (V X I J (rf t)) 18 [(0, .ref b), (1, .ref (xad X 0)), (2, .ref (xad X 85)), (3, .int (nI i))] [] := by
  intro f
  induction f with
  | zero => intro t i I J hf; exact absurd hf (Nat.not_lt_zero _)
  | succ f ih =>
    intro t i I J hf hi hI
    refine z_iload_n (n := 19) C 3 dL_law_18 rfl rfl ?_
    refine z_aload_n (n := 20) C 0 dL_law_19 rfl rfl ?_
    refine z_slen (n := 21) C hX hbl hbA dL_law_20 rfl ?_
    refine z_bipush (n := 23) (v := 10) C dL_law_21 rfl rfl ?_
    refine z_isub (n := 24) C dL_law_23 rfl ?_
    refine z_icmp_gt (tgt := 1574) (n := 27) C dL_law_24 rfl rfl (fun c24 => ?_) (fun c24 => ?_)
    · exact hE t i I J hI
    · rw [fa_lt, sub10 hN5, nI_toInt (by omega)] at c24
      have hi9 : i + 9 < N := by omega
      have hN : ∀ {t : Nat} {I : KI} {J : KJ}, Inv t I J → Z X k0 n0 (V X I J (rf t)) 1568 [(0, .ref b), (1, .ref (xad X 0)), (2, .ref (xad X 85)), (3, .int (nI i))] [] := fun {t I J} hI2 => by
        refine z_iincG (n := 1571) (c := 10) (L' := [(3, _), (0, _), (1, _), (2, _)]) C 3 dL_law_1568 rfl rfl rfl (by rw [hnL]; decide) rfl ?_
        refine z_goto (n := 18) C dL_law_1571 rfl ?_
        refine z_sub (L' := [(0, _), (1, _), (2, _), (3, _)]) [1, 2, 3, 0] rfl ?_
        rw [show nI i + 10 = nI (i + 10) from nI_add i 10]
        exact ih t (i + 10) I J (by omega) (by omega) hI2
      refine z_aload_n (n := 28) C 0 dL_law_27 rfl rfl ?_
      refine z_iload_n (n := 29) C 3 dL_law_28 rfl rfl ?_
      refine z_sld (n := 30) (j := i) C hX hbl hbA (by omega) dL_law_29 rfl rfl (by omega) ?_
      refine z_bipush (n := 32) (v := 63) C dL_law_30 rfl rfl ?_
      refine z_iand (n := 33) C dL_law_32 rfl ?_
      refine z_sw C 0 33 [180, 233, 266, 309, 352, 405, 438, 471, 514, 626, 726, 779, 842, 865, 888, 951, 985, 1028, 1092, 1135, 1158, 1191, 1224, 1267, 1290, 1333, 1377, 1440, 1463, 1486, 1519, 1532, 1545] 1568 dL_law_33 rfl (by decide) (by decide) (fun i hi => ?_) rfl (fun i u hi hu hx => ?_) (fun hx => ?_)
      · match i, hi with
        | 0, _ => exact ⟨_, _, rfl, rfl, rfl⟩
        | 1, _ => exact ⟨_, _, rfl, rfl, rfl⟩
        | 2, _ => exact ⟨_, _, rfl, rfl, rfl⟩
        | 3, _ => exact ⟨_, _, rfl, rfl, rfl⟩
        | 4, _ => exact ⟨_, _, rfl, rfl, rfl⟩
        | 5, _ => exact ⟨_, _, rfl, rfl, rfl⟩
        | 6, _ => exact ⟨_, _, rfl, rfl, rfl⟩
        | 7, _ => exact ⟨_, _, rfl, rfl, rfl⟩
        | 8, _ => exact ⟨_, _, rfl, rfl, rfl⟩
        | 9, _ => exact ⟨_, _, rfl, rfl, rfl⟩
        | 10, _ => exact ⟨_, _, rfl, rfl, rfl⟩
        | 11, _ => exact ⟨_, _, rfl, rfl, rfl⟩
        | 12, _ => exact ⟨_, _, rfl, rfl, rfl⟩
        | 13, _ => exact ⟨_, _, rfl, rfl, rfl⟩
        | 14, _ => exact ⟨_, _, rfl, rfl, rfl⟩
        | 15, _ => exact ⟨_, _, rfl, rfl, rfl⟩
        | 16, _ => exact ⟨_, _, rfl, rfl, rfl⟩
        | 17, _ => exact ⟨_, _, rfl, rfl, rfl⟩
        | 18, _ => exact ⟨_, _, rfl, rfl, rfl⟩
        | 19, _ => exact ⟨_, _, rfl, rfl, rfl⟩
        | 20, _ => exact ⟨_, _, rfl, rfl, rfl⟩
        | 21, _ => exact ⟨_, _, rfl, rfl, rfl⟩
        | 22, _ => exact ⟨_, _, rfl, rfl, rfl⟩
        | 23, _ => exact ⟨_, _, rfl, rfl, rfl⟩
        | 24, _ => exact ⟨_, _, rfl, rfl, rfl⟩
        | 25, _ => exact ⟨_, _, rfl, rfl, rfl⟩
        | 26, _ => exact ⟨_, _, rfl, rfl, rfl⟩
        | 27, _ => exact ⟨_, _, rfl, rfl, rfl⟩
        | 28, _ => exact ⟨_, _, rfl, rfl, rfl⟩
        | 29, _ => exact ⟨_, _, rfl, rfl, rfl⟩
        | 30, _ => exact ⟨_, _, rfl, rfl, rfl⟩
        | 31, _ => exact ⟨_, _, rfl, rfl, rfl⟩
        | 32, _ => exact ⟨_, _, rfl, rfl, rfl⟩
        | z + 33, hi => exact absurd hi (by omega)
      · match i, hi, hu, hx with
        | 0, _, hu, hx => cases hu; exact lc_streets C K hnL hR0 hX hbl hbA hN5 hI hi9 hN
        | 1, _, hu, hx => cases hu; exact lc_ofRoad C K hnL hR0 hX hbl hbA hN5 hI hi9 hN
        | 2, _, hu, hx => cases hu; exact lc_way C K hnL hR0 hX hbl hbA hN5 hI hi9 hN
        | 3, _, hu, hx => cases hu; exact lc_along C K hnL hR0 hX hbl hbA hN5 hI hi9 hN
        | 4, _, hu, hx => cases hu; exact lc_child C K hnL hR0 hX hbl hbA hN5 hI hi9 hN
        | 5, _, hu, hx => cases hu; exact lc_ofChild C K hnL hR0 hX hbl hbA hN5 hI hi9 hN
        | 6, _, hu, hx => cases hu; exact lc_ready C K hnL hR0 hX hbl hbA hN5 hI hi9 hN
        | 7, _, hu, hx => cases hu; exact lc_tie C K hnL hR0 hX hbl hbA hN5 hI hi9 hN
        | 8, _, hu, hx => cases hu; exact lc_late C K hnL hR0 hX hbl hbA hN5 hI hi9 hN
        | 9, _, hu, hx => cases hu; exact lc_mean C K hnL hR0 hX hbl hbA hN5 hI hi9 hN
        | 10, _, hu, hx => cases hu; exact lc_start C K hnL hR0 hX hbl hbA hN5 hI hi9 hN
        | 11, _, hu, hx => cases hu; exact lc_gate C K hnL hR0 hX hbl hbA hN5 hI hi9 hN
        | 12, _, hu, hx => cases hu; exact lc_holds C K hnL hR0 hX hbl hbA hN5 hI hi9 hN
        | 13, _, hu, hx => cases hu; exact lc_grown C K hnL hR0 hX hbl hbA hN5 hI hi9 hN
        | 14, _, hu, hx => cases hu; exact lc_split C K hnL hR0 hX hbl hbA hN5 hI hi9 hN
        | 15, _, hu, hx => cases hu; exact lc_ways C K hnL hR0 hX hbl hbA hN5 hI hi9 hN
        | 16, _, hu, hx => cases hu; exact lc_friendly C K hnL hR0 hX hbl hbA hN5 hI hi9 hN
        | 17, _, hu, hx => cases hu; exact lc_loss C K hnL hR0 hX hbl hbA hN5 hI hi9 hN
        | 18, _, hu, hx => cases hu; exact lc_patience C K hnL hR0 hX hbl hbA hN5 hI hi9 hN
        | 19, _, hu, hx => cases hu; exact lc_helper C K hnL hR0 hX hbl hbA hN5 hI hi9 hN
        | 20, _, hu, hx => cases hu; exact lc_days C K hnL hR0 hX hbl hbA hN5 hI hi9 hN
        | 21, _, hu, hx => cases hu; exact lc_week C K hnL hR0 hX hbl hbA hN5 hI hi9 hN
        | 22, _, hu, hx => cases hu; exact lc_sheet C K hnL hR0 hX hbl hbA hN5 hI hi9 hN
        | 23, _, hu, hx => cases hu; exact lc_lose C K hnL hR0 hX hbl hbA hN5 hI hi9 hN
        | 24, _, hu, hx => cases hu; exact lc_put C K hnL hR0 hX hbl hbA hN5 hI hi9 hN
        | 25, _, hu, hx => cases hu; exact lc_cell C K hnL hR0 hX hbl hbA hN5 hI hi9 hN
        | 26, _, hu, hx => cases hu; exact lc_copy C K hnL hR0 hX hbl hbA hN5 hI hi9 hN
        | 27, _, hu, hx => cases hu; exact lc_tell C K hnL hR0 hX hbl hbA hN5 hI hi9 hN
        | 28, _, hu, hx => cases hu; exact lc_tag C K hnL hR0 hX hbl hbA hN5 hI hi9 hN
        | 29, _, hu, hx => cases hu; exact lc_as C K hnL hR0 hX hbl hbA hN5 hI hi9 hN
        | 30, _, hu, hx => cases hu; exact lc_trace C K hnL hR0 hX hbl hbA hN5 hI hi9 hN
        | 31, _, hu, hx => cases hu; exact lc_fault C K hnL hR0 hX hbl hbA hN5 hI hi9 hN
        | 32, _, hu, hx => cases hu; exact lc_many C K hnL hR0 hX hbl hbA hN5 hI hi9 hN
        | z + 33, hi, _, _ => exact absurd hi (by omega)
      · exact hN hI
