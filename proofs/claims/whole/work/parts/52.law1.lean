/-! THE LAW: one round of its loop for each call -/
theorem Z.mono {X : zS} {M : zM} {d kc ks kc1 ks1 : Nat} {r : Option Value} {hp' : List zC} {pc : Nat} {L : List (Option Value)} {st : List Value} {hp : List zC} (h1 : kc1 ≤ kc) (h2 : ks1 ≤ ks) (k : Z X M d kc1 ks1 r hp' pc L st hp) : Z X M d kc ks r hp' pc L st hp := by
  intro G B p l e R s m args below meth c Q H locs cells slots ls A F h hS g1 g2 g3 g4 hl
  exact k G B p l e R s m args below meth c Q H locs cells slots ls A F h hS g1 g2 (by omega) (by omega) hl
theorem z_slen {X : zS} {M : zM} {d kc ks : Nat} {r : Option Value} {hp' : List zC} {pc : Nat} {L : List (Option Value)} {st : List Value} {hp : List zC} (hdg : decode M.2.1 pc = .ok (.arraylength, 1)) (n : Nat) (en : pc + 1 = n) (k : Z X M d kc ks r hp' n L (.int (nI X.1) :: st) hp) : Z X M d kc ks r hp' pc L (.retAddr 0 :: st) hp := by
  subst en
  intro G B p l e R s m args below meth c Q H locs cells slots ls A F h hS h1 h2 h3 h4 hl
  have hX := A.2.2.2.2.2.2.1
  have hlt := hX.2.2.2.2.2.2.2.2.2
  exact va_slen A.1 A.2.1 hX.2.2.2.2.2.2.2.2.1 (Nat.lt_of_lt_of_le hlt A.2.2.2.2.2.2.2.2) (Nat.not_le.mpr hlt) hS hdg (k G B p l e R s m args below meth c Q H locs cells slots ls A F h hS h1 h2 h3 h4 hl)
theorem z_sld {X : zS} {M : zM} {d kc ks : Nat} {r : Option Value} {hp' : List zC} {pc : Nat} {L : List (Option Value)} {st : List Value} {hp : List zC} {y : Int32} (hdg : decode M.2.1 pc = .ok (.iaload, 1)) (j n : Nat) (en : pc + 1 = n) (hj : y = nI j) (hjL : j < X.1) (hL : X.1 < 2 ^ 31) (k : Z X M d kc ks r hp' n L (.int (X.2 j) :: st) hp) : Z X M d kc ks r hp' pc L (.int y :: .retAddr 0 :: st) hp := by
  subst en
  subst hj
  intro G B p l e R s m args below meth c Q H locs cells slots ls A F h hS h1 h2 h3 h4 hl
  have hX := A.2.2.2.2.2.2.1
  have hlt := hX.2.2.2.2.2.2.2.2.2
  refine va_sld A.1 A.2.1 hX.2.2.2.2.2.2.2.2.1 (Nat.lt_of_lt_of_le hlt A.2.2.2.2.2.2.2.2) (Nat.not_le.mpr hlt) hS (nI_in hjL hL) hdg ?_
  rw [nI_clamp (show j < 2 ^ 31 by omega)]
  exact k G B p l e R s m args below meth c Q H locs cells slots ls A F h hS h1 h2 h3 h4 hl
abbrev lwL (i : Nat) : List (Option Value) := [some (.retAddr 0), some (.ref 0), some (.ref 45), some (.int (nI i))]
/-- the round behind the switch -/
def lwN2 (X : zS) (i kc ks : Nat) : Prop := ∀ hp2, INV hp2 → ∃ hp', Z X m_LLL_law 41 kc ks (some (.int 1)) hp' 1169 (lwL i) [] hp2
set_option maxHeartbeats 400000 in
theorem lw_feed {X : zS} {i kc ks : Nat} (hi : i + 5 ≤ X.1) (hL : X.1 ≤ 320) {hp : List zC} (hI : INV hp) (nx : lwN2 X i kc ks) : ∃ hp', Z X m_LLL_law 41 (kc + 1) (ks + 6) (some (.int 1)) hp' 188 (lwL i) [] hp := by
  obtain ⟨r, hp1, hp2, d1, d2, mc, ms, f1, f2, ⟨hmc, hms, hd1, hd2⟩, hc0, R1, hc1, R2, I2⟩ := st_feed (X.2 (i + 1)) (((X.2 (i + 2)).toInt64 <<< ((32 : Int32).toInt64 &&& 63)) ||| ((X.2 (i + 3)).toInt64 &&& 4294967295)) hp hI
  obtain ⟨hp', hz⟩ := nx hp2 I2
  refine ⟨hp', ?_⟩
  refine z_aload_n d_LLL_law_188 rfl 189 rfl ?_
  refine z_aload_nX d_LLL_law_189 rfl 190 rfl ?_
  refine z_iload_n d_LLL_law_190 rfl 191 rfl ?_
  refine z_iconst d_LLL_law_191 1 (by decide) 192 rfl ?_
  refine z_iadd d_LLL_law_192 193 rfl ?_
  refine z_sld d_LLL_law_193 (i + 1) 194 rfl (nI_add i 1) (by omega) (by omega) ?_
  refine z_aload_nX d_LLL_law_194 rfl 195 rfl ?_
  refine z_iload_n d_LLL_law_195 rfl 196 rfl ?_
  refine z_iconst d_LLL_law_196 2 (by decide) 197 rfl ?_
  refine z_iadd d_LLL_law_197 198 rfl ?_
  refine z_sld d_LLL_law_198 (i + 2) 199 rfl (nI_add i 2) (by omega) (by omega) ?_
  refine z_i2l d_LLL_law_199 200 rfl ?_
  refine z_bipush d_LLL_law_200 32 (by decide) 202 rfl ?_
  refine z_lshl d_LLL_law_202 203 rfl ?_
  refine z_aload_nX d_LLL_law_203 rfl 204 rfl ?_
  refine z_iload_n d_LLL_law_204 rfl 205 rfl ?_
  refine z_iconst d_LLL_law_205 3 (by decide) 206 rfl ?_
  refine z_iadd d_LLL_law_206 207 rfl ?_
  refine z_sld d_LLL_law_207 (i + 3) 208 rfl (nI_add i 3) (by omega) (by omega) ?_
  refine z_i2l d_LLL_law_208 209 rfl ?_
  refine z_ldc2_w d_LLL_law_209 kn_LLL_13 212 rfl ?_
  refine z_land d_LLL_law_212 213 rfl ?_
  refine z_lor d_LLL_law_213 214 rfl ?_
  refine z_invv (kc1 := kc + 1 - mc) (ks1 := ks + 6 - ms) d_LLL_law_214 217 rfl hm_Lir_feed lk_LLL_15 im_Lir_feed sl_Lir_Lir_feed rfl hc0 R1 rfl rfl (by omega) (by omega) (by omega) (Nat.le_of_ble_eq_true rfl) ?_
  refine z_aload_n d_LLL_law_217 rfl 218 rfl ?_
  refine z_aload_nX d_LLL_law_218 rfl 219 rfl ?_
  refine z_iload_n d_LLL_law_219 rfl 220 rfl ?_
  refine z_iconst d_LLL_law_220 1 (by decide) 221 rfl ?_
  refine z_iadd d_LLL_law_221 222 rfl ?_
  refine z_sld d_LLL_law_222 (i + 1) 223 rfl (nI_add i 1) (by omega) (by omega) ?_
  refine z_aload_nX d_LLL_law_223 rfl 224 rfl ?_
  refine z_iload_n d_LLL_law_224 rfl 225 rfl ?_
  refine z_iconst d_LLL_law_225 2 (by decide) 226 rfl ?_
  refine z_iadd d_LLL_law_226 227 rfl ?_
  refine z_sld d_LLL_law_227 (i + 2) 228 rfl (nI_add i 2) (by omega) (by omega) ?_
  refine z_i2l d_LLL_law_228 229 rfl ?_
  refine z_bipush d_LLL_law_229 32 (by decide) 231 rfl ?_
  refine z_lshl d_LLL_law_231 232 rfl ?_
  refine z_aload_nX d_LLL_law_232 rfl 233 rfl ?_
  refine z_iload_n d_LLL_law_233 rfl 234 rfl ?_
  refine z_iconst d_LLL_law_234 3 (by decide) 235 rfl ?_
  refine z_iadd d_LLL_law_235 236 rfl ?_
  refine z_sld d_LLL_law_236 (i + 3) 237 rfl (nI_add i 3) (by omega) (by omega) ?_
  refine z_i2l d_LLL_law_237 238 rfl ?_
  refine z_ldc2_w d_LLL_law_238 kn_LLL_13 241 rfl ?_
  refine z_land d_LLL_law_241 242 rfl ?_
  refine z_lor d_LLL_law_242 243 rfl ?_
  refine z_invv (kc1 := kc + 1 - mc) (ks1 := ks + 6 - ms) d_LLL_law_243 246 rfl hm_Mod_feed lk_LLL_19 im_Mod_feed sl_Mod_Mod_feed rfl hc1 R2 rfl rfl (by omega) rfl rfl (Nat.le_of_ble_eq_true rfl) ?_
  exact z_icmp_eq d_LLL_law_246 1169 249 (by decide) rfl (fun _ => Z.mono (by omega) (by omega) hz) (fun hzz => absurd rfl hzz)
set_option maxHeartbeats 400000 in
theorem lw_telling {X : zS} {i kc ks : Nat} (hi : i + 5 ≤ X.1) (hL : X.1 ≤ 320) {hp : List zC} (hI : INV hp) (nx : lwN2 X i kc ks) : ∃ hp', Z X m_LLL_law 41 (kc + 1) (ks + 6) (some (.int 1)) hp' 251 (lwL i) [] hp := by
  obtain ⟨r, hp1, hp2, d1, d2, mc, ms, f1, f2, ⟨hmc, hms, hd1, hd2⟩, hc0, R1, hc1, R2, I2⟩ := st_telling  hp hI
  obtain ⟨hp', hz⟩ := nx hp2 I2
  refine ⟨hp', ?_⟩
  refine z_aload_n d_LLL_law_251 rfl 252 rfl ?_
  refine z_invv (kc1 := kc + 1 - mc) (ks1 := ks + 6 - ms) d_LLL_law_252 255 rfl hm_Lir_telling lk_LLL_20 im_Lir_telling sl_Lir_Lir_telling rfl hc0 R1 rfl rfl (by omega) (by omega) (by omega) (Nat.le_of_ble_eq_true rfl) ?_
  refine z_aload_n d_LLL_law_255 rfl 256 rfl ?_
  refine z_invv (kc1 := kc + 1 - mc) (ks1 := ks + 6 - ms) d_LLL_law_256 259 rfl hm_Mod_telling lk_LLL_24 im_Mod_telling sl_Mod_Mod_telling rfl hc1 R2 rfl rfl (by omega) rfl rfl (Nat.le_of_ble_eq_true rfl) ?_
  exact z_icmp_eq d_LLL_law_259 1169 262 (by decide) rfl (fun _ => Z.mono (by omega) (by omega) hz) (fun hzz => absurd rfl hzz)
set_option maxHeartbeats 400000 in
theorem lw_tellingOf {X : zS} {i kc ks : Nat} (hi : i + 5 ≤ X.1) (hL : X.1 ≤ 320) {hp : List zC} (hI : INV hp) (nx : lwN2 X i kc ks) : ∃ hp', Z X m_LLL_law 41 (kc + 1) (ks + 6) (some (.int 1)) hp' 264 (lwL i) [] hp := by
  obtain ⟨r, hp1, hp2, d1, d2, mc, ms, f1, f2, ⟨hmc, hms, hd1, hd2⟩, hc0, R1, hc1, R2, I2⟩ := st_tellingOf (X.2 (i + 1)) (X.2 (i + 2)) hp hI
  obtain ⟨hp', hz⟩ := nx hp2 I2
  refine ⟨hp', ?_⟩
  refine z_aload_n d_LLL_law_264 rfl 265 rfl ?_
  refine z_aload_nX d_LLL_law_265 rfl 266 rfl ?_
  refine z_iload_n d_LLL_law_266 rfl 267 rfl ?_
  refine z_iconst d_LLL_law_267 1 (by decide) 268 rfl ?_
  refine z_iadd d_LLL_law_268 269 rfl ?_
  refine z_sld d_LLL_law_269 (i + 1) 270 rfl (nI_add i 1) (by omega) (by omega) ?_
  refine z_aload_nX d_LLL_law_270 rfl 271 rfl ?_
  refine z_iload_n d_LLL_law_271 rfl 272 rfl ?_
  refine z_iconst d_LLL_law_272 2 (by decide) 273 rfl ?_
  refine z_iadd d_LLL_law_273 274 rfl ?_
  refine z_sld d_LLL_law_274 (i + 2) 275 rfl (nI_add i 2) (by omega) (by omega) ?_
  refine z_invv (kc1 := kc + 1 - mc) (ks1 := ks + 6 - ms) d_LLL_law_275 278 rfl hm_Lir_tellingOf lk_LLL_25 im_Lir_tellingOf sl_Lir_Lir_tellingOf rfl hc0 R1 rfl rfl (by omega) (by omega) (by omega) (Nat.le_of_ble_eq_true rfl) ?_
  refine z_aload_n d_LLL_law_278 rfl 279 rfl ?_
  refine z_aload_nX d_LLL_law_279 rfl 280 rfl ?_
  refine z_iload_n d_LLL_law_280 rfl 281 rfl ?_
  refine z_iconst d_LLL_law_281 1 (by decide) 282 rfl ?_
  refine z_iadd d_LLL_law_282 283 rfl ?_
  refine z_sld d_LLL_law_283 (i + 1) 284 rfl (nI_add i 1) (by omega) (by omega) ?_
  refine z_aload_nX d_LLL_law_284 rfl 285 rfl ?_
  refine z_iload_n d_LLL_law_285 rfl 286 rfl ?_
  refine z_iconst d_LLL_law_286 2 (by decide) 287 rfl ?_
  refine z_iadd d_LLL_law_287 288 rfl ?_
  refine z_sld d_LLL_law_288 (i + 2) 289 rfl (nI_add i 2) (by omega) (by omega) ?_
  refine z_invv (kc1 := kc + 1 - mc) (ks1 := ks + 6 - ms) d_LLL_law_289 292 rfl hm_Mod_tellingOf lk_LLL_29 im_Mod_tellingOf sl_Mod_Mod_tellingOf rfl hc1 R2 rfl rfl (by omega) rfl rfl (Nat.le_of_ble_eq_true rfl) ?_
  exact z_icmp_eq d_LLL_law_292 1169 295 (by decide) rfl (fun _ => Z.mono (by omega) (by omega) hz) (fun hzz => absurd rfl hzz)
set_option maxHeartbeats 400000 in
theorem lw_kind {X : zS} {i kc ks : Nat} (hi : i + 5 ≤ X.1) (hL : X.1 ≤ 320) {hp : List zC} (hI : INV hp) (nx : lwN2 X i kc ks) : ∃ hp', Z X m_LLL_law 41 (kc + 1) (ks + 6) (some (.int 1)) hp' 297 (lwL i) [] hp := by
  obtain ⟨r, hp1, hp2, d1, d2, mc, ms, f1, f2, ⟨hmc, hms, hd1, hd2⟩, hc0, R1, hc1, R2, I2⟩ := st_kind (X.2 (i + 1)) hp hI
  obtain ⟨hp', hz⟩ := nx hp2 I2
  refine ⟨hp', ?_⟩
  refine z_aload_n d_LLL_law_297 rfl 298 rfl ?_
  refine z_aload_nX d_LLL_law_298 rfl 299 rfl ?_
  refine z_iload_n d_LLL_law_299 rfl 300 rfl ?_
  refine z_iconst d_LLL_law_300 1 (by decide) 301 rfl ?_
  refine z_iadd d_LLL_law_301 302 rfl ?_
  refine z_sld d_LLL_law_302 (i + 1) 303 rfl (nI_add i 1) (by omega) (by omega) ?_
  refine z_invv (kc1 := kc + 1 - mc) (ks1 := ks + 6 - ms) d_LLL_law_303 306 rfl hm_Lir_kind lk_LLL_30 im_Lir_kind sl_Lir_Lir_kind rfl hc0 R1 rfl rfl (by omega) (by omega) (by omega) (Nat.le_of_ble_eq_true rfl) ?_
  refine z_aload_n d_LLL_law_306 rfl 307 rfl ?_
  refine z_aload_nX d_LLL_law_307 rfl 308 rfl ?_
  refine z_iload_n d_LLL_law_308 rfl 309 rfl ?_
  refine z_iconst d_LLL_law_309 1 (by decide) 310 rfl ?_
  refine z_iadd d_LLL_law_310 311 rfl ?_
  refine z_sld d_LLL_law_311 (i + 1) 312 rfl (nI_add i 1) (by omega) (by omega) ?_
  refine z_invv (kc1 := kc + 1 - mc) (ks1 := ks + 6 - ms) d_LLL_law_312 315 rfl hm_Mod_kind lk_LLL_34 im_Mod_kind sl_Mod_Mod_kind rfl hc1 R2 rfl rfl (by omega) rfl rfl (Nat.le_of_ble_eq_true rfl) ?_
  exact z_icmp_eq d_LLL_law_315 1169 318 (by decide) rfl (fun _ => Z.mono (by omega) (by omega) hz) (fun hzz => absurd rfl hzz)
set_option maxHeartbeats 400000 in
theorem lw_weight {X : zS} {i kc ks : Nat} (hi : i + 5 ≤ X.1) (hL : X.1 ≤ 320) {hp : List zC} (hI : INV hp) (nx : lwN2 X i kc ks) : ∃ hp', Z X m_LLL_law 41 (kc + 1) (ks + 6) (some (.int 1)) hp' 320 (lwL i) [] hp := by
  obtain ⟨r, hp1, hp2, d1, d2, mc, ms, f1, f2, ⟨hmc, hms, hd1, hd2⟩, hc0, R1, hc1, R2, I2⟩ := st_weight (X.2 (i + 1)) hp hI
  obtain ⟨hp', hz⟩ := nx hp2 I2
  refine ⟨hp', ?_⟩
  refine z_aload_n d_LLL_law_320 rfl 321 rfl ?_
  refine z_aload_nX d_LLL_law_321 rfl 322 rfl ?_
  refine z_iload_n d_LLL_law_322 rfl 323 rfl ?_
  refine z_iconst d_LLL_law_323 1 (by decide) 324 rfl ?_
  refine z_iadd d_LLL_law_324 325 rfl ?_
  refine z_sld d_LLL_law_325 (i + 1) 326 rfl (nI_add i 1) (by omega) (by omega) ?_
  refine z_invv (kc1 := kc + 1 - mc) (ks1 := ks + 6 - ms) d_LLL_law_326 329 rfl hm_Lir_weight lk_LLL_35 im_Lir_weight sl_Lir_Lir_weight rfl hc0 R1 rfl rfl (by omega) (by omega) (by omega) (Nat.le_of_ble_eq_true rfl) ?_
  refine z_aload_n d_LLL_law_329 rfl 330 rfl ?_
  refine z_aload_nX d_LLL_law_330 rfl 331 rfl ?_
  refine z_iload_n d_LLL_law_331 rfl 332 rfl ?_
  refine z_iconst d_LLL_law_332 1 (by decide) 333 rfl ?_
  refine z_iadd d_LLL_law_333 334 rfl ?_
  refine z_sld d_LLL_law_334 (i + 1) 335 rfl (nI_add i 1) (by omega) (by omega) ?_
  refine z_invv (kc1 := kc + 1 - mc) (ks1 := ks + 6 - ms) d_LLL_law_335 338 rfl hm_Mod_weight lk_LLL_38 im_Mod_weight sl_Mod_Mod_weight rfl hc1 R2 rfl rfl (by omega) rfl rfl (Nat.le_of_ble_eq_true rfl) ?_
  exact z_icmp_eq d_LLL_law_338 1169 341 (by decide) rfl (fun _ => Z.mono (by omega) (by omega) hz) (fun hzz => absurd rfl hzz)
set_option maxHeartbeats 400000 in
theorem lw_law {X : zS} {i kc ks : Nat} (hi : i + 5 ≤ X.1) (hL : X.1 ≤ 320) {hp : List zC} (hI : INV hp) (nx : lwN2 X i kc ks) : ∃ hp', Z X m_LLL_law 41 (kc + 1) (ks + 6) (some (.int 1)) hp' 343 (lwL i) [] hp := by
  obtain ⟨r, hp1, hp2, d1, d2, mc, ms, f1, f2, ⟨hmc, hms, hd1, hd2⟩, hc0, R1, hc1, R2, I2⟩ := st_law (X.2 (i + 1)) (X.2 (i + 2)) (X.2 (i + 3)) hp hI
  obtain ⟨hp', hz⟩ := nx hp2 I2
  refine ⟨hp', ?_⟩
  refine z_aload_n d_LLL_law_343 rfl 344 rfl ?_
  refine z_aload_nX d_LLL_law_344 rfl 345 rfl ?_
  refine z_iload_n d_LLL_law_345 rfl 346 rfl ?_
  refine z_iconst d_LLL_law_346 1 (by decide) 347 rfl ?_
  refine z_iadd d_LLL_law_347 348 rfl ?_
  refine z_sld d_LLL_law_348 (i + 1) 349 rfl (nI_add i 1) (by omega) (by omega) ?_
  refine z_aload_nX d_LLL_law_349 rfl 350 rfl ?_
  refine z_iload_n d_LLL_law_350 rfl 351 rfl ?_
  refine z_iconst d_LLL_law_351 2 (by decide) 352 rfl ?_
  refine z_iadd d_LLL_law_352 353 rfl ?_
  refine z_sld d_LLL_law_353 (i + 2) 354 rfl (nI_add i 2) (by omega) (by omega) ?_
  refine z_aload_nX d_LLL_law_354 rfl 355 rfl ?_
  refine z_iload_n d_LLL_law_355 rfl 356 rfl ?_
  refine z_iconst d_LLL_law_356 3 (by decide) 357 rfl ?_
  refine z_iadd d_LLL_law_357 358 rfl ?_
  refine z_sld d_LLL_law_358 (i + 3) 359 rfl (nI_add i 3) (by omega) (by omega) ?_
  refine z_invv (kc1 := kc + 1 - mc) (ks1 := ks + 6 - ms) d_LLL_law_359 362 rfl hm_Lir_law lk_LLL_39 im_Lir_law sl_Lir_Lir_law rfl hc0 R1 rfl rfl (by omega) (by omega) (by omega) (Nat.le_of_ble_eq_true rfl) ?_
  refine z_aload_n d_LLL_law_362 rfl 363 rfl ?_
  refine z_aload_nX d_LLL_law_363 rfl 364 rfl ?_
  refine z_iload_n d_LLL_law_364 rfl 365 rfl ?_
  refine z_iconst d_LLL_law_365 1 (by decide) 366 rfl ?_
  refine z_iadd d_LLL_law_366 367 rfl ?_
  refine z_sld d_LLL_law_367 (i + 1) 368 rfl (nI_add i 1) (by omega) (by omega) ?_
  refine z_aload_nX d_LLL_law_368 rfl 369 rfl ?_
  refine z_iload_n d_LLL_law_369 rfl 370 rfl ?_
  refine z_iconst d_LLL_law_370 2 (by decide) 371 rfl ?_
  refine z_iadd d_LLL_law_371 372 rfl ?_
  refine z_sld d_LLL_law_372 (i + 2) 373 rfl (nI_add i 2) (by omega) (by omega) ?_
  refine z_aload_nX d_LLL_law_373 rfl 374 rfl ?_
  refine z_iload_n d_LLL_law_374 rfl 375 rfl ?_
  refine z_iconst d_LLL_law_375 3 (by decide) 376 rfl ?_
  refine z_iadd d_LLL_law_376 377 rfl ?_
  refine z_sld d_LLL_law_377 (i + 3) 378 rfl (nI_add i 3) (by omega) (by omega) ?_
  refine z_invv (kc1 := kc + 1 - mc) (ks1 := ks + 6 - ms) d_LLL_law_378 381 rfl hm_Mod_law lk_LLL_43 im_Mod_law sl_Mod_Mod_law rfl hc1 R2 rfl rfl (by omega) rfl rfl (Nat.le_of_ble_eq_true rfl) ?_
  exact z_icmp_eq d_LLL_law_381 1169 384 (by decide) rfl (fun _ => Z.mono (by omega) (by omega) hz) (fun hzz => absurd rfl hzz)
set_option maxHeartbeats 400000 in
theorem lw_right {X : zS} {i kc ks : Nat} (hi : i + 5 ≤ X.1) (hL : X.1 ≤ 320) {hp : List zC} (hI : INV hp) (nx : lwN2 X i kc ks) : ∃ hp', Z X m_LLL_law 41 (kc + 1) (ks + 6) (some (.int 1)) hp' 386 (lwL i) [] hp := by
  by_cases hv : X.2 (i + 1) = 0
  · obtain ⟨r, hp1, hp2, d1, d2, mc, ms, f1, f2, ⟨hmc, hms, hd1, hd2⟩, hc0, R1, hc1, R2, I2⟩ := st_right 0 (Or.inl rfl) hp hI
    obtain ⟨hp', hz⟩ := nx hp2 I2
    refine ⟨hp', ?_⟩
    refine z_aload_n d_LLL_law_386 rfl 387 rfl ?_
    refine z_aload_nX d_LLL_law_387 rfl 388 rfl ?_
    refine z_iload_n d_LLL_law_388 rfl 389 rfl ?_
    refine z_iconst d_LLL_law_389 1 (by decide) 390 rfl ?_
    refine z_iadd d_LLL_law_390 391 rfl ?_
    refine z_sld d_LLL_law_391 (i + 1) 392 rfl (nI_add i 1) (by omega) (by omega) ?_
    refine z_if_eq d_LLL_law_392 399 395 (by decide) rfl (fun _ => ?_) (fun hzz => absurd hv hzz)
    refine z_iconst d_LLL_law_399 0 (by decide) 400 rfl ?_
    refine z_invv (kc1 := kc + 1 - mc) (ks1 := ks + 6 - ms) d_LLL_law_400 403 rfl hm_Lir_right lk_LLL_44 im_Lir_right sl_Lir_Lir_right rfl hc0 R1 rfl rfl (by omega) (by omega) (by omega) (Nat.le_of_ble_eq_true rfl) ?_
    refine z_aload_n d_LLL_law_403 rfl 404 rfl ?_
    refine z_aload_nX d_LLL_law_404 rfl 405 rfl ?_
    refine z_iload_n d_LLL_law_405 rfl 406 rfl ?_
    refine z_iconst d_LLL_law_406 1 (by decide) 407 rfl ?_
    refine z_iadd d_LLL_law_407 408 rfl ?_
    refine z_sld d_LLL_law_408 (i + 1) 409 rfl (nI_add i 1) (by omega) (by omega) ?_
    refine z_if_eq d_LLL_law_409 416 412 (by decide) rfl (fun _ => ?_) (fun hzz => absurd hv hzz)
    refine z_iconst d_LLL_law_416 0 (by decide) 417 rfl ?_
    refine z_invv (kc1 := kc + 1 - mc) (ks1 := ks + 6 - ms) d_LLL_law_417 420 rfl hm_Mod_right lk_LLL_48 im_Mod_right sl_Mod_Mod_right rfl hc1 R2 rfl rfl (by omega) rfl rfl (Nat.le_of_ble_eq_true rfl) ?_
    exact z_icmp_eq d_LLL_law_420 1169 423 (by decide) rfl (fun _ => Z.mono (by omega) (by omega) hz) (fun hzz => absurd rfl hzz)
  · obtain ⟨r, hp1, hp2, d1, d2, mc, ms, f1, f2, ⟨hmc, hms, hd1, hd2⟩, hc0, R1, hc1, R2, I2⟩ := st_right 1 (Or.inr rfl) hp hI
    obtain ⟨hp', hz⟩ := nx hp2 I2
    refine ⟨hp', ?_⟩
    refine z_aload_n d_LLL_law_386 rfl 387 rfl ?_
    refine z_aload_nX d_LLL_law_387 rfl 388 rfl ?_
    refine z_iload_n d_LLL_law_388 rfl 389 rfl ?_
    refine z_iconst d_LLL_law_389 1 (by decide) 390 rfl ?_
    refine z_iadd d_LLL_law_390 391 rfl ?_
    refine z_sld d_LLL_law_391 (i + 1) 392 rfl (nI_add i 1) (by omega) (by omega) ?_
    refine z_if_eq d_LLL_law_392 399 395 (by decide) rfl (fun hzz => absurd hzz hv) (fun _ => ?_)
    refine z_iconst d_LLL_law_395 1 (by decide) 396 rfl ?_
    refine z_goto d_LLL_law_396 400 (by decide) ?_
    refine z_invv (kc1 := kc + 1 - mc) (ks1 := ks + 6 - ms) d_LLL_law_400 403 rfl hm_Lir_right lk_LLL_44 im_Lir_right sl_Lir_Lir_right rfl hc0 R1 rfl rfl (by omega) (by omega) (by omega) (Nat.le_of_ble_eq_true rfl) ?_
    refine z_aload_n d_LLL_law_403 rfl 404 rfl ?_
    refine z_aload_nX d_LLL_law_404 rfl 405 rfl ?_
    refine z_iload_n d_LLL_law_405 rfl 406 rfl ?_
    refine z_iconst d_LLL_law_406 1 (by decide) 407 rfl ?_
    refine z_iadd d_LLL_law_407 408 rfl ?_
    refine z_sld d_LLL_law_408 (i + 1) 409 rfl (nI_add i 1) (by omega) (by omega) ?_
    refine z_if_eq d_LLL_law_409 416 412 (by decide) rfl (fun hzz => absurd hzz hv) (fun _ => ?_)
    refine z_iconst d_LLL_law_412 1 (by decide) 413 rfl ?_
    refine z_goto d_LLL_law_413 417 (by decide) ?_
    refine z_invv (kc1 := kc + 1 - mc) (ks1 := ks + 6 - ms) d_LLL_law_417 420 rfl hm_Mod_right lk_LLL_48 im_Mod_right sl_Mod_Mod_right rfl hc1 R2 rfl rfl (by omega) rfl rfl (Nat.le_of_ble_eq_true rfl) ?_
    exact z_icmp_eq d_LLL_law_420 1169 423 (by decide) rfl (fun _ => Z.mono (by omega) (by omega) hz) (fun hzz => absurd rfl hzz)
set_option maxHeartbeats 400000 in
theorem lw_growth {X : zS} {i kc ks : Nat} (hi : i + 5 ≤ X.1) (hL : X.1 ≤ 320) {hp : List zC} (hI : INV hp) (nx : lwN2 X i kc ks) : ∃ hp', Z X m_LLL_law 41 (kc + 1) (ks + 6) (some (.int 1)) hp' 425 (lwL i) [] hp := by
  obtain ⟨r, hp1, hp2, d1, d2, mc, ms, f1, f2, ⟨hmc, hms, hd1, hd2⟩, hc0, R1, hc1, R2, I2⟩ := st_growth (X.2 (i + 1)) (X.2 (i + 2)) hp hI
  obtain ⟨hp', hz⟩ := nx hp2 I2
  refine ⟨hp', ?_⟩
  refine z_aload_n d_LLL_law_425 rfl 426 rfl ?_
  refine z_aload_nX d_LLL_law_426 rfl 427 rfl ?_
  refine z_iload_n d_LLL_law_427 rfl 428 rfl ?_
  refine z_iconst d_LLL_law_428 1 (by decide) 429 rfl ?_
  refine z_iadd d_LLL_law_429 430 rfl ?_
  refine z_sld d_LLL_law_430 (i + 1) 431 rfl (nI_add i 1) (by omega) (by omega) ?_
  refine z_aload_nX d_LLL_law_431 rfl 432 rfl ?_
  refine z_iload_n d_LLL_law_432 rfl 433 rfl ?_
  refine z_iconst d_LLL_law_433 2 (by decide) 434 rfl ?_
  refine z_iadd d_LLL_law_434 435 rfl ?_
  refine z_sld d_LLL_law_435 (i + 2) 436 rfl (nI_add i 2) (by omega) (by omega) ?_
  refine z_invv (kc1 := kc + 1 - mc) (ks1 := ks + 6 - ms) d_LLL_law_436 439 rfl hm_Lir_growth lk_LLL_49 im_Lir_growth sl_Lir_Lir_growth rfl hc0 R1 rfl rfl (by omega) (by omega) (by omega) (Nat.le_of_ble_eq_true rfl) ?_
  refine z_aload_n d_LLL_law_439 rfl 440 rfl ?_
  refine z_aload_nX d_LLL_law_440 rfl 441 rfl ?_
  refine z_iload_n d_LLL_law_441 rfl 442 rfl ?_
  refine z_iconst d_LLL_law_442 1 (by decide) 443 rfl ?_
  refine z_iadd d_LLL_law_443 444 rfl ?_
  refine z_sld d_LLL_law_444 (i + 1) 445 rfl (nI_add i 1) (by omega) (by omega) ?_
  refine z_aload_nX d_LLL_law_445 rfl 446 rfl ?_
  refine z_iload_n d_LLL_law_446 rfl 447 rfl ?_
  refine z_iconst d_LLL_law_447 2 (by decide) 448 rfl ?_
  refine z_iadd d_LLL_law_448 449 rfl ?_
  refine z_sld d_LLL_law_449 (i + 2) 450 rfl (nI_add i 2) (by omega) (by omega) ?_
  refine z_invv (kc1 := kc + 1 - mc) (ks1 := ks + 6 - ms) d_LLL_law_450 453 rfl hm_Mod_growth lk_LLL_52 im_Mod_growth sl_Mod_Mod_growth rfl hc1 R2 rfl rfl (by omega) rfl rfl (Nat.le_of_ble_eq_true rfl) ?_
  exact z_icmp_eq d_LLL_law_453 1169 456 (by decide) rfl (fun _ => Z.mono (by omega) (by omega) hz) (fun hzz => absurd rfl hzz)
set_option maxHeartbeats 400000 in
theorem lw_put {X : zS} {i kc ks : Nat} (hi : i + 5 ≤ X.1) (hL : X.1 ≤ 320) {hp : List zC} (hI : INV hp) (nx : lwN2 X i kc ks) : ∃ hp', Z X m_LLL_law 41 (kc + 1) (ks + 6) (some (.int 1)) hp' 458 (lwL i) [] hp := by
  obtain ⟨r, hp1, hp2, d1, d2, mc, ms, f1, f2, ⟨hmc, hms, hd1, hd2⟩, hc0, R1, hc1, R2, I2⟩ := st_put (X.2 (i + 1)) (X.2 (i + 2)) hp hI
  obtain ⟨hp', hz⟩ := nx hp2 I2
  refine ⟨hp', ?_⟩
  refine z_aload_n d_LLL_law_458 rfl 459 rfl ?_
  refine z_aload_nX d_LLL_law_459 rfl 460 rfl ?_
  refine z_iload_n d_LLL_law_460 rfl 461 rfl ?_
  refine z_iconst d_LLL_law_461 1 (by decide) 462 rfl ?_
  refine z_iadd d_LLL_law_462 463 rfl ?_
  refine z_sld d_LLL_law_463 (i + 1) 464 rfl (nI_add i 1) (by omega) (by omega) ?_
  refine z_aload_nX d_LLL_law_464 rfl 465 rfl ?_
  refine z_iload_n d_LLL_law_465 rfl 466 rfl ?_
  refine z_iconst d_LLL_law_466 2 (by decide) 467 rfl ?_
  refine z_iadd d_LLL_law_467 468 rfl ?_
  refine z_sld d_LLL_law_468 (i + 2) 469 rfl (nI_add i 2) (by omega) (by omega) ?_
  refine z_invv (kc1 := kc + 1 - mc) (ks1 := ks + 6 - ms) d_LLL_law_469 472 rfl hm_Lir_put lk_LLL_53 im_Lir_put sl_Lir_Lir_put rfl hc0 R1 rfl rfl (by omega) (by omega) (by omega) (Nat.le_of_ble_eq_true rfl) ?_
  refine z_aload_n d_LLL_law_472 rfl 473 rfl ?_
  refine z_aload_nX d_LLL_law_473 rfl 474 rfl ?_
  refine z_iload_n d_LLL_law_474 rfl 475 rfl ?_
  refine z_iconst d_LLL_law_475 1 (by decide) 476 rfl ?_
  refine z_iadd d_LLL_law_476 477 rfl ?_
  refine z_sld d_LLL_law_477 (i + 1) 478 rfl (nI_add i 1) (by omega) (by omega) ?_
  refine z_aload_nX d_LLL_law_478 rfl 479 rfl ?_
  refine z_iload_n d_LLL_law_479 rfl 480 rfl ?_
  refine z_iconst d_LLL_law_480 2 (by decide) 481 rfl ?_
  refine z_iadd d_LLL_law_481 482 rfl ?_
  refine z_sld d_LLL_law_482 (i + 2) 483 rfl (nI_add i 2) (by omega) (by omega) ?_
  refine z_invv (kc1 := kc + 1 - mc) (ks1 := ks + 6 - ms) d_LLL_law_483 486 rfl hm_Mod_put lk_LLL_56 im_Mod_put sl_Mod_Mod_put rfl hc1 R2 rfl rfl (by omega) rfl rfl (Nat.le_of_ble_eq_true rfl) ?_
  exact z_icmp_eq d_LLL_law_486 1169 489 (by decide) rfl (fun _ => Z.mono (by omega) (by omega) hz) (fun hzz => absurd rfl hzz)
set_option maxHeartbeats 400000 in
theorem lw_fits {X : zS} {i kc ks : Nat} (hi : i + 5 ≤ X.1) (hL : X.1 ≤ 320) {hp : List zC} (hI : INV hp) (nx : lwN2 X i kc ks) : ∃ hp', Z X m_LLL_law 41 (kc + 1) (ks + 6) (some (.int 1)) hp' 491 (lwL i) [] hp := by
  obtain ⟨r, hp1, hp2, d1, d2, mc, ms, f1, f2, ⟨hmc, hms, hd1, hd2⟩, hc0, R1, hc1, R2, I2⟩ := st_fits (X.2 (i + 1)) (X.2 (i + 2)) hp hI
  obtain ⟨hp', hz⟩ := nx hp2 I2
  refine ⟨hp', ?_⟩
  refine z_aload_n d_LLL_law_491 rfl 492 rfl ?_
  refine z_aload_nX d_LLL_law_492 rfl 493 rfl ?_
  refine z_iload_n d_LLL_law_493 rfl 494 rfl ?_
  refine z_iconst d_LLL_law_494 1 (by decide) 495 rfl ?_
  refine z_iadd d_LLL_law_495 496 rfl ?_
  refine z_sld d_LLL_law_496 (i + 1) 497 rfl (nI_add i 1) (by omega) (by omega) ?_
  refine z_aload_nX d_LLL_law_497 rfl 498 rfl ?_
  refine z_iload_n d_LLL_law_498 rfl 499 rfl ?_
  refine z_iconst d_LLL_law_499 2 (by decide) 500 rfl ?_
  refine z_iadd d_LLL_law_500 501 rfl ?_
  refine z_sld d_LLL_law_501 (i + 2) 502 rfl (nI_add i 2) (by omega) (by omega) ?_
  refine z_invv (kc1 := kc + 1 - mc) (ks1 := ks + 6 - ms) d_LLL_law_502 505 rfl hm_Lir_fits lk_LLL_57 im_Lir_fits sl_Lir_Lir_fits rfl hc0 R1 rfl rfl (by omega) (by omega) (by omega) (Nat.le_of_ble_eq_true rfl) ?_
  refine z_aload_n d_LLL_law_505 rfl 506 rfl ?_
  refine z_aload_nX d_LLL_law_506 rfl 507 rfl ?_
  refine z_iload_n d_LLL_law_507 rfl 508 rfl ?_
  refine z_iconst d_LLL_law_508 1 (by decide) 509 rfl ?_
  refine z_iadd d_LLL_law_509 510 rfl ?_
  refine z_sld d_LLL_law_510 (i + 1) 511 rfl (nI_add i 1) (by omega) (by omega) ?_
  refine z_aload_nX d_LLL_law_511 rfl 512 rfl ?_
  refine z_iload_n d_LLL_law_512 rfl 513 rfl ?_
  refine z_iconst d_LLL_law_513 2 (by decide) 514 rfl ?_
  refine z_iadd d_LLL_law_514 515 rfl ?_
  refine z_sld d_LLL_law_515 (i + 2) 516 rfl (nI_add i 2) (by omega) (by omega) ?_
  refine z_invv (kc1 := kc + 1 - mc) (ks1 := ks + 6 - ms) d_LLL_law_516 519 rfl hm_Mod_fits lk_LLL_60 im_Mod_fits sl_Mod_Mod_fits rfl hc1 R2 rfl rfl (by omega) rfl rfl (Nat.le_of_ble_eq_true rfl) ?_
  exact z_icmp_eq d_LLL_law_519 1169 522 (by decide) rfl (fun _ => Z.mono (by omega) (by omega) hz) (fun hzz => absurd rfl hzz)
set_option maxHeartbeats 400000 in
theorem lw_share {X : zS} {i kc ks : Nat} (hi : i + 5 ≤ X.1) (hL : X.1 ≤ 320) {hp : List zC} (hI : INV hp) (nx : lwN2 X i kc ks) : ∃ hp', Z X m_LLL_law 41 (kc + 1) (ks + 6) (some (.int 1)) hp' 524 (lwL i) [] hp := by
  obtain ⟨r, hp1, hp2, d1, d2, mc, ms, f1, f2, ⟨hmc, hms, hd1, hd2⟩, hc0, R1, hc1, R2, I2⟩ := st_share (X.2 (i + 1)) (X.2 (i + 2)) hp hI
  obtain ⟨hp', hz⟩ := nx hp2 I2
  refine ⟨hp', ?_⟩
  refine z_aload_n d_LLL_law_524 rfl 525 rfl ?_
  refine z_aload_nX d_LLL_law_525 rfl 526 rfl ?_
  refine z_iload_n d_LLL_law_526 rfl 527 rfl ?_
  refine z_iconst d_LLL_law_527 1 (by decide) 528 rfl ?_
  refine z_iadd d_LLL_law_528 529 rfl ?_
  refine z_sld d_LLL_law_529 (i + 1) 530 rfl (nI_add i 1) (by omega) (by omega) ?_
  refine z_aload_nX d_LLL_law_530 rfl 531 rfl ?_
  refine z_iload_n d_LLL_law_531 rfl 532 rfl ?_
  refine z_iconst d_LLL_law_532 2 (by decide) 533 rfl ?_
  refine z_iadd d_LLL_law_533 534 rfl ?_
  refine z_sld d_LLL_law_534 (i + 2) 535 rfl (nI_add i 2) (by omega) (by omega) ?_
  refine z_invv (kc1 := kc + 1 - mc) (ks1 := ks + 6 - ms) d_LLL_law_535 538 rfl hm_Lir_share lk_LLL_61 im_Lir_share sl_Lir_Lir_share rfl hc0 R1 rfl rfl (by omega) (by omega) (by omega) (Nat.le_of_ble_eq_true rfl) ?_
  refine z_aload_n d_LLL_law_538 rfl 539 rfl ?_
  refine z_aload_nX d_LLL_law_539 rfl 540 rfl ?_
  refine z_iload_n d_LLL_law_540 rfl 541 rfl ?_
  refine z_iconst d_LLL_law_541 1 (by decide) 542 rfl ?_
  refine z_iadd d_LLL_law_542 543 rfl ?_
  refine z_sld d_LLL_law_543 (i + 1) 544 rfl (nI_add i 1) (by omega) (by omega) ?_
  refine z_aload_nX d_LLL_law_544 rfl 545 rfl ?_
  refine z_iload_n d_LLL_law_545 rfl 546 rfl ?_
  refine z_iconst d_LLL_law_546 2 (by decide) 547 rfl ?_
  refine z_iadd d_LLL_law_547 548 rfl ?_
  refine z_sld d_LLL_law_548 (i + 2) 549 rfl (nI_add i 2) (by omega) (by omega) ?_
  refine z_invv (kc1 := kc + 1 - mc) (ks1 := ks + 6 - ms) d_LLL_law_549 552 rfl hm_Mod_share lk_LLL_64 im_Mod_share sl_Mod_Mod_share rfl hc1 R2 rfl rfl (by omega) rfl rfl (Nat.le_of_ble_eq_true rfl) ?_
  exact z_icmp_eq d_LLL_law_552 1169 555 (by decide) rfl (fun _ => Z.mono (by omega) (by omega) hz) (fun hzz => absurd rfl hzz)
set_option maxHeartbeats 400000 in
theorem lw_only {X : zS} {i kc ks : Nat} (hi : i + 5 ≤ X.1) (hL : X.1 ≤ 320) {hp : List zC} (hI : INV hp) (nx : lwN2 X i kc ks) : ∃ hp', Z X m_LLL_law 41 (kc + 1) (ks + 6) (some (.int 1)) hp' 557 (lwL i) [] hp := by
  obtain ⟨r, hp1, hp2, d1, d2, mc, ms, f1, f2, ⟨hmc, hms, hd1, hd2⟩, hc0, R1, hc1, R2, I2⟩ := st_only (X.2 (i + 1)) hp hI
  obtain ⟨hp', hz⟩ := nx hp2 I2
  refine ⟨hp', ?_⟩
  refine z_aload_n d_LLL_law_557 rfl 558 rfl ?_
  refine z_aload_nX d_LLL_law_558 rfl 559 rfl ?_
  refine z_iload_n d_LLL_law_559 rfl 560 rfl ?_
  refine z_iconst d_LLL_law_560 1 (by decide) 561 rfl ?_
  refine z_iadd d_LLL_law_561 562 rfl ?_
  refine z_sld d_LLL_law_562 (i + 1) 563 rfl (nI_add i 1) (by omega) (by omega) ?_
  refine z_invv (kc1 := kc + 1 - mc) (ks1 := ks + 6 - ms) d_LLL_law_563 566 rfl hm_Lir_only lk_LLL_65 im_Lir_only sl_Lir_Lir_only rfl hc0 R1 rfl rfl (by omega) (by omega) (by omega) (Nat.le_of_ble_eq_true rfl) ?_
  refine z_aload_n d_LLL_law_566 rfl 567 rfl ?_
  refine z_aload_nX d_LLL_law_567 rfl 568 rfl ?_
  refine z_iload_n d_LLL_law_568 rfl 569 rfl ?_
  refine z_iconst d_LLL_law_569 1 (by decide) 570 rfl ?_
  refine z_iadd d_LLL_law_570 571 rfl ?_
  refine z_sld d_LLL_law_571 (i + 1) 572 rfl (nI_add i 1) (by omega) (by omega) ?_
  refine z_invv (kc1 := kc + 1 - mc) (ks1 := ks + 6 - ms) d_LLL_law_572 575 rfl hm_Mod_only lk_LLL_68 im_Mod_only sl_Mod_Mod_only rfl hc1 R2 rfl rfl (by omega) rfl rfl (Nat.le_of_ble_eq_true rfl) ?_
  exact z_icmp_eq d_LLL_law_575 1169 578 (by decide) rfl (fun _ => Z.mono (by omega) (by omega) hz) (fun hzz => absurd rfl hzz)
set_option maxHeartbeats 400000 in
theorem lw_cover {X : zS} {i kc ks : Nat} (hi : i + 5 ≤ X.1) (hL : X.1 ≤ 320) {hp : List zC} (hI : INV hp) (nx : lwN2 X i kc ks) : ∃ hp', Z X m_LLL_law 41 (kc + 1) (ks + 6) (some (.int 1)) hp' 580 (lwL i) [] hp := by
  obtain ⟨r, hp1, hp2, d1, d2, mc, ms, f1, f2, ⟨hmc, hms, hd1, hd2⟩, hc0, R1, hc1, R2, I2⟩ := st_cover  hp hI
  obtain ⟨hp', hz⟩ := nx hp2 I2
  refine ⟨hp', ?_⟩
  refine z_aload_n d_LLL_law_580 rfl 581 rfl ?_
  refine z_invv (kc1 := kc + 1 - mc) (ks1 := ks + 6 - ms) d_LLL_law_581 584 rfl hm_Lir_cover lk_LLL_69 im_Lir_cover sl_Lir_Lir_cover rfl hc0 R1 rfl rfl (by omega) (by omega) (by omega) (Nat.le_of_ble_eq_true rfl) ?_
  refine z_aload_n d_LLL_law_584 rfl 585 rfl ?_
  refine z_invv (kc1 := kc + 1 - mc) (ks1 := ks + 6 - ms) d_LLL_law_585 588 rfl hm_Mod_cover lk_LLL_72 im_Mod_cover sl_Mod_Mod_cover rfl hc1 R2 rfl rfl (by omega) rfl rfl (Nat.le_of_ble_eq_true rfl) ?_
  exact z_icmp_eq d_LLL_law_588 1169 591 (by decide) rfl (fun _ => Z.mono (by omega) (by omega) hz) (fun hzz => absurd rfl hzz)
set_option maxHeartbeats 400000 in
theorem lw_half {X : zS} {i kc ks : Nat} (hi : i + 5 ≤ X.1) (hL : X.1 ≤ 320) {hp : List zC} (hI : INV hp) (nx : lwN2 X i kc ks) : ∃ hp', Z X m_LLL_law 41 (kc + 1) (ks + 6) (some (.int 1)) hp' 593 (lwL i) [] hp := by
  obtain ⟨r, hp1, hp2, d1, d2, mc, ms, f1, f2, ⟨hmc, hms, hd1, hd2⟩, hc0, R1, hc1, R2, I2⟩ := st_half (X.2 (i + 1)) hp hI
  obtain ⟨hp', hz⟩ := nx hp2 I2
  refine ⟨hp', ?_⟩
  refine z_aload_n d_LLL_law_593 rfl 594 rfl ?_
  refine z_aload_nX d_LLL_law_594 rfl 595 rfl ?_
  refine z_iload_n d_LLL_law_595 rfl 596 rfl ?_
  refine z_iconst d_LLL_law_596 1 (by decide) 597 rfl ?_
  refine z_iadd d_LLL_law_597 598 rfl ?_
  refine z_sld d_LLL_law_598 (i + 1) 599 rfl (nI_add i 1) (by omega) (by omega) ?_
  refine z_invv (kc1 := kc + 1 - mc) (ks1 := ks + 6 - ms) d_LLL_law_599 602 rfl hm_Lir_half lk_LLL_73 im_Lir_half sl_Lir_Lir_half rfl hc0 R1 rfl rfl (by omega) (by omega) (by omega) (Nat.le_of_ble_eq_true rfl) ?_
  refine z_aload_n d_LLL_law_602 rfl 603 rfl ?_
  refine z_aload_nX d_LLL_law_603 rfl 604 rfl ?_
  refine z_iload_n d_LLL_law_604 rfl 605 rfl ?_
  refine z_iconst d_LLL_law_605 1 (by decide) 606 rfl ?_
  refine z_iadd d_LLL_law_606 607 rfl ?_
  refine z_sld d_LLL_law_607 (i + 1) 608 rfl (nI_add i 1) (by omega) (by omega) ?_
  refine z_invv (kc1 := kc + 1 - mc) (ks1 := ks + 6 - ms) d_LLL_law_608 611 rfl hm_Mod_half lk_LLL_76 im_Mod_half sl_Mod_Mod_half rfl hc1 R2 rfl rfl (by omega) rfl rfl (Nat.le_of_ble_eq_true rfl) ?_
  exact z_icmp_eq d_LLL_law_611 1169 614 (by decide) rfl (fun _ => Z.mono (by omega) (by omega) hz) (fun hzz => absurd rfl hzz)
set_option maxHeartbeats 400000 in
theorem lw_sorts {X : zS} {i kc ks : Nat} (hi : i + 5 ≤ X.1) (hL : X.1 ≤ 320) {hp : List zC} (hI : INV hp) (nx : lwN2 X i kc ks) : ∃ hp', Z X m_LLL_law 41 (kc + 1) (ks + 6) (some (.int 1)) hp' 616 (lwL i) [] hp := by
  obtain ⟨r, hp1, hp2, d1, d2, mc, ms, f1, f2, ⟨hmc, hms, hd1, hd2⟩, hc0, R1, hc1, R2, I2⟩ := st_sorts (X.2 (i + 1)) hp hI
  obtain ⟨hp', hz⟩ := nx hp2 I2
  refine ⟨hp', ?_⟩
  refine z_aload_n d_LLL_law_616 rfl 617 rfl ?_
  refine z_aload_nX d_LLL_law_617 rfl 618 rfl ?_
  refine z_iload_n d_LLL_law_618 rfl 619 rfl ?_
  refine z_iconst d_LLL_law_619 1 (by decide) 620 rfl ?_
  refine z_iadd d_LLL_law_620 621 rfl ?_
  refine z_sld d_LLL_law_621 (i + 1) 622 rfl (nI_add i 1) (by omega) (by omega) ?_
  refine z_invv (kc1 := kc + 1 - mc) (ks1 := ks + 6 - ms) d_LLL_law_622 625 rfl hm_Lir_sorts lk_LLL_77 im_Lir_sorts sl_Lir_Lir_sorts rfl hc0 R1 rfl rfl (by omega) (by omega) (by omega) (Nat.le_of_ble_eq_true rfl) ?_
  refine z_aload_n d_LLL_law_625 rfl 626 rfl ?_
  refine z_aload_nX d_LLL_law_626 rfl 627 rfl ?_
  refine z_iload_n d_LLL_law_627 rfl 628 rfl ?_
  refine z_iconst d_LLL_law_628 1 (by decide) 629 rfl ?_
  refine z_iadd d_LLL_law_629 630 rfl ?_
  refine z_sld d_LLL_law_630 (i + 1) 631 rfl (nI_add i 1) (by omega) (by omega) ?_
  refine z_invv (kc1 := kc + 1 - mc) (ks1 := ks + 6 - ms) d_LLL_law_631 634 rfl hm_Mod_sorts lk_LLL_80 im_Mod_sorts sl_Mod_Mod_sorts rfl hc1 R2 rfl rfl (by omega) rfl rfl (Nat.le_of_ble_eq_true rfl) ?_
  exact z_icmp_eq d_LLL_law_634 1169 637 (by decide) rfl (fun _ => Z.mono (by omega) (by omega) hz) (fun hzz => absurd rfl hzz)
set_option maxHeartbeats 400000 in
theorem lw_alike {X : zS} {i kc ks : Nat} (hi : i + 5 ≤ X.1) (hL : X.1 ≤ 320) {hp : List zC} (hI : INV hp) (nx : lwN2 X i kc ks) : ∃ hp', Z X m_LLL_law 41 (kc + 1) (ks + 6) (some (.int 1)) hp' 639 (lwL i) [] hp := by
  obtain ⟨r, hp1, hp2, d1, d2, mc, ms, f1, f2, ⟨hmc, hms, hd1, hd2⟩, hc0, R1, hc1, R2, I2⟩ := st_alike (X.2 (i + 1)) hp hI
  obtain ⟨hp', hz⟩ := nx hp2 I2
  refine ⟨hp', ?_⟩
  refine z_aload_n d_LLL_law_639 rfl 640 rfl ?_
  refine z_aload_nX d_LLL_law_640 rfl 641 rfl ?_
  refine z_iload_n d_LLL_law_641 rfl 642 rfl ?_
  refine z_iconst d_LLL_law_642 1 (by decide) 643 rfl ?_
  refine z_iadd d_LLL_law_643 644 rfl ?_
  refine z_sld d_LLL_law_644 (i + 1) 645 rfl (nI_add i 1) (by omega) (by omega) ?_
  refine z_invv (kc1 := kc + 1 - mc) (ks1 := ks + 6 - ms) d_LLL_law_645 648 rfl hm_Lir_alike lk_LLL_81 im_Lir_alike sl_Lir_Lir_alike rfl hc0 R1 rfl rfl (by omega) (by omega) (by omega) (Nat.le_of_ble_eq_true rfl) ?_
  refine z_aload_n d_LLL_law_648 rfl 649 rfl ?_
  refine z_aload_nX d_LLL_law_649 rfl 650 rfl ?_
  refine z_iload_n d_LLL_law_650 rfl 651 rfl ?_
  refine z_iconst d_LLL_law_651 1 (by decide) 652 rfl ?_
  refine z_iadd d_LLL_law_652 653 rfl ?_
  refine z_sld d_LLL_law_653 (i + 1) 654 rfl (nI_add i 1) (by omega) (by omega) ?_
  refine z_invv (kc1 := kc + 1 - mc) (ks1 := ks + 6 - ms) d_LLL_law_654 657 rfl hm_Mod_alike lk_LLL_84 im_Mod_alike sl_Mod_Mod_alike rfl hc1 R2 rfl rfl (by omega) rfl rfl (Nat.le_of_ble_eq_true rfl) ?_
  exact z_icmp_eq d_LLL_law_657 1169 660 (by decide) rfl (fun _ => Z.mono (by omega) (by omega) hz) (fun hzz => absurd rfl hzz)
set_option maxHeartbeats 400000 in
theorem lw_together {X : zS} {i kc ks : Nat} (hi : i + 5 ≤ X.1) (hL : X.1 ≤ 320) {hp : List zC} (hI : INV hp) (nx : lwN2 X i kc ks) : ∃ hp', Z X m_LLL_law 41 (kc + 1) (ks + 6) (some (.int 1)) hp' 662 (lwL i) [] hp := by
  obtain ⟨r, hp1, hp2, d1, d2, mc, ms, f1, f2, ⟨hmc, hms, hd1, hd2⟩, hc0, R1, hc1, R2, I2⟩ := st_together (X.2 (i + 1)) (X.2 (i + 2)) hp hI
  obtain ⟨hp', hz⟩ := nx hp2 I2
  refine ⟨hp', ?_⟩
  refine z_aload_n d_LLL_law_662 rfl 663 rfl ?_
  refine z_aload_nX d_LLL_law_663 rfl 664 rfl ?_
  refine z_iload_n d_LLL_law_664 rfl 665 rfl ?_
  refine z_iconst d_LLL_law_665 1 (by decide) 666 rfl ?_
  refine z_iadd d_LLL_law_666 667 rfl ?_
  refine z_sld d_LLL_law_667 (i + 1) 668 rfl (nI_add i 1) (by omega) (by omega) ?_
  refine z_aload_nX d_LLL_law_668 rfl 669 rfl ?_
  refine z_iload_n d_LLL_law_669 rfl 670 rfl ?_
  refine z_iconst d_LLL_law_670 2 (by decide) 671 rfl ?_
  refine z_iadd d_LLL_law_671 672 rfl ?_
  refine z_sld d_LLL_law_672 (i + 2) 673 rfl (nI_add i 2) (by omega) (by omega) ?_
  refine z_invv (kc1 := kc + 1 - mc) (ks1 := ks + 6 - ms) d_LLL_law_673 676 rfl hm_Lir_together lk_LLL_85 im_Lir_together sl_Lir_Lir_together rfl hc0 R1 rfl rfl (by omega) (by omega) (by omega) (Nat.le_of_ble_eq_true rfl) ?_
  refine z_aload_n d_LLL_law_676 rfl 677 rfl ?_
  refine z_aload_nX d_LLL_law_677 rfl 678 rfl ?_
  refine z_iload_n d_LLL_law_678 rfl 679 rfl ?_
  refine z_iconst d_LLL_law_679 1 (by decide) 680 rfl ?_
  refine z_iadd d_LLL_law_680 681 rfl ?_
  refine z_sld d_LLL_law_681 (i + 1) 682 rfl (nI_add i 1) (by omega) (by omega) ?_
  refine z_aload_nX d_LLL_law_682 rfl 683 rfl ?_
  refine z_iload_n d_LLL_law_683 rfl 684 rfl ?_
  refine z_iconst d_LLL_law_684 2 (by decide) 685 rfl ?_
  refine z_iadd d_LLL_law_685 686 rfl ?_
  refine z_sld d_LLL_law_686 (i + 2) 687 rfl (nI_add i 2) (by omega) (by omega) ?_
  refine z_invv (kc1 := kc + 1 - mc) (ks1 := ks + 6 - ms) d_LLL_law_687 690 rfl hm_Mod_together lk_LLL_88 im_Mod_together sl_Mod_Mod_together rfl hc1 R2 rfl rfl (by omega) rfl rfl (Nat.le_of_ble_eq_true rfl) ?_
  exact z_icmp_eq d_LLL_law_690 1169 693 (by decide) rfl (fun _ => Z.mono (by omega) (by omega) hz) (fun hzz => absurd rfl hzz)
set_option maxHeartbeats 400000 in
theorem lw_twice {X : zS} {i kc ks : Nat} (hi : i + 5 ≤ X.1) (hL : X.1 ≤ 320) {hp : List zC} (hI : INV hp) (nx : lwN2 X i kc ks) : ∃ hp', Z X m_LLL_law 41 (kc + 1) (ks + 6) (some (.int 1)) hp' 695 (lwL i) [] hp := by
  obtain ⟨r, hp1, hp2, d1, d2, mc, ms, f1, f2, ⟨hmc, hms, hd1, hd2⟩, hc0, R1, hc1, R2, I2⟩ := st_twice (X.2 (i + 1)) (X.2 (i + 2)) hp hI
  obtain ⟨hp', hz⟩ := nx hp2 I2
  refine ⟨hp', ?_⟩
  refine z_aload_n d_LLL_law_695 rfl 696 rfl ?_
  refine z_aload_nX d_LLL_law_696 rfl 697 rfl ?_
  refine z_iload_n d_LLL_law_697 rfl 698 rfl ?_
  refine z_iconst d_LLL_law_698 1 (by decide) 699 rfl ?_
  refine z_iadd d_LLL_law_699 700 rfl ?_
  refine z_sld d_LLL_law_700 (i + 1) 701 rfl (nI_add i 1) (by omega) (by omega) ?_
  refine z_aload_nX d_LLL_law_701 rfl 702 rfl ?_
  refine z_iload_n d_LLL_law_702 rfl 703 rfl ?_
  refine z_iconst d_LLL_law_703 2 (by decide) 704 rfl ?_
  refine z_iadd d_LLL_law_704 705 rfl ?_
  refine z_sld d_LLL_law_705 (i + 2) 706 rfl (nI_add i 2) (by omega) (by omega) ?_
  refine z_invv (kc1 := kc + 1 - mc) (ks1 := ks + 6 - ms) d_LLL_law_706 709 rfl hm_Lir_twice lk_LLL_89 im_Lir_twice sl_Lir_Lir_twice rfl hc0 R1 rfl rfl (by omega) (by omega) (by omega) (Nat.le_of_ble_eq_true rfl) ?_
  refine z_aload_n d_LLL_law_709 rfl 710 rfl ?_
  refine z_aload_nX d_LLL_law_710 rfl 711 rfl ?_
  refine z_iload_n d_LLL_law_711 rfl 712 rfl ?_
  refine z_iconst d_LLL_law_712 1 (by decide) 713 rfl ?_
  refine z_iadd d_LLL_law_713 714 rfl ?_
  refine z_sld d_LLL_law_714 (i + 1) 715 rfl (nI_add i 1) (by omega) (by omega) ?_
  refine z_aload_nX d_LLL_law_715 rfl 716 rfl ?_
  refine z_iload_n d_LLL_law_716 rfl 717 rfl ?_
  refine z_iconst d_LLL_law_717 2 (by decide) 718 rfl ?_
  refine z_iadd d_LLL_law_718 719 rfl ?_
  refine z_sld d_LLL_law_719 (i + 2) 720 rfl (nI_add i 2) (by omega) (by omega) ?_
  refine z_invv (kc1 := kc + 1 - mc) (ks1 := ks + 6 - ms) d_LLL_law_720 723 rfl hm_Mod_twice lk_LLL_92 im_Mod_twice sl_Mod_Mod_twice rfl hc1 R2 rfl rfl (by omega) rfl rfl (Nat.le_of_ble_eq_true rfl) ?_
  exact z_icmp_eq d_LLL_law_723 1169 726 (by decide) rfl (fun _ => Z.mono (by omega) (by omega) hz) (fun hzz => absurd rfl hzz)
set_option maxHeartbeats 400000 in
theorem lw_grows {X : zS} {i kc ks : Nat} (hi : i + 5 ≤ X.1) (hL : X.1 ≤ 320) {hp : List zC} (hI : INV hp) (nx : lwN2 X i kc ks) : ∃ hp', Z X m_LLL_law 41 (kc + 1) (ks + 6) (some (.int 1)) hp' 728 (lwL i) [] hp := by
  obtain ⟨r, hp1, hp2, d1, d2, mc, ms, f1, f2, ⟨hmc, hms, hd1, hd2⟩, hc0, R1, hc1, R2, I2⟩ := st_grows (X.2 (i + 1)) (X.2 (i + 2)) hp hI
  obtain ⟨hp', hz⟩ := nx hp2 I2
  refine ⟨hp', ?_⟩
  refine z_aload_n d_LLL_law_728 rfl 729 rfl ?_
  refine z_aload_nX d_LLL_law_729 rfl 730 rfl ?_
  refine z_iload_n d_LLL_law_730 rfl 731 rfl ?_
  refine z_iconst d_LLL_law_731 1 (by decide) 732 rfl ?_
  refine z_iadd d_LLL_law_732 733 rfl ?_
  refine z_sld d_LLL_law_733 (i + 1) 734 rfl (nI_add i 1) (by omega) (by omega) ?_
  refine z_aload_nX d_LLL_law_734 rfl 735 rfl ?_
  refine z_iload_n d_LLL_law_735 rfl 736 rfl ?_
  refine z_iconst d_LLL_law_736 2 (by decide) 737 rfl ?_
  refine z_iadd d_LLL_law_737 738 rfl ?_
  refine z_sld d_LLL_law_738 (i + 2) 739 rfl (nI_add i 2) (by omega) (by omega) ?_
  refine z_invv (kc1 := kc + 1 - mc) (ks1 := ks + 6 - ms) d_LLL_law_739 742 rfl hm_Lir_grows lk_LLL_93 im_Lir_grows sl_Lir_Lir_grows rfl hc0 R1 rfl rfl (by omega) (by omega) (by omega) (Nat.le_of_ble_eq_true rfl) ?_
  refine z_aload_n d_LLL_law_742 rfl 743 rfl ?_
  refine z_aload_nX d_LLL_law_743 rfl 744 rfl ?_
  refine z_iload_n d_LLL_law_744 rfl 745 rfl ?_
  refine z_iconst d_LLL_law_745 1 (by decide) 746 rfl ?_
  refine z_iadd d_LLL_law_746 747 rfl ?_
  refine z_sld d_LLL_law_747 (i + 1) 748 rfl (nI_add i 1) (by omega) (by omega) ?_
  refine z_aload_nX d_LLL_law_748 rfl 749 rfl ?_
  refine z_iload_n d_LLL_law_749 rfl 750 rfl ?_
  refine z_iconst d_LLL_law_750 2 (by decide) 751 rfl ?_
  refine z_iadd d_LLL_law_751 752 rfl ?_
  refine z_sld d_LLL_law_752 (i + 2) 753 rfl (nI_add i 2) (by omega) (by omega) ?_
  refine z_invv (kc1 := kc + 1 - mc) (ks1 := ks + 6 - ms) d_LLL_law_753 756 rfl hm_Mod_grows lk_LLL_96 im_Mod_grows sl_Mod_Mod_grows rfl hc1 R2 rfl rfl (by omega) rfl rfl (Nat.le_of_ble_eq_true rfl) ?_
  exact z_icmp_eq d_LLL_law_756 1169 759 (by decide) rfl (fun _ => Z.mono (by omega) (by omega) hz) (fun hzz => absurd rfl hzz)
set_option maxHeartbeats 400000 in
theorem lw_people {X : zS} {i kc ks : Nat} (hi : i + 5 ≤ X.1) (hL : X.1 ≤ 320) {hp : List zC} (hI : INV hp) (nx : lwN2 X i kc ks) : ∃ hp', Z X m_LLL_law 41 (kc + 1) (ks + 6) (some (.int 1)) hp' 761 (lwL i) [] hp := by
  obtain ⟨r, hp1, hp2, d1, d2, mc, ms, f1, f2, ⟨hmc, hms, hd1, hd2⟩, hc0, R1, hc1, R2, I2⟩ := st_people (X.2 (i + 1)) (X.2 (i + 2)) hp hI
  obtain ⟨hp', hz⟩ := nx hp2 I2
  refine ⟨hp', ?_⟩
  refine z_aload_n d_LLL_law_761 rfl 762 rfl ?_
  refine z_aload_nX d_LLL_law_762 rfl 763 rfl ?_
  refine z_iload_n d_LLL_law_763 rfl 764 rfl ?_
  refine z_iconst d_LLL_law_764 1 (by decide) 765 rfl ?_
  refine z_iadd d_LLL_law_765 766 rfl ?_
  refine z_sld d_LLL_law_766 (i + 1) 767 rfl (nI_add i 1) (by omega) (by omega) ?_
  refine z_aload_nX d_LLL_law_767 rfl 768 rfl ?_
  refine z_iload_n d_LLL_law_768 rfl 769 rfl ?_
  refine z_iconst d_LLL_law_769 2 (by decide) 770 rfl ?_
  refine z_iadd d_LLL_law_770 771 rfl ?_
  refine z_sld d_LLL_law_771 (i + 2) 772 rfl (nI_add i 2) (by omega) (by omega) ?_
  refine z_invv (kc1 := kc + 1 - mc) (ks1 := ks + 6 - ms) d_LLL_law_772 775 rfl hm_Lir_people lk_LLL_97 im_Lir_people sl_Lir_Lir_people rfl hc0 R1 rfl rfl (by omega) (by omega) (by omega) (Nat.le_of_ble_eq_true rfl) ?_
  refine z_aload_n d_LLL_law_775 rfl 776 rfl ?_
  refine z_aload_nX d_LLL_law_776 rfl 777 rfl ?_
  refine z_iload_n d_LLL_law_777 rfl 778 rfl ?_
  refine z_iconst d_LLL_law_778 1 (by decide) 779 rfl ?_
  refine z_iadd d_LLL_law_779 780 rfl ?_
  refine z_sld d_LLL_law_780 (i + 1) 781 rfl (nI_add i 1) (by omega) (by omega) ?_
  refine z_aload_nX d_LLL_law_781 rfl 782 rfl ?_
  refine z_iload_n d_LLL_law_782 rfl 783 rfl ?_
  refine z_iconst d_LLL_law_783 2 (by decide) 784 rfl ?_
  refine z_iadd d_LLL_law_784 785 rfl ?_
  refine z_sld d_LLL_law_785 (i + 2) 786 rfl (nI_add i 2) (by omega) (by omega) ?_
  refine z_invv (kc1 := kc + 1 - mc) (ks1 := ks + 6 - ms) d_LLL_law_786 789 rfl hm_Mod_people lk_LLL_100 im_Mod_people sl_Mod_Mod_people rfl hc1 R2 rfl rfl (by omega) rfl rfl (Nat.le_of_ble_eq_true rfl) ?_
  exact z_icmp_eq d_LLL_law_789 1169 792 (by decide) rfl (fun _ => Z.mono (by omega) (by omega) hz) (fun hzz => absurd rfl hzz)
set_option maxHeartbeats 400000 in
theorem lw_strokes {X : zS} {i kc ks : Nat} (hi : i + 5 ≤ X.1) (hL : X.1 ≤ 320) {hp : List zC} (hI : INV hp) (nx : lwN2 X i kc ks) : ∃ hp', Z X m_LLL_law 41 (kc + 1) (ks + 6) (some (.int 1)) hp' 794 (lwL i) [] hp := by
  obtain ⟨r, hp1, hp2, d1, d2, mc, ms, f1, f2, ⟨hmc, hms, hd1, hd2⟩, hc0, R1, hc1, R2, I2⟩ := st_strokes (X.2 (i + 1)) hp hI
  obtain ⟨hp', hz⟩ := nx hp2 I2
  refine ⟨hp', ?_⟩
  refine z_aload_n d_LLL_law_794 rfl 795 rfl ?_
  refine z_aload_nX d_LLL_law_795 rfl 796 rfl ?_
  refine z_iload_n d_LLL_law_796 rfl 797 rfl ?_
  refine z_iconst d_LLL_law_797 1 (by decide) 798 rfl ?_
  refine z_iadd d_LLL_law_798 799 rfl ?_
  refine z_sld d_LLL_law_799 (i + 1) 800 rfl (nI_add i 1) (by omega) (by omega) ?_
  refine z_invv (kc1 := kc + 1 - mc) (ks1 := ks + 6 - ms) d_LLL_law_800 803 rfl hm_Lir_strokes lk_LLL_101 im_Lir_strokes sl_Lir_Lir_strokes rfl hc0 R1 rfl rfl (by omega) (by omega) (by omega) (Nat.le_of_ble_eq_true rfl) ?_
  refine z_aload_n d_LLL_law_803 rfl 804 rfl ?_
  refine z_aload_nX d_LLL_law_804 rfl 805 rfl ?_
  refine z_iload_n d_LLL_law_805 rfl 806 rfl ?_
  refine z_iconst d_LLL_law_806 1 (by decide) 807 rfl ?_
  refine z_iadd d_LLL_law_807 808 rfl ?_
  refine z_sld d_LLL_law_808 (i + 1) 809 rfl (nI_add i 1) (by omega) (by omega) ?_
  refine z_invv (kc1 := kc + 1 - mc) (ks1 := ks + 6 - ms) d_LLL_law_809 812 rfl hm_Mod_strokes lk_LLL_104 im_Mod_strokes sl_Mod_Mod_strokes rfl hc1 R2 rfl rfl (by omega) rfl rfl (Nat.le_of_ble_eq_true rfl) ?_
  exact z_icmp_eq d_LLL_law_812 1169 815 (by decide) rfl (fun _ => Z.mono (by omega) (by omega) hz) (fun hzz => absurd rfl hzz)
set_option maxHeartbeats 400000 in
theorem lw_reach {X : zS} {i kc ks : Nat} (hi : i + 5 ≤ X.1) (hL : X.1 ≤ 320) {hp : List zC} (hI : INV hp) (nx : lwN2 X i kc ks) : ∃ hp', Z X m_LLL_law 41 (kc + 1) (ks + 6) (some (.int 1)) hp' 817 (lwL i) [] hp := by
  obtain ⟨r, hp1, hp2, d1, d2, mc, ms, f1, f2, ⟨hmc, hms, hd1, hd2⟩, hc0, R1, hc1, R2, I2⟩ := st_reach (X.2 (i + 1)) (X.2 (i + 2)) hp hI
  obtain ⟨hp', hz⟩ := nx hp2 I2
  refine ⟨hp', ?_⟩
  refine z_aload_n d_LLL_law_817 rfl 818 rfl ?_
  refine z_aload_nX d_LLL_law_818 rfl 819 rfl ?_
  refine z_iload_n d_LLL_law_819 rfl 820 rfl ?_
  refine z_iconst d_LLL_law_820 1 (by decide) 821 rfl ?_
  refine z_iadd d_LLL_law_821 822 rfl ?_
  refine z_sld d_LLL_law_822 (i + 1) 823 rfl (nI_add i 1) (by omega) (by omega) ?_
  refine z_aload_nX d_LLL_law_823 rfl 824 rfl ?_
  refine z_iload_n d_LLL_law_824 rfl 825 rfl ?_
  refine z_iconst d_LLL_law_825 2 (by decide) 826 rfl ?_
  refine z_iadd d_LLL_law_826 827 rfl ?_
  refine z_sld d_LLL_law_827 (i + 2) 828 rfl (nI_add i 2) (by omega) (by omega) ?_
  refine z_invv (kc1 := kc + 1 - mc) (ks1 := ks + 6 - ms) d_LLL_law_828 831 rfl hm_Lir_reach lk_LLL_105 im_Lir_reach sl_Lir_Lir_reach rfl hc0 R1 rfl rfl (by omega) (by omega) (by omega) (Nat.le_of_ble_eq_true rfl) ?_
  refine z_aload_n d_LLL_law_831 rfl 832 rfl ?_
  refine z_aload_nX d_LLL_law_832 rfl 833 rfl ?_
  refine z_iload_n d_LLL_law_833 rfl 834 rfl ?_
  refine z_iconst d_LLL_law_834 1 (by decide) 835 rfl ?_
  refine z_iadd d_LLL_law_835 836 rfl ?_
  refine z_sld d_LLL_law_836 (i + 1) 837 rfl (nI_add i 1) (by omega) (by omega) ?_
  refine z_aload_nX d_LLL_law_837 rfl 838 rfl ?_
  refine z_iload_n d_LLL_law_838 rfl 839 rfl ?_
  refine z_iconst d_LLL_law_839 2 (by decide) 840 rfl ?_
  refine z_iadd d_LLL_law_840 841 rfl ?_
  refine z_sld d_LLL_law_841 (i + 2) 842 rfl (nI_add i 2) (by omega) (by omega) ?_
  refine z_invv (kc1 := kc + 1 - mc) (ks1 := ks + 6 - ms) d_LLL_law_842 845 rfl hm_Mod_reach lk_LLL_108 im_Mod_reach sl_Mod_Mod_reach rfl hc1 R2 rfl rfl (by omega) rfl rfl (Nat.le_of_ble_eq_true rfl) ?_
  exact z_icmp_eq d_LLL_law_845 1169 848 (by decide) rfl (fun _ => Z.mono (by omega) (by omega) hz) (fun hzz => absurd rfl hzz)
set_option maxHeartbeats 400000 in
theorem lw_should {X : zS} {i kc ks : Nat} (hi : i + 5 ≤ X.1) (hL : X.1 ≤ 320) {hp : List zC} (hI : INV hp) (nx : lwN2 X i kc ks) : ∃ hp', Z X m_LLL_law 41 (kc + 1) (ks + 6) (some (.int 1)) hp' 850 (lwL i) [] hp := by
  obtain ⟨r, hp1, hp2, d1, d2, mc, ms, f1, f2, ⟨hmc, hms, hd1, hd2⟩, hc0, R1, hc1, R2, I2⟩ := st_should (X.2 (i + 1)) hp hI
  obtain ⟨hp', hz⟩ := nx hp2 I2
  refine ⟨hp', ?_⟩
  refine z_aload_n d_LLL_law_850 rfl 851 rfl ?_
  refine z_aload_nX d_LLL_law_851 rfl 852 rfl ?_
  refine z_iload_n d_LLL_law_852 rfl 853 rfl ?_
  refine z_iconst d_LLL_law_853 1 (by decide) 854 rfl ?_
  refine z_iadd d_LLL_law_854 855 rfl ?_
  refine z_sld d_LLL_law_855 (i + 1) 856 rfl (nI_add i 1) (by omega) (by omega) ?_
  refine z_invv (kc1 := kc + 1 - mc) (ks1 := ks + 6 - ms) d_LLL_law_856 859 rfl hm_Lir_should lk_LLL_109 im_Lir_should sl_Lir_Lir_should rfl hc0 R1 rfl rfl (by omega) (by omega) (by omega) (Nat.le_of_ble_eq_true rfl) ?_
  refine z_aload_n d_LLL_law_859 rfl 860 rfl ?_
  refine z_aload_nX d_LLL_law_860 rfl 861 rfl ?_
  refine z_iload_n d_LLL_law_861 rfl 862 rfl ?_
  refine z_iconst d_LLL_law_862 1 (by decide) 863 rfl ?_
  refine z_iadd d_LLL_law_863 864 rfl ?_
  refine z_sld d_LLL_law_864 (i + 1) 865 rfl (nI_add i 1) (by omega) (by omega) ?_
  refine z_invv (kc1 := kc + 1 - mc) (ks1 := ks + 6 - ms) d_LLL_law_865 868 rfl hm_Mod_should lk_LLL_112 im_Mod_should sl_Mod_Mod_should rfl hc1 R2 rfl rfl (by omega) rfl rfl (Nat.le_of_ble_eq_true rfl) ?_
  exact z_icmp_eq d_LLL_law_868 1169 871 (by decide) rfl (fun _ => Z.mono (by omega) (by omega) hz) (fun hzz => absurd rfl hzz)
set_option maxHeartbeats 400000 in
theorem lw_seen {X : zS} {i kc ks : Nat} (hi : i + 5 ≤ X.1) (hL : X.1 ≤ 320) {hp : List zC} (hI : INV hp) (nx : lwN2 X i kc ks) : ∃ hp', Z X m_LLL_law 41 (kc + 1) (ks + 6) (some (.int 1)) hp' 873 (lwL i) [] hp := by
  obtain ⟨r, hp1, hp2, d1, d2, mc, ms, f1, f2, ⟨hmc, hms, hd1, hd2⟩, hc0, R1, hc1, R2, I2⟩ := st_seen (X.2 (i + 1)) hp hI
  obtain ⟨hp', hz⟩ := nx hp2 I2
  refine ⟨hp', ?_⟩
  refine z_aload_n d_LLL_law_873 rfl 874 rfl ?_
  refine z_aload_nX d_LLL_law_874 rfl 875 rfl ?_
  refine z_iload_n d_LLL_law_875 rfl 876 rfl ?_
  refine z_iconst d_LLL_law_876 1 (by decide) 877 rfl ?_
  refine z_iadd d_LLL_law_877 878 rfl ?_
  refine z_sld d_LLL_law_878 (i + 1) 879 rfl (nI_add i 1) (by omega) (by omega) ?_
  refine z_invv (kc1 := kc + 1 - mc) (ks1 := ks + 6 - ms) d_LLL_law_879 882 rfl hm_Lir_seen lk_LLL_113 im_Lir_seen sl_Lir_Lir_seen rfl hc0 R1 rfl rfl (by omega) (by omega) (by omega) (Nat.le_of_ble_eq_true rfl) ?_
  refine z_aload_n d_LLL_law_882 rfl 883 rfl ?_
  refine z_aload_nX d_LLL_law_883 rfl 884 rfl ?_
  refine z_iload_n d_LLL_law_884 rfl 885 rfl ?_
  refine z_iconst d_LLL_law_885 1 (by decide) 886 rfl ?_
  refine z_iadd d_LLL_law_886 887 rfl ?_
  refine z_sld d_LLL_law_887 (i + 1) 888 rfl (nI_add i 1) (by omega) (by omega) ?_
  refine z_invv (kc1 := kc + 1 - mc) (ks1 := ks + 6 - ms) d_LLL_law_888 891 rfl hm_Mod_seen lk_LLL_116 im_Mod_seen sl_Mod_Mod_seen rfl hc1 R2 rfl rfl (by omega) rfl rfl (Nat.le_of_ble_eq_true rfl) ?_
  exact z_icmp_eq d_LLL_law_891 1169 894 (by decide) rfl (fun _ => Z.mono (by omega) (by omega) hz) (fun hzz => absurd rfl hzz)
set_option maxHeartbeats 400000 in
theorem lw_beyond {X : zS} {i kc ks : Nat} (hi : i + 5 ≤ X.1) (hL : X.1 ≤ 320) {hp : List zC} (hI : INV hp) (nx : lwN2 X i kc ks) : ∃ hp', Z X m_LLL_law 41 (kc + 1) (ks + 6) (some (.int 1)) hp' 896 (lwL i) [] hp := by
  obtain ⟨r, hp1, hp2, d1, d2, mc, ms, f1, f2, ⟨hmc, hms, hd1, hd2⟩, hc0, R1, hc1, R2, I2⟩ := st_beyond (X.2 (i + 1)) (X.2 (i + 2)) hp hI
  obtain ⟨hp', hz⟩ := nx hp2 I2
  refine ⟨hp', ?_⟩
  refine z_aload_n d_LLL_law_896 rfl 897 rfl ?_
  refine z_aload_nX d_LLL_law_897 rfl 898 rfl ?_
  refine z_iload_n d_LLL_law_898 rfl 899 rfl ?_
  refine z_iconst d_LLL_law_899 1 (by decide) 900 rfl ?_
  refine z_iadd d_LLL_law_900 901 rfl ?_
  refine z_sld d_LLL_law_901 (i + 1) 902 rfl (nI_add i 1) (by omega) (by omega) ?_
  refine z_aload_nX d_LLL_law_902 rfl 903 rfl ?_
  refine z_iload_n d_LLL_law_903 rfl 904 rfl ?_
  refine z_iconst d_LLL_law_904 2 (by decide) 905 rfl ?_
  refine z_iadd d_LLL_law_905 906 rfl ?_
  refine z_sld d_LLL_law_906 (i + 2) 907 rfl (nI_add i 2) (by omega) (by omega) ?_
  refine z_invv (kc1 := kc + 1 - mc) (ks1 := ks + 6 - ms) d_LLL_law_907 910 rfl hm_Lir_beyond lk_LLL_117 im_Lir_beyond sl_Lir_Lir_beyond rfl hc0 R1 rfl rfl (by omega) (by omega) (by omega) (Nat.le_of_ble_eq_true rfl) ?_
  refine z_aload_n d_LLL_law_910 rfl 911 rfl ?_
  refine z_aload_nX d_LLL_law_911 rfl 912 rfl ?_
  refine z_iload_n d_LLL_law_912 rfl 913 rfl ?_
  refine z_iconst d_LLL_law_913 1 (by decide) 914 rfl ?_
  refine z_iadd d_LLL_law_914 915 rfl ?_
  refine z_sld d_LLL_law_915 (i + 1) 916 rfl (nI_add i 1) (by omega) (by omega) ?_
  refine z_aload_nX d_LLL_law_916 rfl 917 rfl ?_
  refine z_iload_n d_LLL_law_917 rfl 918 rfl ?_
  refine z_iconst d_LLL_law_918 2 (by decide) 919 rfl ?_
  refine z_iadd d_LLL_law_919 920 rfl ?_
  refine z_sld d_LLL_law_920 (i + 2) 921 rfl (nI_add i 2) (by omega) (by omega) ?_
  refine z_invv (kc1 := kc + 1 - mc) (ks1 := ks + 6 - ms) d_LLL_law_921 924 rfl hm_Mod_beyond lk_LLL_120 im_Mod_beyond sl_Mod_Mod_beyond rfl hc1 R2 rfl rfl (by omega) rfl rfl (Nat.le_of_ble_eq_true rfl) ?_
  exact z_icmp_eq d_LLL_law_924 1169 927 (by decide) rfl (fun _ => Z.mono (by omega) (by omega) hz) (fun hzz => absurd rfl hzz)
set_option maxHeartbeats 400000 in
theorem lw_leads {X : zS} {i kc ks : Nat} (hi : i + 5 ≤ X.1) (hL : X.1 ≤ 320) {hp : List zC} (hI : INV hp) (nx : lwN2 X i kc ks) : ∃ hp', Z X m_LLL_law 41 (kc + 1) (ks + 6) (some (.int 1)) hp' 929 (lwL i) [] hp := by
  obtain ⟨r, hp1, hp2, d1, d2, mc, ms, f1, f2, ⟨hmc, hms, hd1, hd2⟩, hc0, R1, hc1, R2, I2⟩ := st_leads  hp hI
  obtain ⟨hp', hz⟩ := nx hp2 I2
  refine ⟨hp', ?_⟩
  refine z_aload_n d_LLL_law_929 rfl 930 rfl ?_
  refine z_invv (kc1 := kc + 1 - mc) (ks1 := ks + 6 - ms) d_LLL_law_930 933 rfl hm_Lir_leads lk_LLL_121 im_Lir_leads sl_Lir_Lir_leads rfl hc0 R1 rfl rfl (by omega) (by omega) (by omega) (Nat.le_of_ble_eq_true rfl) ?_
  refine z_aload_n d_LLL_law_933 rfl 934 rfl ?_
  refine z_invv (kc1 := kc + 1 - mc) (ks1 := ks + 6 - ms) d_LLL_law_934 937 rfl hm_Mod_leads lk_LLL_124 im_Mod_leads sl_Mod_Mod_leads rfl hc1 R2 rfl rfl (by omega) rfl rfl (Nat.le_of_ble_eq_true rfl) ?_
  exact z_icmp_eq d_LLL_law_937 1169 940 (by decide) rfl (fun _ => Z.mono (by omega) (by omega) hz) (fun hzz => absurd rfl hzz)
set_option maxHeartbeats 400000 in
theorem lw_pictures {X : zS} {i kc ks : Nat} (hi : i + 5 ≤ X.1) (hL : X.1 ≤ 320) {hp : List zC} (hI : INV hp) (nx : lwN2 X i kc ks) : ∃ hp', Z X m_LLL_law 41 (kc + 1) (ks + 6) (some (.int 1)) hp' 942 (lwL i) [] hp := by
  obtain ⟨r, hp1, hp2, d1, d2, mc, ms, f1, f2, ⟨hmc, hms, hd1, hd2⟩, hc0, R1, hc1, R2, I2⟩ := st_pictures (X.2 (i + 1)) hp hI
  obtain ⟨hp', hz⟩ := nx hp2 I2
  refine ⟨hp', ?_⟩
  refine z_aload_n d_LLL_law_942 rfl 943 rfl ?_
  refine z_aload_nX d_LLL_law_943 rfl 944 rfl ?_
  refine z_iload_n d_LLL_law_944 rfl 945 rfl ?_
  refine z_iconst d_LLL_law_945 1 (by decide) 946 rfl ?_
  refine z_iadd d_LLL_law_946 947 rfl ?_
  refine z_sld d_LLL_law_947 (i + 1) 948 rfl (nI_add i 1) (by omega) (by omega) ?_
  refine z_invv (kc1 := kc + 1 - mc) (ks1 := ks + 6 - ms) d_LLL_law_948 951 rfl hm_Lir_pictures lk_LLL_125 im_Lir_pictures sl_Lir_Lir_pictures rfl hc0 R1 rfl rfl (by omega) (by omega) (by omega) (Nat.le_of_ble_eq_true rfl) ?_
  refine z_aload_n d_LLL_law_951 rfl 952 rfl ?_
  refine z_aload_nX d_LLL_law_952 rfl 953 rfl ?_
  refine z_iload_n d_LLL_law_953 rfl 954 rfl ?_
  refine z_iconst d_LLL_law_954 1 (by decide) 955 rfl ?_
  refine z_iadd d_LLL_law_955 956 rfl ?_
  refine z_sld d_LLL_law_956 (i + 1) 957 rfl (nI_add i 1) (by omega) (by omega) ?_
  refine z_invv (kc1 := kc + 1 - mc) (ks1 := ks + 6 - ms) d_LLL_law_957 960 rfl hm_Mod_pictures lk_LLL_128 im_Mod_pictures sl_Mod_Mod_pictures rfl hc1 R2 rfl rfl (by omega) rfl rfl (Nat.le_of_ble_eq_true rfl) ?_
  exact z_icmp_eq d_LLL_law_960 1169 963 (by decide) rfl (fun _ => Z.mono (by omega) (by omega) hz) (fun hzz => absurd rfl hzz)
set_option maxHeartbeats 400000 in
theorem lw_bench {X : zS} {i kc ks : Nat} (hi : i + 5 ≤ X.1) (hL : X.1 ≤ 320) {hp : List zC} (hI : INV hp) (nx : lwN2 X i kc ks) : ∃ hp', Z X m_LLL_law 41 (kc + 1) (ks + 6) (some (.int 1)) hp' 965 (lwL i) [] hp := by
  obtain ⟨r, hp1, hp2, d1, d2, mc, ms, f1, f2, ⟨hmc, hms, hd1, hd2⟩, hc0, R1, hc1, R2, I2⟩ := st_bench (X.2 (i + 1)) (X.2 (i + 2)) (X.2 (i + 3)) (X.2 (i + 4)) hp hI
  obtain ⟨hp', hz⟩ := nx hp2 I2
  refine ⟨hp', ?_⟩
  refine z_aload_n d_LLL_law_965 rfl 966 rfl ?_
  refine z_aload_nX d_LLL_law_966 rfl 967 rfl ?_
  refine z_iload_n d_LLL_law_967 rfl 968 rfl ?_
  refine z_iconst d_LLL_law_968 1 (by decide) 969 rfl ?_
  refine z_iadd d_LLL_law_969 970 rfl ?_
  refine z_sld d_LLL_law_970 (i + 1) 971 rfl (nI_add i 1) (by omega) (by omega) ?_
  refine z_aload_nX d_LLL_law_971 rfl 972 rfl ?_
  refine z_iload_n d_LLL_law_972 rfl 973 rfl ?_
  refine z_iconst d_LLL_law_973 2 (by decide) 974 rfl ?_
  refine z_iadd d_LLL_law_974 975 rfl ?_
  refine z_sld d_LLL_law_975 (i + 2) 976 rfl (nI_add i 2) (by omega) (by omega) ?_
  refine z_aload_nX d_LLL_law_976 rfl 977 rfl ?_
  refine z_iload_n d_LLL_law_977 rfl 978 rfl ?_
  refine z_iconst d_LLL_law_978 3 (by decide) 979 rfl ?_
  refine z_iadd d_LLL_law_979 980 rfl ?_
  refine z_sld d_LLL_law_980 (i + 3) 981 rfl (nI_add i 3) (by omega) (by omega) ?_
  refine z_aload_nX d_LLL_law_981 rfl 982 rfl ?_
  refine z_iload_n d_LLL_law_982 rfl 983 rfl ?_
  refine z_iconst d_LLL_law_983 4 (by decide) 984 rfl ?_
  refine z_iadd d_LLL_law_984 985 rfl ?_
  refine z_sld d_LLL_law_985 (i + 4) 986 rfl (nI_add i 4) (by omega) (by omega) ?_
  refine z_invv (kc1 := kc + 1 - mc) (ks1 := ks + 6 - ms) d_LLL_law_986 989 rfl hm_Lir_bench lk_LLL_129 im_Lir_bench sl_Lir_Lir_bench rfl hc0 R1 rfl rfl (by omega) (by omega) (by omega) (Nat.le_of_ble_eq_true rfl) ?_
  refine z_aload_n d_LLL_law_989 rfl 990 rfl ?_
  refine z_aload_nX d_LLL_law_990 rfl 991 rfl ?_
  refine z_iload_n d_LLL_law_991 rfl 992 rfl ?_
  refine z_iconst d_LLL_law_992 1 (by decide) 993 rfl ?_
  refine z_iadd d_LLL_law_993 994 rfl ?_
  refine z_sld d_LLL_law_994 (i + 1) 995 rfl (nI_add i 1) (by omega) (by omega) ?_
  refine z_aload_nX d_LLL_law_995 rfl 996 rfl ?_
  refine z_iload_n d_LLL_law_996 rfl 997 rfl ?_
  refine z_iconst d_LLL_law_997 2 (by decide) 998 rfl ?_
  refine z_iadd d_LLL_law_998 999 rfl ?_
  refine z_sld d_LLL_law_999 (i + 2) 1000 rfl (nI_add i 2) (by omega) (by omega) ?_
  refine z_aload_nX d_LLL_law_1000 rfl 1001 rfl ?_
  refine z_iload_n d_LLL_law_1001 rfl 1002 rfl ?_
  refine z_iconst d_LLL_law_1002 3 (by decide) 1003 rfl ?_
  refine z_iadd d_LLL_law_1003 1004 rfl ?_
  refine z_sld d_LLL_law_1004 (i + 3) 1005 rfl (nI_add i 3) (by omega) (by omega) ?_
  refine z_aload_nX d_LLL_law_1005 rfl 1006 rfl ?_
  refine z_iload_n d_LLL_law_1006 rfl 1007 rfl ?_
  refine z_iconst d_LLL_law_1007 4 (by decide) 1008 rfl ?_
  refine z_iadd d_LLL_law_1008 1009 rfl ?_
  refine z_sld d_LLL_law_1009 (i + 4) 1010 rfl (nI_add i 4) (by omega) (by omega) ?_
  refine z_invv (kc1 := kc + 1 - mc) (ks1 := ks + 6 - ms) d_LLL_law_1010 1013 rfl hm_Mod_bench lk_LLL_133 im_Mod_bench sl_Mod_Mod_bench rfl hc1 R2 rfl rfl (by omega) rfl rfl (Nat.le_of_ble_eq_true rfl) ?_
  exact z_icmp_eq d_LLL_law_1013 1169 1016 (by decide) rfl (fun _ => Z.mono (by omega) (by omega) hz) (fun hzz => absurd rfl hzz)
set_option maxHeartbeats 400000 in
theorem lw_lines {X : zS} {i kc ks : Nat} (hi : i + 5 ≤ X.1) (hL : X.1 ≤ 320) {hp : List zC} (hI : INV hp) (nx : lwN2 X i kc ks) : ∃ hp', Z X m_LLL_law 41 (kc + 1) (ks + 6) (some (.int 1)) hp' 1018 (lwL i) [] hp := by
  obtain ⟨r, hp1, hp2, d1, d2, mc, ms, f1, f2, ⟨hmc, hms, hd1, hd2⟩, hc0, R1, hc1, R2, I2⟩ := st_lines (X.2 (i + 1)) hp hI
  obtain ⟨hp', hz⟩ := nx hp2 I2
  refine ⟨hp', ?_⟩
  refine z_aload_n d_LLL_law_1018 rfl 1019 rfl ?_
  refine z_aload_nX d_LLL_law_1019 rfl 1020 rfl ?_
  refine z_iload_n d_LLL_law_1020 rfl 1021 rfl ?_
  refine z_iconst d_LLL_law_1021 1 (by decide) 1022 rfl ?_
  refine z_iadd d_LLL_law_1022 1023 rfl ?_
  refine z_sld d_LLL_law_1023 (i + 1) 1024 rfl (nI_add i 1) (by omega) (by omega) ?_
  refine z_invv (kc1 := kc + 1 - mc) (ks1 := ks + 6 - ms) d_LLL_law_1024 1027 rfl hm_Lir_lines lk_LLL_134 im_Lir_lines sl_Lir_Lir_lines rfl hc0 R1 rfl rfl (by omega) (by omega) (by omega) (Nat.le_of_ble_eq_true rfl) ?_
  refine z_aload_n d_LLL_law_1027 rfl 1028 rfl ?_
  refine z_aload_nX d_LLL_law_1028 rfl 1029 rfl ?_
  refine z_iload_n d_LLL_law_1029 rfl 1030 rfl ?_
  refine z_iconst d_LLL_law_1030 1 (by decide) 1031 rfl ?_
  refine z_iadd d_LLL_law_1031 1032 rfl ?_
  refine z_sld d_LLL_law_1032 (i + 1) 1033 rfl (nI_add i 1) (by omega) (by omega) ?_
  refine z_invv (kc1 := kc + 1 - mc) (ks1 := ks + 6 - ms) d_LLL_law_1033 1036 rfl hm_Mod_lines lk_LLL_137 im_Mod_lines sl_Mod_Mod_lines rfl hc1 R2 rfl rfl (by omega) rfl rfl (Nat.le_of_ble_eq_true rfl) ?_
  exact z_icmp_eq d_LLL_law_1036 1169 1039 (by decide) rfl (fun _ => Z.mono (by omega) (by omega) hz) (fun hzz => absurd rfl hzz)
set_option maxHeartbeats 400000 in
theorem lw_misses {X : zS} {i kc ks : Nat} (hi : i + 5 ≤ X.1) (hL : X.1 ≤ 320) {hp : List zC} (hI : INV hp) (nx : lwN2 X i kc ks) : ∃ hp', Z X m_LLL_law 41 (kc + 1) (ks + 6) (some (.int 1)) hp' 1041 (lwL i) [] hp := by
  obtain ⟨r, hp1, hp2, d1, d2, mc, ms, f1, f2, ⟨hmc, hms, hd1, hd2⟩, hc0, R1, hc1, R2, I2⟩ := st_misses (X.2 (i + 1)) hp hI
  obtain ⟨hp', hz⟩ := nx hp2 I2
  refine ⟨hp', ?_⟩
  refine z_aload_n d_LLL_law_1041 rfl 1042 rfl ?_
  refine z_aload_nX d_LLL_law_1042 rfl 1043 rfl ?_
  refine z_iload_n d_LLL_law_1043 rfl 1044 rfl ?_
  refine z_iconst d_LLL_law_1044 1 (by decide) 1045 rfl ?_
  refine z_iadd d_LLL_law_1045 1046 rfl ?_
  refine z_sld d_LLL_law_1046 (i + 1) 1047 rfl (nI_add i 1) (by omega) (by omega) ?_
  refine z_invv (kc1 := kc + 1 - mc) (ks1 := ks + 6 - ms) d_LLL_law_1047 1050 rfl hm_Lir_misses lk_LLL_138 im_Lir_misses sl_Lir_Lir_misses rfl hc0 R1 rfl rfl (by omega) (by omega) (by omega) (Nat.le_of_ble_eq_true rfl) ?_
  refine z_aload_n d_LLL_law_1050 rfl 1051 rfl ?_
  refine z_aload_nX d_LLL_law_1051 rfl 1052 rfl ?_
  refine z_iload_n d_LLL_law_1052 rfl 1053 rfl ?_
  refine z_iconst d_LLL_law_1053 1 (by decide) 1054 rfl ?_
  refine z_iadd d_LLL_law_1054 1055 rfl ?_
  refine z_sld d_LLL_law_1055 (i + 1) 1056 rfl (nI_add i 1) (by omega) (by omega) ?_
  refine z_invv (kc1 := kc + 1 - mc) (ks1 := ks + 6 - ms) d_LLL_law_1056 1059 rfl hm_Mod_misses lk_LLL_141 im_Mod_misses sl_Mod_Mod_misses rfl hc1 R2 rfl rfl (by omega) rfl rfl (Nat.le_of_ble_eq_true rfl) ?_
  exact z_icmp_eq d_LLL_law_1059 1169 1062 (by decide) rfl (fun _ => Z.mono (by omega) (by omega) hz) (fun hzz => absurd rfl hzz)
set_option maxHeartbeats 400000 in
theorem lw_barred {X : zS} {i kc ks : Nat} (hi : i + 5 ≤ X.1) (hL : X.1 ≤ 320) {hp : List zC} (hI : INV hp) (nx : lwN2 X i kc ks) : ∃ hp', Z X m_LLL_law 41 (kc + 1) (ks + 6) (some (.int 1)) hp' 1064 (lwL i) [] hp := by
  obtain ⟨r, hp1, hp2, d1, d2, mc, ms, f1, f2, ⟨hmc, hms, hd1, hd2⟩, hc0, R1, hc1, R2, I2⟩ := st_barred (X.2 (i + 1)) hp hI
  obtain ⟨hp', hz⟩ := nx hp2 I2
  refine ⟨hp', ?_⟩
  refine z_aload_n d_LLL_law_1064 rfl 1065 rfl ?_
  refine z_aload_nX d_LLL_law_1065 rfl 1066 rfl ?_
  refine z_iload_n d_LLL_law_1066 rfl 1067 rfl ?_
  refine z_iconst d_LLL_law_1067 1 (by decide) 1068 rfl ?_
  refine z_iadd d_LLL_law_1068 1069 rfl ?_
  refine z_sld d_LLL_law_1069 (i + 1) 1070 rfl (nI_add i 1) (by omega) (by omega) ?_
  refine z_invv (kc1 := kc + 1 - mc) (ks1 := ks + 6 - ms) d_LLL_law_1070 1073 rfl hm_Lir_barred lk_LLL_142 im_Lir_barred sl_Lir_Lir_barred rfl hc0 R1 rfl rfl (by omega) (by omega) (by omega) (Nat.le_of_ble_eq_true rfl) ?_
  refine z_aload_n d_LLL_law_1073 rfl 1074 rfl ?_
  refine z_aload_nX d_LLL_law_1074 rfl 1075 rfl ?_
  refine z_iload_n d_LLL_law_1075 rfl 1076 rfl ?_
  refine z_iconst d_LLL_law_1076 1 (by decide) 1077 rfl ?_
  refine z_iadd d_LLL_law_1077 1078 rfl ?_
  refine z_sld d_LLL_law_1078 (i + 1) 1079 rfl (nI_add i 1) (by omega) (by omega) ?_
  refine z_invv (kc1 := kc + 1 - mc) (ks1 := ks + 6 - ms) d_LLL_law_1079 1082 rfl hm_Mod_barred lk_LLL_145 im_Mod_barred sl_Mod_Mod_barred rfl hc1 R2 rfl rfl (by omega) rfl rfl (Nat.le_of_ble_eq_true rfl) ?_
  exact z_icmp_eq d_LLL_law_1082 1169 1085 (by decide) rfl (fun _ => Z.mono (by omega) (by omega) hz) (fun hzz => absurd rfl hzz)
set_option maxHeartbeats 400000 in
theorem lw_glasses {X : zS} {i kc ks : Nat} (hi : i + 5 ≤ X.1) (hL : X.1 ≤ 320) {hp : List zC} (hI : INV hp) (nx : lwN2 X i kc ks) : ∃ hp', Z X m_LLL_law 41 (kc + 1) (ks + 6) (some (.int 1)) hp' 1087 (lwL i) [] hp := by
  obtain ⟨r, hp1, hp2, d1, d2, mc, ms, f1, f2, ⟨hmc, hms, hd1, hd2⟩, hc0, R1, hc1, R2, I2⟩ := st_glasses (X.2 (i + 1)) (X.2 (i + 2)) hp hI
  obtain ⟨hp', hz⟩ := nx hp2 I2
  refine ⟨hp', ?_⟩
  refine z_aload_n d_LLL_law_1087 rfl 1088 rfl ?_
  refine z_aload_nX d_LLL_law_1088 rfl 1089 rfl ?_
  refine z_iload_n d_LLL_law_1089 rfl 1090 rfl ?_
  refine z_iconst d_LLL_law_1090 1 (by decide) 1091 rfl ?_
  refine z_iadd d_LLL_law_1091 1092 rfl ?_
  refine z_sld d_LLL_law_1092 (i + 1) 1093 rfl (nI_add i 1) (by omega) (by omega) ?_
  refine z_aload_nX d_LLL_law_1093 rfl 1094 rfl ?_
  refine z_iload_n d_LLL_law_1094 rfl 1095 rfl ?_
  refine z_iconst d_LLL_law_1095 2 (by decide) 1096 rfl ?_
  refine z_iadd d_LLL_law_1096 1097 rfl ?_
  refine z_sld d_LLL_law_1097 (i + 2) 1098 rfl (nI_add i 2) (by omega) (by omega) ?_
  refine z_invv (kc1 := kc + 1 - mc) (ks1 := ks + 6 - ms) d_LLL_law_1098 1101 rfl hm_Lir_glasses lk_LLL_146 im_Lir_glasses sl_Lir_Lir_glasses rfl hc0 R1 rfl rfl (by omega) (by omega) (by omega) (Nat.le_of_ble_eq_true rfl) ?_
  refine z_aload_n d_LLL_law_1101 rfl 1102 rfl ?_
  refine z_aload_nX d_LLL_law_1102 rfl 1103 rfl ?_
  refine z_iload_n d_LLL_law_1103 rfl 1104 rfl ?_
  refine z_iconst d_LLL_law_1104 1 (by decide) 1105 rfl ?_
  refine z_iadd d_LLL_law_1105 1106 rfl ?_
  refine z_sld d_LLL_law_1106 (i + 1) 1107 rfl (nI_add i 1) (by omega) (by omega) ?_
  refine z_aload_nX d_LLL_law_1107 rfl 1108 rfl ?_
  refine z_iload_n d_LLL_law_1108 rfl 1109 rfl ?_
  refine z_iconst d_LLL_law_1109 2 (by decide) 1110 rfl ?_
  refine z_iadd d_LLL_law_1110 1111 rfl ?_
  refine z_sld d_LLL_law_1111 (i + 2) 1112 rfl (nI_add i 2) (by omega) (by omega) ?_
  refine z_invv (kc1 := kc + 1 - mc) (ks1 := ks + 6 - ms) d_LLL_law_1112 1115 rfl hm_Mod_glasses lk_LLL_149 im_Mod_glasses sl_Mod_Mod_glasses rfl hc1 R2 rfl rfl (by omega) rfl rfl (Nat.le_of_ble_eq_true rfl) ?_
  exact z_icmp_eq d_LLL_law_1115 1169 1118 (by decide) rfl (fun _ => Z.mono (by omega) (by omega) hz) (fun hzz => absurd rfl hzz)
set_option maxHeartbeats 400000 in
theorem lw_image {X : zS} {i kc ks : Nat} (hi : i + 5 ≤ X.1) (hL : X.1 ≤ 320) {hp : List zC} (hI : INV hp) (nx : lwN2 X i kc ks) : ∃ hp', Z X m_LLL_law 41 (kc + 1) (ks + 6) (some (.int 1)) hp' 1120 (lwL i) [] hp := by
  obtain ⟨r, hp1, hp2, d1, d2, mc, ms, f1, f2, ⟨hmc, hms, hd1, hd2⟩, hc0, R1, hc1, R2, I2⟩ := st_image  hp hI
  obtain ⟨hp', hz⟩ := nx hp2 I2
  refine ⟨hp', ?_⟩
  refine z_aload_n d_LLL_law_1120 rfl 1121 rfl ?_
  refine z_invv (kc1 := kc + 1 - mc) (ks1 := ks + 6 - ms) d_LLL_law_1121 1124 rfl hm_Lir_image lk_LLL_150 im_Lir_image sl_Lir_Lir_image rfl hc0 R1 rfl rfl (by omega) (by omega) (by omega) (Nat.le_of_ble_eq_true rfl) ?_
  refine z_aload_n d_LLL_law_1124 rfl 1125 rfl ?_
  refine z_invv (kc1 := kc + 1 - mc) (ks1 := ks + 6 - ms) d_LLL_law_1125 1128 rfl hm_Mod_image lk_LLL_153 im_Mod_image sl_Mod_Mod_image rfl hc1 R2 rfl rfl (by omega) rfl rfl (Nat.le_of_ble_eq_true rfl) ?_
  exact z_icmp_eq d_LLL_law_1128 1169 1131 (by decide) rfl (fun _ => Z.mono (by omega) (by omega) hz) (fun hzz => absurd rfl hzz)
set_option maxHeartbeats 400000 in
theorem lw_on {X : zS} {i kc ks : Nat} (hi : i + 5 ≤ X.1) (hL : X.1 ≤ 320) {hp : List zC} (hI : INV hp) (nx : lwN2 X i kc ks) : ∃ hp', Z X m_LLL_law 41 (kc + 1) (ks + 6) (some (.int 1)) hp' 1133 (lwL i) [] hp := by
  obtain ⟨r, hp1, hp2, d1, d2, mc, ms, f1, f2, ⟨hmc, hms, hd1, hd2⟩, hc0, R1, hc1, R2, I2⟩ := st_on  hp hI
  obtain ⟨hp', hz⟩ := nx hp2 I2
  refine ⟨hp', ?_⟩
  refine z_aload_n d_LLL_law_1133 rfl 1134 rfl ?_
  refine z_invv (kc1 := kc + 1 - mc) (ks1 := ks + 6 - ms) d_LLL_law_1134 1137 rfl hm_Lir_on lk_LLL_154 im_Lir_on sl_Lir_Lir_on rfl hc0 R1 rfl rfl (by omega) (by omega) (by omega) (Nat.le_of_ble_eq_true rfl) ?_
  refine z_aload_n d_LLL_law_1137 rfl 1138 rfl ?_
  refine z_invv (kc1 := kc + 1 - mc) (ks1 := ks + 6 - ms) d_LLL_law_1138 1141 rfl hm_Mod_on lk_LLL_157 im_Mod_on sl_Mod_Mod_on rfl hc1 R2 rfl rfl (by omega) rfl rfl (Nat.le_of_ble_eq_true rfl) ?_
  exact z_icmp_eq d_LLL_law_1141 1169 1144 (by decide) rfl (fun _ => Z.mono (by omega) (by omega) hz) (fun hzz => absurd rfl hzz)
set_option maxHeartbeats 400000 in
theorem lw_count {X : zS} {i kc ks : Nat} (hi : i + 5 ≤ X.1) (hL : X.1 ≤ 320) {hp : List zC} (hI : INV hp) (nx : lwN2 X i kc ks) : ∃ hp', Z X m_LLL_law 41 (kc + 1) (ks + 6) (some (.int 1)) hp' 1146 (lwL i) [] hp := by
  obtain ⟨r, hp1, hp2, d1, d2, mc, ms, f1, f2, ⟨hmc, hms, hd1, hd2⟩, hc0, R1, hc1, R2, I2⟩ := st_count (X.2 (i + 1)) hp hI
  obtain ⟨hp', hz⟩ := nx hp2 I2
  refine ⟨hp', ?_⟩
  refine z_aload_n d_LLL_law_1146 rfl 1147 rfl ?_
  refine z_aload_nX d_LLL_law_1147 rfl 1148 rfl ?_
  refine z_iload_n d_LLL_law_1148 rfl 1149 rfl ?_
  refine z_iconst d_LLL_law_1149 1 (by decide) 1150 rfl ?_
  refine z_iadd d_LLL_law_1150 1151 rfl ?_
  refine z_sld d_LLL_law_1151 (i + 1) 1152 rfl (nI_add i 1) (by omega) (by omega) ?_
  refine z_invv (kc1 := kc + 1 - mc) (ks1 := ks + 6 - ms) d_LLL_law_1152 1155 rfl hm_Lir_count lk_LLL_158 im_Lir_count sl_Lir_Lir_count rfl hc0 R1 rfl rfl (by omega) (by omega) (by omega) (Nat.le_of_ble_eq_true rfl) ?_
  refine z_aload_n d_LLL_law_1155 rfl 1156 rfl ?_
  refine z_aload_nX d_LLL_law_1156 rfl 1157 rfl ?_
  refine z_iload_n d_LLL_law_1157 rfl 1158 rfl ?_
  refine z_iconst d_LLL_law_1158 1 (by decide) 1159 rfl ?_
  refine z_iadd d_LLL_law_1159 1160 rfl ?_
  refine z_sld d_LLL_law_1160 (i + 1) 1161 rfl (nI_add i 1) (by omega) (by omega) ?_
  refine z_invv (kc1 := kc + 1 - mc) (ks1 := ks + 6 - ms) d_LLL_law_1161 1164 rfl hm_Mod_count lk_LLL_161 im_Mod_count sl_Mod_Mod_count rfl hc1 R2 rfl rfl (by omega) rfl rfl (Nat.le_of_ble_eq_true rfl) ?_
  exact z_icmp_eq d_LLL_law_1164 1169 1167 (by decide) rfl (fun _ => Z.mono (by omega) (by omega) hz) (fun hzz => absurd rfl hzz)
