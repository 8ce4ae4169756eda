/-! the law: its cases -/
section LAW
variable {l : Launch} {G : GT} {d mc ms k n i c m t a1 a2 a3 r pc : Nat} {Q : Option Value → Hp → Prop} {h : Hp} {U : MS} {st : List Value}
theorem p_chart (hI : Inv h U) (hD : ∀ i, h.1 + 16 ≤ i → h.2 i = zdead) (hd : 46 ≤ d) : PrC l G d h := by
  obtain ⟨c, m, t, a1, a2, a3, n, r, hI1, hC, hM, hh⟩ := hI
  have hc := hI1.2.2.1.1
  by_cases hc6 : c = 6
  · exact f_chart hI1 hC hM hh hc6 hd
  · by_cases hg : pGood n (pRA (U.1 4) n mLe N0 mWo) = true
    · exact g_chart hI1 hC hM hh hD (by omega) hg hd
    · exact n_chart hI1 hC hM hh (by omega) hg hd
theorem Inv.z6 (hI : Inv h U) : zOb (h.2 16) 6 14 := by
  obtain ⟨c, m, t, a1, a2, a3, n, r, hI1, hC, hM, hh⟩ := hI
  rw [hC.ob.1]; exact ⟨rfl, rfl⟩
theorem aw_dead {M : MT} {lv : LV} (kk : (∀ i, h.1 + 16 ≤ i → h.2 i = zdead) → AW l G M d mc ms Q k n h lv st pc) : AW l G M d mc ms Q k n h lv st pc := by
  intro p e s m args below meth c H locs ls Z hC hR hS hl hF
  exact kk hR.2.2.1 p e s m args below meth c H locs ls Z hC hR hS hl hF
abbrev mL : MT := (RL, cL_law, 4, some .boolean, false)
abbrev LvL (i : Nat) : LV := [some (.ref 0), some (.ref 16), some (.ref 77), some (.int (nI i))]
theorem zlow0 : zlow G 0 = .inl (0, (gL G, .inl (gx G))) := rfl
theorem aw_scr (c : Nat) {z : Int} (e0 : decode mL.2.1 pc = .ok (.aload_n 0, 1)) (e1 : decode mL.2.1 (pc + 1) = .ok (.iload_n 3, 1)) (e2 : decode mL.2.1 (pc + 2) = .ok (.iconst z, 1)) (e3 : decode mL.2.1 (pc + 3) = .ok (.iadd, 1)) (e4 : decode mL.2.1 (pc + 4) = .ok (.iaload, 1)) (hz : Int32.ofInt z = nI c) (hi : i + c < gL G) (hL : gL G ≤ 3072)
    (kk : AW l G mL d mc ms Q k n h (LvL i) (.int (gx G (i + c)) :: st) (pc + 5)) : AW l G mL d mc ms Q k n h (LvL i) st pc := by
  refine aw_aload_n (pc' := pc + 1) e0 rfl rfl trivial ?_
  refine aw_iload_n (pc' := pc + 2) e1 rfl rfl ?_
  refine aw_iconst (v := nI c) (pc' := pc + 3) e2 rfl hz ?_
  refine aw_iadd (pc' := pc + 4) e3 rfl ?_
  rw [nI_add]
  refine aw_low fun hlow => ?_
  have h0 := hlow 0 (by decide)
  refine aw_iaload (pc' := pc + 5) e4 rfl (by rw [h0]; rfl) (by rw [h0]; exact vp_in_nI hi (Nat.lt_of_le_of_lt hL (by omega))) ?_
  rw [h0, nI_clamp (by omega)]
  exact kk
theorem lg_cmp_self (x : Int64) : lg_cmp x x = 0 := by unfold lg_cmp; simp
theorem eL_0 : decode mL.2.1 0 = .ok (.new 7, 3) := by decide +kernel
theorem eL_3 : decode mL.2.1 3 = .ok (.dup, 1) := by decide +kernel
theorem eL_4 : decode mL.2.1 4 = .ok (.invokespecial 9, 3) := by decide +kernel
theorem eL_7 : decode mL.2.1 7 = .ok (.astore_n 1, 1) := by decide +kernel
theorem eL_8 : decode mL.2.1 8 = .ok (.new 10, 3) := by decide +kernel
theorem eL_11 : decode mL.2.1 11 = .ok (.dup, 1) := by decide +kernel
theorem eL_12 : decode mL.2.1 12 = .ok (.invokespecial 12, 3) := by decide +kernel
theorem eL_15 : decode mL.2.1 15 = .ok (.astore_n 2, 1) := by decide +kernel
theorem eL_16 : decode mL.2.1 16 = .ok (.iconst 0, 1) := by decide +kernel
theorem eL_17 : decode mL.2.1 17 = .ok (.istore_n 3, 1) := by decide +kernel
theorem eL_18 : decode mL.2.1 18 = .ok (.iload_n 3, 1) := by decide +kernel
theorem eL_19 : decode mL.2.1 19 = .ok (.aload_n 0, 1) := by decide +kernel
theorem eL_20 : decode mL.2.1 20 = .ok (.arraylength, 1) := by decide +kernel
theorem eL_21 : decode mL.2.1 21 = .ok (.bipush 6, 2) := by decide +kernel
theorem eL_23 : decode mL.2.1 23 = .ok (.isub, 1) := by decide +kernel
theorem eL_24 : decode mL.2.1 24 = .ok (.if_icmp .gt 1224, 3) := by decide +kernel
theorem eL_27 : decode mL.2.1 27 = .ok (.aload_n 0, 1) := by decide +kernel
theorem eL_28 : decode mL.2.1 28 = .ok (.iload_n 3, 1) := by decide +kernel
theorem eL_29 : decode mL.2.1 29 = .ok (.iaload, 1) := by decide +kernel
theorem eL_30 : decode mL.2.1 30 = .ok (.bipush 63, 2) := by decide +kernel
theorem eL_32 : decode mL.2.1 32 = .ok (.iand, 1) := by decide +kernel
theorem eL_33 : decode mL.2.1 33 = .ok (.tableswitch 1209 0 32 #[147, 190, 223, 246, 279, 322, 355, 398, 421, 434, 457, 480, 513, 546, 589, 612, 645, 689, 713, 746, 769, 802, 815, 848, 861, 874, 917, 940, 973, 996, 1039, 1112, 1146], 147) := by decide +kernel
theorem eL_180 : decode mL.2.1 180 = .ok (.aload_n 1, 1) := by decide +kernel
theorem eL_181 : decode mL.2.1 181 = .ok (.aload_n 0, 1) := by decide +kernel
theorem eL_182 : decode mL.2.1 182 = .ok (.iload_n 3, 1) := by decide +kernel
theorem eL_183 : decode mL.2.1 183 = .ok (.iconst 1, 1) := by decide +kernel
theorem eL_184 : decode mL.2.1 184 = .ok (.iadd, 1) := by decide +kernel
theorem eL_185 : decode mL.2.1 185 = .ok (.iaload, 1) := by decide +kernel
theorem eL_186 : decode mL.2.1 186 = .ok (.aload_n 0, 1) := by decide +kernel
theorem eL_187 : decode mL.2.1 187 = .ok (.iload_n 3, 1) := by decide +kernel
theorem eL_188 : decode mL.2.1 188 = .ok (.iconst 2, 1) := by decide +kernel
theorem eL_189 : decode mL.2.1 189 = .ok (.iadd, 1) := by decide +kernel
theorem eL_190 : decode mL.2.1 190 = .ok (.iaload, 1) := by decide +kernel
theorem eL_191 : decode mL.2.1 191 = .ok (.aload_n 0, 1) := by decide +kernel
theorem eL_192 : decode mL.2.1 192 = .ok (.iload_n 3, 1) := by decide +kernel
theorem eL_193 : decode mL.2.1 193 = .ok (.iconst 3, 1) := by decide +kernel
theorem eL_194 : decode mL.2.1 194 = .ok (.iadd, 1) := by decide +kernel
theorem eL_195 : decode mL.2.1 195 = .ok (.iaload, 1) := by decide +kernel
theorem eL_196 : decode mL.2.1 196 = .ok (.invokevirtual 13, 3) := by decide +kernel
theorem eL_199 : decode mL.2.1 199 = .ok (.aload_n 2, 1) := by decide +kernel
theorem eL_200 : decode mL.2.1 200 = .ok (.aload_n 0, 1) := by decide +kernel
theorem eL_201 : decode mL.2.1 201 = .ok (.iload_n 3, 1) := by decide +kernel
theorem eL_202 : decode mL.2.1 202 = .ok (.iconst 1, 1) := by decide +kernel
theorem eL_203 : decode mL.2.1 203 = .ok (.iadd, 1) := by decide +kernel
theorem eL_204 : decode mL.2.1 204 = .ok (.iaload, 1) := by decide +kernel
theorem eL_205 : decode mL.2.1 205 = .ok (.aload_n 0, 1) := by decide +kernel
theorem eL_206 : decode mL.2.1 206 = .ok (.iload_n 3, 1) := by decide +kernel
theorem eL_207 : decode mL.2.1 207 = .ok (.iconst 2, 1) := by decide +kernel
theorem eL_208 : decode mL.2.1 208 = .ok (.iadd, 1) := by decide +kernel
theorem eL_209 : decode mL.2.1 209 = .ok (.iaload, 1) := by decide +kernel
theorem eL_210 : decode mL.2.1 210 = .ok (.aload_n 0, 1) := by decide +kernel
theorem eL_211 : decode mL.2.1 211 = .ok (.iload_n 3, 1) := by decide +kernel
theorem eL_212 : decode mL.2.1 212 = .ok (.iconst 3, 1) := by decide +kernel
theorem eL_213 : decode mL.2.1 213 = .ok (.iadd, 1) := by decide +kernel
theorem eL_214 : decode mL.2.1 214 = .ok (.iaload, 1) := by decide +kernel
theorem eL_215 : decode mL.2.1 215 = .ok (.invokevirtual 17, 3) := by decide +kernel
theorem eL_218 : decode mL.2.1 218 = .ok (.if_icmp .eq 1024, 3) := by decide +kernel
theorem eL_221 : decode mL.2.1 221 = .ok (.iconst 0, 1) := by decide +kernel
theorem eL_222 : decode mL.2.1 222 = .ok (.ireturn, 1) := by decide +kernel
theorem eL_223 : decode mL.2.1 223 = .ok (.aload_n 1, 1) := by decide +kernel
theorem eL_224 : decode mL.2.1 224 = .ok (.aload_n 0, 1) := by decide +kernel
theorem eL_225 : decode mL.2.1 225 = .ok (.iload_n 3, 1) := by decide +kernel
theorem eL_226 : decode mL.2.1 226 = .ok (.iconst 1, 1) := by decide +kernel
theorem eL_227 : decode mL.2.1 227 = .ok (.iadd, 1) := by decide +kernel
theorem eL_228 : decode mL.2.1 228 = .ok (.iaload, 1) := by decide +kernel
theorem eL_229 : decode mL.2.1 229 = .ok (.aload_n 0, 1) := by decide +kernel
theorem eL_230 : decode mL.2.1 230 = .ok (.iload_n 3, 1) := by decide +kernel
theorem eL_231 : decode mL.2.1 231 = .ok (.iconst 2, 1) := by decide +kernel
theorem eL_232 : decode mL.2.1 232 = .ok (.iadd, 1) := by decide +kernel
theorem eL_233 : decode mL.2.1 233 = .ok (.iaload, 1) := by decide +kernel
theorem eL_234 : decode mL.2.1 234 = .ok (.invokevirtual 18, 3) := by decide +kernel
theorem eL_237 : decode mL.2.1 237 = .ok (.aload_n 2, 1) := by decide +kernel
theorem eL_238 : decode mL.2.1 238 = .ok (.aload_n 0, 1) := by decide +kernel
theorem eL_239 : decode mL.2.1 239 = .ok (.iload_n 3, 1) := by decide +kernel
theorem eL_240 : decode mL.2.1 240 = .ok (.iconst 1, 1) := by decide +kernel
theorem eL_241 : decode mL.2.1 241 = .ok (.iadd, 1) := by decide +kernel
theorem eL_242 : decode mL.2.1 242 = .ok (.iaload, 1) := by decide +kernel
theorem eL_243 : decode mL.2.1 243 = .ok (.aload_n 0, 1) := by decide +kernel
theorem eL_244 : decode mL.2.1 244 = .ok (.iload_n 3, 1) := by decide +kernel
theorem eL_245 : decode mL.2.1 245 = .ok (.iconst 2, 1) := by decide +kernel
theorem eL_246 : decode mL.2.1 246 = .ok (.iadd, 1) := by decide +kernel
theorem eL_247 : decode mL.2.1 247 = .ok (.iaload, 1) := by decide +kernel
theorem eL_248 : decode mL.2.1 248 = .ok (.invokevirtual 22, 3) := by decide +kernel
theorem eL_251 : decode mL.2.1 251 = .ok (.if_icmp .eq 991, 3) := by decide +kernel
theorem eL_254 : decode mL.2.1 254 = .ok (.iconst 0, 1) := by decide +kernel
theorem eL_255 : decode mL.2.1 255 = .ok (.ireturn, 1) := by decide +kernel
theorem eL_256 : decode mL.2.1 256 = .ok (.aload_n 1, 1) := by decide +kernel
theorem eL_257 : decode mL.2.1 257 = .ok (.aload_n 0, 1) := by decide +kernel
theorem eL_258 : decode mL.2.1 258 = .ok (.iload_n 3, 1) := by decide +kernel
theorem eL_259 : decode mL.2.1 259 = .ok (.iconst 1, 1) := by decide +kernel
theorem eL_260 : decode mL.2.1 260 = .ok (.iadd, 1) := by decide +kernel
theorem eL_261 : decode mL.2.1 261 = .ok (.iaload, 1) := by decide +kernel
theorem eL_262 : decode mL.2.1 262 = .ok (.invokevirtual 23, 3) := by decide +kernel
theorem eL_265 : decode mL.2.1 265 = .ok (.aload_n 2, 1) := by decide +kernel
theorem eL_266 : decode mL.2.1 266 = .ok (.aload_n 0, 1) := by decide +kernel
theorem eL_267 : decode mL.2.1 267 = .ok (.iload_n 3, 1) := by decide +kernel
theorem eL_268 : decode mL.2.1 268 = .ok (.iconst 1, 1) := by decide +kernel
theorem eL_269 : decode mL.2.1 269 = .ok (.iadd, 1) := by decide +kernel
theorem eL_270 : decode mL.2.1 270 = .ok (.iaload, 1) := by decide +kernel
theorem eL_271 : decode mL.2.1 271 = .ok (.invokevirtual 27, 3) := by decide +kernel
theorem eL_274 : decode mL.2.1 274 = .ok (.if_icmp .eq 968, 3) := by decide +kernel
theorem eL_277 : decode mL.2.1 277 = .ok (.iconst 0, 1) := by decide +kernel
theorem eL_278 : decode mL.2.1 278 = .ok (.ireturn, 1) := by decide +kernel
theorem eL_279 : decode mL.2.1 279 = .ok (.aload_n 1, 1) := by decide +kernel
theorem eL_280 : decode mL.2.1 280 = .ok (.aload_n 0, 1) := by decide +kernel
theorem eL_281 : decode mL.2.1 281 = .ok (.iload_n 3, 1) := by decide +kernel
theorem eL_282 : decode mL.2.1 282 = .ok (.iconst 1, 1) := by decide +kernel
theorem eL_283 : decode mL.2.1 283 = .ok (.iadd, 1) := by decide +kernel
theorem eL_284 : decode mL.2.1 284 = .ok (.iaload, 1) := by decide +kernel
theorem eL_285 : decode mL.2.1 285 = .ok (.aload_n 0, 1) := by decide +kernel
theorem eL_286 : decode mL.2.1 286 = .ok (.iload_n 3, 1) := by decide +kernel
theorem eL_287 : decode mL.2.1 287 = .ok (.iconst 2, 1) := by decide +kernel
theorem eL_288 : decode mL.2.1 288 = .ok (.iadd, 1) := by decide +kernel
theorem eL_289 : decode mL.2.1 289 = .ok (.iaload, 1) := by decide +kernel
theorem eL_290 : decode mL.2.1 290 = .ok (.invokevirtual 28, 3) := by decide +kernel
theorem eL_293 : decode mL.2.1 293 = .ok (.aload_n 2, 1) := by decide +kernel
theorem eL_294 : decode mL.2.1 294 = .ok (.aload_n 0, 1) := by decide +kernel
theorem eL_295 : decode mL.2.1 295 = .ok (.iload_n 3, 1) := by decide +kernel
theorem eL_296 : decode mL.2.1 296 = .ok (.iconst 1, 1) := by decide +kernel
theorem eL_297 : decode mL.2.1 297 = .ok (.iadd, 1) := by decide +kernel
theorem eL_298 : decode mL.2.1 298 = .ok (.iaload, 1) := by decide +kernel
theorem eL_299 : decode mL.2.1 299 = .ok (.aload_n 0, 1) := by decide +kernel
theorem eL_300 : decode mL.2.1 300 = .ok (.iload_n 3, 1) := by decide +kernel
theorem eL_301 : decode mL.2.1 301 = .ok (.iconst 2, 1) := by decide +kernel
theorem eL_302 : decode mL.2.1 302 = .ok (.iadd, 1) := by decide +kernel
theorem eL_303 : decode mL.2.1 303 = .ok (.iaload, 1) := by decide +kernel
theorem eL_304 : decode mL.2.1 304 = .ok (.invokevirtual 31, 3) := by decide +kernel
theorem eL_307 : decode mL.2.1 307 = .ok (.if_icmp .eq 935, 3) := by decide +kernel
theorem eL_310 : decode mL.2.1 310 = .ok (.iconst 0, 1) := by decide +kernel
theorem eL_311 : decode mL.2.1 311 = .ok (.ireturn, 1) := by decide +kernel
theorem eL_312 : decode mL.2.1 312 = .ok (.aload_n 1, 1) := by decide +kernel
theorem eL_313 : decode mL.2.1 313 = .ok (.aload_n 0, 1) := by decide +kernel
theorem eL_314 : decode mL.2.1 314 = .ok (.iload_n 3, 1) := by decide +kernel
theorem eL_315 : decode mL.2.1 315 = .ok (.iconst 1, 1) := by decide +kernel
theorem eL_316 : decode mL.2.1 316 = .ok (.iadd, 1) := by decide +kernel
theorem eL_317 : decode mL.2.1 317 = .ok (.iaload, 1) := by decide +kernel
theorem eL_318 : decode mL.2.1 318 = .ok (.aload_n 0, 1) := by decide +kernel
theorem eL_319 : decode mL.2.1 319 = .ok (.iload_n 3, 1) := by decide +kernel
theorem eL_320 : decode mL.2.1 320 = .ok (.iconst 2, 1) := by decide +kernel
theorem eL_321 : decode mL.2.1 321 = .ok (.iadd, 1) := by decide +kernel
theorem eL_322 : decode mL.2.1 322 = .ok (.iaload, 1) := by decide +kernel
theorem eL_323 : decode mL.2.1 323 = .ok (.aload_n 0, 1) := by decide +kernel
theorem eL_324 : decode mL.2.1 324 = .ok (.iload_n 3, 1) := by decide +kernel
theorem eL_325 : decode mL.2.1 325 = .ok (.iconst 3, 1) := by decide +kernel
theorem eL_326 : decode mL.2.1 326 = .ok (.iadd, 1) := by decide +kernel
theorem eL_327 : decode mL.2.1 327 = .ok (.iaload, 1) := by decide +kernel
theorem eL_328 : decode mL.2.1 328 = .ok (.invokevirtual 32, 3) := by decide +kernel
theorem eL_331 : decode mL.2.1 331 = .ok (.aload_n 2, 1) := by decide +kernel
theorem eL_332 : decode mL.2.1 332 = .ok (.aload_n 0, 1) := by decide +kernel
theorem eL_333 : decode mL.2.1 333 = .ok (.iload_n 3, 1) := by decide +kernel
theorem eL_334 : decode mL.2.1 334 = .ok (.iconst 1, 1) := by decide +kernel
theorem eL_335 : decode mL.2.1 335 = .ok (.iadd, 1) := by decide +kernel
theorem eL_336 : decode mL.2.1 336 = .ok (.iaload, 1) := by decide +kernel
theorem eL_337 : decode mL.2.1 337 = .ok (.aload_n 0, 1) := by decide +kernel
theorem eL_338 : decode mL.2.1 338 = .ok (.iload_n 3, 1) := by decide +kernel
theorem eL_339 : decode mL.2.1 339 = .ok (.iconst 2, 1) := by decide +kernel
theorem eL_340 : decode mL.2.1 340 = .ok (.iadd, 1) := by decide +kernel
theorem eL_341 : decode mL.2.1 341 = .ok (.iaload, 1) := by decide +kernel
theorem eL_342 : decode mL.2.1 342 = .ok (.aload_n 0, 1) := by decide +kernel
theorem eL_343 : decode mL.2.1 343 = .ok (.iload_n 3, 1) := by decide +kernel
theorem eL_344 : decode mL.2.1 344 = .ok (.iconst 3, 1) := by decide +kernel
theorem eL_345 : decode mL.2.1 345 = .ok (.iadd, 1) := by decide +kernel
theorem eL_346 : decode mL.2.1 346 = .ok (.iaload, 1) := by decide +kernel
theorem eL_347 : decode mL.2.1 347 = .ok (.invokevirtual 35, 3) := by decide +kernel
theorem eL_350 : decode mL.2.1 350 = .ok (.if_icmp .eq 892, 3) := by decide +kernel
theorem eL_353 : decode mL.2.1 353 = .ok (.iconst 0, 1) := by decide +kernel
theorem eL_354 : decode mL.2.1 354 = .ok (.ireturn, 1) := by decide +kernel
theorem eL_355 : decode mL.2.1 355 = .ok (.aload_n 1, 1) := by decide +kernel
theorem eL_356 : decode mL.2.1 356 = .ok (.aload_n 0, 1) := by decide +kernel
theorem eL_357 : decode mL.2.1 357 = .ok (.iload_n 3, 1) := by decide +kernel
theorem eL_358 : decode mL.2.1 358 = .ok (.iconst 1, 1) := by decide +kernel
theorem eL_359 : decode mL.2.1 359 = .ok (.iadd, 1) := by decide +kernel
theorem eL_360 : decode mL.2.1 360 = .ok (.iaload, 1) := by decide +kernel
theorem eL_361 : decode mL.2.1 361 = .ok (.aload_n 0, 1) := by decide +kernel
theorem eL_362 : decode mL.2.1 362 = .ok (.iload_n 3, 1) := by decide +kernel
theorem eL_363 : decode mL.2.1 363 = .ok (.iconst 2, 1) := by decide +kernel
theorem eL_364 : decode mL.2.1 364 = .ok (.iadd, 1) := by decide +kernel
theorem eL_365 : decode mL.2.1 365 = .ok (.iaload, 1) := by decide +kernel
theorem eL_366 : decode mL.2.1 366 = .ok (.invokevirtual 36, 3) := by decide +kernel
theorem eL_369 : decode mL.2.1 369 = .ok (.aload_n 2, 1) := by decide +kernel
theorem eL_370 : decode mL.2.1 370 = .ok (.aload_n 0, 1) := by decide +kernel
theorem eL_371 : decode mL.2.1 371 = .ok (.iload_n 3, 1) := by decide +kernel
theorem eL_372 : decode mL.2.1 372 = .ok (.iconst 1, 1) := by decide +kernel
theorem eL_373 : decode mL.2.1 373 = .ok (.iadd, 1) := by decide +kernel
theorem eL_374 : decode mL.2.1 374 = .ok (.iaload, 1) := by decide +kernel
theorem eL_375 : decode mL.2.1 375 = .ok (.aload_n 0, 1) := by decide +kernel
theorem eL_376 : decode mL.2.1 376 = .ok (.iload_n 3, 1) := by decide +kernel
theorem eL_377 : decode mL.2.1 377 = .ok (.iconst 2, 1) := by decide +kernel
theorem eL_378 : decode mL.2.1 378 = .ok (.iadd, 1) := by decide +kernel
theorem eL_379 : decode mL.2.1 379 = .ok (.iaload, 1) := by decide +kernel
theorem eL_380 : decode mL.2.1 380 = .ok (.invokevirtual 39, 3) := by decide +kernel
theorem eL_383 : decode mL.2.1 383 = .ok (.if_icmp .eq 859, 3) := by decide +kernel
theorem eL_386 : decode mL.2.1 386 = .ok (.iconst 0, 1) := by decide +kernel
theorem eL_387 : decode mL.2.1 387 = .ok (.ireturn, 1) := by decide +kernel
theorem eL_388 : decode mL.2.1 388 = .ok (.aload_n 1, 1) := by decide +kernel
theorem eL_389 : decode mL.2.1 389 = .ok (.aload_n 0, 1) := by decide +kernel
theorem eL_390 : decode mL.2.1 390 = .ok (.iload_n 3, 1) := by decide +kernel
theorem eL_391 : decode mL.2.1 391 = .ok (.iconst 1, 1) := by decide +kernel
theorem eL_392 : decode mL.2.1 392 = .ok (.iadd, 1) := by decide +kernel
theorem eL_393 : decode mL.2.1 393 = .ok (.iaload, 1) := by decide +kernel
theorem eL_394 : decode mL.2.1 394 = .ok (.aload_n 0, 1) := by decide +kernel
theorem eL_395 : decode mL.2.1 395 = .ok (.iload_n 3, 1) := by decide +kernel
theorem eL_396 : decode mL.2.1 396 = .ok (.iconst 2, 1) := by decide +kernel
theorem eL_397 : decode mL.2.1 397 = .ok (.iadd, 1) := by decide +kernel
theorem eL_398 : decode mL.2.1 398 = .ok (.iaload, 1) := by decide +kernel
theorem eL_399 : decode mL.2.1 399 = .ok (.aload_n 0, 1) := by decide +kernel
theorem eL_400 : decode mL.2.1 400 = .ok (.iload_n 3, 1) := by decide +kernel
theorem eL_401 : decode mL.2.1 401 = .ok (.iconst 3, 1) := by decide +kernel
theorem eL_402 : decode mL.2.1 402 = .ok (.iadd, 1) := by decide +kernel
theorem eL_403 : decode mL.2.1 403 = .ok (.iaload, 1) := by decide +kernel
theorem eL_404 : decode mL.2.1 404 = .ok (.invokevirtual 40, 3) := by decide +kernel
theorem eL_407 : decode mL.2.1 407 = .ok (.aload_n 2, 1) := by decide +kernel
theorem eL_408 : decode mL.2.1 408 = .ok (.aload_n 0, 1) := by decide +kernel
theorem eL_409 : decode mL.2.1 409 = .ok (.iload_n 3, 1) := by decide +kernel
theorem eL_410 : decode mL.2.1 410 = .ok (.iconst 1, 1) := by decide +kernel
theorem eL_411 : decode mL.2.1 411 = .ok (.iadd, 1) := by decide +kernel
theorem eL_412 : decode mL.2.1 412 = .ok (.iaload, 1) := by decide +kernel
theorem eL_413 : decode mL.2.1 413 = .ok (.aload_n 0, 1) := by decide +kernel
theorem eL_414 : decode mL.2.1 414 = .ok (.iload_n 3, 1) := by decide +kernel
theorem eL_415 : decode mL.2.1 415 = .ok (.iconst 2, 1) := by decide +kernel
theorem eL_416 : decode mL.2.1 416 = .ok (.iadd, 1) := by decide +kernel
theorem eL_417 : decode mL.2.1 417 = .ok (.iaload, 1) := by decide +kernel
theorem eL_418 : decode mL.2.1 418 = .ok (.aload_n 0, 1) := by decide +kernel
theorem eL_419 : decode mL.2.1 419 = .ok (.iload_n 3, 1) := by decide +kernel
theorem eL_420 : decode mL.2.1 420 = .ok (.iconst 3, 1) := by decide +kernel
theorem eL_421 : decode mL.2.1 421 = .ok (.iadd, 1) := by decide +kernel
theorem eL_422 : decode mL.2.1 422 = .ok (.iaload, 1) := by decide +kernel
theorem eL_423 : decode mL.2.1 423 = .ok (.invokevirtual 43, 3) := by decide +kernel
theorem eL_426 : decode mL.2.1 426 = .ok (.if_icmp .eq 816, 3) := by decide +kernel
theorem eL_429 : decode mL.2.1 429 = .ok (.iconst 0, 1) := by decide +kernel
theorem eL_430 : decode mL.2.1 430 = .ok (.ireturn, 1) := by decide +kernel
theorem eL_431 : decode mL.2.1 431 = .ok (.aload_n 1, 1) := by decide +kernel
theorem eL_432 : decode mL.2.1 432 = .ok (.aload_n 0, 1) := by decide +kernel
theorem eL_433 : decode mL.2.1 433 = .ok (.iload_n 3, 1) := by decide +kernel
theorem eL_434 : decode mL.2.1 434 = .ok (.iconst 1, 1) := by decide +kernel
theorem eL_435 : decode mL.2.1 435 = .ok (.iadd, 1) := by decide +kernel
theorem eL_436 : decode mL.2.1 436 = .ok (.iaload, 1) := by decide +kernel
theorem eL_437 : decode mL.2.1 437 = .ok (.invokevirtual 44, 3) := by decide +kernel
theorem eL_440 : decode mL.2.1 440 = .ok (.aload_n 2, 1) := by decide +kernel
theorem eL_441 : decode mL.2.1 441 = .ok (.aload_n 0, 1) := by decide +kernel
theorem eL_442 : decode mL.2.1 442 = .ok (.iload_n 3, 1) := by decide +kernel
theorem eL_443 : decode mL.2.1 443 = .ok (.iconst 1, 1) := by decide +kernel
theorem eL_444 : decode mL.2.1 444 = .ok (.iadd, 1) := by decide +kernel
theorem eL_445 : decode mL.2.1 445 = .ok (.iaload, 1) := by decide +kernel
theorem eL_446 : decode mL.2.1 446 = .ok (.invokevirtual 47, 3) := by decide +kernel
theorem eL_449 : decode mL.2.1 449 = .ok (.if_icmp .eq 793, 3) := by decide +kernel
theorem eL_452 : decode mL.2.1 452 = .ok (.iconst 0, 1) := by decide +kernel
theorem eL_453 : decode mL.2.1 453 = .ok (.ireturn, 1) := by decide +kernel
theorem eL_454 : decode mL.2.1 454 = .ok (.aload_n 1, 1) := by decide +kernel
theorem eL_455 : decode mL.2.1 455 = .ok (.invokevirtual 48, 3) := by decide +kernel
theorem eL_458 : decode mL.2.1 458 = .ok (.aload_n 2, 1) := by decide +kernel
theorem eL_459 : decode mL.2.1 459 = .ok (.invokevirtual 52, 3) := by decide +kernel
theorem eL_462 : decode mL.2.1 462 = .ok (.if_icmp .eq 780, 3) := by decide +kernel
theorem eL_465 : decode mL.2.1 465 = .ok (.iconst 0, 1) := by decide +kernel
theorem eL_466 : decode mL.2.1 466 = .ok (.ireturn, 1) := by decide +kernel
theorem eL_467 : decode mL.2.1 467 = .ok (.aload_n 1, 1) := by decide +kernel
theorem eL_468 : decode mL.2.1 468 = .ok (.aload_n 0, 1) := by decide +kernel
theorem eL_469 : decode mL.2.1 469 = .ok (.iload_n 3, 1) := by decide +kernel
theorem eL_470 : decode mL.2.1 470 = .ok (.iconst 1, 1) := by decide +kernel
theorem eL_471 : decode mL.2.1 471 = .ok (.iadd, 1) := by decide +kernel
theorem eL_472 : decode mL.2.1 472 = .ok (.iaload, 1) := by decide +kernel
theorem eL_473 : decode mL.2.1 473 = .ok (.invokevirtual 53, 3) := by decide +kernel
theorem eL_476 : decode mL.2.1 476 = .ok (.aload_n 2, 1) := by decide +kernel
theorem eL_477 : decode mL.2.1 477 = .ok (.aload_n 0, 1) := by decide +kernel
theorem eL_478 : decode mL.2.1 478 = .ok (.iload_n 3, 1) := by decide +kernel
theorem eL_479 : decode mL.2.1 479 = .ok (.iconst 1, 1) := by decide +kernel
theorem eL_480 : decode mL.2.1 480 = .ok (.iadd, 1) := by decide +kernel
theorem eL_481 : decode mL.2.1 481 = .ok (.iaload, 1) := by decide +kernel
theorem eL_482 : decode mL.2.1 482 = .ok (.invokevirtual 56, 3) := by decide +kernel
theorem eL_485 : decode mL.2.1 485 = .ok (.if_icmp .eq 757, 3) := by decide +kernel
theorem eL_488 : decode mL.2.1 488 = .ok (.iconst 0, 1) := by decide +kernel
theorem eL_489 : decode mL.2.1 489 = .ok (.ireturn, 1) := by decide +kernel
theorem eL_490 : decode mL.2.1 490 = .ok (.aload_n 1, 1) := by decide +kernel
theorem eL_491 : decode mL.2.1 491 = .ok (.aload_n 0, 1) := by decide +kernel
theorem eL_492 : decode mL.2.1 492 = .ok (.iload_n 3, 1) := by decide +kernel
theorem eL_493 : decode mL.2.1 493 = .ok (.iconst 1, 1) := by decide +kernel
theorem eL_494 : decode mL.2.1 494 = .ok (.iadd, 1) := by decide +kernel
theorem eL_495 : decode mL.2.1 495 = .ok (.iaload, 1) := by decide +kernel
theorem eL_496 : decode mL.2.1 496 = .ok (.invokevirtual 57, 3) := by decide +kernel
theorem eL_499 : decode mL.2.1 499 = .ok (.aload_n 2, 1) := by decide +kernel
theorem eL_500 : decode mL.2.1 500 = .ok (.aload_n 0, 1) := by decide +kernel
theorem eL_501 : decode mL.2.1 501 = .ok (.iload_n 3, 1) := by decide +kernel
theorem eL_502 : decode mL.2.1 502 = .ok (.iconst 1, 1) := by decide +kernel
theorem eL_503 : decode mL.2.1 503 = .ok (.iadd, 1) := by decide +kernel
theorem eL_504 : decode mL.2.1 504 = .ok (.iaload, 1) := by decide +kernel
theorem eL_505 : decode mL.2.1 505 = .ok (.invokevirtual 60, 3) := by decide +kernel
theorem eL_508 : decode mL.2.1 508 = .ok (.if_icmp .eq 734, 3) := by decide +kernel
theorem eL_511 : decode mL.2.1 511 = .ok (.iconst 0, 1) := by decide +kernel
theorem eL_512 : decode mL.2.1 512 = .ok (.ireturn, 1) := by decide +kernel
theorem eL_513 : decode mL.2.1 513 = .ok (.aload_n 1, 1) := by decide +kernel
theorem eL_514 : decode mL.2.1 514 = .ok (.aload_n 0, 1) := by decide +kernel
theorem eL_515 : decode mL.2.1 515 = .ok (.iload_n 3, 1) := by decide +kernel
theorem eL_516 : decode mL.2.1 516 = .ok (.iconst 1, 1) := by decide +kernel
theorem eL_517 : decode mL.2.1 517 = .ok (.iadd, 1) := by decide +kernel
theorem eL_518 : decode mL.2.1 518 = .ok (.iaload, 1) := by decide +kernel
theorem eL_519 : decode mL.2.1 519 = .ok (.aload_n 0, 1) := by decide +kernel
theorem eL_520 : decode mL.2.1 520 = .ok (.iload_n 3, 1) := by decide +kernel
theorem eL_521 : decode mL.2.1 521 = .ok (.iconst 2, 1) := by decide +kernel
theorem eL_522 : decode mL.2.1 522 = .ok (.iadd, 1) := by decide +kernel
theorem eL_523 : decode mL.2.1 523 = .ok (.iaload, 1) := by decide +kernel
theorem eL_524 : decode mL.2.1 524 = .ok (.invokevirtual 61, 3) := by decide +kernel
theorem eL_527 : decode mL.2.1 527 = .ok (.aload_n 2, 1) := by decide +kernel
theorem eL_528 : decode mL.2.1 528 = .ok (.aload_n 0, 1) := by decide +kernel
theorem eL_529 : decode mL.2.1 529 = .ok (.iload_n 3, 1) := by decide +kernel
theorem eL_530 : decode mL.2.1 530 = .ok (.iconst 1, 1) := by decide +kernel
theorem eL_531 : decode mL.2.1 531 = .ok (.iadd, 1) := by decide +kernel
theorem eL_532 : decode mL.2.1 532 = .ok (.iaload, 1) := by decide +kernel
theorem eL_533 : decode mL.2.1 533 = .ok (.aload_n 0, 1) := by decide +kernel
theorem eL_534 : decode mL.2.1 534 = .ok (.iload_n 3, 1) := by decide +kernel
theorem eL_535 : decode mL.2.1 535 = .ok (.iconst 2, 1) := by decide +kernel
theorem eL_536 : decode mL.2.1 536 = .ok (.iadd, 1) := by decide +kernel
theorem eL_537 : decode mL.2.1 537 = .ok (.iaload, 1) := by decide +kernel
theorem eL_538 : decode mL.2.1 538 = .ok (.invokevirtual 64, 3) := by decide +kernel
theorem eL_541 : decode mL.2.1 541 = .ok (.if_icmp .eq 701, 3) := by decide +kernel
theorem eL_544 : decode mL.2.1 544 = .ok (.iconst 0, 1) := by decide +kernel
theorem eL_545 : decode mL.2.1 545 = .ok (.ireturn, 1) := by decide +kernel
theorem eL_546 : decode mL.2.1 546 = .ok (.aload_n 1, 1) := by decide +kernel
theorem eL_547 : decode mL.2.1 547 = .ok (.aload_n 0, 1) := by decide +kernel
theorem eL_548 : decode mL.2.1 548 = .ok (.iload_n 3, 1) := by decide +kernel
theorem eL_549 : decode mL.2.1 549 = .ok (.iconst 1, 1) := by decide +kernel
theorem eL_550 : decode mL.2.1 550 = .ok (.iadd, 1) := by decide +kernel
theorem eL_551 : decode mL.2.1 551 = .ok (.iaload, 1) := by decide +kernel
theorem eL_552 : decode mL.2.1 552 = .ok (.aload_n 0, 1) := by decide +kernel
theorem eL_553 : decode mL.2.1 553 = .ok (.iload_n 3, 1) := by decide +kernel
theorem eL_554 : decode mL.2.1 554 = .ok (.iconst 2, 1) := by decide +kernel
theorem eL_555 : decode mL.2.1 555 = .ok (.iadd, 1) := by decide +kernel
theorem eL_556 : decode mL.2.1 556 = .ok (.iaload, 1) := by decide +kernel
theorem eL_557 : decode mL.2.1 557 = .ok (.invokevirtual 65, 3) := by decide +kernel
theorem eL_560 : decode mL.2.1 560 = .ok (.aload_n 2, 1) := by decide +kernel
theorem eL_561 : decode mL.2.1 561 = .ok (.aload_n 0, 1) := by decide +kernel
theorem eL_562 : decode mL.2.1 562 = .ok (.iload_n 3, 1) := by decide +kernel
theorem eL_563 : decode mL.2.1 563 = .ok (.iconst 1, 1) := by decide +kernel
theorem eL_564 : decode mL.2.1 564 = .ok (.iadd, 1) := by decide +kernel
theorem eL_565 : decode mL.2.1 565 = .ok (.iaload, 1) := by decide +kernel
theorem eL_566 : decode mL.2.1 566 = .ok (.aload_n 0, 1) := by decide +kernel
theorem eL_567 : decode mL.2.1 567 = .ok (.iload_n 3, 1) := by decide +kernel
theorem eL_568 : decode mL.2.1 568 = .ok (.iconst 2, 1) := by decide +kernel
theorem eL_569 : decode mL.2.1 569 = .ok (.iadd, 1) := by decide +kernel
theorem eL_570 : decode mL.2.1 570 = .ok (.iaload, 1) := by decide +kernel
theorem eL_571 : decode mL.2.1 571 = .ok (.invokevirtual 68, 3) := by decide +kernel
theorem eL_574 : decode mL.2.1 574 = .ok (.if_icmp .eq 668, 3) := by decide +kernel
theorem eL_577 : decode mL.2.1 577 = .ok (.iconst 0, 1) := by decide +kernel
theorem eL_578 : decode mL.2.1 578 = .ok (.ireturn, 1) := by decide +kernel
theorem eL_579 : decode mL.2.1 579 = .ok (.aload_n 1, 1) := by decide +kernel
theorem eL_580 : decode mL.2.1 580 = .ok (.aload_n 0, 1) := by decide +kernel
theorem eL_581 : decode mL.2.1 581 = .ok (.iload_n 3, 1) := by decide +kernel
theorem eL_582 : decode mL.2.1 582 = .ok (.iconst 1, 1) := by decide +kernel
theorem eL_583 : decode mL.2.1 583 = .ok (.iadd, 1) := by decide +kernel
theorem eL_584 : decode mL.2.1 584 = .ok (.iaload, 1) := by decide +kernel
theorem eL_585 : decode mL.2.1 585 = .ok (.aload_n 0, 1) := by decide +kernel
theorem eL_586 : decode mL.2.1 586 = .ok (.iload_n 3, 1) := by decide +kernel
theorem eL_587 : decode mL.2.1 587 = .ok (.iconst 2, 1) := by decide +kernel
theorem eL_588 : decode mL.2.1 588 = .ok (.iadd, 1) := by decide +kernel
theorem eL_589 : decode mL.2.1 589 = .ok (.iaload, 1) := by decide +kernel
theorem eL_590 : decode mL.2.1 590 = .ok (.aload_n 0, 1) := by decide +kernel
theorem eL_591 : decode mL.2.1 591 = .ok (.iload_n 3, 1) := by decide +kernel
theorem eL_592 : decode mL.2.1 592 = .ok (.iconst 3, 1) := by decide +kernel
theorem eL_593 : decode mL.2.1 593 = .ok (.iadd, 1) := by decide +kernel
theorem eL_594 : decode mL.2.1 594 = .ok (.iaload, 1) := by decide +kernel
theorem eL_595 : decode mL.2.1 595 = .ok (.invokevirtual 69, 3) := by decide +kernel
theorem eL_598 : decode mL.2.1 598 = .ok (.aload_n 2, 1) := by decide +kernel
theorem eL_599 : decode mL.2.1 599 = .ok (.aload_n 0, 1) := by decide +kernel
theorem eL_600 : decode mL.2.1 600 = .ok (.iload_n 3, 1) := by decide +kernel
theorem eL_601 : decode mL.2.1 601 = .ok (.iconst 1, 1) := by decide +kernel
theorem eL_602 : decode mL.2.1 602 = .ok (.iadd, 1) := by decide +kernel
theorem eL_603 : decode mL.2.1 603 = .ok (.iaload, 1) := by decide +kernel
theorem eL_604 : decode mL.2.1 604 = .ok (.aload_n 0, 1) := by decide +kernel
theorem eL_605 : decode mL.2.1 605 = .ok (.iload_n 3, 1) := by decide +kernel
theorem eL_606 : decode mL.2.1 606 = .ok (.iconst 2, 1) := by decide +kernel
theorem eL_607 : decode mL.2.1 607 = .ok (.iadd, 1) := by decide +kernel
theorem eL_608 : decode mL.2.1 608 = .ok (.iaload, 1) := by decide +kernel
theorem eL_609 : decode mL.2.1 609 = .ok (.aload_n 0, 1) := by decide +kernel
theorem eL_610 : decode mL.2.1 610 = .ok (.iload_n 3, 1) := by decide +kernel
theorem eL_611 : decode mL.2.1 611 = .ok (.iconst 3, 1) := by decide +kernel
theorem eL_612 : decode mL.2.1 612 = .ok (.iadd, 1) := by decide +kernel
theorem eL_613 : decode mL.2.1 613 = .ok (.iaload, 1) := by decide +kernel
theorem eL_614 : decode mL.2.1 614 = .ok (.invokevirtual 72, 3) := by decide +kernel
theorem eL_617 : decode mL.2.1 617 = .ok (.if_icmp .eq 625, 3) := by decide +kernel
theorem eL_620 : decode mL.2.1 620 = .ok (.iconst 0, 1) := by decide +kernel
theorem eL_621 : decode mL.2.1 621 = .ok (.ireturn, 1) := by decide +kernel
theorem eL_622 : decode mL.2.1 622 = .ok (.aload_n 1, 1) := by decide +kernel
theorem eL_623 : decode mL.2.1 623 = .ok (.aload_n 0, 1) := by decide +kernel
theorem eL_624 : decode mL.2.1 624 = .ok (.iload_n 3, 1) := by decide +kernel
theorem eL_625 : decode mL.2.1 625 = .ok (.iconst 1, 1) := by decide +kernel
theorem eL_626 : decode mL.2.1 626 = .ok (.iadd, 1) := by decide +kernel
theorem eL_627 : decode mL.2.1 627 = .ok (.iaload, 1) := by decide +kernel
theorem eL_628 : decode mL.2.1 628 = .ok (.invokevirtual 73, 3) := by decide +kernel
theorem eL_631 : decode mL.2.1 631 = .ok (.aload_n 2, 1) := by decide +kernel
theorem eL_632 : decode mL.2.1 632 = .ok (.aload_n 0, 1) := by decide +kernel
theorem eL_633 : decode mL.2.1 633 = .ok (.iload_n 3, 1) := by decide +kernel
theorem eL_634 : decode mL.2.1 634 = .ok (.iconst 1, 1) := by decide +kernel
theorem eL_635 : decode mL.2.1 635 = .ok (.iadd, 1) := by decide +kernel
theorem eL_636 : decode mL.2.1 636 = .ok (.iaload, 1) := by decide +kernel
theorem eL_637 : decode mL.2.1 637 = .ok (.invokevirtual 76, 3) := by decide +kernel
theorem eL_640 : decode mL.2.1 640 = .ok (.if_icmp .eq 602, 3) := by decide +kernel
theorem eL_643 : decode mL.2.1 643 = .ok (.iconst 0, 1) := by decide +kernel
theorem eL_644 : decode mL.2.1 644 = .ok (.ireturn, 1) := by decide +kernel
theorem eL_645 : decode mL.2.1 645 = .ok (.aload_n 1, 1) := by decide +kernel
theorem eL_646 : decode mL.2.1 646 = .ok (.aload_n 0, 1) := by decide +kernel
theorem eL_647 : decode mL.2.1 647 = .ok (.iload_n 3, 1) := by decide +kernel
theorem eL_648 : decode mL.2.1 648 = .ok (.iconst 1, 1) := by decide +kernel
theorem eL_649 : decode mL.2.1 649 = .ok (.iadd, 1) := by decide +kernel
theorem eL_650 : decode mL.2.1 650 = .ok (.iaload, 1) := by decide +kernel
theorem eL_651 : decode mL.2.1 651 = .ok (.aload_n 0, 1) := by decide +kernel
theorem eL_652 : decode mL.2.1 652 = .ok (.iload_n 3, 1) := by decide +kernel
theorem eL_653 : decode mL.2.1 653 = .ok (.iconst 2, 1) := by decide +kernel
theorem eL_654 : decode mL.2.1 654 = .ok (.iadd, 1) := by decide +kernel
theorem eL_655 : decode mL.2.1 655 = .ok (.iaload, 1) := by decide +kernel
theorem eL_656 : decode mL.2.1 656 = .ok (.invokevirtual 77, 3) := by decide +kernel
theorem eL_659 : decode mL.2.1 659 = .ok (.aload_n 2, 1) := by decide +kernel
theorem eL_660 : decode mL.2.1 660 = .ok (.aload_n 0, 1) := by decide +kernel
theorem eL_661 : decode mL.2.1 661 = .ok (.iload_n 3, 1) := by decide +kernel
theorem eL_662 : decode mL.2.1 662 = .ok (.iconst 1, 1) := by decide +kernel
theorem eL_663 : decode mL.2.1 663 = .ok (.iadd, 1) := by decide +kernel
theorem eL_664 : decode mL.2.1 664 = .ok (.iaload, 1) := by decide +kernel
theorem eL_665 : decode mL.2.1 665 = .ok (.aload_n 0, 1) := by decide +kernel
theorem eL_666 : decode mL.2.1 666 = .ok (.iload_n 3, 1) := by decide +kernel
theorem eL_667 : decode mL.2.1 667 = .ok (.iconst 2, 1) := by decide +kernel
theorem eL_668 : decode mL.2.1 668 = .ok (.iadd, 1) := by decide +kernel
theorem eL_669 : decode mL.2.1 669 = .ok (.iaload, 1) := by decide +kernel
theorem eL_670 : decode mL.2.1 670 = .ok (.invokevirtual 80, 3) := by decide +kernel
theorem eL_673 : decode mL.2.1 673 = .ok (.if_icmp .eq 569, 3) := by decide +kernel
theorem eL_676 : decode mL.2.1 676 = .ok (.iconst 0, 1) := by decide +kernel
theorem eL_677 : decode mL.2.1 677 = .ok (.ireturn, 1) := by decide +kernel
theorem eL_678 : decode mL.2.1 678 = .ok (.aload_n 1, 1) := by decide +kernel
theorem eL_679 : decode mL.2.1 679 = .ok (.aload_n 0, 1) := by decide +kernel
theorem eL_680 : decode mL.2.1 680 = .ok (.iload_n 3, 1) := by decide +kernel
theorem eL_681 : decode mL.2.1 681 = .ok (.iconst 1, 1) := by decide +kernel
theorem eL_682 : decode mL.2.1 682 = .ok (.iadd, 1) := by decide +kernel
theorem eL_683 : decode mL.2.1 683 = .ok (.iaload, 1) := by decide +kernel
theorem eL_684 : decode mL.2.1 684 = .ok (.aload_n 0, 1) := by decide +kernel
theorem eL_685 : decode mL.2.1 685 = .ok (.iload_n 3, 1) := by decide +kernel
theorem eL_686 : decode mL.2.1 686 = .ok (.iconst 2, 1) := by decide +kernel
theorem eL_687 : decode mL.2.1 687 = .ok (.iadd, 1) := by decide +kernel
theorem eL_688 : decode mL.2.1 688 = .ok (.iaload, 1) := by decide +kernel
theorem eL_689 : decode mL.2.1 689 = .ok (.aload_n 0, 1) := by decide +kernel
theorem eL_690 : decode mL.2.1 690 = .ok (.iload_n 3, 1) := by decide +kernel
theorem eL_691 : decode mL.2.1 691 = .ok (.iconst 3, 1) := by decide +kernel
theorem eL_692 : decode mL.2.1 692 = .ok (.iadd, 1) := by decide +kernel
theorem eL_693 : decode mL.2.1 693 = .ok (.iaload, 1) := by decide +kernel
theorem eL_694 : decode mL.2.1 694 = .ok (.invokevirtual 81, 3) := by decide +kernel
theorem eL_697 : decode mL.2.1 697 = .ok (.aload_n 2, 1) := by decide +kernel
theorem eL_698 : decode mL.2.1 698 = .ok (.aload_n 0, 1) := by decide +kernel
theorem eL_699 : decode mL.2.1 699 = .ok (.iload_n 3, 1) := by decide +kernel
theorem eL_700 : decode mL.2.1 700 = .ok (.iconst 1, 1) := by decide +kernel
theorem eL_701 : decode mL.2.1 701 = .ok (.iadd, 1) := by decide +kernel
theorem eL_702 : decode mL.2.1 702 = .ok (.iaload, 1) := by decide +kernel
theorem eL_703 : decode mL.2.1 703 = .ok (.aload_n 0, 1) := by decide +kernel
theorem eL_704 : decode mL.2.1 704 = .ok (.iload_n 3, 1) := by decide +kernel
theorem eL_705 : decode mL.2.1 705 = .ok (.iconst 2, 1) := by decide +kernel
theorem eL_706 : decode mL.2.1 706 = .ok (.iadd, 1) := by decide +kernel
theorem eL_707 : decode mL.2.1 707 = .ok (.iaload, 1) := by decide +kernel
theorem eL_708 : decode mL.2.1 708 = .ok (.aload_n 0, 1) := by decide +kernel
theorem eL_709 : decode mL.2.1 709 = .ok (.iload_n 3, 1) := by decide +kernel
theorem eL_710 : decode mL.2.1 710 = .ok (.iconst 3, 1) := by decide +kernel
theorem eL_711 : decode mL.2.1 711 = .ok (.iadd, 1) := by decide +kernel
theorem eL_712 : decode mL.2.1 712 = .ok (.iaload, 1) := by decide +kernel
theorem eL_713 : decode mL.2.1 713 = .ok (.invokevirtual 85, 3) := by decide +kernel
theorem eL_716 : decode mL.2.1 716 = .ok (.lcmp, 1) := by decide +kernel
theorem eL_717 : decode mL.2.1 717 = .ok (.ifCond .eq 525, 3) := by decide +kernel
theorem eL_720 : decode mL.2.1 720 = .ok (.iconst 0, 1) := by decide +kernel
theorem eL_721 : decode mL.2.1 721 = .ok (.ireturn, 1) := by decide +kernel
theorem eL_722 : decode mL.2.1 722 = .ok (.aload_n 1, 1) := by decide +kernel
theorem eL_723 : decode mL.2.1 723 = .ok (.aload_n 0, 1) := by decide +kernel
theorem eL_724 : decode mL.2.1 724 = .ok (.iload_n 3, 1) := by decide +kernel
theorem eL_725 : decode mL.2.1 725 = .ok (.iconst 1, 1) := by decide +kernel
theorem eL_726 : decode mL.2.1 726 = .ok (.iadd, 1) := by decide +kernel
theorem eL_727 : decode mL.2.1 727 = .ok (.iaload, 1) := by decide +kernel
theorem eL_728 : decode mL.2.1 728 = .ok (.invokevirtual 86, 3) := by decide +kernel
theorem eL_731 : decode mL.2.1 731 = .ok (.aload_n 2, 1) := by decide +kernel
theorem eL_732 : decode mL.2.1 732 = .ok (.aload_n 0, 1) := by decide +kernel
theorem eL_733 : decode mL.2.1 733 = .ok (.iload_n 3, 1) := by decide +kernel
theorem eL_734 : decode mL.2.1 734 = .ok (.iconst 1, 1) := by decide +kernel
theorem eL_735 : decode mL.2.1 735 = .ok (.iadd, 1) := by decide +kernel
theorem eL_736 : decode mL.2.1 736 = .ok (.iaload, 1) := by decide +kernel
theorem eL_737 : decode mL.2.1 737 = .ok (.invokevirtual 90, 3) := by decide +kernel
theorem eL_740 : decode mL.2.1 740 = .ok (.lcmp, 1) := by decide +kernel
theorem eL_741 : decode mL.2.1 741 = .ok (.ifCond .eq 501, 3) := by decide +kernel
theorem eL_744 : decode mL.2.1 744 = .ok (.iconst 0, 1) := by decide +kernel
theorem eL_745 : decode mL.2.1 745 = .ok (.ireturn, 1) := by decide +kernel
theorem eL_746 : decode mL.2.1 746 = .ok (.aload_n 1, 1) := by decide +kernel
theorem eL_747 : decode mL.2.1 747 = .ok (.aload_n 0, 1) := by decide +kernel
theorem eL_748 : decode mL.2.1 748 = .ok (.iload_n 3, 1) := by decide +kernel
theorem eL_749 : decode mL.2.1 749 = .ok (.iconst 1, 1) := by decide +kernel
theorem eL_750 : decode mL.2.1 750 = .ok (.iadd, 1) := by decide +kernel
theorem eL_751 : decode mL.2.1 751 = .ok (.iaload, 1) := by decide +kernel
theorem eL_752 : decode mL.2.1 752 = .ok (.aload_n 0, 1) := by decide +kernel
theorem eL_753 : decode mL.2.1 753 = .ok (.iload_n 3, 1) := by decide +kernel
theorem eL_754 : decode mL.2.1 754 = .ok (.iconst 2, 1) := by decide +kernel
theorem eL_755 : decode mL.2.1 755 = .ok (.iadd, 1) := by decide +kernel
theorem eL_756 : decode mL.2.1 756 = .ok (.iaload, 1) := by decide +kernel
theorem eL_757 : decode mL.2.1 757 = .ok (.invokevirtual 91, 3) := by decide +kernel
theorem eL_760 : decode mL.2.1 760 = .ok (.aload_n 2, 1) := by decide +kernel
theorem eL_761 : decode mL.2.1 761 = .ok (.aload_n 0, 1) := by decide +kernel
theorem eL_762 : decode mL.2.1 762 = .ok (.iload_n 3, 1) := by decide +kernel
theorem eL_763 : decode mL.2.1 763 = .ok (.iconst 1, 1) := by decide +kernel
theorem eL_764 : decode mL.2.1 764 = .ok (.iadd, 1) := by decide +kernel
theorem eL_765 : decode mL.2.1 765 = .ok (.iaload, 1) := by decide +kernel
theorem eL_766 : decode mL.2.1 766 = .ok (.aload_n 0, 1) := by decide +kernel
theorem eL_767 : decode mL.2.1 767 = .ok (.iload_n 3, 1) := by decide +kernel
theorem eL_768 : decode mL.2.1 768 = .ok (.iconst 2, 1) := by decide +kernel
theorem eL_769 : decode mL.2.1 769 = .ok (.iadd, 1) := by decide +kernel
theorem eL_770 : decode mL.2.1 770 = .ok (.iaload, 1) := by decide +kernel
theorem eL_771 : decode mL.2.1 771 = .ok (.invokevirtual 94, 3) := by decide +kernel
theorem eL_774 : decode mL.2.1 774 = .ok (.if_icmp .eq 468, 3) := by decide +kernel
theorem eL_777 : decode mL.2.1 777 = .ok (.iconst 0, 1) := by decide +kernel
theorem eL_778 : decode mL.2.1 778 = .ok (.ireturn, 1) := by decide +kernel
theorem eL_779 : decode mL.2.1 779 = .ok (.aload_n 1, 1) := by decide +kernel
theorem eL_780 : decode mL.2.1 780 = .ok (.aload_n 0, 1) := by decide +kernel
theorem eL_781 : decode mL.2.1 781 = .ok (.iload_n 3, 1) := by decide +kernel
theorem eL_782 : decode mL.2.1 782 = .ok (.iconst 1, 1) := by decide +kernel
theorem eL_783 : decode mL.2.1 783 = .ok (.iadd, 1) := by decide +kernel
theorem eL_784 : decode mL.2.1 784 = .ok (.iaload, 1) := by decide +kernel
theorem eL_785 : decode mL.2.1 785 = .ok (.invokevirtual 95, 3) := by decide +kernel
theorem eL_788 : decode mL.2.1 788 = .ok (.aload_n 2, 1) := by decide +kernel
theorem eL_789 : decode mL.2.1 789 = .ok (.aload_n 0, 1) := by decide +kernel
theorem eL_790 : decode mL.2.1 790 = .ok (.iload_n 3, 1) := by decide +kernel
theorem eL_791 : decode mL.2.1 791 = .ok (.iconst 1, 1) := by decide +kernel
theorem eL_792 : decode mL.2.1 792 = .ok (.iadd, 1) := by decide +kernel
theorem eL_793 : decode mL.2.1 793 = .ok (.iaload, 1) := by decide +kernel
theorem eL_794 : decode mL.2.1 794 = .ok (.invokevirtual 98, 3) := by decide +kernel
theorem eL_797 : decode mL.2.1 797 = .ok (.if_icmp .eq 445, 3) := by decide +kernel
theorem eL_800 : decode mL.2.1 800 = .ok (.iconst 0, 1) := by decide +kernel
theorem eL_801 : decode mL.2.1 801 = .ok (.ireturn, 1) := by decide +kernel
theorem eL_802 : decode mL.2.1 802 = .ok (.aload_n 1, 1) := by decide +kernel
theorem eL_803 : decode mL.2.1 803 = .ok (.aload_n 0, 1) := by decide +kernel
theorem eL_804 : decode mL.2.1 804 = .ok (.iload_n 3, 1) := by decide +kernel
theorem eL_805 : decode mL.2.1 805 = .ok (.iconst 1, 1) := by decide +kernel
theorem eL_806 : decode mL.2.1 806 = .ok (.iadd, 1) := by decide +kernel
theorem eL_807 : decode mL.2.1 807 = .ok (.iaload, 1) := by decide +kernel
theorem eL_808 : decode mL.2.1 808 = .ok (.aload_n 0, 1) := by decide +kernel
theorem eL_809 : decode mL.2.1 809 = .ok (.iload_n 3, 1) := by decide +kernel
theorem eL_810 : decode mL.2.1 810 = .ok (.iconst 2, 1) := by decide +kernel
theorem eL_811 : decode mL.2.1 811 = .ok (.iadd, 1) := by decide +kernel
theorem eL_812 : decode mL.2.1 812 = .ok (.iaload, 1) := by decide +kernel
theorem eL_813 : decode mL.2.1 813 = .ok (.invokevirtual 99, 3) := by decide +kernel
theorem eL_816 : decode mL.2.1 816 = .ok (.aload_n 2, 1) := by decide +kernel
theorem eL_817 : decode mL.2.1 817 = .ok (.aload_n 0, 1) := by decide +kernel
theorem eL_818 : decode mL.2.1 818 = .ok (.iload_n 3, 1) := by decide +kernel
theorem eL_819 : decode mL.2.1 819 = .ok (.iconst 1, 1) := by decide +kernel
theorem eL_820 : decode mL.2.1 820 = .ok (.iadd, 1) := by decide +kernel
theorem eL_821 : decode mL.2.1 821 = .ok (.iaload, 1) := by decide +kernel
theorem eL_822 : decode mL.2.1 822 = .ok (.aload_n 0, 1) := by decide +kernel
theorem eL_823 : decode mL.2.1 823 = .ok (.iload_n 3, 1) := by decide +kernel
theorem eL_824 : decode mL.2.1 824 = .ok (.iconst 2, 1) := by decide +kernel
theorem eL_825 : decode mL.2.1 825 = .ok (.iadd, 1) := by decide +kernel
theorem eL_826 : decode mL.2.1 826 = .ok (.iaload, 1) := by decide +kernel
theorem eL_827 : decode mL.2.1 827 = .ok (.invokevirtual 102, 3) := by decide +kernel
theorem eL_830 : decode mL.2.1 830 = .ok (.if_icmp .eq 412, 3) := by decide +kernel
theorem eL_833 : decode mL.2.1 833 = .ok (.iconst 0, 1) := by decide +kernel
theorem eL_834 : decode mL.2.1 834 = .ok (.ireturn, 1) := by decide +kernel
theorem eL_835 : decode mL.2.1 835 = .ok (.aload_n 1, 1) := by decide +kernel
theorem eL_836 : decode mL.2.1 836 = .ok (.invokevirtual 103, 3) := by decide +kernel
theorem eL_839 : decode mL.2.1 839 = .ok (.aload_n 2, 1) := by decide +kernel
theorem eL_840 : decode mL.2.1 840 = .ok (.invokevirtual 106, 3) := by decide +kernel
theorem eL_843 : decode mL.2.1 843 = .ok (.if_icmp .eq 399, 3) := by decide +kernel
theorem eL_846 : decode mL.2.1 846 = .ok (.iconst 0, 1) := by decide +kernel
theorem eL_847 : decode mL.2.1 847 = .ok (.ireturn, 1) := by decide +kernel
theorem eL_848 : decode mL.2.1 848 = .ok (.aload_n 1, 1) := by decide +kernel
theorem eL_849 : decode mL.2.1 849 = .ok (.aload_n 0, 1) := by decide +kernel
theorem eL_850 : decode mL.2.1 850 = .ok (.iload_n 3, 1) := by decide +kernel
theorem eL_851 : decode mL.2.1 851 = .ok (.iconst 1, 1) := by decide +kernel
theorem eL_852 : decode mL.2.1 852 = .ok (.iadd, 1) := by decide +kernel
theorem eL_853 : decode mL.2.1 853 = .ok (.iaload, 1) := by decide +kernel
theorem eL_854 : decode mL.2.1 854 = .ok (.aload_n 0, 1) := by decide +kernel
theorem eL_855 : decode mL.2.1 855 = .ok (.iload_n 3, 1) := by decide +kernel
theorem eL_856 : decode mL.2.1 856 = .ok (.iconst 2, 1) := by decide +kernel
theorem eL_857 : decode mL.2.1 857 = .ok (.iadd, 1) := by decide +kernel
theorem eL_858 : decode mL.2.1 858 = .ok (.iaload, 1) := by decide +kernel
theorem eL_859 : decode mL.2.1 859 = .ok (.invokevirtual 107, 3) := by decide +kernel
theorem eL_862 : decode mL.2.1 862 = .ok (.aload_n 2, 1) := by decide +kernel
theorem eL_863 : decode mL.2.1 863 = .ok (.aload_n 0, 1) := by decide +kernel
theorem eL_864 : decode mL.2.1 864 = .ok (.iload_n 3, 1) := by decide +kernel
theorem eL_865 : decode mL.2.1 865 = .ok (.iconst 1, 1) := by decide +kernel
theorem eL_866 : decode mL.2.1 866 = .ok (.iadd, 1) := by decide +kernel
theorem eL_867 : decode mL.2.1 867 = .ok (.iaload, 1) := by decide +kernel
theorem eL_868 : decode mL.2.1 868 = .ok (.aload_n 0, 1) := by decide +kernel
theorem eL_869 : decode mL.2.1 869 = .ok (.iload_n 3, 1) := by decide +kernel
theorem eL_870 : decode mL.2.1 870 = .ok (.iconst 2, 1) := by decide +kernel
theorem eL_871 : decode mL.2.1 871 = .ok (.iadd, 1) := by decide +kernel
theorem eL_872 : decode mL.2.1 872 = .ok (.iaload, 1) := by decide +kernel
theorem eL_873 : decode mL.2.1 873 = .ok (.invokevirtual 110, 3) := by decide +kernel
theorem eL_876 : decode mL.2.1 876 = .ok (.if_icmp .eq 366, 3) := by decide +kernel
theorem eL_879 : decode mL.2.1 879 = .ok (.iconst 0, 1) := by decide +kernel
theorem eL_880 : decode mL.2.1 880 = .ok (.ireturn, 1) := by decide +kernel
theorem eL_881 : decode mL.2.1 881 = .ok (.aload_n 1, 1) := by decide +kernel
theorem eL_882 : decode mL.2.1 882 = .ok (.invokevirtual 111, 3) := by decide +kernel
theorem eL_885 : decode mL.2.1 885 = .ok (.aload_n 2, 1) := by decide +kernel
theorem eL_886 : decode mL.2.1 886 = .ok (.invokevirtual 114, 3) := by decide +kernel
theorem eL_889 : decode mL.2.1 889 = .ok (.if_icmp .eq 353, 3) := by decide +kernel
theorem eL_892 : decode mL.2.1 892 = .ok (.iconst 0, 1) := by decide +kernel
theorem eL_893 : decode mL.2.1 893 = .ok (.ireturn, 1) := by decide +kernel
theorem eL_894 : decode mL.2.1 894 = .ok (.aload_n 1, 1) := by decide +kernel
theorem eL_895 : decode mL.2.1 895 = .ok (.invokevirtual 115, 3) := by decide +kernel
theorem eL_898 : decode mL.2.1 898 = .ok (.aload_n 2, 1) := by decide +kernel
theorem eL_899 : decode mL.2.1 899 = .ok (.invokevirtual 118, 3) := by decide +kernel
theorem eL_902 : decode mL.2.1 902 = .ok (.if_icmp .eq 340, 3) := by decide +kernel
theorem eL_905 : decode mL.2.1 905 = .ok (.iconst 0, 1) := by decide +kernel
theorem eL_906 : decode mL.2.1 906 = .ok (.ireturn, 1) := by decide +kernel
theorem eL_907 : decode mL.2.1 907 = .ok (.aload_n 1, 1) := by decide +kernel
theorem eL_908 : decode mL.2.1 908 = .ok (.aload_n 0, 1) := by decide +kernel
theorem eL_909 : decode mL.2.1 909 = .ok (.iload_n 3, 1) := by decide +kernel
theorem eL_910 : decode mL.2.1 910 = .ok (.iconst 1, 1) := by decide +kernel
theorem eL_911 : decode mL.2.1 911 = .ok (.iadd, 1) := by decide +kernel
theorem eL_912 : decode mL.2.1 912 = .ok (.iaload, 1) := by decide +kernel
theorem eL_913 : decode mL.2.1 913 = .ok (.aload_n 0, 1) := by decide +kernel
theorem eL_914 : decode mL.2.1 914 = .ok (.iload_n 3, 1) := by decide +kernel
theorem eL_915 : decode mL.2.1 915 = .ok (.iconst 2, 1) := by decide +kernel
theorem eL_916 : decode mL.2.1 916 = .ok (.iadd, 1) := by decide +kernel
theorem eL_917 : decode mL.2.1 917 = .ok (.iaload, 1) := by decide +kernel
theorem eL_918 : decode mL.2.1 918 = .ok (.aload_n 0, 1) := by decide +kernel
theorem eL_919 : decode mL.2.1 919 = .ok (.iload_n 3, 1) := by decide +kernel
theorem eL_920 : decode mL.2.1 920 = .ok (.iconst 3, 1) := by decide +kernel
theorem eL_921 : decode mL.2.1 921 = .ok (.iadd, 1) := by decide +kernel
theorem eL_922 : decode mL.2.1 922 = .ok (.iaload, 1) := by decide +kernel
theorem eL_923 : decode mL.2.1 923 = .ok (.invokevirtual 119, 3) := by decide +kernel
theorem eL_926 : decode mL.2.1 926 = .ok (.aload_n 2, 1) := by decide +kernel
theorem eL_927 : decode mL.2.1 927 = .ok (.aload_n 0, 1) := by decide +kernel
theorem eL_928 : decode mL.2.1 928 = .ok (.iload_n 3, 1) := by decide +kernel
theorem eL_929 : decode mL.2.1 929 = .ok (.iconst 1, 1) := by decide +kernel
theorem eL_930 : decode mL.2.1 930 = .ok (.iadd, 1) := by decide +kernel
theorem eL_931 : decode mL.2.1 931 = .ok (.iaload, 1) := by decide +kernel
theorem eL_932 : decode mL.2.1 932 = .ok (.aload_n 0, 1) := by decide +kernel
theorem eL_933 : decode mL.2.1 933 = .ok (.iload_n 3, 1) := by decide +kernel
theorem eL_934 : decode mL.2.1 934 = .ok (.iconst 2, 1) := by decide +kernel
theorem eL_935 : decode mL.2.1 935 = .ok (.iadd, 1) := by decide +kernel
theorem eL_936 : decode mL.2.1 936 = .ok (.iaload, 1) := by decide +kernel
theorem eL_937 : decode mL.2.1 937 = .ok (.aload_n 0, 1) := by decide +kernel
theorem eL_938 : decode mL.2.1 938 = .ok (.iload_n 3, 1) := by decide +kernel
theorem eL_939 : decode mL.2.1 939 = .ok (.iconst 3, 1) := by decide +kernel
theorem eL_940 : decode mL.2.1 940 = .ok (.iadd, 1) := by decide +kernel
theorem eL_941 : decode mL.2.1 941 = .ok (.iaload, 1) := by decide +kernel
theorem eL_942 : decode mL.2.1 942 = .ok (.invokevirtual 122, 3) := by decide +kernel
theorem eL_945 : decode mL.2.1 945 = .ok (.if_icmp .eq 297, 3) := by decide +kernel
theorem eL_948 : decode mL.2.1 948 = .ok (.iconst 0, 1) := by decide +kernel
theorem eL_949 : decode mL.2.1 949 = .ok (.ireturn, 1) := by decide +kernel
theorem eL_950 : decode mL.2.1 950 = .ok (.aload_n 1, 1) := by decide +kernel
theorem eL_951 : decode mL.2.1 951 = .ok (.aload_n 0, 1) := by decide +kernel
theorem eL_952 : decode mL.2.1 952 = .ok (.iload_n 3, 1) := by decide +kernel
theorem eL_953 : decode mL.2.1 953 = .ok (.iconst 1, 1) := by decide +kernel
theorem eL_954 : decode mL.2.1 954 = .ok (.iadd, 1) := by decide +kernel
theorem eL_955 : decode mL.2.1 955 = .ok (.iaload, 1) := by decide +kernel
theorem eL_956 : decode mL.2.1 956 = .ok (.invokevirtual 123, 3) := by decide +kernel
theorem eL_959 : decode mL.2.1 959 = .ok (.aload_n 2, 1) := by decide +kernel
theorem eL_960 : decode mL.2.1 960 = .ok (.aload_n 0, 1) := by decide +kernel
theorem eL_961 : decode mL.2.1 961 = .ok (.iload_n 3, 1) := by decide +kernel
theorem eL_962 : decode mL.2.1 962 = .ok (.iconst 1, 1) := by decide +kernel
theorem eL_963 : decode mL.2.1 963 = .ok (.iadd, 1) := by decide +kernel
theorem eL_964 : decode mL.2.1 964 = .ok (.iaload, 1) := by decide +kernel
theorem eL_965 : decode mL.2.1 965 = .ok (.invokevirtual 126, 3) := by decide +kernel
theorem eL_968 : decode mL.2.1 968 = .ok (.if_icmp .eq 274, 3) := by decide +kernel
theorem eL_971 : decode mL.2.1 971 = .ok (.iconst 0, 1) := by decide +kernel
theorem eL_972 : decode mL.2.1 972 = .ok (.ireturn, 1) := by decide +kernel
theorem eL_973 : decode mL.2.1 973 = .ok (.aload_n 1, 1) := by decide +kernel
theorem eL_974 : decode mL.2.1 974 = .ok (.aload_n 0, 1) := by decide +kernel
theorem eL_975 : decode mL.2.1 975 = .ok (.iload_n 3, 1) := by decide +kernel
theorem eL_976 : decode mL.2.1 976 = .ok (.iconst 1, 1) := by decide +kernel
theorem eL_977 : decode mL.2.1 977 = .ok (.iadd, 1) := by decide +kernel
theorem eL_978 : decode mL.2.1 978 = .ok (.iaload, 1) := by decide +kernel
theorem eL_979 : decode mL.2.1 979 = .ok (.aload_n 0, 1) := by decide +kernel
theorem eL_980 : decode mL.2.1 980 = .ok (.iload_n 3, 1) := by decide +kernel
theorem eL_981 : decode mL.2.1 981 = .ok (.iconst 2, 1) := by decide +kernel
theorem eL_982 : decode mL.2.1 982 = .ok (.iadd, 1) := by decide +kernel
theorem eL_983 : decode mL.2.1 983 = .ok (.iaload, 1) := by decide +kernel
theorem eL_984 : decode mL.2.1 984 = .ok (.invokevirtual 127, 3) := by decide +kernel
theorem eL_987 : decode mL.2.1 987 = .ok (.aload_n 2, 1) := by decide +kernel
theorem eL_988 : decode mL.2.1 988 = .ok (.aload_n 0, 1) := by decide +kernel
theorem eL_989 : decode mL.2.1 989 = .ok (.iload_n 3, 1) := by decide +kernel
theorem eL_990 : decode mL.2.1 990 = .ok (.iconst 1, 1) := by decide +kernel
theorem eL_991 : decode mL.2.1 991 = .ok (.iadd, 1) := by decide +kernel
theorem eL_992 : decode mL.2.1 992 = .ok (.iaload, 1) := by decide +kernel
theorem eL_993 : decode mL.2.1 993 = .ok (.aload_n 0, 1) := by decide +kernel
theorem eL_994 : decode mL.2.1 994 = .ok (.iload_n 3, 1) := by decide +kernel
theorem eL_995 : decode mL.2.1 995 = .ok (.iconst 2, 1) := by decide +kernel
theorem eL_996 : decode mL.2.1 996 = .ok (.iadd, 1) := by decide +kernel
theorem eL_997 : decode mL.2.1 997 = .ok (.iaload, 1) := by decide +kernel
theorem eL_998 : decode mL.2.1 998 = .ok (.invokevirtual 130, 3) := by decide +kernel
theorem eL_1001 : decode mL.2.1 1001 = .ok (.if_icmp .eq 241, 3) := by decide +kernel
theorem eL_1004 : decode mL.2.1 1004 = .ok (.iconst 0, 1) := by decide +kernel
theorem eL_1005 : decode mL.2.1 1005 = .ok (.ireturn, 1) := by decide +kernel
theorem eL_1006 : decode mL.2.1 1006 = .ok (.aload_n 1, 1) := by decide +kernel
theorem eL_1007 : decode mL.2.1 1007 = .ok (.aload_n 0, 1) := by decide +kernel
theorem eL_1008 : decode mL.2.1 1008 = .ok (.iload_n 3, 1) := by decide +kernel
theorem eL_1009 : decode mL.2.1 1009 = .ok (.iconst 1, 1) := by decide +kernel
theorem eL_1010 : decode mL.2.1 1010 = .ok (.iadd, 1) := by decide +kernel
theorem eL_1011 : decode mL.2.1 1011 = .ok (.iaload, 1) := by decide +kernel
theorem eL_1012 : decode mL.2.1 1012 = .ok (.invokevirtual 131, 3) := by decide +kernel
theorem eL_1015 : decode mL.2.1 1015 = .ok (.aload_n 2, 1) := by decide +kernel
theorem eL_1016 : decode mL.2.1 1016 = .ok (.aload_n 0, 1) := by decide +kernel
theorem eL_1017 : decode mL.2.1 1017 = .ok (.iload_n 3, 1) := by decide +kernel
theorem eL_1018 : decode mL.2.1 1018 = .ok (.iconst 1, 1) := by decide +kernel
theorem eL_1019 : decode mL.2.1 1019 = .ok (.iadd, 1) := by decide +kernel
theorem eL_1020 : decode mL.2.1 1020 = .ok (.iaload, 1) := by decide +kernel
theorem eL_1021 : decode mL.2.1 1021 = .ok (.invokevirtual 134, 3) := by decide +kernel
theorem eL_1024 : decode mL.2.1 1024 = .ok (.if_icmp .eq 218, 3) := by decide +kernel
theorem eL_1027 : decode mL.2.1 1027 = .ok (.iconst 0, 1) := by decide +kernel
theorem eL_1028 : decode mL.2.1 1028 = .ok (.ireturn, 1) := by decide +kernel
theorem eL_1029 : decode mL.2.1 1029 = .ok (.aload_n 1, 1) := by decide +kernel
theorem eL_1030 : decode mL.2.1 1030 = .ok (.aload_n 0, 1) := by decide +kernel
theorem eL_1031 : decode mL.2.1 1031 = .ok (.iload_n 3, 1) := by decide +kernel
theorem eL_1032 : decode mL.2.1 1032 = .ok (.iconst 1, 1) := by decide +kernel
theorem eL_1033 : decode mL.2.1 1033 = .ok (.iadd, 1) := by decide +kernel
theorem eL_1034 : decode mL.2.1 1034 = .ok (.iaload, 1) := by decide +kernel
theorem eL_1035 : decode mL.2.1 1035 = .ok (.aload_n 0, 1) := by decide +kernel
theorem eL_1036 : decode mL.2.1 1036 = .ok (.iload_n 3, 1) := by decide +kernel
theorem eL_1037 : decode mL.2.1 1037 = .ok (.iconst 2, 1) := by decide +kernel
theorem eL_1038 : decode mL.2.1 1038 = .ok (.iadd, 1) := by decide +kernel
theorem eL_1039 : decode mL.2.1 1039 = .ok (.iaload, 1) := by decide +kernel
theorem eL_1040 : decode mL.2.1 1040 = .ok (.aload_n 0, 1) := by decide +kernel
theorem eL_1041 : decode mL.2.1 1041 = .ok (.iload_n 3, 1) := by decide +kernel
theorem eL_1042 : decode mL.2.1 1042 = .ok (.iconst 3, 1) := by decide +kernel
theorem eL_1043 : decode mL.2.1 1043 = .ok (.iadd, 1) := by decide +kernel
theorem eL_1044 : decode mL.2.1 1044 = .ok (.iaload, 1) := by decide +kernel
theorem eL_1045 : decode mL.2.1 1045 = .ok (.invokevirtual 135, 3) := by decide +kernel
theorem eL_1048 : decode mL.2.1 1048 = .ok (.aload_n 2, 1) := by decide +kernel
theorem eL_1049 : decode mL.2.1 1049 = .ok (.aload_n 0, 1) := by decide +kernel
theorem eL_1050 : decode mL.2.1 1050 = .ok (.iload_n 3, 1) := by decide +kernel
theorem eL_1051 : decode mL.2.1 1051 = .ok (.iconst 1, 1) := by decide +kernel
theorem eL_1052 : decode mL.2.1 1052 = .ok (.iadd, 1) := by decide +kernel
theorem eL_1053 : decode mL.2.1 1053 = .ok (.iaload, 1) := by decide +kernel
theorem eL_1054 : decode mL.2.1 1054 = .ok (.aload_n 0, 1) := by decide +kernel
theorem eL_1055 : decode mL.2.1 1055 = .ok (.iload_n 3, 1) := by decide +kernel
theorem eL_1056 : decode mL.2.1 1056 = .ok (.iconst 2, 1) := by decide +kernel
theorem eL_1057 : decode mL.2.1 1057 = .ok (.iadd, 1) := by decide +kernel
theorem eL_1058 : decode mL.2.1 1058 = .ok (.iaload, 1) := by decide +kernel
theorem eL_1059 : decode mL.2.1 1059 = .ok (.aload_n 0, 1) := by decide +kernel
theorem eL_1060 : decode mL.2.1 1060 = .ok (.iload_n 3, 1) := by decide +kernel
theorem eL_1061 : decode mL.2.1 1061 = .ok (.iconst 3, 1) := by decide +kernel
theorem eL_1062 : decode mL.2.1 1062 = .ok (.iadd, 1) := by decide +kernel
theorem eL_1063 : decode mL.2.1 1063 = .ok (.iaload, 1) := by decide +kernel
theorem eL_1064 : decode mL.2.1 1064 = .ok (.invokevirtual 138, 3) := by decide +kernel
theorem eL_1067 : decode mL.2.1 1067 = .ok (.if_icmp .eq 175, 3) := by decide +kernel
theorem eL_1070 : decode mL.2.1 1070 = .ok (.iconst 0, 1) := by decide +kernel
theorem eL_1071 : decode mL.2.1 1071 = .ok (.ireturn, 1) := by decide +kernel
theorem eL_1072 : decode mL.2.1 1072 = .ok (.aload_n 1, 1) := by decide +kernel
theorem eL_1073 : decode mL.2.1 1073 = .ok (.aload_n 0, 1) := by decide +kernel
theorem eL_1074 : decode mL.2.1 1074 = .ok (.iload_n 3, 1) := by decide +kernel
theorem eL_1075 : decode mL.2.1 1075 = .ok (.iconst 1, 1) := by decide +kernel
theorem eL_1076 : decode mL.2.1 1076 = .ok (.iadd, 1) := by decide +kernel
theorem eL_1077 : decode mL.2.1 1077 = .ok (.iaload, 1) := by decide +kernel
theorem eL_1078 : decode mL.2.1 1078 = .ok (.aload_n 0, 1) := by decide +kernel
theorem eL_1079 : decode mL.2.1 1079 = .ok (.iload_n 3, 1) := by decide +kernel
theorem eL_1080 : decode mL.2.1 1080 = .ok (.iconst 2, 1) := by decide +kernel
theorem eL_1081 : decode mL.2.1 1081 = .ok (.iadd, 1) := by decide +kernel
theorem eL_1082 : decode mL.2.1 1082 = .ok (.iaload, 1) := by decide +kernel
theorem eL_1083 : decode mL.2.1 1083 = .ok (.aload_n 0, 1) := by decide +kernel
theorem eL_1084 : decode mL.2.1 1084 = .ok (.iload_n 3, 1) := by decide +kernel
theorem eL_1085 : decode mL.2.1 1085 = .ok (.iconst 3, 1) := by decide +kernel
theorem eL_1086 : decode mL.2.1 1086 = .ok (.iadd, 1) := by decide +kernel
theorem eL_1087 : decode mL.2.1 1087 = .ok (.iaload, 1) := by decide +kernel
theorem eL_1088 : decode mL.2.1 1088 = .ok (.i2l, 1) := by decide +kernel
theorem eL_1089 : decode mL.2.1 1089 = .ok (.bipush 32, 2) := by decide +kernel
theorem eL_1091 : decode mL.2.1 1091 = .ok (.lshl, 1) := by decide +kernel
theorem eL_1092 : decode mL.2.1 1092 = .ok (.aload_n 0, 1) := by decide +kernel
theorem eL_1093 : decode mL.2.1 1093 = .ok (.iload_n 3, 1) := by decide +kernel
theorem eL_1094 : decode mL.2.1 1094 = .ok (.iconst 4, 1) := by decide +kernel
theorem eL_1095 : decode mL.2.1 1095 = .ok (.iadd, 1) := by decide +kernel
theorem eL_1096 : decode mL.2.1 1096 = .ok (.iaload, 1) := by decide +kernel
theorem eL_1097 : decode mL.2.1 1097 = .ok (.i2l, 1) := by decide +kernel
theorem eL_1098 : decode mL.2.1 1098 = .ok (.ldc2_w 139, 3) := by decide +kernel
theorem eL_1101 : decode mL.2.1 1101 = .ok (.land, 1) := by decide +kernel
theorem eL_1102 : decode mL.2.1 1102 = .ok (.lor, 1) := by decide +kernel
theorem eL_1103 : decode mL.2.1 1103 = .ok (.invokevirtual 141, 3) := by decide +kernel
theorem eL_1106 : decode mL.2.1 1106 = .ok (.aload_n 2, 1) := by decide +kernel
theorem eL_1107 : decode mL.2.1 1107 = .ok (.aload_n 0, 1) := by decide +kernel
theorem eL_1108 : decode mL.2.1 1108 = .ok (.iload_n 3, 1) := by decide +kernel
theorem eL_1109 : decode mL.2.1 1109 = .ok (.iconst 1, 1) := by decide +kernel
theorem eL_1110 : decode mL.2.1 1110 = .ok (.iadd, 1) := by decide +kernel
theorem eL_1111 : decode mL.2.1 1111 = .ok (.iaload, 1) := by decide +kernel
theorem eL_1112 : decode mL.2.1 1112 = .ok (.aload_n 0, 1) := by decide +kernel
theorem eL_1113 : decode mL.2.1 1113 = .ok (.iload_n 3, 1) := by decide +kernel
theorem eL_1114 : decode mL.2.1 1114 = .ok (.iconst 2, 1) := by decide +kernel
theorem eL_1115 : decode mL.2.1 1115 = .ok (.iadd, 1) := by decide +kernel
theorem eL_1116 : decode mL.2.1 1116 = .ok (.iaload, 1) := by decide +kernel
theorem eL_1117 : decode mL.2.1 1117 = .ok (.aload_n 0, 1) := by decide +kernel
theorem eL_1118 : decode mL.2.1 1118 = .ok (.iload_n 3, 1) := by decide +kernel
theorem eL_1119 : decode mL.2.1 1119 = .ok (.iconst 3, 1) := by decide +kernel
theorem eL_1120 : decode mL.2.1 1120 = .ok (.iadd, 1) := by decide +kernel
theorem eL_1121 : decode mL.2.1 1121 = .ok (.iaload, 1) := by decide +kernel
theorem eL_1122 : decode mL.2.1 1122 = .ok (.i2l, 1) := by decide +kernel
theorem eL_1123 : decode mL.2.1 1123 = .ok (.bipush 32, 2) := by decide +kernel
theorem eL_1125 : decode mL.2.1 1125 = .ok (.lshl, 1) := by decide +kernel
theorem eL_1126 : decode mL.2.1 1126 = .ok (.aload_n 0, 1) := by decide +kernel
theorem eL_1127 : decode mL.2.1 1127 = .ok (.iload_n 3, 1) := by decide +kernel
theorem eL_1128 : decode mL.2.1 1128 = .ok (.iconst 4, 1) := by decide +kernel
theorem eL_1129 : decode mL.2.1 1129 = .ok (.iadd, 1) := by decide +kernel
theorem eL_1130 : decode mL.2.1 1130 = .ok (.iaload, 1) := by decide +kernel
theorem eL_1131 : decode mL.2.1 1131 = .ok (.i2l, 1) := by decide +kernel
theorem eL_1132 : decode mL.2.1 1132 = .ok (.ldc2_w 139, 3) := by decide +kernel
theorem eL_1135 : decode mL.2.1 1135 = .ok (.land, 1) := by decide +kernel
theorem eL_1136 : decode mL.2.1 1136 = .ok (.lor, 1) := by decide +kernel
theorem eL_1137 : decode mL.2.1 1137 = .ok (.invokevirtual 145, 3) := by decide +kernel
theorem eL_1140 : decode mL.2.1 1140 = .ok (.if_icmp .eq 102, 3) := by decide +kernel
theorem eL_1143 : decode mL.2.1 1143 = .ok (.iconst 0, 1) := by decide +kernel
theorem eL_1144 : decode mL.2.1 1144 = .ok (.ireturn, 1) := by decide +kernel
theorem eL_1145 : decode mL.2.1 1145 = .ok (.aload_n 1, 1) := by decide +kernel
theorem eL_1146 : decode mL.2.1 1146 = .ok (.aload_n 0, 1) := by decide +kernel
theorem eL_1147 : decode mL.2.1 1147 = .ok (.iload_n 3, 1) := by decide +kernel
theorem eL_1148 : decode mL.2.1 1148 = .ok (.iconst 1, 1) := by decide +kernel
theorem eL_1149 : decode mL.2.1 1149 = .ok (.iadd, 1) := by decide +kernel
theorem eL_1150 : decode mL.2.1 1150 = .ok (.iaload, 1) := by decide +kernel
theorem eL_1151 : decode mL.2.1 1151 = .ok (.aload_n 0, 1) := by decide +kernel
theorem eL_1152 : decode mL.2.1 1152 = .ok (.iload_n 3, 1) := by decide +kernel
theorem eL_1153 : decode mL.2.1 1153 = .ok (.iconst 2, 1) := by decide +kernel
theorem eL_1154 : decode mL.2.1 1154 = .ok (.iadd, 1) := by decide +kernel
theorem eL_1155 : decode mL.2.1 1155 = .ok (.iaload, 1) := by decide +kernel
theorem eL_1156 : decode mL.2.1 1156 = .ok (.invokevirtual 146, 3) := by decide +kernel
theorem eL_1159 : decode mL.2.1 1159 = .ok (.aload_n 2, 1) := by decide +kernel
theorem eL_1160 : decode mL.2.1 1160 = .ok (.aload_n 0, 1) := by decide +kernel
theorem eL_1161 : decode mL.2.1 1161 = .ok (.iload_n 3, 1) := by decide +kernel
theorem eL_1162 : decode mL.2.1 1162 = .ok (.iconst 1, 1) := by decide +kernel
theorem eL_1163 : decode mL.2.1 1163 = .ok (.iadd, 1) := by decide +kernel
theorem eL_1164 : decode mL.2.1 1164 = .ok (.iaload, 1) := by decide +kernel
theorem eL_1165 : decode mL.2.1 1165 = .ok (.aload_n 0, 1) := by decide +kernel
theorem eL_1166 : decode mL.2.1 1166 = .ok (.iload_n 3, 1) := by decide +kernel
theorem eL_1167 : decode mL.2.1 1167 = .ok (.iconst 2, 1) := by decide +kernel
theorem eL_1168 : decode mL.2.1 1168 = .ok (.iadd, 1) := by decide +kernel
theorem eL_1169 : decode mL.2.1 1169 = .ok (.iaload, 1) := by decide +kernel
theorem eL_1170 : decode mL.2.1 1170 = .ok (.invokevirtual 150, 3) := by decide +kernel
theorem eL_1173 : decode mL.2.1 1173 = .ok (.lcmp, 1) := by decide +kernel
theorem eL_1174 : decode mL.2.1 1174 = .ok (.ifCond .eq 68, 3) := by decide +kernel
theorem eL_1177 : decode mL.2.1 1177 = .ok (.iconst 0, 1) := by decide +kernel
theorem eL_1178 : decode mL.2.1 1178 = .ok (.ireturn, 1) := by decide +kernel
theorem eL_1179 : decode mL.2.1 1179 = .ok (.aload_n 1, 1) := by decide +kernel
theorem eL_1180 : decode mL.2.1 1180 = .ok (.aload_n 0, 1) := by decide +kernel
theorem eL_1181 : decode mL.2.1 1181 = .ok (.iload_n 3, 1) := by decide +kernel
theorem eL_1182 : decode mL.2.1 1182 = .ok (.iconst 1, 1) := by decide +kernel
theorem eL_1183 : decode mL.2.1 1183 = .ok (.iadd, 1) := by decide +kernel
theorem eL_1184 : decode mL.2.1 1184 = .ok (.iaload, 1) := by decide +kernel
theorem eL_1185 : decode mL.2.1 1185 = .ok (.aload_n 0, 1) := by decide +kernel
theorem eL_1186 : decode mL.2.1 1186 = .ok (.iload_n 3, 1) := by decide +kernel
theorem eL_1187 : decode mL.2.1 1187 = .ok (.iconst 2, 1) := by decide +kernel
theorem eL_1188 : decode mL.2.1 1188 = .ok (.iadd, 1) := by decide +kernel
theorem eL_1189 : decode mL.2.1 1189 = .ok (.iaload, 1) := by decide +kernel
theorem eL_1190 : decode mL.2.1 1190 = .ok (.aload_n 0, 1) := by decide +kernel
theorem eL_1191 : decode mL.2.1 1191 = .ok (.iload_n 3, 1) := by decide +kernel
theorem eL_1192 : decode mL.2.1 1192 = .ok (.iconst 3, 1) := by decide +kernel
theorem eL_1193 : decode mL.2.1 1193 = .ok (.iadd, 1) := by decide +kernel
theorem eL_1194 : decode mL.2.1 1194 = .ok (.iaload, 1) := by decide +kernel
theorem eL_1195 : decode mL.2.1 1195 = .ok (.aload_n 0, 1) := by decide +kernel
theorem eL_1196 : decode mL.2.1 1196 = .ok (.iload_n 3, 1) := by decide +kernel
theorem eL_1197 : decode mL.2.1 1197 = .ok (.iconst 4, 1) := by decide +kernel
theorem eL_1198 : decode mL.2.1 1198 = .ok (.iadd, 1) := by decide +kernel
theorem eL_1199 : decode mL.2.1 1199 = .ok (.iaload, 1) := by decide +kernel
theorem eL_1200 : decode mL.2.1 1200 = .ok (.aload_n 0, 1) := by decide +kernel
theorem eL_1201 : decode mL.2.1 1201 = .ok (.iload_n 3, 1) := by decide +kernel
theorem eL_1202 : decode mL.2.1 1202 = .ok (.iconst 5, 1) := by decide +kernel
theorem eL_1203 : decode mL.2.1 1203 = .ok (.iadd, 1) := by decide +kernel
theorem eL_1204 : decode mL.2.1 1204 = .ok (.iaload, 1) := by decide +kernel
theorem eL_1205 : decode mL.2.1 1205 = .ok (.invokevirtual 151, 3) := by decide +kernel
theorem eL_1208 : decode mL.2.1 1208 = .ok (.aload_n 2, 1) := by decide +kernel
theorem eL_1209 : decode mL.2.1 1209 = .ok (.aload_n 0, 1) := by decide +kernel
theorem eL_1210 : decode mL.2.1 1210 = .ok (.iload_n 3, 1) := by decide +kernel
theorem eL_1211 : decode mL.2.1 1211 = .ok (.iconst 1, 1) := by decide +kernel
theorem eL_1212 : decode mL.2.1 1212 = .ok (.iadd, 1) := by decide +kernel
theorem eL_1213 : decode mL.2.1 1213 = .ok (.iaload, 1) := by decide +kernel
theorem eL_1214 : decode mL.2.1 1214 = .ok (.aload_n 0, 1) := by decide +kernel
theorem eL_1215 : decode mL.2.1 1215 = .ok (.iload_n 3, 1) := by decide +kernel
theorem eL_1216 : decode mL.2.1 1216 = .ok (.iconst 2, 1) := by decide +kernel
theorem eL_1217 : decode mL.2.1 1217 = .ok (.iadd, 1) := by decide +kernel
theorem eL_1218 : decode mL.2.1 1218 = .ok (.iaload, 1) := by decide +kernel
theorem eL_1219 : decode mL.2.1 1219 = .ok (.aload_n 0, 1) := by decide +kernel
theorem eL_1220 : decode mL.2.1 1220 = .ok (.iload_n 3, 1) := by decide +kernel
theorem eL_1221 : decode mL.2.1 1221 = .ok (.iconst 3, 1) := by decide +kernel
theorem eL_1222 : decode mL.2.1 1222 = .ok (.iadd, 1) := by decide +kernel
theorem eL_1223 : decode mL.2.1 1223 = .ok (.iaload, 1) := by decide +kernel
theorem eL_1224 : decode mL.2.1 1224 = .ok (.aload_n 0, 1) := by decide +kernel
theorem eL_1225 : decode mL.2.1 1225 = .ok (.iload_n 3, 1) := by decide +kernel
theorem eL_1226 : decode mL.2.1 1226 = .ok (.iconst 4, 1) := by decide +kernel
theorem eL_1227 : decode mL.2.1 1227 = .ok (.iadd, 1) := by decide +kernel
theorem eL_1228 : decode mL.2.1 1228 = .ok (.iaload, 1) := by decide +kernel
theorem eL_1229 : decode mL.2.1 1229 = .ok (.aload_n 0, 1) := by decide +kernel
theorem eL_1230 : decode mL.2.1 1230 = .ok (.iload_n 3, 1) := by decide +kernel
theorem eL_1231 : decode mL.2.1 1231 = .ok (.iconst 5, 1) := by decide +kernel
theorem eL_1232 : decode mL.2.1 1232 = .ok (.iadd, 1) := by decide +kernel
theorem eL_1233 : decode mL.2.1 1233 = .ok (.iaload, 1) := by decide +kernel
theorem eL_1234 : decode mL.2.1 1234 = .ok (.invokevirtual 155, 3) := by decide +kernel
theorem eL_1237 : decode mL.2.1 1237 = .ok (.if_icmp .eq 5, 3) := by decide +kernel
theorem eL_1240 : decode mL.2.1 1240 = .ok (.iconst 0, 1) := by decide +kernel
theorem eL_1241 : decode mL.2.1 1241 = .ok (.ireturn, 1) := by decide +kernel
theorem eL_1242 : decode mL.2.1 1242 = .ok (.iinc 3 6, 3) := by decide +kernel
theorem eL_1245 : decode mL.2.1 1245 = .ok (.goto (-1227), 3) := by decide +kernel
theorem eL_1248 : decode mL.2.1 1248 = .ok (.iconst 1, 1) := by decide +kernel
theorem eL_1249 : decode mL.2.1 1249 = .ok (.ireturn, 1) := by decide +kernel
theorem L_teller (hI : Inv h U) (hi : i + 6 ≤ gL G) (hL : gL G ≤ 3072) (hd : 60 ≤ d) (hk : k + 2 ≤ mc) (hn : n + 102 ≤ ms) (kk : ∀ h' U' k' n', k' ≤ k + 2 → n' ≤ n + 102 → Inv h' U' → AW l G mL d mc ms Q k' n' h' (LvL i) [] 1242) : AW l G mL d mc ms Q k n h (LvL i) [] 180 := by
  obtain ⟨Q1, hc1, hq1⟩ := p_teller (l := l) (G := G) (d := 50) hI (gx G (i + 1)) (gx G (i + 2)) (gx G (i + 3)) (by omega)
  refine aw_aload_n (pc' := 181) eL_180 rfl rfl trivial ?_
  refine aw_scr 1 (pc := 181) eL_181 eL_182 eL_183 eL_184 eL_185 (by decide) (by omega) hL ?_
  refine aw_scr 2 (pc := 186) eL_186 eL_187 eL_188 eL_189 eL_190 (by decide) (by omega) hL ?_
  refine aw_scr 3 (pc := 191) eL_191 eL_192 eL_193 eL_194 eL_195 (by decide) (by omega) hL ?_
  refine aw_callv (pc' := 199) (nn := 3) hc1 eL_196 rfl ⟨q293, q296, q55⟩ q294 q295 ⟨rfl, by decide +kernel, by decide +kernel, by decide +kernel⟩ rfl hI.z6 rfl ⟨by omega, by decide⟩ ⟨by omega, by omega⟩ rfl (Nat.le_of_ble_eq_true rfl) (fun v1 h1 hr1 => ?_)
  obtain ⟨hz, w, rfl, Q2, hc2, hq2⟩ := hq1 v1 h1 hr1
  dsimp only [Option.toList, List.cons_append, List.nil_append]
  refine aw_aload_n (pc' := 200) eL_199 rfl rfl trivial ?_
  refine aw_scr 1 (pc := 200) eL_200 eL_201 eL_202 eL_203 eL_204 (by decide) (by omega) hL ?_
  refine aw_scr 2 (pc := 205) eL_205 eL_206 eL_207 eL_208 eL_209 (by decide) (by omega) hL ?_
  refine aw_scr 3 (pc := 210) eL_210 eL_211 eL_212 eL_213 eL_214 (by decide) (by omega) hL ?_
  refine aw_callv (pc' := 218) (nn := 3) hc2 eL_215 rfl ⟨q886, q889, q62⟩ q887 q888 ⟨rfl, by decide +kernel, by decide +kernel, by decide +kernel⟩ rfl hz rfl ⟨by omega, by decide⟩ ⟨by omega, by omega⟩ rfl (Nat.le_of_ble_eq_true rfl) (fun v2 h2 hr2 => ?_)
  obtain ⟨rfl, U', hI'⟩ := hq2 v2 h2 hr2
  dsimp only [Option.toList, List.cons_append, List.nil_append]
  refine aw_icmp_eq (pc' := 221) (tgt := 1242) eL_218 rfl (by decide) (fun _ => kk _ U' _ _ (by omega) (by omega) hI') (fun c => absurd rfl c)
theorem L_of (hI : Inv h U) (hi : i + 6 ≤ gL G) (hL : gL G ≤ 3072) (hd : 60 ≤ d) (hk : k + 2 ≤ mc) (hn : n + 102 ≤ ms) (kk : ∀ h' U' k' n', k' ≤ k + 2 → n' ≤ n + 102 → Inv h' U' → AW l G mL d mc ms Q k' n' h' (LvL i) [] 1242) : AW l G mL d mc ms Q k n h (LvL i) [] 223 := by
  obtain ⟨Q1, hc1, hq1⟩ := p_of (l := l) (G := G) (d := 50) hI (gx G (i + 1)) (gx G (i + 2)) (by omega)
  refine aw_aload_n (pc' := 224) eL_223 rfl rfl trivial ?_
  refine aw_scr 1 (pc := 224) eL_224 eL_225 eL_226 eL_227 eL_228 (by decide) (by omega) hL ?_
  refine aw_scr 2 (pc := 229) eL_229 eL_230 eL_231 eL_232 eL_233 (by decide) (by omega) hL ?_
  refine aw_callv (pc' := 237) (nn := 2) hc1 eL_234 rfl ⟨q301, q304, q55⟩ q302 q303 ⟨rfl, by decide +kernel, by decide +kernel, by decide +kernel⟩ rfl hI.z6 rfl ⟨by omega, by decide⟩ ⟨by omega, by omega⟩ rfl (Nat.le_of_ble_eq_true rfl) (fun v1 h1 hr1 => ?_)
  obtain ⟨hz, w, rfl, Q2, hc2, hq2⟩ := hq1 v1 h1 hr1
  dsimp only [Option.toList, List.cons_append, List.nil_append]
  refine aw_aload_n (pc' := 238) eL_237 rfl rfl trivial ?_
  refine aw_scr 1 (pc := 238) eL_238 eL_239 eL_240 eL_241 eL_242 (by decide) (by omega) hL ?_
  refine aw_scr 2 (pc := 243) eL_243 eL_244 eL_245 eL_246 eL_247 (by decide) (by omega) hL ?_
  refine aw_callv (pc' := 251) (nn := 2) hc2 eL_248 rfl ⟨q893, q896, q62⟩ q894 q895 ⟨rfl, by decide +kernel, by decide +kernel, by decide +kernel⟩ rfl hz rfl ⟨by omega, by decide⟩ ⟨by omega, by omega⟩ rfl (Nat.le_of_ble_eq_true rfl) (fun v2 h2 hr2 => ?_)
  obtain ⟨rfl, U', hI'⟩ := hq2 v2 h2 hr2
  dsimp only [Option.toList, List.cons_append, List.nil_append]
  refine aw_icmp_eq (pc' := 254) (tgt := 1242) eL_251 rfl (by decide) (fun _ => kk _ U' _ _ (by omega) (by omega) hI') (fun c => absurd rfl c)
theorem L_tell (hI : Inv h U) (hi : i + 6 ≤ gL G) (hL : gL G ≤ 3072) (hd : 60 ≤ d) (hk : k + 2 ≤ mc) (hn : n + 102 ≤ ms) (kk : ∀ h' U' k' n', k' ≤ k + 2 → n' ≤ n + 102 → Inv h' U' → AW l G mL d mc ms Q k' n' h' (LvL i) [] 1242) : AW l G mL d mc ms Q k n h (LvL i) [] 256 := by
  obtain ⟨Q1, hc1, hq1⟩ := p_tell (l := l) (G := G) (d := 50) hI (gx G (i + 1)) (by omega)
  refine aw_aload_n (pc' := 257) eL_256 rfl rfl trivial ?_
  refine aw_scr 1 (pc := 257) eL_257 eL_258 eL_259 eL_260 eL_261 (by decide) (by omega) hL ?_
  refine aw_callv (pc' := 265) (nn := 1) hc1 eL_262 rfl ⟨q371, q374, q55⟩ q372 q373 ⟨rfl, by decide +kernel, by decide +kernel, by decide +kernel⟩ rfl hI.z6 rfl ⟨by omega, by decide⟩ ⟨by omega, by omega⟩ rfl (Nat.le_of_ble_eq_true rfl) (fun v1 h1 hr1 => ?_)
  obtain ⟨hz, w, rfl, Q2, hc2, hq2⟩ := hq1 v1 h1 hr1
  dsimp only [Option.toList, List.cons_append, List.nil_append]
  refine aw_aload_n (pc' := 266) eL_265 rfl rfl trivial ?_
  refine aw_scr 1 (pc := 266) eL_266 eL_267 eL_268 eL_269 eL_270 (by decide) (by omega) hL ?_
  refine aw_callv (pc' := 274) (nn := 1) hc2 eL_271 rfl ⟨q1001, q1004, q62⟩ q1002 q1003 ⟨rfl, by decide +kernel, by decide +kernel, by decide +kernel⟩ rfl hz rfl ⟨by omega, by decide⟩ ⟨by omega, by omega⟩ rfl (Nat.le_of_ble_eq_true rfl) (fun v2 h2 hr2 => ?_)
  obtain ⟨rfl, U', hI'⟩ := hq2 v2 h2 hr2
  dsimp only [Option.toList, List.cons_append, List.nil_append]
  refine aw_icmp_eq (pc' := 277) (tgt := 1242) eL_274 rfl (by decide) (fun _ => kk _ U' _ _ (by omega) (by omega) hI') (fun c => absurd rfl c)
theorem L_weigh (hI : Inv h U) (hi : i + 6 ≤ gL G) (hL : gL G ≤ 3072) (hd : 60 ≤ d) (hk : k + 2 ≤ mc) (hn : n + 102 ≤ ms) (kk : ∀ h' U' k' n', k' ≤ k + 2 → n' ≤ n + 102 → Inv h' U' → AW l G mL d mc ms Q k' n' h' (LvL i) [] 1242) : AW l G mL d mc ms Q k n h (LvL i) [] 279 := by
  obtain ⟨Q1, hc1, hq1⟩ := p_weigh (l := l) (G := G) (d := 50) hI (gx G (i + 1)) (gx G (i + 2)) (by omega)
  refine aw_aload_n (pc' := 280) eL_279 rfl rfl trivial ?_
  refine aw_scr 1 (pc := 280) eL_280 eL_281 eL_282 eL_283 eL_284 (by decide) (by omega) hL ?_
  refine aw_scr 2 (pc := 285) eL_285 eL_286 eL_287 eL_288 eL_289 (by decide) (by omega) hL ?_
  refine aw_callv (pc' := 293) (nn := 2) hc1 eL_290 rfl ⟨q385, q388, q55⟩ q386 q387 ⟨rfl, by decide +kernel, by decide +kernel, by decide +kernel⟩ rfl hI.z6 rfl ⟨by omega, by decide⟩ ⟨by omega, by omega⟩ rfl (Nat.le_of_ble_eq_true rfl) (fun v1 h1 hr1 => ?_)
  obtain ⟨hz, w, rfl, Q2, hc2, hq2⟩ := hq1 v1 h1 hr1
  dsimp only [Option.toList, List.cons_append, List.nil_append]
  refine aw_aload_n (pc' := 294) eL_293 rfl rfl trivial ?_
  refine aw_scr 1 (pc := 294) eL_294 eL_295 eL_296 eL_297 eL_298 (by decide) (by omega) hL ?_
  refine aw_scr 2 (pc := 299) eL_299 eL_300 eL_301 eL_302 eL_303 (by decide) (by omega) hL ?_
  refine aw_callv (pc' := 307) (nn := 2) hc2 eL_304 rfl ⟨q1009, q1012, q62⟩ q1010 q1011 ⟨rfl, by decide +kernel, by decide +kernel, by decide +kernel⟩ rfl hz rfl ⟨by omega, by decide⟩ ⟨by omega, by omega⟩ rfl (Nat.le_of_ble_eq_true rfl) (fun v2 h2 hr2 => ?_)
  obtain ⟨rfl, U', hI'⟩ := hq2 v2 h2 hr2
  dsimp only [Option.toList, List.cons_append, List.nil_append]
  refine aw_icmp_eq (pc' := 310) (tgt := 1242) eL_307 rfl (by decide) (fun _ => kk _ U' _ _ (by omega) (by omega) hI') (fun c => absurd rfl c)
theorem L_put (hI : Inv h U) (hi : i + 6 ≤ gL G) (hL : gL G ≤ 3072) (hd : 60 ≤ d) (hk : k + 2 ≤ mc) (hn : n + 102 ≤ ms) (kk : ∀ h' U' k' n', k' ≤ k + 2 → n' ≤ n + 102 → Inv h' U' → AW l G mL d mc ms Q k' n' h' (LvL i) [] 1242) : AW l G mL d mc ms Q k n h (LvL i) [] 312 := by
  obtain ⟨Q1, hc1, hq1⟩ := p_put (l := l) (G := G) (d := 50) hI (gx G (i + 1)) (gx G (i + 2)) (gx G (i + 3)) (by omega)
  refine aw_aload_n (pc' := 313) eL_312 rfl rfl trivial ?_
  refine aw_scr 1 (pc := 313) eL_313 eL_314 eL_315 eL_316 eL_317 (by decide) (by omega) hL ?_
  refine aw_scr 2 (pc := 318) eL_318 eL_319 eL_320 eL_321 eL_322 (by decide) (by omega) hL ?_
  refine aw_scr 3 (pc := 323) eL_323 eL_324 eL_325 eL_326 eL_327 (by decide) (by omega) hL ?_
  refine aw_callv (pc' := 331) (nn := 3) hc1 eL_328 rfl ⟨q389, q392, q55⟩ q390 q391 ⟨rfl, by decide +kernel, by decide +kernel, by decide +kernel⟩ rfl hI.z6 rfl ⟨by omega, by decide⟩ ⟨by omega, by omega⟩ rfl (Nat.le_of_ble_eq_true rfl) (fun v1 h1 hr1 => ?_)
  obtain ⟨hz, w, rfl, Q2, hc2, hq2⟩ := hq1 v1 h1 hr1
  dsimp only [Option.toList, List.cons_append, List.nil_append]
  refine aw_aload_n (pc' := 332) eL_331 rfl rfl trivial ?_
  refine aw_scr 1 (pc := 332) eL_332 eL_333 eL_334 eL_335 eL_336 (by decide) (by omega) hL ?_
  refine aw_scr 2 (pc := 337) eL_337 eL_338 eL_339 eL_340 eL_341 (by decide) (by omega) hL ?_
  refine aw_scr 3 (pc := 342) eL_342 eL_343 eL_344 eL_345 eL_346 (by decide) (by omega) hL ?_
  refine aw_callv (pc' := 350) (nn := 3) hc2 eL_347 rfl ⟨q1013, q1016, q62⟩ q1014 q1015 ⟨rfl, by decide +kernel, by decide +kernel, by decide +kernel⟩ rfl hz rfl ⟨by omega, by decide⟩ ⟨by omega, by omega⟩ rfl (Nat.le_of_ble_eq_true rfl) (fun v2 h2 hr2 => ?_)
  obtain ⟨rfl, U', hI'⟩ := hq2 v2 h2 hr2
  dsimp only [Option.toList, List.cons_append, List.nil_append]
  refine aw_icmp_eq (pc' := 353) (tgt := 1242) eL_350 rfl (by decide) (fun _ => kk _ U' _ _ (by omega) (by omega) hI') (fun c => absurd rfl c)
theorem L_sea (hI : Inv h U) (hi : i + 6 ≤ gL G) (hL : gL G ≤ 3072) (hd : 60 ≤ d) (hk : k + 2 ≤ mc) (hn : n + 102 ≤ ms) (kk : ∀ h' U' k' n', k' ≤ k + 2 → n' ≤ n + 102 → Inv h' U' → AW l G mL d mc ms Q k' n' h' (LvL i) [] 1242) : AW l G mL d mc ms Q k n h (LvL i) [] 355 := by
  obtain ⟨Q1, hc1, hq1⟩ := p_sea (l := l) (G := G) (d := 50) hI (gx G (i + 1)) (gx G (i + 2)) (by omega)
  refine aw_aload_n (pc' := 356) eL_355 rfl rfl trivial ?_
  refine aw_scr 1 (pc := 356) eL_356 eL_357 eL_358 eL_359 eL_360 (by decide) (by omega) hL ?_
  refine aw_scr 2 (pc := 361) eL_361 eL_362 eL_363 eL_364 eL_365 (by decide) (by omega) hL ?_
  refine aw_callv (pc' := 369) (nn := 2) hc1 eL_366 rfl ⟨q396, q399, q55⟩ q397 q398 ⟨rfl, by decide +kernel, by decide +kernel, by decide +kernel⟩ rfl hI.z6 rfl ⟨by omega, by decide⟩ ⟨by omega, by omega⟩ rfl (Nat.le_of_ble_eq_true rfl) (fun v1 h1 hr1 => ?_)
  obtain ⟨hz, w, rfl, Q2, hc2, hq2⟩ := hq1 v1 h1 hr1
  dsimp only [Option.toList, List.cons_append, List.nil_append]
  refine aw_aload_n (pc' := 370) eL_369 rfl rfl trivial ?_
  refine aw_scr 1 (pc := 370) eL_370 eL_371 eL_372 eL_373 eL_374 (by decide) (by omega) hL ?_
  refine aw_scr 2 (pc := 375) eL_375 eL_376 eL_377 eL_378 eL_379 (by decide) (by omega) hL ?_
  refine aw_callv (pc' := 383) (nn := 2) hc2 eL_380 rfl ⟨q1020, q1023, q62⟩ q1021 q1022 ⟨rfl, by decide +kernel, by decide +kernel, by decide +kernel⟩ rfl hz rfl ⟨by omega, by decide⟩ ⟨by omega, by omega⟩ rfl (Nat.le_of_ble_eq_true rfl) (fun v2 h2 hr2 => ?_)
  obtain ⟨rfl, U', hI'⟩ := hq2 v2 h2 hr2
  dsimp only [Option.toList, List.cons_append, List.nil_append]
  refine aw_icmp_eq (pc' := 386) (tgt := 1242) eL_383 rfl (by decide) (fun _ => kk _ U' _ _ (by omega) (by omega) hI') (fun c => absurd rfl c)
theorem L_row (hI : Inv h U) (hi : i + 6 ≤ gL G) (hL : gL G ≤ 3072) (hd : 60 ≤ d) (hk : k + 2 ≤ mc) (hn : n + 102 ≤ ms) (kk : ∀ h' U' k' n', k' ≤ k + 2 → n' ≤ n + 102 → Inv h' U' → AW l G mL d mc ms Q k' n' h' (LvL i) [] 1242) : AW l G mL d mc ms Q k n h (LvL i) [] 388 := by
  obtain ⟨Q1, hc1, hq1⟩ := p_row (l := l) (G := G) (d := 50) hI (gx G (i + 1)) (gx G (i + 2)) (gx G (i + 3)) (by omega)
  refine aw_aload_n (pc' := 389) eL_388 rfl rfl trivial ?_
  refine aw_scr 1 (pc := 389) eL_389 eL_390 eL_391 eL_392 eL_393 (by decide) (by omega) hL ?_
  refine aw_scr 2 (pc := 394) eL_394 eL_395 eL_396 eL_397 eL_398 (by decide) (by omega) hL ?_
  refine aw_scr 3 (pc := 399) eL_399 eL_400 eL_401 eL_402 eL_403 (by decide) (by omega) hL ?_
  refine aw_callv (pc' := 407) (nn := 3) hc1 eL_404 rfl ⟨q400, q403, q55⟩ q401 q402 ⟨rfl, by decide +kernel, by decide +kernel, by decide +kernel⟩ rfl hI.z6 rfl ⟨by omega, by decide⟩ ⟨by omega, by omega⟩ rfl (Nat.le_of_ble_eq_true rfl) (fun v1 h1 hr1 => ?_)
  obtain ⟨hz, w, rfl, Q2, hc2, hq2⟩ := hq1 v1 h1 hr1
  dsimp only [Option.toList, List.cons_append, List.nil_append]
  refine aw_aload_n (pc' := 408) eL_407 rfl rfl trivial ?_
  refine aw_scr 1 (pc := 408) eL_408 eL_409 eL_410 eL_411 eL_412 (by decide) (by omega) hL ?_
  refine aw_scr 2 (pc := 413) eL_413 eL_414 eL_415 eL_416 eL_417 (by decide) (by omega) hL ?_
  refine aw_scr 3 (pc := 418) eL_418 eL_419 eL_420 eL_421 eL_422 (by decide) (by omega) hL ?_
  refine aw_callv (pc' := 426) (nn := 3) hc2 eL_423 rfl ⟨q1024, q1027, q62⟩ q1025 q1026 ⟨rfl, by decide +kernel, by decide +kernel, by decide +kernel⟩ rfl hz rfl ⟨by omega, by decide⟩ ⟨by omega, by omega⟩ rfl (Nat.le_of_ble_eq_true rfl) (fun v2 h2 hr2 => ?_)
  obtain ⟨rfl, U', hI'⟩ := hq2 v2 h2 hr2
  dsimp only [Option.toList, List.cons_append, List.nil_append]
  refine aw_icmp_eq (pc' := 429) (tgt := 1242) eL_426 rfl (by decide) (fun _ => kk _ U' _ _ (by omega) (by omega) hI') (fun c => absurd rfl c)
theorem L_feed (hI : Inv h U) (hi : i + 6 ≤ gL G) (hL : gL G ≤ 3072) (hd : 60 ≤ d) (hk : k + 2 ≤ mc) (hn : n + 102 ≤ ms) (kk : ∀ h' U' k' n', k' ≤ k + 2 → n' ≤ n + 102 → Inv h' U' → AW l G mL d mc ms Q k' n' h' (LvL i) [] 1242) : AW l G mL d mc ms Q k n h (LvL i) [] 431 := by
  obtain ⟨Q1, hc1, hq1⟩ := p_feed (l := l) (G := G) (d := 50) hI (gx G (i + 1)) (by omega)
  refine aw_aload_n (pc' := 432) eL_431 rfl rfl trivial ?_
  refine aw_scr 1 (pc := 432) eL_432 eL_433 eL_434 eL_435 eL_436 (by decide) (by omega) hL ?_
  refine aw_callv (pc' := 440) (nn := 1) hc1 eL_437 rfl ⟨q404, q407, q55⟩ q405 q406 ⟨rfl, by decide +kernel, by decide +kernel, by decide +kernel⟩ rfl hI.z6 rfl ⟨by omega, by decide⟩ ⟨by omega, by omega⟩ rfl (Nat.le_of_ble_eq_true rfl) (fun v1 h1 hr1 => ?_)
  obtain ⟨hz, w, rfl, Q2, hc2, hq2⟩ := hq1 v1 h1 hr1
  dsimp only [Option.toList, List.cons_append, List.nil_append]
  refine aw_aload_n (pc' := 441) eL_440 rfl rfl trivial ?_
  refine aw_scr 1 (pc := 441) eL_441 eL_442 eL_443 eL_444 eL_445 (by decide) (by omega) hL ?_
  refine aw_callv (pc' := 449) (nn := 1) hc2 eL_446 rfl ⟨q1028, q1031, q62⟩ q1029 q1030 ⟨rfl, by decide +kernel, by decide +kernel, by decide +kernel⟩ rfl hz rfl ⟨by omega, by decide⟩ ⟨by omega, by omega⟩ rfl (Nat.le_of_ble_eq_true rfl) (fun v2 h2 hr2 => ?_)
  obtain ⟨rfl, U', hI'⟩ := hq2 v2 h2 hr2
  dsimp only [Option.toList, List.cons_append, List.nil_append]
  refine aw_icmp_eq (pc' := 452) (tgt := 1242) eL_449 rfl (by decide) (fun _ => kk _ U' _ _ (by omega) (by omega) hI') (fun c => absurd rfl c)
theorem L_chart (hI : Inv h U) (hi : i + 6 ≤ gL G) (hL : gL G ≤ 3072) (hd : 60 ≤ d) (hk : k + 2 ≤ mc) (hn : n + 102 ≤ ms) (kk : ∀ h' U' k' n', k' ≤ k + 2 → n' ≤ n + 102 → Inv h' U' → AW l G mL d mc ms Q k' n' h' (LvL i) [] 1242) : AW l G mL d mc ms Q k n h (LvL i) [] 454 := by
  refine aw_dead fun hD => ?_
  obtain ⟨Q1, hc1, hq1⟩ := p_chart (l := l) (G := G) (d := 50) hI hD (by omega)
  refine aw_aload_n (pc' := 455) eL_454 rfl rfl trivial ?_
  refine aw_callv (pc' := 458) (nn := 0) hc1 eL_455 rfl ⟨q412, q415, q55⟩ q413 q414 ⟨rfl, by decide +kernel, by decide +kernel, by decide +kernel⟩ rfl hI.z6 rfl ⟨by omega, by decide⟩ ⟨by omega, by omega⟩ rfl (Nat.le_of_ble_eq_true rfl) (fun v1 h1 hr1 => ?_)
  obtain ⟨hz, w, rfl, Q2, hc2, hq2⟩ := hq1 v1 h1 hr1
  dsimp only [Option.toList, List.cons_append, List.nil_append]
  refine aw_aload_n (pc' := 459) eL_458 rfl rfl trivial ?_
  refine aw_callv (pc' := 462) (nn := 0) hc2 eL_459 rfl ⟨q1032, q1035, q62⟩ q1033 q1034 ⟨rfl, by decide +kernel, by decide +kernel, by decide +kernel⟩ rfl hz rfl ⟨by omega, by decide⟩ ⟨by omega, by omega⟩ rfl (Nat.le_of_ble_eq_true rfl) (fun v2 h2 hr2 => ?_)
  obtain ⟨rfl, U', hI'⟩ := hq2 v2 h2 hr2
  dsimp only [Option.toList, List.cons_append, List.nil_append]
  refine aw_icmp_eq (pc' := 465) (tgt := 1242) eL_462 rfl (by decide) (fun _ => kk _ U' _ _ (by omega) (by omega) hI') (fun c => absurd rfl c)
theorem L_told (hI : Inv h U) (hi : i + 6 ≤ gL G) (hL : gL G ≤ 3072) (hd : 60 ≤ d) (hk : k + 2 ≤ mc) (hn : n + 102 ≤ ms) (kk : ∀ h' U' k' n', k' ≤ k + 2 → n' ≤ n + 102 → Inv h' U' → AW l G mL d mc ms Q k' n' h' (LvL i) [] 1242) : AW l G mL d mc ms Q k n h (LvL i) [] 467 := by
  obtain ⟨Q1, hc1, hq1⟩ := p_told (l := l) (G := G) (d := 50) hI (gx G (i + 1)) (by omega)
  refine aw_aload_n (pc' := 468) eL_467 rfl rfl trivial ?_
  refine aw_scr 1 (pc := 468) eL_468 eL_469 eL_470 eL_471 eL_472 (by decide) (by omega) hL ?_
  refine aw_callv (pc' := 476) (nn := 1) hc1 eL_473 rfl ⟨q587, q590, q55⟩ q588 q589 ⟨rfl, by decide +kernel, by decide +kernel, by decide +kernel⟩ rfl hI.z6 rfl ⟨by omega, by decide⟩ ⟨by omega, by omega⟩ rfl (Nat.le_of_ble_eq_true rfl) (fun v1 h1 hr1 => ?_)
  obtain ⟨hz, w, rfl, Q2, hc2, hq2⟩ := hq1 v1 h1 hr1
  dsimp only [Option.toList, List.cons_append, List.nil_append]
  refine aw_aload_n (pc' := 477) eL_476 rfl rfl trivial ?_
  refine aw_scr 1 (pc := 477) eL_477 eL_478 eL_479 eL_480 eL_481 (by decide) (by omega) hL ?_
  refine aw_callv (pc' := 485) (nn := 1) hc2 eL_482 rfl ⟨q1036, q1039, q62⟩ q1037 q1038 ⟨rfl, by decide +kernel, by decide +kernel, by decide +kernel⟩ rfl hz rfl ⟨by omega, by decide⟩ ⟨by omega, by omega⟩ rfl (Nat.le_of_ble_eq_true rfl) (fun v2 h2 hr2 => ?_)
  obtain ⟨rfl, U', hI'⟩ := hq2 v2 h2 hr2
  dsimp only [Option.toList, List.cons_append, List.nil_append]
  refine aw_icmp_eq (pc' := 488) (tgt := 1242) eL_485 rfl (by decide) (fun _ => kk _ U' _ _ (by omega) (by omega) hI') (fun c => absurd rfl c)
theorem L_pass (hI : Inv h U) (hi : i + 6 ≤ gL G) (hL : gL G ≤ 3072) (hd : 60 ≤ d) (hk : k + 2 ≤ mc) (hn : n + 102 ≤ ms) (kk : ∀ h' U' k' n', k' ≤ k + 2 → n' ≤ n + 102 → Inv h' U' → AW l G mL d mc ms Q k' n' h' (LvL i) [] 1242) : AW l G mL d mc ms Q k n h (LvL i) [] 490 := by
  obtain ⟨Q1, hc1, hq1⟩ := p_pass (l := l) (G := G) (d := 50) hI (gx G (i + 1)) (by omega)
  refine aw_aload_n (pc' := 491) eL_490 rfl rfl trivial ?_
  refine aw_scr 1 (pc := 491) eL_491 eL_492 eL_493 eL_494 eL_495 (by decide) (by omega) hL ?_
  refine aw_callv (pc' := 499) (nn := 1) hc1 eL_496 rfl ⟨q600, q603, q55⟩ q601 q602 ⟨rfl, by decide +kernel, by decide +kernel, by decide +kernel⟩ rfl hI.z6 rfl ⟨by omega, by decide⟩ ⟨by omega, by omega⟩ rfl (Nat.le_of_ble_eq_true rfl) (fun v1 h1 hr1 => ?_)
  obtain ⟨hz, w, rfl, Q2, hc2, hq2⟩ := hq1 v1 h1 hr1
  dsimp only [Option.toList, List.cons_append, List.nil_append]
  refine aw_aload_n (pc' := 500) eL_499 rfl rfl trivial ?_
  refine aw_scr 1 (pc := 500) eL_500 eL_501 eL_502 eL_503 eL_504 (by decide) (by omega) hL ?_
  refine aw_callv (pc' := 508) (nn := 1) hc2 eL_505 rfl ⟨q1044, q1047, q62⟩ q1045 q1046 ⟨rfl, by decide +kernel, by decide +kernel, by decide +kernel⟩ rfl hz rfl ⟨by omega, by decide⟩ ⟨by omega, by omega⟩ rfl (Nat.le_of_ble_eq_true rfl) (fun v2 h2 hr2 => ?_)
  obtain ⟨rfl, U', hI'⟩ := hq2 v2 h2 hr2
  dsimp only [Option.toList, List.cons_append, List.nil_append]
  refine aw_icmp_eq (pc' := 511) (tgt := 1242) eL_508 rfl (by decide) (fun _ => kk _ U' _ _ (by omega) (by omega) hI') (fun c => absurd rfl c)
theorem L_on (hI : Inv h U) (hi : i + 6 ≤ gL G) (hL : gL G ≤ 3072) (hd : 60 ≤ d) (hk : k + 2 ≤ mc) (hn : n + 102 ≤ ms) (kk : ∀ h' U' k' n', k' ≤ k + 2 → n' ≤ n + 102 → Inv h' U' → AW l G mL d mc ms Q k' n' h' (LvL i) [] 1242) : AW l G mL d mc ms Q k n h (LvL i) [] 513 := by
  obtain ⟨Q1, hc1, hq1⟩ := p_on (l := l) (G := G) (d := 50) hI (gx G (i + 1)) (gx G (i + 2)) (by omega)
  refine aw_aload_n (pc' := 514) eL_513 rfl rfl trivial ?_
  refine aw_scr 1 (pc := 514) eL_514 eL_515 eL_516 eL_517 eL_518 (by decide) (by omega) hL ?_
  refine aw_scr 2 (pc := 519) eL_519 eL_520 eL_521 eL_522 eL_523 (by decide) (by omega) hL ?_
  refine aw_callv (pc' := 527) (nn := 2) hc1 eL_524 rfl ⟨q609, q612, q55⟩ q610 q611 ⟨rfl, by decide +kernel, by decide +kernel, by decide +kernel⟩ rfl hI.z6 rfl ⟨by omega, by decide⟩ ⟨by omega, by omega⟩ rfl (Nat.le_of_ble_eq_true rfl) (fun v1 h1 hr1 => ?_)
  obtain ⟨hz, w, rfl, Q2, hc2, hq2⟩ := hq1 v1 h1 hr1
  dsimp only [Option.toList, List.cons_append, List.nil_append]
  refine aw_aload_n (pc' := 528) eL_527 rfl rfl trivial ?_
  refine aw_scr 1 (pc := 528) eL_528 eL_529 eL_530 eL_531 eL_532 (by decide) (by omega) hL ?_
  refine aw_scr 2 (pc := 533) eL_533 eL_534 eL_535 eL_536 eL_537 (by decide) (by omega) hL ?_
  refine aw_callv (pc' := 541) (nn := 2) hc2 eL_538 rfl ⟨q1052, q1055, q62⟩ q1053 q1054 ⟨rfl, by decide +kernel, by decide +kernel, by decide +kernel⟩ rfl hz rfl ⟨by omega, by decide⟩ ⟨by omega, by omega⟩ rfl (Nat.le_of_ble_eq_true rfl) (fun v2 h2 hr2 => ?_)
  obtain ⟨rfl, U', hI'⟩ := hq2 v2 h2 hr2
  dsimp only [Option.toList, List.cons_append, List.nil_append]
  refine aw_icmp_eq (pc' := 544) (tgt := 1242) eL_541 rfl (by decide) (fun _ => kk _ U' _ _ (by omega) (by omega) hI') (fun c => absurd rfl c)
theorem L_begin (hI : Inv h U) (hi : i + 6 ≤ gL G) (hL : gL G ≤ 3072) (hd : 60 ≤ d) (hk : k + 2 ≤ mc) (hn : n + 102 ≤ ms) (kk : ∀ h' U' k' n', k' ≤ k + 2 → n' ≤ n + 102 → Inv h' U' → AW l G mL d mc ms Q k' n' h' (LvL i) [] 1242) : AW l G mL d mc ms Q k n h (LvL i) [] 546 := by
  obtain ⟨Q1, hc1, hq1⟩ := p_begin (l := l) (G := G) (d := 50) hI (gx G (i + 1)) (gx G (i + 2)) (by omega)
  refine aw_aload_n (pc' := 547) eL_546 rfl rfl trivial ?_
  refine aw_scr 1 (pc := 547) eL_547 eL_548 eL_549 eL_550 eL_551 (by decide) (by omega) hL ?_
  refine aw_scr 2 (pc := 552) eL_552 eL_553 eL_554 eL_555 eL_556 (by decide) (by omega) hL ?_
  refine aw_callv (pc' := 560) (nn := 2) hc1 eL_557 rfl ⟨q613, q616, q55⟩ q614 q615 ⟨rfl, by decide +kernel, by decide +kernel, by decide +kernel⟩ rfl hI.z6 rfl ⟨by omega, by decide⟩ ⟨by omega, by omega⟩ rfl (Nat.le_of_ble_eq_true rfl) (fun v1 h1 hr1 => ?_)
  obtain ⟨hz, w, rfl, Q2, hc2, hq2⟩ := hq1 v1 h1 hr1
  dsimp only [Option.toList, List.cons_append, List.nil_append]
  refine aw_aload_n (pc' := 561) eL_560 rfl rfl trivial ?_
  refine aw_scr 1 (pc := 561) eL_561 eL_562 eL_563 eL_564 eL_565 (by decide) (by omega) hL ?_
  refine aw_scr 2 (pc := 566) eL_566 eL_567 eL_568 eL_569 eL_570 (by decide) (by omega) hL ?_
  refine aw_callv (pc' := 574) (nn := 2) hc2 eL_571 rfl ⟨q1056, q1059, q62⟩ q1057 q1058 ⟨rfl, by decide +kernel, by decide +kernel, by decide +kernel⟩ rfl hz rfl ⟨by omega, by decide⟩ ⟨by omega, by omega⟩ rfl (Nat.le_of_ble_eq_true rfl) (fun v2 h2 hr2 => ?_)
  obtain ⟨rfl, U', hI'⟩ := hq2 v2 h2 hr2
  dsimp only [Option.toList, List.cons_append, List.nil_append]
  refine aw_icmp_eq (pc' := 577) (tgt := 1242) eL_574 rfl (by decide) (fun _ => kk _ U' _ _ (by omega) (by omega) hI') (fun c => absurd rfl c)
theorem L_see (hI : Inv h U) (hi : i + 6 ≤ gL G) (hL : gL G ≤ 3072) (hd : 60 ≤ d) (hk : k + 2 ≤ mc) (hn : n + 102 ≤ ms) (kk : ∀ h' U' k' n', k' ≤ k + 2 → n' ≤ n + 102 → Inv h' U' → AW l G mL d mc ms Q k' n' h' (LvL i) [] 1242) : AW l G mL d mc ms Q k n h (LvL i) [] 579 := by
  obtain ⟨Q1, hc1, hq1⟩ := p_see (l := l) (G := G) (d := 50) hI (gx G (i + 1)) (gx G (i + 2)) (gx G (i + 3)) (by omega)
  refine aw_aload_n (pc' := 580) eL_579 rfl rfl trivial ?_
  refine aw_scr 1 (pc := 580) eL_580 eL_581 eL_582 eL_583 eL_584 (by decide) (by omega) hL ?_
  refine aw_scr 2 (pc := 585) eL_585 eL_586 eL_587 eL_588 eL_589 (by decide) (by omega) hL ?_
  refine aw_scr 3 (pc := 590) eL_590 eL_591 eL_592 eL_593 eL_594 (by decide) (by omega) hL ?_
  refine aw_callv (pc' := 598) (nn := 3) hc1 eL_595 rfl ⟨q621, q624, q55⟩ q622 q623 ⟨rfl, by decide +kernel, by decide +kernel, by decide +kernel⟩ rfl hI.z6 rfl ⟨by omega, by decide⟩ ⟨by omega, by omega⟩ rfl (Nat.le_of_ble_eq_true rfl) (fun v1 h1 hr1 => ?_)
  obtain ⟨hz, w, rfl, Q2, hc2, hq2⟩ := hq1 v1 h1 hr1
  dsimp only [Option.toList, List.cons_append, List.nil_append]
  refine aw_aload_n (pc' := 599) eL_598 rfl rfl trivial ?_
  refine aw_scr 1 (pc := 599) eL_599 eL_600 eL_601 eL_602 eL_603 (by decide) (by omega) hL ?_
  refine aw_scr 2 (pc := 604) eL_604 eL_605 eL_606 eL_607 eL_608 (by decide) (by omega) hL ?_
  refine aw_scr 3 (pc := 609) eL_609 eL_610 eL_611 eL_612 eL_613 (by decide) (by omega) hL ?_
  refine aw_callv (pc' := 617) (nn := 3) hc2 eL_614 rfl ⟨q1062, q1065, q62⟩ q1063 q1064 ⟨rfl, by decide +kernel, by decide +kernel, by decide +kernel⟩ rfl hz rfl ⟨by omega, by decide⟩ ⟨by omega, by omega⟩ rfl (Nat.le_of_ble_eq_true rfl) (fun v2 h2 hr2 => ?_)
  obtain ⟨rfl, U', hI'⟩ := hq2 v2 h2 hr2
  dsimp only [Option.toList, List.cons_append, List.nil_append]
  refine aw_icmp_eq (pc' := 620) (tgt := 1242) eL_617 rfl (by decide) (fun _ => kk _ U' _ _ (by omega) (by omega) hI') (fun c => absurd rfl c)
theorem L_weights (hI : Inv h U) (hi : i + 6 ≤ gL G) (hL : gL G ≤ 3072) (hd : 60 ≤ d) (hk : k + 2 ≤ mc) (hn : n + 102 ≤ ms) (kk : ∀ h' U' k' n', k' ≤ k + 2 → n' ≤ n + 102 → Inv h' U' → AW l G mL d mc ms Q k' n' h' (LvL i) [] 1242) : AW l G mL d mc ms Q k n h (LvL i) [] 622 := by
  obtain ⟨Q1, hc1, hq1⟩ := p_weights (l := l) (G := G) (d := 50) hI (gx G (i + 1)) (by omega)
  refine aw_aload_n (pc' := 623) eL_622 rfl rfl trivial ?_
  refine aw_scr 1 (pc := 623) eL_623 eL_624 eL_625 eL_626 eL_627 (by decide) (by omega) hL ?_
  refine aw_callv (pc' := 631) (nn := 1) hc1 eL_628 rfl ⟨q633, q636, q55⟩ q634 q635 ⟨rfl, by decide +kernel, by decide +kernel, by decide +kernel⟩ rfl hI.z6 rfl ⟨by omega, by decide⟩ ⟨by omega, by omega⟩ rfl (Nat.le_of_ble_eq_true rfl) (fun v1 h1 hr1 => ?_)
  obtain ⟨hz, w, rfl, Q2, hc2, hq2⟩ := hq1 v1 h1 hr1
  dsimp only [Option.toList, List.cons_append, List.nil_append]
  refine aw_aload_n (pc' := 632) eL_631 rfl rfl trivial ?_
  refine aw_scr 1 (pc := 632) eL_632 eL_633 eL_634 eL_635 eL_636 (by decide) (by omega) hL ?_
  refine aw_callv (pc' := 640) (nn := 1) hc2 eL_637 rfl ⟨q1066, q1069, q62⟩ q1067 q1068 ⟨rfl, by decide +kernel, by decide +kernel, by decide +kernel⟩ rfl hz rfl ⟨by omega, by decide⟩ ⟨by omega, by omega⟩ rfl (Nat.le_of_ble_eq_true rfl) (fun v2 h2 hr2 => ?_)
  obtain ⟨rfl, U', hI'⟩ := hq2 v2 h2 hr2
  dsimp only [Option.toList, List.cons_append, List.nil_append]
  refine aw_icmp_eq (pc' := 643) (tgt := 1242) eL_640 rfl (by decide) (fun _ => kk _ U' _ _ (by omega) (by omega) hI') (fun c => absurd rfl c)
theorem L_can (hI : Inv h U) (hi : i + 6 ≤ gL G) (hL : gL G ≤ 3072) (hd : 60 ≤ d) (hk : k + 2 ≤ mc) (hn : n + 102 ≤ ms) (kk : ∀ h' U' k' n', k' ≤ k + 2 → n' ≤ n + 102 → Inv h' U' → AW l G mL d mc ms Q k' n' h' (LvL i) [] 1242) : AW l G mL d mc ms Q k n h (LvL i) [] 645 := by
  obtain ⟨Q1, hc1, hq1⟩ := p_can (l := l) (G := G) (d := 50) hI (gx G (i + 1)) (gx G (i + 2)) (by omega)
  refine aw_aload_n (pc' := 646) eL_645 rfl rfl trivial ?_
  refine aw_scr 1 (pc := 646) eL_646 eL_647 eL_648 eL_649 eL_650 (by decide) (by omega) hL ?_
  refine aw_scr 2 (pc := 651) eL_651 eL_652 eL_653 eL_654 eL_655 (by decide) (by omega) hL ?_
  refine aw_callv (pc' := 659) (nn := 2) hc1 eL_656 rfl ⟨q650, q653, q55⟩ q651 q652 ⟨rfl, by decide +kernel, by decide +kernel, by decide +kernel⟩ rfl hI.z6 rfl ⟨by omega, by decide⟩ ⟨by omega, by omega⟩ rfl (Nat.le_of_ble_eq_true rfl) (fun v1 h1 hr1 => ?_)
  obtain ⟨hz, w, rfl, Q2, hc2, hq2⟩ := hq1 v1 h1 hr1
  dsimp only [Option.toList, List.cons_append, List.nil_append]
  refine aw_aload_n (pc' := 660) eL_659 rfl rfl trivial ?_
  refine aw_scr 1 (pc := 660) eL_660 eL_661 eL_662 eL_663 eL_664 (by decide) (by omega) hL ?_
  refine aw_scr 2 (pc := 665) eL_665 eL_666 eL_667 eL_668 eL_669 (by decide) (by omega) hL ?_
  refine aw_callv (pc' := 673) (nn := 2) hc2 eL_670 rfl ⟨q1078, q1081, q62⟩ q1079 q1080 ⟨rfl, by decide +kernel, by decide +kernel, by decide +kernel⟩ rfl hz rfl ⟨by omega, by decide⟩ ⟨by omega, by omega⟩ rfl (Nat.le_of_ble_eq_true rfl) (fun v2 h2 hr2 => ?_)
  obtain ⟨rfl, U', hI'⟩ := hq2 v2 h2 hr2
  dsimp only [Option.toList, List.cons_append, List.nil_append]
  refine aw_icmp_eq (pc' := 676) (tgt := 1242) eL_673 rfl (by decide) (fun _ => kk _ U' _ _ (by omega) (by omega) hI') (fun c => absurd rfl c)
theorem L_odds (hI : Inv h U) (hi : i + 6 ≤ gL G) (hL : gL G ≤ 3072) (hd : 60 ≤ d) (hk : k + 2 ≤ mc) (hn : n + 102 ≤ ms) (kk : ∀ h' U' k' n', k' ≤ k + 2 → n' ≤ n + 102 → Inv h' U' → AW l G mL d mc ms Q k' n' h' (LvL i) [] 1242) : AW l G mL d mc ms Q k n h (LvL i) [] 678 := by
  obtain ⟨Q1, hc1, hq1⟩ := p_odds (l := l) (G := G) (d := 50) hI (gx G (i + 1)) (gx G (i + 2)) (gx G (i + 3)) (by omega)
  refine aw_aload_n (pc' := 679) eL_678 rfl rfl trivial ?_
  refine aw_scr 1 (pc := 679) eL_679 eL_680 eL_681 eL_682 eL_683 (by decide) (by omega) hL ?_
  refine aw_scr 2 (pc := 684) eL_684 eL_685 eL_686 eL_687 eL_688 (by decide) (by omega) hL ?_
  refine aw_scr 3 (pc := 689) eL_689 eL_690 eL_691 eL_692 eL_693 (by decide) (by omega) hL ?_
  refine aw_callv (pc' := 697) (nn := 3) hc1 eL_694 rfl ⟨q654, q657, q55⟩ q655 q656 ⟨rfl, by decide +kernel, by decide +kernel, by decide +kernel⟩ rfl hI.z6 rfl ⟨by omega, by decide⟩ ⟨by omega, by omega⟩ rfl (Nat.le_of_ble_eq_true rfl) (fun v1 h1 hr1 => ?_)
  obtain ⟨hz, w, rfl, Q2, hc2, hq2⟩ := hq1 v1 h1 hr1
  dsimp only [Option.toList, List.cons_append, List.nil_append]
  refine aw_aload_n (pc' := 698) eL_697 rfl rfl trivial ?_
  refine aw_scr 1 (pc := 698) eL_698 eL_699 eL_700 eL_701 eL_702 (by decide) (by omega) hL ?_
  refine aw_scr 2 (pc := 703) eL_703 eL_704 eL_705 eL_706 eL_707 (by decide) (by omega) hL ?_
  refine aw_scr 3 (pc := 708) eL_708 eL_709 eL_710 eL_711 eL_712 (by decide) (by omega) hL ?_
  refine aw_callv (pc' := 716) (nn := 3) hc2 eL_713 rfl ⟨q1082, q1085, q62⟩ q1083 q1084 ⟨rfl, by decide +kernel, by decide +kernel, by decide +kernel⟩ rfl hz rfl ⟨by omega, by decide⟩ ⟨by omega, by omega⟩ rfl (Nat.le_of_ble_eq_true rfl) (fun v2 h2 hr2 => ?_)
  obtain ⟨rfl, U', hI'⟩ := hq2 v2 h2 hr2
  dsimp only [Option.toList, List.cons_append, List.nil_append]
  refine aw_lcmp (pc' := 717) eL_716 rfl ?_
  refine aw_if_eq (pc' := 720) (tgt := 1242) eL_717 rfl (by decide) (fun _ => kk _ U' _ _ (by omega) (by omega) hI') (fun c => absurd (lg_cmp_self w) c)
theorem L_mean (hI : Inv h U) (hi : i + 6 ≤ gL G) (hL : gL G ≤ 3072) (hd : 60 ≤ d) (hk : k + 2 ≤ mc) (hn : n + 102 ≤ ms) (kk : ∀ h' U' k' n', k' ≤ k + 2 → n' ≤ n + 102 → Inv h' U' → AW l G mL d mc ms Q k' n' h' (LvL i) [] 1242) : AW l G mL d mc ms Q k n h (LvL i) [] 722 := by
  obtain ⟨Q1, hc1, hq1⟩ := p_mean (l := l) (G := G) (d := 50) hI (gx G (i + 1)) (by omega)
  refine aw_aload_n (pc' := 723) eL_722 rfl rfl trivial ?_
  refine aw_scr 1 (pc := 723) eL_723 eL_724 eL_725 eL_726 eL_727 (by decide) (by omega) hL ?_
  refine aw_callv (pc' := 731) (nn := 1) hc1 eL_728 rfl ⟨q662, q665, q55⟩ q663 q664 ⟨rfl, by decide +kernel, by decide +kernel, by decide +kernel⟩ rfl hI.z6 rfl ⟨by omega, by decide⟩ ⟨by omega, by omega⟩ rfl (Nat.le_of_ble_eq_true rfl) (fun v1 h1 hr1 => ?_)
  obtain ⟨hz, w, rfl, Q2, hc2, hq2⟩ := hq1 v1 h1 hr1
  dsimp only [Option.toList, List.cons_append, List.nil_append]
  refine aw_aload_n (pc' := 732) eL_731 rfl rfl trivial ?_
  refine aw_scr 1 (pc := 732) eL_732 eL_733 eL_734 eL_735 eL_736 (by decide) (by omega) hL ?_
  refine aw_callv (pc' := 740) (nn := 1) hc2 eL_737 rfl ⟨q1094, q1097, q62⟩ q1095 q1096 ⟨rfl, by decide +kernel, by decide +kernel, by decide +kernel⟩ rfl hz rfl ⟨by omega, by decide⟩ ⟨by omega, by omega⟩ rfl (Nat.le_of_ble_eq_true rfl) (fun v2 h2 hr2 => ?_)
  obtain ⟨rfl, U', hI'⟩ := hq2 v2 h2 hr2
  dsimp only [Option.toList, List.cons_append, List.nil_append]
  refine aw_lcmp (pc' := 741) eL_740 rfl ?_
  refine aw_if_eq (pc' := 744) (tgt := 1242) eL_741 rfl (by decide) (fun _ => kk _ U' _ _ (by omega) (by omega) hI') (fun c => absurd (lg_cmp_self w) c)
theorem L_plan (hI : Inv h U) (hi : i + 6 ≤ gL G) (hL : gL G ≤ 3072) (hd : 60 ≤ d) (hk : k + 2 ≤ mc) (hn : n + 102 ≤ ms) (kk : ∀ h' U' k' n', k' ≤ k + 2 → n' ≤ n + 102 → Inv h' U' → AW l G mL d mc ms Q k' n' h' (LvL i) [] 1242) : AW l G mL d mc ms Q k n h (LvL i) [] 746 := by
  obtain ⟨Q1, hc1, hq1⟩ := p_plan (l := l) (G := G) (d := 50) hI (gx G (i + 1)) (gx G (i + 2)) (by omega)
  refine aw_aload_n (pc' := 747) eL_746 rfl rfl trivial ?_
  refine aw_scr 1 (pc := 747) eL_747 eL_748 eL_749 eL_750 eL_751 (by decide) (by omega) hL ?_
  refine aw_scr 2 (pc := 752) eL_752 eL_753 eL_754 eL_755 eL_756 (by decide) (by omega) hL ?_
  refine aw_callv (pc' := 760) (nn := 2) hc1 eL_757 rfl ⟨q666, q669, q55⟩ q667 q668 ⟨rfl, by decide +kernel, by decide +kernel, by decide +kernel⟩ rfl hI.z6 rfl ⟨by omega, by decide⟩ ⟨by omega, by omega⟩ rfl (Nat.le_of_ble_eq_true rfl) (fun v1 h1 hr1 => ?_)
  obtain ⟨hz, w, rfl, Q2, hc2, hq2⟩ := hq1 v1 h1 hr1
  dsimp only [Option.toList, List.cons_append, List.nil_append]
  refine aw_aload_n (pc' := 761) eL_760 rfl rfl trivial ?_
  refine aw_scr 1 (pc := 761) eL_761 eL_762 eL_763 eL_764 eL_765 (by decide) (by omega) hL ?_
  refine aw_scr 2 (pc := 766) eL_766 eL_767 eL_768 eL_769 eL_770 (by decide) (by omega) hL ?_
  refine aw_callv (pc' := 774) (nn := 2) hc2 eL_771 rfl ⟨q1098, q1101, q62⟩ q1099 q1100 ⟨rfl, by decide +kernel, by decide +kernel, by decide +kernel⟩ rfl hz rfl ⟨by omega, by decide⟩ ⟨by omega, by omega⟩ rfl (Nat.le_of_ble_eq_true rfl) (fun v2 h2 hr2 => ?_)
  obtain ⟨rfl, U', hI'⟩ := hq2 v2 h2 hr2
  dsimp only [Option.toList, List.cons_append, List.nil_append]
  refine aw_icmp_eq (pc' := 777) (tgt := 1242) eL_774 rfl (by decide) (fun _ => kk _ U' _ _ (by omega) (by omega) hI') (fun c => absurd rfl c)
theorem L_ends (hI : Inv h U) (hi : i + 6 ≤ gL G) (hL : gL G ≤ 3072) (hd : 60 ≤ d) (hk : k + 2 ≤ mc) (hn : n + 102 ≤ ms) (kk : ∀ h' U' k' n', k' ≤ k + 2 → n' ≤ n + 102 → Inv h' U' → AW l G mL d mc ms Q k' n' h' (LvL i) [] 1242) : AW l G mL d mc ms Q k n h (LvL i) [] 779 := by
  obtain ⟨Q1, hc1, hq1⟩ := p_ends (l := l) (G := G) (d := 50) hI (gx G (i + 1)) (by omega)
  refine aw_aload_n (pc' := 780) eL_779 rfl rfl trivial ?_
  refine aw_scr 1 (pc := 780) eL_780 eL_781 eL_782 eL_783 eL_784 (by decide) (by omega) hL ?_
  refine aw_callv (pc' := 788) (nn := 1) hc1 eL_785 rfl ⟨q670, q673, q55⟩ q671 q672 ⟨rfl, by decide +kernel, by decide +kernel, by decide +kernel⟩ rfl hI.z6 rfl ⟨by omega, by decide⟩ ⟨by omega, by omega⟩ rfl (Nat.le_of_ble_eq_true rfl) (fun v1 h1 hr1 => ?_)
  obtain ⟨hz, w, rfl, Q2, hc2, hq2⟩ := hq1 v1 h1 hr1
  dsimp only [Option.toList, List.cons_append, List.nil_append]
  refine aw_aload_n (pc' := 789) eL_788 rfl rfl trivial ?_
  refine aw_scr 1 (pc := 789) eL_789 eL_790 eL_791 eL_792 eL_793 (by decide) (by omega) hL ?_
  refine aw_callv (pc' := 797) (nn := 1) hc2 eL_794 rfl ⟨q1102, q1105, q62⟩ q1103 q1104 ⟨rfl, by decide +kernel, by decide +kernel, by decide +kernel⟩ rfl hz rfl ⟨by omega, by decide⟩ ⟨by omega, by omega⟩ rfl (Nat.le_of_ble_eq_true rfl) (fun v2 h2 hr2 => ?_)
  obtain ⟨rfl, U', hI'⟩ := hq2 v2 h2 hr2
  dsimp only [Option.toList, List.cons_append, List.nil_append]
  refine aw_icmp_eq (pc' := 800) (tgt := 1242) eL_797 rfl (by decide) (fun _ => kk _ U' _ _ (by omega) (by omega) hI') (fun c => absurd rfl c)
theorem L_book (hI : Inv h U) (hi : i + 6 ≤ gL G) (hL : gL G ≤ 3072) (hd : 60 ≤ d) (hk : k + 2 ≤ mc) (hn : n + 102 ≤ ms) (kk : ∀ h' U' k' n', k' ≤ k + 2 → n' ≤ n + 102 → Inv h' U' → AW l G mL d mc ms Q k' n' h' (LvL i) [] 1242) : AW l G mL d mc ms Q k n h (LvL i) [] 802 := by
  obtain ⟨Q1, hc1, hq1⟩ := p_book (l := l) (G := G) (d := 50) hI (gx G (i + 1)) (gx G (i + 2)) (by omega)
  refine aw_aload_n (pc' := 803) eL_802 rfl rfl trivial ?_
  refine aw_scr 1 (pc := 803) eL_803 eL_804 eL_805 eL_806 eL_807 (by decide) (by omega) hL ?_
  refine aw_scr 2 (pc := 808) eL_808 eL_809 eL_810 eL_811 eL_812 (by decide) (by omega) hL ?_
  refine aw_callv (pc' := 816) (nn := 2) hc1 eL_813 rfl ⟨q682, q685, q55⟩ q683 q684 ⟨rfl, by decide +kernel, by decide +kernel, by decide +kernel⟩ rfl hI.z6 rfl ⟨by omega, by decide⟩ ⟨by omega, by omega⟩ rfl (Nat.le_of_ble_eq_true rfl) (fun v1 h1 hr1 => ?_)
  obtain ⟨hz, w, rfl, Q2, hc2, hq2⟩ := hq1 v1 h1 hr1
  dsimp only [Option.toList, List.cons_append, List.nil_append]
  refine aw_aload_n (pc' := 817) eL_816 rfl rfl trivial ?_
  refine aw_scr 1 (pc := 817) eL_817 eL_818 eL_819 eL_820 eL_821 (by decide) (by omega) hL ?_
  refine aw_scr 2 (pc := 822) eL_822 eL_823 eL_824 eL_825 eL_826 (by decide) (by omega) hL ?_
  refine aw_callv (pc' := 830) (nn := 2) hc2 eL_827 rfl ⟨q1106, q1109, q62⟩ q1107 q1108 ⟨rfl, by decide +kernel, by decide +kernel, by decide +kernel⟩ rfl hz rfl ⟨by omega, by decide⟩ ⟨by omega, by omega⟩ rfl (Nat.le_of_ble_eq_true rfl) (fun v2 h2 hr2 => ?_)
  obtain ⟨rfl, U', hI'⟩ := hq2 v2 h2 hr2
  dsimp only [Option.toList, List.cons_append, List.nil_append]
  refine aw_icmp_eq (pc' := 833) (tgt := 1242) eL_830 rfl (by decide) (fun _ => kk _ U' _ _ (by omega) (by omega) hI') (fun c => absurd rfl c)
theorem L_looked (hI : Inv h U) (hi : i + 6 ≤ gL G) (hL : gL G ≤ 3072) (hd : 60 ≤ d) (hk : k + 2 ≤ mc) (hn : n + 102 ≤ ms) (kk : ∀ h' U' k' n', k' ≤ k + 2 → n' ≤ n + 102 → Inv h' U' → AW l G mL d mc ms Q k' n' h' (LvL i) [] 1242) : AW l G mL d mc ms Q k n h (LvL i) [] 835 := by
  obtain ⟨Q1, hc1, hq1⟩ := p_looked (l := l) (G := G) (d := 50) hI  (by omega)
  refine aw_aload_n (pc' := 836) eL_835 rfl rfl trivial ?_
  refine aw_callv (pc' := 839) (nn := 0) hc1 eL_836 rfl ⟨q686, q689, q55⟩ q687 q688 ⟨rfl, by decide +kernel, by decide +kernel, by decide +kernel⟩ rfl hI.z6 rfl ⟨by omega, by decide⟩ ⟨by omega, by omega⟩ rfl (Nat.le_of_ble_eq_true rfl) (fun v1 h1 hr1 => ?_)
  obtain ⟨hz, w, rfl, Q2, hc2, hq2⟩ := hq1 v1 h1 hr1
  dsimp only [Option.toList, List.cons_append, List.nil_append]
  refine aw_aload_n (pc' := 840) eL_839 rfl rfl trivial ?_
  refine aw_callv (pc' := 843) (nn := 0) hc2 eL_840 rfl ⟨q1110, q1113, q62⟩ q1111 q1112 ⟨rfl, by decide +kernel, by decide +kernel, by decide +kernel⟩ rfl hz rfl ⟨by omega, by decide⟩ ⟨by omega, by omega⟩ rfl (Nat.le_of_ble_eq_true rfl) (fun v2 h2 hr2 => ?_)
  obtain ⟨rfl, U', hI'⟩ := hq2 v2 h2 hr2
  dsimp only [Option.toList, List.cons_append, List.nil_append]
  refine aw_icmp_eq (pc' := 846) (tgt := 1242) eL_843 rfl (by decide) (fun _ => kk _ U' _ _ (by omega) (by omega) hI') (fun c => absurd rfl c)
theorem L_judge (hI : Inv h U) (hi : i + 6 ≤ gL G) (hL : gL G ≤ 3072) (hd : 60 ≤ d) (hk : k + 2 ≤ mc) (hn : n + 102 ≤ ms) (kk : ∀ h' U' k' n', k' ≤ k + 2 → n' ≤ n + 102 → Inv h' U' → AW l G mL d mc ms Q k' n' h' (LvL i) [] 1242) : AW l G mL d mc ms Q k n h (LvL i) [] 848 := by
  obtain ⟨Q1, hc1, hq1⟩ := p_judge (l := l) (G := G) (d := 50) hI (gx G (i + 1)) (gx G (i + 2)) (by omega)
  refine aw_aload_n (pc' := 849) eL_848 rfl rfl trivial ?_
  refine aw_scr 1 (pc := 849) eL_849 eL_850 eL_851 eL_852 eL_853 (by decide) (by omega) hL ?_
  refine aw_scr 2 (pc := 854) eL_854 eL_855 eL_856 eL_857 eL_858 (by decide) (by omega) hL ?_
  refine aw_callv (pc' := 862) (nn := 2) hc1 eL_859 rfl ⟨q690, q693, q55⟩ q691 q692 ⟨rfl, by decide +kernel, by decide +kernel, by decide +kernel⟩ rfl hI.z6 rfl ⟨by omega, by decide⟩ ⟨by omega, by omega⟩ rfl (Nat.le_of_ble_eq_true rfl) (fun v1 h1 hr1 => ?_)
  obtain ⟨hz, w, rfl, Q2, hc2, hq2⟩ := hq1 v1 h1 hr1
  dsimp only [Option.toList, List.cons_append, List.nil_append]
  refine aw_aload_n (pc' := 863) eL_862 rfl rfl trivial ?_
  refine aw_scr 1 (pc := 863) eL_863 eL_864 eL_865 eL_866 eL_867 (by decide) (by omega) hL ?_
  refine aw_scr 2 (pc := 868) eL_868 eL_869 eL_870 eL_871 eL_872 (by decide) (by omega) hL ?_
  refine aw_callv (pc' := 876) (nn := 2) hc2 eL_873 rfl ⟨q1161, q1164, q62⟩ q1162 q1163 ⟨rfl, by decide +kernel, by decide +kernel, by decide +kernel⟩ rfl hz rfl ⟨by omega, by decide⟩ ⟨by omega, by omega⟩ rfl (Nat.le_of_ble_eq_true rfl) (fun v2 h2 hr2 => ?_)
  obtain ⟨rfl, U', hI'⟩ := hq2 v2 h2 hr2
  dsimp only [Option.toList, List.cons_append, List.nil_append]
  refine aw_icmp_eq (pc' := 879) (tgt := 1242) eL_876 rfl (by decide) (fun _ => kk _ U' _ _ (by omega) (by omega) hI') (fun c => absurd rfl c)
theorem L_image (hI : Inv h U) (hi : i + 6 ≤ gL G) (hL : gL G ≤ 3072) (hd : 60 ≤ d) (hk : k + 2 ≤ mc) (hn : n + 102 ≤ ms) (kk : ∀ h' U' k' n', k' ≤ k + 2 → n' ≤ n + 102 → Inv h' U' → AW l G mL d mc ms Q k' n' h' (LvL i) [] 1242) : AW l G mL d mc ms Q k n h (LvL i) [] 881 := by
  obtain ⟨Q1, hc1, hq1⟩ := p_image (l := l) (G := G) (d := 50) hI  (by omega)
  refine aw_aload_n (pc' := 882) eL_881 rfl rfl trivial ?_
  refine aw_callv (pc' := 885) (nn := 0) hc1 eL_882 rfl ⟨q697, q700, q55⟩ q698 q699 ⟨rfl, by decide +kernel, by decide +kernel, by decide +kernel⟩ rfl hI.z6 rfl ⟨by omega, by decide⟩ ⟨by omega, by omega⟩ rfl (Nat.le_of_ble_eq_true rfl) (fun v1 h1 hr1 => ?_)
  obtain ⟨hz, w, rfl, Q2, hc2, hq2⟩ := hq1 v1 h1 hr1
  dsimp only [Option.toList, List.cons_append, List.nil_append]
  refine aw_aload_n (pc' := 886) eL_885 rfl rfl trivial ?_
  refine aw_callv (pc' := 889) (nn := 0) hc2 eL_886 rfl ⟨q875, q878, q62⟩ q876 q877 ⟨rfl, by decide +kernel, by decide +kernel, by decide +kernel⟩ rfl hz rfl ⟨by omega, by decide⟩ ⟨by omega, by omega⟩ rfl (Nat.le_of_ble_eq_true rfl) (fun v2 h2 hr2 => ?_)
  obtain ⟨rfl, U', hI'⟩ := hq2 v2 h2 hr2
  dsimp only [Option.toList, List.cons_append, List.nil_append]
  refine aw_icmp_eq (pc' := 892) (tgt := 1242) eL_889 rfl (by decide) (fun _ => kk _ U' _ _ (by omega) (by omega) hI') (fun c => absurd rfl c)
theorem L_undo (hI : Inv h U) (hi : i + 6 ≤ gL G) (hL : gL G ≤ 3072) (hd : 60 ≤ d) (hk : k + 2 ≤ mc) (hn : n + 102 ≤ ms) (kk : ∀ h' U' k' n', k' ≤ k + 2 → n' ≤ n + 102 → Inv h' U' → AW l G mL d mc ms Q k' n' h' (LvL i) [] 1242) : AW l G mL d mc ms Q k n h (LvL i) [] 894 := by
  obtain ⟨Q1, hc1, hq1⟩ := p_undo (l := l) (G := G) (d := 50) hI  (by omega)
  refine aw_aload_n (pc' := 895) eL_894 rfl rfl trivial ?_
  refine aw_callv (pc' := 898) (nn := 0) hc1 eL_895 rfl ⟨q707, q710, q55⟩ q708 q709 ⟨rfl, by decide +kernel, by decide +kernel, by decide +kernel⟩ rfl hI.z6 rfl ⟨by omega, by decide⟩ ⟨by omega, by omega⟩ rfl (Nat.le_of_ble_eq_true rfl) (fun v1 h1 hr1 => ?_)
  obtain ⟨hz, w, rfl, Q2, hc2, hq2⟩ := hq1 v1 h1 hr1
  dsimp only [Option.toList, List.cons_append, List.nil_append]
  refine aw_aload_n (pc' := 899) eL_898 rfl rfl trivial ?_
  refine aw_callv (pc' := 902) (nn := 0) hc2 eL_899 rfl ⟨q882, q885, q62⟩ q883 q884 ⟨rfl, by decide +kernel, by decide +kernel, by decide +kernel⟩ rfl hz rfl ⟨by omega, by decide⟩ ⟨by omega, by omega⟩ rfl (Nat.le_of_ble_eq_true rfl) (fun v2 h2 hr2 => ?_)
  obtain ⟨rfl, U', hI'⟩ := hq2 v2 h2 hr2
  dsimp only [Option.toList, List.cons_append, List.nil_append]
  refine aw_icmp_eq (pc' := 905) (tgt := 1242) eL_902 rfl (by decide) (fun _ => kk _ U' _ _ (by omega) (by omega) hI') (fun c => absurd rfl c)
theorem L_act (hI : Inv h U) (hi : i + 6 ≤ gL G) (hL : gL G ≤ 3072) (hd : 60 ≤ d) (hk : k + 2 ≤ mc) (hn : n + 102 ≤ ms) (kk : ∀ h' U' k' n', k' ≤ k + 2 → n' ≤ n + 102 → Inv h' U' → AW l G mL d mc ms Q k' n' h' (LvL i) [] 1242) : AW l G mL d mc ms Q k n h (LvL i) [] 907 := by
  obtain ⟨Q1, hc1, hq1⟩ := p_act (l := l) (G := G) (d := 50) hI (gx G (i + 1)) (gx G (i + 2)) (gx G (i + 3)) (by omega)
  refine aw_aload_n (pc' := 908) eL_907 rfl rfl trivial ?_
  refine aw_scr 1 (pc := 908) eL_908 eL_909 eL_910 eL_911 eL_912 (by decide) (by omega) hL ?_
  refine aw_scr 2 (pc := 913) eL_913 eL_914 eL_915 eL_916 eL_917 (by decide) (by omega) hL ?_
  refine aw_scr 3 (pc := 918) eL_918 eL_919 eL_920 eL_921 eL_922 (by decide) (by omega) hL ?_
  refine aw_callv (pc' := 926) (nn := 3) hc1 eL_923 rfl ⟨q711, q714, q55⟩ q712 q713 ⟨rfl, by decide +kernel, by decide +kernel, by decide +kernel⟩ rfl hI.z6 rfl ⟨by omega, by decide⟩ ⟨by omega, by omega⟩ rfl (Nat.le_of_ble_eq_true rfl) (fun v1 h1 hr1 => ?_)
  obtain ⟨hz, w, rfl, Q2, hc2, hq2⟩ := hq1 v1 h1 hr1
  dsimp only [Option.toList, List.cons_append, List.nil_append]
  refine aw_aload_n (pc' := 927) eL_926 rfl rfl trivial ?_
  refine aw_scr 1 (pc := 927) eL_927 eL_928 eL_929 eL_930 eL_931 (by decide) (by omega) hL ?_
  refine aw_scr 2 (pc := 932) eL_932 eL_933 eL_934 eL_935 eL_936 (by decide) (by omega) hL ?_
  refine aw_scr 3 (pc := 937) eL_937 eL_938 eL_939 eL_940 eL_941 (by decide) (by omega) hL ?_
  refine aw_callv (pc' := 945) (nn := 3) hc2 eL_942 rfl ⟨q1114, q1117, q62⟩ q1115 q1116 ⟨rfl, by decide +kernel, by decide +kernel, by decide +kernel⟩ rfl hz rfl ⟨by omega, by decide⟩ ⟨by omega, by omega⟩ rfl (Nat.le_of_ble_eq_true rfl) (fun v2 h2 hr2 => ?_)
  obtain ⟨rfl, U', hI'⟩ := hq2 v2 h2 hr2
  dsimp only [Option.toList, List.cons_append, List.nil_append]
  refine aw_icmp_eq (pc' := 948) (tgt := 1242) eL_945 rfl (by decide) (fun _ => kk _ U' _ _ (by omega) (by omega) hI') (fun c => absurd rfl c)
theorem L_trace (hI : Inv h U) (hi : i + 6 ≤ gL G) (hL : gL G ≤ 3072) (hd : 60 ≤ d) (hk : k + 2 ≤ mc) (hn : n + 102 ≤ ms) (kk : ∀ h' U' k' n', k' ≤ k + 2 → n' ≤ n + 102 → Inv h' U' → AW l G mL d mc ms Q k' n' h' (LvL i) [] 1242) : AW l G mL d mc ms Q k n h (LvL i) [] 950 := by
  obtain ⟨Q1, hc1, hq1⟩ := p_trace (l := l) (G := G) (d := 50) hI (gx G (i + 1)) (by omega)
  refine aw_aload_n (pc' := 951) eL_950 rfl rfl trivial ?_
  refine aw_scr 1 (pc := 951) eL_951 eL_952 eL_953 eL_954 eL_955 (by decide) (by omega) hL ?_
  refine aw_callv (pc' := 959) (nn := 1) hc1 eL_956 rfl ⟨q733, q736, q55⟩ q734 q735 ⟨rfl, by decide +kernel, by decide +kernel, by decide +kernel⟩ rfl hI.z6 rfl ⟨by omega, by decide⟩ ⟨by omega, by omega⟩ rfl (Nat.le_of_ble_eq_true rfl) (fun v1 h1 hr1 => ?_)
  obtain ⟨hz, w, rfl, Q2, hc2, hq2⟩ := hq1 v1 h1 hr1
  dsimp only [Option.toList, List.cons_append, List.nil_append]
  refine aw_aload_n (pc' := 960) eL_959 rfl rfl trivial ?_
  refine aw_scr 1 (pc := 960) eL_960 eL_961 eL_962 eL_963 eL_964 (by decide) (by omega) hL ?_
  refine aw_callv (pc' := 968) (nn := 1) hc2 eL_965 rfl ⟨q1130, q1133, q62⟩ q1131 q1132 ⟨rfl, by decide +kernel, by decide +kernel, by decide +kernel⟩ rfl hz rfl ⟨by omega, by decide⟩ ⟨by omega, by omega⟩ rfl (Nat.le_of_ble_eq_true rfl) (fun v2 h2 hr2 => ?_)
  obtain ⟨rfl, U', hI'⟩ := hq2 v2 h2 hr2
  dsimp only [Option.toList, List.cons_append, List.nil_append]
  refine aw_icmp_eq (pc' := 971) (tgt := 1242) eL_968 rfl (by decide) (fun _ => kk _ U' _ _ (by omega) (by omega) hI') (fun c => absurd rfl c)
theorem L_taken (hI : Inv h U) (hi : i + 6 ≤ gL G) (hL : gL G ≤ 3072) (hd : 60 ≤ d) (hk : k + 2 ≤ mc) (hn : n + 102 ≤ ms) (kk : ∀ h' U' k' n', k' ≤ k + 2 → n' ≤ n + 102 → Inv h' U' → AW l G mL d mc ms Q k' n' h' (LvL i) [] 1242) : AW l G mL d mc ms Q k n h (LvL i) [] 973 := by
  obtain ⟨Q1, hc1, hq1⟩ := p_taken (l := l) (G := G) (d := 50) hI (gx G (i + 1)) (gx G (i + 2)) (by omega)
  refine aw_aload_n (pc' := 974) eL_973 rfl rfl trivial ?_
  refine aw_scr 1 (pc := 974) eL_974 eL_975 eL_976 eL_977 eL_978 (by decide) (by omega) hL ?_
  refine aw_scr 2 (pc := 979) eL_979 eL_980 eL_981 eL_982 eL_983 (by decide) (by omega) hL ?_
  refine aw_callv (pc' := 987) (nn := 2) hc1 eL_984 rfl ⟨q737, q740, q55⟩ q738 q739 ⟨rfl, by decide +kernel, by decide +kernel, by decide +kernel⟩ rfl hI.z6 rfl ⟨by omega, by decide⟩ ⟨by omega, by omega⟩ rfl (Nat.le_of_ble_eq_true rfl) (fun v1 h1 hr1 => ?_)
  obtain ⟨hz, w, rfl, Q2, hc2, hq2⟩ := hq1 v1 h1 hr1
  dsimp only [Option.toList, List.cons_append, List.nil_append]
  refine aw_aload_n (pc' := 988) eL_987 rfl rfl trivial ?_
  refine aw_scr 1 (pc := 988) eL_988 eL_989 eL_990 eL_991 eL_992 (by decide) (by omega) hL ?_
  refine aw_scr 2 (pc := 993) eL_993 eL_994 eL_995 eL_996 eL_997 (by decide) (by omega) hL ?_
  refine aw_callv (pc' := 1001) (nn := 2) hc2 eL_998 rfl ⟨q1134, q1137, q62⟩ q1135 q1136 ⟨rfl, by decide +kernel, by decide +kernel, by decide +kernel⟩ rfl hz rfl ⟨by omega, by decide⟩ ⟨by omega, by omega⟩ rfl (Nat.le_of_ble_eq_true rfl) (fun v2 h2 hr2 => ?_)
  obtain ⟨rfl, U', hI'⟩ := hq2 v2 h2 hr2
  dsimp only [Option.toList, List.cons_append, List.nil_append]
  refine aw_icmp_eq (pc' := 1004) (tgt := 1242) eL_1001 rfl (by decide) (fun _ => kk _ U' _ _ (by omega) (by omega) hI') (fun c => absurd rfl c)
theorem L_count (hI : Inv h U) (hi : i + 6 ≤ gL G) (hL : gL G ≤ 3072) (hd : 60 ≤ d) (hk : k + 2 ≤ mc) (hn : n + 102 ≤ ms) (kk : ∀ h' U' k' n', k' ≤ k + 2 → n' ≤ n + 102 → Inv h' U' → AW l G mL d mc ms Q k' n' h' (LvL i) [] 1242) : AW l G mL d mc ms Q k n h (LvL i) [] 1006 := by
  obtain ⟨Q1, hc1, hq1⟩ := p_count (l := l) (G := G) (d := 50) hI (gx G (i + 1)) (by omega)
  refine aw_aload_n (pc' := 1007) eL_1006 rfl rfl trivial ?_
  refine aw_scr 1 (pc := 1007) eL_1007 eL_1008 eL_1009 eL_1010 eL_1011 (by decide) (by omega) hL ?_
  refine aw_callv (pc' := 1015) (nn := 1) hc1 eL_1012 rfl ⟨q746, q749, q55⟩ q747 q748 ⟨rfl, by decide +kernel, by decide +kernel, by decide +kernel⟩ rfl hI.z6 rfl ⟨by omega, by decide⟩ ⟨by omega, by omega⟩ rfl (Nat.le_of_ble_eq_true rfl) (fun v1 h1 hr1 => ?_)
  obtain ⟨hz, w, rfl, Q2, hc2, hq2⟩ := hq1 v1 h1 hr1
  dsimp only [Option.toList, List.cons_append, List.nil_append]
  refine aw_aload_n (pc' := 1016) eL_1015 rfl rfl trivial ?_
  refine aw_scr 1 (pc := 1016) eL_1016 eL_1017 eL_1018 eL_1019 eL_1020 (by decide) (by omega) hL ?_
  refine aw_callv (pc' := 1024) (nn := 1) hc2 eL_1021 rfl ⟨q1138, q1141, q62⟩ q1139 q1140 ⟨rfl, by decide +kernel, by decide +kernel, by decide +kernel⟩ rfl hz rfl ⟨by omega, by decide⟩ ⟨by omega, by omega⟩ rfl (Nat.le_of_ble_eq_true rfl) (fun v2 h2 hr2 => ?_)
  obtain ⟨rfl, U', hI'⟩ := hq2 v2 h2 hr2
  dsimp only [Option.toList, List.cons_append, List.nil_append]
  refine aw_icmp_eq (pc' := 1027) (tgt := 1242) eL_1024 rfl (by decide) (fun _ => kk _ U' _ _ (by omega) (by omega) hI') (fun c => absurd rfl c)
theorem L_tape (hI : Inv h U) (hi : i + 6 ≤ gL G) (hL : gL G ≤ 3072) (hd : 60 ≤ d) (hk : k + 2 ≤ mc) (hn : n + 102 ≤ ms) (kk : ∀ h' U' k' n', k' ≤ k + 2 → n' ≤ n + 102 → Inv h' U' → AW l G mL d mc ms Q k' n' h' (LvL i) [] 1242) : AW l G mL d mc ms Q k n h (LvL i) [] 1029 := by
  obtain ⟨Q1, hc1, hq1⟩ := p_tape (l := l) (G := G) (d := 50) hI (gx G (i + 1)) (gx G (i + 2)) (gx G (i + 3)) (by omega)
  refine aw_aload_n (pc' := 1030) eL_1029 rfl rfl trivial ?_
  refine aw_scr 1 (pc := 1030) eL_1030 eL_1031 eL_1032 eL_1033 eL_1034 (by decide) (by omega) hL ?_
  refine aw_scr 2 (pc := 1035) eL_1035 eL_1036 eL_1037 eL_1038 eL_1039 (by decide) (by omega) hL ?_
  refine aw_scr 3 (pc := 1040) eL_1040 eL_1041 eL_1042 eL_1043 eL_1044 (by decide) (by omega) hL ?_
  refine aw_callv (pc' := 1048) (nn := 3) hc1 eL_1045 rfl ⟨q750, q753, q55⟩ q751 q752 ⟨rfl, by decide +kernel, by decide +kernel, by decide +kernel⟩ rfl hI.z6 rfl ⟨by omega, by decide⟩ ⟨by omega, by omega⟩ rfl (Nat.le_of_ble_eq_true rfl) (fun v1 h1 hr1 => ?_)
  obtain ⟨hz, w, rfl, Q2, hc2, hq2⟩ := hq1 v1 h1 hr1
  dsimp only [Option.toList, List.cons_append, List.nil_append]
  refine aw_aload_n (pc' := 1049) eL_1048 rfl rfl trivial ?_
  refine aw_scr 1 (pc := 1049) eL_1049 eL_1050 eL_1051 eL_1052 eL_1053 (by decide) (by omega) hL ?_
  refine aw_scr 2 (pc := 1054) eL_1054 eL_1055 eL_1056 eL_1057 eL_1058 (by decide) (by omega) hL ?_
  refine aw_scr 3 (pc := 1059) eL_1059 eL_1060 eL_1061 eL_1062 eL_1063 (by decide) (by omega) hL ?_
  refine aw_callv (pc' := 1067) (nn := 3) hc2 eL_1064 rfl ⟨q1142, q1145, q62⟩ q1143 q1144 ⟨rfl, by decide +kernel, by decide +kernel, by decide +kernel⟩ rfl hz rfl ⟨by omega, by decide⟩ ⟨by omega, by omega⟩ rfl (Nat.le_of_ble_eq_true rfl) (fun v2 h2 hr2 => ?_)
  obtain ⟨rfl, U', hI'⟩ := hq2 v2 h2 hr2
  dsimp only [Option.toList, List.cons_append, List.nil_append]
  refine aw_icmp_eq (pc' := 1070) (tgt := 1242) eL_1067 rfl (by decide) (fun _ => kk _ U' _ _ (by omega) (by omega) hI') (fun c => absurd rfl c)
theorem L_item (hI : Inv h U) (hi : i + 6 ≤ gL G) (hL : gL G ≤ 3072) (hd : 60 ≤ d) (hk : k + 2 ≤ mc) (hn : n + 102 ≤ ms) (kk : ∀ h' U' k' n', k' ≤ k + 2 → n' ≤ n + 102 → Inv h' U' → AW l G mL d mc ms Q k' n' h' (LvL i) [] 1242) : AW l G mL d mc ms Q k n h (LvL i) [] 1072 := by
  obtain ⟨Q1, hc1, hq1⟩ := p_item (l := l) (G := G) (d := 50) hI (gx G (i + 1)) (gx G (i + 2)) ((((gx G (i + 3)).toInt64 <<< ((32 : Int32).toInt64 &&& 63)) ||| ((gx G (i + 4)).toInt64 &&& (4294967295 : Int64)))) (by omega)
  refine aw_aload_n (pc' := 1073) eL_1072 rfl rfl trivial ?_
  refine aw_scr 1 (pc := 1073) eL_1073 eL_1074 eL_1075 eL_1076 eL_1077 (by decide) (by omega) hL ?_
  refine aw_scr 2 (pc := 1078) eL_1078 eL_1079 eL_1080 eL_1081 eL_1082 (by decide) (by omega) hL ?_
  refine aw_scr 3 (pc := 1083) eL_1083 eL_1084 eL_1085 eL_1086 eL_1087 (by decide) (by omega) hL ?_
  refine aw_i2l (pc' := 1089) eL_1088 rfl ?_
  refine aw_bipush (v := 32) (pc' := 1091) eL_1089 rfl (by decide) ?_
  refine aw_lshl (pc' := 1092) eL_1091 rfl ?_
  refine aw_scr 4 (pc := 1092) eL_1092 eL_1093 eL_1094 eL_1095 eL_1096 (by decide) (by omega) hL ?_
  refine aw_i2l (pc' := 1098) eL_1097 rfl ?_
  refine aw_ldc2 (pc' := 1101) eL_1098 rfl q1165 ?_
  refine aw_land (pc' := 1102) eL_1101 rfl ?_
  refine aw_lor (pc' := 1103) eL_1102 rfl ?_
  refine aw_callv (pc' := 1106) (nn := 3) hc1 eL_1103 rfl ⟨q763, q766, q55⟩ q764 q765 ⟨rfl, by decide +kernel, by decide +kernel, by decide +kernel⟩ rfl hI.z6 rfl ⟨by omega, by decide⟩ ⟨by omega, by omega⟩ rfl (Nat.le_of_ble_eq_true rfl) (fun v1 h1 hr1 => ?_)
  obtain ⟨hz, w, rfl, Q2, hc2, hq2⟩ := hq1 v1 h1 hr1
  dsimp only [Option.toList, List.cons_append, List.nil_append]
  refine aw_aload_n (pc' := 1107) eL_1106 rfl rfl trivial ?_
  refine aw_scr 1 (pc := 1107) eL_1107 eL_1108 eL_1109 eL_1110 eL_1111 (by decide) (by omega) hL ?_
  refine aw_scr 2 (pc := 1112) eL_1112 eL_1113 eL_1114 eL_1115 eL_1116 (by decide) (by omega) hL ?_
  refine aw_scr 3 (pc := 1117) eL_1117 eL_1118 eL_1119 eL_1120 eL_1121 (by decide) (by omega) hL ?_
  refine aw_i2l (pc' := 1123) eL_1122 rfl ?_
  refine aw_bipush (v := 32) (pc' := 1125) eL_1123 rfl (by decide) ?_
  refine aw_lshl (pc' := 1126) eL_1125 rfl ?_
  refine aw_scr 4 (pc := 1126) eL_1126 eL_1127 eL_1128 eL_1129 eL_1130 (by decide) (by omega) hL ?_
  refine aw_i2l (pc' := 1132) eL_1131 rfl ?_
  refine aw_ldc2 (pc' := 1135) eL_1132 rfl q1165 ?_
  refine aw_land (pc' := 1136) eL_1135 rfl ?_
  refine aw_lor (pc' := 1137) eL_1136 rfl ?_
  refine aw_callv (pc' := 1140) (nn := 3) hc2 eL_1137 rfl ⟨q1149, q1152, q62⟩ q1150 q1151 ⟨rfl, by decide +kernel, by decide +kernel, by decide +kernel⟩ rfl hz rfl ⟨by omega, by decide⟩ ⟨by omega, by omega⟩ rfl (Nat.le_of_ble_eq_true rfl) (fun v2 h2 hr2 => ?_)
  obtain ⟨rfl, U', hI'⟩ := hq2 v2 h2 hr2
  dsimp only [Option.toList, List.cons_append, List.nil_append]
  refine aw_icmp_eq (pc' := 1143) (tgt := 1242) eL_1140 rfl (by decide) (fun _ => kk _ U' _ _ (by omega) (by omega) hI') (fun c => absurd rfl c)
theorem L_read (hI : Inv h U) (hi : i + 6 ≤ gL G) (hL : gL G ≤ 3072) (hd : 60 ≤ d) (hk : k + 2 ≤ mc) (hn : n + 102 ≤ ms) (kk : ∀ h' U' k' n', k' ≤ k + 2 → n' ≤ n + 102 → Inv h' U' → AW l G mL d mc ms Q k' n' h' (LvL i) [] 1242) : AW l G mL d mc ms Q k n h (LvL i) [] 1145 := by
  obtain ⟨Q1, hc1, hq1⟩ := p_read (l := l) (G := G) (d := 50) hI (gx G (i + 1)) (gx G (i + 2)) (by omega)
  refine aw_aload_n (pc' := 1146) eL_1145 rfl rfl trivial ?_
  refine aw_scr 1 (pc := 1146) eL_1146 eL_1147 eL_1148 eL_1149 eL_1150 (by decide) (by omega) hL ?_
  refine aw_scr 2 (pc := 1151) eL_1151 eL_1152 eL_1153 eL_1154 eL_1155 (by decide) (by omega) hL ?_
  refine aw_callv (pc' := 1159) (nn := 2) hc1 eL_1156 rfl ⟨q771, q774, q55⟩ q772 q773 ⟨rfl, by decide +kernel, by decide +kernel, by decide +kernel⟩ rfl hI.z6 rfl ⟨by omega, by decide⟩ ⟨by omega, by omega⟩ rfl (Nat.le_of_ble_eq_true rfl) (fun v1 h1 hr1 => ?_)
  obtain ⟨hz, w, rfl, Q2, hc2, hq2⟩ := hq1 v1 h1 hr1
  dsimp only [Option.toList, List.cons_append, List.nil_append]
  refine aw_aload_n (pc' := 1160) eL_1159 rfl rfl trivial ?_
  refine aw_scr 1 (pc := 1160) eL_1160 eL_1161 eL_1162 eL_1163 eL_1164 (by decide) (by omega) hL ?_
  refine aw_scr 2 (pc := 1165) eL_1165 eL_1166 eL_1167 eL_1168 eL_1169 (by decide) (by omega) hL ?_
  refine aw_callv (pc' := 1173) (nn := 2) hc2 eL_1170 rfl ⟨q1153, q1156, q62⟩ q1154 q1155 ⟨rfl, by decide +kernel, by decide +kernel, by decide +kernel⟩ rfl hz rfl ⟨by omega, by decide⟩ ⟨by omega, by omega⟩ rfl (Nat.le_of_ble_eq_true rfl) (fun v2 h2 hr2 => ?_)
  obtain ⟨rfl, U', hI'⟩ := hq2 v2 h2 hr2
  dsimp only [Option.toList, List.cons_append, List.nil_append]
  refine aw_lcmp (pc' := 1174) eL_1173 rfl ?_
  refine aw_if_eq (pc' := 1177) (tgt := 1242) eL_1174 rfl (by decide) (fun _ => kk _ U' _ _ (by omega) (by omega) hI') (fun c => absurd (lg_cmp_self w) c)
theorem L_shift (hI : Inv h U) (hi : i + 6 ≤ gL G) (hL : gL G ≤ 3072) (hd : 60 ≤ d) (hk : k + 2 ≤ mc) (hn : n + 102 ≤ ms) (kk : ∀ h' U' k' n', k' ≤ k + 2 → n' ≤ n + 102 → Inv h' U' → AW l G mL d mc ms Q k' n' h' (LvL i) [] 1242) : AW l G mL d mc ms Q k n h (LvL i) [] 1179 := by
  obtain ⟨Q1, hc1, hq1⟩ := p_shift (l := l) (G := G) (d := 50) hI (gx G (i + 1)) (gx G (i + 2)) (gx G (i + 3)) (gx G (i + 4)) (gx G (i + 5)) (by omega)
  refine aw_aload_n (pc' := 1180) eL_1179 rfl rfl trivial ?_
  refine aw_scr 1 (pc := 1180) eL_1180 eL_1181 eL_1182 eL_1183 eL_1184 (by decide) (by omega) hL ?_
  refine aw_scr 2 (pc := 1185) eL_1185 eL_1186 eL_1187 eL_1188 eL_1189 (by decide) (by omega) hL ?_
  refine aw_scr 3 (pc := 1190) eL_1190 eL_1191 eL_1192 eL_1193 eL_1194 (by decide) (by omega) hL ?_
  refine aw_scr 4 (pc := 1195) eL_1195 eL_1196 eL_1197 eL_1198 eL_1199 (by decide) (by omega) hL ?_
  refine aw_scr 5 (pc := 1200) eL_1200 eL_1201 eL_1202 eL_1203 eL_1204 (by decide) (by omega) hL ?_
  refine aw_callv (pc' := 1208) (nn := 5) hc1 eL_1205 rfl ⟨q775, q778, q55⟩ q776 q777 ⟨rfl, by decide +kernel, by decide +kernel, by decide +kernel⟩ rfl hI.z6 rfl ⟨by omega, by decide⟩ ⟨by omega, by omega⟩ rfl (Nat.le_of_ble_eq_true rfl) (fun v1 h1 hr1 => ?_)
  obtain ⟨hz, w, rfl, Q2, hc2, hq2⟩ := hq1 v1 h1 hr1
  dsimp only [Option.toList, List.cons_append, List.nil_append]
  refine aw_aload_n (pc' := 1209) eL_1208 rfl rfl trivial ?_
  refine aw_scr 1 (pc := 1209) eL_1209 eL_1210 eL_1211 eL_1212 eL_1213 (by decide) (by omega) hL ?_
  refine aw_scr 2 (pc := 1214) eL_1214 eL_1215 eL_1216 eL_1217 eL_1218 (by decide) (by omega) hL ?_
  refine aw_scr 3 (pc := 1219) eL_1219 eL_1220 eL_1221 eL_1222 eL_1223 (by decide) (by omega) hL ?_
  refine aw_scr 4 (pc := 1224) eL_1224 eL_1225 eL_1226 eL_1227 eL_1228 (by decide) (by omega) hL ?_
  refine aw_scr 5 (pc := 1229) eL_1229 eL_1230 eL_1231 eL_1232 eL_1233 (by decide) (by omega) hL ?_
  refine aw_callv (pc' := 1237) (nn := 5) hc2 eL_1234 rfl ⟨q1157, q1160, q62⟩ q1158 q1159 ⟨rfl, by decide +kernel, by decide +kernel, by decide +kernel⟩ rfl hz rfl ⟨by omega, by decide⟩ ⟨by omega, by omega⟩ rfl (Nat.le_of_ble_eq_true rfl) (fun v2 h2 hr2 => ?_)
  obtain ⟨rfl, U', hI'⟩ := hq2 v2 h2 hr2
  dsimp only [Option.toList, List.cons_append, List.nil_append]
  refine aw_icmp_eq (pc' := 1240) (tgt := 1242) eL_1237 rfl (by decide) (fun _ => kk _ U' _ _ (by omega) (by omega) hI') (fun c => absurd rfl c)
theorem L_disp (hI : Inv h U) (hi : i + 6 ≤ gL G) (hL : gL G ≤ 3072) (hd : 60 ≤ d) (hk : k + 2 ≤ mc) (hn : n + 102 ≤ ms) (kk : ∀ h' U' k' n', k' ≤ k + 2 → n' ≤ n + 102 → Inv h' U' → AW l G mL d mc ms Q k' n' h' (LvL i) [] 1242) {x : Int32} : AW l G mL d mc ms Q k n h (LvL i) [.int x] 33 := by
  refine aw_tsw (v := 0) (tgt := 180) eL_33 (by decide) (by decide) rfl (by decide) (fun _ => L_teller hI hi hL hd hk hn kk) (fun n_0 => ?_)
  refine aw_tsw (v := 1) (tgt := 223) eL_33 (by decide) (by decide) rfl (by decide) (fun _ => L_of hI hi hL hd hk hn kk) (fun n_1 => ?_)
  refine aw_tsw (v := 2) (tgt := 256) eL_33 (by decide) (by decide) rfl (by decide) (fun _ => L_tell hI hi hL hd hk hn kk) (fun n_2 => ?_)
  refine aw_tsw (v := 3) (tgt := 279) eL_33 (by decide) (by decide) rfl (by decide) (fun _ => L_weigh hI hi hL hd hk hn kk) (fun n_3 => ?_)
  refine aw_tsw (v := 4) (tgt := 312) eL_33 (by decide) (by decide) rfl (by decide) (fun _ => L_put hI hi hL hd hk hn kk) (fun n_4 => ?_)
  refine aw_tsw (v := 5) (tgt := 355) eL_33 (by decide) (by decide) rfl (by decide) (fun _ => L_sea hI hi hL hd hk hn kk) (fun n_5 => ?_)
  refine aw_tsw (v := 6) (tgt := 388) eL_33 (by decide) (by decide) rfl (by decide) (fun _ => L_row hI hi hL hd hk hn kk) (fun n_6 => ?_)
  refine aw_tsw (v := 7) (tgt := 431) eL_33 (by decide) (by decide) rfl (by decide) (fun _ => L_feed hI hi hL hd hk hn kk) (fun n_7 => ?_)
  refine aw_tsw (v := 8) (tgt := 454) eL_33 (by decide) (by decide) rfl (by decide) (fun _ => L_chart hI hi hL hd hk hn kk) (fun n_8 => ?_)
  refine aw_tsw (v := 9) (tgt := 467) eL_33 (by decide) (by decide) rfl (by decide) (fun _ => L_told hI hi hL hd hk hn kk) (fun n_9 => ?_)
  refine aw_tsw (v := 10) (tgt := 490) eL_33 (by decide) (by decide) rfl (by decide) (fun _ => L_pass hI hi hL hd hk hn kk) (fun n_10 => ?_)
  refine aw_tsw (v := 11) (tgt := 513) eL_33 (by decide) (by decide) rfl (by decide) (fun _ => L_on hI hi hL hd hk hn kk) (fun n_11 => ?_)
  refine aw_tsw (v := 12) (tgt := 546) eL_33 (by decide) (by decide) rfl (by decide) (fun _ => L_begin hI hi hL hd hk hn kk) (fun n_12 => ?_)
  refine aw_tsw (v := 13) (tgt := 579) eL_33 (by decide) (by decide) rfl (by decide) (fun _ => L_see hI hi hL hd hk hn kk) (fun n_13 => ?_)
  refine aw_tsw (v := 14) (tgt := 622) eL_33 (by decide) (by decide) rfl (by decide) (fun _ => L_weights hI hi hL hd hk hn kk) (fun n_14 => ?_)
  refine aw_tsw (v := 15) (tgt := 645) eL_33 (by decide) (by decide) rfl (by decide) (fun _ => L_can hI hi hL hd hk hn kk) (fun n_15 => ?_)
  refine aw_tsw (v := 16) (tgt := 678) eL_33 (by decide) (by decide) rfl (by decide) (fun _ => L_odds hI hi hL hd hk hn kk) (fun n_16 => ?_)
  refine aw_tsw (v := 17) (tgt := 722) eL_33 (by decide) (by decide) rfl (by decide) (fun _ => L_mean hI hi hL hd hk hn kk) (fun n_17 => ?_)
  refine aw_tsw (v := 18) (tgt := 746) eL_33 (by decide) (by decide) rfl (by decide) (fun _ => L_plan hI hi hL hd hk hn kk) (fun n_18 => ?_)
  refine aw_tsw (v := 19) (tgt := 779) eL_33 (by decide) (by decide) rfl (by decide) (fun _ => L_ends hI hi hL hd hk hn kk) (fun n_19 => ?_)
  refine aw_tsw (v := 20) (tgt := 802) eL_33 (by decide) (by decide) rfl (by decide) (fun _ => L_book hI hi hL hd hk hn kk) (fun n_20 => ?_)
  refine aw_tsw (v := 21) (tgt := 835) eL_33 (by decide) (by decide) rfl (by decide) (fun _ => L_looked hI hi hL hd hk hn kk) (fun n_21 => ?_)
  refine aw_tsw (v := 22) (tgt := 848) eL_33 (by decide) (by decide) rfl (by decide) (fun _ => L_judge hI hi hL hd hk hn kk) (fun n_22 => ?_)
  refine aw_tsw (v := 23) (tgt := 881) eL_33 (by decide) (by decide) rfl (by decide) (fun _ => L_image hI hi hL hd hk hn kk) (fun n_23 => ?_)
  refine aw_tsw (v := 24) (tgt := 894) eL_33 (by decide) (by decide) rfl (by decide) (fun _ => L_undo hI hi hL hd hk hn kk) (fun n_24 => ?_)
  refine aw_tsw (v := 25) (tgt := 907) eL_33 (by decide) (by decide) rfl (by decide) (fun _ => L_act hI hi hL hd hk hn kk) (fun n_25 => ?_)
  refine aw_tsw (v := 26) (tgt := 950) eL_33 (by decide) (by decide) rfl (by decide) (fun _ => L_trace hI hi hL hd hk hn kk) (fun n_26 => ?_)
  refine aw_tsw (v := 27) (tgt := 973) eL_33 (by decide) (by decide) rfl (by decide) (fun _ => L_taken hI hi hL hd hk hn kk) (fun n_27 => ?_)
  refine aw_tsw (v := 28) (tgt := 1006) eL_33 (by decide) (by decide) rfl (by decide) (fun _ => L_count hI hi hL hd hk hn kk) (fun n_28 => ?_)
  refine aw_tsw (v := 29) (tgt := 1029) eL_33 (by decide) (by decide) rfl (by decide) (fun _ => L_tape hI hi hL hd hk hn kk) (fun n_29 => ?_)
  refine aw_tsw (v := 30) (tgt := 1072) eL_33 (by decide) (by decide) rfl (by decide) (fun _ => L_item hI hi hL hd hk hn kk) (fun n_30 => ?_)
  refine aw_tsw (v := 31) (tgt := 1145) eL_33 (by decide) (by decide) rfl (by decide) (fun _ => L_read hI hi hL hd hk hn kk) (fun n_31 => ?_)
  refine aw_tsw (v := 32) (tgt := 1179) eL_33 (by decide) (by decide) rfl (by decide) (fun _ => L_shift hI hi hL hd hk hn kk) (fun n_32 => ?_)
  refine aw_tswo (tgt := 1242) eL_33 (by have g0 := zne n_0 (show ((0 : Int32)).toInt = 0 by decide); have g1 := zne n_1 (show ((1 : Int32)).toInt = 1 by decide); have g2 := zne n_2 (show ((2 : Int32)).toInt = 2 by decide); have g3 := zne n_3 (show ((3 : Int32)).toInt = 3 by decide); have g4 := zne n_4 (show ((4 : Int32)).toInt = 4 by decide); have g5 := zne n_5 (show ((5 : Int32)).toInt = 5 by decide); have g6 := zne n_6 (show ((6 : Int32)).toInt = 6 by decide); have g7 := zne n_7 (show ((7 : Int32)).toInt = 7 by decide); have g8 := zne n_8 (show ((8 : Int32)).toInt = 8 by decide); have g9 := zne n_9 (show ((9 : Int32)).toInt = 9 by decide); have g10 := zne n_10 (show ((10 : Int32)).toInt = 10 by decide); have g11 := zne n_11 (show ((11 : Int32)).toInt = 11 by decide); have g12 := zne n_12 (show ((12 : Int32)).toInt = 12 by decide); have g13 := zne n_13 (show ((13 : Int32)).toInt = 13 by decide); have g14 := zne n_14 (show ((14 : Int32)).toInt = 14 by decide); have g15 := zne n_15 (show ((15 : Int32)).toInt = 15 by decide); have g16 := zne n_16 (show ((16 : Int32)).toInt = 16 by decide); have g17 := zne n_17 (show ((17 : Int32)).toInt = 17 by decide); have g18 := zne n_18 (show ((18 : Int32)).toInt = 18 by decide); have g19 := zne n_19 (show ((19 : Int32)).toInt = 19 by decide); have g20 := zne n_20 (show ((20 : Int32)).toInt = 20 by decide); have g21 := zne n_21 (show ((21 : Int32)).toInt = 21 by decide); have g22 := zne n_22 (show ((22 : Int32)).toInt = 22 by decide); have g23 := zne n_23 (show ((23 : Int32)).toInt = 23 by decide); have g24 := zne n_24 (show ((24 : Int32)).toInt = 24 by decide); have g25 := zne n_25 (show ((25 : Int32)).toInt = 25 by decide); have g26 := zne n_26 (show ((26 : Int32)).toInt = 26 by decide); have g27 := zne n_27 (show ((27 : Int32)).toInt = 27 by decide); have g28 := zne n_28 (show ((28 : Int32)).toInt = 28 by decide); have g29 := zne n_29 (show ((29 : Int32)).toInt = 29 by decide); have g30 := zne n_30 (show ((30 : Int32)).toInt = 30 by decide); have g31 := zne n_31 (show ((31 : Int32)).toInt = 31 by decide); have g32 := zne n_32 (show ((32 : Int32)).toInt = 32 by decide); omega) (by decide) (kk _ U _ _ (by omega) (by omega) hI)
end LAW
