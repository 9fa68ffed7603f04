/-- what lies in the script -/
def sok (E : ev_E) (x y : Int32) : Prop := ¬ x < 0 ∧ x.toNatClampNeg < eN E 0 ∧ eX E 0 x.toNatClampNeg = y
theorem Ev_scr {E : ev_E} {M : ev_M} {pc : Nat} {ls : List (Nat × ev_V)} {st : List ev_V} {h : ev_H} {P : Option ev_V ⊕ Nat → ev_H → Prop} {x y : Int32} (hd : decode (mB M) pc = .ok (.iaload, 1)) (hs : sok E x y) (kk : Ev E M (pc + 1) ls (vI y :: st) h P) : Ev E M pc ls (vI x :: vR 5 0 :: st) h P := by
  obtain ⟨h1, h2, h3⟩ := hs
  exact Ev_ialdO hd rfl h1 h2 (by rw [h3]; exact kk)
/-! what the bytes of the methods are (by program) -/
theorem d_LW_law_0 : decode (mB M_LW_law) 0 = .ok (.new 8, 3) := by decide +kernel
theorem d_LW_law_3 : decode (mB M_LW_law) 3 = .ok (.dup, 1) := by decide +kernel
theorem d_LW_law_4 : decode (mB M_LW_law) 4 = .ok (.invokespecial 114, 3) := by decide +kernel
theorem d_LW_law_7 : decode (mB M_LW_law) 7 = .ok (.astore_n 1, 1) := by decide +kernel
theorem d_LW_law_8 : decode (mB M_LW_law) 8 = .ok (.new 115, 3) := by decide +kernel
theorem d_LW_law_11 : decode (mB M_LW_law) 11 = .ok (.dup, 1) := by decide +kernel
theorem d_LW_law_12 : decode (mB M_LW_law) 12 = .ok (.invokespecial 117, 3) := by decide +kernel
theorem d_LW_law_15 : decode (mB M_LW_law) 15 = .ok (.astore_n 2, 1) := by decide +kernel
theorem d_LW_law_16 : decode (mB M_LW_law) 16 = .ok (.iconst 1, 1) := by decide +kernel
theorem d_LW_law_17 : decode (mB M_LW_law) 17 = .ok (.newarray .long, 2) := by decide +kernel
theorem d_LW_law_19 : decode (mB M_LW_law) 19 = .ok (.astore_n 3, 1) := by decide +kernel
theorem d_LW_law_20 : decode (mB M_LW_law) 20 = .ok (.iconst 0, 1) := by decide +kernel
theorem d_LW_law_21 : decode (mB M_LW_law) 21 = .ok (.istore 4, 2) := by decide +kernel
theorem d_LW_law_23 : decode (mB M_LW_law) 23 = .ok (.iload 4, 2) := by decide +kernel
theorem d_LW_law_25 : decode (mB M_LW_law) 25 = .ok (.aload_n 0, 1) := by decide +kernel
theorem d_LW_law_26 : decode (mB M_LW_law) 26 = .ok (.arraylength, 1) := by decide +kernel
theorem d_LW_law_27 : decode (mB M_LW_law) 27 = .ok (.bipush 6, 2) := by decide +kernel
theorem d_LW_law_29 : decode (mB M_LW_law) 29 = .ok (.isub, 1) := by decide +kernel
theorem d_LW_law_30 : decode (mB M_LW_law) 30 = .ok (.if_icmp .gt 2140, 3) := by decide +kernel
theorem d_LW_law_33 : decode (mB M_LW_law) 33 = .ok (.aload_n 0, 1) := by decide +kernel
theorem d_LW_law_34 : decode (mB M_LW_law) 34 = .ok (.iload 4, 2) := by decide +kernel
theorem d_LW_law_36 : decode (mB M_LW_law) 36 = .ok (.iaload, 1) := by decide +kernel
theorem d_LW_law_37 : decode (mB M_LW_law) 37 = .ok (.bipush 31, 2) := by decide +kernel
theorem d_LW_law_39 : decode (mB M_LW_law) 39 = .ok (.iand, 1) := by decide +kernel
theorem d_LW_law_40 : decode (mB M_LW_law) 40 = .ok (.tableswitch 2124 0 28 #[132, 188, 292, 352, 420, 488, 532, 612, 672, 740, 808, 884, 952, 1008, 1076, 1156, 1212, 1268, 1336, 1420, 1488, 1556, 1624, 1692, 1772, 1852, 1920, 1988, 2056], 132) := by decide +kernel
theorem d_LW_law_172 : decode (mB M_LW_law) 172 = .ok (.aload_n 1, 1) := by decide +kernel
theorem d_LW_law_173 : decode (mB M_LW_law) 173 = .ok (.aload_n 0, 1) := by decide +kernel
theorem d_LW_law_174 : decode (mB M_LW_law) 174 = .ok (.iload 4, 2) := by decide +kernel
theorem d_LW_law_176 : decode (mB M_LW_law) 176 = .ok (.iconst 1, 1) := by decide +kernel
theorem d_LW_law_177 : decode (mB M_LW_law) 177 = .ok (.iadd, 1) := by decide +kernel
theorem d_LW_law_178 : decode (mB M_LW_law) 178 = .ok (.iaload, 1) := by decide +kernel
theorem d_LW_law_179 : decode (mB M_LW_law) 179 = .ok (.aload_n 3, 1) := by decide +kernel
theorem d_LW_law_180 : decode (mB M_LW_law) 180 = .ok (.invokestatic 118, 3) := by decide +kernel
theorem d_LW_law_183 : decode (mB M_LW_law) 183 = .ok (.istore 5, 2) := by decide +kernel
theorem d_LW_law_185 : decode (mB M_LW_law) 185 = .ok (.aload_n 2, 1) := by decide +kernel
theorem d_LW_law_186 : decode (mB M_LW_law) 186 = .ok (.aload_n 0, 1) := by decide +kernel
theorem d_LW_law_187 : decode (mB M_LW_law) 187 = .ok (.iload 4, 2) := by decide +kernel
theorem d_LW_law_189 : decode (mB M_LW_law) 189 = .ok (.iconst 1, 1) := by decide +kernel
theorem d_LW_law_190 : decode (mB M_LW_law) 190 = .ok (.iadd, 1) := by decide +kernel
theorem d_LW_law_191 : decode (mB M_LW_law) 191 = .ok (.iaload, 1) := by decide +kernel
theorem d_LW_law_192 : decode (mB M_LW_law) 192 = .ok (.invokevirtual 123, 3) := by decide +kernel
theorem d_LW_law_195 : decode (mB M_LW_law) 195 = .ok (.istore 6, 2) := by decide +kernel
theorem d_LW_law_197 : decode (mB M_LW_law) 197 = .ok (.aload_n 2, 1) := by decide +kernel
theorem d_LW_law_198 : decode (mB M_LW_law) 198 = .ok (.invokevirtual 124, 3) := by decide +kernel
theorem d_LW_law_201 : decode (mB M_LW_law) 201 = .ok (.iload 5, 2) := by decide +kernel
theorem d_LW_law_203 : decode (mB M_LW_law) 203 = .ok (.if_icmp .eq 5, 3) := by decide +kernel
theorem d_LW_law_206 : decode (mB M_LW_law) 206 = .ok (.iconst 0, 1) := by decide +kernel
theorem d_LW_law_207 : decode (mB M_LW_law) 207 = .ok (.ireturn, 1) := by decide +kernel
theorem d_LW_law_208 : decode (mB M_LW_law) 208 = .ok (.iload 5, 2) := by decide +kernel
theorem d_LW_law_210 : decode (mB M_LW_law) 210 = .ok (.ifCond .ne 15, 3) := by decide +kernel
theorem d_LW_law_213 : decode (mB M_LW_law) 213 = .ok (.aload_n 3, 1) := by decide +kernel
theorem d_LW_law_214 : decode (mB M_LW_law) 214 = .ok (.iconst 0, 1) := by decide +kernel
theorem d_LW_law_215 : decode (mB M_LW_law) 215 = .ok (.laload, 1) := by decide +kernel
theorem d_LW_law_216 : decode (mB M_LW_law) 216 = .ok (.iload 6, 2) := by decide +kernel
theorem d_LW_law_218 : decode (mB M_LW_law) 218 = .ok (.i2l, 1) := by decide +kernel
theorem d_LW_law_219 : decode (mB M_LW_law) 219 = .ok (.lcmp, 1) := by decide +kernel
theorem d_LW_law_220 : decode (mB M_LW_law) 220 = .ok (.ifCond .eq 5, 3) := by decide +kernel
theorem d_LW_law_223 : decode (mB M_LW_law) 223 = .ok (.iconst 0, 1) := by decide +kernel
theorem d_LW_law_224 : decode (mB M_LW_law) 224 = .ok (.ireturn, 1) := by decide +kernel
theorem d_LW_law_225 : decode (mB M_LW_law) 225 = .ok (.goto 1939, 3) := by decide +kernel
theorem d_LW_law_228 : decode (mB M_LW_law) 228 = .ok (.aload_n 1, 1) := by decide +kernel
theorem d_LW_law_229 : decode (mB M_LW_law) 229 = .ok (.aload_n 0, 1) := by decide +kernel
theorem d_LW_law_230 : decode (mB M_LW_law) 230 = .ok (.iload 4, 2) := by decide +kernel
theorem d_LW_law_232 : decode (mB M_LW_law) 232 = .ok (.iconst 1, 1) := by decide +kernel
theorem d_LW_law_233 : decode (mB M_LW_law) 233 = .ok (.iadd, 1) := by decide +kernel
theorem d_LW_law_234 : decode (mB M_LW_law) 234 = .ok (.iaload, 1) := by decide +kernel
theorem d_LW_law_235 : decode (mB M_LW_law) 235 = .ok (.aload_n 0, 1) := by decide +kernel
theorem d_LW_law_236 : decode (mB M_LW_law) 236 = .ok (.iload 4, 2) := by decide +kernel
theorem d_LW_law_238 : decode (mB M_LW_law) 238 = .ok (.iconst 2, 1) := by decide +kernel
theorem d_LW_law_239 : decode (mB M_LW_law) 239 = .ok (.iadd, 1) := by decide +kernel
theorem d_LW_law_240 : decode (mB M_LW_law) 240 = .ok (.iaload, 1) := by decide +kernel
theorem d_LW_law_241 : decode (mB M_LW_law) 241 = .ok (.aload_n 0, 1) := by decide +kernel
theorem d_LW_law_242 : decode (mB M_LW_law) 242 = .ok (.iload 4, 2) := by decide +kernel
theorem d_LW_law_244 : decode (mB M_LW_law) 244 = .ok (.iconst 3, 1) := by decide +kernel
theorem d_LW_law_245 : decode (mB M_LW_law) 245 = .ok (.iadd, 1) := by decide +kernel
theorem d_LW_law_246 : decode (mB M_LW_law) 246 = .ok (.iaload, 1) := by decide +kernel
theorem d_LW_law_247 : decode (mB M_LW_law) 247 = .ok (.aload_n 0, 1) := by decide +kernel
theorem d_LW_law_248 : decode (mB M_LW_law) 248 = .ok (.iload 4, 2) := by decide +kernel
theorem d_LW_law_250 : decode (mB M_LW_law) 250 = .ok (.iconst 4, 1) := by decide +kernel
theorem d_LW_law_251 : decode (mB M_LW_law) 251 = .ok (.iadd, 1) := by decide +kernel
theorem d_LW_law_252 : decode (mB M_LW_law) 252 = .ok (.iaload, 1) := by decide +kernel
theorem d_LW_law_253 : decode (mB M_LW_law) 253 = .ok (.aload_n 0, 1) := by decide +kernel
theorem d_LW_law_254 : decode (mB M_LW_law) 254 = .ok (.iload 4, 2) := by decide +kernel
theorem d_LW_law_256 : decode (mB M_LW_law) 256 = .ok (.iconst 5, 1) := by decide +kernel
theorem d_LW_law_257 : decode (mB M_LW_law) 257 = .ok (.iadd, 1) := by decide +kernel
theorem d_LW_law_258 : decode (mB M_LW_law) 258 = .ok (.iaload, 1) := by decide +kernel
theorem d_LW_law_259 : decode (mB M_LW_law) 259 = .ok (.aload_n 3, 1) := by decide +kernel
theorem d_LW_law_260 : decode (mB M_LW_law) 260 = .ok (.invokestatic 127, 3) := by decide +kernel
theorem d_LW_law_263 : decode (mB M_LW_law) 263 = .ok (.istore 5, 2) := by decide +kernel
theorem d_LW_law_265 : decode (mB M_LW_law) 265 = .ok (.aload_n 2, 1) := by decide +kernel
theorem d_LW_law_266 : decode (mB M_LW_law) 266 = .ok (.aload_n 0, 1) := by decide +kernel
theorem d_LW_law_267 : decode (mB M_LW_law) 267 = .ok (.iload 4, 2) := by decide +kernel
theorem d_LW_law_269 : decode (mB M_LW_law) 269 = .ok (.iconst 1, 1) := by decide +kernel
theorem d_LW_law_270 : decode (mB M_LW_law) 270 = .ok (.iadd, 1) := by decide +kernel
theorem d_LW_law_271 : decode (mB M_LW_law) 271 = .ok (.iaload, 1) := by decide +kernel
theorem d_LW_law_272 : decode (mB M_LW_law) 272 = .ok (.aload_n 0, 1) := by decide +kernel
theorem d_LW_law_273 : decode (mB M_LW_law) 273 = .ok (.iload 4, 2) := by decide +kernel
theorem d_LW_law_275 : decode (mB M_LW_law) 275 = .ok (.iconst 2, 1) := by decide +kernel
theorem d_LW_law_276 : decode (mB M_LW_law) 276 = .ok (.iadd, 1) := by decide +kernel
theorem d_LW_law_277 : decode (mB M_LW_law) 277 = .ok (.iaload, 1) := by decide +kernel
theorem d_LW_law_278 : decode (mB M_LW_law) 278 = .ok (.aload_n 0, 1) := by decide +kernel
theorem d_LW_law_279 : decode (mB M_LW_law) 279 = .ok (.iload 4, 2) := by decide +kernel
theorem d_LW_law_281 : decode (mB M_LW_law) 281 = .ok (.iconst 3, 1) := by decide +kernel
theorem d_LW_law_282 : decode (mB M_LW_law) 282 = .ok (.iadd, 1) := by decide +kernel
theorem d_LW_law_283 : decode (mB M_LW_law) 283 = .ok (.iaload, 1) := by decide +kernel
theorem d_LW_law_284 : decode (mB M_LW_law) 284 = .ok (.aload_n 0, 1) := by decide +kernel
theorem d_LW_law_285 : decode (mB M_LW_law) 285 = .ok (.iload 4, 2) := by decide +kernel
theorem d_LW_law_287 : decode (mB M_LW_law) 287 = .ok (.iconst 4, 1) := by decide +kernel
theorem d_LW_law_288 : decode (mB M_LW_law) 288 = .ok (.iadd, 1) := by decide +kernel
theorem d_LW_law_289 : decode (mB M_LW_law) 289 = .ok (.iaload, 1) := by decide +kernel
theorem d_LW_law_290 : decode (mB M_LW_law) 290 = .ok (.aload_n 0, 1) := by decide +kernel
theorem d_LW_law_291 : decode (mB M_LW_law) 291 = .ok (.iload 4, 2) := by decide +kernel
theorem d_LW_law_293 : decode (mB M_LW_law) 293 = .ok (.iconst 5, 1) := by decide +kernel
theorem d_LW_law_294 : decode (mB M_LW_law) 294 = .ok (.iadd, 1) := by decide +kernel
theorem d_LW_law_295 : decode (mB M_LW_law) 295 = .ok (.iaload, 1) := by decide +kernel
theorem d_LW_law_296 : decode (mB M_LW_law) 296 = .ok (.invokevirtual 130, 3) := by decide +kernel
theorem d_LW_law_299 : decode (mB M_LW_law) 299 = .ok (.istore 6, 2) := by decide +kernel
theorem d_LW_law_301 : decode (mB M_LW_law) 301 = .ok (.aload_n 2, 1) := by decide +kernel
theorem d_LW_law_302 : decode (mB M_LW_law) 302 = .ok (.invokevirtual 124, 3) := by decide +kernel
theorem d_LW_law_305 : decode (mB M_LW_law) 305 = .ok (.iload 5, 2) := by decide +kernel
theorem d_LW_law_307 : decode (mB M_LW_law) 307 = .ok (.if_icmp .eq 5, 3) := by decide +kernel
theorem d_LW_law_310 : decode (mB M_LW_law) 310 = .ok (.iconst 0, 1) := by decide +kernel
theorem d_LW_law_311 : decode (mB M_LW_law) 311 = .ok (.ireturn, 1) := by decide +kernel
theorem d_LW_law_312 : decode (mB M_LW_law) 312 = .ok (.iload 5, 2) := by decide +kernel
theorem d_LW_law_314 : decode (mB M_LW_law) 314 = .ok (.ifCond .ne 15, 3) := by decide +kernel
theorem d_LW_law_317 : decode (mB M_LW_law) 317 = .ok (.aload_n 3, 1) := by decide +kernel
theorem d_LW_law_318 : decode (mB M_LW_law) 318 = .ok (.iconst 0, 1) := by decide +kernel
theorem d_LW_law_319 : decode (mB M_LW_law) 319 = .ok (.laload, 1) := by decide +kernel
theorem d_LW_law_320 : decode (mB M_LW_law) 320 = .ok (.iload 6, 2) := by decide +kernel
theorem d_LW_law_322 : decode (mB M_LW_law) 322 = .ok (.i2l, 1) := by decide +kernel
theorem d_LW_law_323 : decode (mB M_LW_law) 323 = .ok (.lcmp, 1) := by decide +kernel
theorem d_LW_law_324 : decode (mB M_LW_law) 324 = .ok (.ifCond .eq 5, 3) := by decide +kernel
theorem d_LW_law_327 : decode (mB M_LW_law) 327 = .ok (.iconst 0, 1) := by decide +kernel
theorem d_LW_law_328 : decode (mB M_LW_law) 328 = .ok (.ireturn, 1) := by decide +kernel
theorem d_LW_law_329 : decode (mB M_LW_law) 329 = .ok (.goto 1835, 3) := by decide +kernel
theorem d_LW_law_332 : decode (mB M_LW_law) 332 = .ok (.aload_n 1, 1) := by decide +kernel
theorem d_LW_law_333 : decode (mB M_LW_law) 333 = .ok (.aload_n 0, 1) := by decide +kernel
theorem d_LW_law_334 : decode (mB M_LW_law) 334 = .ok (.iload 4, 2) := by decide +kernel
theorem d_LW_law_336 : decode (mB M_LW_law) 336 = .ok (.iconst 1, 1) := by decide +kernel
theorem d_LW_law_337 : decode (mB M_LW_law) 337 = .ok (.iadd, 1) := by decide +kernel
theorem d_LW_law_338 : decode (mB M_LW_law) 338 = .ok (.iaload, 1) := by decide +kernel
theorem d_LW_law_339 : decode (mB M_LW_law) 339 = .ok (.aload_n 0, 1) := by decide +kernel
theorem d_LW_law_340 : decode (mB M_LW_law) 340 = .ok (.iload 4, 2) := by decide +kernel
theorem d_LW_law_342 : decode (mB M_LW_law) 342 = .ok (.iconst 2, 1) := by decide +kernel
theorem d_LW_law_343 : decode (mB M_LW_law) 343 = .ok (.iadd, 1) := by decide +kernel
theorem d_LW_law_344 : decode (mB M_LW_law) 344 = .ok (.iaload, 1) := by decide +kernel
theorem d_LW_law_345 : decode (mB M_LW_law) 345 = .ok (.aload_n 0, 1) := by decide +kernel
theorem d_LW_law_346 : decode (mB M_LW_law) 346 = .ok (.iload 4, 2) := by decide +kernel
theorem d_LW_law_348 : decode (mB M_LW_law) 348 = .ok (.iconst 3, 1) := by decide +kernel
theorem d_LW_law_349 : decode (mB M_LW_law) 349 = .ok (.iadd, 1) := by decide +kernel
theorem d_LW_law_350 : decode (mB M_LW_law) 350 = .ok (.iaload, 1) := by decide +kernel
theorem d_LW_law_351 : decode (mB M_LW_law) 351 = .ok (.invokestatic 131, 3) := by decide +kernel
theorem d_LW_law_354 : decode (mB M_LW_law) 354 = .ok (.istore 5, 2) := by decide +kernel
theorem d_LW_law_356 : decode (mB M_LW_law) 356 = .ok (.aload_n 2, 1) := by decide +kernel
theorem d_LW_law_357 : decode (mB M_LW_law) 357 = .ok (.aload_n 0, 1) := by decide +kernel
theorem d_LW_law_358 : decode (mB M_LW_law) 358 = .ok (.iload 4, 2) := by decide +kernel
theorem d_LW_law_360 : decode (mB M_LW_law) 360 = .ok (.iconst 1, 1) := by decide +kernel
theorem d_LW_law_361 : decode (mB M_LW_law) 361 = .ok (.iadd, 1) := by decide +kernel
theorem d_LW_law_362 : decode (mB M_LW_law) 362 = .ok (.iaload, 1) := by decide +kernel
theorem d_LW_law_363 : decode (mB M_LW_law) 363 = .ok (.aload_n 0, 1) := by decide +kernel
theorem d_LW_law_364 : decode (mB M_LW_law) 364 = .ok (.iload 4, 2) := by decide +kernel
theorem d_LW_law_366 : decode (mB M_LW_law) 366 = .ok (.iconst 2, 1) := by decide +kernel
theorem d_LW_law_367 : decode (mB M_LW_law) 367 = .ok (.iadd, 1) := by decide +kernel
theorem d_LW_law_368 : decode (mB M_LW_law) 368 = .ok (.iaload, 1) := by decide +kernel
theorem d_LW_law_369 : decode (mB M_LW_law) 369 = .ok (.aload_n 0, 1) := by decide +kernel
theorem d_LW_law_370 : decode (mB M_LW_law) 370 = .ok (.iload 4, 2) := by decide +kernel
theorem d_LW_law_372 : decode (mB M_LW_law) 372 = .ok (.iconst 3, 1) := by decide +kernel
theorem d_LW_law_373 : decode (mB M_LW_law) 373 = .ok (.iadd, 1) := by decide +kernel
theorem d_LW_law_374 : decode (mB M_LW_law) 374 = .ok (.iaload, 1) := by decide +kernel
theorem d_LW_law_375 : decode (mB M_LW_law) 375 = .ok (.invokevirtual 134, 3) := by decide +kernel
theorem d_LW_law_378 : decode (mB M_LW_law) 378 = .ok (.aload_n 2, 1) := by decide +kernel
theorem d_LW_law_379 : decode (mB M_LW_law) 379 = .ok (.invokevirtual 124, 3) := by decide +kernel
theorem d_LW_law_382 : decode (mB M_LW_law) 382 = .ok (.iload 5, 2) := by decide +kernel
theorem d_LW_law_384 : decode (mB M_LW_law) 384 = .ok (.if_icmp .eq 5, 3) := by decide +kernel
theorem d_LW_law_387 : decode (mB M_LW_law) 387 = .ok (.iconst 0, 1) := by decide +kernel
theorem d_LW_law_388 : decode (mB M_LW_law) 388 = .ok (.ireturn, 1) := by decide +kernel
theorem d_LW_law_389 : decode (mB M_LW_law) 389 = .ok (.goto 1775, 3) := by decide +kernel
theorem d_LW_law_392 : decode (mB M_LW_law) 392 = .ok (.aload_n 1, 1) := by decide +kernel
theorem d_LW_law_393 : decode (mB M_LW_law) 393 = .ok (.aload_n 0, 1) := by decide +kernel
theorem d_LW_law_394 : decode (mB M_LW_law) 394 = .ok (.iload 4, 2) := by decide +kernel
theorem d_LW_law_396 : decode (mB M_LW_law) 396 = .ok (.iconst 1, 1) := by decide +kernel
theorem d_LW_law_397 : decode (mB M_LW_law) 397 = .ok (.iadd, 1) := by decide +kernel
theorem d_LW_law_398 : decode (mB M_LW_law) 398 = .ok (.iaload, 1) := by decide +kernel
theorem d_LW_law_399 : decode (mB M_LW_law) 399 = .ok (.aload_n 0, 1) := by decide +kernel
theorem d_LW_law_400 : decode (mB M_LW_law) 400 = .ok (.iload 4, 2) := by decide +kernel
theorem d_LW_law_402 : decode (mB M_LW_law) 402 = .ok (.iconst 2, 1) := by decide +kernel
theorem d_LW_law_403 : decode (mB M_LW_law) 403 = .ok (.iadd, 1) := by decide +kernel
theorem d_LW_law_404 : decode (mB M_LW_law) 404 = .ok (.iaload, 1) := by decide +kernel
theorem d_LW_law_405 : decode (mB M_LW_law) 405 = .ok (.aload_n 3, 1) := by decide +kernel
theorem d_LW_law_406 : decode (mB M_LW_law) 406 = .ok (.invokestatic 135, 3) := by decide +kernel
theorem d_LW_law_409 : decode (mB M_LW_law) 409 = .ok (.istore 5, 2) := by decide +kernel
theorem d_LW_law_411 : decode (mB M_LW_law) 411 = .ok (.aload_n 2, 1) := by decide +kernel
theorem d_LW_law_412 : decode (mB M_LW_law) 412 = .ok (.aload_n 0, 1) := by decide +kernel
theorem d_LW_law_413 : decode (mB M_LW_law) 413 = .ok (.iload 4, 2) := by decide +kernel
theorem d_LW_law_415 : decode (mB M_LW_law) 415 = .ok (.iconst 1, 1) := by decide +kernel
theorem d_LW_law_416 : decode (mB M_LW_law) 416 = .ok (.iadd, 1) := by decide +kernel
theorem d_LW_law_417 : decode (mB M_LW_law) 417 = .ok (.iaload, 1) := by decide +kernel
theorem d_LW_law_418 : decode (mB M_LW_law) 418 = .ok (.aload_n 0, 1) := by decide +kernel
theorem d_LW_law_419 : decode (mB M_LW_law) 419 = .ok (.iload 4, 2) := by decide +kernel
theorem d_LW_law_421 : decode (mB M_LW_law) 421 = .ok (.iconst 2, 1) := by decide +kernel
theorem d_LW_law_422 : decode (mB M_LW_law) 422 = .ok (.iadd, 1) := by decide +kernel
theorem d_LW_law_423 : decode (mB M_LW_law) 423 = .ok (.iaload, 1) := by decide +kernel
theorem d_LW_law_424 : decode (mB M_LW_law) 424 = .ok (.invokevirtual 138, 3) := by decide +kernel
theorem d_LW_law_427 : decode (mB M_LW_law) 427 = .ok (.istore 6, 2) := by decide +kernel
theorem d_LW_law_429 : decode (mB M_LW_law) 429 = .ok (.aload_n 2, 1) := by decide +kernel
theorem d_LW_law_430 : decode (mB M_LW_law) 430 = .ok (.invokevirtual 124, 3) := by decide +kernel
theorem d_LW_law_433 : decode (mB M_LW_law) 433 = .ok (.iload 5, 2) := by decide +kernel
theorem d_LW_law_435 : decode (mB M_LW_law) 435 = .ok (.if_icmp .eq 5, 3) := by decide +kernel
theorem d_LW_law_438 : decode (mB M_LW_law) 438 = .ok (.iconst 0, 1) := by decide +kernel
theorem d_LW_law_439 : decode (mB M_LW_law) 439 = .ok (.ireturn, 1) := by decide +kernel
theorem d_LW_law_440 : decode (mB M_LW_law) 440 = .ok (.iload 5, 2) := by decide +kernel
theorem d_LW_law_442 : decode (mB M_LW_law) 442 = .ok (.ifCond .ne 15, 3) := by decide +kernel
theorem d_LW_law_445 : decode (mB M_LW_law) 445 = .ok (.aload_n 3, 1) := by decide +kernel
theorem d_LW_law_446 : decode (mB M_LW_law) 446 = .ok (.iconst 0, 1) := by decide +kernel
theorem d_LW_law_447 : decode (mB M_LW_law) 447 = .ok (.laload, 1) := by decide +kernel
theorem d_LW_law_448 : decode (mB M_LW_law) 448 = .ok (.iload 6, 2) := by decide +kernel
theorem d_LW_law_450 : decode (mB M_LW_law) 450 = .ok (.i2l, 1) := by decide +kernel
theorem d_LW_law_451 : decode (mB M_LW_law) 451 = .ok (.lcmp, 1) := by decide +kernel
theorem d_LW_law_452 : decode (mB M_LW_law) 452 = .ok (.ifCond .eq 5, 3) := by decide +kernel
theorem d_LW_law_455 : decode (mB M_LW_law) 455 = .ok (.iconst 0, 1) := by decide +kernel
theorem d_LW_law_456 : decode (mB M_LW_law) 456 = .ok (.ireturn, 1) := by decide +kernel
theorem d_LW_law_457 : decode (mB M_LW_law) 457 = .ok (.goto 1707, 3) := by decide +kernel
theorem d_LW_law_460 : decode (mB M_LW_law) 460 = .ok (.aload_n 1, 1) := by decide +kernel
theorem d_LW_law_461 : decode (mB M_LW_law) 461 = .ok (.aload_n 0, 1) := by decide +kernel
theorem d_LW_law_462 : decode (mB M_LW_law) 462 = .ok (.iload 4, 2) := by decide +kernel
theorem d_LW_law_464 : decode (mB M_LW_law) 464 = .ok (.iconst 1, 1) := by decide +kernel
theorem d_LW_law_465 : decode (mB M_LW_law) 465 = .ok (.iadd, 1) := by decide +kernel
theorem d_LW_law_466 : decode (mB M_LW_law) 466 = .ok (.iaload, 1) := by decide +kernel
theorem d_LW_law_467 : decode (mB M_LW_law) 467 = .ok (.aload_n 0, 1) := by decide +kernel
theorem d_LW_law_468 : decode (mB M_LW_law) 468 = .ok (.iload 4, 2) := by decide +kernel
theorem d_LW_law_470 : decode (mB M_LW_law) 470 = .ok (.iconst 2, 1) := by decide +kernel
theorem d_LW_law_471 : decode (mB M_LW_law) 471 = .ok (.iadd, 1) := by decide +kernel
theorem d_LW_law_472 : decode (mB M_LW_law) 472 = .ok (.iaload, 1) := by decide +kernel
theorem d_LW_law_473 : decode (mB M_LW_law) 473 = .ok (.aload_n 3, 1) := by decide +kernel
theorem d_LW_law_474 : decode (mB M_LW_law) 474 = .ok (.invokestatic 139, 3) := by decide +kernel
theorem d_LW_law_477 : decode (mB M_LW_law) 477 = .ok (.istore 5, 2) := by decide +kernel
theorem d_LW_law_479 : decode (mB M_LW_law) 479 = .ok (.aload_n 2, 1) := by decide +kernel
theorem d_LW_law_480 : decode (mB M_LW_law) 480 = .ok (.aload_n 0, 1) := by decide +kernel
theorem d_LW_law_481 : decode (mB M_LW_law) 481 = .ok (.iload 4, 2) := by decide +kernel
theorem d_LW_law_483 : decode (mB M_LW_law) 483 = .ok (.iconst 1, 1) := by decide +kernel
theorem d_LW_law_484 : decode (mB M_LW_law) 484 = .ok (.iadd, 1) := by decide +kernel
theorem d_LW_law_485 : decode (mB M_LW_law) 485 = .ok (.iaload, 1) := by decide +kernel
theorem d_LW_law_486 : decode (mB M_LW_law) 486 = .ok (.aload_n 0, 1) := by decide +kernel
theorem d_LW_law_487 : decode (mB M_LW_law) 487 = .ok (.iload 4, 2) := by decide +kernel
theorem d_LW_law_489 : decode (mB M_LW_law) 489 = .ok (.iconst 2, 1) := by decide +kernel
theorem d_LW_law_490 : decode (mB M_LW_law) 490 = .ok (.iadd, 1) := by decide +kernel
theorem d_LW_law_491 : decode (mB M_LW_law) 491 = .ok (.iaload, 1) := by decide +kernel
theorem d_LW_law_492 : decode (mB M_LW_law) 492 = .ok (.invokevirtual 141, 3) := by decide +kernel
theorem d_LW_law_495 : decode (mB M_LW_law) 495 = .ok (.istore 6, 2) := by decide +kernel
theorem d_LW_law_497 : decode (mB M_LW_law) 497 = .ok (.aload_n 2, 1) := by decide +kernel
theorem d_LW_law_498 : decode (mB M_LW_law) 498 = .ok (.invokevirtual 124, 3) := by decide +kernel
theorem d_LW_law_501 : decode (mB M_LW_law) 501 = .ok (.iload 5, 2) := by decide +kernel
theorem d_LW_law_503 : decode (mB M_LW_law) 503 = .ok (.if_icmp .eq 5, 3) := by decide +kernel
theorem d_LW_law_506 : decode (mB M_LW_law) 506 = .ok (.iconst 0, 1) := by decide +kernel
theorem d_LW_law_507 : decode (mB M_LW_law) 507 = .ok (.ireturn, 1) := by decide +kernel
theorem d_LW_law_508 : decode (mB M_LW_law) 508 = .ok (.iload 5, 2) := by decide +kernel
theorem d_LW_law_510 : decode (mB M_LW_law) 510 = .ok (.ifCond .ne 15, 3) := by decide +kernel
theorem d_LW_law_513 : decode (mB M_LW_law) 513 = .ok (.aload_n 3, 1) := by decide +kernel
theorem d_LW_law_514 : decode (mB M_LW_law) 514 = .ok (.iconst 0, 1) := by decide +kernel
theorem d_LW_law_515 : decode (mB M_LW_law) 515 = .ok (.laload, 1) := by decide +kernel
theorem d_LW_law_516 : decode (mB M_LW_law) 516 = .ok (.iload 6, 2) := by decide +kernel
theorem d_LW_law_518 : decode (mB M_LW_law) 518 = .ok (.i2l, 1) := by decide +kernel
theorem d_LW_law_519 : decode (mB M_LW_law) 519 = .ok (.lcmp, 1) := by decide +kernel
theorem d_LW_law_520 : decode (mB M_LW_law) 520 = .ok (.ifCond .eq 5, 3) := by decide +kernel
theorem d_LW_law_523 : decode (mB M_LW_law) 523 = .ok (.iconst 0, 1) := by decide +kernel
theorem d_LW_law_524 : decode (mB M_LW_law) 524 = .ok (.ireturn, 1) := by decide +kernel
theorem d_LW_law_525 : decode (mB M_LW_law) 525 = .ok (.goto 1639, 3) := by decide +kernel
theorem d_LW_law_528 : decode (mB M_LW_law) 528 = .ok (.aload_n 1, 1) := by decide +kernel
theorem d_LW_law_529 : decode (mB M_LW_law) 529 = .ok (.aload_n 3, 1) := by decide +kernel
theorem d_LW_law_530 : decode (mB M_LW_law) 530 = .ok (.invokestatic 142, 3) := by decide +kernel
theorem d_LW_law_533 : decode (mB M_LW_law) 533 = .ok (.istore 5, 2) := by decide +kernel
theorem d_LW_law_535 : decode (mB M_LW_law) 535 = .ok (.aload_n 2, 1) := by decide +kernel
theorem d_LW_law_536 : decode (mB M_LW_law) 536 = .ok (.invokevirtual 145, 3) := by decide +kernel
theorem d_LW_law_539 : decode (mB M_LW_law) 539 = .ok (.istore 6, 2) := by decide +kernel
theorem d_LW_law_541 : decode (mB M_LW_law) 541 = .ok (.aload_n 2, 1) := by decide +kernel
theorem d_LW_law_542 : decode (mB M_LW_law) 542 = .ok (.invokevirtual 124, 3) := by decide +kernel
theorem d_LW_law_545 : decode (mB M_LW_law) 545 = .ok (.iload 5, 2) := by decide +kernel
theorem d_LW_law_547 : decode (mB M_LW_law) 547 = .ok (.if_icmp .eq 5, 3) := by decide +kernel
theorem d_LW_law_550 : decode (mB M_LW_law) 550 = .ok (.iconst 0, 1) := by decide +kernel
theorem d_LW_law_551 : decode (mB M_LW_law) 551 = .ok (.ireturn, 1) := by decide +kernel
theorem d_LW_law_552 : decode (mB M_LW_law) 552 = .ok (.iload 5, 2) := by decide +kernel
theorem d_LW_law_554 : decode (mB M_LW_law) 554 = .ok (.ifCond .ne 15, 3) := by decide +kernel
theorem d_LW_law_557 : decode (mB M_LW_law) 557 = .ok (.aload_n 3, 1) := by decide +kernel
theorem d_LW_law_558 : decode (mB M_LW_law) 558 = .ok (.iconst 0, 1) := by decide +kernel
theorem d_LW_law_559 : decode (mB M_LW_law) 559 = .ok (.laload, 1) := by decide +kernel
theorem d_LW_law_560 : decode (mB M_LW_law) 560 = .ok (.iload 6, 2) := by decide +kernel
theorem d_LW_law_562 : decode (mB M_LW_law) 562 = .ok (.i2l, 1) := by decide +kernel
theorem d_LW_law_563 : decode (mB M_LW_law) 563 = .ok (.lcmp, 1) := by decide +kernel
theorem d_LW_law_564 : decode (mB M_LW_law) 564 = .ok (.ifCond .eq 5, 3) := by decide +kernel
theorem d_LW_law_567 : decode (mB M_LW_law) 567 = .ok (.iconst 0, 1) := by decide +kernel
theorem d_LW_law_568 : decode (mB M_LW_law) 568 = .ok (.ireturn, 1) := by decide +kernel
theorem d_LW_law_569 : decode (mB M_LW_law) 569 = .ok (.goto 1595, 3) := by decide +kernel
theorem d_LW_law_572 : decode (mB M_LW_law) 572 = .ok (.aload_n 1, 1) := by decide +kernel
theorem d_LW_law_573 : decode (mB M_LW_law) 573 = .ok (.aload_n 0, 1) := by decide +kernel
theorem d_LW_law_574 : decode (mB M_LW_law) 574 = .ok (.iload 4, 2) := by decide +kernel
theorem d_LW_law_576 : decode (mB M_LW_law) 576 = .ok (.iconst 1, 1) := by decide +kernel
theorem d_LW_law_577 : decode (mB M_LW_law) 577 = .ok (.iadd, 1) := by decide +kernel
theorem d_LW_law_578 : decode (mB M_LW_law) 578 = .ok (.iaload, 1) := by decide +kernel
theorem d_LW_law_579 : decode (mB M_LW_law) 579 = .ok (.aload_n 0, 1) := by decide +kernel
theorem d_LW_law_580 : decode (mB M_LW_law) 580 = .ok (.iload 4, 2) := by decide +kernel
theorem d_LW_law_582 : decode (mB M_LW_law) 582 = .ok (.iconst 2, 1) := by decide +kernel
theorem d_LW_law_583 : decode (mB M_LW_law) 583 = .ok (.iadd, 1) := by decide +kernel
theorem d_LW_law_584 : decode (mB M_LW_law) 584 = .ok (.iaload, 1) := by decide +kernel
theorem d_LW_law_585 : decode (mB M_LW_law) 585 = .ok (.aload_n 0, 1) := by decide +kernel
theorem d_LW_law_586 : decode (mB M_LW_law) 586 = .ok (.iload 4, 2) := by decide +kernel
theorem d_LW_law_588 : decode (mB M_LW_law) 588 = .ok (.iconst 3, 1) := by decide +kernel
theorem d_LW_law_589 : decode (mB M_LW_law) 589 = .ok (.iadd, 1) := by decide +kernel
theorem d_LW_law_590 : decode (mB M_LW_law) 590 = .ok (.iaload, 1) := by decide +kernel
theorem d_LW_law_591 : decode (mB M_LW_law) 591 = .ok (.aload_n 3, 1) := by decide +kernel
theorem d_LW_law_592 : decode (mB M_LW_law) 592 = .ok (.invokestatic 146, 3) := by decide +kernel
theorem d_LW_law_595 : decode (mB M_LW_law) 595 = .ok (.istore 5, 2) := by decide +kernel
theorem d_LW_law_597 : decode (mB M_LW_law) 597 = .ok (.aload_n 2, 1) := by decide +kernel
theorem d_LW_law_598 : decode (mB M_LW_law) 598 = .ok (.aload_n 0, 1) := by decide +kernel
theorem d_LW_law_599 : decode (mB M_LW_law) 599 = .ok (.iload 4, 2) := by decide +kernel
theorem d_LW_law_601 : decode (mB M_LW_law) 601 = .ok (.iconst 1, 1) := by decide +kernel
theorem d_LW_law_602 : decode (mB M_LW_law) 602 = .ok (.iadd, 1) := by decide +kernel
theorem d_LW_law_603 : decode (mB M_LW_law) 603 = .ok (.iaload, 1) := by decide +kernel
theorem d_LW_law_604 : decode (mB M_LW_law) 604 = .ok (.aload_n 0, 1) := by decide +kernel
theorem d_LW_law_605 : decode (mB M_LW_law) 605 = .ok (.iload 4, 2) := by decide +kernel
theorem d_LW_law_607 : decode (mB M_LW_law) 607 = .ok (.iconst 2, 1) := by decide +kernel
theorem d_LW_law_608 : decode (mB M_LW_law) 608 = .ok (.iadd, 1) := by decide +kernel
theorem d_LW_law_609 : decode (mB M_LW_law) 609 = .ok (.iaload, 1) := by decide +kernel
theorem d_LW_law_610 : decode (mB M_LW_law) 610 = .ok (.aload_n 0, 1) := by decide +kernel
theorem d_LW_law_611 : decode (mB M_LW_law) 611 = .ok (.iload 4, 2) := by decide +kernel
theorem d_LW_law_613 : decode (mB M_LW_law) 613 = .ok (.iconst 3, 1) := by decide +kernel
theorem d_LW_law_614 : decode (mB M_LW_law) 614 = .ok (.iadd, 1) := by decide +kernel
theorem d_LW_law_615 : decode (mB M_LW_law) 615 = .ok (.iaload, 1) := by decide +kernel
theorem d_LW_law_616 : decode (mB M_LW_law) 616 = .ok (.invokevirtual 149, 3) := by decide +kernel
theorem d_LW_law_619 : decode (mB M_LW_law) 619 = .ok (.istore 6, 2) := by decide +kernel
theorem d_LW_law_621 : decode (mB M_LW_law) 621 = .ok (.aload_n 2, 1) := by decide +kernel
theorem d_LW_law_622 : decode (mB M_LW_law) 622 = .ok (.invokevirtual 124, 3) := by decide +kernel
theorem d_LW_law_625 : decode (mB M_LW_law) 625 = .ok (.iload 5, 2) := by decide +kernel
theorem d_LW_law_627 : decode (mB M_LW_law) 627 = .ok (.if_icmp .eq 5, 3) := by decide +kernel
theorem d_LW_law_630 : decode (mB M_LW_law) 630 = .ok (.iconst 0, 1) := by decide +kernel
theorem d_LW_law_631 : decode (mB M_LW_law) 631 = .ok (.ireturn, 1) := by decide +kernel
theorem d_LW_law_632 : decode (mB M_LW_law) 632 = .ok (.iload 5, 2) := by decide +kernel
theorem d_LW_law_634 : decode (mB M_LW_law) 634 = .ok (.ifCond .ne 15, 3) := by decide +kernel
theorem d_LW_law_637 : decode (mB M_LW_law) 637 = .ok (.aload_n 3, 1) := by decide +kernel
