/-! the law, call by call (by program) -/
theorem c_LW_law_0 {E : ev_E} {P : Option ev_V ⊕ Nat → ev_H → Prop} {h : ev_H} {i : Nat} {y0 : Int32} {y1 : Int32} {y2 : Int32} {y3 : Int32} {y4 : Int32} {y5 : Int32} (n0 : sok E ((nI i) + 1) y1) (hZ : cZ h < ZM) (n2 : (gI h 0 0 3).toNatClampNeg ≤ 48) (n3 : ∀ b, b ≤ (gI h 0 0 3).toNatClampNeg → (gI (r_TB_pass_L32 (sI h 0 0 5 ((gI h 0 0 5) + y1)) y1 b) 0 0 3) = nI (gI h 0 0 3).toNatClampNeg) (n4 : ∀ b, b < (gI h 0 0 3).toNatClampNeg → rfs (r_TB_pass_L32 (sI h 0 0 5 ((gI h 0 0 5) + y1)) y1 b)) (n5 : ∀ b, b < (gI h 0 0 3).toNatClampNeg → gR (r_TB_pass_L32 (sI h 0 0 5 ((gI h 0 0 5) + y1)) y1 b) 0 1 b = vR 1 b) (e1 : (f_MO_thrown ((f_MO_pass ((f_LW_pass h y1).2) y1).2)) = ((f_LW_pass h y1).1)) (e2 : ((f_LW_pass h y1).1) = 0 → (lg_cmp (gL ((f_MO_pass ((f_LW_pass h y1).2) y1).2) 0 27 0) (((f_MO_pass ((f_LW_pass h y1).2) y1).1).toInt64)) = 0) (k : Ev E M_LW_law 2164 [(0, vR 5 0), (1, vR 0 0), (2, vR 0 6), (3, vR 0 27), (4, vI (nI i))] [] ((f_MO_pass ((f_LW_pass h y1).2) y1).2) P) : Ev E M_LW_law 172 [(0, vR 5 0), (1, vR 0 0), (2, vR 0 6), (3, vR 0 27), (4, vI (nI i))] [] h P := by
  refine Ev_aload_n (pc := 172) d_LW_law_172 rfl ?_
  refine Ev_aload_n (pc := 173) d_LW_law_173 rfl ?_
  refine Ev_iload (pc := 174) d_LW_law_174 rfl ?_
  refine Ev_iconst (v := 1) (pc := 176) d_LW_law_176 (by decide) ?_
  refine Ev_iadd (pc := 177) d_LW_law_177 ?_
  refine Ev_scr (pc := 178) d_LW_law_178 n0 ?_
  refine Ev_aload_n (pc := 179) d_LW_law_179 rfl ?_
  refine Ev_callS (M' := M_LW_pass) (as := [vR 0 0, vI y1, vR 0 27]) (st := []) (pc := 180) d_LW_law_180 rfl rfl rfl s_LW_pass lk_LW_118 rfl rfl (c_LW_pass hZ n2 n3 n4 n5 ?_)
  refine Ev_istore (pc := 183) d_LW_law_183 rfl ?_
  refine Ev_aload_n (pc := 185) d_LW_law_185 rfl ?_
  refine Ev_aload_n (pc := 186) d_LW_law_186 rfl ?_
  refine Ev_iload (pc := 187) d_LW_law_187 rfl ?_
  refine Ev_iconst (v := 1) (pc := 189) d_LW_law_189 (by decide) ?_
  refine Ev_iadd (pc := 190) d_LW_law_190 ?_
  refine Ev_scr (pc := 191) d_LW_law_191 n0 ?_
  refine Ev_callV (M' := M_MO_pass) (as := [vI y1]) (st := []) (a := 0) (i := 6) (pc := 192) d_LW_law_192 rfl rfl rfl rfl rfl rfl rfl v_MO_pass lk_LW_123 rfl rfl (c_MO_pass  ?_)
  refine Ev_istore (pc := 195) d_LW_law_195 rfl ?_
  refine Ev_aload_n (pc := 197) d_LW_law_197 rfl ?_
  refine Ev_callV (M' := M_MO_thrown) (as := []) (st := []) (a := 0) (i := 6) (pc := 198) d_LW_law_198 rfl rfl rfl rfl rfl rfl rfl v_MO_thrown lk_LW_124 rfl rfl (c_MO_thrown  ?_)
  refine Ev_iload (pc := 201) d_LW_law_201 rfl ?_
  refine Ev_icmp_eq (tgt := 208) (pc := 203) d_LW_law_203 rfl (fun _ => ?_) (fun q => absurd e1 q)
  refine Ev_iload (pc := 208) d_LW_law_208 rfl ?_
  refine Ev_if_ne (tgt := 225) (pc := 210) d_LW_law_210 rfl (fun q1 => ?_) (fun q1 => ?_)
  · refine Ev_goto (tgt := 2164) (pc := 225) d_LW_law_225 rfl ?_
    refine Ev_sub (lsub ?_) k
    exact (And.intro rfl (And.intro rfl (And.intro rfl (And.intro rfl (And.intro rfl trivial)))))
  · refine Ev_aload_n (pc := 213) d_LW_law_213 rfl ?_
    refine Ev_iconst (v := 0) (pc := 214) d_LW_law_214 (by decide) ?_
    refine Ev_lald (pc := 215) d_LW_law_215 rfl rfl (by decide) (by decide) ?_
    refine Ev_iload (pc := 216) d_LW_law_216 rfl ?_
    refine Ev_i2l (pc := 218) d_LW_law_218 ?_
    refine Ev_lcmp (pc := 219) d_LW_law_219 ?_
    refine Ev_if_eq (tgt := 225) (pc := 220) d_LW_law_220 rfl (fun _ => ?_) (fun q => absurd (e2 q1) q)
    refine Ev_goto (tgt := 2164) (pc := 225) d_LW_law_225 rfl ?_
    refine Ev_sub (lsub ?_) k
    exact (And.intro rfl (And.intro rfl (And.intro rfl (And.intro rfl (And.intro rfl trivial)))))
theorem c_LW_law_1 {E : ev_E} {P : Option ev_V ⊕ Nat → ev_H → Prop} {h : ev_H} {i : Nat} {y0 : Int32} {y1 : Int32} {y2 : Int32} {y3 : Int32} {y4 : Int32} {y5 : Int32} (n0 : sok E ((nI i) + 1) y1) (n1 : sok E ((nI i) + 2) y2) (n2 : sok E ((nI i) + 3) y3) (n3 : sok E ((nI i) + 4) y4) (n4 : sok E ((nI i) + 5) y5) (hZ : cZ h < ZM) (hR : rfs h) (n7 : ¬ (gI h 0 0 3) < 0) (n8 : (¬ ((f_TB_isBelow y1 16) = 0)) → (¬ ((f_TB_isBelow y2 4) = 0)) → (¬ ((f_TB_isBloodType y3 y4) = 0)) → (¬ (y5 < 1)) → (y5 ≤ 60000) → (¬ ((f_TB_hasRoomFor h 1) = 0)) → (gI h 0 0 3).toNatClampNeg < 48) (n9 : rfs ((f_LW_unit h y1 y2 y3 y4 y5).2)) (n10 : ¬ (gI ((f_LW_unit h y1 y2 y3 y4 y5).2) 0 6 2) < 0) (n11 : (((f_MO_refused ((f_LW_unit h y1 y2 y3 y4 y5).2) (m_MO_unit_54 y1 y2 y3 y4 y5) (m_MO_unit_73 ((f_LW_unit h y1 y2 y3 y4 y5).2) y1 y2 y3 y4 y5) 0 0).1) = 0) → (gI ((f_LW_unit h y1 y2 y3 y4 y5).2) 0 6 2).toNatClampNeg < 48) (e1 : (f_MO_thrown ((f_MO_unit ((f_LW_unit h y1 y2 y3 y4 y5).2) y1 y2 y3 y4 y5).2)) = ((f_LW_unit h y1 y2 y3 y4 y5).1)) (e2 : ((f_LW_unit h y1 y2 y3 y4 y5).1) = 0 → (lg_cmp (gL ((f_MO_unit ((f_LW_unit h y1 y2 y3 y4 y5).2) y1 y2 y3 y4 y5).2) 0 27 0) (((f_MO_unit ((f_LW_unit h y1 y2 y3 y4 y5).2) y1 y2 y3 y4 y5).1).toInt64)) = 0) (k : Ev E M_LW_law 2164 [(0, vR 5 0), (1, vR 0 0), (2, vR 0 6), (3, vR 0 27), (4, vI (nI i))] [] ((f_MO_unit ((f_LW_unit h y1 y2 y3 y4 y5).2) y1 y2 y3 y4 y5).2) P) : Ev E M_LW_law 228 [(0, vR 5 0), (1, vR 0 0), (2, vR 0 6), (3, vR 0 27), (4, vI (nI i))] [] h P := by
  refine Ev_aload_n (pc := 228) d_LW_law_228 rfl ?_
  refine Ev_aload_n (pc := 229) d_LW_law_229 rfl ?_
  refine Ev_iload (pc := 230) d_LW_law_230 rfl ?_
  refine Ev_iconst (v := 1) (pc := 232) d_LW_law_232 (by decide) ?_
  refine Ev_iadd (pc := 233) d_LW_law_233 ?_
  refine Ev_scr (pc := 234) d_LW_law_234 n0 ?_
  refine Ev_aload_n (pc := 235) d_LW_law_235 rfl ?_
  refine Ev_iload (pc := 236) d_LW_law_236 rfl ?_
  refine Ev_iconst (v := 2) (pc := 238) d_LW_law_238 (by decide) ?_
  refine Ev_iadd (pc := 239) d_LW_law_239 ?_
  refine Ev_scr (pc := 240) d_LW_law_240 n1 ?_
  refine Ev_aload_n (pc := 241) d_LW_law_241 rfl ?_
  refine Ev_iload (pc := 242) d_LW_law_242 rfl ?_
  refine Ev_iconst (v := 3) (pc := 244) d_LW_law_244 (by decide) ?_
  refine Ev_iadd (pc := 245) d_LW_law_245 ?_
  refine Ev_scr (pc := 246) d_LW_law_246 n2 ?_
  refine Ev_aload_n (pc := 247) d_LW_law_247 rfl ?_
  refine Ev_iload (pc := 248) d_LW_law_248 rfl ?_
  refine Ev_iconst (v := 4) (pc := 250) d_LW_law_250 (by decide) ?_
  refine Ev_iadd (pc := 251) d_LW_law_251 ?_
  refine Ev_scr (pc := 252) d_LW_law_252 n3 ?_
  refine Ev_aload_n (pc := 253) d_LW_law_253 rfl ?_
  refine Ev_iload (pc := 254) d_LW_law_254 rfl ?_
  refine Ev_iconst (v := 5) (pc := 256) d_LW_law_256 (by decide) ?_
  refine Ev_iadd (pc := 257) d_LW_law_257 ?_
  refine Ev_scr (pc := 258) d_LW_law_258 n4 ?_
  refine Ev_aload_n (pc := 259) d_LW_law_259 rfl ?_
  refine Ev_callS (M' := M_LW_unit) (as := [vR 0 0, vI y1, vI y2, vI y3, vI y4, vI y5, vR 0 27]) (st := []) (pc := 260) d_LW_law_260 rfl rfl rfl s_LW_unit lk_LW_127 rfl rfl (c_LW_unit hZ hR n7 n8 ?_)
  refine Ev_istore (pc := 263) d_LW_law_263 rfl ?_
  refine Ev_aload_n (pc := 265) d_LW_law_265 rfl ?_
  refine Ev_aload_n (pc := 266) d_LW_law_266 rfl ?_
  refine Ev_iload (pc := 267) d_LW_law_267 rfl ?_
  refine Ev_iconst (v := 1) (pc := 269) d_LW_law_269 (by decide) ?_
  refine Ev_iadd (pc := 270) d_LW_law_270 ?_
  refine Ev_scr (pc := 271) d_LW_law_271 n0 ?_
  refine Ev_aload_n (pc := 272) d_LW_law_272 rfl ?_
  refine Ev_iload (pc := 273) d_LW_law_273 rfl ?_
  refine Ev_iconst (v := 2) (pc := 275) d_LW_law_275 (by decide) ?_
  refine Ev_iadd (pc := 276) d_LW_law_276 ?_
  refine Ev_scr (pc := 277) d_LW_law_277 n1 ?_
  refine Ev_aload_n (pc := 278) d_LW_law_278 rfl ?_
  refine Ev_iload (pc := 279) d_LW_law_279 rfl ?_
  refine Ev_iconst (v := 3) (pc := 281) d_LW_law_281 (by decide) ?_
  refine Ev_iadd (pc := 282) d_LW_law_282 ?_
  refine Ev_scr (pc := 283) d_LW_law_283 n2 ?_
  refine Ev_aload_n (pc := 284) d_LW_law_284 rfl ?_
  refine Ev_iload (pc := 285) d_LW_law_285 rfl ?_
  refine Ev_iconst (v := 4) (pc := 287) d_LW_law_287 (by decide) ?_
  refine Ev_iadd (pc := 288) d_LW_law_288 ?_
  refine Ev_scr (pc := 289) d_LW_law_289 n3 ?_
  refine Ev_aload_n (pc := 290) d_LW_law_290 rfl ?_
  refine Ev_iload (pc := 291) d_LW_law_291 rfl ?_
  refine Ev_iconst (v := 5) (pc := 293) d_LW_law_293 (by decide) ?_
  refine Ev_iadd (pc := 294) d_LW_law_294 ?_
  refine Ev_scr (pc := 295) d_LW_law_295 n4 ?_
  refine Ev_callV (M' := M_MO_unit) (as := [vI y1, vI y2, vI y3, vI y4, vI y5]) (st := []) (a := 0) (i := 6) (pc := 296) d_LW_law_296 rfl rfl rfl rfl rfl rfl rfl v_MO_unit lk_LW_130 rfl rfl (c_MO_unit n9 n10 n11 ?_)
  refine Ev_istore (pc := 299) d_LW_law_299 rfl ?_
  refine Ev_aload_n (pc := 301) d_LW_law_301 rfl ?_
  refine Ev_callV (M' := M_MO_thrown) (as := []) (st := []) (a := 0) (i := 6) (pc := 302) d_LW_law_302 rfl rfl rfl rfl rfl rfl rfl v_MO_thrown lk_LW_124 rfl rfl (c_MO_thrown  ?_)
  refine Ev_iload (pc := 305) d_LW_law_305 rfl ?_
  refine Ev_icmp_eq (tgt := 312) (pc := 307) d_LW_law_307 rfl (fun _ => ?_) (fun q => absurd e1 q)
  refine Ev_iload (pc := 312) d_LW_law_312 rfl ?_
  refine Ev_if_ne (tgt := 329) (pc := 314) d_LW_law_314 rfl (fun q1 => ?_) (fun q1 => ?_)
  · refine Ev_goto (tgt := 2164) (pc := 329) d_LW_law_329 rfl ?_
    refine Ev_sub (lsub ?_) k
    exact (And.intro rfl (And.intro rfl (And.intro rfl (And.intro rfl (And.intro rfl trivial)))))
  · refine Ev_aload_n (pc := 317) d_LW_law_317 rfl ?_
    refine Ev_iconst (v := 0) (pc := 318) d_LW_law_318 (by decide) ?_
    refine Ev_lald (pc := 319) d_LW_law_319 rfl rfl (by decide) (by decide) ?_
    refine Ev_iload (pc := 320) d_LW_law_320 rfl ?_
    refine Ev_i2l (pc := 322) d_LW_law_322 ?_
    refine Ev_lcmp (pc := 323) d_LW_law_323 ?_
    refine Ev_if_eq (tgt := 329) (pc := 324) d_LW_law_324 rfl (fun _ => ?_) (fun q => absurd (e2 q1) q)
    refine Ev_goto (tgt := 2164) (pc := 329) d_LW_law_329 rfl ?_
    refine Ev_sub (lsub ?_) k
    exact (And.intro rfl (And.intro rfl (And.intro rfl (And.intro rfl (And.intro rfl trivial)))))
theorem c_LW_law_2_1 {E : ev_E} {P : Option ev_V ⊕ Nat → ev_H → Prop} {h : ev_H} {i : Nat} {y0 : Int32} {y1 : Int32} {y2 : Int32} {y3 : Int32} {y4 : Int32} {y5 : Int32} (n0 : sok E ((nI i) + 1) y1) (n1 : sok E ((nI i) + 2) y2) (n2 : sok E ((nI i) + 3) y3) (hU : uok h) (hR : rfs h) (hZ : cZ h < ZM) (n6 : f_MO_isUnit ((f_LW_antigen h y1 y2 y3).2) y1 = 1) (n7 : rfs ((f_LW_antigen h y1 y2 y3).2)) (n8 : ¬ y1 < 0) (n9 : y1.toNatClampNeg < 48) (e1 : (f_MO_thrown (f_MO_antigen_1 ((f_LW_antigen h y1 y2 y3).2) y1 y2 y3)) = ((f_LW_antigen h y1 y2 y3).1)) (k : Ev E M_LW_law 2164 [(0, vR 5 0), (1, vR 0 0), (2, vR 0 6), (3, vR 0 27), (4, vI (nI i))] [] (f_MO_antigen_1 ((f_LW_antigen h y1 y2 y3).2) y1 y2 y3) P) : Ev E M_LW_law 332 [(0, vR 5 0), (1, vR 0 0), (2, vR 0 6), (3, vR 0 27), (4, vI (nI i))] [] h P := by
  refine Ev_aload_n (pc := 332) d_LW_law_332 rfl ?_
  refine Ev_aload_n (pc := 333) d_LW_law_333 rfl ?_
  refine Ev_iload (pc := 334) d_LW_law_334 rfl ?_
  refine Ev_iconst (v := 1) (pc := 336) d_LW_law_336 (by decide) ?_
  refine Ev_iadd (pc := 337) d_LW_law_337 ?_
  refine Ev_scr (pc := 338) d_LW_law_338 n0 ?_
  refine Ev_aload_n (pc := 339) d_LW_law_339 rfl ?_
  refine Ev_iload (pc := 340) d_LW_law_340 rfl ?_
  refine Ev_iconst (v := 2) (pc := 342) d_LW_law_342 (by decide) ?_
  refine Ev_iadd (pc := 343) d_LW_law_343 ?_
  refine Ev_scr (pc := 344) d_LW_law_344 n1 ?_
  refine Ev_aload_n (pc := 345) d_LW_law_345 rfl ?_
  refine Ev_iload (pc := 346) d_LW_law_346 rfl ?_
  refine Ev_iconst (v := 3) (pc := 348) d_LW_law_348 (by decide) ?_
  refine Ev_iadd (pc := 349) d_LW_law_349 ?_
  refine Ev_scr (pc := 350) d_LW_law_350 n2 ?_
  refine Ev_callS (M' := M_LW_antigen) (as := [vR 0 0, vI y1, vI y2, vI y3]) (st := []) (pc := 351) d_LW_law_351 rfl rfl rfl s_LW_antigen lk_LW_131 rfl rfl (c_LW_antigen hU hR hZ ?_)
  refine Ev_istore (pc := 354) d_LW_law_354 rfl ?_
  refine Ev_aload_n (pc := 356) d_LW_law_356 rfl ?_
  refine Ev_aload_n (pc := 357) d_LW_law_357 rfl ?_
  refine Ev_iload (pc := 358) d_LW_law_358 rfl ?_
  refine Ev_iconst (v := 1) (pc := 360) d_LW_law_360 (by decide) ?_
  refine Ev_iadd (pc := 361) d_LW_law_361 ?_
  refine Ev_scr (pc := 362) d_LW_law_362 n0 ?_
  refine Ev_aload_n (pc := 363) d_LW_law_363 rfl ?_
  refine Ev_iload (pc := 364) d_LW_law_364 rfl ?_
  refine Ev_iconst (v := 2) (pc := 366) d_LW_law_366 (by decide) ?_
  refine Ev_iadd (pc := 367) d_LW_law_367 ?_
  refine Ev_scr (pc := 368) d_LW_law_368 n1 ?_
  refine Ev_aload_n (pc := 369) d_LW_law_369 rfl ?_
  refine Ev_iload (pc := 370) d_LW_law_370 rfl ?_
  refine Ev_iconst (v := 3) (pc := 372) d_LW_law_372 (by decide) ?_
  refine Ev_iadd (pc := 373) d_LW_law_373 ?_
  refine Ev_scr (pc := 374) d_LW_law_374 n2 ?_
  refine Ev_callV (M' := M_MO_antigen) (as := [vI y1, vI y2, vI y3]) (st := []) (a := 0) (i := 6) (pc := 375) d_LW_law_375 rfl rfl rfl rfl rfl rfl rfl v_MO_antigen lk_LW_134 rfl rfl (c_MO_antigen_1 n6 n7 n8 n9 ?_)
  refine Ev_aload_n (pc := 378) d_LW_law_378 rfl ?_
  refine Ev_callV (M' := M_MO_thrown) (as := []) (st := []) (a := 0) (i := 6) (pc := 379) d_LW_law_379 rfl rfl rfl rfl rfl rfl rfl v_MO_thrown lk_LW_124 rfl rfl (c_MO_thrown  ?_)
  refine Ev_iload (pc := 382) d_LW_law_382 rfl ?_
  refine Ev_icmp_eq (tgt := 389) (pc := 384) d_LW_law_384 rfl (fun _ => ?_) (fun q => absurd e1 q)
  refine Ev_goto (tgt := 2164) (pc := 389) d_LW_law_389 rfl ?_
  refine Ev_sub (lsub ?_) k
  exact (And.intro rfl (And.intro rfl (And.intro rfl (And.intro rfl (And.intro rfl trivial)))))
theorem c_LW_law_2_0 {E : ev_E} {P : Option ev_V ⊕ Nat → ev_H → Prop} {h : ev_H} {i : Nat} {y0 : Int32} {y1 : Int32} {y2 : Int32} {y3 : Int32} {y4 : Int32} {y5 : Int32} (n0 : sok E ((nI i) + 1) y1) (n1 : sok E ((nI i) + 2) y2) (n2 : sok E ((nI i) + 3) y3) (hU : uok h) (hR : rfs h) (hZ : cZ h < ZM) (n6 : f_MO_isUnit ((f_LW_antigen h y1 y2 y3).2) y1 = 0) (e1 : (f_MO_thrown (f_MO_antigen_0 ((f_LW_antigen h y1 y2 y3).2) y1 y2 y3)) = ((f_LW_antigen h y1 y2 y3).1)) (k : Ev E M_LW_law 2164 [(0, vR 5 0), (1, vR 0 0), (2, vR 0 6), (3, vR 0 27), (4, vI (nI i))] [] (f_MO_antigen_0 ((f_LW_antigen h y1 y2 y3).2) y1 y2 y3) P) : Ev E M_LW_law 332 [(0, vR 5 0), (1, vR 0 0), (2, vR 0 6), (3, vR 0 27), (4, vI (nI i))] [] h P := by
  refine Ev_aload_n (pc := 332) d_LW_law_332 rfl ?_
  refine Ev_aload_n (pc := 333) d_LW_law_333 rfl ?_
  refine Ev_iload (pc := 334) d_LW_law_334 rfl ?_
  refine Ev_iconst (v := 1) (pc := 336) d_LW_law_336 (by decide) ?_
  refine Ev_iadd (pc := 337) d_LW_law_337 ?_
  refine Ev_scr (pc := 338) d_LW_law_338 n0 ?_
  refine Ev_aload_n (pc := 339) d_LW_law_339 rfl ?_
  refine Ev_iload (pc := 340) d_LW_law_340 rfl ?_
  refine Ev_iconst (v := 2) (pc := 342) d_LW_law_342 (by decide) ?_
  refine Ev_iadd (pc := 343) d_LW_law_343 ?_
  refine Ev_scr (pc := 344) d_LW_law_344 n1 ?_
  refine Ev_aload_n (pc := 345) d_LW_law_345 rfl ?_
  refine Ev_iload (pc := 346) d_LW_law_346 rfl ?_
  refine Ev_iconst (v := 3) (pc := 348) d_LW_law_348 (by decide) ?_
  refine Ev_iadd (pc := 349) d_LW_law_349 ?_
  refine Ev_scr (pc := 350) d_LW_law_350 n2 ?_
  refine Ev_callS (M' := M_LW_antigen) (as := [vR 0 0, vI y1, vI y2, vI y3]) (st := []) (pc := 351) d_LW_law_351 rfl rfl rfl s_LW_antigen lk_LW_131 rfl rfl (c_LW_antigen hU hR hZ ?_)
  refine Ev_istore (pc := 354) d_LW_law_354 rfl ?_
  refine Ev_aload_n (pc := 356) d_LW_law_356 rfl ?_
  refine Ev_aload_n (pc := 357) d_LW_law_357 rfl ?_
  refine Ev_iload (pc := 358) d_LW_law_358 rfl ?_
  refine Ev_iconst (v := 1) (pc := 360) d_LW_law_360 (by decide) ?_
  refine Ev_iadd (pc := 361) d_LW_law_361 ?_
  refine Ev_scr (pc := 362) d_LW_law_362 n0 ?_
  refine Ev_aload_n (pc := 363) d_LW_law_363 rfl ?_
  refine Ev_iload (pc := 364) d_LW_law_364 rfl ?_
  refine Ev_iconst (v := 2) (pc := 366) d_LW_law_366 (by decide) ?_
  refine Ev_iadd (pc := 367) d_LW_law_367 ?_
  refine Ev_scr (pc := 368) d_LW_law_368 n1 ?_
  refine Ev_aload_n (pc := 369) d_LW_law_369 rfl ?_
  refine Ev_iload (pc := 370) d_LW_law_370 rfl ?_
  refine Ev_iconst (v := 3) (pc := 372) d_LW_law_372 (by decide) ?_
  refine Ev_iadd (pc := 373) d_LW_law_373 ?_
  refine Ev_scr (pc := 374) d_LW_law_374 n2 ?_
  refine Ev_callV (M' := M_MO_antigen) (as := [vI y1, vI y2, vI y3]) (st := []) (a := 0) (i := 6) (pc := 375) d_LW_law_375 rfl rfl rfl rfl rfl rfl rfl v_MO_antigen lk_LW_134 rfl rfl (c_MO_antigen_0 n6 ?_)
  refine Ev_aload_n (pc := 378) d_LW_law_378 rfl ?_
  refine Ev_callV (M' := M_MO_thrown) (as := []) (st := []) (a := 0) (i := 6) (pc := 379) d_LW_law_379 rfl rfl rfl rfl rfl rfl rfl v_MO_thrown lk_LW_124 rfl rfl (c_MO_thrown  ?_)
  refine Ev_iload (pc := 382) d_LW_law_382 rfl ?_
  refine Ev_icmp_eq (tgt := 389) (pc := 384) d_LW_law_384 rfl (fun _ => ?_) (fun q => absurd e1 q)
  refine Ev_goto (tgt := 2164) (pc := 389) d_LW_law_389 rfl ?_
  refine Ev_sub (lsub ?_) k
  exact (And.intro rfl (And.intro rfl (And.intro rfl (And.intro rfl (And.intro rfl trivial)))))
theorem c_LW_law_3_1 {E : ev_E} {P : Option ev_V ⊕ Nat → ev_H → Prop} {h : ev_H} {i : Nat} {y0 : Int32} {y1 : Int32} {y2 : Int32} {y3 : Int32} {y4 : Int32} {y5 : Int32} (n0 : sok E ((nI i) + 1) y1) (n1 : sok E ((nI i) + 2) y2) (hU : uok h) (hR : rfs h) (hZ : cZ h < ZM) (n5 : cZ (sI h 1 y1.toNatClampNeg 8 5) < ZM) (n6 : ¬ (gI h 0 0 3) < 0) (n7 : (¬ ((f_TB_isBelow y1 (gI h 0 0 3)) = 0)) → (¬ ((f_TB_isBelow y2 4) = 0)) → (¬ ((f_TB_isReady h y1.toNatClampNeg) = 0)) → ((¬ ((f_TB_hasRoomFor h (m_TB_process_42 y1 y2)) = 0)) → (¬ ((f_TB_suits y2 (gI h 1 y1.toNatClampNeg 0)) = 0)) → (¬ (y2 = 0)) → (gI h 0 0 3).toNatClampNeg < 48)) (n8 : (¬ ((f_TB_isBelow y1 (gI h 0 0 3)) = 0)) → (¬ ((f_TB_isBelow y2 4) = 0)) → (¬ ((f_TB_isReady h y1.toNatClampNeg) = 0)) → ((¬ ((f_TB_hasRoomFor h (m_TB_process_42 y1 y2)) = 0)) → (¬ ((f_TB_suits y2 (gI h 1 y1.toNatClampNeg 0)) = 0)) → (y2 = 0) → (gI h 0 0 3).toNatClampNeg < 48)) (n9 : cZ ((f_TB_keepProduct (sI h 1 y1.toNatClampNeg 8 5) y1.toNatClampNeg 0 0 (gI (sI h 1 y1.toNatClampNeg 8 5) 1 y1.toNatClampNeg 4)).2) < ZM) (n10 : ¬ (gI ((f_TB_keepProduct (sI h 1 y1.toNatClampNeg 8 5) y1.toNatClampNeg 0 0 (gI (sI h 1 y1.toNatClampNeg 8 5) 1 y1.toNatClampNeg 4)).2) 0 0 3) < 0) (n11 : (¬ ((f_TB_isBelow y1 (gI h 0 0 3)) = 0)) → (¬ ((f_TB_isBelow y2 4) = 0)) → (¬ ((f_TB_isReady h y1.toNatClampNeg) = 0)) → ((¬ ((f_TB_hasRoomFor h (m_TB_process_42 y1 y2)) = 0)) → (¬ ((f_TB_suits y2 (gI h 1 y1.toNatClampNeg 0)) = 0)) → (y2 = 0) → (gI ((f_TB_keepProduct (sI h 1 y1.toNatClampNeg 8 5) y1.toNatClampNeg 0 0 (gI (sI h 1 y1.toNatClampNeg 8 5) 1 y1.toNatClampNeg 4)).2) 0 0 3).toNatClampNeg < 48)) (n12 : cZ ((f_TB_keepProduct ((f_TB_keepProduct (sI h 1 y1.toNatClampNeg 8 5) y1.toNatClampNeg 0 0 (gI (sI h 1 y1.toNatClampNeg 8 5) 1 y1.toNatClampNeg 4)).2) y1.toNatClampNeg 1 0 (gI ((f_TB_keepProduct (sI h 1 y1.toNatClampNeg 8 5) y1.toNatClampNeg 0 0 (gI (sI h 1 y1.toNatClampNeg 8 5) 1 y1.toNatClampNeg 4)).2) 1 y1.toNatClampNeg 4)).2) < ZM) (n13 : ¬ (gI ((f_TB_keepProduct ((f_TB_keepProduct (sI h 1 y1.toNatClampNeg 8 5) y1.toNatClampNeg 0 0 (gI (sI h 1 y1.toNatClampNeg 8 5) 1 y1.toNatClampNeg 4)).2) y1.toNatClampNeg 1 0 (gI ((f_TB_keepProduct (sI h 1 y1.toNatClampNeg 8 5) y1.toNatClampNeg 0 0 (gI (sI h 1 y1.toNatClampNeg 8 5) 1 y1.toNatClampNeg 4)).2) 1 y1.toNatClampNeg 4)).2) 0 0 3) < 0) (n14 : (¬ ((f_TB_isBelow y1 (gI h 0 0 3)) = 0)) → (¬ ((f_TB_isBelow y2 4) = 0)) → (¬ ((f_TB_isReady h y1.toNatClampNeg) = 0)) → ((¬ ((f_TB_hasRoomFor h (m_TB_process_42 y1 y2)) = 0)) → (¬ ((f_TB_suits y2 (gI h 1 y1.toNatClampNeg 0)) = 0)) → (y2 = 0) → (gI ((f_TB_keepProduct ((f_TB_keepProduct (sI h 1 y1.toNatClampNeg 8 5) y1.toNatClampNeg 0 0 (gI (sI h 1 y1.toNatClampNeg 8 5) 1 y1.toNatClampNeg 4)).2) y1.toNatClampNeg 1 0 (gI ((f_TB_keepProduct (sI h 1 y1.toNatClampNeg 8 5) y1.toNatClampNeg 0 0 (gI (sI h 1 y1.toNatClampNeg 8 5) 1 y1.toNatClampNeg 4)).2) 1 y1.toNatClampNeg 4)).2) 0 0 3).toNatClampNeg < 48)) (n15 : f_MO_isUnit ((f_LW_process h y1 y2).2) y1 = 1) (n16 : rfs ((f_LW_process h y1 y2).2)) (n17 : ¬ y1 < 0) (n18 : y1.toNatClampNeg < 48) (n19 : ¬ (gI ((f_LW_process h y1 y2).2) 0 6 2) < 0) (n20 : (((f_MO_refused ((f_LW_process h y1 y2).2) 0 (m_MO_process_1_41 y1 y2) (m_MO_process_1_70 ((f_LW_process h y1 y2).2) y1 y2) (m_MO_process_1_92 ((f_LW_process h y1 y2).2) y1 y2)).1) = 0) → (¬ (y2 = 0)) → (¬ (y2 = 1)) → (¬ (y2 = 2)) → (gI ((f_LW_process h y1 y2).2) 0 6 2).toNatClampNeg < 48) (n21 : (((f_MO_refused ((f_LW_process h y1 y2).2) 0 (m_MO_process_1_41 y1 y2) (m_MO_process_1_70 ((f_LW_process h y1 y2).2) y1 y2) (m_MO_process_1_92 ((f_LW_process h y1 y2).2) y1 y2)).1) = 0) → (¬ (y2 = 0)) → (¬ (y2 = 1)) → (y2 = 2) → (gI ((f_LW_process h y1 y2).2) 0 6 2).toNatClampNeg < 48) (n22 : (((f_MO_refused ((f_LW_process h y1 y2).2) 0 (m_MO_process_1_41 y1 y2) (m_MO_process_1_70 ((f_LW_process h y1 y2).2) y1 y2) (m_MO_process_1_92 ((f_LW_process h y1 y2).2) y1 y2)).1) = 0) → (¬ (y2 = 0)) → (y2 = 1) → (¬ (y2 = 2)) → (gI ((f_LW_process h y1 y2).2) 0 6 2).toNatClampNeg < 48) (n23 : (((f_MO_refused ((f_LW_process h y1 y2).2) 0 (m_MO_process_1_41 y1 y2) (m_MO_process_1_70 ((f_LW_process h y1 y2).2) y1 y2) (m_MO_process_1_92 ((f_LW_process h y1 y2).2) y1 y2)).1) = 0) → (¬ (y2 = 0)) → (y2 = 1) → (y2 = 2) → (gI ((f_LW_process h y1 y2).2) 0 6 2).toNatClampNeg < 48) (n24 : (((f_MO_refused ((f_LW_process h y1 y2).2) 0 (m_MO_process_1_41 y1 y2) (m_MO_process_1_70 ((f_LW_process h y1 y2).2) y1 y2) (m_MO_process_1_92 ((f_LW_process h y1 y2).2) y1 y2)).1) = 0) → (y2 = 0) → (gI ((f_LW_process h y1 y2).2) 0 6 2).toNatClampNeg < 48) (n25 : ¬ (gI ((f_MO_add ((f_MO_refused ((f_LW_process h y1 y2).2) 0 (m_MO_process_1_41 y1 y2) (m_MO_process_1_70 ((f_LW_process h y1 y2).2) y1 y2) (m_MO_process_1_92 ((f_LW_process h y1 y2).2) y1 y2)).2) y1 0 0 (-1)).2) 0 6 2) < 0) (n26 : (((f_MO_refused ((f_LW_process h y1 y2).2) 0 (m_MO_process_1_41 y1 y2) (m_MO_process_1_70 ((f_LW_process h y1 y2).2) y1 y2) (m_MO_process_1_92 ((f_LW_process h y1 y2).2) y1 y2)).1) = 0) → (y2 = 0) → (gI ((f_MO_add ((f_MO_refused ((f_LW_process h y1 y2).2) 0 (m_MO_process_1_41 y1 y2) (m_MO_process_1_70 ((f_LW_process h y1 y2).2) y1 y2) (m_MO_process_1_92 ((f_LW_process h y1 y2).2) y1 y2)).2) y1 0 0 (-1)).2) 0 6 2).toNatClampNeg < 48) (n27 : ¬ (gI ((f_MO_add ((f_MO_add ((f_MO_refused ((f_LW_process h y1 y2).2) 0 (m_MO_process_1_41 y1 y2) (m_MO_process_1_70 ((f_LW_process h y1 y2).2) y1 y2) (m_MO_process_1_92 ((f_LW_process h y1 y2).2) y1 y2)).2) y1 0 0 (-1)).2) y1 1 0 (-1)).2) 0 6 2) < 0) (n28 : (((f_MO_refused ((f_LW_process h y1 y2).2) 0 (m_MO_process_1_41 y1 y2) (m_MO_process_1_70 ((f_LW_process h y1 y2).2) y1 y2) (m_MO_process_1_92 ((f_LW_process h y1 y2).2) y1 y2)).1) = 0) → (y2 = 0) → (gI ((f_MO_add ((f_MO_add ((f_MO_refused ((f_LW_process h y1 y2).2) 0 (m_MO_process_1_41 y1 y2) (m_MO_process_1_70 ((f_LW_process h y1 y2).2) y1 y2) (m_MO_process_1_92 ((f_LW_process h y1 y2).2) y1 y2)).2) y1 0 0 (-1)).2) y1 1 0 (-1)).2) 0 6 2).toNatClampNeg < 48) (e1 : (f_MO_thrown ((f_MO_process_1 ((f_LW_process h y1 y2).2) y1 y2).2)) = ((f_LW_process h y1 y2).1)) (e2 : ((f_LW_process h y1 y2).1) = 0 → (lg_cmp (gL ((f_MO_process_1 ((f_LW_process h y1 y2).2) y1 y2).2) 0 27 0) (((f_MO_process_1 ((f_LW_process h y1 y2).2) y1 y2).1).toInt64)) = 0) (k : Ev E M_LW_law 2164 [(0, vR 5 0), (1, vR 0 0), (2, vR 0 6), (3, vR 0 27), (4, vI (nI i))] [] ((f_MO_process_1 ((f_LW_process h y1 y2).2) y1 y2).2) P) : Ev E M_LW_law 392 [(0, vR 5 0), (1, vR 0 0), (2, vR 0 6), (3, vR 0 27), (4, vI (nI i))] [] h P := by
  refine Ev_aload_n (pc := 392) d_LW_law_392 rfl ?_
  refine Ev_aload_n (pc := 393) d_LW_law_393 rfl ?_
  refine Ev_iload (pc := 394) d_LW_law_394 rfl ?_
  refine Ev_iconst (v := 1) (pc := 396) d_LW_law_396 (by decide) ?_
  refine Ev_iadd (pc := 397) d_LW_law_397 ?_
  refine Ev_scr (pc := 398) d_LW_law_398 n0 ?_
  refine Ev_aload_n (pc := 399) d_LW_law_399 rfl ?_
  refine Ev_iload (pc := 400) d_LW_law_400 rfl ?_
  refine Ev_iconst (v := 2) (pc := 402) d_LW_law_402 (by decide) ?_
  refine Ev_iadd (pc := 403) d_LW_law_403 ?_
  refine Ev_scr (pc := 404) d_LW_law_404 n1 ?_
  refine Ev_aload_n (pc := 405) d_LW_law_405 rfl ?_
  refine Ev_callS (M' := M_LW_process) (as := [vR 0 0, vI y1, vI y2, vR 0 27]) (st := []) (pc := 406) d_LW_law_406 rfl rfl rfl s_LW_process lk_LW_135 rfl rfl (c_LW_process hU hR hZ n5 n6 n7 n8 n9 n10 n11 n12 n13 n14 ?_)
  refine Ev_istore (pc := 409) d_LW_law_409 rfl ?_
  refine Ev_aload_n (pc := 411) d_LW_law_411 rfl ?_
  refine Ev_aload_n (pc := 412) d_LW_law_412 rfl ?_
  refine Ev_iload (pc := 413) d_LW_law_413 rfl ?_
  refine Ev_iconst (v := 1) (pc := 415) d_LW_law_415 (by decide) ?_
  refine Ev_iadd (pc := 416) d_LW_law_416 ?_
  refine Ev_scr (pc := 417) d_LW_law_417 n0 ?_
  refine Ev_aload_n (pc := 418) d_LW_law_418 rfl ?_
  refine Ev_iload (pc := 419) d_LW_law_419 rfl ?_
  refine Ev_iconst (v := 2) (pc := 421) d_LW_law_421 (by decide) ?_
  refine Ev_iadd (pc := 422) d_LW_law_422 ?_
  refine Ev_scr (pc := 423) d_LW_law_423 n1 ?_
  refine Ev_callV (M' := M_MO_process) (as := [vI y1, vI y2]) (st := []) (a := 0) (i := 6) (pc := 424) d_LW_law_424 rfl rfl rfl rfl rfl rfl rfl v_MO_process lk_LW_138 rfl rfl (c_MO_process_1 n15 n16 n17 n18 n19 n20 n21 n22 n23 n24 n25 n26 n27 n28 ?_)
  refine Ev_istore (pc := 427) d_LW_law_427 rfl ?_
  refine Ev_aload_n (pc := 429) d_LW_law_429 rfl ?_
  refine Ev_callV (M' := M_MO_thrown) (as := []) (st := []) (a := 0) (i := 6) (pc := 430) d_LW_law_430 rfl rfl rfl rfl rfl rfl rfl v_MO_thrown lk_LW_124 rfl rfl (c_MO_thrown  ?_)
  refine Ev_iload (pc := 433) d_LW_law_433 rfl ?_
  refine Ev_icmp_eq (tgt := 440) (pc := 435) d_LW_law_435 rfl (fun _ => ?_) (fun q => absurd e1 q)
  refine Ev_iload (pc := 440) d_LW_law_440 rfl ?_
  refine Ev_if_ne (tgt := 457) (pc := 442) d_LW_law_442 rfl (fun q1 => ?_) (fun q1 => ?_)
  · refine Ev_goto (tgt := 2164) (pc := 457) d_LW_law_457 rfl ?_
    refine Ev_sub (lsub ?_) k
    exact (And.intro rfl (And.intro rfl (And.intro rfl (And.intro rfl (And.intro rfl trivial)))))
  · refine Ev_aload_n (pc := 445) d_LW_law_445 rfl ?_
    refine Ev_iconst (v := 0) (pc := 446) d_LW_law_446 (by decide) ?_
    refine Ev_lald (pc := 447) d_LW_law_447 rfl rfl (by decide) (by decide) ?_
    refine Ev_iload (pc := 448) d_LW_law_448 rfl ?_
    refine Ev_i2l (pc := 450) d_LW_law_450 ?_
    refine Ev_lcmp (pc := 451) d_LW_law_451 ?_
    refine Ev_if_eq (tgt := 457) (pc := 452) d_LW_law_452 rfl (fun _ => ?_) (fun q => absurd (e2 q1) q)
    refine Ev_goto (tgt := 2164) (pc := 457) d_LW_law_457 rfl ?_
    refine Ev_sub (lsub ?_) k
    exact (And.intro rfl (And.intro rfl (And.intro rfl (And.intro rfl (And.intro rfl trivial)))))
theorem c_LW_law_3_0 {E : ev_E} {P : Option ev_V ⊕ Nat → ev_H → Prop} {h : ev_H} {i : Nat} {y0 : Int32} {y1 : Int32} {y2 : Int32} {y3 : Int32} {y4 : Int32} {y5 : Int32} (n0 : sok E ((nI i) + 1) y1) (n1 : sok E ((nI i) + 2) y2) (hU : uok h) (hR : rfs h) (hZ : cZ h < ZM) (n5 : cZ (sI h 1 y1.toNatClampNeg 8 5) < ZM) (n6 : ¬ (gI h 0 0 3) < 0) (n7 : (¬ ((f_TB_isBelow y1 (gI h 0 0 3)) = 0)) → (¬ ((f_TB_isBelow y2 4) = 0)) → (¬ ((f_TB_isReady h y1.toNatClampNeg) = 0)) → ((¬ ((f_TB_hasRoomFor h (m_TB_process_42 y1 y2)) = 0)) → (¬ ((f_TB_suits y2 (gI h 1 y1.toNatClampNeg 0)) = 0)) → (¬ (y2 = 0)) → (gI h 0 0 3).toNatClampNeg < 48)) (n8 : (¬ ((f_TB_isBelow y1 (gI h 0 0 3)) = 0)) → (¬ ((f_TB_isBelow y2 4) = 0)) → (¬ ((f_TB_isReady h y1.toNatClampNeg) = 0)) → ((¬ ((f_TB_hasRoomFor h (m_TB_process_42 y1 y2)) = 0)) → (¬ ((f_TB_suits y2 (gI h 1 y1.toNatClampNeg 0)) = 0)) → (y2 = 0) → (gI h 0 0 3).toNatClampNeg < 48)) (n9 : cZ ((f_TB_keepProduct (sI h 1 y1.toNatClampNeg 8 5) y1.toNatClampNeg 0 0 (gI (sI h 1 y1.toNatClampNeg 8 5) 1 y1.toNatClampNeg 4)).2) < ZM) (n10 : ¬ (gI ((f_TB_keepProduct (sI h 1 y1.toNatClampNeg 8 5) y1.toNatClampNeg 0 0 (gI (sI h 1 y1.toNatClampNeg 8 5) 1 y1.toNatClampNeg 4)).2) 0 0 3) < 0) (n11 : (¬ ((f_TB_isBelow y1 (gI h 0 0 3)) = 0)) → (¬ ((f_TB_isBelow y2 4) = 0)) → (¬ ((f_TB_isReady h y1.toNatClampNeg) = 0)) → ((¬ ((f_TB_hasRoomFor h (m_TB_process_42 y1 y2)) = 0)) → (¬ ((f_TB_suits y2 (gI h 1 y1.toNatClampNeg 0)) = 0)) → (y2 = 0) → (gI ((f_TB_keepProduct (sI h 1 y1.toNatClampNeg 8 5) y1.toNatClampNeg 0 0 (gI (sI h 1 y1.toNatClampNeg 8 5) 1 y1.toNatClampNeg 4)).2) 0 0 3).toNatClampNeg < 48)) (n12 : cZ ((f_TB_keepProduct ((f_TB_keepProduct (sI h 1 y1.toNatClampNeg 8 5) y1.toNatClampNeg 0 0 (gI (sI h 1 y1.toNatClampNeg 8 5) 1 y1.toNatClampNeg 4)).2) y1.toNatClampNeg 1 0 (gI ((f_TB_keepProduct (sI h 1 y1.toNatClampNeg 8 5) y1.toNatClampNeg 0 0 (gI (sI h 1 y1.toNatClampNeg 8 5) 1 y1.toNatClampNeg 4)).2) 1 y1.toNatClampNeg 4)).2) < ZM) (n13 : ¬ (gI ((f_TB_keepProduct ((f_TB_keepProduct (sI h 1 y1.toNatClampNeg 8 5) y1.toNatClampNeg 0 0 (gI (sI h 1 y1.toNatClampNeg 8 5) 1 y1.toNatClampNeg 4)).2) y1.toNatClampNeg 1 0 (gI ((f_TB_keepProduct (sI h 1 y1.toNatClampNeg 8 5) y1.toNatClampNeg 0 0 (gI (sI h 1 y1.toNatClampNeg 8 5) 1 y1.toNatClampNeg 4)).2) 1 y1.toNatClampNeg 4)).2) 0 0 3) < 0) (n14 : (¬ ((f_TB_isBelow y1 (gI h 0 0 3)) = 0)) → (¬ ((f_TB_isBelow y2 4) = 0)) → (¬ ((f_TB_isReady h y1.toNatClampNeg) = 0)) → ((¬ ((f_TB_hasRoomFor h (m_TB_process_42 y1 y2)) = 0)) → (¬ ((f_TB_suits y2 (gI h 1 y1.toNatClampNeg 0)) = 0)) → (y2 = 0) → (gI ((f_TB_keepProduct ((f_TB_keepProduct (sI h 1 y1.toNatClampNeg 8 5) y1.toNatClampNeg 0 0 (gI (sI h 1 y1.toNatClampNeg 8 5) 1 y1.toNatClampNeg 4)).2) y1.toNatClampNeg 1 0 (gI ((f_TB_keepProduct (sI h 1 y1.toNatClampNeg 8 5) y1.toNatClampNeg 0 0 (gI (sI h 1 y1.toNatClampNeg 8 5) 1 y1.toNatClampNeg 4)).2) 1 y1.toNatClampNeg 4)).2) 0 0 3).toNatClampNeg < 48)) (n15 : f_MO_isUnit ((f_LW_process h y1 y2).2) y1 = 0) (e1 : (f_MO_thrown ((f_MO_process_0 ((f_LW_process h y1 y2).2) y1 y2).2)) = ((f_LW_process h y1 y2).1)) (e2 : ((f_LW_process h y1 y2).1) = 0 → (lg_cmp (gL ((f_MO_process_0 ((f_LW_process h y1 y2).2) y1 y2).2) 0 27 0) (((f_MO_process_0 ((f_LW_process h y1 y2).2) y1 y2).1).toInt64)) = 0) (k : Ev E M_LW_law 2164 [(0, vR 5 0), (1, vR 0 0), (2, vR 0 6), (3, vR 0 27), (4, vI (nI i))] [] ((f_MO_process_0 ((f_LW_process h y1 y2).2) y1 y2).2) P) : Ev E M_LW_law 392 [(0, vR 5 0), (1, vR 0 0), (2, vR 0 6), (3, vR 0 27), (4, vI (nI i))] [] h P := by
  refine Ev_aload_n (pc := 392) d_LW_law_392 rfl ?_
  refine Ev_aload_n (pc := 393) d_LW_law_393 rfl ?_
  refine Ev_iload (pc := 394) d_LW_law_394 rfl ?_
  refine Ev_iconst (v := 1) (pc := 396) d_LW_law_396 (by decide) ?_
  refine Ev_iadd (pc := 397) d_LW_law_397 ?_
  refine Ev_scr (pc := 398) d_LW_law_398 n0 ?_
  refine Ev_aload_n (pc := 399) d_LW_law_399 rfl ?_
  refine Ev_iload (pc := 400) d_LW_law_400 rfl ?_
  refine Ev_iconst (v := 2) (pc := 402) d_LW_law_402 (by decide) ?_
  refine Ev_iadd (pc := 403) d_LW_law_403 ?_
  refine Ev_scr (pc := 404) d_LW_law_404 n1 ?_
  refine Ev_aload_n (pc := 405) d_LW_law_405 rfl ?_
  refine Ev_callS (M' := M_LW_process) (as := [vR 0 0, vI y1, vI y2, vR 0 27]) (st := []) (pc := 406) d_LW_law_406 rfl rfl rfl s_LW_process lk_LW_135 rfl rfl (c_LW_process hU hR hZ n5 n6 n7 n8 n9 n10 n11 n12 n13 n14 ?_)
  refine Ev_istore (pc := 409) d_LW_law_409 rfl ?_
  refine Ev_aload_n (pc := 411) d_LW_law_411 rfl ?_
  refine Ev_aload_n (pc := 412) d_LW_law_412 rfl ?_
  refine Ev_iload (pc := 413) d_LW_law_413 rfl ?_
  refine Ev_iconst (v := 1) (pc := 415) d_LW_law_415 (by decide) ?_
  refine Ev_iadd (pc := 416) d_LW_law_416 ?_
  refine Ev_scr (pc := 417) d_LW_law_417 n0 ?_
  refine Ev_aload_n (pc := 418) d_LW_law_418 rfl ?_
  refine Ev_iload (pc := 419) d_LW_law_419 rfl ?_
  refine Ev_iconst (v := 2) (pc := 421) d_LW_law_421 (by decide) ?_
  refine Ev_iadd (pc := 422) d_LW_law_422 ?_
  refine Ev_scr (pc := 423) d_LW_law_423 n1 ?_
  refine Ev_callV (M' := M_MO_process) (as := [vI y1, vI y2]) (st := []) (a := 0) (i := 6) (pc := 424) d_LW_law_424 rfl rfl rfl rfl rfl rfl rfl v_MO_process lk_LW_138 rfl rfl (c_MO_process_0 n15 ?_)
  refine Ev_istore (pc := 427) d_LW_law_427 rfl ?_
  refine Ev_aload_n (pc := 429) d_LW_law_429 rfl ?_
  refine Ev_callV (M' := M_MO_thrown) (as := []) (st := []) (a := 0) (i := 6) (pc := 430) d_LW_law_430 rfl rfl rfl rfl rfl rfl rfl v_MO_thrown lk_LW_124 rfl rfl (c_MO_thrown  ?_)
  refine Ev_iload (pc := 433) d_LW_law_433 rfl ?_
  refine Ev_icmp_eq (tgt := 440) (pc := 435) d_LW_law_435 rfl (fun _ => ?_) (fun q => absurd e1 q)
  refine Ev_iload (pc := 440) d_LW_law_440 rfl ?_
  refine Ev_if_ne (tgt := 457) (pc := 442) d_LW_law_442 rfl (fun q1 => ?_) (fun q1 => ?_)
  · refine Ev_goto (tgt := 2164) (pc := 457) d_LW_law_457 rfl ?_
    refine Ev_sub (lsub ?_) k
    exact (And.intro rfl (And.intro rfl (And.intro rfl (And.intro rfl (And.intro rfl trivial)))))
  · refine Ev_aload_n (pc := 445) d_LW_law_445 rfl ?_
    refine Ev_iconst (v := 0) (pc := 446) d_LW_law_446 (by decide) ?_
    refine Ev_lald (pc := 447) d_LW_law_447 rfl rfl (by decide) (by decide) ?_
    refine Ev_iload (pc := 448) d_LW_law_448 rfl ?_
    refine Ev_i2l (pc := 450) d_LW_law_450 ?_
    refine Ev_lcmp (pc := 451) d_LW_law_451 ?_
    refine Ev_if_eq (tgt := 457) (pc := 452) d_LW_law_452 rfl (fun _ => ?_) (fun q => absurd (e2 q1) q)
    refine Ev_goto (tgt := 2164) (pc := 457) d_LW_law_457 rfl ?_
    refine Ev_sub (lsub ?_) k
    exact (And.intro rfl (And.intro rfl (And.intro rfl (And.intro rfl (And.intro rfl trivial)))))
theorem c_LW_law_4_11 {E : ev_E} {P : Option ev_V ⊕ Nat → ev_H → Prop} {h : ev_H} {i : Nat} {y0 : Int32} {y1 : Int32} {y2 : Int32} {y3 : Int32} {y4 : Int32} {y5 : Int32} (n0 : sok E ((nI i) + 1) y1) (n1 : sok E ((nI i) + 2) y2) (hU : uok h) (hR : rfs h) (hZ : cZ h < ZM) (n5 : cZ (sI (sI h 1 y1.toNatClampNeg 8 5) 1 y2.toNatClampNeg 8 5) < ZM) (n6 : ¬ (gI h 0 0 3) < 0) (n7 : (¬ ((f_TB_isBelow y1 (gI h 0 0 3)) = 0)) → (¬ ((f_TB_isBelow y2 (gI h 0 0 3)) = 0)) → (¬ (y1 = y2)) → (¬ ((f_TB_isReady h y1.toNatClampNeg) = 0)) → (¬ ((f_TB_isReady h y2.toNatClampNeg) = 0)) → (¬ ((f_TB_hasRoomFor h 1) = 0)) → ((gI h 1 y1.toNatClampNeg 0) = 2) → ((gI h 1 y2.toNatClampNeg 0) = 2) → ((gI h 1 y1.toNatClampNeg 1) = (gI h 1 y2.toNatClampNeg 1)) → ((gI h 1 y1.toNatClampNeg 2) = (gI h 1 y2.toNatClampNeg 2)) → (gI h 0 0 3).toNatClampNeg < 48) (n8 : f_MO_isUnit ((f_LW_pool h y1 y2).2) y1 = 1) (n9 : f_MO_isUnit ((f_LW_pool h y1 y2).2) y2 = 1) (n10 : rfs ((f_LW_pool h y1 y2).2)) (n11 : ¬ y1 < 0) (n12 : y1.toNatClampNeg < 48) (n13 : ¬ (gI ((f_LW_pool h y1 y2).2) 0 6 2) < 0) (n14 : (((f_MO_refused ((f_LW_pool h y1 y2).2) 0 (m_MO_pool_11_139 y1 y2) (m_MO_pool_11_149 ((f_LW_pool h y1 y2).2) y1 y2) (m_MO_pool_11_159 ((f_LW_pool h y1 y2).2) y1 y2)).1) = 0) → (gI ((f_LW_pool h y1 y2).2) 0 6 2).toNatClampNeg < 48) (n15 : ¬ y2 < 0) (n16 : y2.toNatClampNeg < 48) (n17 : ¬ (vv_MO_pool_11_177 ((f_LW_pool h y1 y2).2) y1 y2) < 0) (n18 : (((f_MO_refused ((f_LW_pool h y1 y2).2) 0 (m_MO_pool_11_139 y1 y2) (m_MO_pool_11_149 ((f_LW_pool h y1 y2).2) y1 y2) (m_MO_pool_11_159 ((f_LW_pool h y1 y2).2) y1 y2)).1) = 0) → (vv_MO_pool_11_177 ((f_LW_pool h y1 y2).2) y1 y2).toNatClampNeg < 48) (e1 : (f_MO_thrown ((f_MO_pool_11 ((f_LW_pool h y1 y2).2) y1 y2).2)) = ((f_LW_pool h y1 y2).1)) (e2 : ((f_LW_pool h y1 y2).1) = 0 → (lg_cmp (gL ((f_MO_pool_11 ((f_LW_pool h y1 y2).2) y1 y2).2) 0 27 0) (((f_MO_pool_11 ((f_LW_pool h y1 y2).2) y1 y2).1).toInt64)) = 0) (k : Ev E M_LW_law 2164 [(0, vR 5 0), (1, vR 0 0), (2, vR 0 6), (3, vR 0 27), (4, vI (nI i))] [] ((f_MO_pool_11 ((f_LW_pool h y1 y2).2) y1 y2).2) P) : Ev E M_LW_law 460 [(0, vR 5 0), (1, vR 0 0), (2, vR 0 6), (3, vR 0 27), (4, vI (nI i))] [] h P := by
  refine Ev_aload_n (pc := 460) d_LW_law_460 rfl ?_
  refine Ev_aload_n (pc := 461) d_LW_law_461 rfl ?_
  refine Ev_iload (pc := 462) d_LW_law_462 rfl ?_
  refine Ev_iconst (v := 1) (pc := 464) d_LW_law_464 (by decide) ?_
  refine Ev_iadd (pc := 465) d_LW_law_465 ?_
  refine Ev_scr (pc := 466) d_LW_law_466 n0 ?_
  refine Ev_aload_n (pc := 467) d_LW_law_467 rfl ?_
  refine Ev_iload (pc := 468) d_LW_law_468 rfl ?_
  refine Ev_iconst (v := 2) (pc := 470) d_LW_law_470 (by decide) ?_
  refine Ev_iadd (pc := 471) d_LW_law_471 ?_
  refine Ev_scr (pc := 472) d_LW_law_472 n1 ?_
  refine Ev_aload_n (pc := 473) d_LW_law_473 rfl ?_
  refine Ev_callS (M' := M_LW_pool) (as := [vR 0 0, vI y1, vI y2, vR 0 27]) (st := []) (pc := 474) d_LW_law_474 rfl rfl rfl s_LW_pool lk_LW_139 rfl rfl (c_LW_pool hU hR hZ n5 n6 n7 ?_)
  refine Ev_istore (pc := 477) d_LW_law_477 rfl ?_
  refine Ev_aload_n (pc := 479) d_LW_law_479 rfl ?_
  refine Ev_aload_n (pc := 480) d_LW_law_480 rfl ?_
  refine Ev_iload (pc := 481) d_LW_law_481 rfl ?_
  refine Ev_iconst (v := 1) (pc := 483) d_LW_law_483 (by decide) ?_
  refine Ev_iadd (pc := 484) d_LW_law_484 ?_
  refine Ev_scr (pc := 485) d_LW_law_485 n0 ?_
  refine Ev_aload_n (pc := 486) d_LW_law_486 rfl ?_
  refine Ev_iload (pc := 487) d_LW_law_487 rfl ?_
  refine Ev_iconst (v := 2) (pc := 489) d_LW_law_489 (by decide) ?_
  refine Ev_iadd (pc := 490) d_LW_law_490 ?_
  refine Ev_scr (pc := 491) d_LW_law_491 n1 ?_
  refine Ev_callV (M' := M_MO_pool) (as := [vI y1, vI y2]) (st := []) (a := 0) (i := 6) (pc := 492) d_LW_law_492 rfl rfl rfl rfl rfl rfl rfl v_MO_pool lk_LW_141 rfl rfl (c_MO_pool_11 n8 n9 n10 n11 n12 n13 n14 n15 n16 n17 n18 ?_)
  refine Ev_istore (pc := 495) d_LW_law_495 rfl ?_
  refine Ev_aload_n (pc := 497) d_LW_law_497 rfl ?_
  refine Ev_callV (M' := M_MO_thrown) (as := []) (st := []) (a := 0) (i := 6) (pc := 498) d_LW_law_498 rfl rfl rfl rfl rfl rfl rfl v_MO_thrown lk_LW_124 rfl rfl (c_MO_thrown  ?_)
  refine Ev_iload (pc := 501) d_LW_law_501 rfl ?_
  refine Ev_icmp_eq (tgt := 508) (pc := 503) d_LW_law_503 rfl (fun _ => ?_) (fun q => absurd e1 q)
  refine Ev_iload (pc := 508) d_LW_law_508 rfl ?_
  refine Ev_if_ne (tgt := 525) (pc := 510) d_LW_law_510 rfl (fun q1 => ?_) (fun q1 => ?_)
  · refine Ev_goto (tgt := 2164) (pc := 525) d_LW_law_525 rfl ?_
    refine Ev_sub (lsub ?_) k
    exact (And.intro rfl (And.intro rfl (And.intro rfl (And.intro rfl (And.intro rfl trivial)))))
  · refine Ev_aload_n (pc := 513) d_LW_law_513 rfl ?_
    refine Ev_iconst (v := 0) (pc := 514) d_LW_law_514 (by decide) ?_
    refine Ev_lald (pc := 515) d_LW_law_515 rfl rfl (by decide) (by decide) ?_
    refine Ev_iload (pc := 516) d_LW_law_516 rfl ?_
    refine Ev_i2l (pc := 518) d_LW_law_518 ?_
    refine Ev_lcmp (pc := 519) d_LW_law_519 ?_
    refine Ev_if_eq (tgt := 525) (pc := 520) d_LW_law_520 rfl (fun _ => ?_) (fun q => absurd (e2 q1) q)
    refine Ev_goto (tgt := 2164) (pc := 525) d_LW_law_525 rfl ?_
    refine Ev_sub (lsub ?_) k
    exact (And.intro rfl (And.intro rfl (And.intro rfl (And.intro rfl (And.intro rfl trivial)))))
theorem c_LW_law_4_10 {E : ev_E} {P : Option ev_V ⊕ Nat → ev_H → Prop} {h : ev_H} {i : Nat} {y0 : Int32} {y1 : Int32} {y2 : Int32} {y3 : Int32} {y4 : Int32} {y5 : Int32} (n0 : sok E ((nI i) + 1) y1) (n1 : sok E ((nI i) + 2) y2) (hU : uok h) (hR : rfs h) (hZ : cZ h < ZM) (n5 : cZ (sI (sI h 1 y1.toNatClampNeg 8 5) 1 y2.toNatClampNeg 8 5) < ZM) (n6 : ¬ (gI h 0 0 3) < 0) (n7 : (¬ ((f_TB_isBelow y1 (gI h 0 0 3)) = 0)) → (¬ ((f_TB_isBelow y2 (gI h 0 0 3)) = 0)) → (¬ (y1 = y2)) → (¬ ((f_TB_isReady h y1.toNatClampNeg) = 0)) → (¬ ((f_TB_isReady h y2.toNatClampNeg) = 0)) → (¬ ((f_TB_hasRoomFor h 1) = 0)) → ((gI h 1 y1.toNatClampNeg 0) = 2) → ((gI h 1 y2.toNatClampNeg 0) = 2) → ((gI h 1 y1.toNatClampNeg 1) = (gI h 1 y2.toNatClampNeg 1)) → ((gI h 1 y1.toNatClampNeg 2) = (gI h 1 y2.toNatClampNeg 2)) → (gI h 0 0 3).toNatClampNeg < 48) (n8 : f_MO_isUnit ((f_LW_pool h y1 y2).2) y1 = 1) (n9 : f_MO_isUnit ((f_LW_pool h y1 y2).2) y2 = 0) (e1 : (f_MO_thrown ((f_MO_pool_10 ((f_LW_pool h y1 y2).2) y1 y2).2)) = ((f_LW_pool h y1 y2).1)) (e2 : ((f_LW_pool h y1 y2).1) = 0 → (lg_cmp (gL ((f_MO_pool_10 ((f_LW_pool h y1 y2).2) y1 y2).2) 0 27 0) (((f_MO_pool_10 ((f_LW_pool h y1 y2).2) y1 y2).1).toInt64)) = 0) (k : Ev E M_LW_law 2164 [(0, vR 5 0), (1, vR 0 0), (2, vR 0 6), (3, vR 0 27), (4, vI (nI i))] [] ((f_MO_pool_10 ((f_LW_pool h y1 y2).2) y1 y2).2) P) : Ev E M_LW_law 460 [(0, vR 5 0), (1, vR 0 0), (2, vR 0 6), (3, vR 0 27), (4, vI (nI i))] [] h P := by
  refine Ev_aload_n (pc := 460) d_LW_law_460 rfl ?_
  refine Ev_aload_n (pc := 461) d_LW_law_461 rfl ?_
  refine Ev_iload (pc := 462) d_LW_law_462 rfl ?_
  refine Ev_iconst (v := 1) (pc := 464) d_LW_law_464 (by decide) ?_
  refine Ev_iadd (pc := 465) d_LW_law_465 ?_
  refine Ev_scr (pc := 466) d_LW_law_466 n0 ?_
  refine Ev_aload_n (pc := 467) d_LW_law_467 rfl ?_
  refine Ev_iload (pc := 468) d_LW_law_468 rfl ?_
  refine Ev_iconst (v := 2) (pc := 470) d_LW_law_470 (by decide) ?_
  refine Ev_iadd (pc := 471) d_LW_law_471 ?_
  refine Ev_scr (pc := 472) d_LW_law_472 n1 ?_
  refine Ev_aload_n (pc := 473) d_LW_law_473 rfl ?_
  refine Ev_callS (M' := M_LW_pool) (as := [vR 0 0, vI y1, vI y2, vR 0 27]) (st := []) (pc := 474) d_LW_law_474 rfl rfl rfl s_LW_pool lk_LW_139 rfl rfl (c_LW_pool hU hR hZ n5 n6 n7 ?_)
  refine Ev_istore (pc := 477) d_LW_law_477 rfl ?_
  refine Ev_aload_n (pc := 479) d_LW_law_479 rfl ?_
  refine Ev_aload_n (pc := 480) d_LW_law_480 rfl ?_
  refine Ev_iload (pc := 481) d_LW_law_481 rfl ?_
  refine Ev_iconst (v := 1) (pc := 483) d_LW_law_483 (by decide) ?_
  refine Ev_iadd (pc := 484) d_LW_law_484 ?_
  refine Ev_scr (pc := 485) d_LW_law_485 n0 ?_
  refine Ev_aload_n (pc := 486) d_LW_law_486 rfl ?_
  refine Ev_iload (pc := 487) d_LW_law_487 rfl ?_
  refine Ev_iconst (v := 2) (pc := 489) d_LW_law_489 (by decide) ?_
  refine Ev_iadd (pc := 490) d_LW_law_490 ?_
  refine Ev_scr (pc := 491) d_LW_law_491 n1 ?_
  refine Ev_callV (M' := M_MO_pool) (as := [vI y1, vI y2]) (st := []) (a := 0) (i := 6) (pc := 492) d_LW_law_492 rfl rfl rfl rfl rfl rfl rfl v_MO_pool lk_LW_141 rfl rfl (c_MO_pool_10 n8 n9 ?_)
  refine Ev_istore (pc := 495) d_LW_law_495 rfl ?_
  refine Ev_aload_n (pc := 497) d_LW_law_497 rfl ?_
  refine Ev_callV (M' := M_MO_thrown) (as := []) (st := []) (a := 0) (i := 6) (pc := 498) d_LW_law_498 rfl rfl rfl rfl rfl rfl rfl v_MO_thrown lk_LW_124 rfl rfl (c_MO_thrown  ?_)
  refine Ev_iload (pc := 501) d_LW_law_501 rfl ?_
  refine Ev_icmp_eq (tgt := 508) (pc := 503) d_LW_law_503 rfl (fun _ => ?_) (fun q => absurd e1 q)
  refine Ev_iload (pc := 508) d_LW_law_508 rfl ?_
  refine Ev_if_ne (tgt := 525) (pc := 510) d_LW_law_510 rfl (fun q1 => ?_) (fun q1 => ?_)
  · refine Ev_goto (tgt := 2164) (pc := 525) d_LW_law_525 rfl ?_
    refine Ev_sub (lsub ?_) k
    exact (And.intro rfl (And.intro rfl (And.intro rfl (And.intro rfl (And.intro rfl trivial)))))
  · refine Ev_aload_n (pc := 513) d_LW_law_513 rfl ?_
    refine Ev_iconst (v := 0) (pc := 514) d_LW_law_514 (by decide) ?_
    refine Ev_lald (pc := 515) d_LW_law_515 rfl rfl (by decide) (by decide) ?_
    refine Ev_iload (pc := 516) d_LW_law_516 rfl ?_
    refine Ev_i2l (pc := 518) d_LW_law_518 ?_
    refine Ev_lcmp (pc := 519) d_LW_law_519 ?_
    refine Ev_if_eq (tgt := 525) (pc := 520) d_LW_law_520 rfl (fun _ => ?_) (fun q => absurd (e2 q1) q)
    refine Ev_goto (tgt := 2164) (pc := 525) d_LW_law_525 rfl ?_
    refine Ev_sub (lsub ?_) k
    exact (And.intro rfl (And.intro rfl (And.intro rfl (And.intro rfl (And.intro rfl trivial)))))
theorem c_LW_law_4_0 {E : ev_E} {P : Option ev_V ⊕ Nat → ev_H → Prop} {h : ev_H} {i : Nat} {y0 : Int32} {y1 : Int32} {y2 : Int32} {y3 : Int32} {y4 : Int32} {y5 : Int32} (n0 : sok E ((nI i) + 1) y1) (n1 : sok E ((nI i) + 2) y2) (hU : uok h) (hR : rfs h) (hZ : cZ h < ZM) (n5 : cZ (sI (sI h 1 y1.toNatClampNeg 8 5) 1 y2.toNatClampNeg 8 5) < ZM) (n6 : ¬ (gI h 0 0 3) < 0) (n7 : (¬ ((f_TB_isBelow y1 (gI h 0 0 3)) = 0)) → (¬ ((f_TB_isBelow y2 (gI h 0 0 3)) = 0)) → (¬ (y1 = y2)) → (¬ ((f_TB_isReady h y1.toNatClampNeg) = 0)) → (¬ ((f_TB_isReady h y2.toNatClampNeg) = 0)) → (¬ ((f_TB_hasRoomFor h 1) = 0)) → ((gI h 1 y1.toNatClampNeg 0) = 2) → ((gI h 1 y2.toNatClampNeg 0) = 2) → ((gI h 1 y1.toNatClampNeg 1) = (gI h 1 y2.toNatClampNeg 1)) → ((gI h 1 y1.toNatClampNeg 2) = (gI h 1 y2.toNatClampNeg 2)) → (gI h 0 0 3).toNatClampNeg < 48) (n8 : f_MO_isUnit ((f_LW_pool h y1 y2).2) y1 = 0) (e1 : (f_MO_thrown ((f_MO_pool_0 ((f_LW_pool h y1 y2).2) y1 y2).2)) = ((f_LW_pool h y1 y2).1)) (e2 : ((f_LW_pool h y1 y2).1) = 0 → (lg_cmp (gL ((f_MO_pool_0 ((f_LW_pool h y1 y2).2) y1 y2).2) 0 27 0) (((f_MO_pool_0 ((f_LW_pool h y1 y2).2) y1 y2).1).toInt64)) = 0) (k : Ev E M_LW_law 2164 [(0, vR 5 0), (1, vR 0 0), (2, vR 0 6), (3, vR 0 27), (4, vI (nI i))] [] ((f_MO_pool_0 ((f_LW_pool h y1 y2).2) y1 y2).2) P) : Ev E M_LW_law 460 [(0, vR 5 0), (1, vR 0 0), (2, vR 0 6), (3, vR 0 27), (4, vI (nI i))] [] h P := by
  refine Ev_aload_n (pc := 460) d_LW_law_460 rfl ?_
  refine Ev_aload_n (pc := 461) d_LW_law_461 rfl ?_
  refine Ev_iload (pc := 462) d_LW_law_462 rfl ?_
  refine Ev_iconst (v := 1) (pc := 464) d_LW_law_464 (by decide) ?_
  refine Ev_iadd (pc := 465) d_LW_law_465 ?_
  refine Ev_scr (pc := 466) d_LW_law_466 n0 ?_
  refine Ev_aload_n (pc := 467) d_LW_law_467 rfl ?_
  refine Ev_iload (pc := 468) d_LW_law_468 rfl ?_
  refine Ev_iconst (v := 2) (pc := 470) d_LW_law_470 (by decide) ?_
  refine Ev_iadd (pc := 471) d_LW_law_471 ?_
  refine Ev_scr (pc := 472) d_LW_law_472 n1 ?_
  refine Ev_aload_n (pc := 473) d_LW_law_473 rfl ?_
  refine Ev_callS (M' := M_LW_pool) (as := [vR 0 0, vI y1, vI y2, vR 0 27]) (st := []) (pc := 474) d_LW_law_474 rfl rfl rfl s_LW_pool lk_LW_139 rfl rfl (c_LW_pool hU hR hZ n5 n6 n7 ?_)
  refine Ev_istore (pc := 477) d_LW_law_477 rfl ?_
  refine Ev_aload_n (pc := 479) d_LW_law_479 rfl ?_
  refine Ev_aload_n (pc := 480) d_LW_law_480 rfl ?_
  refine Ev_iload (pc := 481) d_LW_law_481 rfl ?_
  refine Ev_iconst (v := 1) (pc := 483) d_LW_law_483 (by decide) ?_
  refine Ev_iadd (pc := 484) d_LW_law_484 ?_
  refine Ev_scr (pc := 485) d_LW_law_485 n0 ?_
  refine Ev_aload_n (pc := 486) d_LW_law_486 rfl ?_
  refine Ev_iload (pc := 487) d_LW_law_487 rfl ?_
  refine Ev_iconst (v := 2) (pc := 489) d_LW_law_489 (by decide) ?_
  refine Ev_iadd (pc := 490) d_LW_law_490 ?_
  refine Ev_scr (pc := 491) d_LW_law_491 n1 ?_
  refine Ev_callV (M' := M_MO_pool) (as := [vI y1, vI y2]) (st := []) (a := 0) (i := 6) (pc := 492) d_LW_law_492 rfl rfl rfl rfl rfl rfl rfl v_MO_pool lk_LW_141 rfl rfl (c_MO_pool_0 n8 ?_)
  refine Ev_istore (pc := 495) d_LW_law_495 rfl ?_
  refine Ev_aload_n (pc := 497) d_LW_law_497 rfl ?_
  refine Ev_callV (M' := M_MO_thrown) (as := []) (st := []) (a := 0) (i := 6) (pc := 498) d_LW_law_498 rfl rfl rfl rfl rfl rfl rfl v_MO_thrown lk_LW_124 rfl rfl (c_MO_thrown  ?_)
  refine Ev_iload (pc := 501) d_LW_law_501 rfl ?_
  refine Ev_icmp_eq (tgt := 508) (pc := 503) d_LW_law_503 rfl (fun _ => ?_) (fun q => absurd e1 q)
  refine Ev_iload (pc := 508) d_LW_law_508 rfl ?_
  refine Ev_if_ne (tgt := 525) (pc := 510) d_LW_law_510 rfl (fun q1 => ?_) (fun q1 => ?_)
  · refine Ev_goto (tgt := 2164) (pc := 525) d_LW_law_525 rfl ?_
    refine Ev_sub (lsub ?_) k
    exact (And.intro rfl (And.intro rfl (And.intro rfl (And.intro rfl (And.intro rfl trivial)))))
  · refine Ev_aload_n (pc := 513) d_LW_law_513 rfl ?_
    refine Ev_iconst (v := 0) (pc := 514) d_LW_law_514 (by decide) ?_
    refine Ev_lald (pc := 515) d_LW_law_515 rfl rfl (by decide) (by decide) ?_
    refine Ev_iload (pc := 516) d_LW_law_516 rfl ?_
    refine Ev_i2l (pc := 518) d_LW_law_518 ?_
    refine Ev_lcmp (pc := 519) d_LW_law_519 ?_
    refine Ev_if_eq (tgt := 525) (pc := 520) d_LW_law_520 rfl (fun _ => ?_) (fun q => absurd (e2 q1) q)
    refine Ev_goto (tgt := 2164) (pc := 525) d_LW_law_525 rfl ?_
    refine Ev_sub (lsub ?_) k
    exact (And.intro rfl (And.intro rfl (And.intro rfl (And.intro rfl (And.intro rfl trivial)))))
theorem c_LW_law_5 {E : ev_E} {P : Option ev_V ⊕ Nat → ev_H → Prop} {h : ev_H} {i : Nat} {y0 : Int32} {y1 : Int32} {y2 : Int32} {y3 : Int32} {y4 : Int32} {y5 : Int32} (hR : rfs h) (hZ : cZ h < ZM) (n2 : cZ h + 2 ≤ ZM) (n3 : cN (nw h 2) = (cP h)) (n4 : ∀ b, b < 48 → gR (r_PA_init_L29 (sR (nw (sI (sI (sI (nw h 2) 2 (cP h) 0 0) 2 (cP h) 1 (-1)) 2 (cP h) 2 (-1)) 3) 2 (cP h) 6 (vR 3 (cP h))) (cP h) b) 2 (cP h) 6 = vR 3 (cP h)) (n5 : ¬ (gI h 0 0 4) < 0) (n6 : ((gI h 0 0 4) < 10) → (gI h 0 0 4).toNatClampNeg < 10) (n7 : rfs ((f_LW_patient h).2)) (n8 : ¬ (gI ((f_LW_patient h).2) 0 6 19) < 0) (n9 : (((f_MO_refused ((f_LW_patient h).2) (m_MO_patient_15 ((f_LW_patient h).2)) 0 0 0).1) = 0) → (gI ((f_LW_patient h).2) 0 6 19).toNatClampNeg < 10) (e1 : (f_MO_thrown ((f_MO_patient ((f_LW_patient h).2)).2)) = ((f_LW_patient h).1)) (e2 : ((f_LW_patient h).1) = 0 → (lg_cmp (gL ((f_MO_patient ((f_LW_patient h).2)).2) 0 27 0) (((f_MO_patient ((f_LW_patient h).2)).1).toInt64)) = 0) (k : Ev E M_LW_law 2164 [(0, vR 5 0), (1, vR 0 0), (2, vR 0 6), (3, vR 0 27), (4, vI (nI i))] [] ((f_MO_patient ((f_LW_patient h).2)).2) P) : Ev E M_LW_law 528 [(0, vR 5 0), (1, vR 0 0), (2, vR 0 6), (3, vR 0 27), (4, vI (nI i))] [] h P := by
  refine Ev_aload_n (pc := 528) d_LW_law_528 rfl ?_
  refine Ev_aload_n (pc := 529) d_LW_law_529 rfl ?_
  refine Ev_callS (M' := M_LW_patient) (as := [vR 0 0, vR 0 27]) (st := []) (pc := 530) d_LW_law_530 rfl rfl rfl s_LW_patient lk_LW_142 rfl rfl (c_LW_patient hR hZ n2 n3 n4 n5 n6 ?_)
  refine Ev_istore (pc := 533) d_LW_law_533 rfl ?_
  refine Ev_aload_n (pc := 535) d_LW_law_535 rfl ?_
  refine Ev_callV (M' := M_MO_patient) (as := []) (st := []) (a := 0) (i := 6) (pc := 536) d_LW_law_536 rfl rfl rfl rfl rfl rfl rfl v_MO_patient lk_LW_145 rfl rfl (c_MO_patient n7 n8 n9 ?_)
  refine Ev_istore (pc := 539) d_LW_law_539 rfl ?_
  refine Ev_aload_n (pc := 541) d_LW_law_541 rfl ?_
  refine Ev_callV (M' := M_MO_thrown) (as := []) (st := []) (a := 0) (i := 6) (pc := 542) d_LW_law_542 rfl rfl rfl rfl rfl rfl rfl v_MO_thrown lk_LW_124 rfl rfl (c_MO_thrown  ?_)
  refine Ev_iload (pc := 545) d_LW_law_545 rfl ?_
  refine Ev_icmp_eq (tgt := 552) (pc := 547) d_LW_law_547 rfl (fun _ => ?_) (fun q => absurd e1 q)
  refine Ev_iload (pc := 552) d_LW_law_552 rfl ?_
  refine Ev_if_ne (tgt := 569) (pc := 554) d_LW_law_554 rfl (fun q1 => ?_) (fun q1 => ?_)
  · refine Ev_goto (tgt := 2164) (pc := 569) d_LW_law_569 rfl ?_
    refine Ev_sub (lsub ?_) k
    exact (And.intro rfl (And.intro rfl (And.intro rfl (And.intro rfl (And.intro rfl trivial)))))
  · refine Ev_aload_n (pc := 557) d_LW_law_557 rfl ?_
    refine Ev_iconst (v := 0) (pc := 558) d_LW_law_558 (by decide) ?_
    refine Ev_lald (pc := 559) d_LW_law_559 rfl rfl (by decide) (by decide) ?_
    refine Ev_iload (pc := 560) d_LW_law_560 rfl ?_
    refine Ev_i2l (pc := 562) d_LW_law_562 ?_
    refine Ev_lcmp (pc := 563) d_LW_law_563 ?_
    refine Ev_if_eq (tgt := 569) (pc := 564) d_LW_law_564 rfl (fun _ => ?_) (fun q => absurd (e2 q1) q)
    refine Ev_goto (tgt := 2164) (pc := 569) d_LW_law_569 rfl ?_
    refine Ev_sub (lsub ?_) k
    exact (And.intro rfl (And.intro rfl (And.intro rfl (And.intro rfl (And.intro rfl trivial)))))
theorem c_LW_law_6_1 {E : ev_E} {P : Option ev_V ⊕ Nat → ev_H → Prop} {h : ev_H} {i : Nat} {y0 : Int32} {y1 : Int32} {y2 : Int32} {y3 : Int32} {y4 : Int32} {y5 : Int32} (n0 : sok E ((nI i) + 1) y1) (n1 : sok E ((nI i) + 2) y2) (n2 : sok E ((nI i) + 3) y3) (hP : pok h) (hR : rfs h) (hZ : cZ h < ZM) (n6 : f_MO_isPatient ((f_LW_sample h y1 y2 y3).2) y1 = 1) (n7 : rfs ((f_LW_sample h y1 y2 y3).2)) (n8 : ¬ y1 < 0) (n9 : y1.toNatClampNeg < 10) (e1 : (f_MO_thrown ((f_MO_sample_1 ((f_LW_sample h y1 y2 y3).2) y1 y2 y3).2)) = ((f_LW_sample h y1 y2 y3).1)) (e2 : ((f_LW_sample h y1 y2 y3).1) = 0 → (lg_cmp (gL ((f_MO_sample_1 ((f_LW_sample h y1 y2 y3).2) y1 y2 y3).2) 0 27 0) (((f_MO_sample_1 ((f_LW_sample h y1 y2 y3).2) y1 y2 y3).1).toInt64)) = 0) (k : Ev E M_LW_law 2164 [(0, vR 5 0), (1, vR 0 0), (2, vR 0 6), (3, vR 0 27), (4, vI (nI i))] [] ((f_MO_sample_1 ((f_LW_sample h y1 y2 y3).2) y1 y2 y3).2) P) : Ev E M_LW_law 572 [(0, vR 5 0), (1, vR 0 0), (2, vR 0 6), (3, vR 0 27), (4, vI (nI i))] [] h P := by
  refine Ev_aload_n (pc := 572) d_LW_law_572 rfl ?_
  refine Ev_aload_n (pc := 573) d_LW_law_573 rfl ?_
  refine Ev_iload (pc := 574) d_LW_law_574 rfl ?_
  refine Ev_iconst (v := 1) (pc := 576) d_LW_law_576 (by decide) ?_
  refine Ev_iadd (pc := 577) d_LW_law_577 ?_
  refine Ev_scr (pc := 578) d_LW_law_578 n0 ?_
  refine Ev_aload_n (pc := 579) d_LW_law_579 rfl ?_
  refine Ev_iload (pc := 580) d_LW_law_580 rfl ?_
  refine Ev_iconst (v := 2) (pc := 582) d_LW_law_582 (by decide) ?_
  refine Ev_iadd (pc := 583) d_LW_law_583 ?_
  refine Ev_scr (pc := 584) d_LW_law_584 n1 ?_
  refine Ev_aload_n (pc := 585) d_LW_law_585 rfl ?_
  refine Ev_iload (pc := 586) d_LW_law_586 rfl ?_
  refine Ev_iconst (v := 3) (pc := 588) d_LW_law_588 (by decide) ?_
  refine Ev_iadd (pc := 589) d_LW_law_589 ?_
  refine Ev_scr (pc := 590) d_LW_law_590 n2 ?_
  refine Ev_aload_n (pc := 591) d_LW_law_591 rfl ?_
  refine Ev_callS (M' := M_LW_sample) (as := [vR 0 0, vI y1, vI y2, vI y3, vR 0 27]) (st := []) (pc := 592) d_LW_law_592 rfl rfl rfl s_LW_sample lk_LW_146 rfl rfl (c_LW_sample hP hR hZ ?_)
  refine Ev_istore (pc := 595) d_LW_law_595 rfl ?_
  refine Ev_aload_n (pc := 597) d_LW_law_597 rfl ?_
  refine Ev_aload_n (pc := 598) d_LW_law_598 rfl ?_
  refine Ev_iload (pc := 599) d_LW_law_599 rfl ?_
  refine Ev_iconst (v := 1) (pc := 601) d_LW_law_601 (by decide) ?_
  refine Ev_iadd (pc := 602) d_LW_law_602 ?_
  refine Ev_scr (pc := 603) d_LW_law_603 n0 ?_
  refine Ev_aload_n (pc := 604) d_LW_law_604 rfl ?_
  refine Ev_iload (pc := 605) d_LW_law_605 rfl ?_
  refine Ev_iconst (v := 2) (pc := 607) d_LW_law_607 (by decide) ?_
  refine Ev_iadd (pc := 608) d_LW_law_608 ?_
  refine Ev_scr (pc := 609) d_LW_law_609 n1 ?_
  refine Ev_aload_n (pc := 610) d_LW_law_610 rfl ?_
  refine Ev_iload (pc := 611) d_LW_law_611 rfl ?_
  refine Ev_iconst (v := 3) (pc := 613) d_LW_law_613 (by decide) ?_
  refine Ev_iadd (pc := 614) d_LW_law_614 ?_
  refine Ev_scr (pc := 615) d_LW_law_615 n2 ?_
  refine Ev_callV (M' := M_MO_sample) (as := [vI y1, vI y2, vI y3]) (st := []) (a := 0) (i := 6) (pc := 616) d_LW_law_616 rfl rfl rfl rfl rfl rfl rfl v_MO_sample lk_LW_149 rfl rfl (c_MO_sample_1 n6 n7 n8 n9 ?_)
  refine Ev_istore (pc := 619) d_LW_law_619 rfl ?_
  refine Ev_aload_n (pc := 621) d_LW_law_621 rfl ?_
  refine Ev_callV (M' := M_MO_thrown) (as := []) (st := []) (a := 0) (i := 6) (pc := 622) d_LW_law_622 rfl rfl rfl rfl rfl rfl rfl v_MO_thrown lk_LW_124 rfl rfl (c_MO_thrown  ?_)
  refine Ev_iload (pc := 625) d_LW_law_625 rfl ?_
  refine Ev_icmp_eq (tgt := 632) (pc := 627) d_LW_law_627 rfl (fun _ => ?_) (fun q => absurd e1 q)
  refine Ev_iload (pc := 632) d_LW_law_632 rfl ?_
  refine Ev_if_ne (tgt := 649) (pc := 634) d_LW_law_634 rfl (fun q1 => ?_) (fun q1 => ?_)
  · refine Ev_goto (tgt := 2164) (pc := 649) d_LW_law_649 rfl ?_
    refine Ev_sub (lsub ?_) k
    exact (And.intro rfl (And.intro rfl (And.intro rfl (And.intro rfl (And.intro rfl trivial)))))
  · refine Ev_aload_n (pc := 637) d_LW_law_637 rfl ?_
    refine Ev_iconst (v := 0) (pc := 638) d_LW_law_638 (by decide) ?_
    refine Ev_lald (pc := 639) d_LW_law_639 rfl rfl (by decide) (by decide) ?_
    refine Ev_iload (pc := 640) d_LW_law_640 rfl ?_
    refine Ev_i2l (pc := 642) d_LW_law_642 ?_
    refine Ev_lcmp (pc := 643) d_LW_law_643 ?_
    refine Ev_if_eq (tgt := 649) (pc := 644) d_LW_law_644 rfl (fun _ => ?_) (fun q => absurd (e2 q1) q)
    refine Ev_goto (tgt := 2164) (pc := 649) d_LW_law_649 rfl ?_
    refine Ev_sub (lsub ?_) k
    exact (And.intro rfl (And.intro rfl (And.intro rfl (And.intro rfl (And.intro rfl trivial)))))
theorem c_LW_law_6_0 {E : ev_E} {P : Option ev_V ⊕ Nat → ev_H → Prop} {h : ev_H} {i : Nat} {y0 : Int32} {y1 : Int32} {y2 : Int32} {y3 : Int32} {y4 : Int32} {y5 : Int32} (n0 : sok E ((nI i) + 1) y1) (n1 : sok E ((nI i) + 2) y2) (n2 : sok E ((nI i) + 3) y3) (hP : pok h) (hR : rfs h) (hZ : cZ h < ZM) (n6 : f_MO_isPatient ((f_LW_sample h y1 y2 y3).2) y1 = 0) (e1 : (f_MO_thrown ((f_MO_sample_0 ((f_LW_sample h y1 y2 y3).2) y1 y2 y3).2)) = ((f_LW_sample h y1 y2 y3).1)) (e2 : ((f_LW_sample h y1 y2 y3).1) = 0 → (lg_cmp (gL ((f_MO_sample_0 ((f_LW_sample h y1 y2 y3).2) y1 y2 y3).2) 0 27 0) (((f_MO_sample_0 ((f_LW_sample h y1 y2 y3).2) y1 y2 y3).1).toInt64)) = 0) (k : Ev E M_LW_law 2164 [(0, vR 5 0), (1, vR 0 0), (2, vR 0 6), (3, vR 0 27), (4, vI (nI i))] [] ((f_MO_sample_0 ((f_LW_sample h y1 y2 y3).2) y1 y2 y3).2) P) : Ev E M_LW_law 572 [(0, vR 5 0), (1, vR 0 0), (2, vR 0 6), (3, vR 0 27), (4, vI (nI i))] [] h P := by
  refine Ev_aload_n (pc := 572) d_LW_law_572 rfl ?_
  refine Ev_aload_n (pc := 573) d_LW_law_573 rfl ?_
  refine Ev_iload (pc := 574) d_LW_law_574 rfl ?_
  refine Ev_iconst (v := 1) (pc := 576) d_LW_law_576 (by decide) ?_
  refine Ev_iadd (pc := 577) d_LW_law_577 ?_
  refine Ev_scr (pc := 578) d_LW_law_578 n0 ?_
  refine Ev_aload_n (pc := 579) d_LW_law_579 rfl ?_
  refine Ev_iload (pc := 580) d_LW_law_580 rfl ?_
  refine Ev_iconst (v := 2) (pc := 582) d_LW_law_582 (by decide) ?_
  refine Ev_iadd (pc := 583) d_LW_law_583 ?_
  refine Ev_scr (pc := 584) d_LW_law_584 n1 ?_
  refine Ev_aload_n (pc := 585) d_LW_law_585 rfl ?_
  refine Ev_iload (pc := 586) d_LW_law_586 rfl ?_
  refine Ev_iconst (v := 3) (pc := 588) d_LW_law_588 (by decide) ?_
  refine Ev_iadd (pc := 589) d_LW_law_589 ?_
  refine Ev_scr (pc := 590) d_LW_law_590 n2 ?_
  refine Ev_aload_n (pc := 591) d_LW_law_591 rfl ?_
  refine Ev_callS (M' := M_LW_sample) (as := [vR 0 0, vI y1, vI y2, vI y3, vR 0 27]) (st := []) (pc := 592) d_LW_law_592 rfl rfl rfl s_LW_sample lk_LW_146 rfl rfl (c_LW_sample hP hR hZ ?_)
  refine Ev_istore (pc := 595) d_LW_law_595 rfl ?_
  refine Ev_aload_n (pc := 597) d_LW_law_597 rfl ?_
  refine Ev_aload_n (pc := 598) d_LW_law_598 rfl ?_
  refine Ev_iload (pc := 599) d_LW_law_599 rfl ?_
  refine Ev_iconst (v := 1) (pc := 601) d_LW_law_601 (by decide) ?_
  refine Ev_iadd (pc := 602) d_LW_law_602 ?_
  refine Ev_scr (pc := 603) d_LW_law_603 n0 ?_
  refine Ev_aload_n (pc := 604) d_LW_law_604 rfl ?_
  refine Ev_iload (pc := 605) d_LW_law_605 rfl ?_
  refine Ev_iconst (v := 2) (pc := 607) d_LW_law_607 (by decide) ?_
  refine Ev_iadd (pc := 608) d_LW_law_608 ?_
  refine Ev_scr (pc := 609) d_LW_law_609 n1 ?_
  refine Ev_aload_n (pc := 610) d_LW_law_610 rfl ?_
  refine Ev_iload (pc := 611) d_LW_law_611 rfl ?_
  refine Ev_iconst (v := 3) (pc := 613) d_LW_law_613 (by decide) ?_
  refine Ev_iadd (pc := 614) d_LW_law_614 ?_
  refine Ev_scr (pc := 615) d_LW_law_615 n2 ?_
  refine Ev_callV (M' := M_MO_sample) (as := [vI y1, vI y2, vI y3]) (st := []) (a := 0) (i := 6) (pc := 616) d_LW_law_616 rfl rfl rfl rfl rfl rfl rfl v_MO_sample lk_LW_149 rfl rfl (c_MO_sample_0 n6 ?_)
  refine Ev_istore (pc := 619) d_LW_law_619 rfl ?_
  refine Ev_aload_n (pc := 621) d_LW_law_621 rfl ?_
  refine Ev_callV (M' := M_MO_thrown) (as := []) (st := []) (a := 0) (i := 6) (pc := 622) d_LW_law_622 rfl rfl rfl rfl rfl rfl rfl v_MO_thrown lk_LW_124 rfl rfl (c_MO_thrown  ?_)
  refine Ev_iload (pc := 625) d_LW_law_625 rfl ?_
  refine Ev_icmp_eq (tgt := 632) (pc := 627) d_LW_law_627 rfl (fun _ => ?_) (fun q => absurd e1 q)
  refine Ev_iload (pc := 632) d_LW_law_632 rfl ?_
  refine Ev_if_ne (tgt := 649) (pc := 634) d_LW_law_634 rfl (fun q1 => ?_) (fun q1 => ?_)
  · refine Ev_goto (tgt := 2164) (pc := 649) d_LW_law_649 rfl ?_
    refine Ev_sub (lsub ?_) k
    exact (And.intro rfl (And.intro rfl (And.intro rfl (And.intro rfl (And.intro rfl trivial)))))
  · refine Ev_aload_n (pc := 637) d_LW_law_637 rfl ?_
    refine Ev_iconst (v := 0) (pc := 638) d_LW_law_638 (by decide) ?_
    refine Ev_lald (pc := 639) d_LW_law_639 rfl rfl (by decide) (by decide) ?_
    refine Ev_iload (pc := 640) d_LW_law_640 rfl ?_
    refine Ev_i2l (pc := 642) d_LW_law_642 ?_
    refine Ev_lcmp (pc := 643) d_LW_law_643 ?_
    refine Ev_if_eq (tgt := 649) (pc := 644) d_LW_law_644 rfl (fun _ => ?_) (fun q => absurd (e2 q1) q)
    refine Ev_goto (tgt := 2164) (pc := 649) d_LW_law_649 rfl ?_
    refine Ev_sub (lsub ?_) k
    exact (And.intro rfl (And.intro rfl (And.intro rfl (And.intro rfl (And.intro rfl trivial)))))
theorem c_LW_law_7_1 {E : ev_E} {P : Option ev_V ⊕ Nat → ev_H → Prop} {h : ev_H} {i : Nat} {y0 : Int32} {y1 : Int32} {y2 : Int32} {y3 : Int32} {y4 : Int32} {y5 : Int32} (n0 : sok E ((nI i) + 1) y1) (n1 : sok E ((nI i) + 2) y2) (n2 : sok E ((nI i) + 3) y3) (hP : pok h) (hR : rfs h) (hZ : cZ h < ZM) (n6 : f_MO_isPatient ((f_LW_unlock h y1 y2 y3).2) y1 = 1) (n7 : rfs ((f_LW_unlock h y1 y2 y3).2)) (n8 : ¬ y1 < 0) (n9 : y1.toNatClampNeg < 10) (e1 : (f_MO_thrown (f_MO_unlock_1 ((f_LW_unlock h y1 y2 y3).2) y1 y2 y3)) = ((f_LW_unlock h y1 y2 y3).1)) (k : Ev E M_LW_law 2164 [(0, vR 5 0), (1, vR 0 0), (2, vR 0 6), (3, vR 0 27), (4, vI (nI i))] [] (f_MO_unlock_1 ((f_LW_unlock h y1 y2 y3).2) y1 y2 y3) P) : Ev E M_LW_law 652 [(0, vR 5 0), (1, vR 0 0), (2, vR 0 6), (3, vR 0 27), (4, vI (nI i))] [] h P := by
  refine Ev_aload_n (pc := 652) d_LW_law_652 rfl ?_
  refine Ev_aload_n (pc := 653) d_LW_law_653 rfl ?_
  refine Ev_iload (pc := 654) d_LW_law_654 rfl ?_
  refine Ev_iconst (v := 1) (pc := 656) d_LW_law_656 (by decide) ?_
  refine Ev_iadd (pc := 657) d_LW_law_657 ?_
  refine Ev_scr (pc := 658) d_LW_law_658 n0 ?_
  refine Ev_aload_n (pc := 659) d_LW_law_659 rfl ?_
  refine Ev_iload (pc := 660) d_LW_law_660 rfl ?_
  refine Ev_iconst (v := 2) (pc := 662) d_LW_law_662 (by decide) ?_
  refine Ev_iadd (pc := 663) d_LW_law_663 ?_
  refine Ev_scr (pc := 664) d_LW_law_664 n1 ?_
  refine Ev_aload_n (pc := 665) d_LW_law_665 rfl ?_
  refine Ev_iload (pc := 666) d_LW_law_666 rfl ?_
  refine Ev_iconst (v := 3) (pc := 668) d_LW_law_668 (by decide) ?_
  refine Ev_iadd (pc := 669) d_LW_law_669 ?_
  refine Ev_scr (pc := 670) d_LW_law_670 n2 ?_
  refine Ev_callS (M' := M_LW_unlock) (as := [vR 0 0, vI y1, vI y2, vI y3]) (st := []) (pc := 671) d_LW_law_671 rfl rfl rfl s_LW_unlock lk_LW_150 rfl rfl (c_LW_unlock hP hR hZ ?_)
  refine Ev_istore (pc := 674) d_LW_law_674 rfl ?_
  refine Ev_aload_n (pc := 676) d_LW_law_676 rfl ?_
  refine Ev_aload_n (pc := 677) d_LW_law_677 rfl ?_
  refine Ev_iload (pc := 678) d_LW_law_678 rfl ?_
  refine Ev_iconst (v := 1) (pc := 680) d_LW_law_680 (by decide) ?_
  refine Ev_iadd (pc := 681) d_LW_law_681 ?_
  refine Ev_scr (pc := 682) d_LW_law_682 n0 ?_
  refine Ev_aload_n (pc := 683) d_LW_law_683 rfl ?_
  refine Ev_iload (pc := 684) d_LW_law_684 rfl ?_
  refine Ev_iconst (v := 2) (pc := 686) d_LW_law_686 (by decide) ?_
  refine Ev_iadd (pc := 687) d_LW_law_687 ?_
  refine Ev_scr (pc := 688) d_LW_law_688 n1 ?_
  refine Ev_aload_n (pc := 689) d_LW_law_689 rfl ?_
  refine Ev_iload (pc := 690) d_LW_law_690 rfl ?_
  refine Ev_iconst (v := 3) (pc := 692) d_LW_law_692 (by decide) ?_
  refine Ev_iadd (pc := 693) d_LW_law_693 ?_
  refine Ev_scr (pc := 694) d_LW_law_694 n2 ?_
  refine Ev_callV (M' := M_MO_unlock) (as := [vI y1, vI y2, vI y3]) (st := []) (a := 0) (i := 6) (pc := 695) d_LW_law_695 rfl rfl rfl rfl rfl rfl rfl v_MO_unlock lk_LW_152 rfl rfl (c_MO_unlock_1 n6 n7 n8 n9 ?_)
  refine Ev_aload_n (pc := 698) d_LW_law_698 rfl ?_
  refine Ev_callV (M' := M_MO_thrown) (as := []) (st := []) (a := 0) (i := 6) (pc := 699) d_LW_law_699 rfl rfl rfl rfl rfl rfl rfl v_MO_thrown lk_LW_124 rfl rfl (c_MO_thrown  ?_)
  refine Ev_iload (pc := 702) d_LW_law_702 rfl ?_
  refine Ev_icmp_eq (tgt := 709) (pc := 704) d_LW_law_704 rfl (fun _ => ?_) (fun q => absurd e1 q)
  refine Ev_goto (tgt := 2164) (pc := 709) d_LW_law_709 rfl ?_
  refine Ev_sub (lsub ?_) k
  exact (And.intro rfl (And.intro rfl (And.intro rfl (And.intro rfl (And.intro rfl trivial)))))
theorem c_LW_law_7_0 {E : ev_E} {P : Option ev_V ⊕ Nat → ev_H → Prop} {h : ev_H} {i : Nat} {y0 : Int32} {y1 : Int32} {y2 : Int32} {y3 : Int32} {y4 : Int32} {y5 : Int32} (n0 : sok E ((nI i) + 1) y1) (n1 : sok E ((nI i) + 2) y2) (n2 : sok E ((nI i) + 3) y3) (hP : pok h) (hR : rfs h) (hZ : cZ h < ZM) (n6 : f_MO_isPatient ((f_LW_unlock h y1 y2 y3).2) y1 = 0) (e1 : (f_MO_thrown (f_MO_unlock_0 ((f_LW_unlock h y1 y2 y3).2) y1 y2 y3)) = ((f_LW_unlock h y1 y2 y3).1)) (k : Ev E M_LW_law 2164 [(0, vR 5 0), (1, vR 0 0), (2, vR 0 6), (3, vR 0 27), (4, vI (nI i))] [] (f_MO_unlock_0 ((f_LW_unlock h y1 y2 y3).2) y1 y2 y3) P) : Ev E M_LW_law 652 [(0, vR 5 0), (1, vR 0 0), (2, vR 0 6), (3, vR 0 27), (4, vI (nI i))] [] h P := by
  refine Ev_aload_n (pc := 652) d_LW_law_652 rfl ?_
  refine Ev_aload_n (pc := 653) d_LW_law_653 rfl ?_
  refine Ev_iload (pc := 654) d_LW_law_654 rfl ?_
  refine Ev_iconst (v := 1) (pc := 656) d_LW_law_656 (by decide) ?_
  refine Ev_iadd (pc := 657) d_LW_law_657 ?_
  refine Ev_scr (pc := 658) d_LW_law_658 n0 ?_
  refine Ev_aload_n (pc := 659) d_LW_law_659 rfl ?_
  refine Ev_iload (pc := 660) d_LW_law_660 rfl ?_
  refine Ev_iconst (v := 2) (pc := 662) d_LW_law_662 (by decide) ?_
  refine Ev_iadd (pc := 663) d_LW_law_663 ?_
  refine Ev_scr (pc := 664) d_LW_law_664 n1 ?_
  refine Ev_aload_n (pc := 665) d_LW_law_665 rfl ?_
  refine Ev_iload (pc := 666) d_LW_law_666 rfl ?_
  refine Ev_iconst (v := 3) (pc := 668) d_LW_law_668 (by decide) ?_
  refine Ev_iadd (pc := 669) d_LW_law_669 ?_
  refine Ev_scr (pc := 670) d_LW_law_670 n2 ?_
  refine Ev_callS (M' := M_LW_unlock) (as := [vR 0 0, vI y1, vI y2, vI y3]) (st := []) (pc := 671) d_LW_law_671 rfl rfl rfl s_LW_unlock lk_LW_150 rfl rfl (c_LW_unlock hP hR hZ ?_)
  refine Ev_istore (pc := 674) d_LW_law_674 rfl ?_
  refine Ev_aload_n (pc := 676) d_LW_law_676 rfl ?_
  refine Ev_aload_n (pc := 677) d_LW_law_677 rfl ?_
  refine Ev_iload (pc := 678) d_LW_law_678 rfl ?_
  refine Ev_iconst (v := 1) (pc := 680) d_LW_law_680 (by decide) ?_
  refine Ev_iadd (pc := 681) d_LW_law_681 ?_
  refine Ev_scr (pc := 682) d_LW_law_682 n0 ?_
  refine Ev_aload_n (pc := 683) d_LW_law_683 rfl ?_
  refine Ev_iload (pc := 684) d_LW_law_684 rfl ?_
  refine Ev_iconst (v := 2) (pc := 686) d_LW_law_686 (by decide) ?_
  refine Ev_iadd (pc := 687) d_LW_law_687 ?_
  refine Ev_scr (pc := 688) d_LW_law_688 n1 ?_
  refine Ev_aload_n (pc := 689) d_LW_law_689 rfl ?_
  refine Ev_iload (pc := 690) d_LW_law_690 rfl ?_
  refine Ev_iconst (v := 3) (pc := 692) d_LW_law_692 (by decide) ?_
  refine Ev_iadd (pc := 693) d_LW_law_693 ?_
  refine Ev_scr (pc := 694) d_LW_law_694 n2 ?_
  refine Ev_callV (M' := M_MO_unlock) (as := [vI y1, vI y2, vI y3]) (st := []) (a := 0) (i := 6) (pc := 695) d_LW_law_695 rfl rfl rfl rfl rfl rfl rfl v_MO_unlock lk_LW_152 rfl rfl (c_MO_unlock_0 n6 ?_)
  refine Ev_aload_n (pc := 698) d_LW_law_698 rfl ?_
  refine Ev_callV (M' := M_MO_thrown) (as := []) (st := []) (a := 0) (i := 6) (pc := 699) d_LW_law_699 rfl rfl rfl rfl rfl rfl rfl v_MO_thrown lk_LW_124 rfl rfl (c_MO_thrown  ?_)
  refine Ev_iload (pc := 702) d_LW_law_702 rfl ?_
  refine Ev_icmp_eq (tgt := 709) (pc := 704) d_LW_law_704 rfl (fun _ => ?_) (fun q => absurd e1 q)
  refine Ev_goto (tgt := 2164) (pc := 709) d_LW_law_709 rfl ?_
  refine Ev_sub (lsub ?_) k
  exact (And.intro rfl (And.intro rfl (And.intro rfl (And.intro rfl (And.intro rfl trivial)))))
theorem c_LW_law_8_1 {E : ev_E} {P : Option ev_V ⊕ Nat → ev_H → Prop} {h : ev_H} {i : Nat} {y0 : Int32} {y1 : Int32} {y2 : Int32} {y3 : Int32} {y4 : Int32} {y5 : Int32} (n0 : sok E ((nI i) + 1) y1) (n1 : sok E ((nI i) + 2) y2) (hP : pok h) (hR : rfs h) (hZ : cZ h < ZM) (n5 : f_MO_isPatient ((f_LW_antibody h y1 y2).2) y1 = 1) (n6 : rfs ((f_LW_antibody h y1 y2).2)) (n7 : ¬ y1 < 0) (n8 : y1.toNatClampNeg < 10) (e1 : (f_MO_thrown ((f_MO_antibody_1 ((f_LW_antibody h y1 y2).2) y1 y2).2)) = ((f_LW_antibody h y1 y2).1)) (e2 : ((f_LW_antibody h y1 y2).1) = 0 → (lg_cmp (gL ((f_MO_antibody_1 ((f_LW_antibody h y1 y2).2) y1 y2).2) 0 27 0) (((f_MO_antibody_1 ((f_LW_antibody h y1 y2).2) y1 y2).1).toInt64)) = 0) (k : Ev E M_LW_law 2164 [(0, vR 5 0), (1, vR 0 0), (2, vR 0 6), (3, vR 0 27), (4, vI (nI i))] [] ((f_MO_antibody_1 ((f_LW_antibody h y1 y2).2) y1 y2).2) P) : Ev E M_LW_law 712 [(0, vR 5 0), (1, vR 0 0), (2, vR 0 6), (3, vR 0 27), (4, vI (nI i))] [] h P := by
  refine Ev_aload_n (pc := 712) d_LW_law_712 rfl ?_
  refine Ev_aload_n (pc := 713) d_LW_law_713 rfl ?_
  refine Ev_iload (pc := 714) d_LW_law_714 rfl ?_
  refine Ev_iconst (v := 1) (pc := 716) d_LW_law_716 (by decide) ?_
  refine Ev_iadd (pc := 717) d_LW_law_717 ?_
  refine Ev_scr (pc := 718) d_LW_law_718 n0 ?_
  refine Ev_aload_n (pc := 719) d_LW_law_719 rfl ?_
  refine Ev_iload (pc := 720) d_LW_law_720 rfl ?_
  refine Ev_iconst (v := 2) (pc := 722) d_LW_law_722 (by decide) ?_
  refine Ev_iadd (pc := 723) d_LW_law_723 ?_
  refine Ev_scr (pc := 724) d_LW_law_724 n1 ?_
  refine Ev_aload_n (pc := 725) d_LW_law_725 rfl ?_
  refine Ev_callS (M' := M_LW_antibody) (as := [vR 0 0, vI y1, vI y2, vR 0 27]) (st := []) (pc := 726) d_LW_law_726 rfl rfl rfl s_LW_antibody lk_LW_153 rfl rfl (c_LW_antibody hP hR hZ ?_)
  refine Ev_istore (pc := 729) d_LW_law_729 rfl ?_
  refine Ev_aload_n (pc := 731) d_LW_law_731 rfl ?_
  refine Ev_aload_n (pc := 732) d_LW_law_732 rfl ?_
  refine Ev_iload (pc := 733) d_LW_law_733 rfl ?_
  refine Ev_iconst (v := 1) (pc := 735) d_LW_law_735 (by decide) ?_
  refine Ev_iadd (pc := 736) d_LW_law_736 ?_
  refine Ev_scr (pc := 737) d_LW_law_737 n0 ?_
  refine Ev_aload_n (pc := 738) d_LW_law_738 rfl ?_
  refine Ev_iload (pc := 739) d_LW_law_739 rfl ?_
  refine Ev_iconst (v := 2) (pc := 741) d_LW_law_741 (by decide) ?_
  refine Ev_iadd (pc := 742) d_LW_law_742 ?_
  refine Ev_scr (pc := 743) d_LW_law_743 n1 ?_
  refine Ev_callV (M' := M_MO_antibody) (as := [vI y1, vI y2]) (st := []) (a := 0) (i := 6) (pc := 744) d_LW_law_744 rfl rfl rfl rfl rfl rfl rfl v_MO_antibody lk_LW_155 rfl rfl (c_MO_antibody_1 n5 n6 n7 n8 ?_)
  refine Ev_istore (pc := 747) d_LW_law_747 rfl ?_
  refine Ev_aload_n (pc := 749) d_LW_law_749 rfl ?_
  refine Ev_callV (M' := M_MO_thrown) (as := []) (st := []) (a := 0) (i := 6) (pc := 750) d_LW_law_750 rfl rfl rfl rfl rfl rfl rfl v_MO_thrown lk_LW_124 rfl rfl (c_MO_thrown  ?_)
  refine Ev_iload (pc := 753) d_LW_law_753 rfl ?_
  refine Ev_icmp_eq (tgt := 760) (pc := 755) d_LW_law_755 rfl (fun _ => ?_) (fun q => absurd e1 q)
  refine Ev_iload (pc := 760) d_LW_law_760 rfl ?_
  refine Ev_if_ne (tgt := 777) (pc := 762) d_LW_law_762 rfl (fun q1 => ?_) (fun q1 => ?_)
  · refine Ev_goto (tgt := 2164) (pc := 777) d_LW_law_777 rfl ?_
    refine Ev_sub (lsub ?_) k
    exact (And.intro rfl (And.intro rfl (And.intro rfl (And.intro rfl (And.intro rfl trivial)))))
  · refine Ev_aload_n (pc := 765) d_LW_law_765 rfl ?_
    refine Ev_iconst (v := 0) (pc := 766) d_LW_law_766 (by decide) ?_
    refine Ev_lald (pc := 767) d_LW_law_767 rfl rfl (by decide) (by decide) ?_
    refine Ev_iload (pc := 768) d_LW_law_768 rfl ?_
    refine Ev_i2l (pc := 770) d_LW_law_770 ?_
    refine Ev_lcmp (pc := 771) d_LW_law_771 ?_
    refine Ev_if_eq (tgt := 777) (pc := 772) d_LW_law_772 rfl (fun _ => ?_) (fun q => absurd (e2 q1) q)
    refine Ev_goto (tgt := 2164) (pc := 777) d_LW_law_777 rfl ?_
    refine Ev_sub (lsub ?_) k
    exact (And.intro rfl (And.intro rfl (And.intro rfl (And.intro rfl (And.intro rfl trivial)))))
theorem c_LW_law_8_0 {E : ev_E} {P : Option ev_V ⊕ Nat → ev_H → Prop} {h : ev_H} {i : Nat} {y0 : Int32} {y1 : Int32} {y2 : Int32} {y3 : Int32} {y4 : Int32} {y5 : Int32} (n0 : sok E ((nI i) + 1) y1) (n1 : sok E ((nI i) + 2) y2) (hP : pok h) (hR : rfs h) (hZ : cZ h < ZM) (n5 : f_MO_isPatient ((f_LW_antibody h y1 y2).2) y1 = 0) (e1 : (f_MO_thrown ((f_MO_antibody_0 ((f_LW_antibody h y1 y2).2) y1 y2).2)) = ((f_LW_antibody h y1 y2).1)) (e2 : ((f_LW_antibody h y1 y2).1) = 0 → (lg_cmp (gL ((f_MO_antibody_0 ((f_LW_antibody h y1 y2).2) y1 y2).2) 0 27 0) (((f_MO_antibody_0 ((f_LW_antibody h y1 y2).2) y1 y2).1).toInt64)) = 0) (k : Ev E M_LW_law 2164 [(0, vR 5 0), (1, vR 0 0), (2, vR 0 6), (3, vR 0 27), (4, vI (nI i))] [] ((f_MO_antibody_0 ((f_LW_antibody h y1 y2).2) y1 y2).2) P) : Ev E M_LW_law 712 [(0, vR 5 0), (1, vR 0 0), (2, vR 0 6), (3, vR 0 27), (4, vI (nI i))] [] h P := by
  refine Ev_aload_n (pc := 712) d_LW_law_712 rfl ?_
  refine Ev_aload_n (pc := 713) d_LW_law_713 rfl ?_
  refine Ev_iload (pc := 714) d_LW_law_714 rfl ?_
  refine Ev_iconst (v := 1) (pc := 716) d_LW_law_716 (by decide) ?_
  refine Ev_iadd (pc := 717) d_LW_law_717 ?_
  refine Ev_scr (pc := 718) d_LW_law_718 n0 ?_
  refine Ev_aload_n (pc := 719) d_LW_law_719 rfl ?_
  refine Ev_iload (pc := 720) d_LW_law_720 rfl ?_
  refine Ev_iconst (v := 2) (pc := 722) d_LW_law_722 (by decide) ?_
  refine Ev_iadd (pc := 723) d_LW_law_723 ?_
  refine Ev_scr (pc := 724) d_LW_law_724 n1 ?_
  refine Ev_aload_n (pc := 725) d_LW_law_725 rfl ?_
  refine Ev_callS (M' := M_LW_antibody) (as := [vR 0 0, vI y1, vI y2, vR 0 27]) (st := []) (pc := 726) d_LW_law_726 rfl rfl rfl s_LW_antibody lk_LW_153 rfl rfl (c_LW_antibody hP hR hZ ?_)
  refine Ev_istore (pc := 729) d_LW_law_729 rfl ?_
  refine Ev_aload_n (pc := 731) d_LW_law_731 rfl ?_
  refine Ev_aload_n (pc := 732) d_LW_law_732 rfl ?_
  refine Ev_iload (pc := 733) d_LW_law_733 rfl ?_
  refine Ev_iconst (v := 1) (pc := 735) d_LW_law_735 (by decide) ?_
  refine Ev_iadd (pc := 736) d_LW_law_736 ?_
  refine Ev_scr (pc := 737) d_LW_law_737 n0 ?_
  refine Ev_aload_n (pc := 738) d_LW_law_738 rfl ?_
  refine Ev_iload (pc := 739) d_LW_law_739 rfl ?_
  refine Ev_iconst (v := 2) (pc := 741) d_LW_law_741 (by decide) ?_
  refine Ev_iadd (pc := 742) d_LW_law_742 ?_
  refine Ev_scr (pc := 743) d_LW_law_743 n1 ?_
  refine Ev_callV (M' := M_MO_antibody) (as := [vI y1, vI y2]) (st := []) (a := 0) (i := 6) (pc := 744) d_LW_law_744 rfl rfl rfl rfl rfl rfl rfl v_MO_antibody lk_LW_155 rfl rfl (c_MO_antibody_0 n5 ?_)
  refine Ev_istore (pc := 747) d_LW_law_747 rfl ?_
  refine Ev_aload_n (pc := 749) d_LW_law_749 rfl ?_
  refine Ev_callV (M' := M_MO_thrown) (as := []) (st := []) (a := 0) (i := 6) (pc := 750) d_LW_law_750 rfl rfl rfl rfl rfl rfl rfl v_MO_thrown lk_LW_124 rfl rfl (c_MO_thrown  ?_)
  refine Ev_iload (pc := 753) d_LW_law_753 rfl ?_
  refine Ev_icmp_eq (tgt := 760) (pc := 755) d_LW_law_755 rfl (fun _ => ?_) (fun q => absurd e1 q)
  refine Ev_iload (pc := 760) d_LW_law_760 rfl ?_
  refine Ev_if_ne (tgt := 777) (pc := 762) d_LW_law_762 rfl (fun q1 => ?_) (fun q1 => ?_)
  · refine Ev_goto (tgt := 2164) (pc := 777) d_LW_law_777 rfl ?_
    refine Ev_sub (lsub ?_) k
    exact (And.intro rfl (And.intro rfl (And.intro rfl (And.intro rfl (And.intro rfl trivial)))))
  · refine Ev_aload_n (pc := 765) d_LW_law_765 rfl ?_
    refine Ev_iconst (v := 0) (pc := 766) d_LW_law_766 (by decide) ?_
    refine Ev_lald (pc := 767) d_LW_law_767 rfl rfl (by decide) (by decide) ?_
    refine Ev_iload (pc := 768) d_LW_law_768 rfl ?_
    refine Ev_i2l (pc := 770) d_LW_law_770 ?_
    refine Ev_lcmp (pc := 771) d_LW_law_771 ?_
    refine Ev_if_eq (tgt := 777) (pc := 772) d_LW_law_772 rfl (fun _ => ?_) (fun q => absurd (e2 q1) q)
    refine Ev_goto (tgt := 2164) (pc := 777) d_LW_law_777 rfl ?_
    refine Ev_sub (lsub ?_) k
    exact (And.intro rfl (And.intro rfl (And.intro rfl (And.intro rfl (And.intro rfl trivial)))))
theorem c_LW_law_9_1 {E : ev_E} {P : Option ev_V ⊕ Nat → ev_H → Prop} {h : ev_H} {i : Nat} {y0 : Int32} {y1 : Int32} {y2 : Int32} {y3 : Int32} {y4 : Int32} {y5 : Int32} (n0 : sok E ((nI i) + 1) y1) (n1 : sok E ((nI i) + 2) y2) (hP : pok h) (hR : rfs h) (hZ : cZ h < ZM) (n5 : f_MO_isPatient ((f_LW_need h y1 y2).2) y1 = 1) (n6 : rfs ((f_LW_need h y1 y2).2)) (n7 : ¬ y1 < 0) (n8 : y1.toNatClampNeg < 10) (e1 : (f_MO_thrown ((f_MO_need_1 ((f_LW_need h y1 y2).2) y1 y2).2)) = ((f_LW_need h y1 y2).1)) (e2 : ((f_LW_need h y1 y2).1) = 0 → (lg_cmp (gL ((f_MO_need_1 ((f_LW_need h y1 y2).2) y1 y2).2) 0 27 0) (((f_MO_need_1 ((f_LW_need h y1 y2).2) y1 y2).1).toInt64)) = 0) (k : Ev E M_LW_law 2164 [(0, vR 5 0), (1, vR 0 0), (2, vR 0 6), (3, vR 0 27), (4, vI (nI i))] [] ((f_MO_need_1 ((f_LW_need h y1 y2).2) y1 y2).2) P) : Ev E M_LW_law 780 [(0, vR 5 0), (1, vR 0 0), (2, vR 0 6), (3, vR 0 27), (4, vI (nI i))] [] h P := by
  refine Ev_aload_n (pc := 780) d_LW_law_780 rfl ?_
  refine Ev_aload_n (pc := 781) d_LW_law_781 rfl ?_
  refine Ev_iload (pc := 782) d_LW_law_782 rfl ?_
  refine Ev_iconst (v := 1) (pc := 784) d_LW_law_784 (by decide) ?_
  refine Ev_iadd (pc := 785) d_LW_law_785 ?_
  refine Ev_scr (pc := 786) d_LW_law_786 n0 ?_
  refine Ev_aload_n (pc := 787) d_LW_law_787 rfl ?_
  refine Ev_iload (pc := 788) d_LW_law_788 rfl ?_
  refine Ev_iconst (v := 2) (pc := 790) d_LW_law_790 (by decide) ?_
  refine Ev_iadd (pc := 791) d_LW_law_791 ?_
  refine Ev_scr (pc := 792) d_LW_law_792 n1 ?_
  refine Ev_aload_n (pc := 793) d_LW_law_793 rfl ?_
  refine Ev_callS (M' := M_LW_need) (as := [vR 0 0, vI y1, vI y2, vR 0 27]) (st := []) (pc := 794) d_LW_law_794 rfl rfl rfl s_LW_need lk_LW_156 rfl rfl (c_LW_need hP hR hZ ?_)
  refine Ev_istore (pc := 797) d_LW_law_797 rfl ?_
  refine Ev_aload_n (pc := 799) d_LW_law_799 rfl ?_
  refine Ev_aload_n (pc := 800) d_LW_law_800 rfl ?_
  refine Ev_iload (pc := 801) d_LW_law_801 rfl ?_
  refine Ev_iconst (v := 1) (pc := 803) d_LW_law_803 (by decide) ?_
  refine Ev_iadd (pc := 804) d_LW_law_804 ?_
  refine Ev_scr (pc := 805) d_LW_law_805 n0 ?_
  refine Ev_aload_n (pc := 806) d_LW_law_806 rfl ?_
  refine Ev_iload (pc := 807) d_LW_law_807 rfl ?_
  refine Ev_iconst (v := 2) (pc := 809) d_LW_law_809 (by decide) ?_
  refine Ev_iadd (pc := 810) d_LW_law_810 ?_
  refine Ev_scr (pc := 811) d_LW_law_811 n1 ?_
  refine Ev_callV (M' := M_MO_need) (as := [vI y1, vI y2]) (st := []) (a := 0) (i := 6) (pc := 812) d_LW_law_812 rfl rfl rfl rfl rfl rfl rfl v_MO_need lk_LW_158 rfl rfl (c_MO_need_1 n5 n6 n7 n8 ?_)
  refine Ev_istore (pc := 815) d_LW_law_815 rfl ?_
  refine Ev_aload_n (pc := 817) d_LW_law_817 rfl ?_
  refine Ev_callV (M' := M_MO_thrown) (as := []) (st := []) (a := 0) (i := 6) (pc := 818) d_LW_law_818 rfl rfl rfl rfl rfl rfl rfl v_MO_thrown lk_LW_124 rfl rfl (c_MO_thrown  ?_)
  refine Ev_iload (pc := 821) d_LW_law_821 rfl ?_
  refine Ev_icmp_eq (tgt := 828) (pc := 823) d_LW_law_823 rfl (fun _ => ?_) (fun q => absurd e1 q)
  refine Ev_iload (pc := 828) d_LW_law_828 rfl ?_
  refine Ev_if_ne (tgt := 845) (pc := 830) d_LW_law_830 rfl (fun q1 => ?_) (fun q1 => ?_)
  · refine Ev_goto (tgt := 2164) (pc := 845) d_LW_law_845 rfl ?_
    refine Ev_sub (lsub ?_) k
    exact (And.intro rfl (And.intro rfl (And.intro rfl (And.intro rfl (And.intro rfl trivial)))))
  · refine Ev_aload_n (pc := 833) d_LW_law_833 rfl ?_
    refine Ev_iconst (v := 0) (pc := 834) d_LW_law_834 (by decide) ?_
    refine Ev_lald (pc := 835) d_LW_law_835 rfl rfl (by decide) (by decide) ?_
    refine Ev_iload (pc := 836) d_LW_law_836 rfl ?_
    refine Ev_i2l (pc := 838) d_LW_law_838 ?_
    refine Ev_lcmp (pc := 839) d_LW_law_839 ?_
    refine Ev_if_eq (tgt := 845) (pc := 840) d_LW_law_840 rfl (fun _ => ?_) (fun q => absurd (e2 q1) q)
    refine Ev_goto (tgt := 2164) (pc := 845) d_LW_law_845 rfl ?_
    refine Ev_sub (lsub ?_) k
    exact (And.intro rfl (And.intro rfl (And.intro rfl (And.intro rfl (And.intro rfl trivial)))))
theorem c_LW_law_9_0 {E : ev_E} {P : Option ev_V ⊕ Nat → ev_H → Prop} {h : ev_H} {i : Nat} {y0 : Int32} {y1 : Int32} {y2 : Int32} {y3 : Int32} {y4 : Int32} {y5 : Int32} (n0 : sok E ((nI i) + 1) y1) (n1 : sok E ((nI i) + 2) y2) (hP : pok h) (hR : rfs h) (hZ : cZ h < ZM) (n5 : f_MO_isPatient ((f_LW_need h y1 y2).2) y1 = 0) (e1 : (f_MO_thrown ((f_MO_need_0 ((f_LW_need h y1 y2).2) y1 y2).2)) = ((f_LW_need h y1 y2).1)) (e2 : ((f_LW_need h y1 y2).1) = 0 → (lg_cmp (gL ((f_MO_need_0 ((f_LW_need h y1 y2).2) y1 y2).2) 0 27 0) (((f_MO_need_0 ((f_LW_need h y1 y2).2) y1 y2).1).toInt64)) = 0) (k : Ev E M_LW_law 2164 [(0, vR 5 0), (1, vR 0 0), (2, vR 0 6), (3, vR 0 27), (4, vI (nI i))] [] ((f_MO_need_0 ((f_LW_need h y1 y2).2) y1 y2).2) P) : Ev E M_LW_law 780 [(0, vR 5 0), (1, vR 0 0), (2, vR 0 6), (3, vR 0 27), (4, vI (nI i))] [] h P := by
  refine Ev_aload_n (pc := 780) d_LW_law_780 rfl ?_
  refine Ev_aload_n (pc := 781) d_LW_law_781 rfl ?_
  refine Ev_iload (pc := 782) d_LW_law_782 rfl ?_
  refine Ev_iconst (v := 1) (pc := 784) d_LW_law_784 (by decide) ?_
  refine Ev_iadd (pc := 785) d_LW_law_785 ?_
  refine Ev_scr (pc := 786) d_LW_law_786 n0 ?_
  refine Ev_aload_n (pc := 787) d_LW_law_787 rfl ?_
  refine Ev_iload (pc := 788) d_LW_law_788 rfl ?_
  refine Ev_iconst (v := 2) (pc := 790) d_LW_law_790 (by decide) ?_
  refine Ev_iadd (pc := 791) d_LW_law_791 ?_
  refine Ev_scr (pc := 792) d_LW_law_792 n1 ?_
  refine Ev_aload_n (pc := 793) d_LW_law_793 rfl ?_
  refine Ev_callS (M' := M_LW_need) (as := [vR 0 0, vI y1, vI y2, vR 0 27]) (st := []) (pc := 794) d_LW_law_794 rfl rfl rfl s_LW_need lk_LW_156 rfl rfl (c_LW_need hP hR hZ ?_)
  refine Ev_istore (pc := 797) d_LW_law_797 rfl ?_
  refine Ev_aload_n (pc := 799) d_LW_law_799 rfl ?_
  refine Ev_aload_n (pc := 800) d_LW_law_800 rfl ?_
  refine Ev_iload (pc := 801) d_LW_law_801 rfl ?_
  refine Ev_iconst (v := 1) (pc := 803) d_LW_law_803 (by decide) ?_
  refine Ev_iadd (pc := 804) d_LW_law_804 ?_
  refine Ev_scr (pc := 805) d_LW_law_805 n0 ?_
  refine Ev_aload_n (pc := 806) d_LW_law_806 rfl ?_
  refine Ev_iload (pc := 807) d_LW_law_807 rfl ?_
  refine Ev_iconst (v := 2) (pc := 809) d_LW_law_809 (by decide) ?_
  refine Ev_iadd (pc := 810) d_LW_law_810 ?_
  refine Ev_scr (pc := 811) d_LW_law_811 n1 ?_
  refine Ev_callV (M' := M_MO_need) (as := [vI y1, vI y2]) (st := []) (a := 0) (i := 6) (pc := 812) d_LW_law_812 rfl rfl rfl rfl rfl rfl rfl v_MO_need lk_LW_158 rfl rfl (c_MO_need_0 n5 ?_)
  refine Ev_istore (pc := 815) d_LW_law_815 rfl ?_
  refine Ev_aload_n (pc := 817) d_LW_law_817 rfl ?_
  refine Ev_callV (M' := M_MO_thrown) (as := []) (st := []) (a := 0) (i := 6) (pc := 818) d_LW_law_818 rfl rfl rfl rfl rfl rfl rfl v_MO_thrown lk_LW_124 rfl rfl (c_MO_thrown  ?_)
  refine Ev_iload (pc := 821) d_LW_law_821 rfl ?_
  refine Ev_icmp_eq (tgt := 828) (pc := 823) d_LW_law_823 rfl (fun _ => ?_) (fun q => absurd e1 q)
  refine Ev_iload (pc := 828) d_LW_law_828 rfl ?_
  refine Ev_if_ne (tgt := 845) (pc := 830) d_LW_law_830 rfl (fun q1 => ?_) (fun q1 => ?_)
  · refine Ev_goto (tgt := 2164) (pc := 845) d_LW_law_845 rfl ?_
    refine Ev_sub (lsub ?_) k
    exact (And.intro rfl (And.intro rfl (And.intro rfl (And.intro rfl (And.intro rfl trivial)))))
  · refine Ev_aload_n (pc := 833) d_LW_law_833 rfl ?_
    refine Ev_iconst (v := 0) (pc := 834) d_LW_law_834 (by decide) ?_
    refine Ev_lald (pc := 835) d_LW_law_835 rfl rfl (by decide) (by decide) ?_
    refine Ev_iload (pc := 836) d_LW_law_836 rfl ?_
    refine Ev_i2l (pc := 838) d_LW_law_838 ?_
    refine Ev_lcmp (pc := 839) d_LW_law_839 ?_
    refine Ev_if_eq (tgt := 845) (pc := 840) d_LW_law_840 rfl (fun _ => ?_) (fun q => absurd (e2 q1) q)
    refine Ev_goto (tgt := 2164) (pc := 845) d_LW_law_845 rfl ?_
    refine Ev_sub (lsub ?_) k
    exact (And.intro rfl (And.intro rfl (And.intro rfl (And.intro rfl (And.intro rfl trivial)))))
def m_LW_law_10_11_875 (i : Nat) (y0 : Int32) (y1 : Int32) (y2 : Int32) (y3 : Int32) (y4 : Int32) (y5 : Int32) : Int32 := (if y3 = 0 then 0 else 1)
def m_LW_law_10_11_907 (i : Nat) (y0 : Int32) (y1 : Int32) (y2 : Int32) (y3 : Int32) (y4 : Int32) (y5 : Int32) : Int32 := (if y3 = 0 then 0 else 1)
theorem c_LW_law_10_11_907 {E : ev_E} {P : Option ev_V ⊕ Nat → ev_H → Prop} {h : ev_H} {i : Nat} {y0 : Int32} {y1 : Int32} {y2 : Int32} {y3 : Int32} {y4 : Int32} {y5 : Int32} (n0 : f_MO_isPatient ((f_LW_crossmatch h y1 y2 (m_LW_law_10_11_875 i y0 y1 y2 y3 y4 y5)).2) y1 = 1) (n1 : f_MO_isUnit ((f_LW_crossmatch h y1 y2 (m_LW_law_10_11_875 i y0 y1 y2 y3 y4 y5)).2) y2 = 1) (n2 : rfs ((f_LW_crossmatch h y1 y2 (m_LW_law_10_11_875 i y0 y1 y2 y3 y4 y5)).2)) (n3 : ¬ y2 < 0) (n4 : y2.toNatClampNeg < 48) (n5 : ¬ ((48 * y1) + y2) < 0) (n6 : ((48 * y1) + y2).toNatClampNeg < 480) (e1 : (f_MO_thrown (f_MO_crossmatch_11 ((f_LW_crossmatch h y1 y2 (m_LW_law_10_11_875 i y0 y1 y2 y3 y4 y5)).2) y1 y2 (m_LW_law_10_11_907 i y0 y1 y2 y3 y4 y5))) = ((f_LW_crossmatch h y1 y2 (m_LW_law_10_11_875 i y0 y1 y2 y3 y4 y5)).1)) (k : Ev E M_LW_law 2164 [(0, vR 5 0), (1, vR 0 0), (2, vR 0 6), (3, vR 0 27), (4, vI (nI i))] [] (f_MO_crossmatch_11 ((f_LW_crossmatch h y1 y2 (m_LW_law_10_11_875 i y0 y1 y2 y3 y4 y5)).2) y1 y2 (m_LW_law_10_11_907 i y0 y1 y2 y3 y4 y5)) P) : Ev E M_LW_law 907 [(0, vR 5 0), (1, vR 0 0), (2, vR 0 6), (3, vR 0 27), (4, vI (nI i)), (5, vI ((f_LW_crossmatch h y1 y2 (m_LW_law_10_11_875 i y0 y1 y2 y3 y4 y5)).1))] [vI (m_LW_law_10_11_907 i y0 y1 y2 y3 y4 y5), vI y2, vI y1, vR 0 6] ((f_LW_crossmatch h y1 y2 (m_LW_law_10_11_875 i y0 y1 y2 y3 y4 y5)).2) P := by
  refine Ev_callV (M' := M_MO_crossmatch) (as := [vI y1, vI y2, vI (m_LW_law_10_11_907 i y0 y1 y2 y3 y4 y5)]) (st := []) (a := 0) (i := 6) (pc := 907) d_LW_law_907 rfl rfl rfl rfl rfl rfl rfl v_MO_crossmatch lk_LW_162 rfl rfl (c_MO_crossmatch_11 n0 n1 n2 n3 n4 n5 n6 ?_)
  refine Ev_aload_n (pc := 910) d_LW_law_910 rfl ?_
  refine Ev_callV (M' := M_MO_thrown) (as := []) (st := []) (a := 0) (i := 6) (pc := 911) d_LW_law_911 rfl rfl rfl rfl rfl rfl rfl v_MO_thrown lk_LW_124 rfl rfl (c_MO_thrown  ?_)
  refine Ev_iload (pc := 914) d_LW_law_914 rfl ?_
  refine Ev_icmp_eq (tgt := 921) (pc := 916) d_LW_law_916 rfl (fun _ => ?_) (fun q => absurd e1 q)
  refine Ev_goto (tgt := 2164) (pc := 921) d_LW_law_921 rfl ?_
  refine Ev_sub (lsub ?_) k
  exact (And.intro rfl (And.intro rfl (And.intro rfl (And.intro rfl (And.intro rfl trivial)))))
theorem c_LW_law_10_11_875 {E : ev_E} {P : Option ev_V ⊕ Nat → ev_H → Prop} {h : ev_H} {i : Nat} {y0 : Int32} {y1 : Int32} {y2 : Int32} {y3 : Int32} {y4 : Int32} {y5 : Int32} (hP : pok h) (hR : rfs h) (hZ : cZ h < ZM) (hU : uok h) (n4 : sok E ((nI i) + 1) y1) (n5 : sok E ((nI i) + 2) y2) (n6 : sok E ((nI i) + 3) y3) (n7 : f_MO_isPatient ((f_LW_crossmatch h y1 y2 (m_LW_law_10_11_875 i y0 y1 y2 y3 y4 y5)).2) y1 = 1) (n8 : f_MO_isUnit ((f_LW_crossmatch h y1 y2 (m_LW_law_10_11_875 i y0 y1 y2 y3 y4 y5)).2) y2 = 1) (n9 : rfs ((f_LW_crossmatch h y1 y2 (m_LW_law_10_11_875 i y0 y1 y2 y3 y4 y5)).2)) (n10 : ¬ y2 < 0) (n11 : y2.toNatClampNeg < 48) (n12 : ¬ ((48 * y1) + y2) < 0) (n13 : ((48 * y1) + y2).toNatClampNeg < 480) (n14 : (f_MO_thrown (f_MO_crossmatch_11 ((f_LW_crossmatch h y1 y2 (m_LW_law_10_11_875 i y0 y1 y2 y3 y4 y5)).2) y1 y2 (m_LW_law_10_11_907 i y0 y1 y2 y3 y4 y5))) = ((f_LW_crossmatch h y1 y2 (m_LW_law_10_11_875 i y0 y1 y2 y3 y4 y5)).1)) (k : Ev E M_LW_law 2164 [(0, vR 5 0), (1, vR 0 0), (2, vR 0 6), (3, vR 0 27), (4, vI (nI i))] [] (f_MO_crossmatch_11 ((f_LW_crossmatch h y1 y2 (m_LW_law_10_11_875 i y0 y1 y2 y3 y4 y5)).2) y1 y2 (m_LW_law_10_11_907 i y0 y1 y2 y3 y4 y5)) P) : Ev E M_LW_law 875 [(0, vR 5 0), (1, vR 0 0), (2, vR 0 6), (3, vR 0 27), (4, vI (nI i))] [vI (m_LW_law_10_11_875 i y0 y1 y2 y3 y4 y5), vI y2, vI y1, vR 0 0] h P := by
  refine Ev_callS (M' := M_LW_crossmatch) (as := [vR 0 0, vI y1, vI y2, vI (m_LW_law_10_11_875 i y0 y1 y2 y3 y4 y5)]) (st := []) (pc := 875) d_LW_law_875 rfl rfl rfl s_LW_crossmatch lk_LW_159 rfl rfl (c_LW_crossmatch hP hR hZ hU ?_)
  refine Ev_istore (pc := 878) d_LW_law_878 rfl ?_
  refine Ev_aload_n (pc := 880) d_LW_law_880 rfl ?_
  refine Ev_aload_n (pc := 881) d_LW_law_881 rfl ?_
  refine Ev_iload (pc := 882) d_LW_law_882 rfl ?_
  refine Ev_iconst (v := 1) (pc := 884) d_LW_law_884 (by decide) ?_
  refine Ev_iadd (pc := 885) d_LW_law_885 ?_
  refine Ev_scr (pc := 886) d_LW_law_886 n4 ?_
  refine Ev_aload_n (pc := 887) d_LW_law_887 rfl ?_
  refine Ev_iload (pc := 888) d_LW_law_888 rfl ?_
  refine Ev_iconst (v := 2) (pc := 890) d_LW_law_890 (by decide) ?_
  refine Ev_iadd (pc := 891) d_LW_law_891 ?_
  refine Ev_scr (pc := 892) d_LW_law_892 n5 ?_
  refine Ev_aload_n (pc := 893) d_LW_law_893 rfl ?_
  refine Ev_iload (pc := 894) d_LW_law_894 rfl ?_
  refine Ev_iconst (v := 3) (pc := 896) d_LW_law_896 (by decide) ?_
  refine Ev_iadd (pc := 897) d_LW_law_897 ?_
  refine Ev_scr (pc := 898) d_LW_law_898 n6 ?_
  refine Ev_if_eq (tgt := 906) (pc := 899) d_LW_law_899 rfl (fun q2 => ?_) (fun q2 => ?_)
  · refine Ev_iconst (v := 0) (pc := 906) d_LW_law_906 (by decide) ?_
    have j := c_LW_law_10_11_907 (E := E) (P := P) (h := h) (i := i) (y0 := y0) (y1 := y1) (y2 := y2) (y3 := y3) (y4 := y4) (y5 := y5) n7 n8 n9 n10 n11 n12 n13 n14 k
    rw [m_LW_law_10_11_907, if_pos q2] at j
    exact j
  · refine Ev_iconst (v := 1) (pc := 902) d_LW_law_902 (by decide) ?_
    refine Ev_goto (tgt := 907) (pc := 903) d_LW_law_903 rfl ?_
    have j := c_LW_law_10_11_907 (E := E) (P := P) (h := h) (i := i) (y0 := y0) (y1 := y1) (y2 := y2) (y3 := y3) (y4 := y4) (y5 := y5) n7 n8 n9 n10 n11 n12 n13 n14 k
    rw [m_LW_law_10_11_907, if_neg q2] at j
    exact j
theorem c_LW_law_10_11 {E : ev_E} {P : Option ev_V ⊕ Nat → ev_H → Prop} {h : ev_H} {i : Nat} {y0 : Int32} {y1 : Int32} {y2 : Int32} {y3 : Int32} {y4 : Int32} {y5 : Int32} (n0 : sok E ((nI i) + 1) y1) (n1 : sok E ((nI i) + 2) y2) (n2 : sok E ((nI i) + 3) y3) (hP : pok h) (hR : rfs h) (hZ : cZ h < ZM) (hU : uok h) (n7 : f_MO_isPatient ((f_LW_crossmatch h y1 y2 (m_LW_law_10_11_875 i y0 y1 y2 y3 y4 y5)).2) y1 = 1) (n8 : f_MO_isUnit ((f_LW_crossmatch h y1 y2 (m_LW_law_10_11_875 i y0 y1 y2 y3 y4 y5)).2) y2 = 1) (n9 : rfs ((f_LW_crossmatch h y1 y2 (m_LW_law_10_11_875 i y0 y1 y2 y3 y4 y5)).2)) (n10 : ¬ y2 < 0) (n11 : y2.toNatClampNeg < 48) (n12 : ¬ ((48 * y1) + y2) < 0) (n13 : ((48 * y1) + y2).toNatClampNeg < 480) (n14 : (f_MO_thrown (f_MO_crossmatch_11 ((f_LW_crossmatch h y1 y2 (m_LW_law_10_11_875 i y0 y1 y2 y3 y4 y5)).2) y1 y2 (m_LW_law_10_11_907 i y0 y1 y2 y3 y4 y5))) = ((f_LW_crossmatch h y1 y2 (m_LW_law_10_11_875 i y0 y1 y2 y3 y4 y5)).1)) (k : Ev E M_LW_law 2164 [(0, vR 5 0), (1, vR 0 0), (2, vR 0 6), (3, vR 0 27), (4, vI (nI i))] [] (f_MO_crossmatch_11 ((f_LW_crossmatch h y1 y2 (m_LW_law_10_11_875 i y0 y1 y2 y3 y4 y5)).2) y1 y2 (m_LW_law_10_11_907 i y0 y1 y2 y3 y4 y5)) P) : Ev E M_LW_law 848 [(0, vR 5 0), (1, vR 0 0), (2, vR 0 6), (3, vR 0 27), (4, vI (nI i))] [] h P := by
  refine Ev_aload_n (pc := 848) d_LW_law_848 rfl ?_
  refine Ev_aload_n (pc := 849) d_LW_law_849 rfl ?_
  refine Ev_iload (pc := 850) d_LW_law_850 rfl ?_
  refine Ev_iconst (v := 1) (pc := 852) d_LW_law_852 (by decide) ?_
  refine Ev_iadd (pc := 853) d_LW_law_853 ?_
  refine Ev_scr (pc := 854) d_LW_law_854 n0 ?_
  refine Ev_aload_n (pc := 855) d_LW_law_855 rfl ?_
  refine Ev_iload (pc := 856) d_LW_law_856 rfl ?_
  refine Ev_iconst (v := 2) (pc := 858) d_LW_law_858 (by decide) ?_
  refine Ev_iadd (pc := 859) d_LW_law_859 ?_
  refine Ev_scr (pc := 860) d_LW_law_860 n1 ?_
  refine Ev_aload_n (pc := 861) d_LW_law_861 rfl ?_
  refine Ev_iload (pc := 862) d_LW_law_862 rfl ?_
  refine Ev_iconst (v := 3) (pc := 864) d_LW_law_864 (by decide) ?_
  refine Ev_iadd (pc := 865) d_LW_law_865 ?_
  refine Ev_scr (pc := 866) d_LW_law_866 n2 ?_
  refine Ev_if_eq (tgt := 874) (pc := 867) d_LW_law_867 rfl (fun q1 => ?_) (fun q1 => ?_)
  · refine Ev_iconst (v := 0) (pc := 874) d_LW_law_874 (by decide) ?_
    have j := c_LW_law_10_11_875 (E := E) (P := P) (h := h) (i := i) (y0 := y0) (y1 := y1) (y2 := y2) (y3 := y3) (y4 := y4) (y5 := y5) hP hR hZ hU n0 n1 n2 n7 n8 n9 n10 n11 n12 n13 n14 k
    rw [m_LW_law_10_11_875, if_pos q1] at j
    exact j
  · refine Ev_iconst (v := 1) (pc := 870) d_LW_law_870 (by decide) ?_
    refine Ev_goto (tgt := 875) (pc := 871) d_LW_law_871 rfl ?_
    have j := c_LW_law_10_11_875 (E := E) (P := P) (h := h) (i := i) (y0 := y0) (y1 := y1) (y2 := y2) (y3 := y3) (y4 := y4) (y5 := y5) hP hR hZ hU n0 n1 n2 n7 n8 n9 n10 n11 n12 n13 n14 k
    rw [m_LW_law_10_11_875, if_neg q1] at j
    exact j
def m_LW_law_10_10_875 (i : Nat) (y0 : Int32) (y1 : Int32) (y2 : Int32) (y3 : Int32) (y4 : Int32) (y5 : Int32) : Int32 := (if y3 = 0 then 0 else 1)
def m_LW_law_10_10_907 (i : Nat) (y0 : Int32) (y1 : Int32) (y2 : Int32) (y3 : Int32) (y4 : Int32) (y5 : Int32) : Int32 := (if y3 = 0 then 0 else 1)
theorem c_LW_law_10_10_907 {E : ev_E} {P : Option ev_V ⊕ Nat → ev_H → Prop} {h : ev_H} {i : Nat} {y0 : Int32} {y1 : Int32} {y2 : Int32} {y3 : Int32} {y4 : Int32} {y5 : Int32} (n0 : f_MO_isPatient ((f_LW_crossmatch h y1 y2 (m_LW_law_10_10_875 i y0 y1 y2 y3 y4 y5)).2) y1 = 1) (n1 : f_MO_isUnit ((f_LW_crossmatch h y1 y2 (m_LW_law_10_10_875 i y0 y1 y2 y3 y4 y5)).2) y2 = 0) (e1 : (f_MO_thrown (f_MO_crossmatch_10 ((f_LW_crossmatch h y1 y2 (m_LW_law_10_10_875 i y0 y1 y2 y3 y4 y5)).2) y1 y2 (m_LW_law_10_10_907 i y0 y1 y2 y3 y4 y5))) = ((f_LW_crossmatch h y1 y2 (m_LW_law_10_10_875 i y0 y1 y2 y3 y4 y5)).1)) (k : Ev E M_LW_law 2164 [(0, vR 5 0), (1, vR 0 0), (2, vR 0 6), (3, vR 0 27), (4, vI (nI i))] [] (f_MO_crossmatch_10 ((f_LW_crossmatch h y1 y2 (m_LW_law_10_10_875 i y0 y1 y2 y3 y4 y5)).2) y1 y2 (m_LW_law_10_10_907 i y0 y1 y2 y3 y4 y5)) P) : Ev E M_LW_law 907 [(0, vR 5 0), (1, vR 0 0), (2, vR 0 6), (3, vR 0 27), (4, vI (nI i)), (5, vI ((f_LW_crossmatch h y1 y2 (m_LW_law_10_10_875 i y0 y1 y2 y3 y4 y5)).1))] [vI (m_LW_law_10_10_907 i y0 y1 y2 y3 y4 y5), vI y2, vI y1, vR 0 6] ((f_LW_crossmatch h y1 y2 (m_LW_law_10_10_875 i y0 y1 y2 y3 y4 y5)).2) P := by
  refine Ev_callV (M' := M_MO_crossmatch) (as := [vI y1, vI y2, vI (m_LW_law_10_10_907 i y0 y1 y2 y3 y4 y5)]) (st := []) (a := 0) (i := 6) (pc := 907) d_LW_law_907 rfl rfl rfl rfl rfl rfl rfl v_MO_crossmatch lk_LW_162 rfl rfl (c_MO_crossmatch_10 n0 n1 ?_)
  refine Ev_aload_n (pc := 910) d_LW_law_910 rfl ?_
  refine Ev_callV (M' := M_MO_thrown) (as := []) (st := []) (a := 0) (i := 6) (pc := 911) d_LW_law_911 rfl rfl rfl rfl rfl rfl rfl v_MO_thrown lk_LW_124 rfl rfl (c_MO_thrown  ?_)
  refine Ev_iload (pc := 914) d_LW_law_914 rfl ?_
  refine Ev_icmp_eq (tgt := 921) (pc := 916) d_LW_law_916 rfl (fun _ => ?_) (fun q => absurd e1 q)
  refine Ev_goto (tgt := 2164) (pc := 921) d_LW_law_921 rfl ?_
  refine Ev_sub (lsub ?_) k
  exact (And.intro rfl (And.intro rfl (And.intro rfl (And.intro rfl (And.intro rfl trivial)))))
theorem c_LW_law_10_10_875 {E : ev_E} {P : Option ev_V ⊕ Nat → ev_H → Prop} {h : ev_H} {i : Nat} {y0 : Int32} {y1 : Int32} {y2 : Int32} {y3 : Int32} {y4 : Int32} {y5 : Int32} (hP : pok h) (hR : rfs h) (hZ : cZ h < ZM) (hU : uok h) (n4 : sok E ((nI i) + 1) y1) (n5 : sok E ((nI i) + 2) y2) (n6 : sok E ((nI i) + 3) y3) (n7 : f_MO_isPatient ((f_LW_crossmatch h y1 y2 (m_LW_law_10_10_875 i y0 y1 y2 y3 y4 y5)).2) y1 = 1) (n8 : f_MO_isUnit ((f_LW_crossmatch h y1 y2 (m_LW_law_10_10_875 i y0 y1 y2 y3 y4 y5)).2) y2 = 0) (n9 : (f_MO_thrown (f_MO_crossmatch_10 ((f_LW_crossmatch h y1 y2 (m_LW_law_10_10_875 i y0 y1 y2 y3 y4 y5)).2) y1 y2 (m_LW_law_10_10_907 i y0 y1 y2 y3 y4 y5))) = ((f_LW_crossmatch h y1 y2 (m_LW_law_10_10_875 i y0 y1 y2 y3 y4 y5)).1)) (k : Ev E M_LW_law 2164 [(0, vR 5 0), (1, vR 0 0), (2, vR 0 6), (3, vR 0 27), (4, vI (nI i))] [] (f_MO_crossmatch_10 ((f_LW_crossmatch h y1 y2 (m_LW_law_10_10_875 i y0 y1 y2 y3 y4 y5)).2) y1 y2 (m_LW_law_10_10_907 i y0 y1 y2 y3 y4 y5)) P) : Ev E M_LW_law 875 [(0, vR 5 0), (1, vR 0 0), (2, vR 0 6), (3, vR 0 27), (4, vI (nI i))] [vI (m_LW_law_10_10_875 i y0 y1 y2 y3 y4 y5), vI y2, vI y1, vR 0 0] h P := by
  refine Ev_callS (M' := M_LW_crossmatch) (as := [vR 0 0, vI y1, vI y2, vI (m_LW_law_10_10_875 i y0 y1 y2 y3 y4 y5)]) (st := []) (pc := 875) d_LW_law_875 rfl rfl rfl s_LW_crossmatch lk_LW_159 rfl rfl (c_LW_crossmatch hP hR hZ hU ?_)
  refine Ev_istore (pc := 878) d_LW_law_878 rfl ?_
  refine Ev_aload_n (pc := 880) d_LW_law_880 rfl ?_
  refine Ev_aload_n (pc := 881) d_LW_law_881 rfl ?_
  refine Ev_iload (pc := 882) d_LW_law_882 rfl ?_
  refine Ev_iconst (v := 1) (pc := 884) d_LW_law_884 (by decide) ?_
  refine Ev_iadd (pc := 885) d_LW_law_885 ?_
  refine Ev_scr (pc := 886) d_LW_law_886 n4 ?_
  refine Ev_aload_n (pc := 887) d_LW_law_887 rfl ?_
  refine Ev_iload (pc := 888) d_LW_law_888 rfl ?_
  refine Ev_iconst (v := 2) (pc := 890) d_LW_law_890 (by decide) ?_
  refine Ev_iadd (pc := 891) d_LW_law_891 ?_
  refine Ev_scr (pc := 892) d_LW_law_892 n5 ?_
  refine Ev_aload_n (pc := 893) d_LW_law_893 rfl ?_
  refine Ev_iload (pc := 894) d_LW_law_894 rfl ?_
  refine Ev_iconst (v := 3) (pc := 896) d_LW_law_896 (by decide) ?_
  refine Ev_iadd (pc := 897) d_LW_law_897 ?_
  refine Ev_scr (pc := 898) d_LW_law_898 n6 ?_
  refine Ev_if_eq (tgt := 906) (pc := 899) d_LW_law_899 rfl (fun q2 => ?_) (fun q2 => ?_)
  · refine Ev_iconst (v := 0) (pc := 906) d_LW_law_906 (by decide) ?_
    have j := c_LW_law_10_10_907 (E := E) (P := P) (h := h) (i := i) (y0 := y0) (y1 := y1) (y2 := y2) (y3 := y3) (y4 := y4) (y5 := y5) n7 n8 n9 k
    rw [m_LW_law_10_10_907, if_pos q2] at j
    exact j
  · refine Ev_iconst (v := 1) (pc := 902) d_LW_law_902 (by decide) ?_
    refine Ev_goto (tgt := 907) (pc := 903) d_LW_law_903 rfl ?_
    have j := c_LW_law_10_10_907 (E := E) (P := P) (h := h) (i := i) (y0 := y0) (y1 := y1) (y2 := y2) (y3 := y3) (y4 := y4) (y5 := y5) n7 n8 n9 k
    rw [m_LW_law_10_10_907, if_neg q2] at j
    exact j
theorem c_LW_law_10_10 {E : ev_E} {P : Option ev_V ⊕ Nat → ev_H → Prop} {h : ev_H} {i : Nat} {y0 : Int32} {y1 : Int32} {y2 : Int32} {y3 : Int32} {y4 : Int32} {y5 : Int32} (n0 : sok E ((nI i) + 1) y1) (n1 : sok E ((nI i) + 2) y2) (n2 : sok E ((nI i) + 3) y3) (hP : pok h) (hR : rfs h) (hZ : cZ h < ZM) (hU : uok h) (n7 : f_MO_isPatient ((f_LW_crossmatch h y1 y2 (m_LW_law_10_10_875 i y0 y1 y2 y3 y4 y5)).2) y1 = 1) (n8 : f_MO_isUnit ((f_LW_crossmatch h y1 y2 (m_LW_law_10_10_875 i y0 y1 y2 y3 y4 y5)).2) y2 = 0) (n9 : (f_MO_thrown (f_MO_crossmatch_10 ((f_LW_crossmatch h y1 y2 (m_LW_law_10_10_875 i y0 y1 y2 y3 y4 y5)).2) y1 y2 (m_LW_law_10_10_907 i y0 y1 y2 y3 y4 y5))) = ((f_LW_crossmatch h y1 y2 (m_LW_law_10_10_875 i y0 y1 y2 y3 y4 y5)).1)) (k : Ev E M_LW_law 2164 [(0, vR 5 0), (1, vR 0 0), (2, vR 0 6), (3, vR 0 27), (4, vI (nI i))] [] (f_MO_crossmatch_10 ((f_LW_crossmatch h y1 y2 (m_LW_law_10_10_875 i y0 y1 y2 y3 y4 y5)).2) y1 y2 (m_LW_law_10_10_907 i y0 y1 y2 y3 y4 y5)) P) : Ev E M_LW_law 848 [(0, vR 5 0), (1, vR 0 0), (2, vR 0 6), (3, vR 0 27), (4, vI (nI i))] [] h P := by
  refine Ev_aload_n (pc := 848) d_LW_law_848 rfl ?_
  refine Ev_aload_n (pc := 849) d_LW_law_849 rfl ?_
  refine Ev_iload (pc := 850) d_LW_law_850 rfl ?_
  refine Ev_iconst (v := 1) (pc := 852) d_LW_law_852 (by decide) ?_
  refine Ev_iadd (pc := 853) d_LW_law_853 ?_
  refine Ev_scr (pc := 854) d_LW_law_854 n0 ?_
  refine Ev_aload_n (pc := 855) d_LW_law_855 rfl ?_
  refine Ev_iload (pc := 856) d_LW_law_856 rfl ?_
  refine Ev_iconst (v := 2) (pc := 858) d_LW_law_858 (by decide) ?_
  refine Ev_iadd (pc := 859) d_LW_law_859 ?_
  refine Ev_scr (pc := 860) d_LW_law_860 n1 ?_
  refine Ev_aload_n (pc := 861) d_LW_law_861 rfl ?_
  refine Ev_iload (pc := 862) d_LW_law_862 rfl ?_
  refine Ev_iconst (v := 3) (pc := 864) d_LW_law_864 (by decide) ?_
  refine Ev_iadd (pc := 865) d_LW_law_865 ?_
  refine Ev_scr (pc := 866) d_LW_law_866 n2 ?_
  refine Ev_if_eq (tgt := 874) (pc := 867) d_LW_law_867 rfl (fun q1 => ?_) (fun q1 => ?_)
  · refine Ev_iconst (v := 0) (pc := 874) d_LW_law_874 (by decide) ?_
    have j := c_LW_law_10_10_875 (E := E) (P := P) (h := h) (i := i) (y0 := y0) (y1 := y1) (y2 := y2) (y3 := y3) (y4 := y4) (y5 := y5) hP hR hZ hU n0 n1 n2 n7 n8 n9 k
    rw [m_LW_law_10_10_875, if_pos q1] at j
    exact j
  · refine Ev_iconst (v := 1) (pc := 870) d_LW_law_870 (by decide) ?_
    refine Ev_goto (tgt := 875) (pc := 871) d_LW_law_871 rfl ?_
    have j := c_LW_law_10_10_875 (E := E) (P := P) (h := h) (i := i) (y0 := y0) (y1 := y1) (y2 := y2) (y3 := y3) (y4 := y4) (y5 := y5) hP hR hZ hU n0 n1 n2 n7 n8 n9 k
    rw [m_LW_law_10_10_875, if_neg q1] at j
    exact j
def m_LW_law_10_0_875 (i : Nat) (y0 : Int32) (y1 : Int32) (y2 : Int32) (y3 : Int32) (y4 : Int32) (y5 : Int32) : Int32 := (if y3 = 0 then 0 else 1)
def m_LW_law_10_0_907 (i : Nat) (y0 : Int32) (y1 : Int32) (y2 : Int32) (y3 : Int32) (y4 : Int32) (y5 : Int32) : Int32 := (if y3 = 0 then 0 else 1)
theorem c_LW_law_10_0_907 {E : ev_E} {P : Option ev_V ⊕ Nat → ev_H → Prop} {h : ev_H} {i : Nat} {y0 : Int32} {y1 : Int32} {y2 : Int32} {y3 : Int32} {y4 : Int32} {y5 : Int32} (n0 : f_MO_isPatient ((f_LW_crossmatch h y1 y2 (m_LW_law_10_0_875 i y0 y1 y2 y3 y4 y5)).2) y1 = 0) (e1 : (f_MO_thrown (f_MO_crossmatch_0 ((f_LW_crossmatch h y1 y2 (m_LW_law_10_0_875 i y0 y1 y2 y3 y4 y5)).2) y1 y2 (m_LW_law_10_0_907 i y0 y1 y2 y3 y4 y5))) = ((f_LW_crossmatch h y1 y2 (m_LW_law_10_0_875 i y0 y1 y2 y3 y4 y5)).1)) (k : Ev E M_LW_law 2164 [(0, vR 5 0), (1, vR 0 0), (2, vR 0 6), (3, vR 0 27), (4, vI (nI i))] [] (f_MO_crossmatch_0 ((f_LW_crossmatch h y1 y2 (m_LW_law_10_0_875 i y0 y1 y2 y3 y4 y5)).2) y1 y2 (m_LW_law_10_0_907 i y0 y1 y2 y3 y4 y5)) P) : Ev E M_LW_law 907 [(0, vR 5 0), (1, vR 0 0), (2, vR 0 6), (3, vR 0 27), (4, vI (nI i)), (5, vI ((f_LW_crossmatch h y1 y2 (m_LW_law_10_0_875 i y0 y1 y2 y3 y4 y5)).1))] [vI (m_LW_law_10_0_907 i y0 y1 y2 y3 y4 y5), vI y2, vI y1, vR 0 6] ((f_LW_crossmatch h y1 y2 (m_LW_law_10_0_875 i y0 y1 y2 y3 y4 y5)).2) P := by
  refine Ev_callV (M' := M_MO_crossmatch) (as := [vI y1, vI y2, vI (m_LW_law_10_0_907 i y0 y1 y2 y3 y4 y5)]) (st := []) (a := 0) (i := 6) (pc := 907) d_LW_law_907 rfl rfl rfl rfl rfl rfl rfl v_MO_crossmatch lk_LW_162 rfl rfl (c_MO_crossmatch_0 n0 ?_)
  refine Ev_aload_n (pc := 910) d_LW_law_910 rfl ?_
  refine Ev_callV (M' := M_MO_thrown) (as := []) (st := []) (a := 0) (i := 6) (pc := 911) d_LW_law_911 rfl rfl rfl rfl rfl rfl rfl v_MO_thrown lk_LW_124 rfl rfl (c_MO_thrown  ?_)
  refine Ev_iload (pc := 914) d_LW_law_914 rfl ?_
  refine Ev_icmp_eq (tgt := 921) (pc := 916) d_LW_law_916 rfl (fun _ => ?_) (fun q => absurd e1 q)
  refine Ev_goto (tgt := 2164) (pc := 921) d_LW_law_921 rfl ?_
  refine Ev_sub (lsub ?_) k
  exact (And.intro rfl (And.intro rfl (And.intro rfl (And.intro rfl (And.intro rfl trivial)))))
theorem c_LW_law_10_0_875 {E : ev_E} {P : Option ev_V ⊕ Nat → ev_H → Prop} {h : ev_H} {i : Nat} {y0 : Int32} {y1 : Int32} {y2 : Int32} {y3 : Int32} {y4 : Int32} {y5 : Int32} (hP : pok h) (hR : rfs h) (hZ : cZ h < ZM) (hU : uok h) (n4 : sok E ((nI i) + 1) y1) (n5 : sok E ((nI i) + 2) y2) (n6 : sok E ((nI i) + 3) y3) (n7 : f_MO_isPatient ((f_LW_crossmatch h y1 y2 (m_LW_law_10_0_875 i y0 y1 y2 y3 y4 y5)).2) y1 = 0) (n8 : (f_MO_thrown (f_MO_crossmatch_0 ((f_LW_crossmatch h y1 y2 (m_LW_law_10_0_875 i y0 y1 y2 y3 y4 y5)).2) y1 y2 (m_LW_law_10_0_907 i y0 y1 y2 y3 y4 y5))) = ((f_LW_crossmatch h y1 y2 (m_LW_law_10_0_875 i y0 y1 y2 y3 y4 y5)).1)) (k : Ev E M_LW_law 2164 [(0, vR 5 0), (1, vR 0 0), (2, vR 0 6), (3, vR 0 27), (4, vI (nI i))] [] (f_MO_crossmatch_0 ((f_LW_crossmatch h y1 y2 (m_LW_law_10_0_875 i y0 y1 y2 y3 y4 y5)).2) y1 y2 (m_LW_law_10_0_907 i y0 y1 y2 y3 y4 y5)) P) : Ev E M_LW_law 875 [(0, vR 5 0), (1, vR 0 0), (2, vR 0 6), (3, vR 0 27), (4, vI (nI i))] [vI (m_LW_law_10_0_875 i y0 y1 y2 y3 y4 y5), vI y2, vI y1, vR 0 0] h P := by
  refine Ev_callS (M' := M_LW_crossmatch) (as := [vR 0 0, vI y1, vI y2, vI (m_LW_law_10_0_875 i y0 y1 y2 y3 y4 y5)]) (st := []) (pc := 875) d_LW_law_875 rfl rfl rfl s_LW_crossmatch lk_LW_159 rfl rfl (c_LW_crossmatch hP hR hZ hU ?_)
  refine Ev_istore (pc := 878) d_LW_law_878 rfl ?_
  refine Ev_aload_n (pc := 880) d_LW_law_880 rfl ?_
  refine Ev_aload_n (pc := 881) d_LW_law_881 rfl ?_
  refine Ev_iload (pc := 882) d_LW_law_882 rfl ?_
  refine Ev_iconst (v := 1) (pc := 884) d_LW_law_884 (by decide) ?_
  refine Ev_iadd (pc := 885) d_LW_law_885 ?_
  refine Ev_scr (pc := 886) d_LW_law_886 n4 ?_
  refine Ev_aload_n (pc := 887) d_LW_law_887 rfl ?_
  refine Ev_iload (pc := 888) d_LW_law_888 rfl ?_
  refine Ev_iconst (v := 2) (pc := 890) d_LW_law_890 (by decide) ?_
  refine Ev_iadd (pc := 891) d_LW_law_891 ?_
  refine Ev_scr (pc := 892) d_LW_law_892 n5 ?_
  refine Ev_aload_n (pc := 893) d_LW_law_893 rfl ?_
  refine Ev_iload (pc := 894) d_LW_law_894 rfl ?_
  refine Ev_iconst (v := 3) (pc := 896) d_LW_law_896 (by decide) ?_
  refine Ev_iadd (pc := 897) d_LW_law_897 ?_
  refine Ev_scr (pc := 898) d_LW_law_898 n6 ?_
  refine Ev_if_eq (tgt := 906) (pc := 899) d_LW_law_899 rfl (fun q2 => ?_) (fun q2 => ?_)
  · refine Ev_iconst (v := 0) (pc := 906) d_LW_law_906 (by decide) ?_
    have j := c_LW_law_10_0_907 (E := E) (P := P) (h := h) (i := i) (y0 := y0) (y1 := y1) (y2 := y2) (y3 := y3) (y4 := y4) (y5 := y5) n7 n8 k
    rw [m_LW_law_10_0_907, if_pos q2] at j
    exact j
  · refine Ev_iconst (v := 1) (pc := 902) d_LW_law_902 (by decide) ?_
    refine Ev_goto (tgt := 907) (pc := 903) d_LW_law_903 rfl ?_
    have j := c_LW_law_10_0_907 (E := E) (P := P) (h := h) (i := i) (y0 := y0) (y1 := y1) (y2 := y2) (y3 := y3) (y4 := y4) (y5 := y5) n7 n8 k
    rw [m_LW_law_10_0_907, if_neg q2] at j
    exact j
theorem c_LW_law_10_0 {E : ev_E} {P : Option ev_V ⊕ Nat → ev_H → Prop} {h : ev_H} {i : Nat} {y0 : Int32} {y1 : Int32} {y2 : Int32} {y3 : Int32} {y4 : Int32} {y5 : Int32} (n0 : sok E ((nI i) + 1) y1) (n1 : sok E ((nI i) + 2) y2) (n2 : sok E ((nI i) + 3) y3) (hP : pok h) (hR : rfs h) (hZ : cZ h < ZM) (hU : uok h) (n7 : f_MO_isPatient ((f_LW_crossmatch h y1 y2 (m_LW_law_10_0_875 i y0 y1 y2 y3 y4 y5)).2) y1 = 0) (n8 : (f_MO_thrown (f_MO_crossmatch_0 ((f_LW_crossmatch h y1 y2 (m_LW_law_10_0_875 i y0 y1 y2 y3 y4 y5)).2) y1 y2 (m_LW_law_10_0_907 i y0 y1 y2 y3 y4 y5))) = ((f_LW_crossmatch h y1 y2 (m_LW_law_10_0_875 i y0 y1 y2 y3 y4 y5)).1)) (k : Ev E M_LW_law 2164 [(0, vR 5 0), (1, vR 0 0), (2, vR 0 6), (3, vR 0 27), (4, vI (nI i))] [] (f_MO_crossmatch_0 ((f_LW_crossmatch h y1 y2 (m_LW_law_10_0_875 i y0 y1 y2 y3 y4 y5)).2) y1 y2 (m_LW_law_10_0_907 i y0 y1 y2 y3 y4 y5)) P) : Ev E M_LW_law 848 [(0, vR 5 0), (1, vR 0 0), (2, vR 0 6), (3, vR 0 27), (4, vI (nI i))] [] h P := by
  refine Ev_aload_n (pc := 848) d_LW_law_848 rfl ?_
  refine Ev_aload_n (pc := 849) d_LW_law_849 rfl ?_
  refine Ev_iload (pc := 850) d_LW_law_850 rfl ?_
  refine Ev_iconst (v := 1) (pc := 852) d_LW_law_852 (by decide) ?_
  refine Ev_iadd (pc := 853) d_LW_law_853 ?_
  refine Ev_scr (pc := 854) d_LW_law_854 n0 ?_
  refine Ev_aload_n (pc := 855) d_LW_law_855 rfl ?_
  refine Ev_iload (pc := 856) d_LW_law_856 rfl ?_
  refine Ev_iconst (v := 2) (pc := 858) d_LW_law_858 (by decide) ?_
  refine Ev_iadd (pc := 859) d_LW_law_859 ?_
  refine Ev_scr (pc := 860) d_LW_law_860 n1 ?_
  refine Ev_aload_n (pc := 861) d_LW_law_861 rfl ?_
  refine Ev_iload (pc := 862) d_LW_law_862 rfl ?_
  refine Ev_iconst (v := 3) (pc := 864) d_LW_law_864 (by decide) ?_
  refine Ev_iadd (pc := 865) d_LW_law_865 ?_
  refine Ev_scr (pc := 866) d_LW_law_866 n2 ?_
  refine Ev_if_eq (tgt := 874) (pc := 867) d_LW_law_867 rfl (fun q1 => ?_) (fun q1 => ?_)
  · refine Ev_iconst (v := 0) (pc := 874) d_LW_law_874 (by decide) ?_
    have j := c_LW_law_10_0_875 (E := E) (P := P) (h := h) (i := i) (y0 := y0) (y1 := y1) (y2 := y2) (y3 := y3) (y4 := y4) (y5 := y5) hP hR hZ hU n0 n1 n2 n7 n8 k
    rw [m_LW_law_10_0_875, if_pos q1] at j
    exact j
  · refine Ev_iconst (v := 1) (pc := 870) d_LW_law_870 (by decide) ?_
    refine Ev_goto (tgt := 875) (pc := 871) d_LW_law_871 rfl ?_
    have j := c_LW_law_10_0_875 (E := E) (P := P) (h := h) (i := i) (y0 := y0) (y1 := y1) (y2 := y2) (y3 := y3) (y4 := y4) (y5 := y5) hP hR hZ hU n0 n1 n2 n7 n8 k
    rw [m_LW_law_10_0_875, if_neg q1] at j
    exact j
theorem c_LW_law_11_11 {E : ev_E} {P : Option ev_V ⊕ Nat → ev_H → Prop} {h : ev_H} {i : Nat} {y0 : Int32} {y1 : Int32} {y2 : Int32} {y3 : Int32} {y4 : Int32} {y5 : Int32} (n0 : sok E ((nI i) + 1) y1) (n1 : sok E ((nI i) + 2) y2) (hP : pok h) (hR : rfs h) (hZ : cZ h < ZM) (hU : uok h) (n6 : f_MO_isPatient ((f_LW_reserve h y1 y2).2) y1 = 1) (n7 : f_MO_isUnit ((f_LW_reserve h y1 y2).2) y2 = 1) (n8 : rfs ((f_LW_reserve h y1 y2).2)) (n9 : ¬ y2 < 0) (n10 : y2.toNatClampNeg < 48) (n11 : ¬ y1 < 0) (n12 : y1.toNatClampNeg < 10) (n13 : ¬ ((48 * y1) + y2) < 0) (n14 : ((48 * y1) + y2).toNatClampNeg < 480) (e1 : (f_MO_thrown ((f_MO_reserve_11 ((f_LW_reserve h y1 y2).2) y1 y2).2)) = ((f_LW_reserve h y1 y2).1)) (e2 : ((f_LW_reserve h y1 y2).1) = 0 → (lg_cmp (gL ((f_MO_reserve_11 ((f_LW_reserve h y1 y2).2) y1 y2).2) 0 27 0) (((f_MO_reserve_11 ((f_LW_reserve h y1 y2).2) y1 y2).1).toInt64)) = 0) (k : Ev E M_LW_law 2164 [(0, vR 5 0), (1, vR 0 0), (2, vR 0 6), (3, vR 0 27), (4, vI (nI i))] [] ((f_MO_reserve_11 ((f_LW_reserve h y1 y2).2) y1 y2).2) P) : Ev E M_LW_law 924 [(0, vR 5 0), (1, vR 0 0), (2, vR 0 6), (3, vR 0 27), (4, vI (nI i))] [] h P := by
  refine Ev_aload_n (pc := 924) d_LW_law_924 rfl ?_
  refine Ev_aload_n (pc := 925) d_LW_law_925 rfl ?_
  refine Ev_iload (pc := 926) d_LW_law_926 rfl ?_
  refine Ev_iconst (v := 1) (pc := 928) d_LW_law_928 (by decide) ?_
  refine Ev_iadd (pc := 929) d_LW_law_929 ?_
  refine Ev_scr (pc := 930) d_LW_law_930 n0 ?_
  refine Ev_aload_n (pc := 931) d_LW_law_931 rfl ?_
  refine Ev_iload (pc := 932) d_LW_law_932 rfl ?_
  refine Ev_iconst (v := 2) (pc := 934) d_LW_law_934 (by decide) ?_
  refine Ev_iadd (pc := 935) d_LW_law_935 ?_
  refine Ev_scr (pc := 936) d_LW_law_936 n1 ?_
  refine Ev_aload_n (pc := 937) d_LW_law_937 rfl ?_
  refine Ev_callS (M' := M_LW_reserve) (as := [vR 0 0, vI y1, vI y2, vR 0 27]) (st := []) (pc := 938) d_LW_law_938 rfl rfl rfl s_LW_reserve lk_LW_163 rfl rfl (c_LW_reserve hP hR hZ hU ?_)
  refine Ev_istore (pc := 941) d_LW_law_941 rfl ?_
  refine Ev_aload_n (pc := 943) d_LW_law_943 rfl ?_
  refine Ev_aload_n (pc := 944) d_LW_law_944 rfl ?_
  refine Ev_iload (pc := 945) d_LW_law_945 rfl ?_
  refine Ev_iconst (v := 1) (pc := 947) d_LW_law_947 (by decide) ?_
  refine Ev_iadd (pc := 948) d_LW_law_948 ?_
  refine Ev_scr (pc := 949) d_LW_law_949 n0 ?_
  refine Ev_aload_n (pc := 950) d_LW_law_950 rfl ?_
  refine Ev_iload (pc := 951) d_LW_law_951 rfl ?_
  refine Ev_iconst (v := 2) (pc := 953) d_LW_law_953 (by decide) ?_
  refine Ev_iadd (pc := 954) d_LW_law_954 ?_
  refine Ev_scr (pc := 955) d_LW_law_955 n1 ?_
  refine Ev_callV (M' := M_MO_reserve) (as := [vI y1, vI y2]) (st := []) (a := 0) (i := 6) (pc := 956) d_LW_law_956 rfl rfl rfl rfl rfl rfl rfl v_MO_reserve lk_LW_165 rfl rfl (c_MO_reserve_11 n6 n7 n8 n9 n10 n11 n12 n13 n14 ?_)
  refine Ev_istore (pc := 959) d_LW_law_959 rfl ?_
  refine Ev_aload_n (pc := 961) d_LW_law_961 rfl ?_
  refine Ev_callV (M' := M_MO_thrown) (as := []) (st := []) (a := 0) (i := 6) (pc := 962) d_LW_law_962 rfl rfl rfl rfl rfl rfl rfl v_MO_thrown lk_LW_124 rfl rfl (c_MO_thrown  ?_)
  refine Ev_iload (pc := 965) d_LW_law_965 rfl ?_
  refine Ev_icmp_eq (tgt := 972) (pc := 967) d_LW_law_967 rfl (fun _ => ?_) (fun q => absurd e1 q)
  refine Ev_iload (pc := 972) d_LW_law_972 rfl ?_
  refine Ev_if_ne (tgt := 989) (pc := 974) d_LW_law_974 rfl (fun q1 => ?_) (fun q1 => ?_)
  · refine Ev_goto (tgt := 2164) (pc := 989) d_LW_law_989 rfl ?_
    refine Ev_sub (lsub ?_) k
    exact (And.intro rfl (And.intro rfl (And.intro rfl (And.intro rfl (And.intro rfl trivial)))))
  · refine Ev_aload_n (pc := 977) d_LW_law_977 rfl ?_
    refine Ev_iconst (v := 0) (pc := 978) d_LW_law_978 (by decide) ?_
    refine Ev_lald (pc := 979) d_LW_law_979 rfl rfl (by decide) (by decide) ?_
    refine Ev_iload (pc := 980) d_LW_law_980 rfl ?_
    refine Ev_i2l (pc := 982) d_LW_law_982 ?_
    refine Ev_lcmp (pc := 983) d_LW_law_983 ?_
    refine Ev_if_eq (tgt := 989) (pc := 984) d_LW_law_984 rfl (fun _ => ?_) (fun q => absurd (e2 q1) q)
    refine Ev_goto (tgt := 2164) (pc := 989) d_LW_law_989 rfl ?_
    refine Ev_sub (lsub ?_) k
    exact (And.intro rfl (And.intro rfl (And.intro rfl (And.intro rfl (And.intro rfl trivial)))))
theorem c_LW_law_11_10 {E : ev_E} {P : Option ev_V ⊕ Nat → ev_H → Prop} {h : ev_H} {i : Nat} {y0 : Int32} {y1 : Int32} {y2 : Int32} {y3 : Int32} {y4 : Int32} {y5 : Int32} (n0 : sok E ((nI i) + 1) y1) (n1 : sok E ((nI i) + 2) y2) (hP : pok h) (hR : rfs h) (hZ : cZ h < ZM) (hU : uok h) (n6 : f_MO_isPatient ((f_LW_reserve h y1 y2).2) y1 = 1) (n7 : f_MO_isUnit ((f_LW_reserve h y1 y2).2) y2 = 0) (e1 : (f_MO_thrown ((f_MO_reserve_10 ((f_LW_reserve h y1 y2).2) y1 y2).2)) = ((f_LW_reserve h y1 y2).1)) (e2 : ((f_LW_reserve h y1 y2).1) = 0 → (lg_cmp (gL ((f_MO_reserve_10 ((f_LW_reserve h y1 y2).2) y1 y2).2) 0 27 0) (((f_MO_reserve_10 ((f_LW_reserve h y1 y2).2) y1 y2).1).toInt64)) = 0) (k : Ev E M_LW_law 2164 [(0, vR 5 0), (1, vR 0 0), (2, vR 0 6), (3, vR 0 27), (4, vI (nI i))] [] ((f_MO_reserve_10 ((f_LW_reserve h y1 y2).2) y1 y2).2) P) : Ev E M_LW_law 924 [(0, vR 5 0), (1, vR 0 0), (2, vR 0 6), (3, vR 0 27), (4, vI (nI i))] [] h P := by
  refine Ev_aload_n (pc := 924) d_LW_law_924 rfl ?_
  refine Ev_aload_n (pc := 925) d_LW_law_925 rfl ?_
  refine Ev_iload (pc := 926) d_LW_law_926 rfl ?_
  refine Ev_iconst (v := 1) (pc := 928) d_LW_law_928 (by decide) ?_
  refine Ev_iadd (pc := 929) d_LW_law_929 ?_
  refine Ev_scr (pc := 930) d_LW_law_930 n0 ?_
  refine Ev_aload_n (pc := 931) d_LW_law_931 rfl ?_
  refine Ev_iload (pc := 932) d_LW_law_932 rfl ?_
  refine Ev_iconst (v := 2) (pc := 934) d_LW_law_934 (by decide) ?_
  refine Ev_iadd (pc := 935) d_LW_law_935 ?_
  refine Ev_scr (pc := 936) d_LW_law_936 n1 ?_
  refine Ev_aload_n (pc := 937) d_LW_law_937 rfl ?_
  refine Ev_callS (M' := M_LW_reserve) (as := [vR 0 0, vI y1, vI y2, vR 0 27]) (st := []) (pc := 938) d_LW_law_938 rfl rfl rfl s_LW_reserve lk_LW_163 rfl rfl (c_LW_reserve hP hR hZ hU ?_)
  refine Ev_istore (pc := 941) d_LW_law_941 rfl ?_
  refine Ev_aload_n (pc := 943) d_LW_law_943 rfl ?_
  refine Ev_aload_n (pc := 944) d_LW_law_944 rfl ?_
  refine Ev_iload (pc := 945) d_LW_law_945 rfl ?_
  refine Ev_iconst (v := 1) (pc := 947) d_LW_law_947 (by decide) ?_
  refine Ev_iadd (pc := 948) d_LW_law_948 ?_
  refine Ev_scr (pc := 949) d_LW_law_949 n0 ?_
  refine Ev_aload_n (pc := 950) d_LW_law_950 rfl ?_
  refine Ev_iload (pc := 951) d_LW_law_951 rfl ?_
  refine Ev_iconst (v := 2) (pc := 953) d_LW_law_953 (by decide) ?_
  refine Ev_iadd (pc := 954) d_LW_law_954 ?_
  refine Ev_scr (pc := 955) d_LW_law_955 n1 ?_
  refine Ev_callV (M' := M_MO_reserve) (as := [vI y1, vI y2]) (st := []) (a := 0) (i := 6) (pc := 956) d_LW_law_956 rfl rfl rfl rfl rfl rfl rfl v_MO_reserve lk_LW_165 rfl rfl (c_MO_reserve_10 n6 n7 ?_)
  refine Ev_istore (pc := 959) d_LW_law_959 rfl ?_
  refine Ev_aload_n (pc := 961) d_LW_law_961 rfl ?_
  refine Ev_callV (M' := M_MO_thrown) (as := []) (st := []) (a := 0) (i := 6) (pc := 962) d_LW_law_962 rfl rfl rfl rfl rfl rfl rfl v_MO_thrown lk_LW_124 rfl rfl (c_MO_thrown  ?_)
  refine Ev_iload (pc := 965) d_LW_law_965 rfl ?_
  refine Ev_icmp_eq (tgt := 972) (pc := 967) d_LW_law_967 rfl (fun _ => ?_) (fun q => absurd e1 q)
  refine Ev_iload (pc := 972) d_LW_law_972 rfl ?_
  refine Ev_if_ne (tgt := 989) (pc := 974) d_LW_law_974 rfl (fun q1 => ?_) (fun q1 => ?_)
  · refine Ev_goto (tgt := 2164) (pc := 989) d_LW_law_989 rfl ?_
    refine Ev_sub (lsub ?_) k
    exact (And.intro rfl (And.intro rfl (And.intro rfl (And.intro rfl (And.intro rfl trivial)))))
  · refine Ev_aload_n (pc := 977) d_LW_law_977 rfl ?_
    refine Ev_iconst (v := 0) (pc := 978) d_LW_law_978 (by decide) ?_
    refine Ev_lald (pc := 979) d_LW_law_979 rfl rfl (by decide) (by decide) ?_
    refine Ev_iload (pc := 980) d_LW_law_980 rfl ?_
    refine Ev_i2l (pc := 982) d_LW_law_982 ?_
    refine Ev_lcmp (pc := 983) d_LW_law_983 ?_
    refine Ev_if_eq (tgt := 989) (pc := 984) d_LW_law_984 rfl (fun _ => ?_) (fun q => absurd (e2 q1) q)
    refine Ev_goto (tgt := 2164) (pc := 989) d_LW_law_989 rfl ?_
    refine Ev_sub (lsub ?_) k
    exact (And.intro rfl (And.intro rfl (And.intro rfl (And.intro rfl (And.intro rfl trivial)))))
theorem c_LW_law_11_0 {E : ev_E} {P : Option ev_V ⊕ Nat → ev_H → Prop} {h : ev_H} {i : Nat} {y0 : Int32} {y1 : Int32} {y2 : Int32} {y3 : Int32} {y4 : Int32} {y5 : Int32} (n0 : sok E ((nI i) + 1) y1) (n1 : sok E ((nI i) + 2) y2) (hP : pok h) (hR : rfs h) (hZ : cZ h < ZM) (hU : uok h) (n6 : f_MO_isPatient ((f_LW_reserve h y1 y2).2) y1 = 0) (e1 : (f_MO_thrown ((f_MO_reserve_0 ((f_LW_reserve h y1 y2).2) y1 y2).2)) = ((f_LW_reserve h y1 y2).1)) (e2 : ((f_LW_reserve h y1 y2).1) = 0 → (lg_cmp (gL ((f_MO_reserve_0 ((f_LW_reserve h y1 y2).2) y1 y2).2) 0 27 0) (((f_MO_reserve_0 ((f_LW_reserve h y1 y2).2) y1 y2).1).toInt64)) = 0) (k : Ev E M_LW_law 2164 [(0, vR 5 0), (1, vR 0 0), (2, vR 0 6), (3, vR 0 27), (4, vI (nI i))] [] ((f_MO_reserve_0 ((f_LW_reserve h y1 y2).2) y1 y2).2) P) : Ev E M_LW_law 924 [(0, vR 5 0), (1, vR 0 0), (2, vR 0 6), (3, vR 0 27), (4, vI (nI i))] [] h P := by
  refine Ev_aload_n (pc := 924) d_LW_law_924 rfl ?_
  refine Ev_aload_n (pc := 925) d_LW_law_925 rfl ?_
  refine Ev_iload (pc := 926) d_LW_law_926 rfl ?_
  refine Ev_iconst (v := 1) (pc := 928) d_LW_law_928 (by decide) ?_
  refine Ev_iadd (pc := 929) d_LW_law_929 ?_
  refine Ev_scr (pc := 930) d_LW_law_930 n0 ?_
  refine Ev_aload_n (pc := 931) d_LW_law_931 rfl ?_
  refine Ev_iload (pc := 932) d_LW_law_932 rfl ?_
  refine Ev_iconst (v := 2) (pc := 934) d_LW_law_934 (by decide) ?_
  refine Ev_iadd (pc := 935) d_LW_law_935 ?_
  refine Ev_scr (pc := 936) d_LW_law_936 n1 ?_
  refine Ev_aload_n (pc := 937) d_LW_law_937 rfl ?_
  refine Ev_callS (M' := M_LW_reserve) (as := [vR 0 0, vI y1, vI y2, vR 0 27]) (st := []) (pc := 938) d_LW_law_938 rfl rfl rfl s_LW_reserve lk_LW_163 rfl rfl (c_LW_reserve hP hR hZ hU ?_)
  refine Ev_istore (pc := 941) d_LW_law_941 rfl ?_
  refine Ev_aload_n (pc := 943) d_LW_law_943 rfl ?_
  refine Ev_aload_n (pc := 944) d_LW_law_944 rfl ?_
  refine Ev_iload (pc := 945) d_LW_law_945 rfl ?_
  refine Ev_iconst (v := 1) (pc := 947) d_LW_law_947 (by decide) ?_
  refine Ev_iadd (pc := 948) d_LW_law_948 ?_
  refine Ev_scr (pc := 949) d_LW_law_949 n0 ?_
  refine Ev_aload_n (pc := 950) d_LW_law_950 rfl ?_
  refine Ev_iload (pc := 951) d_LW_law_951 rfl ?_
  refine Ev_iconst (v := 2) (pc := 953) d_LW_law_953 (by decide) ?_
  refine Ev_iadd (pc := 954) d_LW_law_954 ?_
  refine Ev_scr (pc := 955) d_LW_law_955 n1 ?_
  refine Ev_callV (M' := M_MO_reserve) (as := [vI y1, vI y2]) (st := []) (a := 0) (i := 6) (pc := 956) d_LW_law_956 rfl rfl rfl rfl rfl rfl rfl v_MO_reserve lk_LW_165 rfl rfl (c_MO_reserve_0 n6 ?_)
  refine Ev_istore (pc := 959) d_LW_law_959 rfl ?_
  refine Ev_aload_n (pc := 961) d_LW_law_961 rfl ?_
  refine Ev_callV (M' := M_MO_thrown) (as := []) (st := []) (a := 0) (i := 6) (pc := 962) d_LW_law_962 rfl rfl rfl rfl rfl rfl rfl v_MO_thrown lk_LW_124 rfl rfl (c_MO_thrown  ?_)
  refine Ev_iload (pc := 965) d_LW_law_965 rfl ?_
  refine Ev_icmp_eq (tgt := 972) (pc := 967) d_LW_law_967 rfl (fun _ => ?_) (fun q => absurd e1 q)
  refine Ev_iload (pc := 972) d_LW_law_972 rfl ?_
  refine Ev_if_ne (tgt := 989) (pc := 974) d_LW_law_974 rfl (fun q1 => ?_) (fun q1 => ?_)
  · refine Ev_goto (tgt := 2164) (pc := 989) d_LW_law_989 rfl ?_
    refine Ev_sub (lsub ?_) k
    exact (And.intro rfl (And.intro rfl (And.intro rfl (And.intro rfl (And.intro rfl trivial)))))
  · refine Ev_aload_n (pc := 977) d_LW_law_977 rfl ?_
    refine Ev_iconst (v := 0) (pc := 978) d_LW_law_978 (by decide) ?_
    refine Ev_lald (pc := 979) d_LW_law_979 rfl rfl (by decide) (by decide) ?_
    refine Ev_iload (pc := 980) d_LW_law_980 rfl ?_
    refine Ev_i2l (pc := 982) d_LW_law_982 ?_
    refine Ev_lcmp (pc := 983) d_LW_law_983 ?_
    refine Ev_if_eq (tgt := 989) (pc := 984) d_LW_law_984 rfl (fun _ => ?_) (fun q => absurd (e2 q1) q)
    refine Ev_goto (tgt := 2164) (pc := 989) d_LW_law_989 rfl ?_
    refine Ev_sub (lsub ?_) k
    exact (And.intro rfl (And.intro rfl (And.intro rfl (And.intro rfl (And.intro rfl trivial)))))
theorem c_LW_law_12_1 {E : ev_E} {P : Option ev_V ⊕ Nat → ev_H → Prop} {h : ev_H} {i : Nat} {y0 : Int32} {y1 : Int32} {y2 : Int32} {y3 : Int32} {y4 : Int32} {y5 : Int32} (n0 : sok E ((nI i) + 1) y1) (hU : uok h) (hR : rfs h) (hZ : cZ h < ZM) (n4 : f_MO_isUnit ((f_LW_release h y1).2) y1 = 1) (n5 : rfs ((f_LW_release h y1).2)) (n6 : ¬ y1 < 0) (n7 : y1.toNatClampNeg < 48) (e1 : (f_MO_thrown ((f_MO_release_1 ((f_LW_release h y1).2) y1).2)) = ((f_LW_release h y1).1)) (e2 : ((f_LW_release h y1).1) = 0 → (lg_cmp (gL ((f_MO_release_1 ((f_LW_release h y1).2) y1).2) 0 27 0) (((f_MO_release_1 ((f_LW_release h y1).2) y1).1).toInt64)) = 0) (k : Ev E M_LW_law 2164 [(0, vR 5 0), (1, vR 0 0), (2, vR 0 6), (3, vR 0 27), (4, vI (nI i))] [] ((f_MO_release_1 ((f_LW_release h y1).2) y1).2) P) : Ev E M_LW_law 992 [(0, vR 5 0), (1, vR 0 0), (2, vR 0 6), (3, vR 0 27), (4, vI (nI i))] [] h P := by
  refine Ev_aload_n (pc := 992) d_LW_law_992 rfl ?_
  refine Ev_aload_n (pc := 993) d_LW_law_993 rfl ?_
  refine Ev_iload (pc := 994) d_LW_law_994 rfl ?_
  refine Ev_iconst (v := 1) (pc := 996) d_LW_law_996 (by decide) ?_
  refine Ev_iadd (pc := 997) d_LW_law_997 ?_
  refine Ev_scr (pc := 998) d_LW_law_998 n0 ?_
  refine Ev_aload_n (pc := 999) d_LW_law_999 rfl ?_
  refine Ev_callS (M' := M_LW_release) (as := [vR 0 0, vI y1, vR 0 27]) (st := []) (pc := 1000) d_LW_law_1000 rfl rfl rfl s_LW_release lk_LW_166 rfl rfl (c_LW_release hU hR hZ ?_)
  refine Ev_istore (pc := 1003) d_LW_law_1003 rfl ?_
  refine Ev_aload_n (pc := 1005) d_LW_law_1005 rfl ?_
  refine Ev_aload_n (pc := 1006) d_LW_law_1006 rfl ?_
  refine Ev_iload (pc := 1007) d_LW_law_1007 rfl ?_
  refine Ev_iconst (v := 1) (pc := 1009) d_LW_law_1009 (by decide) ?_
  refine Ev_iadd (pc := 1010) d_LW_law_1010 ?_
  refine Ev_scr (pc := 1011) d_LW_law_1011 n0 ?_
  refine Ev_callV (M' := M_MO_release) (as := [vI y1]) (st := []) (a := 0) (i := 6) (pc := 1012) d_LW_law_1012 rfl rfl rfl rfl rfl rfl rfl v_MO_release lk_LW_168 rfl rfl (c_MO_release_1 n4 n5 n6 n7 ?_)
  refine Ev_istore (pc := 1015) d_LW_law_1015 rfl ?_
  refine Ev_aload_n (pc := 1017) d_LW_law_1017 rfl ?_
  refine Ev_callV (M' := M_MO_thrown) (as := []) (st := []) (a := 0) (i := 6) (pc := 1018) d_LW_law_1018 rfl rfl rfl rfl rfl rfl rfl v_MO_thrown lk_LW_124 rfl rfl (c_MO_thrown  ?_)
  refine Ev_iload (pc := 1021) d_LW_law_1021 rfl ?_
  refine Ev_icmp_eq (tgt := 1028) (pc := 1023) d_LW_law_1023 rfl (fun _ => ?_) (fun q => absurd e1 q)
  refine Ev_iload (pc := 1028) d_LW_law_1028 rfl ?_
  refine Ev_if_ne (tgt := 1045) (pc := 1030) d_LW_law_1030 rfl (fun q1 => ?_) (fun q1 => ?_)
  · refine Ev_goto (tgt := 2164) (pc := 1045) d_LW_law_1045 rfl ?_
    refine Ev_sub (lsub ?_) k
    exact (And.intro rfl (And.intro rfl (And.intro rfl (And.intro rfl (And.intro rfl trivial)))))
  · refine Ev_aload_n (pc := 1033) d_LW_law_1033 rfl ?_
    refine Ev_iconst (v := 0) (pc := 1034) d_LW_law_1034 (by decide) ?_
    refine Ev_lald (pc := 1035) d_LW_law_1035 rfl rfl (by decide) (by decide) ?_
    refine Ev_iload (pc := 1036) d_LW_law_1036 rfl ?_
    refine Ev_i2l (pc := 1038) d_LW_law_1038 ?_
    refine Ev_lcmp (pc := 1039) d_LW_law_1039 ?_
    refine Ev_if_eq (tgt := 1045) (pc := 1040) d_LW_law_1040 rfl (fun _ => ?_) (fun q => absurd (e2 q1) q)
    refine Ev_goto (tgt := 2164) (pc := 1045) d_LW_law_1045 rfl ?_
    refine Ev_sub (lsub ?_) k
    exact (And.intro rfl (And.intro rfl (And.intro rfl (And.intro rfl (And.intro rfl trivial)))))
theorem c_LW_law_12_0 {E : ev_E} {P : Option ev_V ⊕ Nat → ev_H → Prop} {h : ev_H} {i : Nat} {y0 : Int32} {y1 : Int32} {y2 : Int32} {y3 : Int32} {y4 : Int32} {y5 : Int32} (n0 : sok E ((nI i) + 1) y1) (hU : uok h) (hR : rfs h) (hZ : cZ h < ZM) (n4 : f_MO_isUnit ((f_LW_release h y1).2) y1 = 0) (e1 : (f_MO_thrown ((f_MO_release_0 ((f_LW_release h y1).2) y1).2)) = ((f_LW_release h y1).1)) (e2 : ((f_LW_release h y1).1) = 0 → (lg_cmp (gL ((f_MO_release_0 ((f_LW_release h y1).2) y1).2) 0 27 0) (((f_MO_release_0 ((f_LW_release h y1).2) y1).1).toInt64)) = 0) (k : Ev E M_LW_law 2164 [(0, vR 5 0), (1, vR 0 0), (2, vR 0 6), (3, vR 0 27), (4, vI (nI i))] [] ((f_MO_release_0 ((f_LW_release h y1).2) y1).2) P) : Ev E M_LW_law 992 [(0, vR 5 0), (1, vR 0 0), (2, vR 0 6), (3, vR 0 27), (4, vI (nI i))] [] h P := by
  refine Ev_aload_n (pc := 992) d_LW_law_992 rfl ?_
  refine Ev_aload_n (pc := 993) d_LW_law_993 rfl ?_
  refine Ev_iload (pc := 994) d_LW_law_994 rfl ?_
  refine Ev_iconst (v := 1) (pc := 996) d_LW_law_996 (by decide) ?_
  refine Ev_iadd (pc := 997) d_LW_law_997 ?_
  refine Ev_scr (pc := 998) d_LW_law_998 n0 ?_
  refine Ev_aload_n (pc := 999) d_LW_law_999 rfl ?_
  refine Ev_callS (M' := M_LW_release) (as := [vR 0 0, vI y1, vR 0 27]) (st := []) (pc := 1000) d_LW_law_1000 rfl rfl rfl s_LW_release lk_LW_166 rfl rfl (c_LW_release hU hR hZ ?_)
  refine Ev_istore (pc := 1003) d_LW_law_1003 rfl ?_
  refine Ev_aload_n (pc := 1005) d_LW_law_1005 rfl ?_
  refine Ev_aload_n (pc := 1006) d_LW_law_1006 rfl ?_
  refine Ev_iload (pc := 1007) d_LW_law_1007 rfl ?_
  refine Ev_iconst (v := 1) (pc := 1009) d_LW_law_1009 (by decide) ?_
  refine Ev_iadd (pc := 1010) d_LW_law_1010 ?_
  refine Ev_scr (pc := 1011) d_LW_law_1011 n0 ?_
  refine Ev_callV (M' := M_MO_release) (as := [vI y1]) (st := []) (a := 0) (i := 6) (pc := 1012) d_LW_law_1012 rfl rfl rfl rfl rfl rfl rfl v_MO_release lk_LW_168 rfl rfl (c_MO_release_0 n4 ?_)
  refine Ev_istore (pc := 1015) d_LW_law_1015 rfl ?_
  refine Ev_aload_n (pc := 1017) d_LW_law_1017 rfl ?_
  refine Ev_callV (M' := M_MO_thrown) (as := []) (st := []) (a := 0) (i := 6) (pc := 1018) d_LW_law_1018 rfl rfl rfl rfl rfl rfl rfl v_MO_thrown lk_LW_124 rfl rfl (c_MO_thrown  ?_)
  refine Ev_iload (pc := 1021) d_LW_law_1021 rfl ?_
  refine Ev_icmp_eq (tgt := 1028) (pc := 1023) d_LW_law_1023 rfl (fun _ => ?_) (fun q => absurd e1 q)
  refine Ev_iload (pc := 1028) d_LW_law_1028 rfl ?_
  refine Ev_if_ne (tgt := 1045) (pc := 1030) d_LW_law_1030 rfl (fun q1 => ?_) (fun q1 => ?_)
  · refine Ev_goto (tgt := 2164) (pc := 1045) d_LW_law_1045 rfl ?_
    refine Ev_sub (lsub ?_) k
    exact (And.intro rfl (And.intro rfl (And.intro rfl (And.intro rfl (And.intro rfl trivial)))))
  · refine Ev_aload_n (pc := 1033) d_LW_law_1033 rfl ?_
    refine Ev_iconst (v := 0) (pc := 1034) d_LW_law_1034 (by decide) ?_
    refine Ev_lald (pc := 1035) d_LW_law_1035 rfl rfl (by decide) (by decide) ?_
    refine Ev_iload (pc := 1036) d_LW_law_1036 rfl ?_
    refine Ev_i2l (pc := 1038) d_LW_law_1038 ?_
    refine Ev_lcmp (pc := 1039) d_LW_law_1039 ?_
    refine Ev_if_eq (tgt := 1045) (pc := 1040) d_LW_law_1040 rfl (fun _ => ?_) (fun q => absurd (e2 q1) q)
    refine Ev_goto (tgt := 2164) (pc := 1045) d_LW_law_1045 rfl ?_
    refine Ev_sub (lsub ?_) k
    exact (And.intro rfl (And.intro rfl (And.intro rfl (And.intro rfl (And.intro rfl trivial)))))
theorem c_LW_law_13_11 {E : ev_E} {P : Option ev_V ⊕ Nat → ev_H → Prop} {h : ev_H} {i : Nat} {y0 : Int32} {y1 : Int32} {y2 : Int32} {y3 : Int32} {y4 : Int32} {y5 : Int32} (n0 : sok E ((nI i) + 1) y1) (n1 : sok E ((nI i) + 2) y2) (hP : pok h) (hR : rfs h) (hZ : cZ h < ZM) (hU : uok h) (n6 : (gI h 0 0 3).toNatClampNeg ≤ 48) (n7 : (gI h 0 0 3) = nI (gI h 0 0 3).toNatClampNeg) (n8 : ∀ b, b < (gI h 0 0 3).toNatClampNeg → gR (sI (f_UN_issueTo h y2.toNatClampNeg y1 (gI h 0 0 5) (gI h 0 0 7) 0) 0 0 7 ((gI (f_UN_issueTo h y2.toNatClampNeg y1 (gI h 0 0 5) (gI h 0 0 7) 0) 0 0 7) + 1)) 0 1 b = vR 1 b) (n9 : f_MO_isPatient ((f_LW_issue h y1 y2).2) y1 = 1) (n10 : f_MO_isUnit ((f_LW_issue h y1 y2).2) y2 = 1) (n11 : rfs ((f_LW_issue h y1 y2).2)) (n12 : ¬ y2 < 0) (n13 : y2.toNatClampNeg < 48) (n14 : ¬ y1 < 0) (n15 : y1.toNatClampNeg < 10) (n16 : (gI ((f_LW_issue h y1 y2).2) 0 6 2).toNatClampNeg ≤ 48) (n17 : (gI ((f_LW_issue h y1 y2).2) 0 6 2) = nI (gI ((f_LW_issue h y1 y2).2) 0 6 2).toNatClampNeg) (n18 : ¬ ((48 * y1) + y2) < 0) (n19 : ((48 * y1) + y2).toNatClampNeg < 480) (e1 : (f_MO_thrown ((f_MO_issue_11 ((f_LW_issue h y1 y2).2) y1 y2).2)) = ((f_LW_issue h y1 y2).1)) (e2 : ((f_LW_issue h y1 y2).1) = 0 → (lg_cmp (gL ((f_MO_issue_11 ((f_LW_issue h y1 y2).2) y1 y2).2) 0 27 0) (((f_MO_issue_11 ((f_LW_issue h y1 y2).2) y1 y2).1).toInt64)) = 0) (k : Ev E M_LW_law 2164 [(0, vR 5 0), (1, vR 0 0), (2, vR 0 6), (3, vR 0 27), (4, vI (nI i))] [] ((f_MO_issue_11 ((f_LW_issue h y1 y2).2) y1 y2).2) P) : Ev E M_LW_law 1048 [(0, vR 5 0), (1, vR 0 0), (2, vR 0 6), (3, vR 0 27), (4, vI (nI i))] [] h P := by
  refine Ev_aload_n (pc := 1048) d_LW_law_1048 rfl ?_
  refine Ev_aload_n (pc := 1049) d_LW_law_1049 rfl ?_
  refine Ev_iload (pc := 1050) d_LW_law_1050 rfl ?_
  refine Ev_iconst (v := 1) (pc := 1052) d_LW_law_1052 (by decide) ?_
  refine Ev_iadd (pc := 1053) d_LW_law_1053 ?_
  refine Ev_scr (pc := 1054) d_LW_law_1054 n0 ?_
  refine Ev_aload_n (pc := 1055) d_LW_law_1055 rfl ?_
  refine Ev_iload (pc := 1056) d_LW_law_1056 rfl ?_
  refine Ev_iconst (v := 2) (pc := 1058) d_LW_law_1058 (by decide) ?_
  refine Ev_iadd (pc := 1059) d_LW_law_1059 ?_
  refine Ev_scr (pc := 1060) d_LW_law_1060 n1 ?_
  refine Ev_aload_n (pc := 1061) d_LW_law_1061 rfl ?_
  refine Ev_callS (M' := M_LW_issue) (as := [vR 0 0, vI y1, vI y2, vR 0 27]) (st := []) (pc := 1062) d_LW_law_1062 rfl rfl rfl s_LW_issue lk_LW_169 rfl rfl (c_LW_issue hP hR hZ hU n6 n7 n8 ?_)
  refine Ev_istore (pc := 1065) d_LW_law_1065 rfl ?_
  refine Ev_aload_n (pc := 1067) d_LW_law_1067 rfl ?_
  refine Ev_aload_n (pc := 1068) d_LW_law_1068 rfl ?_
  refine Ev_iload (pc := 1069) d_LW_law_1069 rfl ?_
  refine Ev_iconst (v := 1) (pc := 1071) d_LW_law_1071 (by decide) ?_
  refine Ev_iadd (pc := 1072) d_LW_law_1072 ?_
  refine Ev_scr (pc := 1073) d_LW_law_1073 n0 ?_
  refine Ev_aload_n (pc := 1074) d_LW_law_1074 rfl ?_
  refine Ev_iload (pc := 1075) d_LW_law_1075 rfl ?_
  refine Ev_iconst (v := 2) (pc := 1077) d_LW_law_1077 (by decide) ?_
  refine Ev_iadd (pc := 1078) d_LW_law_1078 ?_
  refine Ev_scr (pc := 1079) d_LW_law_1079 n1 ?_
  refine Ev_callV (M' := M_MO_issue) (as := [vI y1, vI y2]) (st := []) (a := 0) (i := 6) (pc := 1080) d_LW_law_1080 rfl rfl rfl rfl rfl rfl rfl v_MO_issue lk_LW_171 rfl rfl (c_MO_issue_11 n9 n10 n11 n12 n13 n14 n15 n16 n17 n18 n19 ?_)
  refine Ev_istore (pc := 1083) d_LW_law_1083 rfl ?_
  refine Ev_aload_n (pc := 1085) d_LW_law_1085 rfl ?_
  refine Ev_callV (M' := M_MO_thrown) (as := []) (st := []) (a := 0) (i := 6) (pc := 1086) d_LW_law_1086 rfl rfl rfl rfl rfl rfl rfl v_MO_thrown lk_LW_124 rfl rfl (c_MO_thrown  ?_)
  refine Ev_iload (pc := 1089) d_LW_law_1089 rfl ?_
  refine Ev_icmp_eq (tgt := 1096) (pc := 1091) d_LW_law_1091 rfl (fun _ => ?_) (fun q => absurd e1 q)
  refine Ev_iload (pc := 1096) d_LW_law_1096 rfl ?_
  refine Ev_if_ne (tgt := 1113) (pc := 1098) d_LW_law_1098 rfl (fun q1 => ?_) (fun q1 => ?_)
  · refine Ev_goto (tgt := 2164) (pc := 1113) d_LW_law_1113 rfl ?_
    refine Ev_sub (lsub ?_) k
    exact (And.intro rfl (And.intro rfl (And.intro rfl (And.intro rfl (And.intro rfl trivial)))))
  · refine Ev_aload_n (pc := 1101) d_LW_law_1101 rfl ?_
    refine Ev_iconst (v := 0) (pc := 1102) d_LW_law_1102 (by decide) ?_
    refine Ev_lald (pc := 1103) d_LW_law_1103 rfl rfl (by decide) (by decide) ?_
    refine Ev_iload (pc := 1104) d_LW_law_1104 rfl ?_
    refine Ev_i2l (pc := 1106) d_LW_law_1106 ?_
    refine Ev_lcmp (pc := 1107) d_LW_law_1107 ?_
    refine Ev_if_eq (tgt := 1113) (pc := 1108) d_LW_law_1108 rfl (fun _ => ?_) (fun q => absurd (e2 q1) q)
    refine Ev_goto (tgt := 2164) (pc := 1113) d_LW_law_1113 rfl ?_
    refine Ev_sub (lsub ?_) k
    exact (And.intro rfl (And.intro rfl (And.intro rfl (And.intro rfl (And.intro rfl trivial)))))
theorem c_LW_law_13_10 {E : ev_E} {P : Option ev_V ⊕ Nat → ev_H → Prop} {h : ev_H} {i : Nat} {y0 : Int32} {y1 : Int32} {y2 : Int32} {y3 : Int32} {y4 : Int32} {y5 : Int32} (n0 : sok E ((nI i) + 1) y1) (n1 : sok E ((nI i) + 2) y2) (hP : pok h) (hR : rfs h) (hZ : cZ h < ZM) (hU : uok h) (n6 : (gI h 0 0 3).toNatClampNeg ≤ 48) (n7 : (gI h 0 0 3) = nI (gI h 0 0 3).toNatClampNeg) (n8 : ∀ b, b < (gI h 0 0 3).toNatClampNeg → gR (sI (f_UN_issueTo h y2.toNatClampNeg y1 (gI h 0 0 5) (gI h 0 0 7) 0) 0 0 7 ((gI (f_UN_issueTo h y2.toNatClampNeg y1 (gI h 0 0 5) (gI h 0 0 7) 0) 0 0 7) + 1)) 0 1 b = vR 1 b) (n9 : f_MO_isPatient ((f_LW_issue h y1 y2).2) y1 = 1) (n10 : f_MO_isUnit ((f_LW_issue h y1 y2).2) y2 = 0) (e1 : (f_MO_thrown ((f_MO_issue_10 ((f_LW_issue h y1 y2).2) y1 y2).2)) = ((f_LW_issue h y1 y2).1)) (e2 : ((f_LW_issue h y1 y2).1) = 0 → (lg_cmp (gL ((f_MO_issue_10 ((f_LW_issue h y1 y2).2) y1 y2).2) 0 27 0) (((f_MO_issue_10 ((f_LW_issue h y1 y2).2) y1 y2).1).toInt64)) = 0) (k : Ev E M_LW_law 2164 [(0, vR 5 0), (1, vR 0 0), (2, vR 0 6), (3, vR 0 27), (4, vI (nI i))] [] ((f_MO_issue_10 ((f_LW_issue h y1 y2).2) y1 y2).2) P) : Ev E M_LW_law 1048 [(0, vR 5 0), (1, vR 0 0), (2, vR 0 6), (3, vR 0 27), (4, vI (nI i))] [] h P := by
  refine Ev_aload_n (pc := 1048) d_LW_law_1048 rfl ?_
  refine Ev_aload_n (pc := 1049) d_LW_law_1049 rfl ?_
  refine Ev_iload (pc := 1050) d_LW_law_1050 rfl ?_
  refine Ev_iconst (v := 1) (pc := 1052) d_LW_law_1052 (by decide) ?_
  refine Ev_iadd (pc := 1053) d_LW_law_1053 ?_
  refine Ev_scr (pc := 1054) d_LW_law_1054 n0 ?_
  refine Ev_aload_n (pc := 1055) d_LW_law_1055 rfl ?_
  refine Ev_iload (pc := 1056) d_LW_law_1056 rfl ?_
  refine Ev_iconst (v := 2) (pc := 1058) d_LW_law_1058 (by decide) ?_
  refine Ev_iadd (pc := 1059) d_LW_law_1059 ?_
  refine Ev_scr (pc := 1060) d_LW_law_1060 n1 ?_
  refine Ev_aload_n (pc := 1061) d_LW_law_1061 rfl ?_
  refine Ev_callS (M' := M_LW_issue) (as := [vR 0 0, vI y1, vI y2, vR 0 27]) (st := []) (pc := 1062) d_LW_law_1062 rfl rfl rfl s_LW_issue lk_LW_169 rfl rfl (c_LW_issue hP hR hZ hU n6 n7 n8 ?_)
  refine Ev_istore (pc := 1065) d_LW_law_1065 rfl ?_
  refine Ev_aload_n (pc := 1067) d_LW_law_1067 rfl ?_
  refine Ev_aload_n (pc := 1068) d_LW_law_1068 rfl ?_
  refine Ev_iload (pc := 1069) d_LW_law_1069 rfl ?_
  refine Ev_iconst (v := 1) (pc := 1071) d_LW_law_1071 (by decide) ?_
  refine Ev_iadd (pc := 1072) d_LW_law_1072 ?_
  refine Ev_scr (pc := 1073) d_LW_law_1073 n0 ?_
  refine Ev_aload_n (pc := 1074) d_LW_law_1074 rfl ?_
  refine Ev_iload (pc := 1075) d_LW_law_1075 rfl ?_
  refine Ev_iconst (v := 2) (pc := 1077) d_LW_law_1077 (by decide) ?_
  refine Ev_iadd (pc := 1078) d_LW_law_1078 ?_
  refine Ev_scr (pc := 1079) d_LW_law_1079 n1 ?_
  refine Ev_callV (M' := M_MO_issue) (as := [vI y1, vI y2]) (st := []) (a := 0) (i := 6) (pc := 1080) d_LW_law_1080 rfl rfl rfl rfl rfl rfl rfl v_MO_issue lk_LW_171 rfl rfl (c_MO_issue_10 n9 n10 ?_)
  refine Ev_istore (pc := 1083) d_LW_law_1083 rfl ?_
  refine Ev_aload_n (pc := 1085) d_LW_law_1085 rfl ?_
  refine Ev_callV (M' := M_MO_thrown) (as := []) (st := []) (a := 0) (i := 6) (pc := 1086) d_LW_law_1086 rfl rfl rfl rfl rfl rfl rfl v_MO_thrown lk_LW_124 rfl rfl (c_MO_thrown  ?_)
  refine Ev_iload (pc := 1089) d_LW_law_1089 rfl ?_
  refine Ev_icmp_eq (tgt := 1096) (pc := 1091) d_LW_law_1091 rfl (fun _ => ?_) (fun q => absurd e1 q)
  refine Ev_iload (pc := 1096) d_LW_law_1096 rfl ?_
  refine Ev_if_ne (tgt := 1113) (pc := 1098) d_LW_law_1098 rfl (fun q1 => ?_) (fun q1 => ?_)
  · refine Ev_goto (tgt := 2164) (pc := 1113) d_LW_law_1113 rfl ?_
    refine Ev_sub (lsub ?_) k
    exact (And.intro rfl (And.intro rfl (And.intro rfl (And.intro rfl (And.intro rfl trivial)))))
  · refine Ev_aload_n (pc := 1101) d_LW_law_1101 rfl ?_
    refine Ev_iconst (v := 0) (pc := 1102) d_LW_law_1102 (by decide) ?_
    refine Ev_lald (pc := 1103) d_LW_law_1103 rfl rfl (by decide) (by decide) ?_
    refine Ev_iload (pc := 1104) d_LW_law_1104 rfl ?_
    refine Ev_i2l (pc := 1106) d_LW_law_1106 ?_
    refine Ev_lcmp (pc := 1107) d_LW_law_1107 ?_
    refine Ev_if_eq (tgt := 1113) (pc := 1108) d_LW_law_1108 rfl (fun _ => ?_) (fun q => absurd (e2 q1) q)
    refine Ev_goto (tgt := 2164) (pc := 1113) d_LW_law_1113 rfl ?_
    refine Ev_sub (lsub ?_) k
    exact (And.intro rfl (And.intro rfl (And.intro rfl (And.intro rfl (And.intro rfl trivial)))))
theorem c_LW_law_13_0 {E : ev_E} {P : Option ev_V ⊕ Nat → ev_H → Prop} {h : ev_H} {i : Nat} {y0 : Int32} {y1 : Int32} {y2 : Int32} {y3 : Int32} {y4 : Int32} {y5 : Int32} (n0 : sok E ((nI i) + 1) y1) (n1 : sok E ((nI i) + 2) y2) (hP : pok h) (hR : rfs h) (hZ : cZ h < ZM) (hU : uok h) (n6 : (gI h 0 0 3).toNatClampNeg ≤ 48) (n7 : (gI h 0 0 3) = nI (gI h 0 0 3).toNatClampNeg) (n8 : ∀ b, b < (gI h 0 0 3).toNatClampNeg → gR (sI (f_UN_issueTo h y2.toNatClampNeg y1 (gI h 0 0 5) (gI h 0 0 7) 0) 0 0 7 ((gI (f_UN_issueTo h y2.toNatClampNeg y1 (gI h 0 0 5) (gI h 0 0 7) 0) 0 0 7) + 1)) 0 1 b = vR 1 b) (n9 : f_MO_isPatient ((f_LW_issue h y1 y2).2) y1 = 0) (e1 : (f_MO_thrown ((f_MO_issue_0 ((f_LW_issue h y1 y2).2) y1 y2).2)) = ((f_LW_issue h y1 y2).1)) (e2 : ((f_LW_issue h y1 y2).1) = 0 → (lg_cmp (gL ((f_MO_issue_0 ((f_LW_issue h y1 y2).2) y1 y2).2) 0 27 0) (((f_MO_issue_0 ((f_LW_issue h y1 y2).2) y1 y2).1).toInt64)) = 0) (k : Ev E M_LW_law 2164 [(0, vR 5 0), (1, vR 0 0), (2, vR 0 6), (3, vR 0 27), (4, vI (nI i))] [] ((f_MO_issue_0 ((f_LW_issue h y1 y2).2) y1 y2).2) P) : Ev E M_LW_law 1048 [(0, vR 5 0), (1, vR 0 0), (2, vR 0 6), (3, vR 0 27), (4, vI (nI i))] [] h P := by
  refine Ev_aload_n (pc := 1048) d_LW_law_1048 rfl ?_
  refine Ev_aload_n (pc := 1049) d_LW_law_1049 rfl ?_
  refine Ev_iload (pc := 1050) d_LW_law_1050 rfl ?_
  refine Ev_iconst (v := 1) (pc := 1052) d_LW_law_1052 (by decide) ?_
  refine Ev_iadd (pc := 1053) d_LW_law_1053 ?_
  refine Ev_scr (pc := 1054) d_LW_law_1054 n0 ?_
  refine Ev_aload_n (pc := 1055) d_LW_law_1055 rfl ?_
  refine Ev_iload (pc := 1056) d_LW_law_1056 rfl ?_
  refine Ev_iconst (v := 2) (pc := 1058) d_LW_law_1058 (by decide) ?_
  refine Ev_iadd (pc := 1059) d_LW_law_1059 ?_
  refine Ev_scr (pc := 1060) d_LW_law_1060 n1 ?_
  refine Ev_aload_n (pc := 1061) d_LW_law_1061 rfl ?_
  refine Ev_callS (M' := M_LW_issue) (as := [vR 0 0, vI y1, vI y2, vR 0 27]) (st := []) (pc := 1062) d_LW_law_1062 rfl rfl rfl s_LW_issue lk_LW_169 rfl rfl (c_LW_issue hP hR hZ hU n6 n7 n8 ?_)
  refine Ev_istore (pc := 1065) d_LW_law_1065 rfl ?_
  refine Ev_aload_n (pc := 1067) d_LW_law_1067 rfl ?_
  refine Ev_aload_n (pc := 1068) d_LW_law_1068 rfl ?_
  refine Ev_iload (pc := 1069) d_LW_law_1069 rfl ?_
  refine Ev_iconst (v := 1) (pc := 1071) d_LW_law_1071 (by decide) ?_
  refine Ev_iadd (pc := 1072) d_LW_law_1072 ?_
  refine Ev_scr (pc := 1073) d_LW_law_1073 n0 ?_
  refine Ev_aload_n (pc := 1074) d_LW_law_1074 rfl ?_
  refine Ev_iload (pc := 1075) d_LW_law_1075 rfl ?_
  refine Ev_iconst (v := 2) (pc := 1077) d_LW_law_1077 (by decide) ?_
  refine Ev_iadd (pc := 1078) d_LW_law_1078 ?_
  refine Ev_scr (pc := 1079) d_LW_law_1079 n1 ?_
  refine Ev_callV (M' := M_MO_issue) (as := [vI y1, vI y2]) (st := []) (a := 0) (i := 6) (pc := 1080) d_LW_law_1080 rfl rfl rfl rfl rfl rfl rfl v_MO_issue lk_LW_171 rfl rfl (c_MO_issue_0 n9 ?_)
  refine Ev_istore (pc := 1083) d_LW_law_1083 rfl ?_
  refine Ev_aload_n (pc := 1085) d_LW_law_1085 rfl ?_
  refine Ev_callV (M' := M_MO_thrown) (as := []) (st := []) (a := 0) (i := 6) (pc := 1086) d_LW_law_1086 rfl rfl rfl rfl rfl rfl rfl v_MO_thrown lk_LW_124 rfl rfl (c_MO_thrown  ?_)
  refine Ev_iload (pc := 1089) d_LW_law_1089 rfl ?_
  refine Ev_icmp_eq (tgt := 1096) (pc := 1091) d_LW_law_1091 rfl (fun _ => ?_) (fun q => absurd e1 q)
  refine Ev_iload (pc := 1096) d_LW_law_1096 rfl ?_
  refine Ev_if_ne (tgt := 1113) (pc := 1098) d_LW_law_1098 rfl (fun q1 => ?_) (fun q1 => ?_)
  · refine Ev_goto (tgt := 2164) (pc := 1113) d_LW_law_1113 rfl ?_
    refine Ev_sub (lsub ?_) k
    exact (And.intro rfl (And.intro rfl (And.intro rfl (And.intro rfl (And.intro rfl trivial)))))
  · refine Ev_aload_n (pc := 1101) d_LW_law_1101 rfl ?_
    refine Ev_iconst (v := 0) (pc := 1102) d_LW_law_1102 (by decide) ?_
    refine Ev_lald (pc := 1103) d_LW_law_1103 rfl rfl (by decide) (by decide) ?_
    refine Ev_iload (pc := 1104) d_LW_law_1104 rfl ?_
    refine Ev_i2l (pc := 1106) d_LW_law_1106 ?_
    refine Ev_lcmp (pc := 1107) d_LW_law_1107 ?_
    refine Ev_if_eq (tgt := 1113) (pc := 1108) d_LW_law_1108 rfl (fun _ => ?_) (fun q => absurd (e2 q1) q)
    refine Ev_goto (tgt := 2164) (pc := 1113) d_LW_law_1113 rfl ?_
    refine Ev_sub (lsub ?_) k
    exact (And.intro rfl (And.intro rfl (And.intro rfl (And.intro rfl (And.intro rfl trivial)))))
theorem c_LW_law_14_11 {E : ev_E} {P : Option ev_V ⊕ Nat → ev_H → Prop} {h : ev_H} {i : Nat} {y0 : Int32} {y1 : Int32} {y2 : Int32} {y3 : Int32} {y4 : Int32} {y5 : Int32} (n0 : sok E ((nI i) + 1) y1) (n1 : sok E ((nI i) + 2) y2) (n2 : sok E ((nI i) + 3) y3) (hP : pok h) (hR : rfs h) (hZ : cZ h < ZM) (hU : uok h) (n7 : (gI h 0 0 3).toNatClampNeg ≤ 48) (n8 : (gI h 0 0 3) = nI (gI h 0 0 3).toNatClampNeg) (n9 : ∀ b, b < (gI h 0 0 3).toNatClampNeg → gR (sI (f_UN_issueTo h y2.toNatClampNeg y1 (gI h 0 0 5) (gI h 0 0 7) y3) 0 0 7 ((gI (f_UN_issueTo h y2.toNatClampNeg y1 (gI h 0 0 5) (gI h 0 0 7) y3) 0 0 7) + 1)) 0 1 b = vR 1 b) (n10 : f_MO_isPatient ((f_LW_emergency h y1 y2 y3).2) y1 = 1) (n11 : f_MO_isUnit ((f_LW_emergency h y1 y2 y3).2) y2 = 1) (n12 : rfs ((f_LW_emergency h y1 y2 y3).2)) (n13 : ¬ y2 < 0) (n14 : y2.toNatClampNeg < 48) (n15 : ¬ y1 < 0) (n16 : y1.toNatClampNeg < 10) (n17 : (gI ((f_LW_emergency h y1 y2 y3).2) 0 6 2).toNatClampNeg ≤ 48) (n18 : (gI ((f_LW_emergency h y1 y2 y3).2) 0 6 2) = nI (gI ((f_LW_emergency h y1 y2 y3).2) 0 6 2).toNatClampNeg) (e1 : (f_MO_thrown ((f_MO_emergency_11 ((f_LW_emergency h y1 y2 y3).2) y1 y2 y3).2)) = ((f_LW_emergency h y1 y2 y3).1)) (e2 : ((f_LW_emergency h y1 y2 y3).1) = 0 → (lg_cmp (gL ((f_MO_emergency_11 ((f_LW_emergency h y1 y2 y3).2) y1 y2 y3).2) 0 27 0) (((f_MO_emergency_11 ((f_LW_emergency h y1 y2 y3).2) y1 y2 y3).1).toInt64)) = 0) (k : Ev E M_LW_law 2164 [(0, vR 5 0), (1, vR 0 0), (2, vR 0 6), (3, vR 0 27), (4, vI (nI i))] [] ((f_MO_emergency_11 ((f_LW_emergency h y1 y2 y3).2) y1 y2 y3).2) P) : Ev E M_LW_law 1116 [(0, vR 5 0), (1, vR 0 0), (2, vR 0 6), (3, vR 0 27), (4, vI (nI i))] [] h P := by
  refine Ev_aload_n (pc := 1116) d_LW_law_1116 rfl ?_
  refine Ev_aload_n (pc := 1117) d_LW_law_1117 rfl ?_
  refine Ev_iload (pc := 1118) d_LW_law_1118 rfl ?_
  refine Ev_iconst (v := 1) (pc := 1120) d_LW_law_1120 (by decide) ?_
  refine Ev_iadd (pc := 1121) d_LW_law_1121 ?_
  refine Ev_scr (pc := 1122) d_LW_law_1122 n0 ?_
  refine Ev_aload_n (pc := 1123) d_LW_law_1123 rfl ?_
  refine Ev_iload (pc := 1124) d_LW_law_1124 rfl ?_
  refine Ev_iconst (v := 2) (pc := 1126) d_LW_law_1126 (by decide) ?_
  refine Ev_iadd (pc := 1127) d_LW_law_1127 ?_
  refine Ev_scr (pc := 1128) d_LW_law_1128 n1 ?_
  refine Ev_aload_n (pc := 1129) d_LW_law_1129 rfl ?_
  refine Ev_iload (pc := 1130) d_LW_law_1130 rfl ?_
  refine Ev_iconst (v := 3) (pc := 1132) d_LW_law_1132 (by decide) ?_
  refine Ev_iadd (pc := 1133) d_LW_law_1133 ?_
  refine Ev_scr (pc := 1134) d_LW_law_1134 n2 ?_
  refine Ev_aload_n (pc := 1135) d_LW_law_1135 rfl ?_
  refine Ev_callS (M' := M_LW_emergency) (as := [vR 0 0, vI y1, vI y2, vI y3, vR 0 27]) (st := []) (pc := 1136) d_LW_law_1136 rfl rfl rfl s_LW_emergency lk_LW_172 rfl rfl (c_LW_emergency hP hR hZ hU n7 n8 n9 ?_)
  refine Ev_istore (pc := 1139) d_LW_law_1139 rfl ?_
  refine Ev_aload_n (pc := 1141) d_LW_law_1141 rfl ?_
  refine Ev_aload_n (pc := 1142) d_LW_law_1142 rfl ?_
  refine Ev_iload (pc := 1143) d_LW_law_1143 rfl ?_
  refine Ev_iconst (v := 1) (pc := 1145) d_LW_law_1145 (by decide) ?_
  refine Ev_iadd (pc := 1146) d_LW_law_1146 ?_
  refine Ev_scr (pc := 1147) d_LW_law_1147 n0 ?_
  refine Ev_aload_n (pc := 1148) d_LW_law_1148 rfl ?_
  refine Ev_iload (pc := 1149) d_LW_law_1149 rfl ?_
  refine Ev_iconst (v := 2) (pc := 1151) d_LW_law_1151 (by decide) ?_
  refine Ev_iadd (pc := 1152) d_LW_law_1152 ?_
  refine Ev_scr (pc := 1153) d_LW_law_1153 n1 ?_
  refine Ev_aload_n (pc := 1154) d_LW_law_1154 rfl ?_
  refine Ev_iload (pc := 1155) d_LW_law_1155 rfl ?_
  refine Ev_iconst (v := 3) (pc := 1157) d_LW_law_1157 (by decide) ?_
  refine Ev_iadd (pc := 1158) d_LW_law_1158 ?_
  refine Ev_scr (pc := 1159) d_LW_law_1159 n2 ?_
  refine Ev_callV (M' := M_MO_emergency) (as := [vI y1, vI y2, vI y3]) (st := []) (a := 0) (i := 6) (pc := 1160) d_LW_law_1160 rfl rfl rfl rfl rfl rfl rfl v_MO_emergency lk_LW_174 rfl rfl (c_MO_emergency_11 n10 n11 n12 n13 n14 n15 n16 n17 n18 ?_)
  refine Ev_istore (pc := 1163) d_LW_law_1163 rfl ?_
  refine Ev_aload_n (pc := 1165) d_LW_law_1165 rfl ?_
  refine Ev_callV (M' := M_MO_thrown) (as := []) (st := []) (a := 0) (i := 6) (pc := 1166) d_LW_law_1166 rfl rfl rfl rfl rfl rfl rfl v_MO_thrown lk_LW_124 rfl rfl (c_MO_thrown  ?_)
  refine Ev_iload (pc := 1169) d_LW_law_1169 rfl ?_
  refine Ev_icmp_eq (tgt := 1176) (pc := 1171) d_LW_law_1171 rfl (fun _ => ?_) (fun q => absurd e1 q)
  refine Ev_iload (pc := 1176) d_LW_law_1176 rfl ?_
  refine Ev_if_ne (tgt := 1193) (pc := 1178) d_LW_law_1178 rfl (fun q1 => ?_) (fun q1 => ?_)
  · refine Ev_goto (tgt := 2164) (pc := 1193) d_LW_law_1193 rfl ?_
    refine Ev_sub (lsub ?_) k
    exact (And.intro rfl (And.intro rfl (And.intro rfl (And.intro rfl (And.intro rfl trivial)))))
  · refine Ev_aload_n (pc := 1181) d_LW_law_1181 rfl ?_
    refine Ev_iconst (v := 0) (pc := 1182) d_LW_law_1182 (by decide) ?_
    refine Ev_lald (pc := 1183) d_LW_law_1183 rfl rfl (by decide) (by decide) ?_
    refine Ev_iload (pc := 1184) d_LW_law_1184 rfl ?_
    refine Ev_i2l (pc := 1186) d_LW_law_1186 ?_
    refine Ev_lcmp (pc := 1187) d_LW_law_1187 ?_
    refine Ev_if_eq (tgt := 1193) (pc := 1188) d_LW_law_1188 rfl (fun _ => ?_) (fun q => absurd (e2 q1) q)
    refine Ev_goto (tgt := 2164) (pc := 1193) d_LW_law_1193 rfl ?_
    refine Ev_sub (lsub ?_) k
    exact (And.intro rfl (And.intro rfl (And.intro rfl (And.intro rfl (And.intro rfl trivial)))))
theorem c_LW_law_14_10 {E : ev_E} {P : Option ev_V ⊕ Nat → ev_H → Prop} {h : ev_H} {i : Nat} {y0 : Int32} {y1 : Int32} {y2 : Int32} {y3 : Int32} {y4 : Int32} {y5 : Int32} (n0 : sok E ((nI i) + 1) y1) (n1 : sok E ((nI i) + 2) y2) (n2 : sok E ((nI i) + 3) y3) (hP : pok h) (hR : rfs h) (hZ : cZ h < ZM) (hU : uok h) (n7 : (gI h 0 0 3).toNatClampNeg ≤ 48) (n8 : (gI h 0 0 3) = nI (gI h 0 0 3).toNatClampNeg) (n9 : ∀ b, b < (gI h 0 0 3).toNatClampNeg → gR (sI (f_UN_issueTo h y2.toNatClampNeg y1 (gI h 0 0 5) (gI h 0 0 7) y3) 0 0 7 ((gI (f_UN_issueTo h y2.toNatClampNeg y1 (gI h 0 0 5) (gI h 0 0 7) y3) 0 0 7) + 1)) 0 1 b = vR 1 b) (n10 : f_MO_isPatient ((f_LW_emergency h y1 y2 y3).2) y1 = 1) (n11 : f_MO_isUnit ((f_LW_emergency h y1 y2 y3).2) y2 = 0) (e1 : (f_MO_thrown ((f_MO_emergency_10 ((f_LW_emergency h y1 y2 y3).2) y1 y2 y3).2)) = ((f_LW_emergency h y1 y2 y3).1)) (e2 : ((f_LW_emergency h y1 y2 y3).1) = 0 → (lg_cmp (gL ((f_MO_emergency_10 ((f_LW_emergency h y1 y2 y3).2) y1 y2 y3).2) 0 27 0) (((f_MO_emergency_10 ((f_LW_emergency h y1 y2 y3).2) y1 y2 y3).1).toInt64)) = 0) (k : Ev E M_LW_law 2164 [(0, vR 5 0), (1, vR 0 0), (2, vR 0 6), (3, vR 0 27), (4, vI (nI i))] [] ((f_MO_emergency_10 ((f_LW_emergency h y1 y2 y3).2) y1 y2 y3).2) P) : Ev E M_LW_law 1116 [(0, vR 5 0), (1, vR 0 0), (2, vR 0 6), (3, vR 0 27), (4, vI (nI i))] [] h P := by
  refine Ev_aload_n (pc := 1116) d_LW_law_1116 rfl ?_
  refine Ev_aload_n (pc := 1117) d_LW_law_1117 rfl ?_
  refine Ev_iload (pc := 1118) d_LW_law_1118 rfl ?_
  refine Ev_iconst (v := 1) (pc := 1120) d_LW_law_1120 (by decide) ?_
  refine Ev_iadd (pc := 1121) d_LW_law_1121 ?_
  refine Ev_scr (pc := 1122) d_LW_law_1122 n0 ?_
  refine Ev_aload_n (pc := 1123) d_LW_law_1123 rfl ?_
  refine Ev_iload (pc := 1124) d_LW_law_1124 rfl ?_
  refine Ev_iconst (v := 2) (pc := 1126) d_LW_law_1126 (by decide) ?_
  refine Ev_iadd (pc := 1127) d_LW_law_1127 ?_
  refine Ev_scr (pc := 1128) d_LW_law_1128 n1 ?_
  refine Ev_aload_n (pc := 1129) d_LW_law_1129 rfl ?_
  refine Ev_iload (pc := 1130) d_LW_law_1130 rfl ?_
  refine Ev_iconst (v := 3) (pc := 1132) d_LW_law_1132 (by decide) ?_
  refine Ev_iadd (pc := 1133) d_LW_law_1133 ?_
  refine Ev_scr (pc := 1134) d_LW_law_1134 n2 ?_
  refine Ev_aload_n (pc := 1135) d_LW_law_1135 rfl ?_
  refine Ev_callS (M' := M_LW_emergency) (as := [vR 0 0, vI y1, vI y2, vI y3, vR 0 27]) (st := []) (pc := 1136) d_LW_law_1136 rfl rfl rfl s_LW_emergency lk_LW_172 rfl rfl (c_LW_emergency hP hR hZ hU n7 n8 n9 ?_)
  refine Ev_istore (pc := 1139) d_LW_law_1139 rfl ?_
  refine Ev_aload_n (pc := 1141) d_LW_law_1141 rfl ?_
  refine Ev_aload_n (pc := 1142) d_LW_law_1142 rfl ?_
  refine Ev_iload (pc := 1143) d_LW_law_1143 rfl ?_
  refine Ev_iconst (v := 1) (pc := 1145) d_LW_law_1145 (by decide) ?_
  refine Ev_iadd (pc := 1146) d_LW_law_1146 ?_
  refine Ev_scr (pc := 1147) d_LW_law_1147 n0 ?_
  refine Ev_aload_n (pc := 1148) d_LW_law_1148 rfl ?_
  refine Ev_iload (pc := 1149) d_LW_law_1149 rfl ?_
  refine Ev_iconst (v := 2) (pc := 1151) d_LW_law_1151 (by decide) ?_
  refine Ev_iadd (pc := 1152) d_LW_law_1152 ?_
  refine Ev_scr (pc := 1153) d_LW_law_1153 n1 ?_
  refine Ev_aload_n (pc := 1154) d_LW_law_1154 rfl ?_
  refine Ev_iload (pc := 1155) d_LW_law_1155 rfl ?_
  refine Ev_iconst (v := 3) (pc := 1157) d_LW_law_1157 (by decide) ?_
  refine Ev_iadd (pc := 1158) d_LW_law_1158 ?_
  refine Ev_scr (pc := 1159) d_LW_law_1159 n2 ?_
  refine Ev_callV (M' := M_MO_emergency) (as := [vI y1, vI y2, vI y3]) (st := []) (a := 0) (i := 6) (pc := 1160) d_LW_law_1160 rfl rfl rfl rfl rfl rfl rfl v_MO_emergency lk_LW_174 rfl rfl (c_MO_emergency_10 n10 n11 ?_)
  refine Ev_istore (pc := 1163) d_LW_law_1163 rfl ?_
  refine Ev_aload_n (pc := 1165) d_LW_law_1165 rfl ?_
  refine Ev_callV (M' := M_MO_thrown) (as := []) (st := []) (a := 0) (i := 6) (pc := 1166) d_LW_law_1166 rfl rfl rfl rfl rfl rfl rfl v_MO_thrown lk_LW_124 rfl rfl (c_MO_thrown  ?_)
  refine Ev_iload (pc := 1169) d_LW_law_1169 rfl ?_
  refine Ev_icmp_eq (tgt := 1176) (pc := 1171) d_LW_law_1171 rfl (fun _ => ?_) (fun q => absurd e1 q)
  refine Ev_iload (pc := 1176) d_LW_law_1176 rfl ?_
  refine Ev_if_ne (tgt := 1193) (pc := 1178) d_LW_law_1178 rfl (fun q1 => ?_) (fun q1 => ?_)
  · refine Ev_goto (tgt := 2164) (pc := 1193) d_LW_law_1193 rfl ?_
    refine Ev_sub (lsub ?_) k
    exact (And.intro rfl (And.intro rfl (And.intro rfl (And.intro rfl (And.intro rfl trivial)))))
  · refine Ev_aload_n (pc := 1181) d_LW_law_1181 rfl ?_
    refine Ev_iconst (v := 0) (pc := 1182) d_LW_law_1182 (by decide) ?_
    refine Ev_lald (pc := 1183) d_LW_law_1183 rfl rfl (by decide) (by decide) ?_
    refine Ev_iload (pc := 1184) d_LW_law_1184 rfl ?_
    refine Ev_i2l (pc := 1186) d_LW_law_1186 ?_
    refine Ev_lcmp (pc := 1187) d_LW_law_1187 ?_
    refine Ev_if_eq (tgt := 1193) (pc := 1188) d_LW_law_1188 rfl (fun _ => ?_) (fun q => absurd (e2 q1) q)
    refine Ev_goto (tgt := 2164) (pc := 1193) d_LW_law_1193 rfl ?_
    refine Ev_sub (lsub ?_) k
    exact (And.intro rfl (And.intro rfl (And.intro rfl (And.intro rfl (And.intro rfl trivial)))))
theorem c_LW_law_14_0 {E : ev_E} {P : Option ev_V ⊕ Nat → ev_H → Prop} {h : ev_H} {i : Nat} {y0 : Int32} {y1 : Int32} {y2 : Int32} {y3 : Int32} {y4 : Int32} {y5 : Int32} (n0 : sok E ((nI i) + 1) y1) (n1 : sok E ((nI i) + 2) y2) (n2 : sok E ((nI i) + 3) y3) (hP : pok h) (hR : rfs h) (hZ : cZ h < ZM) (hU : uok h) (n7 : (gI h 0 0 3).toNatClampNeg ≤ 48) (n8 : (gI h 0 0 3) = nI (gI h 0 0 3).toNatClampNeg) (n9 : ∀ b, b < (gI h 0 0 3).toNatClampNeg → gR (sI (f_UN_issueTo h y2.toNatClampNeg y1 (gI h 0 0 5) (gI h 0 0 7) y3) 0 0 7 ((gI (f_UN_issueTo h y2.toNatClampNeg y1 (gI h 0 0 5) (gI h 0 0 7) y3) 0 0 7) + 1)) 0 1 b = vR 1 b) (n10 : f_MO_isPatient ((f_LW_emergency h y1 y2 y3).2) y1 = 0) (e1 : (f_MO_thrown ((f_MO_emergency_0 ((f_LW_emergency h y1 y2 y3).2) y1 y2 y3).2)) = ((f_LW_emergency h y1 y2 y3).1)) (e2 : ((f_LW_emergency h y1 y2 y3).1) = 0 → (lg_cmp (gL ((f_MO_emergency_0 ((f_LW_emergency h y1 y2 y3).2) y1 y2 y3).2) 0 27 0) (((f_MO_emergency_0 ((f_LW_emergency h y1 y2 y3).2) y1 y2 y3).1).toInt64)) = 0) (k : Ev E M_LW_law 2164 [(0, vR 5 0), (1, vR 0 0), (2, vR 0 6), (3, vR 0 27), (4, vI (nI i))] [] ((f_MO_emergency_0 ((f_LW_emergency h y1 y2 y3).2) y1 y2 y3).2) P) : Ev E M_LW_law 1116 [(0, vR 5 0), (1, vR 0 0), (2, vR 0 6), (3, vR 0 27), (4, vI (nI i))] [] h P := by
  refine Ev_aload_n (pc := 1116) d_LW_law_1116 rfl ?_
  refine Ev_aload_n (pc := 1117) d_LW_law_1117 rfl ?_
  refine Ev_iload (pc := 1118) d_LW_law_1118 rfl ?_
  refine Ev_iconst (v := 1) (pc := 1120) d_LW_law_1120 (by decide) ?_
  refine Ev_iadd (pc := 1121) d_LW_law_1121 ?_
  refine Ev_scr (pc := 1122) d_LW_law_1122 n0 ?_
  refine Ev_aload_n (pc := 1123) d_LW_law_1123 rfl ?_
  refine Ev_iload (pc := 1124) d_LW_law_1124 rfl ?_
  refine Ev_iconst (v := 2) (pc := 1126) d_LW_law_1126 (by decide) ?_
  refine Ev_iadd (pc := 1127) d_LW_law_1127 ?_
  refine Ev_scr (pc := 1128) d_LW_law_1128 n1 ?_
  refine Ev_aload_n (pc := 1129) d_LW_law_1129 rfl ?_
  refine Ev_iload (pc := 1130) d_LW_law_1130 rfl ?_
  refine Ev_iconst (v := 3) (pc := 1132) d_LW_law_1132 (by decide) ?_
  refine Ev_iadd (pc := 1133) d_LW_law_1133 ?_
  refine Ev_scr (pc := 1134) d_LW_law_1134 n2 ?_
  refine Ev_aload_n (pc := 1135) d_LW_law_1135 rfl ?_
  refine Ev_callS (M' := M_LW_emergency) (as := [vR 0 0, vI y1, vI y2, vI y3, vR 0 27]) (st := []) (pc := 1136) d_LW_law_1136 rfl rfl rfl s_LW_emergency lk_LW_172 rfl rfl (c_LW_emergency hP hR hZ hU n7 n8 n9 ?_)
  refine Ev_istore (pc := 1139) d_LW_law_1139 rfl ?_
  refine Ev_aload_n (pc := 1141) d_LW_law_1141 rfl ?_
  refine Ev_aload_n (pc := 1142) d_LW_law_1142 rfl ?_
  refine Ev_iload (pc := 1143) d_LW_law_1143 rfl ?_
  refine Ev_iconst (v := 1) (pc := 1145) d_LW_law_1145 (by decide) ?_
  refine Ev_iadd (pc := 1146) d_LW_law_1146 ?_
  refine Ev_scr (pc := 1147) d_LW_law_1147 n0 ?_
  refine Ev_aload_n (pc := 1148) d_LW_law_1148 rfl ?_
  refine Ev_iload (pc := 1149) d_LW_law_1149 rfl ?_
  refine Ev_iconst (v := 2) (pc := 1151) d_LW_law_1151 (by decide) ?_
  refine Ev_iadd (pc := 1152) d_LW_law_1152 ?_
  refine Ev_scr (pc := 1153) d_LW_law_1153 n1 ?_
  refine Ev_aload_n (pc := 1154) d_LW_law_1154 rfl ?_
  refine Ev_iload (pc := 1155) d_LW_law_1155 rfl ?_
  refine Ev_iconst (v := 3) (pc := 1157) d_LW_law_1157 (by decide) ?_
  refine Ev_iadd (pc := 1158) d_LW_law_1158 ?_
  refine Ev_scr (pc := 1159) d_LW_law_1159 n2 ?_
  refine Ev_callV (M' := M_MO_emergency) (as := [vI y1, vI y2, vI y3]) (st := []) (a := 0) (i := 6) (pc := 1160) d_LW_law_1160 rfl rfl rfl rfl rfl rfl rfl v_MO_emergency lk_LW_174 rfl rfl (c_MO_emergency_0 n10 ?_)
  refine Ev_istore (pc := 1163) d_LW_law_1163 rfl ?_
  refine Ev_aload_n (pc := 1165) d_LW_law_1165 rfl ?_
  refine Ev_callV (M' := M_MO_thrown) (as := []) (st := []) (a := 0) (i := 6) (pc := 1166) d_LW_law_1166 rfl rfl rfl rfl rfl rfl rfl v_MO_thrown lk_LW_124 rfl rfl (c_MO_thrown  ?_)
  refine Ev_iload (pc := 1169) d_LW_law_1169 rfl ?_
  refine Ev_icmp_eq (tgt := 1176) (pc := 1171) d_LW_law_1171 rfl (fun _ => ?_) (fun q => absurd e1 q)
  refine Ev_iload (pc := 1176) d_LW_law_1176 rfl ?_
  refine Ev_if_ne (tgt := 1193) (pc := 1178) d_LW_law_1178 rfl (fun q1 => ?_) (fun q1 => ?_)
  · refine Ev_goto (tgt := 2164) (pc := 1193) d_LW_law_1193 rfl ?_
    refine Ev_sub (lsub ?_) k
    exact (And.intro rfl (And.intro rfl (And.intro rfl (And.intro rfl (And.intro rfl trivial)))))
  · refine Ev_aload_n (pc := 1181) d_LW_law_1181 rfl ?_
    refine Ev_iconst (v := 0) (pc := 1182) d_LW_law_1182 (by decide) ?_
    refine Ev_lald (pc := 1183) d_LW_law_1183 rfl rfl (by decide) (by decide) ?_
    refine Ev_iload (pc := 1184) d_LW_law_1184 rfl ?_
    refine Ev_i2l (pc := 1186) d_LW_law_1186 ?_
    refine Ev_lcmp (pc := 1187) d_LW_law_1187 ?_
    refine Ev_if_eq (tgt := 1193) (pc := 1188) d_LW_law_1188 rfl (fun _ => ?_) (fun q => absurd (e2 q1) q)
    refine Ev_goto (tgt := 2164) (pc := 1193) d_LW_law_1193 rfl ?_
    refine Ev_sub (lsub ?_) k
    exact (And.intro rfl (And.intro rfl (And.intro rfl (And.intro rfl (And.intro rfl trivial)))))
theorem c_LW_law_15_1 {E : ev_E} {P : Option ev_V ⊕ Nat → ev_H → Prop} {h : ev_H} {i : Nat} {y0 : Int32} {y1 : Int32} {y2 : Int32} {y3 : Int32} {y4 : Int32} {y5 : Int32} (n0 : sok E ((nI i) + 1) y1) (hU : uok h) (hR : rfs h) (hZ : cZ h < ZM) (n4 : f_MO_isUnit ((f_LW_giveBack h y1).2) y1 = 1) (n5 : rfs ((f_LW_giveBack h y1).2)) (n6 : ¬ y1 < 0) (n7 : y1.toNatClampNeg < 48) (e1 : (f_MO_thrown ((f_MO_giveBack_1 ((f_LW_giveBack h y1).2) y1).2)) = ((f_LW_giveBack h y1).1)) (e2 : ((f_LW_giveBack h y1).1) = 0 → (lg_cmp (gL ((f_MO_giveBack_1 ((f_LW_giveBack h y1).2) y1).2) 0 27 0) (((f_MO_giveBack_1 ((f_LW_giveBack h y1).2) y1).1).toInt64)) = 0) (k : Ev E M_LW_law 2164 [(0, vR 5 0), (1, vR 0 0), (2, vR 0 6), (3, vR 0 27), (4, vI (nI i))] [] ((f_MO_giveBack_1 ((f_LW_giveBack h y1).2) y1).2) P) : Ev E M_LW_law 1196 [(0, vR 5 0), (1, vR 0 0), (2, vR 0 6), (3, vR 0 27), (4, vI (nI i))] [] h P := by
  refine Ev_aload_n (pc := 1196) d_LW_law_1196 rfl ?_
  refine Ev_aload_n (pc := 1197) d_LW_law_1197 rfl ?_
  refine Ev_iload (pc := 1198) d_LW_law_1198 rfl ?_
  refine Ev_iconst (v := 1) (pc := 1200) d_LW_law_1200 (by decide) ?_
  refine Ev_iadd (pc := 1201) d_LW_law_1201 ?_
  refine Ev_scr (pc := 1202) d_LW_law_1202 n0 ?_
  refine Ev_aload_n (pc := 1203) d_LW_law_1203 rfl ?_
  refine Ev_callS (M' := M_LW_giveBack) (as := [vR 0 0, vI y1, vR 0 27]) (st := []) (pc := 1204) d_LW_law_1204 rfl rfl rfl s_LW_giveBack lk_LW_175 rfl rfl (c_LW_giveBack hU hR hZ ?_)
  refine Ev_istore (pc := 1207) d_LW_law_1207 rfl ?_
  refine Ev_aload_n (pc := 1209) d_LW_law_1209 rfl ?_
  refine Ev_aload_n (pc := 1210) d_LW_law_1210 rfl ?_
  refine Ev_iload (pc := 1211) d_LW_law_1211 rfl ?_
  refine Ev_iconst (v := 1) (pc := 1213) d_LW_law_1213 (by decide) ?_
  refine Ev_iadd (pc := 1214) d_LW_law_1214 ?_
  refine Ev_scr (pc := 1215) d_LW_law_1215 n0 ?_
  refine Ev_callV (M' := M_MO_giveBack) (as := [vI y1]) (st := []) (a := 0) (i := 6) (pc := 1216) d_LW_law_1216 rfl rfl rfl rfl rfl rfl rfl v_MO_giveBack lk_LW_177 rfl rfl (c_MO_giveBack_1 n4 n5 n6 n7 ?_)
  refine Ev_istore (pc := 1219) d_LW_law_1219 rfl ?_
  refine Ev_aload_n (pc := 1221) d_LW_law_1221 rfl ?_
  refine Ev_callV (M' := M_MO_thrown) (as := []) (st := []) (a := 0) (i := 6) (pc := 1222) d_LW_law_1222 rfl rfl rfl rfl rfl rfl rfl v_MO_thrown lk_LW_124 rfl rfl (c_MO_thrown  ?_)
  refine Ev_iload (pc := 1225) d_LW_law_1225 rfl ?_
  refine Ev_icmp_eq (tgt := 1232) (pc := 1227) d_LW_law_1227 rfl (fun _ => ?_) (fun q => absurd e1 q)
  refine Ev_iload (pc := 1232) d_LW_law_1232 rfl ?_
  refine Ev_if_ne (tgt := 1249) (pc := 1234) d_LW_law_1234 rfl (fun q1 => ?_) (fun q1 => ?_)
  · refine Ev_goto (tgt := 2164) (pc := 1249) d_LW_law_1249 rfl ?_
    refine Ev_sub (lsub ?_) k
    exact (And.intro rfl (And.intro rfl (And.intro rfl (And.intro rfl (And.intro rfl trivial)))))
  · refine Ev_aload_n (pc := 1237) d_LW_law_1237 rfl ?_
    refine Ev_iconst (v := 0) (pc := 1238) d_LW_law_1238 (by decide) ?_
    refine Ev_lald (pc := 1239) d_LW_law_1239 rfl rfl (by decide) (by decide) ?_
    refine Ev_iload (pc := 1240) d_LW_law_1240 rfl ?_
    refine Ev_i2l (pc := 1242) d_LW_law_1242 ?_
    refine Ev_lcmp (pc := 1243) d_LW_law_1243 ?_
    refine Ev_if_eq (tgt := 1249) (pc := 1244) d_LW_law_1244 rfl (fun _ => ?_) (fun q => absurd (e2 q1) q)
    refine Ev_goto (tgt := 2164) (pc := 1249) d_LW_law_1249 rfl ?_
    refine Ev_sub (lsub ?_) k
    exact (And.intro rfl (And.intro rfl (And.intro rfl (And.intro rfl (And.intro rfl trivial)))))
theorem c_LW_law_15_0 {E : ev_E} {P : Option ev_V ⊕ Nat → ev_H → Prop} {h : ev_H} {i : Nat} {y0 : Int32} {y1 : Int32} {y2 : Int32} {y3 : Int32} {y4 : Int32} {y5 : Int32} (n0 : sok E ((nI i) + 1) y1) (hU : uok h) (hR : rfs h) (hZ : cZ h < ZM) (n4 : f_MO_isUnit ((f_LW_giveBack h y1).2) y1 = 0) (e1 : (f_MO_thrown ((f_MO_giveBack_0 ((f_LW_giveBack h y1).2) y1).2)) = ((f_LW_giveBack h y1).1)) (e2 : ((f_LW_giveBack h y1).1) = 0 → (lg_cmp (gL ((f_MO_giveBack_0 ((f_LW_giveBack h y1).2) y1).2) 0 27 0) (((f_MO_giveBack_0 ((f_LW_giveBack h y1).2) y1).1).toInt64)) = 0) (k : Ev E M_LW_law 2164 [(0, vR 5 0), (1, vR 0 0), (2, vR 0 6), (3, vR 0 27), (4, vI (nI i))] [] ((f_MO_giveBack_0 ((f_LW_giveBack h y1).2) y1).2) P) : Ev E M_LW_law 1196 [(0, vR 5 0), (1, vR 0 0), (2, vR 0 6), (3, vR 0 27), (4, vI (nI i))] [] h P := by
  refine Ev_aload_n (pc := 1196) d_LW_law_1196 rfl ?_
  refine Ev_aload_n (pc := 1197) d_LW_law_1197 rfl ?_
  refine Ev_iload (pc := 1198) d_LW_law_1198 rfl ?_
  refine Ev_iconst (v := 1) (pc := 1200) d_LW_law_1200 (by decide) ?_
  refine Ev_iadd (pc := 1201) d_LW_law_1201 ?_
  refine Ev_scr (pc := 1202) d_LW_law_1202 n0 ?_
  refine Ev_aload_n (pc := 1203) d_LW_law_1203 rfl ?_
  refine Ev_callS (M' := M_LW_giveBack) (as := [vR 0 0, vI y1, vR 0 27]) (st := []) (pc := 1204) d_LW_law_1204 rfl rfl rfl s_LW_giveBack lk_LW_175 rfl rfl (c_LW_giveBack hU hR hZ ?_)
  refine Ev_istore (pc := 1207) d_LW_law_1207 rfl ?_
  refine Ev_aload_n (pc := 1209) d_LW_law_1209 rfl ?_
  refine Ev_aload_n (pc := 1210) d_LW_law_1210 rfl ?_
  refine Ev_iload (pc := 1211) d_LW_law_1211 rfl ?_
  refine Ev_iconst (v := 1) (pc := 1213) d_LW_law_1213 (by decide) ?_
  refine Ev_iadd (pc := 1214) d_LW_law_1214 ?_
  refine Ev_scr (pc := 1215) d_LW_law_1215 n0 ?_
  refine Ev_callV (M' := M_MO_giveBack) (as := [vI y1]) (st := []) (a := 0) (i := 6) (pc := 1216) d_LW_law_1216 rfl rfl rfl rfl rfl rfl rfl v_MO_giveBack lk_LW_177 rfl rfl (c_MO_giveBack_0 n4 ?_)
  refine Ev_istore (pc := 1219) d_LW_law_1219 rfl ?_
  refine Ev_aload_n (pc := 1221) d_LW_law_1221 rfl ?_
  refine Ev_callV (M' := M_MO_thrown) (as := []) (st := []) (a := 0) (i := 6) (pc := 1222) d_LW_law_1222 rfl rfl rfl rfl rfl rfl rfl v_MO_thrown lk_LW_124 rfl rfl (c_MO_thrown  ?_)
  refine Ev_iload (pc := 1225) d_LW_law_1225 rfl ?_
  refine Ev_icmp_eq (tgt := 1232) (pc := 1227) d_LW_law_1227 rfl (fun _ => ?_) (fun q => absurd e1 q)
  refine Ev_iload (pc := 1232) d_LW_law_1232 rfl ?_
  refine Ev_if_ne (tgt := 1249) (pc := 1234) d_LW_law_1234 rfl (fun q1 => ?_) (fun q1 => ?_)
  · refine Ev_goto (tgt := 2164) (pc := 1249) d_LW_law_1249 rfl ?_
    refine Ev_sub (lsub ?_) k
    exact (And.intro rfl (And.intro rfl (And.intro rfl (And.intro rfl (And.intro rfl trivial)))))
  · refine Ev_aload_n (pc := 1237) d_LW_law_1237 rfl ?_
    refine Ev_iconst (v := 0) (pc := 1238) d_LW_law_1238 (by decide) ?_
    refine Ev_lald (pc := 1239) d_LW_law_1239 rfl rfl (by decide) (by decide) ?_
    refine Ev_iload (pc := 1240) d_LW_law_1240 rfl ?_
    refine Ev_i2l (pc := 1242) d_LW_law_1242 ?_
    refine Ev_lcmp (pc := 1243) d_LW_law_1243 ?_
    refine Ev_if_eq (tgt := 1249) (pc := 1244) d_LW_law_1244 rfl (fun _ => ?_) (fun q => absurd (e2 q1) q)
    refine Ev_goto (tgt := 2164) (pc := 1249) d_LW_law_1249 rfl ?_
    refine Ev_sub (lsub ?_) k
    exact (And.intro rfl (And.intro rfl (And.intro rfl (And.intro rfl (And.intro rfl trivial)))))
theorem c_LW_law_16_1 {E : ev_E} {P : Option ev_V ⊕ Nat → ev_H → Prop} {h : ev_H} {i : Nat} {y0 : Int32} {y1 : Int32} {y2 : Int32} {y3 : Int32} {y4 : Int32} {y5 : Int32} (n0 : sok E ((nI i) + 1) y1) (hU : uok h) (hR : rfs h) (hZ : cZ h < ZM) (n4 : f_MO_isUnit ((f_LW_transfused h y1).2) y1 = 1) (n5 : rfs ((f_LW_transfused h y1).2)) (n6 : ¬ y1 < 0) (n7 : y1.toNatClampNeg < 48) (e1 : (f_MO_thrown ((f_MO_transfused_1 ((f_LW_transfused h y1).2) y1).2)) = ((f_LW_transfused h y1).1)) (e2 : ((f_LW_transfused h y1).1) = 0 → (lg_cmp (gL ((f_MO_transfused_1 ((f_LW_transfused h y1).2) y1).2) 0 27 0) (((f_MO_transfused_1 ((f_LW_transfused h y1).2) y1).1).toInt64)) = 0) (k : Ev E M_LW_law 2164 [(0, vR 5 0), (1, vR 0 0), (2, vR 0 6), (3, vR 0 27), (4, vI (nI i))] [] ((f_MO_transfused_1 ((f_LW_transfused h y1).2) y1).2) P) : Ev E M_LW_law 1252 [(0, vR 5 0), (1, vR 0 0), (2, vR 0 6), (3, vR 0 27), (4, vI (nI i))] [] h P := by
  refine Ev_aload_n (pc := 1252) d_LW_law_1252 rfl ?_
  refine Ev_aload_n (pc := 1253) d_LW_law_1253 rfl ?_
  refine Ev_iload (pc := 1254) d_LW_law_1254 rfl ?_
  refine Ev_iconst (v := 1) (pc := 1256) d_LW_law_1256 (by decide) ?_
  refine Ev_iadd (pc := 1257) d_LW_law_1257 ?_
  refine Ev_scr (pc := 1258) d_LW_law_1258 n0 ?_
  refine Ev_aload_n (pc := 1259) d_LW_law_1259 rfl ?_
  refine Ev_callS (M' := M_LW_transfused) (as := [vR 0 0, vI y1, vR 0 27]) (st := []) (pc := 1260) d_LW_law_1260 rfl rfl rfl s_LW_transfused lk_LW_178 rfl rfl (c_LW_transfused hU hR hZ ?_)
  refine Ev_istore (pc := 1263) d_LW_law_1263 rfl ?_
  refine Ev_aload_n (pc := 1265) d_LW_law_1265 rfl ?_
  refine Ev_aload_n (pc := 1266) d_LW_law_1266 rfl ?_
  refine Ev_iload (pc := 1267) d_LW_law_1267 rfl ?_
  refine Ev_iconst (v := 1) (pc := 1269) d_LW_law_1269 (by decide) ?_
  refine Ev_iadd (pc := 1270) d_LW_law_1270 ?_
  refine Ev_scr (pc := 1271) d_LW_law_1271 n0 ?_
  refine Ev_callV (M' := M_MO_transfused) (as := [vI y1]) (st := []) (a := 0) (i := 6) (pc := 1272) d_LW_law_1272 rfl rfl rfl rfl rfl rfl rfl v_MO_transfused lk_LW_180 rfl rfl (c_MO_transfused_1 n4 n5 n6 n7 ?_)
  refine Ev_istore (pc := 1275) d_LW_law_1275 rfl ?_
  refine Ev_aload_n (pc := 1277) d_LW_law_1277 rfl ?_
  refine Ev_callV (M' := M_MO_thrown) (as := []) (st := []) (a := 0) (i := 6) (pc := 1278) d_LW_law_1278 rfl rfl rfl rfl rfl rfl rfl v_MO_thrown lk_LW_124 rfl rfl (c_MO_thrown  ?_)
  refine Ev_iload (pc := 1281) d_LW_law_1281 rfl ?_
  refine Ev_icmp_eq (tgt := 1288) (pc := 1283) d_LW_law_1283 rfl (fun _ => ?_) (fun q => absurd e1 q)
  refine Ev_iload (pc := 1288) d_LW_law_1288 rfl ?_
  refine Ev_if_ne (tgt := 1305) (pc := 1290) d_LW_law_1290 rfl (fun q1 => ?_) (fun q1 => ?_)
  · refine Ev_goto (tgt := 2164) (pc := 1305) d_LW_law_1305 rfl ?_
    refine Ev_sub (lsub ?_) k
    exact (And.intro rfl (And.intro rfl (And.intro rfl (And.intro rfl (And.intro rfl trivial)))))
  · refine Ev_aload_n (pc := 1293) d_LW_law_1293 rfl ?_
    refine Ev_iconst (v := 0) (pc := 1294) d_LW_law_1294 (by decide) ?_
    refine Ev_lald (pc := 1295) d_LW_law_1295 rfl rfl (by decide) (by decide) ?_
    refine Ev_iload (pc := 1296) d_LW_law_1296 rfl ?_
    refine Ev_i2l (pc := 1298) d_LW_law_1298 ?_
    refine Ev_lcmp (pc := 1299) d_LW_law_1299 ?_
    refine Ev_if_eq (tgt := 1305) (pc := 1300) d_LW_law_1300 rfl (fun _ => ?_) (fun q => absurd (e2 q1) q)
    refine Ev_goto (tgt := 2164) (pc := 1305) d_LW_law_1305 rfl ?_
    refine Ev_sub (lsub ?_) k
    exact (And.intro rfl (And.intro rfl (And.intro rfl (And.intro rfl (And.intro rfl trivial)))))
theorem c_LW_law_16_0 {E : ev_E} {P : Option ev_V ⊕ Nat → ev_H → Prop} {h : ev_H} {i : Nat} {y0 : Int32} {y1 : Int32} {y2 : Int32} {y3 : Int32} {y4 : Int32} {y5 : Int32} (n0 : sok E ((nI i) + 1) y1) (hU : uok h) (hR : rfs h) (hZ : cZ h < ZM) (n4 : f_MO_isUnit ((f_LW_transfused h y1).2) y1 = 0) (e1 : (f_MO_thrown ((f_MO_transfused_0 ((f_LW_transfused h y1).2) y1).2)) = ((f_LW_transfused h y1).1)) (e2 : ((f_LW_transfused h y1).1) = 0 → (lg_cmp (gL ((f_MO_transfused_0 ((f_LW_transfused h y1).2) y1).2) 0 27 0) (((f_MO_transfused_0 ((f_LW_transfused h y1).2) y1).1).toInt64)) = 0) (k : Ev E M_LW_law 2164 [(0, vR 5 0), (1, vR 0 0), (2, vR 0 6), (3, vR 0 27), (4, vI (nI i))] [] ((f_MO_transfused_0 ((f_LW_transfused h y1).2) y1).2) P) : Ev E M_LW_law 1252 [(0, vR 5 0), (1, vR 0 0), (2, vR 0 6), (3, vR 0 27), (4, vI (nI i))] [] h P := by
  refine Ev_aload_n (pc := 1252) d_LW_law_1252 rfl ?_
  refine Ev_aload_n (pc := 1253) d_LW_law_1253 rfl ?_
  refine Ev_iload (pc := 1254) d_LW_law_1254 rfl ?_
  refine Ev_iconst (v := 1) (pc := 1256) d_LW_law_1256 (by decide) ?_
  refine Ev_iadd (pc := 1257) d_LW_law_1257 ?_
  refine Ev_scr (pc := 1258) d_LW_law_1258 n0 ?_
  refine Ev_aload_n (pc := 1259) d_LW_law_1259 rfl ?_
  refine Ev_callS (M' := M_LW_transfused) (as := [vR 0 0, vI y1, vR 0 27]) (st := []) (pc := 1260) d_LW_law_1260 rfl rfl rfl s_LW_transfused lk_LW_178 rfl rfl (c_LW_transfused hU hR hZ ?_)
  refine Ev_istore (pc := 1263) d_LW_law_1263 rfl ?_
  refine Ev_aload_n (pc := 1265) d_LW_law_1265 rfl ?_
  refine Ev_aload_n (pc := 1266) d_LW_law_1266 rfl ?_
  refine Ev_iload (pc := 1267) d_LW_law_1267 rfl ?_
  refine Ev_iconst (v := 1) (pc := 1269) d_LW_law_1269 (by decide) ?_
  refine Ev_iadd (pc := 1270) d_LW_law_1270 ?_
  refine Ev_scr (pc := 1271) d_LW_law_1271 n0 ?_
  refine Ev_callV (M' := M_MO_transfused) (as := [vI y1]) (st := []) (a := 0) (i := 6) (pc := 1272) d_LW_law_1272 rfl rfl rfl rfl rfl rfl rfl v_MO_transfused lk_LW_180 rfl rfl (c_MO_transfused_0 n4 ?_)
  refine Ev_istore (pc := 1275) d_LW_law_1275 rfl ?_
  refine Ev_aload_n (pc := 1277) d_LW_law_1277 rfl ?_
  refine Ev_callV (M' := M_MO_thrown) (as := []) (st := []) (a := 0) (i := 6) (pc := 1278) d_LW_law_1278 rfl rfl rfl rfl rfl rfl rfl v_MO_thrown lk_LW_124 rfl rfl (c_MO_thrown  ?_)
  refine Ev_iload (pc := 1281) d_LW_law_1281 rfl ?_
  refine Ev_icmp_eq (tgt := 1288) (pc := 1283) d_LW_law_1283 rfl (fun _ => ?_) (fun q => absurd e1 q)
  refine Ev_iload (pc := 1288) d_LW_law_1288 rfl ?_
  refine Ev_if_ne (tgt := 1305) (pc := 1290) d_LW_law_1290 rfl (fun q1 => ?_) (fun q1 => ?_)
  · refine Ev_goto (tgt := 2164) (pc := 1305) d_LW_law_1305 rfl ?_
    refine Ev_sub (lsub ?_) k
    exact (And.intro rfl (And.intro rfl (And.intro rfl (And.intro rfl (And.intro rfl trivial)))))
  · refine Ev_aload_n (pc := 1293) d_LW_law_1293 rfl ?_
    refine Ev_iconst (v := 0) (pc := 1294) d_LW_law_1294 (by decide) ?_
    refine Ev_lald (pc := 1295) d_LW_law_1295 rfl rfl (by decide) (by decide) ?_
    refine Ev_iload (pc := 1296) d_LW_law_1296 rfl ?_
    refine Ev_i2l (pc := 1298) d_LW_law_1298 ?_
    refine Ev_lcmp (pc := 1299) d_LW_law_1299 ?_
    refine Ev_if_eq (tgt := 1305) (pc := 1300) d_LW_law_1300 rfl (fun _ => ?_) (fun q => absurd (e2 q1) q)
    refine Ev_goto (tgt := 2164) (pc := 1305) d_LW_law_1305 rfl ?_
    refine Ev_sub (lsub ?_) k
    exact (And.intro rfl (And.intro rfl (And.intro rfl (And.intro rfl (And.intro rfl trivial)))))
theorem c_LW_law_17_1 {E : ev_E} {P : Option ev_V ⊕ Nat → ev_H → Prop} {h : ev_H} {i : Nat} {y0 : Int32} {y1 : Int32} {y2 : Int32} {y3 : Int32} {y4 : Int32} {y5 : Int32} (n0 : sok E ((nI i) + 1) y1) (n1 : sok E ((nI i) + 2) y2) (hU : uok h) (hR : rfs h) (hZ : cZ h < ZM) (n5 : f_MO_isUnit ((f_LW_discard h y1 y2).2) y1 = 1) (n6 : rfs ((f_LW_discard h y1 y2).2)) (n7 : ¬ y1 < 0) (n8 : y1.toNatClampNeg < 48) (e1 : (f_MO_thrown ((f_MO_discard_1 ((f_LW_discard h y1 y2).2) y1 y2).2)) = ((f_LW_discard h y1 y2).1)) (e2 : ((f_LW_discard h y1 y2).1) = 0 → (lg_cmp (gL ((f_MO_discard_1 ((f_LW_discard h y1 y2).2) y1 y2).2) 0 27 0) (((f_MO_discard_1 ((f_LW_discard h y1 y2).2) y1 y2).1).toInt64)) = 0) (k : Ev E M_LW_law 2164 [(0, vR 5 0), (1, vR 0 0), (2, vR 0 6), (3, vR 0 27), (4, vI (nI i))] [] ((f_MO_discard_1 ((f_LW_discard h y1 y2).2) y1 y2).2) P) : Ev E M_LW_law 1308 [(0, vR 5 0), (1, vR 0 0), (2, vR 0 6), (3, vR 0 27), (4, vI (nI i))] [] h P := by
  refine Ev_aload_n (pc := 1308) d_LW_law_1308 rfl ?_
  refine Ev_aload_n (pc := 1309) d_LW_law_1309 rfl ?_
  refine Ev_iload (pc := 1310) d_LW_law_1310 rfl ?_
  refine Ev_iconst (v := 1) (pc := 1312) d_LW_law_1312 (by decide) ?_
  refine Ev_iadd (pc := 1313) d_LW_law_1313 ?_
  refine Ev_scr (pc := 1314) d_LW_law_1314 n0 ?_
  refine Ev_aload_n (pc := 1315) d_LW_law_1315 rfl ?_
  refine Ev_iload (pc := 1316) d_LW_law_1316 rfl ?_
  refine Ev_iconst (v := 2) (pc := 1318) d_LW_law_1318 (by decide) ?_
  refine Ev_iadd (pc := 1319) d_LW_law_1319 ?_
  refine Ev_scr (pc := 1320) d_LW_law_1320 n1 ?_
  refine Ev_aload_n (pc := 1321) d_LW_law_1321 rfl ?_
  refine Ev_callS (M' := M_LW_discard) (as := [vR 0 0, vI y1, vI y2, vR 0 27]) (st := []) (pc := 1322) d_LW_law_1322 rfl rfl rfl s_LW_discard lk_LW_181 rfl rfl (c_LW_discard hU hR hZ ?_)
  refine Ev_istore (pc := 1325) d_LW_law_1325 rfl ?_
  refine Ev_aload_n (pc := 1327) d_LW_law_1327 rfl ?_
  refine Ev_aload_n (pc := 1328) d_LW_law_1328 rfl ?_
  refine Ev_iload (pc := 1329) d_LW_law_1329 rfl ?_
  refine Ev_iconst (v := 1) (pc := 1331) d_LW_law_1331 (by decide) ?_
  refine Ev_iadd (pc := 1332) d_LW_law_1332 ?_
  refine Ev_scr (pc := 1333) d_LW_law_1333 n0 ?_
  refine Ev_aload_n (pc := 1334) d_LW_law_1334 rfl ?_
  refine Ev_iload (pc := 1335) d_LW_law_1335 rfl ?_
  refine Ev_iconst (v := 2) (pc := 1337) d_LW_law_1337 (by decide) ?_
  refine Ev_iadd (pc := 1338) d_LW_law_1338 ?_
  refine Ev_scr (pc := 1339) d_LW_law_1339 n1 ?_
  refine Ev_callV (M' := M_MO_discard) (as := [vI y1, vI y2]) (st := []) (a := 0) (i := 6) (pc := 1340) d_LW_law_1340 rfl rfl rfl rfl rfl rfl rfl v_MO_discard lk_LW_183 rfl rfl (c_MO_discard_1 n5 n6 n7 n8 ?_)
  refine Ev_istore (pc := 1343) d_LW_law_1343 rfl ?_
  refine Ev_aload_n (pc := 1345) d_LW_law_1345 rfl ?_
  refine Ev_callV (M' := M_MO_thrown) (as := []) (st := []) (a := 0) (i := 6) (pc := 1346) d_LW_law_1346 rfl rfl rfl rfl rfl rfl rfl v_MO_thrown lk_LW_124 rfl rfl (c_MO_thrown  ?_)
  refine Ev_iload (pc := 1349) d_LW_law_1349 rfl ?_
  refine Ev_icmp_eq (tgt := 1356) (pc := 1351) d_LW_law_1351 rfl (fun _ => ?_) (fun q => absurd e1 q)
  refine Ev_iload (pc := 1356) d_LW_law_1356 rfl ?_
  refine Ev_if_ne (tgt := 1373) (pc := 1358) d_LW_law_1358 rfl (fun q1 => ?_) (fun q1 => ?_)
  · refine Ev_goto (tgt := 2164) (pc := 1373) d_LW_law_1373 rfl ?_
    refine Ev_sub (lsub ?_) k
    exact (And.intro rfl (And.intro rfl (And.intro rfl (And.intro rfl (And.intro rfl trivial)))))
  · refine Ev_aload_n (pc := 1361) d_LW_law_1361 rfl ?_
    refine Ev_iconst (v := 0) (pc := 1362) d_LW_law_1362 (by decide) ?_
    refine Ev_lald (pc := 1363) d_LW_law_1363 rfl rfl (by decide) (by decide) ?_
    refine Ev_iload (pc := 1364) d_LW_law_1364 rfl ?_
    refine Ev_i2l (pc := 1366) d_LW_law_1366 ?_
    refine Ev_lcmp (pc := 1367) d_LW_law_1367 ?_
    refine Ev_if_eq (tgt := 1373) (pc := 1368) d_LW_law_1368 rfl (fun _ => ?_) (fun q => absurd (e2 q1) q)
    refine Ev_goto (tgt := 2164) (pc := 1373) d_LW_law_1373 rfl ?_
    refine Ev_sub (lsub ?_) k
    exact (And.intro rfl (And.intro rfl (And.intro rfl (And.intro rfl (And.intro rfl trivial)))))
theorem c_LW_law_17_0 {E : ev_E} {P : Option ev_V ⊕ Nat → ev_H → Prop} {h : ev_H} {i : Nat} {y0 : Int32} {y1 : Int32} {y2 : Int32} {y3 : Int32} {y4 : Int32} {y5 : Int32} (n0 : sok E ((nI i) + 1) y1) (n1 : sok E ((nI i) + 2) y2) (hU : uok h) (hR : rfs h) (hZ : cZ h < ZM) (n5 : f_MO_isUnit ((f_LW_discard h y1 y2).2) y1 = 0) (e1 : (f_MO_thrown ((f_MO_discard_0 ((f_LW_discard h y1 y2).2) y1 y2).2)) = ((f_LW_discard h y1 y2).1)) (e2 : ((f_LW_discard h y1 y2).1) = 0 → (lg_cmp (gL ((f_MO_discard_0 ((f_LW_discard h y1 y2).2) y1 y2).2) 0 27 0) (((f_MO_discard_0 ((f_LW_discard h y1 y2).2) y1 y2).1).toInt64)) = 0) (k : Ev E M_LW_law 2164 [(0, vR 5 0), (1, vR 0 0), (2, vR 0 6), (3, vR 0 27), (4, vI (nI i))] [] ((f_MO_discard_0 ((f_LW_discard h y1 y2).2) y1 y2).2) P) : Ev E M_LW_law 1308 [(0, vR 5 0), (1, vR 0 0), (2, vR 0 6), (3, vR 0 27), (4, vI (nI i))] [] h P := by
  refine Ev_aload_n (pc := 1308) d_LW_law_1308 rfl ?_
  refine Ev_aload_n (pc := 1309) d_LW_law_1309 rfl ?_
  refine Ev_iload (pc := 1310) d_LW_law_1310 rfl ?_
  refine Ev_iconst (v := 1) (pc := 1312) d_LW_law_1312 (by decide) ?_
  refine Ev_iadd (pc := 1313) d_LW_law_1313 ?_
  refine Ev_scr (pc := 1314) d_LW_law_1314 n0 ?_
  refine Ev_aload_n (pc := 1315) d_LW_law_1315 rfl ?_
  refine Ev_iload (pc := 1316) d_LW_law_1316 rfl ?_
  refine Ev_iconst (v := 2) (pc := 1318) d_LW_law_1318 (by decide) ?_
  refine Ev_iadd (pc := 1319) d_LW_law_1319 ?_
  refine Ev_scr (pc := 1320) d_LW_law_1320 n1 ?_
  refine Ev_aload_n (pc := 1321) d_LW_law_1321 rfl ?_
  refine Ev_callS (M' := M_LW_discard) (as := [vR 0 0, vI y1, vI y2, vR 0 27]) (st := []) (pc := 1322) d_LW_law_1322 rfl rfl rfl s_LW_discard lk_LW_181 rfl rfl (c_LW_discard hU hR hZ ?_)
  refine Ev_istore (pc := 1325) d_LW_law_1325 rfl ?_
  refine Ev_aload_n (pc := 1327) d_LW_law_1327 rfl ?_
  refine Ev_aload_n (pc := 1328) d_LW_law_1328 rfl ?_
  refine Ev_iload (pc := 1329) d_LW_law_1329 rfl ?_
  refine Ev_iconst (v := 1) (pc := 1331) d_LW_law_1331 (by decide) ?_
  refine Ev_iadd (pc := 1332) d_LW_law_1332 ?_
  refine Ev_scr (pc := 1333) d_LW_law_1333 n0 ?_
  refine Ev_aload_n (pc := 1334) d_LW_law_1334 rfl ?_
  refine Ev_iload (pc := 1335) d_LW_law_1335 rfl ?_
  refine Ev_iconst (v := 2) (pc := 1337) d_LW_law_1337 (by decide) ?_
  refine Ev_iadd (pc := 1338) d_LW_law_1338 ?_
  refine Ev_scr (pc := 1339) d_LW_law_1339 n1 ?_
  refine Ev_callV (M' := M_MO_discard) (as := [vI y1, vI y2]) (st := []) (a := 0) (i := 6) (pc := 1340) d_LW_law_1340 rfl rfl rfl rfl rfl rfl rfl v_MO_discard lk_LW_183 rfl rfl (c_MO_discard_0 n5 ?_)
  refine Ev_istore (pc := 1343) d_LW_law_1343 rfl ?_
  refine Ev_aload_n (pc := 1345) d_LW_law_1345 rfl ?_
  refine Ev_callV (M' := M_MO_thrown) (as := []) (st := []) (a := 0) (i := 6) (pc := 1346) d_LW_law_1346 rfl rfl rfl rfl rfl rfl rfl v_MO_thrown lk_LW_124 rfl rfl (c_MO_thrown  ?_)
  refine Ev_iload (pc := 1349) d_LW_law_1349 rfl ?_
  refine Ev_icmp_eq (tgt := 1356) (pc := 1351) d_LW_law_1351 rfl (fun _ => ?_) (fun q => absurd e1 q)
  refine Ev_iload (pc := 1356) d_LW_law_1356 rfl ?_
  refine Ev_if_ne (tgt := 1373) (pc := 1358) d_LW_law_1358 rfl (fun q1 => ?_) (fun q1 => ?_)
  · refine Ev_goto (tgt := 2164) (pc := 1373) d_LW_law_1373 rfl ?_
    refine Ev_sub (lsub ?_) k
    exact (And.intro rfl (And.intro rfl (And.intro rfl (And.intro rfl (And.intro rfl trivial)))))
  · refine Ev_aload_n (pc := 1361) d_LW_law_1361 rfl ?_
    refine Ev_iconst (v := 0) (pc := 1362) d_LW_law_1362 (by decide) ?_
    refine Ev_lald (pc := 1363) d_LW_law_1363 rfl rfl (by decide) (by decide) ?_
    refine Ev_iload (pc := 1364) d_LW_law_1364 rfl ?_
    refine Ev_i2l (pc := 1366) d_LW_law_1366 ?_
    refine Ev_lcmp (pc := 1367) d_LW_law_1367 ?_
    refine Ev_if_eq (tgt := 1373) (pc := 1368) d_LW_law_1368 rfl (fun _ => ?_) (fun q => absurd (e2 q1) q)
    refine Ev_goto (tgt := 2164) (pc := 1373) d_LW_law_1373 rfl ?_
    refine Ev_sub (lsub ?_) k
    exact (And.intro rfl (And.intro rfl (And.intro rfl (And.intro rfl (And.intro rfl trivial)))))
def m_LW_law_18_1397 (i : Nat) (y0 : Int32) (y1 : Int32) (y2 : Int32) (y3 : Int32) (y4 : Int32) (y5 : Int32) : Int32 := (if y2 = 0 then 0 else 1)
def m_LW_law_18_1424 (i : Nat) (y0 : Int32) (y1 : Int32) (y2 : Int32) (y3 : Int32) (y4 : Int32) (y5 : Int32) : Int32 := (if y2 = 0 then 0 else 1)
def vv_LW_law_18_1429 (h : ev_H) (i : Nat) (y0 : Int32) (y1 : Int32) (y2 : Int32) (y3 : Int32) (y4 : Int32) (y5 : Int32) : Int32 := (f_MO_quarantine ((f_LW_quarantine h y1 (m_LW_law_18_1397 i y0 y1 y2 y3 y4 y5)).2) y1 (m_LW_law_18_1424 i y0 y1 y2 y3 y4 y5)).1
theorem c_LW_law_18_1424 {E : ev_E} {P : Option ev_V ⊕ Nat → ev_H → Prop} {h : ev_H} {i : Nat} {y0 : Int32} {y1 : Int32} {y2 : Int32} {y3 : Int32} {y4 : Int32} {y5 : Int32} (n0 : (gI ((f_LW_quarantine h y1 (m_LW_law_18_1397 i y0 y1 y2 y3 y4 y5)).2) 0 6 2).toNatClampNeg ≤ 48) (n1 : (gI ((f_LW_quarantine h y1 (m_LW_law_18_1397 i y0 y1 y2 y3 y4 y5)).2) 0 6 2) = nI (gI ((f_LW_quarantine h y1 (m_LW_law_18_1397 i y0 y1 y2 y3 y4 y5)).2) 0 6 2).toNatClampNeg) (n2 : rfs ((f_LW_quarantine h y1 (m_LW_law_18_1397 i y0 y1 y2 y3 y4 y5)).2)) (e1 : (f_MO_thrown ((f_MO_quarantine ((f_LW_quarantine h y1 (m_LW_law_18_1397 i y0 y1 y2 y3 y4 y5)).2) y1 (m_LW_law_18_1424 i y0 y1 y2 y3 y4 y5)).2)) = ((f_LW_quarantine h y1 (m_LW_law_18_1397 i y0 y1 y2 y3 y4 y5)).1)) (e2 : ((f_LW_quarantine h y1 (m_LW_law_18_1397 i y0 y1 y2 y3 y4 y5)).1) = 0 → (lg_cmp (gL ((f_MO_quarantine ((f_LW_quarantine h y1 (m_LW_law_18_1397 i y0 y1 y2 y3 y4 y5)).2) y1 (m_LW_law_18_1424 i y0 y1 y2 y3 y4 y5)).2) 0 27 0) ((vv_LW_law_18_1429 h i y0 y1 y2 y3 y4 y5).toInt64)) = 0) (k : Ev E M_LW_law 2164 [(0, vR 5 0), (1, vR 0 0), (2, vR 0 6), (3, vR 0 27), (4, vI (nI i))] [] ((f_MO_quarantine ((f_LW_quarantine h y1 (m_LW_law_18_1397 i y0 y1 y2 y3 y4 y5)).2) y1 (m_LW_law_18_1424 i y0 y1 y2 y3 y4 y5)).2) P) : Ev E M_LW_law 1424 [(0, vR 5 0), (1, vR 0 0), (2, vR 0 6), (3, vR 0 27), (4, vI (nI i)), (5, vI ((f_LW_quarantine h y1 (m_LW_law_18_1397 i y0 y1 y2 y3 y4 y5)).1))] [vI (m_LW_law_18_1424 i y0 y1 y2 y3 y4 y5), vI y1, vR 0 6] ((f_LW_quarantine h y1 (m_LW_law_18_1397 i y0 y1 y2 y3 y4 y5)).2) P := by
  refine Ev_callV (M' := M_MO_quarantine) (as := [vI y1, vI (m_LW_law_18_1424 i y0 y1 y2 y3 y4 y5)]) (st := []) (a := 0) (i := 6) (pc := 1424) d_LW_law_1424 rfl rfl rfl rfl rfl rfl rfl v_MO_quarantine lk_LW_187 rfl rfl (c_MO_quarantine n0 n1 n2 ?_)
  refine Ev_istore (pc := 1427) d_LW_law_1427 rfl ?_
  show Ev E M_LW_law 1429 [(0, vR 5 0), (1, vR 0 0), (2, vR 0 6), (3, vR 0 27), (4, vI (nI i)), (5, vI ((f_LW_quarantine h y1 (m_LW_law_18_1397 i y0 y1 y2 y3 y4 y5)).1)), (6, vI (vv_LW_law_18_1429 h i y0 y1 y2 y3 y4 y5))] [] ((f_MO_quarantine ((f_LW_quarantine h y1 (m_LW_law_18_1397 i y0 y1 y2 y3 y4 y5)).2) y1 (m_LW_law_18_1424 i y0 y1 y2 y3 y4 y5)).2) P
  refine Ev_aload_n (pc := 1429) d_LW_law_1429 rfl ?_
  refine Ev_callV (M' := M_MO_thrown) (as := []) (st := []) (a := 0) (i := 6) (pc := 1430) d_LW_law_1430 rfl rfl rfl rfl rfl rfl rfl v_MO_thrown lk_LW_124 rfl rfl (c_MO_thrown  ?_)
  refine Ev_iload (pc := 1433) d_LW_law_1433 rfl ?_
  refine Ev_icmp_eq (tgt := 1440) (pc := 1435) d_LW_law_1435 rfl (fun _ => ?_) (fun q => absurd e1 q)
  refine Ev_iload (pc := 1440) d_LW_law_1440 rfl ?_
  refine Ev_if_ne (tgt := 1457) (pc := 1442) d_LW_law_1442 rfl (fun q3 => ?_) (fun q3 => ?_)
  · refine Ev_goto (tgt := 2164) (pc := 1457) d_LW_law_1457 rfl ?_
    refine Ev_sub (lsub ?_) k
    exact (And.intro rfl (And.intro rfl (And.intro rfl (And.intro rfl (And.intro rfl trivial)))))
  · refine Ev_aload_n (pc := 1445) d_LW_law_1445 rfl ?_
    refine Ev_iconst (v := 0) (pc := 1446) d_LW_law_1446 (by decide) ?_
    refine Ev_lald (pc := 1447) d_LW_law_1447 rfl rfl (by decide) (by decide) ?_
    refine Ev_iload (pc := 1448) d_LW_law_1448 rfl ?_
    refine Ev_i2l (pc := 1450) d_LW_law_1450 ?_
    refine Ev_lcmp (pc := 1451) d_LW_law_1451 ?_
    refine Ev_if_eq (tgt := 1457) (pc := 1452) d_LW_law_1452 rfl (fun _ => ?_) (fun q => absurd (e2 q3) q)
    refine Ev_goto (tgt := 2164) (pc := 1457) d_LW_law_1457 rfl ?_
    refine Ev_sub (lsub ?_) k
    exact (And.intro rfl (And.intro rfl (And.intro rfl (And.intro rfl (And.intro rfl trivial)))))
theorem c_LW_law_18_1397 {E : ev_E} {P : Option ev_V ⊕ Nat → ev_H → Prop} {h : ev_H} {i : Nat} {y0 : Int32} {y1 : Int32} {y2 : Int32} {y3 : Int32} {y4 : Int32} {y5 : Int32} (n0 : (gI h 0 0 3).toNatClampNeg ≤ 48) (n1 : (gI h 0 0 3) = nI (gI h 0 0 3).toNatClampNeg) (hR : rfs h) (n3 : ∀ b, b < (gI h 0 0 3).toNatClampNeg → gR (sI h 0 0 6 (m_TB_quarantine_45 h y1 (m_LW_law_18_1397 i y0 y1 y2 y3 y4 y5))) 0 1 b = vR 1 b) (hZ : cZ h < ZM) (n5 : sok E ((nI i) + 1) y1) (n6 : sok E ((nI i) + 2) y2) (n7 : (gI ((f_LW_quarantine h y1 (m_LW_law_18_1397 i y0 y1 y2 y3 y4 y5)).2) 0 6 2).toNatClampNeg ≤ 48) (n8 : (gI ((f_LW_quarantine h y1 (m_LW_law_18_1397 i y0 y1 y2 y3 y4 y5)).2) 0 6 2) = nI (gI ((f_LW_quarantine h y1 (m_LW_law_18_1397 i y0 y1 y2 y3 y4 y5)).2) 0 6 2).toNatClampNeg) (n9 : rfs ((f_LW_quarantine h y1 (m_LW_law_18_1397 i y0 y1 y2 y3 y4 y5)).2)) (n10 : (f_MO_thrown ((f_MO_quarantine ((f_LW_quarantine h y1 (m_LW_law_18_1397 i y0 y1 y2 y3 y4 y5)).2) y1 (m_LW_law_18_1424 i y0 y1 y2 y3 y4 y5)).2)) = ((f_LW_quarantine h y1 (m_LW_law_18_1397 i y0 y1 y2 y3 y4 y5)).1)) (n11 : ((f_LW_quarantine h y1 (m_LW_law_18_1397 i y0 y1 y2 y3 y4 y5)).1) = 0 → (lg_cmp (gL ((f_MO_quarantine ((f_LW_quarantine h y1 (m_LW_law_18_1397 i y0 y1 y2 y3 y4 y5)).2) y1 (m_LW_law_18_1424 i y0 y1 y2 y3 y4 y5)).2) 0 27 0) ((vv_LW_law_18_1429 h i y0 y1 y2 y3 y4 y5).toInt64)) = 0) (k : Ev E M_LW_law 2164 [(0, vR 5 0), (1, vR 0 0), (2, vR 0 6), (3, vR 0 27), (4, vI (nI i))] [] ((f_MO_quarantine ((f_LW_quarantine h y1 (m_LW_law_18_1397 i y0 y1 y2 y3 y4 y5)).2) y1 (m_LW_law_18_1424 i y0 y1 y2 y3 y4 y5)).2) P) : Ev E M_LW_law 1397 [(0, vR 5 0), (1, vR 0 0), (2, vR 0 6), (3, vR 0 27), (4, vI (nI i))] [vI (m_LW_law_18_1397 i y0 y1 y2 y3 y4 y5), vI y1, vR 0 0] h P := by
  refine Ev_aload_n (pc := 1397) d_LW_law_1397 rfl ?_
  refine Ev_callS (M' := M_LW_quarantine) (as := [vR 0 0, vI y1, vI (m_LW_law_18_1397 i y0 y1 y2 y3 y4 y5), vR 0 27]) (st := []) (pc := 1398) d_LW_law_1398 rfl rfl rfl s_LW_quarantine lk_LW_184 rfl rfl (c_LW_quarantine n0 n1 hR n3 hZ ?_)
  refine Ev_istore (pc := 1401) d_LW_law_1401 rfl ?_
  refine Ev_aload_n (pc := 1403) d_LW_law_1403 rfl ?_
  refine Ev_aload_n (pc := 1404) d_LW_law_1404 rfl ?_
  refine Ev_iload (pc := 1405) d_LW_law_1405 rfl ?_
  refine Ev_iconst (v := 1) (pc := 1407) d_LW_law_1407 (by decide) ?_
  refine Ev_iadd (pc := 1408) d_LW_law_1408 ?_
  refine Ev_scr (pc := 1409) d_LW_law_1409 n5 ?_
  refine Ev_aload_n (pc := 1410) d_LW_law_1410 rfl ?_
  refine Ev_iload (pc := 1411) d_LW_law_1411 rfl ?_
  refine Ev_iconst (v := 2) (pc := 1413) d_LW_law_1413 (by decide) ?_
  refine Ev_iadd (pc := 1414) d_LW_law_1414 ?_
  refine Ev_scr (pc := 1415) d_LW_law_1415 n6 ?_
  refine Ev_if_eq (tgt := 1423) (pc := 1416) d_LW_law_1416 rfl (fun q2 => ?_) (fun q2 => ?_)
  · refine Ev_iconst (v := 0) (pc := 1423) d_LW_law_1423 (by decide) ?_
    have j := c_LW_law_18_1424 (E := E) (P := P) (h := h) (i := i) (y0 := y0) (y1 := y1) (y2 := y2) (y3 := y3) (y4 := y4) (y5 := y5) n7 n8 n9 n10 n11 k
    rw [m_LW_law_18_1424, if_pos q2] at j
    exact j
  · refine Ev_iconst (v := 1) (pc := 1419) d_LW_law_1419 (by decide) ?_
    refine Ev_goto (tgt := 1424) (pc := 1420) d_LW_law_1420 rfl ?_
    have j := c_LW_law_18_1424 (E := E) (P := P) (h := h) (i := i) (y0 := y0) (y1 := y1) (y2 := y2) (y3 := y3) (y4 := y4) (y5 := y5) n7 n8 n9 n10 n11 k
    rw [m_LW_law_18_1424, if_neg q2] at j
    exact j
theorem c_LW_law_18 {E : ev_E} {P : Option ev_V ⊕ Nat → ev_H → Prop} {h : ev_H} {i : Nat} {y0 : Int32} {y1 : Int32} {y2 : Int32} {y3 : Int32} {y4 : Int32} {y5 : Int32} (n0 : sok E ((nI i) + 1) y1) (n1 : sok E ((nI i) + 2) y2) (n2 : (gI h 0 0 3).toNatClampNeg ≤ 48) (n3 : (gI h 0 0 3) = nI (gI h 0 0 3).toNatClampNeg) (hR : rfs h) (n5 : ∀ b, b < (gI h 0 0 3).toNatClampNeg → gR (sI h 0 0 6 (m_TB_quarantine_45 h y1 (m_LW_law_18_1397 i y0 y1 y2 y3 y4 y5))) 0 1 b = vR 1 b) (hZ : cZ h < ZM) (n7 : (gI ((f_LW_quarantine h y1 (m_LW_law_18_1397 i y0 y1 y2 y3 y4 y5)).2) 0 6 2).toNatClampNeg ≤ 48) (n8 : (gI ((f_LW_quarantine h y1 (m_LW_law_18_1397 i y0 y1 y2 y3 y4 y5)).2) 0 6 2) = nI (gI ((f_LW_quarantine h y1 (m_LW_law_18_1397 i y0 y1 y2 y3 y4 y5)).2) 0 6 2).toNatClampNeg) (n9 : rfs ((f_LW_quarantine h y1 (m_LW_law_18_1397 i y0 y1 y2 y3 y4 y5)).2)) (n10 : (f_MO_thrown ((f_MO_quarantine ((f_LW_quarantine h y1 (m_LW_law_18_1397 i y0 y1 y2 y3 y4 y5)).2) y1 (m_LW_law_18_1424 i y0 y1 y2 y3 y4 y5)).2)) = ((f_LW_quarantine h y1 (m_LW_law_18_1397 i y0 y1 y2 y3 y4 y5)).1)) (n11 : ((f_LW_quarantine h y1 (m_LW_law_18_1397 i y0 y1 y2 y3 y4 y5)).1) = 0 → (lg_cmp (gL ((f_MO_quarantine ((f_LW_quarantine h y1 (m_LW_law_18_1397 i y0 y1 y2 y3 y4 y5)).2) y1 (m_LW_law_18_1424 i y0 y1 y2 y3 y4 y5)).2) 0 27 0) ((vv_LW_law_18_1429 h i y0 y1 y2 y3 y4 y5).toInt64)) = 0) (k : Ev E M_LW_law 2164 [(0, vR 5 0), (1, vR 0 0), (2, vR 0 6), (3, vR 0 27), (4, vI (nI i))] [] ((f_MO_quarantine ((f_LW_quarantine h y1 (m_LW_law_18_1397 i y0 y1 y2 y3 y4 y5)).2) y1 (m_LW_law_18_1424 i y0 y1 y2 y3 y4 y5)).2) P) : Ev E M_LW_law 1376 [(0, vR 5 0), (1, vR 0 0), (2, vR 0 6), (3, vR 0 27), (4, vI (nI i))] [] h P := by
  refine Ev_aload_n (pc := 1376) d_LW_law_1376 rfl ?_
  refine Ev_aload_n (pc := 1377) d_LW_law_1377 rfl ?_
  refine Ev_iload (pc := 1378) d_LW_law_1378 rfl ?_
  refine Ev_iconst (v := 1) (pc := 1380) d_LW_law_1380 (by decide) ?_
  refine Ev_iadd (pc := 1381) d_LW_law_1381 ?_
  refine Ev_scr (pc := 1382) d_LW_law_1382 n0 ?_
  refine Ev_aload_n (pc := 1383) d_LW_law_1383 rfl ?_
  refine Ev_iload (pc := 1384) d_LW_law_1384 rfl ?_
  refine Ev_iconst (v := 2) (pc := 1386) d_LW_law_1386 (by decide) ?_
  refine Ev_iadd (pc := 1387) d_LW_law_1387 ?_
  refine Ev_scr (pc := 1388) d_LW_law_1388 n1 ?_
  refine Ev_if_eq (tgt := 1396) (pc := 1389) d_LW_law_1389 rfl (fun q1 => ?_) (fun q1 => ?_)
  · refine Ev_iconst (v := 0) (pc := 1396) d_LW_law_1396 (by decide) ?_
    have j := c_LW_law_18_1397 (E := E) (P := P) (h := h) (i := i) (y0 := y0) (y1 := y1) (y2 := y2) (y3 := y3) (y4 := y4) (y5 := y5) n2 n3 hR n5 hZ n0 n1 n7 n8 n9 n10 n11 k
    rw [m_LW_law_18_1397, if_pos q1] at j
    exact j
  · refine Ev_iconst (v := 1) (pc := 1392) d_LW_law_1392 (by decide) ?_
    refine Ev_goto (tgt := 1397) (pc := 1393) d_LW_law_1393 rfl ?_
    have j := c_LW_law_18_1397 (E := E) (P := P) (h := h) (i := i) (y0 := y0) (y1 := y1) (y2 := y2) (y3 := y3) (y4 := y4) (y5 := y5) n2 n3 hR n5 hZ n0 n1 n7 n8 n9 n10 n11 k
    rw [m_LW_law_18_1397, if_neg q1] at j
    exact j
theorem c_LW_law_19_1 {E : ev_E} {P : Option ev_V ⊕ Nat → ev_H → Prop} {h : ev_H} {i : Nat} {y0 : Int32} {y1 : Int32} {y2 : Int32} {y3 : Int32} {y4 : Int32} {y5 : Int32} (n0 : sok E ((nI i) + 1) y1) (n1 : sok E ((nI i) + 2) y2) (hU : uok h) (hR : rfs h) (hZ : cZ h < ZM) (n5 : f_MO_isUnit ((f_LW_of h y1 y2).2) y1 = 1) (n6 : rfs ((f_LW_of h y1 y2).2)) (n7 : ¬ y1 < 0) (n8 : y1.toNatClampNeg < 48) (e1 : (f_MO_thrown ((f_MO_of_1 ((f_LW_of h y1 y2).2) y1 y2).2)) = ((f_LW_of h y1 y2).1)) (e2 : ((f_LW_of h y1 y2).1) = 0 → (lg_cmp (gL ((f_MO_of_1 ((f_LW_of h y1 y2).2) y1 y2).2) 0 27 0) (((f_MO_of_1 ((f_LW_of h y1 y2).2) y1 y2).1).toInt64)) = 0) (k : Ev E M_LW_law 2164 [(0, vR 5 0), (1, vR 0 0), (2, vR 0 6), (3, vR 0 27), (4, vI (nI i))] [] ((f_MO_of_1 ((f_LW_of h y1 y2).2) y1 y2).2) P) : Ev E M_LW_law 1460 [(0, vR 5 0), (1, vR 0 0), (2, vR 0 6), (3, vR 0 27), (4, vI (nI i))] [] h P := by
  refine Ev_aload_n (pc := 1460) d_LW_law_1460 rfl ?_
  refine Ev_aload_n (pc := 1461) d_LW_law_1461 rfl ?_
  refine Ev_iload (pc := 1462) d_LW_law_1462 rfl ?_
  refine Ev_iconst (v := 1) (pc := 1464) d_LW_law_1464 (by decide) ?_
  refine Ev_iadd (pc := 1465) d_LW_law_1465 ?_
  refine Ev_scr (pc := 1466) d_LW_law_1466 n0 ?_
  refine Ev_aload_n (pc := 1467) d_LW_law_1467 rfl ?_
  refine Ev_iload (pc := 1468) d_LW_law_1468 rfl ?_
  refine Ev_iconst (v := 2) (pc := 1470) d_LW_law_1470 (by decide) ?_
  refine Ev_iadd (pc := 1471) d_LW_law_1471 ?_
  refine Ev_scr (pc := 1472) d_LW_law_1472 n1 ?_
  refine Ev_aload_n (pc := 1473) d_LW_law_1473 rfl ?_
  refine Ev_callS (M' := M_LW_of) (as := [vR 0 0, vI y1, vI y2, vR 0 27]) (st := []) (pc := 1474) d_LW_law_1474 rfl rfl rfl s_LW_of lk_LW_188 rfl rfl (c_LW_of hU hR hZ ?_)
  refine Ev_istore (pc := 1477) d_LW_law_1477 rfl ?_
  refine Ev_aload_n (pc := 1479) d_LW_law_1479 rfl ?_
  refine Ev_aload_n (pc := 1480) d_LW_law_1480 rfl ?_
  refine Ev_iload (pc := 1481) d_LW_law_1481 rfl ?_
  refine Ev_iconst (v := 1) (pc := 1483) d_LW_law_1483 (by decide) ?_
  refine Ev_iadd (pc := 1484) d_LW_law_1484 ?_
  refine Ev_scr (pc := 1485) d_LW_law_1485 n0 ?_
  refine Ev_aload_n (pc := 1486) d_LW_law_1486 rfl ?_
  refine Ev_iload (pc := 1487) d_LW_law_1487 rfl ?_
  refine Ev_iconst (v := 2) (pc := 1489) d_LW_law_1489 (by decide) ?_
  refine Ev_iadd (pc := 1490) d_LW_law_1490 ?_
  refine Ev_scr (pc := 1491) d_LW_law_1491 n1 ?_
  refine Ev_callV (M' := M_MO_of) (as := [vI y1, vI y2]) (st := []) (a := 0) (i := 6) (pc := 1492) d_LW_law_1492 rfl rfl rfl rfl rfl rfl rfl v_MO_of lk_LW_190 rfl rfl (c_MO_of_1 n5 n6 n7 n8 ?_)
  refine Ev_istore (pc := 1495) d_LW_law_1495 rfl ?_
  refine Ev_aload_n (pc := 1497) d_LW_law_1497 rfl ?_
  refine Ev_callV (M' := M_MO_thrown) (as := []) (st := []) (a := 0) (i := 6) (pc := 1498) d_LW_law_1498 rfl rfl rfl rfl rfl rfl rfl v_MO_thrown lk_LW_124 rfl rfl (c_MO_thrown  ?_)
  refine Ev_iload (pc := 1501) d_LW_law_1501 rfl ?_
  refine Ev_icmp_eq (tgt := 1508) (pc := 1503) d_LW_law_1503 rfl (fun _ => ?_) (fun q => absurd e1 q)
  refine Ev_iload (pc := 1508) d_LW_law_1508 rfl ?_
  refine Ev_if_ne (tgt := 1525) (pc := 1510) d_LW_law_1510 rfl (fun q1 => ?_) (fun q1 => ?_)
  · refine Ev_goto (tgt := 2164) (pc := 1525) d_LW_law_1525 rfl ?_
    refine Ev_sub (lsub ?_) k
    exact (And.intro rfl (And.intro rfl (And.intro rfl (And.intro rfl (And.intro rfl trivial)))))
  · refine Ev_aload_n (pc := 1513) d_LW_law_1513 rfl ?_
    refine Ev_iconst (v := 0) (pc := 1514) d_LW_law_1514 (by decide) ?_
    refine Ev_lald (pc := 1515) d_LW_law_1515 rfl rfl (by decide) (by decide) ?_
    refine Ev_iload (pc := 1516) d_LW_law_1516 rfl ?_
    refine Ev_i2l (pc := 1518) d_LW_law_1518 ?_
    refine Ev_lcmp (pc := 1519) d_LW_law_1519 ?_
    refine Ev_if_eq (tgt := 1525) (pc := 1520) d_LW_law_1520 rfl (fun _ => ?_) (fun q => absurd (e2 q1) q)
    refine Ev_goto (tgt := 2164) (pc := 1525) d_LW_law_1525 rfl ?_
    refine Ev_sub (lsub ?_) k
    exact (And.intro rfl (And.intro rfl (And.intro rfl (And.intro rfl (And.intro rfl trivial)))))
theorem c_LW_law_19_0 {E : ev_E} {P : Option ev_V ⊕ Nat → ev_H → Prop} {h : ev_H} {i : Nat} {y0 : Int32} {y1 : Int32} {y2 : Int32} {y3 : Int32} {y4 : Int32} {y5 : Int32} (n0 : sok E ((nI i) + 1) y1) (n1 : sok E ((nI i) + 2) y2) (hU : uok h) (hR : rfs h) (hZ : cZ h < ZM) (n5 : f_MO_isUnit ((f_LW_of h y1 y2).2) y1 = 0) (e1 : (f_MO_thrown ((f_MO_of_0 ((f_LW_of h y1 y2).2) y1 y2).2)) = ((f_LW_of h y1 y2).1)) (e2 : ((f_LW_of h y1 y2).1) = 0 → (lg_cmp (gL ((f_MO_of_0 ((f_LW_of h y1 y2).2) y1 y2).2) 0 27 0) (((f_MO_of_0 ((f_LW_of h y1 y2).2) y1 y2).1).toInt64)) = 0) (k : Ev E M_LW_law 2164 [(0, vR 5 0), (1, vR 0 0), (2, vR 0 6), (3, vR 0 27), (4, vI (nI i))] [] ((f_MO_of_0 ((f_LW_of h y1 y2).2) y1 y2).2) P) : Ev E M_LW_law 1460 [(0, vR 5 0), (1, vR 0 0), (2, vR 0 6), (3, vR 0 27), (4, vI (nI i))] [] h P := by
  refine Ev_aload_n (pc := 1460) d_LW_law_1460 rfl ?_
  refine Ev_aload_n (pc := 1461) d_LW_law_1461 rfl ?_
  refine Ev_iload (pc := 1462) d_LW_law_1462 rfl ?_
  refine Ev_iconst (v := 1) (pc := 1464) d_LW_law_1464 (by decide) ?_
  refine Ev_iadd (pc := 1465) d_LW_law_1465 ?_
  refine Ev_scr (pc := 1466) d_LW_law_1466 n0 ?_
  refine Ev_aload_n (pc := 1467) d_LW_law_1467 rfl ?_
  refine Ev_iload (pc := 1468) d_LW_law_1468 rfl ?_
  refine Ev_iconst (v := 2) (pc := 1470) d_LW_law_1470 (by decide) ?_
  refine Ev_iadd (pc := 1471) d_LW_law_1471 ?_
  refine Ev_scr (pc := 1472) d_LW_law_1472 n1 ?_
  refine Ev_aload_n (pc := 1473) d_LW_law_1473 rfl ?_
  refine Ev_callS (M' := M_LW_of) (as := [vR 0 0, vI y1, vI y2, vR 0 27]) (st := []) (pc := 1474) d_LW_law_1474 rfl rfl rfl s_LW_of lk_LW_188 rfl rfl (c_LW_of hU hR hZ ?_)
  refine Ev_istore (pc := 1477) d_LW_law_1477 rfl ?_
  refine Ev_aload_n (pc := 1479) d_LW_law_1479 rfl ?_
  refine Ev_aload_n (pc := 1480) d_LW_law_1480 rfl ?_
  refine Ev_iload (pc := 1481) d_LW_law_1481 rfl ?_
  refine Ev_iconst (v := 1) (pc := 1483) d_LW_law_1483 (by decide) ?_
  refine Ev_iadd (pc := 1484) d_LW_law_1484 ?_
  refine Ev_scr (pc := 1485) d_LW_law_1485 n0 ?_
  refine Ev_aload_n (pc := 1486) d_LW_law_1486 rfl ?_
  refine Ev_iload (pc := 1487) d_LW_law_1487 rfl ?_
  refine Ev_iconst (v := 2) (pc := 1489) d_LW_law_1489 (by decide) ?_
  refine Ev_iadd (pc := 1490) d_LW_law_1490 ?_
  refine Ev_scr (pc := 1491) d_LW_law_1491 n1 ?_
  refine Ev_callV (M' := M_MO_of) (as := [vI y1, vI y2]) (st := []) (a := 0) (i := 6) (pc := 1492) d_LW_law_1492 rfl rfl rfl rfl rfl rfl rfl v_MO_of lk_LW_190 rfl rfl (c_MO_of_0 n5 ?_)
  refine Ev_istore (pc := 1495) d_LW_law_1495 rfl ?_
  refine Ev_aload_n (pc := 1497) d_LW_law_1497 rfl ?_
  refine Ev_callV (M' := M_MO_thrown) (as := []) (st := []) (a := 0) (i := 6) (pc := 1498) d_LW_law_1498 rfl rfl rfl rfl rfl rfl rfl v_MO_thrown lk_LW_124 rfl rfl (c_MO_thrown  ?_)
  refine Ev_iload (pc := 1501) d_LW_law_1501 rfl ?_
  refine Ev_icmp_eq (tgt := 1508) (pc := 1503) d_LW_law_1503 rfl (fun _ => ?_) (fun q => absurd e1 q)
  refine Ev_iload (pc := 1508) d_LW_law_1508 rfl ?_
  refine Ev_if_ne (tgt := 1525) (pc := 1510) d_LW_law_1510 rfl (fun q1 => ?_) (fun q1 => ?_)
  · refine Ev_goto (tgt := 2164) (pc := 1525) d_LW_law_1525 rfl ?_
    refine Ev_sub (lsub ?_) k
    exact (And.intro rfl (And.intro rfl (And.intro rfl (And.intro rfl (And.intro rfl trivial)))))
  · refine Ev_aload_n (pc := 1513) d_LW_law_1513 rfl ?_
    refine Ev_iconst (v := 0) (pc := 1514) d_LW_law_1514 (by decide) ?_
    refine Ev_lald (pc := 1515) d_LW_law_1515 rfl rfl (by decide) (by decide) ?_
    refine Ev_iload (pc := 1516) d_LW_law_1516 rfl ?_
    refine Ev_i2l (pc := 1518) d_LW_law_1518 ?_
    refine Ev_lcmp (pc := 1519) d_LW_law_1519 ?_
    refine Ev_if_eq (tgt := 1525) (pc := 1520) d_LW_law_1520 rfl (fun _ => ?_) (fun q => absurd (e2 q1) q)
    refine Ev_goto (tgt := 2164) (pc := 1525) d_LW_law_1525 rfl ?_
    refine Ev_sub (lsub ?_) k
    exact (And.intro rfl (And.intro rfl (And.intro rfl (And.intro rfl (And.intro rfl trivial)))))
theorem c_LW_law_20_1 {E : ev_E} {P : Option ev_V ⊕ Nat → ev_H → Prop} {h : ev_H} {i : Nat} {y0 : Int32} {y1 : Int32} {y2 : Int32} {y3 : Int32} {y4 : Int32} {y5 : Int32} (n0 : sok E ((nI i) + 1) y1) (n1 : sok E ((nI i) + 2) y2) (hU : uok h) (hR : rfs h) (hZ : cZ h < ZM) (n5 : f_MO_isUnit ((f_LW_has h y1 y2).2) y1 = 1) (n6 : rfs ((f_LW_has h y1 y2).2)) (n7 : ¬ y1 < 0) (n8 : y1.toNatClampNeg < 48) (e1 : (f_MO_thrown ((f_MO_has_1 ((f_LW_has h y1 y2).2) y1 y2).2)) = ((f_LW_has h y1 y2).1)) (e2 : ((f_LW_has h y1 y2).1) = 0 → (lg_cmp (gL ((f_MO_has_1 ((f_LW_has h y1 y2).2) y1 y2).2) 0 27 0) (((f_MO_has_1 ((f_LW_has h y1 y2).2) y1 y2).1).toInt64)) = 0) (k : Ev E M_LW_law 2164 [(0, vR 5 0), (1, vR 0 0), (2, vR 0 6), (3, vR 0 27), (4, vI (nI i))] [] ((f_MO_has_1 ((f_LW_has h y1 y2).2) y1 y2).2) P) : Ev E M_LW_law 1528 [(0, vR 5 0), (1, vR 0 0), (2, vR 0 6), (3, vR 0 27), (4, vI (nI i))] [] h P := by
  refine Ev_aload_n (pc := 1528) d_LW_law_1528 rfl ?_
  refine Ev_aload_n (pc := 1529) d_LW_law_1529 rfl ?_
  refine Ev_iload (pc := 1530) d_LW_law_1530 rfl ?_
  refine Ev_iconst (v := 1) (pc := 1532) d_LW_law_1532 (by decide) ?_
  refine Ev_iadd (pc := 1533) d_LW_law_1533 ?_
  refine Ev_scr (pc := 1534) d_LW_law_1534 n0 ?_
  refine Ev_aload_n (pc := 1535) d_LW_law_1535 rfl ?_
  refine Ev_iload (pc := 1536) d_LW_law_1536 rfl ?_
  refine Ev_iconst (v := 2) (pc := 1538) d_LW_law_1538 (by decide) ?_
  refine Ev_iadd (pc := 1539) d_LW_law_1539 ?_
  refine Ev_scr (pc := 1540) d_LW_law_1540 n1 ?_
  refine Ev_aload_n (pc := 1541) d_LW_law_1541 rfl ?_
  refine Ev_callS (M' := M_LW_has) (as := [vR 0 0, vI y1, vI y2, vR 0 27]) (st := []) (pc := 1542) d_LW_law_1542 rfl rfl rfl s_LW_has lk_LW_191 rfl rfl (c_LW_has hU hR hZ ?_)
  refine Ev_istore (pc := 1545) d_LW_law_1545 rfl ?_
  refine Ev_aload_n (pc := 1547) d_LW_law_1547 rfl ?_
  refine Ev_aload_n (pc := 1548) d_LW_law_1548 rfl ?_
  refine Ev_iload (pc := 1549) d_LW_law_1549 rfl ?_
  refine Ev_iconst (v := 1) (pc := 1551) d_LW_law_1551 (by decide) ?_
  refine Ev_iadd (pc := 1552) d_LW_law_1552 ?_
  refine Ev_scr (pc := 1553) d_LW_law_1553 n0 ?_
  refine Ev_aload_n (pc := 1554) d_LW_law_1554 rfl ?_
  refine Ev_iload (pc := 1555) d_LW_law_1555 rfl ?_
  refine Ev_iconst (v := 2) (pc := 1557) d_LW_law_1557 (by decide) ?_
  refine Ev_iadd (pc := 1558) d_LW_law_1558 ?_
  refine Ev_scr (pc := 1559) d_LW_law_1559 n1 ?_
  refine Ev_callV (M' := M_MO_has) (as := [vI y1, vI y2]) (st := []) (a := 0) (i := 6) (pc := 1560) d_LW_law_1560 rfl rfl rfl rfl rfl rfl rfl v_MO_has lk_LW_193 rfl rfl (c_MO_has_1 n5 n6 n7 n8 ?_)
  refine Ev_istore (pc := 1563) d_LW_law_1563 rfl ?_
  refine Ev_aload_n (pc := 1565) d_LW_law_1565 rfl ?_
  refine Ev_callV (M' := M_MO_thrown) (as := []) (st := []) (a := 0) (i := 6) (pc := 1566) d_LW_law_1566 rfl rfl rfl rfl rfl rfl rfl v_MO_thrown lk_LW_124 rfl rfl (c_MO_thrown  ?_)
  refine Ev_iload (pc := 1569) d_LW_law_1569 rfl ?_
  refine Ev_icmp_eq (tgt := 1576) (pc := 1571) d_LW_law_1571 rfl (fun _ => ?_) (fun q => absurd e1 q)
  refine Ev_iload (pc := 1576) d_LW_law_1576 rfl ?_
  refine Ev_if_ne (tgt := 1593) (pc := 1578) d_LW_law_1578 rfl (fun q1 => ?_) (fun q1 => ?_)
  · refine Ev_goto (tgt := 2164) (pc := 1593) d_LW_law_1593 rfl ?_
    refine Ev_sub (lsub ?_) k
    exact (And.intro rfl (And.intro rfl (And.intro rfl (And.intro rfl (And.intro rfl trivial)))))
  · refine Ev_aload_n (pc := 1581) d_LW_law_1581 rfl ?_
    refine Ev_iconst (v := 0) (pc := 1582) d_LW_law_1582 (by decide) ?_
    refine Ev_lald (pc := 1583) d_LW_law_1583 rfl rfl (by decide) (by decide) ?_
    refine Ev_iload (pc := 1584) d_LW_law_1584 rfl ?_
    refine Ev_i2l (pc := 1586) d_LW_law_1586 ?_
    refine Ev_lcmp (pc := 1587) d_LW_law_1587 ?_
    refine Ev_if_eq (tgt := 1593) (pc := 1588) d_LW_law_1588 rfl (fun _ => ?_) (fun q => absurd (e2 q1) q)
    refine Ev_goto (tgt := 2164) (pc := 1593) d_LW_law_1593 rfl ?_
    refine Ev_sub (lsub ?_) k
    exact (And.intro rfl (And.intro rfl (And.intro rfl (And.intro rfl (And.intro rfl trivial)))))
theorem c_LW_law_20_0 {E : ev_E} {P : Option ev_V ⊕ Nat → ev_H → Prop} {h : ev_H} {i : Nat} {y0 : Int32} {y1 : Int32} {y2 : Int32} {y3 : Int32} {y4 : Int32} {y5 : Int32} (n0 : sok E ((nI i) + 1) y1) (n1 : sok E ((nI i) + 2) y2) (hU : uok h) (hR : rfs h) (hZ : cZ h < ZM) (n5 : f_MO_isUnit ((f_LW_has h y1 y2).2) y1 = 0) (e1 : (f_MO_thrown ((f_MO_has_0 ((f_LW_has h y1 y2).2) y1 y2).2)) = ((f_LW_has h y1 y2).1)) (e2 : ((f_LW_has h y1 y2).1) = 0 → (lg_cmp (gL ((f_MO_has_0 ((f_LW_has h y1 y2).2) y1 y2).2) 0 27 0) (((f_MO_has_0 ((f_LW_has h y1 y2).2) y1 y2).1).toInt64)) = 0) (k : Ev E M_LW_law 2164 [(0, vR 5 0), (1, vR 0 0), (2, vR 0 6), (3, vR 0 27), (4, vI (nI i))] [] ((f_MO_has_0 ((f_LW_has h y1 y2).2) y1 y2).2) P) : Ev E M_LW_law 1528 [(0, vR 5 0), (1, vR 0 0), (2, vR 0 6), (3, vR 0 27), (4, vI (nI i))] [] h P := by
  refine Ev_aload_n (pc := 1528) d_LW_law_1528 rfl ?_
  refine Ev_aload_n (pc := 1529) d_LW_law_1529 rfl ?_
  refine Ev_iload (pc := 1530) d_LW_law_1530 rfl ?_
  refine Ev_iconst (v := 1) (pc := 1532) d_LW_law_1532 (by decide) ?_
  refine Ev_iadd (pc := 1533) d_LW_law_1533 ?_
  refine Ev_scr (pc := 1534) d_LW_law_1534 n0 ?_
  refine Ev_aload_n (pc := 1535) d_LW_law_1535 rfl ?_
  refine Ev_iload (pc := 1536) d_LW_law_1536 rfl ?_
  refine Ev_iconst (v := 2) (pc := 1538) d_LW_law_1538 (by decide) ?_
  refine Ev_iadd (pc := 1539) d_LW_law_1539 ?_
  refine Ev_scr (pc := 1540) d_LW_law_1540 n1 ?_
  refine Ev_aload_n (pc := 1541) d_LW_law_1541 rfl ?_
  refine Ev_callS (M' := M_LW_has) (as := [vR 0 0, vI y1, vI y2, vR 0 27]) (st := []) (pc := 1542) d_LW_law_1542 rfl rfl rfl s_LW_has lk_LW_191 rfl rfl (c_LW_has hU hR hZ ?_)
  refine Ev_istore (pc := 1545) d_LW_law_1545 rfl ?_
  refine Ev_aload_n (pc := 1547) d_LW_law_1547 rfl ?_
  refine Ev_aload_n (pc := 1548) d_LW_law_1548 rfl ?_
  refine Ev_iload (pc := 1549) d_LW_law_1549 rfl ?_
  refine Ev_iconst (v := 1) (pc := 1551) d_LW_law_1551 (by decide) ?_
  refine Ev_iadd (pc := 1552) d_LW_law_1552 ?_
  refine Ev_scr (pc := 1553) d_LW_law_1553 n0 ?_
  refine Ev_aload_n (pc := 1554) d_LW_law_1554 rfl ?_
  refine Ev_iload (pc := 1555) d_LW_law_1555 rfl ?_
  refine Ev_iconst (v := 2) (pc := 1557) d_LW_law_1557 (by decide) ?_
  refine Ev_iadd (pc := 1558) d_LW_law_1558 ?_
  refine Ev_scr (pc := 1559) d_LW_law_1559 n1 ?_
  refine Ev_callV (M' := M_MO_has) (as := [vI y1, vI y2]) (st := []) (a := 0) (i := 6) (pc := 1560) d_LW_law_1560 rfl rfl rfl rfl rfl rfl rfl v_MO_has lk_LW_193 rfl rfl (c_MO_has_0 n5 ?_)
  refine Ev_istore (pc := 1563) d_LW_law_1563 rfl ?_
  refine Ev_aload_n (pc := 1565) d_LW_law_1565 rfl ?_
  refine Ev_callV (M' := M_MO_thrown) (as := []) (st := []) (a := 0) (i := 6) (pc := 1566) d_LW_law_1566 rfl rfl rfl rfl rfl rfl rfl v_MO_thrown lk_LW_124 rfl rfl (c_MO_thrown  ?_)
  refine Ev_iload (pc := 1569) d_LW_law_1569 rfl ?_
  refine Ev_icmp_eq (tgt := 1576) (pc := 1571) d_LW_law_1571 rfl (fun _ => ?_) (fun q => absurd e1 q)
  refine Ev_iload (pc := 1576) d_LW_law_1576 rfl ?_
  refine Ev_if_ne (tgt := 1593) (pc := 1578) d_LW_law_1578 rfl (fun q1 => ?_) (fun q1 => ?_)
  · refine Ev_goto (tgt := 2164) (pc := 1593) d_LW_law_1593 rfl ?_
    refine Ev_sub (lsub ?_) k
    exact (And.intro rfl (And.intro rfl (And.intro rfl (And.intro rfl (And.intro rfl trivial)))))
  · refine Ev_aload_n (pc := 1581) d_LW_law_1581 rfl ?_
    refine Ev_iconst (v := 0) (pc := 1582) d_LW_law_1582 (by decide) ?_
    refine Ev_lald (pc := 1583) d_LW_law_1583 rfl rfl (by decide) (by decide) ?_
    refine Ev_iload (pc := 1584) d_LW_law_1584 rfl ?_
    refine Ev_i2l (pc := 1586) d_LW_law_1586 ?_
    refine Ev_lcmp (pc := 1587) d_LW_law_1587 ?_
    refine Ev_if_eq (tgt := 1593) (pc := 1588) d_LW_law_1588 rfl (fun _ => ?_) (fun q => absurd (e2 q1) q)
    refine Ev_goto (tgt := 2164) (pc := 1593) d_LW_law_1593 rfl ?_
    refine Ev_sub (lsub ?_) k
    exact (And.intro rfl (And.intro rfl (And.intro rfl (And.intro rfl (And.intro rfl trivial)))))
theorem c_LW_law_21_1 {E : ev_E} {P : Option ev_V ⊕ Nat → ev_H → Prop} {h : ev_H} {i : Nat} {y0 : Int32} {y1 : Int32} {y2 : Int32} {y3 : Int32} {y4 : Int32} {y5 : Int32} (n0 : sok E ((nI i) + 1) y1) (n1 : sok E ((nI i) + 2) y2) (hP : pok h) (hR : rfs h) (hZ : cZ h < ZM) (n5 : f_MO_isPatient ((f_LW_who h y1 y2).2) y1 = 1) (n6 : rfs ((f_LW_who h y1 y2).2)) (n7 : ¬ y1 < 0) (n8 : y1.toNatClampNeg < 10) (e1 : (f_MO_thrown ((f_MO_who_1 ((f_LW_who h y1 y2).2) y1 y2).2)) = ((f_LW_who h y1 y2).1)) (e2 : ((f_LW_who h y1 y2).1) = 0 → (lg_cmp (gL ((f_MO_who_1 ((f_LW_who h y1 y2).2) y1 y2).2) 0 27 0) (((f_MO_who_1 ((f_LW_who h y1 y2).2) y1 y2).1).toInt64)) = 0) (k : Ev E M_LW_law 2164 [(0, vR 5 0), (1, vR 0 0), (2, vR 0 6), (3, vR 0 27), (4, vI (nI i))] [] ((f_MO_who_1 ((f_LW_who h y1 y2).2) y1 y2).2) P) : Ev E M_LW_law 1596 [(0, vR 5 0), (1, vR 0 0), (2, vR 0 6), (3, vR 0 27), (4, vI (nI i))] [] h P := by
  refine Ev_aload_n (pc := 1596) d_LW_law_1596 rfl ?_
  refine Ev_aload_n (pc := 1597) d_LW_law_1597 rfl ?_
  refine Ev_iload (pc := 1598) d_LW_law_1598 rfl ?_
  refine Ev_iconst (v := 1) (pc := 1600) d_LW_law_1600 (by decide) ?_
  refine Ev_iadd (pc := 1601) d_LW_law_1601 ?_
  refine Ev_scr (pc := 1602) d_LW_law_1602 n0 ?_
  refine Ev_aload_n (pc := 1603) d_LW_law_1603 rfl ?_
  refine Ev_iload (pc := 1604) d_LW_law_1604 rfl ?_
  refine Ev_iconst (v := 2) (pc := 1606) d_LW_law_1606 (by decide) ?_
  refine Ev_iadd (pc := 1607) d_LW_law_1607 ?_
  refine Ev_scr (pc := 1608) d_LW_law_1608 n1 ?_
  refine Ev_aload_n (pc := 1609) d_LW_law_1609 rfl ?_
  refine Ev_callS (M' := M_LW_who) (as := [vR 0 0, vI y1, vI y2, vR 0 27]) (st := []) (pc := 1610) d_LW_law_1610 rfl rfl rfl s_LW_who lk_LW_194 rfl rfl (c_LW_who hP hR hZ ?_)
  refine Ev_istore (pc := 1613) d_LW_law_1613 rfl ?_
  refine Ev_aload_n (pc := 1615) d_LW_law_1615 rfl ?_
  refine Ev_aload_n (pc := 1616) d_LW_law_1616 rfl ?_
  refine Ev_iload (pc := 1617) d_LW_law_1617 rfl ?_
  refine Ev_iconst (v := 1) (pc := 1619) d_LW_law_1619 (by decide) ?_
  refine Ev_iadd (pc := 1620) d_LW_law_1620 ?_
  refine Ev_scr (pc := 1621) d_LW_law_1621 n0 ?_
  refine Ev_aload_n (pc := 1622) d_LW_law_1622 rfl ?_
  refine Ev_iload (pc := 1623) d_LW_law_1623 rfl ?_
  refine Ev_iconst (v := 2) (pc := 1625) d_LW_law_1625 (by decide) ?_
  refine Ev_iadd (pc := 1626) d_LW_law_1626 ?_
  refine Ev_scr (pc := 1627) d_LW_law_1627 n1 ?_
  refine Ev_callV (M' := M_MO_who) (as := [vI y1, vI y2]) (st := []) (a := 0) (i := 6) (pc := 1628) d_LW_law_1628 rfl rfl rfl rfl rfl rfl rfl v_MO_who lk_LW_196 rfl rfl (c_MO_who_1 n5 n6 n7 n8 ?_)
  refine Ev_istore (pc := 1631) d_LW_law_1631 rfl ?_
  refine Ev_aload_n (pc := 1633) d_LW_law_1633 rfl ?_
  refine Ev_callV (M' := M_MO_thrown) (as := []) (st := []) (a := 0) (i := 6) (pc := 1634) d_LW_law_1634 rfl rfl rfl rfl rfl rfl rfl v_MO_thrown lk_LW_124 rfl rfl (c_MO_thrown  ?_)
  refine Ev_iload (pc := 1637) d_LW_law_1637 rfl ?_
  refine Ev_icmp_eq (tgt := 1644) (pc := 1639) d_LW_law_1639 rfl (fun _ => ?_) (fun q => absurd e1 q)
  refine Ev_iload (pc := 1644) d_LW_law_1644 rfl ?_
  refine Ev_if_ne (tgt := 1661) (pc := 1646) d_LW_law_1646 rfl (fun q1 => ?_) (fun q1 => ?_)
  · refine Ev_goto (tgt := 2164) (pc := 1661) d_LW_law_1661 rfl ?_
    refine Ev_sub (lsub ?_) k
    exact (And.intro rfl (And.intro rfl (And.intro rfl (And.intro rfl (And.intro rfl trivial)))))
  · refine Ev_aload_n (pc := 1649) d_LW_law_1649 rfl ?_
    refine Ev_iconst (v := 0) (pc := 1650) d_LW_law_1650 (by decide) ?_
    refine Ev_lald (pc := 1651) d_LW_law_1651 rfl rfl (by decide) (by decide) ?_
    refine Ev_iload (pc := 1652) d_LW_law_1652 rfl ?_
    refine Ev_i2l (pc := 1654) d_LW_law_1654 ?_
    refine Ev_lcmp (pc := 1655) d_LW_law_1655 ?_
    refine Ev_if_eq (tgt := 1661) (pc := 1656) d_LW_law_1656 rfl (fun _ => ?_) (fun q => absurd (e2 q1) q)
    refine Ev_goto (tgt := 2164) (pc := 1661) d_LW_law_1661 rfl ?_
    refine Ev_sub (lsub ?_) k
    exact (And.intro rfl (And.intro rfl (And.intro rfl (And.intro rfl (And.intro rfl trivial)))))
theorem c_LW_law_21_0 {E : ev_E} {P : Option ev_V ⊕ Nat → ev_H → Prop} {h : ev_H} {i : Nat} {y0 : Int32} {y1 : Int32} {y2 : Int32} {y3 : Int32} {y4 : Int32} {y5 : Int32} (n0 : sok E ((nI i) + 1) y1) (n1 : sok E ((nI i) + 2) y2) (hP : pok h) (hR : rfs h) (hZ : cZ h < ZM) (n5 : f_MO_isPatient ((f_LW_who h y1 y2).2) y1 = 0) (e1 : (f_MO_thrown ((f_MO_who_0 ((f_LW_who h y1 y2).2) y1 y2).2)) = ((f_LW_who h y1 y2).1)) (e2 : ((f_LW_who h y1 y2).1) = 0 → (lg_cmp (gL ((f_MO_who_0 ((f_LW_who h y1 y2).2) y1 y2).2) 0 27 0) (((f_MO_who_0 ((f_LW_who h y1 y2).2) y1 y2).1).toInt64)) = 0) (k : Ev E M_LW_law 2164 [(0, vR 5 0), (1, vR 0 0), (2, vR 0 6), (3, vR 0 27), (4, vI (nI i))] [] ((f_MO_who_0 ((f_LW_who h y1 y2).2) y1 y2).2) P) : Ev E M_LW_law 1596 [(0, vR 5 0), (1, vR 0 0), (2, vR 0 6), (3, vR 0 27), (4, vI (nI i))] [] h P := by
  refine Ev_aload_n (pc := 1596) d_LW_law_1596 rfl ?_
  refine Ev_aload_n (pc := 1597) d_LW_law_1597 rfl ?_
  refine Ev_iload (pc := 1598) d_LW_law_1598 rfl ?_
  refine Ev_iconst (v := 1) (pc := 1600) d_LW_law_1600 (by decide) ?_
  refine Ev_iadd (pc := 1601) d_LW_law_1601 ?_
  refine Ev_scr (pc := 1602) d_LW_law_1602 n0 ?_
  refine Ev_aload_n (pc := 1603) d_LW_law_1603 rfl ?_
  refine Ev_iload (pc := 1604) d_LW_law_1604 rfl ?_
  refine Ev_iconst (v := 2) (pc := 1606) d_LW_law_1606 (by decide) ?_
  refine Ev_iadd (pc := 1607) d_LW_law_1607 ?_
  refine Ev_scr (pc := 1608) d_LW_law_1608 n1 ?_
  refine Ev_aload_n (pc := 1609) d_LW_law_1609 rfl ?_
  refine Ev_callS (M' := M_LW_who) (as := [vR 0 0, vI y1, vI y2, vR 0 27]) (st := []) (pc := 1610) d_LW_law_1610 rfl rfl rfl s_LW_who lk_LW_194 rfl rfl (c_LW_who hP hR hZ ?_)
  refine Ev_istore (pc := 1613) d_LW_law_1613 rfl ?_
  refine Ev_aload_n (pc := 1615) d_LW_law_1615 rfl ?_
  refine Ev_aload_n (pc := 1616) d_LW_law_1616 rfl ?_
  refine Ev_iload (pc := 1617) d_LW_law_1617 rfl ?_
  refine Ev_iconst (v := 1) (pc := 1619) d_LW_law_1619 (by decide) ?_
  refine Ev_iadd (pc := 1620) d_LW_law_1620 ?_
  refine Ev_scr (pc := 1621) d_LW_law_1621 n0 ?_
  refine Ev_aload_n (pc := 1622) d_LW_law_1622 rfl ?_
  refine Ev_iload (pc := 1623) d_LW_law_1623 rfl ?_
  refine Ev_iconst (v := 2) (pc := 1625) d_LW_law_1625 (by decide) ?_
  refine Ev_iadd (pc := 1626) d_LW_law_1626 ?_
  refine Ev_scr (pc := 1627) d_LW_law_1627 n1 ?_
  refine Ev_callV (M' := M_MO_who) (as := [vI y1, vI y2]) (st := []) (a := 0) (i := 6) (pc := 1628) d_LW_law_1628 rfl rfl rfl rfl rfl rfl rfl v_MO_who lk_LW_196 rfl rfl (c_MO_who_0 n5 ?_)
  refine Ev_istore (pc := 1631) d_LW_law_1631 rfl ?_
  refine Ev_aload_n (pc := 1633) d_LW_law_1633 rfl ?_
  refine Ev_callV (M' := M_MO_thrown) (as := []) (st := []) (a := 0) (i := 6) (pc := 1634) d_LW_law_1634 rfl rfl rfl rfl rfl rfl rfl v_MO_thrown lk_LW_124 rfl rfl (c_MO_thrown  ?_)
  refine Ev_iload (pc := 1637) d_LW_law_1637 rfl ?_
  refine Ev_icmp_eq (tgt := 1644) (pc := 1639) d_LW_law_1639 rfl (fun _ => ?_) (fun q => absurd e1 q)
  refine Ev_iload (pc := 1644) d_LW_law_1644 rfl ?_
  refine Ev_if_ne (tgt := 1661) (pc := 1646) d_LW_law_1646 rfl (fun q1 => ?_) (fun q1 => ?_)
  · refine Ev_goto (tgt := 2164) (pc := 1661) d_LW_law_1661 rfl ?_
    refine Ev_sub (lsub ?_) k
    exact (And.intro rfl (And.intro rfl (And.intro rfl (And.intro rfl (And.intro rfl trivial)))))
  · refine Ev_aload_n (pc := 1649) d_LW_law_1649 rfl ?_
    refine Ev_iconst (v := 0) (pc := 1650) d_LW_law_1650 (by decide) ?_
    refine Ev_lald (pc := 1651) d_LW_law_1651 rfl rfl (by decide) (by decide) ?_
    refine Ev_iload (pc := 1652) d_LW_law_1652 rfl ?_
    refine Ev_i2l (pc := 1654) d_LW_law_1654 ?_
    refine Ev_lcmp (pc := 1655) d_LW_law_1655 ?_
    refine Ev_if_eq (tgt := 1661) (pc := 1656) d_LW_law_1656 rfl (fun _ => ?_) (fun q => absurd (e2 q1) q)
    refine Ev_goto (tgt := 2164) (pc := 1661) d_LW_law_1661 rfl ?_
    refine Ev_sub (lsub ?_) k
    exact (And.intro rfl (And.intro rfl (And.intro rfl (And.intro rfl (And.intro rfl trivial)))))
theorem c_LW_law_22_11 {E : ev_E} {P : Option ev_V ⊕ Nat → ev_H → Prop} {h : ev_H} {i : Nat} {y0 : Int32} {y1 : Int32} {y2 : Int32} {y3 : Int32} {y4 : Int32} {y5 : Int32} (n0 : sok E ((nI i) + 1) y1) (n1 : sok E ((nI i) + 2) y2) (hP : pok h) (hR : rfs h) (hZ : cZ h < ZM) (hU : uok h) (n6 : f_MO_isPatient ((f_LW_why h y1 y2).2) y1 = 1) (n7 : f_MO_isUnit ((f_LW_why h y1 y2).2) y2 = 1) (n8 : rfs ((f_LW_why h y1 y2).2)) (n9 : ¬ y2 < 0) (n10 : y2.toNatClampNeg < 48) (n11 : ¬ y1 < 0) (n12 : y1.toNatClampNeg < 10) (e1 : (f_MO_thrown ((f_MO_why_11 ((f_LW_why h y1 y2).2) y1 y2).2)) = ((f_LW_why h y1 y2).1)) (e2 : ((f_LW_why h y1 y2).1) = 0 → (lg_cmp (gL ((f_MO_why_11 ((f_LW_why h y1 y2).2) y1 y2).2) 0 27 0) (((f_MO_why_11 ((f_LW_why h y1 y2).2) y1 y2).1).toInt64)) = 0) (k : Ev E M_LW_law 2164 [(0, vR 5 0), (1, vR 0 0), (2, vR 0 6), (3, vR 0 27), (4, vI (nI i))] [] ((f_MO_why_11 ((f_LW_why h y1 y2).2) y1 y2).2) P) : Ev E M_LW_law 1664 [(0, vR 5 0), (1, vR 0 0), (2, vR 0 6), (3, vR 0 27), (4, vI (nI i))] [] h P := by
  refine Ev_aload_n (pc := 1664) d_LW_law_1664 rfl ?_
  refine Ev_aload_n (pc := 1665) d_LW_law_1665 rfl ?_
  refine Ev_iload (pc := 1666) d_LW_law_1666 rfl ?_
  refine Ev_iconst (v := 1) (pc := 1668) d_LW_law_1668 (by decide) ?_
  refine Ev_iadd (pc := 1669) d_LW_law_1669 ?_
  refine Ev_scr (pc := 1670) d_LW_law_1670 n0 ?_
  refine Ev_aload_n (pc := 1671) d_LW_law_1671 rfl ?_
  refine Ev_iload (pc := 1672) d_LW_law_1672 rfl ?_
  refine Ev_iconst (v := 2) (pc := 1674) d_LW_law_1674 (by decide) ?_
  refine Ev_iadd (pc := 1675) d_LW_law_1675 ?_
  refine Ev_scr (pc := 1676) d_LW_law_1676 n1 ?_
  refine Ev_aload_n (pc := 1677) d_LW_law_1677 rfl ?_
  refine Ev_callS (M' := M_LW_why) (as := [vR 0 0, vI y1, vI y2, vR 0 27]) (st := []) (pc := 1678) d_LW_law_1678 rfl rfl rfl s_LW_why lk_LW_197 rfl rfl (c_LW_why hP hR hZ hU ?_)
  refine Ev_istore (pc := 1681) d_LW_law_1681 rfl ?_
  refine Ev_aload_n (pc := 1683) d_LW_law_1683 rfl ?_
  refine Ev_aload_n (pc := 1684) d_LW_law_1684 rfl ?_
  refine Ev_iload (pc := 1685) d_LW_law_1685 rfl ?_
  refine Ev_iconst (v := 1) (pc := 1687) d_LW_law_1687 (by decide) ?_
  refine Ev_iadd (pc := 1688) d_LW_law_1688 ?_
  refine Ev_scr (pc := 1689) d_LW_law_1689 n0 ?_
  refine Ev_aload_n (pc := 1690) d_LW_law_1690 rfl ?_
  refine Ev_iload (pc := 1691) d_LW_law_1691 rfl ?_
  refine Ev_iconst (v := 2) (pc := 1693) d_LW_law_1693 (by decide) ?_
  refine Ev_iadd (pc := 1694) d_LW_law_1694 ?_
  refine Ev_scr (pc := 1695) d_LW_law_1695 n1 ?_
  refine Ev_callV (M' := M_MO_why) (as := [vI y1, vI y2]) (st := []) (a := 0) (i := 6) (pc := 1696) d_LW_law_1696 rfl rfl rfl rfl rfl rfl rfl v_MO_why lk_LW_199 rfl rfl (c_MO_why_11 n6 n7 n8 n9 n10 n11 n12 ?_)
  refine Ev_istore (pc := 1699) d_LW_law_1699 rfl ?_
  refine Ev_aload_n (pc := 1701) d_LW_law_1701 rfl ?_
  refine Ev_callV (M' := M_MO_thrown) (as := []) (st := []) (a := 0) (i := 6) (pc := 1702) d_LW_law_1702 rfl rfl rfl rfl rfl rfl rfl v_MO_thrown lk_LW_124 rfl rfl (c_MO_thrown  ?_)
  refine Ev_iload (pc := 1705) d_LW_law_1705 rfl ?_
  refine Ev_icmp_eq (tgt := 1712) (pc := 1707) d_LW_law_1707 rfl (fun _ => ?_) (fun q => absurd e1 q)
  refine Ev_iload (pc := 1712) d_LW_law_1712 rfl ?_
  refine Ev_if_ne (tgt := 1729) (pc := 1714) d_LW_law_1714 rfl (fun q1 => ?_) (fun q1 => ?_)
  · refine Ev_goto (tgt := 2164) (pc := 1729) d_LW_law_1729 rfl ?_
    refine Ev_sub (lsub ?_) k
    exact (And.intro rfl (And.intro rfl (And.intro rfl (And.intro rfl (And.intro rfl trivial)))))
  · refine Ev_aload_n (pc := 1717) d_LW_law_1717 rfl ?_
    refine Ev_iconst (v := 0) (pc := 1718) d_LW_law_1718 (by decide) ?_
    refine Ev_lald (pc := 1719) d_LW_law_1719 rfl rfl (by decide) (by decide) ?_
    refine Ev_iload (pc := 1720) d_LW_law_1720 rfl ?_
    refine Ev_i2l (pc := 1722) d_LW_law_1722 ?_
    refine Ev_lcmp (pc := 1723) d_LW_law_1723 ?_
    refine Ev_if_eq (tgt := 1729) (pc := 1724) d_LW_law_1724 rfl (fun _ => ?_) (fun q => absurd (e2 q1) q)
    refine Ev_goto (tgt := 2164) (pc := 1729) d_LW_law_1729 rfl ?_
    refine Ev_sub (lsub ?_) k
    exact (And.intro rfl (And.intro rfl (And.intro rfl (And.intro rfl (And.intro rfl trivial)))))
theorem c_LW_law_22_10 {E : ev_E} {P : Option ev_V ⊕ Nat → ev_H → Prop} {h : ev_H} {i : Nat} {y0 : Int32} {y1 : Int32} {y2 : Int32} {y3 : Int32} {y4 : Int32} {y5 : Int32} (n0 : sok E ((nI i) + 1) y1) (n1 : sok E ((nI i) + 2) y2) (hP : pok h) (hR : rfs h) (hZ : cZ h < ZM) (hU : uok h) (n6 : f_MO_isPatient ((f_LW_why h y1 y2).2) y1 = 1) (n7 : f_MO_isUnit ((f_LW_why h y1 y2).2) y2 = 0) (e1 : (f_MO_thrown ((f_MO_why_10 ((f_LW_why h y1 y2).2) y1 y2).2)) = ((f_LW_why h y1 y2).1)) (e2 : ((f_LW_why h y1 y2).1) = 0 → (lg_cmp (gL ((f_MO_why_10 ((f_LW_why h y1 y2).2) y1 y2).2) 0 27 0) (((f_MO_why_10 ((f_LW_why h y1 y2).2) y1 y2).1).toInt64)) = 0) (k : Ev E M_LW_law 2164 [(0, vR 5 0), (1, vR 0 0), (2, vR 0 6), (3, vR 0 27), (4, vI (nI i))] [] ((f_MO_why_10 ((f_LW_why h y1 y2).2) y1 y2).2) P) : Ev E M_LW_law 1664 [(0, vR 5 0), (1, vR 0 0), (2, vR 0 6), (3, vR 0 27), (4, vI (nI i))] [] h P := by
  refine Ev_aload_n (pc := 1664) d_LW_law_1664 rfl ?_
  refine Ev_aload_n (pc := 1665) d_LW_law_1665 rfl ?_
  refine Ev_iload (pc := 1666) d_LW_law_1666 rfl ?_
  refine Ev_iconst (v := 1) (pc := 1668) d_LW_law_1668 (by decide) ?_
  refine Ev_iadd (pc := 1669) d_LW_law_1669 ?_
  refine Ev_scr (pc := 1670) d_LW_law_1670 n0 ?_
  refine Ev_aload_n (pc := 1671) d_LW_law_1671 rfl ?_
  refine Ev_iload (pc := 1672) d_LW_law_1672 rfl ?_
  refine Ev_iconst (v := 2) (pc := 1674) d_LW_law_1674 (by decide) ?_
  refine Ev_iadd (pc := 1675) d_LW_law_1675 ?_
  refine Ev_scr (pc := 1676) d_LW_law_1676 n1 ?_
  refine Ev_aload_n (pc := 1677) d_LW_law_1677 rfl ?_
  refine Ev_callS (M' := M_LW_why) (as := [vR 0 0, vI y1, vI y2, vR 0 27]) (st := []) (pc := 1678) d_LW_law_1678 rfl rfl rfl s_LW_why lk_LW_197 rfl rfl (c_LW_why hP hR hZ hU ?_)
  refine Ev_istore (pc := 1681) d_LW_law_1681 rfl ?_
  refine Ev_aload_n (pc := 1683) d_LW_law_1683 rfl ?_
  refine Ev_aload_n (pc := 1684) d_LW_law_1684 rfl ?_
  refine Ev_iload (pc := 1685) d_LW_law_1685 rfl ?_
  refine Ev_iconst (v := 1) (pc := 1687) d_LW_law_1687 (by decide) ?_
  refine Ev_iadd (pc := 1688) d_LW_law_1688 ?_
  refine Ev_scr (pc := 1689) d_LW_law_1689 n0 ?_
  refine Ev_aload_n (pc := 1690) d_LW_law_1690 rfl ?_
  refine Ev_iload (pc := 1691) d_LW_law_1691 rfl ?_
  refine Ev_iconst (v := 2) (pc := 1693) d_LW_law_1693 (by decide) ?_
  refine Ev_iadd (pc := 1694) d_LW_law_1694 ?_
  refine Ev_scr (pc := 1695) d_LW_law_1695 n1 ?_
  refine Ev_callV (M' := M_MO_why) (as := [vI y1, vI y2]) (st := []) (a := 0) (i := 6) (pc := 1696) d_LW_law_1696 rfl rfl rfl rfl rfl rfl rfl v_MO_why lk_LW_199 rfl rfl (c_MO_why_10 n6 n7 ?_)
  refine Ev_istore (pc := 1699) d_LW_law_1699 rfl ?_
  refine Ev_aload_n (pc := 1701) d_LW_law_1701 rfl ?_
  refine Ev_callV (M' := M_MO_thrown) (as := []) (st := []) (a := 0) (i := 6) (pc := 1702) d_LW_law_1702 rfl rfl rfl rfl rfl rfl rfl v_MO_thrown lk_LW_124 rfl rfl (c_MO_thrown  ?_)
  refine Ev_iload (pc := 1705) d_LW_law_1705 rfl ?_
  refine Ev_icmp_eq (tgt := 1712) (pc := 1707) d_LW_law_1707 rfl (fun _ => ?_) (fun q => absurd e1 q)
  refine Ev_iload (pc := 1712) d_LW_law_1712 rfl ?_
  refine Ev_if_ne (tgt := 1729) (pc := 1714) d_LW_law_1714 rfl (fun q1 => ?_) (fun q1 => ?_)
  · refine Ev_goto (tgt := 2164) (pc := 1729) d_LW_law_1729 rfl ?_
    refine Ev_sub (lsub ?_) k
    exact (And.intro rfl (And.intro rfl (And.intro rfl (And.intro rfl (And.intro rfl trivial)))))
  · refine Ev_aload_n (pc := 1717) d_LW_law_1717 rfl ?_
    refine Ev_iconst (v := 0) (pc := 1718) d_LW_law_1718 (by decide) ?_
    refine Ev_lald (pc := 1719) d_LW_law_1719 rfl rfl (by decide) (by decide) ?_
    refine Ev_iload (pc := 1720) d_LW_law_1720 rfl ?_
    refine Ev_i2l (pc := 1722) d_LW_law_1722 ?_
    refine Ev_lcmp (pc := 1723) d_LW_law_1723 ?_
    refine Ev_if_eq (tgt := 1729) (pc := 1724) d_LW_law_1724 rfl (fun _ => ?_) (fun q => absurd (e2 q1) q)
    refine Ev_goto (tgt := 2164) (pc := 1729) d_LW_law_1729 rfl ?_
    refine Ev_sub (lsub ?_) k
    exact (And.intro rfl (And.intro rfl (And.intro rfl (And.intro rfl (And.intro rfl trivial)))))
theorem c_LW_law_22_0 {E : ev_E} {P : Option ev_V ⊕ Nat → ev_H → Prop} {h : ev_H} {i : Nat} {y0 : Int32} {y1 : Int32} {y2 : Int32} {y3 : Int32} {y4 : Int32} {y5 : Int32} (n0 : sok E ((nI i) + 1) y1) (n1 : sok E ((nI i) + 2) y2) (hP : pok h) (hR : rfs h) (hZ : cZ h < ZM) (hU : uok h) (n6 : f_MO_isPatient ((f_LW_why h y1 y2).2) y1 = 0) (e1 : (f_MO_thrown ((f_MO_why_0 ((f_LW_why h y1 y2).2) y1 y2).2)) = ((f_LW_why h y1 y2).1)) (e2 : ((f_LW_why h y1 y2).1) = 0 → (lg_cmp (gL ((f_MO_why_0 ((f_LW_why h y1 y2).2) y1 y2).2) 0 27 0) (((f_MO_why_0 ((f_LW_why h y1 y2).2) y1 y2).1).toInt64)) = 0) (k : Ev E M_LW_law 2164 [(0, vR 5 0), (1, vR 0 0), (2, vR 0 6), (3, vR 0 27), (4, vI (nI i))] [] ((f_MO_why_0 ((f_LW_why h y1 y2).2) y1 y2).2) P) : Ev E M_LW_law 1664 [(0, vR 5 0), (1, vR 0 0), (2, vR 0 6), (3, vR 0 27), (4, vI (nI i))] [] h P := by
  refine Ev_aload_n (pc := 1664) d_LW_law_1664 rfl ?_
  refine Ev_aload_n (pc := 1665) d_LW_law_1665 rfl ?_
  refine Ev_iload (pc := 1666) d_LW_law_1666 rfl ?_
  refine Ev_iconst (v := 1) (pc := 1668) d_LW_law_1668 (by decide) ?_
  refine Ev_iadd (pc := 1669) d_LW_law_1669 ?_
  refine Ev_scr (pc := 1670) d_LW_law_1670 n0 ?_
  refine Ev_aload_n (pc := 1671) d_LW_law_1671 rfl ?_
  refine Ev_iload (pc := 1672) d_LW_law_1672 rfl ?_
  refine Ev_iconst (v := 2) (pc := 1674) d_LW_law_1674 (by decide) ?_
  refine Ev_iadd (pc := 1675) d_LW_law_1675 ?_
  refine Ev_scr (pc := 1676) d_LW_law_1676 n1 ?_
  refine Ev_aload_n (pc := 1677) d_LW_law_1677 rfl ?_
  refine Ev_callS (M' := M_LW_why) (as := [vR 0 0, vI y1, vI y2, vR 0 27]) (st := []) (pc := 1678) d_LW_law_1678 rfl rfl rfl s_LW_why lk_LW_197 rfl rfl (c_LW_why hP hR hZ hU ?_)
  refine Ev_istore (pc := 1681) d_LW_law_1681 rfl ?_
  refine Ev_aload_n (pc := 1683) d_LW_law_1683 rfl ?_
  refine Ev_aload_n (pc := 1684) d_LW_law_1684 rfl ?_
  refine Ev_iload (pc := 1685) d_LW_law_1685 rfl ?_
  refine Ev_iconst (v := 1) (pc := 1687) d_LW_law_1687 (by decide) ?_
  refine Ev_iadd (pc := 1688) d_LW_law_1688 ?_
  refine Ev_scr (pc := 1689) d_LW_law_1689 n0 ?_
  refine Ev_aload_n (pc := 1690) d_LW_law_1690 rfl ?_
  refine Ev_iload (pc := 1691) d_LW_law_1691 rfl ?_
  refine Ev_iconst (v := 2) (pc := 1693) d_LW_law_1693 (by decide) ?_
  refine Ev_iadd (pc := 1694) d_LW_law_1694 ?_
  refine Ev_scr (pc := 1695) d_LW_law_1695 n1 ?_
  refine Ev_callV (M' := M_MO_why) (as := [vI y1, vI y2]) (st := []) (a := 0) (i := 6) (pc := 1696) d_LW_law_1696 rfl rfl rfl rfl rfl rfl rfl v_MO_why lk_LW_199 rfl rfl (c_MO_why_0 n6 ?_)
  refine Ev_istore (pc := 1699) d_LW_law_1699 rfl ?_
  refine Ev_aload_n (pc := 1701) d_LW_law_1701 rfl ?_
  refine Ev_callV (M' := M_MO_thrown) (as := []) (st := []) (a := 0) (i := 6) (pc := 1702) d_LW_law_1702 rfl rfl rfl rfl rfl rfl rfl v_MO_thrown lk_LW_124 rfl rfl (c_MO_thrown  ?_)
  refine Ev_iload (pc := 1705) d_LW_law_1705 rfl ?_
  refine Ev_icmp_eq (tgt := 1712) (pc := 1707) d_LW_law_1707 rfl (fun _ => ?_) (fun q => absurd e1 q)
  refine Ev_iload (pc := 1712) d_LW_law_1712 rfl ?_
  refine Ev_if_ne (tgt := 1729) (pc := 1714) d_LW_law_1714 rfl (fun q1 => ?_) (fun q1 => ?_)
  · refine Ev_goto (tgt := 2164) (pc := 1729) d_LW_law_1729 rfl ?_
    refine Ev_sub (lsub ?_) k
    exact (And.intro rfl (And.intro rfl (And.intro rfl (And.intro rfl (And.intro rfl trivial)))))
  · refine Ev_aload_n (pc := 1717) d_LW_law_1717 rfl ?_
    refine Ev_iconst (v := 0) (pc := 1718) d_LW_law_1718 (by decide) ?_
    refine Ev_lald (pc := 1719) d_LW_law_1719 rfl rfl (by decide) (by decide) ?_
    refine Ev_iload (pc := 1720) d_LW_law_1720 rfl ?_
    refine Ev_i2l (pc := 1722) d_LW_law_1722 ?_
    refine Ev_lcmp (pc := 1723) d_LW_law_1723 ?_
    refine Ev_if_eq (tgt := 1729) (pc := 1724) d_LW_law_1724 rfl (fun _ => ?_) (fun q => absurd (e2 q1) q)
    refine Ev_goto (tgt := 2164) (pc := 1729) d_LW_law_1729 rfl ?_
    refine Ev_sub (lsub ?_) k
    exact (And.intro rfl (And.intro rfl (And.intro rfl (And.intro rfl (And.intro rfl trivial)))))
theorem c_LW_law_23_1 {E : ev_E} {P : Option ev_V ⊕ Nat → ev_H → Prop} {h : ev_H} {i : Nat} {y0 : Int32} {y1 : Int32} {y2 : Int32} {y3 : Int32} {y4 : Int32} {y5 : Int32} (n0 : sok E ((nI i) + 1) y1) (n1 : sok E ((nI i) + 2) y2) (n2 : sok E ((nI i) + 3) y3) (hP : pok h) (hR : rfs h) (hZ : cZ h < ZM) (n6 : (gI h 0 0 3).toNatClampNeg ≤ 48) (n7 : ∀ b, b ≤ (gI h 0 0 3).toNatClampNeg → (gI (r_TB_offer_L36 (f_RK_empty h) y1 y2 y3 y1.toNatClampNeg b) 0 0 3) = nI (gI h 0 0 3).toNatClampNeg) (n8 : ∀ b, b < (gI h 0 0 3).toNatClampNeg → rfs (r_TB_offer_L36 (f_RK_empty h) y1 y2 y3 y1.toNatClampNeg b)) (n9 : ∀ b, b < (gI h 0 0 3).toNatClampNeg → gR (r_TB_offer_L36 (f_RK_empty h) y1 y2 y3 y1.toNatClampNeg b) 0 1 b = vR 1 b) (n10 : ∀ b, b < (gI h 0 0 3).toNatClampNeg → (gI (r_TB_offer_L36 (f_RK_empty h) y1 y2 y3 y1.toNatClampNeg b) 0 3 2) = nI (gI (r_TB_offer_L36 (f_RK_empty h) y1 y2 y3 y1.toNatClampNeg b) 0 3 2).toNatClampNeg) (n11 : ∀ b, b < (gI h 0 0 3).toNatClampNeg → (gI (r_TB_offer_L36 (f_RK_empty h) y1 y2 y3 y1.toNatClampNeg b) 0 3 2).toNatClampNeg < 48) (n12 : rfs (r_TB_offer_L36 (f_RK_empty h) y1 y2 y3 y1.toNatClampNeg (gI h 0 0 3).toNatClampNeg)) (n13 : gI (r_TB_offer_L36 (f_RK_empty h) y1 y2 y3 y1.toNatClampNeg (gI h 0 0 3).toNatClampNeg) 0 3 2 ≤ 48) (n14 : f_MO_isPatient ((f_LW_offer h y1 y2 y3).2) y1 = 1) (n15 : (gI ((f_LW_offer h y1 y2 y3).2) 0 6 2).toNatClampNeg ≤ 48) (n16 : (gI ((f_LW_offer h y1 y2 y3).2) 0 6 2) = nI (gI ((f_LW_offer h y1 y2 y3).2) 0 6 2).toNatClampNeg) (n17 : rfs ((f_LW_offer h y1 y2 y3).2)) (n18 : ¬ y1 < 0) (n19 : y1.toNatClampNeg < 10) (e1 : (f_MO_thrown ((f_MO_offer_1 ((f_LW_offer h y1 y2 y3).2) y1 y2 y3).2)) = ((f_LW_offer h y1 y2 y3).1)) (e2 : ((f_LW_offer h y1 y2 y3).1) = 0 → (lg_cmp (gL ((f_MO_offer_1 ((f_LW_offer h y1 y2 y3).2) y1 y2 y3).2) 0 27 0) (((f_MO_offer_1 ((f_LW_offer h y1 y2 y3).2) y1 y2 y3).1).toInt64)) = 0) (k : Ev E M_LW_law 2164 [(0, vR 5 0), (1, vR 0 0), (2, vR 0 6), (3, vR 0 27), (4, vI (nI i))] [] ((f_MO_offer_1 ((f_LW_offer h y1 y2 y3).2) y1 y2 y3).2) P) : Ev E M_LW_law 1732 [(0, vR 5 0), (1, vR 0 0), (2, vR 0 6), (3, vR 0 27), (4, vI (nI i))] [] h P := by
  refine Ev_aload_n (pc := 1732) d_LW_law_1732 rfl ?_
  refine Ev_aload_n (pc := 1733) d_LW_law_1733 rfl ?_
  refine Ev_iload (pc := 1734) d_LW_law_1734 rfl ?_
  refine Ev_iconst (v := 1) (pc := 1736) d_LW_law_1736 (by decide) ?_
  refine Ev_iadd (pc := 1737) d_LW_law_1737 ?_
  refine Ev_scr (pc := 1738) d_LW_law_1738 n0 ?_
  refine Ev_aload_n (pc := 1739) d_LW_law_1739 rfl ?_
  refine Ev_iload (pc := 1740) d_LW_law_1740 rfl ?_
  refine Ev_iconst (v := 2) (pc := 1742) d_LW_law_1742 (by decide) ?_
  refine Ev_iadd (pc := 1743) d_LW_law_1743 ?_
  refine Ev_scr (pc := 1744) d_LW_law_1744 n1 ?_
  refine Ev_aload_n (pc := 1745) d_LW_law_1745 rfl ?_
  refine Ev_iload (pc := 1746) d_LW_law_1746 rfl ?_
  refine Ev_iconst (v := 3) (pc := 1748) d_LW_law_1748 (by decide) ?_
  refine Ev_iadd (pc := 1749) d_LW_law_1749 ?_
  refine Ev_scr (pc := 1750) d_LW_law_1750 n2 ?_
  refine Ev_aload_n (pc := 1751) d_LW_law_1751 rfl ?_
  refine Ev_callS (M' := M_LW_offer) (as := [vR 0 0, vI y1, vI y2, vI y3, vR 0 27]) (st := []) (pc := 1752) d_LW_law_1752 rfl rfl rfl s_LW_offer lk_LW_200 rfl rfl (c_LW_offer hP hR hZ n6 n7 n8 n9 n10 n11 n12 n13 ?_)
  refine Ev_istore (pc := 1755) d_LW_law_1755 rfl ?_
  refine Ev_aload_n (pc := 1757) d_LW_law_1757 rfl ?_
  refine Ev_aload_n (pc := 1758) d_LW_law_1758 rfl ?_
  refine Ev_iload (pc := 1759) d_LW_law_1759 rfl ?_
  refine Ev_iconst (v := 1) (pc := 1761) d_LW_law_1761 (by decide) ?_
  refine Ev_iadd (pc := 1762) d_LW_law_1762 ?_
  refine Ev_scr (pc := 1763) d_LW_law_1763 n0 ?_
  refine Ev_aload_n (pc := 1764) d_LW_law_1764 rfl ?_
  refine Ev_iload (pc := 1765) d_LW_law_1765 rfl ?_
  refine Ev_iconst (v := 2) (pc := 1767) d_LW_law_1767 (by decide) ?_
  refine Ev_iadd (pc := 1768) d_LW_law_1768 ?_
  refine Ev_scr (pc := 1769) d_LW_law_1769 n1 ?_
  refine Ev_aload_n (pc := 1770) d_LW_law_1770 rfl ?_
  refine Ev_iload (pc := 1771) d_LW_law_1771 rfl ?_
  refine Ev_iconst (v := 3) (pc := 1773) d_LW_law_1773 (by decide) ?_
  refine Ev_iadd (pc := 1774) d_LW_law_1774 ?_
  refine Ev_scr (pc := 1775) d_LW_law_1775 n2 ?_
  refine Ev_callV (M' := M_MO_offer) (as := [vI y1, vI y2, vI y3]) (st := []) (a := 0) (i := 6) (pc := 1776) d_LW_law_1776 rfl rfl rfl rfl rfl rfl rfl v_MO_offer lk_LW_202 rfl rfl (c_MO_offer_1 n14 n15 n16 n17 n18 n19 ?_)
  refine Ev_istore (pc := 1779) d_LW_law_1779 rfl ?_
  refine Ev_aload_n (pc := 1781) d_LW_law_1781 rfl ?_
  refine Ev_callV (M' := M_MO_thrown) (as := []) (st := []) (a := 0) (i := 6) (pc := 1782) d_LW_law_1782 rfl rfl rfl rfl rfl rfl rfl v_MO_thrown lk_LW_124 rfl rfl (c_MO_thrown  ?_)
  refine Ev_iload (pc := 1785) d_LW_law_1785 rfl ?_
  refine Ev_icmp_eq (tgt := 1792) (pc := 1787) d_LW_law_1787 rfl (fun _ => ?_) (fun q => absurd e1 q)
  refine Ev_iload (pc := 1792) d_LW_law_1792 rfl ?_
  refine Ev_if_ne (tgt := 1809) (pc := 1794) d_LW_law_1794 rfl (fun q1 => ?_) (fun q1 => ?_)
  · refine Ev_goto (tgt := 2164) (pc := 1809) d_LW_law_1809 rfl ?_
    refine Ev_sub (lsub ?_) k
    exact (And.intro rfl (And.intro rfl (And.intro rfl (And.intro rfl (And.intro rfl trivial)))))
  · refine Ev_aload_n (pc := 1797) d_LW_law_1797 rfl ?_
    refine Ev_iconst (v := 0) (pc := 1798) d_LW_law_1798 (by decide) ?_
    refine Ev_lald (pc := 1799) d_LW_law_1799 rfl rfl (by decide) (by decide) ?_
    refine Ev_iload (pc := 1800) d_LW_law_1800 rfl ?_
    refine Ev_i2l (pc := 1802) d_LW_law_1802 ?_
    refine Ev_lcmp (pc := 1803) d_LW_law_1803 ?_
    refine Ev_if_eq (tgt := 1809) (pc := 1804) d_LW_law_1804 rfl (fun _ => ?_) (fun q => absurd (e2 q1) q)
    refine Ev_goto (tgt := 2164) (pc := 1809) d_LW_law_1809 rfl ?_
    refine Ev_sub (lsub ?_) k
    exact (And.intro rfl (And.intro rfl (And.intro rfl (And.intro rfl (And.intro rfl trivial)))))
theorem c_LW_law_23_0 {E : ev_E} {P : Option ev_V ⊕ Nat → ev_H → Prop} {h : ev_H} {i : Nat} {y0 : Int32} {y1 : Int32} {y2 : Int32} {y3 : Int32} {y4 : Int32} {y5 : Int32} (n0 : sok E ((nI i) + 1) y1) (n1 : sok E ((nI i) + 2) y2) (n2 : sok E ((nI i) + 3) y3) (hP : pok h) (hR : rfs h) (hZ : cZ h < ZM) (n6 : (gI h 0 0 3).toNatClampNeg ≤ 48) (n7 : ∀ b, b ≤ (gI h 0 0 3).toNatClampNeg → (gI (r_TB_offer_L36 (f_RK_empty h) y1 y2 y3 y1.toNatClampNeg b) 0 0 3) = nI (gI h 0 0 3).toNatClampNeg) (n8 : ∀ b, b < (gI h 0 0 3).toNatClampNeg → rfs (r_TB_offer_L36 (f_RK_empty h) y1 y2 y3 y1.toNatClampNeg b)) (n9 : ∀ b, b < (gI h 0 0 3).toNatClampNeg → gR (r_TB_offer_L36 (f_RK_empty h) y1 y2 y3 y1.toNatClampNeg b) 0 1 b = vR 1 b) (n10 : ∀ b, b < (gI h 0 0 3).toNatClampNeg → (gI (r_TB_offer_L36 (f_RK_empty h) y1 y2 y3 y1.toNatClampNeg b) 0 3 2) = nI (gI (r_TB_offer_L36 (f_RK_empty h) y1 y2 y3 y1.toNatClampNeg b) 0 3 2).toNatClampNeg) (n11 : ∀ b, b < (gI h 0 0 3).toNatClampNeg → (gI (r_TB_offer_L36 (f_RK_empty h) y1 y2 y3 y1.toNatClampNeg b) 0 3 2).toNatClampNeg < 48) (n12 : rfs (r_TB_offer_L36 (f_RK_empty h) y1 y2 y3 y1.toNatClampNeg (gI h 0 0 3).toNatClampNeg)) (n13 : gI (r_TB_offer_L36 (f_RK_empty h) y1 y2 y3 y1.toNatClampNeg (gI h 0 0 3).toNatClampNeg) 0 3 2 ≤ 48) (n14 : f_MO_isPatient ((f_LW_offer h y1 y2 y3).2) y1 = 0) (e1 : (f_MO_thrown ((f_MO_offer_0 ((f_LW_offer h y1 y2 y3).2) y1 y2 y3).2)) = ((f_LW_offer h y1 y2 y3).1)) (e2 : ((f_LW_offer h y1 y2 y3).1) = 0 → (lg_cmp (gL ((f_MO_offer_0 ((f_LW_offer h y1 y2 y3).2) y1 y2 y3).2) 0 27 0) (((f_MO_offer_0 ((f_LW_offer h y1 y2 y3).2) y1 y2 y3).1).toInt64)) = 0) (k : Ev E M_LW_law 2164 [(0, vR 5 0), (1, vR 0 0), (2, vR 0 6), (3, vR 0 27), (4, vI (nI i))] [] ((f_MO_offer_0 ((f_LW_offer h y1 y2 y3).2) y1 y2 y3).2) P) : Ev E M_LW_law 1732 [(0, vR 5 0), (1, vR 0 0), (2, vR 0 6), (3, vR 0 27), (4, vI (nI i))] [] h P := by
  refine Ev_aload_n (pc := 1732) d_LW_law_1732 rfl ?_
  refine Ev_aload_n (pc := 1733) d_LW_law_1733 rfl ?_
  refine Ev_iload (pc := 1734) d_LW_law_1734 rfl ?_
  refine Ev_iconst (v := 1) (pc := 1736) d_LW_law_1736 (by decide) ?_
  refine Ev_iadd (pc := 1737) d_LW_law_1737 ?_
  refine Ev_scr (pc := 1738) d_LW_law_1738 n0 ?_
  refine Ev_aload_n (pc := 1739) d_LW_law_1739 rfl ?_
  refine Ev_iload (pc := 1740) d_LW_law_1740 rfl ?_
  refine Ev_iconst (v := 2) (pc := 1742) d_LW_law_1742 (by decide) ?_
  refine Ev_iadd (pc := 1743) d_LW_law_1743 ?_
  refine Ev_scr (pc := 1744) d_LW_law_1744 n1 ?_
  refine Ev_aload_n (pc := 1745) d_LW_law_1745 rfl ?_
  refine Ev_iload (pc := 1746) d_LW_law_1746 rfl ?_
  refine Ev_iconst (v := 3) (pc := 1748) d_LW_law_1748 (by decide) ?_
  refine Ev_iadd (pc := 1749) d_LW_law_1749 ?_
  refine Ev_scr (pc := 1750) d_LW_law_1750 n2 ?_
  refine Ev_aload_n (pc := 1751) d_LW_law_1751 rfl ?_
  refine Ev_callS (M' := M_LW_offer) (as := [vR 0 0, vI y1, vI y2, vI y3, vR 0 27]) (st := []) (pc := 1752) d_LW_law_1752 rfl rfl rfl s_LW_offer lk_LW_200 rfl rfl (c_LW_offer hP hR hZ n6 n7 n8 n9 n10 n11 n12 n13 ?_)
  refine Ev_istore (pc := 1755) d_LW_law_1755 rfl ?_
  refine Ev_aload_n (pc := 1757) d_LW_law_1757 rfl ?_
  refine Ev_aload_n (pc := 1758) d_LW_law_1758 rfl ?_
  refine Ev_iload (pc := 1759) d_LW_law_1759 rfl ?_
  refine Ev_iconst (v := 1) (pc := 1761) d_LW_law_1761 (by decide) ?_
  refine Ev_iadd (pc := 1762) d_LW_law_1762 ?_
  refine Ev_scr (pc := 1763) d_LW_law_1763 n0 ?_
  refine Ev_aload_n (pc := 1764) d_LW_law_1764 rfl ?_
  refine Ev_iload (pc := 1765) d_LW_law_1765 rfl ?_
  refine Ev_iconst (v := 2) (pc := 1767) d_LW_law_1767 (by decide) ?_
  refine Ev_iadd (pc := 1768) d_LW_law_1768 ?_
  refine Ev_scr (pc := 1769) d_LW_law_1769 n1 ?_
  refine Ev_aload_n (pc := 1770) d_LW_law_1770 rfl ?_
  refine Ev_iload (pc := 1771) d_LW_law_1771 rfl ?_
  refine Ev_iconst (v := 3) (pc := 1773) d_LW_law_1773 (by decide) ?_
  refine Ev_iadd (pc := 1774) d_LW_law_1774 ?_
  refine Ev_scr (pc := 1775) d_LW_law_1775 n2 ?_
  refine Ev_callV (M' := M_MO_offer) (as := [vI y1, vI y2, vI y3]) (st := []) (a := 0) (i := 6) (pc := 1776) d_LW_law_1776 rfl rfl rfl rfl rfl rfl rfl v_MO_offer lk_LW_202 rfl rfl (c_MO_offer_0 n14 ?_)
  refine Ev_istore (pc := 1779) d_LW_law_1779 rfl ?_
  refine Ev_aload_n (pc := 1781) d_LW_law_1781 rfl ?_
  refine Ev_callV (M' := M_MO_thrown) (as := []) (st := []) (a := 0) (i := 6) (pc := 1782) d_LW_law_1782 rfl rfl rfl rfl rfl rfl rfl v_MO_thrown lk_LW_124 rfl rfl (c_MO_thrown  ?_)
  refine Ev_iload (pc := 1785) d_LW_law_1785 rfl ?_
  refine Ev_icmp_eq (tgt := 1792) (pc := 1787) d_LW_law_1787 rfl (fun _ => ?_) (fun q => absurd e1 q)
  refine Ev_iload (pc := 1792) d_LW_law_1792 rfl ?_
  refine Ev_if_ne (tgt := 1809) (pc := 1794) d_LW_law_1794 rfl (fun q1 => ?_) (fun q1 => ?_)
  · refine Ev_goto (tgt := 2164) (pc := 1809) d_LW_law_1809 rfl ?_
    refine Ev_sub (lsub ?_) k
    exact (And.intro rfl (And.intro rfl (And.intro rfl (And.intro rfl (And.intro rfl trivial)))))
  · refine Ev_aload_n (pc := 1797) d_LW_law_1797 rfl ?_
    refine Ev_iconst (v := 0) (pc := 1798) d_LW_law_1798 (by decide) ?_
    refine Ev_lald (pc := 1799) d_LW_law_1799 rfl rfl (by decide) (by decide) ?_
    refine Ev_iload (pc := 1800) d_LW_law_1800 rfl ?_
    refine Ev_i2l (pc := 1802) d_LW_law_1802 ?_
    refine Ev_lcmp (pc := 1803) d_LW_law_1803 ?_
    refine Ev_if_eq (tgt := 1809) (pc := 1804) d_LW_law_1804 rfl (fun _ => ?_) (fun q => absurd (e2 q1) q)
    refine Ev_goto (tgt := 2164) (pc := 1809) d_LW_law_1809 rfl ?_
    refine Ev_sub (lsub ?_) k
    exact (And.intro rfl (And.intro rfl (And.intro rfl (And.intro rfl (And.intro rfl trivial)))))
theorem c_LW_law_24 {E : ev_E} {P : Option ev_V ⊕ Nat → ev_H → Prop} {h : ev_H} {i : Nat} {y0 : Int32} {y1 : Int32} {y2 : Int32} {y3 : Int32} {y4 : Int32} {y5 : Int32} (n0 : sok E ((nI i) + 1) y1) (n1 : sok E ((nI i) + 2) y2) (n2 : sok E ((nI i) + 3) y3) (hZ : cZ h < ZM) (n4 : (gI h 0 0 3).toNatClampNeg ≤ 48) (n5 : (gI h 0 0 3) = nI (gI h 0 0 3).toNatClampNeg) (hR : rfs h) (n7 : ∀ b, b < (gI h 0 0 3).toNatClampNeg → gR h 0 1 b = vR 1 b) (n8 : (gI ((f_LW_stock h y1 y2 y3).2) 0 6 2).toNatClampNeg ≤ 48) (n9 : (gI ((f_LW_stock h y1 y2 y3).2) 0 6 2) = nI (gI ((f_LW_stock h y1 y2 y3).2) 0 6 2).toNatClampNeg) (n10 : rfs ((f_LW_stock h y1 y2 y3).2)) (e1 : (f_MO_thrown ((f_MO_stock ((f_LW_stock h y1 y2 y3).2) y1 y2 y3).2)) = ((f_LW_stock h y1 y2 y3).1)) (e2 : ((f_LW_stock h y1 y2 y3).1) = 0 → (lg_cmp (gL ((f_MO_stock ((f_LW_stock h y1 y2 y3).2) y1 y2 y3).2) 0 27 0) (((f_MO_stock ((f_LW_stock h y1 y2 y3).2) y1 y2 y3).1).toInt64)) = 0) (k : Ev E M_LW_law 2164 [(0, vR 5 0), (1, vR 0 0), (2, vR 0 6), (3, vR 0 27), (4, vI (nI i))] [] ((f_MO_stock ((f_LW_stock h y1 y2 y3).2) y1 y2 y3).2) P) : Ev E M_LW_law 1812 [(0, vR 5 0), (1, vR 0 0), (2, vR 0 6), (3, vR 0 27), (4, vI (nI i))] [] h P := by
  refine Ev_aload_n (pc := 1812) d_LW_law_1812 rfl ?_
  refine Ev_aload_n (pc := 1813) d_LW_law_1813 rfl ?_
  refine Ev_iload (pc := 1814) d_LW_law_1814 rfl ?_
  refine Ev_iconst (v := 1) (pc := 1816) d_LW_law_1816 (by decide) ?_
  refine Ev_iadd (pc := 1817) d_LW_law_1817 ?_
  refine Ev_scr (pc := 1818) d_LW_law_1818 n0 ?_
  refine Ev_aload_n (pc := 1819) d_LW_law_1819 rfl ?_
  refine Ev_iload (pc := 1820) d_LW_law_1820 rfl ?_
  refine Ev_iconst (v := 2) (pc := 1822) d_LW_law_1822 (by decide) ?_
  refine Ev_iadd (pc := 1823) d_LW_law_1823 ?_
  refine Ev_scr (pc := 1824) d_LW_law_1824 n1 ?_
  refine Ev_aload_n (pc := 1825) d_LW_law_1825 rfl ?_
  refine Ev_iload (pc := 1826) d_LW_law_1826 rfl ?_
  refine Ev_iconst (v := 3) (pc := 1828) d_LW_law_1828 (by decide) ?_
  refine Ev_iadd (pc := 1829) d_LW_law_1829 ?_
  refine Ev_scr (pc := 1830) d_LW_law_1830 n2 ?_
  refine Ev_aload_n (pc := 1831) d_LW_law_1831 rfl ?_
  refine Ev_callS (M' := M_LW_stock) (as := [vR 0 0, vI y1, vI y2, vI y3, vR 0 27]) (st := []) (pc := 1832) d_LW_law_1832 rfl rfl rfl s_LW_stock lk_LW_203 rfl rfl (c_LW_stock hZ n4 n5 hR n7 ?_)
  refine Ev_istore (pc := 1835) d_LW_law_1835 rfl ?_
  refine Ev_aload_n (pc := 1837) d_LW_law_1837 rfl ?_
  refine Ev_aload_n (pc := 1838) d_LW_law_1838 rfl ?_
  refine Ev_iload (pc := 1839) d_LW_law_1839 rfl ?_
  refine Ev_iconst (v := 1) (pc := 1841) d_LW_law_1841 (by decide) ?_
  refine Ev_iadd (pc := 1842) d_LW_law_1842 ?_
  refine Ev_scr (pc := 1843) d_LW_law_1843 n0 ?_
  refine Ev_aload_n (pc := 1844) d_LW_law_1844 rfl ?_
  refine Ev_iload (pc := 1845) d_LW_law_1845 rfl ?_
  refine Ev_iconst (v := 2) (pc := 1847) d_LW_law_1847 (by decide) ?_
  refine Ev_iadd (pc := 1848) d_LW_law_1848 ?_
  refine Ev_scr (pc := 1849) d_LW_law_1849 n1 ?_
  refine Ev_aload_n (pc := 1850) d_LW_law_1850 rfl ?_
  refine Ev_iload (pc := 1851) d_LW_law_1851 rfl ?_
  refine Ev_iconst (v := 3) (pc := 1853) d_LW_law_1853 (by decide) ?_
  refine Ev_iadd (pc := 1854) d_LW_law_1854 ?_
  refine Ev_scr (pc := 1855) d_LW_law_1855 n2 ?_
  refine Ev_callV (M' := M_MO_stock) (as := [vI y1, vI y2, vI y3]) (st := []) (a := 0) (i := 6) (pc := 1856) d_LW_law_1856 rfl rfl rfl rfl rfl rfl rfl v_MO_stock lk_LW_205 rfl rfl (c_MO_stock n8 n9 n10 ?_)
  refine Ev_istore (pc := 1859) d_LW_law_1859 rfl ?_
  refine Ev_aload_n (pc := 1861) d_LW_law_1861 rfl ?_
  refine Ev_callV (M' := M_MO_thrown) (as := []) (st := []) (a := 0) (i := 6) (pc := 1862) d_LW_law_1862 rfl rfl rfl rfl rfl rfl rfl v_MO_thrown lk_LW_124 rfl rfl (c_MO_thrown  ?_)
  refine Ev_iload (pc := 1865) d_LW_law_1865 rfl ?_
  refine Ev_icmp_eq (tgt := 1872) (pc := 1867) d_LW_law_1867 rfl (fun _ => ?_) (fun q => absurd e1 q)
  refine Ev_iload (pc := 1872) d_LW_law_1872 rfl ?_
  refine Ev_if_ne (tgt := 1889) (pc := 1874) d_LW_law_1874 rfl (fun q1 => ?_) (fun q1 => ?_)
  · refine Ev_goto (tgt := 2164) (pc := 1889) d_LW_law_1889 rfl ?_
    refine Ev_sub (lsub ?_) k
    exact (And.intro rfl (And.intro rfl (And.intro rfl (And.intro rfl (And.intro rfl trivial)))))
  · refine Ev_aload_n (pc := 1877) d_LW_law_1877 rfl ?_
    refine Ev_iconst (v := 0) (pc := 1878) d_LW_law_1878 (by decide) ?_
    refine Ev_lald (pc := 1879) d_LW_law_1879 rfl rfl (by decide) (by decide) ?_
    refine Ev_iload (pc := 1880) d_LW_law_1880 rfl ?_
    refine Ev_i2l (pc := 1882) d_LW_law_1882 ?_
    refine Ev_lcmp (pc := 1883) d_LW_law_1883 ?_
    refine Ev_if_eq (tgt := 1889) (pc := 1884) d_LW_law_1884 rfl (fun _ => ?_) (fun q => absurd (e2 q1) q)
    refine Ev_goto (tgt := 2164) (pc := 1889) d_LW_law_1889 rfl ?_
    refine Ev_sub (lsub ?_) k
    exact (And.intro rfl (And.intro rfl (And.intro rfl (And.intro rfl (And.intro rfl trivial)))))
theorem c_LW_law_25 {E : ev_E} {P : Option ev_V ⊕ Nat → ev_H → Prop} {h : ev_H} {i : Nat} {y0 : Int32} {y1 : Int32} {y2 : Int32} {y3 : Int32} {y4 : Int32} {y5 : Int32} (n0 : sok E ((nI i) + 1) y1) (n1 : sok E ((nI i) + 2) y2) (hZ : cZ h < ZM) (hR : rfs h) (n4 : (gI h 0 0 3).toNatClampNeg ≤ 48) (n5 : ∀ b, b ≤ (gI h 0 0 3).toNatClampNeg → (gI (r_TB_expiring_L30 (f_RK_empty h) y1 y2 b) 0 0 3) = nI (gI h 0 0 3).toNatClampNeg) (n6 : ∀ b, b < (gI h 0 0 3).toNatClampNeg → rfs (r_TB_expiring_L30 (f_RK_empty h) y1 y2 b)) (n7 : ∀ b, b < (gI h 0 0 3).toNatClampNeg → gR (r_TB_expiring_L30 (f_RK_empty h) y1 y2 b) 0 1 b = vR 1 b) (n8 : ∀ b, b < (gI h 0 0 3).toNatClampNeg → (gI (r_TB_expiring_L30 (f_RK_empty h) y1 y2 b) 0 3 2) = nI (gI (r_TB_expiring_L30 (f_RK_empty h) y1 y2 b) 0 3 2).toNatClampNeg) (n9 : ∀ b, b < (gI h 0 0 3).toNatClampNeg → (gI (r_TB_expiring_L30 (f_RK_empty h) y1 y2 b) 0 3 2).toNatClampNeg < 48) (n10 : rfs (r_TB_expiring_L30 (f_RK_empty h) y1 y2 (gI h 0 0 3).toNatClampNeg)) (n11 : gI (r_TB_expiring_L30 (f_RK_empty h) y1 y2 (gI h 0 0 3).toNatClampNeg) 0 3 2 ≤ 48) (n12 : (gI ((f_LW_expiring h y1 y2).2) 0 6 2).toNatClampNeg ≤ 48) (n13 : (gI ((f_LW_expiring h y1 y2).2) 0 6 2) = nI (gI ((f_LW_expiring h y1 y2).2) 0 6 2).toNatClampNeg) (n14 : rfs ((f_LW_expiring h y1 y2).2)) (e1 : (f_MO_thrown ((f_MO_expiring ((f_LW_expiring h y1 y2).2) y1 y2).2)) = ((f_LW_expiring h y1 y2).1)) (e2 : ((f_LW_expiring h y1 y2).1) = 0 → (lg_cmp (gL ((f_MO_expiring ((f_LW_expiring h y1 y2).2) y1 y2).2) 0 27 0) (((f_MO_expiring ((f_LW_expiring h y1 y2).2) y1 y2).1).toInt64)) = 0) (k : Ev E M_LW_law 2164 [(0, vR 5 0), (1, vR 0 0), (2, vR 0 6), (3, vR 0 27), (4, vI (nI i))] [] ((f_MO_expiring ((f_LW_expiring h y1 y2).2) y1 y2).2) P) : Ev E M_LW_law 1892 [(0, vR 5 0), (1, vR 0 0), (2, vR 0 6), (3, vR 0 27), (4, vI (nI i))] [] h P := by
  refine Ev_aload_n (pc := 1892) d_LW_law_1892 rfl ?_
  refine Ev_aload_n (pc := 1893) d_LW_law_1893 rfl ?_
  refine Ev_iload (pc := 1894) d_LW_law_1894 rfl ?_
  refine Ev_iconst (v := 1) (pc := 1896) d_LW_law_1896 (by decide) ?_
  refine Ev_iadd (pc := 1897) d_LW_law_1897 ?_
  refine Ev_scr (pc := 1898) d_LW_law_1898 n0 ?_
  refine Ev_aload_n (pc := 1899) d_LW_law_1899 rfl ?_
  refine Ev_iload (pc := 1900) d_LW_law_1900 rfl ?_
  refine Ev_iconst (v := 2) (pc := 1902) d_LW_law_1902 (by decide) ?_
  refine Ev_iadd (pc := 1903) d_LW_law_1903 ?_
  refine Ev_scr (pc := 1904) d_LW_law_1904 n1 ?_
  refine Ev_aload_n (pc := 1905) d_LW_law_1905 rfl ?_
  refine Ev_callS (M' := M_LW_expiring) (as := [vR 0 0, vI y1, vI y2, vR 0 27]) (st := []) (pc := 1906) d_LW_law_1906 rfl rfl rfl s_LW_expiring lk_LW_206 rfl rfl (c_LW_expiring hZ hR n4 n5 n6 n7 n8 n9 n10 n11 ?_)
  refine Ev_istore (pc := 1909) d_LW_law_1909 rfl ?_
  refine Ev_aload_n (pc := 1911) d_LW_law_1911 rfl ?_
  refine Ev_aload_n (pc := 1912) d_LW_law_1912 rfl ?_
  refine Ev_iload (pc := 1913) d_LW_law_1913 rfl ?_
  refine Ev_iconst (v := 1) (pc := 1915) d_LW_law_1915 (by decide) ?_
  refine Ev_iadd (pc := 1916) d_LW_law_1916 ?_
  refine Ev_scr (pc := 1917) d_LW_law_1917 n0 ?_
  refine Ev_aload_n (pc := 1918) d_LW_law_1918 rfl ?_
  refine Ev_iload (pc := 1919) d_LW_law_1919 rfl ?_
  refine Ev_iconst (v := 2) (pc := 1921) d_LW_law_1921 (by decide) ?_
  refine Ev_iadd (pc := 1922) d_LW_law_1922 ?_
  refine Ev_scr (pc := 1923) d_LW_law_1923 n1 ?_
  refine Ev_callV (M' := M_MO_expiring) (as := [vI y1, vI y2]) (st := []) (a := 0) (i := 6) (pc := 1924) d_LW_law_1924 rfl rfl rfl rfl rfl rfl rfl v_MO_expiring lk_LW_208 rfl rfl (c_MO_expiring n12 n13 n14 ?_)
  refine Ev_istore (pc := 1927) d_LW_law_1927 rfl ?_
  refine Ev_aload_n (pc := 1929) d_LW_law_1929 rfl ?_
  refine Ev_callV (M' := M_MO_thrown) (as := []) (st := []) (a := 0) (i := 6) (pc := 1930) d_LW_law_1930 rfl rfl rfl rfl rfl rfl rfl v_MO_thrown lk_LW_124 rfl rfl (c_MO_thrown  ?_)
  refine Ev_iload (pc := 1933) d_LW_law_1933 rfl ?_
  refine Ev_icmp_eq (tgt := 1940) (pc := 1935) d_LW_law_1935 rfl (fun _ => ?_) (fun q => absurd e1 q)
  refine Ev_iload (pc := 1940) d_LW_law_1940 rfl ?_
  refine Ev_if_ne (tgt := 1957) (pc := 1942) d_LW_law_1942 rfl (fun q1 => ?_) (fun q1 => ?_)
  · refine Ev_goto (tgt := 2164) (pc := 1957) d_LW_law_1957 rfl ?_
    refine Ev_sub (lsub ?_) k
    exact (And.intro rfl (And.intro rfl (And.intro rfl (And.intro rfl (And.intro rfl trivial)))))
  · refine Ev_aload_n (pc := 1945) d_LW_law_1945 rfl ?_
    refine Ev_iconst (v := 0) (pc := 1946) d_LW_law_1946 (by decide) ?_
    refine Ev_lald (pc := 1947) d_LW_law_1947 rfl rfl (by decide) (by decide) ?_
    refine Ev_iload (pc := 1948) d_LW_law_1948 rfl ?_
    refine Ev_i2l (pc := 1950) d_LW_law_1950 ?_
    refine Ev_lcmp (pc := 1951) d_LW_law_1951 ?_
    refine Ev_if_eq (tgt := 1957) (pc := 1952) d_LW_law_1952 rfl (fun _ => ?_) (fun q => absurd (e2 q1) q)
    refine Ev_goto (tgt := 2164) (pc := 1957) d_LW_law_1957 rfl ?_
    refine Ev_sub (lsub ?_) k
    exact (And.intro rfl (And.intro rfl (And.intro rfl (And.intro rfl (And.intro rfl trivial)))))
theorem c_LW_law_26 {E : ev_E} {P : Option ev_V ⊕ Nat → ev_H → Prop} {h : ev_H} {i : Nat} {y0 : Int32} {y1 : Int32} {y2 : Int32} {y3 : Int32} {y4 : Int32} {y5 : Int32} (n0 : sok E ((nI i) + 1) y1) (n1 : sok E ((nI i) + 2) y2) (hR : rfs h) (n3 : (gI h 0 0 4).toNatClampNeg ≤ 10) (n4 : ∀ b, b ≤ (gI h 0 0 4).toNatClampNeg → (gI (r_TB_lookback_L28 (f_RK_empty h) y1 y2 b) 0 0 4) = nI (gI h 0 0 4).toNatClampNeg) (n5 : ∀ b, b < (gI h 0 0 4).toNatClampNeg → (gI (r_TB_lookback_L28 (f_RK_empty h) y1 y2 b) 0 0 3).toNatClampNeg ≤ 48) (n6 : ∀ b, b < (gI h 0 0 4).toNatClampNeg → (gI (r_TB_lookback_L28 (f_RK_empty h) y1 y2 b) 0 0 3) = nI (gI (r_TB_lookback_L28 (f_RK_empty h) y1 y2 b) 0 0 3).toNatClampNeg) (n7 : ∀ b, b < (gI h 0 0 4).toNatClampNeg → rfs (r_TB_lookback_L28 (f_RK_empty h) y1 y2 b)) (n8 : ∀ a, a < (gI h 0 0 4).toNatClampNeg → ∀ b, b < (gI (r_TB_lookback_L28 (f_RK_empty h) y1 y2 a) 0 0 3).toNatClampNeg → gR (r_TB_lookback_L28 (f_RK_empty h) y1 y2 a) 0 1 b = vR 1 b) (n9 : ∀ b, b < (gI h 0 0 4).toNatClampNeg → (gI (r_TB_lookback_L28 (f_RK_empty h) y1 y2 b) 0 3 2) = nI (gI (r_TB_lookback_L28 (f_RK_empty h) y1 y2 b) 0 3 2).toNatClampNeg) (n10 : ∀ b, b < (gI h 0 0 4).toNatClampNeg → (gI (r_TB_lookback_L28 (f_RK_empty h) y1 y2 b) 0 3 2).toNatClampNeg < 48) (n11 : rfs (r_TB_lookback_L28 (f_RK_empty h) y1 y2 (gI h 0 0 4).toNatClampNeg)) (n12 : gI (r_TB_lookback_L28 (f_RK_empty h) y1 y2 (gI h 0 0 4).toNatClampNeg) 0 3 2 ≤ 48) (hZ : cZ h < ZM) (n14 : (gI ((f_LW_lookback h y1 y2).2) 0 6 19).toNatClampNeg ≤ 10) (n15 : (gI ((f_LW_lookback h y1 y2).2) 0 6 19) = nI (gI ((f_LW_lookback h y1 y2).2) 0 6 19).toNatClampNeg) (n16 : (gI ((f_LW_lookback h y1 y2).2) 0 6 2).toNatClampNeg ≤ 48) (n17 : (gI ((f_LW_lookback h y1 y2).2) 0 6 2) = nI (gI ((f_LW_lookback h y1 y2).2) 0 6 2).toNatClampNeg) (n18 : rfs ((f_LW_lookback h y1 y2).2)) (e1 : (f_MO_thrown ((f_MO_lookback ((f_LW_lookback h y1 y2).2) y1 y2).2)) = ((f_LW_lookback h y1 y2).1)) (e2 : ((f_LW_lookback h y1 y2).1) = 0 → (lg_cmp (gL ((f_MO_lookback ((f_LW_lookback h y1 y2).2) y1 y2).2) 0 27 0) (((f_MO_lookback ((f_LW_lookback h y1 y2).2) y1 y2).1).toInt64)) = 0) (k : Ev E M_LW_law 2164 [(0, vR 5 0), (1, vR 0 0), (2, vR 0 6), (3, vR 0 27), (4, vI (nI i))] [] ((f_MO_lookback ((f_LW_lookback h y1 y2).2) y1 y2).2) P) : Ev E M_LW_law 1960 [(0, vR 5 0), (1, vR 0 0), (2, vR 0 6), (3, vR 0 27), (4, vI (nI i))] [] h P := by
  refine Ev_aload_n (pc := 1960) d_LW_law_1960 rfl ?_
  refine Ev_aload_n (pc := 1961) d_LW_law_1961 rfl ?_
  refine Ev_iload (pc := 1962) d_LW_law_1962 rfl ?_
  refine Ev_iconst (v := 1) (pc := 1964) d_LW_law_1964 (by decide) ?_
  refine Ev_iadd (pc := 1965) d_LW_law_1965 ?_
  refine Ev_scr (pc := 1966) d_LW_law_1966 n0 ?_
  refine Ev_aload_n (pc := 1967) d_LW_law_1967 rfl ?_
  refine Ev_iload (pc := 1968) d_LW_law_1968 rfl ?_
  refine Ev_iconst (v := 2) (pc := 1970) d_LW_law_1970 (by decide) ?_
  refine Ev_iadd (pc := 1971) d_LW_law_1971 ?_
  refine Ev_scr (pc := 1972) d_LW_law_1972 n1 ?_
  refine Ev_aload_n (pc := 1973) d_LW_law_1973 rfl ?_
  refine Ev_callS (M' := M_LW_lookback) (as := [vR 0 0, vI y1, vI y2, vR 0 27]) (st := []) (pc := 1974) d_LW_law_1974 rfl rfl rfl s_LW_lookback lk_LW_209 rfl rfl (c_LW_lookback hR n3 n4 n5 n6 n7 n8 n9 n10 n11 n12 hZ ?_)
  refine Ev_istore (pc := 1977) d_LW_law_1977 rfl ?_
  refine Ev_aload_n (pc := 1979) d_LW_law_1979 rfl ?_
  refine Ev_aload_n (pc := 1980) d_LW_law_1980 rfl ?_
  refine Ev_iload (pc := 1981) d_LW_law_1981 rfl ?_
  refine Ev_iconst (v := 1) (pc := 1983) d_LW_law_1983 (by decide) ?_
  refine Ev_iadd (pc := 1984) d_LW_law_1984 ?_
  refine Ev_scr (pc := 1985) d_LW_law_1985 n0 ?_
  refine Ev_aload_n (pc := 1986) d_LW_law_1986 rfl ?_
  refine Ev_iload (pc := 1987) d_LW_law_1987 rfl ?_
  refine Ev_iconst (v := 2) (pc := 1989) d_LW_law_1989 (by decide) ?_
  refine Ev_iadd (pc := 1990) d_LW_law_1990 ?_
  refine Ev_scr (pc := 1991) d_LW_law_1991 n1 ?_
  refine Ev_callV (M' := M_MO_lookback) (as := [vI y1, vI y2]) (st := []) (a := 0) (i := 6) (pc := 1992) d_LW_law_1992 rfl rfl rfl rfl rfl rfl rfl v_MO_lookback lk_LW_211 rfl rfl (c_MO_lookback n14 n15 n16 n17 n18 ?_)
  refine Ev_istore (pc := 1995) d_LW_law_1995 rfl ?_
  refine Ev_aload_n (pc := 1997) d_LW_law_1997 rfl ?_
  refine Ev_callV (M' := M_MO_thrown) (as := []) (st := []) (a := 0) (i := 6) (pc := 1998) d_LW_law_1998 rfl rfl rfl rfl rfl rfl rfl v_MO_thrown lk_LW_124 rfl rfl (c_MO_thrown  ?_)
  refine Ev_iload (pc := 2001) d_LW_law_2001 rfl ?_
  refine Ev_icmp_eq (tgt := 2008) (pc := 2003) d_LW_law_2003 rfl (fun _ => ?_) (fun q => absurd e1 q)
  refine Ev_iload (pc := 2008) d_LW_law_2008 rfl ?_
  refine Ev_if_ne (tgt := 2025) (pc := 2010) d_LW_law_2010 rfl (fun q1 => ?_) (fun q1 => ?_)
  · refine Ev_goto (tgt := 2164) (pc := 2025) d_LW_law_2025 rfl ?_
    refine Ev_sub (lsub ?_) k
    exact (And.intro rfl (And.intro rfl (And.intro rfl (And.intro rfl (And.intro rfl trivial)))))
  · refine Ev_aload_n (pc := 2013) d_LW_law_2013 rfl ?_
    refine Ev_iconst (v := 0) (pc := 2014) d_LW_law_2014 (by decide) ?_
    refine Ev_lald (pc := 2015) d_LW_law_2015 rfl rfl (by decide) (by decide) ?_
    refine Ev_iload (pc := 2016) d_LW_law_2016 rfl ?_
    refine Ev_i2l (pc := 2018) d_LW_law_2018 ?_
    refine Ev_lcmp (pc := 2019) d_LW_law_2019 ?_
    refine Ev_if_eq (tgt := 2025) (pc := 2020) d_LW_law_2020 rfl (fun _ => ?_) (fun q => absurd (e2 q1) q)
    refine Ev_goto (tgt := 2164) (pc := 2025) d_LW_law_2025 rfl ?_
    refine Ev_sub (lsub ?_) k
    exact (And.intro rfl (And.intro rfl (And.intro rfl (And.intro rfl (And.intro rfl trivial)))))
theorem c_LW_law_27_1 {E : ev_E} {P : Option ev_V ⊕ Nat → ev_H → Prop} {h : ev_H} {i : Nat} {y0 : Int32} {y1 : Int32} {y2 : Int32} {y3 : Int32} {y4 : Int32} {y5 : Int32} (n0 : sok E ((nI i) + 1) y1) (n1 : sok E ((nI i) + 2) y2) (hP : pok h) (hR : rfs h) (hZ : cZ h < ZM) (n5 : (gI h 0 0 3).toNatClampNeg ≤ 48) (n6 : ∀ b, b ≤ (gI h 0 0 3).toNatClampNeg → (gI (r_TB_received_L15 (f_RK_empty h) y1 y2 b) 0 0 3) = nI (gI h 0 0 3).toNatClampNeg) (n7 : ∀ b, b < (gI h 0 0 3).toNatClampNeg → rfs (r_TB_received_L15 (f_RK_empty h) y1 y2 b)) (n8 : ∀ b, b < (gI h 0 0 3).toNatClampNeg → gR (r_TB_received_L15 (f_RK_empty h) y1 y2 b) 0 1 b = vR 1 b) (n9 : ∀ b, b < (gI h 0 0 3).toNatClampNeg → (gI (r_TB_received_L15 (f_RK_empty h) y1 y2 b) 0 3 2) = nI (gI (r_TB_received_L15 (f_RK_empty h) y1 y2 b) 0 3 2).toNatClampNeg) (n10 : ∀ b, b < (gI h 0 0 3).toNatClampNeg → (gI (r_TB_received_L15 (f_RK_empty h) y1 y2 b) 0 3 2).toNatClampNeg < 48) (n11 : rfs (r_TB_received_L15 (f_RK_empty h) y1 y2 (gI h 0 0 3).toNatClampNeg)) (n12 : gI (r_TB_received_L15 (f_RK_empty h) y1 y2 (gI h 0 0 3).toNatClampNeg) 0 3 2 ≤ 48) (n13 : f_MO_isPatient ((f_LW_received h y1 y2).2) y1 = 1) (n14 : (gI ((f_LW_received h y1 y2).2) 0 6 2).toNatClampNeg ≤ 48) (n15 : (gI ((f_LW_received h y1 y2).2) 0 6 2) = nI (gI ((f_LW_received h y1 y2).2) 0 6 2).toNatClampNeg) (n16 : rfs ((f_LW_received h y1 y2).2)) (e1 : (f_MO_thrown ((f_MO_received_1 ((f_LW_received h y1 y2).2) y1 y2).2)) = ((f_LW_received h y1 y2).1)) (e2 : ((f_LW_received h y1 y2).1) = 0 → (lg_cmp (gL ((f_MO_received_1 ((f_LW_received h y1 y2).2) y1 y2).2) 0 27 0) (((f_MO_received_1 ((f_LW_received h y1 y2).2) y1 y2).1).toInt64)) = 0) (k : Ev E M_LW_law 2164 [(0, vR 5 0), (1, vR 0 0), (2, vR 0 6), (3, vR 0 27), (4, vI (nI i))] [] ((f_MO_received_1 ((f_LW_received h y1 y2).2) y1 y2).2) P) : Ev E M_LW_law 2028 [(0, vR 5 0), (1, vR 0 0), (2, vR 0 6), (3, vR 0 27), (4, vI (nI i))] [] h P := by
  refine Ev_aload_n (pc := 2028) d_LW_law_2028 rfl ?_
  refine Ev_aload_n (pc := 2029) d_LW_law_2029 rfl ?_
  refine Ev_iload (pc := 2030) d_LW_law_2030 rfl ?_
  refine Ev_iconst (v := 1) (pc := 2032) d_LW_law_2032 (by decide) ?_
  refine Ev_iadd (pc := 2033) d_LW_law_2033 ?_
  refine Ev_scr (pc := 2034) d_LW_law_2034 n0 ?_
  refine Ev_aload_n (pc := 2035) d_LW_law_2035 rfl ?_
  refine Ev_iload (pc := 2036) d_LW_law_2036 rfl ?_
  refine Ev_iconst (v := 2) (pc := 2038) d_LW_law_2038 (by decide) ?_
  refine Ev_iadd (pc := 2039) d_LW_law_2039 ?_
  refine Ev_scr (pc := 2040) d_LW_law_2040 n1 ?_
  refine Ev_aload_n (pc := 2041) d_LW_law_2041 rfl ?_
  refine Ev_callS (M' := M_LW_received) (as := [vR 0 0, vI y1, vI y2, vR 0 27]) (st := []) (pc := 2042) d_LW_law_2042 rfl rfl rfl s_LW_received lk_LW_212 rfl rfl (c_LW_received hP hR hZ n5 n6 n7 n8 n9 n10 n11 n12 ?_)
  refine Ev_istore (pc := 2045) d_LW_law_2045 rfl ?_
  refine Ev_aload_n (pc := 2047) d_LW_law_2047 rfl ?_
  refine Ev_aload_n (pc := 2048) d_LW_law_2048 rfl ?_
  refine Ev_iload (pc := 2049) d_LW_law_2049 rfl ?_
  refine Ev_iconst (v := 1) (pc := 2051) d_LW_law_2051 (by decide) ?_
  refine Ev_iadd (pc := 2052) d_LW_law_2052 ?_
  refine Ev_scr (pc := 2053) d_LW_law_2053 n0 ?_
  refine Ev_aload_n (pc := 2054) d_LW_law_2054 rfl ?_
  refine Ev_iload (pc := 2055) d_LW_law_2055 rfl ?_
  refine Ev_iconst (v := 2) (pc := 2057) d_LW_law_2057 (by decide) ?_
  refine Ev_iadd (pc := 2058) d_LW_law_2058 ?_
  refine Ev_scr (pc := 2059) d_LW_law_2059 n1 ?_
  refine Ev_callV (M' := M_MO_received) (as := [vI y1, vI y2]) (st := []) (a := 0) (i := 6) (pc := 2060) d_LW_law_2060 rfl rfl rfl rfl rfl rfl rfl v_MO_received lk_LW_214 rfl rfl (c_MO_received_1 n13 n14 n15 n16 ?_)
  refine Ev_istore (pc := 2063) d_LW_law_2063 rfl ?_
  refine Ev_aload_n (pc := 2065) d_LW_law_2065 rfl ?_
  refine Ev_callV (M' := M_MO_thrown) (as := []) (st := []) (a := 0) (i := 6) (pc := 2066) d_LW_law_2066 rfl rfl rfl rfl rfl rfl rfl v_MO_thrown lk_LW_124 rfl rfl (c_MO_thrown  ?_)
  refine Ev_iload (pc := 2069) d_LW_law_2069 rfl ?_
  refine Ev_icmp_eq (tgt := 2076) (pc := 2071) d_LW_law_2071 rfl (fun _ => ?_) (fun q => absurd e1 q)
  refine Ev_iload (pc := 2076) d_LW_law_2076 rfl ?_
  refine Ev_if_ne (tgt := 2093) (pc := 2078) d_LW_law_2078 rfl (fun q1 => ?_) (fun q1 => ?_)
  · refine Ev_goto (tgt := 2164) (pc := 2093) d_LW_law_2093 rfl ?_
    refine Ev_sub (lsub ?_) k
    exact (And.intro rfl (And.intro rfl (And.intro rfl (And.intro rfl (And.intro rfl trivial)))))
  · refine Ev_aload_n (pc := 2081) d_LW_law_2081 rfl ?_
    refine Ev_iconst (v := 0) (pc := 2082) d_LW_law_2082 (by decide) ?_
    refine Ev_lald (pc := 2083) d_LW_law_2083 rfl rfl (by decide) (by decide) ?_
    refine Ev_iload (pc := 2084) d_LW_law_2084 rfl ?_
    refine Ev_i2l (pc := 2086) d_LW_law_2086 ?_
    refine Ev_lcmp (pc := 2087) d_LW_law_2087 ?_
    refine Ev_if_eq (tgt := 2093) (pc := 2088) d_LW_law_2088 rfl (fun _ => ?_) (fun q => absurd (e2 q1) q)
    refine Ev_goto (tgt := 2164) (pc := 2093) d_LW_law_2093 rfl ?_
    refine Ev_sub (lsub ?_) k
    exact (And.intro rfl (And.intro rfl (And.intro rfl (And.intro rfl (And.intro rfl trivial)))))
theorem c_LW_law_27_0 {E : ev_E} {P : Option ev_V ⊕ Nat → ev_H → Prop} {h : ev_H} {i : Nat} {y0 : Int32} {y1 : Int32} {y2 : Int32} {y3 : Int32} {y4 : Int32} {y5 : Int32} (n0 : sok E ((nI i) + 1) y1) (n1 : sok E ((nI i) + 2) y2) (hP : pok h) (hR : rfs h) (hZ : cZ h < ZM) (n5 : (gI h 0 0 3).toNatClampNeg ≤ 48) (n6 : ∀ b, b ≤ (gI h 0 0 3).toNatClampNeg → (gI (r_TB_received_L15 (f_RK_empty h) y1 y2 b) 0 0 3) = nI (gI h 0 0 3).toNatClampNeg) (n7 : ∀ b, b < (gI h 0 0 3).toNatClampNeg → rfs (r_TB_received_L15 (f_RK_empty h) y1 y2 b)) (n8 : ∀ b, b < (gI h 0 0 3).toNatClampNeg → gR (r_TB_received_L15 (f_RK_empty h) y1 y2 b) 0 1 b = vR 1 b) (n9 : ∀ b, b < (gI h 0 0 3).toNatClampNeg → (gI (r_TB_received_L15 (f_RK_empty h) y1 y2 b) 0 3 2) = nI (gI (r_TB_received_L15 (f_RK_empty h) y1 y2 b) 0 3 2).toNatClampNeg) (n10 : ∀ b, b < (gI h 0 0 3).toNatClampNeg → (gI (r_TB_received_L15 (f_RK_empty h) y1 y2 b) 0 3 2).toNatClampNeg < 48) (n11 : rfs (r_TB_received_L15 (f_RK_empty h) y1 y2 (gI h 0 0 3).toNatClampNeg)) (n12 : gI (r_TB_received_L15 (f_RK_empty h) y1 y2 (gI h 0 0 3).toNatClampNeg) 0 3 2 ≤ 48) (n13 : f_MO_isPatient ((f_LW_received h y1 y2).2) y1 = 0) (e1 : (f_MO_thrown ((f_MO_received_0 ((f_LW_received h y1 y2).2) y1 y2).2)) = ((f_LW_received h y1 y2).1)) (e2 : ((f_LW_received h y1 y2).1) = 0 → (lg_cmp (gL ((f_MO_received_0 ((f_LW_received h y1 y2).2) y1 y2).2) 0 27 0) (((f_MO_received_0 ((f_LW_received h y1 y2).2) y1 y2).1).toInt64)) = 0) (k : Ev E M_LW_law 2164 [(0, vR 5 0), (1, vR 0 0), (2, vR 0 6), (3, vR 0 27), (4, vI (nI i))] [] ((f_MO_received_0 ((f_LW_received h y1 y2).2) y1 y2).2) P) : Ev E M_LW_law 2028 [(0, vR 5 0), (1, vR 0 0), (2, vR 0 6), (3, vR 0 27), (4, vI (nI i))] [] h P := by
  refine Ev_aload_n (pc := 2028) d_LW_law_2028 rfl ?_
  refine Ev_aload_n (pc := 2029) d_LW_law_2029 rfl ?_
  refine Ev_iload (pc := 2030) d_LW_law_2030 rfl ?_
  refine Ev_iconst (v := 1) (pc := 2032) d_LW_law_2032 (by decide) ?_
  refine Ev_iadd (pc := 2033) d_LW_law_2033 ?_
  refine Ev_scr (pc := 2034) d_LW_law_2034 n0 ?_
  refine Ev_aload_n (pc := 2035) d_LW_law_2035 rfl ?_
  refine Ev_iload (pc := 2036) d_LW_law_2036 rfl ?_
  refine Ev_iconst (v := 2) (pc := 2038) d_LW_law_2038 (by decide) ?_
  refine Ev_iadd (pc := 2039) d_LW_law_2039 ?_
  refine Ev_scr (pc := 2040) d_LW_law_2040 n1 ?_
  refine Ev_aload_n (pc := 2041) d_LW_law_2041 rfl ?_
  refine Ev_callS (M' := M_LW_received) (as := [vR 0 0, vI y1, vI y2, vR 0 27]) (st := []) (pc := 2042) d_LW_law_2042 rfl rfl rfl s_LW_received lk_LW_212 rfl rfl (c_LW_received hP hR hZ n5 n6 n7 n8 n9 n10 n11 n12 ?_)
  refine Ev_istore (pc := 2045) d_LW_law_2045 rfl ?_
  refine Ev_aload_n (pc := 2047) d_LW_law_2047 rfl ?_
  refine Ev_aload_n (pc := 2048) d_LW_law_2048 rfl ?_
  refine Ev_iload (pc := 2049) d_LW_law_2049 rfl ?_
  refine Ev_iconst (v := 1) (pc := 2051) d_LW_law_2051 (by decide) ?_
  refine Ev_iadd (pc := 2052) d_LW_law_2052 ?_
  refine Ev_scr (pc := 2053) d_LW_law_2053 n0 ?_
  refine Ev_aload_n (pc := 2054) d_LW_law_2054 rfl ?_
  refine Ev_iload (pc := 2055) d_LW_law_2055 rfl ?_
  refine Ev_iconst (v := 2) (pc := 2057) d_LW_law_2057 (by decide) ?_
  refine Ev_iadd (pc := 2058) d_LW_law_2058 ?_
  refine Ev_scr (pc := 2059) d_LW_law_2059 n1 ?_
  refine Ev_callV (M' := M_MO_received) (as := [vI y1, vI y2]) (st := []) (a := 0) (i := 6) (pc := 2060) d_LW_law_2060 rfl rfl rfl rfl rfl rfl rfl v_MO_received lk_LW_214 rfl rfl (c_MO_received_0 n13 ?_)
  refine Ev_istore (pc := 2063) d_LW_law_2063 rfl ?_
  refine Ev_aload_n (pc := 2065) d_LW_law_2065 rfl ?_
  refine Ev_callV (M' := M_MO_thrown) (as := []) (st := []) (a := 0) (i := 6) (pc := 2066) d_LW_law_2066 rfl rfl rfl rfl rfl rfl rfl v_MO_thrown lk_LW_124 rfl rfl (c_MO_thrown  ?_)
  refine Ev_iload (pc := 2069) d_LW_law_2069 rfl ?_
  refine Ev_icmp_eq (tgt := 2076) (pc := 2071) d_LW_law_2071 rfl (fun _ => ?_) (fun q => absurd e1 q)
  refine Ev_iload (pc := 2076) d_LW_law_2076 rfl ?_
  refine Ev_if_ne (tgt := 2093) (pc := 2078) d_LW_law_2078 rfl (fun q1 => ?_) (fun q1 => ?_)
  · refine Ev_goto (tgt := 2164) (pc := 2093) d_LW_law_2093 rfl ?_
    refine Ev_sub (lsub ?_) k
    exact (And.intro rfl (And.intro rfl (And.intro rfl (And.intro rfl (And.intro rfl trivial)))))
  · refine Ev_aload_n (pc := 2081) d_LW_law_2081 rfl ?_
    refine Ev_iconst (v := 0) (pc := 2082) d_LW_law_2082 (by decide) ?_
    refine Ev_lald (pc := 2083) d_LW_law_2083 rfl rfl (by decide) (by decide) ?_
    refine Ev_iload (pc := 2084) d_LW_law_2084 rfl ?_
    refine Ev_i2l (pc := 2086) d_LW_law_2086 ?_
    refine Ev_lcmp (pc := 2087) d_LW_law_2087 ?_
    refine Ev_if_eq (tgt := 2093) (pc := 2088) d_LW_law_2088 rfl (fun _ => ?_) (fun q => absurd (e2 q1) q)
    refine Ev_goto (tgt := 2164) (pc := 2093) d_LW_law_2093 rfl ?_
    refine Ev_sub (lsub ?_) k
    exact (And.intro rfl (And.intro rfl (And.intro rfl (And.intro rfl (And.intro rfl trivial)))))
theorem c_LW_law_28 {E : ev_E} {P : Option ev_V ⊕ Nat → ev_H → Prop} {h : ev_H} {i : Nat} {y0 : Int32} {y1 : Int32} {y2 : Int32} {y3 : Int32} {y4 : Int32} {y5 : Int32} (n0 : sok E ((nI i) + 1) y1) (n1 : sok E ((nI i) + 2) y2) (hZ : cZ h < ZM) (n3 : (gI h 0 0 3).toNatClampNeg ≤ 48) (n4 : (gI h 0 0 3) = nI (gI h 0 0 3).toNatClampNeg) (hR : rfs h) (n6 : ∀ b, b < (gI h 0 0 3).toNatClampNeg → gR h 0 1 b = vR 1 b) (n7 : (gI ((f_LW_count h y1 y2).2) 0 6 2).toNatClampNeg ≤ 48) (n8 : (gI ((f_LW_count h y1 y2).2) 0 6 2) = nI (gI ((f_LW_count h y1 y2).2) 0 6 2).toNatClampNeg) (n9 : rfs ((f_LW_count h y1 y2).2)) (e1 : (f_MO_thrown ((f_MO_count ((f_LW_count h y1 y2).2) y1 y2).2)) = ((f_LW_count h y1 y2).1)) (e2 : ((f_LW_count h y1 y2).1) = 0 → (lg_cmp (gL ((f_MO_count ((f_LW_count h y1 y2).2) y1 y2).2) 0 27 0) (((f_MO_count ((f_LW_count h y1 y2).2) y1 y2).1).toInt64)) = 0) (k : Ev E M_LW_law 2164 [(0, vR 5 0), (1, vR 0 0), (2, vR 0 6), (3, vR 0 27), (4, vI (nI i))] [] ((f_MO_count ((f_LW_count h y1 y2).2) y1 y2).2) P) : Ev E M_LW_law 2096 [(0, vR 5 0), (1, vR 0 0), (2, vR 0 6), (3, vR 0 27), (4, vI (nI i))] [] h P := by
  refine Ev_aload_n (pc := 2096) d_LW_law_2096 rfl ?_
  refine Ev_aload_n (pc := 2097) d_LW_law_2097 rfl ?_
  refine Ev_iload (pc := 2098) d_LW_law_2098 rfl ?_
  refine Ev_iconst (v := 1) (pc := 2100) d_LW_law_2100 (by decide) ?_
  refine Ev_iadd (pc := 2101) d_LW_law_2101 ?_
  refine Ev_scr (pc := 2102) d_LW_law_2102 n0 ?_
  refine Ev_aload_n (pc := 2103) d_LW_law_2103 rfl ?_
  refine Ev_iload (pc := 2104) d_LW_law_2104 rfl ?_
  refine Ev_iconst (v := 2) (pc := 2106) d_LW_law_2106 (by decide) ?_
  refine Ev_iadd (pc := 2107) d_LW_law_2107 ?_
  refine Ev_scr (pc := 2108) d_LW_law_2108 n1 ?_
  refine Ev_aload_n (pc := 2109) d_LW_law_2109 rfl ?_
  refine Ev_callS (M' := M_LW_count) (as := [vR 0 0, vI y1, vI y2, vR 0 27]) (st := []) (pc := 2110) d_LW_law_2110 rfl rfl rfl s_LW_count lk_LW_215 rfl rfl (c_LW_count hZ n3 n4 hR n6 ?_)
  refine Ev_istore (pc := 2113) d_LW_law_2113 rfl ?_
  refine Ev_aload_n (pc := 2115) d_LW_law_2115 rfl ?_
  refine Ev_aload_n (pc := 2116) d_LW_law_2116 rfl ?_
  refine Ev_iload (pc := 2117) d_LW_law_2117 rfl ?_
  refine Ev_iconst (v := 1) (pc := 2119) d_LW_law_2119 (by decide) ?_
  refine Ev_iadd (pc := 2120) d_LW_law_2120 ?_
  refine Ev_scr (pc := 2121) d_LW_law_2121 n0 ?_
  refine Ev_aload_n (pc := 2122) d_LW_law_2122 rfl ?_
  refine Ev_iload (pc := 2123) d_LW_law_2123 rfl ?_
  refine Ev_iconst (v := 2) (pc := 2125) d_LW_law_2125 (by decide) ?_
  refine Ev_iadd (pc := 2126) d_LW_law_2126 ?_
  refine Ev_scr (pc := 2127) d_LW_law_2127 n1 ?_
  refine Ev_callV (M' := M_MO_count) (as := [vI y1, vI y2]) (st := []) (a := 0) (i := 6) (pc := 2128) d_LW_law_2128 rfl rfl rfl rfl rfl rfl rfl v_MO_count lk_LW_217 rfl rfl (c_MO_count n7 n8 n9 ?_)
  refine Ev_istore (pc := 2131) d_LW_law_2131 rfl ?_
  refine Ev_aload_n (pc := 2133) d_LW_law_2133 rfl ?_
  refine Ev_callV (M' := M_MO_thrown) (as := []) (st := []) (a := 0) (i := 6) (pc := 2134) d_LW_law_2134 rfl rfl rfl rfl rfl rfl rfl v_MO_thrown lk_LW_124 rfl rfl (c_MO_thrown  ?_)
  refine Ev_iload (pc := 2137) d_LW_law_2137 rfl ?_
  refine Ev_icmp_eq (tgt := 2144) (pc := 2139) d_LW_law_2139 rfl (fun _ => ?_) (fun q => absurd e1 q)
  refine Ev_iload (pc := 2144) d_LW_law_2144 rfl ?_
  refine Ev_if_ne (tgt := 2161) (pc := 2146) d_LW_law_2146 rfl (fun q1 => ?_) (fun q1 => ?_)
  · refine Ev_goto (tgt := 2164) (pc := 2161) d_LW_law_2161 rfl ?_
    refine Ev_sub (lsub ?_) k
    exact (And.intro rfl (And.intro rfl (And.intro rfl (And.intro rfl (And.intro rfl trivial)))))
  · refine Ev_aload_n (pc := 2149) d_LW_law_2149 rfl ?_
    refine Ev_iconst (v := 0) (pc := 2150) d_LW_law_2150 (by decide) ?_
    refine Ev_lald (pc := 2151) d_LW_law_2151 rfl rfl (by decide) (by decide) ?_
    refine Ev_iload (pc := 2152) d_LW_law_2152 rfl ?_
    refine Ev_i2l (pc := 2154) d_LW_law_2154 ?_
    refine Ev_lcmp (pc := 2155) d_LW_law_2155 ?_
    refine Ev_if_eq (tgt := 2161) (pc := 2156) d_LW_law_2156 rfl (fun _ => ?_) (fun q => absurd (e2 q1) q)
    refine Ev_goto (tgt := 2164) (pc := 2161) d_LW_law_2161 rfl ?_
    refine Ev_sub (lsub ?_) k
    exact (And.intro rfl (And.intro rfl (And.intro rfl (And.intro rfl (And.intro rfl trivial)))))
theorem c_LW_sw_0 {E : ev_E} {P : Option ev_V ⊕ Nat → ev_H → Prop} {h : ev_H} {i : Nat} {y0 : Int32} (q0 : ¬ ((Int32.ofNat (eN E 0)) - 6) < (nI i)) (n1 : sok E (nI i) y0) (n2 : (y0 &&& 31) = 0) (k : Ev E M_LW_law 172 [(0, vR 5 0), (1, vR 0 0), (2, vR 0 6), (3, vR 0 27), (4, vI (nI i))] [] h P) : Ev E M_LW_law 23 [(0, vR 5 0), (1, vR 0 0), (2, vR 0 6), (3, vR 0 27), (4, vI (nI i))] [] h P := by
  refine Ev_iload (pc := 23) d_LW_law_23 rfl ?_
  refine Ev_aload_n (pc := 25) d_LW_law_25 rfl ?_
  refine Ev_alenO (pc := 26) d_LW_law_26 rfl ?_
  refine Ev_bipush (v := 6) (pc := 27) d_LW_law_27 (by decide) ?_
  refine Ev_isub (pc := 29) d_LW_law_29 ?_
  refine Ev_icmp_gt (tgt := 2170) (pc := 30) d_LW_law_30 rfl (fun q => absurd q q0) (fun _ => ?_)
  refine Ev_aload_n (pc := 33) d_LW_law_33 rfl ?_
  refine Ev_iload (pc := 34) d_LW_law_34 rfl ?_
  refine Ev_scr (pc := 36) d_LW_law_36 n1 ?_
  refine Ev_bipush (v := 31) (pc := 37) d_LW_law_37 (by decide) ?_
  refine Ev_iand (pc := 39) d_LW_law_39 ?_
  refine Ev_tblIn (pc := 40) (tgt := 172) (off := 132) d_LW_law_40 (by rw [n2]; decide) (by rw [n2]; decide) (by rw [n2]; rfl) rfl ?_
  exact k
theorem c_LW_sw_1 {E : ev_E} {P : Option ev_V ⊕ Nat → ev_H → Prop} {h : ev_H} {i : Nat} {y0 : Int32} (q0 : ¬ ((Int32.ofNat (eN E 0)) - 6) < (nI i)) (n1 : sok E (nI i) y0) (n2 : (y0 &&& 31) = 1) (k : Ev E M_LW_law 228 [(0, vR 5 0), (1, vR 0 0), (2, vR 0 6), (3, vR 0 27), (4, vI (nI i))] [] h P) : Ev E M_LW_law 23 [(0, vR 5 0), (1, vR 0 0), (2, vR 0 6), (3, vR 0 27), (4, vI (nI i))] [] h P := by
  refine Ev_iload (pc := 23) d_LW_law_23 rfl ?_
  refine Ev_aload_n (pc := 25) d_LW_law_25 rfl ?_
  refine Ev_alenO (pc := 26) d_LW_law_26 rfl ?_
  refine Ev_bipush (v := 6) (pc := 27) d_LW_law_27 (by decide) ?_
  refine Ev_isub (pc := 29) d_LW_law_29 ?_
  refine Ev_icmp_gt (tgt := 2170) (pc := 30) d_LW_law_30 rfl (fun q => absurd q q0) (fun _ => ?_)
  refine Ev_aload_n (pc := 33) d_LW_law_33 rfl ?_
  refine Ev_iload (pc := 34) d_LW_law_34 rfl ?_
  refine Ev_scr (pc := 36) d_LW_law_36 n1 ?_
  refine Ev_bipush (v := 31) (pc := 37) d_LW_law_37 (by decide) ?_
  refine Ev_iand (pc := 39) d_LW_law_39 ?_
  refine Ev_tblIn (pc := 40) (tgt := 228) (off := 188) d_LW_law_40 (by rw [n2]; decide) (by rw [n2]; decide) (by rw [n2]; rfl) rfl ?_
  exact k
theorem c_LW_sw_2 {E : ev_E} {P : Option ev_V ⊕ Nat → ev_H → Prop} {h : ev_H} {i : Nat} {y0 : Int32} (q0 : ¬ ((Int32.ofNat (eN E 0)) - 6) < (nI i)) (n1 : sok E (nI i) y0) (n2 : (y0 &&& 31) = 2) (k : Ev E M_LW_law 332 [(0, vR 5 0), (1, vR 0 0), (2, vR 0 6), (3, vR 0 27), (4, vI (nI i))] [] h P) : Ev E M_LW_law 23 [(0, vR 5 0), (1, vR 0 0), (2, vR 0 6), (3, vR 0 27), (4, vI (nI i))] [] h P := by
  refine Ev_iload (pc := 23) d_LW_law_23 rfl ?_
  refine Ev_aload_n (pc := 25) d_LW_law_25 rfl ?_
  refine Ev_alenO (pc := 26) d_LW_law_26 rfl ?_
  refine Ev_bipush (v := 6) (pc := 27) d_LW_law_27 (by decide) ?_
  refine Ev_isub (pc := 29) d_LW_law_29 ?_
  refine Ev_icmp_gt (tgt := 2170) (pc := 30) d_LW_law_30 rfl (fun q => absurd q q0) (fun _ => ?_)
  refine Ev_aload_n (pc := 33) d_LW_law_33 rfl ?_
  refine Ev_iload (pc := 34) d_LW_law_34 rfl ?_
  refine Ev_scr (pc := 36) d_LW_law_36 n1 ?_
  refine Ev_bipush (v := 31) (pc := 37) d_LW_law_37 (by decide) ?_
  refine Ev_iand (pc := 39) d_LW_law_39 ?_
  refine Ev_tblIn (pc := 40) (tgt := 332) (off := 292) d_LW_law_40 (by rw [n2]; decide) (by rw [n2]; decide) (by rw [n2]; rfl) rfl ?_
  exact k
theorem c_LW_sw_3 {E : ev_E} {P : Option ev_V ⊕ Nat → ev_H → Prop} {h : ev_H} {i : Nat} {y0 : Int32} (q0 : ¬ ((Int32.ofNat (eN E 0)) - 6) < (nI i)) (n1 : sok E (nI i) y0) (n2 : (y0 &&& 31) = 3) (k : Ev E M_LW_law 392 [(0, vR 5 0), (1, vR 0 0), (2, vR 0 6), (3, vR 0 27), (4, vI (nI i))] [] h P) : Ev E M_LW_law 23 [(0, vR 5 0), (1, vR 0 0), (2, vR 0 6), (3, vR 0 27), (4, vI (nI i))] [] h P := by
  refine Ev_iload (pc := 23) d_LW_law_23 rfl ?_
  refine Ev_aload_n (pc := 25) d_LW_law_25 rfl ?_
  refine Ev_alenO (pc := 26) d_LW_law_26 rfl ?_
  refine Ev_bipush (v := 6) (pc := 27) d_LW_law_27 (by decide) ?_
  refine Ev_isub (pc := 29) d_LW_law_29 ?_
  refine Ev_icmp_gt (tgt := 2170) (pc := 30) d_LW_law_30 rfl (fun q => absurd q q0) (fun _ => ?_)
  refine Ev_aload_n (pc := 33) d_LW_law_33 rfl ?_
  refine Ev_iload (pc := 34) d_LW_law_34 rfl ?_
  refine Ev_scr (pc := 36) d_LW_law_36 n1 ?_
  refine Ev_bipush (v := 31) (pc := 37) d_LW_law_37 (by decide) ?_
  refine Ev_iand (pc := 39) d_LW_law_39 ?_
  refine Ev_tblIn (pc := 40) (tgt := 392) (off := 352) d_LW_law_40 (by rw [n2]; decide) (by rw [n2]; decide) (by rw [n2]; rfl) rfl ?_
  exact k
theorem c_LW_sw_4 {E : ev_E} {P : Option ev_V ⊕ Nat → ev_H → Prop} {h : ev_H} {i : Nat} {y0 : Int32} (q0 : ¬ ((Int32.ofNat (eN E 0)) - 6) < (nI i)) (n1 : sok E (nI i) y0) (n2 : (y0 &&& 31) = 4) (k : Ev E M_LW_law 460 [(0, vR 5 0), (1, vR 0 0), (2, vR 0 6), (3, vR 0 27), (4, vI (nI i))] [] h P) : Ev E M_LW_law 23 [(0, vR 5 0), (1, vR 0 0), (2, vR 0 6), (3, vR 0 27), (4, vI (nI i))] [] h P := by
  refine Ev_iload (pc := 23) d_LW_law_23 rfl ?_
  refine Ev_aload_n (pc := 25) d_LW_law_25 rfl ?_
  refine Ev_alenO (pc := 26) d_LW_law_26 rfl ?_
  refine Ev_bipush (v := 6) (pc := 27) d_LW_law_27 (by decide) ?_
  refine Ev_isub (pc := 29) d_LW_law_29 ?_
  refine Ev_icmp_gt (tgt := 2170) (pc := 30) d_LW_law_30 rfl (fun q => absurd q q0) (fun _ => ?_)
  refine Ev_aload_n (pc := 33) d_LW_law_33 rfl ?_
  refine Ev_iload (pc := 34) d_LW_law_34 rfl ?_
  refine Ev_scr (pc := 36) d_LW_law_36 n1 ?_
  refine Ev_bipush (v := 31) (pc := 37) d_LW_law_37 (by decide) ?_
  refine Ev_iand (pc := 39) d_LW_law_39 ?_
  refine Ev_tblIn (pc := 40) (tgt := 460) (off := 420) d_LW_law_40 (by rw [n2]; decide) (by rw [n2]; decide) (by rw [n2]; rfl) rfl ?_
  exact k
theorem c_LW_sw_5 {E : ev_E} {P : Option ev_V ⊕ Nat → ev_H → Prop} {h : ev_H} {i : Nat} {y0 : Int32} (q0 : ¬ ((Int32.ofNat (eN E 0)) - 6) < (nI i)) (n1 : sok E (nI i) y0) (n2 : (y0 &&& 31) = 5) (k : Ev E M_LW_law 528 [(0, vR 5 0), (1, vR 0 0), (2, vR 0 6), (3, vR 0 27), (4, vI (nI i))] [] h P) : Ev E M_LW_law 23 [(0, vR 5 0), (1, vR 0 0), (2, vR 0 6), (3, vR 0 27), (4, vI (nI i))] [] h P := by
  refine Ev_iload (pc := 23) d_LW_law_23 rfl ?_
  refine Ev_aload_n (pc := 25) d_LW_law_25 rfl ?_
  refine Ev_alenO (pc := 26) d_LW_law_26 rfl ?_
  refine Ev_bipush (v := 6) (pc := 27) d_LW_law_27 (by decide) ?_
  refine Ev_isub (pc := 29) d_LW_law_29 ?_
  refine Ev_icmp_gt (tgt := 2170) (pc := 30) d_LW_law_30 rfl (fun q => absurd q q0) (fun _ => ?_)
  refine Ev_aload_n (pc := 33) d_LW_law_33 rfl ?_
  refine Ev_iload (pc := 34) d_LW_law_34 rfl ?_
  refine Ev_scr (pc := 36) d_LW_law_36 n1 ?_
  refine Ev_bipush (v := 31) (pc := 37) d_LW_law_37 (by decide) ?_
  refine Ev_iand (pc := 39) d_LW_law_39 ?_
  refine Ev_tblIn (pc := 40) (tgt := 528) (off := 488) d_LW_law_40 (by rw [n2]; decide) (by rw [n2]; decide) (by rw [n2]; rfl) rfl ?_
  exact k
theorem c_LW_sw_6 {E : ev_E} {P : Option ev_V ⊕ Nat → ev_H → Prop} {h : ev_H} {i : Nat} {y0 : Int32} (q0 : ¬ ((Int32.ofNat (eN E 0)) - 6) < (nI i)) (n1 : sok E (nI i) y0) (n2 : (y0 &&& 31) = 6) (k : Ev E M_LW_law 572 [(0, vR 5 0), (1, vR 0 0), (2, vR 0 6), (3, vR 0 27), (4, vI (nI i))] [] h P) : Ev E M_LW_law 23 [(0, vR 5 0), (1, vR 0 0), (2, vR 0 6), (3, vR 0 27), (4, vI (nI i))] [] h P := by
  refine Ev_iload (pc := 23) d_LW_law_23 rfl ?_
  refine Ev_aload_n (pc := 25) d_LW_law_25 rfl ?_
  refine Ev_alenO (pc := 26) d_LW_law_26 rfl ?_
  refine Ev_bipush (v := 6) (pc := 27) d_LW_law_27 (by decide) ?_
  refine Ev_isub (pc := 29) d_LW_law_29 ?_
  refine Ev_icmp_gt (tgt := 2170) (pc := 30) d_LW_law_30 rfl (fun q => absurd q q0) (fun _ => ?_)
  refine Ev_aload_n (pc := 33) d_LW_law_33 rfl ?_
  refine Ev_iload (pc := 34) d_LW_law_34 rfl ?_
  refine Ev_scr (pc := 36) d_LW_law_36 n1 ?_
  refine Ev_bipush (v := 31) (pc := 37) d_LW_law_37 (by decide) ?_
  refine Ev_iand (pc := 39) d_LW_law_39 ?_
  refine Ev_tblIn (pc := 40) (tgt := 572) (off := 532) d_LW_law_40 (by rw [n2]; decide) (by rw [n2]; decide) (by rw [n2]; rfl) rfl ?_
  exact k
theorem c_LW_sw_7 {E : ev_E} {P : Option ev_V ⊕ Nat → ev_H → Prop} {h : ev_H} {i : Nat} {y0 : Int32} (q0 : ¬ ((Int32.ofNat (eN E 0)) - 6) < (nI i)) (n1 : sok E (nI i) y0) (n2 : (y0 &&& 31) = 7) (k : Ev E M_LW_law 652 [(0, vR 5 0), (1, vR 0 0), (2, vR 0 6), (3, vR 0 27), (4, vI (nI i))] [] h P) : Ev E M_LW_law 23 [(0, vR 5 0), (1, vR 0 0), (2, vR 0 6), (3, vR 0 27), (4, vI (nI i))] [] h P := by
  refine Ev_iload (pc := 23) d_LW_law_23 rfl ?_
  refine Ev_aload_n (pc := 25) d_LW_law_25 rfl ?_
  refine Ev_alenO (pc := 26) d_LW_law_26 rfl ?_
  refine Ev_bipush (v := 6) (pc := 27) d_LW_law_27 (by decide) ?_
  refine Ev_isub (pc := 29) d_LW_law_29 ?_
  refine Ev_icmp_gt (tgt := 2170) (pc := 30) d_LW_law_30 rfl (fun q => absurd q q0) (fun _ => ?_)
  refine Ev_aload_n (pc := 33) d_LW_law_33 rfl ?_
  refine Ev_iload (pc := 34) d_LW_law_34 rfl ?_
  refine Ev_scr (pc := 36) d_LW_law_36 n1 ?_
  refine Ev_bipush (v := 31) (pc := 37) d_LW_law_37 (by decide) ?_
  refine Ev_iand (pc := 39) d_LW_law_39 ?_
  refine Ev_tblIn (pc := 40) (tgt := 652) (off := 612) d_LW_law_40 (by rw [n2]; decide) (by rw [n2]; decide) (by rw [n2]; rfl) rfl ?_
  exact k
theorem c_LW_sw_8 {E : ev_E} {P : Option ev_V ⊕ Nat → ev_H → Prop} {h : ev_H} {i : Nat} {y0 : Int32} (q0 : ¬ ((Int32.ofNat (eN E 0)) - 6) < (nI i)) (n1 : sok E (nI i) y0) (n2 : (y0 &&& 31) = 8) (k : Ev E M_LW_law 712 [(0, vR 5 0), (1, vR 0 0), (2, vR 0 6), (3, vR 0 27), (4, vI (nI i))] [] h P) : Ev E M_LW_law 23 [(0, vR 5 0), (1, vR 0 0), (2, vR 0 6), (3, vR 0 27), (4, vI (nI i))] [] h P := by
  refine Ev_iload (pc := 23) d_LW_law_23 rfl ?_
  refine Ev_aload_n (pc := 25) d_LW_law_25 rfl ?_
  refine Ev_alenO (pc := 26) d_LW_law_26 rfl ?_
  refine Ev_bipush (v := 6) (pc := 27) d_LW_law_27 (by decide) ?_
  refine Ev_isub (pc := 29) d_LW_law_29 ?_
  refine Ev_icmp_gt (tgt := 2170) (pc := 30) d_LW_law_30 rfl (fun q => absurd q q0) (fun _ => ?_)
  refine Ev_aload_n (pc := 33) d_LW_law_33 rfl ?_
  refine Ev_iload (pc := 34) d_LW_law_34 rfl ?_
  refine Ev_scr (pc := 36) d_LW_law_36 n1 ?_
  refine Ev_bipush (v := 31) (pc := 37) d_LW_law_37 (by decide) ?_
  refine Ev_iand (pc := 39) d_LW_law_39 ?_
  refine Ev_tblIn (pc := 40) (tgt := 712) (off := 672) d_LW_law_40 (by rw [n2]; decide) (by rw [n2]; decide) (by rw [n2]; rfl) rfl ?_
  exact k
theorem c_LW_sw_9 {E : ev_E} {P : Option ev_V ⊕ Nat → ev_H → Prop} {h : ev_H} {i : Nat} {y0 : Int32} (q0 : ¬ ((Int32.ofNat (eN E 0)) - 6) < (nI i)) (n1 : sok E (nI i) y0) (n2 : (y0 &&& 31) = 9) (k : Ev E M_LW_law 780 [(0, vR 5 0), (1, vR 0 0), (2, vR 0 6), (3, vR 0 27), (4, vI (nI i))] [] h P) : Ev E M_LW_law 23 [(0, vR 5 0), (1, vR 0 0), (2, vR 0 6), (3, vR 0 27), (4, vI (nI i))] [] h P := by
  refine Ev_iload (pc := 23) d_LW_law_23 rfl ?_
  refine Ev_aload_n (pc := 25) d_LW_law_25 rfl ?_
  refine Ev_alenO (pc := 26) d_LW_law_26 rfl ?_
  refine Ev_bipush (v := 6) (pc := 27) d_LW_law_27 (by decide) ?_
  refine Ev_isub (pc := 29) d_LW_law_29 ?_
  refine Ev_icmp_gt (tgt := 2170) (pc := 30) d_LW_law_30 rfl (fun q => absurd q q0) (fun _ => ?_)
  refine Ev_aload_n (pc := 33) d_LW_law_33 rfl ?_
  refine Ev_iload (pc := 34) d_LW_law_34 rfl ?_
  refine Ev_scr (pc := 36) d_LW_law_36 n1 ?_
  refine Ev_bipush (v := 31) (pc := 37) d_LW_law_37 (by decide) ?_
  refine Ev_iand (pc := 39) d_LW_law_39 ?_
  refine Ev_tblIn (pc := 40) (tgt := 780) (off := 740) d_LW_law_40 (by rw [n2]; decide) (by rw [n2]; decide) (by rw [n2]; rfl) rfl ?_
  exact k
theorem c_LW_sw_10 {E : ev_E} {P : Option ev_V ⊕ Nat → ev_H → Prop} {h : ev_H} {i : Nat} {y0 : Int32} (q0 : ¬ ((Int32.ofNat (eN E 0)) - 6) < (nI i)) (n1 : sok E (nI i) y0) (n2 : (y0 &&& 31) = 10) (k : Ev E M_LW_law 848 [(0, vR 5 0), (1, vR 0 0), (2, vR 0 6), (3, vR 0 27), (4, vI (nI i))] [] h P) : Ev E M_LW_law 23 [(0, vR 5 0), (1, vR 0 0), (2, vR 0 6), (3, vR 0 27), (4, vI (nI i))] [] h P := by
  refine Ev_iload (pc := 23) d_LW_law_23 rfl ?_
  refine Ev_aload_n (pc := 25) d_LW_law_25 rfl ?_
  refine Ev_alenO (pc := 26) d_LW_law_26 rfl ?_
  refine Ev_bipush (v := 6) (pc := 27) d_LW_law_27 (by decide) ?_
  refine Ev_isub (pc := 29) d_LW_law_29 ?_
  refine Ev_icmp_gt (tgt := 2170) (pc := 30) d_LW_law_30 rfl (fun q => absurd q q0) (fun _ => ?_)
  refine Ev_aload_n (pc := 33) d_LW_law_33 rfl ?_
  refine Ev_iload (pc := 34) d_LW_law_34 rfl ?_
  refine Ev_scr (pc := 36) d_LW_law_36 n1 ?_
  refine Ev_bipush (v := 31) (pc := 37) d_LW_law_37 (by decide) ?_
  refine Ev_iand (pc := 39) d_LW_law_39 ?_
  refine Ev_tblIn (pc := 40) (tgt := 848) (off := 808) d_LW_law_40 (by rw [n2]; decide) (by rw [n2]; decide) (by rw [n2]; rfl) rfl ?_
  exact k
theorem c_LW_sw_11 {E : ev_E} {P : Option ev_V ⊕ Nat → ev_H → Prop} {h : ev_H} {i : Nat} {y0 : Int32} (q0 : ¬ ((Int32.ofNat (eN E 0)) - 6) < (nI i)) (n1 : sok E (nI i) y0) (n2 : (y0 &&& 31) = 11) (k : Ev E M_LW_law 924 [(0, vR 5 0), (1, vR 0 0), (2, vR 0 6), (3, vR 0 27), (4, vI (nI i))] [] h P) : Ev E M_LW_law 23 [(0, vR 5 0), (1, vR 0 0), (2, vR 0 6), (3, vR 0 27), (4, vI (nI i))] [] h P := by
  refine Ev_iload (pc := 23) d_LW_law_23 rfl ?_
  refine Ev_aload_n (pc := 25) d_LW_law_25 rfl ?_
  refine Ev_alenO (pc := 26) d_LW_law_26 rfl ?_
  refine Ev_bipush (v := 6) (pc := 27) d_LW_law_27 (by decide) ?_
  refine Ev_isub (pc := 29) d_LW_law_29 ?_
  refine Ev_icmp_gt (tgt := 2170) (pc := 30) d_LW_law_30 rfl (fun q => absurd q q0) (fun _ => ?_)
  refine Ev_aload_n (pc := 33) d_LW_law_33 rfl ?_
  refine Ev_iload (pc := 34) d_LW_law_34 rfl ?_
  refine Ev_scr (pc := 36) d_LW_law_36 n1 ?_
  refine Ev_bipush (v := 31) (pc := 37) d_LW_law_37 (by decide) ?_
  refine Ev_iand (pc := 39) d_LW_law_39 ?_
  refine Ev_tblIn (pc := 40) (tgt := 924) (off := 884) d_LW_law_40 (by rw [n2]; decide) (by rw [n2]; decide) (by rw [n2]; rfl) rfl ?_
  exact k
theorem c_LW_sw_12 {E : ev_E} {P : Option ev_V ⊕ Nat → ev_H → Prop} {h : ev_H} {i : Nat} {y0 : Int32} (q0 : ¬ ((Int32.ofNat (eN E 0)) - 6) < (nI i)) (n1 : sok E (nI i) y0) (n2 : (y0 &&& 31) = 12) (k : Ev E M_LW_law 992 [(0, vR 5 0), (1, vR 0 0), (2, vR 0 6), (3, vR 0 27), (4, vI (nI i))] [] h P) : Ev E M_LW_law 23 [(0, vR 5 0), (1, vR 0 0), (2, vR 0 6), (3, vR 0 27), (4, vI (nI i))] [] h P := by
  refine Ev_iload (pc := 23) d_LW_law_23 rfl ?_
  refine Ev_aload_n (pc := 25) d_LW_law_25 rfl ?_
  refine Ev_alenO (pc := 26) d_LW_law_26 rfl ?_
  refine Ev_bipush (v := 6) (pc := 27) d_LW_law_27 (by decide) ?_
  refine Ev_isub (pc := 29) d_LW_law_29 ?_
  refine Ev_icmp_gt (tgt := 2170) (pc := 30) d_LW_law_30 rfl (fun q => absurd q q0) (fun _ => ?_)
  refine Ev_aload_n (pc := 33) d_LW_law_33 rfl ?_
  refine Ev_iload (pc := 34) d_LW_law_34 rfl ?_
  refine Ev_scr (pc := 36) d_LW_law_36 n1 ?_
  refine Ev_bipush (v := 31) (pc := 37) d_LW_law_37 (by decide) ?_
  refine Ev_iand (pc := 39) d_LW_law_39 ?_
  refine Ev_tblIn (pc := 40) (tgt := 992) (off := 952) d_LW_law_40 (by rw [n2]; decide) (by rw [n2]; decide) (by rw [n2]; rfl) rfl ?_
  exact k
theorem c_LW_sw_13 {E : ev_E} {P : Option ev_V ⊕ Nat → ev_H → Prop} {h : ev_H} {i : Nat} {y0 : Int32} (q0 : ¬ ((Int32.ofNat (eN E 0)) - 6) < (nI i)) (n1 : sok E (nI i) y0) (n2 : (y0 &&& 31) = 13) (k : Ev E M_LW_law 1048 [(0, vR 5 0), (1, vR 0 0), (2, vR 0 6), (3, vR 0 27), (4, vI (nI i))] [] h P) : Ev E M_LW_law 23 [(0, vR 5 0), (1, vR 0 0), (2, vR 0 6), (3, vR 0 27), (4, vI (nI i))] [] h P := by
  refine Ev_iload (pc := 23) d_LW_law_23 rfl ?_
  refine Ev_aload_n (pc := 25) d_LW_law_25 rfl ?_
  refine Ev_alenO (pc := 26) d_LW_law_26 rfl ?_
  refine Ev_bipush (v := 6) (pc := 27) d_LW_law_27 (by decide) ?_
  refine Ev_isub (pc := 29) d_LW_law_29 ?_
  refine Ev_icmp_gt (tgt := 2170) (pc := 30) d_LW_law_30 rfl (fun q => absurd q q0) (fun _ => ?_)
  refine Ev_aload_n (pc := 33) d_LW_law_33 rfl ?_
  refine Ev_iload (pc := 34) d_LW_law_34 rfl ?_
  refine Ev_scr (pc := 36) d_LW_law_36 n1 ?_
  refine Ev_bipush (v := 31) (pc := 37) d_LW_law_37 (by decide) ?_
  refine Ev_iand (pc := 39) d_LW_law_39 ?_
  refine Ev_tblIn (pc := 40) (tgt := 1048) (off := 1008) d_LW_law_40 (by rw [n2]; decide) (by rw [n2]; decide) (by rw [n2]; rfl) rfl ?_
  exact k
theorem c_LW_sw_14 {E : ev_E} {P : Option ev_V ⊕ Nat → ev_H → Prop} {h : ev_H} {i : Nat} {y0 : Int32} (q0 : ¬ ((Int32.ofNat (eN E 0)) - 6) < (nI i)) (n1 : sok E (nI i) y0) (n2 : (y0 &&& 31) = 14) (k : Ev E M_LW_law 1116 [(0, vR 5 0), (1, vR 0 0), (2, vR 0 6), (3, vR 0 27), (4, vI (nI i))] [] h P) : Ev E M_LW_law 23 [(0, vR 5 0), (1, vR 0 0), (2, vR 0 6), (3, vR 0 27), (4, vI (nI i))] [] h P := by
  refine Ev_iload (pc := 23) d_LW_law_23 rfl ?_
  refine Ev_aload_n (pc := 25) d_LW_law_25 rfl ?_
  refine Ev_alenO (pc := 26) d_LW_law_26 rfl ?_
  refine Ev_bipush (v := 6) (pc := 27) d_LW_law_27 (by decide) ?_
  refine Ev_isub (pc := 29) d_LW_law_29 ?_
  refine Ev_icmp_gt (tgt := 2170) (pc := 30) d_LW_law_30 rfl (fun q => absurd q q0) (fun _ => ?_)
  refine Ev_aload_n (pc := 33) d_LW_law_33 rfl ?_
  refine Ev_iload (pc := 34) d_LW_law_34 rfl ?_
  refine Ev_scr (pc := 36) d_LW_law_36 n1 ?_
  refine Ev_bipush (v := 31) (pc := 37) d_LW_law_37 (by decide) ?_
  refine Ev_iand (pc := 39) d_LW_law_39 ?_
  refine Ev_tblIn (pc := 40) (tgt := 1116) (off := 1076) d_LW_law_40 (by rw [n2]; decide) (by rw [n2]; decide) (by rw [n2]; rfl) rfl ?_
  exact k
theorem c_LW_sw_15 {E : ev_E} {P : Option ev_V ⊕ Nat → ev_H → Prop} {h : ev_H} {i : Nat} {y0 : Int32} (q0 : ¬ ((Int32.ofNat (eN E 0)) - 6) < (nI i)) (n1 : sok E (nI i) y0) (n2 : (y0 &&& 31) = 15) (k : Ev E M_LW_law 1196 [(0, vR 5 0), (1, vR 0 0), (2, vR 0 6), (3, vR 0 27), (4, vI (nI i))] [] h P) : Ev E M_LW_law 23 [(0, vR 5 0), (1, vR 0 0), (2, vR 0 6), (3, vR 0 27), (4, vI (nI i))] [] h P := by
  refine Ev_iload (pc := 23) d_LW_law_23 rfl ?_
  refine Ev_aload_n (pc := 25) d_LW_law_25 rfl ?_
  refine Ev_alenO (pc := 26) d_LW_law_26 rfl ?_
  refine Ev_bipush (v := 6) (pc := 27) d_LW_law_27 (by decide) ?_
  refine Ev_isub (pc := 29) d_LW_law_29 ?_
  refine Ev_icmp_gt (tgt := 2170) (pc := 30) d_LW_law_30 rfl (fun q => absurd q q0) (fun _ => ?_)
  refine Ev_aload_n (pc := 33) d_LW_law_33 rfl ?_
  refine Ev_iload (pc := 34) d_LW_law_34 rfl ?_
  refine Ev_scr (pc := 36) d_LW_law_36 n1 ?_
  refine Ev_bipush (v := 31) (pc := 37) d_LW_law_37 (by decide) ?_
  refine Ev_iand (pc := 39) d_LW_law_39 ?_
  refine Ev_tblIn (pc := 40) (tgt := 1196) (off := 1156) d_LW_law_40 (by rw [n2]; decide) (by rw [n2]; decide) (by rw [n2]; rfl) rfl ?_
  exact k
theorem c_LW_sw_16 {E : ev_E} {P : Option ev_V ⊕ Nat → ev_H → Prop} {h : ev_H} {i : Nat} {y0 : Int32} (q0 : ¬ ((Int32.ofNat (eN E 0)) - 6) < (nI i)) (n1 : sok E (nI i) y0) (n2 : (y0 &&& 31) = 16) (k : Ev E M_LW_law 1252 [(0, vR 5 0), (1, vR 0 0), (2, vR 0 6), (3, vR 0 27), (4, vI (nI i))] [] h P) : Ev E M_LW_law 23 [(0, vR 5 0), (1, vR 0 0), (2, vR 0 6), (3, vR 0 27), (4, vI (nI i))] [] h P := by
  refine Ev_iload (pc := 23) d_LW_law_23 rfl ?_
  refine Ev_aload_n (pc := 25) d_LW_law_25 rfl ?_
  refine Ev_alenO (pc := 26) d_LW_law_26 rfl ?_
  refine Ev_bipush (v := 6) (pc := 27) d_LW_law_27 (by decide) ?_
  refine Ev_isub (pc := 29) d_LW_law_29 ?_
  refine Ev_icmp_gt (tgt := 2170) (pc := 30) d_LW_law_30 rfl (fun q => absurd q q0) (fun _ => ?_)
  refine Ev_aload_n (pc := 33) d_LW_law_33 rfl ?_
  refine Ev_iload (pc := 34) d_LW_law_34 rfl ?_
  refine Ev_scr (pc := 36) d_LW_law_36 n1 ?_
  refine Ev_bipush (v := 31) (pc := 37) d_LW_law_37 (by decide) ?_
  refine Ev_iand (pc := 39) d_LW_law_39 ?_
  refine Ev_tblIn (pc := 40) (tgt := 1252) (off := 1212) d_LW_law_40 (by rw [n2]; decide) (by rw [n2]; decide) (by rw [n2]; rfl) rfl ?_
  exact k
theorem c_LW_sw_17 {E : ev_E} {P : Option ev_V ⊕ Nat → ev_H → Prop} {h : ev_H} {i : Nat} {y0 : Int32} (q0 : ¬ ((Int32.ofNat (eN E 0)) - 6) < (nI i)) (n1 : sok E (nI i) y0) (n2 : (y0 &&& 31) = 17) (k : Ev E M_LW_law 1308 [(0, vR 5 0), (1, vR 0 0), (2, vR 0 6), (3, vR 0 27), (4, vI (nI i))] [] h P) : Ev E M_LW_law 23 [(0, vR 5 0), (1, vR 0 0), (2, vR 0 6), (3, vR 0 27), (4, vI (nI i))] [] h P := by
  refine Ev_iload (pc := 23) d_LW_law_23 rfl ?_
  refine Ev_aload_n (pc := 25) d_LW_law_25 rfl ?_
  refine Ev_alenO (pc := 26) d_LW_law_26 rfl ?_
  refine Ev_bipush (v := 6) (pc := 27) d_LW_law_27 (by decide) ?_
  refine Ev_isub (pc := 29) d_LW_law_29 ?_
  refine Ev_icmp_gt (tgt := 2170) (pc := 30) d_LW_law_30 rfl (fun q => absurd q q0) (fun _ => ?_)
  refine Ev_aload_n (pc := 33) d_LW_law_33 rfl ?_
  refine Ev_iload (pc := 34) d_LW_law_34 rfl ?_
  refine Ev_scr (pc := 36) d_LW_law_36 n1 ?_
  refine Ev_bipush (v := 31) (pc := 37) d_LW_law_37 (by decide) ?_
  refine Ev_iand (pc := 39) d_LW_law_39 ?_
  refine Ev_tblIn (pc := 40) (tgt := 1308) (off := 1268) d_LW_law_40 (by rw [n2]; decide) (by rw [n2]; decide) (by rw [n2]; rfl) rfl ?_
  exact k
theorem c_LW_sw_18 {E : ev_E} {P : Option ev_V ⊕ Nat → ev_H → Prop} {h : ev_H} {i : Nat} {y0 : Int32} (q0 : ¬ ((Int32.ofNat (eN E 0)) - 6) < (nI i)) (n1 : sok E (nI i) y0) (n2 : (y0 &&& 31) = 18) (k : Ev E M_LW_law 1376 [(0, vR 5 0), (1, vR 0 0), (2, vR 0 6), (3, vR 0 27), (4, vI (nI i))] [] h P) : Ev E M_LW_law 23 [(0, vR 5 0), (1, vR 0 0), (2, vR 0 6), (3, vR 0 27), (4, vI (nI i))] [] h P := by
  refine Ev_iload (pc := 23) d_LW_law_23 rfl ?_
  refine Ev_aload_n (pc := 25) d_LW_law_25 rfl ?_
  refine Ev_alenO (pc := 26) d_LW_law_26 rfl ?_
  refine Ev_bipush (v := 6) (pc := 27) d_LW_law_27 (by decide) ?_
  refine Ev_isub (pc := 29) d_LW_law_29 ?_
  refine Ev_icmp_gt (tgt := 2170) (pc := 30) d_LW_law_30 rfl (fun q => absurd q q0) (fun _ => ?_)
  refine Ev_aload_n (pc := 33) d_LW_law_33 rfl ?_
  refine Ev_iload (pc := 34) d_LW_law_34 rfl ?_
  refine Ev_scr (pc := 36) d_LW_law_36 n1 ?_
  refine Ev_bipush (v := 31) (pc := 37) d_LW_law_37 (by decide) ?_
  refine Ev_iand (pc := 39) d_LW_law_39 ?_
  refine Ev_tblIn (pc := 40) (tgt := 1376) (off := 1336) d_LW_law_40 (by rw [n2]; decide) (by rw [n2]; decide) (by rw [n2]; rfl) rfl ?_
  exact k
theorem c_LW_sw_19 {E : ev_E} {P : Option ev_V ⊕ Nat → ev_H → Prop} {h : ev_H} {i : Nat} {y0 : Int32} (q0 : ¬ ((Int32.ofNat (eN E 0)) - 6) < (nI i)) (n1 : sok E (nI i) y0) (n2 : (y0 &&& 31) = 19) (k : Ev E M_LW_law 1460 [(0, vR 5 0), (1, vR 0 0), (2, vR 0 6), (3, vR 0 27), (4, vI (nI i))] [] h P) : Ev E M_LW_law 23 [(0, vR 5 0), (1, vR 0 0), (2, vR 0 6), (3, vR 0 27), (4, vI (nI i))] [] h P := by
  refine Ev_iload (pc := 23) d_LW_law_23 rfl ?_
  refine Ev_aload_n (pc := 25) d_LW_law_25 rfl ?_
  refine Ev_alenO (pc := 26) d_LW_law_26 rfl ?_
  refine Ev_bipush (v := 6) (pc := 27) d_LW_law_27 (by decide) ?_
  refine Ev_isub (pc := 29) d_LW_law_29 ?_
  refine Ev_icmp_gt (tgt := 2170) (pc := 30) d_LW_law_30 rfl (fun q => absurd q q0) (fun _ => ?_)
  refine Ev_aload_n (pc := 33) d_LW_law_33 rfl ?_
  refine Ev_iload (pc := 34) d_LW_law_34 rfl ?_
  refine Ev_scr (pc := 36) d_LW_law_36 n1 ?_
  refine Ev_bipush (v := 31) (pc := 37) d_LW_law_37 (by decide) ?_
  refine Ev_iand (pc := 39) d_LW_law_39 ?_
  refine Ev_tblIn (pc := 40) (tgt := 1460) (off := 1420) d_LW_law_40 (by rw [n2]; decide) (by rw [n2]; decide) (by rw [n2]; rfl) rfl ?_
  exact k
theorem c_LW_sw_20 {E : ev_E} {P : Option ev_V ⊕ Nat → ev_H → Prop} {h : ev_H} {i : Nat} {y0 : Int32} (q0 : ¬ ((Int32.ofNat (eN E 0)) - 6) < (nI i)) (n1 : sok E (nI i) y0) (n2 : (y0 &&& 31) = 20) (k : Ev E M_LW_law 1528 [(0, vR 5 0), (1, vR 0 0), (2, vR 0 6), (3, vR 0 27), (4, vI (nI i))] [] h P) : Ev E M_LW_law 23 [(0, vR 5 0), (1, vR 0 0), (2, vR 0 6), (3, vR 0 27), (4, vI (nI i))] [] h P := by
  refine Ev_iload (pc := 23) d_LW_law_23 rfl ?_
  refine Ev_aload_n (pc := 25) d_LW_law_25 rfl ?_
  refine Ev_alenO (pc := 26) d_LW_law_26 rfl ?_
  refine Ev_bipush (v := 6) (pc := 27) d_LW_law_27 (by decide) ?_
  refine Ev_isub (pc := 29) d_LW_law_29 ?_
  refine Ev_icmp_gt (tgt := 2170) (pc := 30) d_LW_law_30 rfl (fun q => absurd q q0) (fun _ => ?_)
  refine Ev_aload_n (pc := 33) d_LW_law_33 rfl ?_
  refine Ev_iload (pc := 34) d_LW_law_34 rfl ?_
  refine Ev_scr (pc := 36) d_LW_law_36 n1 ?_
  refine Ev_bipush (v := 31) (pc := 37) d_LW_law_37 (by decide) ?_
  refine Ev_iand (pc := 39) d_LW_law_39 ?_
  refine Ev_tblIn (pc := 40) (tgt := 1528) (off := 1488) d_LW_law_40 (by rw [n2]; decide) (by rw [n2]; decide) (by rw [n2]; rfl) rfl ?_
  exact k
theorem c_LW_sw_21 {E : ev_E} {P : Option ev_V ⊕ Nat → ev_H → Prop} {h : ev_H} {i : Nat} {y0 : Int32} (q0 : ¬ ((Int32.ofNat (eN E 0)) - 6) < (nI i)) (n1 : sok E (nI i) y0) (n2 : (y0 &&& 31) = 21) (k : Ev E M_LW_law 1596 [(0, vR 5 0), (1, vR 0 0), (2, vR 0 6), (3, vR 0 27), (4, vI (nI i))] [] h P) : Ev E M_LW_law 23 [(0, vR 5 0), (1, vR 0 0), (2, vR 0 6), (3, vR 0 27), (4, vI (nI i))] [] h P := by
  refine Ev_iload (pc := 23) d_LW_law_23 rfl ?_
  refine Ev_aload_n (pc := 25) d_LW_law_25 rfl ?_
  refine Ev_alenO (pc := 26) d_LW_law_26 rfl ?_
  refine Ev_bipush (v := 6) (pc := 27) d_LW_law_27 (by decide) ?_
  refine Ev_isub (pc := 29) d_LW_law_29 ?_
  refine Ev_icmp_gt (tgt := 2170) (pc := 30) d_LW_law_30 rfl (fun q => absurd q q0) (fun _ => ?_)
  refine Ev_aload_n (pc := 33) d_LW_law_33 rfl ?_
  refine Ev_iload (pc := 34) d_LW_law_34 rfl ?_
  refine Ev_scr (pc := 36) d_LW_law_36 n1 ?_
  refine Ev_bipush (v := 31) (pc := 37) d_LW_law_37 (by decide) ?_
  refine Ev_iand (pc := 39) d_LW_law_39 ?_
  refine Ev_tblIn (pc := 40) (tgt := 1596) (off := 1556) d_LW_law_40 (by rw [n2]; decide) (by rw [n2]; decide) (by rw [n2]; rfl) rfl ?_
  exact k
theorem c_LW_sw_22 {E : ev_E} {P : Option ev_V ⊕ Nat → ev_H → Prop} {h : ev_H} {i : Nat} {y0 : Int32} (q0 : ¬ ((Int32.ofNat (eN E 0)) - 6) < (nI i)) (n1 : sok E (nI i) y0) (n2 : (y0 &&& 31) = 22) (k : Ev E M_LW_law 1664 [(0, vR 5 0), (1, vR 0 0), (2, vR 0 6), (3, vR 0 27), (4, vI (nI i))] [] h P) : Ev E M_LW_law 23 [(0, vR 5 0), (1, vR 0 0), (2, vR 0 6), (3, vR 0 27), (4, vI (nI i))] [] h P := by
  refine Ev_iload (pc := 23) d_LW_law_23 rfl ?_
  refine Ev_aload_n (pc := 25) d_LW_law_25 rfl ?_
  refine Ev_alenO (pc := 26) d_LW_law_26 rfl ?_
  refine Ev_bipush (v := 6) (pc := 27) d_LW_law_27 (by decide) ?_
  refine Ev_isub (pc := 29) d_LW_law_29 ?_
  refine Ev_icmp_gt (tgt := 2170) (pc := 30) d_LW_law_30 rfl (fun q => absurd q q0) (fun _ => ?_)
  refine Ev_aload_n (pc := 33) d_LW_law_33 rfl ?_
  refine Ev_iload (pc := 34) d_LW_law_34 rfl ?_
  refine Ev_scr (pc := 36) d_LW_law_36 n1 ?_
  refine Ev_bipush (v := 31) (pc := 37) d_LW_law_37 (by decide) ?_
  refine Ev_iand (pc := 39) d_LW_law_39 ?_
  refine Ev_tblIn (pc := 40) (tgt := 1664) (off := 1624) d_LW_law_40 (by rw [n2]; decide) (by rw [n2]; decide) (by rw [n2]; rfl) rfl ?_
  exact k
theorem c_LW_sw_23 {E : ev_E} {P : Option ev_V ⊕ Nat → ev_H → Prop} {h : ev_H} {i : Nat} {y0 : Int32} (q0 : ¬ ((Int32.ofNat (eN E 0)) - 6) < (nI i)) (n1 : sok E (nI i) y0) (n2 : (y0 &&& 31) = 23) (k : Ev E M_LW_law 1732 [(0, vR 5 0), (1, vR 0 0), (2, vR 0 6), (3, vR 0 27), (4, vI (nI i))] [] h P) : Ev E M_LW_law 23 [(0, vR 5 0), (1, vR 0 0), (2, vR 0 6), (3, vR 0 27), (4, vI (nI i))] [] h P := by
  refine Ev_iload (pc := 23) d_LW_law_23 rfl ?_
  refine Ev_aload_n (pc := 25) d_LW_law_25 rfl ?_
  refine Ev_alenO (pc := 26) d_LW_law_26 rfl ?_
  refine Ev_bipush (v := 6) (pc := 27) d_LW_law_27 (by decide) ?_
  refine Ev_isub (pc := 29) d_LW_law_29 ?_
  refine Ev_icmp_gt (tgt := 2170) (pc := 30) d_LW_law_30 rfl (fun q => absurd q q0) (fun _ => ?_)
  refine Ev_aload_n (pc := 33) d_LW_law_33 rfl ?_
  refine Ev_iload (pc := 34) d_LW_law_34 rfl ?_
  refine Ev_scr (pc := 36) d_LW_law_36 n1 ?_
  refine Ev_bipush (v := 31) (pc := 37) d_LW_law_37 (by decide) ?_
  refine Ev_iand (pc := 39) d_LW_law_39 ?_
  refine Ev_tblIn (pc := 40) (tgt := 1732) (off := 1692) d_LW_law_40 (by rw [n2]; decide) (by rw [n2]; decide) (by rw [n2]; rfl) rfl ?_
  exact k
theorem c_LW_sw_24 {E : ev_E} {P : Option ev_V ⊕ Nat → ev_H → Prop} {h : ev_H} {i : Nat} {y0 : Int32} (q0 : ¬ ((Int32.ofNat (eN E 0)) - 6) < (nI i)) (n1 : sok E (nI i) y0) (n2 : (y0 &&& 31) = 24) (k : Ev E M_LW_law 1812 [(0, vR 5 0), (1, vR 0 0), (2, vR 0 6), (3, vR 0 27), (4, vI (nI i))] [] h P) : Ev E M_LW_law 23 [(0, vR 5 0), (1, vR 0 0), (2, vR 0 6), (3, vR 0 27), (4, vI (nI i))] [] h P := by
  refine Ev_iload (pc := 23) d_LW_law_23 rfl ?_
  refine Ev_aload_n (pc := 25) d_LW_law_25 rfl ?_
  refine Ev_alenO (pc := 26) d_LW_law_26 rfl ?_
  refine Ev_bipush (v := 6) (pc := 27) d_LW_law_27 (by decide) ?_
  refine Ev_isub (pc := 29) d_LW_law_29 ?_
  refine Ev_icmp_gt (tgt := 2170) (pc := 30) d_LW_law_30 rfl (fun q => absurd q q0) (fun _ => ?_)
  refine Ev_aload_n (pc := 33) d_LW_law_33 rfl ?_
  refine Ev_iload (pc := 34) d_LW_law_34 rfl ?_
  refine Ev_scr (pc := 36) d_LW_law_36 n1 ?_
  refine Ev_bipush (v := 31) (pc := 37) d_LW_law_37 (by decide) ?_
  refine Ev_iand (pc := 39) d_LW_law_39 ?_
  refine Ev_tblIn (pc := 40) (tgt := 1812) (off := 1772) d_LW_law_40 (by rw [n2]; decide) (by rw [n2]; decide) (by rw [n2]; rfl) rfl ?_
  exact k
theorem c_LW_sw_25 {E : ev_E} {P : Option ev_V ⊕ Nat → ev_H → Prop} {h : ev_H} {i : Nat} {y0 : Int32} (q0 : ¬ ((Int32.ofNat (eN E 0)) - 6) < (nI i)) (n1 : sok E (nI i) y0) (n2 : (y0 &&& 31) = 25) (k : Ev E M_LW_law 1892 [(0, vR 5 0), (1, vR 0 0), (2, vR 0 6), (3, vR 0 27), (4, vI (nI i))] [] h P) : Ev E M_LW_law 23 [(0, vR 5 0), (1, vR 0 0), (2, vR 0 6), (3, vR 0 27), (4, vI (nI i))] [] h P := by
  refine Ev_iload (pc := 23) d_LW_law_23 rfl ?_
  refine Ev_aload_n (pc := 25) d_LW_law_25 rfl ?_
  refine Ev_alenO (pc := 26) d_LW_law_26 rfl ?_
  refine Ev_bipush (v := 6) (pc := 27) d_LW_law_27 (by decide) ?_
  refine Ev_isub (pc := 29) d_LW_law_29 ?_
  refine Ev_icmp_gt (tgt := 2170) (pc := 30) d_LW_law_30 rfl (fun q => absurd q q0) (fun _ => ?_)
  refine Ev_aload_n (pc := 33) d_LW_law_33 rfl ?_
  refine Ev_iload (pc := 34) d_LW_law_34 rfl ?_
  refine Ev_scr (pc := 36) d_LW_law_36 n1 ?_
  refine Ev_bipush (v := 31) (pc := 37) d_LW_law_37 (by decide) ?_
  refine Ev_iand (pc := 39) d_LW_law_39 ?_
  refine Ev_tblIn (pc := 40) (tgt := 1892) (off := 1852) d_LW_law_40 (by rw [n2]; decide) (by rw [n2]; decide) (by rw [n2]; rfl) rfl ?_
  exact k
theorem c_LW_sw_26 {E : ev_E} {P : Option ev_V ⊕ Nat → ev_H → Prop} {h : ev_H} {i : Nat} {y0 : Int32} (q0 : ¬ ((Int32.ofNat (eN E 0)) - 6) < (nI i)) (n1 : sok E (nI i) y0) (n2 : (y0 &&& 31) = 26) (k : Ev E M_LW_law 1960 [(0, vR 5 0), (1, vR 0 0), (2, vR 0 6), (3, vR 0 27), (4, vI (nI i))] [] h P) : Ev E M_LW_law 23 [(0, vR 5 0), (1, vR 0 0), (2, vR 0 6), (3, vR 0 27), (4, vI (nI i))] [] h P := by
  refine Ev_iload (pc := 23) d_LW_law_23 rfl ?_
  refine Ev_aload_n (pc := 25) d_LW_law_25 rfl ?_
  refine Ev_alenO (pc := 26) d_LW_law_26 rfl ?_
  refine Ev_bipush (v := 6) (pc := 27) d_LW_law_27 (by decide) ?_
  refine Ev_isub (pc := 29) d_LW_law_29 ?_
  refine Ev_icmp_gt (tgt := 2170) (pc := 30) d_LW_law_30 rfl (fun q => absurd q q0) (fun _ => ?_)
  refine Ev_aload_n (pc := 33) d_LW_law_33 rfl ?_
  refine Ev_iload (pc := 34) d_LW_law_34 rfl ?_
  refine Ev_scr (pc := 36) d_LW_law_36 n1 ?_
  refine Ev_bipush (v := 31) (pc := 37) d_LW_law_37 (by decide) ?_
  refine Ev_iand (pc := 39) d_LW_law_39 ?_
  refine Ev_tblIn (pc := 40) (tgt := 1960) (off := 1920) d_LW_law_40 (by rw [n2]; decide) (by rw [n2]; decide) (by rw [n2]; rfl) rfl ?_
  exact k
theorem c_LW_sw_27 {E : ev_E} {P : Option ev_V ⊕ Nat → ev_H → Prop} {h : ev_H} {i : Nat} {y0 : Int32} (q0 : ¬ ((Int32.ofNat (eN E 0)) - 6) < (nI i)) (n1 : sok E (nI i) y0) (n2 : (y0 &&& 31) = 27) (k : Ev E M_LW_law 2028 [(0, vR 5 0), (1, vR 0 0), (2, vR 0 6), (3, vR 0 27), (4, vI (nI i))] [] h P) : Ev E M_LW_law 23 [(0, vR 5 0), (1, vR 0 0), (2, vR 0 6), (3, vR 0 27), (4, vI (nI i))] [] h P := by
  refine Ev_iload (pc := 23) d_LW_law_23 rfl ?_
  refine Ev_aload_n (pc := 25) d_LW_law_25 rfl ?_
  refine Ev_alenO (pc := 26) d_LW_law_26 rfl ?_
  refine Ev_bipush (v := 6) (pc := 27) d_LW_law_27 (by decide) ?_
  refine Ev_isub (pc := 29) d_LW_law_29 ?_
  refine Ev_icmp_gt (tgt := 2170) (pc := 30) d_LW_law_30 rfl (fun q => absurd q q0) (fun _ => ?_)
  refine Ev_aload_n (pc := 33) d_LW_law_33 rfl ?_
  refine Ev_iload (pc := 34) d_LW_law_34 rfl ?_
  refine Ev_scr (pc := 36) d_LW_law_36 n1 ?_
  refine Ev_bipush (v := 31) (pc := 37) d_LW_law_37 (by decide) ?_
  refine Ev_iand (pc := 39) d_LW_law_39 ?_
  refine Ev_tblIn (pc := 40) (tgt := 2028) (off := 1988) d_LW_law_40 (by rw [n2]; decide) (by rw [n2]; decide) (by rw [n2]; rfl) rfl ?_
  exact k
theorem c_LW_sw_28 {E : ev_E} {P : Option ev_V ⊕ Nat → ev_H → Prop} {h : ev_H} {i : Nat} {y0 : Int32} (q0 : ¬ ((Int32.ofNat (eN E 0)) - 6) < (nI i)) (n1 : sok E (nI i) y0) (n2 : (y0 &&& 31) = 28) (k : Ev E M_LW_law 2096 [(0, vR 5 0), (1, vR 0 0), (2, vR 0 6), (3, vR 0 27), (4, vI (nI i))] [] h P) : Ev E M_LW_law 23 [(0, vR 5 0), (1, vR 0 0), (2, vR 0 6), (3, vR 0 27), (4, vI (nI i))] [] h P := by
  refine Ev_iload (pc := 23) d_LW_law_23 rfl ?_
  refine Ev_aload_n (pc := 25) d_LW_law_25 rfl ?_
  refine Ev_alenO (pc := 26) d_LW_law_26 rfl ?_
  refine Ev_bipush (v := 6) (pc := 27) d_LW_law_27 (by decide) ?_
  refine Ev_isub (pc := 29) d_LW_law_29 ?_
  refine Ev_icmp_gt (tgt := 2170) (pc := 30) d_LW_law_30 rfl (fun q => absurd q q0) (fun _ => ?_)
  refine Ev_aload_n (pc := 33) d_LW_law_33 rfl ?_
  refine Ev_iload (pc := 34) d_LW_law_34 rfl ?_
  refine Ev_scr (pc := 36) d_LW_law_36 n1 ?_
  refine Ev_bipush (v := 31) (pc := 37) d_LW_law_37 (by decide) ?_
  refine Ev_iand (pc := 39) d_LW_law_39 ?_
  refine Ev_tblIn (pc := 40) (tgt := 2096) (off := 2056) d_LW_law_40 (by rw [n2]; decide) (by rw [n2]; decide) (by rw [n2]; rfl) rfl ?_
  exact k
theorem c_LW_sw_out {E : ev_E} {P : Option ev_V ⊕ Nat → ev_H → Prop} {h : ev_H} {i : Nat} {y0 : Int32} (q0 : ¬ ((Int32.ofNat (eN E 0)) - 6) < (nI i)) (n1 : sok E (nI i) y0) (n2 : 28 < (y0 &&& 31).toInt) (k : Ev E M_LW_law 2164 [(0, vR 5 0), (1, vR 0 0), (2, vR 0 6), (3, vR 0 27), (4, vI (nI i))] [] h P) : Ev E M_LW_law 23 [(0, vR 5 0), (1, vR 0 0), (2, vR 0 6), (3, vR 0 27), (4, vI (nI i))] [] h P := by
  refine Ev_iload (pc := 23) d_LW_law_23 rfl ?_
  refine Ev_aload_n (pc := 25) d_LW_law_25 rfl ?_
  refine Ev_alenO (pc := 26) d_LW_law_26 rfl ?_
  refine Ev_bipush (v := 6) (pc := 27) d_LW_law_27 (by decide) ?_
  refine Ev_isub (pc := 29) d_LW_law_29 ?_
  refine Ev_icmp_gt (tgt := 2170) (pc := 30) d_LW_law_30 rfl (fun q => absurd q q0) (fun _ => ?_)
  refine Ev_aload_n (pc := 33) d_LW_law_33 rfl ?_
  refine Ev_iload (pc := 34) d_LW_law_34 rfl ?_
  refine Ev_scr (pc := 36) d_LW_law_36 n1 ?_
  refine Ev_bipush (v := 31) (pc := 37) d_LW_law_37 (by decide) ?_
  refine Ev_iand (pc := 39) d_LW_law_39 ?_
  refine Ev_tblOut (pc := 40) (tgt := 2164) d_LW_law_40 (Or.inr n2) rfl ?_
  exact k
theorem c_LW_end {E : ev_E} {P : Option ev_V ⊕ Nat → ev_H → Prop} {h : ev_H} {i : Nat} (q0 : ((Int32.ofNat (eN E 0)) - 6) < (nI i)) (k : P (.inl (some (vI 1))) h) : Ev E M_LW_law 23 [(0, vR 5 0), (1, vR 0 0), (2, vR 0 6), (3, vR 0 27), (4, vI (nI i))] [] h P := by
  refine Ev_iload (pc := 23) d_LW_law_23 rfl ?_
  refine Ev_aload_n (pc := 25) d_LW_law_25 rfl ?_
  refine Ev_alenO (pc := 26) d_LW_law_26 rfl ?_
  refine Ev_bipush (v := 6) (pc := 27) d_LW_law_27 (by decide) ?_
  refine Ev_isub (pc := 29) d_LW_law_29 ?_
  refine Ev_icmp_gt (tgt := 2170) (pc := 30) d_LW_law_30 rfl (fun _ => ?_) (fun q => absurd q0 q)
  refine Ev_iconst (v := 1) (pc := 2170) d_LW_law_2170 (by decide) ?_
  refine Ev_ireturn (pc := 2171) d_LW_law_2171 rfl rfl ?_
  exact k
theorem c_LW_next {E : ev_E} {P : Option ev_V ⊕ Nat → ev_H → Prop} {h : ev_H} {i : Nat} (k : Ev E M_LW_law 23 [(0, vR 5 0), (1, vR 0 0), (2, vR 0 6), (3, vR 0 27), (4, vI ((nI i) + 6))] [] h P) : Ev E M_LW_law 2164 [(0, vR 5 0), (1, vR 0 0), (2, vR 0 6), (3, vR 0 27), (4, vI (nI i))] [] h P := by
  refine Ev_iinc (d := 6) (pc := 2164) d_LW_law_2164 rfl (by decide) rfl ?_
  refine Ev_goto (tgt := 23) (pc := 2167) d_LW_law_2167 rfl ?_
  exact k
