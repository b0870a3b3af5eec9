/-! what fits one another -/
set_option maxHeartbeats 4000000 in
set_option maxRecDepth 100000 in
theorem lp_L_fits3 {l : Launch} {p : Program} {e : Env} {s : State} {m : MethodId} {args : Array Value} {below : List Frame} {meth : Method} {c : Code} {A : Nat → Prop} {D : va_G} {cI cJ cQ : ClassId} {x0a a0 a1 a2 a3 a4 a5 a6 a7 tr0 tr1 tr2 tr3 tr4 tr5 tr6 tr7 s0 s1 ra0 ra1 ra2 ra3 ra4 ra5 ra6 ra7 rb0 rb1 rb2 rb3 rb4 rb5 rb6 rb7 rc0 rc1 rc2 rc3 rc4 rc5 rc6 rc7 rd0 rd1 rd2 rd3 rd4 rd5 rd6 rd7 r0 t0 t1 w0 : Nat} {h : Nat → Option Nat} {S : StT} {R : Nat → StT} {cn od ln : Nat} {by_ : Nat → Int32} {X : RS} {B U : Nat} (hJ : JI B U S) (hfl : l.stackTraces = false) (hz : xZ A s) (hC : xC s) {x : Int32} (hx : (fex (zf S) (zn S) (zn S)).2 = x) (hB0 : B < 2 ^ 29) (C : CC p s m args c cL_fits 11 RL (Cond.code yL_fits cL_fits 11 (some .boolean) :: lw_all) D (tyz cI cJ cQ) A s.heap) (RC : meth.sig.returnType = (some .boolean) ∧ meth.locks = false ∧ meth.name = yL_fits.name) : ∀ (fu i : Nat), i ≤ 5 → 5 + 1 ≤ i + fu → ∀ (T : StT) (g : Nat → Int32), ∀ (xr : Int32) (xi : Int32), (xr = sgb (fun k => nI (ct (isRk (zf S) (nI k)) (zn S))) i) → (xi = nI i) →  sw p l e ({ frames := 11, cells := 0, slots := 0, locals := 217 } : Room) s m args below meth c D A s.heap 11 0 0 (MQ below (ctQ D (tyz cI cJ cQ) A (pstE 1 (fun _ : StT × (Nat → Int32) => True) (fun z : StT × (Nat → Int32) => (flatS [[(x0a, .inr (6, [.ref a0, .ref tr0, .ref s0, .ref r0, .ref w0]))], (wSt a0 a1 a2 a3 a4 a5 a6 a7 cI (S)), [(s0, .inr (3, [.int (nI (cn)), .int (nI (od)), .ref s1])), (s1, .inl (cQ, 4, .inr (.inr (.inr (.inr h)))))], (wSt ra0 ra1 ra2 ra3 ra4 ra5 ra6 ra7 cI ((R) 0)), (wSt rb0 rb1 rb2 rb3 rb4 rb5 rb6 rb7 cI ((R) 1)), (wSt rc0 rc1 rc2 rc3 rc4 rc5 rc6 rc7 cI ((R) 2)), (wSt rd0 rd1 rd2 rd3 rd4 rd5 rd6 rd7 cI ((R) 3)), (wSt tr0 tr1 tr2 tr3 tr4 tr5 tr6 tr7 cI (z.1)), (wRd r0 t0 t1 cI (ln) (by_) (X)), [(w0, .inl (cI, 40, .inl (z.2)))]])))) args s 0 0 A) (flatS [[(x0a, .inr (6, [.ref a0, .ref tr0, .ref s0, .ref r0, .ref w0]))], (wSt a0 a1 a2 a3 a4 a5 a6 a7 cI (S)), [(s0, .inr (3, [.int (nI (cn)), .int (nI (od)), .ref s1])), (s1, .inl (cQ, 4, .inr (.inr (.inr (.inr h)))))], (wSt ra0 ra1 ra2 ra3 ra4 ra5 ra6 ra7 cI ((R) 0)), (wSt rb0 rb1 rb2 rb3 rb4 rb5 rb6 rb7 cI ((R) 1)), (wSt rc0 rc1 rc2 rc3 rc4 rc5 rc6 rc7 cI ((R) 2)), (wSt rd0 rd1 rd2 rd3 rd4 rd5 rd6 rd7 cI ((R) 3)), (wSt tr0 tr1 tr2 tr3 tr4 tr5 tr6 tr7 cI (T)), (wRd r0 t0 t1 cI (ln) (by_) (X)), [(w0, .inl (cI, 40, .inl (g)))]]) 237 [(0, .ref x0a), (1, .int (nI (zn S))), (2, .int (smb (zf S) (zn S))), (3, .int (sgb (jnt (zf S)) (zn S))), (5, .int x), (6, .int 1), (7, .int (sgb (fun k => nI (ct (isOf (zf S) (nI k)) (zn S))) 8)), (8, .int (sgb (zbk S) 8)), (9, .int xr), (10, .int xi)] [] := by
  have hS := hJ.si
  have hn := hJ.o.n
  have hlc := hJ.si.2.1
  have hnum := hJ.o.num
  have hrow := hJ.o.row
  intro fu
  induction fu with
  | zero => intro i h1 h2; exact absurd h2 (by omega)
  | succ fu ih =>
    intro i hi hf T g xr xi exr exi
    subst exr exi
    refine sw_iload 237 C dL_fits_237 rfl ?_
    refine sw_iconst 239 C dL_fits_239 5 (by decide) ?_
    refine sw_icmp_ge 240 260 C dL_fits_240 (by decide) (fun c_240 => ?_) (fun c_240 => ?_)
    · obtain rfl : i = 5 := by have := nI_ge' (by omega) (b := 5) c_240 (by omega); omega
      obtain ⟨a9, b9, c9, k1, k2, k3, k4, k5, k6⟩ := hJ.c
      have hB9 := hJ.o.p
      refine sw_aload_n 260 0 C dL_fits_260 rfl rfl ?_
      refine sw_iconst 261 C dL_fits_261 3 (by decide) ?_
      refine xl_callSI 262 [0, 1] 2 [_, _] C hz hC dL_fits_262 (ct_L_value l hfl hS 3 rfl (by decide)) wK_L_value wM_L_95 wT_L_value wI_L hd_L_value rfl ⟨rfl, rfl⟩ ⟨Nat.le_of_ble_eq_true rfl, Nat.le_of_ble_eq_true rfl⟩ rfl rfl rfl rfl rfl rfl ?_
      refine sg_segs [_, _, _, _, _, _, _, _, _, _] rfl ?_
      refine sw_top (show _ = zlv S 0 from rfl) ?_
      refine sw_aload_n 265 0 C dL_fits_265 rfl rfl ?_
      refine sw_iconst 266 C dL_fits_266 4 (by decide) ?_
      refine xl_callSI 267 [0, 1] 2 [_, _] C hz hC dL_fits_267 (ct_L_value l hfl hS 4 rfl (by decide)) wK_L_value wM_L_95 wT_L_value wI_L hd_L_value rfl ⟨rfl, rfl⟩ ⟨Nat.le_of_ble_eq_true rfl, Nat.le_of_ble_eq_true rfl⟩ rfl rfl rfl rfl rfl rfl ?_
      refine sg_segs [_, _, _, _, _, _, _, _, _, _] rfl ?_
      refine sw_top (show _ = zlv S 1 from rfl) ?_
      refine sw_iadd 270 C dL_fits_270 ?_
      refine sw_aload_n 271 0 C dL_fits_271 rfl rfl ?_
      refine sw_iconst 272 C dL_fits_272 5 (by decide) ?_
      refine xl_callSI 273 [0, 1] 2 [_, _] C hz hC dL_fits_273 (ct_L_value l hfl hS 5 rfl (by decide)) wK_L_value wM_L_95 wT_L_value wI_L hd_L_value rfl ⟨rfl, rfl⟩ ⟨Nat.le_of_ble_eq_true rfl, Nat.le_of_ble_eq_true rfl⟩ rfl rfl rfl rfl rfl rfl ?_
      refine sg_segs [_, _, _, _, _, _, _, _, _, _] rfl ?_
      refine sw_top (show _ = zlv S 2 from rfl) ?_
      refine sw_iadd 276 C dL_fits_276 ?_
      refine sw_top (show zlv S 0 + zlv S 1 + zlv S 2 = nI (a9 + b9 + c9) by rw [k1, k2, k3, nI_add, nI_add]) ?_
      refine sw_istore 277 C dL_fits_277 rfl ?_
      refine sw_iload 279 C dL_fits_279 rfl ?_
      refine sw_if_eq 281 391 C dL_fits_281 (by decide) (fun c_281 => ?_) (fun c_281 => ?_)
      · exact by first | exact absurd c_281 (by decide) | exact absurd (by decide) c_281
      refine sw_iload 284 C dL_fits_284 rfl ?_
      refine sw_top (sent_sum (fun i hi => ⟨hS.2.2 i hi, hJ.r i hi⟩)) ?_
      refine sw_iload_n 286 1 C dL_fits_286 rfl rfl ?_
      refine sw_iload_n 287 3 C dL_fits_287 rfl rfl ?_
      refine sw_iadd 288 C dL_fits_288 ?_
      refine sw_icmp_ne 289 391 C dL_fits_289 (by decide) (fun c_289 => ?_) (fun c_289 => ?_)
      · exact by first | exact absurd c_289 (rfl) | exact absurd (rfl) c_289
      refine sw_iload 292 C dL_fits_292 rfl ?_
      refine sw_aload_n 294 0 C dL_fits_294 rfl rfl ?_
      refine sw_bipush 295 C dL_fits_295 7 (by decide) ?_
      refine xl_callSI 297 [0, 1] 2 [_, _] C hz hC dL_fits_297 (ct_L_value l hfl hS 7 rfl (by decide)) wK_L_value wM_L_95 wT_L_value wI_L hd_L_value rfl ⟨rfl, rfl⟩ ⟨Nat.le_of_ble_eq_true rfl, Nat.le_of_ble_eq_true rfl⟩ rfl rfl rfl rfl rfl rfl ?_
      refine sg_segs [_, _, _, _, _, _, _, _, _, _] rfl ?_
      refine sw_top (show _ = sgb (zbk S) 8 from rfl) ?_
      refine sw_icmp_ne 300 391 C dL_fits_300 (by decide) (fun c_300 => ?_) (fun c_300 => ?_)
      · exact by first | exact absurd c_300 (rfl) | exact absurd (rfl) c_300
      refine sw_iload 303 C dL_fits_303 rfl ?_
      refine sw_top (rank_sum (fun i hi => (hrow i hi).1)) ?_
      refine sw_iload_n 305 1 C dL_fits_305 rfl rfl ?_
      refine sw_icmp_ne 306 391 C dL_fits_306 (by decide) (fun c_306 => ?_) (fun c_306 => ?_)
      · exact by first | exact absurd c_306 (rfl) | exact absurd (rfl) c_306
      refine sw_aload_n 309 0 C dL_fits_309 rfl rfl ?_
      refine sw_bipush 310 C dL_fits_310 8 (by decide) ?_
      refine xl_callSI 312 [0, 1] 2 [_, _] C hz hC dL_fits_312 (ct_L_value l hfl hS 8 rfl (by decide)) wK_L_value wM_L_95 wT_L_value wI_L hd_L_value rfl ⟨rfl, rfl⟩ ⟨Nat.le_of_ble_eq_true rfl, Nat.le_of_ble_eq_true rfl⟩ rfl rfl rfl rfl rfl rfl ?_
      refine sg_segs [_, _, _, _, _, _, _, _, _, _] rfl ?_
      refine sw_top (show _ = smb (zf S) (zn S) from rfl) ?_
      refine sw_iload_n 315 2 C dL_fits_315 rfl rfl ?_
      refine sw_icmp_ne 316 391 C dL_fits_316 (by decide) (fun c_316 => ?_) (fun c_316 => ?_)
      · exact by first | exact absurd c_316 (rfl) | exact absurd (rfl) c_316
      refine sw_aload_n 319 0 C dL_fits_319 rfl rfl ?_
      refine sw_bipush 320 C dL_fits_320 10 (by decide) ?_
      refine xl_callSI 322 [0, 1] 2 [_, _] C hz hC dL_fits_322 (ct_L_value l hfl hS 10 rfl (by decide)) wK_L_value wM_L_95 wT_L_value wI_L hd_L_value rfl ⟨rfl, rfl⟩ ⟨Nat.le_of_ble_eq_true rfl, Nat.le_of_ble_eq_true rfl⟩ rfl rfl rfl rfl rfl rfl ?_
      refine sg_segs [_, _, _, _, _, _, _, _, _, _] rfl ?_
      refine sw_top (show _ = nI (zl S) from rfl) ?_
      refine sw_iload 325 C dL_fits_325 rfl ?_
      refine sw_bipush 327 C dL_fits_327 16 (by decide) ?_
      refine sw_jn2 339 (nI (zl S)) (fun hj_329 => ?_) ?_
      · refine sw_icmp_ge 329 337 C dL_fits_329 (by decide) (fun c_329 => ?_) (fun c_329 => ?_)
        · refine sw_bipush 337 C dL_fits_337 16 (by decide) ?_
          exact sw_top (by rw [k5, if_neg (fun q => nI_ge (b := 16) q (by decide) c_329)]; rfl) hj_329
        · refine sw_iload 332 C dL_fits_332 rfl ?_
          refine sw_goto 334 339 C dL_fits_334 (by decide) ?_
          exact sw_top (by rw [k5, if_pos ((nI_ltI (b := 16) (by omega) (by decide)).mp (Int32.not_le.mp c_329))]) hj_329
      refine sw_icmp_ne 339 391 C dL_fits_339 (by decide) (fun c_339 => ?_) (fun c_339 => ?_)
      · exact by first | exact absurd c_339 (rfl) | exact absurd (rfl) c_339
      refine sw_aload_n 342 0 C dL_fits_342 rfl rfl ?_
      refine sg_callVI 343 [0, 1] 0 0 [_, _] C dL_fits_343 (ct_X6_firstToExpire l hS) wK_X6_firstToExpire wM_L_167 wN_X6_firstToExpire wS_X6_X6_firstToExpire wI_X6 hd_X6_firstToExpire rfl rfl rfl ⟨rfl, rfl⟩ ⟨Nat.le_of_ble_eq_true rfl, Nat.le_of_ble_eq_true rfl⟩ rfl rfl rfl rfl rfl rfl ?_
      refine sg_segs [_, _, _, _, _, _, _, _, _, _] rfl ?_
      refine sw_iload 346 C dL_fits_346 rfl ?_
      refine sw_icmp_ne 348 391 C dL_fits_348 (by decide) (fun c_348 => ?_) (fun c_348 => ?_)
      · exact by first | exact absurd c_348 (hx) | exact absurd (hx) c_348
      refine sw_iload_n 351 1 C dL_fits_351 rfl rfl ?_
      refine sw_if_ne 352 368 C dL_fits_352 (by decide) (fun c_352 => ?_) (fun c_352 => ?_)
      · have hn0 : 0 < zn S := by
          rcases Nat.eq_zero_or_pos (zn S) with q | q
          · exact absurd (by rw [q]; rfl) c_352
          · exact q
        refine sw_aload_n 368 0 C dL_fits_368 rfl rfl ?_
        refine sw_bipush 369 C dL_fits_369 9 (by decide) ?_
        refine xl_callSI 371 [0, 1] 2 [_, _] C hz hC dL_fits_371 (ct_L_value l hfl hS 9 rfl (by decide)) wK_L_value wM_L_95 wT_L_value wI_L hd_L_value rfl ⟨rfl, rfl⟩ ⟨Nat.le_of_ble_eq_true rfl, Nat.le_of_ble_eq_true rfl⟩ rfl rfl rfl rfl rfl rfl ?_
        refine sg_segs [_, _, _, _, _, _, _, _, _, _] rfl ?_
        refine sw_top (show _ = ldr (zf S) (zn S) from rfl) ?_
        refine sw_top (ldr_plc hnum hrow hn hn0) ?_
        refine sw_aload_n 374 0 C dL_fits_374 rfl rfl ?_
        refine sw_aload_n 375 0 C dL_fits_375 rfl rfl ?_
        refine sw_iconst 376 C dL_fits_376 0 (by decide) ?_
        refine xl_callSI 377 [0, 1, 9] 2 [_, _, _] C hz hC dL_fits_377 (ct_L_peek l hfl hS 0 (plc (zf S) (zn S) 0) rfl hn0 (plc_ok hnum hrow hn hn0).1 (plc_arr hnum hrow hn _ hn0)) wK_L_peek wM_L_106 wT_L_peek wI_L hd_L_peek rfl ⟨rfl, rfl⟩ ⟨Nat.le_of_ble_eq_true rfl, Nat.le_of_ble_eq_true rfl⟩ rfl rfl rfl rfl rfl rfl ?_
        refine sg_segs [_, _, _, _, _, _, _, _, _, _] rfl ?_
        refine sw_iconst 380 C dL_fits_380 2 (by decide) ?_
        refine xl_callSI 381 [0, 1] 3 [_, _] C hz hC dL_fits_381 (ct_L_one l hfl hS (plc (zf S) (zn S) 0) (fnd_num hnum (plc_ok hnum hrow hn hn0).1) 2 rfl (by decide)) wK_L_one wM_L_108 wT_L_one wI_L hd_L_one rfl ⟨rfl, rfl⟩ ⟨Nat.le_of_ble_eq_true rfl, Nat.le_of_ble_eq_true rfl⟩ rfl rfl rfl rfl rfl rfl ?_
        refine sg_segs [_, _, _, _, _, _, _, _, _, _] rfl ?_
        refine sw_top (show _ = zf S ((plc (zf S) (zn S) 0) * 8 + 2) from rfl) ?_
        refine sw_icmp_ne 384 391 C dL_fits_384 (by decide) (fun c_384 => ?_) (fun c_384 => ?_)
        · exact by first | exact absurd c_384 (rfl) | exact absurd (rfl) c_384
        refine sw_iconst 387 C dL_fits_387 1 (by decide) ?_
        refine sw_goto 388 392 C dL_fits_388 (by decide) ?_
        refine sw_istore 392 C dL_fits_392 rfl ?_
        refine sw_iload 394 C dL_fits_394 rfl ?_
        refine sw_if_eq 396 445 C dL_fits_396 (by decide) (fun c_396 => ?_) (fun c_396 => ?_)
        · exact by first | exact absurd c_396 (by decide) | exact absurd (by decide) c_396
        refine sw_aload_n 399 0 C dL_fits_399 rfl rfl ?_
        refine sw_iconst 400 C dL_fits_400 3 (by decide) ?_
        refine xl_callSI 401 [0, 1] 2 [_, _] C hz hC dL_fits_401 (ct_L_value l hfl hS 3 rfl (by decide)) wK_L_value wM_L_95 wT_L_value wI_L hd_L_value rfl ⟨rfl, rfl⟩ ⟨Nat.le_of_ble_eq_true rfl, Nat.le_of_ble_eq_true rfl⟩ rfl rfl rfl rfl rfl rfl ?_
        refine sg_segs [_, _, _, _, _, _, _, _, _, _] rfl ?_
        refine sw_top (show _ = zlv S 0 from rfl) ?_
        refine sw_if_ne 404 419 C dL_fits_404 (by decide) (fun c_404 => ?_) (fun c_404 => ?_)
        · refine sw_aload_n 419 0 C dL_fits_419 rfl rfl ?_
          refine xg_callG 420 [0, 1] 0 0 C dL_fits_420 (ct_X6_meanWait l) wK_X6_meanWait wM_L_170 wN_X6_meanWait wS_X6_X6_meanWait wI_X6 hd_X6_meanWait rfl rfl rfl ⟨rfl, rfl⟩ ⟨Nat.le_of_ble_eq_true rfl, Nat.le_of_ble_eq_true rfl⟩ rfl rfl rfl rfl (fun v_420 w_420 h_420 => ?_)
          obtain ⟨rfl, rfl⟩ := h_420
          refine ⟨[_, _], rfl, rfl, ?_⟩
          refine sw_st (_ :: _) rfl ?_
          refine sg_segs [_, _, _, _, _, _, _, _, _, _] rfl ?_
          rw [mwS_1 c_404]
          refine sw_aload_n 423 0 C dL_fits_423 rfl rfl ?_
          refine sw_bipush 424 C dL_fits_424 13 (by decide) ?_
          refine xl_callSI 426 [0, 1] 2 [_, _] C hz hC dL_fits_426 (ct_L_value l hfl hS 13 rfl (by decide)) wK_L_value wM_L_95 wT_L_value wI_L hd_L_value rfl ⟨rfl, rfl⟩ ⟨Nat.le_of_ble_eq_true rfl, Nat.le_of_ble_eq_true rfl⟩ rfl rfl rfl rfl rfl rfl ?_
          refine sg_segs [_, _, _, _, _, _, _, _, _, _] rfl ?_
          refine sw_top (show _ = zv S from rfl) ?_
          refine sw_i2d 429 C dL_fits_429 ?_
          refine sw_aload_n 430 0 C dL_fits_430 rfl rfl ?_
          refine sw_iconst 431 C dL_fits_431 3 (by decide) ?_
          refine xl_callSI 432 [0, 1] 2 [_, _] C hz hC dL_fits_432 (ct_L_value l hfl hS 3 rfl (by decide)) wK_L_value wM_L_95 wT_L_value wI_L hd_L_value rfl ⟨rfl, rfl⟩ ⟨Nat.le_of_ble_eq_true rfl, Nat.le_of_ble_eq_true rfl⟩ rfl rfl rfl rfl rfl rfl ?_
          refine sg_segs [_, _, _, _, _, _, _, _, _, _] rfl ?_
          refine sw_top (show _ = zlv S 0 from rfl) ?_
          refine sw_i2d 435 C dL_fits_435 ?_
          refine sw_ddiv 436 C dL_fits_436 (ddiv_n64 c_404) ?_
          refine sw_dcmp 437 C dL_fits_437 ?_
          refine sw_if_ne 438 445 C dL_fits_438 (by decide) (fun c_438 => ?_) (fun c_438 => ?_)
          · exact by first | exact absurd c_438 (fun q => q (dcv_eq (ddiv_eq c_404))) | exact absurd (fun q => q (dcv_eq (ddiv_eq c_404))) c_438
          refine sw_iconst 441 C dL_fits_441 1 (by decide) ?_
          refine sw_goto 442 446 C dL_fits_442 (by decide) ?_
          refine sw_zret 446 C RC rfl dL_fits_446 ?_
          exact ⟨rfl, (_, _), trivial, rfl⟩
        · refine sw_aload_n 407 0 C dL_fits_407 rfl rfl ?_
          refine xg_callG 408 [0, 1] 0 0 C dL_fits_408 (ct_X6_meanWait l) wK_X6_meanWait wM_L_170 wN_X6_meanWait wS_X6_X6_meanWait wI_X6 hd_X6_meanWait rfl rfl rfl ⟨rfl, rfl⟩ ⟨Nat.le_of_ble_eq_true rfl, Nat.le_of_ble_eq_true rfl⟩ rfl rfl rfl rfl (fun v_408 w_408 h_408 => ?_)
          obtain ⟨rfl, rfl⟩ := h_408
          refine ⟨[_, _], rfl, rfl, ?_⟩
          refine sw_st (_ :: _) rfl ?_
          refine sg_segs [_, _, _, _, _, _, _, _, _, _] rfl ?_
          rw [mwS_0 c_404]
          refine sw_dconst0 411 C dL_fits_411 ?_
          refine sw_dcmp 412 C dL_fits_412 ?_
          refine sw_if_ne 413 445 C dL_fits_413 (by decide) (fun c_413 => ?_) (fun c_413 => ?_)
          · exact by first | exact absurd c_413 (fun q => q (dcv_eq dz_eq)) | exact absurd (fun q => q (dcv_eq dz_eq)) c_413
          refine sw_goto 416 441 C dL_fits_416 (by decide) ?_
          refine sw_iconst 441 C dL_fits_441 1 (by decide) ?_
          refine sw_goto 442 446 C dL_fits_442 (by decide) ?_
          refine sw_zret 446 C RC rfl dL_fits_446 ?_
          exact ⟨rfl, (_, _), trivial, rfl⟩
      · have h0 : zn S = 0 := nI_inj (by omega) (by decide) c_352
        have hz0 : ldr (zf S) (zn S) = -1 := by rw [h0]; rfl
        refine sw_aload_n 355 0 C dL_fits_355 rfl rfl ?_
        refine sw_bipush 356 C dL_fits_356 9 (by decide) ?_
        refine xl_callSI 358 [0, 1] 2 [_, _] C hz hC dL_fits_358 (ct_L_value l hfl hS 9 rfl (by decide)) wK_L_value wM_L_95 wT_L_value wI_L hd_L_value rfl ⟨rfl, rfl⟩ ⟨Nat.le_of_ble_eq_true rfl, Nat.le_of_ble_eq_true rfl⟩ rfl rfl rfl rfl rfl rfl ?_
        refine sg_segs [_, _, _, _, _, _, _, _, _, _] rfl ?_
        refine sw_top (show _ = ldr (zf S) (zn S) from rfl) ?_
        refine sw_top hz0 ?_
        refine sw_iconst 361 C dL_fits_361 (-1) (by decide) ?_
        refine sw_icmp_ne 362 391 C dL_fits_362 (by decide) (fun c_362 => ?_) (fun c_362 => ?_)
        · exact by first | exact absurd c_362 (rfl) | exact absurd (rfl) c_362
        refine sw_goto 365 387 C dL_fits_365 (by decide) ?_
        refine sw_iconst 387 C dL_fits_387 1 (by decide) ?_
        refine sw_goto 388 392 C dL_fits_388 (by decide) ?_
        refine sw_istore 392 C dL_fits_392 rfl ?_
        refine sw_iload 394 C dL_fits_394 rfl ?_
        refine sw_if_eq 396 445 C dL_fits_396 (by decide) (fun c_396 => ?_) (fun c_396 => ?_)
        · exact by first | exact absurd c_396 (by decide) | exact absurd (by decide) c_396
        refine sw_aload_n 399 0 C dL_fits_399 rfl rfl ?_
        refine sw_iconst 400 C dL_fits_400 3 (by decide) ?_
        refine xl_callSI 401 [0, 1] 2 [_, _] C hz hC dL_fits_401 (ct_L_value l hfl hS 3 rfl (by decide)) wK_L_value wM_L_95 wT_L_value wI_L hd_L_value rfl ⟨rfl, rfl⟩ ⟨Nat.le_of_ble_eq_true rfl, Nat.le_of_ble_eq_true rfl⟩ rfl rfl rfl rfl rfl rfl ?_
        refine sg_segs [_, _, _, _, _, _, _, _, _, _] rfl ?_
        refine sw_top (show _ = zlv S 0 from rfl) ?_
        refine sw_if_ne 404 419 C dL_fits_404 (by decide) (fun c_404 => ?_) (fun c_404 => ?_)
        · refine sw_aload_n 419 0 C dL_fits_419 rfl rfl ?_
          refine xg_callG 420 [0, 1] 0 0 C dL_fits_420 (ct_X6_meanWait l) wK_X6_meanWait wM_L_170 wN_X6_meanWait wS_X6_X6_meanWait wI_X6 hd_X6_meanWait rfl rfl rfl ⟨rfl, rfl⟩ ⟨Nat.le_of_ble_eq_true rfl, Nat.le_of_ble_eq_true rfl⟩ rfl rfl rfl rfl (fun v_420 w_420 h_420 => ?_)
          obtain ⟨rfl, rfl⟩ := h_420
          refine ⟨[_, _], rfl, rfl, ?_⟩
          refine sw_st (_ :: _) rfl ?_
          refine sg_segs [_, _, _, _, _, _, _, _, _, _] rfl ?_
          rw [mwS_1 c_404]
          refine sw_aload_n 423 0 C dL_fits_423 rfl rfl ?_
          refine sw_bipush 424 C dL_fits_424 13 (by decide) ?_
          refine xl_callSI 426 [0, 1] 2 [_, _] C hz hC dL_fits_426 (ct_L_value l hfl hS 13 rfl (by decide)) wK_L_value wM_L_95 wT_L_value wI_L hd_L_value rfl ⟨rfl, rfl⟩ ⟨Nat.le_of_ble_eq_true rfl, Nat.le_of_ble_eq_true rfl⟩ rfl rfl rfl rfl rfl rfl ?_
          refine sg_segs [_, _, _, _, _, _, _, _, _, _] rfl ?_
          refine sw_top (show _ = zv S from rfl) ?_
          refine sw_i2d 429 C dL_fits_429 ?_
          refine sw_aload_n 430 0 C dL_fits_430 rfl rfl ?_
          refine sw_iconst 431 C dL_fits_431 3 (by decide) ?_
          refine xl_callSI 432 [0, 1] 2 [_, _] C hz hC dL_fits_432 (ct_L_value l hfl hS 3 rfl (by decide)) wK_L_value wM_L_95 wT_L_value wI_L hd_L_value rfl ⟨rfl, rfl⟩ ⟨Nat.le_of_ble_eq_true rfl, Nat.le_of_ble_eq_true rfl⟩ rfl rfl rfl rfl rfl rfl ?_
          refine sg_segs [_, _, _, _, _, _, _, _, _, _] rfl ?_
          refine sw_top (show _ = zlv S 0 from rfl) ?_
          refine sw_i2d 435 C dL_fits_435 ?_
          refine sw_ddiv 436 C dL_fits_436 (ddiv_n64 c_404) ?_
          refine sw_dcmp 437 C dL_fits_437 ?_
          refine sw_if_ne 438 445 C dL_fits_438 (by decide) (fun c_438 => ?_) (fun c_438 => ?_)
          · exact by first | exact absurd c_438 (fun q => q (dcv_eq (ddiv_eq c_404))) | exact absurd (fun q => q (dcv_eq (ddiv_eq c_404))) c_438
          refine sw_iconst 441 C dL_fits_441 1 (by decide) ?_
          refine sw_goto 442 446 C dL_fits_442 (by decide) ?_
          refine sw_zret 446 C RC rfl dL_fits_446 ?_
          exact ⟨rfl, (_, _), trivial, rfl⟩
        · refine sw_aload_n 407 0 C dL_fits_407 rfl rfl ?_
          refine xg_callG 408 [0, 1] 0 0 C dL_fits_408 (ct_X6_meanWait l) wK_X6_meanWait wM_L_170 wN_X6_meanWait wS_X6_X6_meanWait wI_X6 hd_X6_meanWait rfl rfl rfl ⟨rfl, rfl⟩ ⟨Nat.le_of_ble_eq_true rfl, Nat.le_of_ble_eq_true rfl⟩ rfl rfl rfl rfl (fun v_408 w_408 h_408 => ?_)
          obtain ⟨rfl, rfl⟩ := h_408
          refine ⟨[_, _], rfl, rfl, ?_⟩
          refine sw_st (_ :: _) rfl ?_
          refine sg_segs [_, _, _, _, _, _, _, _, _, _] rfl ?_
          rw [mwS_0 c_404]
          refine sw_dconst0 411 C dL_fits_411 ?_
          refine sw_dcmp 412 C dL_fits_412 ?_
          refine sw_if_ne 413 445 C dL_fits_413 (by decide) (fun c_413 => ?_) (fun c_413 => ?_)
          · exact by first | exact absurd c_413 (fun q => q (dcv_eq dz_eq)) | exact absurd (fun q => q (dcv_eq dz_eq)) c_413
          refine sw_goto 416 441 C dL_fits_416 (by decide) ?_
          refine sw_iconst 441 C dL_fits_441 1 (by decide) ?_
          refine sw_goto 442 446 C dL_fits_442 (by decide) ?_
          refine sw_zret 446 C RC rfl dL_fits_446 ?_
          exact ⟨rfl, (_, _), trivial, rfl⟩
    · have hlt : i < 5 := by
        rcases Nat.lt_or_ge i (5) with q | q
        · exact q
        · exact absurd (nI_le (b := i) q (by omega)) c_240
      refine sw_iload 243 C dL_fits_243 rfl ?_
      refine sw_aload_n 245 0 C dL_fits_245 rfl rfl ?_
      skip
      refine sw_iload 246 C dL_fits_246 rfl ?_
      refine xl_callSI 248 [0, 1] 2 [_, _] C hz hC dL_fits_248 (ct_L_rank l hfl hS (inR_nI 0 4 (Nat.zero_le _) (by omega) (by decide))) wK_L_rank wM_L_147 wT_L_rank wI_L hd_L_rank rfl ⟨rfl, rfl⟩ ⟨Nat.le_of_ble_eq_true rfl, Nat.le_of_ble_eq_true rfl⟩ rfl rfl rfl rfl rfl rfl ?_
      refine sg_segs [_, _, _, _, _, _, _, _, _, _] rfl ?_
      refine sw_iadd 251 C dL_fits_251 ?_
      refine sw_istore 252 C dL_fits_252 rfl ?_
      refine sw_iinc 254 C 1 dL_fits_254 (by decide) rfl rfl ?_
      refine sw_loc (L1 := [(0, .ref _), (1, .int _), (2, .int _), (3, .int _), (5, .int _), (6, .int _), (7, .int _), (8, .int _), (9, .int _), (10, .int _)]) ?_ rfl
      refine sw_goto 257 237 C dL_fits_257 (by decide) ?_
      exact sw_loc (ih (i + 1) (by omega) (by omega) T g _ _ rfl (nI_1 i)) rfl
set_option maxHeartbeats 4000000 in
set_option maxRecDepth 100000 in
theorem lp_L_fits2 {l : Launch} {p : Program} {e : Env} {s : State} {m : MethodId} {args : Array Value} {below : List Frame} {meth : Method} {c : Code} {A : Nat → Prop} {D : va_G} {cI cJ cQ : ClassId} {x0a a0 a1 a2 a3 a4 a5 a6 a7 tr0 tr1 tr2 tr3 tr4 tr5 tr6 tr7 s0 s1 ra0 ra1 ra2 ra3 ra4 ra5 ra6 ra7 rb0 rb1 rb2 rb3 rb4 rb5 rb6 rb7 rc0 rc1 rc2 rc3 rc4 rc5 rc6 rc7 rd0 rd1 rd2 rd3 rd4 rd5 rd6 rd7 r0 t0 t1 w0 : Nat} {h : Nat → Option Nat} {S : StT} {R : Nat → StT} {cn od ln : Nat} {by_ : Nat → Int32} {X : RS} {B U : Nat} (hJ : JI B U S) (hfl : l.stackTraces = false) (hz : xZ A s) (hC : xC s) {x : Int32} (hx : (fex (zf S) (zn S) (zn S)).2 = x) (hB0 : B < 2 ^ 29) (C : CC p s m args c cL_fits 11 RL (Cond.code yL_fits cL_fits 11 (some .boolean) :: lw_all) D (tyz cI cJ cQ) A s.heap) (RC : meth.sig.returnType = (some .boolean) ∧ meth.locks = false ∧ meth.name = yL_fits.name) : ∀ (fu i : Nat), i ≤ 8 → 8 + 1 ≤ i + fu → ∀ (T : StT) (g : Nat → Int32), ∀ (xs : Int32) (xk : Int32) (xi : Int32), (xs = sgb (fun k => nI (ct (isOf (zf S) (nI k)) (zn S))) i) → (xk = sgb (zbk S) i) → (xi = nI i) →  sw p l e ({ frames := 11, cells := 0, slots := 0, locals := 217 } : Room) s m args below meth c D A s.heap 11 0 0 (MQ below (ctQ D (tyz cI cJ cQ) A (pstE 1 (fun _ : StT × (Nat → Int32) => True) (fun z : StT × (Nat → Int32) => (flatS [[(x0a, .inr (6, [.ref a0, .ref tr0, .ref s0, .ref r0, .ref w0]))], (wSt a0 a1 a2 a3 a4 a5 a6 a7 cI (S)), [(s0, .inr (3, [.int (nI (cn)), .int (nI (od)), .ref s1])), (s1, .inl (cQ, 4, .inr (.inr (.inr (.inr h)))))], (wSt ra0 ra1 ra2 ra3 ra4 ra5 ra6 ra7 cI ((R) 0)), (wSt rb0 rb1 rb2 rb3 rb4 rb5 rb6 rb7 cI ((R) 1)), (wSt rc0 rc1 rc2 rc3 rc4 rc5 rc6 rc7 cI ((R) 2)), (wSt rd0 rd1 rd2 rd3 rd4 rd5 rd6 rd7 cI ((R) 3)), (wSt tr0 tr1 tr2 tr3 tr4 tr5 tr6 tr7 cI (z.1)), (wRd r0 t0 t1 cI (ln) (by_) (X)), [(w0, .inl (cI, 40, .inl (z.2)))]])))) args s 0 0 A) (flatS [[(x0a, .inr (6, [.ref a0, .ref tr0, .ref s0, .ref r0, .ref w0]))], (wSt a0 a1 a2 a3 a4 a5 a6 a7 cI (S)), [(s0, .inr (3, [.int (nI (cn)), .int (nI (od)), .ref s1])), (s1, .inl (cQ, 4, .inr (.inr (.inr (.inr h)))))], (wSt ra0 ra1 ra2 ra3 ra4 ra5 ra6 ra7 cI ((R) 0)), (wSt rb0 rb1 rb2 rb3 rb4 rb5 rb6 rb7 cI ((R) 1)), (wSt rc0 rc1 rc2 rc3 rc4 rc5 rc6 rc7 cI ((R) 2)), (wSt rd0 rd1 rd2 rd3 rd4 rd5 rd6 rd7 cI ((R) 3)), (wSt tr0 tr1 tr2 tr3 tr4 tr5 tr6 tr7 cI (T)), (wRd r0 t0 t1 cI (ln) (by_) (X)), [(w0, .inl (cI, 40, .inl (g)))]]) 196 [(0, .ref x0a), (1, .int (nI (zn S))), (2, .int (smb (zf S) (zn S))), (3, .int (sgb (jnt (zf S)) (zn S))), (5, .int x), (6, .int 1), (7, .int xs), (8, .int xk), (9, .int xi)] [] := by
  have hS := hJ.si
  have hn := hJ.o.n
  have hlc := hJ.si.2.1
  have hnum := hJ.o.num
  have hrow := hJ.o.row
  intro fu
  induction fu with
  | zero => intro i h1 h2; exact absurd h2 (by omega)
  | succ fu ih =>
    intro i hi hf T g xs xk xi exs exk exi
    subst exs exk exi
    refine sw_iload 196 C dL_fits_196 rfl ?_
    refine sw_bipush 198 C dL_fits_198 8 (by decide) ?_
    refine sw_icmp_ge 200 231 C dL_fits_200 (by decide) (fun c_200 => ?_) (fun c_200 => ?_)
    · refine sw_iconst 231 C dL_fits_231 0 (by decide) ?_
      refine sw_istore 232 C dL_fits_232 rfl ?_
      refine sw_iconst 234 C dL_fits_234 0 (by decide) ?_
      refine sw_istore 235 C dL_fits_235 rfl ?_
      obtain rfl : i = 8 := by have := nI_ge' (by omega) (b := 8) c_200 (by omega); omega
      exact sw_loc (lp_L_fits3 hJ hfl hz hC hx hB0 C RC 6 0 (Nat.zero_le _) (by omega) T g _ _ rfl rfl) rfl
    · have hlt : i < 8 := by
        rcases Nat.lt_or_ge i (8) with q | q
        · exact q
        · exact absurd (nI_le (b := i) q (by omega)) c_200
      refine sw_iload 203 C dL_fits_203 rfl ?_
      refine sw_aload_n 205 0 C dL_fits_205 rfl rfl ?_
      refine sw_iload 206 C dL_fits_206 rfl ?_
      refine xl_callSI 208 [0, 1] 2 [_, _] C hz hC dL_fits_208 (ct_L_sent l hfl hS (inR_nI 0 7 (Nat.zero_le _) (by omega) (by decide))) wK_L_sent wM_L_100 wT_L_sent wI_L hd_L_sent rfl ⟨rfl, rfl⟩ ⟨Nat.le_of_ble_eq_true rfl, Nat.le_of_ble_eq_true rfl⟩ rfl rfl rfl rfl rfl rfl ?_
      refine sg_segs [_, _, _, _, _, _, _, _, _, _] rfl ?_
      refine sw_iadd 211 C dL_fits_211 ?_
      refine sw_istore 212 C dL_fits_212 rfl ?_
      refine sw_iload 214 C dL_fits_214 rfl ?_
      refine sw_aload_n 216 0 C dL_fits_216 rfl rfl ?_
      refine sw_iload 217 C dL_fits_217 rfl ?_
      refine xl_callSI 219 [0, 1] 2 [_, _] C hz hC dL_fits_219 (ct_L_given l hfl i rfl hlt) wK_L_given wM_L_103 wT_L_given wI_L hd_L_given rfl ⟨rfl, rfl⟩ ⟨Nat.le_of_ble_eq_true rfl, Nat.le_of_ble_eq_true rfl⟩ rfl rfl rfl rfl rfl rfl ?_
      refine sg_segs [_, _, _, _, _, _, _, _, _, _] rfl ?_
      refine sw_iadd 222 C dL_fits_222 ?_
      refine sw_istore 223 C dL_fits_223 rfl ?_
      refine sw_loc (L1 := [(0, .ref _), (1, .int _), (2, .int _), (3, .int _), (5, .int _), (6, .int _), (7, .int _), (8, .int _), (9, .int _)]) ?_ rfl
      refine sw_iinc 225 C 1 dL_fits_225 (by decide) rfl rfl ?_
      refine sw_goto 228 196 C dL_fits_228 (by decide) ?_
      exact sw_loc (ih (i + 1) (by omega) (by omega) T g _ _ _ rfl rfl (nI_1 i)) rfl
set_option maxHeartbeats 4000000 in
set_option maxRecDepth 100000 in
theorem lp_L_fits1 {l : Launch} {p : Program} {e : Env} {s : State} {m : MethodId} {args : Array Value} {below : List Frame} {meth : Method} {c : Code} {A : Nat → Prop} {D : va_G} {cI cJ cQ : ClassId} {x0a a0 a1 a2 a3 a4 a5 a6 a7 tr0 tr1 tr2 tr3 tr4 tr5 tr6 tr7 s0 s1 ra0 ra1 ra2 ra3 ra4 ra5 ra6 ra7 rb0 rb1 rb2 rb3 rb4 rb5 rb6 rb7 rc0 rc1 rc2 rc3 rc4 rc5 rc6 rc7 rd0 rd1 rd2 rd3 rd4 rd5 rd6 rd7 r0 t0 t1 w0 : Nat} {h : Nat → Option Nat} {S : StT} {R : Nat → StT} {cn od ln : Nat} {by_ : Nat → Int32} {X : RS} {B U : Nat} (hJ : JI B U S) (hfl : l.stackTraces = false) (hz : xZ A s) (hC : xC s) (hB0 : B < 2 ^ 29) (C : CC p s m args c cL_fits 11 RL (Cond.code yL_fits cL_fits 11 (some .boolean) :: lw_all) D (tyz cI cJ cQ) A s.heap) (RC : meth.sig.returnType = (some .boolean) ∧ meth.locks = false ∧ meth.name = yL_fits.name) : ∀ (fu i : Nat), i ≤ zn S → zn S + 1 ≤ i + fu → ∀ (T : StT) (g : Nat → Int32) (l9 x9 : Int32), fstP (zf S) (zn S) i l9 x9 → ∀ (xb : Int32) (xj : Int32) (xi : Int32), (xb = pSum (zf S) (zn S) (fun i => zf S (i * 8 + 6)) i) → (xj = pSum (zf S) (zn S) (jnt (zf S)) i) → (xi = nI i) →  sw p l e ({ frames := 11, cells := 0, slots := 0, locals := 217 } : Room) s m args below meth c D A s.heap 11 0 0 (MQ below (ctQ D (tyz cI cJ cQ) A (pstE 1 (fun _ : StT × (Nat → Int32) => True) (fun z : StT × (Nat → Int32) => (flatS [[(x0a, .inr (6, [.ref a0, .ref tr0, .ref s0, .ref r0, .ref w0]))], (wSt a0 a1 a2 a3 a4 a5 a6 a7 cI (S)), [(s0, .inr (3, [.int (nI (cn)), .int (nI (od)), .ref s1])), (s1, .inl (cQ, 4, .inr (.inr (.inr (.inr h)))))], (wSt ra0 ra1 ra2 ra3 ra4 ra5 ra6 ra7 cI ((R) 0)), (wSt rb0 rb1 rb2 rb3 rb4 rb5 rb6 rb7 cI ((R) 1)), (wSt rc0 rc1 rc2 rc3 rc4 rc5 rc6 rc7 cI ((R) 2)), (wSt rd0 rd1 rd2 rd3 rd4 rd5 rd6 rd7 cI ((R) 3)), (wSt tr0 tr1 tr2 tr3 tr4 tr5 tr6 tr7 cI (z.1)), (wRd r0 t0 t1 cI (ln) (by_) (X)), [(w0, .inl (cI, 40, .inl (z.2)))]])))) args s 0 0 A) (flatS [[(x0a, .inr (6, [.ref a0, .ref tr0, .ref s0, .ref r0, .ref w0]))], (wSt a0 a1 a2 a3 a4 a5 a6 a7 cI (S)), [(s0, .inr (3, [.int (nI (cn)), .int (nI (od)), .ref s1])), (s1, .inl (cQ, 4, .inr (.inr (.inr (.inr h)))))], (wSt ra0 ra1 ra2 ra3 ra4 ra5 ra6 ra7 cI ((R) 0)), (wSt rb0 rb1 rb2 rb3 rb4 rb5 rb6 rb7 cI ((R) 1)), (wSt rc0 rc1 rc2 rc3 rc4 rc5 rc6 rc7 cI ((R) 2)), (wSt rd0 rd1 rd2 rd3 rd4 rd5 rd6 rd7 cI ((R) 3)), (wSt tr0 tr1 tr2 tr3 tr4 tr5 tr6 tr7 cI (T)), (wRd r0 t0 t1 cI (ln) (by_) (X)), [(w0, .inl (cI, 40, .inl (g)))]]) 65 [(0, .ref x0a), (1, .int (nI (zn S))), (2, .int xb), (3, .int xj), (4, .int l9), (5, .int x9), (6, .int 1), (7, .int xi)] [] := by
  have hS := hJ.si
  have hn := hJ.o.n
  have hlc := hJ.si.2.1
  have hnum := hJ.o.num
  have hrow := hJ.o.row
  intro fu
  induction fu with
  | zero => intro i h1 h2; exact absurd h2 (by omega)
  | succ fu ih =>
    intro i hi hf T g l9 x9 hfst xb xj xi exb exj exi
    subst exb exj exi
    refine sw_iload 65 C dL_fits_65 rfl ?_
    refine sw_iload_n 67 1 C dL_fits_67 rfl rfl ?_
    refine sw_icmp_ge 68 187 C dL_fits_68 (by decide) (fun c_68 => ?_) (fun c_68 => ?_)
    · refine sw_iconst 187 C dL_fits_187 0 (by decide) ?_
      refine sw_istore 188 C dL_fits_188 rfl ?_
      refine sw_iconst 190 C dL_fits_190 0 (by decide) ?_
      refine sw_istore 191 C dL_fits_191 rfl ?_
      refine sw_loc (L1 := [(0, .ref _), (1, .int _), (2, .int _), (3, .int _), (4, .int _), (5, .int _), (6, .int _), (7, .int _), (8, .int _)]) ?_ rfl
      refine sw_iconst 193 C dL_fits_193 0 (by decide) ?_
      refine sw_istore 194 C dL_fits_194 rfl ?_
      obtain rfl : i = zn S := by have := nI_ge' (by omega) c_68 (by omega); omega
      exact sw_loc (lp_L_fits2 hJ hfl hz hC (fst_fex hnum hrow hfst) hB0 C RC 9 0 (Nat.zero_le _) (by omega) T g _ _ _ rfl rfl rfl) (by rw [pSum_n, pSum_n, ← smb_sgb]; rfl)
    · have hlt : i < zn S := by
        rcases Nat.lt_or_ge i (zn S) with q | q
        · exact q
        · exact absurd (nI_le (b := i) q (by omega)) c_68
      have hpl := plc_ok hnum hrow hn hlt
      refine sw_iload 71 C dL_fits_71 rfl ?_
      refine sw_if_eq 73 187 C dL_fits_73 (by decide) (fun c_73 => ?_) (fun c_73 => ?_)
      · exact by first | exact absurd c_73 (by decide) | exact absurd (by decide) c_73
      refine sw_aload_n 76 0 C dL_fits_76 rfl rfl ?_
      refine sw_iload 77 C dL_fits_77 rfl ?_
      refine xl_callSI 79 [0, 1, 9] 2 [_, _, _] C hz hC dL_fits_79 (ct_L_peek l hfl hS i (plc (zf S) (zn S) i) rfl hlt hpl.1 (plc_arr hnum hrow hn _ hlt)) wK_L_peek wM_L_106 wT_L_peek wI_L hd_L_peek rfl ⟨rfl, rfl⟩ ⟨Nat.le_of_ble_eq_true rfl, Nat.le_of_ble_eq_true rfl⟩ rfl rfl rfl rfl rfl rfl ?_
      refine sg_segs [_, _, _, _, _, _, _, _, _, _] rfl ?_
      refine sw_istore 82 C dL_fits_82 rfl ?_
      refine sw_aload_n 84 0 C dL_fits_84 rfl rfl ?_
      refine sw_iload 85 C dL_fits_85 rfl ?_
      refine sw_iload 87 C dL_fits_87 rfl ?_
      refine xl_callH 89 [0, 1, 2, 3, 4, 5, 6, 7, 8, 9] 3 C hz hC dL_fits_89 (ct_L_isOne l hfl hJ i hlt rfl rfl) wK_L_isOne wM_L_163 wT_L_isOne wI_L hd_L_isOne rfl ⟨rfl, rfl⟩ ⟨Nat.le_of_ble_eq_true rfl, Nat.le_of_ble_eq_true rfl⟩ rfl rfl rfl rfl (fun v_89 w_89 h_89 => ?_)
      obtain ⟨rfl, z9, hz9, rfl⟩ := h_89
      refine ⟨[_, _, _, _, _, _, _, _, _, _], rfl, rfl, ?_⟩
      refine sw_st (_ :: _) rfl ?_
      refine sg_segs [_, _, _, _, _, _, _, _, _, _] rfl ?_
      refine sw_istore 92 C dL_fits_92 rfl ?_
      refine sw_loc (L1 := [(0, .ref _), (1, .int _), (2, .int _), (3, .int _), (4, .int _), (5, .int _), (6, .int _), (7, .int _), (8, .int _)]) ?_ rfl
      refine sw_aload_n 94 0 C dL_fits_94 rfl rfl ?_
      refine sw_iload 95 C dL_fits_95 rfl ?_
      refine sw_bipush 97 C dL_fits_97 7 (by decide) ?_
      refine xl_callSI 99 [0, 1] 3 [_, _] C hz hC dL_fits_99 (ct_L_one l hfl hS (plc (zf S) (zn S) i) (fnd_num hnum hpl.1) 7 rfl (by decide)) wK_L_one wM_L_108 wT_L_one wI_L hd_L_one rfl ⟨rfl, rfl⟩ ⟨Nat.le_of_ble_eq_true rfl, Nat.le_of_ble_eq_true rfl⟩ rfl rfl rfl rfl rfl rfl ?_
      refine sg_segs [_, _, _, _, _, _, _, _, _, _] rfl ?_
      refine sw_top (show _ = lf (zf S) (plc (zf S) (zn S) i) from rfl) ?_
      refine sw_istore 102 C dL_fits_102 rfl ?_
      refine sw_iload 104 C dL_fits_104 rfl ?_
      refine sw_iload 106 C dL_fits_106 rfl ?_
      refine sw_jn2 132 (fsX l9 x9 (lf (zf S) (plc (zf S) (zn S) i)) (zf S ((plc (zf S) (zn S) i) * 8 + 7))) (fun hj_108 => ?_) ?_
      · refine sw_icmp_lt 108 125 C dL_fits_108 (by decide) (fun c_108 => ?_) (fun c_108 => ?_)
        · refine sw_iload 125 C dL_fits_125 rfl ?_
          refine sw_goto 127 132 C dL_fits_127 (by decide) ?_
          exact sw_top ((if_pos (Or.inl c_108)).symm) hj_108
        · refine sw_iload 111 C dL_fits_111 rfl ?_
          refine sw_iload 113 C dL_fits_113 rfl ?_
          refine sw_icmp_ne 115 130 C dL_fits_115 (by decide) (fun c_115 => ?_) (fun c_115 => ?_)
          · refine sw_iload 130 C dL_fits_130 rfl ?_
            exact sw_top ((if_neg (fun q => q.elim c_108 (fun q => c_115 q.1))).symm) hj_108
          · refine sw_iload 118 C dL_fits_118 rfl ?_
            refine sw_iload 120 C dL_fits_120 rfl ?_
            refine sw_icmp_ge 122 130 C dL_fits_122 (by decide) (fun c_122 => ?_) (fun c_122 => ?_)
            · refine sw_iload 130 C dL_fits_130 rfl ?_
              exact sw_top ((if_neg (fun q => q.elim c_108 (fun q => absurd q.2 (Int32.not_lt.mpr c_122)))).symm) hj_108
            · refine sw_iload 125 C dL_fits_125 rfl ?_
              refine sw_goto 127 132 C dL_fits_127 (by decide) ?_
              exact sw_top ((if_pos (Or.inr ⟨c_115, Int32.not_le.mp c_122⟩)).symm) hj_108
      refine sw_istore 132 C dL_fits_132 rfl ?_
      refine sw_loc (L1 := [(0, .ref _), (1, .int _), (2, .int _), (3, .int _), (4, .int _), (5, .int _), (6, .int _), (7, .int _), (8, .int _), (9, .int _)]) ?_ rfl
      refine sw_iload 134 C dL_fits_134 rfl ?_
      refine sw_iload 136 C dL_fits_136 rfl ?_
      refine sw_jn2 148 (fsL l9 (lf (zf S) (plc (zf S) (zn S) i))) (fun hj_138 => ?_) ?_
      · refine sw_icmp_ge 138 146 C dL_fits_138 (by decide) (fun c_138 => ?_) (fun c_138 => ?_)
        · refine sw_iload 146 C dL_fits_146 rfl ?_
          exact sw_top ((if_neg (Int32.not_lt.mpr c_138)).symm) hj_138
        · refine sw_iload 141 C dL_fits_141 rfl ?_
          refine sw_goto 143 148 C dL_fits_143 (by decide) ?_
          exact sw_top ((if_pos (Int32.not_le.mp c_138)).symm) hj_138
      refine sw_istore 148 C dL_fits_148 rfl ?_
      refine sw_iload_n 150 2 C dL_fits_150 rfl rfl ?_
      refine sw_aload_n 151 0 C dL_fits_151 rfl rfl ?_
      refine sw_iload 152 C dL_fits_152 rfl ?_
      refine sw_bipush 154 C dL_fits_154 6 (by decide) ?_
      refine xl_callSI 156 [0, 1] 3 [_, _] C hz hC dL_fits_156 (ct_L_one l hfl hS (plc (zf S) (zn S) i) (fnd_num hnum hpl.1) 6 rfl (by decide)) wK_L_one wM_L_108 wT_L_one wI_L hd_L_one rfl ⟨rfl, rfl⟩ ⟨Nat.le_of_ble_eq_true rfl, Nat.le_of_ble_eq_true rfl⟩ rfl rfl rfl rfl rfl rfl ?_
      refine sg_segs [_, _, _, _, _, _, _, _, _, _] rfl ?_
      refine sw_top (show _ = zf S ((plc (zf S) (zn S) i) * 8 + 6) from rfl) ?_
      refine sw_iadd 159 C dL_fits_159 ?_
      refine sw_top (pSum_s hnum hrow hn (fun i => zf S (i * 8 + 6)) hlt) ?_
      refine sw_istore_n 160 2 C dL_fits_160 rfl rfl ?_
      refine sw_loc (L1 := [(0, .ref _), (1, .int _), (2, .int _), (3, .int _), (4, .int _), (5, .int _), (6, .int _), (7, .int _), (8, .int _), (9, .int _)]) ?_ rfl
      refine sw_iload_n 161 3 C dL_fits_161 rfl rfl ?_
      refine sw_aload_n 162 0 C dL_fits_162 rfl rfl ?_
      refine sw_iload 163 C dL_fits_163 rfl ?_
      refine sw_bipush 165 C dL_fits_165 9 (by decide) ?_
      refine xl_callSI 167 [0, 1] 3 [_, _] C hz hC dL_fits_167 (ct_L_one l hfl hS (plc (zf S) (zn S) i) (fnd_num hnum hpl.1) 9 rfl (by decide)) wK_L_one wM_L_108 wT_L_one wI_L hd_L_one rfl ⟨rfl, rfl⟩ ⟨Nat.le_of_ble_eq_true rfl, Nat.le_of_ble_eq_true rfl⟩ rfl rfl rfl rfl rfl rfl ?_
      refine sg_segs [_, _, _, _, _, _, _, _, _, _] rfl ?_
      refine sw_top (show _ = knd (zf S) (plc (zf S) (zn S) i) from rfl) ?_
      refine sw_iconst 170 C dL_fits_170 2 (by decide) ?_
      refine sw_jn2 179 (jnt (zf S) (plc (zf S) (zn S) i)) (fun hj_171 => ?_) ?_
      · refine sw_icmp_ne 171 178 C dL_fits_171 (by decide) (fun c_171 => ?_) (fun c_171 => ?_)
        · refine sw_iconst 178 C dL_fits_178 0 (by decide) ?_
          exact sw_top ((if_neg c_171).symm) hj_171
        · refine sw_iconst 174 C dL_fits_174 1 (by decide) ?_
          refine sw_goto 175 179 C dL_fits_175 (by decide) ?_
          exact sw_top ((if_pos c_171).symm) hj_171
      refine sw_iadd 179 C dL_fits_179 ?_
      refine sw_top (pSum_s hnum hrow hn (jnt (zf S)) hlt) ?_
      refine sw_istore_n 180 3 C dL_fits_180 rfl rfl ?_
      refine sw_iinc 181 C 1 dL_fits_181 (by decide) rfl rfl ?_
      refine sw_loc (L1 := [(0, .ref _), (1, .int _), (2, .int _), (3, .int _), (4, .int _), (5, .int _), (6, .int _), (7, .int _), (8, .int _), (9, .int _)]) ?_ rfl
      refine sw_goto 184 65 C dL_fits_184 (by decide) ?_
      exact sw_loc (ih (i + 1) (by omega) (by omega) _ _ _ _ (fst_s hnum hrow hn hlt hfst) _ _ _ rfl rfl (nI_1 i)) rfl
set_option maxHeartbeats 8000000 in
set_option maxRecDepth 100000 in
theorem ct_L_fits (l : Launch) (hfl : l.stackTraces = false) {D : va_G} {cI cJ cQ : ClassId} {x0a a0 a1 a2 a3 a4 a5 a6 a7 tr0 tr1 tr2 tr3 tr4 tr5 tr6 tr7 s0 s1 ra0 ra1 ra2 ra3 ra4 ra5 ra6 ra7 rb0 rb1 rb2 rb3 rb4 rb5 rb6 rb7 rc0 rc1 rc2 rc3 rc4 rc5 rc6 rc7 rd0 rd1 rd2 rd3 rd4 rd5 rd6 rd7 r0 t0 t1 w0 : Nat} {h : Nat → Option Nat} {S T : StT} {R : Nat → StT} {cn od ln : Nat} {by_ g : Nat → Int32} {X : RS} {B U : Nat} (hJ : JI B U S) (hB0 : B < 2 ^ 29) : LCt l yL_fits (Cond.code yL_fits cL_fits 11 (some .boolean)) 11 217 0 0 D (tyz cI cJ cQ) [.ref x0a] (flatS [[(x0a, .inr (6, [.ref a0, .ref tr0, .ref s0, .ref r0, .ref w0]))], (wSt a0 a1 a2 a3 a4 a5 a6 a7 cI (S)), [(s0, .inr (3, [.int (nI (cn)), .int (nI (od)), .ref s1])), (s1, .inl (cQ, 4, .inr (.inr (.inr (.inr h)))))], (wSt ra0 ra1 ra2 ra3 ra4 ra5 ra6 ra7 cI ((R) 0)), (wSt rb0 rb1 rb2 rb3 rb4 rb5 rb6 rb7 cI ((R) 1)), (wSt rc0 rc1 rc2 rc3 rc4 rc5 rc6 rc7 cI ((R) 2)), (wSt rd0 rd1 rd2 rd3 rd4 rd5 rd6 rd7 cI ((R) 3)), (wSt tr0 tr1 tr2 tr3 tr4 tr5 tr6 tr7 cI (T)), (wRd r0 t0 t1 cI (ln) (by_) (X)), [(w0, .inl (cI, 40, .inl (g)))]]) (pstE 1 (fun _ : StT × (Nat → Int32) => True) (fun z : StT × (Nat → Int32) => (flatS [[(x0a, .inr (6, [.ref a0, .ref tr0, .ref s0, .ref r0, .ref w0]))], (wSt a0 a1 a2 a3 a4 a5 a6 a7 cI (S)), [(s0, .inr (3, [.int (nI (cn)), .int (nI (od)), .ref s1])), (s1, .inl (cQ, 4, .inr (.inr (.inr (.inr h)))))], (wSt ra0 ra1 ra2 ra3 ra4 ra5 ra6 ra7 cI ((R) 0)), (wSt rb0 rb1 rb2 rb3 rb4 rb5 rb6 rb7 cI ((R) 1)), (wSt rc0 rc1 rc2 rc3 rc4 rc5 rc6 rc7 cI ((R) 2)), (wSt rd0 rd1 rd2 rd3 rd4 rd5 rd6 rd7 cI ((R) 3)), (wSt tr0 tr1 tr2 tr3 tr4 tr5 tr6 tr7 cI (z.1)), (wRd r0 t0 t1 cI (ln) (by_) (X)), [(w0, .inl (cI, 40, .inl (z.2)))]]))) := by
  refine LCt.ofC RL (by decide) rfl (Nat.le_of_ble_eq_true rfl) ?_
  intro p e s m below meth c A C RC hz hC
  have hS := hJ.si
  have hn := hJ.o.n
  have hlc := hJ.si.2.1
  have hnum := hJ.o.num
  have hrow := hJ.o.row
  obtain ⟨a9, b9, c9, k1, k2, k3, k4, k5, k6⟩ := hJ.c
  have hsum : zp S = nI (zn S) + zlv S 0 + zlv S 1 + zlv S 2 := by
    rw [k1, k2, k3, k4, nI_add, nI_add, nI_add]
    exact congrArg nI (by omega)
  refine sw_aload_n 0 0 C dL_fits_0 rfl rfl ?_
  refine sw_iconst 1 C dL_fits_1 0 (by decide) ?_
  refine xl_callSI 2 [0, 1] 2 [_, _] C hz hC dL_fits_2 (ct_L_value l hfl hS 0 rfl (by decide)) wK_L_value wM_L_95 wT_L_value wI_L hd_L_value rfl ⟨rfl, rfl⟩ ⟨Nat.le_of_ble_eq_true rfl, Nat.le_of_ble_eq_true rfl⟩ rfl rfl rfl rfl rfl rfl ?_
  refine sg_segs [_, _, _, _, _, _, _, _, _, _] rfl ?_
  refine sw_top (show _ = nI (zn S) from rfl) ?_
  refine sw_istore_n 5 1 C dL_fits_5 rfl rfl ?_
  refine sw_iconst 6 C dL_fits_6 0 (by decide) ?_
  refine sw_istore_n 7 2 C dL_fits_7 rfl rfl ?_
  refine sw_loc (L1 := [(0, .ref _), (1, .int _), (2, .int _)]) ?_ rfl
  refine sw_iconst 8 C dL_fits_8 0 (by decide) ?_
  refine sw_istore_n 9 3 C dL_fits_9 rfl rfl ?_
  refine sw_sipush 10 C dL_fits_10 300 (by decide) ?_
  refine sw_istore 13 C dL_fits_13 rfl ?_
  refine sw_loc (L1 := [(0, .ref _), (1, .int _), (2, .int _), (3, .int _), (4, .int _)]) ?_ rfl
  refine sw_iconst 15 C dL_fits_15 (-1) (by decide) ?_
  refine sw_istore 16 C dL_fits_16 rfl ?_
  refine sw_iload_n 18 1 C dL_fits_18 rfl rfl ?_
  refine sw_if_lt 19 59 C dL_fits_19 (by decide) (fun c_19 => ?_) (fun c_19 => ?_)
  · exact by first | exact absurd c_19 (nI_pos (by omega)) | exact absurd (nI_pos (by omega)) c_19
  refine sw_iload_n 22 1 C dL_fits_22 rfl rfl ?_
  refine sw_bipush 23 C dL_fits_23 40 (by decide) ?_
  refine sw_icmp_gt 25 59 C dL_fits_25 (by decide) (fun c_25 => ?_) (fun c_25 => ?_)
  · exact by first | exact absurd c_25 (Int32.not_lt.mpr (nI_le hn (by decide))) | exact absurd (Int32.not_lt.mpr (nI_le hn (by decide))) c_25
  refine sw_aload_n 28 0 C dL_fits_28 rfl rfl ?_
  refine sw_iconst 29 C dL_fits_29 2 (by decide) ?_
  refine xl_callSI 30 [0, 1] 2 [_, _] C hz hC dL_fits_30 (ct_L_value l hfl hS 2 rfl (by decide)) wK_L_value wM_L_95 wT_L_value wI_L hd_L_value rfl ⟨rfl, rfl⟩ ⟨Nat.le_of_ble_eq_true rfl, Nat.le_of_ble_eq_true rfl⟩ rfl rfl rfl rfl rfl rfl ?_
  refine sg_segs [_, _, _, _, _, _, _, _, _, _] rfl ?_
  refine sw_top (show _ = zp S from rfl) ?_
  refine sw_iload_n 33 1 C dL_fits_33 rfl rfl ?_
  refine sw_aload_n 34 0 C dL_fits_34 rfl rfl ?_
  refine sw_iconst 35 C dL_fits_35 3 (by decide) ?_
  refine xl_callSI 36 [0, 1] 2 [_, _] C hz hC dL_fits_36 (ct_L_value l hfl hS 3 rfl (by decide)) wK_L_value wM_L_95 wT_L_value wI_L hd_L_value rfl ⟨rfl, rfl⟩ ⟨Nat.le_of_ble_eq_true rfl, Nat.le_of_ble_eq_true rfl⟩ rfl rfl rfl rfl rfl rfl ?_
  refine sg_segs [_, _, _, _, _, _, _, _, _, _] rfl ?_
  refine sw_top (show _ = zlv S 0 from rfl) ?_
  refine sw_iadd 39 C dL_fits_39 ?_
  refine sw_aload_n 40 0 C dL_fits_40 rfl rfl ?_
  refine sw_iconst 41 C dL_fits_41 4 (by decide) ?_
  refine xl_callSI 42 [0, 1] 2 [_, _] C hz hC dL_fits_42 (ct_L_value l hfl hS 4 rfl (by decide)) wK_L_value wM_L_95 wT_L_value wI_L hd_L_value rfl ⟨rfl, rfl⟩ ⟨Nat.le_of_ble_eq_true rfl, Nat.le_of_ble_eq_true rfl⟩ rfl rfl rfl rfl rfl rfl ?_
  refine sg_segs [_, _, _, _, _, _, _, _, _, _] rfl ?_
  refine sw_top (show _ = zlv S 1 from rfl) ?_
  refine sw_iadd 45 C dL_fits_45 ?_
  refine sw_aload_n 46 0 C dL_fits_46 rfl rfl ?_
  refine sw_iconst 47 C dL_fits_47 5 (by decide) ?_
  refine xl_callSI 48 [0, 1] 2 [_, _] C hz hC dL_fits_48 (ct_L_value l hfl hS 5 rfl (by decide)) wK_L_value wM_L_95 wT_L_value wI_L hd_L_value rfl ⟨rfl, rfl⟩ ⟨Nat.le_of_ble_eq_true rfl, Nat.le_of_ble_eq_true rfl⟩ rfl rfl rfl rfl rfl rfl ?_
  refine sg_segs [_, _, _, _, _, _, _, _, _, _] rfl ?_
  refine sw_top (show _ = zlv S 2 from rfl) ?_
  refine sw_iadd 51 C dL_fits_51 ?_
  refine sw_icmp_ne 52 59 C dL_fits_52 (by decide) (fun c_52 => ?_) (fun c_52 => ?_)
  · exact by first | exact absurd c_52 (hsum) | exact absurd (hsum) c_52
  refine sw_iconst 55 C dL_fits_55 1 (by decide) ?_
  refine sw_goto 56 60 C dL_fits_56 (by decide) ?_
  refine sw_istore 60 C dL_fits_60 rfl ?_
  refine sw_loc (L1 := [(0, .ref _), (1, .int _), (2, .int _), (3, .int _), (4, .int _), (5, .int _), (6, .int _)]) ?_ rfl
  refine sw_iconst 62 C dL_fits_62 0 (by decide) ?_
  refine sw_istore 63 C dL_fits_63 rfl ?_
  exact sw_loc (lp_L_fits1 hJ hfl hz hC hB0 C RC (zn S + 1) 0 (Nat.zero_le _) (by omega) T g 300 (-1) (Or.inl ⟨rfl, rfl, rfl⟩) _ _ _ rfl rfl rfl) (by rw [pSum_0, pSum_0]; rfl)
