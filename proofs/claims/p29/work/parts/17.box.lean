def zq_ (S : StT) (x : Int32) : StT := ((x, zg S, zv S, zt S, zp S, zk S), S.2)
def zg_ (S : StT) (x : Int32) : StT := ((zq S, x, zv S, zt S, zp S, zk S), S.2)
def zpat_ (S : StT) (r : Nat) (x : Int32) : StT := (S.1, S.2.1, upd (zpat S) r x, S.2.2.2)
def pinS (S : StT) (x1 x2 x3 x4 x5 : Int32) : StT := ((zq S, zg S, zv S, zt S, zp S + 1, zk S), (zn S + 1, zl S), zpat S, pin (zf S) (zn S) (zp S) x1 x2 x3 x4 x5, zlg S, zlv S, zbk S)
theorem i32_lt4 {x : Int32} (h : x < 4) : x ≤ 3 := by
  rw [Int32.lt_iff_toInt_lt, show (4 : Int32).toInt = 4 from by decide] at h
  rw [Int32.le_iff_toInt_le, show (3 : Int32).toInt = 3 from by decide]
  omega
theorem hrf_lt {f : Nat → Int32} {n : Nat} {q x y : Int32} (h : hrf f n q x y = true) : n < 40 := by
  unfold hrf at h
  rw [Bool.and_eq_true, Bool.and_eq_true] at h
  exact of_decide_eq_true h.1.1
set_option maxHeartbeats 4000000 in
set_option maxRecDepth 100000 in
theorem ct_X6_setQuota (l : Launch) {D : va_G} {cI cJ cQ : ClassId} {x0a a0 a1 a2 a3 a4 a5 a6 a7 tr0 s0 s1 r0 w0 ra0 ra1 ra2 ra3 ra4 ra5 ra6 ra7 rb0 rb1 rb2 rb3 rb4 rb5 rb6 rb7 rc0 rc1 rc2 rc3 rc4 rc5 rc6 rc7 rd0 rd1 rd2 rd3 rd4 rd5 rd6 rd7 : Nat} {h : Nat → Option Nat} {S : StT} {R : Nat → StT} {cn od : Nat} {x : Int32} (hS : SI S) (hcn : cn ≤ 4) (hod : od < 4) (hh0 : h 0 = some ra0) (hh1 : h 1 = some rb0) (hh2 : h 2 = some rc0) (hh3 : h 3 = some rd0) (hx : inR x 0 10 = true) : Ct l yX6_setQuota (Cond.code yX6_setQuota cX6_setQuota 3 (some .int)) 8 142 0 0 D (tyz cI cJ cQ) [.ref x0a, .int x] (flatS [[(x0a, .inr (6, [.ref a0, .ref tr0, .ref s0, .ref r0, .ref w0]))], (wSt a0 a1 a2 a3 a4 a5 a6 a7 cI (S)), [(s0, .inr (3, [.int (nI (cn)), .int (nI (od)), .ref s1])), (s1, .inl (cQ, 4, .inr (.inr (.inr (.inr h)))))], (wSt ra0 ra1 ra2 ra3 ra4 ra5 ra6 ra7 cI ((R) 0)), (wSt rb0 rb1 rb2 rb3 rb4 rb5 rb6 rb7 cI ((R) 1)), (wSt rc0 rc1 rc2 rc3 rc4 rc5 rc6 rc7 cI ((R) 2)), (wSt rd0 rd1 rd2 rd3 rd4 rd5 rd6 rd7 cI ((R) 3))]) (pstI (zq S) (flatS [[(x0a, .inr (6, [.ref a0, .ref tr0, .ref s0, .ref r0, .ref w0]))], (wSt a0 a1 a2 a3 a4 a5 a6 a7 cI (zq_ S x)), [(s0, .inr (3, [.int (nI (svC cn)), .int (nI (svO cn od)), .ref s1])), (s1, .inl (cQ, 4, .inr (.inr (.inr (.inr h)))))], (wSt ra0 ra1 ra2 ra3 ra4 ra5 ra6 ra7 cI ((va_up R (svI cn od) S) 0)), (wSt rb0 rb1 rb2 rb3 rb4 rb5 rb6 rb7 cI ((va_up R (svI cn od) S) 1)), (wSt rc0 rc1 rc2 rc3 rc4 rc5 rc6 rc7 cI ((va_up R (svI cn od) S) 2)), (wSt rd0 rd1 rd2 rd3 rd4 rd5 rd6 rd7 cI ((va_up R (svI cn od) S) 3))])) := by
  refine Ct.of RX6 (by decide) rfl (Nat.le_of_ble_eq_true rfl) ?_
  intro p e s m below meth c A C RC
  refine sw_iload_n 0 1 C dX6_setQuota_0 rfl rfl ?_
  refine sw_iconst 1 C dX6_setQuota_1 0 (by decide) ?_
  refine sw_bipush 2 C dX6_setQuota_2 10 (by decide) ?_
  refine sg_callSV 4 [] 3 [] C dX6_setQuota_4 (ct_X6_checkRange l hx) wK_X6_checkRange wM_X6_47 wT_X6_checkRange wI_X6 hd_X6_checkRange rfl ⟨rfl, rfl⟩ ⟨Nat.le_of_ble_eq_true rfl, Nat.le_of_ble_eq_true rfl⟩ rfl rfl rfl rfl rfl rfl ?_
  refine sg_segs [_, _, _, _, _, _, _] rfl ?_
  refine sw_aload_n 7 0 C dX6_setQuota_7 rfl rfl ?_
  refine sg_get 8 0 0 2 C dX6_setQuota_8 rfl rfl rfl (inA lwX6) (C.w wF_X6_22) rfl rfl rfl ?_
  refine sw_aload_n 11 0 C dX6_setQuota_11 rfl rfl ?_
  refine sg_get 12 0 0 0 C dX6_setQuota_12 rfl rfl rfl (inA lwX6) (C.w wF_X6_10) rfl rfl rfl ?_
  refine sg_callVV 15 [2, 1, 3, 4, 5, 6] 1 0 [_, _, _, _, _, _] C dX6_setQuota_15 (ct_X3_add l hcn hod hh0 hh1 hh2 hh3) wK_X3_add wM_X6_51 wN_X3_add wS_X3_X3_add wI_X3 hd_X3_add rfl rfl rfl ⟨rfl, rfl⟩ ⟨Nat.le_of_ble_eq_true rfl, Nat.le_of_ble_eq_true rfl⟩ rfl rfl rfl rfl rfl rfl ?_
  refine sg_segs [_, _, _, _, _, _, _] rfl ?_
  refine sw_aload_n 18 0 C dX6_setQuota_18 rfl rfl ?_
  refine sg_get 19 0 0 0 C dX6_setQuota_19 rfl rfl rfl (inA lwX6) (C.w wF_X6_10) rfl rfl rfl ?_
  refine sg_get 22 1 0 0 C dX6_setQuota_22 rfl rfl rfl (inA lwX4) (C.w wF_X6_55) rfl rfl rfl ?_
  refine sw_istore_n 25 2 C dX6_setQuota_25 rfl rfl ?_
  refine sw_aload_n 26 0 C dX6_setQuota_26 rfl rfl ?_
  refine sg_get 27 0 0 0 C dX6_setQuota_27 rfl rfl rfl (inA lwX6) (C.w wF_X6_10) rfl rfl rfl ?_
  refine sw_iload_n 30 1 C dX6_setQuota_30 rfl rfl ?_
  refine sg_put 31 1 0 0 tyX4 C dX6_setQuota_31 rfl rfl rfl (inA lwX4) tyX4_ok nmX4 (C.w wF_X6_55) rfl rfl rfl rfl rfl rfl rfl ?_
  refine sg_segs [_, [(_, .inr (4, [.int _, .int _, .int _, .ref _, .ref _, .ref _, .int _, .int _, .int _, .ref _, .ref _])), (_, .inl (_, _, .inl _)), (_, .inr (2, [.int _, .ref _])), (_, .inl (_, _, .inl _)), (_, .inr (0, [.int _, .ref _])), (_, .inl (_, _, .inl _)), (_, .inl (_, _, .inl _)), (_, .inl (_, _, .inl _))], _, _, _, _, _] rfl ?_
  refine sw_iload_n 34 2 C dX6_setQuota_34 rfl rfl ?_
  refine sw_iret 35 C RC dX6_setQuota_35 ?_
  exact ⟨rfl, rfl⟩
set_option maxHeartbeats 4000000 in
set_option maxRecDepth 100000 in
theorem xt_X6_setQuota (l : Launch) (hfl : l.stackTraces = false) {D : va_G} {cI cJ cQ : ClassId} {x0a a0 a1 a2 a3 a4 a5 a6 a7 tr0 s0 r0 w0 : Nat} {S : StT} {x : Int32} (hx : inR x 0 10 = false) : XCt l yX6_setQuota (Cond.code yX6_setQuota cX6_setQuota 3 (some .int)) 8 142 1 6 D (tyz cI cJ cQ) [.ref x0a, .int x] (flatS [[(x0a, .inr (6, [.ref a0, .ref tr0, .ref s0, .ref r0, .ref w0]))], (wSt a0 a1 a2 a3 a4 a5 a6 a7 cI (S))]) (fun _ _ => False) (fun E => E = "java/lang/IllegalArgumentException") := by
  refine XCt.of RX6 (by decide) rfl (Nat.le_of_ble_eq_true rfl) ?_
  intro p e s m below meth c A C RC XT
  refine sw_iload_n 0 1 C dX6_setQuota_0 rfl rfl ?_
  refine sw_iconst 1 C dX6_setQuota_1 0 (by decide) ?_
  refine sw_bipush 2 C dX6_setQuota_2 10 (by decide) ?_
  exact xg_thrS 4 [] 3 C RC XT dX6_setQuota_4 (xt_X6_checkRange l hfl hx) (fun _ h => h) wK_X6_checkRange wM_X6_47 wT_X6_checkRange wI_X6 hd_X6_checkRange rfl ⟨rfl, rfl⟩ ⟨(Nat.le_of_ble_eq_true rfl), (Nat.le_of_ble_eq_true rfl)⟩ rfl ⟨(Nat.le_of_ble_eq_true rfl), (Nat.le_of_ble_eq_true rfl)⟩ rfl rfl rfl
set_option maxHeartbeats 4000000 in
set_option maxRecDepth 100000 in
theorem ct_X6_setGrace (l : Launch) {D : va_G} {cI cJ cQ : ClassId} {x0a a0 a1 a2 a3 a4 a5 a6 a7 tr0 s0 s1 r0 w0 ra0 ra1 ra2 ra3 ra4 ra5 ra6 ra7 rb0 rb1 rb2 rb3 rb4 rb5 rb6 rb7 rc0 rc1 rc2 rc3 rc4 rc5 rc6 rc7 rd0 rd1 rd2 rd3 rd4 rd5 rd6 rd7 : Nat} {h : Nat → Option Nat} {S : StT} {R : Nat → StT} {cn od : Nat} {x : Int32} (hS : SI S) (hcn : cn ≤ 4) (hod : od < 4) (hh0 : h 0 = some ra0) (hh1 : h 1 = some rb0) (hh2 : h 2 = some rc0) (hh3 : h 3 = some rd0) (hx : inR x 0 200 = true) : Ct l yX6_setGrace (Cond.code yX6_setGrace cX6_setGrace 3 (some .int)) 8 142 0 0 D (tyz cI cJ cQ) [.ref x0a, .int x] (flatS [[(x0a, .inr (6, [.ref a0, .ref tr0, .ref s0, .ref r0, .ref w0]))], (wSt a0 a1 a2 a3 a4 a5 a6 a7 cI (S)), [(s0, .inr (3, [.int (nI (cn)), .int (nI (od)), .ref s1])), (s1, .inl (cQ, 4, .inr (.inr (.inr (.inr h)))))], (wSt ra0 ra1 ra2 ra3 ra4 ra5 ra6 ra7 cI ((R) 0)), (wSt rb0 rb1 rb2 rb3 rb4 rb5 rb6 rb7 cI ((R) 1)), (wSt rc0 rc1 rc2 rc3 rc4 rc5 rc6 rc7 cI ((R) 2)), (wSt rd0 rd1 rd2 rd3 rd4 rd5 rd6 rd7 cI ((R) 3))]) (pstI (zg S) (flatS [[(x0a, .inr (6, [.ref a0, .ref tr0, .ref s0, .ref r0, .ref w0]))], (wSt a0 a1 a2 a3 a4 a5 a6 a7 cI (zg_ S x)), [(s0, .inr (3, [.int (nI (svC cn)), .int (nI (svO cn od)), .ref s1])), (s1, .inl (cQ, 4, .inr (.inr (.inr (.inr h)))))], (wSt ra0 ra1 ra2 ra3 ra4 ra5 ra6 ra7 cI ((va_up R (svI cn od) S) 0)), (wSt rb0 rb1 rb2 rb3 rb4 rb5 rb6 rb7 cI ((va_up R (svI cn od) S) 1)), (wSt rc0 rc1 rc2 rc3 rc4 rc5 rc6 rc7 cI ((va_up R (svI cn od) S) 2)), (wSt rd0 rd1 rd2 rd3 rd4 rd5 rd6 rd7 cI ((va_up R (svI cn od) S) 3))])) := by
  refine Ct.of RX6 (by decide) rfl (Nat.le_of_ble_eq_true rfl) ?_
  intro p e s m below meth c A C RC
  refine sw_iload_n 0 1 C dX6_setGrace_0 rfl rfl ?_
  refine sw_iconst 1 C dX6_setGrace_1 0 (by decide) ?_
  refine sw_sipush 2 C dX6_setGrace_2 200 (by decide) ?_
  refine sg_callSV 5 [] 3 [] C dX6_setGrace_5 (ct_X6_checkRange l hx) wK_X6_checkRange wM_X6_47 wT_X6_checkRange wI_X6 hd_X6_checkRange rfl ⟨rfl, rfl⟩ ⟨Nat.le_of_ble_eq_true rfl, Nat.le_of_ble_eq_true rfl⟩ rfl rfl rfl rfl rfl rfl ?_
  refine sg_segs [_, _, _, _, _, _, _] rfl ?_
  refine sw_aload_n 8 0 C dX6_setGrace_8 rfl rfl ?_
  refine sg_get 9 0 0 2 C dX6_setGrace_9 rfl rfl rfl (inA lwX6) (C.w wF_X6_22) rfl rfl rfl ?_
  refine sw_aload_n 12 0 C dX6_setGrace_12 rfl rfl ?_
  refine sg_get 13 0 0 0 C dX6_setGrace_13 rfl rfl rfl (inA lwX6) (C.w wF_X6_10) rfl rfl rfl ?_
  refine sg_callVV 16 [2, 1, 3, 4, 5, 6] 1 0 [_, _, _, _, _, _] C dX6_setGrace_16 (ct_X3_add l hcn hod hh0 hh1 hh2 hh3) wK_X3_add wM_X6_51 wN_X3_add wS_X3_X3_add wI_X3 hd_X3_add rfl rfl rfl ⟨rfl, rfl⟩ ⟨Nat.le_of_ble_eq_true rfl, Nat.le_of_ble_eq_true rfl⟩ rfl rfl rfl rfl rfl rfl ?_
  refine sg_segs [_, _, _, _, _, _, _] rfl ?_
  refine sw_aload_n 19 0 C dX6_setGrace_19 rfl rfl ?_
  refine sg_get 20 0 0 0 C dX6_setGrace_20 rfl rfl rfl (inA lwX6) (C.w wF_X6_10) rfl rfl rfl ?_
  refine sg_get 23 1 0 1 C dX6_setGrace_23 rfl rfl rfl (inA lwX4) (C.w wF_X6_59) rfl rfl rfl ?_
  refine sw_istore_n 26 2 C dX6_setGrace_26 rfl rfl ?_
  refine sw_aload_n 27 0 C dX6_setGrace_27 rfl rfl ?_
  refine sg_get 28 0 0 0 C dX6_setGrace_28 rfl rfl rfl (inA lwX6) (C.w wF_X6_10) rfl rfl rfl ?_
  refine sw_iload_n 31 1 C dX6_setGrace_31 rfl rfl ?_
  refine sg_put 32 1 0 1 tyX4 C dX6_setGrace_32 rfl rfl rfl (inA lwX4) tyX4_ok nmX4 (C.w wF_X6_59) rfl rfl rfl rfl rfl rfl rfl ?_
  refine sg_segs [_, [(_, .inr (4, [.int _, .int _, .int _, .ref _, .ref _, .ref _, .int _, .int _, .int _, .ref _, .ref _])), (_, .inl (_, _, .inl _)), (_, .inr (2, [.int _, .ref _])), (_, .inl (_, _, .inl _)), (_, .inr (0, [.int _, .ref _])), (_, .inl (_, _, .inl _)), (_, .inl (_, _, .inl _)), (_, .inl (_, _, .inl _))], _, _, _, _, _] rfl ?_
  refine sw_iload_n 35 2 C dX6_setGrace_35 rfl rfl ?_
  refine sw_iret 36 C RC dX6_setGrace_36 ?_
  exact ⟨rfl, rfl⟩
set_option maxHeartbeats 4000000 in
set_option maxRecDepth 100000 in
theorem xt_X6_setGrace (l : Launch) (hfl : l.stackTraces = false) {D : va_G} {cI cJ cQ : ClassId} {x0a a0 a1 a2 a3 a4 a5 a6 a7 tr0 s0 r0 w0 : Nat} {S : StT} {x : Int32} (hx : inR x 0 200 = false) : XCt l yX6_setGrace (Cond.code yX6_setGrace cX6_setGrace 3 (some .int)) 8 142 1 6 D (tyz cI cJ cQ) [.ref x0a, .int x] (flatS [[(x0a, .inr (6, [.ref a0, .ref tr0, .ref s0, .ref r0, .ref w0]))], (wSt a0 a1 a2 a3 a4 a5 a6 a7 cI (S))]) (fun _ _ => False) (fun E => E = "java/lang/IllegalArgumentException") := by
  refine XCt.of RX6 (by decide) rfl (Nat.le_of_ble_eq_true rfl) ?_
  intro p e s m below meth c A C RC XT
  refine sw_iload_n 0 1 C dX6_setGrace_0 rfl rfl ?_
  refine sw_iconst 1 C dX6_setGrace_1 0 (by decide) ?_
  refine sw_sipush 2 C dX6_setGrace_2 200 (by decide) ?_
  exact xg_thrS 5 [] 3 C RC XT dX6_setGrace_5 (xt_X6_checkRange l hfl hx) (fun _ h => h) wK_X6_checkRange wM_X6_47 wT_X6_checkRange wI_X6 hd_X6_checkRange rfl ⟨rfl, rfl⟩ ⟨(Nat.le_of_ble_eq_true rfl), (Nat.le_of_ble_eq_true rfl)⟩ rfl ⟨(Nat.le_of_ble_eq_true rfl), (Nat.le_of_ble_eq_true rfl)⟩ rfl rfl rfl
set_option maxHeartbeats 4000000 in
set_option maxRecDepth 100000 in
theorem ct_X6_setPatience (l : Launch) {D : va_G} {cI cJ cQ : ClassId} {x0a a0 a1 a2 a3 a4 a5 a6 a7 tr0 s0 s1 r0 w0 ra0 ra1 ra2 ra3 ra4 ra5 ra6 ra7 rb0 rb1 rb2 rb3 rb4 rb5 rb6 rb7 rc0 rc1 rc2 rc3 rc4 rc5 rc6 rc7 rd0 rd1 rd2 rd3 rd4 rd5 rd6 rd7 : Nat} {h : Nat → Option Nat} {S : StT} {R : Nat → StT} {cn od : Nat} {x1 x2 : Int32} (hS : SI S) (hcn : cn ≤ 4) (hod : od < 4) (hh0 : h 0 = some ra0) (hh1 : h 1 = some rb0) (hh2 : h 2 = some rc0) (hh3 : h 3 = some rd0) (r : Nat) (h1 : x1 = nI r) (hr : r < 4) (hx : inR x2 1 50 = true) : Ct l yX6_setPatience (Cond.code yX6_setPatience cX6_setPatience 4 (some .int)) 8 142 0 0 D (tyz cI cJ cQ) [.ref x0a, .int x1, .int x2] (flatS [[(x0a, .inr (6, [.ref a0, .ref tr0, .ref s0, .ref r0, .ref w0]))], (wSt a0 a1 a2 a3 a4 a5 a6 a7 cI (S)), [(s0, .inr (3, [.int (nI (cn)), .int (nI (od)), .ref s1])), (s1, .inl (cQ, 4, .inr (.inr (.inr (.inr h)))))], (wSt ra0 ra1 ra2 ra3 ra4 ra5 ra6 ra7 cI ((R) 0)), (wSt rb0 rb1 rb2 rb3 rb4 rb5 rb6 rb7 cI ((R) 1)), (wSt rc0 rc1 rc2 rc3 rc4 rc5 rc6 rc7 cI ((R) 2)), (wSt rd0 rd1 rd2 rd3 rd4 rd5 rd6 rd7 cI ((R) 3))]) (pstI (zpat S r) (flatS [[(x0a, .inr (6, [.ref a0, .ref tr0, .ref s0, .ref r0, .ref w0]))], (wSt a0 a1 a2 a3 a4 a5 a6 a7 cI (zpat_ S r x2)), [(s0, .inr (3, [.int (nI (svC cn)), .int (nI (svO cn od)), .ref s1])), (s1, .inl (cQ, 4, .inr (.inr (.inr (.inr h)))))], (wSt ra0 ra1 ra2 ra3 ra4 ra5 ra6 ra7 cI ((va_up R (svI cn od) S) 0)), (wSt rb0 rb1 rb2 rb3 rb4 rb5 rb6 rb7 cI ((va_up R (svI cn od) S) 1)), (wSt rc0 rc1 rc2 rc3 rc4 rc5 rc6 rc7 cI ((va_up R (svI cn od) S) 2)), (wSt rd0 rd1 rd2 rd3 rd4 rd5 rd6 rd7 cI ((va_up R (svI cn od) S) 3))])) := by
  refine Ct.of RX6 (by decide) rfl (Nat.le_of_ble_eq_true rfl) ?_
  intro p e s m below meth c A C RC
  subst h1
  refine sw_iload_n 0 1 C dX6_setPatience_0 rfl rfl ?_
  refine sw_if_lt 1 16 C dX6_setPatience_1 (by decide) (fun c_1 => ?_) (fun c_1 => ?_)
  · exact by first | exact absurd c_1 (nI_pos (by omega)) | exact absurd (nI_pos (by omega)) c_1
  refine sw_iload_n 4 1 C dX6_setPatience_4 rfl rfl ?_
  refine sw_aload_n 5 0 C dX6_setPatience_5 rfl rfl ?_
  refine sg_get 6 0 0 0 C dX6_setPatience_6 rfl rfl rfl (inA lwX6) (C.w wF_X6_10) rfl rfl rfl ?_
  refine sg_get 9 1 0 3 C dX6_setPatience_9 rfl rfl rfl (inA lwX4) (C.w wF_X6_37) rfl rfl rfl ?_
  refine sg_alen 12 1 1 0 C 4 dX6_setPatience_12 rfl rfl rfl rfl ?_
  refine sw_icmp_lt 13 26 C dX6_setPatience_13 (by decide) (fun c_13 => ?_) (fun c_13 => ?_)
  rotate_left
  · exact by first | exact absurd c_13 (nI_lt hr (by decide)) | exact absurd (nI_lt hr (by decide)) c_13
  refine sw_iload_n 26 2 C dX6_setPatience_26 rfl rfl ?_
  refine sw_iconst 27 C dX6_setPatience_27 1 (by decide) ?_
  refine sw_bipush 28 C dX6_setPatience_28 50 (by decide) ?_
  refine sg_callSV 30 [] 3 [] C dX6_setPatience_30 (ct_X6_checkRange l hx) wK_X6_checkRange wM_X6_47 wT_X6_checkRange wI_X6 hd_X6_checkRange rfl ⟨rfl, rfl⟩ ⟨Nat.le_of_ble_eq_true rfl, Nat.le_of_ble_eq_true rfl⟩ rfl rfl rfl rfl rfl rfl ?_
  refine sg_segs [_, _, _, _, _, _, _] rfl ?_
  refine sw_aload_n 33 0 C dX6_setPatience_33 rfl rfl ?_
  refine sg_get 34 0 0 2 C dX6_setPatience_34 rfl rfl rfl (inA lwX6) (C.w wF_X6_22) rfl rfl rfl ?_
  refine sw_aload_n 37 0 C dX6_setPatience_37 rfl rfl ?_
  refine sg_get 38 0 0 0 C dX6_setPatience_38 rfl rfl rfl (inA lwX6) (C.w wF_X6_10) rfl rfl rfl ?_
  refine sg_callVV 41 [2, 1, 3, 4, 5, 6] 1 0 [_, _, _, _, _, _] C dX6_setPatience_41 (ct_X3_add l hcn hod hh0 hh1 hh2 hh3) wK_X3_add wM_X6_51 wN_X3_add wS_X3_X3_add wI_X3 hd_X3_add rfl rfl rfl ⟨rfl, rfl⟩ ⟨Nat.le_of_ble_eq_true rfl, Nat.le_of_ble_eq_true rfl⟩ rfl rfl rfl rfl rfl rfl ?_
  refine sg_segs [_, _, _, _, _, _, _] rfl ?_
  refine sw_aload_n 44 0 C dX6_setPatience_44 rfl rfl ?_
  refine sg_get 45 0 0 0 C dX6_setPatience_45 rfl rfl rfl (inA lwX6) (C.w wF_X6_10) rfl rfl rfl ?_
  refine sg_get 48 1 0 3 C dX6_setPatience_48 rfl rfl rfl (inA lwX4) (C.w wF_X6_37) rfl rfl rfl ?_
  refine sw_iload_n 51 1 C dX6_setPatience_51 rfl rfl ?_
  refine sg_ialdN 52 1 1 0 (r) C dX6_setPatience_52 rfl hr rfl rfl rfl rfl ?_
  refine sw_istore_n 53 3 C dX6_setPatience_53 rfl rfl ?_
  refine sw_aload_n 54 0 C dX6_setPatience_54 rfl rfl ?_
  refine sg_get 55 0 0 0 C dX6_setPatience_55 rfl rfl rfl (inA lwX6) (C.w wF_X6_10) rfl rfl rfl ?_
  refine sg_get 58 1 0 3 C dX6_setPatience_58 rfl rfl rfl (inA lwX4) (C.w wF_X6_37) rfl rfl rfl ?_
  refine sw_iload_n 61 1 C dX6_setPatience_61 rfl rfl ?_
  refine sw_iload_n 62 2 C dX6_setPatience_62 rfl rfl ?_
  refine sg_iastN 63 1 1 0 (r) C dX6_setPatience_63 rfl hr rfl rfl rfl rfl ?_
  refine sg_segs [_, [(_, .inr (4, [.int _, .int _, .int _, .ref _, .ref _, .ref _, .int _, .int _, .int _, .ref _, .ref _])), (_, .inl (_, _, .inl _)), (_, .inr (2, [.int _, .ref _])), (_, .inl (_, _, .inl _)), (_, .inr (0, [.int _, .ref _])), (_, .inl (_, _, .inl _)), (_, .inl (_, _, .inl _)), (_, .inl (_, _, .inl _))], _, _, _, _, _] rfl ?_
  refine sw_iload_n 64 3 C dX6_setPatience_64 rfl rfl ?_
  refine sw_iret 65 C RC dX6_setPatience_65 ?_
  exact ⟨rfl, rfl⟩
set_option maxHeartbeats 4000000 in
set_option maxRecDepth 100000 in
theorem xt_X6_setPatience (l : Launch) (hfl : l.stackTraces = false) {D : va_G} {cI cJ cQ : ClassId} {x0a a0 a1 a2 a3 a4 a5 a6 a7 tr0 s0 r0 w0 : Nat} {S : StT} {x1 x2 : Int32} (h : inR x1 0 3 = false) : XCt l yX6_setPatience (Cond.code yX6_setPatience cX6_setPatience 4 (some .int)) 8 142 1 6 D (tyz cI cJ cQ) [.ref x0a, .int x1, .int x2] (flatS [[(x0a, .inr (6, [.ref a0, .ref tr0, .ref s0, .ref r0, .ref w0]))], (wSt a0 a1 a2 a3 a4 a5 a6 a7 cI (S))]) (fun _ _ => False) (fun E => E = "java/lang/IndexOutOfBoundsException") := by
  refine XCt.of RX6 (by decide) rfl (Nat.le_of_ble_eq_true rfl) ?_
  intro p e s m below meth c A C RC XT
  refine sw_iload_n 0 1 C dX6_setPatience_0 rfl rfl ?_
  refine sw_if_lt 1 16 C dX6_setPatience_1 (by decide) (fun c_1 => ?_) (fun c_1 => ?_)
  · exact xw_throw 16 40 42 44 C RC XT hfl dX6_setPatience_16 dX6_setPatience_19 dX6_setPatience_20 dX6_setPatience_22 dX6_setPatience_25 (by decide +kernel) wC_X6_40 wI_IndexOutOfBoundsException xat_ioe xno_ioe xot_ioe (List.mem_of_getElem? (i := 0) rfl) rfl rfl (Nat.le_of_ble_eq_true rfl) (Nat.le_of_ble_eq_true rfl) (Nat.le_of_ble_eq_true rfl) (Nat.le_of_ble_eq_true rfl) (rfl)
  · refine sw_iload_n 4 1 C dX6_setPatience_4 rfl rfl ?_
    refine sw_aload_n 5 0 C dX6_setPatience_5 rfl rfl ?_
    refine sg_get 6 0 0 0 C dX6_setPatience_6 rfl rfl rfl (inA lwX6) (C.w wF_X6_10) rfl rfl rfl ?_
    refine sg_get 9 1 0 3 C dX6_setPatience_9 rfl rfl rfl (inA lwX4) (C.w wF_X6_37) rfl rfl rfl ?_
    refine sg_alen 12 1 1 0 C 4 dX6_setPatience_12 rfl rfl rfl rfl ?_
    refine sw_icmp_lt 13 26 C dX6_setPatience_13 (by decide) (fun c_13 => ?_) (fun c_13 => ?_)
    · exact by first | exact absurd c_13 (fun q => inR_f h c_1 (i32_lt4 q)) | exact absurd (fun q => inR_f h c_1 (i32_lt4 q)) c_13
    exact xw_throw 16 40 42 44 C RC XT hfl dX6_setPatience_16 dX6_setPatience_19 dX6_setPatience_20 dX6_setPatience_22 dX6_setPatience_25 (by decide +kernel) wC_X6_40 wI_IndexOutOfBoundsException xat_ioe xno_ioe xot_ioe (List.mem_of_getElem? (i := 0) rfl) rfl rfl (Nat.le_of_ble_eq_true rfl) (Nat.le_of_ble_eq_true rfl) (Nat.le_of_ble_eq_true rfl) (Nat.le_of_ble_eq_true rfl) (rfl)
set_option maxHeartbeats 4000000 in
set_option maxRecDepth 100000 in
theorem xt_X6_setPatience_2 (l : Launch) (hfl : l.stackTraces = false) {D : va_G} {cI cJ cQ : ClassId} {x0a a0 a1 a2 a3 a4 a5 a6 a7 tr0 s0 r0 w0 : Nat} {S : StT} {x1 x2 : Int32} (r : Nat) (h1 : x1 = nI r) (hr : r < 4) (h : inR x2 1 50 = false) : XCt l yX6_setPatience (Cond.code yX6_setPatience cX6_setPatience 4 (some .int)) 8 142 1 6 D (tyz cI cJ cQ) [.ref x0a, .int x1, .int x2] (flatS [[(x0a, .inr (6, [.ref a0, .ref tr0, .ref s0, .ref r0, .ref w0]))], (wSt a0 a1 a2 a3 a4 a5 a6 a7 cI (S))]) (fun _ _ => False) (fun E => E = "java/lang/IllegalArgumentException") := by
  refine XCt.of RX6 (by decide) rfl (Nat.le_of_ble_eq_true rfl) ?_
  intro p e s m below meth c A C RC XT
  subst h1
  refine sw_iload_n 0 1 C dX6_setPatience_0 rfl rfl ?_
  refine sw_if_lt 1 16 C dX6_setPatience_1 (by decide) (fun c_1 => ?_) (fun c_1 => ?_)
  · exact by first | exact absurd c_1 (nI_pos (by omega)) | exact absurd (nI_pos (by omega)) c_1
  refine sw_iload_n 4 1 C dX6_setPatience_4 rfl rfl ?_
  refine sw_aload_n 5 0 C dX6_setPatience_5 rfl rfl ?_
  refine sg_get 6 0 0 0 C dX6_setPatience_6 rfl rfl rfl (inA lwX6) (C.w wF_X6_10) rfl rfl rfl ?_
  refine sg_get 9 1 0 3 C dX6_setPatience_9 rfl rfl rfl (inA lwX4) (C.w wF_X6_37) rfl rfl rfl ?_
  refine sg_alen 12 1 1 0 C 4 dX6_setPatience_12 rfl rfl rfl rfl ?_
  refine sw_icmp_lt 13 26 C dX6_setPatience_13 (by decide) (fun c_13 => ?_) (fun c_13 => ?_)
  rotate_left
  · exact by first | exact absurd c_13 (nI_lt hr (by decide)) | exact absurd (nI_lt hr (by decide)) c_13
  refine sw_iload_n 26 2 C dX6_setPatience_26 rfl rfl ?_
  refine sw_iconst 27 C dX6_setPatience_27 1 (by decide) ?_
  refine sw_bipush 28 C dX6_setPatience_28 50 (by decide) ?_
  exact xg_thrS 30 [] 3 C RC XT dX6_setPatience_30 (xt_X6_checkRange l hfl h) (fun _ h => h) wK_X6_checkRange wM_X6_47 wT_X6_checkRange wI_X6 hd_X6_checkRange rfl ⟨rfl, rfl⟩ ⟨(Nat.le_of_ble_eq_true rfl), (Nat.le_of_ble_eq_true rfl)⟩ rfl ⟨(Nat.le_of_ble_eq_true rfl), (Nat.le_of_ble_eq_true rfl)⟩ rfl rfl rfl
set_option maxHeartbeats 4000000 in
set_option maxRecDepth 100000 in
theorem ct_X6_send (l : Launch) {D : va_G} {cI cJ cQ : ClassId} {x0a a0 a1 a2 a3 a4 a5 a6 a7 tr0 s0 s1 r0 w0 ra0 ra1 ra2 ra3 ra4 ra5 ra6 ra7 rb0 rb1 rb2 rb3 rb4 rb5 rb6 rb7 rc0 rc1 rc2 rc3 rc4 rc5 rc6 rc7 rd0 rd1 rd2 rd3 rd4 rd5 rd6 rd7 : Nat} {h : Nat → Option Nat} {S : StT} {R : Nat → StT} {cn od : Nat} {x1 x2 x3 : Int32} (hS : SI S) (hcn : cn ≤ 4) (hod : od < 4) (hh0 : h 0 = some ra0) (hh1 : h 1 = some rb0) (hh2 : h 2 = some rc0) (hh3 : h 3 = some rd0) (ho : okSn x1 x2 x3 = true) (hm : hrf (zf S) (zn S) (zq S) x1 (-1) = true) : Ct l yX6_send (Cond.code yX6_send cX6_send 4 (some .int)) 9 164 0 0 D (tyz cI cJ cQ) [.ref x0a, .int x1, .int x2, .int x3] (flatS [[(x0a, .inr (6, [.ref a0, .ref tr0, .ref s0, .ref r0, .ref w0]))], (wSt a0 a1 a2 a3 a4 a5 a6 a7 cI (S)), [(s0, .inr (3, [.int (nI (cn)), .int (nI (od)), .ref s1])), (s1, .inl (cQ, 4, .inr (.inr (.inr (.inr h)))))], (wSt ra0 ra1 ra2 ra3 ra4 ra5 ra6 ra7 cI ((R) 0)), (wSt rb0 rb1 rb2 rb3 rb4 rb5 rb6 rb7 cI ((R) 1)), (wSt rc0 rc1 rc2 rc3 rc4 rc5 rc6 rc7 cI ((R) 2)), (wSt rd0 rd1 rd2 rd3 rd4 rd5 rd6 rd7 cI ((R) 3))]) (pstI (zp S) (flatS [[(x0a, .inr (6, [.ref a0, .ref tr0, .ref s0, .ref r0, .ref w0]))], (wSt a0 a1 a2 a3 a4 a5 a6 a7 cI (pinS S x1 (-1) x2 x3 0)), [(s0, .inr (3, [.int (nI (svC cn)), .int (nI (svO cn od)), .ref s1])), (s1, .inl (cQ, 4, .inr (.inr (.inr (.inr h)))))], (wSt ra0 ra1 ra2 ra3 ra4 ra5 ra6 ra7 cI ((va_up R (svI cn od) S) 0)), (wSt rb0 rb1 rb2 rb3 rb4 rb5 rb6 rb7 cI ((va_up R (svI cn od) S) 1)), (wSt rc0 rc1 rc2 rc3 rc4 rc5 rc6 rc7 cI ((va_up R (svI cn od) S) 2)), (wSt rd0 rd1 rd2 rd3 rd4 rd5 rd6 rd7 cI ((va_up R (svI cn od) S) 3))])) := by
  refine Ct.of RX6 (by decide) rfl (Nat.le_of_ble_eq_true rfl) ?_
  intro p e s m below meth c A C RC
  refine sw_iload_n 0 1 C dX6_send_0 rfl rfl ?_
  refine sw_iload_n 1 2 C dX6_send_1 rfl rfl ?_
  refine sw_iload_n 2 3 C dX6_send_2 rfl rfl ?_
  refine sg_callSV 3 [] 3 [] C dX6_send_3 (ct_X6_checkSending l ho) wK_X6_checkSending wM_X6_62 wT_X6_checkSending wI_X6 hd_X6_checkSending rfl ⟨rfl, rfl⟩ ⟨Nat.le_of_ble_eq_true rfl, Nat.le_of_ble_eq_true rfl⟩ rfl rfl rfl rfl rfl rfl ?_
  refine sg_segs [_, _, _, _, _, _, _] rfl ?_
  refine sw_aload_n 6 0 C dX6_send_6 rfl rfl ?_
  refine sw_iload_n 7 1 C dX6_send_7 rfl rfl ?_
  refine sw_iconst 8 C dX6_send_8 (-1) (by decide) ?_
  refine sg_callVV 9 [0, 1] 2 0 [_, _] C dX6_send_9 (ct_X6_checkRoom l hS.1 hm) wK_X6_checkRoom wM_X6_65 wN_X6_checkRoom wS_X6_X6_checkRoom wI_X6 hd_X6_checkRoom rfl rfl rfl ⟨rfl, rfl⟩ ⟨Nat.le_of_ble_eq_true rfl, Nat.le_of_ble_eq_true rfl⟩ rfl rfl rfl rfl rfl rfl ?_
  refine sg_segs [_, _, _, _, _, _, _] rfl ?_
  refine sw_aload_n 12 0 C dX6_send_12 rfl rfl ?_
  refine sg_get 13 0 0 2 C dX6_send_13 rfl rfl rfl (inA lwX6) (C.w wF_X6_22) rfl rfl rfl ?_
  refine sw_aload_n 16 0 C dX6_send_16 rfl rfl ?_
  refine sg_get 17 0 0 0 C dX6_send_17 rfl rfl rfl (inA lwX6) (C.w wF_X6_10) rfl rfl rfl ?_
  refine sg_callVV 20 [2, 1, 3, 4, 5, 6] 1 0 [_, _, _, _, _, _] C dX6_send_20 (ct_X3_add l hcn hod hh0 hh1 hh2 hh3) wK_X3_add wM_X6_51 wN_X3_add wS_X3_X3_add wI_X3 hd_X3_add rfl rfl rfl ⟨rfl, rfl⟩ ⟨Nat.le_of_ble_eq_true rfl, Nat.le_of_ble_eq_true rfl⟩ rfl rfl rfl rfl rfl rfl ?_
  refine sg_segs [_, _, _, _, _, _, _] rfl ?_
  refine sw_aload_n 23 0 C dX6_send_23 rfl rfl ?_
  refine sg_get 24 0 0 0 C dX6_send_24 rfl rfl rfl (inA lwX6) (C.w wF_X6_10) rfl rfl rfl ?_
  refine sw_iload_n 27 1 C dX6_send_27 rfl rfl ?_
  refine sw_iconst 28 C dX6_send_28 (-1) (by decide) ?_
  refine sw_iload_n 29 2 C dX6_send_29 rfl rfl ?_
  refine sw_iload_n 30 3 C dX6_send_30 rfl rfl ?_
  refine sw_iconst 31 C dX6_send_31 0 (by decide) ?_
  refine sg_callVI 32 [1] 5 0 [_] C dX6_send_32 (ct_X4_putIn l (hrf_lt hm)) wK_X4_putIn wM_X6_69 wN_X4_putIn wS_X4_X4_putIn wI_X4 hd_X4_putIn rfl rfl rfl ⟨rfl, rfl⟩ ⟨Nat.le_of_ble_eq_true rfl, Nat.le_of_ble_eq_true rfl⟩ rfl rfl rfl rfl rfl rfl ?_
  refine sg_segs [_, _, _, _, _, _, _] rfl ?_
  refine sw_iret 35 C RC dX6_send_35 ?_
  exact ⟨rfl, rfl⟩
set_option maxHeartbeats 4000000 in
set_option maxRecDepth 100000 in
theorem xt_X6_send (l : Launch) (hfl : l.stackTraces = false) {D : va_G} {cI cJ cQ : ClassId} {x0a a0 a1 a2 a3 a4 a5 a6 a7 tr0 s0 r0 w0 : Nat} {S : StT} {x1 x2 x3 : Int32} (ho : okSn x1 x2 x3 = false) : XCt l yX6_send (Cond.code yX6_send cX6_send 4 (some .int)) 9 164 1 6 D (tyz cI cJ cQ) [.ref x0a, .int x1, .int x2, .int x3] (flatS [[(x0a, .inr (6, [.ref a0, .ref tr0, .ref s0, .ref r0, .ref w0]))], (wSt a0 a1 a2 a3 a4 a5 a6 a7 cI (S))]) (fun _ _ => False) (fun E => E = "java/lang/IllegalArgumentException") := by
  refine XCt.of RX6 (by decide) rfl (Nat.le_of_ble_eq_true rfl) ?_
  intro p e s m below meth c A C RC XT
  refine sw_iload_n 0 1 C dX6_send_0 rfl rfl ?_
  refine sw_iload_n 1 2 C dX6_send_1 rfl rfl ?_
  refine sw_iload_n 2 3 C dX6_send_2 rfl rfl ?_
  exact xg_thrS 3 [] 3 C RC XT dX6_send_3 (xt_X6_checkSending l hfl ho) (fun _ h => h) wK_X6_checkSending wM_X6_62 wT_X6_checkSending wI_X6 hd_X6_checkSending rfl ⟨rfl, rfl⟩ ⟨(Nat.le_of_ble_eq_true rfl), (Nat.le_of_ble_eq_true rfl)⟩ rfl ⟨(Nat.le_of_ble_eq_true rfl), (Nat.le_of_ble_eq_true rfl)⟩ rfl rfl rfl
set_option maxHeartbeats 4000000 in
set_option maxRecDepth 100000 in
theorem xt_X6_send_2 (l : Launch) (hfl : l.stackTraces = false) {D : va_G} {cI cJ cQ : ClassId} {x0a a0 a1 a2 a3 a4 a5 a6 a7 tr0 s0 r0 w0 : Nat} {S : StT} {x1 x2 x3 : Int32} (hS : SI S) (ho : okSn x1 x2 x3 = true) (hm : hrf (zf S) (zn S) (zq S) x1 (-1) = false) : XCt l yX6_send (Cond.code yX6_send cX6_send 4 (some .int)) 9 164 1 6 D (tyz cI cJ cQ) [.ref x0a, .int x1, .int x2, .int x3] (flatS [[(x0a, .inr (6, [.ref a0, .ref tr0, .ref s0, .ref r0, .ref w0]))], (wSt a0 a1 a2 a3 a4 a5 a6 a7 cI (S))]) (fun _ _ => False) (fun E => E = "java/lang/IllegalStateException") := by
  refine XCt.of RX6 (by decide) rfl (Nat.le_of_ble_eq_true rfl) ?_
  intro p e s m below meth c A C RC XT
  refine sw_iload_n 0 1 C dX6_send_0 rfl rfl ?_
  refine sw_iload_n 1 2 C dX6_send_1 rfl rfl ?_
  refine sw_iload_n 2 3 C dX6_send_2 rfl rfl ?_
  refine sg_callSV 3 [] 3 [] C dX6_send_3 (ct_X6_checkSending l ho) wK_X6_checkSending wM_X6_62 wT_X6_checkSending wI_X6 hd_X6_checkSending rfl ⟨rfl, rfl⟩ ⟨Nat.le_of_ble_eq_true rfl, Nat.le_of_ble_eq_true rfl⟩ rfl rfl rfl rfl rfl rfl ?_
  refine sg_segs [_, _] rfl ?_
  refine sw_aload_n 6 0 C dX6_send_6 rfl rfl ?_
  refine sw_iload_n 7 1 C dX6_send_7 rfl rfl ?_
  refine sw_iconst 8 C dX6_send_8 (-1) (by decide) ?_
  exact xg_thrV 9 [0, 1] 2 0 C RC XT dX6_send_9 (xt_X6_checkRoom l hfl hS.1 hm) (fun _ h => h) wK_X6_checkRoom wM_X6_65 wN_X6_checkRoom wS_X6_X6_checkRoom wI_X6 hd_X6_checkRoom rfl rfl rfl ⟨rfl, rfl⟩ ⟨(Nat.le_of_ble_eq_true rfl), (Nat.le_of_ble_eq_true rfl)⟩ rfl ⟨(Nat.le_of_ble_eq_true rfl), (Nat.le_of_ble_eq_true rfl)⟩ rfl rfl rfl
set_option maxHeartbeats 4000000 in
set_option maxRecDepth 100000 in
theorem ct_X6_sendBribed (l : Launch) {D : va_G} {cI cJ cQ : ClassId} {x0a a0 a1 a2 a3 a4 a5 a6 a7 tr0 s0 s1 r0 w0 ra0 ra1 ra2 ra3 ra4 ra5 ra6 ra7 rb0 rb1 rb2 rb3 rb4 rb5 rb6 rb7 rc0 rc1 rc2 rc3 rc4 rc5 rc6 rc7 rd0 rd1 rd2 rd3 rd4 rd5 rd6 rd7 : Nat} {h : Nat → Option Nat} {S : StT} {R : Nat → StT} {cn od : Nat} {x1 x2 x3 x4 : Int32} (hS : SI S) (hcn : cn ≤ 4) (hod : od < 4) (hh0 : h 0 = some ra0) (hh1 : h 1 = some rb0) (hh2 : h 2 = some rc0) (hh3 : h 3 = some rd0) (ho : okSn x1 x2 x3 = true) (hb : inR x4 1 100 = true) (hm : hrf (zf S) (zn S) (zq S) x1 (-1) = true) : Ct l yX6_sendBribed (Cond.code yX6_sendBribed cX6_sendBribed 5 (some .int)) 9 164 0 0 D (tyz cI cJ cQ) [.ref x0a, .int x1, .int x2, .int x3, .int x4] (flatS [[(x0a, .inr (6, [.ref a0, .ref tr0, .ref s0, .ref r0, .ref w0]))], (wSt a0 a1 a2 a3 a4 a5 a6 a7 cI (S)), [(s0, .inr (3, [.int (nI (cn)), .int (nI (od)), .ref s1])), (s1, .inl (cQ, 4, .inr (.inr (.inr (.inr h)))))], (wSt ra0 ra1 ra2 ra3 ra4 ra5 ra6 ra7 cI ((R) 0)), (wSt rb0 rb1 rb2 rb3 rb4 rb5 rb6 rb7 cI ((R) 1)), (wSt rc0 rc1 rc2 rc3 rc4 rc5 rc6 rc7 cI ((R) 2)), (wSt rd0 rd1 rd2 rd3 rd4 rd5 rd6 rd7 cI ((R) 3))]) (pstI (zp S) (flatS [[(x0a, .inr (6, [.ref a0, .ref tr0, .ref s0, .ref r0, .ref w0]))], (wSt a0 a1 a2 a3 a4 a5 a6 a7 cI (pinS S x1 (-1) x2 x3 x4)), [(s0, .inr (3, [.int (nI (svC cn)), .int (nI (svO cn od)), .ref s1])), (s1, .inl (cQ, 4, .inr (.inr (.inr (.inr h)))))], (wSt ra0 ra1 ra2 ra3 ra4 ra5 ra6 ra7 cI ((va_up R (svI cn od) S) 0)), (wSt rb0 rb1 rb2 rb3 rb4 rb5 rb6 rb7 cI ((va_up R (svI cn od) S) 1)), (wSt rc0 rc1 rc2 rc3 rc4 rc5 rc6 rc7 cI ((va_up R (svI cn od) S) 2)), (wSt rd0 rd1 rd2 rd3 rd4 rd5 rd6 rd7 cI ((va_up R (svI cn od) S) 3))])) := by
  refine Ct.of RX6 (by decide) rfl (Nat.le_of_ble_eq_true rfl) ?_
  intro p e s m below meth c A C RC
  refine sw_iload_n 0 1 C dX6_sendBribed_0 rfl rfl ?_
  refine sw_iload_n 1 2 C dX6_sendBribed_1 rfl rfl ?_
  refine sw_iload_n 2 3 C dX6_sendBribed_2 rfl rfl ?_
  refine sg_callSV 3 [] 3 [] C dX6_sendBribed_3 (ct_X6_checkSending l ho) wK_X6_checkSending wM_X6_62 wT_X6_checkSending wI_X6 hd_X6_checkSending rfl ⟨rfl, rfl⟩ ⟨Nat.le_of_ble_eq_true rfl, Nat.le_of_ble_eq_true rfl⟩ rfl rfl rfl rfl rfl rfl ?_
  refine sg_segs [_, _, _, _, _, _, _] rfl ?_
  refine sw_iload 6 C dX6_sendBribed_6 rfl ?_
  refine sw_iconst 8 C dX6_sendBribed_8 1 (by decide) ?_
  refine sw_bipush 9 C dX6_sendBribed_9 100 (by decide) ?_
  refine sg_callSV 11 [] 3 [] C dX6_sendBribed_11 (ct_X6_checkRange l hb) wK_X6_checkRange wM_X6_47 wT_X6_checkRange wI_X6 hd_X6_checkRange rfl ⟨rfl, rfl⟩ ⟨Nat.le_of_ble_eq_true rfl, Nat.le_of_ble_eq_true rfl⟩ rfl rfl rfl rfl rfl rfl ?_
  refine sg_segs [_, _, _, _, _, _, _] rfl ?_
  refine sw_aload_n 14 0 C dX6_sendBribed_14 rfl rfl ?_
  refine sw_iload_n 15 1 C dX6_sendBribed_15 rfl rfl ?_
  refine sw_iconst 16 C dX6_sendBribed_16 (-1) (by decide) ?_
  refine sg_callVV 17 [0, 1] 2 0 [_, _] C dX6_sendBribed_17 (ct_X6_checkRoom l hS.1 hm) wK_X6_checkRoom wM_X6_65 wN_X6_checkRoom wS_X6_X6_checkRoom wI_X6 hd_X6_checkRoom rfl rfl rfl ⟨rfl, rfl⟩ ⟨Nat.le_of_ble_eq_true rfl, Nat.le_of_ble_eq_true rfl⟩ rfl rfl rfl rfl rfl rfl ?_
  refine sg_segs [_, _, _, _, _, _, _] rfl ?_
  refine sw_aload_n 20 0 C dX6_sendBribed_20 rfl rfl ?_
  refine sg_get 21 0 0 2 C dX6_sendBribed_21 rfl rfl rfl (inA lwX6) (C.w wF_X6_22) rfl rfl rfl ?_
  refine sw_aload_n 24 0 C dX6_sendBribed_24 rfl rfl ?_
  refine sg_get 25 0 0 0 C dX6_sendBribed_25 rfl rfl rfl (inA lwX6) (C.w wF_X6_10) rfl rfl rfl ?_
  refine sg_callVV 28 [2, 1, 3, 4, 5, 6] 1 0 [_, _, _, _, _, _] C dX6_sendBribed_28 (ct_X3_add l hcn hod hh0 hh1 hh2 hh3) wK_X3_add wM_X6_51 wN_X3_add wS_X3_X3_add wI_X3 hd_X3_add rfl rfl rfl ⟨rfl, rfl⟩ ⟨Nat.le_of_ble_eq_true rfl, Nat.le_of_ble_eq_true rfl⟩ rfl rfl rfl rfl rfl rfl ?_
  refine sg_segs [_, _, _, _, _, _, _] rfl ?_
  refine sw_aload_n 31 0 C dX6_sendBribed_31 rfl rfl ?_
  refine sg_get 32 0 0 0 C dX6_sendBribed_32 rfl rfl rfl (inA lwX6) (C.w wF_X6_10) rfl rfl rfl ?_
  refine sw_iload_n 35 1 C dX6_sendBribed_35 rfl rfl ?_
  refine sw_iconst 36 C dX6_sendBribed_36 (-1) (by decide) ?_
  refine sw_iload_n 37 2 C dX6_sendBribed_37 rfl rfl ?_
  refine sw_iload_n 38 3 C dX6_sendBribed_38 rfl rfl ?_
  refine sw_iload 39 C dX6_sendBribed_39 rfl ?_
  refine sg_callVI 41 [1] 5 0 [_] C dX6_sendBribed_41 (ct_X4_putIn l (hrf_lt hm)) wK_X4_putIn wM_X6_69 wN_X4_putIn wS_X4_X4_putIn wI_X4 hd_X4_putIn rfl rfl rfl ⟨rfl, rfl⟩ ⟨Nat.le_of_ble_eq_true rfl, Nat.le_of_ble_eq_true rfl⟩ rfl rfl rfl rfl rfl rfl ?_
  refine sg_segs [_, _, _, _, _, _, _] rfl ?_
  refine sw_iret 44 C RC dX6_sendBribed_44 ?_
  exact ⟨rfl, rfl⟩
set_option maxHeartbeats 4000000 in
set_option maxRecDepth 100000 in
theorem xt_X6_sendBribed (l : Launch) (hfl : l.stackTraces = false) {D : va_G} {cI cJ cQ : ClassId} {x0a a0 a1 a2 a3 a4 a5 a6 a7 tr0 s0 r0 w0 : Nat} {S : StT} {x1 x2 x3 x4 : Int32} (ho : okSn x1 x2 x3 = false) : XCt l yX6_sendBribed (Cond.code yX6_sendBribed cX6_sendBribed 5 (some .int)) 9 164 1 6 D (tyz cI cJ cQ) [.ref x0a, .int x1, .int x2, .int x3, .int x4] (flatS [[(x0a, .inr (6, [.ref a0, .ref tr0, .ref s0, .ref r0, .ref w0]))], (wSt a0 a1 a2 a3 a4 a5 a6 a7 cI (S))]) (fun _ _ => False) (fun E => E = "java/lang/IllegalArgumentException") := by
  refine XCt.of RX6 (by decide) rfl (Nat.le_of_ble_eq_true rfl) ?_
  intro p e s m below meth c A C RC XT
  refine sw_iload_n 0 1 C dX6_sendBribed_0 rfl rfl ?_
  refine sw_iload_n 1 2 C dX6_sendBribed_1 rfl rfl ?_
  refine sw_iload_n 2 3 C dX6_sendBribed_2 rfl rfl ?_
  exact xg_thrS 3 [] 3 C RC XT dX6_sendBribed_3 (xt_X6_checkSending l hfl ho) (fun _ h => h) wK_X6_checkSending wM_X6_62 wT_X6_checkSending wI_X6 hd_X6_checkSending rfl ⟨rfl, rfl⟩ ⟨(Nat.le_of_ble_eq_true rfl), (Nat.le_of_ble_eq_true rfl)⟩ rfl ⟨(Nat.le_of_ble_eq_true rfl), (Nat.le_of_ble_eq_true rfl)⟩ rfl rfl rfl
set_option maxHeartbeats 4000000 in
set_option maxRecDepth 100000 in
theorem xt_X6_sendBribed_2 (l : Launch) (hfl : l.stackTraces = false) {D : va_G} {cI cJ cQ : ClassId} {x0a a0 a1 a2 a3 a4 a5 a6 a7 tr0 s0 r0 w0 : Nat} {S : StT} {x1 x2 x3 x4 : Int32} (ho : okSn x1 x2 x3 = true) (hb : inR x4 1 100 = false) : XCt l yX6_sendBribed (Cond.code yX6_sendBribed cX6_sendBribed 5 (some .int)) 9 164 1 6 D (tyz cI cJ cQ) [.ref x0a, .int x1, .int x2, .int x3, .int x4] (flatS [[(x0a, .inr (6, [.ref a0, .ref tr0, .ref s0, .ref r0, .ref w0]))], (wSt a0 a1 a2 a3 a4 a5 a6 a7 cI (S))]) (fun _ _ => False) (fun E => E = "java/lang/IllegalArgumentException") := by
  refine XCt.of RX6 (by decide) rfl (Nat.le_of_ble_eq_true rfl) ?_
  intro p e s m below meth c A C RC XT
  refine sw_iload_n 0 1 C dX6_sendBribed_0 rfl rfl ?_
  refine sw_iload_n 1 2 C dX6_sendBribed_1 rfl rfl ?_
  refine sw_iload_n 2 3 C dX6_sendBribed_2 rfl rfl ?_
  refine sg_callSV 3 [] 3 [] C dX6_sendBribed_3 (ct_X6_checkSending l ho) wK_X6_checkSending wM_X6_62 wT_X6_checkSending wI_X6 hd_X6_checkSending rfl ⟨rfl, rfl⟩ ⟨Nat.le_of_ble_eq_true rfl, Nat.le_of_ble_eq_true rfl⟩ rfl rfl rfl rfl rfl rfl ?_
  refine sg_segs [_, _] rfl ?_
  refine sw_iload 6 C dX6_sendBribed_6 rfl ?_
  refine sw_iconst 8 C dX6_sendBribed_8 1 (by decide) ?_
  refine sw_bipush 9 C dX6_sendBribed_9 100 (by decide) ?_
  exact xg_thrS 11 [] 3 C RC XT dX6_sendBribed_11 (xt_X6_checkRange l hfl hb) (fun _ h => h) wK_X6_checkRange wM_X6_47 wT_X6_checkRange wI_X6 hd_X6_checkRange rfl ⟨rfl, rfl⟩ ⟨(Nat.le_of_ble_eq_true rfl), (Nat.le_of_ble_eq_true rfl)⟩ rfl ⟨(Nat.le_of_ble_eq_true rfl), (Nat.le_of_ble_eq_true rfl)⟩ rfl rfl rfl
set_option maxHeartbeats 4000000 in
set_option maxRecDepth 100000 in
theorem xt_X6_sendBribed_3 (l : Launch) (hfl : l.stackTraces = false) {D : va_G} {cI cJ cQ : ClassId} {x0a a0 a1 a2 a3 a4 a5 a6 a7 tr0 s0 r0 w0 : Nat} {S : StT} {x1 x2 x3 x4 : Int32} (hS : SI S) (ho : okSn x1 x2 x3 = true) (hb : inR x4 1 100 = true) (hm : hrf (zf S) (zn S) (zq S) x1 (-1) = false) : XCt l yX6_sendBribed (Cond.code yX6_sendBribed cX6_sendBribed 5 (some .int)) 9 164 1 6 D (tyz cI cJ cQ) [.ref x0a, .int x1, .int x2, .int x3, .int x4] (flatS [[(x0a, .inr (6, [.ref a0, .ref tr0, .ref s0, .ref r0, .ref w0]))], (wSt a0 a1 a2 a3 a4 a5 a6 a7 cI (S))]) (fun _ _ => False) (fun E => E = "java/lang/IllegalStateException") := by
  refine XCt.of RX6 (by decide) rfl (Nat.le_of_ble_eq_true rfl) ?_
  intro p e s m below meth c A C RC XT
  refine sw_iload_n 0 1 C dX6_sendBribed_0 rfl rfl ?_
  refine sw_iload_n 1 2 C dX6_sendBribed_1 rfl rfl ?_
  refine sw_iload_n 2 3 C dX6_sendBribed_2 rfl rfl ?_
  refine sg_callSV 3 [] 3 [] C dX6_sendBribed_3 (ct_X6_checkSending l ho) wK_X6_checkSending wM_X6_62 wT_X6_checkSending wI_X6 hd_X6_checkSending rfl ⟨rfl, rfl⟩ ⟨Nat.le_of_ble_eq_true rfl, Nat.le_of_ble_eq_true rfl⟩ rfl rfl rfl rfl rfl rfl ?_
  refine sg_segs [_, _] rfl ?_
  refine sw_iload 6 C dX6_sendBribed_6 rfl ?_
  refine sw_iconst 8 C dX6_sendBribed_8 1 (by decide) ?_
  refine sw_bipush 9 C dX6_sendBribed_9 100 (by decide) ?_
  refine sg_callSV 11 [] 3 [] C dX6_sendBribed_11 (ct_X6_checkRange l hb) wK_X6_checkRange wM_X6_47 wT_X6_checkRange wI_X6 hd_X6_checkRange rfl ⟨rfl, rfl⟩ ⟨Nat.le_of_ble_eq_true rfl, Nat.le_of_ble_eq_true rfl⟩ rfl rfl rfl rfl rfl rfl ?_
  refine sg_segs [_, _] rfl ?_
  refine sw_aload_n 14 0 C dX6_sendBribed_14 rfl rfl ?_
  refine sw_iload_n 15 1 C dX6_sendBribed_15 rfl rfl ?_
  refine sw_iconst 16 C dX6_sendBribed_16 (-1) (by decide) ?_
  exact xg_thrV 17 [0, 1] 2 0 C RC XT dX6_sendBribed_17 (xt_X6_checkRoom l hfl hS.1 hm) (fun _ h => h) wK_X6_checkRoom wM_X6_65 wN_X6_checkRoom wS_X6_X6_checkRoom wI_X6 hd_X6_checkRoom rfl rfl rfl ⟨rfl, rfl⟩ ⟨(Nat.le_of_ble_eq_true rfl), (Nat.le_of_ble_eq_true rfl)⟩ rfl ⟨(Nat.le_of_ble_eq_true rfl), (Nat.le_of_ble_eq_true rfl)⟩ rfl rfl rfl
set_option maxHeartbeats 4000000 in
set_option maxRecDepth 100000 in
theorem ct_X6_sendJoint (l : Launch) {D : va_G} {cI cJ cQ : ClassId} {x0a a0 a1 a2 a3 a4 a5 a6 a7 tr0 s0 s1 r0 w0 ra0 ra1 ra2 ra3 ra4 ra5 ra6 ra7 rb0 rb1 rb2 rb3 rb4 rb5 rb6 rb7 rc0 rc1 rc2 rc3 rc4 rc5 rc6 rc7 rd0 rd1 rd2 rd3 rd4 rd5 rd6 rd7 : Nat} {h : Nat → Option Nat} {S : StT} {R : Nat → StT} {cn od : Nat} {x1 x2 x3 x4 : Int32} (hS : SI S) (hcn : cn ≤ 4) (hod : od < 4) (hh0 : h 0 = some ra0) (hh1 : h 1 = some rb0) (hh2 : h 2 = some rc0) (hh3 : h 3 = some rd0) (ho : okSn x1 x3 x4 = true) (hb : inR x2 0 7 = true) (hne : ¬ x2 = x1) (hm : hrf (zf S) (zn S) (zq S) x1 (x2) = true) : Ct l yX6_sendJoint (Cond.code yX6_sendJoint cX6_sendJoint 5 (some .int)) 9 164 0 0 D (tyz cI cJ cQ) [.ref x0a, .int x1, .int x2, .int x3, .int x4] (flatS [[(x0a, .inr (6, [.ref a0, .ref tr0, .ref s0, .ref r0, .ref w0]))], (wSt a0 a1 a2 a3 a4 a5 a6 a7 cI (S)), [(s0, .inr (3, [.int (nI (cn)), .int (nI (od)), .ref s1])), (s1, .inl (cQ, 4, .inr (.inr (.inr (.inr h)))))], (wSt ra0 ra1 ra2 ra3 ra4 ra5 ra6 ra7 cI ((R) 0)), (wSt rb0 rb1 rb2 rb3 rb4 rb5 rb6 rb7 cI ((R) 1)), (wSt rc0 rc1 rc2 rc3 rc4 rc5 rc6 rc7 cI ((R) 2)), (wSt rd0 rd1 rd2 rd3 rd4 rd5 rd6 rd7 cI ((R) 3))]) (pstI (zp S) (flatS [[(x0a, .inr (6, [.ref a0, .ref tr0, .ref s0, .ref r0, .ref w0]))], (wSt a0 a1 a2 a3 a4 a5 a6 a7 cI (pinS S x1 x2 x3 x4 0)), [(s0, .inr (3, [.int (nI (svC cn)), .int (nI (svO cn od)), .ref s1])), (s1, .inl (cQ, 4, .inr (.inr (.inr (.inr h)))))], (wSt ra0 ra1 ra2 ra3 ra4 ra5 ra6 ra7 cI ((va_up R (svI cn od) S) 0)), (wSt rb0 rb1 rb2 rb3 rb4 rb5 rb6 rb7 cI ((va_up R (svI cn od) S) 1)), (wSt rc0 rc1 rc2 rc3 rc4 rc5 rc6 rc7 cI ((va_up R (svI cn od) S) 2)), (wSt rd0 rd1 rd2 rd3 rd4 rd5 rd6 rd7 cI ((va_up R (svI cn od) S) 3))])) := by
  refine Ct.of RX6 (by decide) rfl (Nat.le_of_ble_eq_true rfl) ?_
  intro p e s m below meth c A C RC
  refine sw_iload_n 0 1 C dX6_sendJoint_0 rfl rfl ?_
  refine sw_iload_n 1 3 C dX6_sendJoint_1 rfl rfl ?_
  refine sw_iload 2 C dX6_sendJoint_2 rfl ?_
  refine sg_callSV 4 [] 3 [] C dX6_sendJoint_4 (ct_X6_checkSending l ho) wK_X6_checkSending wM_X6_62 wT_X6_checkSending wI_X6 hd_X6_checkSending rfl ⟨rfl, rfl⟩ ⟨Nat.le_of_ble_eq_true rfl, Nat.le_of_ble_eq_true rfl⟩ rfl rfl rfl rfl rfl rfl ?_
  refine sg_segs [_, _, _, _, _, _, _] rfl ?_
  refine sw_iload_n 7 2 C dX6_sendJoint_7 rfl rfl ?_
  refine sw_iconst 8 C dX6_sendJoint_8 0 (by decide) ?_
  refine sw_bipush 9 C dX6_sendJoint_9 7 (by decide) ?_
  refine sg_callSV 11 [] 3 [] C dX6_sendJoint_11 (ct_X6_checkRange l hb) wK_X6_checkRange wM_X6_47 wT_X6_checkRange wI_X6 hd_X6_checkRange rfl ⟨rfl, rfl⟩ ⟨Nat.le_of_ble_eq_true rfl, Nat.le_of_ble_eq_true rfl⟩ rfl rfl rfl rfl rfl rfl ?_
  refine sg_segs [_, _, _, _, _, _, _] rfl ?_
  refine sw_iload_n 14 2 C dX6_sendJoint_14 rfl rfl ?_
  refine sw_iload_n 15 1 C dX6_sendJoint_15 rfl rfl ?_
  refine sw_icmp_ne 16 29 C dX6_sendJoint_16 (by decide) (fun c_16 => ?_) (fun c_16 => ?_)
  rotate_left
  · exact by first | exact absurd c_16 (hne) | exact absurd (hne) c_16
  refine sw_aload_n 29 0 C dX6_sendJoint_29 rfl rfl ?_
  refine sw_iload_n 30 1 C dX6_sendJoint_30 rfl rfl ?_
  refine sw_iload_n 31 2 C dX6_sendJoint_31 rfl rfl ?_
  refine sg_callVV 32 [0, 1] 2 0 [_, _] C dX6_sendJoint_32 (ct_X6_checkRoom l hS.1 hm) wK_X6_checkRoom wM_X6_65 wN_X6_checkRoom wS_X6_X6_checkRoom wI_X6 hd_X6_checkRoom rfl rfl rfl ⟨rfl, rfl⟩ ⟨Nat.le_of_ble_eq_true rfl, Nat.le_of_ble_eq_true rfl⟩ rfl rfl rfl rfl rfl rfl ?_
  refine sg_segs [_, _, _, _, _, _, _] rfl ?_
  refine sw_aload_n 35 0 C dX6_sendJoint_35 rfl rfl ?_
  refine sg_get 36 0 0 2 C dX6_sendJoint_36 rfl rfl rfl (inA lwX6) (C.w wF_X6_22) rfl rfl rfl ?_
  refine sw_aload_n 39 0 C dX6_sendJoint_39 rfl rfl ?_
  refine sg_get 40 0 0 0 C dX6_sendJoint_40 rfl rfl rfl (inA lwX6) (C.w wF_X6_10) rfl rfl rfl ?_
  refine sg_callVV 43 [2, 1, 3, 4, 5, 6] 1 0 [_, _, _, _, _, _] C dX6_sendJoint_43 (ct_X3_add l hcn hod hh0 hh1 hh2 hh3) wK_X3_add wM_X6_51 wN_X3_add wS_X3_X3_add wI_X3 hd_X3_add rfl rfl rfl ⟨rfl, rfl⟩ ⟨Nat.le_of_ble_eq_true rfl, Nat.le_of_ble_eq_true rfl⟩ rfl rfl rfl rfl rfl rfl ?_
  refine sg_segs [_, _, _, _, _, _, _] rfl ?_
  refine sw_aload_n 46 0 C dX6_sendJoint_46 rfl rfl ?_
  refine sg_get 47 0 0 0 C dX6_sendJoint_47 rfl rfl rfl (inA lwX6) (C.w wF_X6_10) rfl rfl rfl ?_
  refine sw_iload_n 50 1 C dX6_sendJoint_50 rfl rfl ?_
  refine sw_iload_n 51 2 C dX6_sendJoint_51 rfl rfl ?_
  refine sw_iload_n 52 3 C dX6_sendJoint_52 rfl rfl ?_
  refine sw_iload 53 C dX6_sendJoint_53 rfl ?_
  refine sw_iconst 55 C dX6_sendJoint_55 0 (by decide) ?_
  refine sg_callVI 56 [1] 5 0 [_] C dX6_sendJoint_56 (ct_X4_putIn l (hrf_lt hm)) wK_X4_putIn wM_X6_69 wN_X4_putIn wS_X4_X4_putIn wI_X4 hd_X4_putIn rfl rfl rfl ⟨rfl, rfl⟩ ⟨Nat.le_of_ble_eq_true rfl, Nat.le_of_ble_eq_true rfl⟩ rfl rfl rfl rfl rfl rfl ?_
  refine sg_segs [_, _, _, _, _, _, _] rfl ?_
  refine sw_iret 59 C RC dX6_sendJoint_59 ?_
  exact ⟨rfl, rfl⟩
set_option maxHeartbeats 4000000 in
set_option maxRecDepth 100000 in
theorem xt_X6_sendJoint (l : Launch) (hfl : l.stackTraces = false) {D : va_G} {cI cJ cQ : ClassId} {x0a a0 a1 a2 a3 a4 a5 a6 a7 tr0 s0 r0 w0 : Nat} {S : StT} {x1 x2 x3 x4 : Int32} (ho : okSn x1 x3 x4 = false) : XCt l yX6_sendJoint (Cond.code yX6_sendJoint cX6_sendJoint 5 (some .int)) 9 164 1 6 D (tyz cI cJ cQ) [.ref x0a, .int x1, .int x2, .int x3, .int x4] (flatS [[(x0a, .inr (6, [.ref a0, .ref tr0, .ref s0, .ref r0, .ref w0]))], (wSt a0 a1 a2 a3 a4 a5 a6 a7 cI (S))]) (fun _ _ => False) (fun E => E = "java/lang/IllegalArgumentException") := by
  refine XCt.of RX6 (by decide) rfl (Nat.le_of_ble_eq_true rfl) ?_
  intro p e s m below meth c A C RC XT
  refine sw_iload_n 0 1 C dX6_sendJoint_0 rfl rfl ?_
  refine sw_iload_n 1 3 C dX6_sendJoint_1 rfl rfl ?_
  refine sw_iload 2 C dX6_sendJoint_2 rfl ?_
  exact xg_thrS 4 [] 3 C RC XT dX6_sendJoint_4 (xt_X6_checkSending l hfl ho) (fun _ h => h) wK_X6_checkSending wM_X6_62 wT_X6_checkSending wI_X6 hd_X6_checkSending rfl ⟨rfl, rfl⟩ ⟨(Nat.le_of_ble_eq_true rfl), (Nat.le_of_ble_eq_true rfl)⟩ rfl ⟨(Nat.le_of_ble_eq_true rfl), (Nat.le_of_ble_eq_true rfl)⟩ rfl rfl rfl
set_option maxHeartbeats 4000000 in
set_option maxRecDepth 100000 in
theorem xt_X6_sendJoint_2 (l : Launch) (hfl : l.stackTraces = false) {D : va_G} {cI cJ cQ : ClassId} {x0a a0 a1 a2 a3 a4 a5 a6 a7 tr0 s0 r0 w0 : Nat} {S : StT} {x1 x2 x3 x4 : Int32} (ho : okSn x1 x3 x4 = true) (hb : inR x2 0 7 = false) : XCt l yX6_sendJoint (Cond.code yX6_sendJoint cX6_sendJoint 5 (some .int)) 9 164 1 6 D (tyz cI cJ cQ) [.ref x0a, .int x1, .int x2, .int x3, .int x4] (flatS [[(x0a, .inr (6, [.ref a0, .ref tr0, .ref s0, .ref r0, .ref w0]))], (wSt a0 a1 a2 a3 a4 a5 a6 a7 cI (S))]) (fun _ _ => False) (fun E => E = "java/lang/IllegalArgumentException") := by
  refine XCt.of RX6 (by decide) rfl (Nat.le_of_ble_eq_true rfl) ?_
  intro p e s m below meth c A C RC XT
  refine sw_iload_n 0 1 C dX6_sendJoint_0 rfl rfl ?_
  refine sw_iload_n 1 3 C dX6_sendJoint_1 rfl rfl ?_
  refine sw_iload 2 C dX6_sendJoint_2 rfl ?_
  refine sg_callSV 4 [] 3 [] C dX6_sendJoint_4 (ct_X6_checkSending l ho) wK_X6_checkSending wM_X6_62 wT_X6_checkSending wI_X6 hd_X6_checkSending rfl ⟨rfl, rfl⟩ ⟨Nat.le_of_ble_eq_true rfl, Nat.le_of_ble_eq_true rfl⟩ rfl rfl rfl rfl rfl rfl ?_
  refine sg_segs [_, _] rfl ?_
  refine sw_iload_n 7 2 C dX6_sendJoint_7 rfl rfl ?_
  refine sw_iconst 8 C dX6_sendJoint_8 0 (by decide) ?_
  refine sw_bipush 9 C dX6_sendJoint_9 7 (by decide) ?_
  exact xg_thrS 11 [] 3 C RC XT dX6_sendJoint_11 (xt_X6_checkRange l hfl hb) (fun _ h => h) wK_X6_checkRange wM_X6_47 wT_X6_checkRange wI_X6 hd_X6_checkRange rfl ⟨rfl, rfl⟩ ⟨(Nat.le_of_ble_eq_true rfl), (Nat.le_of_ble_eq_true rfl)⟩ rfl ⟨(Nat.le_of_ble_eq_true rfl), (Nat.le_of_ble_eq_true rfl)⟩ rfl rfl rfl
set_option maxHeartbeats 4000000 in
set_option maxRecDepth 100000 in
theorem xt_X6_sendJoint_3 (l : Launch) (hfl : l.stackTraces = false) {D : va_G} {cI cJ cQ : ClassId} {x0a a0 a1 a2 a3 a4 a5 a6 a7 tr0 s0 r0 w0 : Nat} {S : StT} {x1 x2 x3 x4 : Int32} (ho : okSn x1 x3 x4 = true) (hb : inR x2 0 7 = true) (hne : x2 = x1) : XCt l yX6_sendJoint (Cond.code yX6_sendJoint cX6_sendJoint 5 (some .int)) 9 164 1 6 D (tyz cI cJ cQ) [.ref x0a, .int x1, .int x2, .int x3, .int x4] (flatS [[(x0a, .inr (6, [.ref a0, .ref tr0, .ref s0, .ref r0, .ref w0]))], (wSt a0 a1 a2 a3 a4 a5 a6 a7 cI (S))]) (fun _ _ => False) (fun E => E = "java/lang/IllegalArgumentException") := by
  refine XCt.of RX6 (by decide) rfl (Nat.le_of_ble_eq_true rfl) ?_
  intro p e s m below meth c A C RC XT
  refine sw_iload_n 0 1 C dX6_sendJoint_0 rfl rfl ?_
  refine sw_iload_n 1 3 C dX6_sendJoint_1 rfl rfl ?_
  refine sw_iload 2 C dX6_sendJoint_2 rfl ?_
  refine sg_callSV 4 [] 3 [] C dX6_sendJoint_4 (ct_X6_checkSending l ho) wK_X6_checkSending wM_X6_62 wT_X6_checkSending wI_X6 hd_X6_checkSending rfl ⟨rfl, rfl⟩ ⟨Nat.le_of_ble_eq_true rfl, Nat.le_of_ble_eq_true rfl⟩ rfl rfl rfl rfl rfl rfl ?_
  refine sg_segs [_, _] rfl ?_
  refine sw_iload_n 7 2 C dX6_sendJoint_7 rfl rfl ?_
  refine sw_iconst 8 C dX6_sendJoint_8 0 (by decide) ?_
  refine sw_bipush 9 C dX6_sendJoint_9 7 (by decide) ?_
  refine sg_callSV 11 [] 3 [] C dX6_sendJoint_11 (ct_X6_checkRange l hb) wK_X6_checkRange wM_X6_47 wT_X6_checkRange wI_X6 hd_X6_checkRange rfl ⟨rfl, rfl⟩ ⟨Nat.le_of_ble_eq_true rfl, Nat.le_of_ble_eq_true rfl⟩ rfl rfl rfl rfl rfl rfl ?_
  refine sg_segs [_, _] rfl ?_
  refine sw_iload_n 14 2 C dX6_sendJoint_14 rfl rfl ?_
  refine sw_iload_n 15 1 C dX6_sendJoint_15 rfl rfl ?_
  refine sw_icmp_ne 16 29 C dX6_sendJoint_16 (by decide) (fun c_16 => ?_) (fun c_16 => ?_)
  · exact by first | exact absurd c_16 (fun q => q hne) | exact absurd (fun q => q hne) c_16
  exact xw_throw 19 73 75 77 C RC XT hfl dX6_sendJoint_19 dX6_sendJoint_22 dX6_sendJoint_23 dX6_sendJoint_25 dX6_sendJoint_28 (by decide +kernel) wC_X6_73 wI_IllegalArgumentException xat_iae xno_iae xot_iae (List.mem_of_getElem? (i := 1) rfl) rfl rfl (Nat.le_of_ble_eq_true rfl) (Nat.le_of_ble_eq_true rfl) (Nat.le_of_ble_eq_true rfl) (Nat.le_of_ble_eq_true rfl) (rfl)
set_option maxHeartbeats 4000000 in
set_option maxRecDepth 100000 in
theorem xt_X6_sendJoint_4 (l : Launch) (hfl : l.stackTraces = false) {D : va_G} {cI cJ cQ : ClassId} {x0a a0 a1 a2 a3 a4 a5 a6 a7 tr0 s0 r0 w0 : Nat} {S : StT} {x1 x2 x3 x4 : Int32} (hS : SI S) (ho : okSn x1 x3 x4 = true) (hb : inR x2 0 7 = true) (hne : ¬ x2 = x1) (hm : hrf (zf S) (zn S) (zq S) x1 (x2) = false) : XCt l yX6_sendJoint (Cond.code yX6_sendJoint cX6_sendJoint 5 (some .int)) 9 164 1 6 D (tyz cI cJ cQ) [.ref x0a, .int x1, .int x2, .int x3, .int x4] (flatS [[(x0a, .inr (6, [.ref a0, .ref tr0, .ref s0, .ref r0, .ref w0]))], (wSt a0 a1 a2 a3 a4 a5 a6 a7 cI (S))]) (fun _ _ => False) (fun E => E = "java/lang/IllegalStateException") := by
  refine XCt.of RX6 (by decide) rfl (Nat.le_of_ble_eq_true rfl) ?_
  intro p e s m below meth c A C RC XT
  refine sw_iload_n 0 1 C dX6_sendJoint_0 rfl rfl ?_
  refine sw_iload_n 1 3 C dX6_sendJoint_1 rfl rfl ?_
  refine sw_iload 2 C dX6_sendJoint_2 rfl ?_
  refine sg_callSV 4 [] 3 [] C dX6_sendJoint_4 (ct_X6_checkSending l ho) wK_X6_checkSending wM_X6_62 wT_X6_checkSending wI_X6 hd_X6_checkSending rfl ⟨rfl, rfl⟩ ⟨Nat.le_of_ble_eq_true rfl, Nat.le_of_ble_eq_true rfl⟩ rfl rfl rfl rfl rfl rfl ?_
  refine sg_segs [_, _] rfl ?_
  refine sw_iload_n 7 2 C dX6_sendJoint_7 rfl rfl ?_
  refine sw_iconst 8 C dX6_sendJoint_8 0 (by decide) ?_
  refine sw_bipush 9 C dX6_sendJoint_9 7 (by decide) ?_
  refine sg_callSV 11 [] 3 [] C dX6_sendJoint_11 (ct_X6_checkRange l hb) wK_X6_checkRange wM_X6_47 wT_X6_checkRange wI_X6 hd_X6_checkRange rfl ⟨rfl, rfl⟩ ⟨Nat.le_of_ble_eq_true rfl, Nat.le_of_ble_eq_true rfl⟩ rfl rfl rfl rfl rfl rfl ?_
  refine sg_segs [_, _] rfl ?_
  refine sw_iload_n 14 2 C dX6_sendJoint_14 rfl rfl ?_
  refine sw_iload_n 15 1 C dX6_sendJoint_15 rfl rfl ?_
  refine sw_icmp_ne 16 29 C dX6_sendJoint_16 (by decide) (fun c_16 => ?_) (fun c_16 => ?_)
  rotate_left
  · exact by first | exact absurd c_16 (hne) | exact absurd (hne) c_16
  refine sw_aload_n 29 0 C dX6_sendJoint_29 rfl rfl ?_
  refine sw_iload_n 30 1 C dX6_sendJoint_30 rfl rfl ?_
  refine sw_iload_n 31 2 C dX6_sendJoint_31 rfl rfl ?_
  exact xg_thrV 32 [0, 1] 2 0 C RC XT dX6_sendJoint_32 (xt_X6_checkRoom l hfl hS.1 hm) (fun _ h => h) wK_X6_checkRoom wM_X6_65 wN_X6_checkRoom wS_X6_X6_checkRoom wI_X6 hd_X6_checkRoom rfl rfl rfl ⟨rfl, rfl⟩ ⟨(Nat.le_of_ble_eq_true rfl), (Nat.le_of_ble_eq_true rfl)⟩ rfl ⟨(Nat.le_of_ble_eq_true rfl), (Nat.le_of_ble_eq_true rfl)⟩ rfl rfl rfl
