theorem inR_nI {k : Nat} (a b : Nat) (h1 : a ≤ k) (h2 : k ≤ b) (hb : b < 2 ^ 31) : inR (nI k) (nI a) (nI b) = true := by
  unfold inR
  rw [decide_eq_true (nI_le h1 (by omega)), decide_eq_true (nI_le h2 hb)]
  rfl
def brl (r x : Int32) : Int32 := if r ≤ x then 0 else if 4 < r then -1 else (r - x) * 25
set_option maxHeartbeats 4000000 in
set_option maxRecDepth 100000 in
theorem ct_X6_withdraw (l : Launch) {D : va_G} {cI cJ cQ : ClassId} {x0a a0 a1 a2 a3 a4 a5 a6 a7 tr0 s0 s1 r0 w0 ra0 ra1 ra2 ra3 ra4 ra5 ra6 ra7 rb0 rb1 rb2 rb3 rb4 rb5 rb6 rb7 rc0 rc1 rc2 rc3 rc4 rc5 rc6 rc7 rd0 rd1 rd2 rd3 rd4 rd5 rd6 rd7 : Nat} {h : Nat → Option Nat} {S : StT} {R : Nat → StT} {cn od : Nat} {x1 : Int32} (hS : SI S) (hcn : cn ≤ 4) (hod : od < 4) (hh0 : h 0 = some ra0) (hh1 : h 1 = some rb0) (hh2 : h 2 = some rc0) (hh3 : h 3 = some rd0) (i : Nat) (hi : fnd (zf S) x1 (zn S) = some i) : Ct l yX6_withdraw (Cond.code yX6_withdraw cX6_withdraw 3 (some .int)) 8 142 0 0 D (tyz cI cJ cQ) [.ref x0a, .int x1] (flatS [[(x0a, .inr (6, [.ref a0, .ref tr0, .ref s0, .ref r0, .ref w0]))], (wSt a0 a1 a2 a3 a4 a5 a6 a7 cI (S)), [(s0, .inr (3, [.int (nI (cn)), .int (nI (od)), .ref s1])), (s1, .inl (cQ, 4, .inr (.inr (.inr (.inr h)))))], (wSt ra0 ra1 ra2 ra3 ra4 ra5 ra6 ra7 cI ((R) 0)), (wSt rb0 rb1 rb2 rb3 rb4 rb5 rb6 rb7 cI ((R) 1)), (wSt rc0 rc1 rc2 rc3 rc4 rc5 rc6 rc7 cI ((R) 2)), (wSt rd0 rd1 rd2 rd3 rd4 rd5 rd6 rd7 cI ((R) 3))]) (pstI (gbk (zf S) (zg S) i 2) (flatS [[(x0a, .inr (6, [.ref a0, .ref tr0, .ref s0, .ref r0, .ref w0]))], (wSt a0 a1 a2 a3 a4 a5 a6 a7 cI (leaveS S i 2)), [(s0, .inr (3, [.int (nI (svC cn)), .int (nI (svO cn od)), .ref s1])), (s1, .inl (cQ, 4, .inr (.inr (.inr (.inr h)))))], (wSt ra0 ra1 ra2 ra3 ra4 ra5 ra6 ra7 cI ((va_up R (svI cn od) S) 0)), (wSt rb0 rb1 rb2 rb3 rb4 rb5 rb6 rb7 cI ((va_up R (svI cn od) S) 1)), (wSt rc0 rc1 rc2 rc3 rc4 rc5 rc6 rc7 cI ((va_up R (svI cn od) S) 2)), (wSt rd0 rd1 rd2 rd3 rd4 rd5 rd6 rd7 cI ((va_up R (svI cn od) S) 3))])) := by
  refine Ct.of RX6 (by decide) rfl (Nat.le_of_ble_eq_true rfl) ?_
  intro p e s m below meth c A C RC
  have hin := fnd_lt _ _ hi
  refine sw_aload_n 0 0 C dX6_withdraw_0 rfl rfl ?_
  refine sw_iload_n 1 1 C dX6_withdraw_1 rfl rfl ?_
  refine sg_callVI 2 [0, 1] 1 0 [_, _] C dX6_withdraw_2 (ct_X6_findRow l hS.1 i hi) wK_X6_findRow wM_X6_78 wN_X6_findRow wS_X6_X6_findRow wI_X6 hd_X6_findRow rfl rfl rfl ⟨rfl, rfl⟩ ⟨Nat.le_of_ble_eq_true rfl, Nat.le_of_ble_eq_true rfl⟩ rfl rfl rfl rfl rfl rfl ?_
  refine sg_segs [_, _, _, _, _, _, _] rfl ?_
  refine sw_istore_n 5 2 C dX6_withdraw_5 rfl rfl ?_
  refine sw_aload_n 6 0 C dX6_withdraw_6 rfl rfl ?_
  refine sg_get 7 0 0 2 C dX6_withdraw_7 rfl rfl rfl (inA lwX6) (C.w wF_X6_22) rfl rfl rfl ?_
  refine sw_aload_n 10 0 C dX6_withdraw_10 rfl rfl ?_
  refine sg_get 11 0 0 0 C dX6_withdraw_11 rfl rfl rfl (inA lwX6) (C.w wF_X6_10) rfl rfl rfl ?_
  refine sg_callVV 14 [2, 1, 3, 4, 5, 6] 1 0 [_, _, _, _, _, _] C dX6_withdraw_14 (ct_X3_add l hcn hod hh0 hh1 hh2 hh3) wK_X3_add wM_X6_51 wN_X3_add wS_X3_X3_add wI_X3 hd_X3_add rfl rfl rfl ⟨rfl, rfl⟩ ⟨Nat.le_of_ble_eq_true rfl, Nat.le_of_ble_eq_true rfl⟩ rfl rfl rfl rfl rfl rfl ?_
  refine sg_segs [_, _, _, _, _, _, _] rfl ?_
  refine sw_aload_n 17 0 C dX6_withdraw_17 rfl rfl ?_
  refine sg_get 18 0 0 0 C dX6_withdraw_18 rfl rfl rfl (inA lwX6) (C.w wF_X6_10) rfl rfl rfl ?_
  refine sw_iload_n 21 2 C dX6_withdraw_21 rfl rfl ?_
  refine sw_iconst 22 C dX6_withdraw_22 2 (by decide) ?_
  refine sg_callVI 23 [1] 2 0 [_] C dX6_withdraw_23 (ct_X4_letLeave l i 2 rfl rfl hin (by decide) hS.1 hS.2.1 (hS.2.2 i hin)) wK_X4_letLeave wM_X6_82 wN_X4_letLeave wS_X4_X4_letLeave wI_X4 hd_X4_letLeave rfl rfl rfl ⟨rfl, rfl⟩ ⟨Nat.le_of_ble_eq_true rfl, Nat.le_of_ble_eq_true rfl⟩ rfl rfl rfl rfl rfl rfl ?_
  refine sg_segs [_, _, _, _, _, _, _] rfl ?_
  refine sw_iret 26 C RC dX6_withdraw_26 ?_
  exact ⟨rfl, rfl⟩
set_option maxHeartbeats 4000000 in
set_option maxRecDepth 100000 in
theorem xt_X6_withdraw (l : Launch) (hfl : l.stackTraces = false) {D : va_G} {cI cJ cQ : ClassId} {x0a a0 a1 a2 a3 a4 a5 a6 a7 tr0 s0 r0 w0 : Nat} {S : StT} {x1 : Int32} (hS : SI S) (hi : fnd (zf S) x1 (zn S) = none) : XCt l yX6_withdraw (Cond.code yX6_withdraw cX6_withdraw 3 (some .int)) 8 142 1 6 D (tyz cI cJ cQ) [.ref x0a, .int x1] (flatS [[(x0a, .inr (6, [.ref a0, .ref tr0, .ref s0, .ref r0, .ref w0]))], (wSt a0 a1 a2 a3 a4 a5 a6 a7 cI (S))]) (fun _ _ => False) (fun E => E = "java/lang/IndexOutOfBoundsException") := by
  refine XCt.of RX6 (by decide) rfl (Nat.le_of_ble_eq_true rfl) ?_
  intro p e s m below meth c A C RC XT
  refine sw_aload_n 0 0 C dX6_withdraw_0 rfl rfl ?_
  refine sw_iload_n 1 1 C dX6_withdraw_1 rfl rfl ?_
  exact xg_thrV 2 [0, 1] 1 0 C RC XT dX6_withdraw_2 (xt_X6_findRow l hfl hS.1 hi) (fun _ h => h) wK_X6_findRow wM_X6_78 wN_X6_findRow wS_X6_X6_findRow wI_X6 hd_X6_findRow rfl rfl rfl ⟨rfl, rfl⟩ ⟨(Nat.le_of_ble_eq_true rfl), (Nat.le_of_ble_eq_true rfl)⟩ rfl ⟨(Nat.le_of_ble_eq_true rfl), (Nat.le_of_ble_eq_true rfl)⟩ rfl rfl rfl
set_option maxHeartbeats 4000000 in
set_option maxRecDepth 100000 in
theorem ct_X6_serve (l : Launch) {D : va_G} {cI cJ cQ : ClassId} {x0a a0 a1 a2 a3 a4 a5 a6 a7 tr0 s0 s1 r0 w0 ra0 ra1 ra2 ra3 ra4 ra5 ra6 ra7 rb0 rb1 rb2 rb3 rb4 rb5 rb6 rb7 rc0 rc1 rc2 rc3 rc4 rc5 rc6 rc7 rd0 rd1 rd2 rd3 rd4 rd5 rd6 rd7 : Nat} {h : Nat → Option Nat} {S : StT} {R : Nat → StT} {cn od : Nat} (hS : SI S) (hcn : cn ≤ 4) (hod : od < 4) (hh0 : h 0 = some ra0) (hh1 : h 1 = some rb0) (hh2 : h 2 = some rc0) (hh3 : h 3 = some rd0) (h0 : 0 < zn S) : Ct l yX6_serve (Cond.code yX6_serve cX6_serve 1 (some .int)) 7 120 0 0 D (tyz cI cJ cQ) [.ref x0a] (flatS [[(x0a, .inr (6, [.ref a0, .ref tr0, .ref s0, .ref r0, .ref w0]))], (wSt a0 a1 a2 a3 a4 a5 a6 a7 cI (S)), [(s0, .inr (3, [.int (nI (cn)), .int (nI (od)), .ref s1])), (s1, .inl (cQ, 4, .inr (.inr (.inr (.inr h)))))], (wSt ra0 ra1 ra2 ra3 ra4 ra5 ra6 ra7 cI ((R) 0)), (wSt rb0 rb1 rb2 rb3 rb4 rb5 rb6 rb7 cI ((R) 1)), (wSt rc0 rc1 rc2 rc3 rc4 rc5 rc6 rc7 cI ((R) 2)), (wSt rd0 rd1 rd2 rd3 rd4 rd5 rd6 rd7 cI ((R) 3))]) (pstI (srv S).1 (flatS [[(x0a, .inr (6, [.ref a0, .ref tr0, .ref s0, .ref r0, .ref w0]))], (wSt a0 a1 a2 a3 a4 a5 a6 a7 cI ((srv S).2)), [(s0, .inr (3, [.int (nI (svC cn)), .int (nI (svO cn od)), .ref s1])), (s1, .inl (cQ, 4, .inr (.inr (.inr (.inr h)))))], (wSt ra0 ra1 ra2 ra3 ra4 ra5 ra6 ra7 cI ((va_up R (svI cn od) S) 0)), (wSt rb0 rb1 rb2 rb3 rb4 rb5 rb6 rb7 cI ((va_up R (svI cn od) S) 1)), (wSt rc0 rc1 rc2 rc3 rc4 rc5 rc6 rc7 cI ((va_up R (svI cn od) S) 2)), (wSt rd0 rd1 rd2 rd3 rd4 rd5 rd6 rd7 cI ((va_up R (svI cn od) S) 3))])) := by
  refine Ct.of RX6 (by decide) rfl (Nat.le_of_ble_eq_true rfl) ?_
  intro p e s m below meth c A C RC
  refine sw_aload_n 0 0 C dX6_serve_0 rfl rfl ?_
  refine sg_get 1 0 0 0 C dX6_serve_1 rfl rfl rfl (inA lwX6) (C.w wF_X6_10) rfl rfl rfl ?_
  refine sg_get 4 1 0 4 C dX6_serve_4 rfl rfl rfl (inA lwX4) (C.w wF_X6_86) rfl rfl rfl ?_
  refine sg_get 7 1 2 0 C dX6_serve_7 rfl rfl rfl (inA lwX2) (C.w wF_X6_90) rfl rfl rfl ?_
  refine sw_if_ne 10 23 C dX6_serve_10 (by decide) (fun c_10 => ?_) (fun c_10 => ?_)
  rotate_left
  · exact by first | exact absurd c_10 (nI_ne0 h0 (by have := hS.1; omega)) | exact absurd (nI_ne0 h0 (by have := hS.1; omega)) c_10
  refine sw_aload_n 23 0 C dX6_serve_23 rfl rfl ?_
  refine sg_get 24 0 0 2 C dX6_serve_24 rfl rfl rfl (inA lwX6) (C.w wF_X6_22) rfl rfl rfl ?_
  refine sw_aload_n 27 0 C dX6_serve_27 rfl rfl ?_
  refine sg_get 28 0 0 0 C dX6_serve_28 rfl rfl rfl (inA lwX6) (C.w wF_X6_10) rfl rfl rfl ?_
  refine sg_callVV 31 [2, 1, 3, 4, 5, 6] 1 0 [_, _, _, _, _, _] C dX6_serve_31 (ct_X3_add l hcn hod hh0 hh1 hh2 hh3) wK_X3_add wM_X6_51 wN_X3_add wS_X3_X3_add wI_X3 hd_X3_add rfl rfl rfl ⟨rfl, rfl⟩ ⟨Nat.le_of_ble_eq_true rfl, Nat.le_of_ble_eq_true rfl⟩ rfl rfl rfl rfl rfl rfl ?_
  refine sg_segs [_, _, _, _, _, _, _] rfl ?_
  refine sw_aload_n 34 0 C dX6_serve_34 rfl rfl ?_
  refine sg_get 35 0 0 0 C dX6_serve_35 rfl rfl rfl (inA lwX6) (C.w wF_X6_10) rfl rfl rfl ?_
  refine sg_callVI 38 [1] 0 0 [_] C dX6_serve_38 (ct_X4_serveFirst l hS) wK_X4_serveFirst wM_X6_100 wN_X4_serveFirst wS_X4_X4_serveFirst wI_X4 hd_X4_serveFirst rfl rfl rfl ⟨rfl, rfl⟩ ⟨Nat.le_of_ble_eq_true rfl, Nat.le_of_ble_eq_true rfl⟩ rfl rfl rfl rfl rfl rfl ?_
  refine sg_segs [_, _, _, _, _, _, _] rfl ?_
  refine sw_iret 41 C RC dX6_serve_41 ?_
  exact ⟨rfl, rfl⟩
set_option maxHeartbeats 4000000 in
set_option maxRecDepth 100000 in
theorem ct_X6_pass (l : Launch) {D : va_G} {cI cJ cQ : ClassId} {x0a a0 a1 a2 a3 a4 a5 a6 a7 tr0 s0 s1 r0 w0 ra0 ra1 ra2 ra3 ra4 ra5 ra6 ra7 rb0 rb1 rb2 rb3 rb4 rb5 rb6 rb7 rc0 rc1 rc2 rc3 rc4 rc5 rc6 rc7 rd0 rd1 rd2 rd3 rd4 rd5 rd6 rd7 : Nat} {h : Nat → Option Nat} {S : StT} {R : Nat → StT} {cn od : Nat} {x1 : Int32} (hS : SI S) (hcn : cn ≤ 4) (hod : od < 4) (hh0 : h 0 = some ra0) (hh1 : h 1 = some rb0) (hh2 : h 2 = some rc0) (hh3 : h 3 = some rd0) (k : Nat) (h1 : x1 = nI k) (hk0 : 1 ≤ k) (hk : k ≤ 200) (ht : x1 ≤ 100000 - zt S) : Ct l yX6_pass (Cond.code yX6_pass cX6_pass 2 (some .int)) 8 142 0 0 D (tyz cI cJ cQ) [.ref x0a, .int x1] (flatS [[(x0a, .inr (6, [.ref a0, .ref tr0, .ref s0, .ref r0, .ref w0]))], (wSt a0 a1 a2 a3 a4 a5 a6 a7 cI (S)), [(s0, .inr (3, [.int (nI (cn)), .int (nI (od)), .ref s1])), (s1, .inl (cQ, 4, .inr (.inr (.inr (.inr h)))))], (wSt ra0 ra1 ra2 ra3 ra4 ra5 ra6 ra7 cI ((R) 0)), (wSt rb0 rb1 rb2 rb3 rb4 rb5 rb6 rb7 cI ((R) 1)), (wSt rc0 rc1 rc2 rc3 rc4 rc5 rc6 rc7 cI ((R) 2)), (wSt rd0 rd1 rd2 rd3 rd4 rd5 rd6 rd7 cI ((R) 3))]) (pstI (nI (tps k S).1) (flatS [[(x0a, .inr (6, [.ref a0, .ref tr0, .ref s0, .ref r0, .ref w0]))], (wSt a0 a1 a2 a3 a4 a5 a6 a7 cI ((tps k S).2)), [(s0, .inr (3, [.int (nI (svC cn)), .int (nI (svO cn od)), .ref s1])), (s1, .inl (cQ, 4, .inr (.inr (.inr (.inr h)))))], (wSt ra0 ra1 ra2 ra3 ra4 ra5 ra6 ra7 cI ((va_up R (svI cn od) S) 0)), (wSt rb0 rb1 rb2 rb3 rb4 rb5 rb6 rb7 cI ((va_up R (svI cn od) S) 1)), (wSt rc0 rc1 rc2 rc3 rc4 rc5 rc6 rc7 cI ((va_up R (svI cn od) S) 2)), (wSt rd0 rd1 rd2 rd3 rd4 rd5 rd6 rd7 cI ((va_up R (svI cn od) S) 3))])) := by
  refine Ct.of RX6 (by decide) rfl (Nat.le_of_ble_eq_true rfl) ?_
  intro p e s m below meth c A C RC
  refine sw_iload_n 0 1 C dX6_pass_0 rfl rfl ?_
  refine sw_iconst 1 C dX6_pass_1 1 (by decide) ?_
  refine sw_sipush 2 C dX6_pass_2 200 (by decide) ?_
  refine sg_callSV 5 [] 3 [] C dX6_pass_5 (ct_X6_checkRange l (by rw [h1]; exact inR_nI 1 200 hk0 hk (by decide))) wK_X6_checkRange wM_X6_47 wT_X6_checkRange wI_X6 hd_X6_checkRange rfl ⟨rfl, rfl⟩ ⟨Nat.le_of_ble_eq_true rfl, Nat.le_of_ble_eq_true rfl⟩ rfl rfl rfl rfl rfl rfl ?_
  refine sg_segs [_, _, _, _, _, _, _] rfl ?_
  refine sw_aload_n 8 0 C dX6_pass_8 rfl rfl ?_
  refine sg_get 9 0 0 0 C dX6_pass_9 rfl rfl rfl (inA lwX6) (C.w wF_X6_10) rfl rfl rfl ?_
  refine sw_iload_n 12 1 C dX6_pass_12 rfl rfl ?_
  refine sg_callVIP 13 [1] 1 0 C dX6_pass_13 (ct_X4_hasTimeFor l) wK_X4_hasTimeFor wM_X6_104 wN_X4_hasTimeFor wS_X4_X4_hasTimeFor wI_X4 hd_X4_hasTimeFor rfl rfl rfl ⟨rfl, rfl⟩ ⟨Nat.le_of_ble_eq_true rfl, Nat.le_of_ble_eq_true rfl⟩ rfl rfl rfl rfl ?_
  refine sw_if_ne 16 29 C dX6_pass_16 (by decide) (fun c_16 => ?_) (fun c_16 => ?_)
  rotate_left
  · exact by first | exact absurd c_16 (by rw [decide_eq_true ht]; decide) | exact absurd (by rw [decide_eq_true ht]; decide) c_16
  refine sw_aload_n 29 0 C dX6_pass_29 rfl rfl ?_
  refine sg_get 30 0 0 2 C dX6_pass_30 rfl rfl rfl (inA lwX6) (C.w wF_X6_22) rfl rfl rfl ?_
  refine sw_aload_n 33 0 C dX6_pass_33 rfl rfl ?_
  refine sg_get 34 0 0 0 C dX6_pass_34 rfl rfl rfl (inA lwX6) (C.w wF_X6_10) rfl rfl rfl ?_
  refine sg_callVV 37 [2, 1, 3, 4, 5, 6] 1 0 [_, _, _, _, _, _] C dX6_pass_37 (ct_X3_add l hcn hod hh0 hh1 hh2 hh3) wK_X3_add wM_X6_51 wN_X3_add wS_X3_X3_add wI_X3 hd_X3_add rfl rfl rfl ⟨rfl, rfl⟩ ⟨Nat.le_of_ble_eq_true rfl, Nat.le_of_ble_eq_true rfl⟩ rfl rfl rfl rfl rfl rfl ?_
  refine sg_segs [_, _, _, _, _, _, _] rfl ?_
  refine sw_aload_n 40 0 C dX6_pass_40 rfl rfl ?_
  refine sg_get 41 0 0 0 C dX6_pass_41 rfl rfl rfl (inA lwX6) (C.w wF_X6_10) rfl rfl rfl ?_
  refine sw_iload_n 44 1 C dX6_pass_44 rfl rfl ?_
  refine sg_callVI 45 [1] 1 0 [_] C dX6_pass_45 (ct_X4_letPass l k h1 hk hS) wK_X4_letPass wM_X6_113 wN_X4_letPass wS_X4_X4_letPass wI_X4 hd_X4_letPass rfl rfl rfl ⟨rfl, rfl⟩ ⟨Nat.le_of_ble_eq_true rfl, Nat.le_of_ble_eq_true rfl⟩ rfl rfl rfl rfl rfl rfl ?_
  refine sg_segs [_, _, _, _, _, _, _] rfl ?_
  refine sw_iret 48 C RC dX6_pass_48 ?_
  exact ⟨rfl, rfl⟩
set_option maxHeartbeats 4000000 in
set_option maxRecDepth 100000 in
theorem xt_X6_pass (l : Launch) (hfl : l.stackTraces = false) {D : va_G} {cI cJ cQ : ClassId} {x0a a0 a1 a2 a3 a4 a5 a6 a7 tr0 s0 r0 w0 : Nat} {S : StT} {x1 : Int32} (hx : inR x1 1 200 = false) : XCt l yX6_pass (Cond.code yX6_pass cX6_pass 2 (some .int)) 8 142 1 6 D (tyz cI cJ cQ) [.ref x0a, .int x1] (flatS [[(x0a, .inr (6, [.ref a0, .ref tr0, .ref s0, .ref r0, .ref w0]))], (wSt a0 a1 a2 a3 a4 a5 a6 a7 cI (S))]) (fun _ _ => False) (fun E => E = "java/lang/IllegalArgumentException") := by
  refine XCt.of RX6 (by decide) rfl (Nat.le_of_ble_eq_true rfl) ?_
  intro p e s m below meth c A C RC XT
  refine sw_iload_n 0 1 C dX6_pass_0 rfl rfl ?_
  refine sw_iconst 1 C dX6_pass_1 1 (by decide) ?_
  refine sw_sipush 2 C dX6_pass_2 200 (by decide) ?_
  exact xg_thrS 5 [] 3 C RC XT dX6_pass_5 (xt_X6_checkRange l hfl hx) (fun _ h => h) wK_X6_checkRange wM_X6_47 wT_X6_checkRange wI_X6 hd_X6_checkRange rfl ⟨rfl, rfl⟩ ⟨(Nat.le_of_ble_eq_true rfl), (Nat.le_of_ble_eq_true rfl)⟩ rfl ⟨(Nat.le_of_ble_eq_true rfl), (Nat.le_of_ble_eq_true rfl)⟩ rfl rfl rfl
set_option maxHeartbeats 4000000 in
set_option maxRecDepth 100000 in
theorem xt_X6_pass_2 (l : Launch) (hfl : l.stackTraces = false) {D : va_G} {cI cJ cQ : ClassId} {x0a a0 a1 a2 a3 a4 a5 a6 a7 tr0 s0 r0 w0 : Nat} {S : StT} {x1 : Int32} (hx : inR x1 1 200 = true) (ht : ¬ x1 ≤ 100000 - zt S) : XCt l yX6_pass (Cond.code yX6_pass cX6_pass 2 (some .int)) 8 142 1 6 D (tyz cI cJ cQ) [.ref x0a, .int x1] (flatS [[(x0a, .inr (6, [.ref a0, .ref tr0, .ref s0, .ref r0, .ref w0]))], (wSt a0 a1 a2 a3 a4 a5 a6 a7 cI (S))]) (fun _ _ => False) (fun E => E = "java/lang/IllegalStateException") := by
  refine XCt.of RX6 (by decide) rfl (Nat.le_of_ble_eq_true rfl) ?_
  intro p e s m below meth c A C RC XT
  refine sw_iload_n 0 1 C dX6_pass_0 rfl rfl ?_
  refine sw_iconst 1 C dX6_pass_1 1 (by decide) ?_
  refine sw_sipush 2 C dX6_pass_2 200 (by decide) ?_
  refine sg_callSV 5 [] 3 [] C dX6_pass_5 (ct_X6_checkRange l hx) wK_X6_checkRange wM_X6_47 wT_X6_checkRange wI_X6 hd_X6_checkRange rfl ⟨rfl, rfl⟩ ⟨Nat.le_of_ble_eq_true rfl, Nat.le_of_ble_eq_true rfl⟩ rfl rfl rfl rfl rfl rfl ?_
  refine sg_segs [_, _] rfl ?_
  refine sw_aload_n 8 0 C dX6_pass_8 rfl rfl ?_
  refine sg_get 9 0 0 0 C dX6_pass_9 rfl rfl rfl (inA lwX6) (C.w wF_X6_10) rfl rfl rfl ?_
  refine sw_iload_n 12 1 C dX6_pass_12 rfl rfl ?_
  refine sg_callVIP 13 [1] 1 0 C dX6_pass_13 (ct_X4_hasTimeFor l) wK_X4_hasTimeFor wM_X6_104 wN_X4_hasTimeFor wS_X4_X4_hasTimeFor wI_X4 hd_X4_hasTimeFor rfl rfl rfl ⟨rfl, rfl⟩ ⟨Nat.le_of_ble_eq_true rfl, Nat.le_of_ble_eq_true rfl⟩ rfl rfl rfl rfl ?_
  refine sw_if_ne 16 29 C dX6_pass_16 (by decide) (fun c_16 => ?_) (fun c_16 => ?_)
  · exact by first | exact absurd c_16 (fun q => q (by rw [decide_eq_false ht]; rfl)) | exact absurd (fun q => q (by rw [decide_eq_false ht]; rfl)) c_16
  exact xw_throw 19 108 110 112 C RC XT hfl dX6_pass_19 dX6_pass_22 dX6_pass_23 dX6_pass_25 dX6_pass_28 (by decide +kernel) wC_X6_108 wI_IllegalStateException xat_ise xno_ise xot_ise (List.mem_of_getElem? (i := 3) rfl) rfl rfl (Nat.le_of_ble_eq_true rfl) (Nat.le_of_ble_eq_true rfl) (Nat.le_of_ble_eq_true rfl) (Nat.le_of_ble_eq_true rfl) (rfl)
set_option maxHeartbeats 4000000 in
set_option maxRecDepth 100000 in
theorem ct_X6_undo (l : Launch) {D : va_G} {cI cJ cQ : ClassId} {x0a a0 a1 a2 a3 a4 a5 a6 a7 tr0 s0 s1 r0 w0 ra0 ra1 ra2 ra3 ra4 ra5 ra6 ra7 rb0 rb1 rb2 rb3 rb4 rb5 rb6 rb7 rc0 rc1 rc2 rc3 rc4 rc5 rc6 rc7 rd0 rd1 rd2 rd3 rd4 rd5 rd6 rd7 : Nat} {h : Nat → Option Nat} {S : StT} {R : Nat → StT} {cn od : Nat} (hS : SI S) (hcn : cn ≤ 4) (hod : od < 4) (hh0 : h 0 = some ra0) (hh1 : h 1 = some rb0) (hh2 : h 2 = some rc0) (hh3 : h 3 = some rd0) (h0 : 0 < cn) : Ct l yX6_undo (Cond.code yX6_undo cX6_undo 1 (some .int)) 7 120 0 0 D (tyz cI cJ cQ) [.ref x0a] (flatS [[(x0a, .inr (6, [.ref a0, .ref tr0, .ref s0, .ref r0, .ref w0]))], (wSt a0 a1 a2 a3 a4 a5 a6 a7 cI (S)), [(s0, .inr (3, [.int (nI (cn)), .int (nI (od)), .ref s1])), (s1, .inl (cQ, 4, .inr (.inr (.inr (.inr h)))))], (wSt ra0 ra1 ra2 ra3 ra4 ra5 ra6 ra7 cI ((R) 0)), (wSt rb0 rb1 rb2 rb3 rb4 rb5 rb6 rb7 cI ((R) 1)), (wSt rc0 rc1 rc2 rc3 rc4 rc5 rc6 rc7 cI ((R) 2)), (wSt rd0 rd1 rd2 rd3 rd4 rd5 rd6 rd7 cI ((R) 3))]) (pstI (nI (cn - 1)) (flatS [[(x0a, .inr (6, [.ref a0, .ref tr0, .ref s0, .ref r0, .ref w0]))], (wSt a0 a1 a2 a3 a4 a5 a6 a7 cI (R ((od + (cn - 1)) % 4))), [(s0, .inr (3, [.int (nI (cn - 1)), .int (nI (od)), .ref s1])), (s1, .inl (cQ, 4, .inr (.inr (.inr (.inr h)))))], (wSt ra0 ra1 ra2 ra3 ra4 ra5 ra6 ra7 cI ((R) 0)), (wSt rb0 rb1 rb2 rb3 rb4 rb5 rb6 rb7 cI ((R) 1)), (wSt rc0 rc1 rc2 rc3 rc4 rc5 rc6 rc7 cI ((R) 2)), (wSt rd0 rd1 rd2 rd3 rd4 rd5 rd6 rd7 cI ((R) 3))])) := by
  refine Ct.of RX6 (by decide) rfl (Nat.le_of_ble_eq_true rfl) ?_
  intro p e s m below meth c A C RC
  refine sw_aload_n 0 0 C dX6_undo_0 rfl rfl ?_
  refine sg_get 1 0 0 2 C dX6_undo_1 rfl rfl rfl (inA lwX6) (C.w wF_X6_22) rfl rfl rfl ?_
  refine sg_get 4 2 0 0 C dX6_undo_4 rfl rfl rfl (inA lwX3) (C.w wF_X6_197) rfl rfl rfl ?_
  refine sw_if_ne 7 20 C dX6_undo_7 (by decide) (fun c_7 => ?_) (fun c_7 => ?_)
  rotate_left
  · exact by first | exact absurd c_7 (nI_ne0 h0 (by omega)) | exact absurd (nI_ne0 h0 (by omega)) c_7
  refine sw_aload_n 20 0 C dX6_undo_20 rfl rfl ?_
  refine sg_get 21 0 0 2 C dX6_undo_21 rfl rfl rfl (inA lwX6) (C.w wF_X6_22) rfl rfl rfl ?_
  refine sw_aload_n 24 0 C dX6_undo_24 rfl rfl ?_
  refine sg_get 25 0 0 0 C dX6_undo_25 rfl rfl rfl (inA lwX6) (C.w wF_X6_10) rfl rfl rfl ?_
  refine sg_callVV 28 [2, 1, 3, 4, 5, 6] 1 0 [_, _, _, _, _, _] C dX6_undo_28 (ct_X3_takeLatest l h0 hcn hod hh0 hh1 hh2 hh3) wK_X3_takeLatest wM_X6_200 wN_X3_takeLatest wS_X3_X3_takeLatest wI_X3 hd_X3_takeLatest rfl rfl rfl ⟨rfl, rfl⟩ ⟨Nat.le_of_ble_eq_true rfl, Nat.le_of_ble_eq_true rfl⟩ rfl rfl rfl rfl rfl rfl ?_
  refine sg_segs [_, _, _, _, _, _, _] rfl ?_
  refine sw_aload_n 31 0 C dX6_undo_31 rfl rfl ?_
  refine sg_get 32 0 0 2 C dX6_undo_32 rfl rfl rfl (inA lwX6) (C.w wF_X6_22) rfl rfl rfl ?_
  refine sg_get 35 2 0 0 C dX6_undo_35 rfl rfl rfl (inA lwX3) (C.w wF_X6_197) rfl rfl rfl ?_
  refine sw_iret 38 C RC dX6_undo_38 ?_
  exact ⟨rfl, rfl⟩
set_option maxHeartbeats 4000000 in
set_option maxRecDepth 100000 in
theorem xt_X6_undo (l : Launch) (hfl : l.stackTraces = false) {D : va_G} {cI cJ cQ : ClassId} {x0a a0 a1 a2 a3 a4 a5 a6 a7 tr0 s0 s1 r0 w0 : Nat} {S : StT} {h : Nat → Option Nat} {cn od : Nat} (h0 : cn = 0) : XCt l yX6_undo (Cond.code yX6_undo cX6_undo 1 (some .int)) 7 120 1 6 D (tyz cI cJ cQ) [.ref x0a] (flatS [[(x0a, .inr (6, [.ref a0, .ref tr0, .ref s0, .ref r0, .ref w0]))], (wSt a0 a1 a2 a3 a4 a5 a6 a7 cI (S)), [(s0, .inr (3, [.int (nI (cn)), .int (nI (od)), .ref s1])), (s1, .inl (cQ, 4, .inr (.inr (.inr (.inr h)))))]]) (fun _ _ => False) (fun E => E = "java/lang/IllegalStateException") := by
  refine XCt.of RX6 (by decide) rfl (Nat.le_of_ble_eq_true rfl) ?_
  intro p e s m below meth c A C RC XT
  refine sw_aload_n 0 0 C dX6_undo_0 rfl rfl ?_
  refine sg_get 1 0 0 2 C dX6_undo_1 rfl rfl rfl (inA lwX6) (C.w wF_X6_22) rfl rfl rfl ?_
  refine sg_get 4 2 0 0 C dX6_undo_4 rfl rfl rfl (inA lwX3) (C.w wF_X6_197) rfl rfl rfl ?_
  refine sw_if_ne 7 20 C dX6_undo_7 (by decide) (fun c_7 => ?_) (fun c_7 => ?_)
  · exact by first | exact absurd c_7 (fun q => q (by rw [h0]; rfl)) | exact absurd (fun q => q (by rw [h0]; rfl)) c_7
  exact xw_throw 10 108 198 112 C RC XT hfl dX6_undo_10 dX6_undo_13 dX6_undo_14 dX6_undo_16 dX6_undo_19 (by decide +kernel) wC_X6_108 wI_IllegalStateException xat_ise xno_ise xot_ise (List.mem_of_getElem? (i := 7) rfl) rfl rfl (Nat.le_of_ble_eq_true rfl) (Nat.le_of_ble_eq_true rfl) (Nat.le_of_ble_eq_true rfl) (Nat.le_of_ble_eq_true rfl) (rfl)
set_option maxHeartbeats 4000000 in
set_option maxRecDepth 100000 in
theorem ct_X6_petition (l : Launch) {D : va_G} {cI cJ cQ : ClassId} {x0a a0 a1 a2 a3 a4 a5 a6 a7 tr0 s0 r0 w0 : Nat} {S : StT} {x1 x2 : Int32} (hS : SI S) (i : Nat) (hi : fnd (zf S) x1 (zn S) = some i) (w : Nat) (h2 : x2 = nI w) (hw : w ≤ 9) : Ct l yX6_petition (Cond.code yX6_petition cX6_petition 4 (some .int)) 8 142 0 0 D (tyz cI cJ cQ) [.ref x0a, .int x1, .int x2] (flatS [[(x0a, .inr (6, [.ref a0, .ref tr0, .ref s0, .ref r0, .ref w0]))], (wSt a0 a1 a2 a3 a4 a5 a6 a7 cI (S))]) (pstI (tel (zf S) (zn S) i w) (flatS [[(x0a, .inr (6, [.ref a0, .ref tr0, .ref s0, .ref r0, .ref w0]))], (wSt a0 a1 a2 a3 a4 a5 a6 a7 cI (S))])) := by
  refine Ct.of RX6 (by decide) rfl (Nat.le_of_ble_eq_true rfl) ?_
  intro p e s m below meth c A C RC
  have hin := fnd_lt _ _ hi
  refine sw_aload_n 0 0 C dX6_petition_0 rfl rfl ?_
  refine sw_iload_n 1 1 C dX6_petition_1 rfl rfl ?_
  refine sg_callVI 2 [0, 1] 1 0 [_, _] C dX6_petition_2 (ct_X6_findRow l hS.1 i hi) wK_X6_findRow wM_X6_78 wN_X6_findRow wS_X6_X6_findRow wI_X6 hd_X6_findRow rfl rfl rfl ⟨rfl, rfl⟩ ⟨Nat.le_of_ble_eq_true rfl, Nat.le_of_ble_eq_true rfl⟩ rfl rfl rfl rfl rfl rfl ?_
  refine sg_segs [_, _] rfl ?_
  refine sw_istore_n 5 3 C dX6_petition_5 rfl rfl ?_
  refine sw_iload_n 6 2 C dX6_petition_6 rfl rfl ?_
  refine sw_iconst 7 C dX6_petition_7 0 (by decide) ?_
  refine sw_bipush 8 C dX6_petition_8 9 (by decide) ?_
  refine sg_callSV 10 [] 3 [] C dX6_petition_10 (ct_X6_checkRange l (by rw [h2]; exact inR_nI 0 9 (Nat.zero_le _) hw (by decide))) wK_X6_checkRange wM_X6_47 wT_X6_checkRange wI_X6 hd_X6_checkRange rfl ⟨rfl, rfl⟩ ⟨Nat.le_of_ble_eq_true rfl, Nat.le_of_ble_eq_true rfl⟩ rfl rfl rfl rfl rfl rfl ?_
  refine sg_segs [_, _] rfl ?_
  refine sw_aload_n 13 0 C dX6_petition_13 rfl rfl ?_
  refine sg_get 14 0 0 0 C dX6_petition_14 rfl rfl rfl (inA lwX6) (C.w wF_X6_10) rfl rfl rfl ?_
  refine sg_get 17 1 0 4 C dX6_petition_17 rfl rfl rfl (inA lwX4) (C.w wF_X6_86) rfl rfl rfl ?_
  refine sw_iload_n 20 3 C dX6_petition_20 rfl rfl ?_
  refine sw_iload_n 21 2 C dX6_petition_21 rfl rfl ?_
  refine sg_callVIP 22 [1] 2 2 C dX6_petition_22 ((ct_X2_tell l i w rfl h2 hin hw hS.1).liftIP (ws := (wSt a0 a1 a2 a3 a4 a5 a6 a7 cI (S))) [2, 3] rfl rfl rfl) wK_X2_tell wM_X6_116 wN_X2_tell wS_X2_X2_tell wI_X2 hd_X2_tell rfl rfl rfl ⟨rfl, rfl⟩ ⟨Nat.le_of_ble_eq_true rfl, Nat.le_of_ble_eq_true rfl⟩ rfl rfl rfl rfl ?_
  refine sw_iret 25 C RC dX6_petition_25 ?_
  exact ⟨rfl, rfl⟩
set_option maxHeartbeats 4000000 in
set_option maxRecDepth 100000 in
theorem xt_X6_petition (l : Launch) (hfl : l.stackTraces = false) {D : va_G} {cI cJ cQ : ClassId} {x0a a0 a1 a2 a3 a4 a5 a6 a7 tr0 s0 r0 w0 : Nat} {S : StT} {x1 x2 : Int32} (hS : SI S) (hi : fnd (zf S) x1 (zn S) = none) : XCt l yX6_petition (Cond.code yX6_petition cX6_petition 4 (some .int)) 8 142 1 6 D (tyz cI cJ cQ) [.ref x0a, .int x1, .int x2] (flatS [[(x0a, .inr (6, [.ref a0, .ref tr0, .ref s0, .ref r0, .ref w0]))], (wSt a0 a1 a2 a3 a4 a5 a6 a7 cI (S))]) (fun _ _ => False) (fun E => E = "java/lang/IndexOutOfBoundsException") := by
  refine XCt.of RX6 (by decide) rfl (Nat.le_of_ble_eq_true rfl) ?_
  intro p e s m below meth c A C RC XT
  refine sw_aload_n 0 0 C dX6_petition_0 rfl rfl ?_
  refine sw_iload_n 1 1 C dX6_petition_1 rfl rfl ?_
  exact xg_thrV 2 [0, 1] 1 0 C RC XT dX6_petition_2 (xt_X6_findRow l hfl hS.1 hi) (fun _ h => h) wK_X6_findRow wM_X6_78 wN_X6_findRow wS_X6_X6_findRow wI_X6 hd_X6_findRow rfl rfl rfl ⟨rfl, rfl⟩ ⟨(Nat.le_of_ble_eq_true rfl), (Nat.le_of_ble_eq_true rfl)⟩ rfl ⟨(Nat.le_of_ble_eq_true rfl), (Nat.le_of_ble_eq_true rfl)⟩ rfl rfl rfl
set_option maxHeartbeats 4000000 in
set_option maxRecDepth 100000 in
theorem xt_X6_petition_2 (l : Launch) (hfl : l.stackTraces = false) {D : va_G} {cI cJ cQ : ClassId} {x0a a0 a1 a2 a3 a4 a5 a6 a7 tr0 s0 r0 w0 : Nat} {S : StT} {x1 x2 : Int32} (hS : SI S) (i : Nat) (hi : fnd (zf S) x1 (zn S) = some i) (hx : inR x2 0 9 = false) : XCt l yX6_petition (Cond.code yX6_petition cX6_petition 4 (some .int)) 8 142 1 6 D (tyz cI cJ cQ) [.ref x0a, .int x1, .int x2] (flatS [[(x0a, .inr (6, [.ref a0, .ref tr0, .ref s0, .ref r0, .ref w0]))], (wSt a0 a1 a2 a3 a4 a5 a6 a7 cI (S))]) (fun _ _ => False) (fun E => E = "java/lang/IllegalArgumentException") := by
  refine XCt.of RX6 (by decide) rfl (Nat.le_of_ble_eq_true rfl) ?_
  intro p e s m below meth c A C RC XT
  refine sw_aload_n 0 0 C dX6_petition_0 rfl rfl ?_
  refine sw_iload_n 1 1 C dX6_petition_1 rfl rfl ?_
  refine sg_callVI 2 [0, 1] 1 0 [_, _] C dX6_petition_2 (ct_X6_findRow l hS.1 i hi) wK_X6_findRow wM_X6_78 wN_X6_findRow wS_X6_X6_findRow wI_X6 hd_X6_findRow rfl rfl rfl ⟨rfl, rfl⟩ ⟨Nat.le_of_ble_eq_true rfl, Nat.le_of_ble_eq_true rfl⟩ rfl rfl rfl rfl rfl rfl ?_
  refine sg_segs [_, _] rfl ?_
  refine sw_istore_n 5 3 C dX6_petition_5 rfl rfl ?_
  refine sw_iload_n 6 2 C dX6_petition_6 rfl rfl ?_
  refine sw_iconst 7 C dX6_petition_7 0 (by decide) ?_
  refine sw_bipush 8 C dX6_petition_8 9 (by decide) ?_
  exact xg_thrS 10 [] 3 C RC XT dX6_petition_10 (xt_X6_checkRange l hfl hx) (fun _ h => h) wK_X6_checkRange wM_X6_47 wT_X6_checkRange wI_X6 hd_X6_checkRange rfl ⟨rfl, rfl⟩ ⟨(Nat.le_of_ble_eq_true rfl), (Nat.le_of_ble_eq_true rfl)⟩ rfl ⟨(Nat.le_of_ble_eq_true rfl), (Nat.le_of_ble_eq_true rfl)⟩ rfl rfl rfl
set_option maxHeartbeats 4000000 in
set_option maxRecDepth 100000 in
theorem ct_X6_sentBy (l : Launch) {D : va_G} {cI cJ cQ : ClassId} {x0a a0 a1 a2 a3 a4 a5 a6 a7 tr0 s0 r0 w0 : Nat} {S : StT} {x : Int32} (hS : SI S) (hx : inR x 0 7 = true) : Ct l yX6_sentBy (Cond.code yX6_sentBy cX6_sentBy 2 (some .int)) 8 142 0 0 D (tyz cI cJ cQ) [.ref x0a, .int x] (flatS [[(x0a, .inr (6, [.ref a0, .ref tr0, .ref s0, .ref r0, .ref w0]))], (wSt a0 a1 a2 a3 a4 a5 a6 a7 cI (S))]) (pstI (nI (ct (isOf (zf S) x) (zn S))) (flatS [[(x0a, .inr (6, [.ref a0, .ref tr0, .ref s0, .ref r0, .ref w0]))], (wSt a0 a1 a2 a3 a4 a5 a6 a7 cI (S))])) := by
  refine Ct.of RX6 (by decide) rfl (Nat.le_of_ble_eq_true rfl) ?_
  intro p e s m below meth c A C RC
  refine sw_iload_n 0 1 C dX6_sentBy_0 rfl rfl ?_
  refine sw_iconst 1 C dX6_sentBy_1 0 (by decide) ?_
  refine sw_bipush 2 C dX6_sentBy_2 7 (by decide) ?_
  refine sg_callSV 4 [] 3 [] C dX6_sentBy_4 (ct_X6_checkRange l hx) wK_X6_checkRange wM_X6_47 wT_X6_checkRange wI_X6 hd_X6_checkRange rfl ⟨rfl, rfl⟩ ⟨Nat.le_of_ble_eq_true rfl, Nat.le_of_ble_eq_true rfl⟩ rfl rfl rfl rfl rfl rfl ?_
  refine sg_segs [_, _] rfl ?_
  refine sw_aload_n 7 0 C dX6_sentBy_7 rfl rfl ?_
  refine sg_get 8 0 0 0 C dX6_sentBy_8 rfl rfl rfl (inA lwX6) (C.w wF_X6_10) rfl rfl rfl ?_
  refine sg_get 11 1 0 4 C dX6_sentBy_11 rfl rfl rfl (inA lwX4) (C.w wF_X6_86) rfl rfl rfl ?_
  refine sw_iload_n 14 1 C dX6_sentBy_14 rfl rfl ?_
  refine sg_callVIP 15 [1] 1 2 C dX6_sentBy_15 ((ct_X2_countOfSender l hS.1).liftIP (ws := (wSt a0 a1 a2 a3 a4 a5 a6 a7 cI (S))) [2, 3] rfl rfl rfl) wK_X2_countOfSender wM_X6_128 wN_X2_countOfSender wS_X2_X2_countOfSender wI_X2 hd_X2_countOfSender rfl rfl rfl ⟨rfl, rfl⟩ ⟨Nat.le_of_ble_eq_true rfl, Nat.le_of_ble_eq_true rfl⟩ rfl rfl rfl rfl ?_
  refine sw_iret 18 C RC dX6_sentBy_18 ?_
  exact ⟨rfl, rfl⟩
set_option maxHeartbeats 4000000 in
set_option maxRecDepth 100000 in
theorem xt_X6_sentBy (l : Launch) (hfl : l.stackTraces = false) {D : va_G} {cI cJ cQ : ClassId} {x0a a0 a1 a2 a3 a4 a5 a6 a7 tr0 s0 r0 w0 : Nat} {S : StT} {x : Int32} (hx : inR x 0 7 = false) : XCt l yX6_sentBy (Cond.code yX6_sentBy cX6_sentBy 2 (some .int)) 8 142 1 6 D (tyz cI cJ cQ) [.ref x0a, .int x] (flatS [[(x0a, .inr (6, [.ref a0, .ref tr0, .ref s0, .ref r0, .ref w0]))], (wSt a0 a1 a2 a3 a4 a5 a6 a7 cI (S))]) (fun _ _ => False) (fun E => E = "java/lang/IllegalArgumentException") := by
  refine XCt.of RX6 (by decide) rfl (Nat.le_of_ble_eq_true rfl) ?_
  intro p e s m below meth c A C RC XT
  refine sw_iload_n 0 1 C dX6_sentBy_0 rfl rfl ?_
  refine sw_iconst 1 C dX6_sentBy_1 0 (by decide) ?_
  refine sw_bipush 2 C dX6_sentBy_2 7 (by decide) ?_
  exact xg_thrS 4 [] 3 C RC XT dX6_sentBy_4 (xt_X6_checkRange l hfl hx) (fun _ h => h) wK_X6_checkRange wM_X6_47 wT_X6_checkRange wI_X6 hd_X6_checkRange rfl ⟨rfl, rfl⟩ ⟨(Nat.le_of_ble_eq_true rfl), (Nat.le_of_ble_eq_true rfl)⟩ rfl ⟨(Nat.le_of_ble_eq_true rfl), (Nat.le_of_ble_eq_true rfl)⟩ rfl rfl rfl
set_option maxHeartbeats 4000000 in
set_option maxRecDepth 100000 in
theorem ct_X6_ofRank (l : Launch) {D : va_G} {cI cJ cQ : ClassId} {x0a a0 a1 a2 a3 a4 a5 a6 a7 tr0 s0 r0 w0 : Nat} {S : StT} {x : Int32} (hS : SI S) (hx : inR x 0 4 = true) : Ct l yX6_ofRank (Cond.code yX6_ofRank cX6_ofRank 2 (some .int)) 8 142 0 0 D (tyz cI cJ cQ) [.ref x0a, .int x] (flatS [[(x0a, .inr (6, [.ref a0, .ref tr0, .ref s0, .ref r0, .ref w0]))], (wSt a0 a1 a2 a3 a4 a5 a6 a7 cI (S))]) (pstI (nI (ct (isRk (zf S) x) (zn S))) (flatS [[(x0a, .inr (6, [.ref a0, .ref tr0, .ref s0, .ref r0, .ref w0]))], (wSt a0 a1 a2 a3 a4 a5 a6 a7 cI (S))])) := by
  refine Ct.of RX6 (by decide) rfl (Nat.le_of_ble_eq_true rfl) ?_
  intro p e s m below meth c A C RC
  refine sw_iload_n 0 1 C dX6_ofRank_0 rfl rfl ?_
  refine sw_iconst 1 C dX6_ofRank_1 0 (by decide) ?_
  refine sw_iconst 2 C dX6_ofRank_2 4 (by decide) ?_
  refine sg_callSV 3 [] 3 [] C dX6_ofRank_3 (ct_X6_checkRange l hx) wK_X6_checkRange wM_X6_47 wT_X6_checkRange wI_X6 hd_X6_checkRange rfl ⟨rfl, rfl⟩ ⟨Nat.le_of_ble_eq_true rfl, Nat.le_of_ble_eq_true rfl⟩ rfl rfl rfl rfl rfl rfl ?_
  refine sg_segs [_, _] rfl ?_
  refine sw_aload_n 6 0 C dX6_ofRank_6 rfl rfl ?_
  refine sg_get 7 0 0 0 C dX6_ofRank_7 rfl rfl rfl (inA lwX6) (C.w wF_X6_10) rfl rfl rfl ?_
  refine sg_get 10 1 0 4 C dX6_ofRank_10 rfl rfl rfl (inA lwX4) (C.w wF_X6_86) rfl rfl rfl ?_
  refine sw_iload_n 13 1 C dX6_ofRank_13 rfl rfl ?_
  refine sg_callVIP 14 [1] 1 2 C dX6_ofRank_14 ((ct_X2_countOfRank l hS.1).liftIP (ws := (wSt a0 a1 a2 a3 a4 a5 a6 a7 cI (S))) [2, 3] rfl rfl rfl) wK_X2_countOfRank wM_X6_147 wN_X2_countOfRank wS_X2_X2_countOfRank wI_X2 hd_X2_countOfRank rfl rfl rfl ⟨rfl, rfl⟩ ⟨Nat.le_of_ble_eq_true rfl, Nat.le_of_ble_eq_true rfl⟩ rfl rfl rfl rfl ?_
  refine sw_iret 17 C RC dX6_ofRank_17 ?_
  exact ⟨rfl, rfl⟩
set_option maxHeartbeats 4000000 in
set_option maxRecDepth 100000 in
theorem xt_X6_ofRank (l : Launch) (hfl : l.stackTraces = false) {D : va_G} {cI cJ cQ : ClassId} {x0a a0 a1 a2 a3 a4 a5 a6 a7 tr0 s0 r0 w0 : Nat} {S : StT} {x : Int32} (hx : inR x 0 4 = false) : XCt l yX6_ofRank (Cond.code yX6_ofRank cX6_ofRank 2 (some .int)) 8 142 1 6 D (tyz cI cJ cQ) [.ref x0a, .int x] (flatS [[(x0a, .inr (6, [.ref a0, .ref tr0, .ref s0, .ref r0, .ref w0]))], (wSt a0 a1 a2 a3 a4 a5 a6 a7 cI (S))]) (fun _ _ => False) (fun E => E = "java/lang/IllegalArgumentException") := by
  refine XCt.of RX6 (by decide) rfl (Nat.le_of_ble_eq_true rfl) ?_
  intro p e s m below meth c A C RC XT
  refine sw_iload_n 0 1 C dX6_ofRank_0 rfl rfl ?_
  refine sw_iconst 1 C dX6_ofRank_1 0 (by decide) ?_
  refine sw_iconst 2 C dX6_ofRank_2 4 (by decide) ?_
  exact xg_thrS 3 [] 3 C RC XT dX6_ofRank_3 (xt_X6_checkRange l hfl hx) (fun _ h => h) wK_X6_checkRange wM_X6_47 wT_X6_checkRange wI_X6 hd_X6_checkRange rfl ⟨rfl, rfl⟩ ⟨(Nat.le_of_ble_eq_true rfl), (Nat.le_of_ble_eq_true rfl)⟩ rfl ⟨(Nat.le_of_ble_eq_true rfl), (Nat.le_of_ble_eq_true rfl)⟩ rfl rfl rfl
set_option maxHeartbeats 4000000 in
set_option maxRecDepth 100000 in
theorem ct_X6_returned (l : Launch) {D : va_G} {cI cJ cQ : ClassId} {x0a a0 a1 a2 a3 a4 a5 a6 a7 tr0 s0 r0 w0 : Nat} {S : StT} {x : Int32} (i : Nat) (h1 : x = nI i) (hi : i < 8) : Ct l yX6_returned (Cond.code yX6_returned cX6_returned 2 (some .int)) 8 142 0 0 D (tyz cI cJ cQ) [.ref x0a, .int x] (flatS [[(x0a, .inr (6, [.ref a0, .ref tr0, .ref s0, .ref r0, .ref w0]))], (wSt a0 a1 a2 a3 a4 a5 a6 a7 cI (S))]) (pstI (zbk S i) (flatS [[(x0a, .inr (6, [.ref a0, .ref tr0, .ref s0, .ref r0, .ref w0]))], (wSt a0 a1 a2 a3 a4 a5 a6 a7 cI (S))])) := by
  refine Ct.of RX6 (by decide) rfl (Nat.le_of_ble_eq_true rfl) ?_
  intro p e s m below meth c A C RC
  refine sw_iload_n 0 1 C dX6_returned_0 rfl rfl ?_
  refine sw_iconst 1 C dX6_returned_1 0 (by decide) ?_
  refine sw_bipush 2 C dX6_returned_2 7 (by decide) ?_
  refine sg_callSV 4 [] 3 [] C dX6_returned_4 (ct_X6_checkRange l (by rw [h1]; exact inR_nI 0 7 (Nat.zero_le _) (by omega) (by decide))) wK_X6_checkRange wM_X6_47 wT_X6_checkRange wI_X6 hd_X6_checkRange rfl ⟨rfl, rfl⟩ ⟨Nat.le_of_ble_eq_true rfl, Nat.le_of_ble_eq_true rfl⟩ rfl rfl rfl rfl rfl rfl ?_
  refine sg_segs [_, _] rfl ?_
  refine sw_aload_n 7 0 C dX6_returned_7 rfl rfl ?_
  refine sg_get 8 0 0 0 C dX6_returned_8 rfl rfl rfl (inA lwX6) (C.w wF_X6_10) rfl rfl rfl ?_
  refine sw_iload_n 11 1 C dX6_returned_11 rfl rfl ?_
  refine sg_callVIP 12 [1] 1 0 C dX6_returned_12 (ct_X4_givenBackTo l i h1 hi) wK_X4_givenBackTo wM_X6_131 wN_X4_givenBackTo wS_X4_X4_givenBackTo wI_X4 hd_X4_givenBackTo rfl rfl rfl ⟨rfl, rfl⟩ ⟨Nat.le_of_ble_eq_true rfl, Nat.le_of_ble_eq_true rfl⟩ rfl rfl rfl rfl ?_
  refine sw_iret 15 C RC dX6_returned_15 ?_
  exact ⟨rfl, rfl⟩
set_option maxHeartbeats 4000000 in
set_option maxRecDepth 100000 in
theorem xt_X6_returned (l : Launch) (hfl : l.stackTraces = false) {D : va_G} {cI cJ cQ : ClassId} {x0a a0 a1 a2 a3 a4 a5 a6 a7 tr0 s0 r0 w0 : Nat} {S : StT} {x : Int32} (hx : inR x 0 7 = false) : XCt l yX6_returned (Cond.code yX6_returned cX6_returned 2 (some .int)) 8 142 1 6 D (tyz cI cJ cQ) [.ref x0a, .int x] (flatS [[(x0a, .inr (6, [.ref a0, .ref tr0, .ref s0, .ref r0, .ref w0]))], (wSt a0 a1 a2 a3 a4 a5 a6 a7 cI (S))]) (fun _ _ => False) (fun E => E = "java/lang/IllegalArgumentException") := by
  refine XCt.of RX6 (by decide) rfl (Nat.le_of_ble_eq_true rfl) ?_
  intro p e s m below meth c A C RC XT
  refine sw_iload_n 0 1 C dX6_returned_0 rfl rfl ?_
  refine sw_iconst 1 C dX6_returned_1 0 (by decide) ?_
  refine sw_bipush 2 C dX6_returned_2 7 (by decide) ?_
  exact xg_thrS 4 [] 3 C RC XT dX6_returned_4 (xt_X6_checkRange l hfl hx) (fun _ h => h) wK_X6_checkRange wM_X6_47 wT_X6_checkRange wI_X6 hd_X6_checkRange rfl ⟨rfl, rfl⟩ ⟨(Nat.le_of_ble_eq_true rfl), (Nat.le_of_ble_eq_true rfl)⟩ rfl ⟨(Nat.le_of_ble_eq_true rfl), (Nat.le_of_ble_eq_true rfl)⟩ rfl rfl rfl
set_option maxHeartbeats 4000000 in
set_option maxRecDepth 100000 in
theorem ct_X6_value (l : Launch) {D : va_G} {cI cJ cQ : ClassId} {x0a a0 a1 a2 a3 a4 a5 a6 a7 tr0 s0 r0 w0 : Nat} {S : StT} {x : Int32} (hS : SI S) (w : Nat) (h1 : x = nI w) (hw : w ≤ 13) : Ct l yX6_value (Cond.code yX6_value cX6_value 2 (some .int)) 8 142 0 0 D (tyz cI cJ cQ) [.ref x0a, .int x] (flatS [[(x0a, .inr (6, [.ref a0, .ref tr0, .ref s0, .ref r0, .ref w0]))], (wSt a0 a1 a2 a3 a4 a5 a6 a7 cI (S))]) (pstI (fig (zq S) (zg S) (zv S) (zt S) (zp S) (zk S) (zn S) (zl S) (zf S) (zlv S) (zbk S) w) (flatS [[(x0a, .inr (6, [.ref a0, .ref tr0, .ref s0, .ref r0, .ref w0]))], (wSt a0 a1 a2 a3 a4 a5 a6 a7 cI (S))])) := by
  refine Ct.of RX6 (by decide) rfl (Nat.le_of_ble_eq_true rfl) ?_
  intro p e s m below meth c A C RC
  refine sw_iload_n 0 1 C dX6_value_0 rfl rfl ?_
  refine sw_iconst 1 C dX6_value_1 0 (by decide) ?_
  refine sw_bipush 2 C dX6_value_2 13 (by decide) ?_
  refine sg_callSV 4 [] 3 [] C dX6_value_4 (ct_X6_checkRange l (by rw [h1]; exact inR_nI 0 13 (Nat.zero_le _) hw (by decide))) wK_X6_checkRange wM_X6_47 wT_X6_checkRange wI_X6 hd_X6_checkRange rfl ⟨rfl, rfl⟩ ⟨Nat.le_of_ble_eq_true rfl, Nat.le_of_ble_eq_true rfl⟩ rfl rfl rfl rfl rfl rfl ?_
  refine sg_segs [_, _] rfl ?_
  refine sw_aload_n 7 0 C dX6_value_7 rfl rfl ?_
  refine sg_get 8 0 0 0 C dX6_value_8 rfl rfl rfl (inA lwX6) (C.w wF_X6_10) rfl rfl rfl ?_
  refine sw_iload_n 11 1 C dX6_value_11 rfl rfl ?_
  refine sg_callVIP 12 [1] 1 0 C dX6_value_12 (ct_X4_figure l w h1 hw hS.1) wK_X4_figure wM_X6_144 wN_X4_figure wS_X4_X4_figure wI_X4 hd_X4_figure rfl rfl rfl ⟨rfl, rfl⟩ ⟨Nat.le_of_ble_eq_true rfl, Nat.le_of_ble_eq_true rfl⟩ rfl rfl rfl rfl ?_
  refine sw_iret 15 C RC dX6_value_15 ?_
  exact ⟨rfl, rfl⟩
set_option maxHeartbeats 4000000 in
set_option maxRecDepth 100000 in
theorem xt_X6_value (l : Launch) (hfl : l.stackTraces = false) {D : va_G} {cI cJ cQ : ClassId} {x0a a0 a1 a2 a3 a4 a5 a6 a7 tr0 s0 r0 w0 : Nat} {S : StT} {x : Int32} (hx : inR x 0 13 = false) : XCt l yX6_value (Cond.code yX6_value cX6_value 2 (some .int)) 8 142 1 6 D (tyz cI cJ cQ) [.ref x0a, .int x] (flatS [[(x0a, .inr (6, [.ref a0, .ref tr0, .ref s0, .ref r0, .ref w0]))], (wSt a0 a1 a2 a3 a4 a5 a6 a7 cI (S))]) (fun _ _ => False) (fun E => E = "java/lang/IllegalArgumentException") := by
  refine XCt.of RX6 (by decide) rfl (Nat.le_of_ble_eq_true rfl) ?_
  intro p e s m below meth c A C RC XT
  refine sw_iload_n 0 1 C dX6_value_0 rfl rfl ?_
  refine sw_iconst 1 C dX6_value_1 0 (by decide) ?_
  refine sw_bipush 2 C dX6_value_2 13 (by decide) ?_
  exact xg_thrS 4 [] 3 C RC XT dX6_value_4 (xt_X6_checkRange l hfl hx) (fun _ h => h) wK_X6_checkRange wM_X6_47 wT_X6_checkRange wI_X6 hd_X6_checkRange rfl ⟨rfl, rfl⟩ ⟨(Nat.le_of_ble_eq_true rfl), (Nat.le_of_ble_eq_true rfl)⟩ rfl ⟨(Nat.le_of_ble_eq_true rfl), (Nat.le_of_ble_eq_true rfl)⟩ rfl rfl rfl
set_option maxHeartbeats 4000000 in
set_option maxRecDepth 100000 in
theorem ct_X6_entry (l : Launch) {D : va_G} {cI cJ cQ : ClassId} {x0a a0 a1 a2 a3 a4 a5 a6 a7 tr0 s0 r0 w0 : Nat} {S : StT} {x1 x2 : Int32} (hS : SI S) (i w : Nat) (h1 : x1 = nI i) (hi : i < zl S) (h2 : x2 = nI w) (hw : w < 5) : Ct l yX6_entry (Cond.code yX6_entry cX6_entry 3 (some .int)) 8 142 0 0 D (tyz cI cJ cQ) [.ref x0a, .int x1, .int x2] (flatS [[(x0a, .inr (6, [.ref a0, .ref tr0, .ref s0, .ref r0, .ref w0]))], (wSt a0 a1 a2 a3 a4 a5 a6 a7 cI (S))]) (pstI (zlg S (i * 5 + w)) (flatS [[(x0a, .inr (6, [.ref a0, .ref tr0, .ref s0, .ref r0, .ref w0]))], (wSt a0 a1 a2 a3 a4 a5 a6 a7 cI (S))])) := by
  refine Ct.of RX6 (by decide) rfl (Nat.le_of_ble_eq_true rfl) ?_
  intro p e s m below meth c A C RC
  subst h1
  refine sw_iload_n 0 1 C dX6_entry_0 rfl rfl ?_
  refine sw_if_lt 1 18 C dX6_entry_1 (by decide) (fun c_1 => ?_) (fun c_1 => ?_)
  · exact by first | exact absurd c_1 (nI_pos (by have := hS.2.1; omega)) | exact absurd (nI_pos (by have := hS.2.1; omega)) c_1
  refine sw_iload_n 4 1 C dX6_entry_4 rfl rfl ?_
  refine sw_aload_n 5 0 C dX6_entry_5 rfl rfl ?_
  refine sg_get 6 0 0 0 C dX6_entry_6 rfl rfl rfl (inA lwX6) (C.w wF_X6_10) rfl rfl rfl ?_
  refine sg_get 9 1 0 5 C dX6_entry_9 rfl rfl rfl (inA lwX4) (C.w wF_X6_134) rfl rfl rfl ?_
  refine sg_get 12 1 4 0 C dX6_entry_12 rfl rfl rfl (inA lwX0) (C.w wF_X6_138) rfl rfl rfl ?_
  refine sw_icmp_lt 15 28 C dX6_entry_15 (by decide) (fun c_15 => ?_) (fun c_15 => ?_)
  rotate_left
  · exact by first | exact absurd c_15 (nI_lt hi (by have := hS.2.1; omega)) | exact absurd (nI_lt hi (by have := hS.2.1; omega)) c_15
  refine sw_iload_n 28 2 C dX6_entry_28 rfl rfl ?_
  refine sw_iconst 29 C dX6_entry_29 0 (by decide) ?_
  refine sw_iconst 30 C dX6_entry_30 4 (by decide) ?_
  refine sg_callSV 31 [] 3 [] C dX6_entry_31 (ct_X6_checkRange l (by rw [h2]; exact inR_nI 0 4 (Nat.zero_le _) (by omega) (by decide))) wK_X6_checkRange wM_X6_47 wT_X6_checkRange wI_X6 hd_X6_checkRange rfl ⟨rfl, rfl⟩ ⟨Nat.le_of_ble_eq_true rfl, Nat.le_of_ble_eq_true rfl⟩ rfl rfl rfl rfl rfl rfl ?_
  refine sg_segs [_, _] rfl ?_
  refine sw_aload_n 34 0 C dX6_entry_34 rfl rfl ?_
  refine sg_get 35 0 0 0 C dX6_entry_35 rfl rfl rfl (inA lwX6) (C.w wF_X6_10) rfl rfl rfl ?_
  refine sg_get 38 1 0 5 C dX6_entry_38 rfl rfl rfl (inA lwX4) (C.w wF_X6_134) rfl rfl rfl ?_
  refine sw_iload_n 41 1 C dX6_entry_41 rfl rfl ?_
  refine sw_iload_n 42 2 C dX6_entry_42 rfl rfl ?_
  refine sg_callVIP 43 [1] 2 4 C dX6_entry_43 ((ct_X0_at l i w rfl h2 hi hw hS.2.1).liftIP (ws := (wSt a0 a1 a2 a3 a4 a5 a6 a7 cI (S))) [4, 5] rfl rfl rfl) wK_X0_at wM_X6_143 wN_X0_at wS_X0_X0_at wI_X0 hd_X0_at rfl rfl rfl ⟨rfl, rfl⟩ ⟨Nat.le_of_ble_eq_true rfl, Nat.le_of_ble_eq_true rfl⟩ rfl rfl rfl rfl ?_
  refine sw_iret 46 C RC dX6_entry_46 ?_
  exact ⟨rfl, rfl⟩
set_option maxHeartbeats 4000000 in
set_option maxRecDepth 100000 in
theorem xt_X6_entry (l : Launch) (hfl : l.stackTraces = false) {D : va_G} {cI cJ cQ : ClassId} {x0a a0 a1 a2 a3 a4 a5 a6 a7 tr0 s0 r0 w0 : Nat} {S : StT} {x1 x2 : Int32} (h : x1 < 0 ∨ nI (zl S) ≤ x1) : XCt l yX6_entry (Cond.code yX6_entry cX6_entry 3 (some .int)) 8 142 1 6 D (tyz cI cJ cQ) [.ref x0a, .int x1, .int x2] (flatS [[(x0a, .inr (6, [.ref a0, .ref tr0, .ref s0, .ref r0, .ref w0]))], (wSt a0 a1 a2 a3 a4 a5 a6 a7 cI (S))]) (fun _ _ => False) (fun E => E = "java/lang/IndexOutOfBoundsException") := by
  refine XCt.of RX6 (by decide) rfl (Nat.le_of_ble_eq_true rfl) ?_
  intro p e s m below meth c A C RC XT
  refine sw_iload_n 0 1 C dX6_entry_0 rfl rfl ?_
  refine sw_if_lt 1 18 C dX6_entry_1 (by decide) (fun c_1 => ?_) (fun c_1 => ?_)
  · exact xw_throw 18 40 141 44 C RC XT hfl dX6_entry_18 dX6_entry_21 dX6_entry_22 dX6_entry_24 dX6_entry_27 (by decide +kernel) wC_X6_40 wI_IndexOutOfBoundsException xat_ioe xno_ioe xot_ioe (List.mem_of_getElem? (i := 5) rfl) rfl rfl (Nat.le_of_ble_eq_true rfl) (Nat.le_of_ble_eq_true rfl) (Nat.le_of_ble_eq_true rfl) (Nat.le_of_ble_eq_true rfl) (rfl)
  · refine sw_iload_n 4 1 C dX6_entry_4 rfl rfl ?_
    refine sw_aload_n 5 0 C dX6_entry_5 rfl rfl ?_
    refine sg_get 6 0 0 0 C dX6_entry_6 rfl rfl rfl (inA lwX6) (C.w wF_X6_10) rfl rfl rfl ?_
    refine sg_get 9 1 0 5 C dX6_entry_9 rfl rfl rfl (inA lwX4) (C.w wF_X6_134) rfl rfl rfl ?_
    refine sg_get 12 1 4 0 C dX6_entry_12 rfl rfl rfl (inA lwX0) (C.w wF_X6_138) rfl rfl rfl ?_
    refine sw_icmp_lt 15 28 C dX6_entry_15 (by decide) (fun c_15 => ?_) (fun c_15 => ?_)
    · exact by first | exact absurd c_15 (Int32.not_lt.mpr (h.resolve_left c_1)) | exact absurd (Int32.not_lt.mpr (h.resolve_left c_1)) c_15
    exact xw_throw 18 40 141 44 C RC XT hfl dX6_entry_18 dX6_entry_21 dX6_entry_22 dX6_entry_24 dX6_entry_27 (by decide +kernel) wC_X6_40 wI_IndexOutOfBoundsException xat_ioe xno_ioe xot_ioe (List.mem_of_getElem? (i := 5) rfl) rfl rfl (Nat.le_of_ble_eq_true rfl) (Nat.le_of_ble_eq_true rfl) (Nat.le_of_ble_eq_true rfl) (Nat.le_of_ble_eq_true rfl) (rfl)
set_option maxHeartbeats 4000000 in
set_option maxRecDepth 100000 in
theorem xt_X6_entry_2 (l : Launch) (hfl : l.stackTraces = false) {D : va_G} {cI cJ cQ : ClassId} {x0a a0 a1 a2 a3 a4 a5 a6 a7 tr0 s0 r0 w0 : Nat} {S : StT} {x1 x2 : Int32} (hS : SI S) (i : Nat) (h1 : x1 = nI i) (hi : i < zl S) (hx : inR x2 0 4 = false) : XCt l yX6_entry (Cond.code yX6_entry cX6_entry 3 (some .int)) 8 142 1 6 D (tyz cI cJ cQ) [.ref x0a, .int x1, .int x2] (flatS [[(x0a, .inr (6, [.ref a0, .ref tr0, .ref s0, .ref r0, .ref w0]))], (wSt a0 a1 a2 a3 a4 a5 a6 a7 cI (S))]) (fun _ _ => False) (fun E => E = "java/lang/IllegalArgumentException") := by
  refine XCt.of RX6 (by decide) rfl (Nat.le_of_ble_eq_true rfl) ?_
  intro p e s m below meth c A C RC XT
  subst h1
  refine sw_iload_n 0 1 C dX6_entry_0 rfl rfl ?_
  refine sw_if_lt 1 18 C dX6_entry_1 (by decide) (fun c_1 => ?_) (fun c_1 => ?_)
  · exact by first | exact absurd c_1 (nI_pos (by have := hS.2.1; omega)) | exact absurd (nI_pos (by have := hS.2.1; omega)) c_1
  refine sw_iload_n 4 1 C dX6_entry_4 rfl rfl ?_
  refine sw_aload_n 5 0 C dX6_entry_5 rfl rfl ?_
  refine sg_get 6 0 0 0 C dX6_entry_6 rfl rfl rfl (inA lwX6) (C.w wF_X6_10) rfl rfl rfl ?_
  refine sg_get 9 1 0 5 C dX6_entry_9 rfl rfl rfl (inA lwX4) (C.w wF_X6_134) rfl rfl rfl ?_
  refine sg_get 12 1 4 0 C dX6_entry_12 rfl rfl rfl (inA lwX0) (C.w wF_X6_138) rfl rfl rfl ?_
  refine sw_icmp_lt 15 28 C dX6_entry_15 (by decide) (fun c_15 => ?_) (fun c_15 => ?_)
  rotate_left
  · exact by first | exact absurd c_15 (nI_lt hi (by have := hS.2.1; omega)) | exact absurd (nI_lt hi (by have := hS.2.1; omega)) c_15
  refine sw_iload_n 28 2 C dX6_entry_28 rfl rfl ?_
  refine sw_iconst 29 C dX6_entry_29 0 (by decide) ?_
  refine sw_iconst 30 C dX6_entry_30 4 (by decide) ?_
  exact xg_thrS 31 [] 3 C RC XT dX6_entry_31 (xt_X6_checkRange l hfl hx) (fun _ h => h) wK_X6_checkRange wM_X6_47 wT_X6_checkRange wI_X6 hd_X6_checkRange rfl ⟨rfl, rfl⟩ ⟨(Nat.le_of_ble_eq_true rfl), (Nat.le_of_ble_eq_true rfl)⟩ rfl ⟨(Nat.le_of_ble_eq_true rfl), (Nat.le_of_ble_eq_true rfl)⟩ rfl rfl rfl
set_option maxHeartbeats 4000000 in
set_option maxRecDepth 100000 in
theorem ct_X6_bribeToLead (l : Launch) {D : va_G} {cI cJ cQ : ClassId} {x0a a0 a1 a2 a3 a4 a5 a6 a7 tr0 s0 r0 w0 : Nat} {S : StT} {x : Int32} (hS : SI S) (hx : inR x 0 4 = true) : Ct l yX6_bribeToLead (Cond.code yX6_bribeToLead cX6_bribeToLead 3 (some .int)) 8 142 0 0 D (tyz cI cJ cQ) [.ref x0a, .int x] (flatS [[(x0a, .inr (6, [.ref a0, .ref tr0, .ref s0, .ref r0, .ref w0]))], (wSt a0 a1 a2 a3 a4 a5 a6 a7 cI (S))]) (pstI (brl (ldr (zf S) (zn S) + 1) x) (flatS [[(x0a, .inr (6, [.ref a0, .ref tr0, .ref s0, .ref r0, .ref w0]))], (wSt a0 a1 a2 a3 a4 a5 a6 a7 cI (S))])) := by
  refine Ct.of RX6 (by decide) rfl (Nat.le_of_ble_eq_true rfl) ?_
  intro p e s m below meth c A C RC
  refine sw_iload_n 0 1 C dX6_bribeToLead_0 rfl rfl ?_
  refine sw_iconst 1 C dX6_bribeToLead_1 0 (by decide) ?_
  refine sw_iconst 2 C dX6_bribeToLead_2 4 (by decide) ?_
  refine sg_callSV 3 [] 3 [] C dX6_bribeToLead_3 (ct_X6_checkRange l hx) wK_X6_checkRange wM_X6_47 wT_X6_checkRange wI_X6 hd_X6_checkRange rfl ⟨rfl, rfl⟩ ⟨Nat.le_of_ble_eq_true rfl, Nat.le_of_ble_eq_true rfl⟩ rfl rfl rfl rfl rfl rfl ?_
  refine sg_segs [_, _] rfl ?_
  refine sw_aload_n 6 0 C dX6_bribeToLead_6 rfl rfl ?_
  refine sg_get 7 0 0 0 C dX6_bribeToLead_7 rfl rfl rfl (inA lwX6) (C.w wF_X6_10) rfl rfl rfl ?_
  refine sg_get 10 1 0 4 C dX6_bribeToLead_10 rfl rfl rfl (inA lwX4) (C.w wF_X6_86) rfl rfl rfl ?_
  refine sg_callVIP 13 [1] 0 2 C dX6_bribeToLead_13 ((ct_X2_loudestRank l hS.1).liftIP (ws := (wSt a0 a1 a2 a3 a4 a5 a6 a7 cI (S))) [2, 3] rfl rfl rfl) wK_X2_loudestRank wM_X6_159 wN_X2_loudestRank wS_X2_X2_loudestRank wI_X2 hd_X2_loudestRank rfl rfl rfl ⟨rfl, rfl⟩ ⟨Nat.le_of_ble_eq_true rfl, Nat.le_of_ble_eq_true rfl⟩ rfl rfl rfl rfl ?_
  refine sw_iconst 16 C dX6_bribeToLead_16 1 (by decide) ?_
  refine sw_iadd 17 C dX6_bribeToLead_17 ?_
  refine sw_istore_n 18 2 C dX6_bribeToLead_18 rfl rfl ?_
  refine sw_iload_n 19 2 C dX6_bribeToLead_19 rfl rfl ?_
  refine sw_iload_n 20 1 C dX6_bribeToLead_20 rfl rfl ?_
  refine sw_icmp_gt 21 26 C dX6_bribeToLead_21 (by decide) (fun c_21 => ?_) (fun c_21 => ?_)
  · refine sw_iload_n 26 2 C dX6_bribeToLead_26 rfl rfl ?_
    refine sw_iconst 27 C dX6_bribeToLead_27 4 (by decide) ?_
    refine sw_icmp_le 28 33 C dX6_bribeToLead_28 (by decide) (fun c_28 => ?_) (fun c_28 => ?_)
    · refine sw_iload_n 33 2 C dX6_bribeToLead_33 rfl rfl ?_
      refine sw_iload_n 34 1 C dX6_bribeToLead_34 rfl rfl ?_
      refine sw_isub 35 C dX6_bribeToLead_35 ?_
      refine sw_bipush 36 C dX6_bribeToLead_36 25 (by decide) ?_
      refine sw_imul 38 C dX6_bribeToLead_38 ?_
      refine sw_iret 39 C RC dX6_bribeToLead_39 ?_
      exact ⟨by rw [show brl (ldr (zf S) (zn S) + 1) x = _ from (if_neg (Int32.not_le.mpr c_21)).trans (if_neg (Int32.not_lt.mpr c_28))], rfl⟩
    · refine sw_iconst 31 C dX6_bribeToLead_31 (-1) (by decide) ?_
      refine sw_iret 32 C RC dX6_bribeToLead_32 ?_
      exact ⟨by rw [show brl (ldr (zf S) (zn S) + 1) x = -1 from (if_neg (Int32.not_le.mpr c_21)).trans (if_pos (Int32.not_le.mp c_28))], rfl⟩
  · refine sw_iconst 24 C dX6_bribeToLead_24 0 (by decide) ?_
    refine sw_iret 25 C RC dX6_bribeToLead_25 ?_
    exact ⟨by rw [show brl (ldr (zf S) (zn S) + 1) x = 0 from if_pos (Int32.not_lt.mp c_21)], rfl⟩
set_option maxHeartbeats 4000000 in
set_option maxRecDepth 100000 in
theorem xt_X6_bribeToLead (l : Launch) (hfl : l.stackTraces = false) {D : va_G} {cI cJ cQ : ClassId} {x0a a0 a1 a2 a3 a4 a5 a6 a7 tr0 s0 r0 w0 : Nat} {S : StT} {x : Int32} (hx : inR x 0 4 = false) : XCt l yX6_bribeToLead (Cond.code yX6_bribeToLead cX6_bribeToLead 3 (some .int)) 8 142 1 6 D (tyz cI cJ cQ) [.ref x0a, .int x] (flatS [[(x0a, .inr (6, [.ref a0, .ref tr0, .ref s0, .ref r0, .ref w0]))], (wSt a0 a1 a2 a3 a4 a5 a6 a7 cI (S))]) (fun _ _ => False) (fun E => E = "java/lang/IllegalArgumentException") := by
  refine XCt.of RX6 (by decide) rfl (Nat.le_of_ble_eq_true rfl) ?_
  intro p e s m below meth c A C RC XT
  refine sw_iload_n 0 1 C dX6_bribeToLead_0 rfl rfl ?_
  refine sw_iconst 1 C dX6_bribeToLead_1 0 (by decide) ?_
  refine sw_iconst 2 C dX6_bribeToLead_2 4 (by decide) ?_
  exact xg_thrS 3 [] 3 C RC XT dX6_bribeToLead_3 (xt_X6_checkRange l hfl hx) (fun _ h => h) wK_X6_checkRange wM_X6_47 wT_X6_checkRange wI_X6 hd_X6_checkRange rfl ⟨rfl, rfl⟩ ⟨(Nat.le_of_ble_eq_true rfl), (Nat.le_of_ble_eq_true rfl)⟩ rfl ⟨(Nat.le_of_ble_eq_true rfl), (Nat.le_of_ble_eq_true rfl)⟩ rfl rfl rfl
