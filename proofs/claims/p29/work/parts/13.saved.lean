theorem hd_X3_slotBehindOldest : yX3_slotBehindOldest.cls = RX3 ∧ yX3_slotBehindOldest.cls ≠ "java/lang/invoke/MethodHandle" ∧ yX3_slotBehindOldest.cls ≠ "java/lang/invoke/VarHandle" ∧ (parseMethodDescriptor yX3_slotBehindOldest.desc).map (fun d => d.parameters.length) = some 1 := by decide +kernel
theorem hd_X1_startAnew : yX1_startAnew.cls = RX1 ∧ yX1_startAnew.cls ≠ "java/lang/invoke/MethodHandle" ∧ yX1_startAnew.cls ≠ "java/lang/invoke/VarHandle" ∧ (parseMethodDescriptor yX1_startAnew.desc).map (fun d => d.parameters.length) = some 0 := by decide +kernel
theorem hd_X1_isAtEnd : yX1_isAtEnd.cls = RX1 ∧ yX1_isAtEnd.cls ≠ "java/lang/invoke/MethodHandle" ∧ yX1_isAtEnd.cls ≠ "java/lang/invoke/VarHandle" ∧ (parseMethodDescriptor yX1_isAtEnd.desc).map (fun d => d.parameters.length) = some 0 := by decide +kernel
theorem hd_X1_findError : yX1_findError.cls = RX1 ∧ yX1_findError.cls ≠ "java/lang/invoke/MethodHandle" ∧ yX1_findError.cls ≠ "java/lang/invoke/VarHandle" ∧ (parseMethodDescriptor yX1_findError.desc).map (fun d => d.parameters.length) = some 0 := by decide +kernel
theorem hd_X1_readOrder : yX1_readOrder.cls = RX1 ∧ yX1_readOrder.cls ≠ "java/lang/invoke/MethodHandle" ∧ yX1_readOrder.cls ≠ "java/lang/invoke/VarHandle" ∧ (parseMethodDescriptor yX1_readOrder.desc).map (fun d => d.parameters.length) = some 0 := by decide +kernel
theorem hd_X1_readSending : yX1_readSending.cls = RX1 ∧ yX1_readSending.cls ≠ "java/lang/invoke/MethodHandle" ∧ yX1_readSending.cls ≠ "java/lang/invoke/VarHandle" ∧ (parseMethodDescriptor yX1_readSending.desc).map (fun d => d.parameters.length) = some 0 := by decide +kernel
theorem hd_X1_readSign : yX1_readSign.cls = RX1 ∧ yX1_readSign.cls ≠ "java/lang/invoke/MethodHandle" ∧ yX1_readSign.cls ≠ "java/lang/invoke/VarHandle" ∧ (parseMethodDescriptor yX1_readSign.desc).map (fun d => d.parameters.length) = some 1 := by decide +kernel
theorem hd_X1_readDigit : yX1_readDigit.cls = RX1 ∧ yX1_readDigit.cls ≠ "java/lang/invoke/MethodHandle" ∧ yX1_readDigit.cls ≠ "java/lang/invoke/VarHandle" ∧ (parseMethodDescriptor yX1_readDigit.desc).map (fun d => d.parameters.length) = some 1 := by decide +kernel
theorem hd_X1_readNumber : yX1_readNumber.cls = RX1 ∧ yX1_readNumber.cls ≠ "java/lang/invoke/MethodHandle" ∧ yX1_readNumber.cls ≠ "java/lang/invoke/VarHandle" ∧ (parseMethodDescriptor yX1_readNumber.desc).map (fun d => d.parameters.length) = some 2 := by decide +kernel
theorem hd_X1_isDigitNext : yX1_isDigitNext.cls = RX1 ∧ yX1_isDigitNext.cls ≠ "java/lang/invoke/MethodHandle" ∧ yX1_isDigitNext.cls ≠ "java/lang/invoke/VarHandle" ∧ (parseMethodDescriptor yX1_isDigitNext.desc).map (fun d => d.parameters.length) = some 0 := by decide +kernel
/-! the saved States: cn of them, from od on, in a ring R of four -/
def svO (cn od : Nat) : Nat := if cn = 4 then (od + 1) % 4 else od
def svI (cn od : Nat) : Nat := if cn = 4 then ((od + 1) % 4 + 3) % 4 else (od + cn) % 4
def svC (cn : Nat) : Nat := if cn = 4 then 4 else cn + 1
theorem lt4 {i : Nat} (h : i < 4) : i = 0 ∨ i = 1 ∨ i = 2 ∨ i = 3 := by omega
theorem rem4 {x : Int32} {a : Nat} (h : x = nI a) (ha : a < 2 ^ 31) : x - x / 4 * 4 = nI (a % 4) := by
  rw [h, show (4 : Int32) = nI 4 from rfl]
  exact pk_rem ha (by decide) (by decide)
set_option maxHeartbeats 4000000 in
set_option maxRecDepth 100000 in
theorem ct_X3_slotBehindOldest (l : Launch) {D : va_G} {cI cJ cQ : ClassId} {s0 s1 a : Nat} {h : Nat → Option Nat} {x0 x1 : Int32} (k od : Nat) (h1 : x1 = nI k) (hk : k < 4) (hod : od < 4) (ha : h ((od + k) % 4) = some a) : Ct l yX3_slotBehindOldest (Cond.code yX3_slotBehindOldest cX3_slotBehindOldest 3 (some (.object RX4))) 0 0 0 0 D (tyz cI cJ cQ) [.ref s0, .int x1] [(s0, .inr (3, [.int x0, .int (nI od), .ref s1])), (s1, .inl (cQ, 4, .inr (.inr (.inr (.inr h)))))] (pstR a [(s0, .inr (3, [.int x0, .int (nI od), .ref s1])), (s1, .inl (cQ, 4, .inr (.inr (.inr (.inr h)))))]) := by
  refine Ct.of RX3 (by decide) rfl (Nat.le_of_ble_eq_true rfl) ?_
  intro p e s m below meth c A C RC
  subst h1
  refine sw_aload_n 0 0 C dX3_slotBehindOldest_0 rfl rfl ?_
  refine sw_get 1 0 1 C dX3_slotBehindOldest_1 rfl rfl (inA lwX3) (C.w wF_X3_22) rfl rfl rfl ?_
  refine sw_iload_n 4 1 C dX3_slotBehindOldest_4 rfl rfl ?_
  refine sw_iadd 5 C dX3_slotBehindOldest_5 ?_
  refine sw_iconst 6 C dX3_slotBehindOldest_6 4 (by decide) ?_
  refine sw_irem 7 C dX3_slotBehindOldest_7 (by decide) ?_
  refine sw_top (rem4 (nI_add od k) (by omega)) ?_
  refine sw_istore_n 8 2 C dX3_slotBehindOldest_8 rfl rfl ?_
  refine sw_iload_n 9 2 C dX3_slotBehindOldest_9 rfl rfl ?_
  refine sw_if_lt 10 31 C dX3_slotBehindOldest_10 (by decide) (fun c_10 => ?_) (fun c_10 => ?_)
  · exact by first | exact absurd c_10 (nI_pos (by omega)) | exact absurd (nI_pos (by omega)) c_10
  refine sw_iload_n 13 2 C dX3_slotBehindOldest_13 rfl rfl ?_
  refine sw_aload_n 14 0 C dX3_slotBehindOldest_14 rfl rfl ?_
  refine sw_get 15 0 2 C dX3_slotBehindOldest_15 rfl rfl (inA lwX3) (C.w wF_X3_11) rfl rfl rfl ?_
  refine sw_alen 18 1 2 C 4 dX3_slotBehindOldest_18 rfl rfl rfl ?_
  refine sw_icmp_ge 19 31 C dX3_slotBehindOldest_19 (by decide) (fun c_19 => ?_) (fun c_19 => ?_)
  · exact by first | exact absurd c_19 (nI_ge (b := 4) (Nat.mod_lt _ (by decide)) (by decide)) | exact absurd (nI_ge (b := 4) (Nat.mod_lt _ (by decide)) (by decide)) c_19
  refine sw_aload_n 22 0 C dX3_slotBehindOldest_22 rfl rfl ?_
  refine sw_get 23 0 2 C dX3_slotBehindOldest_23 rfl rfl (inA lwX3) (C.w wF_X3_11) rfl rfl rfl ?_
  refine sw_iload_n 26 2 C dX3_slotBehindOldest_26 rfl rfl ?_
  refine sw_aald 27 1 2 C dX3_slotBehindOldest_27 (vp_in_nI (Nat.mod_lt _ (by decide)) (by decide)) (by rw [nI_clamp (by omega)]; exact ha) rfl rfl ?_
  refine sw_goto 28 32 C dX3_slotBehindOldest_28 (by decide) ?_
  refine sw_aret 32 C RC dX3_slotBehindOldest_32 ?_
  exact ⟨rfl, rfl⟩
theorem ct_X4_copyFrom_S (l : Launch) {D : va_G} {cI cJ cQ : ClassId} {a0 a1 a2 a3 a4 a5 a6 a7 b0 b1 b2 b3 b4 b5 b6 b7 : Nat} {S T : StT} : Ct l yX4_copyFrom (Cond.code yX4_copyFrom cX4_copyFrom 2 none) 2 41 0 0 D (tyz cI cJ cQ) [.ref a0, .ref b0] (flatS [(wSt a0 a1 a2 a3 a4 a5 a6 a7 cI (S)), (wSt b0 b1 b2 b3 b4 b5 b6 b7 cI (T))]) (pstV (flatS [(wSt a0 a1 a2 a3 a4 a5 a6 a7 cI (T)), (wSt b0 b1 b2 b3 b4 b5 b6 b7 cI (T))])) := ct_X4_copyFrom l
set_option maxHeartbeats 4000000 in
set_option maxRecDepth 100000 in
theorem ct_X3_add (l : Launch) {D : va_G} {cI cJ cQ : ClassId} {s0 s1 a0 a1 a2 a3 a4 a5 a6 a7 ra0 ra1 ra2 ra3 ra4 ra5 ra6 ra7 rb0 rb1 rb2 rb3 rb4 rb5 rb6 rb7 rc0 rc1 rc2 rc3 rc4 rc5 rc6 rc7 rd0 rd1 rd2 rd3 rd4 rd5 rd6 rd7 : Nat} {h : Nat → Option Nat} {S : StT} {R : Nat → StT} {cn od : Nat} (hcn : cn ≤ 4) (hod : od < 4) (hh0 : h 0 = some ra0) (hh1 : h 1 = some rb0) (hh2 : h 2 = some rc0) (hh3 : h 3 = some rd0) : Ct l yX3_add (Cond.code yX3_add cX3_add 3 none) 3 62 0 0 D (tyz cI cJ cQ) [.ref s0, .ref a0] (flatS [[(s0, .inr (3, [.int (nI cn), .int (nI od), .ref s1])), (s1, .inl (cQ, 4, .inr (.inr (.inr (.inr h)))))], (wSt a0 a1 a2 a3 a4 a5 a6 a7 cI (S)), (wSt ra0 ra1 ra2 ra3 ra4 ra5 ra6 ra7 cI (R 0)), (wSt rb0 rb1 rb2 rb3 rb4 rb5 rb6 rb7 cI (R 1)), (wSt rc0 rc1 rc2 rc3 rc4 rc5 rc6 rc7 cI (R 2)), (wSt rd0 rd1 rd2 rd3 rd4 rd5 rd6 rd7 cI (R 3))]) (pstV (flatS [[(s0, .inr (3, [.int (nI (svC cn)), .int (nI (svO cn od)), .ref s1])), (s1, .inl (cQ, 4, .inr (.inr (.inr (.inr h)))))], (wSt a0 a1 a2 a3 a4 a5 a6 a7 cI (S)), (wSt ra0 ra1 ra2 ra3 ra4 ra5 ra6 ra7 cI (va_up R (svI cn od) S 0)), (wSt rb0 rb1 rb2 rb3 rb4 rb5 rb6 rb7 cI (va_up R (svI cn od) S 1)), (wSt rc0 rc1 rc2 rc3 rc4 rc5 rc6 rc7 cI (va_up R (svI cn od) S 2)), (wSt rd0 rd1 rd2 rd3 rd4 rd5 rd6 rd7 cI (va_up R (svI cn od) S 3))])) := by
  refine Ct.of RX3 (by decide) rfl (Nat.le_of_ble_eq_true rfl) ?_
  intro p e s m below meth c A C RC
  refine sw_aload_n 0 0 C dX3_add_0 rfl rfl ?_
  refine sg_get 1 0 0 0 C dX3_add_1 rfl rfl rfl (inA lwX3) (C.w wF_X3_18) rfl rfl rfl ?_
  refine sw_iconst 4 C dX3_add_4 4 (by decide) ?_
  refine sw_icmp_ne 5 30 C dX3_add_5 (by decide) (fun c_5 => ?_) (fun c_5 => ?_)
  · refine sw_aload_n 30 0 C dX3_add_30 rfl rfl ?_
    refine sw_aload_n 31 0 C dX3_add_31 rfl rfl ?_
    refine sg_get 32 0 0 0 C dX3_add_32 rfl rfl rfl (inA lwX3) (C.w wF_X3_18) rfl rfl rfl ?_
    have h4 : ¬ cn = 4 := fun e => c_5 (by rw [e]; rfl)
    rcases lt4 (Nat.mod_lt (od + cn) (show 4 > 0 by decide)) with hk | hk | hk | hk
    · refine sg_callVRP 35 [0] 1 0 C dX3_add_35 (ct_X3_slotBehindOldest l cn od rfl (by omega) hod (by rw [hk]; exact hh0)) wK_X3_slotBehindOldest wM_X3_25 wN_X3_slotBehindOldest wS_X3_X3_slotBehindOldest wI_X3 hd_X3_slotBehindOldest rfl rfl rfl ⟨rfl, rfl⟩ ⟨Nat.le_of_ble_eq_true rfl, Nat.le_of_ble_eq_true rfl⟩ rfl rfl rfl rfl ?_
      refine sw_astore_n 38 2 C dX3_add_38 rfl rfl ?_
      refine sw_aload_n 39 2 C dX3_add_39 rfl rfl ?_
      refine sw_ifnull 40 C dX3_add_40 ?_
      refine sw_aload_n 43 2 C dX3_add_43 rfl rfl ?_
      refine sw_aload_n 44 1 C dX3_add_44 rfl rfl ?_
      refine sg_callVV 45 [2, 1] 1 0 [_, _] C dX3_add_45 (ct_X4_copyFrom_S l) wK_X4_copyFrom wM_X3_29 wN_X4_copyFrom wS_X4_X4_copyFrom wI_X4 hd_X4_copyFrom rfl rfl rfl ⟨rfl, rfl⟩ ⟨Nat.le_of_ble_eq_true rfl, Nat.le_of_ble_eq_true rfl⟩ rfl rfl rfl rfl rfl rfl ?_
      refine sg_segs [_, _, _, _, _, _] rfl ?_
      refine sw_aload_n 48 0 C dX3_add_48 rfl rfl ?_
      refine sw_dup 49 C dX3_add_49 rfl ?_
      refine sg_get 50 0 0 0 C dX3_add_50 rfl rfl rfl (inA lwX3) (C.w wF_X3_18) rfl rfl rfl ?_
      refine sw_iconst 53 C dX3_add_53 1 (by decide) ?_
      refine sw_iadd 54 C dX3_add_54 ?_
      refine sw_top (nI_1 _) ?_
      refine sg_put 55 0 0 0 tyX3 C dX3_add_55 rfl rfl rfl (inA lwX3) tyX3_ok nmX3 (C.w wF_X3_18) rfl rfl rfl rfl rfl rfl rfl ?_
      refine sg_segs [[(_, .inr (3, [.int _, .int _, .ref _])), (_, .inl (_, _, .inr (.inr (.inr (.inr _)))))], _, _, _, _, _] rfl ?_
      refine sw_vret 58 C RC dX3_add_58 ?_
      exact ⟨rfl, by rw [show svI cn od = (od + cn) % 4 from if_neg h4, hk, show svO cn od = od from if_neg h4, show svC cn = cn + 1 from if_neg h4]; rfl⟩
    · refine sg_callVRP 35 [0] 1 0 C dX3_add_35 (ct_X3_slotBehindOldest l cn od rfl (by omega) hod (by rw [hk]; exact hh1)) wK_X3_slotBehindOldest wM_X3_25 wN_X3_slotBehindOldest wS_X3_X3_slotBehindOldest wI_X3 hd_X3_slotBehindOldest rfl rfl rfl ⟨rfl, rfl⟩ ⟨Nat.le_of_ble_eq_true rfl, Nat.le_of_ble_eq_true rfl⟩ rfl rfl rfl rfl ?_
      refine sw_astore_n 38 2 C dX3_add_38 rfl rfl ?_
      refine sw_aload_n 39 2 C dX3_add_39 rfl rfl ?_
      refine sw_ifnull 40 C dX3_add_40 ?_
      refine sw_aload_n 43 2 C dX3_add_43 rfl rfl ?_
      refine sw_aload_n 44 1 C dX3_add_44 rfl rfl ?_
      refine sg_callVV 45 [3, 1] 1 0 [_, _] C dX3_add_45 (ct_X4_copyFrom_S l) wK_X4_copyFrom wM_X3_29 wN_X4_copyFrom wS_X4_X4_copyFrom wI_X4 hd_X4_copyFrom rfl rfl rfl ⟨rfl, rfl⟩ ⟨Nat.le_of_ble_eq_true rfl, Nat.le_of_ble_eq_true rfl⟩ rfl rfl rfl rfl rfl rfl ?_
      refine sg_segs [_, _, _, _, _, _] rfl ?_
      refine sw_aload_n 48 0 C dX3_add_48 rfl rfl ?_
      refine sw_dup 49 C dX3_add_49 rfl ?_
      refine sg_get 50 0 0 0 C dX3_add_50 rfl rfl rfl (inA lwX3) (C.w wF_X3_18) rfl rfl rfl ?_
      refine sw_iconst 53 C dX3_add_53 1 (by decide) ?_
      refine sw_iadd 54 C dX3_add_54 ?_
      refine sw_top (nI_1 _) ?_
      refine sg_put 55 0 0 0 tyX3 C dX3_add_55 rfl rfl rfl (inA lwX3) tyX3_ok nmX3 (C.w wF_X3_18) rfl rfl rfl rfl rfl rfl rfl ?_
      refine sg_segs [[(_, .inr (3, [.int _, .int _, .ref _])), (_, .inl (_, _, .inr (.inr (.inr (.inr _)))))], _, _, _, _, _] rfl ?_
      refine sw_vret 58 C RC dX3_add_58 ?_
      exact ⟨rfl, by rw [show svI cn od = (od + cn) % 4 from if_neg h4, hk, show svO cn od = od from if_neg h4, show svC cn = cn + 1 from if_neg h4]; rfl⟩
    · refine sg_callVRP 35 [0] 1 0 C dX3_add_35 (ct_X3_slotBehindOldest l cn od rfl (by omega) hod (by rw [hk]; exact hh2)) wK_X3_slotBehindOldest wM_X3_25 wN_X3_slotBehindOldest wS_X3_X3_slotBehindOldest wI_X3 hd_X3_slotBehindOldest rfl rfl rfl ⟨rfl, rfl⟩ ⟨Nat.le_of_ble_eq_true rfl, Nat.le_of_ble_eq_true rfl⟩ rfl rfl rfl rfl ?_
      refine sw_astore_n 38 2 C dX3_add_38 rfl rfl ?_
      refine sw_aload_n 39 2 C dX3_add_39 rfl rfl ?_
      refine sw_ifnull 40 C dX3_add_40 ?_
      refine sw_aload_n 43 2 C dX3_add_43 rfl rfl ?_
      refine sw_aload_n 44 1 C dX3_add_44 rfl rfl ?_
      refine sg_callVV 45 [4, 1] 1 0 [_, _] C dX3_add_45 (ct_X4_copyFrom_S l) wK_X4_copyFrom wM_X3_29 wN_X4_copyFrom wS_X4_X4_copyFrom wI_X4 hd_X4_copyFrom rfl rfl rfl ⟨rfl, rfl⟩ ⟨Nat.le_of_ble_eq_true rfl, Nat.le_of_ble_eq_true rfl⟩ rfl rfl rfl rfl rfl rfl ?_
      refine sg_segs [_, _, _, _, _, _] rfl ?_
      refine sw_aload_n 48 0 C dX3_add_48 rfl rfl ?_
      refine sw_dup 49 C dX3_add_49 rfl ?_
      refine sg_get 50 0 0 0 C dX3_add_50 rfl rfl rfl (inA lwX3) (C.w wF_X3_18) rfl rfl rfl ?_
      refine sw_iconst 53 C dX3_add_53 1 (by decide) ?_
      refine sw_iadd 54 C dX3_add_54 ?_
      refine sw_top (nI_1 _) ?_
      refine sg_put 55 0 0 0 tyX3 C dX3_add_55 rfl rfl rfl (inA lwX3) tyX3_ok nmX3 (C.w wF_X3_18) rfl rfl rfl rfl rfl rfl rfl ?_
      refine sg_segs [[(_, .inr (3, [.int _, .int _, .ref _])), (_, .inl (_, _, .inr (.inr (.inr (.inr _)))))], _, _, _, _, _] rfl ?_
      refine sw_vret 58 C RC dX3_add_58 ?_
      exact ⟨rfl, by rw [show svI cn od = (od + cn) % 4 from if_neg h4, hk, show svO cn od = od from if_neg h4, show svC cn = cn + 1 from if_neg h4]; rfl⟩
    · refine sg_callVRP 35 [0] 1 0 C dX3_add_35 (ct_X3_slotBehindOldest l cn od rfl (by omega) hod (by rw [hk]; exact hh3)) wK_X3_slotBehindOldest wM_X3_25 wN_X3_slotBehindOldest wS_X3_X3_slotBehindOldest wI_X3 hd_X3_slotBehindOldest rfl rfl rfl ⟨rfl, rfl⟩ ⟨Nat.le_of_ble_eq_true rfl, Nat.le_of_ble_eq_true rfl⟩ rfl rfl rfl rfl ?_
      refine sw_astore_n 38 2 C dX3_add_38 rfl rfl ?_
      refine sw_aload_n 39 2 C dX3_add_39 rfl rfl ?_
      refine sw_ifnull 40 C dX3_add_40 ?_
      refine sw_aload_n 43 2 C dX3_add_43 rfl rfl ?_
      refine sw_aload_n 44 1 C dX3_add_44 rfl rfl ?_
      refine sg_callVV 45 [5, 1] 1 0 [_, _] C dX3_add_45 (ct_X4_copyFrom_S l) wK_X4_copyFrom wM_X3_29 wN_X4_copyFrom wS_X4_X4_copyFrom wI_X4 hd_X4_copyFrom rfl rfl rfl ⟨rfl, rfl⟩ ⟨Nat.le_of_ble_eq_true rfl, Nat.le_of_ble_eq_true rfl⟩ rfl rfl rfl rfl rfl rfl ?_
      refine sg_segs [_, _, _, _, _, _] rfl ?_
      refine sw_aload_n 48 0 C dX3_add_48 rfl rfl ?_
      refine sw_dup 49 C dX3_add_49 rfl ?_
      refine sg_get 50 0 0 0 C dX3_add_50 rfl rfl rfl (inA lwX3) (C.w wF_X3_18) rfl rfl rfl ?_
      refine sw_iconst 53 C dX3_add_53 1 (by decide) ?_
      refine sw_iadd 54 C dX3_add_54 ?_
      refine sw_top (nI_1 _) ?_
      refine sg_put 55 0 0 0 tyX3 C dX3_add_55 rfl rfl rfl (inA lwX3) tyX3_ok nmX3 (C.w wF_X3_18) rfl rfl rfl rfl rfl rfl rfl ?_
      refine sg_segs [[(_, .inr (3, [.int _, .int _, .ref _])), (_, .inl (_, _, .inr (.inr (.inr (.inr _)))))], _, _, _, _, _] rfl ?_
      refine sw_vret 58 C RC dX3_add_58 ?_
      exact ⟨rfl, by rw [show svI cn od = (od + cn) % 4 from if_neg h4, hk, show svO cn od = od from if_neg h4, show svC cn = cn + 1 from if_neg h4]; rfl⟩
  · obtain rfl : cn = 4 := nI_inj (by omega) (by decide) c_5
    refine sw_aload_n 8 0 C dX3_add_8 rfl rfl ?_
    refine sw_aload_n 9 0 C dX3_add_9 rfl rfl ?_
    refine sg_get 10 0 0 1 C dX3_add_10 rfl rfl rfl (inA lwX3) (C.w wF_X3_22) rfl rfl rfl ?_
    refine sw_iconst 13 C dX3_add_13 1 (by decide) ?_
    refine sw_iadd 14 C dX3_add_14 ?_
    refine sw_iconst 15 C dX3_add_15 4 (by decide) ?_
    refine sw_irem 16 C dX3_add_16 (by decide) ?_
    refine sw_top (rem4 (nI_1 od) (by omega)) ?_
    refine sg_put 17 0 0 1 tyX3 C dX3_add_17 rfl rfl rfl (inA lwX3) tyX3_ok nmX3 (C.w wF_X3_22) rfl rfl rfl rfl rfl rfl rfl ?_
    refine sg_segs [[(_, .inr (3, [.int _, .int _, .ref _])), (_, .inl (_, _, .inr (.inr (.inr (.inr _)))))], _, _, _, _, _] rfl ?_
    refine sw_aload_n 20 0 C dX3_add_20 rfl rfl ?_
    refine sw_dup 21 C dX3_add_21 rfl ?_
    refine sg_get 22 0 0 0 C dX3_add_22 rfl rfl rfl (inA lwX3) (C.w wF_X3_18) rfl rfl rfl ?_
    refine sw_iconst 25 C dX3_add_25 1 (by decide) ?_
    refine sw_isub 26 C dX3_add_26 ?_
    refine sw_top (show nI 4 - 1 = nI 3 by rw [show (1 : Int32) = nI 1 from rfl, pk_sub (by decide)]) ?_
    refine sg_put 27 0 0 0 tyX3 C dX3_add_27 rfl rfl rfl (inA lwX3) tyX3_ok nmX3 (C.w wF_X3_18) rfl rfl rfl rfl rfl rfl rfl ?_
    refine sg_segs [[(_, .inr (3, [.int _, .int _, .ref _])), (_, .inl (_, _, .inr (.inr (.inr (.inr _)))))], _, _, _, _, _] rfl ?_
    refine sw_aload_n 30 0 C dX3_add_30 rfl rfl ?_
    refine sw_aload_n 31 0 C dX3_add_31 rfl rfl ?_
    refine sg_get 32 0 0 0 C dX3_add_32 rfl rfl rfl (inA lwX3) (C.w wF_X3_18) rfl rfl rfl ?_
    rcases lt4 (Nat.mod_lt ((od + 1) % 4 + 3) (show 4 > 0 by decide)) with hk | hk | hk | hk
    · refine sg_callVRP 35 [0] 1 0 C dX3_add_35 (ct_X3_slotBehindOldest l 3 ((od + 1) % 4) rfl (by decide) (Nat.mod_lt _ (by decide)) (by rw [hk]; exact hh0)) wK_X3_slotBehindOldest wM_X3_25 wN_X3_slotBehindOldest wS_X3_X3_slotBehindOldest wI_X3 hd_X3_slotBehindOldest rfl rfl rfl ⟨rfl, rfl⟩ ⟨Nat.le_of_ble_eq_true rfl, Nat.le_of_ble_eq_true rfl⟩ rfl rfl rfl rfl ?_
      refine sw_astore_n 38 2 C dX3_add_38 rfl rfl ?_
      refine sw_aload_n 39 2 C dX3_add_39 rfl rfl ?_
      refine sw_ifnull 40 C dX3_add_40 ?_
      refine sw_aload_n 43 2 C dX3_add_43 rfl rfl ?_
      refine sw_aload_n 44 1 C dX3_add_44 rfl rfl ?_
      refine sg_callVV 45 [2, 1] 1 0 [_, _] C dX3_add_45 (ct_X4_copyFrom_S l) wK_X4_copyFrom wM_X3_29 wN_X4_copyFrom wS_X4_X4_copyFrom wI_X4 hd_X4_copyFrom rfl rfl rfl ⟨rfl, rfl⟩ ⟨Nat.le_of_ble_eq_true rfl, Nat.le_of_ble_eq_true rfl⟩ rfl rfl rfl rfl rfl rfl ?_
      refine sg_segs [_, _, _, _, _, _] rfl ?_
      refine sw_aload_n 48 0 C dX3_add_48 rfl rfl ?_
      refine sw_dup 49 C dX3_add_49 rfl ?_
      refine sg_get 50 0 0 0 C dX3_add_50 rfl rfl rfl (inA lwX3) (C.w wF_X3_18) rfl rfl rfl ?_
      refine sw_iconst 53 C dX3_add_53 1 (by decide) ?_
      refine sw_iadd 54 C dX3_add_54 ?_
      refine sw_top (nI_1 _) ?_
      refine sg_put 55 0 0 0 tyX3 C dX3_add_55 rfl rfl rfl (inA lwX3) tyX3_ok nmX3 (C.w wF_X3_18) rfl rfl rfl rfl rfl rfl rfl ?_
      refine sg_segs [[(_, .inr (3, [.int _, .int _, .ref _])), (_, .inl (_, _, .inr (.inr (.inr (.inr _)))))], _, _, _, _, _] rfl ?_
      refine sw_vret 58 C RC dX3_add_58 ?_
      exact ⟨rfl, by rw [show svI 4 od = ((od + 1) % 4 + 3) % 4 from if_pos rfl, hk, show svO 4 od = (od + 1) % 4 from if_pos rfl, show svC 4 = 4 from if_pos rfl]; rfl⟩
    · refine sg_callVRP 35 [0] 1 0 C dX3_add_35 (ct_X3_slotBehindOldest l 3 ((od + 1) % 4) rfl (by decide) (Nat.mod_lt _ (by decide)) (by rw [hk]; exact hh1)) wK_X3_slotBehindOldest wM_X3_25 wN_X3_slotBehindOldest wS_X3_X3_slotBehindOldest wI_X3 hd_X3_slotBehindOldest rfl rfl rfl ⟨rfl, rfl⟩ ⟨Nat.le_of_ble_eq_true rfl, Nat.le_of_ble_eq_true rfl⟩ rfl rfl rfl rfl ?_
      refine sw_astore_n 38 2 C dX3_add_38 rfl rfl ?_
      refine sw_aload_n 39 2 C dX3_add_39 rfl rfl ?_
      refine sw_ifnull 40 C dX3_add_40 ?_
      refine sw_aload_n 43 2 C dX3_add_43 rfl rfl ?_
      refine sw_aload_n 44 1 C dX3_add_44 rfl rfl ?_
      refine sg_callVV 45 [3, 1] 1 0 [_, _] C dX3_add_45 (ct_X4_copyFrom_S l) wK_X4_copyFrom wM_X3_29 wN_X4_copyFrom wS_X4_X4_copyFrom wI_X4 hd_X4_copyFrom rfl rfl rfl ⟨rfl, rfl⟩ ⟨Nat.le_of_ble_eq_true rfl, Nat.le_of_ble_eq_true rfl⟩ rfl rfl rfl rfl rfl rfl ?_
      refine sg_segs [_, _, _, _, _, _] rfl ?_
      refine sw_aload_n 48 0 C dX3_add_48 rfl rfl ?_
      refine sw_dup 49 C dX3_add_49 rfl ?_
      refine sg_get 50 0 0 0 C dX3_add_50 rfl rfl rfl (inA lwX3) (C.w wF_X3_18) rfl rfl rfl ?_
      refine sw_iconst 53 C dX3_add_53 1 (by decide) ?_
      refine sw_iadd 54 C dX3_add_54 ?_
      refine sw_top (nI_1 _) ?_
      refine sg_put 55 0 0 0 tyX3 C dX3_add_55 rfl rfl rfl (inA lwX3) tyX3_ok nmX3 (C.w wF_X3_18) rfl rfl rfl rfl rfl rfl rfl ?_
      refine sg_segs [[(_, .inr (3, [.int _, .int _, .ref _])), (_, .inl (_, _, .inr (.inr (.inr (.inr _)))))], _, _, _, _, _] rfl ?_
      refine sw_vret 58 C RC dX3_add_58 ?_
      exact ⟨rfl, by rw [show svI 4 od = ((od + 1) % 4 + 3) % 4 from if_pos rfl, hk, show svO 4 od = (od + 1) % 4 from if_pos rfl, show svC 4 = 4 from if_pos rfl]; rfl⟩
    · refine sg_callVRP 35 [0] 1 0 C dX3_add_35 (ct_X3_slotBehindOldest l 3 ((od + 1) % 4) rfl (by decide) (Nat.mod_lt _ (by decide)) (by rw [hk]; exact hh2)) wK_X3_slotBehindOldest wM_X3_25 wN_X3_slotBehindOldest wS_X3_X3_slotBehindOldest wI_X3 hd_X3_slotBehindOldest rfl rfl rfl ⟨rfl, rfl⟩ ⟨Nat.le_of_ble_eq_true rfl, Nat.le_of_ble_eq_true rfl⟩ rfl rfl rfl rfl ?_
      refine sw_astore_n 38 2 C dX3_add_38 rfl rfl ?_
      refine sw_aload_n 39 2 C dX3_add_39 rfl rfl ?_
      refine sw_ifnull 40 C dX3_add_40 ?_
      refine sw_aload_n 43 2 C dX3_add_43 rfl rfl ?_
      refine sw_aload_n 44 1 C dX3_add_44 rfl rfl ?_
      refine sg_callVV 45 [4, 1] 1 0 [_, _] C dX3_add_45 (ct_X4_copyFrom_S l) wK_X4_copyFrom wM_X3_29 wN_X4_copyFrom wS_X4_X4_copyFrom wI_X4 hd_X4_copyFrom rfl rfl rfl ⟨rfl, rfl⟩ ⟨Nat.le_of_ble_eq_true rfl, Nat.le_of_ble_eq_true rfl⟩ rfl rfl rfl rfl rfl rfl ?_
      refine sg_segs [_, _, _, _, _, _] rfl ?_
      refine sw_aload_n 48 0 C dX3_add_48 rfl rfl ?_
      refine sw_dup 49 C dX3_add_49 rfl ?_
      refine sg_get 50 0 0 0 C dX3_add_50 rfl rfl rfl (inA lwX3) (C.w wF_X3_18) rfl rfl rfl ?_
      refine sw_iconst 53 C dX3_add_53 1 (by decide) ?_
      refine sw_iadd 54 C dX3_add_54 ?_
      refine sw_top (nI_1 _) ?_
      refine sg_put 55 0 0 0 tyX3 C dX3_add_55 rfl rfl rfl (inA lwX3) tyX3_ok nmX3 (C.w wF_X3_18) rfl rfl rfl rfl rfl rfl rfl ?_
      refine sg_segs [[(_, .inr (3, [.int _, .int _, .ref _])), (_, .inl (_, _, .inr (.inr (.inr (.inr _)))))], _, _, _, _, _] rfl ?_
      refine sw_vret 58 C RC dX3_add_58 ?_
      exact ⟨rfl, by rw [show svI 4 od = ((od + 1) % 4 + 3) % 4 from if_pos rfl, hk, show svO 4 od = (od + 1) % 4 from if_pos rfl, show svC 4 = 4 from if_pos rfl]; rfl⟩
    · refine sg_callVRP 35 [0] 1 0 C dX3_add_35 (ct_X3_slotBehindOldest l 3 ((od + 1) % 4) rfl (by decide) (Nat.mod_lt _ (by decide)) (by rw [hk]; exact hh3)) wK_X3_slotBehindOldest wM_X3_25 wN_X3_slotBehindOldest wS_X3_X3_slotBehindOldest wI_X3 hd_X3_slotBehindOldest rfl rfl rfl ⟨rfl, rfl⟩ ⟨Nat.le_of_ble_eq_true rfl, Nat.le_of_ble_eq_true rfl⟩ rfl rfl rfl rfl ?_
      refine sw_astore_n 38 2 C dX3_add_38 rfl rfl ?_
      refine sw_aload_n 39 2 C dX3_add_39 rfl rfl ?_
      refine sw_ifnull 40 C dX3_add_40 ?_
      refine sw_aload_n 43 2 C dX3_add_43 rfl rfl ?_
      refine sw_aload_n 44 1 C dX3_add_44 rfl rfl ?_
      refine sg_callVV 45 [5, 1] 1 0 [_, _] C dX3_add_45 (ct_X4_copyFrom_S l) wK_X4_copyFrom wM_X3_29 wN_X4_copyFrom wS_X4_X4_copyFrom wI_X4 hd_X4_copyFrom rfl rfl rfl ⟨rfl, rfl⟩ ⟨Nat.le_of_ble_eq_true rfl, Nat.le_of_ble_eq_true rfl⟩ rfl rfl rfl rfl rfl rfl ?_
      refine sg_segs [_, _, _, _, _, _] rfl ?_
      refine sw_aload_n 48 0 C dX3_add_48 rfl rfl ?_
      refine sw_dup 49 C dX3_add_49 rfl ?_
      refine sg_get 50 0 0 0 C dX3_add_50 rfl rfl rfl (inA lwX3) (C.w wF_X3_18) rfl rfl rfl ?_
      refine sw_iconst 53 C dX3_add_53 1 (by decide) ?_
      refine sw_iadd 54 C dX3_add_54 ?_
      refine sw_top (nI_1 _) ?_
      refine sg_put 55 0 0 0 tyX3 C dX3_add_55 rfl rfl rfl (inA lwX3) tyX3_ok nmX3 (C.w wF_X3_18) rfl rfl rfl rfl rfl rfl rfl ?_
      refine sg_segs [[(_, .inr (3, [.int _, .int _, .ref _])), (_, .inl (_, _, .inr (.inr (.inr (.inr _)))))], _, _, _, _, _] rfl ?_
      refine sw_vret 58 C RC dX3_add_58 ?_
      exact ⟨rfl, by rw [show svI 4 od = ((od + 1) % 4 + 3) % 4 from if_pos rfl, hk, show svO 4 od = (od + 1) % 4 from if_pos rfl, show svC 4 = 4 from if_pos rfl]; rfl⟩
set_option maxHeartbeats 4000000 in
set_option maxRecDepth 100000 in
theorem ct_X3_takeLatest (l : Launch) {D : va_G} {cI cJ cQ : ClassId} {s0 s1 a0 a1 a2 a3 a4 a5 a6 a7 ra0 ra1 ra2 ra3 ra4 ra5 ra6 ra7 rb0 rb1 rb2 rb3 rb4 rb5 rb6 rb7 rc0 rc1 rc2 rc3 rc4 rc5 rc6 rc7 rd0 rd1 rd2 rd3 rd4 rd5 rd6 rd7 : Nat} {h : Nat → Option Nat} {S : StT} {R : Nat → StT} {cn od : Nat} (hc0 : 0 < cn) (hcn : cn ≤ 4) (hod : od < 4) (hh0 : h 0 = some ra0) (hh1 : h 1 = some rb0) (hh2 : h 2 = some rc0) (hh3 : h 3 = some rd0) : Ct l yX3_takeLatest (Cond.code yX3_takeLatest cX3_takeLatest 3 none) 3 62 0 0 D (tyz cI cJ cQ) [.ref s0, .ref a0] (flatS [[(s0, .inr (3, [.int (nI cn), .int (nI od), .ref s1])), (s1, .inl (cQ, 4, .inr (.inr (.inr (.inr h)))))], (wSt a0 a1 a2 a3 a4 a5 a6 a7 cI (S)), (wSt ra0 ra1 ra2 ra3 ra4 ra5 ra6 ra7 cI (R 0)), (wSt rb0 rb1 rb2 rb3 rb4 rb5 rb6 rb7 cI (R 1)), (wSt rc0 rc1 rc2 rc3 rc4 rc5 rc6 rc7 cI (R 2)), (wSt rd0 rd1 rd2 rd3 rd4 rd5 rd6 rd7 cI (R 3))]) (pstV (flatS [[(s0, .inr (3, [.int (nI (cn - 1)), .int (nI od), .ref s1])), (s1, .inl (cQ, 4, .inr (.inr (.inr (.inr h)))))], (wSt a0 a1 a2 a3 a4 a5 a6 a7 cI (R ((od + (cn - 1)) % 4))), (wSt ra0 ra1 ra2 ra3 ra4 ra5 ra6 ra7 cI (R 0)), (wSt rb0 rb1 rb2 rb3 rb4 rb5 rb6 rb7 cI (R 1)), (wSt rc0 rc1 rc2 rc3 rc4 rc5 rc6 rc7 cI (R 2)), (wSt rd0 rd1 rd2 rd3 rd4 rd5 rd6 rd7 cI (R 3))])) := by
  refine Ct.of RX3 (by decide) rfl (Nat.le_of_ble_eq_true rfl) ?_
  intro p e s m below meth c A C RC
  refine sw_aload_n 0 0 C dX3_takeLatest_0 rfl rfl ?_
  refine sg_get 1 0 0 0 C dX3_takeLatest_1 rfl rfl rfl (inA lwX3) (C.w wF_X3_18) rfl rfl rfl ?_
  refine sw_if_ne 4 8 C dX3_takeLatest_4 (by decide) (fun c_4 => ?_) (fun c_4 => ?_)
  rotate_left
  · exact by first | exact absurd c_4 (nI_ne0 hc0 (by omega)) | exact absurd (nI_ne0 hc0 (by omega)) c_4
  refine sw_aload_n 8 0 C dX3_takeLatest_8 rfl rfl ?_
  refine sw_dup 9 C dX3_takeLatest_9 rfl ?_
  refine sg_get 10 0 0 0 C dX3_takeLatest_10 rfl rfl rfl (inA lwX3) (C.w wF_X3_18) rfl rfl rfl ?_
  refine sw_iconst 13 C dX3_takeLatest_13 1 (by decide) ?_
  refine sw_isub 14 C dX3_takeLatest_14 ?_
  refine sw_top (show nI cn - 1 = nI (cn - 1) by rw [show (1 : Int32) = nI 1 from rfl, pk_sub (by omega)]) ?_
  refine sg_put 15 0 0 0 tyX3 C dX3_takeLatest_15 rfl rfl rfl (inA lwX3) tyX3_ok nmX3 (C.w wF_X3_18) rfl rfl rfl rfl rfl rfl rfl ?_
  refine sg_segs [[(_, .inr (3, [.int _, .int _, .ref _])), (_, .inl (_, _, .inr (.inr (.inr (.inr _)))))], _, _, _, _, _] rfl ?_
  refine sw_aload_n 18 0 C dX3_takeLatest_18 rfl rfl ?_
  refine sw_aload_n 19 0 C dX3_takeLatest_19 rfl rfl ?_
  refine sg_get 20 0 0 0 C dX3_takeLatest_20 rfl rfl rfl (inA lwX3) (C.w wF_X3_18) rfl rfl rfl ?_
  rcases lt4 (Nat.mod_lt (od + (cn - 1)) (show 4 > 0 by decide)) with hk | hk | hk | hk
  · refine sg_callVRP 23 [0] 1 0 C dX3_takeLatest_23 (ct_X3_slotBehindOldest l (cn - 1) od rfl (by omega) hod (by rw [hk]; exact hh0)) wK_X3_slotBehindOldest wM_X3_25 wN_X3_slotBehindOldest wS_X3_X3_slotBehindOldest wI_X3 hd_X3_slotBehindOldest rfl rfl rfl ⟨rfl, rfl⟩ ⟨Nat.le_of_ble_eq_true rfl, Nat.le_of_ble_eq_true rfl⟩ rfl rfl rfl rfl ?_
    refine sw_astore_n 26 2 C dX3_takeLatest_26 rfl rfl ?_
    refine sw_aload_n 27 2 C dX3_takeLatest_27 rfl rfl ?_
    refine sw_ifnull 28 C dX3_takeLatest_28 ?_
    refine sw_aload_n 31 1 C dX3_takeLatest_31 rfl rfl ?_
    refine sw_aload_n 32 2 C dX3_takeLatest_32 rfl rfl ?_
    refine sg_callVV 33 [1, 2] 1 0 [_, _] C dX3_takeLatest_33 (ct_X4_copyFrom_S l) wK_X4_copyFrom wM_X3_29 wN_X4_copyFrom wS_X4_X4_copyFrom wI_X4 hd_X4_copyFrom rfl rfl rfl ⟨rfl, rfl⟩ ⟨Nat.le_of_ble_eq_true rfl, Nat.le_of_ble_eq_true rfl⟩ rfl rfl rfl rfl rfl rfl ?_
    refine sg_segs [_, _, _, _, _, _] rfl ?_
    refine sw_vret 36 C RC dX3_takeLatest_36 ?_
    exact ⟨rfl, by rw [hk]⟩
  · refine sg_callVRP 23 [0] 1 0 C dX3_takeLatest_23 (ct_X3_slotBehindOldest l (cn - 1) od rfl (by omega) hod (by rw [hk]; exact hh1)) wK_X3_slotBehindOldest wM_X3_25 wN_X3_slotBehindOldest wS_X3_X3_slotBehindOldest wI_X3 hd_X3_slotBehindOldest rfl rfl rfl ⟨rfl, rfl⟩ ⟨Nat.le_of_ble_eq_true rfl, Nat.le_of_ble_eq_true rfl⟩ rfl rfl rfl rfl ?_
    refine sw_astore_n 26 2 C dX3_takeLatest_26 rfl rfl ?_
    refine sw_aload_n 27 2 C dX3_takeLatest_27 rfl rfl ?_
    refine sw_ifnull 28 C dX3_takeLatest_28 ?_
    refine sw_aload_n 31 1 C dX3_takeLatest_31 rfl rfl ?_
    refine sw_aload_n 32 2 C dX3_takeLatest_32 rfl rfl ?_
    refine sg_callVV 33 [1, 3] 1 0 [_, _] C dX3_takeLatest_33 (ct_X4_copyFrom_S l) wK_X4_copyFrom wM_X3_29 wN_X4_copyFrom wS_X4_X4_copyFrom wI_X4 hd_X4_copyFrom rfl rfl rfl ⟨rfl, rfl⟩ ⟨Nat.le_of_ble_eq_true rfl, Nat.le_of_ble_eq_true rfl⟩ rfl rfl rfl rfl rfl rfl ?_
    refine sg_segs [_, _, _, _, _, _] rfl ?_
    refine sw_vret 36 C RC dX3_takeLatest_36 ?_
    exact ⟨rfl, by rw [hk]⟩
  · refine sg_callVRP 23 [0] 1 0 C dX3_takeLatest_23 (ct_X3_slotBehindOldest l (cn - 1) od rfl (by omega) hod (by rw [hk]; exact hh2)) wK_X3_slotBehindOldest wM_X3_25 wN_X3_slotBehindOldest wS_X3_X3_slotBehindOldest wI_X3 hd_X3_slotBehindOldest rfl rfl rfl ⟨rfl, rfl⟩ ⟨Nat.le_of_ble_eq_true rfl, Nat.le_of_ble_eq_true rfl⟩ rfl rfl rfl rfl ?_
    refine sw_astore_n 26 2 C dX3_takeLatest_26 rfl rfl ?_
    refine sw_aload_n 27 2 C dX3_takeLatest_27 rfl rfl ?_
    refine sw_ifnull 28 C dX3_takeLatest_28 ?_
    refine sw_aload_n 31 1 C dX3_takeLatest_31 rfl rfl ?_
    refine sw_aload_n 32 2 C dX3_takeLatest_32 rfl rfl ?_
    refine sg_callVV 33 [1, 4] 1 0 [_, _] C dX3_takeLatest_33 (ct_X4_copyFrom_S l) wK_X4_copyFrom wM_X3_29 wN_X4_copyFrom wS_X4_X4_copyFrom wI_X4 hd_X4_copyFrom rfl rfl rfl ⟨rfl, rfl⟩ ⟨Nat.le_of_ble_eq_true rfl, Nat.le_of_ble_eq_true rfl⟩ rfl rfl rfl rfl rfl rfl ?_
    refine sg_segs [_, _, _, _, _, _] rfl ?_
    refine sw_vret 36 C RC dX3_takeLatest_36 ?_
    exact ⟨rfl, by rw [hk]⟩
  · refine sg_callVRP 23 [0] 1 0 C dX3_takeLatest_23 (ct_X3_slotBehindOldest l (cn - 1) od rfl (by omega) hod (by rw [hk]; exact hh3)) wK_X3_slotBehindOldest wM_X3_25 wN_X3_slotBehindOldest wS_X3_X3_slotBehindOldest wI_X3 hd_X3_slotBehindOldest rfl rfl rfl ⟨rfl, rfl⟩ ⟨Nat.le_of_ble_eq_true rfl, Nat.le_of_ble_eq_true rfl⟩ rfl rfl rfl rfl ?_
    refine sw_astore_n 26 2 C dX3_takeLatest_26 rfl rfl ?_
    refine sw_aload_n 27 2 C dX3_takeLatest_27 rfl rfl ?_
    refine sw_ifnull 28 C dX3_takeLatest_28 ?_
    refine sw_aload_n 31 1 C dX3_takeLatest_31 rfl rfl ?_
    refine sw_aload_n 32 2 C dX3_takeLatest_32 rfl rfl ?_
    refine sg_callVV 33 [1, 5] 1 0 [_, _] C dX3_takeLatest_33 (ct_X4_copyFrom_S l) wK_X4_copyFrom wM_X3_29 wN_X4_copyFrom wS_X4_X4_copyFrom wI_X4 hd_X4_copyFrom rfl rfl rfl ⟨rfl, rfl⟩ ⟨Nat.le_of_ble_eq_true rfl, Nat.le_of_ble_eq_true rfl⟩ rfl rfl rfl rfl rfl rfl ?_
    refine sg_segs [_, _, _, _, _, _] rfl ?_
    refine sw_vret 36 C RC dX3_takeLatest_36 ?_
    exact ⟨rfl, by rw [hk]⟩
/-! Text: ln bytes by_ -/
def txa (by_ : Nat → Int32) (ln p : Nat) : Int32 := if p < ln then by_ p else -1
def txl (ln : Nat) : Nat := if ln < 100 then ln + 1 else ln
def txb (by_ : Nat → Int32) (ln : Nat) (v : Int32) : Nat → Int32 := if ln < 100 then upd by_ ln v else by_
set_option maxHeartbeats 4000000 in
set_option maxRecDepth 100000 in
theorem ct_X5_at (l : Launch) {D : va_G} {cI cJ cQ : ClassId} {t0 t1 ln : Nat} {by_ : Nat → Int32} {x : Int32} (p0 : Nat) (h1 : x = nI p0) (hp : p0 < 2 ^ 30) (hln : ln ≤ 100) : Ct l yX5_at (Cond.code yX5_at cX5_at 2 (some .int)) 0 0 0 0 D (tyz cI cJ cQ) [.ref t0, .int x] [(t0, .inr (5, [.int (nI (ln)), .ref t1])), (t1, .inl (cI, 100, .inl (by_)))] (pstI (txa by_ ln p0) [(t0, .inr (5, [.int (nI (ln)), .ref t1])), (t1, .inl (cI, 100, .inl (by_)))]) := by
  refine Ct.of RX5 (by decide) rfl (Nat.le_of_ble_eq_true rfl) ?_
  intro p e s m below meth c A C RC
  subst h1
  refine sw_iload_n 0 1 C dX5_at_0 rfl rfl ?_
  refine sw_if_lt 1 30 C dX5_at_1 (by decide) (fun c_1 => ?_) (fun c_1 => ?_)
  · exact by first | exact absurd c_1 (nI_pos (by omega)) | exact absurd (nI_pos (by omega)) c_1
  refine sw_iload_n 4 1 C dX5_at_4 rfl rfl ?_
  refine sw_aload_n 5 0 C dX5_at_5 rfl rfl ?_
  refine sw_get 6 0 0 C dX5_at_6 rfl rfl (inA lwX5) (C.w wF_X5_15) rfl rfl rfl ?_
  refine sw_icmp_ge 9 30 C dX5_at_9 (by decide) (fun c_9 => ?_) (fun c_9 => ?_)
  · refine sw_iconst 30 C dX5_at_30 (-1) (by decide) ?_
    refine sw_iret 31 C RC dX5_at_31 ?_
    exact ⟨by rw [show txa by_ ln p0 = -1 from if_neg (fun h => nI_ge h (by omega) c_9)], rfl⟩
  · have hlt : p0 < ln := (nI_ltI (by omega) (by omega)).mp (Int32.not_le.mp c_9)
    refine sw_iload_n 12 1 C dX5_at_12 rfl rfl ?_
    refine sw_aload_n 13 0 C dX5_at_13 rfl rfl ?_
    refine sw_get 14 0 1 C dX5_at_14 rfl rfl (inA lwX5) (C.w wF_X5_9) rfl rfl rfl ?_
    refine sw_alen 17 1 0 C 100 dX5_at_17 rfl rfl rfl ?_
    refine sw_icmp_ge 18 30 C dX5_at_18 (by decide) (fun c_18 => ?_) (fun c_18 => ?_)
    · exact by first | exact absurd c_18 (nI_ge (show p0 < 100 by omega) (by decide)) | exact absurd (nI_ge (show p0 < 100 by omega) (by decide)) c_18
    refine sw_aload_n 21 0 C dX5_at_21 rfl rfl ?_
    refine sw_get 22 0 1 C dX5_at_22 rfl rfl (inA lwX5) (C.w wF_X5_9) rfl rfl rfl ?_
    refine sw_iload_n 25 1 C dX5_at_25 rfl rfl ?_
    refine sw_ialdN 26 1 0 (p0) C dX5_at_26 rfl (by omega) rfl rfl rfl ?_
    refine sw_goto 27 31 C dX5_at_27 (by decide) ?_
    refine sw_iret 31 C RC dX5_at_31 ?_
    exact ⟨by rw [show txa by_ ln p0 = by_ p0 from if_pos hlt], rfl⟩
set_option maxHeartbeats 4000000 in
set_option maxRecDepth 100000 in
theorem ct_X5_add (l : Launch) {D : va_G} {cI cJ cQ : ClassId} {t0 t1 ln : Nat} {by_ : Nat → Int32} {x : Int32} (hln : ln ≤ 100) : Ct l yX5_add (Cond.code yX5_add cX5_add 2 (some .boolean)) 0 0 0 0 D (tyz cI cJ cQ) [.ref t0, .int x] [(t0, .inr (5, [.int (nI (ln)), .ref t1])), (t1, .inl (cI, 100, .inl (by_)))] (pstI (bI (decide (ln < 100))) [(t0, .inr (5, [.int (nI (txl ln)), .ref t1])), (t1, .inl (cI, 100, .inl (txb by_ ln x)))]) := by
  refine Ct.of RX5 (by decide) rfl (Nat.le_of_ble_eq_true rfl) ?_
  intro p e s m below meth c A C RC
  refine sw_aload_n 0 0 C dX5_add_0 rfl rfl ?_
  refine sw_get 1 0 0 C dX5_add_1 rfl rfl (inA lwX5) (C.w wF_X5_15) rfl rfl rfl ?_
  refine sw_if_lt 4 19 C dX5_add_4 (by decide) (fun c_4 => ?_) (fun c_4 => ?_)
  · exact by first | exact absurd c_4 (nI_pos (by omega)) | exact absurd (nI_pos (by omega)) c_4
  refine sw_aload_n 7 0 C dX5_add_7 rfl rfl ?_
  refine sw_get 8 0 0 C dX5_add_8 rfl rfl (inA lwX5) (C.w wF_X5_15) rfl rfl rfl ?_
  refine sw_aload_n 11 0 C dX5_add_11 rfl rfl ?_
  refine sw_get 12 0 1 C dX5_add_12 rfl rfl (inA lwX5) (C.w wF_X5_9) rfl rfl rfl ?_
  refine sw_alen 15 1 0 C 100 dX5_add_15 rfl rfl rfl ?_
  refine sw_icmp_lt 16 21 C dX5_add_16 (by decide) (fun c_16 => ?_) (fun c_16 => ?_)
  · have hlt : ln < 100 := (nI_ltI (by omega) (by decide)).mp c_16
    refine sw_aload_n 21 0 C dX5_add_21 rfl rfl ?_
    refine sw_get 22 0 1 C dX5_add_22 rfl rfl (inA lwX5) (C.w wF_X5_9) rfl rfl rfl ?_
    refine sw_aload_n 25 0 C dX5_add_25 rfl rfl ?_
    refine sw_get 26 0 0 C dX5_add_26 rfl rfl (inA lwX5) (C.w wF_X5_15) rfl rfl rfl ?_
    refine sw_iload_n 29 1 C dX5_add_29 rfl rfl ?_
    refine sw_iastN 30 1 0 (ln) C dX5_add_30 rfl hlt rfl rfl rfl ?_
    refine sw_ws [(_, .inr (5, [.int _, .ref _])), (_, .inl (_, _, .inl _))] rfl ?_
    refine sw_aload_n 31 0 C dX5_add_31 rfl rfl ?_
    refine sw_dup 32 C dX5_add_32 rfl ?_
    refine sw_get 33 0 0 C dX5_add_33 rfl rfl (inA lwX5) (C.w wF_X5_15) rfl rfl rfl ?_
    refine sw_iconst 36 C dX5_add_36 1 (by decide) ?_
    refine sw_iadd 37 C dX5_add_37 ?_
    refine sw_top (nI_1 ln) ?_
    refine sw_put 38 0 0 tyX5 C dX5_add_38 rfl rfl (inA lwX5) tyX5_ok nmX5 (C.w wF_X5_15) rfl rfl rfl rfl rfl rfl rfl ?_
    refine sw_ws [(_, .inr (5, [.int _, .ref _])), (_, .inl (_, _, .inl _))] rfl ?_
    refine sw_iconst 41 C dX5_add_41 1 (by decide) ?_
    refine sw_zret 42 C RC rfl dX5_add_42 ?_
    exact ⟨by rw [decide_eq_true hlt]; rfl, by rw [show txl ln = ln + 1 from if_pos hlt, show txb by_ ln x = upd by_ ln x from if_pos hlt]⟩
  · refine sw_iconst 19 C dX5_add_19 0 (by decide) ?_
    refine sw_zret 20 C RC rfl dX5_add_20 ?_
    have hge : ¬ ln < 100 := fun h => c_16 (nI_lt h (by decide))
    exact ⟨by rw [decide_eq_false hge]; rfl, by rw [show txl ln = ln from if_neg hge, show txb by_ ln x = by_ from if_neg hge]⟩
