theorem hd_X6_setPatience : yX6_setPatience.cls = RX6 ∧ yX6_setPatience.cls ≠ "java/lang/invoke/MethodHandle" ∧ yX6_setPatience.cls ≠ "java/lang/invoke/VarHandle" ∧ (parseMethodDescriptor yX6_setPatience.desc).map (fun d => d.parameters.length) = some 2 := by decide +kernel
theorem hd_X6_setQuota : yX6_setQuota.cls = RX6 ∧ yX6_setQuota.cls ≠ "java/lang/invoke/MethodHandle" ∧ yX6_setQuota.cls ≠ "java/lang/invoke/VarHandle" ∧ (parseMethodDescriptor yX6_setQuota.desc).map (fun d => d.parameters.length) = some 1 := by decide +kernel
theorem hd_X6_setGrace : yX6_setGrace.cls = RX6 ∧ yX6_setGrace.cls ≠ "java/lang/invoke/MethodHandle" ∧ yX6_setGrace.cls ≠ "java/lang/invoke/VarHandle" ∧ (parseMethodDescriptor yX6_setGrace.desc).map (fun d => d.parameters.length) = some 1 := by decide +kernel
theorem hd_X6_send : yX6_send.cls = RX6 ∧ yX6_send.cls ≠ "java/lang/invoke/MethodHandle" ∧ yX6_send.cls ≠ "java/lang/invoke/VarHandle" ∧ (parseMethodDescriptor yX6_send.desc).map (fun d => d.parameters.length) = some 3 := by decide +kernel
theorem hd_X6_sendBribed : yX6_sendBribed.cls = RX6 ∧ yX6_sendBribed.cls ≠ "java/lang/invoke/MethodHandle" ∧ yX6_sendBribed.cls ≠ "java/lang/invoke/VarHandle" ∧ (parseMethodDescriptor yX6_sendBribed.desc).map (fun d => d.parameters.length) = some 4 := by decide +kernel
theorem hd_X6_sendJoint : yX6_sendJoint.cls = RX6 ∧ yX6_sendJoint.cls ≠ "java/lang/invoke/MethodHandle" ∧ yX6_sendJoint.cls ≠ "java/lang/invoke/VarHandle" ∧ (parseMethodDescriptor yX6_sendJoint.desc).map (fun d => d.parameters.length) = some 4 := by decide +kernel
theorem hd_X6_withdraw : yX6_withdraw.cls = RX6 ∧ yX6_withdraw.cls ≠ "java/lang/invoke/MethodHandle" ∧ yX6_withdraw.cls ≠ "java/lang/invoke/VarHandle" ∧ (parseMethodDescriptor yX6_withdraw.desc).map (fun d => d.parameters.length) = some 1 := by decide +kernel
theorem hd_X6_serve : yX6_serve.cls = RX6 ∧ yX6_serve.cls ≠ "java/lang/invoke/MethodHandle" ∧ yX6_serve.cls ≠ "java/lang/invoke/VarHandle" ∧ (parseMethodDescriptor yX6_serve.desc).map (fun d => d.parameters.length) = some 0 := by decide +kernel
theorem hd_X6_pass : yX6_pass.cls = RX6 ∧ yX6_pass.cls ≠ "java/lang/invoke/MethodHandle" ∧ yX6_pass.cls ≠ "java/lang/invoke/VarHandle" ∧ (parseMethodDescriptor yX6_pass.desc).map (fun d => d.parameters.length) = some 1 := by decide +kernel
theorem hd_X6_petition : yX6_petition.cls = RX6 ∧ yX6_petition.cls ≠ "java/lang/invoke/MethodHandle" ∧ yX6_petition.cls ≠ "java/lang/invoke/VarHandle" ∧ (parseMethodDescriptor yX6_petition.desc).map (fun d => d.parameters.length) = some 2 := by decide +kernel
theorem hd_X6_peek : yX6_peek.cls = RX6 ∧ yX6_peek.cls ≠ "java/lang/invoke/MethodHandle" ∧ yX6_peek.cls ≠ "java/lang/invoke/VarHandle" ∧ (parseMethodDescriptor yX6_peek.desc).map (fun d => d.parameters.length) = some 1 := by decide +kernel
theorem hd_X6_sentBy : yX6_sentBy.cls = RX6 ∧ yX6_sentBy.cls ≠ "java/lang/invoke/MethodHandle" ∧ yX6_sentBy.cls ≠ "java/lang/invoke/VarHandle" ∧ (parseMethodDescriptor yX6_sentBy.desc).map (fun d => d.parameters.length) = some 1 := by decide +kernel
theorem hd_X6_returned : yX6_returned.cls = RX6 ∧ yX6_returned.cls ≠ "java/lang/invoke/MethodHandle" ∧ yX6_returned.cls ≠ "java/lang/invoke/VarHandle" ∧ (parseMethodDescriptor yX6_returned.desc).map (fun d => d.parameters.length) = some 1 := by decide +kernel
theorem hd_X6_entry : yX6_entry.cls = RX6 ∧ yX6_entry.cls ≠ "java/lang/invoke/MethodHandle" ∧ yX6_entry.cls ≠ "java/lang/invoke/VarHandle" ∧ (parseMethodDescriptor yX6_entry.desc).map (fun d => d.parameters.length) = some 2 := by decide +kernel
theorem hd_X6_value : yX6_value.cls = RX6 ∧ yX6_value.cls ≠ "java/lang/invoke/MethodHandle" ∧ yX6_value.cls ≠ "java/lang/invoke/VarHandle" ∧ (parseMethodDescriptor yX6_value.desc).map (fun d => d.parameters.length) = some 1 := by decide +kernel
theorem hd_X6_ofRank : yX6_ofRank.cls = RX6 ∧ yX6_ofRank.cls ≠ "java/lang/invoke/MethodHandle" ∧ yX6_ofRank.cls ≠ "java/lang/invoke/VarHandle" ∧ (parseMethodDescriptor yX6_ofRank.desc).map (fun d => d.parameters.length) = some 1 := by decide +kernel
theorem hd_X6_rankIn : yX6_rankIn.cls = RX6 ∧ yX6_rankIn.cls ≠ "java/lang/invoke/MethodHandle" ∧ yX6_rankIn.cls ≠ "java/lang/invoke/VarHandle" ∧ (parseMethodDescriptor yX6_rankIn.desc).map (fun d => d.parameters.length) = some 2 := by decide +kernel
theorem hd_X6_firstToExpire : yX6_firstToExpire.cls = RX6 ∧ yX6_firstToExpire.cls ≠ "java/lang/invoke/MethodHandle" ∧ yX6_firstToExpire.cls ≠ "java/lang/invoke/VarHandle" ∧ (parseMethodDescriptor yX6_firstToExpire.desc).map (fun d => d.parameters.length) = some 0 := by decide +kernel
theorem hd_X6_servedIn : yX6_servedIn.cls = RX6 ∧ yX6_servedIn.cls ≠ "java/lang/invoke/MethodHandle" ∧ yX6_servedIn.cls ≠ "java/lang/invoke/VarHandle" ∧ (parseMethodDescriptor yX6_servedIn.desc).map (fun d => d.parameters.length) = some 1 := by decide +kernel
theorem hd_X6_bribeToLead : yX6_bribeToLead.cls = RX6 ∧ yX6_bribeToLead.cls ≠ "java/lang/invoke/MethodHandle" ∧ yX6_bribeToLead.cls ≠ "java/lang/invoke/VarHandle" ∧ (parseMethodDescriptor yX6_bribeToLead.desc).map (fun d => d.parameters.length) = some 1 := by decide +kernel
theorem hd_X6_meanWait : yX6_meanWait.cls = RX6 ∧ yX6_meanWait.cls ≠ "java/lang/invoke/MethodHandle" ∧ yX6_meanWait.cls ≠ "java/lang/invoke/VarHandle" ∧ (parseMethodDescriptor yX6_meanWait.desc).map (fun d => d.parameters.length) = some 0 := by decide +kernel
theorem hd_X6_append : yX6_append.cls = RX6 ∧ yX6_append.cls ≠ "java/lang/invoke/MethodHandle" ∧ yX6_append.cls ≠ "java/lang/invoke/VarHandle" ∧ (parseMethodDescriptor yX6_append.desc).map (fun d => d.parameters.length) = some 1 := by decide +kernel
theorem hd_X6_clearText : yX6_clearText.cls = RX6 ∧ yX6_clearText.cls ≠ "java/lang/invoke/MethodHandle" ∧ yX6_clearText.cls ≠ "java/lang/invoke/VarHandle" ∧ (parseMethodDescriptor yX6_clearText.desc).map (fun d => d.parameters.length) = some 0 := by decide +kernel
theorem hd_X6_carryOut : yX6_carryOut.cls = RX6 ∧ yX6_carryOut.cls ≠ "java/lang/invoke/MethodHandle" ∧ yX6_carryOut.cls ≠ "java/lang/invoke/VarHandle" ∧ (parseMethodDescriptor yX6_carryOut.desc).map (fun d => d.parameters.length) = some 0 := by decide +kernel
theorem hd_X6_undo : yX6_undo.cls = RX6 ∧ yX6_undo.cls ≠ "java/lang/invoke/MethodHandle" ∧ yX6_undo.cls ≠ "java/lang/invoke/VarHandle" ∧ (parseMethodDescriptor yX6_undo.desc).map (fun d => d.parameters.length) = some 0 := by decide +kernel
theorem hd_X6_checkRange : yX6_checkRange.cls ≠ "java/lang/invoke/MethodHandle" ∧ yX6_checkRange.cls ≠ "java/lang/invoke/VarHandle" ∧ (parseMethodDescriptor yX6_checkRange.desc).map (fun d => d.parameters.length) = some 3 := by decide +kernel
theorem hd_X6_checkSending : yX6_checkSending.cls ≠ "java/lang/invoke/MethodHandle" ∧ yX6_checkSending.cls ≠ "java/lang/invoke/VarHandle" ∧ (parseMethodDescriptor yX6_checkSending.desc).map (fun d => d.parameters.length) = some 3 := by decide +kernel
theorem hd_X6_checkRoom : yX6_checkRoom.cls = RX6 ∧ yX6_checkRoom.cls ≠ "java/lang/invoke/MethodHandle" ∧ yX6_checkRoom.cls ≠ "java/lang/invoke/VarHandle" ∧ (parseMethodDescriptor yX6_checkRoom.desc).map (fun d => d.parameters.length) = some 2 := by decide +kernel
theorem hd_X6_findRow : yX6_findRow.cls = RX6 ∧ yX6_findRow.cls ≠ "java/lang/invoke/MethodHandle" ∧ yX6_findRow.cls ≠ "java/lang/invoke/VarHandle" ∧ (parseMethodDescriptor yX6_findRow.desc).map (fun d => d.parameters.length) = some 1 := by decide +kernel
theorem hd_X6_carryOutOrder : yX6_carryOutOrder.cls = RX6 ∧ yX6_carryOutOrder.cls ≠ "java/lang/invoke/MethodHandle" ∧ yX6_carryOutOrder.cls ≠ "java/lang/invoke/VarHandle" ∧ (parseMethodDescriptor yX6_carryOutOrder.desc).map (fun d => d.parameters.length) = some 0 := by decide +kernel
/-! PetitionBox: checks -/
def inR (x a b : Int32) : Bool := decide (a ≤ x) && decide (x ≤ b)
theorem inR_t {x a b : Int32} (h : inR x a b = true) : a ≤ x ∧ x ≤ b := by
  unfold inR at h
  rw [Bool.and_eq_true] at h
  exact ⟨of_decide_eq_true h.1, of_decide_eq_true h.2⟩
theorem inR_f {x a b : Int32} (h : inR x a b = false) (h1 : ¬ x < a) : ¬ x ≤ b := fun h2 => by
  unfold inR at h
  rw [decide_eq_true (Int32.not_lt.mp h1), decide_eq_true h2] at h
  cases h
set_option maxHeartbeats 4000000 in
set_option maxRecDepth 100000 in
theorem ct_X6_checkRange (l : Launch) {D : va_G} {cI cJ cQ : ClassId} {x a b : Int32} (h : inR x a b = true) : Ct l yX6_checkRange (Cond.code yX6_checkRange cX6_checkRange 3 none) 7 120 0 0 D (tyz cI cJ cQ) [.int x, .int a, .int b] [] (pstV []) := by
  refine Ct.of RX6 (by decide) rfl (Nat.le_of_ble_eq_true rfl) ?_
  intro p e s m below meth c A C RC
  refine sw_iload_n 0 0 C dX6_checkRange_0 rfl rfl ?_
  refine sw_iload_n 1 1 C dX6_checkRange_1 rfl rfl ?_
  refine sw_icmp_lt 2 10 C dX6_checkRange_2 (by decide) (fun c_2 => ?_) (fun c_2 => ?_)
  · exact by first | exact absurd c_2 (Int32.not_lt.mpr (inR_t h).1) | exact absurd (Int32.not_lt.mpr (inR_t h).1) c_2
  refine sw_iload_n 5 0 C dX6_checkRange_5 rfl rfl ?_
  refine sw_iload_n 6 2 C dX6_checkRange_6 rfl rfl ?_
  refine sw_icmp_le 7 20 C dX6_checkRange_7 (by decide) (fun c_7 => ?_) (fun c_7 => ?_)
  rotate_left
  · exact by first | exact absurd c_7 ((inR_t h).2) | exact absurd ((inR_t h).2) c_7
  refine sw_vret 20 C RC dX6_checkRange_20 ?_
  exact ⟨rfl, rfl⟩
set_option maxHeartbeats 4000000 in
set_option maxRecDepth 100000 in
theorem xt_X6_checkRange (l : Launch) (hfl : l.stackTraces = false) {D : va_G} {cI cJ cQ : ClassId} {x a b : Int32} (h : inR x a b = false) : XCt l yX6_checkRange (Cond.code yX6_checkRange cX6_checkRange 3 none) 7 120 1 6 D (tyz cI cJ cQ) [.int x, .int a, .int b] [] (fun _ _ => False) (fun E => E = "java/lang/IllegalArgumentException") := by
  refine XCt.of RX6 (by decide) rfl (Nat.le_of_ble_eq_true rfl) ?_
  intro p e s m below meth c A C RC XT
  refine sw_iload_n 0 0 C dX6_checkRange_0 rfl rfl ?_
  refine sw_iload_n 1 1 C dX6_checkRange_1 rfl rfl ?_
  refine sw_icmp_lt 2 10 C dX6_checkRange_2 (by decide) (fun c_2 => ?_) (fun c_2 => ?_)
  · exact xw_throw 10 73 216 77 C RC XT hfl dX6_checkRange_10 dX6_checkRange_13 dX6_checkRange_14 dX6_checkRange_16 dX6_checkRange_19 (by decide +kernel) wC_X6_73 wI_IllegalArgumentException xat_iae xno_iae xot_iae (List.mem_of_getElem? (i := 8) rfl) rfl rfl (Nat.le_of_ble_eq_true rfl) (Nat.le_of_ble_eq_true rfl) (Nat.le_of_ble_eq_true rfl) (Nat.le_of_ble_eq_true rfl) (rfl)
  · refine sw_iload_n 5 0 C dX6_checkRange_5 rfl rfl ?_
    refine sw_iload_n 6 2 C dX6_checkRange_6 rfl rfl ?_
    refine sw_icmp_le 7 20 C dX6_checkRange_7 (by decide) (fun c_7 => ?_) (fun c_7 => ?_)
    · exact by first | exact absurd c_7 (inR_f h c_2) | exact absurd (inR_f h c_2) c_7
    exact xw_throw 10 73 216 77 C RC XT hfl dX6_checkRange_10 dX6_checkRange_13 dX6_checkRange_14 dX6_checkRange_16 dX6_checkRange_19 (by decide +kernel) wC_X6_73 wI_IllegalArgumentException xat_iae xno_iae xot_iae (List.mem_of_getElem? (i := 8) rfl) rfl rfl (Nat.le_of_ble_eq_true rfl) (Nat.le_of_ble_eq_true rfl) (Nat.le_of_ble_eq_true rfl) (Nat.le_of_ble_eq_true rfl) (rfl)
def okSn (x1 x2 x3 : Int32) : Bool := inR x1 0 7 && (inR x2 0 4 && inR x3 1 200)
theorem okSn_t {x1 x2 x3 : Int32} (h : okSn x1 x2 x3 = true) : inR x1 0 7 = true ∧ inR x2 0 4 = true ∧ inR x3 1 200 = true := by
  unfold okSn at h
  rw [Bool.and_eq_true, Bool.and_eq_true] at h
  exact h
set_option maxHeartbeats 4000000 in
set_option maxRecDepth 100000 in
theorem ct_X6_checkSending (l : Launch) {D : va_G} {cI cJ cQ : ClassId} {x1 x2 x3 : Int32} (h : okSn x1 x2 x3 = true) : Ct l yX6_checkSending (Cond.code yX6_checkSending cX6_checkSending 3 none) 8 142 0 0 D (tyz cI cJ cQ) [.int x1, .int x2, .int x3] (flatS []) (pstV (flatS [])) := by
  refine Ct.of RX6 (by decide) rfl (Nat.le_of_ble_eq_true rfl) ?_
  intro p e s m below meth c A C RC
  refine sw_iload_n 0 0 C dX6_checkSending_0 rfl rfl ?_
  refine sw_iconst 1 C dX6_checkSending_1 0 (by decide) ?_
  refine sw_bipush 2 C dX6_checkSending_2 7 (by decide) ?_
  refine sg_callSV 4 [] 3 [] C dX6_checkSending_4 (ct_X6_checkRange l (okSn_t h).1) wK_X6_checkRange wM_X6_47 wT_X6_checkRange wI_X6 hd_X6_checkRange rfl ⟨rfl, rfl⟩ ⟨Nat.le_of_ble_eq_true rfl, Nat.le_of_ble_eq_true rfl⟩ rfl rfl rfl rfl rfl rfl ?_
  refine sg_segs [] rfl ?_
  refine sw_iload_n 7 1 C dX6_checkSending_7 rfl rfl ?_
  refine sw_iconst 8 C dX6_checkSending_8 0 (by decide) ?_
  refine sw_iconst 9 C dX6_checkSending_9 4 (by decide) ?_
  refine sg_callSV 10 [] 3 [] C dX6_checkSending_10 (ct_X6_checkRange l (okSn_t h).2.1) wK_X6_checkRange wM_X6_47 wT_X6_checkRange wI_X6 hd_X6_checkRange rfl ⟨rfl, rfl⟩ ⟨Nat.le_of_ble_eq_true rfl, Nat.le_of_ble_eq_true rfl⟩ rfl rfl rfl rfl rfl rfl ?_
  refine sg_segs [] rfl ?_
  refine sw_iload_n 13 2 C dX6_checkSending_13 rfl rfl ?_
  refine sw_iconst 14 C dX6_checkSending_14 1 (by decide) ?_
  refine sw_sipush 15 C dX6_checkSending_15 200 (by decide) ?_
  refine sg_callSV 18 [] 3 [] C dX6_checkSending_18 (ct_X6_checkRange l (okSn_t h).2.2) wK_X6_checkRange wM_X6_47 wT_X6_checkRange wI_X6 hd_X6_checkRange rfl ⟨rfl, rfl⟩ ⟨Nat.le_of_ble_eq_true rfl, Nat.le_of_ble_eq_true rfl⟩ rfl rfl rfl rfl rfl rfl ?_
  refine sg_segs [] rfl ?_
  refine sw_vret 21 C RC dX6_checkSending_21 ?_
  exact ⟨rfl, rfl⟩
set_option maxHeartbeats 4000000 in
set_option maxRecDepth 100000 in
theorem xt_X6_checkSending (l : Launch) (hfl : l.stackTraces = false) {D : va_G} {cI cJ cQ : ClassId} {x1 x2 x3 : Int32} (h : okSn x1 x2 x3 = false) : XCt l yX6_checkSending (Cond.code yX6_checkSending cX6_checkSending 3 none) 8 142 1 6 D (tyz cI cJ cQ) [.int x1, .int x2, .int x3] (flatS []) (fun _ _ => False) (fun E => E = "java/lang/IllegalArgumentException") := by
  refine XCt.of RX6 (by decide) rfl (Nat.le_of_ble_eq_true rfl) ?_
  intro p e s m below meth c A C RC XT
  refine sw_iload_n 0 0 C dX6_checkSending_0 rfl rfl ?_
  refine sw_iconst 1 C dX6_checkSending_1 0 (by decide) ?_
  refine sw_bipush 2 C dX6_checkSending_2 7 (by decide) ?_
  cases q1 : inR x1 0 7
  · exact xg_thrS 4 [] 3 C RC XT dX6_checkSending_4 (xt_X6_checkRange l hfl q1) (fun _ h => h) wK_X6_checkRange wM_X6_47 wT_X6_checkRange wI_X6 hd_X6_checkRange rfl ⟨rfl, rfl⟩ ⟨(Nat.le_of_ble_eq_true rfl), (Nat.le_of_ble_eq_true rfl)⟩ rfl ⟨(Nat.le_of_ble_eq_true rfl), (Nat.le_of_ble_eq_true rfl)⟩ rfl rfl rfl
  · refine sg_callSV 4 [] 3 [] C dX6_checkSending_4 (ct_X6_checkRange l q1) wK_X6_checkRange wM_X6_47 wT_X6_checkRange wI_X6 hd_X6_checkRange rfl ⟨rfl, rfl⟩ ⟨Nat.le_of_ble_eq_true rfl, Nat.le_of_ble_eq_true rfl⟩ rfl rfl rfl rfl rfl rfl ?_
    refine sg_segs [] rfl ?_
    refine sw_iload_n 7 1 C dX6_checkSending_7 rfl rfl ?_
    refine sw_iconst 8 C dX6_checkSending_8 0 (by decide) ?_
    refine sw_iconst 9 C dX6_checkSending_9 4 (by decide) ?_
    cases q2 : inR x2 0 4
    · exact xg_thrS 10 [] 3 C RC XT dX6_checkSending_10 (xt_X6_checkRange l hfl q2) (fun _ h => h) wK_X6_checkRange wM_X6_47 wT_X6_checkRange wI_X6 hd_X6_checkRange rfl ⟨rfl, rfl⟩ ⟨(Nat.le_of_ble_eq_true rfl), (Nat.le_of_ble_eq_true rfl)⟩ rfl ⟨(Nat.le_of_ble_eq_true rfl), (Nat.le_of_ble_eq_true rfl)⟩ rfl rfl rfl
    · refine sg_callSV 10 [] 3 [] C dX6_checkSending_10 (ct_X6_checkRange l q2) wK_X6_checkRange wM_X6_47 wT_X6_checkRange wI_X6 hd_X6_checkRange rfl ⟨rfl, rfl⟩ ⟨Nat.le_of_ble_eq_true rfl, Nat.le_of_ble_eq_true rfl⟩ rfl rfl rfl rfl rfl rfl ?_
      refine sg_segs [] rfl ?_
      refine sw_iload_n 13 2 C dX6_checkSending_13 rfl rfl ?_
      refine sw_iconst 14 C dX6_checkSending_14 1 (by decide) ?_
      refine sw_sipush 15 C dX6_checkSending_15 200 (by decide) ?_
      exact xg_thrS 18 [] 3 C RC XT dX6_checkSending_18 (xt_X6_checkRange l hfl (by unfold okSn at h; rw [q1, q2] at h; exact h)) (fun _ h => h) wK_X6_checkRange wM_X6_47 wT_X6_checkRange wI_X6 hd_X6_checkRange rfl ⟨rfl, rfl⟩ ⟨(Nat.le_of_ble_eq_true rfl), (Nat.le_of_ble_eq_true rfl)⟩ rfl ⟨(Nat.le_of_ble_eq_true rfl), (Nat.le_of_ble_eq_true rfl)⟩ rfl rfl rfl
set_option maxHeartbeats 4000000 in
set_option maxRecDepth 100000 in
theorem ct_X6_checkRoom (l : Launch) {D : va_G} {cI cJ cQ : ClassId} {x0a a0 a1 a2 a3 a4 a5 a6 a7 tr0 s0 r0 w0 : Nat} {S : StT} {x y : Int32} (hn : zn S ≤ 40) (h : hrf (zf S) (zn S) (zq S) x y = true) : Ct l yX6_checkRoom (Cond.code yX6_checkRoom cX6_checkRoom 3 none) 7 120 0 0 D (tyz cI cJ cQ) [.ref x0a, .int x, .int y] (flatS [[(x0a, .inr (6, [.ref a0, .ref tr0, .ref s0, .ref r0, .ref w0]))], (wSt a0 a1 a2 a3 a4 a5 a6 a7 cI (S))]) (pstV (flatS [[(x0a, .inr (6, [.ref a0, .ref tr0, .ref s0, .ref r0, .ref w0]))], (wSt a0 a1 a2 a3 a4 a5 a6 a7 cI (S))])) := by
  refine Ct.of RX6 (by decide) rfl (Nat.le_of_ble_eq_true rfl) ?_
  intro p e s m below meth c A C RC
  refine sw_aload_n 0 0 C dX6_checkRoom_0 rfl rfl ?_
  refine sg_get 1 0 0 0 C dX6_checkRoom_1 rfl rfl rfl (inA lwX6) (C.w wF_X6_10) rfl rfl rfl ?_
  refine sw_iload_n 4 1 C dX6_checkRoom_4 rfl rfl ?_
  refine sw_iload_n 5 2 C dX6_checkRoom_5 rfl rfl ?_
  refine sg_callVIP 6 [1] 2 0 C dX6_checkRoom_6 (ct_X4_hasRoomFor l hn) wK_X4_hasRoomFor wM_X6_218 wN_X4_hasRoomFor wS_X4_X4_hasRoomFor wI_X4 hd_X4_hasRoomFor rfl rfl rfl ⟨rfl, rfl⟩ ⟨Nat.le_of_ble_eq_true rfl, Nat.le_of_ble_eq_true rfl⟩ rfl rfl rfl rfl ?_
  refine sw_if_ne 9 22 C dX6_checkRoom_9 (by decide) (fun c_9 => ?_) (fun c_9 => ?_)
  rotate_left
  · exact by first | exact absurd c_9 (by rw [h]; decide) | exact absurd (by rw [h]; decide) c_9
  refine sw_vret 22 C RC dX6_checkRoom_22 ?_
  exact ⟨rfl, rfl⟩
set_option maxHeartbeats 4000000 in
set_option maxRecDepth 100000 in
theorem xt_X6_checkRoom (l : Launch) (hfl : l.stackTraces = false) {D : va_G} {cI cJ cQ : ClassId} {x0a a0 a1 a2 a3 a4 a5 a6 a7 tr0 s0 r0 w0 : Nat} {S : StT} {x y : Int32} (hn : zn S ≤ 40) (h : hrf (zf S) (zn S) (zq S) x y = false) : XCt l yX6_checkRoom (Cond.code yX6_checkRoom cX6_checkRoom 3 none) 7 120 1 6 D (tyz cI cJ cQ) [.ref x0a, .int x, .int y] (flatS [[(x0a, .inr (6, [.ref a0, .ref tr0, .ref s0, .ref r0, .ref w0]))], (wSt a0 a1 a2 a3 a4 a5 a6 a7 cI (S))]) (fun _ _ => False) (fun E => E = "java/lang/IllegalStateException") := by
  refine XCt.of RX6 (by decide) rfl (Nat.le_of_ble_eq_true rfl) ?_
  intro p e s m below meth c A C RC XT
  refine sw_aload_n 0 0 C dX6_checkRoom_0 rfl rfl ?_
  refine sg_get 1 0 0 0 C dX6_checkRoom_1 rfl rfl rfl (inA lwX6) (C.w wF_X6_10) rfl rfl rfl ?_
  refine sw_iload_n 4 1 C dX6_checkRoom_4 rfl rfl ?_
  refine sw_iload_n 5 2 C dX6_checkRoom_5 rfl rfl ?_
  refine sg_callVIP 6 [1] 2 0 C dX6_checkRoom_6 (ct_X4_hasRoomFor l hn) wK_X4_hasRoomFor wM_X6_218 wN_X4_hasRoomFor wS_X4_X4_hasRoomFor wI_X4 hd_X4_hasRoomFor rfl rfl rfl ⟨rfl, rfl⟩ ⟨Nat.le_of_ble_eq_true rfl, Nat.le_of_ble_eq_true rfl⟩ rfl rfl rfl rfl ?_
  refine sw_if_ne 9 22 C dX6_checkRoom_9 (by decide) (fun c_9 => ?_) (fun c_9 => ?_)
  · exact by first | exact absurd c_9 (fun q => q (by rw [h]; rfl)) | exact absurd (fun q => q (by rw [h]; rfl)) c_9
  exact xw_throw 12 108 222 112 C RC XT hfl dX6_checkRoom_12 dX6_checkRoom_15 dX6_checkRoom_16 dX6_checkRoom_18 dX6_checkRoom_21 (by decide +kernel) wC_X6_108 wI_IllegalStateException xat_ise xno_ise xot_ise (List.mem_of_getElem? (i := 9) rfl) rfl rfl (Nat.le_of_ble_eq_true rfl) (Nat.le_of_ble_eq_true rfl) (Nat.le_of_ble_eq_true rfl) (Nat.le_of_ble_eq_true rfl) (rfl)
set_option maxHeartbeats 4000000 in
set_option maxRecDepth 100000 in
theorem ct_X6_findRow (l : Launch) {D : va_G} {cI cJ cQ : ClassId} {x0a a0 a1 a2 a3 a4 a5 a6 a7 tr0 s0 r0 w0 : Nat} {S : StT} {x : Int32} (hn : zn S ≤ 40) (i : Nat) (h : fnd (zf S) x (zn S) = some i) : Ct l yX6_findRow (Cond.code yX6_findRow cX6_findRow 3 (some .int)) 7 120 0 0 D (tyz cI cJ cQ) [.ref x0a, .int x] (flatS [[(x0a, .inr (6, [.ref a0, .ref tr0, .ref s0, .ref r0, .ref w0]))], (wSt a0 a1 a2 a3 a4 a5 a6 a7 cI (S))]) (pstI (nI i) (flatS [[(x0a, .inr (6, [.ref a0, .ref tr0, .ref s0, .ref r0, .ref w0]))], (wSt a0 a1 a2 a3 a4 a5 a6 a7 cI (S))])) := by
  refine Ct.of RX6 (by decide) rfl (Nat.le_of_ble_eq_true rfl) ?_
  intro p e s m below meth c A C RC
  refine sw_aload_n 0 0 C dX6_findRow_0 rfl rfl ?_
  refine sg_get 1 0 0 0 C dX6_findRow_1 rfl rfl rfl (inA lwX6) (C.w wF_X6_10) rfl rfl rfl ?_
  refine sg_get 4 1 0 4 C dX6_findRow_4 rfl rfl rfl (inA lwX4) (C.w wF_X6_86) rfl rfl rfl ?_
  refine sw_iload_n 7 1 C dX6_findRow_7 rfl rfl ?_
  refine sg_callVIP 8 [1] 1 2 C dX6_findRow_8 ((ct_X2_rowOf l hn).liftIP (ws := (wSt a0 a1 a2 a3 a4 a5 a6 a7 cI (S))) [2, 3] rfl rfl rfl) wK_X2_rowOf wM_X6_156 wN_X2_rowOf wS_X2_X2_rowOf wI_X2 hd_X2_rowOf rfl rfl rfl ⟨rfl, rfl⟩ ⟨Nat.le_of_ble_eq_true rfl, Nat.le_of_ble_eq_true rfl⟩ rfl rfl rfl rfl ?_
  rw [h]
  refine sw_istore_n 11 2 C dX6_findRow_11 rfl rfl ?_
  refine sw_iload_n 12 2 C dX6_findRow_12 rfl rfl ?_
  refine sw_iconst 13 C dX6_findRow_13 (-1) (by decide) ?_
  refine sw_icmp_ne 14 27 C dX6_findRow_14 (by decide) (fun c_14 => ?_) (fun c_14 => ?_)
  rotate_left
  · exact by first | exact absurd c_14 (i32_ne_m1 (by have := fnd_lt _ _ h; omega)) | exact absurd (i32_ne_m1 (by have := fnd_lt _ _ h; omega)) c_14
  refine sw_iload_n 27 2 C dX6_findRow_27 rfl rfl ?_
  refine sw_iret 28 C RC dX6_findRow_28 ?_
  exact ⟨rfl, rfl⟩
set_option maxHeartbeats 4000000 in
set_option maxRecDepth 100000 in
theorem xt_X6_findRow (l : Launch) (hfl : l.stackTraces = false) {D : va_G} {cI cJ cQ : ClassId} {x0a a0 a1 a2 a3 a4 a5 a6 a7 tr0 s0 r0 w0 : Nat} {S : StT} {x : Int32} (hn : zn S ≤ 40) (h : fnd (zf S) x (zn S) = none) : XCt l yX6_findRow (Cond.code yX6_findRow cX6_findRow 3 (some .int)) 7 120 1 6 D (tyz cI cJ cQ) [.ref x0a, .int x] (flatS [[(x0a, .inr (6, [.ref a0, .ref tr0, .ref s0, .ref r0, .ref w0]))], (wSt a0 a1 a2 a3 a4 a5 a6 a7 cI (S))]) (fun _ _ => False) (fun E => E = "java/lang/IndexOutOfBoundsException") := by
  refine XCt.of RX6 (by decide) rfl (Nat.le_of_ble_eq_true rfl) ?_
  intro p e s m below meth c A C RC XT
  refine sw_aload_n 0 0 C dX6_findRow_0 rfl rfl ?_
  refine sg_get 1 0 0 0 C dX6_findRow_1 rfl rfl rfl (inA lwX6) (C.w wF_X6_10) rfl rfl rfl ?_
  refine sg_get 4 1 0 4 C dX6_findRow_4 rfl rfl rfl (inA lwX4) (C.w wF_X6_86) rfl rfl rfl ?_
  refine sw_iload_n 7 1 C dX6_findRow_7 rfl rfl ?_
  refine sg_callVIP 8 [1] 1 2 C dX6_findRow_8 ((ct_X2_rowOf l hn).liftIP (ws := (wSt a0 a1 a2 a3 a4 a5 a6 a7 cI (S))) [2, 3] rfl rfl rfl) wK_X2_rowOf wM_X6_156 wN_X2_rowOf wS_X2_X2_rowOf wI_X2 hd_X2_rowOf rfl rfl rfl ⟨rfl, rfl⟩ ⟨Nat.le_of_ble_eq_true rfl, Nat.le_of_ble_eq_true rfl⟩ rfl rfl rfl rfl ?_
  rw [h]
  refine sw_istore_n 11 2 C dX6_findRow_11 rfl rfl ?_
  refine sw_iload_n 12 2 C dX6_findRow_12 rfl rfl ?_
  refine sw_iconst 13 C dX6_findRow_13 (-1) (by decide) ?_
  refine sw_icmp_ne 14 27 C dX6_findRow_14 (by decide) (fun c_14 => ?_) (fun c_14 => ?_)
  · exact by first | exact absurd c_14 (fun q => q rfl) | exact absurd (fun q => q rfl) c_14
  exact xw_throw 17 40 224 44 C RC XT hfl dX6_findRow_17 dX6_findRow_20 dX6_findRow_21 dX6_findRow_23 dX6_findRow_26 (by decide +kernel) wC_X6_40 wI_IndexOutOfBoundsException xat_ioe xno_ioe xot_ioe (List.mem_of_getElem? (i := 10) rfl) rfl rfl (Nat.le_of_ble_eq_true rfl) (Nat.le_of_ble_eq_true rfl) (Nat.le_of_ble_eq_true rfl) (Nat.le_of_ble_eq_true rfl) (rfl)
