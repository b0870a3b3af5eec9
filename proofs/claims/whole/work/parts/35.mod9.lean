/-! the Model: the text is carried out -/
theorem X_eta {X : RS} (h : xe X = -1) : (X.2.1, (-1 : Int32)) = X.2 := by
  have h : X.2.2 = -1 := h
  rw [← h]
theorem adv_le {ln a b u : Nat} (h : ln ≤ a + (u + 1)) (h2 : a + 1 ≤ b) : ln ≤ b + u := by omega
theorem adv_b {ln a b : Nat} (h : ¬ ln ≤ a) (hln : ln ≤ 100) (h2 : b ≤ a + 12) : b ≤ 200 := by omega
theorem rOr_sg {by_ : Nat → Int32} {ln : Nat} {Q : Nat × Int32} (hp : Q.1 < 2 ^ 30) (h : xe (rOr by_ ln Q) = -1) : xg (rOr by_ ln Q) = 115 ∨ xg (rOr by_ ln Q) = 112 ∨ xg (rOr by_ ln Q) = 98 ∨ xg (rOr by_ ln Q) = 116 := by
  rw [rOr_g]
  by_cases q1 : txa by_ ln Q.1 = 115
  · exact Or.inl q1
  · by_cases q2 : txa by_ ln Q.1 = 112
    · exact Or.inr (Or.inl q2)
    · by_cases q3 : txa by_ ln Q.1 = 98
      · exact Or.inr (Or.inr (Or.inl q3))
      · by_cases q4 : txa by_ ln Q.1 = 116
        · exact Or.inr (Or.inr (Or.inr q4))
        · have e := rOr_x hp q1 q2 q3 q4
          have h : (rOr by_ ln Q).2.2 = -1 := h
          rw [e] at h
          exact absurd h (i32_ne_m1 (by omega))
set_option maxHeartbeats 4000000 in
set_option maxRecDepth 100000 in
theorem lp_X7_carryOutA {l : Launch} {p : Program} {e : Env} {s : State} {m : MethodId} {args : Array Value} {below : List Frame} {meth : Method} {c : Code} {A : Nat → Prop} {D : va_G} {cI cJ cQ : ClassId} {b0 b1 b2 b3 b4 b5 : Nat} {sa pa ad tx : Nat → Int32} {kp th : Int32} {hh : Int64} {by_ : Nat → Int32} {ln : Nat} (hT : tR by_ tx ln) (hln : ln ≤ 100) (PO : Option Value → va_W → Prop) (C : CC p s m args c cX7_carryOut 4 RX7 (Cond.code yX7_carryOut cX7_carryOut 4 (some .int) :: lw_all) D (tyz cI cJ cQ) A s.heap) (RC : meth.sig.returnType = (some .int) ∧ meth.locks = false ∧ meth.name = yX7_carryOut.name) (hk : ∀ (nb : Nat → Int32) (q : Nat), sw p l e ({ frames := 6, cells := 0, slots := 0, locals := 135 } : Room) s m args below meth c D A s.heap 4 0 0 (MQ below (ctQ D (tyz cI cJ cQ) A (PO)) args s 0 0 A) [(b0, .inr (7, [.ref b1, .ref b2, .ref b3, .int (kp), .int (th), .ref b4, .int (nI ln), .int (nI q), .ref b5, .long (hh)])), (b1, .inl (cI, 424, .inl (sa))), (b2, .inl (cI, 1696, .inl (pa))), (b3, .inl (cI, 424, .inl (ad))), (b4, .inl (cI, 100, .inl (tx))), (b5, .inl (cI, 4, .inl (nb)))] 35 [(0, .ref b0)] []) : ∀ (u : Nat) (X : RS) (nb : Nat → Int32), xe (fEr by_ ln u X) = -1 → ln ≤ X.2.1 + u → X.2.1 ≤ 200 → sw p l e ({ frames := 6, cells := 0, slots := 0, locals := 135 } : Room) s m args below meth c D A s.heap 4 0 0 (MQ below (ctQ D (tyz cI cJ cQ) A (PO)) args s 0 0 A) [(b0, .inr (7, [.ref b1, .ref b2, .ref b3, .int (kp), .int (th), .ref b4, .int (nI ln), .int (nI X.2.1), .ref b5, .long (hh)])), (b1, .inl (cI, 424, .inl (sa))), (b2, .inl (cI, 1696, .inl (pa))), (b3, .inl (cI, 424, .inl (ad))), (b4, .inl (cI, 100, .inl (tx))), (b5, .inl (cI, 4, .inl (nb)))] 5 [(0, .ref b0)] [] := by
  intro u
  induction u with
  | zero =>
    intro X nb hx hu hb
    refine sw_aload_n 5 0 C dX7_carryOut_5 rfl rfl ?_
    refine sw_get 6 0 7 C dX7_carryOut_6 rfl rfl (inA lwX7) (C.w wF_X7_131) rfl rfl rfl ?_
    refine sw_aload_n 9 0 C dX7_carryOut_9 rfl rfl ?_
    refine sw_get 10 0 6 C dX7_carryOut_10 rfl rfl (inA lwX7) (C.w wF_X7_128) rfl rfl rfl ?_
    refine sw_icmp_ge 13 35 C dX7_carryOut_13 (by decide) (fun c_13 => ?_) (fun c_13 => ?_)
    rotate_left
    · exact by first | exact absurd c_13 (nI_le hu (by omega)) | exact absurd (nI_le hu (by omega)) c_13
    exact hk nb X.2.1
  | succ u ih =>
    intro X nb hx hu hb
    have hX := fEr_err hx
    by_cases hp : ln ≤ X.2.1
    · refine sw_aload_n 5 0 C dX7_carryOut_5 rfl rfl ?_
      refine sw_get 6 0 7 C dX7_carryOut_6 rfl rfl (inA lwX7) (C.w wF_X7_131) rfl rfl rfl ?_
      refine sw_aload_n 9 0 C dX7_carryOut_9 rfl rfl ?_
      refine sw_get 10 0 6 C dX7_carryOut_10 rfl rfl (inA lwX7) (C.w wF_X7_128) rfl rfl rfl ?_
      refine sw_icmp_ge 13 35 C dX7_carryOut_13 (by decide) (fun c_13 => ?_) (fun c_13 => ?_)
      rotate_left
      · exact by first | exact absurd c_13 (nI_le hp (by omega)) | exact absurd (nI_le hp (by omega)) c_13
      exact hk nb X.2.1
    · obtain ⟨h1, h2⟩ := fEr_sub hx (Nat.lt_of_not_le hp)
      refine sw_aload_n 5 0 C dX7_carryOut_5 rfl rfl ?_
      refine sw_get 6 0 7 C dX7_carryOut_6 rfl rfl (inA lwX7) (C.w wF_X7_131) rfl rfl rfl ?_
      refine sw_aload_n 9 0 C dX7_carryOut_9 rfl rfl ?_
      refine sw_get 10 0 6 C dX7_carryOut_10 rfl rfl (inA lwX7) (C.w wF_X7_128) rfl rfl rfl ?_
      refine sw_icmp_ge 13 35 C dX7_carryOut_13 (by decide) (fun c_13 => ?_) (fun c_13 => ?_)
      · exact by first | exact absurd c_13 (nI_ge (Nat.lt_of_not_le hp) (by omega)) | exact absurd (nI_ge (Nat.lt_of_not_le hp) (by omega)) c_13
      refine sw_aload_n 16 0 C dX7_carryOut_16 rfl rfl ?_
      refine sw_callVE 17 [0, 1, 2, 3, 4, 5] 0 C dX7_carryOut_17 (ct_X7_takesOrder l hT hln X.2.1 (Nat.lt_of_not_le hp)) wK_X7_takesOrder wM_X7_146 wN_X7_takesOrder wS_X7_X7_takesOrder wI_X7 hd_X7_takesOrder rfl rfl rfl ⟨rfl, rfl⟩ ⟨Nat.le_of_ble_eq_true rfl, Nat.le_of_ble_eq_true rfl⟩ rfl rfl rfl (fun _ => rfl) rfl (fun f1 g1 => ?_)
      refine sw_ws [(_, .inr (7, [.ref _, .ref _, .ref _, .int _, .int _, .ref _, .int _, .int _, .ref _, .long _])), (_, .inl (_, _, .inl _)), (_, .inl (_, _, .inl _)), (_, .inl (_, _, .inl _)), (_, .inl (_, _, .inl _)), (_, .inl (_, _, .inl _))] rfl ?_
      rw [X_eta hX] at g1 ⊢
      refine sw_if_ne 20 5 C dX7_carryOut_20 (by decide) (fun c_20 => ?_) (fun c_20 => ?_)
      rotate_left
      · exact by first | exact absurd c_20 (by rw [decide_eq_true (show (rOr by_ ln X.2).2.2 = -1 from h1)]; decide) | exact absurd (by rw [decide_eq_true (show (rOr by_ ln X.2).2.2 = -1 from h1)]; decide) c_20
      rw [mat_ok (P := (rOr by_ ln X.2).2) h1]
      exact ih (rOr by_ ln X.2) f1 h2 (adv_le hu (rOr_ge by_ ln X.2)) (adv_b hp hln (rOr_le by_ ln X.2))
set_option maxHeartbeats 4000000 in
set_option maxRecDepth 100000 in
theorem lp_X7_carryOutF {l : Launch} {p : Program} {e : Env} {s : State} {m : MethodId} {args : Array Value} {below : List Frame} {meth : Method} {c : Code} {A : Nat → Prop} {D : va_G} {cI cJ cQ : ClassId} {b0 b1 b2 b3 b4 b5 : Nat} {sa pa ad tx : Nat → Int32} {kp th : Int32} {hh : Int64} {by_ : Nat → Int32} {ln : Nat} (hT : tR by_ tx ln) (hln : ln ≤ 100) {Z : Int32} (C : CC p s m args c cX7_carryOut 4 RX7 (Cond.code yX7_carryOut cX7_carryOut 4 (some .int) :: lw_all) D (tyz cI cJ cQ) A s.heap) (RC : meth.sig.returnType = (some .int) ∧ meth.locks = false ∧ meth.name = yX7_carryOut.name) : ∀ (u : Nat) (X : RS) (nb : Nat → Int32), xe X = -1 → ¬ Z = -1 → xe (fEr by_ ln u X) = Z → ln ≤ X.2.1 + u → X.2.1 ≤ 200 → sw p l e ({ frames := 6, cells := 0, slots := 0, locals := 135 } : Room) s m args below meth c D A s.heap 4 0 0 (MQ below (ctQ D (tyz cI cJ cQ) A (pstE (-10 - Z) (fun _ : (Nat → Int32) × Int32 => True) (fun f => [(b0, .inr (7, [.ref b1, .ref b2, .ref b3, .int (kp), .int (0), .ref b4, .int (nI ln), .int (f.2), .ref b5, .long (hh)])), (b1, .inl (cI, 424, .inl (sa))), (b2, .inl (cI, 1696, .inl (pa))), (b3, .inl (cI, 424, .inl (ad))), (b4, .inl (cI, 100, .inl (tx))), (b5, .inl (cI, 4, .inl (f.1)))]))) args s 0 0 A) [(b0, .inr (7, [.ref b1, .ref b2, .ref b3, .int (kp), .int (th), .ref b4, .int (nI ln), .int (nI X.2.1), .ref b5, .long (hh)])), (b1, .inl (cI, 424, .inl (sa))), (b2, .inl (cI, 1696, .inl (pa))), (b3, .inl (cI, 424, .inl (ad))), (b4, .inl (cI, 100, .inl (tx))), (b5, .inl (cI, 4, .inl (nb)))] 5 [(0, .ref b0)] [] := by
  intro u
  induction u with
  | zero => intro X nb hX hz hx; exact absurd (hx.symm.trans hX) hz
  | succ u ih =>
    intro X nb hX hz hx hu hb
    by_cases hp : ln ≤ X.2.1
    · rw [fEr_stop (fun q => absurd q.2 (Nat.not_lt.mpr hp))] at hx
      exact absurd (hx.symm.trans hX) hz
    rw [fEr_go hX (Nat.lt_of_not_le hp)] at hx
    refine sw_aload_n 5 0 C dX7_carryOut_5 rfl rfl ?_
    refine sw_get 6 0 7 C dX7_carryOut_6 rfl rfl (inA lwX7) (C.w wF_X7_131) rfl rfl rfl ?_
    refine sw_aload_n 9 0 C dX7_carryOut_9 rfl rfl ?_
    refine sw_get 10 0 6 C dX7_carryOut_10 rfl rfl (inA lwX7) (C.w wF_X7_128) rfl rfl rfl ?_
    refine sw_icmp_ge 13 35 C dX7_carryOut_13 (by decide) (fun c_13 => ?_) (fun c_13 => ?_)
    · exact by first | exact absurd c_13 (nI_ge (Nat.lt_of_not_le hp) (by omega)) | exact absurd (nI_ge (Nat.lt_of_not_le hp) (by omega)) c_13
    refine sw_aload_n 16 0 C dX7_carryOut_16 rfl rfl ?_
    refine sw_callVE 17 [0, 1, 2, 3, 4, 5] 0 C dX7_carryOut_17 (ct_X7_takesOrder l hT hln X.2.1 (Nat.lt_of_not_le hp)) wK_X7_takesOrder wM_X7_146 wN_X7_takesOrder wS_X7_X7_takesOrder wI_X7 hd_X7_takesOrder rfl rfl rfl ⟨rfl, rfl⟩ ⟨Nat.le_of_ble_eq_true rfl, Nat.le_of_ble_eq_true rfl⟩ rfl rfl rfl (fun _ => rfl) rfl (fun f1 g1 => ?_)
    refine sw_ws [(_, .inr (7, [.ref _, .ref _, .ref _, .int _, .int _, .ref _, .int _, .int _, .ref _, .long _])), (_, .inl (_, _, .inl _)), (_, .inl (_, _, .inl _)), (_, .inl (_, _, .inl _)), (_, .inl (_, _, .inl _)), (_, .inl (_, _, .inl _))] rfl ?_
    rw [X_eta hX] at g1 ⊢
    refine sw_if_ne 20 5 C dX7_carryOut_20 (by decide) (fun c_20 => ?_) (fun c_20 => ?_)
    · have h1 : xe (rOr by_ ln X.2) = -1 := of_decide_eq_true (bI_t c_20)
      rw [mat_ok (P := (rOr by_ ln X.2).2) h1]
      exact ih (rOr by_ ln X.2) f1 h1 hz hx (adv_le hu (rOr_ge by_ ln X.2)) (adv_b hp hln (rOr_le by_ ln X.2))
    · have h1 : ¬ xe (rOr by_ ln X.2) = -1 := of_decide_eq_false (bI_f c_20)
      rw [fEr_stop (fun q => h1 q.1)] at hx
      rw [mat_no (P := (rOr by_ ln X.2).2) h1]
      refine sw_aload_n 23 0 C dX7_carryOut_23 rfl rfl ?_
      refine sw_bipush 24 C dX7_carryOut_24 (-10) (by decide) ?_
      refine sw_aload_n 26 0 C dX7_carryOut_26 rfl rfl ?_
      refine sw_get 27 0 7 C dX7_carryOut_27 rfl rfl (inA lwX7) (C.w wF_X7_131) rfl rfl rfl ?_
      refine sw_isub 30 C dX7_carryOut_30 ?_
      refine sw_callVI 31 [0, 1, 2, 3, 4, 5] 1 C dX7_carryOut_31 (ct_X7_tells l) wK_X7_tells wM_X7_70 wN_X7_tells wS_X7_X7_tells wI_X7 hd_X7_tells rfl rfl rfl ⟨rfl, rfl⟩ ⟨Nat.le_of_ble_eq_true rfl, Nat.le_of_ble_eq_true rfl⟩ rfl rfl rfl rfl rfl ?_
      refine sw_ws [(_, .inr (7, [.ref _, .ref _, .ref _, .int _, .int _, .ref _, .int _, .int _, .ref _, .long _])), (_, .inl (_, _, .inl _)), (_, .inl (_, _, .inl _)), (_, .inl (_, _, .inl _)), (_, .inl (_, _, .inl _)), (_, .inl (_, _, .inl _))] rfl ?_
      refine sw_iret 34 C RC dX7_carryOut_34 ?_
      exact ⟨by rw [← hx], (_, _), trivial, rfl⟩
set_option maxHeartbeats 4000000 in
set_option maxRecDepth 100000 in
theorem lp_X7_carryOutE {l : Launch} {p : Program} {e : Env} {s : State} {m : MethodId} {args : Array Value} {below : List Frame} {meth : Method} {c : Code} {A : Nat → Prop} {D : va_G} {cI cJ cQ : ClassId} {b0 b1 b2 b3 b4 b5 : Nat} {sa pa ad tx nb : Nat → Int32} {kp th ap : Int32} {hh : Int64} {ln : Nat} {F : (Nat → Int32) → Prop} {S1 : StT} {r : Int32} (C : CC p s m args c cX7_carryOut 4 RX7 (Cond.code yX7_carryOut cX7_carryOut 4 (some .int) :: lw_all) D (tyz cI cJ cQ) A s.heap) (RC : meth.sig.returnType = (some .int) ∧ meth.locks = false ∧ meth.name = yX7_carryOut.name) (hF : F pa) (hE : mE S1 sa) : sw p l e ({ frames := 6, cells := 0, slots := 0, locals := 135 } : Room) s m args below meth c D A s.heap 4 0 0 (MQ below (ctQ D (tyz cI cJ cQ) A (pstE (r) (fun f : (Nat → Int32) × (Nat → Int32) × (Nat → Int32) × Int32 => mE (S1) f.1 ∧ F f.2.1) (fun f => [(b0, .inr (7, [.ref b1, .ref b2, .ref b3, .int (kp), .int (0), .ref b4, .int (nI ln), .int (f.2.2.2), .ref b5, .long (hh)])), (b1, .inl (cI, 424, .inl (f.1))), (b2, .inl (cI, 1696, .inl (f.2.1))), (b3, .inl (cI, 424, .inl (ad))), (b4, .inl (cI, 100, .inl (tx))), (b5, .inl (cI, 4, .inl (f.2.2.1)))]))) args s 0 0 A) [(b0, .inr (7, [.ref b1, .ref b2, .ref b3, .int (kp), .int (th), .ref b4, .int (nI ln), .int (ap), .ref b5, .long (hh)])), (b1, .inl (cI, 424, .inl (sa))), (b2, .inl (cI, 1696, .inl (pa))), (b3, .inl (cI, 424, .inl (ad))), (b4, .inl (cI, 100, .inl (tx))), (b5, .inl (cI, 4, .inl (nb)))] 48 [(0, .ref b0), (1, .int (r)), (2, .int 0)] [] := by
  refine sw_iload_n 48 2 C dX7_carryOut_48 rfl rfl ?_
  refine sw_if_eq 49 109 C dX7_carryOut_49 (by decide) (fun c_49 => ?_) (fun c_49 => ?_)
  rotate_left
  · exact by first | exact absurd c_49 (rfl) | exact absurd (rfl) c_49
  refine sw_aload_n 109 0 C dX7_carryOut_109 rfl rfl ?_
  refine sw_iload_n 110 1 C dX7_carryOut_110 rfl rfl ?_
  refine sw_callVI 111 [0, 1, 2, 3, 4, 5] 1 C dX7_carryOut_111 (ct_X7_tells l) wK_X7_tells wM_X7_70 wN_X7_tells wS_X7_X7_tells wI_X7 hd_X7_tells rfl rfl rfl ⟨rfl, rfl⟩ ⟨Nat.le_of_ble_eq_true rfl, Nat.le_of_ble_eq_true rfl⟩ rfl rfl rfl rfl rfl ?_
  refine sw_ws [(_, .inr (7, [.ref _, .ref _, .ref _, .int _, .int _, .ref _, .int _, .int _, .ref _, .long _])), (_, .inl (_, _, .inl _)), (_, .inl (_, _, .inl _)), (_, .inl (_, _, .inl _)), (_, .inl (_, _, .inl _)), (_, .inl (_, _, .inl _))] rfl ?_
  refine sw_iret 114 C RC dX7_carryOut_114 ?_
  exact ⟨rfl, (sa, pa, nb, ap), ⟨hE, hF⟩, rfl⟩
theorem adv_i {i u : Nat} (h : i + (u + 1) = 100) : i + 1 + u = 100 := by omega
set_option maxHeartbeats 4000000 in
set_option maxRecDepth 100000 in
theorem lp_X7_carryOutB {l : Launch} {p : Program} {e : Env} {s : State} {m : MethodId} {args : Array Value} {below : List Frame} {meth : Method} {c : Code} {A : Nat → Prop} {D : va_G} {cI cJ cQ : ClassId} {b0 b1 b2 b3 b4 b5 : Nat} {pa ad tx : Nat → Int32} {kp th : Int32} {hh : Int64} {by_ : Nat → Int32} {ln : Nat} (hT : tR by_ tx ln) (hln : ln ≤ 100) {F : (Nat → Int32) → Prop} {B : Nat} (hB : B < 2 ^ 29) (C : CC p s m args c cX7_carryOut 4 RX7 (Cond.code yX7_carryOut cX7_carryOut 4 (some .int) :: lw_all) D (tyz cI cJ cQ) A s.heap) (RC : meth.sig.returnType = (some .int) ∧ meth.locks = false ∧ meth.name = yX7_carryOut.name) (hF : F pa) (Z : Int32 × StT × RS) : ∀ (u i : Nat) (X : RS) (S : StT) (sa nb : Nat → Int32), xe (fEr by_ ln u X) = -1 → mO (B + i) 100000 S → mE S sa → ln ≤ X.2.1 + u → X.2.1 ≤ 200 → i + u = 100 → cru by_ ln u i X S = Z → sw p l e ({ frames := 6, cells := 0, slots := 0, locals := 135 } : Room) s m args below meth c D A s.heap 4 0 0 (MQ below (ctQ D (tyz cI cJ cQ) A (pstE (Z.1) (fun f : (Nat → Int32) × (Nat → Int32) × (Nat → Int32) × Int32 => mE (Z.2.1) f.1 ∧ F f.2.1) (fun f => [(b0, .inr (7, [.ref b1, .ref b2, .ref b3, .int (kp), .int (0), .ref b4, .int (nI ln), .int (f.2.2.2), .ref b5, .long (hh)])), (b1, .inl (cI, 424, .inl (f.1))), (b2, .inl (cI, 1696, .inl (f.2.1))), (b3, .inl (cI, 424, .inl (ad))), (b4, .inl (cI, 100, .inl (tx))), (b5, .inl (cI, 4, .inl (f.2.2.1)))]))) args s 0 0 A) [(b0, .inr (7, [.ref b1, .ref b2, .ref b3, .int (kp), .int (th), .ref b4, .int (nI ln), .int (nI X.2.1), .ref b5, .long (hh)])), (b1, .inl (cI, 424, .inl (sa))), (b2, .inl (cI, 1696, .inl (pa))), (b3, .inl (cI, 424, .inl (ad))), (b4, .inl (cI, 100, .inl (tx))), (b5, .inl (cI, 4, .inl (nb)))] 48 [(0, .ref b0), (1, .int (nI i)), (2, .int 1)] [] := by
  intro u
  induction u with
  | zero =>
    intro i X S sa nb hx hO hE hu hb hi hz
    have hp : ln ≤ X.2.1 := hu
    obtain rfl : Z = (nI i, S, X) := hz.symm.trans (cru_end hp)
    refine sw_iload_n 48 2 C dX7_carryOut_48 rfl rfl ?_
    refine sw_if_eq 49 109 C dX7_carryOut_49 (by decide) (fun c_49 => ?_) (fun c_49 => ?_)
    · exact by first | exact absurd c_49 (by decide) | exact absurd (by decide) c_49
    refine sw_aload_n 52 0 C dX7_carryOut_52 rfl rfl ?_
    refine sw_get 53 0 7 C dX7_carryOut_53 rfl rfl (inA lwX7) (C.w wF_X7_131) rfl rfl rfl ?_
    refine sw_aload_n 56 0 C dX7_carryOut_56 rfl rfl ?_
    refine sw_get 57 0 6 C dX7_carryOut_57 rfl rfl (inA lwX7) (C.w wF_X7_128) rfl rfl rfl ?_
    refine sw_icmp_ge 60 109 C dX7_carryOut_60 (by decide) (fun c_60 => ?_) (fun c_60 => ?_)
    rotate_left
    · exact by first | exact absurd c_60 (nI_le hp (by omega)) | exact absurd (nI_le hp (by omega)) c_60
    refine sw_aload_n 109 0 C dX7_carryOut_109 rfl rfl ?_
    refine sw_iload_n 110 1 C dX7_carryOut_110 rfl rfl ?_
    refine sw_callVI 111 [0, 1, 2, 3, 4, 5] 1 C dX7_carryOut_111 (ct_X7_tells l) wK_X7_tells wM_X7_70 wN_X7_tells wS_X7_X7_tells wI_X7 hd_X7_tells rfl rfl rfl ⟨rfl, rfl⟩ ⟨Nat.le_of_ble_eq_true rfl, Nat.le_of_ble_eq_true rfl⟩ rfl rfl rfl rfl rfl ?_
    refine sw_ws [(_, .inr (7, [.ref _, .ref _, .ref _, .int _, .int _, .ref _, .int _, .int _, .ref _, .long _])), (_, .inl (_, _, .inl _)), (_, .inl (_, _, .inl _)), (_, .inl (_, _, .inl _)), (_, .inl (_, _, .inl _)), (_, .inl (_, _, .inl _))] rfl ?_
    refine sw_iret 114 C RC dX7_carryOut_114 ?_
    exact ⟨rfl, (sa, pa, nb, nI X.2.1), ⟨hE, hF⟩, rfl⟩
  | succ u ih =>
    intro i X S sa nb hx hO hE hu hb hi hz
    have hX := fEr_err hx
    by_cases hp : ln ≤ X.2.1
    · obtain rfl : Z = (nI i, S, X) := hz.symm.trans (cru_end hp)
      refine sw_iload_n 48 2 C dX7_carryOut_48 rfl rfl ?_
      refine sw_if_eq 49 109 C dX7_carryOut_49 (by decide) (fun c_49 => ?_) (fun c_49 => ?_)
      · exact by first | exact absurd c_49 (by decide) | exact absurd (by decide) c_49
      refine sw_aload_n 52 0 C dX7_carryOut_52 rfl rfl ?_
      refine sw_get 53 0 7 C dX7_carryOut_53 rfl rfl (inA lwX7) (C.w wF_X7_131) rfl rfl rfl ?_
      refine sw_aload_n 56 0 C dX7_carryOut_56 rfl rfl ?_
      refine sw_get 57 0 6 C dX7_carryOut_57 rfl rfl (inA lwX7) (C.w wF_X7_128) rfl rfl rfl ?_
      refine sw_icmp_ge 60 109 C dX7_carryOut_60 (by decide) (fun c_60 => ?_) (fun c_60 => ?_)
      rotate_left
      · exact by first | exact absurd c_60 (nI_le hp (by omega)) | exact absurd (nI_le hp (by omega)) c_60
      refine sw_aload_n 109 0 C dX7_carryOut_109 rfl rfl ?_
      refine sw_iload_n 110 1 C dX7_carryOut_110 rfl rfl ?_
      refine sw_callVI 111 [0, 1, 2, 3, 4, 5] 1 C dX7_carryOut_111 (ct_X7_tells l) wK_X7_tells wM_X7_70 wN_X7_tells wS_X7_X7_tells wI_X7 hd_X7_tells rfl rfl rfl ⟨rfl, rfl⟩ ⟨Nat.le_of_ble_eq_true rfl, Nat.le_of_ble_eq_true rfl⟩ rfl rfl rfl rfl rfl ?_
      refine sw_ws [(_, .inr (7, [.ref _, .ref _, .ref _, .int _, .int _, .ref _, .int _, .int _, .ref _, .long _])), (_, .inl (_, _, .inl _)), (_, .inl (_, _, .inl _)), (_, .inl (_, _, .inl _)), (_, .inl (_, _, .inl _)), (_, .inl (_, _, .inl _))] rfl ?_
      refine sw_iret 114 C RC dX7_carryOut_114 ?_
      exact ⟨rfl, (sa, pa, nb, nI X.2.1), ⟨hE, hF⟩, rfl⟩
    obtain ⟨h1, h2⟩ := fEr_sub hx (Nat.lt_of_not_le hp)
    have hlt : X.2.1 < ln := Nat.lt_of_not_le hp
    have hok := rOr_ok (tx := tx) (show X.2.1 < 1000 by omega) h1
    have hBi : B + i < 2 ^ 30 := by omega
    refine sw_iload_n 48 2 C dX7_carryOut_48 rfl rfl ?_
    refine sw_if_eq 49 109 C dX7_carryOut_49 (by decide) (fun c_49 => ?_) (fun c_49 => ?_)
    · exact by first | exact absurd c_49 (by decide) | exact absurd (by decide) c_49
    refine sw_aload_n 52 0 C dX7_carryOut_52 rfl rfl ?_
    refine sw_get 53 0 7 C dX7_carryOut_53 rfl rfl (inA lwX7) (C.w wF_X7_131) rfl rfl rfl ?_
    refine sw_aload_n 56 0 C dX7_carryOut_56 rfl rfl ?_
    refine sw_get 57 0 6 C dX7_carryOut_57 rfl rfl (inA lwX7) (C.w wF_X7_128) rfl rfl rfl ?_
    refine sw_icmp_ge 60 109 C dX7_carryOut_60 (by decide) (fun c_60 => ?_) (fun c_60 => ?_)
    · exact by first | exact absurd c_60 (nI_ge hlt (by omega)) | exact absurd (nI_ge hlt (by omega)) c_60
    refine sw_aload_n 63 0 C dX7_carryOut_63 rfl rfl ?_
    refine sw_get 64 0 5 C dX7_carryOut_64 rfl rfl (inA lwX7) (C.w wF_X7_19) rfl rfl rfl ?_
    refine sw_aload_n 67 0 C dX7_carryOut_67 rfl rfl ?_
    refine sw_get 68 0 7 C dX7_carryOut_68 rfl rfl (inA lwX7) (C.w wF_X7_131) rfl rfl rfl ?_
    refine sw_ialdN 71 4 0 (X.2.1) C dX7_carryOut_71 rfl (Nat.lt_of_lt_of_le hlt hln) rfl rfl rfl ?_
    refine sw_top (txa_in hT hlt) ?_
    refine sw_istore_n 72 3 C dX7_carryOut_72 rfl rfl ?_
    refine sw_aload_n 73 0 C dX7_carryOut_73 rfl rfl ?_
    refine sw_callVE 74 [0, 1, 2, 3, 4, 5] 0 C dX7_carryOut_74 (ct_X7_takesOrder l hT hln X.2.1 hlt) wK_X7_takesOrder wM_X7_146 wN_X7_takesOrder wS_X7_X7_takesOrder wI_X7 hd_X7_takesOrder rfl rfl rfl ⟨rfl, rfl⟩ ⟨Nat.le_of_ble_eq_true rfl, Nat.le_of_ble_eq_true rfl⟩ rfl rfl rfl (fun _ => rfl) rfl (fun f1 g1 => ?_)
    refine sw_ws [(_, .inr (7, [.ref _, .ref _, .ref _, .int _, .int _, .ref _, .int _, .int _, .ref _, .long _])), (_, .inl (_, _, .inl _)), (_, .inl (_, _, .inl _)), (_, .inl (_, _, .inl _)), (_, .inl (_, _, .inl _)), (_, .inl (_, _, .inl _))] rfl ?_
    rw [X_eta hX] at g1 ⊢
    refine sw_if_eq 77 92 C dX7_carryOut_77 (by decide) (fun c_77 => ?_) (fun c_77 => ?_)
    · exact by first | exact absurd c_77 (by rw [decide_eq_true (show (rOr by_ ln X.2).2.2 = -1 from h1)]; decide) | exact absurd (by rw [decide_eq_true (show (rOr by_ ln X.2).2.2 = -1 from h1)]; decide) c_77
    refine sw_aload_n 80 0 C dX7_carryOut_80 rfl rfl ?_
    refine sw_iload_n 81 3 C dX7_carryOut_81 rfl rfl ?_
    refine sw_top (rOr_g by_ ln X.2).symm ?_
    refine sw_callVE 82 [0, 1, 2, 3, 4, 5] 1 C dX7_carryOut_82 (ct_X7_does l hE hO hBi (X := rOr by_ ln X.2) (rOr_sg (Nat.lt_of_lt_of_le (Nat.lt_of_lt_of_le hlt hln) (by decide)) h1) (g1 h1) hok.1) wK_X7_does wM_X7_150 wN_X7_does wS_X7_X7_does wI_X7 hd_X7_does rfl rfl rfl ⟨rfl, rfl⟩ ⟨Nat.le_of_ble_eq_true rfl, Nat.le_of_ble_eq_true rfl⟩ rfl rfl rfl (fun _ => rfl) rfl (fun f2 g2 => ?_)
    refine sw_ws [(_, .inr (7, [.ref _, .ref _, .ref _, .int _, .int _, .ref _, .int _, .int _, .ref _, .long _])), (_, .inl (_, _, .inl _)), (_, .inl (_, _, .inl _)), (_, .inl (_, _, .inl _)), (_, .inl (_, _, .inl _)), (_, .inl (_, _, .inl _))] rfl ?_
    refine sw_if_eq 85 92 C dX7_carryOut_85 (by decide) (fun c_85 => ?_) (fun c_85 => ?_)
    · refine sw_iconst 92 C dX7_carryOut_92 0 (by decide) ?_
      refine sw_istore_n 93 2 C dX7_carryOut_93 rfl rfl ?_
      refine sw_iload_n 94 1 C dX7_carryOut_94 rfl rfl ?_
      refine sw_iload_n 95 2 C dX7_carryOut_95 rfl rfl ?_
      refine sw_if_eq 96 103 C dX7_carryOut_96 (by decide) (fun c_96 => ?_) (fun c_96 => ?_)
      rotate_left
      · exact by first | exact absurd c_96 (rfl) | exact absurd (rfl) c_96
      refine sw_iconst 103 C dX7_carryOut_103 0 (by decide) ?_
      refine sw_iadd 104 C dX7_carryOut_104 ?_
      refine sw_istore_n 105 1 C dX7_carryOut_105 rfl rfl ?_
      refine sw_loc (L1 := [(0, .ref _), (1, .int _), (2, .int _), (3, .int _)]) ?_ rfl
      refine sw_goto 106 48 C dX7_carryOut_106 (by decide) ?_
      obtain rfl : Z = _ := hz.symm.trans (cru_no hp (bI_f c_85))
      exact sw_loc (lp_X7_carryOutE C RC hF g2) (by rw [show nI i + 0 = nI i from Int32.add_zero _]; rfl)
    · refine sw_iconst 88 C dX7_carryOut_88 1 (by decide) ?_
      refine sw_goto 89 93 C dX7_carryOut_89 (by decide) ?_
      refine sw_istore_n 93 2 C dX7_carryOut_93 rfl rfl ?_
      refine sw_iload_n 94 1 C dX7_carryOut_94 rfl rfl ?_
      refine sw_iload_n 95 2 C dX7_carryOut_95 rfl rfl ?_
      refine sw_if_eq 96 103 C dX7_carryOut_96 (by decide) (fun c_96 => ?_) (fun c_96 => ?_)
      · exact by first | exact absurd c_96 (by decide) | exact absurd (by decide) c_96
      refine sw_iconst 99 C dX7_carryOut_99 1 (by decide) ?_
      refine sw_goto 100 104 C dX7_carryOut_100 (by decide) ?_
      refine sw_iadd 104 C dX7_carryOut_104 ?_
      refine sw_istore_n 105 1 C dX7_carryOut_105 rfl rfl ?_
      refine sw_loc (L1 := [(0, .ref _), (1, .int _), (2, .int _), (3, .int _)]) ?_ rfl
      refine sw_goto 106 48 C dX7_carryOut_106 (by decide) ?_
      have hz2 := (cru_go (i := i) hp (bI_t c_85)).symm.trans hz
      rw [mat_ok (P := (rOr by_ ln X.2).2) h1]
      exact sw_loc (ih (i + 1) (rOr by_ ln X.2) (cdo (rOr by_ ln X.2) S).2 f2 f1 h2 (mO_cdo hO hBi hok.1 hok.2) g2 (adv_le hu (rOr_ge by_ ln X.2)) (adv_b hp hln (rOr_le by_ ln X.2)) (adv_i hi) hz2) (by rw [← nI_1]; rfl)
set_option maxHeartbeats 4000000 in
set_option maxRecDepth 100000 in
theorem lp_X7_carryOutM {l : Launch} {p : Program} {e : Env} {s : State} {m : MethodId} {args : Array Value} {below : List Frame} {meth : Method} {c : Code} {A : Nat → Prop} {D : va_G} {cI cJ cQ : ClassId} {b0 b1 b2 b3 b4 b5 : Nat} {sa pa ad tx nb : Nat → Int32} {th ap : Int32} {hh : Int64} {by_ : Nat → Int32} {ln : Nat} {X : RS} {S : StT} {R : Nat → StT} {cn od B : Nat} (hE : mE S sa) (hO : mO B 100000 S) (hK : mK B 100000 R cn od pa) (hcn : cn ≤ 4) (hod : od < 4) (hB : B < 2 ^ 29) (hT : tR by_ tx ln) (hln : ln ≤ 100) (C : CC p s m args c cX7_carryOut 4 RX7 (Cond.code yX7_carryOut cX7_carryOut 4 (some .int) :: lw_all) D (tyz cI cJ cQ) A s.heap) (RC : meth.sig.returnType = (some .int) ∧ meth.locks = false ∧ meth.name = yX7_carryOut.name) (he : xe (fEr by_ ln 100 (X.1, 0, -1)) = -1) : sw p l e ({ frames := 6, cells := 0, slots := 0, locals := 135 } : Room) s m args below meth c D A s.heap 4 0 0 (MQ below (ctQ D (tyz cI cJ cQ) A (pstE (cru by_ ln 100 0 ((fEr by_ ln 100 (X.1, 0, -1)).1, 0, -1) S).1 (fun f : (Nat → Int32) × (Nat → Int32) × (Nat → Int32) × Int32 => mE (cru by_ ln 100 0 ((fEr by_ ln 100 (X.1, 0, -1)).1, 0, -1) S).2.1 f.1 ∧ mK B 100000 (va_up R (svI cn od) S) (svC cn) (svO cn od) f.2.1) (fun f => [(b0, .inr (7, [.ref b1, .ref b2, .ref b3, .int (nI (svC cn)), .int (0), .ref b4, .int (nI ln), .int (f.2.2.2), .ref b5, .long (hh)])), (b1, .inl (cI, 424, .inl (f.1))), (b2, .inl (cI, 1696, .inl (f.2.1))), (b3, .inl (cI, 424, .inl (ad))), (b4, .inl (cI, 100, .inl (tx))), (b5, .inl (cI, 4, .inl (f.2.2.1)))]))) args s 0 0 A) [(b0, .inr (7, [.ref b1, .ref b2, .ref b3, .int (nI cn), .int (th), .ref b4, .int (nI ln), .int (ap), .ref b5, .long (hh)])), (b1, .inl (cI, 424, .inl (sa))), (b2, .inl (cI, 1696, .inl (pa))), (b3, .inl (cI, 424, .inl (ad))), (b4, .inl (cI, 100, .inl (tx))), (b5, .inl (cI, 4, .inl (nb)))] 35 [(0, .ref b0)] [] := by
  refine sw_aload_n 35 0 C dX7_carryOut_35 rfl rfl ?_
  refine sw_callVV 36 [0, 1, 2, 3, 4, 5] 0 C dX7_carryOut_36 (ct_X7_keeps l hcn) wK_X7_keeps wM_X7_67 wN_X7_keeps wS_X7_X7_keeps wI_X7 hd_X7_keeps rfl rfl rfl ⟨rfl, rfl⟩ ⟨Nat.le_of_ble_eq_true rfl, Nat.le_of_ble_eq_true rfl⟩ rfl rfl rfl rfl rfl ?_
  refine sw_ws [(_, .inr (7, [.ref _, .ref _, .ref _, .int _, .int _, .ref _, .int _, .int _, .ref _, .long _])), (_, .inl (_, _, .inl _)), (_, .inl (_, _, .inl _)), (_, .inl (_, _, .inl _)), (_, .inl (_, _, .inl _)), (_, .inl (_, _, .inl _))] rfl ?_
  refine sw_aload_n 39 0 C dX7_carryOut_39 rfl rfl ?_
  refine sw_iconst 40 C dX7_carryOut_40 0 (by decide) ?_
  refine sw_top (show (0 : Int32) = nI 0 from rfl) ?_
  refine sw_put 41 0 7 tyX7 C dX7_carryOut_41 rfl rfl (inA lwX7) tyX7_ok nmX7 (C.w wF_X7_131) rfl rfl rfl rfl rfl rfl rfl ?_
  refine sw_ws [(_, .inr (7, [.ref _, .ref _, .ref _, .int _, .int _, .ref _, .int _, .int _, .ref _, .long _])), (_, .inl (_, _, .inl _)), (_, .inl (_, _, .inl _)), (_, .inl (_, _, .inl _)), (_, .inl (_, _, .inl _)), (_, .inl (_, _, .inl _))] rfl ?_
  refine sw_iconst 44 C dX7_carryOut_44 0 (by decide) ?_
  refine sw_istore_n 45 1 C dX7_carryOut_45 rfl rfl ?_
  refine sw_iconst 46 C dX7_carryOut_46 1 (by decide) ?_
  refine sw_istore_n 47 2 C dX7_carryOut_47 rfl rfl ?_
  exact sw_loc (lp_X7_carryOutB (F := (fun pa => mK B 100000 (va_up R (svI cn od) S) (svC cn) (svO cn od) pa)) hT hln hB C RC (mK_add hK hcn hod hE hO) (cru by_ ln 100 0 ((fEr by_ ln 100 (X.1, 0, -1)).1, 0, -1) S) 100 0 ((fEr by_ ln 100 (X.1, 0, -1)).1, 0, -1) S sa nb ((fEr_fst (X := ((fEr by_ ln 100 (X.1, 0, -1)).1, 0, -1)) (Y := (X.1, 0, -1)) 100 rfl).trans he) hO hE (by show ln ≤ 0 + 100; omega) (Nat.zero_le _) rfl rfl) rfl
set_option maxHeartbeats 4000000 in
set_option maxRecDepth 100000 in
theorem ct_X7_carryOut (l : Launch) {D : va_G} {cI cJ cQ : ClassId} {b0 b1 b2 b3 b4 b5 : Nat} {sa pa ad tx nb : Nat → Int32} {th ap : Int32} {hh : Int64} {by_ : Nat → Int32} {ln : Nat} {X : RS} {S : StT} {R : Nat → StT} {cn od B : Nat} (hE : mE S sa) (hO : mO B 100000 S) (hK : mK B 100000 R cn od pa) (hcn : cn ≤ 4) (hod : od < 4) (hB : B < 2 ^ 29) (hT : tR by_ tx ln) (hln : ln ≤ 100) (he : xe (fEr by_ ln 100 (X.1, 0, -1)) = -1) : Ct l yX7_carryOut (Cond.code yX7_carryOut cX7_carryOut 4 (some .int)) 6 135 0 0 D (tyz cI cJ cQ) [.ref b0] [(b0, .inr (7, [.ref b1, .ref b2, .ref b3, .int (nI cn), .int (th), .ref b4, .int (nI ln), .int (ap), .ref b5, .long (hh)])), (b1, .inl (cI, 424, .inl (sa))), (b2, .inl (cI, 1696, .inl (pa))), (b3, .inl (cI, 424, .inl (ad))), (b4, .inl (cI, 100, .inl (tx))), (b5, .inl (cI, 4, .inl (nb)))] (pstE (cru by_ ln 100 0 ((fEr by_ ln 100 (X.1, 0, -1)).1, 0, -1) S).1 (fun f : (Nat → Int32) × (Nat → Int32) × (Nat → Int32) × Int32 => mE (cru by_ ln 100 0 ((fEr by_ ln 100 (X.1, 0, -1)).1, 0, -1) S).2.1 f.1 ∧ mK B 100000 (va_up R (svI cn od) S) (svC cn) (svO cn od) f.2.1) (fun f => [(b0, .inr (7, [.ref b1, .ref b2, .ref b3, .int (nI (svC cn)), .int (0), .ref b4, .int (nI ln), .int (f.2.2.2), .ref b5, .long (hh)])), (b1, .inl (cI, 424, .inl (f.1))), (b2, .inl (cI, 1696, .inl (f.2.1))), (b3, .inl (cI, 424, .inl (ad))), (b4, .inl (cI, 100, .inl (tx))), (b5, .inl (cI, 4, .inl (f.2.2.1)))])) := by
  refine Ct.of RX7 (by decide) rfl (Nat.le_of_ble_eq_true rfl) ?_
  intro p e s m below meth c A C RC
  refine sw_aload_n 0 0 C dX7_carryOut_0 rfl rfl ?_
  refine sw_iconst 1 C dX7_carryOut_1 0 (by decide) ?_
  refine sw_top (show (0 : Int32) = nI 0 from rfl) ?_
  refine sw_put 2 0 7 tyX7 C dX7_carryOut_2 rfl rfl (inA lwX7) tyX7_ok nmX7 (C.w wF_X7_131) rfl rfl rfl rfl rfl rfl rfl ?_
  refine sw_ws [(_, .inr (7, [.ref _, .ref _, .ref _, .int _, .int _, .ref _, .int _, .int _, .ref _, .long _])), (_, .inl (_, _, .inl _)), (_, .inl (_, _, .inl _)), (_, .inl (_, _, .inl _)), (_, .inl (_, _, .inl _)), (_, .inl (_, _, .inl _))] rfl ?_
  exact sw_loc (lp_X7_carryOutA hT hln _ C RC (fun nb q => lp_X7_carryOutM (X := X) hE hO hK hcn hod hB hT hln C RC he) 100 (X.1, 0, -1) nb he (by show ln ≤ 0 + 100; omega) (Nat.zero_le _)) rfl
set_option maxHeartbeats 4000000 in
set_option maxRecDepth 100000 in
theorem ct_X7_carryOut_2 (l : Launch) {D : va_G} {cI cJ cQ : ClassId} {b0 b1 b2 b3 b4 b5 : Nat} {sa pa ad tx nb : Nat → Int32} {kp th ap : Int32} {hh : Int64} {by_ : Nat → Int32} {ln : Nat} {X : RS} (hT : tR by_ tx ln) (hln : ln ≤ 100) (he : ¬ xe (fEr by_ ln 100 (X.1, 0, -1)) = -1) : Ct l yX7_carryOut (Cond.code yX7_carryOut cX7_carryOut 4 (some .int)) 6 135 0 0 D (tyz cI cJ cQ) [.ref b0] [(b0, .inr (7, [.ref b1, .ref b2, .ref b3, .int (kp), .int (th), .ref b4, .int (nI ln), .int (ap), .ref b5, .long (hh)])), (b1, .inl (cI, 424, .inl (sa))), (b2, .inl (cI, 1696, .inl (pa))), (b3, .inl (cI, 424, .inl (ad))), (b4, .inl (cI, 100, .inl (tx))), (b5, .inl (cI, 4, .inl (nb)))] (pstE (-10 - xe (fEr by_ ln 100 (X.1, 0, -1))) (fun _ : (Nat → Int32) × Int32 => True) (fun f => [(b0, .inr (7, [.ref b1, .ref b2, .ref b3, .int (kp), .int (0), .ref b4, .int (nI ln), .int (f.2), .ref b5, .long (hh)])), (b1, .inl (cI, 424, .inl (sa))), (b2, .inl (cI, 1696, .inl (pa))), (b3, .inl (cI, 424, .inl (ad))), (b4, .inl (cI, 100, .inl (tx))), (b5, .inl (cI, 4, .inl (f.1)))])) := by
  refine Ct.of RX7 (by decide) rfl (Nat.le_of_ble_eq_true rfl) ?_
  intro p e s m below meth c A C RC
  refine sw_aload_n 0 0 C dX7_carryOut_0 rfl rfl ?_
  refine sw_iconst 1 C dX7_carryOut_1 0 (by decide) ?_
  refine sw_top (show (0 : Int32) = nI 0 from rfl) ?_
  refine sw_put 2 0 7 tyX7 C dX7_carryOut_2 rfl rfl (inA lwX7) tyX7_ok nmX7 (C.w wF_X7_131) rfl rfl rfl rfl rfl rfl rfl ?_
  refine sw_ws [(_, .inr (7, [.ref _, .ref _, .ref _, .int _, .int _, .ref _, .int _, .int _, .ref _, .long _])), (_, .inl (_, _, .inl _)), (_, .inl (_, _, .inl _)), (_, .inl (_, _, .inl _)), (_, .inl (_, _, .inl _)), (_, .inl (_, _, .inl _))] rfl ?_
  exact sw_loc (lp_X7_carryOutF hT hln C RC 100 (X.1, 0, -1) nb rfl he rfl (by show ln ≤ 0 + 100; omega) (Nat.zero_le _)) rfl
theorem dgL_flat {f : Nat → Int32} {h : Int64} : ∀ n, dgL f h n = dgF f h (n * 5)
  | 0 => rfl
  | n + 1 => by
    have e : ∀ w, dgI f (n * 5) (dgL f h n) w = dgF f h (n * 5 + w) := by
      intro w
      induction w with
      | zero => exact dgL_flat n
      | succ w ih =>
        show 31 * dgI f (n * 5) (dgL f h n) w + (f (n * 5 + w)).toInt64 = _
        rw [ih]
        rfl
    show dgI f (n * 5) (dgL f h n) 5 = _
    rw [e 5, show (n + 1) * 5 = n * 5 + 5 by omega]
set_option maxHeartbeats 4000000 in
set_option maxRecDepth 100000 in
theorem lp_X7_digestA {l : Launch} {p : Program} {e : Env} {s : State} {m : MethodId} {args : Array Value} {below : List Frame} {meth : Method} {c : Code} {A : Nat → Prop} {D : va_G} {cI cJ cQ : ClassId} {b0 b1 b2 b3 b4 b5 : Nat} {sa pa ad tx nb : Nat → Int32} {kp ty ap : Int32} {S : StT} {B T : Nat} (hE : mE S sa) (hO : mO B T S) {od : Nat → Nat} (hod : ∀ i, i < zn S → od i < zn S ∧ cbf (zf S) (zn S) (od i) = i) {h0 rz : Int64} (C : CC p s m args c cX7_digest 4 RX7 (Cond.code yX7_digest cX7_digest 4 (some .long) :: lw_all) D (tyz cI cJ cQ) A s.heap) (RC : meth.sig.returnType = (some .long) ∧ meth.locks = false ∧ meth.name = yX7_digest.name) : ∀ (fu j : Nat), j ≤ 14 → 14 + 1 ≤ j + fu → (sw p l e ({ frames := 4, cells := 0, slots := 0, locals := 90 } : Room) s m args below meth c D A s.heap 4 0 0 (MQ below (ctQ D (tyz cI cJ cQ) A (pstL (rz) [(b0, .inr (7, [.ref b1, .ref b2, .ref b3, .int (kp), .int (0), .ref b4, .int (ty), .int (ap), .ref b5, .long (rz)])), (b1, .inl (cI, 424, .inl (sa))), (b2, .inl (cI, 1696, .inl (pa))), (b3, .inl (cI, 424, .inl (ad))), (b4, .inl (cI, 100, .inl (tx))), (b5, .inl (cI, 4, .inl (nb)))])) args s 0 0 A) [(b0, .inr (7, [.ref b1, .ref b2, .ref b3, .int (kp), .int (0), .ref b4, .int (ty), .int (ap), .ref b5, .long (dgF (fig (zq S) (zg S) (zv S) (zt S) (zp S) (zk S) (zn S) (zl S) (zf S) (zlv S) (zbk S)) h0 14)])), (b1, .inl (cI, 424, .inl (sa))), (b2, .inl (cI, 1696, .inl (pa))), (b3, .inl (cI, 424, .inl (ad))), (b4, .inl (cI, 100, .inl (tx))), (b5, .inl (cI, 4, .inl (nb)))] 43 [(0, .ref b0)] []) → ∀ (xi : Int32), (xi = nI j) →  sw p l e ({ frames := 4, cells := 0, slots := 0, locals := 90 } : Room) s m args below meth c D A s.heap 4 0 0 (MQ below (ctQ D (tyz cI cJ cQ) A (pstL (rz) [(b0, .inr (7, [.ref b1, .ref b2, .ref b3, .int (kp), .int (0), .ref b4, .int (ty), .int (ap), .ref b5, .long (rz)])), (b1, .inl (cI, 424, .inl (sa))), (b2, .inl (cI, 1696, .inl (pa))), (b3, .inl (cI, 424, .inl (ad))), (b4, .inl (cI, 100, .inl (tx))), (b5, .inl (cI, 4, .inl (nb)))])) args s 0 0 A) [(b0, .inr (7, [.ref b1, .ref b2, .ref b3, .int (kp), .int (0), .ref b4, .int (ty), .int (ap), .ref b5, .long (dgF (fig (zq S) (zg S) (zv S) (zt S) (zp S) (zk S) (zn S) (zl S) (zf S) (zlv S) (zbk S)) h0 j)])), (b1, .inl (cI, 424, .inl (sa))), (b2, .inl (cI, 1696, .inl (pa))), (b3, .inl (cI, 424, .inl (ad))), (b4, .inl (cI, 100, .inl (tx))), (b5, .inl (cI, 4, .inl (nb)))] 22 [(0, .ref b0), (1, .int xi)] [] := by
  intro fu
  induction fu with
  | zero => intro j h1 h2; exact absurd h2 (by omega)
  | succ fu ih =>
    intro j hi hf hk xi exi
    subst exi
    refine sw_iload_n 22 1 C dX7_digest_22 rfl rfl ?_
    refine sw_bipush 23 C dX7_digest_23 14 (by decide) ?_
    refine sw_icmp_ge 25 43 C dX7_digest_25 (by decide) (fun c_25 => ?_) (fun c_25 => ?_)
    · obtain rfl : j = 14 := by
        have c : nI 14 ≤ nI j := c_25
        have := nI_ge' (by omega) c (by omega)
        omega
      exact sw_loc hk rfl
    · have hlt : j < 14 := by
        rcases Nat.lt_or_ge j 14 with q | q
        · exact q
        · exact absurd (show (14 : Int32) ≤ nI j from nI_le (a := 14) q (by omega)) c_25
      refine sw_aload_n 28 0 C dX7_digest_28 rfl rfl ?_
      refine sw_aload_n 29 0 C dX7_digest_29 rfl rfl ?_
      refine sw_iload_n 30 1 C dX7_digest_30 rfl rfl ?_
      refine sw_callVIP 31 [0, 1, 2, 3, 4, 5] 1 C dX7_digest_31 (ct_X7_valueTold l hE hO j rfl (by omega)) wK_X7_valueTold wM_X7_119 wN_X7_valueTold wS_X7_X7_valueTold wI_X7 hd_X7_valueTold rfl rfl rfl ⟨rfl, rfl⟩ ⟨Nat.le_of_ble_eq_true rfl, Nat.le_of_ble_eq_true rfl⟩ rfl rfl rfl rfl ?_
      refine sw_callVV 34 [0, 1, 2, 3, 4, 5] 1 C dX7_digest_34 (ct_X7_mix l) wK_X7_mix wM_X7_161 wN_X7_mix wS_X7_X7_mix wI_X7 hd_X7_mix rfl rfl rfl ⟨rfl, rfl⟩ ⟨Nat.le_of_ble_eq_true rfl, Nat.le_of_ble_eq_true rfl⟩ rfl rfl rfl rfl rfl ?_
      refine sw_ws [(_, .inr (7, [.ref _, .ref _, .ref _, .int _, .int _, .ref _, .int _, .int _, .ref _, .long _])), (_, .inl (_, _, .inl _)), (_, .inl (_, _, .inl _)), (_, .inl (_, _, .inl _)), (_, .inl (_, _, .inl _)), (_, .inl (_, _, .inl _))] rfl ?_
      refine sw_iinc 37 C 1 dX7_digest_37 (by decide) rfl rfl ?_
      refine sw_goto 40 22 C dX7_digest_40 (by decide) ?_
      exact sw_loc (ih (j + 1) (by omega) (by omega) hk _ (nI_1 j)) rfl
set_option maxHeartbeats 4000000 in
set_option maxRecDepth 100000 in
theorem lp_X7_digestB {l : Launch} {p : Program} {e : Env} {s : State} {m : MethodId} {args : Array Value} {below : List Frame} {meth : Method} {c : Code} {A : Nat → Prop} {D : va_G} {cI cJ cQ : ClassId} {b0 b1 b2 b3 b4 b5 : Nat} {sa pa ad tx nb : Nat → Int32} {kp ty ap : Int32} {S : StT} {B T : Nat} (hE : mE S sa) (hO : mO B T S) {od : Nat → Nat} (hod : ∀ i, i < zn S → od i < zn S ∧ cbf (zf S) (zn S) (od i) = i) {h0 rz : Int64} (C : CC p s m args c cX7_digest 4 RX7 (Cond.code yX7_digest cX7_digest 4 (some .long) :: lw_all) D (tyz cI cJ cQ) A s.heap) (RC : meth.sig.returnType = (some .long) ∧ meth.locks = false ∧ meth.name = yX7_digest.name) : ∀ (fu j : Nat), j ≤ 4 → 4 + 1 ≤ j + fu → (sw p l e ({ frames := 4, cells := 0, slots := 0, locals := 90 } : Room) s m args below meth c D A s.heap 4 0 0 (MQ below (ctQ D (tyz cI cJ cQ) A (pstL (rz) [(b0, .inr (7, [.ref b1, .ref b2, .ref b3, .int (kp), .int (0), .ref b4, .int (ty), .int (ap), .ref b5, .long (rz)])), (b1, .inl (cI, 424, .inl (sa))), (b2, .inl (cI, 1696, .inl (pa))), (b3, .inl (cI, 424, .inl (ad))), (b4, .inl (cI, 100, .inl (tx))), (b5, .inl (cI, 4, .inl (nb)))])) args s 0 0 A) [(b0, .inr (7, [.ref b1, .ref b2, .ref b3, .int (kp), .int (0), .ref b4, .int (ty), .int (ap), .ref b5, .long (dgF (zpat S) h0 4)])), (b1, .inl (cI, 424, .inl (sa))), (b2, .inl (cI, 1696, .inl (pa))), (b3, .inl (cI, 424, .inl (ad))), (b4, .inl (cI, 100, .inl (tx))), (b5, .inl (cI, 4, .inl (nb)))] 69 [(0, .ref b0)] []) → ∀ (xi : Int32), (xi = nI j) →  sw p l e ({ frames := 4, cells := 0, slots := 0, locals := 90 } : Room) s m args below meth c D A s.heap 4 0 0 (MQ below (ctQ D (tyz cI cJ cQ) A (pstL (rz) [(b0, .inr (7, [.ref b1, .ref b2, .ref b3, .int (kp), .int (0), .ref b4, .int (ty), .int (ap), .ref b5, .long (rz)])), (b1, .inl (cI, 424, .inl (sa))), (b2, .inl (cI, 1696, .inl (pa))), (b3, .inl (cI, 424, .inl (ad))), (b4, .inl (cI, 100, .inl (tx))), (b5, .inl (cI, 4, .inl (nb)))])) args s 0 0 A) [(b0, .inr (7, [.ref b1, .ref b2, .ref b3, .int (kp), .int (0), .ref b4, .int (ty), .int (ap), .ref b5, .long (dgF (zpat S) h0 j)])), (b1, .inl (cI, 424, .inl (sa))), (b2, .inl (cI, 1696, .inl (pa))), (b3, .inl (cI, 424, .inl (ad))), (b4, .inl (cI, 100, .inl (tx))), (b5, .inl (cI, 4, .inl (nb)))] 45 [(0, .ref b0), (1, .int xi)] [] := by
  intro fu
  induction fu with
  | zero => intro j h1 h2; exact absurd h2 (by omega)
  | succ fu ih =>
    intro j hi hf hk xi exi
    subst exi
    refine sw_iload_n 45 1 C dX7_digest_45 rfl rfl ?_
    refine sw_iconst 46 C dX7_digest_46 4 (by decide) ?_
    refine sw_icmp_ge 47 69 C dX7_digest_47 (by decide) (fun c_47 => ?_) (fun c_47 => ?_)
    · obtain rfl : j = 4 := by
        have c : nI 4 ≤ nI j := c_47
        have := nI_ge' (by omega) c (by omega)
        omega
      exact sw_loc hk rfl
    · have hlt : j < 4 := by
        rcases Nat.lt_or_ge j 4 with q | q
        · exact q
        · exact absurd (show (4 : Int32) ≤ nI j from nI_le (a := 4) q (by omega)) c_47
      refine sw_aload_n 50 0 C dX7_digest_50 rfl rfl ?_
      refine sw_aload_n 51 0 C dX7_digest_51 rfl rfl ?_
      refine sw_get 52 0 0 C dX7_digest_52 rfl rfl (inA lwX7) (C.w wF_X7_7) rfl rfl rfl ?_
      refine sw_bipush 55 C dX7_digest_55 12 (by decide) ?_
      refine sw_iload_n 57 1 C dX7_digest_57 rfl rfl ?_
      refine sw_iadd 58 C dX7_digest_58 ?_
      refine sw_ialdN 59 1 0 (12 + j) C dX7_digest_59 (by rw [show (12 : Int32) = nI 12 from rfl, nI_add]) (by omega) rfl rfl rfl ?_
      refine sw_top (hE.pat j hlt) ?_
      refine sw_callVV 60 [0, 1, 2, 3, 4, 5] 1 C dX7_digest_60 (ct_X7_mix l) wK_X7_mix wM_X7_161 wN_X7_mix wS_X7_X7_mix wI_X7 hd_X7_mix rfl rfl rfl ⟨rfl, rfl⟩ ⟨Nat.le_of_ble_eq_true rfl, Nat.le_of_ble_eq_true rfl⟩ rfl rfl rfl rfl rfl ?_
      refine sw_ws [(_, .inr (7, [.ref _, .ref _, .ref _, .int _, .int _, .ref _, .int _, .int _, .ref _, .long _])), (_, .inl (_, _, .inl _)), (_, .inl (_, _, .inl _)), (_, .inl (_, _, .inl _)), (_, .inl (_, _, .inl _)), (_, .inl (_, _, .inl _))] rfl ?_
      refine sw_iinc 63 C 1 dX7_digest_63 (by decide) rfl rfl ?_
      refine sw_goto 66 45 C dX7_digest_66 (by decide) ?_
      exact sw_loc (ih (j + 1) (by omega) (by omega) hk _ (nI_1 j)) rfl
set_option maxHeartbeats 4000000 in
set_option maxRecDepth 100000 in
theorem lp_X7_digestC {l : Launch} {p : Program} {e : Env} {s : State} {m : MethodId} {args : Array Value} {below : List Frame} {meth : Method} {c : Code} {A : Nat → Prop} {D : va_G} {cI cJ cQ : ClassId} {b0 b1 b2 b3 b4 b5 : Nat} {sa pa ad tx nb : Nat → Int32} {kp ty ap : Int32} {S : StT} {B T : Nat} (hE : mE S sa) (hO : mO B T S) {od : Nat → Nat} (hod : ∀ i, i < zn S → od i < zn S ∧ cbf (zf S) (zn S) (od i) = i) {h0 rz : Int64} (C : CC p s m args c cX7_digest 4 RX7 (Cond.code yX7_digest cX7_digest 4 (some .long) :: lw_all) D (tyz cI cJ cQ) A s.heap) (RC : meth.sig.returnType = (some .long) ∧ meth.locks = false ∧ meth.name = yX7_digest.name) : ∀ (fu j : Nat), j ≤ 8 → 8 + 1 ≤ j + fu → (sw p l e ({ frames := 4, cells := 0, slots := 0, locals := 90 } : Room) s m args below meth c D A s.heap 4 0 0 (MQ below (ctQ D (tyz cI cJ cQ) A (pstL (rz) [(b0, .inr (7, [.ref b1, .ref b2, .ref b3, .int (kp), .int (0), .ref b4, .int (ty), .int (ap), .ref b5, .long (rz)])), (b1, .inl (cI, 424, .inl (sa))), (b2, .inl (cI, 1696, .inl (pa))), (b3, .inl (cI, 424, .inl (ad))), (b4, .inl (cI, 100, .inl (tx))), (b5, .inl (cI, 4, .inl (nb)))])) args s 0 0 A) [(b0, .inr (7, [.ref b1, .ref b2, .ref b3, .int (kp), .int (0), .ref b4, .int (ty), .int (ap), .ref b5, .long (dgF (zbk S) h0 8)])), (b1, .inl (cI, 424, .inl (sa))), (b2, .inl (cI, 1696, .inl (pa))), (b3, .inl (cI, 424, .inl (ad))), (b4, .inl (cI, 100, .inl (tx))), (b5, .inl (cI, 4, .inl (nb)))] 96 [(0, .ref b0)] []) → ∀ (xi : Int32), (xi = nI j) →  sw p l e ({ frames := 4, cells := 0, slots := 0, locals := 90 } : Room) s m args below meth c D A s.heap 4 0 0 (MQ below (ctQ D (tyz cI cJ cQ) A (pstL (rz) [(b0, .inr (7, [.ref b1, .ref b2, .ref b3, .int (kp), .int (0), .ref b4, .int (ty), .int (ap), .ref b5, .long (rz)])), (b1, .inl (cI, 424, .inl (sa))), (b2, .inl (cI, 1696, .inl (pa))), (b3, .inl (cI, 424, .inl (ad))), (b4, .inl (cI, 100, .inl (tx))), (b5, .inl (cI, 4, .inl (nb)))])) args s 0 0 A) [(b0, .inr (7, [.ref b1, .ref b2, .ref b3, .int (kp), .int (0), .ref b4, .int (ty), .int (ap), .ref b5, .long (dgF (zbk S) h0 j)])), (b1, .inl (cI, 424, .inl (sa))), (b2, .inl (cI, 1696, .inl (pa))), (b3, .inl (cI, 424, .inl (ad))), (b4, .inl (cI, 100, .inl (tx))), (b5, .inl (cI, 4, .inl (nb)))] 71 [(0, .ref b0), (1, .int xi)] [] := by
  intro fu
  induction fu with
  | zero => intro j h1 h2; exact absurd h2 (by omega)
  | succ fu ih =>
    intro j hi hf hk xi exi
    subst exi
    refine sw_iload_n 71 1 C dX7_digest_71 rfl rfl ?_
    refine sw_bipush 72 C dX7_digest_72 8 (by decide) ?_
    refine sw_icmp_ge 74 96 C dX7_digest_74 (by decide) (fun c_74 => ?_) (fun c_74 => ?_)
    · obtain rfl : j = 8 := by
        have c : nI 8 ≤ nI j := c_74
        have := nI_ge' (by omega) c (by omega)
        omega
      exact sw_loc hk rfl
    · have hlt : j < 8 := by
        rcases Nat.lt_or_ge j 8 with q | q
        · exact q
        · exact absurd (show (8 : Int32) ≤ nI j from nI_le (a := 8) q (by omega)) c_74
      refine sw_aload_n 77 0 C dX7_digest_77 rfl rfl ?_
      refine sw_aload_n 78 0 C dX7_digest_78 rfl rfl ?_
      refine sw_get 79 0 0 C dX7_digest_79 rfl rfl (inA lwX7) (C.w wF_X7_7) rfl rfl rfl ?_
      refine sw_bipush 82 C dX7_digest_82 16 (by decide) ?_
      refine sw_iload_n 84 1 C dX7_digest_84 rfl rfl ?_
      refine sw_iadd 85 C dX7_digest_85 ?_
      refine sw_ialdN 86 1 0 (16 + j) C dX7_digest_86 (by rw [show (16 : Int32) = nI 16 from rfl, nI_add]) (by omega) rfl rfl rfl ?_
      refine sw_top (hE.bk j hlt) ?_
      refine sw_callVV 87 [0, 1, 2, 3, 4, 5] 1 C dX7_digest_87 (ct_X7_mix l) wK_X7_mix wM_X7_161 wN_X7_mix wS_X7_X7_mix wI_X7 hd_X7_mix rfl rfl rfl ⟨rfl, rfl⟩ ⟨Nat.le_of_ble_eq_true rfl, Nat.le_of_ble_eq_true rfl⟩ rfl rfl rfl rfl rfl ?_
      refine sw_ws [(_, .inr (7, [.ref _, .ref _, .ref _, .int _, .int _, .ref _, .int _, .int _, .ref _, .long _])), (_, .inl (_, _, .inl _)), (_, .inl (_, _, .inl _)), (_, .inl (_, _, .inl _)), (_, .inl (_, _, .inl _)), (_, .inl (_, _, .inl _))] rfl ?_
      refine sw_iinc 90 C 1 dX7_digest_90 (by decide) rfl rfl ?_
      refine sw_goto 93 71 C dX7_digest_93 (by decide) ?_
      exact sw_loc (ih (j + 1) (by omega) (by omega) hk _ (nI_1 j)) rfl
set_option maxHeartbeats 4000000 in
set_option maxRecDepth 100000 in
theorem lp_X7_digestI {l : Launch} {p : Program} {e : Env} {s : State} {m : MethodId} {args : Array Value} {below : List Frame} {meth : Method} {c : Code} {A : Nat → Prop} {D : va_G} {cI cJ cQ : ClassId} {b0 b1 b2 b3 b4 b5 : Nat} {sa pa ad tx nb : Nat → Int32} {kp ty ap : Int32} {S : StT} {B T : Nat} (hE : mE S sa) (hO : mO B T S) {od : Nat → Nat} (hod : ∀ i, i < zn S → od i < zn S ∧ cbf (zf S) (zn S) (od i) = i) {h0 rz : Int64} (i : Nat) (hti : i < zn S) (C : CC p s m args c cX7_digest 4 RX7 (Cond.code yX7_digest cX7_digest 4 (some .long) :: lw_all) D (tyz cI cJ cQ) A s.heap) (RC : meth.sig.returnType = (some .long) ∧ meth.locks = false ∧ meth.name = yX7_digest.name) : ∀ (fu j : Nat), j ≤ 10 → 10 + 1 ≤ j + fu → (sw p l e ({ frames := 4, cells := 0, slots := 0, locals := 90 } : Room) s m args below meth c D A s.heap 4 0 0 (MQ below (ctQ D (tyz cI cJ cQ) A (pstL (rz) [(b0, .inr (7, [.ref b1, .ref b2, .ref b3, .int (kp), .int (0), .ref b4, .int (ty), .int (ap), .ref b5, .long (rz)])), (b1, .inl (cI, 424, .inl (sa))), (b2, .inl (cI, 1696, .inl (pa))), (b3, .inl (cI, 424, .inl (ad))), (b4, .inl (cI, 100, .inl (tx))), (b5, .inl (cI, 4, .inl (nb)))])) args s 0 0 A) [(b0, .inr (7, [.ref b1, .ref b2, .ref b3, .int (kp), .int (0), .ref b4, .int (ty), .int (ap), .ref b5, .long (dgP (zf S) (zn S) od h0 (i + 1))])), (b1, .inl (cI, 424, .inl (sa))), (b2, .inl (cI, 1696, .inl (pa))), (b3, .inl (cI, 424, .inl (ad))), (b4, .inl (cI, 100, .inl (tx))), (b5, .inl (cI, 4, .inl (nb)))] 98 [(0, .ref b0), (1, .int (nI (i + 1)))] []) → ∀ (xi : Int32), (xi = nI j) →  sw p l e ({ frames := 4, cells := 0, slots := 0, locals := 90 } : Room) s m args below meth c D A s.heap 4 0 0 (MQ below (ctQ D (tyz cI cJ cQ) A (pstL (rz) [(b0, .inr (7, [.ref b1, .ref b2, .ref b3, .int (kp), .int (0), .ref b4, .int (ty), .int (ap), .ref b5, .long (rz)])), (b1, .inl (cI, 424, .inl (sa))), (b2, .inl (cI, 1696, .inl (pa))), (b3, .inl (cI, 424, .inl (ad))), (b4, .inl (cI, 100, .inl (tx))), (b5, .inl (cI, 4, .inl (nb)))])) args s 0 0 A) [(b0, .inr (7, [.ref b1, .ref b2, .ref b3, .int (kp), .int (0), .ref b4, .int (ty), .int (ap), .ref b5, .long (dgT (zf S) (zn S) (od i) (dgP (zf S) (zn S) od h0 i) j)])), (b1, .inl (cI, 424, .inl (sa))), (b2, .inl (cI, 1696, .inl (pa))), (b3, .inl (cI, 424, .inl (ad))), (b4, .inl (cI, 100, .inl (tx))), (b5, .inl (cI, 4, .inl (nb)))] 126 [(0, .ref b0), (1, .int (nI i)), (2, .int (nI (od i))), (3, .int xi)] [] := by
  intro fu
  induction fu with
  | zero => intro j h1 h2; exact absurd h2 (by omega)
  | succ fu ih =>
    intro j hi hf hk xi exi
    subst exi
    refine sw_iload_n 126 3 C dX7_digest_126 rfl rfl ?_
    refine sw_bipush 127 C dX7_digest_127 10 (by decide) ?_
    refine sw_icmp_ge 129 148 C dX7_digest_129 (by decide) (fun c_129 => ?_) (fun c_129 => ?_)
    · obtain rfl : j = 10 := by
        have c : nI 10 ≤ nI j := c_129
        have := nI_ge' (by omega) c (by omega)
        omega
      refine sw_iinc 148 C 1 dX7_digest_148 (by decide) rfl rfl ?_
      refine sw_goto 151 98 C dX7_digest_151 (by decide) ?_
      refine sw_loc (L1 := [(0, .ref b0), (1, .int (nI (i + 1)))]) hk (by rw [← nI_1]; rfl)
    · have hlt : j < 10 := by
        rcases Nat.lt_or_ge j 10 with q | q
        · exact q
        · exact absurd (show (10 : Int32) ≤ nI j from nI_le (a := 10) q (by omega)) c_129
      refine sw_aload_n 132 0 C dX7_digest_132 rfl rfl ?_
      refine sw_aload_n 133 0 C dX7_digest_133 rfl rfl ?_
      refine sw_iload_n 134 2 C dX7_digest_134 rfl rfl ?_
      refine sw_iload_n 135 3 C dX7_digest_135 rfl rfl ?_
      refine sw_callVIP 136 [0, 1, 2, 3, 4, 5] 2 C dX7_digest_136 (ct_X7_told l hE hO (od i) j rfl rfl (hod i hti).1 (by omega)) wK_X7_told wM_X7_110 wN_X7_told wS_X7_X7_told wI_X7 hd_X7_told rfl rfl rfl ⟨rfl, rfl⟩ ⟨Nat.le_of_ble_eq_true rfl, Nat.le_of_ble_eq_true rfl⟩ rfl rfl rfl rfl ?_
      refine sw_callVV 139 [0, 1, 2, 3, 4, 5] 1 C dX7_digest_139 (ct_X7_mix l) wK_X7_mix wM_X7_161 wN_X7_mix wS_X7_X7_mix wI_X7 hd_X7_mix rfl rfl rfl ⟨rfl, rfl⟩ ⟨Nat.le_of_ble_eq_true rfl, Nat.le_of_ble_eq_true rfl⟩ rfl rfl rfl rfl rfl ?_
      refine sw_ws [(_, .inr (7, [.ref _, .ref _, .ref _, .int _, .int _, .ref _, .int _, .int _, .ref _, .long _])), (_, .inl (_, _, .inl _)), (_, .inl (_, _, .inl _)), (_, .inl (_, _, .inl _)), (_, .inl (_, _, .inl _)), (_, .inl (_, _, .inl _))] rfl ?_
      refine sw_iinc 142 C 1 dX7_digest_142 (by decide) rfl rfl ?_
      refine sw_goto 145 126 C dX7_digest_145 (by decide) ?_
      exact sw_loc (ih (j + 1) (by omega) (by omega) hk _ (nI_1 j)) rfl
set_option maxHeartbeats 4000000 in
set_option maxRecDepth 100000 in
theorem lp_X7_digestD {l : Launch} {p : Program} {e : Env} {s : State} {m : MethodId} {args : Array Value} {below : List Frame} {meth : Method} {c : Code} {A : Nat → Prop} {D : va_G} {cI cJ cQ : ClassId} {b0 b1 b2 b3 b4 b5 : Nat} {sa pa ad tx nb : Nat → Int32} {kp ty ap : Int32} {S : StT} {B T : Nat} (hE : mE S sa) (hO : mO B T S) {od : Nat → Nat} (hod : ∀ i, i < zn S → od i < zn S ∧ cbf (zf S) (zn S) (od i) = i) {h0 rz : Int64} (C : CC p s m args c cX7_digest 4 RX7 (Cond.code yX7_digest cX7_digest 4 (some .long) :: lw_all) D (tyz cI cJ cQ) A s.heap) (RC : meth.sig.returnType = (some .long) ∧ meth.locks = false ∧ meth.name = yX7_digest.name) : ∀ (fu i : Nat), i ≤ zn S → zn S + 1 ≤ i + fu → (sw p l e ({ frames := 4, cells := 0, slots := 0, locals := 90 } : Room) s m args below meth c D A s.heap 4 0 0 (MQ below (ctQ D (tyz cI cJ cQ) A (pstL (rz) [(b0, .inr (7, [.ref b1, .ref b2, .ref b3, .int (kp), .int (0), .ref b4, .int (ty), .int (ap), .ref b5, .long (rz)])), (b1, .inl (cI, 424, .inl (sa))), (b2, .inl (cI, 1696, .inl (pa))), (b3, .inl (cI, 424, .inl (ad))), (b4, .inl (cI, 100, .inl (tx))), (b5, .inl (cI, 4, .inl (nb)))])) args s 0 0 A) [(b0, .inr (7, [.ref b1, .ref b2, .ref b3, .int (kp), .int (0), .ref b4, .int (ty), .int (ap), .ref b5, .long (dgP (zf S) (zn S) od h0 (zn S))])), (b1, .inl (cI, 424, .inl (sa))), (b2, .inl (cI, 1696, .inl (pa))), (b3, .inl (cI, 424, .inl (ad))), (b4, .inl (cI, 100, .inl (tx))), (b5, .inl (cI, 4, .inl (nb)))] 154 [(0, .ref b0)] []) → ∀ (xi : Int32), (xi = nI i) →  sw p l e ({ frames := 4, cells := 0, slots := 0, locals := 90 } : Room) s m args below meth c D A s.heap 4 0 0 (MQ below (ctQ D (tyz cI cJ cQ) A (pstL (rz) [(b0, .inr (7, [.ref b1, .ref b2, .ref b3, .int (kp), .int (0), .ref b4, .int (ty), .int (ap), .ref b5, .long (rz)])), (b1, .inl (cI, 424, .inl (sa))), (b2, .inl (cI, 1696, .inl (pa))), (b3, .inl (cI, 424, .inl (ad))), (b4, .inl (cI, 100, .inl (tx))), (b5, .inl (cI, 4, .inl (nb)))])) args s 0 0 A) [(b0, .inr (7, [.ref b1, .ref b2, .ref b3, .int (kp), .int (0), .ref b4, .int (ty), .int (ap), .ref b5, .long (dgP (zf S) (zn S) od h0 i)])), (b1, .inl (cI, 424, .inl (sa))), (b2, .inl (cI, 1696, .inl (pa))), (b3, .inl (cI, 424, .inl (ad))), (b4, .inl (cI, 100, .inl (tx))), (b5, .inl (cI, 4, .inl (nb)))] 98 [(0, .ref b0), (1, .int xi)] [] := by
  intro fu
  induction fu with
  | zero => intro i h1 h2; exact absurd h2 (by omega)
  | succ fu ih =>
    intro i hi hf hk xi exi
    subst exi
    refine sw_iload_n 98 1 C dX7_digest_98 rfl rfl ?_
    refine sw_aload_n 99 0 C dX7_digest_99 rfl rfl ?_
    refine sw_get 100 0 0 C dX7_digest_100 rfl rfl (inA lwX7) (C.w wF_X7_7) rfl rfl rfl ?_
    refine sw_iconst 103 C dX7_digest_103 1 (by decide) ?_
    refine sw_ialdN 104 1 0 (1) C dX7_digest_104 rfl (by decide) rfl rfl rfl ?_
    refine sw_top (hE.n) ?_
    refine sw_icmp_ge 105 154 C dX7_digest_105 (by decide) (fun c_105 => ?_) (fun c_105 => ?_)
    · obtain hz : i = zn S := by
        have := nI_ge' (by have := hO.n; omega) c_105 (by have := hO.n; omega)
        omega
      subst hz
      exact sw_loc hk rfl
    · have hlt : i < zn S := by
        rcases Nat.lt_or_ge i (zn S) with q | q
        · exact q
        · exact absurd (nI_le q (by have := hO.n; omega)) c_105
      refine sw_aload_n 108 0 C dX7_digest_108 rfl rfl ?_
      refine sw_iload_n 109 1 C dX7_digest_109 rfl rfl ?_
      refine sw_callVIP 110 [0, 1, 2, 3, 4, 5] 1 C dX7_digest_110 (ct_X7_atPlace l hE hO (od i) i rfl (hod i hlt).1 (hod i hlt).2) wK_X7_atPlace wM_X7_57 wN_X7_atPlace wS_X7_X7_atPlace wI_X7 hd_X7_atPlace rfl rfl rfl ⟨rfl, rfl⟩ ⟨Nat.le_of_ble_eq_true rfl, Nat.le_of_ble_eq_true rfl⟩ rfl rfl rfl rfl ?_
      refine sw_istore_n 113 2 C dX7_digest_113 rfl rfl ?_
      refine sw_aload_n 114 0 C dX7_digest_114 rfl rfl ?_
      refine sw_aload_n 115 0 C dX7_digest_115 rfl rfl ?_
      refine sw_iload_n 116 2 C dX7_digest_116 rfl rfl ?_
      refine sw_iconst 117 C dX7_digest_117 0 (by decide) ?_
      refine sw_callVIP 118 [0, 1, 2, 3, 4, 5] 2 C dX7_digest_118 (ct_X7_ofE l hE (od i) 7 rfl rfl (hod i hlt).1 (by decide) hO.n) wK_X7_of wM_X7_32 wN_X7_of wS_X7_X7_of wI_X7 hd_X7_of rfl rfl rfl ⟨rfl, rfl⟩ ⟨Nat.le_of_ble_eq_true rfl, Nat.le_of_ble_eq_true rfl⟩ rfl rfl rfl rfl ?_
      refine sw_callVV 121 [0, 1, 2, 3, 4, 5] 1 C dX7_digest_121 (ct_X7_mix l) wK_X7_mix wM_X7_161 wN_X7_mix wS_X7_X7_mix wI_X7 hd_X7_mix rfl rfl rfl ⟨rfl, rfl⟩ ⟨Nat.le_of_ble_eq_true rfl, Nat.le_of_ble_eq_true rfl⟩ rfl rfl rfl rfl rfl ?_
      refine sw_ws [(_, .inr (7, [.ref _, .ref _, .ref _, .int _, .int _, .ref _, .int _, .int _, .ref _, .long _])), (_, .inl (_, _, .inl _)), (_, .inl (_, _, .inl _)), (_, .inl (_, _, .inl _)), (_, .inl (_, _, .inl _)), (_, .inl (_, _, .inl _))] rfl ?_
      refine sw_iconst 124 C dX7_digest_124 0 (by decide) ?_
      refine sw_istore_n 125 3 C dX7_digest_125 rfl rfl ?_
      exact sw_loc (lp_X7_digestI hE hO hod i hlt C RC 11 0 (by decide) (by decide) (ih (i + 1) hlt (by omega) hk _ rfl) _ rfl) rfl
set_option maxHeartbeats 4000000 in
set_option maxRecDepth 100000 in
theorem lp_X7_digestE {l : Launch} {p : Program} {e : Env} {s : State} {m : MethodId} {args : Array Value} {below : List Frame} {meth : Method} {c : Code} {A : Nat → Prop} {D : va_G} {cI cJ cQ : ClassId} {b0 b1 b2 b3 b4 b5 : Nat} {sa pa ad tx nb : Nat → Int32} {kp ty ap : Int32} {S : StT} {B T : Nat} (hE : mE S sa) (hO : mO B T S) {od : Nat → Nat} (hod : ∀ i, i < zn S → od i < zn S ∧ cbf (zf S) (zn S) (od i) = i) {h0 : Int64} (C : CC p s m args c cX7_digest 4 RX7 (Cond.code yX7_digest cX7_digest 4 (some .long) :: lw_all) D (tyz cI cJ cQ) A s.heap) (RC : meth.sig.returnType = (some .long) ∧ meth.locks = false ∧ meth.name = yX7_digest.name) : ∀ (fu j : Nat), j ≤ zl S * 5 → zl S * 5 + 1 ≤ j + fu →  ∀ (xi : Int32), (xi = nI j) →  sw p l e ({ frames := 4, cells := 0, slots := 0, locals := 90 } : Room) s m args below meth c D A s.heap 4 0 0 (MQ below (ctQ D (tyz cI cJ cQ) A (pstL (31 * dgF (zlg S) h0 (zl S * 5) + kp.toInt64) [(b0, .inr (7, [.ref b1, .ref b2, .ref b3, .int (kp), .int (0), .ref b4, .int (ty), .int (ap), .ref b5, .long (31 * dgF (zlg S) h0 (zl S * 5) + kp.toInt64)])), (b1, .inl (cI, 424, .inl (sa))), (b2, .inl (cI, 1696, .inl (pa))), (b3, .inl (cI, 424, .inl (ad))), (b4, .inl (cI, 100, .inl (tx))), (b5, .inl (cI, 4, .inl (nb)))])) args s 0 0 A) [(b0, .inr (7, [.ref b1, .ref b2, .ref b3, .int (kp), .int (0), .ref b4, .int (ty), .int (ap), .ref b5, .long (dgF (zlg S) h0 j)])), (b1, .inl (cI, 424, .inl (sa))), (b2, .inl (cI, 1696, .inl (pa))), (b3, .inl (cI, 424, .inl (ad))), (b4, .inl (cI, 100, .inl (tx))), (b5, .inl (cI, 4, .inl (nb)))] 156 [(0, .ref b0), (1, .int xi)] [] := by
  intro fu
  induction fu with
  | zero => intro j h1 h2; exact absurd h2 (by omega)
  | succ fu ih =>
    intro j hi hf  xi exi
    subst exi
    refine sw_iload_n 156 1 C dX7_digest_156 rfl rfl ?_
    refine sw_iconst 157 C dX7_digest_157 5 (by decide) ?_
    refine sw_aload_n 158 0 C dX7_digest_158 rfl rfl ?_
    refine sw_get 159 0 0 C dX7_digest_159 rfl rfl (inA lwX7) (C.w wF_X7_7) rfl rfl rfl ?_
    refine sw_bipush 162 C dX7_digest_162 11 (by decide) ?_
    refine sw_ialdN 164 1 0 (11) C dX7_digest_164 rfl (by decide) rfl rfl rfl ?_
    refine sw_top (hE.l) ?_
    refine sw_imul 165 C dX7_digest_165 ?_
    refine sw_top (show (5 : Int32) * nI (zl S) = nI (zl S * 5) by rw [show (5 : Int32) = nI 5 from rfl, pk_mul, Nat.mul_comm]) ?_
    refine sw_icmp_ge 166 188 C dX7_digest_166 (by decide) (fun c_166 => ?_) (fun c_166 => ?_)
    · have hz : j = zl S * 5 := by
        have := nI_ge' (by have := hO.si.2.1; omega) c_166 (by have := hO.si.2.1; omega)
        omega
      subst hz
      refine sw_aload_n 188 0 C dX7_digest_188 rfl rfl ?_
      refine sw_aload_n 189 0 C dX7_digest_189 rfl rfl ?_
      refine sw_get 190 0 3 C dX7_digest_190 rfl rfl (inA lwX7) (C.w wF_X7_29) rfl rfl rfl ?_
      refine sw_callVV 193 [0, 1, 2, 3, 4, 5] 1 C dX7_digest_193 (ct_X7_mix l) wK_X7_mix wM_X7_161 wN_X7_mix wS_X7_X7_mix wI_X7 hd_X7_mix rfl rfl rfl ⟨rfl, rfl⟩ ⟨Nat.le_of_ble_eq_true rfl, Nat.le_of_ble_eq_true rfl⟩ rfl rfl rfl rfl rfl ?_
      refine sw_ws [(_, .inr (7, [.ref _, .ref _, .ref _, .int _, .int _, .ref _, .int _, .int _, .ref _, .long _])), (_, .inl (_, _, .inl _)), (_, .inl (_, _, .inl _)), (_, .inl (_, _, .inl _)), (_, .inl (_, _, .inl _)), (_, .inl (_, _, .inl _))] rfl ?_
      refine sw_aload_n 196 0 C dX7_digest_196 rfl rfl ?_
      refine sw_get 197 0 9 C dX7_digest_197 rfl rfl (inA lwX7) (C.w wF_X7_155) rfl rfl rfl ?_
      refine sw_lret 200 C RC dX7_digest_200 ?_
      exact ⟨rfl, rfl⟩
    · have hlt : j < zl S * 5 := by
        rcases Nat.lt_or_ge j (zl S * 5) with q | q
        · exact q
        · exact absurd (nI_le q (by have := hO.si.2.1; omega)) c_166
      refine sw_aload_n 169 0 C dX7_digest_169 rfl rfl ?_
      refine sw_aload_n 170 0 C dX7_digest_170 rfl rfl ?_
      refine sw_get 171 0 0 C dX7_digest_171 rfl rfl (inA lwX7) (C.w wF_X7_7) rfl rfl rfl ?_
      refine sw_bipush 174 C dX7_digest_174 24 (by decide) ?_
      refine sw_iload_n 176 1 C dX7_digest_176 rfl rfl ?_
      refine sw_iadd 177 C dX7_digest_177 ?_
      refine sw_ialdN 178 1 0 (24 + j) C dX7_digest_178 (by rw [show (24 : Int32) = nI 24 from rfl, nI_add]) (by have := hO.si.2.1; omega) rfl rfl rfl ?_
      refine sw_top (hE.lg j (by have := hO.si.2.1; omega)) ?_
      refine sw_callVV 179 [0, 1, 2, 3, 4, 5] 1 C dX7_digest_179 (ct_X7_mix l) wK_X7_mix wM_X7_161 wN_X7_mix wS_X7_X7_mix wI_X7 hd_X7_mix rfl rfl rfl ⟨rfl, rfl⟩ ⟨Nat.le_of_ble_eq_true rfl, Nat.le_of_ble_eq_true rfl⟩ rfl rfl rfl rfl rfl ?_
      refine sw_ws [(_, .inr (7, [.ref _, .ref _, .ref _, .int _, .int _, .ref _, .int _, .int _, .ref _, .long _])), (_, .inl (_, _, .inl _)), (_, .inl (_, _, .inl _)), (_, .inl (_, _, .inl _)), (_, .inl (_, _, .inl _)), (_, .inl (_, _, .inl _))] rfl ?_
      refine sw_iinc 182 C 1 dX7_digest_182 (by decide) rfl rfl ?_
      refine sw_goto 185 156 C dX7_digest_185 (by decide) ?_
      exact sw_loc (ih (j + 1) (by omega) (by omega) _ (nI_1 j)) rfl
set_option maxHeartbeats 4000000 in
set_option maxRecDepth 100000 in
theorem ct_X7_digest (l : Launch) {D : va_G} {cI cJ cQ : ClassId} {b0 b1 b2 b3 b4 b5 : Nat} {sa pa ad tx nb : Nat → Int32} {kp ap th : Int32} {hh : Int64} {S : StT} {B T : Nat} (hE : mE S sa) (hO : mO B T S) {od : Nat → Nat} (hod : ∀ i, i < zn S → od i < zn S ∧ cbf (zf S) (zn S) (od i) = i) {ln : Nat} : Ct l yX7_digest (Cond.code yX7_digest cX7_digest 4 (some .long)) 4 90 0 0 D (tyz cI cJ cQ) [.ref b0] [(b0, .inr (7, [.ref b1, .ref b2, .ref b3, .int (kp), .int (th), .ref b4, .int (nI ln), .int (ap), .ref b5, .long (hh)])), (b1, .inl (cI, 424, .inl (sa))), (b2, .inl (cI, 1696, .inl (pa))), (b3, .inl (cI, 424, .inl (ad))), (b4, .inl (cI, 100, .inl (tx))), (b5, .inl (cI, 4, .inl (nb)))] (pstL (31 * dgF (zlg S) (dgP (zf S) (zn S) od (dgF (zbk S) (dgF (zpat S) (dgF (fig (zq S) (zg S) (zv S) (zt S) (zp S) (zk S) (zn S) (zl S) (zf S) (zlv S) (zbk S)) (31 * 3659 + (nI ln).toInt64) 14) 4) 8) (zn S)) (zl S * 5) + kp.toInt64) [(b0, .inr (7, [.ref b1, .ref b2, .ref b3, .int (kp), .int (0), .ref b4, .int (nI ln), .int (ap), .ref b5, .long (31 * dgF (zlg S) (dgP (zf S) (zn S) od (dgF (zbk S) (dgF (zpat S) (dgF (fig (zq S) (zg S) (zv S) (zt S) (zp S) (zk S) (zn S) (zl S) (zf S) (zlv S) (zbk S)) (31 * 3659 + (nI ln).toInt64) 14) 4) 8) (zn S)) (zl S * 5) + kp.toInt64)])), (b1, .inl (cI, 424, .inl (sa))), (b2, .inl (cI, 1696, .inl (pa))), (b3, .inl (cI, 424, .inl (ad))), (b4, .inl (cI, 100, .inl (tx))), (b5, .inl (cI, 4, .inl (nb)))]) := by
  refine Ct.of RX7 (by decide) rfl (Nat.le_of_ble_eq_true rfl) ?_
  intro p e s m below meth c A C RC
  refine sw_aload_n 0 0 C dX7_digest_0 rfl rfl ?_
  refine sw_iconst 1 C dX7_digest_1 0 (by decide) ?_
  refine sw_put 2 0 4 tyX7 C dX7_digest_2 rfl rfl (inA lwX7) tyX7_ok nmX7 (C.w wF_X7_25) rfl rfl rfl rfl rfl rfl rfl ?_
  refine sw_ws [(_, .inr (7, [.ref _, .ref _, .ref _, .int _, .int _, .ref _, .int _, .int _, .ref _, .long _])), (_, .inl (_, _, .inl _)), (_, .inl (_, _, .inl _)), (_, .inl (_, _, .inl _)), (_, .inl (_, _, .inl _)), (_, .inl (_, _, .inl _))] rfl ?_
  refine sw_aload_n 5 0 C dX7_digest_5 rfl rfl ?_
  refine sw_ldc2 6 C dX7_digest_6 (C.w wQ_X7_159) ?_
  refine sw_put 9 0 9 tyX7 C dX7_digest_9 rfl rfl (inA lwX7) tyX7_ok nmX7 (C.w wF_X7_155) rfl rfl rfl rfl rfl rfl rfl ?_
  refine sw_ws [(_, .inr (7, [.ref _, .ref _, .ref _, .int _, .int _, .ref _, .int _, .int _, .ref _, .long _])), (_, .inl (_, _, .inl _)), (_, .inl (_, _, .inl _)), (_, .inl (_, _, .inl _)), (_, .inl (_, _, .inl _)), (_, .inl (_, _, .inl _))] rfl ?_
  refine sw_aload_n 12 0 C dX7_digest_12 rfl rfl ?_
  refine sw_aload_n 13 0 C dX7_digest_13 rfl rfl ?_
  refine sw_get 14 0 6 C dX7_digest_14 rfl rfl (inA lwX7) (C.w wF_X7_128) rfl rfl rfl ?_
  refine sw_callVV 17 [0, 1, 2, 3, 4, 5] 1 C dX7_digest_17 (ct_X7_mix l) wK_X7_mix wM_X7_161 wN_X7_mix wS_X7_X7_mix wI_X7 hd_X7_mix rfl rfl rfl ⟨rfl, rfl⟩ ⟨Nat.le_of_ble_eq_true rfl, Nat.le_of_ble_eq_true rfl⟩ rfl rfl rfl rfl rfl ?_
  refine sw_ws [(_, .inr (7, [.ref _, .ref _, .ref _, .int _, .int _, .ref _, .int _, .int _, .ref _, .long _])), (_, .inl (_, _, .inl _)), (_, .inl (_, _, .inl _)), (_, .inl (_, _, .inl _)), (_, .inl (_, _, .inl _)), (_, .inl (_, _, .inl _))] rfl ?_
  refine sw_iconst 20 C dX7_digest_20 0 (by decide) ?_
  refine sw_istore_n 21 1 C dX7_digest_21 rfl rfl ?_
  refine sw_loc (lp_X7_digestA hE hO hod (h0 := 31 * 3659 + (nI ln).toInt64) C RC 15 0 (Nat.zero_le _) (by omega) ?_ _ rfl) rfl
  refine sw_iconst 43 C dX7_digest_43 0 (by decide) ?_
  refine sw_istore_n 44 1 C dX7_digest_44 rfl rfl ?_
  refine sw_loc (lp_X7_digestB hE hO hod (h0 := dgF (fig (zq S) (zg S) (zv S) (zt S) (zp S) (zk S) (zn S) (zl S) (zf S) (zlv S) (zbk S)) (31 * 3659 + (nI ln).toInt64) 14) C RC 5 0 (Nat.zero_le _) (by omega) ?_ _ rfl) rfl
  refine sw_iconst 69 C dX7_digest_69 0 (by decide) ?_
  refine sw_istore_n 70 1 C dX7_digest_70 rfl rfl ?_
  refine sw_loc (lp_X7_digestC hE hO hod (h0 := dgF (zpat S) (dgF (fig (zq S) (zg S) (zv S) (zt S) (zp S) (zk S) (zn S) (zl S) (zf S) (zlv S) (zbk S)) (31 * 3659 + (nI ln).toInt64) 14) 4) C RC 9 0 (Nat.zero_le _) (by omega) ?_ _ rfl) rfl
  refine sw_iconst 96 C dX7_digest_96 0 (by decide) ?_
  refine sw_istore_n 97 1 C dX7_digest_97 rfl rfl ?_
  refine sw_loc (lp_X7_digestD hE hO hod (h0 := dgF (zbk S) (dgF (zpat S) (dgF (fig (zq S) (zg S) (zv S) (zt S) (zp S) (zk S) (zn S) (zl S) (zf S) (zlv S) (zbk S)) (31 * 3659 + (nI ln).toInt64) 14) 4) 8) C RC (zn S + 1) 0 (Nat.zero_le _) (by omega) ?_ _ rfl) rfl
  refine sw_iconst 154 C dX7_digest_154 0 (by decide) ?_
  refine sw_istore_n 155 1 C dX7_digest_155 rfl rfl ?_
  exact sw_loc (lp_X7_digestE hE hO hod (h0 := dgP (zf S) (zn S) od (dgF (zbk S) (dgF (zpat S) (dgF (fig (zq S) (zg S) (zv S) (zt S) (zp S) (zk S) (zn S) (zl S) (zf S) (zlv S) (zbk S)) (31 * 3659 + (nI ln).toInt64) 14) 4) 8) (zn S)) C RC (zl S * 5 + 1) 0 (Nat.zero_le _) (by omega) _ rfl) rfl
