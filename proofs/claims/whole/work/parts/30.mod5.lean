/-! the Model: public calls -/
set_option maxHeartbeats 4000000 in
set_option maxRecDepth 100000 in
theorem ct_X7_setQuota (l : Launch) {D : va_G} {cI cJ cQ : ClassId} {b0 b1 b2 b3 b4 b5 : Nat} {sa pa ad tx nb : Nat → Int32} {th ty ap : Int32} {hh : Int64} {S : StT} {R : Nat → StT} {cn od B T : Nat} (hE : mE S sa) (hO : mO B T S) (hK : mK B T R cn od pa) (hcn : cn ≤ 4) (hod : od < 4) {x : Int32} (hx : inR x 0 10 = true) : Ct l yX7_setQuota (Cond.code yX7_setQuota cX7_setQuota 2 (some .int)) 2 44 0 0 D (tyz cI cJ cQ) [.ref b0, .int x] [(b0, .inr (7, [.ref b1, .ref b2, .ref b3, .int (nI cn), .int (th), .ref b4, .int (ty), .int (ap), .ref b5, .long (hh)])), (b1, .inl (cI, 424, .inl (sa))), (b2, .inl (cI, 1696, .inl (pa))), (b3, .inl (cI, 424, .inl (ad))), (b4, .inl (cI, 100, .inl (tx))), (b5, .inl (cI, 4, .inl (nb)))] (pstE (zq S) (fun f : (Nat → Int32) × (Nat → Int32) => mE (zq_ S x) f.1 ∧ mK B T (va_up R (svI cn od) S) (svC cn) (svO cn od) f.2) (fun f => [(b0, .inr (7, [.ref b1, .ref b2, .ref b3, .int (nI (svC cn)), .int (0), .ref b4, .int (ty), .int (ap), .ref b5, .long (hh)])), (b1, .inl (cI, 424, .inl (f.1))), (b2, .inl (cI, 1696, .inl (f.2))), (b3, .inl (cI, 424, .inl (ad))), (b4, .inl (cI, 100, .inl (tx))), (b5, .inl (cI, 4, .inl (nb)))])) := by
  refine Ct.of RX7 (by decide) rfl (Nat.le_of_ble_eq_true rfl) ?_
  intro p e s m below meth c A C RC
  refine sw_iload_n 0 1 C dX7_setQuota_0 rfl rfl ?_
  refine sw_iconst 1 C dX7_setQuota_1 0 (by decide) ?_
  refine sw_bipush 2 C dX7_setQuota_2 10 (by decide) ?_
  refine sw_callSIP 4 [] 3 C dX7_setQuota_4 (ct_X7_in l) wK_X7_in wM_X7_73 wT_X7_in wI_X7 hd_X7_in rfl ⟨rfl, rfl⟩ ⟨Nat.le_of_ble_eq_true rfl, Nat.le_of_ble_eq_true rfl⟩ rfl rfl rfl rfl ?_
  refine sw_if_eq 7 20 C dX7_setQuota_7 (by decide) (fun c_7 => ?_) (fun c_7 => ?_)
  · exact by first | exact absurd c_7 (by rw [hx]; decide) | exact absurd (by rw [hx]; decide) c_7
  refine sw_aload_n 10 0 C dX7_setQuota_10 rfl rfl ?_
  refine sw_bipush 11 C dX7_setQuota_11 8 (by decide) ?_
  refine sw_iload_n 13 1 C dX7_setQuota_13 rfl rfl ?_
  refine sw_callVI 14 [0, 1, 2, 3, 4, 5] 2 C dX7_setQuota_14 (ct_X7_sets l hcn 8 rfl (by decide)) wK_X7_sets wM_X7_80 wN_X7_sets wS_X7_X7_sets wI_X7 hd_X7_sets rfl rfl rfl ⟨rfl, rfl⟩ ⟨Nat.le_of_ble_eq_true rfl, Nat.le_of_ble_eq_true rfl⟩ rfl rfl rfl rfl rfl ?_
  refine sw_ws [(_, .inr (7, [.ref _, .ref _, .ref _, .int _, .int _, .ref _, .int _, .int _, .ref _, .long _])), (_, .inl (_, _, .inl _)), (_, .inl (_, _, .inl _)), (_, .inl (_, _, .inl _)), (_, .inl (_, _, .inl _)), (_, .inl (_, _, .inl _))] rfl ?_
  refine sw_goto 17 25 C dX7_setQuota_17 (by decide) ?_
  refine sw_iret 25 C RC dX7_setQuota_25 ?_
  exact ⟨by rw [hE.q], (_, _), ⟨mE_q hE x, mK_add hK hcn hod hE hO⟩, rfl⟩
set_option maxHeartbeats 4000000 in
set_option maxRecDepth 100000 in
theorem ct_X7_setQuota_2 (l : Launch) {D : va_G} {cI cJ cQ : ClassId} {b0 b1 b2 b3 b4 b5 : Nat} {sa pa ad tx nb : Nat → Int32} {kp th ty ap : Int32} {hh : Int64} {x : Int32} (hx : inR x 0 10 = false) : Ct l yX7_setQuota (Cond.code yX7_setQuota cX7_setQuota 2 (some .int)) 2 44 0 0 D (tyz cI cJ cQ) [.ref b0, .int x] [(b0, .inr (7, [.ref b1, .ref b2, .ref b3, .int (kp), .int (th), .ref b4, .int (ty), .int (ap), .ref b5, .long (hh)])), (b1, .inl (cI, 424, .inl (sa))), (b2, .inl (cI, 1696, .inl (pa))), (b3, .inl (cI, 424, .inl (ad))), (b4, .inl (cI, 100, .inl (tx))), (b5, .inl (cI, 4, .inl (nb)))] (pstI 0 [(b0, .inr (7, [.ref b1, .ref b2, .ref b3, .int (kp), .int (1), .ref b4, .int (ty), .int (ap), .ref b5, .long (hh)])), (b1, .inl (cI, 424, .inl (sa))), (b2, .inl (cI, 1696, .inl (pa))), (b3, .inl (cI, 424, .inl (ad))), (b4, .inl (cI, 100, .inl (tx))), (b5, .inl (cI, 4, .inl (nb)))]) := by
  refine Ct.of RX7 (by decide) rfl (Nat.le_of_ble_eq_true rfl) ?_
  intro p e s m below meth c A C RC
  refine sw_iload_n 0 1 C dX7_setQuota_0 rfl rfl ?_
  refine sw_iconst 1 C dX7_setQuota_1 0 (by decide) ?_
  refine sw_bipush 2 C dX7_setQuota_2 10 (by decide) ?_
  refine sw_callSIP 4 [] 3 C dX7_setQuota_4 (ct_X7_in l) wK_X7_in wM_X7_73 wT_X7_in wI_X7 hd_X7_in rfl ⟨rfl, rfl⟩ ⟨Nat.le_of_ble_eq_true rfl, Nat.le_of_ble_eq_true rfl⟩ rfl rfl rfl rfl ?_
  refine sw_if_eq 7 20 C dX7_setQuota_7 (by decide) (fun c_7 => ?_) (fun c_7 => ?_)
  rotate_left
  · exact by first | exact absurd c_7 (by rw [hx]; rfl) | exact absurd (by rw [hx]; rfl) c_7
  refine sw_aload_n 20 0 C dX7_setQuota_20 rfl rfl ?_
  refine sw_iconst 21 C dX7_setQuota_21 1 (by decide) ?_
  refine sw_callVI 22 [0, 1, 2, 3, 4, 5] 1 C dX7_setQuota_22 (ct_X7_fails l) wK_X7_fails wM_X7_77 wN_X7_fails wS_X7_X7_fails wI_X7 hd_X7_fails rfl rfl rfl ⟨rfl, rfl⟩ ⟨Nat.le_of_ble_eq_true rfl, Nat.le_of_ble_eq_true rfl⟩ rfl rfl rfl rfl rfl ?_
  refine sw_ws [(_, .inr (7, [.ref _, .ref _, .ref _, .int _, .int _, .ref _, .int _, .int _, .ref _, .long _])), (_, .inl (_, _, .inl _)), (_, .inl (_, _, .inl _)), (_, .inl (_, _, .inl _)), (_, .inl (_, _, .inl _)), (_, .inl (_, _, .inl _))] rfl ?_
  refine sw_iret 25 C RC dX7_setQuota_25 ?_
  exact ⟨rfl, rfl⟩
set_option maxHeartbeats 4000000 in
set_option maxRecDepth 100000 in
theorem ct_X7_setGrace (l : Launch) {D : va_G} {cI cJ cQ : ClassId} {b0 b1 b2 b3 b4 b5 : Nat} {sa pa ad tx nb : Nat → Int32} {th ty ap : Int32} {hh : Int64} {S : StT} {R : Nat → StT} {cn od B T : Nat} (hE : mE S sa) (hO : mO B T S) (hK : mK B T R cn od pa) (hcn : cn ≤ 4) (hod : od < 4) {x : Int32} (hx : inR x 0 200 = true) : Ct l yX7_setGrace (Cond.code yX7_setGrace cX7_setGrace 2 (some .int)) 2 44 0 0 D (tyz cI cJ cQ) [.ref b0, .int x] [(b0, .inr (7, [.ref b1, .ref b2, .ref b3, .int (nI cn), .int (th), .ref b4, .int (ty), .int (ap), .ref b5, .long (hh)])), (b1, .inl (cI, 424, .inl (sa))), (b2, .inl (cI, 1696, .inl (pa))), (b3, .inl (cI, 424, .inl (ad))), (b4, .inl (cI, 100, .inl (tx))), (b5, .inl (cI, 4, .inl (nb)))] (pstE (zg S) (fun f : (Nat → Int32) × (Nat → Int32) => mE (zg_ S x) f.1 ∧ mK B T (va_up R (svI cn od) S) (svC cn) (svO cn od) f.2) (fun f => [(b0, .inr (7, [.ref b1, .ref b2, .ref b3, .int (nI (svC cn)), .int (0), .ref b4, .int (ty), .int (ap), .ref b5, .long (hh)])), (b1, .inl (cI, 424, .inl (f.1))), (b2, .inl (cI, 1696, .inl (f.2))), (b3, .inl (cI, 424, .inl (ad))), (b4, .inl (cI, 100, .inl (tx))), (b5, .inl (cI, 4, .inl (nb)))])) := by
  refine Ct.of RX7 (by decide) rfl (Nat.le_of_ble_eq_true rfl) ?_
  intro p e s m below meth c A C RC
  refine sw_iload_n 0 1 C dX7_setGrace_0 rfl rfl ?_
  refine sw_iconst 1 C dX7_setGrace_1 0 (by decide) ?_
  refine sw_sipush 2 C dX7_setGrace_2 200 (by decide) ?_
  refine sw_callSIP 5 [] 3 C dX7_setGrace_5 (ct_X7_in l) wK_X7_in wM_X7_73 wT_X7_in wI_X7 hd_X7_in rfl ⟨rfl, rfl⟩ ⟨Nat.le_of_ble_eq_true rfl, Nat.le_of_ble_eq_true rfl⟩ rfl rfl rfl rfl ?_
  refine sw_if_eq 8 21 C dX7_setGrace_8 (by decide) (fun c_8 => ?_) (fun c_8 => ?_)
  · exact by first | exact absurd c_8 (by rw [hx]; decide) | exact absurd (by rw [hx]; decide) c_8
  refine sw_aload_n 11 0 C dX7_setGrace_11 rfl rfl ?_
  refine sw_bipush 12 C dX7_setGrace_12 9 (by decide) ?_
  refine sw_iload_n 14 1 C dX7_setGrace_14 rfl rfl ?_
  refine sw_callVI 15 [0, 1, 2, 3, 4, 5] 2 C dX7_setGrace_15 (ct_X7_sets l hcn 9 rfl (by decide)) wK_X7_sets wM_X7_80 wN_X7_sets wS_X7_X7_sets wI_X7 hd_X7_sets rfl rfl rfl ⟨rfl, rfl⟩ ⟨Nat.le_of_ble_eq_true rfl, Nat.le_of_ble_eq_true rfl⟩ rfl rfl rfl rfl rfl ?_
  refine sw_ws [(_, .inr (7, [.ref _, .ref _, .ref _, .int _, .int _, .ref _, .int _, .int _, .ref _, .long _])), (_, .inl (_, _, .inl _)), (_, .inl (_, _, .inl _)), (_, .inl (_, _, .inl _)), (_, .inl (_, _, .inl _)), (_, .inl (_, _, .inl _))] rfl ?_
  refine sw_goto 18 26 C dX7_setGrace_18 (by decide) ?_
  refine sw_iret 26 C RC dX7_setGrace_26 ?_
  exact ⟨by rw [hE.g], (_, _), ⟨mE_g hE x, mK_add hK hcn hod hE hO⟩, rfl⟩
set_option maxHeartbeats 4000000 in
set_option maxRecDepth 100000 in
theorem ct_X7_setGrace_2 (l : Launch) {D : va_G} {cI cJ cQ : ClassId} {b0 b1 b2 b3 b4 b5 : Nat} {sa pa ad tx nb : Nat → Int32} {kp th ty ap : Int32} {hh : Int64} {x : Int32} (hx : inR x 0 200 = false) : Ct l yX7_setGrace (Cond.code yX7_setGrace cX7_setGrace 2 (some .int)) 2 44 0 0 D (tyz cI cJ cQ) [.ref b0, .int x] [(b0, .inr (7, [.ref b1, .ref b2, .ref b3, .int (kp), .int (th), .ref b4, .int (ty), .int (ap), .ref b5, .long (hh)])), (b1, .inl (cI, 424, .inl (sa))), (b2, .inl (cI, 1696, .inl (pa))), (b3, .inl (cI, 424, .inl (ad))), (b4, .inl (cI, 100, .inl (tx))), (b5, .inl (cI, 4, .inl (nb)))] (pstI 0 [(b0, .inr (7, [.ref b1, .ref b2, .ref b3, .int (kp), .int (1), .ref b4, .int (ty), .int (ap), .ref b5, .long (hh)])), (b1, .inl (cI, 424, .inl (sa))), (b2, .inl (cI, 1696, .inl (pa))), (b3, .inl (cI, 424, .inl (ad))), (b4, .inl (cI, 100, .inl (tx))), (b5, .inl (cI, 4, .inl (nb)))]) := by
  refine Ct.of RX7 (by decide) rfl (Nat.le_of_ble_eq_true rfl) ?_
  intro p e s m below meth c A C RC
  refine sw_iload_n 0 1 C dX7_setGrace_0 rfl rfl ?_
  refine sw_iconst 1 C dX7_setGrace_1 0 (by decide) ?_
  refine sw_sipush 2 C dX7_setGrace_2 200 (by decide) ?_
  refine sw_callSIP 5 [] 3 C dX7_setGrace_5 (ct_X7_in l) wK_X7_in wM_X7_73 wT_X7_in wI_X7 hd_X7_in rfl ⟨rfl, rfl⟩ ⟨Nat.le_of_ble_eq_true rfl, Nat.le_of_ble_eq_true rfl⟩ rfl rfl rfl rfl ?_
  refine sw_if_eq 8 21 C dX7_setGrace_8 (by decide) (fun c_8 => ?_) (fun c_8 => ?_)
  rotate_left
  · exact by first | exact absurd c_8 (by rw [hx]; rfl) | exact absurd (by rw [hx]; rfl) c_8
  refine sw_aload_n 21 0 C dX7_setGrace_21 rfl rfl ?_
  refine sw_iconst 22 C dX7_setGrace_22 1 (by decide) ?_
  refine sw_callVI 23 [0, 1, 2, 3, 4, 5] 1 C dX7_setGrace_23 (ct_X7_fails l) wK_X7_fails wM_X7_77 wN_X7_fails wS_X7_X7_fails wI_X7 hd_X7_fails rfl rfl rfl ⟨rfl, rfl⟩ ⟨Nat.le_of_ble_eq_true rfl, Nat.le_of_ble_eq_true rfl⟩ rfl rfl rfl rfl rfl ?_
  refine sw_ws [(_, .inr (7, [.ref _, .ref _, .ref _, .int _, .int _, .ref _, .int _, .int _, .ref _, .long _])), (_, .inl (_, _, .inl _)), (_, .inl (_, _, .inl _)), (_, .inl (_, _, .inl _)), (_, .inl (_, _, .inl _)), (_, .inl (_, _, .inl _))] rfl ?_
  refine sw_iret 26 C RC dX7_setGrace_26 ?_
  exact ⟨rfl, rfl⟩
set_option maxHeartbeats 4000000 in
set_option maxRecDepth 100000 in
theorem ct_X7_setPatience (l : Launch) {D : va_G} {cI cJ cQ : ClassId} {b0 b1 b2 b3 b4 b5 : Nat} {sa pa ad tx nb : Nat → Int32} {th ty ap : Int32} {hh : Int64} {S : StT} {R : Nat → StT} {cn od B T : Nat} (hE : mE S sa) (hO : mO B T S) (hK : mK B T R cn od pa) (hcn : cn ≤ 4) (hod : od < 4) {x1 x2 : Int32} (r : Nat) (h1 : x1 = nI r) (hr : r < 4) (hx : inR x2 1 50 = true) : Ct l yX7_setPatience (Cond.code yX7_setPatience cX7_setPatience 3 (some .int)) 2 44 0 0 D (tyz cI cJ cQ) [.ref b0, .int x1, .int x2] [(b0, .inr (7, [.ref b1, .ref b2, .ref b3, .int (nI cn), .int (th), .ref b4, .int (ty), .int (ap), .ref b5, .long (hh)])), (b1, .inl (cI, 424, .inl (sa))), (b2, .inl (cI, 1696, .inl (pa))), (b3, .inl (cI, 424, .inl (ad))), (b4, .inl (cI, 100, .inl (tx))), (b5, .inl (cI, 4, .inl (nb)))] (pstE (zpat S r) (fun f : (Nat → Int32) × (Nat → Int32) => mE (zpat_ S r x2) f.1 ∧ mK B T (va_up R (svI cn od) S) (svC cn) (svO cn od) f.2) (fun f => [(b0, .inr (7, [.ref b1, .ref b2, .ref b3, .int (nI (svC cn)), .int (0), .ref b4, .int (ty), .int (ap), .ref b5, .long (hh)])), (b1, .inl (cI, 424, .inl (f.1))), (b2, .inl (cI, 1696, .inl (f.2))), (b3, .inl (cI, 424, .inl (ad))), (b4, .inl (cI, 100, .inl (tx))), (b5, .inl (cI, 4, .inl (nb)))])) := by
  refine Ct.of RX7 (by decide) rfl (Nat.le_of_ble_eq_true rfl) ?_
  intro p e s m below meth c A C RC
  subst h1
  refine sw_iload_n 0 1 C dX7_setPatience_0 rfl rfl ?_
  refine sw_iconst 1 C dX7_setPatience_1 0 (by decide) ?_
  refine sw_iconst 2 C dX7_setPatience_2 3 (by decide) ?_
  refine sw_callSIP 3 [] 3 C dX7_setPatience_3 (ct_X7_in l) wK_X7_in wM_X7_73 wT_X7_in wI_X7 hd_X7_in rfl ⟨rfl, rfl⟩ ⟨Nat.le_of_ble_eq_true rfl, Nat.le_of_ble_eq_true rfl⟩ rfl rfl rfl rfl ?_
  refine sw_if_ne 6 15 C dX7_setPatience_6 (by decide) (fun c_6 => ?_) (fun c_6 => ?_)
  rotate_left
  · exact by first | exact absurd c_6 (by rw [show inR (nI r) 0 3 = true from inR_nI 0 3 (by omega) (by omega) (by decide)]; decide) | exact absurd (by rw [show inR (nI r) 0 3 = true from inR_nI 0 3 (by omega) (by omega) (by decide)]; decide) c_6
  refine sw_iload_n 15 2 C dX7_setPatience_15 rfl rfl ?_
  refine sw_iconst 16 C dX7_setPatience_16 1 (by decide) ?_
  refine sw_bipush 17 C dX7_setPatience_17 50 (by decide) ?_
  refine sw_callSIP 19 [] 3 C dX7_setPatience_19 (ct_X7_in l) wK_X7_in wM_X7_73 wT_X7_in wI_X7 hd_X7_in rfl ⟨rfl, rfl⟩ ⟨Nat.le_of_ble_eq_true rfl, Nat.le_of_ble_eq_true rfl⟩ rfl rfl rfl rfl ?_
  refine sw_if_eq 22 37 C dX7_setPatience_22 (by decide) (fun c_22 => ?_) (fun c_22 => ?_)
  · exact by first | exact absurd c_22 (by rw [hx]; decide) | exact absurd (by rw [hx]; decide) c_22
  refine sw_aload_n 25 0 C dX7_setPatience_25 rfl rfl ?_
  refine sw_bipush 26 C dX7_setPatience_26 12 (by decide) ?_
  refine sw_iload_n 28 1 C dX7_setPatience_28 rfl rfl ?_
  refine sw_iadd 29 C dX7_setPatience_29 ?_
  refine sw_iload_n 30 2 C dX7_setPatience_30 rfl rfl ?_
  refine sw_callVI 31 [0, 1, 2, 3, 4, 5] 2 C dX7_setPatience_31 (ct_X7_sets l hcn (12 + r) (by rw [show (12 : Int32) = nI 12 from rfl, nI_add]) (by omega)) wK_X7_sets wM_X7_80 wN_X7_sets wS_X7_X7_sets wI_X7 hd_X7_sets rfl rfl rfl ⟨rfl, rfl⟩ ⟨Nat.le_of_ble_eq_true rfl, Nat.le_of_ble_eq_true rfl⟩ rfl rfl rfl rfl rfl ?_
  refine sw_ws [(_, .inr (7, [.ref _, .ref _, .ref _, .int _, .int _, .ref _, .int _, .int _, .ref _, .long _])), (_, .inl (_, _, .inl _)), (_, .inl (_, _, .inl _)), (_, .inl (_, _, .inl _)), (_, .inl (_, _, .inl _)), (_, .inl (_, _, .inl _))] rfl ?_
  refine sw_goto 34 42 C dX7_setPatience_34 (by decide) ?_
  refine sw_iret 42 C RC dX7_setPatience_42 ?_
  exact ⟨by rw [hE.pat r hr], (_, _), ⟨mE_pat hE hr x2, mK_add hK hcn hod hE hO⟩, rfl⟩
set_option maxHeartbeats 4000000 in
set_option maxRecDepth 100000 in
theorem ct_X7_setPatience_2 (l : Launch) {D : va_G} {cI cJ cQ : ClassId} {b0 b1 b2 b3 b4 b5 : Nat} {sa pa ad tx nb : Nat → Int32} {kp th ty ap : Int32} {hh : Int64} {x1 x2 : Int32} (hx : inR x1 0 3 = false) : Ct l yX7_setPatience (Cond.code yX7_setPatience cX7_setPatience 3 (some .int)) 2 44 0 0 D (tyz cI cJ cQ) [.ref b0, .int x1, .int x2] [(b0, .inr (7, [.ref b1, .ref b2, .ref b3, .int (kp), .int (th), .ref b4, .int (ty), .int (ap), .ref b5, .long (hh)])), (b1, .inl (cI, 424, .inl (sa))), (b2, .inl (cI, 1696, .inl (pa))), (b3, .inl (cI, 424, .inl (ad))), (b4, .inl (cI, 100, .inl (tx))), (b5, .inl (cI, 4, .inl (nb)))] (pstI 0 [(b0, .inr (7, [.ref b1, .ref b2, .ref b3, .int (kp), .int (1), .ref b4, .int (ty), .int (ap), .ref b5, .long (hh)])), (b1, .inl (cI, 424, .inl (sa))), (b2, .inl (cI, 1696, .inl (pa))), (b3, .inl (cI, 424, .inl (ad))), (b4, .inl (cI, 100, .inl (tx))), (b5, .inl (cI, 4, .inl (nb)))]) := by
  refine Ct.of RX7 (by decide) rfl (Nat.le_of_ble_eq_true rfl) ?_
  intro p e s m below meth c A C RC
  refine sw_iload_n 0 1 C dX7_setPatience_0 rfl rfl ?_
  refine sw_iconst 1 C dX7_setPatience_1 0 (by decide) ?_
  refine sw_iconst 2 C dX7_setPatience_2 3 (by decide) ?_
  refine sw_callSIP 3 [] 3 C dX7_setPatience_3 (ct_X7_in l) wK_X7_in wM_X7_73 wT_X7_in wI_X7 hd_X7_in rfl ⟨rfl, rfl⟩ ⟨Nat.le_of_ble_eq_true rfl, Nat.le_of_ble_eq_true rfl⟩ rfl rfl rfl rfl ?_
  refine sw_if_ne 6 15 C dX7_setPatience_6 (by decide) (fun c_6 => ?_) (fun c_6 => ?_)
  · exact by first | exact absurd c_6 (fun q => q (by rw [hx]; rfl)) | exact absurd (fun q => q (by rw [hx]; rfl)) c_6
  refine sw_aload_n 9 0 C dX7_setPatience_9 rfl rfl ?_
  refine sw_iconst 10 C dX7_setPatience_10 1 (by decide) ?_
  refine sw_callVI 11 [0, 1, 2, 3, 4, 5] 1 C dX7_setPatience_11 (ct_X7_fails l) wK_X7_fails wM_X7_77 wN_X7_fails wS_X7_X7_fails wI_X7 hd_X7_fails rfl rfl rfl ⟨rfl, rfl⟩ ⟨Nat.le_of_ble_eq_true rfl, Nat.le_of_ble_eq_true rfl⟩ rfl rfl rfl rfl rfl ?_
  refine sw_ws [(_, .inr (7, [.ref _, .ref _, .ref _, .int _, .int _, .ref _, .int _, .int _, .ref _, .long _])), (_, .inl (_, _, .inl _)), (_, .inl (_, _, .inl _)), (_, .inl (_, _, .inl _)), (_, .inl (_, _, .inl _)), (_, .inl (_, _, .inl _))] rfl ?_
  refine sw_iret 14 C RC dX7_setPatience_14 ?_
  exact ⟨rfl, rfl⟩
set_option maxHeartbeats 4000000 in
set_option maxRecDepth 100000 in
theorem ct_X7_setPatience_3 (l : Launch) {D : va_G} {cI cJ cQ : ClassId} {b0 b1 b2 b3 b4 b5 : Nat} {sa pa ad tx nb : Nat → Int32} {kp th ty ap : Int32} {hh : Int64} {x1 x2 : Int32} (h : inR x1 0 3 = true) (hx : inR x2 1 50 = false) : Ct l yX7_setPatience (Cond.code yX7_setPatience cX7_setPatience 3 (some .int)) 2 44 0 0 D (tyz cI cJ cQ) [.ref b0, .int x1, .int x2] [(b0, .inr (7, [.ref b1, .ref b2, .ref b3, .int (kp), .int (th), .ref b4, .int (ty), .int (ap), .ref b5, .long (hh)])), (b1, .inl (cI, 424, .inl (sa))), (b2, .inl (cI, 1696, .inl (pa))), (b3, .inl (cI, 424, .inl (ad))), (b4, .inl (cI, 100, .inl (tx))), (b5, .inl (cI, 4, .inl (nb)))] (pstI 0 [(b0, .inr (7, [.ref b1, .ref b2, .ref b3, .int (kp), .int (2), .ref b4, .int (ty), .int (ap), .ref b5, .long (hh)])), (b1, .inl (cI, 424, .inl (sa))), (b2, .inl (cI, 1696, .inl (pa))), (b3, .inl (cI, 424, .inl (ad))), (b4, .inl (cI, 100, .inl (tx))), (b5, .inl (cI, 4, .inl (nb)))]) := by
  refine Ct.of RX7 (by decide) rfl (Nat.le_of_ble_eq_true rfl) ?_
  intro p e s m below meth c A C RC
  refine sw_iload_n 0 1 C dX7_setPatience_0 rfl rfl ?_
  refine sw_iconst 1 C dX7_setPatience_1 0 (by decide) ?_
  refine sw_iconst 2 C dX7_setPatience_2 3 (by decide) ?_
  refine sw_callSIP 3 [] 3 C dX7_setPatience_3 (ct_X7_in l) wK_X7_in wM_X7_73 wT_X7_in wI_X7 hd_X7_in rfl ⟨rfl, rfl⟩ ⟨Nat.le_of_ble_eq_true rfl, Nat.le_of_ble_eq_true rfl⟩ rfl rfl rfl rfl ?_
  refine sw_if_ne 6 15 C dX7_setPatience_6 (by decide) (fun c_6 => ?_) (fun c_6 => ?_)
  rotate_left
  · exact by first | exact absurd c_6 (by rw [h]; decide) | exact absurd (by rw [h]; decide) c_6
  refine sw_iload_n 15 2 C dX7_setPatience_15 rfl rfl ?_
  refine sw_iconst 16 C dX7_setPatience_16 1 (by decide) ?_
  refine sw_bipush 17 C dX7_setPatience_17 50 (by decide) ?_
  refine sw_callSIP 19 [] 3 C dX7_setPatience_19 (ct_X7_in l) wK_X7_in wM_X7_73 wT_X7_in wI_X7 hd_X7_in rfl ⟨rfl, rfl⟩ ⟨Nat.le_of_ble_eq_true rfl, Nat.le_of_ble_eq_true rfl⟩ rfl rfl rfl rfl ?_
  refine sw_if_eq 22 37 C dX7_setPatience_22 (by decide) (fun c_22 => ?_) (fun c_22 => ?_)
  rotate_left
  · exact by first | exact absurd c_22 (by rw [hx]; rfl) | exact absurd (by rw [hx]; rfl) c_22
  refine sw_aload_n 37 0 C dX7_setPatience_37 rfl rfl ?_
  refine sw_iconst 38 C dX7_setPatience_38 2 (by decide) ?_
  refine sw_callVI 39 [0, 1, 2, 3, 4, 5] 1 C dX7_setPatience_39 (ct_X7_fails l) wK_X7_fails wM_X7_77 wN_X7_fails wS_X7_X7_fails wI_X7 hd_X7_fails rfl rfl rfl ⟨rfl, rfl⟩ ⟨Nat.le_of_ble_eq_true rfl, Nat.le_of_ble_eq_true rfl⟩ rfl rfl rfl rfl rfl ?_
  refine sw_ws [(_, .inr (7, [.ref _, .ref _, .ref _, .int _, .int _, .ref _, .int _, .int _, .ref _, .long _])), (_, .inl (_, _, .inl _)), (_, .inl (_, _, .inl _)), (_, .inl (_, _, .inl _)), (_, .inl (_, _, .inl _)), (_, .inl (_, _, .inl _))] rfl ?_
  refine sw_iret 42 C RC dX7_setPatience_42 ?_
  exact ⟨rfl, rfl⟩
set_option maxHeartbeats 4000000 in
set_option maxRecDepth 100000 in
theorem ct_X7_puts (l : Launch) {D : va_G} {cI cJ cQ : ClassId} {b0 b1 b2 b3 b4 b5 : Nat} {sa pa ad tx nb : Nat → Int32} {th ty ap : Int32} {hh : Int64} {S : StT} {R : Nat → StT} {cn od B T : Nat} (hE : mE S sa) (hO : mO B T S) (hK : mK B T R cn od pa) (hcn : cn ≤ 4) (hod : od < 4) {x1 x2 x3 x4 x5 : Int32} (hm : hrf (zf S) (zn S) (zq S) x1 x2 = true) : Ct l yX7_puts (Cond.code yX7_puts cX7_puts 6 (some .int)) 3 67 0 0 D (tyz cI cJ cQ) [.ref b0, .int x1, .int x2, .int x3, .int x4, .int x5] [(b0, .inr (7, [.ref b1, .ref b2, .ref b3, .int (nI cn), .int (th), .ref b4, .int (ty), .int (ap), .ref b5, .long (hh)])), (b1, .inl (cI, 424, .inl (sa))), (b2, .inl (cI, 1696, .inl (pa))), (b3, .inl (cI, 424, .inl (ad))), (b4, .inl (cI, 100, .inl (tx))), (b5, .inl (cI, 4, .inl (nb)))] (pstE (zp S) (fun f : (Nat → Int32) × (Nat → Int32) => mE (pinS S x1 x2 x3 x4 x5) f.1 ∧ mK B T (va_up R (svI cn od) S) (svC cn) (svO cn od) f.2) (fun f => [(b0, .inr (7, [.ref b1, .ref b2, .ref b3, .int (nI (svC cn)), .int (0), .ref b4, .int (ty), .int (ap), .ref b5, .long (hh)])), (b1, .inl (cI, 424, .inl (f.1))), (b2, .inl (cI, 1696, .inl (f.2))), (b3, .inl (cI, 424, .inl (ad))), (b4, .inl (cI, 100, .inl (tx))), (b5, .inl (cI, 4, .inl (nb)))])) := by
  refine Ct.of RX7 (by decide) rfl (Nat.le_of_ble_eq_true rfl) ?_
  intro p e s m below meth c A C RC
  refine sw_aload_n 0 0 C dX7_puts_0 rfl rfl ?_
  refine sw_iload_n 1 1 C dX7_puts_1 rfl rfl ?_
  refine sw_iload_n 2 2 C dX7_puts_2 rfl rfl ?_
  refine sw_callVIP 3 [0, 1, 2, 3, 4, 5] 2 C dX7_puts_3 (ct_X7_isRoom l hE hO) wK_X7_isRoom wM_X7_87 wN_X7_isRoom wS_X7_X7_isRoom wI_X7 hd_X7_isRoom rfl rfl rfl ⟨rfl, rfl⟩ ⟨Nat.le_of_ble_eq_true rfl, Nat.le_of_ble_eq_true rfl⟩ rfl rfl rfl rfl ?_
  refine sw_if_ne 6 15 C dX7_puts_6 (by decide) (fun c_6 => ?_) (fun c_6 => ?_)
  rotate_left
  · exact by first | exact absurd c_6 (by rw [hm]; decide) | exact absurd (by rw [hm]; decide) c_6
  refine sw_aload_n 15 0 C dX7_puts_15 rfl rfl ?_
  refine sw_callVV 16 [0, 1, 2, 3, 4, 5] 0 C dX7_puts_16 (ct_X7_keeps l hcn) wK_X7_keeps wM_X7_67 wN_X7_keeps wS_X7_X7_keeps wI_X7 hd_X7_keeps rfl rfl rfl ⟨rfl, rfl⟩ ⟨Nat.le_of_ble_eq_true rfl, Nat.le_of_ble_eq_true rfl⟩ rfl rfl rfl rfl rfl ?_
  refine sw_ws [(_, .inr (7, [.ref _, .ref _, .ref _, .int _, .int _, .ref _, .int _, .int _, .ref _, .long _])), (_, .inl (_, _, .inl _)), (_, .inl (_, _, .inl _)), (_, .inl (_, _, .inl _)), (_, .inl (_, _, .inl _)), (_, .inl (_, _, .inl _))] rfl ?_
  refine sw_aload_n 19 0 C dX7_puts_19 rfl rfl ?_
  refine sw_aload_n 20 0 C dX7_puts_20 rfl rfl ?_
  refine sw_iload_n 21 1 C dX7_puts_21 rfl rfl ?_
  refine sw_iload_n 22 2 C dX7_puts_22 rfl rfl ?_
  refine sw_iload_n 23 3 C dX7_puts_23 rfl rfl ?_
  refine sw_iload 24 C dX7_puts_24 rfl ?_
  refine sw_iload 26 C dX7_puts_26 rfl ?_
  refine sw_callVE 28 [0, 1, 2, 3, 4, 5] 5 C dX7_puts_28 (ct_X7_comes l hE hO (hrf_lt hm)) wK_X7_comes wM_X7_90 wN_X7_comes wS_X7_X7_comes wI_X7 hd_X7_comes rfl rfl rfl ⟨rfl, rfl⟩ ⟨Nat.le_of_ble_eq_true rfl, Nat.le_of_ble_eq_true rfl⟩ rfl rfl rfl (fun _ => rfl) rfl (fun f1 h1 => ?_)
  refine sw_ws [(_, .inr (7, [.ref _, .ref _, .ref _, .int _, .int _, .ref _, .int _, .int _, .ref _, .long _])), (_, .inl (_, _, .inl _)), (_, .inl (_, _, .inl _)), (_, .inl (_, _, .inl _)), (_, .inl (_, _, .inl _)), (_, .inl (_, _, .inl _))] rfl ?_
  refine sw_callVI 31 [0, 1, 2, 3, 4, 5] 1 C dX7_puts_31 (ct_X7_tells l) wK_X7_tells wM_X7_70 wN_X7_tells wS_X7_X7_tells wI_X7 hd_X7_tells rfl rfl rfl ⟨rfl, rfl⟩ ⟨Nat.le_of_ble_eq_true rfl, Nat.le_of_ble_eq_true rfl⟩ rfl rfl rfl rfl rfl ?_
  refine sw_ws [(_, .inr (7, [.ref _, .ref _, .ref _, .int _, .int _, .ref _, .int _, .int _, .ref _, .long _])), (_, .inl (_, _, .inl _)), (_, .inl (_, _, .inl _)), (_, .inl (_, _, .inl _)), (_, .inl (_, _, .inl _)), (_, .inl (_, _, .inl _))] rfl ?_
  refine sw_iret 34 C RC dX7_puts_34 ?_
  exact ⟨rfl, (f1, _), ⟨h1, mK_add hK hcn hod hE hO⟩, rfl⟩
set_option maxHeartbeats 4000000 in
set_option maxRecDepth 100000 in
theorem ct_X7_puts_2 (l : Launch) {D : va_G} {cI cJ cQ : ClassId} {b0 b1 b2 b3 b4 b5 : Nat} {sa pa ad tx nb : Nat → Int32} {kp th ty ap : Int32} {hh : Int64} {S : StT} {B T : Nat} (hE : mE S sa) (hO : mO B T S) {x1 x2 x3 x4 x5 : Int32} (hm : hrf (zf S) (zn S) (zq S) x1 x2 = false) : Ct l yX7_puts (Cond.code yX7_puts cX7_puts 6 (some .int)) 3 67 0 0 D (tyz cI cJ cQ) [.ref b0, .int x1, .int x2, .int x3, .int x4, .int x5] [(b0, .inr (7, [.ref b1, .ref b2, .ref b3, .int (kp), .int (th), .ref b4, .int (ty), .int (ap), .ref b5, .long (hh)])), (b1, .inl (cI, 424, .inl (sa))), (b2, .inl (cI, 1696, .inl (pa))), (b3, .inl (cI, 424, .inl (ad))), (b4, .inl (cI, 100, .inl (tx))), (b5, .inl (cI, 4, .inl (nb)))] (pstI 0 [(b0, .inr (7, [.ref b1, .ref b2, .ref b3, .int (kp), .int (2), .ref b4, .int (ty), .int (ap), .ref b5, .long (hh)])), (b1, .inl (cI, 424, .inl (sa))), (b2, .inl (cI, 1696, .inl (pa))), (b3, .inl (cI, 424, .inl (ad))), (b4, .inl (cI, 100, .inl (tx))), (b5, .inl (cI, 4, .inl (nb)))]) := by
  refine Ct.of RX7 (by decide) rfl (Nat.le_of_ble_eq_true rfl) ?_
  intro p e s m below meth c A C RC
  refine sw_aload_n 0 0 C dX7_puts_0 rfl rfl ?_
  refine sw_iload_n 1 1 C dX7_puts_1 rfl rfl ?_
  refine sw_iload_n 2 2 C dX7_puts_2 rfl rfl ?_
  refine sw_callVIP 3 [0, 1, 2, 3, 4, 5] 2 C dX7_puts_3 (ct_X7_isRoom l hE hO) wK_X7_isRoom wM_X7_87 wN_X7_isRoom wS_X7_X7_isRoom wI_X7 hd_X7_isRoom rfl rfl rfl ⟨rfl, rfl⟩ ⟨Nat.le_of_ble_eq_true rfl, Nat.le_of_ble_eq_true rfl⟩ rfl rfl rfl rfl ?_
  refine sw_if_ne 6 15 C dX7_puts_6 (by decide) (fun c_6 => ?_) (fun c_6 => ?_)
  · exact by first | exact absurd c_6 (fun q => q (by rw [hm]; rfl)) | exact absurd (fun q => q (by rw [hm]; rfl)) c_6
  refine sw_aload_n 9 0 C dX7_puts_9 rfl rfl ?_
  refine sw_iconst 10 C dX7_puts_10 2 (by decide) ?_
  refine sw_callVI 11 [0, 1, 2, 3, 4, 5] 1 C dX7_puts_11 (ct_X7_fails l) wK_X7_fails wM_X7_77 wN_X7_fails wS_X7_X7_fails wI_X7 hd_X7_fails rfl rfl rfl ⟨rfl, rfl⟩ ⟨Nat.le_of_ble_eq_true rfl, Nat.le_of_ble_eq_true rfl⟩ rfl rfl rfl rfl rfl ?_
  refine sw_ws [(_, .inr (7, [.ref _, .ref _, .ref _, .int _, .int _, .ref _, .int _, .int _, .ref _, .long _])), (_, .inl (_, _, .inl _)), (_, .inl (_, _, .inl _)), (_, .inl (_, _, .inl _)), (_, .inl (_, _, .inl _)), (_, .inl (_, _, .inl _))] rfl ?_
  refine sw_iret 14 C RC dX7_puts_14 ?_
  exact ⟨rfl, rfl⟩
set_option maxHeartbeats 4000000 in
set_option maxRecDepth 100000 in
theorem ct_X7_send (l : Launch) {D : va_G} {cI cJ cQ : ClassId} {b0 b1 b2 b3 b4 b5 : Nat} {sa pa ad tx nb : Nat → Int32} {th ty ap : Int32} {hh : Int64} {S : StT} {R : Nat → StT} {cn od B T : Nat} (hE : mE S sa) (hO : mO B T S) (hK : mK B T R cn od pa) (hcn : cn ≤ 4) (hod : od < 4) {x1 x2 x3 : Int32} (ho : okSn x1 x2 x3 = true) (hm : hrf (zf S) (zn S) (zq S) x1 (-1) = true) : Ct l yX7_send (Cond.code yX7_send cX7_send 4 (some .int)) 4 92 0 0 D (tyz cI cJ cQ) [.ref b0, .int x1, .int x2, .int x3] [(b0, .inr (7, [.ref b1, .ref b2, .ref b3, .int (nI cn), .int (th), .ref b4, .int (ty), .int (ap), .ref b5, .long (hh)])), (b1, .inl (cI, 424, .inl (sa))), (b2, .inl (cI, 1696, .inl (pa))), (b3, .inl (cI, 424, .inl (ad))), (b4, .inl (cI, 100, .inl (tx))), (b5, .inl (cI, 4, .inl (nb)))] (pstE (zp S) (fun f : (Nat → Int32) × (Nat → Int32) => mE (pinS S x1 (-1) x2 x3 0) f.1 ∧ mK B T (va_up R (svI cn od) S) (svC cn) (svO cn od) f.2) (fun f => [(b0, .inr (7, [.ref b1, .ref b2, .ref b3, .int (nI (svC cn)), .int (0), .ref b4, .int (ty), .int (ap), .ref b5, .long (hh)])), (b1, .inl (cI, 424, .inl (f.1))), (b2, .inl (cI, 1696, .inl (f.2))), (b3, .inl (cI, 424, .inl (ad))), (b4, .inl (cI, 100, .inl (tx))), (b5, .inl (cI, 4, .inl (nb)))])) := by
  refine Ct.of RX7 (by decide) rfl (Nat.le_of_ble_eq_true rfl) ?_
  intro p e s m below meth c A C RC
  refine sw_iload_n 0 1 C dX7_send_0 rfl rfl ?_
  refine sw_iload_n 1 2 C dX7_send_1 rfl rfl ?_
  refine sw_iload_n 2 3 C dX7_send_2 rfl rfl ?_
  refine sw_callSIP 3 [] 3 C dX7_send_3 (ct_X7_isPetition l) wK_X7_isPetition wM_X7_94 wT_X7_isPetition wI_X7 hd_X7_isPetition rfl ⟨rfl, rfl⟩ ⟨Nat.le_of_ble_eq_true rfl, Nat.le_of_ble_eq_true rfl⟩ rfl rfl rfl rfl ?_
  refine sw_if_eq 6 21 C dX7_send_6 (by decide) (fun c_6 => ?_) (fun c_6 => ?_)
  · exact by first | exact absurd c_6 (by rw [ho]; decide) | exact absurd (by rw [ho]; decide) c_6
  refine sw_aload_n 9 0 C dX7_send_9 rfl rfl ?_
  refine sw_iload_n 10 1 C dX7_send_10 rfl rfl ?_
  refine sw_iconst 11 C dX7_send_11 (-1) (by decide) ?_
  refine sw_iload_n 12 2 C dX7_send_12 rfl rfl ?_
  refine sw_iload_n 13 3 C dX7_send_13 rfl rfl ?_
  refine sw_iconst 14 C dX7_send_14 0 (by decide) ?_
  refine sw_callVE 15 [0, 1, 2, 3, 4, 5] 5 C dX7_send_15 (ct_X7_puts l hE hO hK hcn hod hm) wK_X7_puts wM_X7_97 wN_X7_puts wS_X7_X7_puts wI_X7 hd_X7_puts rfl rfl rfl ⟨rfl, rfl⟩ ⟨Nat.le_of_ble_eq_true rfl, Nat.le_of_ble_eq_true rfl⟩ rfl rfl rfl (fun _ => rfl) rfl (fun f1 h1 => ?_)
  refine sw_ws [(_, .inr (7, [.ref _, .ref _, .ref _, .int _, .int _, .ref _, .int _, .int _, .ref _, .long _])), (_, .inl (_, _, .inl _)), (_, .inl (_, _, .inl _)), (_, .inl (_, _, .inl _)), (_, .inl (_, _, .inl _)), (_, .inl (_, _, .inl _))] rfl ?_
  refine sw_goto 18 26 C dX7_send_18 (by decide) ?_
  refine sw_iret 26 C RC dX7_send_26 ?_
  exact ⟨rfl, f1, h1, rfl⟩
set_option maxHeartbeats 4000000 in
set_option maxRecDepth 100000 in
theorem ct_X7_send_2 (l : Launch) {D : va_G} {cI cJ cQ : ClassId} {b0 b1 b2 b3 b4 b5 : Nat} {sa pa ad tx nb : Nat → Int32} {kp th ty ap : Int32} {hh : Int64} {S : StT} {B T : Nat} (hE : mE S sa) (hO : mO B T S) {x1 x2 x3 : Int32} (ho : okSn x1 x2 x3 = true) (hm : hrf (zf S) (zn S) (zq S) x1 (-1) = false) : Ct l yX7_send (Cond.code yX7_send cX7_send 4 (some .int)) 4 92 0 0 D (tyz cI cJ cQ) [.ref b0, .int x1, .int x2, .int x3] [(b0, .inr (7, [.ref b1, .ref b2, .ref b3, .int (kp), .int (th), .ref b4, .int (ty), .int (ap), .ref b5, .long (hh)])), (b1, .inl (cI, 424, .inl (sa))), (b2, .inl (cI, 1696, .inl (pa))), (b3, .inl (cI, 424, .inl (ad))), (b4, .inl (cI, 100, .inl (tx))), (b5, .inl (cI, 4, .inl (nb)))] (pstI 0 [(b0, .inr (7, [.ref b1, .ref b2, .ref b3, .int (kp), .int (2), .ref b4, .int (ty), .int (ap), .ref b5, .long (hh)])), (b1, .inl (cI, 424, .inl (sa))), (b2, .inl (cI, 1696, .inl (pa))), (b3, .inl (cI, 424, .inl (ad))), (b4, .inl (cI, 100, .inl (tx))), (b5, .inl (cI, 4, .inl (nb)))]) := by
  refine Ct.of RX7 (by decide) rfl (Nat.le_of_ble_eq_true rfl) ?_
  intro p e s m below meth c A C RC
  refine sw_iload_n 0 1 C dX7_send_0 rfl rfl ?_
  refine sw_iload_n 1 2 C dX7_send_1 rfl rfl ?_
  refine sw_iload_n 2 3 C dX7_send_2 rfl rfl ?_
  refine sw_callSIP 3 [] 3 C dX7_send_3 (ct_X7_isPetition l) wK_X7_isPetition wM_X7_94 wT_X7_isPetition wI_X7 hd_X7_isPetition rfl ⟨rfl, rfl⟩ ⟨Nat.le_of_ble_eq_true rfl, Nat.le_of_ble_eq_true rfl⟩ rfl rfl rfl rfl ?_
  refine sw_if_eq 6 21 C dX7_send_6 (by decide) (fun c_6 => ?_) (fun c_6 => ?_)
  · exact by first | exact absurd c_6 (by rw [ho]; decide) | exact absurd (by rw [ho]; decide) c_6
  refine sw_aload_n 9 0 C dX7_send_9 rfl rfl ?_
  refine sw_iload_n 10 1 C dX7_send_10 rfl rfl ?_
  refine sw_iconst 11 C dX7_send_11 (-1) (by decide) ?_
  refine sw_iload_n 12 2 C dX7_send_12 rfl rfl ?_
  refine sw_iload_n 13 3 C dX7_send_13 rfl rfl ?_
  refine sw_iconst 14 C dX7_send_14 0 (by decide) ?_
  refine sw_callVI 15 [0, 1, 2, 3, 4, 5] 5 C dX7_send_15 (ct_X7_puts_2 l hE hO hm) wK_X7_puts wM_X7_97 wN_X7_puts wS_X7_X7_puts wI_X7 hd_X7_puts rfl rfl rfl ⟨rfl, rfl⟩ ⟨Nat.le_of_ble_eq_true rfl, Nat.le_of_ble_eq_true rfl⟩ rfl rfl rfl rfl rfl ?_
  refine sw_ws [(_, .inr (7, [.ref _, .ref _, .ref _, .int _, .int _, .ref _, .int _, .int _, .ref _, .long _])), (_, .inl (_, _, .inl _)), (_, .inl (_, _, .inl _)), (_, .inl (_, _, .inl _)), (_, .inl (_, _, .inl _)), (_, .inl (_, _, .inl _))] rfl ?_
  refine sw_goto 18 26 C dX7_send_18 (by decide) ?_
  refine sw_iret 26 C RC dX7_send_26 ?_
  exact ⟨rfl, rfl⟩
set_option maxHeartbeats 4000000 in
set_option maxRecDepth 100000 in
theorem ct_X7_send_3 (l : Launch) {D : va_G} {cI cJ cQ : ClassId} {b0 b1 b2 b3 b4 b5 : Nat} {sa pa ad tx nb : Nat → Int32} {kp th ty ap : Int32} {hh : Int64} {x1 x2 x3 : Int32} (ho : okSn x1 x2 x3 = false) : Ct l yX7_send (Cond.code yX7_send cX7_send 4 (some .int)) 4 92 0 0 D (tyz cI cJ cQ) [.ref b0, .int x1, .int x2, .int x3] [(b0, .inr (7, [.ref b1, .ref b2, .ref b3, .int (kp), .int (th), .ref b4, .int (ty), .int (ap), .ref b5, .long (hh)])), (b1, .inl (cI, 424, .inl (sa))), (b2, .inl (cI, 1696, .inl (pa))), (b3, .inl (cI, 424, .inl (ad))), (b4, .inl (cI, 100, .inl (tx))), (b5, .inl (cI, 4, .inl (nb)))] (pstI 0 [(b0, .inr (7, [.ref b1, .ref b2, .ref b3, .int (kp), .int (1), .ref b4, .int (ty), .int (ap), .ref b5, .long (hh)])), (b1, .inl (cI, 424, .inl (sa))), (b2, .inl (cI, 1696, .inl (pa))), (b3, .inl (cI, 424, .inl (ad))), (b4, .inl (cI, 100, .inl (tx))), (b5, .inl (cI, 4, .inl (nb)))]) := by
  refine Ct.of RX7 (by decide) rfl (Nat.le_of_ble_eq_true rfl) ?_
  intro p e s m below meth c A C RC
  refine sw_iload_n 0 1 C dX7_send_0 rfl rfl ?_
  refine sw_iload_n 1 2 C dX7_send_1 rfl rfl ?_
  refine sw_iload_n 2 3 C dX7_send_2 rfl rfl ?_
  refine sw_callSIP 3 [] 3 C dX7_send_3 (ct_X7_isPetition l) wK_X7_isPetition wM_X7_94 wT_X7_isPetition wI_X7 hd_X7_isPetition rfl ⟨rfl, rfl⟩ ⟨Nat.le_of_ble_eq_true rfl, Nat.le_of_ble_eq_true rfl⟩ rfl rfl rfl rfl ?_
  refine sw_if_eq 6 21 C dX7_send_6 (by decide) (fun c_6 => ?_) (fun c_6 => ?_)
  rotate_left
  · exact by first | exact absurd c_6 (by rw [ho]; rfl) | exact absurd (by rw [ho]; rfl) c_6
  refine sw_aload_n 21 0 C dX7_send_21 rfl rfl ?_
  refine sw_iconst 22 C dX7_send_22 1 (by decide) ?_
  refine sw_callVI 23 [0, 1, 2, 3, 4, 5] 1 C dX7_send_23 (ct_X7_fails l) wK_X7_fails wM_X7_77 wN_X7_fails wS_X7_X7_fails wI_X7 hd_X7_fails rfl rfl rfl ⟨rfl, rfl⟩ ⟨Nat.le_of_ble_eq_true rfl, Nat.le_of_ble_eq_true rfl⟩ rfl rfl rfl rfl rfl ?_
  refine sw_ws [(_, .inr (7, [.ref _, .ref _, .ref _, .int _, .int _, .ref _, .int _, .int _, .ref _, .long _])), (_, .inl (_, _, .inl _)), (_, .inl (_, _, .inl _)), (_, .inl (_, _, .inl _)), (_, .inl (_, _, .inl _)), (_, .inl (_, _, .inl _))] rfl ?_
  refine sw_iret 26 C RC dX7_send_26 ?_
  exact ⟨rfl, rfl⟩
set_option maxHeartbeats 4000000 in
set_option maxRecDepth 100000 in
theorem ct_X7_sendBribed (l : Launch) {D : va_G} {cI cJ cQ : ClassId} {b0 b1 b2 b3 b4 b5 : Nat} {sa pa ad tx nb : Nat → Int32} {th ty ap : Int32} {hh : Int64} {S : StT} {R : Nat → StT} {cn od B T : Nat} (hE : mE S sa) (hO : mO B T S) (hK : mK B T R cn od pa) (hcn : cn ≤ 4) (hod : od < 4) {x1 x2 x3 x4 : Int32} (ho : okSn x1 x2 x3 = true) (hb : inR x4 1 100 = true) (hm : hrf (zf S) (zn S) (zq S) x1 (-1) = true) : Ct l yX7_sendBribed (Cond.code yX7_sendBribed cX7_sendBribed 5 (some .int)) 4 92 0 0 D (tyz cI cJ cQ) [.ref b0, .int x1, .int x2, .int x3, .int x4] [(b0, .inr (7, [.ref b1, .ref b2, .ref b3, .int (nI cn), .int (th), .ref b4, .int (ty), .int (ap), .ref b5, .long (hh)])), (b1, .inl (cI, 424, .inl (sa))), (b2, .inl (cI, 1696, .inl (pa))), (b3, .inl (cI, 424, .inl (ad))), (b4, .inl (cI, 100, .inl (tx))), (b5, .inl (cI, 4, .inl (nb)))] (pstE (zp S) (fun f : (Nat → Int32) × (Nat → Int32) => mE (pinS S x1 (-1) x2 x3 x4) f.1 ∧ mK B T (va_up R (svI cn od) S) (svC cn) (svO cn od) f.2) (fun f => [(b0, .inr (7, [.ref b1, .ref b2, .ref b3, .int (nI (svC cn)), .int (0), .ref b4, .int (ty), .int (ap), .ref b5, .long (hh)])), (b1, .inl (cI, 424, .inl (f.1))), (b2, .inl (cI, 1696, .inl (f.2))), (b3, .inl (cI, 424, .inl (ad))), (b4, .inl (cI, 100, .inl (tx))), (b5, .inl (cI, 4, .inl (nb)))])) := by
  refine Ct.of RX7 (by decide) rfl (Nat.le_of_ble_eq_true rfl) ?_
  intro p e s m below meth c A C RC
  refine sw_iload_n 0 1 C dX7_sendBribed_0 rfl rfl ?_
  refine sw_iload_n 1 2 C dX7_sendBribed_1 rfl rfl ?_
  refine sw_iload_n 2 3 C dX7_sendBribed_2 rfl rfl ?_
  refine sw_callSIP 3 [] 3 C dX7_sendBribed_3 (ct_X7_isPetition l) wK_X7_isPetition wM_X7_94 wT_X7_isPetition wI_X7 hd_X7_isPetition rfl ⟨rfl, rfl⟩ ⟨Nat.le_of_ble_eq_true rfl, Nat.le_of_ble_eq_true rfl⟩ rfl rfl rfl rfl ?_
  refine sw_if_eq 6 33 C dX7_sendBribed_6 (by decide) (fun c_6 => ?_) (fun c_6 => ?_)
  · exact by first | exact absurd c_6 (by rw [ho]; decide) | exact absurd (by rw [ho]; decide) c_6
  refine sw_iload 9 C dX7_sendBribed_9 rfl ?_
  refine sw_iconst 11 C dX7_sendBribed_11 1 (by decide) ?_
  refine sw_bipush 12 C dX7_sendBribed_12 100 (by decide) ?_
  refine sw_callSIP 14 [] 3 C dX7_sendBribed_14 (ct_X7_in l) wK_X7_in wM_X7_73 wT_X7_in wI_X7 hd_X7_in rfl ⟨rfl, rfl⟩ ⟨Nat.le_of_ble_eq_true rfl, Nat.le_of_ble_eq_true rfl⟩ rfl rfl rfl rfl ?_
  refine sw_if_eq 17 33 C dX7_sendBribed_17 (by decide) (fun c_17 => ?_) (fun c_17 => ?_)
  · exact by first | exact absurd c_17 (by rw [hb]; decide) | exact absurd (by rw [hb]; decide) c_17
  refine sw_aload_n 20 0 C dX7_sendBribed_20 rfl rfl ?_
  refine sw_iload_n 21 1 C dX7_sendBribed_21 rfl rfl ?_
  refine sw_iconst 22 C dX7_sendBribed_22 (-1) (by decide) ?_
  refine sw_iload_n 23 2 C dX7_sendBribed_23 rfl rfl ?_
  refine sw_iload_n 24 3 C dX7_sendBribed_24 rfl rfl ?_
  refine sw_iload 25 C dX7_sendBribed_25 rfl ?_
  refine sw_callVE 27 [0, 1, 2, 3, 4, 5] 5 C dX7_sendBribed_27 (ct_X7_puts l hE hO hK hcn hod hm) wK_X7_puts wM_X7_97 wN_X7_puts wS_X7_X7_puts wI_X7 hd_X7_puts rfl rfl rfl ⟨rfl, rfl⟩ ⟨Nat.le_of_ble_eq_true rfl, Nat.le_of_ble_eq_true rfl⟩ rfl rfl rfl (fun _ => rfl) rfl (fun f1 h1 => ?_)
  refine sw_ws [(_, .inr (7, [.ref _, .ref _, .ref _, .int _, .int _, .ref _, .int _, .int _, .ref _, .long _])), (_, .inl (_, _, .inl _)), (_, .inl (_, _, .inl _)), (_, .inl (_, _, .inl _)), (_, .inl (_, _, .inl _)), (_, .inl (_, _, .inl _))] rfl ?_
  refine sw_goto 30 38 C dX7_sendBribed_30 (by decide) ?_
  refine sw_iret 38 C RC dX7_sendBribed_38 ?_
  exact ⟨rfl, f1, h1, rfl⟩
set_option maxHeartbeats 4000000 in
set_option maxRecDepth 100000 in
theorem ct_X7_sendBribed_2 (l : Launch) {D : va_G} {cI cJ cQ : ClassId} {b0 b1 b2 b3 b4 b5 : Nat} {sa pa ad tx nb : Nat → Int32} {kp th ty ap : Int32} {hh : Int64} {S : StT} {B T : Nat} (hE : mE S sa) (hO : mO B T S) {x1 x2 x3 x4 : Int32} (ho : okSn x1 x2 x3 = true) (hb : inR x4 1 100 = true) (hm : hrf (zf S) (zn S) (zq S) x1 (-1) = false) : Ct l yX7_sendBribed (Cond.code yX7_sendBribed cX7_sendBribed 5 (some .int)) 4 92 0 0 D (tyz cI cJ cQ) [.ref b0, .int x1, .int x2, .int x3, .int x4] [(b0, .inr (7, [.ref b1, .ref b2, .ref b3, .int (kp), .int (th), .ref b4, .int (ty), .int (ap), .ref b5, .long (hh)])), (b1, .inl (cI, 424, .inl (sa))), (b2, .inl (cI, 1696, .inl (pa))), (b3, .inl (cI, 424, .inl (ad))), (b4, .inl (cI, 100, .inl (tx))), (b5, .inl (cI, 4, .inl (nb)))] (pstI 0 [(b0, .inr (7, [.ref b1, .ref b2, .ref b3, .int (kp), .int (2), .ref b4, .int (ty), .int (ap), .ref b5, .long (hh)])), (b1, .inl (cI, 424, .inl (sa))), (b2, .inl (cI, 1696, .inl (pa))), (b3, .inl (cI, 424, .inl (ad))), (b4, .inl (cI, 100, .inl (tx))), (b5, .inl (cI, 4, .inl (nb)))]) := by
  refine Ct.of RX7 (by decide) rfl (Nat.le_of_ble_eq_true rfl) ?_
  intro p e s m below meth c A C RC
  refine sw_iload_n 0 1 C dX7_sendBribed_0 rfl rfl ?_
  refine sw_iload_n 1 2 C dX7_sendBribed_1 rfl rfl ?_
  refine sw_iload_n 2 3 C dX7_sendBribed_2 rfl rfl ?_
  refine sw_callSIP 3 [] 3 C dX7_sendBribed_3 (ct_X7_isPetition l) wK_X7_isPetition wM_X7_94 wT_X7_isPetition wI_X7 hd_X7_isPetition rfl ⟨rfl, rfl⟩ ⟨Nat.le_of_ble_eq_true rfl, Nat.le_of_ble_eq_true rfl⟩ rfl rfl rfl rfl ?_
  refine sw_if_eq 6 33 C dX7_sendBribed_6 (by decide) (fun c_6 => ?_) (fun c_6 => ?_)
  · exact by first | exact absurd c_6 (by rw [ho]; decide) | exact absurd (by rw [ho]; decide) c_6
  refine sw_iload 9 C dX7_sendBribed_9 rfl ?_
  refine sw_iconst 11 C dX7_sendBribed_11 1 (by decide) ?_
  refine sw_bipush 12 C dX7_sendBribed_12 100 (by decide) ?_
  refine sw_callSIP 14 [] 3 C dX7_sendBribed_14 (ct_X7_in l) wK_X7_in wM_X7_73 wT_X7_in wI_X7 hd_X7_in rfl ⟨rfl, rfl⟩ ⟨Nat.le_of_ble_eq_true rfl, Nat.le_of_ble_eq_true rfl⟩ rfl rfl rfl rfl ?_
  refine sw_if_eq 17 33 C dX7_sendBribed_17 (by decide) (fun c_17 => ?_) (fun c_17 => ?_)
  · exact by first | exact absurd c_17 (by rw [hb]; decide) | exact absurd (by rw [hb]; decide) c_17
  refine sw_aload_n 20 0 C dX7_sendBribed_20 rfl rfl ?_
  refine sw_iload_n 21 1 C dX7_sendBribed_21 rfl rfl ?_
  refine sw_iconst 22 C dX7_sendBribed_22 (-1) (by decide) ?_
  refine sw_iload_n 23 2 C dX7_sendBribed_23 rfl rfl ?_
  refine sw_iload_n 24 3 C dX7_sendBribed_24 rfl rfl ?_
  refine sw_iload 25 C dX7_sendBribed_25 rfl ?_
  refine sw_callVI 27 [0, 1, 2, 3, 4, 5] 5 C dX7_sendBribed_27 (ct_X7_puts_2 l hE hO hm) wK_X7_puts wM_X7_97 wN_X7_puts wS_X7_X7_puts wI_X7 hd_X7_puts rfl rfl rfl ⟨rfl, rfl⟩ ⟨Nat.le_of_ble_eq_true rfl, Nat.le_of_ble_eq_true rfl⟩ rfl rfl rfl rfl rfl ?_
  refine sw_ws [(_, .inr (7, [.ref _, .ref _, .ref _, .int _, .int _, .ref _, .int _, .int _, .ref _, .long _])), (_, .inl (_, _, .inl _)), (_, .inl (_, _, .inl _)), (_, .inl (_, _, .inl _)), (_, .inl (_, _, .inl _)), (_, .inl (_, _, .inl _))] rfl ?_
  refine sw_goto 30 38 C dX7_sendBribed_30 (by decide) ?_
  refine sw_iret 38 C RC dX7_sendBribed_38 ?_
  exact ⟨rfl, rfl⟩
set_option maxHeartbeats 4000000 in
set_option maxRecDepth 100000 in
theorem ct_X7_sendBribed_3 (l : Launch) {D : va_G} {cI cJ cQ : ClassId} {b0 b1 b2 b3 b4 b5 : Nat} {sa pa ad tx nb : Nat → Int32} {kp th ty ap : Int32} {hh : Int64} {x1 x2 x3 x4 : Int32} (ho : okSn x1 x2 x3 = false) : Ct l yX7_sendBribed (Cond.code yX7_sendBribed cX7_sendBribed 5 (some .int)) 4 92 0 0 D (tyz cI cJ cQ) [.ref b0, .int x1, .int x2, .int x3, .int x4] [(b0, .inr (7, [.ref b1, .ref b2, .ref b3, .int (kp), .int (th), .ref b4, .int (ty), .int (ap), .ref b5, .long (hh)])), (b1, .inl (cI, 424, .inl (sa))), (b2, .inl (cI, 1696, .inl (pa))), (b3, .inl (cI, 424, .inl (ad))), (b4, .inl (cI, 100, .inl (tx))), (b5, .inl (cI, 4, .inl (nb)))] (pstI 0 [(b0, .inr (7, [.ref b1, .ref b2, .ref b3, .int (kp), .int (1), .ref b4, .int (ty), .int (ap), .ref b5, .long (hh)])), (b1, .inl (cI, 424, .inl (sa))), (b2, .inl (cI, 1696, .inl (pa))), (b3, .inl (cI, 424, .inl (ad))), (b4, .inl (cI, 100, .inl (tx))), (b5, .inl (cI, 4, .inl (nb)))]) := by
  refine Ct.of RX7 (by decide) rfl (Nat.le_of_ble_eq_true rfl) ?_
  intro p e s m below meth c A C RC
  refine sw_iload_n 0 1 C dX7_sendBribed_0 rfl rfl ?_
  refine sw_iload_n 1 2 C dX7_sendBribed_1 rfl rfl ?_
  refine sw_iload_n 2 3 C dX7_sendBribed_2 rfl rfl ?_
  refine sw_callSIP 3 [] 3 C dX7_sendBribed_3 (ct_X7_isPetition l) wK_X7_isPetition wM_X7_94 wT_X7_isPetition wI_X7 hd_X7_isPetition rfl ⟨rfl, rfl⟩ ⟨Nat.le_of_ble_eq_true rfl, Nat.le_of_ble_eq_true rfl⟩ rfl rfl rfl rfl ?_
  refine sw_if_eq 6 33 C dX7_sendBribed_6 (by decide) (fun c_6 => ?_) (fun c_6 => ?_)
  rotate_left
  · exact by first | exact absurd c_6 (by rw [ho]; rfl) | exact absurd (by rw [ho]; rfl) c_6
  refine sw_aload_n 33 0 C dX7_sendBribed_33 rfl rfl ?_
  refine sw_iconst 34 C dX7_sendBribed_34 1 (by decide) ?_
  refine sw_callVI 35 [0, 1, 2, 3, 4, 5] 1 C dX7_sendBribed_35 (ct_X7_fails l) wK_X7_fails wM_X7_77 wN_X7_fails wS_X7_X7_fails wI_X7 hd_X7_fails rfl rfl rfl ⟨rfl, rfl⟩ ⟨Nat.le_of_ble_eq_true rfl, Nat.le_of_ble_eq_true rfl⟩ rfl rfl rfl rfl rfl ?_
  refine sw_ws [(_, .inr (7, [.ref _, .ref _, .ref _, .int _, .int _, .ref _, .int _, .int _, .ref _, .long _])), (_, .inl (_, _, .inl _)), (_, .inl (_, _, .inl _)), (_, .inl (_, _, .inl _)), (_, .inl (_, _, .inl _)), (_, .inl (_, _, .inl _))] rfl ?_
  refine sw_iret 38 C RC dX7_sendBribed_38 ?_
  exact ⟨rfl, rfl⟩
set_option maxHeartbeats 4000000 in
set_option maxRecDepth 100000 in
theorem ct_X7_sendBribed_4 (l : Launch) {D : va_G} {cI cJ cQ : ClassId} {b0 b1 b2 b3 b4 b5 : Nat} {sa pa ad tx nb : Nat → Int32} {kp th ty ap : Int32} {hh : Int64} {x1 x2 x3 x4 : Int32} (ho : okSn x1 x2 x3 = true) (hb : inR x4 1 100 = false) : Ct l yX7_sendBribed (Cond.code yX7_sendBribed cX7_sendBribed 5 (some .int)) 4 92 0 0 D (tyz cI cJ cQ) [.ref b0, .int x1, .int x2, .int x3, .int x4] [(b0, .inr (7, [.ref b1, .ref b2, .ref b3, .int (kp), .int (th), .ref b4, .int (ty), .int (ap), .ref b5, .long (hh)])), (b1, .inl (cI, 424, .inl (sa))), (b2, .inl (cI, 1696, .inl (pa))), (b3, .inl (cI, 424, .inl (ad))), (b4, .inl (cI, 100, .inl (tx))), (b5, .inl (cI, 4, .inl (nb)))] (pstI 0 [(b0, .inr (7, [.ref b1, .ref b2, .ref b3, .int (kp), .int (1), .ref b4, .int (ty), .int (ap), .ref b5, .long (hh)])), (b1, .inl (cI, 424, .inl (sa))), (b2, .inl (cI, 1696, .inl (pa))), (b3, .inl (cI, 424, .inl (ad))), (b4, .inl (cI, 100, .inl (tx))), (b5, .inl (cI, 4, .inl (nb)))]) := by
  refine Ct.of RX7 (by decide) rfl (Nat.le_of_ble_eq_true rfl) ?_
  intro p e s m below meth c A C RC
  refine sw_iload_n 0 1 C dX7_sendBribed_0 rfl rfl ?_
  refine sw_iload_n 1 2 C dX7_sendBribed_1 rfl rfl ?_
  refine sw_iload_n 2 3 C dX7_sendBribed_2 rfl rfl ?_
  refine sw_callSIP 3 [] 3 C dX7_sendBribed_3 (ct_X7_isPetition l) wK_X7_isPetition wM_X7_94 wT_X7_isPetition wI_X7 hd_X7_isPetition rfl ⟨rfl, rfl⟩ ⟨Nat.le_of_ble_eq_true rfl, Nat.le_of_ble_eq_true rfl⟩ rfl rfl rfl rfl ?_
  refine sw_if_eq 6 33 C dX7_sendBribed_6 (by decide) (fun c_6 => ?_) (fun c_6 => ?_)
  · exact by first | exact absurd c_6 (by rw [ho]; decide) | exact absurd (by rw [ho]; decide) c_6
  refine sw_iload 9 C dX7_sendBribed_9 rfl ?_
  refine sw_iconst 11 C dX7_sendBribed_11 1 (by decide) ?_
  refine sw_bipush 12 C dX7_sendBribed_12 100 (by decide) ?_
  refine sw_callSIP 14 [] 3 C dX7_sendBribed_14 (ct_X7_in l) wK_X7_in wM_X7_73 wT_X7_in wI_X7 hd_X7_in rfl ⟨rfl, rfl⟩ ⟨Nat.le_of_ble_eq_true rfl, Nat.le_of_ble_eq_true rfl⟩ rfl rfl rfl rfl ?_
  refine sw_if_eq 17 33 C dX7_sendBribed_17 (by decide) (fun c_17 => ?_) (fun c_17 => ?_)
  rotate_left
  · exact by first | exact absurd c_17 (by rw [hb]; rfl) | exact absurd (by rw [hb]; rfl) c_17
  refine sw_aload_n 33 0 C dX7_sendBribed_33 rfl rfl ?_
  refine sw_iconst 34 C dX7_sendBribed_34 1 (by decide) ?_
  refine sw_callVI 35 [0, 1, 2, 3, 4, 5] 1 C dX7_sendBribed_35 (ct_X7_fails l) wK_X7_fails wM_X7_77 wN_X7_fails wS_X7_X7_fails wI_X7 hd_X7_fails rfl rfl rfl ⟨rfl, rfl⟩ ⟨Nat.le_of_ble_eq_true rfl, Nat.le_of_ble_eq_true rfl⟩ rfl rfl rfl rfl rfl ?_
  refine sw_ws [(_, .inr (7, [.ref _, .ref _, .ref _, .int _, .int _, .ref _, .int _, .int _, .ref _, .long _])), (_, .inl (_, _, .inl _)), (_, .inl (_, _, .inl _)), (_, .inl (_, _, .inl _)), (_, .inl (_, _, .inl _)), (_, .inl (_, _, .inl _))] rfl ?_
  refine sw_iret 38 C RC dX7_sendBribed_38 ?_
  exact ⟨rfl, rfl⟩
set_option maxHeartbeats 4000000 in
set_option maxRecDepth 100000 in
theorem ct_X7_sendJoint (l : Launch) {D : va_G} {cI cJ cQ : ClassId} {b0 b1 b2 b3 b4 b5 : Nat} {sa pa ad tx nb : Nat → Int32} {th ty ap : Int32} {hh : Int64} {S : StT} {R : Nat → StT} {cn od B T : Nat} (hE : mE S sa) (hO : mO B T S) (hK : mK B T R cn od pa) (hcn : cn ≤ 4) (hod : od < 4) {x1 x2 x3 x4 : Int32} (ho : okSn x1 x3 x4 = true) (hb : inR x2 0 7 = true) (hne : ¬ x1 = x2) (hm : hrf (zf S) (zn S) (zq S) x1 x2 = true) : Ct l yX7_sendJoint (Cond.code yX7_sendJoint cX7_sendJoint 5 (some .int)) 4 92 0 0 D (tyz cI cJ cQ) [.ref b0, .int x1, .int x2, .int x3, .int x4] [(b0, .inr (7, [.ref b1, .ref b2, .ref b3, .int (nI cn), .int (th), .ref b4, .int (ty), .int (ap), .ref b5, .long (hh)])), (b1, .inl (cI, 424, .inl (sa))), (b2, .inl (cI, 1696, .inl (pa))), (b3, .inl (cI, 424, .inl (ad))), (b4, .inl (cI, 100, .inl (tx))), (b5, .inl (cI, 4, .inl (nb)))] (pstE (zp S) (fun f : (Nat → Int32) × (Nat → Int32) => mE (pinS S x1 x2 x3 x4 0) f.1 ∧ mK B T (va_up R (svI cn od) S) (svC cn) (svO cn od) f.2) (fun f => [(b0, .inr (7, [.ref b1, .ref b2, .ref b3, .int (nI (svC cn)), .int (0), .ref b4, .int (ty), .int (ap), .ref b5, .long (hh)])), (b1, .inl (cI, 424, .inl (f.1))), (b2, .inl (cI, 1696, .inl (f.2))), (b3, .inl (cI, 424, .inl (ad))), (b4, .inl (cI, 100, .inl (tx))), (b5, .inl (cI, 4, .inl (nb)))])) := by
  refine Ct.of RX7 (by decide) rfl (Nat.le_of_ble_eq_true rfl) ?_
  intro p e s m below meth c A C RC
  refine sw_iload_n 0 1 C dX7_sendJoint_0 rfl rfl ?_
  refine sw_iload_n 1 3 C dX7_sendJoint_1 rfl rfl ?_
  refine sw_iload 2 C dX7_sendJoint_2 rfl ?_
  refine sw_callSIP 4 [] 3 C dX7_sendJoint_4 (ct_X7_isPetition l) wK_X7_isPetition wM_X7_94 wT_X7_isPetition wI_X7 hd_X7_isPetition rfl ⟨rfl, rfl⟩ ⟨Nat.le_of_ble_eq_true rfl, Nat.le_of_ble_eq_true rfl⟩ rfl rfl rfl rfl ?_
  refine sw_if_eq 7 35 C dX7_sendJoint_7 (by decide) (fun c_7 => ?_) (fun c_7 => ?_)
  · exact by first | exact absurd c_7 (by rw [ho]; decide) | exact absurd (by rw [ho]; decide) c_7
  refine sw_iload_n 10 2 C dX7_sendJoint_10 rfl rfl ?_
  refine sw_callSIP 11 [] 1 C dX7_sendJoint_11 (ct_X7_isSender l) wK_X7_isSender wM_X7_83 wT_X7_isSender wI_X7 hd_X7_isSender rfl ⟨rfl, rfl⟩ ⟨Nat.le_of_ble_eq_true rfl, Nat.le_of_ble_eq_true rfl⟩ rfl rfl rfl rfl ?_
  refine sw_if_eq 14 35 C dX7_sendJoint_14 (by decide) (fun c_14 => ?_) (fun c_14 => ?_)
  · exact by first | exact absurd c_14 (by rw [hb]; decide) | exact absurd (by rw [hb]; decide) c_14
  refine sw_iload_n 17 1 C dX7_sendJoint_17 rfl rfl ?_
  refine sw_iload_n 18 2 C dX7_sendJoint_18 rfl rfl ?_
  refine sw_icmp_eq 19 35 C dX7_sendJoint_19 (by decide) (fun c_19 => ?_) (fun c_19 => ?_)
  · exact by first | exact absurd c_19 (hne) | exact absurd (hne) c_19
  refine sw_aload_n 22 0 C dX7_sendJoint_22 rfl rfl ?_
  refine sw_iload_n 23 1 C dX7_sendJoint_23 rfl rfl ?_
  refine sw_iload_n 24 2 C dX7_sendJoint_24 rfl rfl ?_
  refine sw_iload_n 25 3 C dX7_sendJoint_25 rfl rfl ?_
  refine sw_iload 26 C dX7_sendJoint_26 rfl ?_
  refine sw_iconst 28 C dX7_sendJoint_28 0 (by decide) ?_
  refine sw_callVE 29 [0, 1, 2, 3, 4, 5] 5 C dX7_sendJoint_29 (ct_X7_puts l hE hO hK hcn hod hm) wK_X7_puts wM_X7_97 wN_X7_puts wS_X7_X7_puts wI_X7 hd_X7_puts rfl rfl rfl ⟨rfl, rfl⟩ ⟨Nat.le_of_ble_eq_true rfl, Nat.le_of_ble_eq_true rfl⟩ rfl rfl rfl (fun _ => rfl) rfl (fun f1 h1 => ?_)
  refine sw_ws [(_, .inr (7, [.ref _, .ref _, .ref _, .int _, .int _, .ref _, .int _, .int _, .ref _, .long _])), (_, .inl (_, _, .inl _)), (_, .inl (_, _, .inl _)), (_, .inl (_, _, .inl _)), (_, .inl (_, _, .inl _)), (_, .inl (_, _, .inl _))] rfl ?_
  refine sw_goto 32 40 C dX7_sendJoint_32 (by decide) ?_
  refine sw_iret 40 C RC dX7_sendJoint_40 ?_
  exact ⟨rfl, f1, h1, rfl⟩
set_option maxHeartbeats 4000000 in
set_option maxRecDepth 100000 in
theorem ct_X7_sendJoint_2 (l : Launch) {D : va_G} {cI cJ cQ : ClassId} {b0 b1 b2 b3 b4 b5 : Nat} {sa pa ad tx nb : Nat → Int32} {kp th ty ap : Int32} {hh : Int64} {S : StT} {B T : Nat} (hE : mE S sa) (hO : mO B T S) {x1 x2 x3 x4 : Int32} (ho : okSn x1 x3 x4 = true) (hb : inR x2 0 7 = true) (hne : ¬ x1 = x2) (hm : hrf (zf S) (zn S) (zq S) x1 x2 = false) : Ct l yX7_sendJoint (Cond.code yX7_sendJoint cX7_sendJoint 5 (some .int)) 4 92 0 0 D (tyz cI cJ cQ) [.ref b0, .int x1, .int x2, .int x3, .int x4] [(b0, .inr (7, [.ref b1, .ref b2, .ref b3, .int (kp), .int (th), .ref b4, .int (ty), .int (ap), .ref b5, .long (hh)])), (b1, .inl (cI, 424, .inl (sa))), (b2, .inl (cI, 1696, .inl (pa))), (b3, .inl (cI, 424, .inl (ad))), (b4, .inl (cI, 100, .inl (tx))), (b5, .inl (cI, 4, .inl (nb)))] (pstI 0 [(b0, .inr (7, [.ref b1, .ref b2, .ref b3, .int (kp), .int (2), .ref b4, .int (ty), .int (ap), .ref b5, .long (hh)])), (b1, .inl (cI, 424, .inl (sa))), (b2, .inl (cI, 1696, .inl (pa))), (b3, .inl (cI, 424, .inl (ad))), (b4, .inl (cI, 100, .inl (tx))), (b5, .inl (cI, 4, .inl (nb)))]) := by
  refine Ct.of RX7 (by decide) rfl (Nat.le_of_ble_eq_true rfl) ?_
  intro p e s m below meth c A C RC
  refine sw_iload_n 0 1 C dX7_sendJoint_0 rfl rfl ?_
  refine sw_iload_n 1 3 C dX7_sendJoint_1 rfl rfl ?_
  refine sw_iload 2 C dX7_sendJoint_2 rfl ?_
  refine sw_callSIP 4 [] 3 C dX7_sendJoint_4 (ct_X7_isPetition l) wK_X7_isPetition wM_X7_94 wT_X7_isPetition wI_X7 hd_X7_isPetition rfl ⟨rfl, rfl⟩ ⟨Nat.le_of_ble_eq_true rfl, Nat.le_of_ble_eq_true rfl⟩ rfl rfl rfl rfl ?_
  refine sw_if_eq 7 35 C dX7_sendJoint_7 (by decide) (fun c_7 => ?_) (fun c_7 => ?_)
  · exact by first | exact absurd c_7 (by rw [ho]; decide) | exact absurd (by rw [ho]; decide) c_7
  refine sw_iload_n 10 2 C dX7_sendJoint_10 rfl rfl ?_
  refine sw_callSIP 11 [] 1 C dX7_sendJoint_11 (ct_X7_isSender l) wK_X7_isSender wM_X7_83 wT_X7_isSender wI_X7 hd_X7_isSender rfl ⟨rfl, rfl⟩ ⟨Nat.le_of_ble_eq_true rfl, Nat.le_of_ble_eq_true rfl⟩ rfl rfl rfl rfl ?_
  refine sw_if_eq 14 35 C dX7_sendJoint_14 (by decide) (fun c_14 => ?_) (fun c_14 => ?_)
  · exact by first | exact absurd c_14 (by rw [hb]; decide) | exact absurd (by rw [hb]; decide) c_14
  refine sw_iload_n 17 1 C dX7_sendJoint_17 rfl rfl ?_
  refine sw_iload_n 18 2 C dX7_sendJoint_18 rfl rfl ?_
  refine sw_icmp_eq 19 35 C dX7_sendJoint_19 (by decide) (fun c_19 => ?_) (fun c_19 => ?_)
  · exact by first | exact absurd c_19 (hne) | exact absurd (hne) c_19
  refine sw_aload_n 22 0 C dX7_sendJoint_22 rfl rfl ?_
  refine sw_iload_n 23 1 C dX7_sendJoint_23 rfl rfl ?_
  refine sw_iload_n 24 2 C dX7_sendJoint_24 rfl rfl ?_
  refine sw_iload_n 25 3 C dX7_sendJoint_25 rfl rfl ?_
  refine sw_iload 26 C dX7_sendJoint_26 rfl ?_
  refine sw_iconst 28 C dX7_sendJoint_28 0 (by decide) ?_
  refine sw_callVI 29 [0, 1, 2, 3, 4, 5] 5 C dX7_sendJoint_29 (ct_X7_puts_2 l hE hO hm) wK_X7_puts wM_X7_97 wN_X7_puts wS_X7_X7_puts wI_X7 hd_X7_puts rfl rfl rfl ⟨rfl, rfl⟩ ⟨Nat.le_of_ble_eq_true rfl, Nat.le_of_ble_eq_true rfl⟩ rfl rfl rfl rfl rfl ?_
  refine sw_ws [(_, .inr (7, [.ref _, .ref _, .ref _, .int _, .int _, .ref _, .int _, .int _, .ref _, .long _])), (_, .inl (_, _, .inl _)), (_, .inl (_, _, .inl _)), (_, .inl (_, _, .inl _)), (_, .inl (_, _, .inl _)), (_, .inl (_, _, .inl _))] rfl ?_
  refine sw_goto 32 40 C dX7_sendJoint_32 (by decide) ?_
  refine sw_iret 40 C RC dX7_sendJoint_40 ?_
  exact ⟨rfl, rfl⟩
set_option maxHeartbeats 4000000 in
set_option maxRecDepth 100000 in
theorem ct_X7_sendJoint_3 (l : Launch) {D : va_G} {cI cJ cQ : ClassId} {b0 b1 b2 b3 b4 b5 : Nat} {sa pa ad tx nb : Nat → Int32} {kp th ty ap : Int32} {hh : Int64} {x1 x2 x3 x4 : Int32} (ho : okSn x1 x3 x4 = false) : Ct l yX7_sendJoint (Cond.code yX7_sendJoint cX7_sendJoint 5 (some .int)) 4 92 0 0 D (tyz cI cJ cQ) [.ref b0, .int x1, .int x2, .int x3, .int x4] [(b0, .inr (7, [.ref b1, .ref b2, .ref b3, .int (kp), .int (th), .ref b4, .int (ty), .int (ap), .ref b5, .long (hh)])), (b1, .inl (cI, 424, .inl (sa))), (b2, .inl (cI, 1696, .inl (pa))), (b3, .inl (cI, 424, .inl (ad))), (b4, .inl (cI, 100, .inl (tx))), (b5, .inl (cI, 4, .inl (nb)))] (pstI 0 [(b0, .inr (7, [.ref b1, .ref b2, .ref b3, .int (kp), .int (1), .ref b4, .int (ty), .int (ap), .ref b5, .long (hh)])), (b1, .inl (cI, 424, .inl (sa))), (b2, .inl (cI, 1696, .inl (pa))), (b3, .inl (cI, 424, .inl (ad))), (b4, .inl (cI, 100, .inl (tx))), (b5, .inl (cI, 4, .inl (nb)))]) := by
  refine Ct.of RX7 (by decide) rfl (Nat.le_of_ble_eq_true rfl) ?_
  intro p e s m below meth c A C RC
  refine sw_iload_n 0 1 C dX7_sendJoint_0 rfl rfl ?_
  refine sw_iload_n 1 3 C dX7_sendJoint_1 rfl rfl ?_
  refine sw_iload 2 C dX7_sendJoint_2 rfl ?_
  refine sw_callSIP 4 [] 3 C dX7_sendJoint_4 (ct_X7_isPetition l) wK_X7_isPetition wM_X7_94 wT_X7_isPetition wI_X7 hd_X7_isPetition rfl ⟨rfl, rfl⟩ ⟨Nat.le_of_ble_eq_true rfl, Nat.le_of_ble_eq_true rfl⟩ rfl rfl rfl rfl ?_
  refine sw_if_eq 7 35 C dX7_sendJoint_7 (by decide) (fun c_7 => ?_) (fun c_7 => ?_)
  rotate_left
  · exact by first | exact absurd c_7 (by rw [ho]; rfl) | exact absurd (by rw [ho]; rfl) c_7
  refine sw_aload_n 35 0 C dX7_sendJoint_35 rfl rfl ?_
  refine sw_iconst 36 C dX7_sendJoint_36 1 (by decide) ?_
  refine sw_callVI 37 [0, 1, 2, 3, 4, 5] 1 C dX7_sendJoint_37 (ct_X7_fails l) wK_X7_fails wM_X7_77 wN_X7_fails wS_X7_X7_fails wI_X7 hd_X7_fails rfl rfl rfl ⟨rfl, rfl⟩ ⟨Nat.le_of_ble_eq_true rfl, Nat.le_of_ble_eq_true rfl⟩ rfl rfl rfl rfl rfl ?_
  refine sw_ws [(_, .inr (7, [.ref _, .ref _, .ref _, .int _, .int _, .ref _, .int _, .int _, .ref _, .long _])), (_, .inl (_, _, .inl _)), (_, .inl (_, _, .inl _)), (_, .inl (_, _, .inl _)), (_, .inl (_, _, .inl _)), (_, .inl (_, _, .inl _))] rfl ?_
  refine sw_iret 40 C RC dX7_sendJoint_40 ?_
  exact ⟨rfl, rfl⟩
set_option maxHeartbeats 4000000 in
set_option maxRecDepth 100000 in
theorem ct_X7_sendJoint_4 (l : Launch) {D : va_G} {cI cJ cQ : ClassId} {b0 b1 b2 b3 b4 b5 : Nat} {sa pa ad tx nb : Nat → Int32} {kp th ty ap : Int32} {hh : Int64} {x1 x2 x3 x4 : Int32} (ho : okSn x1 x3 x4 = true) (hb : inR x2 0 7 = false) : Ct l yX7_sendJoint (Cond.code yX7_sendJoint cX7_sendJoint 5 (some .int)) 4 92 0 0 D (tyz cI cJ cQ) [.ref b0, .int x1, .int x2, .int x3, .int x4] [(b0, .inr (7, [.ref b1, .ref b2, .ref b3, .int (kp), .int (th), .ref b4, .int (ty), .int (ap), .ref b5, .long (hh)])), (b1, .inl (cI, 424, .inl (sa))), (b2, .inl (cI, 1696, .inl (pa))), (b3, .inl (cI, 424, .inl (ad))), (b4, .inl (cI, 100, .inl (tx))), (b5, .inl (cI, 4, .inl (nb)))] (pstI 0 [(b0, .inr (7, [.ref b1, .ref b2, .ref b3, .int (kp), .int (1), .ref b4, .int (ty), .int (ap), .ref b5, .long (hh)])), (b1, .inl (cI, 424, .inl (sa))), (b2, .inl (cI, 1696, .inl (pa))), (b3, .inl (cI, 424, .inl (ad))), (b4, .inl (cI, 100, .inl (tx))), (b5, .inl (cI, 4, .inl (nb)))]) := by
  refine Ct.of RX7 (by decide) rfl (Nat.le_of_ble_eq_true rfl) ?_
  intro p e s m below meth c A C RC
  refine sw_iload_n 0 1 C dX7_sendJoint_0 rfl rfl ?_
  refine sw_iload_n 1 3 C dX7_sendJoint_1 rfl rfl ?_
  refine sw_iload 2 C dX7_sendJoint_2 rfl ?_
  refine sw_callSIP 4 [] 3 C dX7_sendJoint_4 (ct_X7_isPetition l) wK_X7_isPetition wM_X7_94 wT_X7_isPetition wI_X7 hd_X7_isPetition rfl ⟨rfl, rfl⟩ ⟨Nat.le_of_ble_eq_true rfl, Nat.le_of_ble_eq_true rfl⟩ rfl rfl rfl rfl ?_
  refine sw_if_eq 7 35 C dX7_sendJoint_7 (by decide) (fun c_7 => ?_) (fun c_7 => ?_)
  · exact by first | exact absurd c_7 (by rw [ho]; decide) | exact absurd (by rw [ho]; decide) c_7
  refine sw_iload_n 10 2 C dX7_sendJoint_10 rfl rfl ?_
  refine sw_callSIP 11 [] 1 C dX7_sendJoint_11 (ct_X7_isSender l) wK_X7_isSender wM_X7_83 wT_X7_isSender wI_X7 hd_X7_isSender rfl ⟨rfl, rfl⟩ ⟨Nat.le_of_ble_eq_true rfl, Nat.le_of_ble_eq_true rfl⟩ rfl rfl rfl rfl ?_
  refine sw_if_eq 14 35 C dX7_sendJoint_14 (by decide) (fun c_14 => ?_) (fun c_14 => ?_)
  rotate_left
  · exact by first | exact absurd c_14 (by rw [hb]; rfl) | exact absurd (by rw [hb]; rfl) c_14
  refine sw_aload_n 35 0 C dX7_sendJoint_35 rfl rfl ?_
  refine sw_iconst 36 C dX7_sendJoint_36 1 (by decide) ?_
  refine sw_callVI 37 [0, 1, 2, 3, 4, 5] 1 C dX7_sendJoint_37 (ct_X7_fails l) wK_X7_fails wM_X7_77 wN_X7_fails wS_X7_X7_fails wI_X7 hd_X7_fails rfl rfl rfl ⟨rfl, rfl⟩ ⟨Nat.le_of_ble_eq_true rfl, Nat.le_of_ble_eq_true rfl⟩ rfl rfl rfl rfl rfl ?_
  refine sw_ws [(_, .inr (7, [.ref _, .ref _, .ref _, .int _, .int _, .ref _, .int _, .int _, .ref _, .long _])), (_, .inl (_, _, .inl _)), (_, .inl (_, _, .inl _)), (_, .inl (_, _, .inl _)), (_, .inl (_, _, .inl _)), (_, .inl (_, _, .inl _))] rfl ?_
  refine sw_iret 40 C RC dX7_sendJoint_40 ?_
  exact ⟨rfl, rfl⟩
set_option maxHeartbeats 4000000 in
set_option maxRecDepth 100000 in
theorem ct_X7_sendJoint_5 (l : Launch) {D : va_G} {cI cJ cQ : ClassId} {b0 b1 b2 b3 b4 b5 : Nat} {sa pa ad tx nb : Nat → Int32} {kp th ty ap : Int32} {hh : Int64} {x1 x2 x3 x4 : Int32} (ho : okSn x1 x3 x4 = true) (hb : inR x2 0 7 = true) (hne : x1 = x2) : Ct l yX7_sendJoint (Cond.code yX7_sendJoint cX7_sendJoint 5 (some .int)) 4 92 0 0 D (tyz cI cJ cQ) [.ref b0, .int x1, .int x2, .int x3, .int x4] [(b0, .inr (7, [.ref b1, .ref b2, .ref b3, .int (kp), .int (th), .ref b4, .int (ty), .int (ap), .ref b5, .long (hh)])), (b1, .inl (cI, 424, .inl (sa))), (b2, .inl (cI, 1696, .inl (pa))), (b3, .inl (cI, 424, .inl (ad))), (b4, .inl (cI, 100, .inl (tx))), (b5, .inl (cI, 4, .inl (nb)))] (pstI 0 [(b0, .inr (7, [.ref b1, .ref b2, .ref b3, .int (kp), .int (1), .ref b4, .int (ty), .int (ap), .ref b5, .long (hh)])), (b1, .inl (cI, 424, .inl (sa))), (b2, .inl (cI, 1696, .inl (pa))), (b3, .inl (cI, 424, .inl (ad))), (b4, .inl (cI, 100, .inl (tx))), (b5, .inl (cI, 4, .inl (nb)))]) := by
  refine Ct.of RX7 (by decide) rfl (Nat.le_of_ble_eq_true rfl) ?_
  intro p e s m below meth c A C RC
  refine sw_iload_n 0 1 C dX7_sendJoint_0 rfl rfl ?_
  refine sw_iload_n 1 3 C dX7_sendJoint_1 rfl rfl ?_
  refine sw_iload 2 C dX7_sendJoint_2 rfl ?_
  refine sw_callSIP 4 [] 3 C dX7_sendJoint_4 (ct_X7_isPetition l) wK_X7_isPetition wM_X7_94 wT_X7_isPetition wI_X7 hd_X7_isPetition rfl ⟨rfl, rfl⟩ ⟨Nat.le_of_ble_eq_true rfl, Nat.le_of_ble_eq_true rfl⟩ rfl rfl rfl rfl ?_
  refine sw_if_eq 7 35 C dX7_sendJoint_7 (by decide) (fun c_7 => ?_) (fun c_7 => ?_)
  · exact by first | exact absurd c_7 (by rw [ho]; decide) | exact absurd (by rw [ho]; decide) c_7
  refine sw_iload_n 10 2 C dX7_sendJoint_10 rfl rfl ?_
  refine sw_callSIP 11 [] 1 C dX7_sendJoint_11 (ct_X7_isSender l) wK_X7_isSender wM_X7_83 wT_X7_isSender wI_X7 hd_X7_isSender rfl ⟨rfl, rfl⟩ ⟨Nat.le_of_ble_eq_true rfl, Nat.le_of_ble_eq_true rfl⟩ rfl rfl rfl rfl ?_
  refine sw_if_eq 14 35 C dX7_sendJoint_14 (by decide) (fun c_14 => ?_) (fun c_14 => ?_)
  · exact by first | exact absurd c_14 (by rw [hb]; decide) | exact absurd (by rw [hb]; decide) c_14
  refine sw_iload_n 17 1 C dX7_sendJoint_17 rfl rfl ?_
  refine sw_iload_n 18 2 C dX7_sendJoint_18 rfl rfl ?_
  refine sw_icmp_eq 19 35 C dX7_sendJoint_19 (by decide) (fun c_19 => ?_) (fun c_19 => ?_)
  rotate_left
  · exact by first | exact absurd c_19 (hne) | exact absurd (hne) c_19
  refine sw_aload_n 35 0 C dX7_sendJoint_35 rfl rfl ?_
  refine sw_iconst 36 C dX7_sendJoint_36 1 (by decide) ?_
  refine sw_callVI 37 [0, 1, 2, 3, 4, 5] 1 C dX7_sendJoint_37 (ct_X7_fails l) wK_X7_fails wM_X7_77 wN_X7_fails wS_X7_X7_fails wI_X7 hd_X7_fails rfl rfl rfl ⟨rfl, rfl⟩ ⟨Nat.le_of_ble_eq_true rfl, Nat.le_of_ble_eq_true rfl⟩ rfl rfl rfl rfl rfl ?_
  refine sw_ws [(_, .inr (7, [.ref _, .ref _, .ref _, .int _, .int _, .ref _, .int _, .int _, .ref _, .long _])), (_, .inl (_, _, .inl _)), (_, .inl (_, _, .inl _)), (_, .inl (_, _, .inl _)), (_, .inl (_, _, .inl _)), (_, .inl (_, _, .inl _))] rfl ?_
  refine sw_iret 40 C RC dX7_sendJoint_40 ?_
  exact ⟨rfl, rfl⟩
set_option maxHeartbeats 4000000 in
set_option maxRecDepth 100000 in
theorem ct_X7_withdraw (l : Launch) {D : va_G} {cI cJ cQ : ClassId} {b0 b1 b2 b3 b4 b5 : Nat} {sa pa ad tx nb : Nat → Int32} {th ty ap : Int32} {hh : Int64} {S : StT} {R : Nat → StT} {cn od B T : Nat} (hE : mE S sa) (hO : mO B T S) (hK : mK B T R cn od pa) (hcn : cn ≤ 4) (hod : od < 4) {x1 : Int32} (i : Nat) (hi : fnd (zf S) x1 (zn S) = some i) : Ct l yX7_withdraw (Cond.code yX7_withdraw cX7_withdraw 3 (some .int)) 3 69 0 0 D (tyz cI cJ cQ) [.ref b0, .int x1] [(b0, .inr (7, [.ref b1, .ref b2, .ref b3, .int (nI cn), .int (th), .ref b4, .int (ty), .int (ap), .ref b5, .long (hh)])), (b1, .inl (cI, 424, .inl (sa))), (b2, .inl (cI, 1696, .inl (pa))), (b3, .inl (cI, 424, .inl (ad))), (b4, .inl (cI, 100, .inl (tx))), (b5, .inl (cI, 4, .inl (nb)))] (pstE (gbk (zf S) (zg S) i 2) (fun f : (Nat → Int32) × (Nat → Int32) => mE (leaveS S i 2) f.1 ∧ mK B T (va_up R (svI cn od) S) (svC cn) (svO cn od) f.2) (fun f => [(b0, .inr (7, [.ref b1, .ref b2, .ref b3, .int (nI (svC cn)), .int (0), .ref b4, .int (ty), .int (ap), .ref b5, .long (hh)])), (b1, .inl (cI, 424, .inl (f.1))), (b2, .inl (cI, 1696, .inl (f.2))), (b3, .inl (cI, 424, .inl (ad))), (b4, .inl (cI, 100, .inl (tx))), (b5, .inl (cI, 4, .inl (nb)))])) := by
  refine Ct.of RX7 (by decide) rfl (Nat.le_of_ble_eq_true rfl) ?_
  intro p e s m below meth c A C RC
  have hin := fnd_lt _ _ hi
  refine sw_aload_n 0 0 C dX7_withdraw_0 rfl rfl ?_
  refine sw_iload_n 1 1 C dX7_withdraw_1 rfl rfl ?_
  refine sw_callVIP 2 [0, 1, 2, 3, 4, 5] 1 C dX7_withdraw_2 (ct_X7_find l hE hO) wK_X7_find wM_X7_100 wN_X7_find wS_X7_X7_find wI_X7 hd_X7_find rfl rfl rfl ⟨rfl, rfl⟩ ⟨Nat.le_of_ble_eq_true rfl, Nat.le_of_ble_eq_true rfl⟩ rfl rfl rfl rfl ?_
  rw [hi]
  refine sw_istore_n 5 2 C dX7_withdraw_5 rfl rfl ?_
  refine sw_iload_n 6 2 C dX7_withdraw_6 rfl rfl ?_
  refine sw_iconst 7 C dX7_withdraw_7 (-1) (by decide) ?_
  refine sw_icmp_ne 8 17 C dX7_withdraw_8 (by decide) (fun c_8 => ?_) (fun c_8 => ?_)
  rotate_left
  · exact by first | exact absurd c_8 (i32_ne_m1 (by have := hO.n; omega)) | exact absurd (i32_ne_m1 (by have := hO.n; omega)) c_8
  refine sw_aload_n 17 0 C dX7_withdraw_17 rfl rfl ?_
  refine sw_callVV 18 [0, 1, 2, 3, 4, 5] 0 C dX7_withdraw_18 (ct_X7_keeps l hcn) wK_X7_keeps wM_X7_67 wN_X7_keeps wS_X7_X7_keeps wI_X7 hd_X7_keeps rfl rfl rfl ⟨rfl, rfl⟩ ⟨Nat.le_of_ble_eq_true rfl, Nat.le_of_ble_eq_true rfl⟩ rfl rfl rfl rfl rfl ?_
  refine sw_ws [(_, .inr (7, [.ref _, .ref _, .ref _, .int _, .int _, .ref _, .int _, .int _, .ref _, .long _])), (_, .inl (_, _, .inl _)), (_, .inl (_, _, .inl _)), (_, .inl (_, _, .inl _)), (_, .inl (_, _, .inl _)), (_, .inl (_, _, .inl _))] rfl ?_
  refine sw_aload_n 21 0 C dX7_withdraw_21 rfl rfl ?_
  refine sw_aload_n 22 0 C dX7_withdraw_22 rfl rfl ?_
  refine sw_iload_n 23 2 C dX7_withdraw_23 rfl rfl ?_
  refine sw_iconst 24 C dX7_withdraw_24 2 (by decide) ?_
  refine sw_callVE 25 [0, 1, 2, 3, 4, 5] 2 C dX7_withdraw_25 (ct_X7_leaves l hE hO.si i 2 rfl rfl hin (by decide)) wK_X7_leaves wM_X7_60 wN_X7_leaves wS_X7_X7_leaves wI_X7 hd_X7_leaves rfl rfl rfl ⟨rfl, rfl⟩ ⟨Nat.le_of_ble_eq_true rfl, Nat.le_of_ble_eq_true rfl⟩ rfl rfl rfl (fun _ => rfl) rfl (fun f1 h1 => ?_)
  refine sw_ws [(_, .inr (7, [.ref _, .ref _, .ref _, .int _, .int _, .ref _, .int _, .int _, .ref _, .long _])), (_, .inl (_, _, .inl _)), (_, .inl (_, _, .inl _)), (_, .inl (_, _, .inl _)), (_, .inl (_, _, .inl _)), (_, .inl (_, _, .inl _))] rfl ?_
  refine sw_callVI 28 [0, 1, 2, 3, 4, 5] 1 C dX7_withdraw_28 (ct_X7_tells l) wK_X7_tells wM_X7_70 wN_X7_tells wS_X7_X7_tells wI_X7 hd_X7_tells rfl rfl rfl ⟨rfl, rfl⟩ ⟨Nat.le_of_ble_eq_true rfl, Nat.le_of_ble_eq_true rfl⟩ rfl rfl rfl rfl rfl ?_
  refine sw_ws [(_, .inr (7, [.ref _, .ref _, .ref _, .int _, .int _, .ref _, .int _, .int _, .ref _, .long _])), (_, .inl (_, _, .inl _)), (_, .inl (_, _, .inl _)), (_, .inl (_, _, .inl _)), (_, .inl (_, _, .inl _)), (_, .inl (_, _, .inl _))] rfl ?_
  refine sw_iret 31 C RC dX7_withdraw_31 ?_
  exact ⟨rfl, (f1, _), ⟨(lvS_x S i (show (2 : Nat) ≠ 0 by decide)) ▸ h1, mK_add hK hcn hod hE hO⟩, rfl⟩
set_option maxHeartbeats 4000000 in
set_option maxRecDepth 100000 in
theorem ct_X7_withdraw_2 (l : Launch) {D : va_G} {cI cJ cQ : ClassId} {b0 b1 b2 b3 b4 b5 : Nat} {sa pa ad tx nb : Nat → Int32} {kp th ty ap : Int32} {hh : Int64} {S : StT} {B T : Nat} (hE : mE S sa) (hO : mO B T S) {x1 : Int32} (hi : fnd (zf S) x1 (zn S) = none) : Ct l yX7_withdraw (Cond.code yX7_withdraw cX7_withdraw 3 (some .int)) 3 69 0 0 D (tyz cI cJ cQ) [.ref b0, .int x1] [(b0, .inr (7, [.ref b1, .ref b2, .ref b3, .int (kp), .int (th), .ref b4, .int (ty), .int (ap), .ref b5, .long (hh)])), (b1, .inl (cI, 424, .inl (sa))), (b2, .inl (cI, 1696, .inl (pa))), (b3, .inl (cI, 424, .inl (ad))), (b4, .inl (cI, 100, .inl (tx))), (b5, .inl (cI, 4, .inl (nb)))] (pstI 0 [(b0, .inr (7, [.ref b1, .ref b2, .ref b3, .int (kp), .int (1), .ref b4, .int (ty), .int (ap), .ref b5, .long (hh)])), (b1, .inl (cI, 424, .inl (sa))), (b2, .inl (cI, 1696, .inl (pa))), (b3, .inl (cI, 424, .inl (ad))), (b4, .inl (cI, 100, .inl (tx))), (b5, .inl (cI, 4, .inl (nb)))]) := by
  refine Ct.of RX7 (by decide) rfl (Nat.le_of_ble_eq_true rfl) ?_
  intro p e s m below meth c A C RC
  refine sw_aload_n 0 0 C dX7_withdraw_0 rfl rfl ?_
  refine sw_iload_n 1 1 C dX7_withdraw_1 rfl rfl ?_
  refine sw_callVIP 2 [0, 1, 2, 3, 4, 5] 1 C dX7_withdraw_2 (ct_X7_find l hE hO) wK_X7_find wM_X7_100 wN_X7_find wS_X7_X7_find wI_X7 hd_X7_find rfl rfl rfl ⟨rfl, rfl⟩ ⟨Nat.le_of_ble_eq_true rfl, Nat.le_of_ble_eq_true rfl⟩ rfl rfl rfl rfl ?_
  rw [hi]
  refine sw_istore_n 5 2 C dX7_withdraw_5 rfl rfl ?_
  refine sw_iload_n 6 2 C dX7_withdraw_6 rfl rfl ?_
  refine sw_iconst 7 C dX7_withdraw_7 (-1) (by decide) ?_
  refine sw_icmp_ne 8 17 C dX7_withdraw_8 (by decide) (fun c_8 => ?_) (fun c_8 => ?_)
  · exact by first | exact absurd c_8 (fun q => q rfl) | exact absurd (fun q => q rfl) c_8
  refine sw_aload_n 11 0 C dX7_withdraw_11 rfl rfl ?_
  refine sw_iconst 12 C dX7_withdraw_12 1 (by decide) ?_
  refine sw_callVI 13 [0, 1, 2, 3, 4, 5] 1 C dX7_withdraw_13 (ct_X7_fails l) wK_X7_fails wM_X7_77 wN_X7_fails wS_X7_X7_fails wI_X7 hd_X7_fails rfl rfl rfl ⟨rfl, rfl⟩ ⟨Nat.le_of_ble_eq_true rfl, Nat.le_of_ble_eq_true rfl⟩ rfl rfl rfl rfl rfl ?_
  refine sw_ws [(_, .inr (7, [.ref _, .ref _, .ref _, .int _, .int _, .ref _, .int _, .int _, .ref _, .long _])), (_, .inl (_, _, .inl _)), (_, .inl (_, _, .inl _)), (_, .inl (_, _, .inl _)), (_, .inl (_, _, .inl _)), (_, .inl (_, _, .inl _))] rfl ?_
  refine sw_iret 16 C RC dX7_withdraw_16 ?_
  exact ⟨rfl, rfl⟩
set_option maxHeartbeats 4000000 in
set_option maxRecDepth 100000 in
theorem ct_X7_serve (l : Launch) {D : va_G} {cI cJ cQ : ClassId} {b0 b1 b2 b3 b4 b5 : Nat} {sa pa ad tx nb : Nat → Int32} {th ty ap : Int32} {hh : Int64} {S : StT} {R : Nat → StT} {cn od B T : Nat} (hE : mE S sa) (hO : mO B T S) (hK : mK B T R cn od pa) (hcn : cn ≤ 4) (hod : od < 4) (h0 : 0 < zn S) : Ct l yX7_serve (Cond.code yX7_serve cX7_serve 1 (some .int)) 5 112 0 0 D (tyz cI cJ cQ) [.ref b0] [(b0, .inr (7, [.ref b1, .ref b2, .ref b3, .int (nI cn), .int (th), .ref b4, .int (ty), .int (ap), .ref b5, .long (hh)])), (b1, .inl (cI, 424, .inl (sa))), (b2, .inl (cI, 1696, .inl (pa))), (b3, .inl (cI, 424, .inl (ad))), (b4, .inl (cI, 100, .inl (tx))), (b5, .inl (cI, 4, .inl (nb)))] (pstE ((srv S).1) (fun f : (Nat → Int32) × (Nat → Int32) => mE ((srv S).2) f.1 ∧ mK B T (va_up R (svI cn od) S) (svC cn) (svO cn od) f.2) (fun f => [(b0, .inr (7, [.ref b1, .ref b2, .ref b3, .int (nI (svC cn)), .int (0), .ref b4, .int (ty), .int (ap), .ref b5, .long (hh)])), (b1, .inl (cI, 424, .inl (f.1))), (b2, .inl (cI, 1696, .inl (f.2))), (b3, .inl (cI, 424, .inl (ad))), (b4, .inl (cI, 100, .inl (tx))), (b5, .inl (cI, 4, .inl (nb)))])) := by
  refine Ct.of RX7 (by decide) rfl (Nat.le_of_ble_eq_true rfl) ?_
  intro p e s m below meth c A C RC
  refine sw_aload_n 0 0 C dX7_serve_0 rfl rfl ?_
  refine sw_get 1 0 0 C dX7_serve_1 rfl rfl (inA lwX7) (C.w wF_X7_7) rfl rfl rfl ?_
  refine sw_iconst 4 C dX7_serve_4 1 (by decide) ?_
  refine sw_ialdN 5 1 0 (1) C dX7_serve_5 rfl (by decide) rfl rfl rfl ?_
  refine sw_top (hE.n) ?_
  refine sw_if_ne 6 15 C dX7_serve_6 (by decide) (fun c_6 => ?_) (fun c_6 => ?_)
  rotate_left
  · exact by first | exact absurd c_6 (nI_ne0 h0 (by have := hO.n; omega)) | exact absurd (nI_ne0 h0 (by have := hO.n; omega)) c_6
  refine sw_aload_n 15 0 C dX7_serve_15 rfl rfl ?_
  refine sw_callVV 16 [0, 1, 2, 3, 4, 5] 0 C dX7_serve_16 (ct_X7_keeps l hcn) wK_X7_keeps wM_X7_67 wN_X7_keeps wS_X7_X7_keeps wI_X7 hd_X7_keeps rfl rfl rfl ⟨rfl, rfl⟩ ⟨Nat.le_of_ble_eq_true rfl, Nat.le_of_ble_eq_true rfl⟩ rfl rfl rfl rfl rfl ?_
  refine sw_ws [(_, .inr (7, [.ref _, .ref _, .ref _, .int _, .int _, .ref _, .int _, .int _, .ref _, .long _])), (_, .inl (_, _, .inl _)), (_, .inl (_, _, .inl _)), (_, .inl (_, _, .inl _)), (_, .inl (_, _, .inl _)), (_, .inl (_, _, .inl _))] rfl ?_
  refine sw_aload_n 19 0 C dX7_serve_19 rfl rfl ?_
  refine sw_aload_n 20 0 C dX7_serve_20 rfl rfl ?_
  refine sw_callVE 21 [0, 1, 2, 3, 4, 5] 0 C dX7_serve_21 (ct_X7_servesFirst l hE hO h0) wK_X7_servesFirst wM_X7_103 wN_X7_servesFirst wS_X7_X7_servesFirst wI_X7 hd_X7_servesFirst rfl rfl rfl ⟨rfl, rfl⟩ ⟨Nat.le_of_ble_eq_true rfl, Nat.le_of_ble_eq_true rfl⟩ rfl rfl rfl (fun _ => rfl) rfl (fun f1 h1 => ?_)
  refine sw_ws [(_, .inr (7, [.ref _, .ref _, .ref _, .int _, .int _, .ref _, .int _, .int _, .ref _, .long _])), (_, .inl (_, _, .inl _)), (_, .inl (_, _, .inl _)), (_, .inl (_, _, .inl _)), (_, .inl (_, _, .inl _)), (_, .inl (_, _, .inl _))] rfl ?_
  refine sw_callVI 24 [0, 1, 2, 3, 4, 5] 1 C dX7_serve_24 (ct_X7_tells l) wK_X7_tells wM_X7_70 wN_X7_tells wS_X7_X7_tells wI_X7 hd_X7_tells rfl rfl rfl ⟨rfl, rfl⟩ ⟨Nat.le_of_ble_eq_true rfl, Nat.le_of_ble_eq_true rfl⟩ rfl rfl rfl rfl rfl ?_
  refine sw_ws [(_, .inr (7, [.ref _, .ref _, .ref _, .int _, .int _, .ref _, .int _, .int _, .ref _, .long _])), (_, .inl (_, _, .inl _)), (_, .inl (_, _, .inl _)), (_, .inl (_, _, .inl _)), (_, .inl (_, _, .inl _)), (_, .inl (_, _, .inl _))] rfl ?_
  refine sw_iret 27 C RC dX7_serve_27 ?_
  exact ⟨rfl, (f1, _), ⟨h1, mK_add hK hcn hod hE hO⟩, rfl⟩
set_option maxHeartbeats 4000000 in
set_option maxRecDepth 100000 in
theorem ct_X7_serve_2 (l : Launch) {D : va_G} {cI cJ cQ : ClassId} {b0 b1 b2 b3 b4 b5 : Nat} {sa pa ad tx nb : Nat → Int32} {kp th ty ap : Int32} {hh : Int64} {S : StT} {B T : Nat} (hE : mE S sa) (hO : mO B T S) (h0 : zn S = 0) : Ct l yX7_serve (Cond.code yX7_serve cX7_serve 1 (some .int)) 5 112 0 0 D (tyz cI cJ cQ) [.ref b0] [(b0, .inr (7, [.ref b1, .ref b2, .ref b3, .int (kp), .int (th), .ref b4, .int (ty), .int (ap), .ref b5, .long (hh)])), (b1, .inl (cI, 424, .inl (sa))), (b2, .inl (cI, 1696, .inl (pa))), (b3, .inl (cI, 424, .inl (ad))), (b4, .inl (cI, 100, .inl (tx))), (b5, .inl (cI, 4, .inl (nb)))] (pstI 0 [(b0, .inr (7, [.ref b1, .ref b2, .ref b3, .int (kp), .int (1), .ref b4, .int (ty), .int (ap), .ref b5, .long (hh)])), (b1, .inl (cI, 424, .inl (sa))), (b2, .inl (cI, 1696, .inl (pa))), (b3, .inl (cI, 424, .inl (ad))), (b4, .inl (cI, 100, .inl (tx))), (b5, .inl (cI, 4, .inl (nb)))]) := by
  refine Ct.of RX7 (by decide) rfl (Nat.le_of_ble_eq_true rfl) ?_
  intro p e s m below meth c A C RC
  refine sw_aload_n 0 0 C dX7_serve_0 rfl rfl ?_
  refine sw_get 1 0 0 C dX7_serve_1 rfl rfl (inA lwX7) (C.w wF_X7_7) rfl rfl rfl ?_
  refine sw_iconst 4 C dX7_serve_4 1 (by decide) ?_
  refine sw_ialdN 5 1 0 (1) C dX7_serve_5 rfl (by decide) rfl rfl rfl ?_
  refine sw_top (hE.n) ?_
  refine sw_if_ne 6 15 C dX7_serve_6 (by decide) (fun c_6 => ?_) (fun c_6 => ?_)
  · exact by first | exact absurd c_6 (fun q => q (by rw [h0]; rfl)) | exact absurd (fun q => q (by rw [h0]; rfl)) c_6
  refine sw_aload_n 9 0 C dX7_serve_9 rfl rfl ?_
  refine sw_iconst 10 C dX7_serve_10 1 (by decide) ?_
  refine sw_callVI 11 [0, 1, 2, 3, 4, 5] 1 C dX7_serve_11 (ct_X7_fails l) wK_X7_fails wM_X7_77 wN_X7_fails wS_X7_X7_fails wI_X7 hd_X7_fails rfl rfl rfl ⟨rfl, rfl⟩ ⟨Nat.le_of_ble_eq_true rfl, Nat.le_of_ble_eq_true rfl⟩ rfl rfl rfl rfl rfl ?_
  refine sw_ws [(_, .inr (7, [.ref _, .ref _, .ref _, .int _, .int _, .ref _, .int _, .int _, .ref _, .long _])), (_, .inl (_, _, .inl _)), (_, .inl (_, _, .inl _)), (_, .inl (_, _, .inl _)), (_, .inl (_, _, .inl _)), (_, .inl (_, _, .inl _))] rfl ?_
  refine sw_iret 14 C RC dX7_serve_14 ?_
  exact ⟨rfl, rfl⟩
set_option maxHeartbeats 4000000 in
set_option maxRecDepth 100000 in
theorem ct_X7_pass (l : Launch) {D : va_G} {cI cJ cQ : ClassId} {b0 b1 b2 b3 b4 b5 : Nat} {sa pa ad tx nb : Nat → Int32} {th ty ap : Int32} {hh : Int64} {S : StT} {R : Nat → StT} {cn od B T : Nat} (hE : mE S sa) (hO : mO B T S) (hK : mK B T R cn od pa) (hcn : cn ≤ 4) (hod : od < 4) {x1 : Int32} (k : Nat) (h1 : x1 = nI k) (hk0 : 1 ≤ k) (hk : k ≤ 200) (t : Nat) (h0 : zt S = nI t) (htT : t ≤ 100000) (ht : t + k ≤ 100000) : Ct l yX7_pass (Cond.code yX7_pass cX7_pass 2 (some .int)) 5 114 0 0 D (tyz cI cJ cQ) [.ref b0, .int x1] [(b0, .inr (7, [.ref b1, .ref b2, .ref b3, .int (nI cn), .int (th), .ref b4, .int (ty), .int (ap), .ref b5, .long (hh)])), (b1, .inl (cI, 424, .inl (sa))), (b2, .inl (cI, 1696, .inl (pa))), (b3, .inl (cI, 424, .inl (ad))), (b4, .inl (cI, 100, .inl (tx))), (b5, .inl (cI, 4, .inl (nb)))] (pstE (nI (tps k S).1) (fun f : (Nat → Int32) × (Nat → Int32) => mE ((tps k S).2) f.1 ∧ mK B T (va_up R (svI cn od) S) (svC cn) (svO cn od) f.2) (fun f => [(b0, .inr (7, [.ref b1, .ref b2, .ref b3, .int (nI (svC cn)), .int (0), .ref b4, .int (ty), .int (ap), .ref b5, .long (hh)])), (b1, .inl (cI, 424, .inl (f.1))), (b2, .inl (cI, 1696, .inl (f.2))), (b3, .inl (cI, 424, .inl (ad))), (b4, .inl (cI, 100, .inl (tx))), (b5, .inl (cI, 4, .inl (nb)))])) := by
  refine Ct.of RX7 (by decide) rfl (Nat.le_of_ble_eq_true rfl) ?_
  intro p e s m below meth c A C RC
  subst h1
  refine sw_iload_n 0 1 C dX7_pass_0 rfl rfl ?_
  refine sw_iconst 1 C dX7_pass_1 1 (by decide) ?_
  refine sw_sipush 2 C dX7_pass_2 200 (by decide) ?_
  refine sw_callSIP 5 [] 3 C dX7_pass_5 (ct_X7_in l) wK_X7_in wM_X7_73 wT_X7_in wI_X7 hd_X7_in rfl ⟨rfl, rfl⟩ ⟨Nat.le_of_ble_eq_true rfl, Nat.le_of_ble_eq_true rfl⟩ rfl rfl rfl rfl ?_
  refine sw_if_ne 8 17 C dX7_pass_8 (by decide) (fun c_8 => ?_) (fun c_8 => ?_)
  rotate_left
  · exact by first | exact absurd c_8 (by rw [show inR (nI k) 1 200 = true from inR_nI 1 200 hk0 hk (by decide)]; decide) | exact absurd (by rw [show inR (nI k) 1 200 = true from inR_nI 1 200 hk0 hk (by decide)]; decide) c_8
  refine sw_aload_n 17 0 C dX7_pass_17 rfl rfl ?_
  refine sw_get 18 0 0 C dX7_pass_18 rfl rfl (inA lwX7) (C.w wF_X7_7) rfl rfl rfl ?_
  refine sw_iconst 21 C dX7_pass_21 0 (by decide) ?_
  refine sw_ialdN 22 1 0 (0) C dX7_pass_22 rfl (by decide) rfl rfl rfl ?_
  refine sw_top (hE.t.trans h0) ?_
  refine sw_iload_n 23 1 C dX7_pass_23 rfl rfl ?_
  refine sw_iadd 24 C dX7_pass_24 ?_
  refine sw_top (nI_add t k) ?_
  refine sw_ldc 25 C dX7_pass_25 (C.w wQ_X7_106) ?_
  refine sw_icmp_le 27 36 C dX7_pass_27 (by decide) (fun c_27 => ?_) (fun c_27 => ?_)
  rotate_left
  · exact by first | exact absurd c_27 (nI_le (b := 100000) ht (by decide)) | exact absurd (nI_le (b := 100000) ht (by decide)) c_27
  refine sw_aload_n 36 0 C dX7_pass_36 rfl rfl ?_
  refine sw_callVV 37 [0, 1, 2, 3, 4, 5] 0 C dX7_pass_37 (ct_X7_keeps l hcn) wK_X7_keeps wM_X7_67 wN_X7_keeps wS_X7_X7_keeps wI_X7 hd_X7_keeps rfl rfl rfl ⟨rfl, rfl⟩ ⟨Nat.le_of_ble_eq_true rfl, Nat.le_of_ble_eq_true rfl⟩ rfl rfl rfl rfl rfl ?_
  refine sw_ws [(_, .inr (7, [.ref _, .ref _, .ref _, .int _, .int _, .ref _, .int _, .int _, .ref _, .long _])), (_, .inl (_, _, .inl _)), (_, .inl (_, _, .inl _)), (_, .inl (_, _, .inl _)), (_, .inl (_, _, .inl _)), (_, .inl (_, _, .inl _))] rfl ?_
  refine sw_aload_n 40 0 C dX7_pass_40 rfl rfl ?_
  refine sw_aload_n 41 0 C dX7_pass_41 rfl rfl ?_
  refine sw_iload_n 42 1 C dX7_pass_42 rfl rfl ?_
  refine sw_callVE 43 [0, 1, 2, 3, 4, 5] 1 C dX7_pass_43 (ct_X7_ticks l hE hO k rfl hk) wK_X7_ticks wM_X7_107 wN_X7_ticks wS_X7_X7_ticks wI_X7 hd_X7_ticks rfl rfl rfl ⟨rfl, rfl⟩ ⟨Nat.le_of_ble_eq_true rfl, Nat.le_of_ble_eq_true rfl⟩ rfl rfl rfl (fun _ => rfl) rfl (fun f1 h1 => ?_)
  refine sw_ws [(_, .inr (7, [.ref _, .ref _, .ref _, .int _, .int _, .ref _, .int _, .int _, .ref _, .long _])), (_, .inl (_, _, .inl _)), (_, .inl (_, _, .inl _)), (_, .inl (_, _, .inl _)), (_, .inl (_, _, .inl _)), (_, .inl (_, _, .inl _))] rfl ?_
  refine sw_callVI 46 [0, 1, 2, 3, 4, 5] 1 C dX7_pass_46 (ct_X7_tells l) wK_X7_tells wM_X7_70 wN_X7_tells wS_X7_X7_tells wI_X7 hd_X7_tells rfl rfl rfl ⟨rfl, rfl⟩ ⟨Nat.le_of_ble_eq_true rfl, Nat.le_of_ble_eq_true rfl⟩ rfl rfl rfl rfl rfl ?_
  refine sw_ws [(_, .inr (7, [.ref _, .ref _, .ref _, .int _, .int _, .ref _, .int _, .int _, .ref _, .long _])), (_, .inl (_, _, .inl _)), (_, .inl (_, _, .inl _)), (_, .inl (_, _, .inl _)), (_, .inl (_, _, .inl _)), (_, .inl (_, _, .inl _))] rfl ?_
  refine sw_iret 49 C RC dX7_pass_49 ?_
  exact ⟨rfl, (f1, _), ⟨h1, mK_add hK hcn hod hE hO⟩, rfl⟩
set_option maxHeartbeats 4000000 in
set_option maxRecDepth 100000 in
theorem ct_X7_pass_2 (l : Launch) {D : va_G} {cI cJ cQ : ClassId} {b0 b1 b2 b3 b4 b5 : Nat} {sa pa ad tx nb : Nat → Int32} {kp th ty ap : Int32} {hh : Int64} {S : StT} {B T : Nat} (hE : mE S sa) (hO : mO B T S) {x1 : Int32} (k : Nat) (h1 : x1 = nI k) (hk0 : 1 ≤ k) (hk : k ≤ 200) (t : Nat) (h0 : zt S = nI t) (htT : t ≤ 100000) (ht : ¬ t + k ≤ 100000) : Ct l yX7_pass (Cond.code yX7_pass cX7_pass 2 (some .int)) 5 114 0 0 D (tyz cI cJ cQ) [.ref b0, .int x1] [(b0, .inr (7, [.ref b1, .ref b2, .ref b3, .int (kp), .int (th), .ref b4, .int (ty), .int (ap), .ref b5, .long (hh)])), (b1, .inl (cI, 424, .inl (sa))), (b2, .inl (cI, 1696, .inl (pa))), (b3, .inl (cI, 424, .inl (ad))), (b4, .inl (cI, 100, .inl (tx))), (b5, .inl (cI, 4, .inl (nb)))] (pstI 0 [(b0, .inr (7, [.ref b1, .ref b2, .ref b3, .int (kp), .int (2), .ref b4, .int (ty), .int (ap), .ref b5, .long (hh)])), (b1, .inl (cI, 424, .inl (sa))), (b2, .inl (cI, 1696, .inl (pa))), (b3, .inl (cI, 424, .inl (ad))), (b4, .inl (cI, 100, .inl (tx))), (b5, .inl (cI, 4, .inl (nb)))]) := by
  refine Ct.of RX7 (by decide) rfl (Nat.le_of_ble_eq_true rfl) ?_
  intro p e s m below meth c A C RC
  subst h1
  refine sw_iload_n 0 1 C dX7_pass_0 rfl rfl ?_
  refine sw_iconst 1 C dX7_pass_1 1 (by decide) ?_
  refine sw_sipush 2 C dX7_pass_2 200 (by decide) ?_
  refine sw_callSIP 5 [] 3 C dX7_pass_5 (ct_X7_in l) wK_X7_in wM_X7_73 wT_X7_in wI_X7 hd_X7_in rfl ⟨rfl, rfl⟩ ⟨Nat.le_of_ble_eq_true rfl, Nat.le_of_ble_eq_true rfl⟩ rfl rfl rfl rfl ?_
  refine sw_if_ne 8 17 C dX7_pass_8 (by decide) (fun c_8 => ?_) (fun c_8 => ?_)
  rotate_left
  · exact by first | exact absurd c_8 (by rw [show inR (nI k) 1 200 = true from inR_nI 1 200 hk0 hk (by decide)]; decide) | exact absurd (by rw [show inR (nI k) 1 200 = true from inR_nI 1 200 hk0 hk (by decide)]; decide) c_8
  refine sw_aload_n 17 0 C dX7_pass_17 rfl rfl ?_
  refine sw_get 18 0 0 C dX7_pass_18 rfl rfl (inA lwX7) (C.w wF_X7_7) rfl rfl rfl ?_
  refine sw_iconst 21 C dX7_pass_21 0 (by decide) ?_
  refine sw_ialdN 22 1 0 (0) C dX7_pass_22 rfl (by decide) rfl rfl rfl ?_
  refine sw_top (hE.t.trans h0) ?_
  refine sw_iload_n 23 1 C dX7_pass_23 rfl rfl ?_
  refine sw_iadd 24 C dX7_pass_24 ?_
  refine sw_top (nI_add t k) ?_
  refine sw_ldc 25 C dX7_pass_25 (C.w wQ_X7_106) ?_
  refine sw_icmp_le 27 36 C dX7_pass_27 (by decide) (fun c_27 => ?_) (fun c_27 => ?_)
  · exact by first | exact absurd c_27 (nI_ge (a := 100000) (by omega) (by omega)) | exact absurd (nI_ge (a := 100000) (by omega) (by omega)) c_27
  refine sw_aload_n 30 0 C dX7_pass_30 rfl rfl ?_
  refine sw_iconst 31 C dX7_pass_31 2 (by decide) ?_
  refine sw_callVI 32 [0, 1, 2, 3, 4, 5] 1 C dX7_pass_32 (ct_X7_fails l) wK_X7_fails wM_X7_77 wN_X7_fails wS_X7_X7_fails wI_X7 hd_X7_fails rfl rfl rfl ⟨rfl, rfl⟩ ⟨Nat.le_of_ble_eq_true rfl, Nat.le_of_ble_eq_true rfl⟩ rfl rfl rfl rfl rfl ?_
  refine sw_ws [(_, .inr (7, [.ref _, .ref _, .ref _, .int _, .int _, .ref _, .int _, .int _, .ref _, .long _])), (_, .inl (_, _, .inl _)), (_, .inl (_, _, .inl _)), (_, .inl (_, _, .inl _)), (_, .inl (_, _, .inl _)), (_, .inl (_, _, .inl _))] rfl ?_
  refine sw_iret 35 C RC dX7_pass_35 ?_
  exact ⟨rfl, rfl⟩
set_option maxHeartbeats 4000000 in
set_option maxRecDepth 100000 in
theorem ct_X7_pass_3 (l : Launch) {D : va_G} {cI cJ cQ : ClassId} {b0 b1 b2 b3 b4 b5 : Nat} {sa pa ad tx nb : Nat → Int32} {kp th ty ap : Int32} {hh : Int64} {x1 : Int32} (hx : inR x1 1 200 = false) : Ct l yX7_pass (Cond.code yX7_pass cX7_pass 2 (some .int)) 5 114 0 0 D (tyz cI cJ cQ) [.ref b0, .int x1] [(b0, .inr (7, [.ref b1, .ref b2, .ref b3, .int (kp), .int (th), .ref b4, .int (ty), .int (ap), .ref b5, .long (hh)])), (b1, .inl (cI, 424, .inl (sa))), (b2, .inl (cI, 1696, .inl (pa))), (b3, .inl (cI, 424, .inl (ad))), (b4, .inl (cI, 100, .inl (tx))), (b5, .inl (cI, 4, .inl (nb)))] (pstI 0 [(b0, .inr (7, [.ref b1, .ref b2, .ref b3, .int (kp), .int (1), .ref b4, .int (ty), .int (ap), .ref b5, .long (hh)])), (b1, .inl (cI, 424, .inl (sa))), (b2, .inl (cI, 1696, .inl (pa))), (b3, .inl (cI, 424, .inl (ad))), (b4, .inl (cI, 100, .inl (tx))), (b5, .inl (cI, 4, .inl (nb)))]) := by
  refine Ct.of RX7 (by decide) rfl (Nat.le_of_ble_eq_true rfl) ?_
  intro p e s m below meth c A C RC
  refine sw_iload_n 0 1 C dX7_pass_0 rfl rfl ?_
  refine sw_iconst 1 C dX7_pass_1 1 (by decide) ?_
  refine sw_sipush 2 C dX7_pass_2 200 (by decide) ?_
  refine sw_callSIP 5 [] 3 C dX7_pass_5 (ct_X7_in l) wK_X7_in wM_X7_73 wT_X7_in wI_X7 hd_X7_in rfl ⟨rfl, rfl⟩ ⟨Nat.le_of_ble_eq_true rfl, Nat.le_of_ble_eq_true rfl⟩ rfl rfl rfl rfl ?_
  refine sw_if_ne 8 17 C dX7_pass_8 (by decide) (fun c_8 => ?_) (fun c_8 => ?_)
  · exact by first | exact absurd c_8 (fun q => q (by rw [hx]; rfl)) | exact absurd (fun q => q (by rw [hx]; rfl)) c_8
  refine sw_aload_n 11 0 C dX7_pass_11 rfl rfl ?_
  refine sw_iconst 12 C dX7_pass_12 1 (by decide) ?_
  refine sw_callVI 13 [0, 1, 2, 3, 4, 5] 1 C dX7_pass_13 (ct_X7_fails l) wK_X7_fails wM_X7_77 wN_X7_fails wS_X7_X7_fails wI_X7 hd_X7_fails rfl rfl rfl ⟨rfl, rfl⟩ ⟨Nat.le_of_ble_eq_true rfl, Nat.le_of_ble_eq_true rfl⟩ rfl rfl rfl rfl rfl ?_
  refine sw_ws [(_, .inr (7, [.ref _, .ref _, .ref _, .int _, .int _, .ref _, .int _, .int _, .ref _, .long _])), (_, .inl (_, _, .inl _)), (_, .inl (_, _, .inl _)), (_, .inl (_, _, .inl _)), (_, .inl (_, _, .inl _)), (_, .inl (_, _, .inl _))] rfl ?_
  refine sw_iret 16 C RC dX7_pass_16 ?_
  exact ⟨rfl, rfl⟩
set_option maxHeartbeats 4000000 in
set_option maxRecDepth 100000 in
theorem lp_X7_undo {l : Launch} {p : Program} {e : Env} {s : State} {m : MethodId} {args : Array Value} {below : List Frame} {meth : Method} {c : Code} {A : Nat → Prop} {D : va_G} {cI cJ cQ : ClassId} {b0 b1 b2 b3 b4 b5 : Nat} {sa pa ad tx nb : Nat → Int32} {th ty ap : Int32} {hh : Int64} {cn : Nat} (hcn : cn < 4) (C : CC p s m args c cX7_undo 2 RX7 (Cond.code yX7_undo cX7_undo 2 (some .int) :: lw_all) D (tyz cI cJ cQ) A s.heap) (RC : meth.sig.returnType = (some .int) ∧ meth.locks = false ∧ meth.name = yX7_undo.name) : ∀ (fu i : Nat), i ≤ 424 → 424 + 1 ≤ i + fu →  ∀ (xi : Int32), (xi = nI i) →  sw p l e ({ frames := 1, cells := 0, slots := 0, locals := 21 } : Room) s m args below meth c D A s.heap 2 0 0 (MQ below (ctQ D (tyz cI cJ cQ) A (pstI (nI cn) [(b0, .inr (7, [.ref b1, .ref b2, .ref b3, .int (nI cn), .int (0), .ref b4, .int (ty), .int (ap), .ref b5, .long (hh)])), (b1, .inl (cI, 424, .inl (fun k => pa (424 * cn + k)))), (b2, .inl (cI, 1696, .inl (pa))), (b3, .inl (cI, 424, .inl (ad))), (b4, .inl (cI, 100, .inl (tx))), (b5, .inl (cI, 4, .inl (nb)))])) args s 0 0 A) [(b0, .inr (7, [.ref b1, .ref b2, .ref b3, .int (nI cn), .int (th), .ref b4, .int (ty), .int (ap), .ref b5, .long (hh)])), (b1, .inl (cI, 424, .inl (cpi (fun k => pa (424 * cn + k)) sa i))), (b2, .inl (cI, 1696, .inl (pa))), (b3, .inl (cI, 424, .inl (ad))), (b4, .inl (cI, 100, .inl (tx))), (b5, .inl (cI, 4, .inl (nb)))] 25 [(0, .ref b0), (1, .int xi)] [] := by
  intro fu
  induction fu with
  | zero => intro i h1 h2; exact absurd h2 (by omega)
  | succ fu ih =>
    intro i hi hf  xi exi
    subst exi
    refine sw_iload_n 25 1 C dX7_undo_25 rfl rfl ?_
    refine sw_sipush 26 C dX7_undo_26 424 (by decide) ?_
    refine sw_icmp_ge 29 59 C dX7_undo_29 (by decide) (fun c_29 => ?_) (fun c_29 => ?_)
    · obtain rfl : i = 424 := by
        have c : nI 424 ≤ nI i := c_29
        have := nI_ge' (by omega) c (by omega)
        omega
      refine sw_arrEq 1 (fun k => pa (424 * cn + k)) rfl (fun j hj => cpi_all hj) ?_
      refine sw_aload_n 59 0 C dX7_undo_59 rfl rfl ?_
      refine sw_aload_n 60 0 C dX7_undo_60 rfl rfl ?_
      refine sw_get 61 0 3 C dX7_undo_61 rfl rfl (inA lwX7) (C.w wF_X7_29) rfl rfl rfl ?_
      refine sw_callVI 64 [0, 1, 2, 3, 4, 5] 1 C dX7_undo_64 (ct_X7_tells l) wK_X7_tells wM_X7_70 wN_X7_tells wS_X7_X7_tells wI_X7 hd_X7_tells rfl rfl rfl ⟨rfl, rfl⟩ ⟨Nat.le_of_ble_eq_true rfl, Nat.le_of_ble_eq_true rfl⟩ rfl rfl rfl rfl rfl ?_
      refine sw_ws [(_, .inr (7, [.ref _, .ref _, .ref _, .int _, .int _, .ref _, .int _, .int _, .ref _, .long _])), (_, .inl (_, _, .inl _)), (_, .inl (_, _, .inl _)), (_, .inl (_, _, .inl _)), (_, .inl (_, _, .inl _)), (_, .inl (_, _, .inl _))] rfl ?_
      refine sw_iret 67 C RC dX7_undo_67 ?_
      exact ⟨rfl, rfl⟩
    · have hlt : i < 424 := by
        rcases Nat.lt_or_ge i 424 with q | q
        · exact q
        · exact absurd (show (424 : Int32) ≤ nI i from nI_le (a := 424) q (by omega)) c_29
      refine sw_aload_n 32 0 C dX7_undo_32 rfl rfl ?_
      refine sw_get 33 0 0 C dX7_undo_33 rfl rfl (inA lwX7) (C.w wF_X7_7) rfl rfl rfl ?_
      refine sw_iload_n 36 1 C dX7_undo_36 rfl rfl ?_
      refine sw_aload_n 37 0 C dX7_undo_37 rfl rfl ?_
      refine sw_get 38 0 1 C dX7_undo_38 rfl rfl (inA lwX7) (C.w wF_X7_13) rfl rfl rfl ?_
      refine sw_sipush 41 C dX7_undo_41 424 (by decide) ?_
      refine sw_aload_n 44 0 C dX7_undo_44 rfl rfl ?_
      refine sw_get 45 0 3 C dX7_undo_45 rfl rfl (inA lwX7) (C.w wF_X7_29) rfl rfl rfl ?_
      refine sw_imul 48 C dX7_undo_48 ?_
      refine sw_iload_n 49 1 C dX7_undo_49 rfl rfl ?_
      refine sw_iadd 50 C dX7_undo_50 ?_
      refine sw_ialdN 51 2 0 (424 * cn + i) C dX7_undo_51 (by rw [show (424 : Int32) = nI 424 from rfl, pk_mul, nI_add]) (by omega) rfl rfl rfl ?_
      refine sw_iastN 52 1 0 (i) C dX7_undo_52 rfl hlt rfl rfl rfl ?_
      refine sw_ws [(_, .inr (7, [.ref _, .ref _, .ref _, .int _, .int _, .ref _, .int _, .int _, .ref _, .long _])), (_, .inl (_, _, .inl _)), (_, .inl (_, _, .inl _)), (_, .inl (_, _, .inl _)), (_, .inl (_, _, .inl _)), (_, .inl (_, _, .inl _))] rfl ?_
      refine sw_iinc 53 C 1 dX7_undo_53 (by decide) rfl rfl ?_
      refine sw_goto 56 25 C dX7_undo_56 (by decide) ?_
      refine sw_ws [(b0, .inr (7, [.ref b1, .ref b2, .ref b3, .int (nI cn), .int (th), .ref b4, .int (ty), .int (ap), .ref b5, .long (hh)])), (b1, .inl (cI, 424, .inl (cpi (fun k => pa (424 * cn + k)) sa (i + 1)))), (b2, .inl (cI, 1696, .inl (pa))), (b3, .inl (cI, 424, .inl (ad))), (b4, .inl (cI, 100, .inl (tx))), (b5, .inl (cI, 4, .inl (nb)))] (by rw [← cpi_s]) ?_
      exact sw_loc (ih (i + 1) (by omega) (by omega) _ (nI_1 i)) rfl
set_option maxHeartbeats 4000000 in
set_option maxRecDepth 100000 in
theorem ct_X7_undo (l : Launch) {D : va_G} {cI cJ cQ : ClassId} {b0 b1 b2 b3 b4 b5 : Nat} {sa pa ad tx nb : Nat → Int32} {th ty ap : Int32} {hh : Int64} {cn : Nat} (hc0 : 0 < cn) (hcn : cn ≤ 4) : Ct l yX7_undo (Cond.code yX7_undo cX7_undo 2 (some .int)) 1 21 0 0 D (tyz cI cJ cQ) [.ref b0] [(b0, .inr (7, [.ref b1, .ref b2, .ref b3, .int (nI cn), .int (th), .ref b4, .int (ty), .int (ap), .ref b5, .long (hh)])), (b1, .inl (cI, 424, .inl (sa))), (b2, .inl (cI, 1696, .inl (pa))), (b3, .inl (cI, 424, .inl (ad))), (b4, .inl (cI, 100, .inl (tx))), (b5, .inl (cI, 4, .inl (nb)))] (pstI (nI (cn - 1)) [(b0, .inr (7, [.ref b1, .ref b2, .ref b3, .int (nI (cn - 1)), .int (0), .ref b4, .int (ty), .int (ap), .ref b5, .long (hh)])), (b1, .inl (cI, 424, .inl (fun k => pa (424 * (cn - 1) + k)))), (b2, .inl (cI, 1696, .inl (pa))), (b3, .inl (cI, 424, .inl (ad))), (b4, .inl (cI, 100, .inl (tx))), (b5, .inl (cI, 4, .inl (nb)))]) := by
  refine Ct.of RX7 (by decide) rfl (Nat.le_of_ble_eq_true rfl) ?_
  intro p e s m below meth c A C RC
  refine sw_aload_n 0 0 C dX7_undo_0 rfl rfl ?_
  refine sw_get 1 0 3 C dX7_undo_1 rfl rfl (inA lwX7) (C.w wF_X7_29) rfl rfl rfl ?_
  refine sw_if_ne 4 13 C dX7_undo_4 (by decide) (fun c_4 => ?_) (fun c_4 => ?_)
  rotate_left
  · exact by first | exact absurd c_4 (nI_ne0 hc0 (by omega)) | exact absurd (nI_ne0 hc0 (by omega)) c_4
  refine sw_aload_n 13 0 C dX7_undo_13 rfl rfl ?_
  refine sw_dup 14 C dX7_undo_14 rfl ?_
  refine sw_get 15 0 3 C dX7_undo_15 rfl rfl (inA lwX7) (C.w wF_X7_29) rfl rfl rfl ?_
  refine sw_iconst 18 C dX7_undo_18 1 (by decide) ?_
  refine sw_isub 19 C dX7_undo_19 ?_
  refine sw_top (show nI cn - 1 = nI (cn - 1) by rw [show (1 : Int32) = nI 1 from rfl, pk_sub (by omega)]) ?_
  refine sw_put 20 0 3 tyX7 C dX7_undo_20 rfl rfl (inA lwX7) tyX7_ok nmX7 (C.w wF_X7_29) rfl rfl rfl rfl rfl rfl rfl ?_
  refine sw_ws [(_, .inr (7, [.ref _, .ref _, .ref _, .int _, .int _, .ref _, .int _, .int _, .ref _, .long _])), (_, .inl (_, _, .inl _)), (_, .inl (_, _, .inl _)), (_, .inl (_, _, .inl _)), (_, .inl (_, _, .inl _)), (_, .inl (_, _, .inl _))] rfl ?_
  refine sw_iconst 23 C dX7_undo_23 0 (by decide) ?_
  refine sw_istore_n 24 1 C dX7_undo_24 rfl rfl ?_
  refine sw_ws [(b0, .inr (7, [.ref b1, .ref b2, .ref b3, .int (nI (cn - 1)), .int (th), .ref b4, .int (ty), .int (ap), .ref b5, .long (hh)])), (b1, .inl (cI, 424, .inl (cpi (fun k => pa (424 * (cn - 1) + k)) sa 0))), (b2, .inl (cI, 1696, .inl (pa))), (b3, .inl (cI, 424, .inl (ad))), (b4, .inl (cI, 100, .inl (tx))), (b5, .inl (cI, 4, .inl (nb)))] (by rw [cpi_0]) ?_
  exact sw_loc (lp_X7_undo (cn := cn - 1) (by omega) C RC 425 0 (Nat.zero_le _) (by omega) _ rfl) rfl
set_option maxHeartbeats 4000000 in
set_option maxRecDepth 100000 in
theorem ct_X7_undo_2 (l : Launch) {D : va_G} {cI cJ cQ : ClassId} {b0 b1 b2 b3 b4 b5 : Nat} {sa pa ad tx nb : Nat → Int32} {th ty ap : Int32} {hh : Int64} : Ct l yX7_undo (Cond.code yX7_undo cX7_undo 2 (some .int)) 1 21 0 0 D (tyz cI cJ cQ) [.ref b0] [(b0, .inr (7, [.ref b1, .ref b2, .ref b3, .int (nI 0), .int (th), .ref b4, .int (ty), .int (ap), .ref b5, .long (hh)])), (b1, .inl (cI, 424, .inl (sa))), (b2, .inl (cI, 1696, .inl (pa))), (b3, .inl (cI, 424, .inl (ad))), (b4, .inl (cI, 100, .inl (tx))), (b5, .inl (cI, 4, .inl (nb)))] (pstI 0 [(b0, .inr (7, [.ref b1, .ref b2, .ref b3, .int (nI 0), .int (1), .ref b4, .int (ty), .int (ap), .ref b5, .long (hh)])), (b1, .inl (cI, 424, .inl (sa))), (b2, .inl (cI, 1696, .inl (pa))), (b3, .inl (cI, 424, .inl (ad))), (b4, .inl (cI, 100, .inl (tx))), (b5, .inl (cI, 4, .inl (nb)))]) := by
  refine Ct.of RX7 (by decide) rfl (Nat.le_of_ble_eq_true rfl) ?_
  intro p e s m below meth c A C RC
  refine sw_aload_n 0 0 C dX7_undo_0 rfl rfl ?_
  refine sw_get 1 0 3 C dX7_undo_1 rfl rfl (inA lwX7) (C.w wF_X7_29) rfl rfl rfl ?_
  refine sw_if_ne 4 13 C dX7_undo_4 (by decide) (fun c_4 => ?_) (fun c_4 => ?_)
  · exact by first | exact absurd c_4 (fun q => q rfl) | exact absurd (fun q => q rfl) c_4
  refine sw_aload_n 7 0 C dX7_undo_7 rfl rfl ?_
  refine sw_iconst 8 C dX7_undo_8 1 (by decide) ?_
  refine sw_callVI 9 [0, 1, 2, 3, 4, 5] 1 C dX7_undo_9 (ct_X7_fails l) wK_X7_fails wM_X7_77 wN_X7_fails wS_X7_X7_fails wI_X7 hd_X7_fails rfl rfl rfl ⟨rfl, rfl⟩ ⟨Nat.le_of_ble_eq_true rfl, Nat.le_of_ble_eq_true rfl⟩ rfl rfl rfl rfl rfl ?_
  refine sw_ws [(_, .inr (7, [.ref _, .ref _, .ref _, .int _, .int _, .ref _, .int _, .int _, .ref _, .long _])), (_, .inl (_, _, .inl _)), (_, .inl (_, _, .inl _)), (_, .inl (_, _, .inl _)), (_, .inl (_, _, .inl _)), (_, .inl (_, _, .inl _))] rfl ?_
  refine sw_iret 12 C RC dX7_undo_12 ?_
  exact ⟨rfl, rfl⟩
set_option maxHeartbeats 4000000 in
set_option maxRecDepth 100000 in
theorem ct_X7_petition (l : Launch) {D : va_G} {cI cJ cQ : ClassId} {b0 b1 b2 b3 b4 b5 : Nat} {sa pa ad tx nb : Nat → Int32} {kp th ty ap : Int32} {hh : Int64} {S : StT} {B T : Nat} (hE : mE S sa) (hO : mO B T S) {x1 x2 : Int32} (i : Nat) (hi : fnd (zf S) x1 (zn S) = some i) (w : Nat) (h2 : x2 = nI w) (hw : w ≤ 9) : Ct l yX7_petition (Cond.code yX7_petition cX7_petition 4 (some .int)) 4 90 0 0 D (tyz cI cJ cQ) [.ref b0, .int x1, .int x2] [(b0, .inr (7, [.ref b1, .ref b2, .ref b3, .int (kp), .int (th), .ref b4, .int (ty), .int (ap), .ref b5, .long (hh)])), (b1, .inl (cI, 424, .inl (sa))), (b2, .inl (cI, 1696, .inl (pa))), (b3, .inl (cI, 424, .inl (ad))), (b4, .inl (cI, 100, .inl (tx))), (b5, .inl (cI, 4, .inl (nb)))] (pstI (tel (zf S) (zn S) i w) [(b0, .inr (7, [.ref b1, .ref b2, .ref b3, .int (kp), .int (0), .ref b4, .int (ty), .int (ap), .ref b5, .long (hh)])), (b1, .inl (cI, 424, .inl (sa))), (b2, .inl (cI, 1696, .inl (pa))), (b3, .inl (cI, 424, .inl (ad))), (b4, .inl (cI, 100, .inl (tx))), (b5, .inl (cI, 4, .inl (nb)))]) := by
  refine Ct.of RX7 (by decide) rfl (Nat.le_of_ble_eq_true rfl) ?_
  intro p e s m below meth c A C RC
  subst h2
  have hin := fnd_lt _ _ hi
  refine sw_aload_n 0 0 C dX7_petition_0 rfl rfl ?_
  refine sw_iload_n 1 1 C dX7_petition_1 rfl rfl ?_
  refine sw_callVIP 2 [0, 1, 2, 3, 4, 5] 1 C dX7_petition_2 (ct_X7_find l hE hO) wK_X7_find wM_X7_100 wN_X7_find wS_X7_X7_find wI_X7 hd_X7_find rfl rfl rfl ⟨rfl, rfl⟩ ⟨Nat.le_of_ble_eq_true rfl, Nat.le_of_ble_eq_true rfl⟩ rfl rfl rfl rfl ?_
  rw [hi]
  refine sw_istore_n 5 3 C dX7_petition_5 rfl rfl ?_
  refine sw_iload_n 6 3 C dX7_petition_6 rfl rfl ?_
  refine sw_iconst 7 C dX7_petition_7 (-1) (by decide) ?_
  refine sw_icmp_ne 8 17 C dX7_petition_8 (by decide) (fun c_8 => ?_) (fun c_8 => ?_)
  rotate_left
  · exact by first | exact absurd c_8 (i32_ne_m1 (by have := hO.n; omega)) | exact absurd (i32_ne_m1 (by have := hO.n; omega)) c_8
  refine sw_iload_n 17 2 C dX7_petition_17 rfl rfl ?_
  refine sw_iconst 18 C dX7_petition_18 0 (by decide) ?_
  refine sw_bipush 19 C dX7_petition_19 9 (by decide) ?_
  refine sw_callSIP 21 [] 3 C dX7_petition_21 (ct_X7_in l) wK_X7_in wM_X7_73 wT_X7_in wI_X7 hd_X7_in rfl ⟨rfl, rfl⟩ ⟨Nat.le_of_ble_eq_true rfl, Nat.le_of_ble_eq_true rfl⟩ rfl rfl rfl rfl ?_
  refine sw_if_eq 24 40 C dX7_petition_24 (by decide) (fun c_24 => ?_) (fun c_24 => ?_)
  · exact by first | exact absurd c_24 (by rw [show inR (nI w) 0 9 = true from inR_nI 0 9 (by omega) (by omega) (by decide)]; decide) | exact absurd (by rw [show inR (nI w) 0 9 = true from inR_nI 0 9 (by omega) (by omega) (by decide)]; decide) c_24
  refine sw_aload_n 27 0 C dX7_petition_27 rfl rfl ?_
  refine sw_aload_n 28 0 C dX7_petition_28 rfl rfl ?_
  refine sw_iload_n 29 3 C dX7_petition_29 rfl rfl ?_
  refine sw_iload_n 30 2 C dX7_petition_30 rfl rfl ?_
  refine sw_callVIP 31 [0, 1, 2, 3, 4, 5] 2 C dX7_petition_31 (ct_X7_told l hE hO i w rfl rfl hin hw) wK_X7_told wM_X7_110 wN_X7_told wS_X7_X7_told wI_X7 hd_X7_told rfl rfl rfl ⟨rfl, rfl⟩ ⟨Nat.le_of_ble_eq_true rfl, Nat.le_of_ble_eq_true rfl⟩ rfl rfl rfl rfl ?_
  refine sw_callVI 34 [0, 1, 2, 3, 4, 5] 1 C dX7_petition_34 (ct_X7_tells l) wK_X7_tells wM_X7_70 wN_X7_tells wS_X7_X7_tells wI_X7 hd_X7_tells rfl rfl rfl ⟨rfl, rfl⟩ ⟨Nat.le_of_ble_eq_true rfl, Nat.le_of_ble_eq_true rfl⟩ rfl rfl rfl rfl rfl ?_
  refine sw_ws [(_, .inr (7, [.ref _, .ref _, .ref _, .int _, .int _, .ref _, .int _, .int _, .ref _, .long _])), (_, .inl (_, _, .inl _)), (_, .inl (_, _, .inl _)), (_, .inl (_, _, .inl _)), (_, .inl (_, _, .inl _)), (_, .inl (_, _, .inl _))] rfl ?_
  refine sw_goto 37 45 C dX7_petition_37 (by decide) ?_
  refine sw_iret 45 C RC dX7_petition_45 ?_
  exact ⟨rfl, rfl⟩
set_option maxHeartbeats 4000000 in
set_option maxRecDepth 100000 in
theorem ct_X7_petition_2 (l : Launch) {D : va_G} {cI cJ cQ : ClassId} {b0 b1 b2 b3 b4 b5 : Nat} {sa pa ad tx nb : Nat → Int32} {kp th ty ap : Int32} {hh : Int64} {S : StT} {B T : Nat} (hE : mE S sa) (hO : mO B T S) {x1 x2 : Int32} (hi : fnd (zf S) x1 (zn S) = none) : Ct l yX7_petition (Cond.code yX7_petition cX7_petition 4 (some .int)) 4 90 0 0 D (tyz cI cJ cQ) [.ref b0, .int x1, .int x2] [(b0, .inr (7, [.ref b1, .ref b2, .ref b3, .int (kp), .int (th), .ref b4, .int (ty), .int (ap), .ref b5, .long (hh)])), (b1, .inl (cI, 424, .inl (sa))), (b2, .inl (cI, 1696, .inl (pa))), (b3, .inl (cI, 424, .inl (ad))), (b4, .inl (cI, 100, .inl (tx))), (b5, .inl (cI, 4, .inl (nb)))] (pstI 0 [(b0, .inr (7, [.ref b1, .ref b2, .ref b3, .int (kp), .int (1), .ref b4, .int (ty), .int (ap), .ref b5, .long (hh)])), (b1, .inl (cI, 424, .inl (sa))), (b2, .inl (cI, 1696, .inl (pa))), (b3, .inl (cI, 424, .inl (ad))), (b4, .inl (cI, 100, .inl (tx))), (b5, .inl (cI, 4, .inl (nb)))]) := by
  refine Ct.of RX7 (by decide) rfl (Nat.le_of_ble_eq_true rfl) ?_
  intro p e s m below meth c A C RC
  refine sw_aload_n 0 0 C dX7_petition_0 rfl rfl ?_
  refine sw_iload_n 1 1 C dX7_petition_1 rfl rfl ?_
  refine sw_callVIP 2 [0, 1, 2, 3, 4, 5] 1 C dX7_petition_2 (ct_X7_find l hE hO) wK_X7_find wM_X7_100 wN_X7_find wS_X7_X7_find wI_X7 hd_X7_find rfl rfl rfl ⟨rfl, rfl⟩ ⟨Nat.le_of_ble_eq_true rfl, Nat.le_of_ble_eq_true rfl⟩ rfl rfl rfl rfl ?_
  rw [hi]
  refine sw_istore_n 5 3 C dX7_petition_5 rfl rfl ?_
  refine sw_iload_n 6 3 C dX7_petition_6 rfl rfl ?_
  refine sw_iconst 7 C dX7_petition_7 (-1) (by decide) ?_
  refine sw_icmp_ne 8 17 C dX7_petition_8 (by decide) (fun c_8 => ?_) (fun c_8 => ?_)
  · exact by first | exact absurd c_8 (fun q => q rfl) | exact absurd (fun q => q rfl) c_8
  refine sw_aload_n 11 0 C dX7_petition_11 rfl rfl ?_
  refine sw_iconst 12 C dX7_petition_12 1 (by decide) ?_
  refine sw_callVI 13 [0, 1, 2, 3, 4, 5] 1 C dX7_petition_13 (ct_X7_fails l) wK_X7_fails wM_X7_77 wN_X7_fails wS_X7_X7_fails wI_X7 hd_X7_fails rfl rfl rfl ⟨rfl, rfl⟩ ⟨Nat.le_of_ble_eq_true rfl, Nat.le_of_ble_eq_true rfl⟩ rfl rfl rfl rfl rfl ?_
  refine sw_ws [(_, .inr (7, [.ref _, .ref _, .ref _, .int _, .int _, .ref _, .int _, .int _, .ref _, .long _])), (_, .inl (_, _, .inl _)), (_, .inl (_, _, .inl _)), (_, .inl (_, _, .inl _)), (_, .inl (_, _, .inl _)), (_, .inl (_, _, .inl _))] rfl ?_
  refine sw_iret 16 C RC dX7_petition_16 ?_
  exact ⟨rfl, rfl⟩
set_option maxHeartbeats 4000000 in
set_option maxRecDepth 100000 in
theorem ct_X7_petition_3 (l : Launch) {D : va_G} {cI cJ cQ : ClassId} {b0 b1 b2 b3 b4 b5 : Nat} {sa pa ad tx nb : Nat → Int32} {kp th ty ap : Int32} {hh : Int64} {S : StT} {B T : Nat} (hE : mE S sa) (hO : mO B T S) {x1 x2 : Int32} (i : Nat) (hi : fnd (zf S) x1 (zn S) = some i) (hx : inR x2 0 9 = false) : Ct l yX7_petition (Cond.code yX7_petition cX7_petition 4 (some .int)) 4 90 0 0 D (tyz cI cJ cQ) [.ref b0, .int x1, .int x2] [(b0, .inr (7, [.ref b1, .ref b2, .ref b3, .int (kp), .int (th), .ref b4, .int (ty), .int (ap), .ref b5, .long (hh)])), (b1, .inl (cI, 424, .inl (sa))), (b2, .inl (cI, 1696, .inl (pa))), (b3, .inl (cI, 424, .inl (ad))), (b4, .inl (cI, 100, .inl (tx))), (b5, .inl (cI, 4, .inl (nb)))] (pstI 0 [(b0, .inr (7, [.ref b1, .ref b2, .ref b3, .int (kp), .int (2), .ref b4, .int (ty), .int (ap), .ref b5, .long (hh)])), (b1, .inl (cI, 424, .inl (sa))), (b2, .inl (cI, 1696, .inl (pa))), (b3, .inl (cI, 424, .inl (ad))), (b4, .inl (cI, 100, .inl (tx))), (b5, .inl (cI, 4, .inl (nb)))]) := by
  refine Ct.of RX7 (by decide) rfl (Nat.le_of_ble_eq_true rfl) ?_
  intro p e s m below meth c A C RC
  have hin := fnd_lt _ _ hi
  refine sw_aload_n 0 0 C dX7_petition_0 rfl rfl ?_
  refine sw_iload_n 1 1 C dX7_petition_1 rfl rfl ?_
  refine sw_callVIP 2 [0, 1, 2, 3, 4, 5] 1 C dX7_petition_2 (ct_X7_find l hE hO) wK_X7_find wM_X7_100 wN_X7_find wS_X7_X7_find wI_X7 hd_X7_find rfl rfl rfl ⟨rfl, rfl⟩ ⟨Nat.le_of_ble_eq_true rfl, Nat.le_of_ble_eq_true rfl⟩ rfl rfl rfl rfl ?_
  rw [hi]
  refine sw_istore_n 5 3 C dX7_petition_5 rfl rfl ?_
  refine sw_iload_n 6 3 C dX7_petition_6 rfl rfl ?_
  refine sw_iconst 7 C dX7_petition_7 (-1) (by decide) ?_
  refine sw_icmp_ne 8 17 C dX7_petition_8 (by decide) (fun c_8 => ?_) (fun c_8 => ?_)
  rotate_left
  · exact by first | exact absurd c_8 (i32_ne_m1 (by have := hO.n; omega)) | exact absurd (i32_ne_m1 (by have := hO.n; omega)) c_8
  refine sw_iload_n 17 2 C dX7_petition_17 rfl rfl ?_
  refine sw_iconst 18 C dX7_petition_18 0 (by decide) ?_
  refine sw_bipush 19 C dX7_petition_19 9 (by decide) ?_
  refine sw_callSIP 21 [] 3 C dX7_petition_21 (ct_X7_in l) wK_X7_in wM_X7_73 wT_X7_in wI_X7 hd_X7_in rfl ⟨rfl, rfl⟩ ⟨Nat.le_of_ble_eq_true rfl, Nat.le_of_ble_eq_true rfl⟩ rfl rfl rfl rfl ?_
  refine sw_if_eq 24 40 C dX7_petition_24 (by decide) (fun c_24 => ?_) (fun c_24 => ?_)
  rotate_left
  · exact by first | exact absurd c_24 (by rw [hx]; rfl) | exact absurd (by rw [hx]; rfl) c_24
  refine sw_aload_n 40 0 C dX7_petition_40 rfl rfl ?_
  refine sw_iconst 41 C dX7_petition_41 2 (by decide) ?_
  refine sw_callVI 42 [0, 1, 2, 3, 4, 5] 1 C dX7_petition_42 (ct_X7_fails l) wK_X7_fails wM_X7_77 wN_X7_fails wS_X7_X7_fails wI_X7 hd_X7_fails rfl rfl rfl ⟨rfl, rfl⟩ ⟨Nat.le_of_ble_eq_true rfl, Nat.le_of_ble_eq_true rfl⟩ rfl rfl rfl rfl rfl ?_
  refine sw_ws [(_, .inr (7, [.ref _, .ref _, .ref _, .int _, .int _, .ref _, .int _, .int _, .ref _, .long _])), (_, .inl (_, _, .inl _)), (_, .inl (_, _, .inl _)), (_, .inl (_, _, .inl _)), (_, .inl (_, _, .inl _)), (_, .inl (_, _, .inl _))] rfl ?_
  refine sw_iret 45 C RC dX7_petition_45 ?_
  exact ⟨rfl, rfl⟩
theorem inR_cnt {x : Int32} {n : Nat} (hn : n < 2 ^ 30) : inR x 0 (nI n - 1) = (decide (0 ≤ x) && decide (x < nI n)) := by
  unfold inR
  congr 1
  rw [Bool.eq_iff_iff, decide_eq_true_iff, decide_eq_true_iff, Int32.le_iff_toInt_le, Int32.lt_iff_toInt_lt, show (1 : Int32) = nI 1 from rfl, pk_sub_toInt hn (by decide), nI_toInt (by omega)]
  omega
theorem cnt_t {k n : Nat} (hk : k < n) (hn : n < 2 ^ 30) : inR (nI k) 0 (nI n - 1) = true := by
  rw [inR_cnt hn, decide_eq_true (nI_pos' (by omega)), decide_eq_true (nI_lt hk (by omega))]
  rfl
theorem cnt_f {x : Int32} {n : Nat} (h : x < 0 ∨ nI n ≤ x) (hn : n < 2 ^ 30) : inR x 0 (nI n - 1) = false := by
  rw [inR_cnt hn]
  rcases h with h | h
  · rw [decide_eq_false (Int32.not_le.mpr h), Bool.false_and]
  · rw [decide_eq_false (p := x < nI n) (Int32.not_lt.mpr h), Bool.and_false]
set_option maxHeartbeats 4000000 in
set_option maxRecDepth 100000 in
theorem ct_X7_peek (l : Launch) {D : va_G} {cI cJ cQ : ClassId} {b0 b1 b2 b3 b4 b5 : Nat} {sa pa ad tx nb : Nat → Int32} {kp th ty ap : Int32} {hh : Int64} {S : StT} {B T : Nat} (hE : mE S sa) (hO : mO B T S) {x1 : Int32} (k i : Nat) (h1 : x1 = nI k) (hk : k < zn S) (hi : i < zn S) (hc : cbf (zf S) (zn S) i = k) : Ct l yX7_peek (Cond.code yX7_peek cX7_peek 2 (some .int)) 4 90 0 0 D (tyz cI cJ cQ) [.ref b0, .int x1] [(b0, .inr (7, [.ref b1, .ref b2, .ref b3, .int (kp), .int (th), .ref b4, .int (ty), .int (ap), .ref b5, .long (hh)])), (b1, .inl (cI, 424, .inl (sa))), (b2, .inl (cI, 1696, .inl (pa))), (b3, .inl (cI, 424, .inl (ad))), (b4, .inl (cI, 100, .inl (tx))), (b5, .inl (cI, 4, .inl (nb)))] (pstI (zf S (i * 8 + 7)) [(b0, .inr (7, [.ref b1, .ref b2, .ref b3, .int (kp), .int (0), .ref b4, .int (ty), .int (ap), .ref b5, .long (hh)])), (b1, .inl (cI, 424, .inl (sa))), (b2, .inl (cI, 1696, .inl (pa))), (b3, .inl (cI, 424, .inl (ad))), (b4, .inl (cI, 100, .inl (tx))), (b5, .inl (cI, 4, .inl (nb)))]) := by
  refine Ct.of RX7 (by decide) rfl (Nat.le_of_ble_eq_true rfl) ?_
  intro p e s m below meth c A C RC
  subst h1
  refine sw_iload_n 0 1 C dX7_peek_0 rfl rfl ?_
  refine sw_iconst 1 C dX7_peek_1 0 (by decide) ?_
  refine sw_aload_n 2 0 C dX7_peek_2 rfl rfl ?_
  refine sw_get 3 0 0 C dX7_peek_3 rfl rfl (inA lwX7) (C.w wF_X7_7) rfl rfl rfl ?_
  refine sw_iconst 6 C dX7_peek_6 1 (by decide) ?_
  refine sw_ialdN 7 1 0 (1) C dX7_peek_7 rfl (by decide) rfl rfl rfl ?_
  refine sw_top (hE.n) ?_
  refine sw_iconst 8 C dX7_peek_8 1 (by decide) ?_
  refine sw_isub 9 C dX7_peek_9 ?_
  refine sw_callSIP 10 [] 3 C dX7_peek_10 (ct_X7_in l) wK_X7_in wM_X7_73 wT_X7_in wI_X7 hd_X7_in rfl ⟨rfl, rfl⟩ ⟨Nat.le_of_ble_eq_true rfl, Nat.le_of_ble_eq_true rfl⟩ rfl rfl rfl rfl ?_
  refine sw_if_eq 13 33 C dX7_peek_13 (by decide) (fun c_13 => ?_) (fun c_13 => ?_)
  · exact by first | exact absurd c_13 (by rw [cnt_t hk (by have := hO.n; omega)]; decide) | exact absurd (by rw [cnt_t hk (by have := hO.n; omega)]; decide) c_13
  refine sw_aload_n 16 0 C dX7_peek_16 rfl rfl ?_
  refine sw_aload_n 17 0 C dX7_peek_17 rfl rfl ?_
  refine sw_aload_n 18 0 C dX7_peek_18 rfl rfl ?_
  refine sw_iload_n 19 1 C dX7_peek_19 rfl rfl ?_
  refine sw_callVIP 20 [0, 1, 2, 3, 4, 5] 1 C dX7_peek_20 (ct_X7_atPlace l hE hO i k rfl hi hc) wK_X7_atPlace wM_X7_57 wN_X7_atPlace wS_X7_X7_atPlace wI_X7 hd_X7_atPlace rfl rfl rfl ⟨rfl, rfl⟩ ⟨Nat.le_of_ble_eq_true rfl, Nat.le_of_ble_eq_true rfl⟩ rfl rfl rfl rfl ?_
  refine sw_iconst 23 C dX7_peek_23 0 (by decide) ?_
  refine sw_callVIP 24 [0, 1, 2, 3, 4, 5] 2 C dX7_peek_24 (ct_X7_ofE l hE i 7 rfl rfl hi (by decide) hO.n) wK_X7_of wM_X7_32 wN_X7_of wS_X7_X7_of wI_X7 hd_X7_of rfl rfl rfl ⟨rfl, rfl⟩ ⟨Nat.le_of_ble_eq_true rfl, Nat.le_of_ble_eq_true rfl⟩ rfl rfl rfl rfl ?_
  refine sw_callVI 27 [0, 1, 2, 3, 4, 5] 1 C dX7_peek_27 (ct_X7_tells l) wK_X7_tells wM_X7_70 wN_X7_tells wS_X7_X7_tells wI_X7 hd_X7_tells rfl rfl rfl ⟨rfl, rfl⟩ ⟨Nat.le_of_ble_eq_true rfl, Nat.le_of_ble_eq_true rfl⟩ rfl rfl rfl rfl rfl ?_
  refine sw_ws [(_, .inr (7, [.ref _, .ref _, .ref _, .int _, .int _, .ref _, .int _, .int _, .ref _, .long _])), (_, .inl (_, _, .inl _)), (_, .inl (_, _, .inl _)), (_, .inl (_, _, .inl _)), (_, .inl (_, _, .inl _)), (_, .inl (_, _, .inl _))] rfl ?_
  refine sw_goto 30 38 C dX7_peek_30 (by decide) ?_
  refine sw_iret 38 C RC dX7_peek_38 ?_
  exact ⟨rfl, rfl⟩
set_option maxHeartbeats 4000000 in
set_option maxRecDepth 100000 in
theorem ct_X7_peek_2 (l : Launch) {D : va_G} {cI cJ cQ : ClassId} {b0 b1 b2 b3 b4 b5 : Nat} {sa pa ad tx nb : Nat → Int32} {kp th ty ap : Int32} {hh : Int64} {S : StT} {B T : Nat} (hE : mE S sa) (hO : mO B T S) {x1 : Int32} (h : x1 < 0 ∨ nI (zn S) ≤ x1) : Ct l yX7_peek (Cond.code yX7_peek cX7_peek 2 (some .int)) 4 90 0 0 D (tyz cI cJ cQ) [.ref b0, .int x1] [(b0, .inr (7, [.ref b1, .ref b2, .ref b3, .int (kp), .int (th), .ref b4, .int (ty), .int (ap), .ref b5, .long (hh)])), (b1, .inl (cI, 424, .inl (sa))), (b2, .inl (cI, 1696, .inl (pa))), (b3, .inl (cI, 424, .inl (ad))), (b4, .inl (cI, 100, .inl (tx))), (b5, .inl (cI, 4, .inl (nb)))] (pstI 0 [(b0, .inr (7, [.ref b1, .ref b2, .ref b3, .int (kp), .int (1), .ref b4, .int (ty), .int (ap), .ref b5, .long (hh)])), (b1, .inl (cI, 424, .inl (sa))), (b2, .inl (cI, 1696, .inl (pa))), (b3, .inl (cI, 424, .inl (ad))), (b4, .inl (cI, 100, .inl (tx))), (b5, .inl (cI, 4, .inl (nb)))]) := by
  refine Ct.of RX7 (by decide) rfl (Nat.le_of_ble_eq_true rfl) ?_
  intro p e s m below meth c A C RC
  refine sw_iload_n 0 1 C dX7_peek_0 rfl rfl ?_
  refine sw_iconst 1 C dX7_peek_1 0 (by decide) ?_
  refine sw_aload_n 2 0 C dX7_peek_2 rfl rfl ?_
  refine sw_get 3 0 0 C dX7_peek_3 rfl rfl (inA lwX7) (C.w wF_X7_7) rfl rfl rfl ?_
  refine sw_iconst 6 C dX7_peek_6 1 (by decide) ?_
  refine sw_ialdN 7 1 0 (1) C dX7_peek_7 rfl (by decide) rfl rfl rfl ?_
  refine sw_top (hE.n) ?_
  refine sw_iconst 8 C dX7_peek_8 1 (by decide) ?_
  refine sw_isub 9 C dX7_peek_9 ?_
  refine sw_callSIP 10 [] 3 C dX7_peek_10 (ct_X7_in l) wK_X7_in wM_X7_73 wT_X7_in wI_X7 hd_X7_in rfl ⟨rfl, rfl⟩ ⟨Nat.le_of_ble_eq_true rfl, Nat.le_of_ble_eq_true rfl⟩ rfl rfl rfl rfl ?_
  refine sw_if_eq 13 33 C dX7_peek_13 (by decide) (fun c_13 => ?_) (fun c_13 => ?_)
  rotate_left
  · exact by first | exact absurd c_13 (by rw [cnt_f h (by have := hO.n; omega)]; rfl) | exact absurd (by rw [cnt_f h (by have := hO.n; omega)]; rfl) c_13
  refine sw_aload_n 33 0 C dX7_peek_33 rfl rfl ?_
  refine sw_iconst 34 C dX7_peek_34 1 (by decide) ?_
  refine sw_callVI 35 [0, 1, 2, 3, 4, 5] 1 C dX7_peek_35 (ct_X7_fails l) wK_X7_fails wM_X7_77 wN_X7_fails wS_X7_X7_fails wI_X7 hd_X7_fails rfl rfl rfl ⟨rfl, rfl⟩ ⟨Nat.le_of_ble_eq_true rfl, Nat.le_of_ble_eq_true rfl⟩ rfl rfl rfl rfl rfl ?_
  refine sw_ws [(_, .inr (7, [.ref _, .ref _, .ref _, .int _, .int _, .ref _, .int _, .int _, .ref _, .long _])), (_, .inl (_, _, .inl _)), (_, .inl (_, _, .inl _)), (_, .inl (_, _, .inl _)), (_, .inl (_, _, .inl _)), (_, .inl (_, _, .inl _))] rfl ?_
  refine sw_iret 38 C RC dX7_peek_38 ?_
  exact ⟨rfl, rfl⟩
set_option maxHeartbeats 4000000 in
set_option maxRecDepth 100000 in
theorem ct_X7_sentBy (l : Launch) {D : va_G} {cI cJ cQ : ClassId} {b0 b1 b2 b3 b4 b5 : Nat} {sa pa ad tx nb : Nat → Int32} {kp th ty ap : Int32} {hh : Int64} {S : StT} {B T : Nat} (hE : mE S sa) (hO : mO B T S) {x : Int32} (hx : inR x 0 7 = true) : Ct l yX7_sentBy (Cond.code yX7_sentBy cX7_sentBy 2 (some .int)) 2 45 0 0 D (tyz cI cJ cQ) [.ref b0, .int x] [(b0, .inr (7, [.ref b1, .ref b2, .ref b3, .int (kp), .int (th), .ref b4, .int (ty), .int (ap), .ref b5, .long (hh)])), (b1, .inl (cI, 424, .inl (sa))), (b2, .inl (cI, 1696, .inl (pa))), (b3, .inl (cI, 424, .inl (ad))), (b4, .inl (cI, 100, .inl (tx))), (b5, .inl (cI, 4, .inl (nb)))] (pstI (nI (ct (isOf (zf S) x) (zn S))) [(b0, .inr (7, [.ref b1, .ref b2, .ref b3, .int (kp), .int (0), .ref b4, .int (ty), .int (ap), .ref b5, .long (hh)])), (b1, .inl (cI, 424, .inl (sa))), (b2, .inl (cI, 1696, .inl (pa))), (b3, .inl (cI, 424, .inl (ad))), (b4, .inl (cI, 100, .inl (tx))), (b5, .inl (cI, 4, .inl (nb)))]) := by
  refine Ct.of RX7 (by decide) rfl (Nat.le_of_ble_eq_true rfl) ?_
  intro p e s m below meth c A C RC
  refine sw_iload_n 0 1 C dX7_sentBy_0 rfl rfl ?_
  refine sw_callSIP 1 [] 1 C dX7_sentBy_1 (ct_X7_isSender l) wK_X7_isSender wM_X7_83 wT_X7_isSender wI_X7 hd_X7_isSender rfl ⟨rfl, rfl⟩ ⟨Nat.le_of_ble_eq_true rfl, Nat.le_of_ble_eq_true rfl⟩ rfl rfl rfl rfl ?_
  refine sw_if_eq 4 19 C dX7_sentBy_4 (by decide) (fun c_4 => ?_) (fun c_4 => ?_)
  · exact by first | exact absurd c_4 (by rw [hx]; decide) | exact absurd (by rw [hx]; decide) c_4
  refine sw_aload_n 7 0 C dX7_sentBy_7 rfl rfl ?_
  refine sw_aload_n 8 0 C dX7_sentBy_8 rfl rfl ?_
  refine sw_iload_n 9 1 C dX7_sentBy_9 rfl rfl ?_
  refine sw_callVIP 10 [0, 1, 2, 3, 4, 5] 1 C dX7_sentBy_10 (ct_X7_sentOf l hE hO) wK_X7_sentOf wM_X7_44 wN_X7_sentOf wS_X7_X7_sentOf wI_X7 hd_X7_sentOf rfl rfl rfl ⟨rfl, rfl⟩ ⟨Nat.le_of_ble_eq_true rfl, Nat.le_of_ble_eq_true rfl⟩ rfl rfl rfl rfl ?_
  refine sw_callVI 13 [0, 1, 2, 3, 4, 5] 1 C dX7_sentBy_13 (ct_X7_tells l) wK_X7_tells wM_X7_70 wN_X7_tells wS_X7_X7_tells wI_X7 hd_X7_tells rfl rfl rfl ⟨rfl, rfl⟩ ⟨Nat.le_of_ble_eq_true rfl, Nat.le_of_ble_eq_true rfl⟩ rfl rfl rfl rfl rfl ?_
  refine sw_ws [(_, .inr (7, [.ref _, .ref _, .ref _, .int _, .int _, .ref _, .int _, .int _, .ref _, .long _])), (_, .inl (_, _, .inl _)), (_, .inl (_, _, .inl _)), (_, .inl (_, _, .inl _)), (_, .inl (_, _, .inl _)), (_, .inl (_, _, .inl _))] rfl ?_
  refine sw_goto 16 24 C dX7_sentBy_16 (by decide) ?_
  refine sw_iret 24 C RC dX7_sentBy_24 ?_
  exact ⟨rfl, rfl⟩
set_option maxHeartbeats 4000000 in
set_option maxRecDepth 100000 in
theorem ct_X7_sentBy_2 (l : Launch) {D : va_G} {cI cJ cQ : ClassId} {b0 b1 b2 b3 b4 b5 : Nat} {sa pa ad tx nb : Nat → Int32} {kp th ty ap : Int32} {hh : Int64} {x : Int32} (hx : inR x 0 7 = false) : Ct l yX7_sentBy (Cond.code yX7_sentBy cX7_sentBy 2 (some .int)) 2 45 0 0 D (tyz cI cJ cQ) [.ref b0, .int x] [(b0, .inr (7, [.ref b1, .ref b2, .ref b3, .int (kp), .int (th), .ref b4, .int (ty), .int (ap), .ref b5, .long (hh)])), (b1, .inl (cI, 424, .inl (sa))), (b2, .inl (cI, 1696, .inl (pa))), (b3, .inl (cI, 424, .inl (ad))), (b4, .inl (cI, 100, .inl (tx))), (b5, .inl (cI, 4, .inl (nb)))] (pstI 0 [(b0, .inr (7, [.ref b1, .ref b2, .ref b3, .int (kp), .int (1), .ref b4, .int (ty), .int (ap), .ref b5, .long (hh)])), (b1, .inl (cI, 424, .inl (sa))), (b2, .inl (cI, 1696, .inl (pa))), (b3, .inl (cI, 424, .inl (ad))), (b4, .inl (cI, 100, .inl (tx))), (b5, .inl (cI, 4, .inl (nb)))]) := by
  refine Ct.of RX7 (by decide) rfl (Nat.le_of_ble_eq_true rfl) ?_
  intro p e s m below meth c A C RC
  refine sw_iload_n 0 1 C dX7_sentBy_0 rfl rfl ?_
  refine sw_callSIP 1 [] 1 C dX7_sentBy_1 (ct_X7_isSender l) wK_X7_isSender wM_X7_83 wT_X7_isSender wI_X7 hd_X7_isSender rfl ⟨rfl, rfl⟩ ⟨Nat.le_of_ble_eq_true rfl, Nat.le_of_ble_eq_true rfl⟩ rfl rfl rfl rfl ?_
  refine sw_if_eq 4 19 C dX7_sentBy_4 (by decide) (fun c_4 => ?_) (fun c_4 => ?_)
  rotate_left
  · exact by first | exact absurd c_4 (by rw [hx]; rfl) | exact absurd (by rw [hx]; rfl) c_4
  refine sw_aload_n 19 0 C dX7_sentBy_19 rfl rfl ?_
  refine sw_iconst 20 C dX7_sentBy_20 1 (by decide) ?_
  refine sw_callVI 21 [0, 1, 2, 3, 4, 5] 1 C dX7_sentBy_21 (ct_X7_fails l) wK_X7_fails wM_X7_77 wN_X7_fails wS_X7_X7_fails wI_X7 hd_X7_fails rfl rfl rfl ⟨rfl, rfl⟩ ⟨Nat.le_of_ble_eq_true rfl, Nat.le_of_ble_eq_true rfl⟩ rfl rfl rfl rfl rfl ?_
  refine sw_ws [(_, .inr (7, [.ref _, .ref _, .ref _, .int _, .int _, .ref _, .int _, .int _, .ref _, .long _])), (_, .inl (_, _, .inl _)), (_, .inl (_, _, .inl _)), (_, .inl (_, _, .inl _)), (_, .inl (_, _, .inl _)), (_, .inl (_, _, .inl _))] rfl ?_
  refine sw_iret 24 C RC dX7_sentBy_24 ?_
  exact ⟨rfl, rfl⟩
set_option maxHeartbeats 4000000 in
set_option maxRecDepth 100000 in
theorem ct_X7_returned (l : Launch) {D : va_G} {cI cJ cQ : ClassId} {b0 b1 b2 b3 b4 b5 : Nat} {sa pa ad tx nb : Nat → Int32} {kp th ty ap : Int32} {hh : Int64} {S : StT} {B T : Nat} (hE : mE S sa) (hO : mO B T S) {x : Int32} (i : Nat) (h1 : x = nI i) (hi : i < 8) : Ct l yX7_returned (Cond.code yX7_returned cX7_returned 2 (some .int)) 2 42 0 0 D (tyz cI cJ cQ) [.ref b0, .int x] [(b0, .inr (7, [.ref b1, .ref b2, .ref b3, .int (kp), .int (th), .ref b4, .int (ty), .int (ap), .ref b5, .long (hh)])), (b1, .inl (cI, 424, .inl (sa))), (b2, .inl (cI, 1696, .inl (pa))), (b3, .inl (cI, 424, .inl (ad))), (b4, .inl (cI, 100, .inl (tx))), (b5, .inl (cI, 4, .inl (nb)))] (pstI (zbk S i) [(b0, .inr (7, [.ref b1, .ref b2, .ref b3, .int (kp), .int (0), .ref b4, .int (ty), .int (ap), .ref b5, .long (hh)])), (b1, .inl (cI, 424, .inl (sa))), (b2, .inl (cI, 1696, .inl (pa))), (b3, .inl (cI, 424, .inl (ad))), (b4, .inl (cI, 100, .inl (tx))), (b5, .inl (cI, 4, .inl (nb)))]) := by
  refine Ct.of RX7 (by decide) rfl (Nat.le_of_ble_eq_true rfl) ?_
  intro p e s m below meth c A C RC
  subst h1
  refine sw_iload_n 0 1 C dX7_returned_0 rfl rfl ?_
  refine sw_callSIP 1 [] 1 C dX7_returned_1 (ct_X7_isSender l) wK_X7_isSender wM_X7_83 wT_X7_isSender wI_X7 hd_X7_isSender rfl ⟨rfl, rfl⟩ ⟨Nat.le_of_ble_eq_true rfl, Nat.le_of_ble_eq_true rfl⟩ rfl rfl rfl rfl ?_
  refine sw_if_eq 4 23 C dX7_returned_4 (by decide) (fun c_4 => ?_) (fun c_4 => ?_)
  · exact by first | exact absurd c_4 (by rw [show inR (nI i) 0 7 = true from inR_nI 0 7 (by omega) (by omega) (by decide)]; decide) | exact absurd (by rw [show inR (nI i) 0 7 = true from inR_nI 0 7 (by omega) (by omega) (by decide)]; decide) c_4
  refine sw_aload_n 7 0 C dX7_returned_7 rfl rfl ?_
  refine sw_aload_n 8 0 C dX7_returned_8 rfl rfl ?_
  refine sw_get 9 0 0 C dX7_returned_9 rfl rfl (inA lwX7) (C.w wF_X7_7) rfl rfl rfl ?_
  refine sw_bipush 12 C dX7_returned_12 16 (by decide) ?_
  refine sw_iload_n 14 1 C dX7_returned_14 rfl rfl ?_
  refine sw_iadd 15 C dX7_returned_15 ?_
  refine sw_ialdN 16 1 0 (16 + i) C dX7_returned_16 (by rw [show (16 : Int32) = nI 16 from rfl, nI_add]) (by omega) rfl rfl rfl ?_
  refine sw_top (hE.bk i hi) ?_
  refine sw_callVI 17 [0, 1, 2, 3, 4, 5] 1 C dX7_returned_17 (ct_X7_tells l) wK_X7_tells wM_X7_70 wN_X7_tells wS_X7_X7_tells wI_X7 hd_X7_tells rfl rfl rfl ⟨rfl, rfl⟩ ⟨Nat.le_of_ble_eq_true rfl, Nat.le_of_ble_eq_true rfl⟩ rfl rfl rfl rfl rfl ?_
  refine sw_ws [(_, .inr (7, [.ref _, .ref _, .ref _, .int _, .int _, .ref _, .int _, .int _, .ref _, .long _])), (_, .inl (_, _, .inl _)), (_, .inl (_, _, .inl _)), (_, .inl (_, _, .inl _)), (_, .inl (_, _, .inl _)), (_, .inl (_, _, .inl _))] rfl ?_
  refine sw_goto 20 28 C dX7_returned_20 (by decide) ?_
  refine sw_iret 28 C RC dX7_returned_28 ?_
  exact ⟨rfl, rfl⟩
set_option maxHeartbeats 4000000 in
set_option maxRecDepth 100000 in
theorem ct_X7_returned_2 (l : Launch) {D : va_G} {cI cJ cQ : ClassId} {b0 b1 b2 b3 b4 b5 : Nat} {sa pa ad tx nb : Nat → Int32} {kp th ty ap : Int32} {hh : Int64} {x : Int32} (hx : inR x 0 7 = false) : Ct l yX7_returned (Cond.code yX7_returned cX7_returned 2 (some .int)) 2 42 0 0 D (tyz cI cJ cQ) [.ref b0, .int x] [(b0, .inr (7, [.ref b1, .ref b2, .ref b3, .int (kp), .int (th), .ref b4, .int (ty), .int (ap), .ref b5, .long (hh)])), (b1, .inl (cI, 424, .inl (sa))), (b2, .inl (cI, 1696, .inl (pa))), (b3, .inl (cI, 424, .inl (ad))), (b4, .inl (cI, 100, .inl (tx))), (b5, .inl (cI, 4, .inl (nb)))] (pstI 0 [(b0, .inr (7, [.ref b1, .ref b2, .ref b3, .int (kp), .int (1), .ref b4, .int (ty), .int (ap), .ref b5, .long (hh)])), (b1, .inl (cI, 424, .inl (sa))), (b2, .inl (cI, 1696, .inl (pa))), (b3, .inl (cI, 424, .inl (ad))), (b4, .inl (cI, 100, .inl (tx))), (b5, .inl (cI, 4, .inl (nb)))]) := by
  refine Ct.of RX7 (by decide) rfl (Nat.le_of_ble_eq_true rfl) ?_
  intro p e s m below meth c A C RC
  refine sw_iload_n 0 1 C dX7_returned_0 rfl rfl ?_
  refine sw_callSIP 1 [] 1 C dX7_returned_1 (ct_X7_isSender l) wK_X7_isSender wM_X7_83 wT_X7_isSender wI_X7 hd_X7_isSender rfl ⟨rfl, rfl⟩ ⟨Nat.le_of_ble_eq_true rfl, Nat.le_of_ble_eq_true rfl⟩ rfl rfl rfl rfl ?_
  refine sw_if_eq 4 23 C dX7_returned_4 (by decide) (fun c_4 => ?_) (fun c_4 => ?_)
  rotate_left
  · exact by first | exact absurd c_4 (by rw [hx]; rfl) | exact absurd (by rw [hx]; rfl) c_4
  refine sw_aload_n 23 0 C dX7_returned_23 rfl rfl ?_
  refine sw_iconst 24 C dX7_returned_24 1 (by decide) ?_
  refine sw_callVI 25 [0, 1, 2, 3, 4, 5] 1 C dX7_returned_25 (ct_X7_fails l) wK_X7_fails wM_X7_77 wN_X7_fails wS_X7_X7_fails wI_X7 hd_X7_fails rfl rfl rfl ⟨rfl, rfl⟩ ⟨Nat.le_of_ble_eq_true rfl, Nat.le_of_ble_eq_true rfl⟩ rfl rfl rfl rfl rfl ?_
  refine sw_ws [(_, .inr (7, [.ref _, .ref _, .ref _, .int _, .int _, .ref _, .int _, .int _, .ref _, .long _])), (_, .inl (_, _, .inl _)), (_, .inl (_, _, .inl _)), (_, .inl (_, _, .inl _)), (_, .inl (_, _, .inl _)), (_, .inl (_, _, .inl _))] rfl ?_
  refine sw_iret 28 C RC dX7_returned_28 ?_
  exact ⟨rfl, rfl⟩
set_option maxHeartbeats 4000000 in
set_option maxRecDepth 100000 in
theorem ct_X7_entry (l : Launch) {D : va_G} {cI cJ cQ : ClassId} {b0 b1 b2 b3 b4 b5 : Nat} {sa pa ad tx nb : Nat → Int32} {kp th ty ap : Int32} {hh : Int64} {S : StT} {B T : Nat} (hE : mE S sa) (hO : mO B T S) {x1 x2 : Int32} (i w : Nat) (h1 : x1 = nI i) (hi : i < zl S) (h2 : x2 = nI w) (hw : w < 5) : Ct l yX7_entry (Cond.code yX7_entry cX7_entry 3 (some .int)) 1 22 0 0 D (tyz cI cJ cQ) [.ref b0, .int x1, .int x2] [(b0, .inr (7, [.ref b1, .ref b2, .ref b3, .int (kp), .int (th), .ref b4, .int (ty), .int (ap), .ref b5, .long (hh)])), (b1, .inl (cI, 424, .inl (sa))), (b2, .inl (cI, 1696, .inl (pa))), (b3, .inl (cI, 424, .inl (ad))), (b4, .inl (cI, 100, .inl (tx))), (b5, .inl (cI, 4, .inl (nb)))] (pstI (zlg S (i * 5 + w)) [(b0, .inr (7, [.ref b1, .ref b2, .ref b3, .int (kp), .int (0), .ref b4, .int (ty), .int (ap), .ref b5, .long (hh)])), (b1, .inl (cI, 424, .inl (sa))), (b2, .inl (cI, 1696, .inl (pa))), (b3, .inl (cI, 424, .inl (ad))), (b4, .inl (cI, 100, .inl (tx))), (b5, .inl (cI, 4, .inl (nb)))]) := by
  refine Ct.of RX7 (by decide) rfl (Nat.le_of_ble_eq_true rfl) ?_
  intro p e s m below meth c A C RC
  subst h1 h2
  refine sw_iload_n 0 1 C dX7_entry_0 rfl rfl ?_
  refine sw_iconst 1 C dX7_entry_1 0 (by decide) ?_
  refine sw_aload_n 2 0 C dX7_entry_2 rfl rfl ?_
  refine sw_get 3 0 0 C dX7_entry_3 rfl rfl (inA lwX7) (C.w wF_X7_7) rfl rfl rfl ?_
  refine sw_bipush 6 C dX7_entry_6 11 (by decide) ?_
  refine sw_ialdN 8 1 0 (11) C dX7_entry_8 rfl (by decide) rfl rfl rfl ?_
  refine sw_top (hE.l) ?_
  refine sw_iconst 9 C dX7_entry_9 1 (by decide) ?_
  refine sw_isub 10 C dX7_entry_10 ?_
  refine sw_callSIP 11 [] 3 C dX7_entry_11 (ct_X7_in l) wK_X7_in wM_X7_73 wT_X7_in wI_X7 hd_X7_in rfl ⟨rfl, rfl⟩ ⟨Nat.le_of_ble_eq_true rfl, Nat.le_of_ble_eq_true rfl⟩ rfl rfl rfl rfl ?_
  refine sw_if_ne 14 23 C dX7_entry_14 (by decide) (fun c_14 => ?_) (fun c_14 => ?_)
  rotate_left
  · exact by first | exact absurd c_14 (by rw [cnt_t hi (by have := hO.si.2.1; omega)]; decide) | exact absurd (by rw [cnt_t hi (by have := hO.si.2.1; omega)]; decide) c_14
  refine sw_iload_n 23 2 C dX7_entry_23 rfl rfl ?_
  refine sw_iconst 24 C dX7_entry_24 0 (by decide) ?_
  refine sw_iconst 25 C dX7_entry_25 4 (by decide) ?_
  refine sw_callSIP 26 [] 3 C dX7_entry_26 (ct_X7_in l) wK_X7_in wM_X7_73 wT_X7_in wI_X7 hd_X7_in rfl ⟨rfl, rfl⟩ ⟨Nat.le_of_ble_eq_true rfl, Nat.le_of_ble_eq_true rfl⟩ rfl rfl rfl rfl ?_
  refine sw_if_eq 29 52 C dX7_entry_29 (by decide) (fun c_29 => ?_) (fun c_29 => ?_)
  · exact by first | exact absurd c_29 (by rw [show inR (nI w) 0 4 = true from inR_nI 0 4 (by omega) (by omega) (by decide)]; decide) | exact absurd (by rw [show inR (nI w) 0 4 = true from inR_nI 0 4 (by omega) (by omega) (by decide)]; decide) c_29
  refine sw_aload_n 32 0 C dX7_entry_32 rfl rfl ?_
  refine sw_aload_n 33 0 C dX7_entry_33 rfl rfl ?_
  refine sw_get 34 0 0 C dX7_entry_34 rfl rfl (inA lwX7) (C.w wF_X7_7) rfl rfl rfl ?_
  refine sw_bipush 37 C dX7_entry_37 24 (by decide) ?_
  refine sw_iconst 39 C dX7_entry_39 5 (by decide) ?_
  refine sw_iload_n 40 1 C dX7_entry_40 rfl rfl ?_
  refine sw_imul 41 C dX7_entry_41 ?_
  refine sw_iadd 42 C dX7_entry_42 ?_
  refine sw_iload_n 43 2 C dX7_entry_43 rfl rfl ?_
  refine sw_iadd 44 C dX7_entry_44 ?_
  refine sw_ialdN 45 1 0 (24 + i * 5 + w) C dX7_entry_45 (by rw [show (24 : Int32) = nI 24 from rfl, show (5 : Int32) = nI 5 from rfl, pk_mul, nI_add, nI_add, Nat.mul_comm 5 i]) (by have := hO.si.2.1; omega) rfl rfl rfl ?_
  refine sw_top (show _ = zlg S (i * 5 + w) by rw [Nat.add_assoc]; exact hE.lg _ (by have := hO.si.2.1; omega)) ?_
  refine sw_callVI 46 [0, 1, 2, 3, 4, 5] 1 C dX7_entry_46 (ct_X7_tells l) wK_X7_tells wM_X7_70 wN_X7_tells wS_X7_X7_tells wI_X7 hd_X7_tells rfl rfl rfl ⟨rfl, rfl⟩ ⟨Nat.le_of_ble_eq_true rfl, Nat.le_of_ble_eq_true rfl⟩ rfl rfl rfl rfl rfl ?_
  refine sw_ws [(_, .inr (7, [.ref _, .ref _, .ref _, .int _, .int _, .ref _, .int _, .int _, .ref _, .long _])), (_, .inl (_, _, .inl _)), (_, .inl (_, _, .inl _)), (_, .inl (_, _, .inl _)), (_, .inl (_, _, .inl _)), (_, .inl (_, _, .inl _))] rfl ?_
  refine sw_goto 49 57 C dX7_entry_49 (by decide) ?_
  refine sw_iret 57 C RC dX7_entry_57 ?_
  exact ⟨rfl, rfl⟩
set_option maxHeartbeats 4000000 in
set_option maxRecDepth 100000 in
theorem ct_X7_entry_2 (l : Launch) {D : va_G} {cI cJ cQ : ClassId} {b0 b1 b2 b3 b4 b5 : Nat} {sa pa ad tx nb : Nat → Int32} {kp th ty ap : Int32} {hh : Int64} {S : StT} {B T : Nat} (hE : mE S sa) (hO : mO B T S) {x1 x2 : Int32} (h : x1 < 0 ∨ nI (zl S) ≤ x1) : Ct l yX7_entry (Cond.code yX7_entry cX7_entry 3 (some .int)) 1 22 0 0 D (tyz cI cJ cQ) [.ref b0, .int x1, .int x2] [(b0, .inr (7, [.ref b1, .ref b2, .ref b3, .int (kp), .int (th), .ref b4, .int (ty), .int (ap), .ref b5, .long (hh)])), (b1, .inl (cI, 424, .inl (sa))), (b2, .inl (cI, 1696, .inl (pa))), (b3, .inl (cI, 424, .inl (ad))), (b4, .inl (cI, 100, .inl (tx))), (b5, .inl (cI, 4, .inl (nb)))] (pstI 0 [(b0, .inr (7, [.ref b1, .ref b2, .ref b3, .int (kp), .int (1), .ref b4, .int (ty), .int (ap), .ref b5, .long (hh)])), (b1, .inl (cI, 424, .inl (sa))), (b2, .inl (cI, 1696, .inl (pa))), (b3, .inl (cI, 424, .inl (ad))), (b4, .inl (cI, 100, .inl (tx))), (b5, .inl (cI, 4, .inl (nb)))]) := by
  refine Ct.of RX7 (by decide) rfl (Nat.le_of_ble_eq_true rfl) ?_
  intro p e s m below meth c A C RC
  refine sw_iload_n 0 1 C dX7_entry_0 rfl rfl ?_
  refine sw_iconst 1 C dX7_entry_1 0 (by decide) ?_
  refine sw_aload_n 2 0 C dX7_entry_2 rfl rfl ?_
  refine sw_get 3 0 0 C dX7_entry_3 rfl rfl (inA lwX7) (C.w wF_X7_7) rfl rfl rfl ?_
  refine sw_bipush 6 C dX7_entry_6 11 (by decide) ?_
  refine sw_ialdN 8 1 0 (11) C dX7_entry_8 rfl (by decide) rfl rfl rfl ?_
  refine sw_top (hE.l) ?_
  refine sw_iconst 9 C dX7_entry_9 1 (by decide) ?_
  refine sw_isub 10 C dX7_entry_10 ?_
  refine sw_callSIP 11 [] 3 C dX7_entry_11 (ct_X7_in l) wK_X7_in wM_X7_73 wT_X7_in wI_X7 hd_X7_in rfl ⟨rfl, rfl⟩ ⟨Nat.le_of_ble_eq_true rfl, Nat.le_of_ble_eq_true rfl⟩ rfl rfl rfl rfl ?_
  refine sw_if_ne 14 23 C dX7_entry_14 (by decide) (fun c_14 => ?_) (fun c_14 => ?_)
  · exact by first | exact absurd c_14 (fun q => q (by rw [cnt_f h (by have := hO.si.2.1; omega)]; rfl)) | exact absurd (fun q => q (by rw [cnt_f h (by have := hO.si.2.1; omega)]; rfl)) c_14
  refine sw_aload_n 17 0 C dX7_entry_17 rfl rfl ?_
  refine sw_iconst 18 C dX7_entry_18 1 (by decide) ?_
  refine sw_callVI 19 [0, 1, 2, 3, 4, 5] 1 C dX7_entry_19 (ct_X7_fails l) wK_X7_fails wM_X7_77 wN_X7_fails wS_X7_X7_fails wI_X7 hd_X7_fails rfl rfl rfl ⟨rfl, rfl⟩ ⟨Nat.le_of_ble_eq_true rfl, Nat.le_of_ble_eq_true rfl⟩ rfl rfl rfl rfl rfl ?_
  refine sw_ws [(_, .inr (7, [.ref _, .ref _, .ref _, .int _, .int _, .ref _, .int _, .int _, .ref _, .long _])), (_, .inl (_, _, .inl _)), (_, .inl (_, _, .inl _)), (_, .inl (_, _, .inl _)), (_, .inl (_, _, .inl _)), (_, .inl (_, _, .inl _))] rfl ?_
  refine sw_iret 22 C RC dX7_entry_22 ?_
  exact ⟨rfl, rfl⟩
set_option maxHeartbeats 4000000 in
set_option maxRecDepth 100000 in
theorem ct_X7_entry_3 (l : Launch) {D : va_G} {cI cJ cQ : ClassId} {b0 b1 b2 b3 b4 b5 : Nat} {sa pa ad tx nb : Nat → Int32} {kp th ty ap : Int32} {hh : Int64} {S : StT} {B T : Nat} (hE : mE S sa) (hO : mO B T S) {x1 x2 : Int32} (i : Nat) (h1 : x1 = nI i) (hi : i < zl S) (hx : inR x2 0 4 = false) : Ct l yX7_entry (Cond.code yX7_entry cX7_entry 3 (some .int)) 1 22 0 0 D (tyz cI cJ cQ) [.ref b0, .int x1, .int x2] [(b0, .inr (7, [.ref b1, .ref b2, .ref b3, .int (kp), .int (th), .ref b4, .int (ty), .int (ap), .ref b5, .long (hh)])), (b1, .inl (cI, 424, .inl (sa))), (b2, .inl (cI, 1696, .inl (pa))), (b3, .inl (cI, 424, .inl (ad))), (b4, .inl (cI, 100, .inl (tx))), (b5, .inl (cI, 4, .inl (nb)))] (pstI 0 [(b0, .inr (7, [.ref b1, .ref b2, .ref b3, .int (kp), .int (2), .ref b4, .int (ty), .int (ap), .ref b5, .long (hh)])), (b1, .inl (cI, 424, .inl (sa))), (b2, .inl (cI, 1696, .inl (pa))), (b3, .inl (cI, 424, .inl (ad))), (b4, .inl (cI, 100, .inl (tx))), (b5, .inl (cI, 4, .inl (nb)))]) := by
  refine Ct.of RX7 (by decide) rfl (Nat.le_of_ble_eq_true rfl) ?_
  intro p e s m below meth c A C RC
  subst h1
  refine sw_iload_n 0 1 C dX7_entry_0 rfl rfl ?_
  refine sw_iconst 1 C dX7_entry_1 0 (by decide) ?_
  refine sw_aload_n 2 0 C dX7_entry_2 rfl rfl ?_
  refine sw_get 3 0 0 C dX7_entry_3 rfl rfl (inA lwX7) (C.w wF_X7_7) rfl rfl rfl ?_
  refine sw_bipush 6 C dX7_entry_6 11 (by decide) ?_
  refine sw_ialdN 8 1 0 (11) C dX7_entry_8 rfl (by decide) rfl rfl rfl ?_
  refine sw_top (hE.l) ?_
  refine sw_iconst 9 C dX7_entry_9 1 (by decide) ?_
  refine sw_isub 10 C dX7_entry_10 ?_
  refine sw_callSIP 11 [] 3 C dX7_entry_11 (ct_X7_in l) wK_X7_in wM_X7_73 wT_X7_in wI_X7 hd_X7_in rfl ⟨rfl, rfl⟩ ⟨Nat.le_of_ble_eq_true rfl, Nat.le_of_ble_eq_true rfl⟩ rfl rfl rfl rfl ?_
  refine sw_if_ne 14 23 C dX7_entry_14 (by decide) (fun c_14 => ?_) (fun c_14 => ?_)
  rotate_left
  · exact by first | exact absurd c_14 (by rw [cnt_t hi (by have := hO.si.2.1; omega)]; decide) | exact absurd (by rw [cnt_t hi (by have := hO.si.2.1; omega)]; decide) c_14
  refine sw_iload_n 23 2 C dX7_entry_23 rfl rfl ?_
  refine sw_iconst 24 C dX7_entry_24 0 (by decide) ?_
  refine sw_iconst 25 C dX7_entry_25 4 (by decide) ?_
  refine sw_callSIP 26 [] 3 C dX7_entry_26 (ct_X7_in l) wK_X7_in wM_X7_73 wT_X7_in wI_X7 hd_X7_in rfl ⟨rfl, rfl⟩ ⟨Nat.le_of_ble_eq_true rfl, Nat.le_of_ble_eq_true rfl⟩ rfl rfl rfl rfl ?_
  refine sw_if_eq 29 52 C dX7_entry_29 (by decide) (fun c_29 => ?_) (fun c_29 => ?_)
  rotate_left
  · exact by first | exact absurd c_29 (by rw [hx]; rfl) | exact absurd (by rw [hx]; rfl) c_29
  refine sw_aload_n 52 0 C dX7_entry_52 rfl rfl ?_
  refine sw_iconst 53 C dX7_entry_53 2 (by decide) ?_
  refine sw_callVI 54 [0, 1, 2, 3, 4, 5] 1 C dX7_entry_54 (ct_X7_fails l) wK_X7_fails wM_X7_77 wN_X7_fails wS_X7_X7_fails wI_X7 hd_X7_fails rfl rfl rfl ⟨rfl, rfl⟩ ⟨Nat.le_of_ble_eq_true rfl, Nat.le_of_ble_eq_true rfl⟩ rfl rfl rfl rfl rfl ?_
  refine sw_ws [(_, .inr (7, [.ref _, .ref _, .ref _, .int _, .int _, .ref _, .int _, .int _, .ref _, .long _])), (_, .inl (_, _, .inl _)), (_, .inl (_, _, .inl _)), (_, .inl (_, _, .inl _)), (_, .inl (_, _, .inl _)), (_, .inl (_, _, .inl _))] rfl ?_
  refine sw_iret 57 C RC dX7_entry_57 ?_
  exact ⟨rfl, rfl⟩
set_option maxHeartbeats 4000000 in
set_option maxRecDepth 100000 in
theorem ct_X7_value (l : Launch) {D : va_G} {cI cJ cQ : ClassId} {b0 b1 b2 b3 b4 b5 : Nat} {sa pa ad tx nb : Nat → Int32} {kp th ty ap : Int32} {hh : Int64} {S : StT} {B T : Nat} (hE : mE S sa) (hO : mO B T S) {x : Int32} (w : Nat) (h1 : x = nI w) (hw : w ≤ 13) : Ct l yX7_value (Cond.code yX7_value cX7_value 2 (some .int)) 3 65 0 0 D (tyz cI cJ cQ) [.ref b0, .int x] [(b0, .inr (7, [.ref b1, .ref b2, .ref b3, .int (kp), .int (th), .ref b4, .int (ty), .int (ap), .ref b5, .long (hh)])), (b1, .inl (cI, 424, .inl (sa))), (b2, .inl (cI, 1696, .inl (pa))), (b3, .inl (cI, 424, .inl (ad))), (b4, .inl (cI, 100, .inl (tx))), (b5, .inl (cI, 4, .inl (nb)))] (pstI (fig (zq S) (zg S) (zv S) (zt S) (zp S) (zk S) (zn S) (zl S) (zf S) (zlv S) (zbk S) w) [(b0, .inr (7, [.ref b1, .ref b2, .ref b3, .int (kp), .int (0), .ref b4, .int (ty), .int (ap), .ref b5, .long (hh)])), (b1, .inl (cI, 424, .inl (sa))), (b2, .inl (cI, 1696, .inl (pa))), (b3, .inl (cI, 424, .inl (ad))), (b4, .inl (cI, 100, .inl (tx))), (b5, .inl (cI, 4, .inl (nb)))]) := by
  refine Ct.of RX7 (by decide) rfl (Nat.le_of_ble_eq_true rfl) ?_
  intro p e s m below meth c A C RC
  subst h1
  refine sw_iload_n 0 1 C dX7_value_0 rfl rfl ?_
  refine sw_iconst 1 C dX7_value_1 0 (by decide) ?_
  refine sw_bipush 2 C dX7_value_2 13 (by decide) ?_
  refine sw_callSIP 4 [] 3 C dX7_value_4 (ct_X7_in l) wK_X7_in wM_X7_73 wT_X7_in wI_X7 hd_X7_in rfl ⟨rfl, rfl⟩ ⟨Nat.le_of_ble_eq_true rfl, Nat.le_of_ble_eq_true rfl⟩ rfl rfl rfl rfl ?_
  refine sw_if_eq 7 22 C dX7_value_7 (by decide) (fun c_7 => ?_) (fun c_7 => ?_)
  · exact by first | exact absurd c_7 (by rw [show inR (nI w) 0 13 = true from inR_nI 0 13 (by omega) (by omega) (by decide)]; decide) | exact absurd (by rw [show inR (nI w) 0 13 = true from inR_nI 0 13 (by omega) (by omega) (by decide)]; decide) c_7
  refine sw_aload_n 10 0 C dX7_value_10 rfl rfl ?_
  refine sw_aload_n 11 0 C dX7_value_11 rfl rfl ?_
  refine sw_iload_n 12 1 C dX7_value_12 rfl rfl ?_
  refine sw_callVIP 13 [0, 1, 2, 3, 4, 5] 1 C dX7_value_13 (ct_X7_valueTold l hE hO w rfl hw) wK_X7_valueTold wM_X7_119 wN_X7_valueTold wS_X7_X7_valueTold wI_X7 hd_X7_valueTold rfl rfl rfl ⟨rfl, rfl⟩ ⟨Nat.le_of_ble_eq_true rfl, Nat.le_of_ble_eq_true rfl⟩ rfl rfl rfl rfl ?_
  refine sw_callVI 16 [0, 1, 2, 3, 4, 5] 1 C dX7_value_16 (ct_X7_tells l) wK_X7_tells wM_X7_70 wN_X7_tells wS_X7_X7_tells wI_X7 hd_X7_tells rfl rfl rfl ⟨rfl, rfl⟩ ⟨Nat.le_of_ble_eq_true rfl, Nat.le_of_ble_eq_true rfl⟩ rfl rfl rfl rfl rfl ?_
  refine sw_ws [(_, .inr (7, [.ref _, .ref _, .ref _, .int _, .int _, .ref _, .int _, .int _, .ref _, .long _])), (_, .inl (_, _, .inl _)), (_, .inl (_, _, .inl _)), (_, .inl (_, _, .inl _)), (_, .inl (_, _, .inl _)), (_, .inl (_, _, .inl _))] rfl ?_
  refine sw_goto 19 27 C dX7_value_19 (by decide) ?_
  refine sw_iret 27 C RC dX7_value_27 ?_
  exact ⟨rfl, rfl⟩
set_option maxHeartbeats 4000000 in
set_option maxRecDepth 100000 in
theorem ct_X7_value_2 (l : Launch) {D : va_G} {cI cJ cQ : ClassId} {b0 b1 b2 b3 b4 b5 : Nat} {sa pa ad tx nb : Nat → Int32} {kp th ty ap : Int32} {hh : Int64} {x : Int32} (hx : inR x 0 13 = false) : Ct l yX7_value (Cond.code yX7_value cX7_value 2 (some .int)) 3 65 0 0 D (tyz cI cJ cQ) [.ref b0, .int x] [(b0, .inr (7, [.ref b1, .ref b2, .ref b3, .int (kp), .int (th), .ref b4, .int (ty), .int (ap), .ref b5, .long (hh)])), (b1, .inl (cI, 424, .inl (sa))), (b2, .inl (cI, 1696, .inl (pa))), (b3, .inl (cI, 424, .inl (ad))), (b4, .inl (cI, 100, .inl (tx))), (b5, .inl (cI, 4, .inl (nb)))] (pstI 0 [(b0, .inr (7, [.ref b1, .ref b2, .ref b3, .int (kp), .int (1), .ref b4, .int (ty), .int (ap), .ref b5, .long (hh)])), (b1, .inl (cI, 424, .inl (sa))), (b2, .inl (cI, 1696, .inl (pa))), (b3, .inl (cI, 424, .inl (ad))), (b4, .inl (cI, 100, .inl (tx))), (b5, .inl (cI, 4, .inl (nb)))]) := by
  refine Ct.of RX7 (by decide) rfl (Nat.le_of_ble_eq_true rfl) ?_
  intro p e s m below meth c A C RC
  refine sw_iload_n 0 1 C dX7_value_0 rfl rfl ?_
  refine sw_iconst 1 C dX7_value_1 0 (by decide) ?_
  refine sw_bipush 2 C dX7_value_2 13 (by decide) ?_
  refine sw_callSIP 4 [] 3 C dX7_value_4 (ct_X7_in l) wK_X7_in wM_X7_73 wT_X7_in wI_X7 hd_X7_in rfl ⟨rfl, rfl⟩ ⟨Nat.le_of_ble_eq_true rfl, Nat.le_of_ble_eq_true rfl⟩ rfl rfl rfl rfl ?_
  refine sw_if_eq 7 22 C dX7_value_7 (by decide) (fun c_7 => ?_) (fun c_7 => ?_)
  rotate_left
  · exact by first | exact absurd c_7 (by rw [hx]; rfl) | exact absurd (by rw [hx]; rfl) c_7
  refine sw_aload_n 22 0 C dX7_value_22 rfl rfl ?_
  refine sw_iconst 23 C dX7_value_23 1 (by decide) ?_
  refine sw_callVI 24 [0, 1, 2, 3, 4, 5] 1 C dX7_value_24 (ct_X7_fails l) wK_X7_fails wM_X7_77 wN_X7_fails wS_X7_X7_fails wI_X7 hd_X7_fails rfl rfl rfl ⟨rfl, rfl⟩ ⟨Nat.le_of_ble_eq_true rfl, Nat.le_of_ble_eq_true rfl⟩ rfl rfl rfl rfl rfl ?_
  refine sw_ws [(_, .inr (7, [.ref _, .ref _, .ref _, .int _, .int _, .ref _, .int _, .int _, .ref _, .long _])), (_, .inl (_, _, .inl _)), (_, .inl (_, _, .inl _)), (_, .inl (_, _, .inl _)), (_, .inl (_, _, .inl _)), (_, .inl (_, _, .inl _))] rfl ?_
  refine sw_iret 27 C RC dX7_value_27 ?_
  exact ⟨rfl, rfl⟩
set_option maxHeartbeats 4000000 in
set_option maxRecDepth 100000 in
theorem lp_X7_ofRank {l : Launch} {p : Program} {e : Env} {s : State} {m : MethodId} {args : Array Value} {below : List Frame} {meth : Method} {c : Code} {A : Nat → Prop} {D : va_G} {cI cJ cQ : ClassId} {b0 b1 b2 b3 b4 b5 : Nat} {sa pa ad tx nb : Nat → Int32} {kp th ty ap : Int32} {hh : Int64} {S : StT} {B T : Nat} (hE : mE S sa) (hO : mO B T S) {x : Int32} (C : CC p s m args c cX7_ofRank 4 RX7 (Cond.code yX7_ofRank cX7_ofRank 4 (some .int) :: lw_all) D (tyz cI cJ cQ) A s.heap) (RC : meth.sig.returnType = (some .int) ∧ meth.locks = false ∧ meth.name = yX7_ofRank.name) : ∀ (fu i : Nat), i ≤ zn S → zn S + 1 ≤ i + fu →  ∀ (xa : Int32) (xi : Int32), (xa = nI (ct (isRk (zf S) x) i)) → (xi = nI i) →  sw p l e ({ frames := 1, cells := 0, slots := 0, locals := 22 } : Room) s m args below meth c D A s.heap 4 0 0 (MQ below (ctQ D (tyz cI cJ cQ) A ((pstI (nI (ct (isRk (zf S) x) (zn S))) [(b0, .inr (7, [.ref b1, .ref b2, .ref b3, .int (kp), .int (0), .ref b4, .int (ty), .int (ap), .ref b5, .long (hh)])), (b1, .inl (cI, 424, .inl (sa))), (b2, .inl (cI, 1696, .inl (pa))), (b3, .inl (cI, 424, .inl (ad))), (b4, .inl (cI, 100, .inl (tx))), (b5, .inl (cI, 4, .inl (nb)))]))) args s 0 0 A) [(b0, .inr (7, [.ref b1, .ref b2, .ref b3, .int (kp), .int (th), .ref b4, .int (ty), .int (ap), .ref b5, .long (hh)])), (b1, .inl (cI, 424, .inl (sa))), (b2, .inl (cI, 1696, .inl (pa))), (b3, .inl (cI, 424, .inl (ad))), (b4, .inl (cI, 100, .inl (tx))), (b5, .inl (cI, 4, .inl (nb)))] 19 [(0, .ref b0), (1, .int x), (2, .int xa), (3, .int xi)] [] := by
  intro fu
  induction fu with
  | zero => intro i h1 h2; exact absurd h2 (by omega)
  | succ fu ih =>
    intro i hi hf  xa xi exa exi
    subst exa exi
    refine sw_iload_n 19 3 C dX7_ofRank_19 rfl rfl ?_
    refine sw_aload_n 20 0 C dX7_ofRank_20 rfl rfl ?_
    refine sw_get 21 0 0 C dX7_ofRank_21 rfl rfl (inA lwX7) (C.w wF_X7_7) rfl rfl rfl ?_
    refine sw_iconst 24 C dX7_ofRank_24 1 (by decide) ?_
    refine sw_ialdN 25 1 0 (1) C dX7_ofRank_25 rfl (by decide) rfl rfl rfl ?_
    refine sw_top (hE.n) ?_
    refine sw_icmp_ge 26 53 C dX7_ofRank_26 (by decide) (fun c_26 => ?_) (fun c_26 => ?_)
    · obtain hz : i = zn S := by
        have := nI_ge' (by have := hO.n; omega) c_26 (by have := hO.n; omega)
        omega
      refine sw_aload_n 53 0 C dX7_ofRank_53 rfl rfl ?_
      refine sw_iload_n 54 2 C dX7_ofRank_54 rfl rfl ?_
      refine sw_callVI 55 [0, 1, 2, 3, 4, 5] 1 C dX7_ofRank_55 (ct_X7_tells l) wK_X7_tells wM_X7_70 wN_X7_tells wS_X7_X7_tells wI_X7 hd_X7_tells rfl rfl rfl ⟨rfl, rfl⟩ ⟨Nat.le_of_ble_eq_true rfl, Nat.le_of_ble_eq_true rfl⟩ rfl rfl rfl rfl rfl ?_
      refine sw_ws [(_, .inr (7, [.ref _, .ref _, .ref _, .int _, .int _, .ref _, .int _, .int _, .ref _, .long _])), (_, .inl (_, _, .inl _)), (_, .inl (_, _, .inl _)), (_, .inl (_, _, .inl _)), (_, .inl (_, _, .inl _)), (_, .inl (_, _, .inl _))] rfl ?_
      refine sw_iret 58 C RC dX7_ofRank_58 ?_
      exact ⟨by rw [← hz], rfl⟩
    · have hlt : i < zn S := by
        rcases Nat.lt_or_ge i (zn S) with q | q
        · exact q
        · exact absurd (nI_le q (by have := hO.n; omega)) c_26
      refine sw_iload_n 29 2 C dX7_ofRank_29 rfl rfl ?_
      refine sw_aload_n 30 0 C dX7_ofRank_30 rfl rfl ?_
      refine sw_iload_n 31 3 C dX7_ofRank_31 rfl rfl ?_
      refine sw_iconst 32 C dX7_ofRank_32 3 (by decide) ?_
      refine sw_callVIP 33 [0, 1, 2, 3, 4, 5] 2 C dX7_ofRank_33 (ct_X7_ofE l hE i 2 rfl rfl hlt (by decide) hO.n) wK_X7_of wM_X7_32 wN_X7_of wS_X7_X7_of wI_X7 hd_X7_of rfl rfl rfl ⟨rfl, rfl⟩ ⟨Nat.le_of_ble_eq_true rfl, Nat.le_of_ble_eq_true rfl⟩ rfl rfl rfl rfl ?_
      refine sw_iload_n 36 1 C dX7_ofRank_36 rfl rfl ?_
      refine sw_jn2 45 (bI (isRk (zf S) x i)) (fun hj_37 => ?_) ?_
      · refine sw_icmp_ne 37 44 C dX7_ofRank_37 (by decide) (fun c_37 => ?_) (fun c_37 => ?_)
        · refine sw_iconst 44 C dX7_ofRank_44 0 (by decide) ?_
          exact sw_top (by unfold isRk; rw [decide_eq_false c_37]; rfl) hj_37
        · refine sw_iconst 40 C dX7_ofRank_40 1 (by decide) ?_
          refine sw_goto 41 45 C dX7_ofRank_41 (by decide) ?_
          exact sw_top (by unfold isRk; rw [decide_eq_true c_37]; rfl) hj_37
      refine sw_iadd 45 C dX7_ofRank_45 ?_
      refine sw_istore_n 46 2 C dX7_ofRank_46 rfl rfl ?_
      refine sw_iinc 47 C 1 dX7_ofRank_47 (by decide) rfl rfl ?_
      refine sw_loc (L1 := [(0, .ref _), (1, .int _), (2, .int _), (3, .int _)]) ?_ rfl
      refine sw_goto 50 19 C dX7_ofRank_50 (by decide) ?_
      exact sw_loc (ih (i + 1) (by omega) (by omega) _ _ ct_b (nI_1 i)) rfl
set_option maxHeartbeats 4000000 in
set_option maxRecDepth 100000 in
theorem ct_X7_ofRank (l : Launch) {D : va_G} {cI cJ cQ : ClassId} {b0 b1 b2 b3 b4 b5 : Nat} {sa pa ad tx nb : Nat → Int32} {kp th ty ap : Int32} {hh : Int64} {S : StT} {B T : Nat} (hE : mE S sa) (hO : mO B T S) {x : Int32} (hx : inR x 0 4 = true) : Ct l yX7_ofRank (Cond.code yX7_ofRank cX7_ofRank 4 (some .int)) 1 22 0 0 D (tyz cI cJ cQ) [.ref b0, .int x] [(b0, .inr (7, [.ref b1, .ref b2, .ref b3, .int (kp), .int (th), .ref b4, .int (ty), .int (ap), .ref b5, .long (hh)])), (b1, .inl (cI, 424, .inl (sa))), (b2, .inl (cI, 1696, .inl (pa))), (b3, .inl (cI, 424, .inl (ad))), (b4, .inl (cI, 100, .inl (tx))), (b5, .inl (cI, 4, .inl (nb)))] (pstI (nI (ct (isRk (zf S) x) (zn S))) [(b0, .inr (7, [.ref b1, .ref b2, .ref b3, .int (kp), .int (0), .ref b4, .int (ty), .int (ap), .ref b5, .long (hh)])), (b1, .inl (cI, 424, .inl (sa))), (b2, .inl (cI, 1696, .inl (pa))), (b3, .inl (cI, 424, .inl (ad))), (b4, .inl (cI, 100, .inl (tx))), (b5, .inl (cI, 4, .inl (nb)))]) := by
  refine Ct.of RX7 (by decide) rfl (Nat.le_of_ble_eq_true rfl) ?_
  intro p e s m below meth c A C RC
  refine sw_iload_n 0 1 C dX7_ofRank_0 rfl rfl ?_
  refine sw_iconst 1 C dX7_ofRank_1 0 (by decide) ?_
  refine sw_iconst 2 C dX7_ofRank_2 4 (by decide) ?_
  refine sw_callSIP 3 [] 3 C dX7_ofRank_3 (ct_X7_in l) wK_X7_in wM_X7_73 wT_X7_in wI_X7 hd_X7_in rfl ⟨rfl, rfl⟩ ⟨Nat.le_of_ble_eq_true rfl, Nat.le_of_ble_eq_true rfl⟩ rfl rfl rfl rfl ?_
  refine sw_if_ne 6 15 C dX7_ofRank_6 (by decide) (fun c_6 => ?_) (fun c_6 => ?_)
  rotate_left
  · exact by first | exact absurd c_6 (by rw [hx]; decide) | exact absurd (by rw [hx]; decide) c_6
  refine sw_iconst 15 C dX7_ofRank_15 0 (by decide) ?_
  refine sw_istore_n 16 2 C dX7_ofRank_16 rfl rfl ?_
  refine sw_iconst 17 C dX7_ofRank_17 0 (by decide) ?_
  refine sw_istore_n 18 3 C dX7_ofRank_18 rfl rfl ?_
  exact lp_X7_ofRank hE hO C RC (zn S + 1) 0 (Nat.zero_le _) (by omega) _ _ rfl rfl
set_option maxHeartbeats 4000000 in
set_option maxRecDepth 100000 in
theorem ct_X7_ofRank_2 (l : Launch) {D : va_G} {cI cJ cQ : ClassId} {b0 b1 b2 b3 b4 b5 : Nat} {sa pa ad tx nb : Nat → Int32} {kp th ty ap : Int32} {hh : Int64} {x : Int32} (hx : inR x 0 4 = false) : Ct l yX7_ofRank (Cond.code yX7_ofRank cX7_ofRank 4 (some .int)) 1 22 0 0 D (tyz cI cJ cQ) [.ref b0, .int x] [(b0, .inr (7, [.ref b1, .ref b2, .ref b3, .int (kp), .int (th), .ref b4, .int (ty), .int (ap), .ref b5, .long (hh)])), (b1, .inl (cI, 424, .inl (sa))), (b2, .inl (cI, 1696, .inl (pa))), (b3, .inl (cI, 424, .inl (ad))), (b4, .inl (cI, 100, .inl (tx))), (b5, .inl (cI, 4, .inl (nb)))] (pstI 0 [(b0, .inr (7, [.ref b1, .ref b2, .ref b3, .int (kp), .int (1), .ref b4, .int (ty), .int (ap), .ref b5, .long (hh)])), (b1, .inl (cI, 424, .inl (sa))), (b2, .inl (cI, 1696, .inl (pa))), (b3, .inl (cI, 424, .inl (ad))), (b4, .inl (cI, 100, .inl (tx))), (b5, .inl (cI, 4, .inl (nb)))]) := by
  refine Ct.of RX7 (by decide) rfl (Nat.le_of_ble_eq_true rfl) ?_
  intro p e s m below meth c A C RC
  refine sw_iload_n 0 1 C dX7_ofRank_0 rfl rfl ?_
  refine sw_iconst 1 C dX7_ofRank_1 0 (by decide) ?_
  refine sw_iconst 2 C dX7_ofRank_2 4 (by decide) ?_
  refine sw_callSIP 3 [] 3 C dX7_ofRank_3 (ct_X7_in l) wK_X7_in wM_X7_73 wT_X7_in wI_X7 hd_X7_in rfl ⟨rfl, rfl⟩ ⟨Nat.le_of_ble_eq_true rfl, Nat.le_of_ble_eq_true rfl⟩ rfl rfl rfl rfl ?_
  refine sw_if_ne 6 15 C dX7_ofRank_6 (by decide) (fun c_6 => ?_) (fun c_6 => ?_)
  · exact by first | exact absurd c_6 (fun q => q (by rw [hx]; rfl)) | exact absurd (fun q => q (by rw [hx]; rfl)) c_6
  refine sw_aload_n 9 0 C dX7_ofRank_9 rfl rfl ?_
  refine sw_iconst 10 C dX7_ofRank_10 1 (by decide) ?_
  refine sw_callVI 11 [0, 1, 2, 3, 4, 5] 1 C dX7_ofRank_11 (ct_X7_fails l) wK_X7_fails wM_X7_77 wN_X7_fails wS_X7_X7_fails wI_X7 hd_X7_fails rfl rfl rfl ⟨rfl, rfl⟩ ⟨Nat.le_of_ble_eq_true rfl, Nat.le_of_ble_eq_true rfl⟩ rfl rfl rfl rfl rfl ?_
  refine sw_ws [(_, .inr (7, [.ref _, .ref _, .ref _, .int _, .int _, .ref _, .int _, .int _, .ref _, .long _])), (_, .inl (_, _, .inl _)), (_, .inl (_, _, .inl _)), (_, .inl (_, _, .inl _)), (_, .inl (_, _, .inl _)), (_, .inl (_, _, .inl _))] rfl ?_
  refine sw_iret 14 C RC dX7_ofRank_14 ?_
  exact ⟨rfl, rfl⟩
theorem brl_m {r x : Int32} (hx : inR x 0 4 = true) (h : ¬ r ≤ 4) : brl r x = -1 := by
  unfold brl
  rw [if_neg (fun q => h (Int32.le_trans q (inR_t hx).2)), if_pos (Int32.not_le.mp h)]
theorem brl_a {r x : Int32} (h : r ≤ 4) (h2 : x < r) : brl r x = 25 * (r - x) := by
  unfold brl
  rw [if_neg (Int32.not_le.mpr h2), if_neg (Int32.not_lt.mpr h), Int32.mul_comm]
theorem brl_z {r x : Int32} (h2 : ¬ x < r) : brl r x = 0 := if_pos (Int32.not_lt.mp h2)
set_option maxHeartbeats 4000000 in
set_option maxRecDepth 100000 in
theorem ct_X7_bribeToLead (l : Launch) {D : va_G} {cI cJ cQ : ClassId} {b0 b1 b2 b3 b4 b5 : Nat} {sa pa ad tx nb : Nat → Int32} {kp th ty ap : Int32} {hh : Int64} {S : StT} {B T : Nat} (hE : mE S sa) (hO : mO B T S) {x : Int32} (hx : inR x 0 4 = true) : Ct l yX7_bribeToLead (Cond.code yX7_bribeToLead cX7_bribeToLead 3 (some .int)) 2 44 0 0 D (tyz cI cJ cQ) [.ref b0, .int x] [(b0, .inr (7, [.ref b1, .ref b2, .ref b3, .int (kp), .int (th), .ref b4, .int (ty), .int (ap), .ref b5, .long (hh)])), (b1, .inl (cI, 424, .inl (sa))), (b2, .inl (cI, 1696, .inl (pa))), (b3, .inl (cI, 424, .inl (ad))), (b4, .inl (cI, 100, .inl (tx))), (b5, .inl (cI, 4, .inl (nb)))] (pstI (brl (ldr (zf S) (zn S) + 1) x) [(b0, .inr (7, [.ref b1, .ref b2, .ref b3, .int (kp), .int (0), .ref b4, .int (ty), .int (ap), .ref b5, .long (hh)])), (b1, .inl (cI, 424, .inl (sa))), (b2, .inl (cI, 1696, .inl (pa))), (b3, .inl (cI, 424, .inl (ad))), (b4, .inl (cI, 100, .inl (tx))), (b5, .inl (cI, 4, .inl (nb)))]) := by
  refine Ct.of RX7 (by decide) rfl (Nat.le_of_ble_eq_true rfl) ?_
  intro p e s m below meth c A C RC
  refine sw_iload_n 0 1 C dX7_bribeToLead_0 rfl rfl ?_
  refine sw_iconst 1 C dX7_bribeToLead_1 0 (by decide) ?_
  refine sw_iconst 2 C dX7_bribeToLead_2 4 (by decide) ?_
  refine sw_callSIP 3 [] 3 C dX7_bribeToLead_3 (ct_X7_in l) wK_X7_in wM_X7_73 wT_X7_in wI_X7 hd_X7_in rfl ⟨rfl, rfl⟩ ⟨Nat.le_of_ble_eq_true rfl, Nat.le_of_ble_eq_true rfl⟩ rfl rfl rfl rfl ?_
  refine sw_if_ne 6 15 C dX7_bribeToLead_6 (by decide) (fun c_6 => ?_) (fun c_6 => ?_)
  rotate_left
  · exact by first | exact absurd c_6 (by rw [hx]; decide) | exact absurd (by rw [hx]; decide) c_6
  refine sw_aload_n 15 0 C dX7_bribeToLead_15 rfl rfl ?_
  refine sw_callVIP 16 [0, 1, 2, 3, 4, 5] 0 C dX7_bribeToLead_16 (ct_X7_loudest l hE hO) wK_X7_loudest wM_X7_116 wN_X7_loudest wS_X7_X7_loudest wI_X7 hd_X7_loudest rfl rfl rfl ⟨rfl, rfl⟩ ⟨Nat.le_of_ble_eq_true rfl, Nat.le_of_ble_eq_true rfl⟩ rfl rfl rfl rfl ?_
  refine sw_iconst 19 C dX7_bribeToLead_19 1 (by decide) ?_
  refine sw_iadd 20 C dX7_bribeToLead_20 ?_
  refine sw_istore_n 21 2 C dX7_bribeToLead_21 rfl rfl ?_
  refine sw_iload_n 22 2 C dX7_bribeToLead_22 rfl rfl ?_
  refine sw_iconst 23 C dX7_bribeToLead_23 4 (by decide) ?_
  refine sw_icmp_le 24 33 C dX7_bribeToLead_24 (by decide) (fun c_24 => ?_) (fun c_24 => ?_)
  · refine sw_aload_n 33 0 C dX7_bribeToLead_33 rfl rfl ?_
    refine sw_iload_n 34 1 C dX7_bribeToLead_34 rfl rfl ?_
    refine sw_iload_n 35 2 C dX7_bribeToLead_35 rfl rfl ?_
    refine sw_jn2 49 (brl (ldr (zf S) (zn S) + 1) x) (fun hj_36 => ?_) ?_
    · refine sw_icmp_lt 36 43 C dX7_bribeToLead_36 (by decide) (fun c_36 => ?_) (fun c_36 => ?_)
      · refine sw_bipush 43 C dX7_bribeToLead_43 25 (by decide) ?_
        refine sw_iload_n 45 2 C dX7_bribeToLead_45 rfl rfl ?_
        refine sw_iload_n 46 1 C dX7_bribeToLead_46 rfl rfl ?_
        refine sw_isub 47 C dX7_bribeToLead_47 ?_
        refine sw_imul 48 C dX7_bribeToLead_48 ?_
        exact sw_top ((brl_a c_24 c_36).symm) hj_36
      · refine sw_iconst 39 C dX7_bribeToLead_39 0 (by decide) ?_
        refine sw_goto 40 49 C dX7_bribeToLead_40 (by decide) ?_
        exact sw_top ((brl_z c_36).symm) hj_36
    refine sw_callVI 49 [0, 1, 2, 3, 4, 5] 1 C dX7_bribeToLead_49 (ct_X7_tells l) wK_X7_tells wM_X7_70 wN_X7_tells wS_X7_X7_tells wI_X7 hd_X7_tells rfl rfl rfl ⟨rfl, rfl⟩ ⟨Nat.le_of_ble_eq_true rfl, Nat.le_of_ble_eq_true rfl⟩ rfl rfl rfl rfl rfl ?_
    refine sw_ws [(_, .inr (7, [.ref _, .ref _, .ref _, .int _, .int _, .ref _, .int _, .int _, .ref _, .long _])), (_, .inl (_, _, .inl _)), (_, .inl (_, _, .inl _)), (_, .inl (_, _, .inl _)), (_, .inl (_, _, .inl _)), (_, .inl (_, _, .inl _))] rfl ?_
    refine sw_iret 52 C RC dX7_bribeToLead_52 ?_
    exact ⟨rfl, rfl⟩
  · refine sw_aload_n 27 0 C dX7_bribeToLead_27 rfl rfl ?_
    refine sw_iconst 28 C dX7_bribeToLead_28 (-1) (by decide) ?_
    refine sw_callVI 29 [0, 1, 2, 3, 4, 5] 1 C dX7_bribeToLead_29 (ct_X7_tells l) wK_X7_tells wM_X7_70 wN_X7_tells wS_X7_X7_tells wI_X7 hd_X7_tells rfl rfl rfl ⟨rfl, rfl⟩ ⟨Nat.le_of_ble_eq_true rfl, Nat.le_of_ble_eq_true rfl⟩ rfl rfl rfl rfl rfl ?_
    refine sw_ws [(_, .inr (7, [.ref _, .ref _, .ref _, .int _, .int _, .ref _, .int _, .int _, .ref _, .long _])), (_, .inl (_, _, .inl _)), (_, .inl (_, _, .inl _)), (_, .inl (_, _, .inl _)), (_, .inl (_, _, .inl _)), (_, .inl (_, _, .inl _))] rfl ?_
    refine sw_iret 32 C RC dX7_bribeToLead_32 ?_
    exact ⟨by rw [brl_m hx c_24], rfl⟩
set_option maxHeartbeats 4000000 in
set_option maxRecDepth 100000 in
theorem ct_X7_bribeToLead_2 (l : Launch) {D : va_G} {cI cJ cQ : ClassId} {b0 b1 b2 b3 b4 b5 : Nat} {sa pa ad tx nb : Nat → Int32} {kp th ty ap : Int32} {hh : Int64} {x : Int32} (hx : inR x 0 4 = false) : Ct l yX7_bribeToLead (Cond.code yX7_bribeToLead cX7_bribeToLead 3 (some .int)) 2 44 0 0 D (tyz cI cJ cQ) [.ref b0, .int x] [(b0, .inr (7, [.ref b1, .ref b2, .ref b3, .int (kp), .int (th), .ref b4, .int (ty), .int (ap), .ref b5, .long (hh)])), (b1, .inl (cI, 424, .inl (sa))), (b2, .inl (cI, 1696, .inl (pa))), (b3, .inl (cI, 424, .inl (ad))), (b4, .inl (cI, 100, .inl (tx))), (b5, .inl (cI, 4, .inl (nb)))] (pstI 0 [(b0, .inr (7, [.ref b1, .ref b2, .ref b3, .int (kp), .int (1), .ref b4, .int (ty), .int (ap), .ref b5, .long (hh)])), (b1, .inl (cI, 424, .inl (sa))), (b2, .inl (cI, 1696, .inl (pa))), (b3, .inl (cI, 424, .inl (ad))), (b4, .inl (cI, 100, .inl (tx))), (b5, .inl (cI, 4, .inl (nb)))]) := by
  refine Ct.of RX7 (by decide) rfl (Nat.le_of_ble_eq_true rfl) ?_
  intro p e s m below meth c A C RC
  refine sw_iload_n 0 1 C dX7_bribeToLead_0 rfl rfl ?_
  refine sw_iconst 1 C dX7_bribeToLead_1 0 (by decide) ?_
  refine sw_iconst 2 C dX7_bribeToLead_2 4 (by decide) ?_
  refine sw_callSIP 3 [] 3 C dX7_bribeToLead_3 (ct_X7_in l) wK_X7_in wM_X7_73 wT_X7_in wI_X7 hd_X7_in rfl ⟨rfl, rfl⟩ ⟨Nat.le_of_ble_eq_true rfl, Nat.le_of_ble_eq_true rfl⟩ rfl rfl rfl rfl ?_
  refine sw_if_ne 6 15 C dX7_bribeToLead_6 (by decide) (fun c_6 => ?_) (fun c_6 => ?_)
  · exact by first | exact absurd c_6 (fun q => q (by rw [hx]; rfl)) | exact absurd (fun q => q (by rw [hx]; rfl)) c_6
  refine sw_aload_n 9 0 C dX7_bribeToLead_9 rfl rfl ?_
  refine sw_iconst 10 C dX7_bribeToLead_10 1 (by decide) ?_
  refine sw_callVI 11 [0, 1, 2, 3, 4, 5] 1 C dX7_bribeToLead_11 (ct_X7_fails l) wK_X7_fails wM_X7_77 wN_X7_fails wS_X7_X7_fails wI_X7 hd_X7_fails rfl rfl rfl ⟨rfl, rfl⟩ ⟨Nat.le_of_ble_eq_true rfl, Nat.le_of_ble_eq_true rfl⟩ rfl rfl rfl rfl rfl ?_
  refine sw_ws [(_, .inr (7, [.ref _, .ref _, .ref _, .int _, .int _, .ref _, .int _, .int _, .ref _, .long _])), (_, .inl (_, _, .inl _)), (_, .inl (_, _, .inl _)), (_, .inl (_, _, .inl _)), (_, .inl (_, _, .inl _)), (_, .inl (_, _, .inl _))] rfl ?_
  refine sw_iret 14 C RC dX7_bribeToLead_14 ?_
  exact ⟨rfl, rfl⟩
set_option maxHeartbeats 4000000 in
set_option maxRecDepth 100000 in
theorem ct_X7_append (l : Launch) {D : va_G} {cI cJ cQ : ClassId} {b0 b1 b2 b3 b4 b5 : Nat} {sa pa ad tx nb : Nat → Int32} {kp th ap : Int32} {hh : Int64} {ln : Nat} {x : Int32} (hx : inR x 0 127 = true) (hln : ln < 100) : Ct l yX7_append (Cond.code yX7_append cX7_append 2 (some .int)) 1 22 0 0 D (tyz cI cJ cQ) [.ref b0, .int x] [(b0, .inr (7, [.ref b1, .ref b2, .ref b3, .int (kp), .int (th), .ref b4, .int (nI ln), .int (ap), .ref b5, .long (hh)])), (b1, .inl (cI, 424, .inl (sa))), (b2, .inl (cI, 1696, .inl (pa))), (b3, .inl (cI, 424, .inl (ad))), (b4, .inl (cI, 100, .inl (tx))), (b5, .inl (cI, 4, .inl (nb)))] (pstI (nI (ln + 1)) [(b0, .inr (7, [.ref b1, .ref b2, .ref b3, .int (kp), .int (0), .ref b4, .int (nI (ln + 1)), .int (ap), .ref b5, .long (hh)])), (b1, .inl (cI, 424, .inl (sa))), (b2, .inl (cI, 1696, .inl (pa))), (b3, .inl (cI, 424, .inl (ad))), (b4, .inl (cI, 100, .inl (upd tx ln x))), (b5, .inl (cI, 4, .inl (nb)))]) := by
  refine Ct.of RX7 (by decide) rfl (Nat.le_of_ble_eq_true rfl) ?_
  intro p e s m below meth c A C RC
  refine sw_iload_n 0 1 C dX7_append_0 rfl rfl ?_
  refine sw_iconst 1 C dX7_append_1 0 (by decide) ?_
  refine sw_bipush 2 C dX7_append_2 127 (by decide) ?_
  refine sw_callSIP 4 [] 3 C dX7_append_4 (ct_X7_in l) wK_X7_in wM_X7_73 wT_X7_in wI_X7 hd_X7_in rfl ⟨rfl, rfl⟩ ⟨Nat.le_of_ble_eq_true rfl, Nat.le_of_ble_eq_true rfl⟩ rfl rfl rfl rfl ?_
  refine sw_if_ne 7 16 C dX7_append_7 (by decide) (fun c_7 => ?_) (fun c_7 => ?_)
  rotate_left
  · exact by first | exact absurd c_7 (by rw [hx]; decide) | exact absurd (by rw [hx]; decide) c_7
  refine sw_aload_n 16 0 C dX7_append_16 rfl rfl ?_
  refine sw_get 17 0 6 C dX7_append_17 rfl rfl (inA lwX7) (C.w wF_X7_128) rfl rfl rfl ?_
  refine sw_bipush 20 C dX7_append_20 100 (by decide) ?_
  refine sw_icmp_ne 22 31 C dX7_append_22 (by decide) (fun c_22 => ?_) (fun c_22 => ?_)
  rotate_left
  · exact by first | exact absurd c_22 (fun q : nI ln = 100 => absurd (nI_inj (a := ln) (b := 100) (by omega) (by decide) q) (by omega)) | exact absurd (fun q : nI ln = 100 => absurd (nI_inj (a := ln) (b := 100) (by omega) (by decide) q) (by omega)) c_22
  refine sw_aload_n 31 0 C dX7_append_31 rfl rfl ?_
  refine sw_get 32 0 5 C dX7_append_32 rfl rfl (inA lwX7) (C.w wF_X7_19) rfl rfl rfl ?_
  refine sw_aload_n 35 0 C dX7_append_35 rfl rfl ?_
  refine sw_get 36 0 6 C dX7_append_36 rfl rfl (inA lwX7) (C.w wF_X7_128) rfl rfl rfl ?_
  refine sw_iload_n 39 1 C dX7_append_39 rfl rfl ?_
  refine sw_iastN 40 4 0 (ln) C dX7_append_40 rfl hln rfl rfl rfl ?_
  refine sw_ws [(_, .inr (7, [.ref _, .ref _, .ref _, .int _, .int _, .ref _, .int _, .int _, .ref _, .long _])), (_, .inl (_, _, .inl _)), (_, .inl (_, _, .inl _)), (_, .inl (_, _, .inl _)), (_, .inl (_, _, .inl _)), (_, .inl (_, _, .inl _))] rfl ?_
  refine sw_aload_n 41 0 C dX7_append_41 rfl rfl ?_
  refine sw_dup 42 C dX7_append_42 rfl ?_
  refine sw_get 43 0 6 C dX7_append_43 rfl rfl (inA lwX7) (C.w wF_X7_128) rfl rfl rfl ?_
  refine sw_iconst 46 C dX7_append_46 1 (by decide) ?_
  refine sw_iadd 47 C dX7_append_47 ?_
  refine sw_top (nI_1 ln) ?_
  refine sw_put 48 0 6 tyX7 C dX7_append_48 rfl rfl (inA lwX7) tyX7_ok nmX7 (C.w wF_X7_128) rfl rfl rfl rfl rfl rfl rfl ?_
  refine sw_ws [(_, .inr (7, [.ref _, .ref _, .ref _, .int _, .int _, .ref _, .int _, .int _, .ref _, .long _])), (_, .inl (_, _, .inl _)), (_, .inl (_, _, .inl _)), (_, .inl (_, _, .inl _)), (_, .inl (_, _, .inl _)), (_, .inl (_, _, .inl _))] rfl ?_
  refine sw_aload_n 51 0 C dX7_append_51 rfl rfl ?_
  refine sw_aload_n 52 0 C dX7_append_52 rfl rfl ?_
  refine sw_get 53 0 6 C dX7_append_53 rfl rfl (inA lwX7) (C.w wF_X7_128) rfl rfl rfl ?_
  refine sw_callVI 56 [0, 1, 2, 3, 4, 5] 1 C dX7_append_56 (ct_X7_tells l) wK_X7_tells wM_X7_70 wN_X7_tells wS_X7_X7_tells wI_X7 hd_X7_tells rfl rfl rfl ⟨rfl, rfl⟩ ⟨Nat.le_of_ble_eq_true rfl, Nat.le_of_ble_eq_true rfl⟩ rfl rfl rfl rfl rfl ?_
  refine sw_ws [(_, .inr (7, [.ref _, .ref _, .ref _, .int _, .int _, .ref _, .int _, .int _, .ref _, .long _])), (_, .inl (_, _, .inl _)), (_, .inl (_, _, .inl _)), (_, .inl (_, _, .inl _)), (_, .inl (_, _, .inl _)), (_, .inl (_, _, .inl _))] rfl ?_
  refine sw_iret 59 C RC dX7_append_59 ?_
  exact ⟨rfl, rfl⟩
set_option maxHeartbeats 4000000 in
set_option maxRecDepth 100000 in
theorem ct_X7_append_2 (l : Launch) {D : va_G} {cI cJ cQ : ClassId} {b0 b1 b2 b3 b4 b5 : Nat} {sa pa ad tx nb : Nat → Int32} {kp th ap : Int32} {hh : Int64} {x : Int32} (hx : inR x 0 127 = true) : Ct l yX7_append (Cond.code yX7_append cX7_append 2 (some .int)) 1 22 0 0 D (tyz cI cJ cQ) [.ref b0, .int x] [(b0, .inr (7, [.ref b1, .ref b2, .ref b3, .int (kp), .int (th), .ref b4, .int (nI 100), .int (ap), .ref b5, .long (hh)])), (b1, .inl (cI, 424, .inl (sa))), (b2, .inl (cI, 1696, .inl (pa))), (b3, .inl (cI, 424, .inl (ad))), (b4, .inl (cI, 100, .inl (tx))), (b5, .inl (cI, 4, .inl (nb)))] (pstI 0 [(b0, .inr (7, [.ref b1, .ref b2, .ref b3, .int (kp), .int (2), .ref b4, .int (nI 100), .int (ap), .ref b5, .long (hh)])), (b1, .inl (cI, 424, .inl (sa))), (b2, .inl (cI, 1696, .inl (pa))), (b3, .inl (cI, 424, .inl (ad))), (b4, .inl (cI, 100, .inl (tx))), (b5, .inl (cI, 4, .inl (nb)))]) := by
  refine Ct.of RX7 (by decide) rfl (Nat.le_of_ble_eq_true rfl) ?_
  intro p e s m below meth c A C RC
  refine sw_iload_n 0 1 C dX7_append_0 rfl rfl ?_
  refine sw_iconst 1 C dX7_append_1 0 (by decide) ?_
  refine sw_bipush 2 C dX7_append_2 127 (by decide) ?_
  refine sw_callSIP 4 [] 3 C dX7_append_4 (ct_X7_in l) wK_X7_in wM_X7_73 wT_X7_in wI_X7 hd_X7_in rfl ⟨rfl, rfl⟩ ⟨Nat.le_of_ble_eq_true rfl, Nat.le_of_ble_eq_true rfl⟩ rfl rfl rfl rfl ?_
  refine sw_if_ne 7 16 C dX7_append_7 (by decide) (fun c_7 => ?_) (fun c_7 => ?_)
  rotate_left
  · exact by first | exact absurd c_7 (by rw [hx]; decide) | exact absurd (by rw [hx]; decide) c_7
  refine sw_aload_n 16 0 C dX7_append_16 rfl rfl ?_
  refine sw_get 17 0 6 C dX7_append_17 rfl rfl (inA lwX7) (C.w wF_X7_128) rfl rfl rfl ?_
  refine sw_bipush 20 C dX7_append_20 100 (by decide) ?_
  refine sw_icmp_ne 22 31 C dX7_append_22 (by decide) (fun c_22 => ?_) (fun c_22 => ?_)
  · exact by first | exact absurd c_22 (fun q => q rfl) | exact absurd (fun q => q rfl) c_22
  refine sw_aload_n 25 0 C dX7_append_25 rfl rfl ?_
  refine sw_iconst 26 C dX7_append_26 2 (by decide) ?_
  refine sw_callVI 27 [0, 1, 2, 3, 4, 5] 1 C dX7_append_27 (ct_X7_fails l) wK_X7_fails wM_X7_77 wN_X7_fails wS_X7_X7_fails wI_X7 hd_X7_fails rfl rfl rfl ⟨rfl, rfl⟩ ⟨Nat.le_of_ble_eq_true rfl, Nat.le_of_ble_eq_true rfl⟩ rfl rfl rfl rfl rfl ?_
  refine sw_ws [(_, .inr (7, [.ref _, .ref _, .ref _, .int _, .int _, .ref _, .int _, .int _, .ref _, .long _])), (_, .inl (_, _, .inl _)), (_, .inl (_, _, .inl _)), (_, .inl (_, _, .inl _)), (_, .inl (_, _, .inl _)), (_, .inl (_, _, .inl _))] rfl ?_
  refine sw_iret 30 C RC dX7_append_30 ?_
  exact ⟨rfl, rfl⟩
set_option maxHeartbeats 4000000 in
set_option maxRecDepth 100000 in
theorem ct_X7_append_3 (l : Launch) {D : va_G} {cI cJ cQ : ClassId} {b0 b1 b2 b3 b4 b5 : Nat} {sa pa ad tx nb : Nat → Int32} {kp th ty ap : Int32} {hh : Int64} {x : Int32} (hx : inR x 0 127 = false) : Ct l yX7_append (Cond.code yX7_append cX7_append 2 (some .int)) 1 22 0 0 D (tyz cI cJ cQ) [.ref b0, .int x] [(b0, .inr (7, [.ref b1, .ref b2, .ref b3, .int (kp), .int (th), .ref b4, .int (ty), .int (ap), .ref b5, .long (hh)])), (b1, .inl (cI, 424, .inl (sa))), (b2, .inl (cI, 1696, .inl (pa))), (b3, .inl (cI, 424, .inl (ad))), (b4, .inl (cI, 100, .inl (tx))), (b5, .inl (cI, 4, .inl (nb)))] (pstI 0 [(b0, .inr (7, [.ref b1, .ref b2, .ref b3, .int (kp), .int (1), .ref b4, .int (ty), .int (ap), .ref b5, .long (hh)])), (b1, .inl (cI, 424, .inl (sa))), (b2, .inl (cI, 1696, .inl (pa))), (b3, .inl (cI, 424, .inl (ad))), (b4, .inl (cI, 100, .inl (tx))), (b5, .inl (cI, 4, .inl (nb)))]) := by
  refine Ct.of RX7 (by decide) rfl (Nat.le_of_ble_eq_true rfl) ?_
  intro p e s m below meth c A C RC
  refine sw_iload_n 0 1 C dX7_append_0 rfl rfl ?_
  refine sw_iconst 1 C dX7_append_1 0 (by decide) ?_
  refine sw_bipush 2 C dX7_append_2 127 (by decide) ?_
  refine sw_callSIP 4 [] 3 C dX7_append_4 (ct_X7_in l) wK_X7_in wM_X7_73 wT_X7_in wI_X7 hd_X7_in rfl ⟨rfl, rfl⟩ ⟨Nat.le_of_ble_eq_true rfl, Nat.le_of_ble_eq_true rfl⟩ rfl rfl rfl rfl ?_
  refine sw_if_ne 7 16 C dX7_append_7 (by decide) (fun c_7 => ?_) (fun c_7 => ?_)
  · exact by first | exact absurd c_7 (fun q => q (by rw [hx]; rfl)) | exact absurd (fun q => q (by rw [hx]; rfl)) c_7
  refine sw_aload_n 10 0 C dX7_append_10 rfl rfl ?_
  refine sw_iconst 11 C dX7_append_11 1 (by decide) ?_
  refine sw_callVI 12 [0, 1, 2, 3, 4, 5] 1 C dX7_append_12 (ct_X7_fails l) wK_X7_fails wM_X7_77 wN_X7_fails wS_X7_X7_fails wI_X7 hd_X7_fails rfl rfl rfl ⟨rfl, rfl⟩ ⟨Nat.le_of_ble_eq_true rfl, Nat.le_of_ble_eq_true rfl⟩ rfl rfl rfl rfl rfl ?_
  refine sw_ws [(_, .inr (7, [.ref _, .ref _, .ref _, .int _, .int _, .ref _, .int _, .int _, .ref _, .long _])), (_, .inl (_, _, .inl _)), (_, .inl (_, _, .inl _)), (_, .inl (_, _, .inl _)), (_, .inl (_, _, .inl _)), (_, .inl (_, _, .inl _))] rfl ?_
  refine sw_iret 15 C RC dX7_append_15 ?_
  exact ⟨rfl, rfl⟩
set_option maxHeartbeats 4000000 in
set_option maxRecDepth 100000 in
theorem ct_X7_clearText (l : Launch) {D : va_G} {cI cJ cQ : ClassId} {b0 b1 b2 b3 b4 b5 : Nat} {sa pa ad tx nb : Nat → Int32} {kp th ty ap : Int32} {hh : Int64} : Ct l yX7_clearText (Cond.code yX7_clearText cX7_clearText 2 (some .int)) 1 21 0 0 D (tyz cI cJ cQ) [.ref b0] [(b0, .inr (7, [.ref b1, .ref b2, .ref b3, .int (kp), .int (th), .ref b4, .int (ty), .int (ap), .ref b5, .long (hh)])), (b1, .inl (cI, 424, .inl (sa))), (b2, .inl (cI, 1696, .inl (pa))), (b3, .inl (cI, 424, .inl (ad))), (b4, .inl (cI, 100, .inl (tx))), (b5, .inl (cI, 4, .inl (nb)))] (pstI ty [(b0, .inr (7, [.ref b1, .ref b2, .ref b3, .int (kp), .int (0), .ref b4, .int (0), .int (ap), .ref b5, .long (hh)])), (b1, .inl (cI, 424, .inl (sa))), (b2, .inl (cI, 1696, .inl (pa))), (b3, .inl (cI, 424, .inl (ad))), (b4, .inl (cI, 100, .inl (tx))), (b5, .inl (cI, 4, .inl (nb)))]) := by
  refine Ct.of RX7 (by decide) rfl (Nat.le_of_ble_eq_true rfl) ?_
  intro p e s m below meth c A C RC
  refine sw_aload_n 0 0 C dX7_clearText_0 rfl rfl ?_
  refine sw_get 1 0 6 C dX7_clearText_1 rfl rfl (inA lwX7) (C.w wF_X7_128) rfl rfl rfl ?_
  refine sw_istore_n 4 1 C dX7_clearText_4 rfl rfl ?_
  refine sw_aload_n 5 0 C dX7_clearText_5 rfl rfl ?_
  refine sw_iconst 6 C dX7_clearText_6 0 (by decide) ?_
  refine sw_put 7 0 6 tyX7 C dX7_clearText_7 rfl rfl (inA lwX7) tyX7_ok nmX7 (C.w wF_X7_128) rfl rfl rfl rfl rfl rfl rfl ?_
  refine sw_ws [(_, .inr (7, [.ref _, .ref _, .ref _, .int _, .int _, .ref _, .int _, .int _, .ref _, .long _])), (_, .inl (_, _, .inl _)), (_, .inl (_, _, .inl _)), (_, .inl (_, _, .inl _)), (_, .inl (_, _, .inl _)), (_, .inl (_, _, .inl _))] rfl ?_
  refine sw_aload_n 10 0 C dX7_clearText_10 rfl rfl ?_
  refine sw_iload_n 11 1 C dX7_clearText_11 rfl rfl ?_
  refine sw_callVI 12 [0, 1, 2, 3, 4, 5] 1 C dX7_clearText_12 (ct_X7_tells l) wK_X7_tells wM_X7_70 wN_X7_tells wS_X7_X7_tells wI_X7 hd_X7_tells rfl rfl rfl ⟨rfl, rfl⟩ ⟨Nat.le_of_ble_eq_true rfl, Nat.le_of_ble_eq_true rfl⟩ rfl rfl rfl rfl rfl ?_
  refine sw_ws [(_, .inr (7, [.ref _, .ref _, .ref _, .int _, .int _, .ref _, .int _, .int _, .ref _, .long _])), (_, .inl (_, _, .inl _)), (_, .inl (_, _, .inl _)), (_, .inl (_, _, .inl _)), (_, .inl (_, _, .inl _)), (_, .inl (_, _, .inl _))] rfl ?_
  refine sw_iret 15 C RC dX7_clearText_15 ?_
  exact ⟨rfl, rfl⟩
