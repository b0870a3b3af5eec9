/-! the Model: who is served, ticks -/
theorem zf_zf (S : StT) (f g : Nat → Int32) : zf_ (zf_ S f) g = zf_ S g := rfl
def S2g (S : StT) (r : Nat) : StT := zf_ S (upd (upd (zf S) (r * 8 + 3) (zf S (r * 8 + 3) + 1)) (r * 8 + 4) (zf S (r * 8 + 4) + 1))
def S4g (S : StT) (r : Nat) : StT := zf_ S (upd (upd (zf (S2g S r)) (r * 8 + 2) (zf S (r * 8 + 2) + 1)) (r * 8 + 4) 0)
theorem mE_1g {S : StT} {m : Nat → Int32} (h : mE S m) {r : Nat} (hr : r < zn S) : mE (zf_ S (upd (zf S) (r * 8 + 3) (zf S (r * 8 + 3) + 1))) (upd m (104 + r * 8 + 4) (zf S (r * 8 + 3) + 1)) := mE_put h hr (c := 3) (by decide) _
theorem mE_2g {S : StT} {m : Nat → Int32} (h : mE S m) {r : Nat} (hr : r < zn S) : mE (S2g S r) (upd (upd m (104 + r * 8 + 4) (zf S (r * 8 + 3) + 1)) (104 + r * 8 + 5) (zf S (r * 8 + 4) + 1)) := mE_put (S := zf_ S (upd (zf S) (r * 8 + 3) (zf S (r * 8 + 3) + 1))) (mE_1g h hr) hr (c := 4) (by decide) _
theorem mE_4g {S : StT} {m : Nat → Int32} (h : mE S m) {r : Nat} (hr : r < zn S) : mE (S4g S r) (upd (upd (upd (upd m (104 + r * 8 + 4) (zf S (r * 8 + 3) + 1)) (104 + r * 8 + 5) (zf S (r * 8 + 4) + 1)) (104 + r * 8 + 3) (zf S (r * 8 + 2) + 1)) (104 + r * 8 + 5) 0) :=
  mE_put (S := zf_ S (upd (zf (S2g S r)) (r * 8 + 2) (zf S (r * 8 + 2) + 1))) (mE_put (S := S2g S r) (mE_2g h hr) hr (c := 2) (by decide) _) hr (c := 4) (by decide) _
theorem g1_3 {f : Nat → Int32} {r : Nat} : gro1 f r (r * 8 + 3) = f (r * 8 + 3) + 1 := upd_at rfl
theorem groS_no {S : StT} {r : Nat} (hx : gexp (zf S) r = false) (hu : gup (zpat S) (zf S) r = false) : groS S r = S2g S r := by
  unfold groS S2g
  rw [gro_s hx hu, gro1_ne (j := r * 8 + 4) (by omega)]
  rfl
theorem groS_up {S : StT} {r : Nat} (hx : gexp (zf S) r = false) (hu : gup (zpat S) (zf S) r = true) : groS S r = S4g S r := by
  unfold groS S4g
  rw [gro_u hx hu, gro1_ne (j := r * 8 + 2) (by omega)]
  refine congrArg (zf_ S) (funext fun j => ?_)
  show upd (upd (gro1 (zf S) r) (r * 8 + 2) (zf S (r * 8 + 2) + 1)) (r * 8 + 4) 0 j = upd (upd (upd (upd (zf S) (r * 8 + 3) (zf S (r * 8 + 3) + 1)) (r * 8 + 4) (zf S (r * 8 + 4) + 1)) (r * 8 + 2) (zf S (r * 8 + 2) + 1)) (r * 8 + 4) 0 j
  by_cases h1 : j = r * 8 + 4
  · rw [upd_at h1, upd_at h1]
  · rw [upd_ne h1, upd_ne h1]
    by_cases h2 : j = r * 8 + 2
    · rw [upd_at h2, upd_at h2]
    · rw [upd_ne h2, upd_ne h2, upd_ne h1]
      rfl
theorem gexp_f {S : StT} {r : Nat} (h : zf S (r * 8 + 3) + 1 < zf S (r * 8 + 5)) : gexp (zf S) r = false := by
  unfold gexp
  rw [gro1_ne (by omega)]
  exact decide_eq_false (Int32.not_le.mpr h)
theorem gexp_t {S : StT} {r : Nat} (h : ¬ zf S (r * 8 + 3) + 1 < zf S (r * 8 + 5)) : gexp (zf S) r = true := by
  unfold gexp
  rw [gro1_ne (by omega)]
  exact decide_eq_true (Int32.not_lt.mp h)
theorem gup_4 {S : StT} {r : Nat} (h : 4 ≤ zf S (r * 8 + 2)) : gup (zpat S) (zf S) r = false := by
  unfold gup
  rw [gro1_ne (j := r * 8 + 2) (by omega), decide_eq_false (Int32.not_lt.mpr h), Bool.and_false, Bool.false_and]
theorem gup_e {S : StT} {r k : Nat} (h : zf S (r * 8 + 2) = nI k) (hk : k < 4) : gup (zpat S) (zf S) r = decide (zpat S k ≤ zf S (r * 8 + 4) + 1) := by
  unfold gup
  rw [gro1_ne (j := r * 8 + 2) (by omega), gro1_ne (j := r * 8 + 4) (by omega), h, nI_clamp (by omega), decide_eq_true (nI_pos' (by omega)), decide_eq_true (show nI k < 4 from nI_lt hk (by decide)), Bool.and_self, Bool.true_and]
theorem mE_exp {S : StT} {m : Nat → Int32} {r : Nat} (hx : gexp (zf S) r = true) (h : mE (lvS (S2g S r) r 1) m) : mE (leaveS (groS S r) r 1) m := by
  rw [lvS_x _ _ (by decide)] at h
  refine mE_leave_cong (S := S) (f := zf (S2g S r)) (g := gro (zpat S) (zf S) r) (fun c hc hne => ?_) (fun j c hne hc => ?_) h
  · rw [gro_x hx]
    show upd (zf S) (r * 8 + 3) (zf S (r * 8 + 3) + 1) (r * 8 + c) = upd (upd (zf S) (r * 8 + 3) (zf S (r * 8 + 3) + 1)) (r * 8 + 4) (zf S (r * 8 + 4) + 1) (r * 8 + c)
    rw [upd_ne (k := r * 8 + 4) (by omega)]
  · rw [gro_far hne hc]
    show _ = upd (upd (zf S) (r * 8 + 3) (zf S (r * 8 + 3) + 1)) (r * 8 + 4) (zf S (r * 8 + 4) + 1) (j * 8 + c)
    rw [upd_ne (by omega), upd_ne (by omega)]
set_option maxHeartbeats 4000000 in
set_option maxRecDepth 100000 in
theorem ct_X7_servesFirst (l : Launch) {D : va_G} {cI cJ cQ : ClassId} {b0 b1 b2 b3 b4 b5 : Nat} {sa pa ad tx nb : Nat → Int32} {kp th ty ap : Int32} {hh : Int64} {S : StT} {B T : Nat} (hE : mE S sa) (hO : mO B T S) (h0 : 0 < zn S) : Ct l yX7_servesFirst (Cond.code yX7_servesFirst cX7_servesFirst 3 (some .int)) 4 90 0 0 D (tyz cI cJ cQ) [.ref b0] [(b0, .inr (7, [.ref b1, .ref b2, .ref b3, .int (kp), .int (th), .ref b4, .int (ty), .int (ap), .ref b5, .long (hh)])), (b1, .inl (cI, 424, .inl (sa))), (b2, .inl (cI, 1696, .inl (pa))), (b3, .inl (cI, 424, .inl (ad))), (b4, .inl (cI, 100, .inl (tx))), (b5, .inl (cI, 4, .inl (nb)))] (pstE (srv S).1 (mE (srv S).2) (fun f => [(b0, .inr (7, [.ref b1, .ref b2, .ref b3, .int (kp), .int (th), .ref b4, .int (ty), .int (ap), .ref b5, .long (hh)])), (b1, .inl (cI, 424, .inl (f))), (b2, .inl (cI, 1696, .inl (pa))), (b3, .inl (cI, 424, .inl (ad))), (b4, .inl (cI, 100, .inl (tx))), (b5, .inl (cI, 4, .inl (nb)))])) := by
  refine Ct.of RX7 (by decide) rfl (Nat.le_of_ble_eq_true rfl) ?_
  intro p e s m below meth c A C RC
  obtain ⟨j, hj⟩ := frs_some (f := zf S) h0
  obtain ⟨hjn, hc⟩ := frs_cbf hO.num hO.row hj
  refine sw_aload_n 0 0 C dX7_servesFirst_0 rfl rfl ?_
  refine sw_iconst 1 C dX7_servesFirst_1 0 (by decide) ?_
  refine sw_callVIP 2 [0, 1, 2, 3, 4, 5] 1 C dX7_servesFirst_2 (ct_X7_atPlace l hE hO j 0 rfl hjn hc) wK_X7_atPlace wM_X7_57 wN_X7_atPlace wS_X7_X7_atPlace wI_X7 hd_X7_atPlace rfl rfl rfl ⟨rfl, rfl⟩ ⟨Nat.le_of_ble_eq_true rfl, Nat.le_of_ble_eq_true rfl⟩ rfl rfl rfl rfl ?_
  refine sw_istore_n 5 1 C dX7_servesFirst_5 rfl rfl ?_
  refine sw_aload_n 6 0 C dX7_servesFirst_6 rfl rfl ?_
  refine sw_iload_n 7 1 C dX7_servesFirst_7 rfl rfl ?_
  refine sw_iconst 8 C dX7_servesFirst_8 0 (by decide) ?_
  refine sw_callVIP 9 [0, 1, 2, 3, 4, 5] 2 C dX7_servesFirst_9 (ct_X7_ofE l hE j 7 rfl rfl hjn (by decide) hO.n) wK_X7_of wM_X7_32 wN_X7_of wS_X7_X7_of wI_X7 hd_X7_of rfl rfl rfl ⟨rfl, rfl⟩ ⟨Nat.le_of_ble_eq_true rfl, Nat.le_of_ble_eq_true rfl⟩ rfl rfl rfl rfl ?_
  refine sw_istore_n 12 2 C dX7_servesFirst_12 rfl rfl ?_
  refine sw_loc (L1 := [(0, .ref _), (1, .int _), (2, .int _)]) ?_ rfl
  refine sw_aload_n 13 0 C dX7_servesFirst_13 rfl rfl ?_
  refine sw_iload_n 14 1 C dX7_servesFirst_14 rfl rfl ?_
  refine sw_iconst 15 C dX7_servesFirst_15 0 (by decide) ?_
  refine sw_callVE 16 [0, 1, 2, 3, 4, 5] 2 C dX7_servesFirst_16 (ct_X7_leaves l hE hO.si j 0 rfl rfl hjn (by decide)) wK_X7_leaves wM_X7_60 wN_X7_leaves wS_X7_X7_leaves wI_X7 hd_X7_leaves rfl rfl rfl ⟨rfl, rfl⟩ ⟨Nat.le_of_ble_eq_true rfl, Nat.le_of_ble_eq_true rfl⟩ rfl rfl rfl (fun _ => rfl) rfl (fun f1 h1 => ?_)
  refine sw_ws [(_, .inr (7, [.ref _, .ref _, .ref _, .int _, .int _, .ref _, .int _, .int _, .ref _, .long _])), (_, .inl (_, _, .inl _)), (_, .inl (_, _, .inl _)), (_, .inl (_, _, .inl _)), (_, .inl (_, _, .inl _)), (_, .inl (_, _, .inl _))] rfl ?_
  refine sw_if_ge 19 26 C dX7_servesFirst_19 (by decide) (fun c_19 => ?_) (fun c_19 => ?_)
  rotate_left
  · exact by first | exact absurd c_19 (Int32.not_lt.mp (gbk_0 (hO.row j hjn))) | exact absurd (Int32.not_lt.mp (gbk_0 (hO.row j hjn))) c_19
  refine sw_iload_n 26 2 C dX7_servesFirst_26 rfl rfl ?_
  refine sw_iret 27 C RC dX7_servesFirst_27 ?_
  exact ⟨by rw [srv_lv hj], f1, by rw [srv_lv hj]; exact h1, rfl⟩
theorem SI_2g {S : StT} {r : Nat} (h : SI S) : SI (S2g S r) := ⟨h.1, h.2.1, fun j hj => by
  show okSd (upd (upd (zf S) (r * 8 + 3) (zf S (r * 8 + 3) + 1)) (r * 8 + 4) (zf S (r * 8 + 4) + 1) (j * 8 + 0))
  rw [upd_ne (by omega), upd_ne (by omega)]
  exact h.2.2 j hj⟩
theorem gbk_2g {S : StT} {r : Nat} {gr : Int32} (h : rOK (zf S) r) : 0 ≤ gbk (zf (S2g S r)) gr r 1 := by
  rw [gbk_1]
  show 0 ≤ upd (upd (zf S) (r * 8 + 3) (zf S (r * 8 + 3) + 1)) (r * 8 + 4) (zf S (r * 8 + 4) + 1) (r * 8 + 6)
  rw [upd_ne (by omega), upd_ne (by omega)]
  obtain ⟨b, b1, b2⟩ := h.2.2.1
  rw [b2]
  exact nI_pos' (by omega)
set_option maxHeartbeats 4000000 in
set_option maxRecDepth 100000 in
theorem lp_X7_tick {l : Launch} {p : Program} {e : Env} {s : State} {m : MethodId} {args : Array Value} {below : List Frame} {meth : Method} {c : Code} {A : Nat → Prop} {D : va_G} {cI cJ cQ : ClassId} {b0 b1 b2 b3 b4 b5 : Nat} {pa ad tx nb : Nat → Int32} {kp th ty ap : Int32} {hh : Int64} {B T : Nat} (C : CC p s m args c cX7_tick 3 RX7 (Cond.code yX7_tick cX7_tick 3 (some .int) :: lw_all) D (tyz cI cJ cQ) A s.heap) (RC : meth.sig.returnType = (some .int) ∧ meth.locks = false ∧ meth.name = yX7_tick.name) (N : Nat) (T0 : StT) : ∀ (u r z : Nat) (S : StT) (sa : Nat → Int32), mO B T S → mE S sa → r + u = zn S → z + (tgo u r S).1 = N → (tgo u r S).2 = T0 → sw p l e ({ frames := 3, cells := 0, slots := 0, locals := 69 } : Room) s m args below meth c D A s.heap 3 0 0 (MQ below (ctQ D (tyz cI cJ cQ) A (pstE (nI N) (mE (zt_ T0 (zt T0 + 1))) (fun f => [(b0, .inr (7, [.ref b1, .ref b2, .ref b3, .int (kp), .int (th), .ref b4, .int (ty), .int (ap), .ref b5, .long (hh)])), (b1, .inl (cI, 424, .inl (f))), (b2, .inl (cI, 1696, .inl (pa))), (b3, .inl (cI, 424, .inl (ad))), (b4, .inl (cI, 100, .inl (tx))), (b5, .inl (cI, 4, .inl (nb)))]))) args s 0 0 A) [(b0, .inr (7, [.ref b1, .ref b2, .ref b3, .int (kp), .int (th), .ref b4, .int (ty), .int (ap), .ref b5, .long (hh)])), (b1, .inl (cI, 424, .inl (sa))), (b2, .inl (cI, 1696, .inl (pa))), (b3, .inl (cI, 424, .inl (ad))), (b4, .inl (cI, 100, .inl (tx))), (b5, .inl (cI, 4, .inl (nb)))] 4 [(0, .ref b0), (1, .int (nI z)), (2, .int (nI r))] [] := by
  intro u
  induction u with
  | zero =>
    intro r z S sa hO hE hr hz ht
    refine sw_iload_n 4 2 C dX7_tick_4 rfl rfl ?_
    refine sw_aload_n 5 0 C dX7_tick_5 rfl rfl ?_
    refine sw_get 6 0 0 C dX7_tick_6 rfl rfl (inA lwX7) (C.w wF_X7_7) rfl rfl rfl ?_
    refine sw_iconst 9 C dX7_tick_9 1 (by decide) ?_
    refine sw_ialdN 10 1 0 (1) C dX7_tick_10 rfl (by decide) rfl rfl rfl ?_
    refine sw_top (hE.n) ?_
    refine sw_icmp_ge 11 138 C dX7_tick_11 (by decide) (fun c_11 => ?_) (fun c_11 => ?_)
    rotate_left
    · exact by first | exact absurd c_11 (nI_le (show zn S ≤ r by omega) (by have := hO.n; omega)) | exact absurd (nI_le (show zn S ≤ r by omega) (by have := hO.n; omega)) c_11
    refine sw_aload_n 138 0 C dX7_tick_138 rfl rfl ?_
    refine sw_get 139 0 0 C dX7_tick_139 rfl rfl (inA lwX7) (C.w wF_X7_7) rfl rfl rfl ?_
    refine sw_iconst 142 C dX7_tick_142 0 (by decide) ?_
    refine sw_dup2 143 C dX7_tick_143 rfl rfl ?_
    refine sw_ialdN 144 1 0 (0) C dX7_tick_144 rfl (by decide) rfl rfl rfl ?_
    refine sw_top (hE.t) ?_
    refine sw_iconst 145 C dX7_tick_145 1 (by decide) ?_
    refine sw_iadd 146 C dX7_tick_146 ?_
    refine sw_iastN 147 1 0 (0) C dX7_tick_147 rfl (by decide) rfl rfl rfl ?_
    refine sw_ws [(_, .inr (7, [.ref _, .ref _, .ref _, .int _, .int _, .ref _, .int _, .int _, .ref _, .long _])), (_, .inl (_, _, .inl _)), (_, .inl (_, _, .inl _)), (_, .inl (_, _, .inl _)), (_, .inl (_, _, .inl _)), (_, .inl (_, _, .inl _))] rfl ?_
    refine sw_iload_n 148 1 C dX7_tick_148 rfl rfl ?_
    refine sw_iret 149 C RC dX7_tick_149 ?_
    subst ht
    exact ⟨by rw [← hz]; rfl, _, mE_t hE _, rfl⟩
  | succ u ih =>
    intro r z S sa hO hE hr hz ht
    have hn := hO.n
    have hrn : r < zn S := by omega
    have hE1 := mE_1g hE hrn
    have hE2 := mE_2g hE hrn
    obtain ⟨rk, rk1, rk2⟩ := (hO.row r hrn).1
    refine sw_iload_n 4 2 C dX7_tick_4 rfl rfl ?_
    refine sw_aload_n 5 0 C dX7_tick_5 rfl rfl ?_
    refine sw_get 6 0 0 C dX7_tick_6 rfl rfl (inA lwX7) (C.w wF_X7_7) rfl rfl rfl ?_
    refine sw_iconst 9 C dX7_tick_9 1 (by decide) ?_
    refine sw_ialdN 10 1 0 (1) C dX7_tick_10 rfl (by decide) rfl rfl rfl ?_
    refine sw_top (hE.n) ?_
    refine sw_icmp_ge 11 138 C dX7_tick_11 (by decide) (fun c_11 => ?_) (fun c_11 => ?_)
    · exact by first | exact absurd c_11 (nI_ge hrn (by omega)) | exact absurd (nI_ge hrn (by omega)) c_11
    refine sw_aload_n 14 0 C dX7_tick_14 rfl rfl ?_
    refine sw_iload_n 15 2 C dX7_tick_15 rfl rfl ?_
    refine sw_iconst 16 C dX7_tick_16 4 (by decide) ?_
    refine sw_aload_n 17 0 C dX7_tick_17 rfl rfl ?_
    refine sw_iload_n 18 2 C dX7_tick_18 rfl rfl ?_
    refine sw_iconst 19 C dX7_tick_19 4 (by decide) ?_
    refine sw_callVIP 20 [0, 1, 2, 3, 4, 5] 2 C dX7_tick_20 (ct_X7_ofE l hE r 3 rfl rfl hrn (by decide) hn) wK_X7_of wM_X7_32 wN_X7_of wS_X7_X7_of wI_X7 hd_X7_of rfl rfl rfl ⟨rfl, rfl⟩ ⟨Nat.le_of_ble_eq_true rfl, Nat.le_of_ble_eq_true rfl⟩ rfl rfl rfl rfl ?_
    refine sw_iconst 23 C dX7_tick_23 1 (by decide) ?_
    refine sw_iadd 24 C dX7_tick_24 ?_
    refine sw_callVV 25 [0, 1, 2, 3, 4, 5] 3 C dX7_tick_25 (ct_X7_put l r 4 rfl rfl (by omega) (by decide)) wK_X7_put wM_X7_47 wN_X7_put wS_X7_X7_put wI_X7 hd_X7_put rfl rfl rfl ⟨rfl, rfl⟩ ⟨Nat.le_of_ble_eq_true rfl, Nat.le_of_ble_eq_true rfl⟩ rfl rfl rfl rfl rfl ?_
    refine sw_ws [(_, .inr (7, [.ref _, .ref _, .ref _, .int _, .int _, .ref _, .int _, .int _, .ref _, .long _])), (_, .inl (_, _, .inl _)), (_, .inl (_, _, .inl _)), (_, .inl (_, _, .inl _)), (_, .inl (_, _, .inl _)), (_, .inl (_, _, .inl _))] rfl ?_
    refine sw_aload_n 28 0 C dX7_tick_28 rfl rfl ?_
    refine sw_iload_n 29 2 C dX7_tick_29 rfl rfl ?_
    refine sw_iconst 30 C dX7_tick_30 5 (by decide) ?_
    refine sw_aload_n 31 0 C dX7_tick_31 rfl rfl ?_
    refine sw_iload_n 32 2 C dX7_tick_32 rfl rfl ?_
    refine sw_iconst 33 C dX7_tick_33 5 (by decide) ?_
    refine sw_callVIP 34 [0, 1, 2, 3, 4, 5] 2 C dX7_tick_34 (ct_X7_ofE l hE1 r 4 rfl rfl hrn (by decide) hn) wK_X7_of wM_X7_32 wN_X7_of wS_X7_X7_of wI_X7 hd_X7_of rfl rfl rfl ⟨rfl, rfl⟩ ⟨Nat.le_of_ble_eq_true rfl, Nat.le_of_ble_eq_true rfl⟩ rfl rfl rfl rfl ?_
    refine sw_top (show _ = zf S (r * 8 + 4) by
      show upd _ _ _ _ = _
      repeat (first | rw [upd_ne (by omega)] | rw [upd_at (by omega)])
      try rfl) ?_
    refine sw_iconst 37 C dX7_tick_37 1 (by decide) ?_
    refine sw_iadd 38 C dX7_tick_38 ?_
    refine sw_callVV 39 [0, 1, 2, 3, 4, 5] 3 C dX7_tick_39 (ct_X7_put l r 5 rfl rfl (by omega) (by decide)) wK_X7_put wM_X7_47 wN_X7_put wS_X7_X7_put wI_X7 hd_X7_put rfl rfl rfl ⟨rfl, rfl⟩ ⟨Nat.le_of_ble_eq_true rfl, Nat.le_of_ble_eq_true rfl⟩ rfl rfl rfl rfl rfl ?_
    refine sw_ws [(_, .inr (7, [.ref _, .ref _, .ref _, .int _, .int _, .ref _, .int _, .int _, .ref _, .long _])), (_, .inl (_, _, .inl _)), (_, .inl (_, _, .inl _)), (_, .inl (_, _, .inl _)), (_, .inl (_, _, .inl _)), (_, .inl (_, _, .inl _))] rfl ?_
    refine sw_aload_n 42 0 C dX7_tick_42 rfl rfl ?_
    refine sw_iload_n 43 2 C dX7_tick_43 rfl rfl ?_
    refine sw_iconst 44 C dX7_tick_44 4 (by decide) ?_
    refine sw_callVIP 45 [0, 1, 2, 3, 4, 5] 2 C dX7_tick_45 (ct_X7_ofE l hE2 r 3 rfl rfl hrn (by decide) hn) wK_X7_of wM_X7_32 wN_X7_of wS_X7_X7_of wI_X7 hd_X7_of rfl rfl rfl ⟨rfl, rfl⟩ ⟨Nat.le_of_ble_eq_true rfl, Nat.le_of_ble_eq_true rfl⟩ rfl rfl rfl rfl ?_
    refine sw_top (show _ = zf S (r * 8 + 3) + 1 by
      show upd _ _ _ _ = _
      repeat (first | rw [upd_ne (by omega)] | rw [upd_at (by omega)])
      try rfl) ?_
    refine sw_aload_n 48 0 C dX7_tick_48 rfl rfl ?_
    refine sw_iload_n 49 2 C dX7_tick_49 rfl rfl ?_
    refine sw_bipush 50 C dX7_tick_50 6 (by decide) ?_
    refine sw_callVIP 52 [0, 1, 2, 3, 4, 5] 2 C dX7_tick_52 (ct_X7_ofE l hE2 r 5 rfl rfl hrn (by decide) hn) wK_X7_of wM_X7_32 wN_X7_of wS_X7_X7_of wI_X7 hd_X7_of rfl rfl rfl ⟨rfl, rfl⟩ ⟨Nat.le_of_ble_eq_true rfl, Nat.le_of_ble_eq_true rfl⟩ rfl rfl rfl rfl ?_
    refine sw_top (show _ = zf S (r * 8 + 5) by
      show upd _ _ _ _ = _
      repeat (first | rw [upd_ne (by omega)] | rw [upd_at (by omega)])
      try rfl) ?_
    refine sw_icmp_lt 55 78 C dX7_tick_55 (by decide) (fun c_55 => ?_) (fun c_55 => ?_)
    · refine sw_aload_n 78 0 C dX7_tick_78 rfl rfl ?_
      refine sw_iload_n 79 2 C dX7_tick_79 rfl rfl ?_
      refine sw_iconst 80 C dX7_tick_80 3 (by decide) ?_
      refine sw_callVIP 81 [0, 1, 2, 3, 4, 5] 2 C dX7_tick_81 (ct_X7_ofE l hE2 r 2 rfl rfl hrn (by decide) hn) wK_X7_of wM_X7_32 wN_X7_of wS_X7_X7_of wI_X7 hd_X7_of rfl rfl rfl ⟨rfl, rfl⟩ ⟨Nat.le_of_ble_eq_true rfl, Nat.le_of_ble_eq_true rfl⟩ rfl rfl rfl rfl ?_
      refine sw_top (show _ = zf S (r * 8 + 2) by
        show upd _ _ _ _ = _
        repeat (first | rw [upd_ne (by omega)] | rw [upd_at (by omega)])
        try rfl) ?_
      refine sw_iconst 84 C dX7_tick_84 4 (by decide) ?_
      refine sw_icmp_ge 85 132 C dX7_tick_85 (by decide) (fun c_85 => ?_) (fun c_85 => ?_)
      · refine sw_iinc 132 C 1 dX7_tick_132 (by decide) rfl rfl ?_
        refine sw_goto 135 4 C dX7_tick_135 (by decide) ?_
        have hx := gexp_f c_55
        rw [tgo_n hx] at hz ht
        exact sw_loc (ih (r + 1) z (groS S r) _ (mO_gro hO hrn hx) (by rw [groS_no hx (gup_4 c_85)]; exact hE2) (by show r + 1 + u = zn S; omega) hz ht) (by rw [← nI_1]; rfl)
      · have hk4 : rk < 4 := by
          rw [rk2] at c_85
          exact Nat.lt_of_not_le (fun q => c_85 (nI_le (a := 4) q (by omega)))
        refine sw_aload_n 88 0 C dX7_tick_88 rfl rfl ?_
        refine sw_iload_n 89 2 C dX7_tick_89 rfl rfl ?_
        refine sw_iconst 90 C dX7_tick_90 5 (by decide) ?_
        refine sw_callVIP 91 [0, 1, 2, 3, 4, 5] 2 C dX7_tick_91 (ct_X7_ofE l hE2 r 4 rfl rfl hrn (by decide) hn) wK_X7_of wM_X7_32 wN_X7_of wS_X7_X7_of wI_X7 hd_X7_of rfl rfl rfl ⟨rfl, rfl⟩ ⟨Nat.le_of_ble_eq_true rfl, Nat.le_of_ble_eq_true rfl⟩ rfl rfl rfl rfl ?_
        refine sw_top (show _ = zf S (r * 8 + 4) + 1 by
          show upd _ _ _ _ = _
          repeat (first | rw [upd_ne (by omega)] | rw [upd_at (by omega)])
          try rfl) ?_
        refine sw_aload_n 94 0 C dX7_tick_94 rfl rfl ?_
        refine sw_get 95 0 0 C dX7_tick_95 rfl rfl (inA lwX7) (C.w wF_X7_7) rfl rfl rfl ?_
        refine sw_bipush 98 C dX7_tick_98 12 (by decide) ?_
        refine sw_aload_n 100 0 C dX7_tick_100 rfl rfl ?_
        refine sw_iload_n 101 2 C dX7_tick_101 rfl rfl ?_
        refine sw_iconst 102 C dX7_tick_102 3 (by decide) ?_
        refine sw_callVIP 103 [0, 1, 2, 3, 4, 5] 2 C dX7_tick_103 (ct_X7_ofE l hE2 r 2 rfl rfl hrn (by decide) hn) wK_X7_of wM_X7_32 wN_X7_of wS_X7_X7_of wI_X7 hd_X7_of rfl rfl rfl ⟨rfl, rfl⟩ ⟨Nat.le_of_ble_eq_true rfl, Nat.le_of_ble_eq_true rfl⟩ rfl rfl rfl rfl ?_
        refine sw_top (show _ = zf S (r * 8 + 2) by
          show upd _ _ _ _ = _
          repeat (first | rw [upd_ne (by omega)] | rw [upd_at (by omega)])
          try rfl) ?_
        refine sw_iadd 106 C dX7_tick_106 ?_
        refine sw_ialdN 107 1 0 (12 + rk) C dX7_tick_107 (by rw [show (12 : Int32) = nI 12 from rfl, ← nI_add, rk2]) (by omega) rfl rfl rfl ?_
        refine sw_top (show _ = zpat S rk by
          repeat (first | rw [upd_ne (by omega)] | rw [upd_at (by omega)])
          exact hE.pat rk hk4) ?_
        refine sw_icmp_lt 108 132 C dX7_tick_108 (by decide) (fun c_108 => ?_) (fun c_108 => ?_)
        · refine sw_iinc 132 C 1 dX7_tick_132 (by decide) rfl rfl ?_
          refine sw_goto 135 4 C dX7_tick_135 (by decide) ?_
          have hx := gexp_f c_55
          rw [tgo_n hx] at hz ht
          exact sw_loc (ih (r + 1) z (groS S r) _ (mO_gro hO hrn hx) (by rw [groS_no hx ((gup_e rk2 hk4).trans (decide_eq_false (Int32.not_le.mpr c_108)))]; exact hE2) (by show r + 1 + u = zn S; omega) hz ht) (by rw [← nI_1]; rfl)
        · refine sw_aload_n 111 0 C dX7_tick_111 rfl rfl ?_
          refine sw_iload_n 112 2 C dX7_tick_112 rfl rfl ?_
          refine sw_iconst 113 C dX7_tick_113 3 (by decide) ?_
          refine sw_aload_n 114 0 C dX7_tick_114 rfl rfl ?_
          refine sw_iload_n 115 2 C dX7_tick_115 rfl rfl ?_
          refine sw_iconst 116 C dX7_tick_116 3 (by decide) ?_
          refine sw_callVIP 117 [0, 1, 2, 3, 4, 5] 2 C dX7_tick_117 (ct_X7_ofE l hE2 r 2 rfl rfl hrn (by decide) hn) wK_X7_of wM_X7_32 wN_X7_of wS_X7_X7_of wI_X7 hd_X7_of rfl rfl rfl ⟨rfl, rfl⟩ ⟨Nat.le_of_ble_eq_true rfl, Nat.le_of_ble_eq_true rfl⟩ rfl rfl rfl rfl ?_
          refine sw_top (show _ = zf S (r * 8 + 2) by
            show upd _ _ _ _ = _
            repeat (first | rw [upd_ne (by omega)] | rw [upd_at (by omega)])
            try rfl) ?_
          refine sw_iconst 120 C dX7_tick_120 1 (by decide) ?_
          refine sw_iadd 121 C dX7_tick_121 ?_
          refine sw_callVV 122 [0, 1, 2, 3, 4, 5] 3 C dX7_tick_122 (ct_X7_put l r 3 rfl rfl (by omega) (by decide)) wK_X7_put wM_X7_47 wN_X7_put wS_X7_X7_put wI_X7 hd_X7_put rfl rfl rfl ⟨rfl, rfl⟩ ⟨Nat.le_of_ble_eq_true rfl, Nat.le_of_ble_eq_true rfl⟩ rfl rfl rfl rfl rfl ?_
          refine sw_ws [(_, .inr (7, [.ref _, .ref _, .ref _, .int _, .int _, .ref _, .int _, .int _, .ref _, .long _])), (_, .inl (_, _, .inl _)), (_, .inl (_, _, .inl _)), (_, .inl (_, _, .inl _)), (_, .inl (_, _, .inl _)), (_, .inl (_, _, .inl _))] rfl ?_
          refine sw_aload_n 125 0 C dX7_tick_125 rfl rfl ?_
          refine sw_iload_n 126 2 C dX7_tick_126 rfl rfl ?_
          refine sw_iconst 127 C dX7_tick_127 5 (by decide) ?_
          refine sw_iconst 128 C dX7_tick_128 0 (by decide) ?_
          refine sw_callVV 129 [0, 1, 2, 3, 4, 5] 3 C dX7_tick_129 (ct_X7_put l r 5 rfl rfl (by omega) (by decide)) wK_X7_put wM_X7_47 wN_X7_put wS_X7_X7_put wI_X7 hd_X7_put rfl rfl rfl ⟨rfl, rfl⟩ ⟨Nat.le_of_ble_eq_true rfl, Nat.le_of_ble_eq_true rfl⟩ rfl rfl rfl rfl rfl ?_
          refine sw_ws [(_, .inr (7, [.ref _, .ref _, .ref _, .int _, .int _, .ref _, .int _, .int _, .ref _, .long _])), (_, .inl (_, _, .inl _)), (_, .inl (_, _, .inl _)), (_, .inl (_, _, .inl _)), (_, .inl (_, _, .inl _)), (_, .inl (_, _, .inl _))] rfl ?_
          refine sw_iinc 132 C 1 dX7_tick_132 (by decide) rfl rfl ?_
          refine sw_goto 135 4 C dX7_tick_135 (by decide) ?_
          have hx := gexp_f c_55
          rw [tgo_n hx] at hz ht
          exact sw_loc (ih (r + 1) z (groS S r) _ (mO_gro hO hrn hx) (by rw [groS_up hx ((gup_e rk2 hk4).trans (decide_eq_true (Int32.not_lt.mp c_108)))]; exact mE_4g hE hrn) (by show r + 1 + u = zn S; omega) hz ht) (by rw [← nI_1]; rfl)
    · refine sw_iload_n 58 1 C dX7_tick_58 rfl rfl ?_
      refine sw_aload_n 59 0 C dX7_tick_59 rfl rfl ?_
      refine sw_iload_n 60 2 C dX7_tick_60 rfl rfl ?_
      refine sw_iconst 61 C dX7_tick_61 1 (by decide) ?_
      refine sw_callVE 62 [0, 1, 2, 3, 4, 5] 2 C dX7_tick_62 (ct_X7_leaves l hE2 (SI_2g hO.si) r 1 rfl rfl hrn (by decide)) wK_X7_leaves wM_X7_60 wN_X7_leaves wS_X7_X7_leaves wI_X7 hd_X7_leaves rfl rfl rfl ⟨rfl, rfl⟩ ⟨Nat.le_of_ble_eq_true rfl, Nat.le_of_ble_eq_true rfl⟩ rfl rfl rfl (fun _ => rfl) rfl (fun f1 h1 => ?_)
      refine sw_ws [(_, .inr (7, [.ref _, .ref _, .ref _, .int _, .int _, .ref _, .int _, .int _, .ref _, .long _])), (_, .inl (_, _, .inl _)), (_, .inl (_, _, .inl _)), (_, .inl (_, _, .inl _)), (_, .inl (_, _, .inl _)), (_, .inl (_, _, .inl _))] rfl ?_
      have gx0 := gbk_2g (hO.row r hrn) (gr := zg (S2g S r))
      refine sw_if_ge 65 72 C dX7_tick_65 (by decide) (fun c_65 => ?_) (fun c_65 => ?_)
      rotate_left
      · exact by first | exact absurd c_65 (gx0) | exact absurd (gx0) c_65
      refine sw_iconst 72 C dX7_tick_72 1 (by decide) ?_
      refine sw_iadd 73 C dX7_tick_73 ?_
      refine sw_istore_n 74 1 C dX7_tick_74 rfl rfl ?_
      refine sw_goto 75 4 C dX7_tick_75 (by decide) ?_
      have hx := gexp_t c_55
      rw [tgo_x hx] at hz ht
      exact sw_loc (ih r (z + 1) (leaveS (groS S r) r 1) f1 (mO_exp hO hrn) (mE_exp hx h1) (by show r + u = zn S - 1; omega) (by rw [← hz]; dsimp only; omega) ht) (by rw [← nI_1]; rfl)
set_option maxHeartbeats 4000000 in
set_option maxRecDepth 100000 in
theorem ct_X7_tick (l : Launch) {D : va_G} {cI cJ cQ : ClassId} {b0 b1 b2 b3 b4 b5 : Nat} {sa pa ad tx nb : Nat → Int32} {kp th ty ap : Int32} {hh : Int64} {S : StT} {B T : Nat} (hE : mE S sa) (hO : mO B T S) : Ct l yX7_tick (Cond.code yX7_tick cX7_tick 3 (some .int)) 3 69 0 0 D (tyz cI cJ cQ) [.ref b0] [(b0, .inr (7, [.ref b1, .ref b2, .ref b3, .int (kp), .int (th), .ref b4, .int (ty), .int (ap), .ref b5, .long (hh)])), (b1, .inl (cI, 424, .inl (sa))), (b2, .inl (cI, 1696, .inl (pa))), (b3, .inl (cI, 424, .inl (ad))), (b4, .inl (cI, 100, .inl (tx))), (b5, .inl (cI, 4, .inl (nb)))] (pstE (nI (tick1 S).1) (mE (tick1 S).2) (fun f => [(b0, .inr (7, [.ref b1, .ref b2, .ref b3, .int (kp), .int (th), .ref b4, .int (ty), .int (ap), .ref b5, .long (hh)])), (b1, .inl (cI, 424, .inl (f))), (b2, .inl (cI, 1696, .inl (pa))), (b3, .inl (cI, 424, .inl (ad))), (b4, .inl (cI, 100, .inl (tx))), (b5, .inl (cI, 4, .inl (nb)))])) := by
  refine Ct.of RX7 (by decide) rfl (Nat.le_of_ble_eq_true rfl) ?_
  intro p e s m below meth c A C RC
  refine sw_iconst 0 C dX7_tick_0 0 (by decide) ?_
  refine sw_istore_n 1 1 C dX7_tick_1 rfl rfl ?_
  refine sw_iconst 2 C dX7_tick_2 0 (by decide) ?_
  refine sw_istore_n 3 2 C dX7_tick_3 rfl rfl ?_
  have e := tick1_eq S
  have e2 := tgo_zt (zn S) 0 S
  rw [e, ← e2]
  exact lp_X7_tick C RC (tgo (zn S) 0 S).1 (tgo (zn S) 0 S).2 (zn S) 0 0 S sa hO hE (Nat.zero_add _) (Nat.zero_add _) rfl
set_option maxHeartbeats 4000000 in
set_option maxRecDepth 100000 in
theorem lp_X7_ticks {l : Launch} {p : Program} {e : Env} {s : State} {m : MethodId} {args : Array Value} {below : List Frame} {meth : Method} {c : Code} {A : Nat → Prop} {D : va_G} {cI cJ cQ : ClassId} {b0 b1 b2 b3 b4 b5 : Nat} {pa ad tx nb : Nat → Int32} {kp th ty ap : Int32} {hh : Int64} {S : StT} {B T k : Nat} (hk : k ≤ 200) (hO : mO B T S) (C : CC p s m args c cX7_ticks 4 RX7 (Cond.code yX7_ticks cX7_ticks 4 (some .int) :: lw_all) D (tyz cI cJ cQ) A s.heap) (RC : meth.sig.returnType = (some .int) ∧ meth.locks = false ∧ meth.name = yX7_ticks.name) : ∀ (fu i : Nat), i ≤ k → k + 1 ≤ i + fu → ∀ (sa : Nat → Int32), mE (tps i S).2 sa → ∀ (xa : Int32) (xi : Int32), (xa = nI (tps i S).1) → (xi = nI i) →  sw p l e ({ frames := 4, cells := 0, slots := 0, locals := 91 } : Room) s m args below meth c D A s.heap 4 0 0 (MQ below (ctQ D (tyz cI cJ cQ) A (pstE (nI (tps k S).1) (mE (tps k S).2) (fun f => [(b0, .inr (7, [.ref b1, .ref b2, .ref b3, .int (kp), .int (th), .ref b4, .int (ty), .int (ap), .ref b5, .long (hh)])), (b1, .inl (cI, 424, .inl (f))), (b2, .inl (cI, 1696, .inl (pa))), (b3, .inl (cI, 424, .inl (ad))), (b4, .inl (cI, 100, .inl (tx))), (b5, .inl (cI, 4, .inl (nb)))]))) args s 0 0 A) [(b0, .inr (7, [.ref b1, .ref b2, .ref b3, .int (kp), .int (th), .ref b4, .int (ty), .int (ap), .ref b5, .long (hh)])), (b1, .inl (cI, 424, .inl (sa))), (b2, .inl (cI, 1696, .inl (pa))), (b3, .inl (cI, 424, .inl (ad))), (b4, .inl (cI, 100, .inl (tx))), (b5, .inl (cI, 4, .inl (nb)))] 4 [(0, .ref b0), (1, .int (nI k)), (2, .int xa), (3, .int xi)] [] := by
  intro fu
  induction fu with
  | zero => intro i h1 h2; exact absurd h2 (by omega)
  | succ fu ih =>
    intro i hi hf sa hE xa xi exa exi
    subst exa exi
    refine sw_iload_n 4 3 C dX7_ticks_4 rfl rfl ?_
    refine sw_iload_n 5 1 C dX7_ticks_5 rfl rfl ?_
    refine sw_icmp_ge 6 22 C dX7_ticks_6 (by decide) (fun c_6 => ?_) (fun c_6 => ?_)
    · refine sw_iload_n 22 2 C dX7_ticks_22 rfl rfl ?_
      refine sw_iret 23 C RC dX7_ticks_23 ?_
      obtain rfl : i = k := by
        have := nI_ge' (by omega) c_6 (by omega)
        omega
      exact ⟨rfl, sa, hE, rfl⟩
    · have hlt : i < k := by
        rcases Nat.lt_or_ge i k with q | q
        · exact q
        · exact absurd (nI_le q (by omega)) c_6
      refine sw_iload_n 9 2 C dX7_ticks_9 rfl rfl ?_
      refine sw_aload_n 10 0 C dX7_ticks_10 rfl rfl ?_
      refine sw_callVE 11 [0, 1, 2, 3, 4, 5] 0 C dX7_ticks_11 (ct_X7_tick l hE (mO_tps hO i)) wK_X7_tick wM_X7_63 wN_X7_tick wS_X7_X7_tick wI_X7 hd_X7_tick rfl rfl rfl ⟨rfl, rfl⟩ ⟨Nat.le_of_ble_eq_true rfl, Nat.le_of_ble_eq_true rfl⟩ rfl rfl rfl (fun _ => rfl) rfl (fun f1 h1 => ?_)
      refine sw_ws [(_, .inr (7, [.ref _, .ref _, .ref _, .int _, .int _, .ref _, .int _, .int _, .ref _, .long _])), (_, .inl (_, _, .inl _)), (_, .inl (_, _, .inl _)), (_, .inl (_, _, .inl _)), (_, .inl (_, _, .inl _)), (_, .inl (_, _, .inl _))] rfl ?_
      refine sw_iadd 14 C dX7_ticks_14 ?_
      refine sw_istore_n 15 2 C dX7_ticks_15 rfl rfl ?_
      refine sw_iinc 16 C 1 dX7_ticks_16 (by decide) rfl rfl ?_
      refine sw_loc (L1 := [(0, .ref _), (1, .int _), (2, .int _), (3, .int _)]) ?_ rfl
      refine sw_goto 19 4 C dX7_ticks_19 (by decide) ?_
      exact sw_loc (ih (i + 1) (by omega) (by omega) f1 h1 _ _ (nI_add _ _) (nI_1 i)) rfl
set_option maxHeartbeats 4000000 in
set_option maxRecDepth 100000 in
theorem ct_X7_ticks (l : Launch) {D : va_G} {cI cJ cQ : ClassId} {b0 b1 b2 b3 b4 b5 : Nat} {sa pa ad tx nb : Nat → Int32} {kp th ty ap : Int32} {hh : Int64} {S : StT} {B T : Nat} (hE : mE S sa) (hO : mO B T S) {x1 : Int32} (k : Nat) (h1 : x1 = nI k) (hk : k ≤ 200) : Ct l yX7_ticks (Cond.code yX7_ticks cX7_ticks 4 (some .int)) 4 91 0 0 D (tyz cI cJ cQ) [.ref b0, .int x1] [(b0, .inr (7, [.ref b1, .ref b2, .ref b3, .int (kp), .int (th), .ref b4, .int (ty), .int (ap), .ref b5, .long (hh)])), (b1, .inl (cI, 424, .inl (sa))), (b2, .inl (cI, 1696, .inl (pa))), (b3, .inl (cI, 424, .inl (ad))), (b4, .inl (cI, 100, .inl (tx))), (b5, .inl (cI, 4, .inl (nb)))] (pstE (nI (tps k S).1) (mE (tps k S).2) (fun f => [(b0, .inr (7, [.ref b1, .ref b2, .ref b3, .int (kp), .int (th), .ref b4, .int (ty), .int (ap), .ref b5, .long (hh)])), (b1, .inl (cI, 424, .inl (f))), (b2, .inl (cI, 1696, .inl (pa))), (b3, .inl (cI, 424, .inl (ad))), (b4, .inl (cI, 100, .inl (tx))), (b5, .inl (cI, 4, .inl (nb)))])) := by
  refine Ct.of RX7 (by decide) rfl (Nat.le_of_ble_eq_true rfl) ?_
  intro p e s m below meth c A C RC
  subst h1
  refine sw_iconst 0 C dX7_ticks_0 0 (by decide) ?_
  refine sw_istore_n 1 2 C dX7_ticks_1 rfl rfl ?_
  refine sw_iconst 2 C dX7_ticks_2 0 (by decide) ?_
  refine sw_istore_n 3 3 C dX7_ticks_3 rfl rfl ?_
  exact lp_X7_ticks hk hO C RC (k + 1) 0 (Nat.zero_le _) (by omega) sa hE _ _ rfl rfl
