/-! an order that was read is carried out -/
def cdo (X : RS) (S : StT) : Bool × StT :=
  if xg X = 98 ∨ xg X = 112 then (if hrf (zf S) (zn S) (zq S) (xs_ X) (-1) = true then (true, pinS S (xs_ X) (-1) (xr X) (xb X) (xi_ X)) else (false, S))
  else if xg X = 115 then (!decide ((srv S).1 = -1), (srv S).2)
  else if xg X = 116 then (if xt X ≤ 100000 - zt S then (true, (tps (xt X).toNatClampNeg S).2) else (false, S)) else (false, S)
theorem cdo_p {X : RS} {S : StT} (h : xg X = 98 ∨ xg X = 112) (h2 : hrf (zf S) (zn S) (zq S) (xs_ X) (-1) = true) : cdo X S = (true, pinS S (xs_ X) (-1) (xr X) (xb X) (xi_ X)) := (if_pos h).trans (if_pos h2)
theorem cdo_pn {X : RS} {S : StT} (h : xg X = 98 ∨ xg X = 112) (h2 : hrf (zf S) (zn S) (zq S) (xs_ X) (-1) = false) : cdo X S = (false, S) := (if_pos h).trans (if_neg (by rw [h2]; decide))
theorem cdo_s {X : RS} {S : StT} (h : xg X = 115) : cdo X S = (!decide ((srv S).1 = -1), (srv S).2) := (if_neg (by rw [h]; decide)).trans (if_pos h)
theorem cdo_t {X : RS} {S : StT} (h : xg X = 116) (h2 : xt X ≤ 100000 - zt S) : cdo X S = (true, (tps (xt X).toNatClampNeg S).2) := (if_neg (by rw [h]; decide)).trans ((if_neg (by rw [h]; decide)).trans ((if_pos h).trans (if_pos h2)))
theorem cdo_tn {X : RS} {S : StT} (h : xg X = 116) (h2 : ¬ xt X ≤ 100000 - zt S) : cdo X S = (false, S) := (if_neg (by rw [h]; decide)).trans ((if_neg (by rw [h]; decide)).trans ((if_pos h).trans (if_neg h2)))
theorem cdo_n {X : RS} {S : StT} (h1 : ¬ xg X = 98) (h2 : ¬ xg X = 112) (h3 : ¬ xg X = 115) (h4 : ¬ xg X = 116) : cdo X S = (false, S) := (if_neg (fun h => h.elim h1 h2)).trans ((if_neg h3).trans (if_neg h4))
set_option maxHeartbeats 4000000 in
set_option maxRecDepth 100000 in
theorem ct_X6_carryOutOrder (l : Launch) {D : va_G} {cI cJ cQ : ClassId} {x0a a0 a1 a2 a3 a4 a5 a6 a7 tr0 s0 r0 t0 t1 w0 ln : Nat} {by_ : Nat → Int32} {X : RS} {S : StT} (hS : SI S) (ht : xg X = 116 → xt X = nI (xt X).toNatClampNeg ∧ (xt X).toNatClampNeg ≤ 200) : Ct l yX6_carryOutOrder (Cond.code yX6_carryOutOrder cX6_carryOutOrder 1 (some .boolean)) 5 117 0 0 D (tyz cI cJ cQ) [.ref x0a] (flatS [[(x0a, .inr (6, [.ref a0, .ref tr0, .ref s0, .ref r0, .ref w0]))], (wSt a0 a1 a2 a3 a4 a5 a6 a7 cI (S)), (wRd r0 t0 t1 cI ln by_ X)]) (pstI (bI (cdo X S).1) (flatS [[(x0a, .inr (6, [.ref a0, .ref tr0, .ref s0, .ref r0, .ref w0]))], (wSt a0 a1 a2 a3 a4 a5 a6 a7 cI ((cdo X S).2)), (wRd r0 t0 t1 cI ln by_ X)])) := by
  refine Ct.of RX6 (by decide) rfl (Nat.le_of_ble_eq_true rfl) ?_
  intro p e s m below meth c A C RC
  refine sw_aload_n 0 0 C dX6_carryOutOrder_0 rfl rfl ?_
  refine sg_get 1 0 0 3 C dX6_carryOutOrder_1 rfl rfl rfl (inA lwX6) (C.w wF_X6_29) rfl rfl rfl ?_
  refine sg_get 4 2 0 1 C dX6_carryOutOrder_4 rfl rfl rfl (inA lwX1) (C.w wF_X6_226) rfl rfl rfl ?_
  by_cases e_7_98 : (xg X) = 98
  · refine sw_lkp 7 48 (off := 41) C dX6_carryOutOrder_7 (by decide) (by rw [e_7_98]; decide) (by decide) ?_
    refine sw_aload_n 48 0 C dX6_carryOutOrder_48 rfl rfl ?_
    refine sg_get 49 0 0 0 C dX6_carryOutOrder_49 rfl rfl rfl (inA lwX6) (C.w wF_X6_10) rfl rfl rfl ?_
    refine sw_aload_n 52 0 C dX6_carryOutOrder_52 rfl rfl ?_
    refine sg_get 53 0 0 3 C dX6_carryOutOrder_53 rfl rfl rfl (inA lwX6) (C.w wF_X6_29) rfl rfl rfl ?_
    refine sg_get 56 2 0 2 C dX6_carryOutOrder_56 rfl rfl rfl (inA lwX1) (C.w wF_X6_229) rfl rfl rfl ?_
    refine sw_iconst 59 C dX6_carryOutOrder_59 (-1) (by decide) ?_
    refine sg_callVIP 60 [1] 2 0 C dX6_carryOutOrder_60 (ct_X4_hasRoomFor l hS.1) wK_X4_hasRoomFor wM_X6_218 wN_X4_hasRoomFor wS_X4_X4_hasRoomFor wI_X4 hd_X4_hasRoomFor rfl rfl rfl ⟨rfl, rfl⟩ ⟨Nat.le_of_ble_eq_true rfl, Nat.le_of_ble_eq_true rfl⟩ rfl rfl rfl rfl ?_
    refine sw_if_ne 63 68 C dX6_carryOutOrder_63 (by decide) (fun c_63 => ?_) (fun c_63 => ?_)
    · refine sw_aload_n 68 0 C dX6_carryOutOrder_68 rfl rfl ?_
      refine sg_get 69 0 0 0 C dX6_carryOutOrder_69 rfl rfl rfl (inA lwX6) (C.w wF_X6_10) rfl rfl rfl ?_
      refine sw_aload_n 72 0 C dX6_carryOutOrder_72 rfl rfl ?_
      refine sg_get 73 0 0 3 C dX6_carryOutOrder_73 rfl rfl rfl (inA lwX6) (C.w wF_X6_29) rfl rfl rfl ?_
      refine sg_get 76 2 0 2 C dX6_carryOutOrder_76 rfl rfl rfl (inA lwX1) (C.w wF_X6_229) rfl rfl rfl ?_
      refine sw_iconst 79 C dX6_carryOutOrder_79 (-1) (by decide) ?_
      refine sw_aload_n 80 0 C dX6_carryOutOrder_80 rfl rfl ?_
      refine sg_get 81 0 0 3 C dX6_carryOutOrder_81 rfl rfl rfl (inA lwX6) (C.w wF_X6_29) rfl rfl rfl ?_
      refine sg_get 84 2 0 3 C dX6_carryOutOrder_84 rfl rfl rfl (inA lwX1) (C.w wF_X6_232) rfl rfl rfl ?_
      refine sw_aload_n 87 0 C dX6_carryOutOrder_87 rfl rfl ?_
      refine sg_get 88 0 0 3 C dX6_carryOutOrder_88 rfl rfl rfl (inA lwX6) (C.w wF_X6_29) rfl rfl rfl ?_
      refine sg_get 91 2 0 4 C dX6_carryOutOrder_91 rfl rfl rfl (inA lwX1) (C.w wF_X6_235) rfl rfl rfl ?_
      refine sw_aload_n 94 0 C dX6_carryOutOrder_94 rfl rfl ?_
      refine sg_get 95 0 0 3 C dX6_carryOutOrder_95 rfl rfl rfl (inA lwX6) (C.w wF_X6_29) rfl rfl rfl ?_
      refine sg_get 98 2 0 5 C dX6_carryOutOrder_98 rfl rfl rfl (inA lwX1) (C.w wF_X6_238) rfl rfl rfl ?_
      refine sg_callVI 101 [1] 5 0 [_] C dX6_carryOutOrder_101 (ct_X4_putIn l (hrf_lt (bI_t c_63))) wK_X4_putIn wM_X6_69 wN_X4_putIn wS_X4_X4_putIn wI_X4 hd_X4_putIn rfl rfl rfl ⟨rfl, rfl⟩ ⟨Nat.le_of_ble_eq_true rfl, Nat.le_of_ble_eq_true rfl⟩ rfl rfl rfl rfl rfl rfl ?_
      refine sg_segs [_, _, _] rfl ?_
      refine sw_pop 104 C dX6_carryOutOrder_104 rfl ?_
      refine sw_iconst 105 C dX6_carryOutOrder_105 1 (by decide) ?_
      refine sw_zret 106 C RC rfl dX6_carryOutOrder_106 ?_
      have hc := cdo_p (S := S) (Or.inl e_7_98) (bI_t c_63)
      exact ⟨by rw [hc]; rfl, by rw [hc]; try rfl⟩
    · refine sw_iconst 66 C dX6_carryOutOrder_66 0 (by decide) ?_
      refine sw_zret 67 C RC rfl dX6_carryOutOrder_67 ?_
      have hc := cdo_pn (S := S) (Or.inl e_7_98) (bI_f c_63)
      exact ⟨by rw [hc]; rfl, by rw [hc]; try rfl⟩
  by_cases e_7_112 : (xg X) = 112
  · refine sw_lkp 7 48 (off := 41) C dX6_carryOutOrder_7 (by decide) (by rw [e_7_112]; decide) (by decide) ?_
    refine sw_aload_n 48 0 C dX6_carryOutOrder_48 rfl rfl ?_
    refine sg_get 49 0 0 0 C dX6_carryOutOrder_49 rfl rfl rfl (inA lwX6) (C.w wF_X6_10) rfl rfl rfl ?_
    refine sw_aload_n 52 0 C dX6_carryOutOrder_52 rfl rfl ?_
    refine sg_get 53 0 0 3 C dX6_carryOutOrder_53 rfl rfl rfl (inA lwX6) (C.w wF_X6_29) rfl rfl rfl ?_
    refine sg_get 56 2 0 2 C dX6_carryOutOrder_56 rfl rfl rfl (inA lwX1) (C.w wF_X6_229) rfl rfl rfl ?_
    refine sw_iconst 59 C dX6_carryOutOrder_59 (-1) (by decide) ?_
    refine sg_callVIP 60 [1] 2 0 C dX6_carryOutOrder_60 (ct_X4_hasRoomFor l hS.1) wK_X4_hasRoomFor wM_X6_218 wN_X4_hasRoomFor wS_X4_X4_hasRoomFor wI_X4 hd_X4_hasRoomFor rfl rfl rfl ⟨rfl, rfl⟩ ⟨Nat.le_of_ble_eq_true rfl, Nat.le_of_ble_eq_true rfl⟩ rfl rfl rfl rfl ?_
    refine sw_if_ne 63 68 C dX6_carryOutOrder_63 (by decide) (fun c_63 => ?_) (fun c_63 => ?_)
    · refine sw_aload_n 68 0 C dX6_carryOutOrder_68 rfl rfl ?_
      refine sg_get 69 0 0 0 C dX6_carryOutOrder_69 rfl rfl rfl (inA lwX6) (C.w wF_X6_10) rfl rfl rfl ?_
      refine sw_aload_n 72 0 C dX6_carryOutOrder_72 rfl rfl ?_
      refine sg_get 73 0 0 3 C dX6_carryOutOrder_73 rfl rfl rfl (inA lwX6) (C.w wF_X6_29) rfl rfl rfl ?_
      refine sg_get 76 2 0 2 C dX6_carryOutOrder_76 rfl rfl rfl (inA lwX1) (C.w wF_X6_229) rfl rfl rfl ?_
      refine sw_iconst 79 C dX6_carryOutOrder_79 (-1) (by decide) ?_
      refine sw_aload_n 80 0 C dX6_carryOutOrder_80 rfl rfl ?_
      refine sg_get 81 0 0 3 C dX6_carryOutOrder_81 rfl rfl rfl (inA lwX6) (C.w wF_X6_29) rfl rfl rfl ?_
      refine sg_get 84 2 0 3 C dX6_carryOutOrder_84 rfl rfl rfl (inA lwX1) (C.w wF_X6_232) rfl rfl rfl ?_
      refine sw_aload_n 87 0 C dX6_carryOutOrder_87 rfl rfl ?_
      refine sg_get 88 0 0 3 C dX6_carryOutOrder_88 rfl rfl rfl (inA lwX6) (C.w wF_X6_29) rfl rfl rfl ?_
      refine sg_get 91 2 0 4 C dX6_carryOutOrder_91 rfl rfl rfl (inA lwX1) (C.w wF_X6_235) rfl rfl rfl ?_
      refine sw_aload_n 94 0 C dX6_carryOutOrder_94 rfl rfl ?_
      refine sg_get 95 0 0 3 C dX6_carryOutOrder_95 rfl rfl rfl (inA lwX6) (C.w wF_X6_29) rfl rfl rfl ?_
      refine sg_get 98 2 0 5 C dX6_carryOutOrder_98 rfl rfl rfl (inA lwX1) (C.w wF_X6_238) rfl rfl rfl ?_
      refine sg_callVI 101 [1] 5 0 [_] C dX6_carryOutOrder_101 (ct_X4_putIn l (hrf_lt (bI_t c_63))) wK_X4_putIn wM_X6_69 wN_X4_putIn wS_X4_X4_putIn wI_X4 hd_X4_putIn rfl rfl rfl ⟨rfl, rfl⟩ ⟨Nat.le_of_ble_eq_true rfl, Nat.le_of_ble_eq_true rfl⟩ rfl rfl rfl rfl rfl rfl ?_
      refine sg_segs [_, _, _] rfl ?_
      refine sw_pop 104 C dX6_carryOutOrder_104 rfl ?_
      refine sw_iconst 105 C dX6_carryOutOrder_105 1 (by decide) ?_
      refine sw_zret 106 C RC rfl dX6_carryOutOrder_106 ?_
      have hc := cdo_p (S := S) (Or.inr e_7_112) (bI_t c_63)
      exact ⟨by rw [hc]; rfl, by rw [hc]; try rfl⟩
    · refine sw_iconst 66 C dX6_carryOutOrder_66 0 (by decide) ?_
      refine sw_zret 67 C RC rfl dX6_carryOutOrder_67 ?_
      have hc := cdo_pn (S := S) (Or.inr e_7_112) (bI_f c_63)
      exact ⟨by rw [hc]; rfl, by rw [hc]; try rfl⟩
  by_cases e_7_115 : (xg X) = 115
  · refine sw_lkp 7 107 (off := 100) C dX6_carryOutOrder_7 (by decide) (by rw [e_7_115]; decide) (by decide) ?_
    refine sw_aload_n 107 0 C dX6_carryOutOrder_107 rfl rfl ?_
    refine sg_get 108 0 0 0 C dX6_carryOutOrder_108 rfl rfl rfl (inA lwX6) (C.w wF_X6_10) rfl rfl rfl ?_
    refine sg_callVI 111 [1] 0 0 [_] C dX6_carryOutOrder_111 (ct_X4_serveFirst l hS) wK_X4_serveFirst wM_X6_100 wN_X4_serveFirst wS_X4_X4_serveFirst wI_X4 hd_X4_serveFirst rfl rfl rfl ⟨rfl, rfl⟩ ⟨Nat.le_of_ble_eq_true rfl, Nat.le_of_ble_eq_true rfl⟩ rfl rfl rfl rfl rfl rfl ?_
    refine sg_segs [_, _, _] rfl ?_
    refine sw_iconst 114 C dX6_carryOutOrder_114 (-1) (by decide) ?_
    refine sw_icmp_eq 115 122 C dX6_carryOutOrder_115 (by decide) (fun c_115 => ?_) (fun c_115 => ?_)
    · refine sw_iconst 122 C dX6_carryOutOrder_122 0 (by decide) ?_
      refine sw_zret 123 C RC rfl dX6_carryOutOrder_123 ?_
      have hc := cdo_s (S := S) e_7_115
      exact ⟨by rw [hc, decide_eq_true c_115]; rfl, by rw [hc]⟩
    · refine sw_iconst 118 C dX6_carryOutOrder_118 1 (by decide) ?_
      refine sw_goto 119 123 C dX6_carryOutOrder_119 (by decide) ?_
      refine sw_zret 123 C RC rfl dX6_carryOutOrder_123 ?_
      have hc := cdo_s (S := S) e_7_115
      exact ⟨by rw [hc, decide_eq_false c_115]; rfl, by rw [hc]⟩
  by_cases e_7_116 : (xg X) = 116
  · refine sw_lkp 7 124 (off := 117) C dX6_carryOutOrder_7 (by decide) (by rw [e_7_116]; decide) (by decide) ?_
    refine sw_aload_n 124 0 C dX6_carryOutOrder_124 rfl rfl ?_
    refine sg_get 125 0 0 0 C dX6_carryOutOrder_125 rfl rfl rfl (inA lwX6) (C.w wF_X6_10) rfl rfl rfl ?_
    refine sw_aload_n 128 0 C dX6_carryOutOrder_128 rfl rfl ?_
    refine sg_get 129 0 0 3 C dX6_carryOutOrder_129 rfl rfl rfl (inA lwX6) (C.w wF_X6_29) rfl rfl rfl ?_
    refine sg_get 132 2 0 6 C dX6_carryOutOrder_132 rfl rfl rfl (inA lwX1) (C.w wF_X6_241) rfl rfl rfl ?_
    refine sg_callVIP 135 [1] 1 0 C dX6_carryOutOrder_135 (ct_X4_hasTimeFor l) wK_X4_hasTimeFor wM_X6_104 wN_X4_hasTimeFor wS_X4_X4_hasTimeFor wI_X4 hd_X4_hasTimeFor rfl rfl rfl ⟨rfl, rfl⟩ ⟨Nat.le_of_ble_eq_true rfl, Nat.le_of_ble_eq_true rfl⟩ rfl rfl rfl rfl ?_
    refine sw_if_ne 138 143 C dX6_carryOutOrder_138 (by decide) (fun c_138 => ?_) (fun c_138 => ?_)
    · refine sw_aload_n 143 0 C dX6_carryOutOrder_143 rfl rfl ?_
      refine sg_get 144 0 0 0 C dX6_carryOutOrder_144 rfl rfl rfl (inA lwX6) (C.w wF_X6_10) rfl rfl rfl ?_
      refine sw_aload_n 147 0 C dX6_carryOutOrder_147 rfl rfl ?_
      refine sg_get 148 0 0 3 C dX6_carryOutOrder_148 rfl rfl rfl (inA lwX6) (C.w wF_X6_29) rfl rfl rfl ?_
      refine sg_get 151 2 0 6 C dX6_carryOutOrder_151 rfl rfl rfl (inA lwX1) (C.w wF_X6_241) rfl rfl rfl ?_
      refine sg_callVI 154 [1] 1 0 [_] C dX6_carryOutOrder_154 (ct_X4_letPass l (xt X).toNatClampNeg (ht e_7_116).1 (ht e_7_116).2 hS) wK_X4_letPass wM_X6_113 wN_X4_letPass wS_X4_X4_letPass wI_X4 hd_X4_letPass rfl rfl rfl ⟨rfl, rfl⟩ ⟨Nat.le_of_ble_eq_true rfl, Nat.le_of_ble_eq_true rfl⟩ rfl rfl rfl rfl rfl rfl ?_
      refine sg_segs [_, _, _] rfl ?_
      refine sw_pop 157 C dX6_carryOutOrder_157 rfl ?_
      refine sw_iconst 158 C dX6_carryOutOrder_158 1 (by decide) ?_
      refine sw_zret 159 C RC rfl dX6_carryOutOrder_159 ?_
      have hc := cdo_t (S := S) e_7_116 (of_decide_eq_true (bI_t c_138))
      exact ⟨by rw [hc]; rfl, by rw [hc]; try rfl⟩
    · refine sw_iconst 141 C dX6_carryOutOrder_141 0 (by decide) ?_
      refine sw_zret 142 C RC rfl dX6_carryOutOrder_142 ?_
      have hc := cdo_tn (S := S) e_7_116 (of_decide_eq_false (bI_f c_138))
      exact ⟨by rw [hc]; rfl, by rw [hc]; try rfl⟩
  have t_7_98 := i32_ne (y := 98) e_7_98
  have t_7_112 := i32_ne (y := 112) e_7_112
  have t_7_115 := i32_ne (y := 115) e_7_115
  have t_7_116 := i32_ne (y := 116) e_7_116
  rw [show (98 : Int32).toInt = 98 from by decide] at t_7_98
  rw [show (112 : Int32).toInt = 112 from by decide] at t_7_112
  rw [show (115 : Int32).toInt = 115 from by decide] at t_7_115
  rw [show (116 : Int32).toInt = 116 from by decide] at t_7_116
  refine sw_lkp 7 160 (off := 153) C dX6_carryOutOrder_7 (by decide) (lkp_out (by simp; omega)) (by decide) ?_
  refine sw_iconst 160 C dX6_carryOutOrder_160 0 (by decide) ?_
  refine sw_zret 161 C RC rfl dX6_carryOutOrder_161 ?_
  have hc := cdo_n (S := S) e_7_98 e_7_112 e_7_115 e_7_116
  exact ⟨by rw [hc]; rfl, by rw [hc]; try rfl⟩
