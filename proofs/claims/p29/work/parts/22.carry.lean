/-! the text is carried out -/
def tkO (by_ : Nat → Int32) (ln : Nat) : Nat → Nat × Int32 → Prop
  | 0, _ => True
  | k + 1, P => ¬ ln ≤ P.1 → (xg (rOr by_ ln P) = 116 → xt (rOr by_ ln P) = nI (xt (rOr by_ ln P)).toNatClampNeg ∧ (xt (rOr by_ ln P)).toNatClampNeg ≤ 200) ∧ (xg (rOr by_ ln P) = 98 ∨ xg (rOr by_ ln P) = 112 → okSd (xs_ (rOr by_ ln P))) ∧ tkO by_ ln k (rOr by_ ln P).2
def cru (by_ : Nat → Int32) (ln : Nat) : Nat → Nat → RS → StT → Int32 × StT × RS
  | 0, i, X, S => (nI i, S, X)
  | k + 1, i, X, S => if ln ≤ xp X then (nI i, S, X) else if (cdo (rOr by_ ln X.2) S).1 = true then cru by_ ln k (i + 1) (rOr by_ ln X.2) (cdo (rOr by_ ln X.2) S).2 else (nI i, (cdo (rOr by_ ln X.2) S).2, rOr by_ ln X.2)
theorem cru_end {by_ : Nat → Int32} {ln k i : Nat} {X : RS} {S : StT} (h : ln ≤ xp X) : cru by_ ln k i X S = (nI i, S, X) := by
  cases k with
  | zero => rfl
  | succ k => exact if_pos h
theorem cru_no {by_ : Nat → Int32} {ln k i : Nat} {X : RS} {S : StT} (h : ¬ ln ≤ xp X) (h2 : (cdo (rOr by_ ln X.2) S).1 = false) : cru by_ ln (k + 1) i X S = (nI i, (cdo (rOr by_ ln X.2) S).2, rOr by_ ln X.2) := (if_neg h).trans (if_neg (by rw [h2]; decide))
theorem cru_go {by_ : Nat → Int32} {ln k i : Nat} {X : RS} {S : StT} (h : ¬ ln ≤ xp X) (h2 : (cdo (rOr by_ ln X.2) S).1 = true) : cru by_ ln (k + 1) i X S = cru by_ ln k (i + 1) (rOr by_ ln X.2) (cdo (rOr by_ ln X.2) S).2 := (if_neg h).trans (if_pos h2)
set_option maxHeartbeats 4000000 in
set_option maxRecDepth 100000 in
theorem lp_X6_carryOut {l : Launch} {p : Program} {e : Env} {s : State} {m : MethodId} {args : Array Value} {below : List Frame} {meth : Method} {c : Code} {A : Nat → Prop} {D : va_G} {cI cJ cQ : ClassId} {x0a a0 a1 a2 a3 a4 a5 a6 a7 tr0 s0 s1 r0 t0 t1 w0 ln ra0 ra1 ra2 ra3 ra4 ra5 ra6 ra7 rb0 rb1 rb2 rb3 rb4 rb5 rb6 rb7 rc0 rc1 rc2 rc3 rc4 rc5 rc6 rc7 rd0 rd1 rd2 rd3 rd4 rd5 rd6 rd7 : Nat} {h : Nat → Option Nat} {S : StT} {R : Nat → StT} {cn od : Nat} {by_ : Nat → Int32} (hln : ln ≤ 100) (hSI : ∀ (Y : RS) (S : StT), (xg Y = 98 ∨ xg Y = 112 → okSd (xs_ Y)) → SI S → SI (cdo Y S).2) (Z : Int32 × StT × RS) (C : CC p s m args c cX6_carryOut 3 RX6 (Cond.code yX6_carryOut cX6_carryOut 3 (some .int) :: lw_all) D (tyz cI cJ cQ) A s.heap) (RC : meth.sig.returnType = (some .int) ∧ meth.locks = false ∧ meth.name = yX6_carryOut.name) : ∀ (fu j : Nat), j ≤ 100 → 100 + 1 ≤ j + fu → ∀ (S : StT) (X : RS), SI S → X.2.1 ≤ 12 * j → tkO by_ ln (100 - j) X.2 → cru by_ ln (100 - j) j X S = Z → ∀ (xi : Int32), (xi = nI j) →  sw p l e ({ frames := 6, cells := 0, slots := 0, locals := 137 } : Room) s m args below meth c D A s.heap 3 0 0 (MQ below (ctQ D (tyz cI cJ cQ) A (pstI Z.1 (flatS [[(x0a, .inr (6, [.ref a0, .ref tr0, .ref s0, .ref r0, .ref w0]))], (wSt a0 a1 a2 a3 a4 a5 a6 a7 cI (Z.2.1)), [(s0, .inr (3, [.int (nI (cn)), .int (nI (od)), .ref s1])), (s1, .inl (cQ, 4, .inr (.inr (.inr (.inr h)))))], (wSt ra0 ra1 ra2 ra3 ra4 ra5 ra6 ra7 cI ((R) 0)), (wSt rb0 rb1 rb2 rb3 rb4 rb5 rb6 rb7 cI ((R) 1)), (wSt rc0 rc1 rc2 rc3 rc4 rc5 rc6 rc7 cI ((R) 2)), (wSt rd0 rd1 rd2 rd3 rd4 rd5 rd6 rd7 cI ((R) 3)), (wRd r0 t0 t1 cI ln by_ (Z.2.2))]))) args s 0 0 A) (flatS [[(x0a, .inr (6, [.ref a0, .ref tr0, .ref s0, .ref r0, .ref w0]))], (wSt a0 a1 a2 a3 a4 a5 a6 a7 cI (S)), [(s0, .inr (3, [.int (nI (cn)), .int (nI (od)), .ref s1])), (s1, .inl (cQ, 4, .inr (.inr (.inr (.inr h)))))], (wSt ra0 ra1 ra2 ra3 ra4 ra5 ra6 ra7 cI ((R) 0)), (wSt rb0 rb1 rb2 rb3 rb4 rb5 rb6 rb7 cI ((R) 1)), (wSt rc0 rc1 rc2 rc3 rc4 rc5 rc6 rc7 cI ((R) 2)), (wSt rd0 rd1 rd2 rd3 rd4 rd5 rd6 rd7 cI ((R) 3)), (wRd r0 t0 t1 cI ln by_ (X))]) 38 [(0, .ref x0a), (2, .int xi)] [] := by
  intro fu
  induction fu with
  | zero => intro j h1 h2; exact absurd h2 (by omega)
  | succ fu ih =>
    intro j hi hf S X hS hb ht hd xi exi
    subst exi
    refine sw_iload_n 38 2 C dX6_carryOut_38 rfl rfl ?_
    refine sw_bipush 39 C dX6_carryOut_39 100 (by decide) ?_
    refine sw_icmp_ge 41 76 C dX6_carryOut_41 (by decide) (fun c_41 => ?_) (fun c_41 => ?_)
    · refine sw_iload_n 76 2 C dX6_carryOut_76 rfl rfl ?_
      refine sw_iret 77 C RC dX6_carryOut_77 ?_
      obtain rfl : Z = (nI j, S, X) := by rw [← hd, show 100 - j = 0 by have := nI_ge' (by omega) (b := 100) c_41 (by omega); omega]; rfl
      exact ⟨rfl, rfl⟩
    · have hlt : j < 100 := by
        rcases Nat.lt_or_ge j 100 with q | q
        · exact q
        · exact absurd (show (100 : Int32) ≤ nI j from nI_le (a := 100) q (by omega)) c_41
      refine sw_aload_n 44 0 C dX6_carryOut_44 rfl rfl ?_
      refine sg_get 45 0 0 3 C dX6_carryOut_45 rfl rfl rfl (inA lwX6) (C.w wF_X6_29) rfl rfl rfl ?_
      refine sg_callVIP 48 [7] 0 0 C dX6_carryOut_48 (ct_X1_isAtEnd l (P := X.2) (by show X.2.1 < 100000; omega) hln) wK_X1_isAtEnd wM_X6_187 wN_X1_isAtEnd wS_X1_X1_isAtEnd wI_X1 hd_X1_isAtEnd rfl rfl rfl ⟨rfl, rfl⟩ ⟨Nat.le_of_ble_eq_true rfl, Nat.le_of_ble_eq_true rfl⟩ rfl rfl rfl rfl ?_
      refine sw_if_ne 51 76 C dX6_carryOut_51 (by decide) (fun c_51 => ?_) (fun c_51 => ?_)
      · refine sw_iload_n 76 2 C dX6_carryOut_76 rfl rfl ?_
        refine sw_iret 77 C RC dX6_carryOut_77 ?_
        obtain rfl : Z = (nI j, S, X) := by rw [← hd]; exact cru_end (of_decide_eq_true (bI_t c_51))
        exact ⟨rfl, rfl⟩
      · have hne : ¬ ln ≤ xp X := of_decide_eq_false (bI_f c_51)
        have hk : 100 - j = (100 - (j + 1)) + 1 := by omega
        rw [hk] at ht hd
        obtain ⟨ht1, ht3, ht2⟩ := ht hne
        refine sw_aload_n 54 0 C dX6_carryOut_54 rfl rfl ?_
        refine sg_get 55 0 0 3 C dX6_carryOut_55 rfl rfl rfl (inA lwX6) (C.w wF_X6_29) rfl rfl rfl ?_
        refine sg_callVV 58 [7] 0 0 [_] C dX6_carryOut_58 (ct_X1_readOrder l (P := X.2) (by show X.2.1 < 80000; omega) hln) wK_X1_readOrder wM_X6_191 wN_X1_readOrder wS_X1_X1_readOrder wI_X1 hd_X1_readOrder rfl rfl rfl ⟨rfl, rfl⟩ ⟨Nat.le_of_ble_eq_true rfl, Nat.le_of_ble_eq_true rfl⟩ rfl rfl rfl rfl rfl rfl ?_
        refine sg_segs [_, _, _, _, _, _, _, _] rfl ?_
        refine sw_aload_n 61 0 C dX6_carryOut_61 rfl rfl ?_
        refine sg_callVI 62 [0, 1, 7] 0 0 [_, _, _] C dX6_carryOut_62 (ct_X6_carryOutOrder l hS ht1) wK_X6_carryOutOrder wM_X6_194 wN_X6_carryOutOrder wS_X6_X6_carryOutOrder wI_X6 hd_X6_carryOutOrder rfl rfl rfl ⟨rfl, rfl⟩ ⟨Nat.le_of_ble_eq_true rfl, Nat.le_of_ble_eq_true rfl⟩ rfl rfl rfl rfl rfl rfl ?_
        refine sg_segs [_, _, _, _, _, _, _, _] rfl ?_
        refine sw_if_ne 65 70 C dX6_carryOut_65 (by decide) (fun c_65 => ?_) (fun c_65 => ?_)
        · refine sw_iinc 70 C 1 dX6_carryOut_70 (by decide) rfl rfl ?_
          refine sw_goto 73 38 C dX6_carryOut_73 (by decide) ?_
          have hle := rOr_le by_ ln X.2
          exact sw_loc (ih (j + 1) (by omega) (by omega) _ (rOr by_ ln X.2) (hSI _ S ht3 hS) (by have : (rOr by_ ln X.2).2.1 ≤ X.2.1 + 12 := hle; omega) ht2 (by rw [← hd]; exact (cru_go hne (bI_t c_65)).symm) _ (nI_1 j)) rfl
        · refine sw_iload_n 68 2 C dX6_carryOut_68 rfl rfl ?_
          refine sw_iret 69 C RC dX6_carryOut_69 ?_
          obtain rfl : Z = _ := hd.symm.trans (cru_no hne (bI_f c_65))
          exact ⟨rfl, rfl⟩
set_option maxHeartbeats 4000000 in
set_option maxRecDepth 100000 in
theorem ct_X6_carryOut (l : Launch) {D : va_G} {cI cJ cQ : ClassId} {x0a a0 a1 a2 a3 a4 a5 a6 a7 tr0 s0 s1 r0 t0 t1 w0 ln ra0 ra1 ra2 ra3 ra4 ra5 ra6 ra7 rb0 rb1 rb2 rb3 rb4 rb5 rb6 rb7 rc0 rc1 rc2 rc3 rc4 rc5 rc6 rc7 rd0 rd1 rd2 rd3 rd4 rd5 rd6 rd7 : Nat} {h : Nat → Option Nat} {S : StT} {R : Nat → StT} {cn od : Nat} {by_ : Nat → Int32} {X : RS} (hS : SI S) (hcn : cn ≤ 4) (hod : od < 4) (hh0 : h 0 = some ra0) (hh1 : h 1 = some rb0) (hh2 : h 2 = some rc0) (hh3 : h 3 = some rd0) (hln : ln ≤ 100) (hSI : ∀ (Y : RS) (S : StT), (xg Y = 98 ∨ xg Y = 112 → okSd (xs_ Y)) → SI S → SI (cdo Y S).2) (he : xe (fEr by_ ln 100 (X.1, 0, -1)) = -1) (ht : tkO by_ ln 100 (0, -1)) : Ct l yX6_carryOut (Cond.code yX6_carryOut cX6_carryOut 3 (some .int)) 6 137 0 0 D (tyz cI cJ cQ) [.ref x0a] (flatS [[(x0a, .inr (6, [.ref a0, .ref tr0, .ref s0, .ref r0, .ref w0]))], (wSt a0 a1 a2 a3 a4 a5 a6 a7 cI (S)), [(s0, .inr (3, [.int (nI (cn)), .int (nI (od)), .ref s1])), (s1, .inl (cQ, 4, .inr (.inr (.inr (.inr h)))))], (wSt ra0 ra1 ra2 ra3 ra4 ra5 ra6 ra7 cI ((R) 0)), (wSt rb0 rb1 rb2 rb3 rb4 rb5 rb6 rb7 cI ((R) 1)), (wSt rc0 rc1 rc2 rc3 rc4 rc5 rc6 rc7 cI ((R) 2)), (wSt rd0 rd1 rd2 rd3 rd4 rd5 rd6 rd7 cI ((R) 3)), (wRd r0 t0 t1 cI ln by_ (X))]) (pstI (cru by_ ln 100 0 ((fEr by_ ln 100 (X.1, 0, -1)).1, 0, -1) S).1 (flatS [[(x0a, .inr (6, [.ref a0, .ref tr0, .ref s0, .ref r0, .ref w0]))], (wSt a0 a1 a2 a3 a4 a5 a6 a7 cI ((cru by_ ln 100 0 ((fEr by_ ln 100 (X.1, 0, -1)).1, 0, -1) S).2.1)), [(s0, .inr (3, [.int (nI (svC cn)), .int (nI (svO cn od)), .ref s1])), (s1, .inl (cQ, 4, .inr (.inr (.inr (.inr h)))))], (wSt ra0 ra1 ra2 ra3 ra4 ra5 ra6 ra7 cI ((va_up R (svI cn od) S) 0)), (wSt rb0 rb1 rb2 rb3 rb4 rb5 rb6 rb7 cI ((va_up R (svI cn od) S) 1)), (wSt rc0 rc1 rc2 rc3 rc4 rc5 rc6 rc7 cI ((va_up R (svI cn od) S) 2)), (wSt rd0 rd1 rd2 rd3 rd4 rd5 rd6 rd7 cI ((va_up R (svI cn od) S) 3)), (wRd r0 t0 t1 cI ln by_ ((cru by_ ln 100 0 ((fEr by_ ln 100 (X.1, 0, -1)).1, 0, -1) S).2.2))])) := by
  refine Ct.of RX6 (by decide) rfl (Nat.le_of_ble_eq_true rfl) ?_
  intro p e s m below meth c A C RC
  refine sw_aload_n 0 0 C dX6_carryOut_0 rfl rfl ?_
  refine sg_get 1 0 0 3 C dX6_carryOut_1 rfl rfl rfl (inA lwX6) (C.w wF_X6_29) rfl rfl rfl ?_
  refine sg_callVI 4 [7] 0 0 [_] C dX6_carryOut_4 (ct_X1_findError l hln) wK_X1_findError wM_X6_181 wN_X1_findError wS_X1_X1_findError wI_X1 hd_X1_findError rfl rfl rfl ⟨rfl, rfl⟩ ⟨Nat.le_of_ble_eq_true rfl, Nat.le_of_ble_eq_true rfl⟩ rfl rfl rfl rfl rfl rfl ?_
  refine sg_segs [_, _, _, _, _, _, _, _] rfl ?_
  refine sw_istore_n 7 1 C dX6_carryOut_7 rfl rfl ?_
  refine sw_iload_n 8 1 C dX6_carryOut_8 rfl rfl ?_
  refine sw_iconst 9 C dX6_carryOut_9 (-1) (by decide) ?_
  refine sw_icmp_eq 10 18 C dX6_carryOut_10 (by decide) (fun c_10 => ?_) (fun c_10 => ?_)
  rotate_left
  · exact by first | exact absurd c_10 (he) | exact absurd (he) c_10
  refine sw_aload_n 18 0 C dX6_carryOut_18 rfl rfl ?_
  refine sg_get 19 0 0 2 C dX6_carryOut_19 rfl rfl rfl (inA lwX6) (C.w wF_X6_22) rfl rfl rfl ?_
  refine sw_aload_n 22 0 C dX6_carryOut_22 rfl rfl ?_
  refine sg_get 23 0 0 0 C dX6_carryOut_23 rfl rfl rfl (inA lwX6) (C.w wF_X6_10) rfl rfl rfl ?_
  refine sg_callVV 26 [2, 1, 3, 4, 5, 6] 1 0 [_, _, _, _, _, _] C dX6_carryOut_26 (ct_X3_add l hcn hod hh0 hh1 hh2 hh3) wK_X3_add wM_X6_51 wN_X3_add wS_X3_X3_add wI_X3 hd_X3_add rfl rfl rfl ⟨rfl, rfl⟩ ⟨Nat.le_of_ble_eq_true rfl, Nat.le_of_ble_eq_true rfl⟩ rfl rfl rfl rfl rfl rfl ?_
  refine sg_segs [_, _, _, _, _, _, _, _] rfl ?_
  refine sw_iconst 29 C dX6_carryOut_29 0 (by decide) ?_
  refine sw_istore_n 30 2 C dX6_carryOut_30 rfl rfl ?_
  refine sw_loc (L1 := [(0, .ref _), (1, .int _), (2, .int _)]) ?_ rfl
  refine sw_aload_n 31 0 C dX6_carryOut_31 rfl rfl ?_
  refine sg_get 32 0 0 3 C dX6_carryOut_32 rfl rfl rfl (inA lwX6) (C.w wF_X6_29) rfl rfl rfl ?_
  refine sg_callVV 35 [7] 0 0 [_] C dX6_carryOut_35 (ct_X1_startAnew l (P := (fEr by_ ln 100 (X.1, 0, -1)).2)) wK_X1_startAnew wM_X6_184 wN_X1_startAnew wS_X1_X1_startAnew wI_X1 hd_X1_startAnew rfl rfl rfl ⟨rfl, rfl⟩ ⟨Nat.le_of_ble_eq_true rfl, Nat.le_of_ble_eq_true rfl⟩ rfl rfl rfl rfl rfl rfl ?_
  refine sg_segs [_, _, _, _, _, _, _, _] rfl ?_
  exact sw_loc (lp_X6_carryOut (S := S) (R := va_up R (svI cn od) S) (cn := svC cn) (od := svO cn od) hln hSI _ C RC 101 0 (Nat.zero_le _) (by omega) S ((fEr by_ ln 100 (X.1, 0, -1)).1, 0, -1) hS (Nat.zero_le _) ht rfl _ rfl) rfl
set_option maxHeartbeats 4000000 in
set_option maxRecDepth 100000 in
theorem ct_X6_carryOut_2 (l : Launch) {D : va_G} {cI cJ cQ : ClassId} {x0a a0 a1 a2 a3 a4 a5 a6 a7 tr0 s0 s1 r0 t0 t1 w0 ln ra0 ra1 ra2 ra3 ra4 ra5 ra6 ra7 rb0 rb1 rb2 rb3 rb4 rb5 rb6 rb7 rc0 rc1 rc2 rc3 rc4 rc5 rc6 rc7 rd0 rd1 rd2 rd3 rd4 rd5 rd6 rd7 : Nat} {h : Nat → Option Nat} {S : StT} {R : Nat → StT} {cn od : Nat} {by_ : Nat → Int32} {X : RS} (hS : SI S) (hcn : cn ≤ 4) (hod : od < 4) (hh0 : h 0 = some ra0) (hh1 : h 1 = some rb0) (hh2 : h 2 = some rc0) (hh3 : h 3 = some rd0) (hln : ln ≤ 100) (he : ¬ xe (fEr by_ ln 100 (X.1, 0, -1)) = -1) : Ct l yX6_carryOut (Cond.code yX6_carryOut cX6_carryOut 3 (some .int)) 6 137 0 0 D (tyz cI cJ cQ) [.ref x0a] (flatS [[(x0a, .inr (6, [.ref a0, .ref tr0, .ref s0, .ref r0, .ref w0]))], (wSt a0 a1 a2 a3 a4 a5 a6 a7 cI (S)), [(s0, .inr (3, [.int (nI (cn)), .int (nI (od)), .ref s1])), (s1, .inl (cQ, 4, .inr (.inr (.inr (.inr h)))))], (wSt ra0 ra1 ra2 ra3 ra4 ra5 ra6 ra7 cI ((R) 0)), (wSt rb0 rb1 rb2 rb3 rb4 rb5 rb6 rb7 cI ((R) 1)), (wSt rc0 rc1 rc2 rc3 rc4 rc5 rc6 rc7 cI ((R) 2)), (wSt rd0 rd1 rd2 rd3 rd4 rd5 rd6 rd7 cI ((R) 3)), (wRd r0 t0 t1 cI ln by_ (X))]) (pstI (-10 - xe (fEr by_ ln 100 (X.1, 0, -1))) (flatS [[(x0a, .inr (6, [.ref a0, .ref tr0, .ref s0, .ref r0, .ref w0]))], (wSt a0 a1 a2 a3 a4 a5 a6 a7 cI (S)), [(s0, .inr (3, [.int (nI (cn)), .int (nI (od)), .ref s1])), (s1, .inl (cQ, 4, .inr (.inr (.inr (.inr h)))))], (wSt ra0 ra1 ra2 ra3 ra4 ra5 ra6 ra7 cI ((R) 0)), (wSt rb0 rb1 rb2 rb3 rb4 rb5 rb6 rb7 cI ((R) 1)), (wSt rc0 rc1 rc2 rc3 rc4 rc5 rc6 rc7 cI ((R) 2)), (wSt rd0 rd1 rd2 rd3 rd4 rd5 rd6 rd7 cI ((R) 3)), (wRd r0 t0 t1 cI ln by_ (fEr by_ ln 100 (X.1, 0, -1)))])) := by
  refine Ct.of RX6 (by decide) rfl (Nat.le_of_ble_eq_true rfl) ?_
  intro p e s m below meth c A C RC
  refine sw_aload_n 0 0 C dX6_carryOut_0 rfl rfl ?_
  refine sg_get 1 0 0 3 C dX6_carryOut_1 rfl rfl rfl (inA lwX6) (C.w wF_X6_29) rfl rfl rfl ?_
  refine sg_callVI 4 [7] 0 0 [_] C dX6_carryOut_4 (ct_X1_findError l hln) wK_X1_findError wM_X6_181 wN_X1_findError wS_X1_X1_findError wI_X1 hd_X1_findError rfl rfl rfl ⟨rfl, rfl⟩ ⟨Nat.le_of_ble_eq_true rfl, Nat.le_of_ble_eq_true rfl⟩ rfl rfl rfl rfl rfl rfl ?_
  refine sg_segs [_, _, _, _, _, _, _, _] rfl ?_
  refine sw_istore_n 7 1 C dX6_carryOut_7 rfl rfl ?_
  refine sw_iload_n 8 1 C dX6_carryOut_8 rfl rfl ?_
  refine sw_iconst 9 C dX6_carryOut_9 (-1) (by decide) ?_
  refine sw_icmp_eq 10 18 C dX6_carryOut_10 (by decide) (fun c_10 => ?_) (fun c_10 => ?_)
  · exact by first | exact absurd c_10 (he) | exact absurd (he) c_10
  refine sw_bipush 13 C dX6_carryOut_13 (-10) (by decide) ?_
  refine sw_iload_n 15 1 C dX6_carryOut_15 rfl rfl ?_
  refine sw_isub 16 C dX6_carryOut_16 ?_
  refine sw_iret 17 C RC dX6_carryOut_17 ?_
  exact ⟨rfl, rfl⟩
theorem pin_lo {f : Nat → Int32} {n j : Nat} {ps x1 x2 x3 x4 x5 : Int32} (h : j < n) : pin f n ps x1 x2 x3 x4 x5 (j * 8 + 0) = f (j * 8 + 0) := by
  unfold pin
  rw [upd_ne (by omega), upd_ne (by omega), upd_ne (by omega), upd_ne (by omega), upd_ne (by omega), upd_ne (by omega)]
  exact if_neg (by omega)
theorem pin_at {f : Nat → Int32} {n : Nat} {ps x1 x2 x3 x4 x5 : Int32} : pin f n ps x1 x2 x3 x4 x5 (n * 8 + 0) = x1 := by
  unfold pin
  rw [upd_ne (by omega), upd_ne (by omega), upd_ne (by omega), upd_ne (by omega)]
  simp [upd]
theorem SI_pin {S : StT} {x1 x2 x3 x4 x5 : Int32} (h : SI S) (hn : zn S < 40) (hx : okSd x1) : SI (pinS S x1 x2 x3 x4 x5) := ⟨hn, h.2.1, fun j hj => by
  have hj : j < zn S + 1 := hj
  show okSd (pin (zf S) (zn S) (zp S) x1 x2 x3 x4 x5 (j * 8 + 0))
  rcases Nat.lt_or_ge j (zn S) with q | q
  · rw [pin_lo q]
    exact h.2.2 j q
  · obtain rfl : j = zn S := by omega
    rw [pin_at]
    exact hx⟩
theorem SI_cdo (X : RS) (S : StT) (hx : xg X = 98 ∨ xg X = 112 → okSd (xs_ X)) (h : SI S) : SI (cdo X S).2 := by
  unfold cdo
  split
  · rename_i q
    split
    · rename_i r
      exact SI_pin h (hrf_lt r) (hx q)
    · exact h
  · split
    · exact SI_srv h
    · split
      · split
        · exact SI_tps h _
        · exact h
      · exact h
