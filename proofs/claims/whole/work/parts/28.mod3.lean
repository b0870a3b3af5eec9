/-! the Model: what it writes -/
def pshf (pa : Nat → Int32) (i : Nat) : Nat → Int32 := fun k => if k < i then pa (k + 424) else pa k
theorem pshf_0 (pa : Nat → Int32) : pshf pa 0 = pa := by
  funext k
  exact if_neg (Nat.not_lt_zero _)
theorem pshf_s (pa : Nat → Int32) (i : Nat) : upd (pshf pa i) i (pshf pa i (i + 424)) = pshf pa (i + 1) := by
  funext k
  have e : pshf pa i (i + 424) = pa (i + 424) := if_neg (by omega)
  rw [e]
  by_cases h : k = i
  · subst h
    rw [upd_at rfl]
    exact (if_pos (by omega)).symm
  · rw [upd_ne h]
    unfold pshf
    by_cases h2 : k < i
    · rw [if_pos h2, if_pos (by omega)]
    · rw [if_neg h2, if_neg (by omega)]
def pwr (sa pa : Nat → Int32) (c i : Nat) : Nat → Int32 := fun k => if 424 * c ≤ k ∧ k < 424 * c + i then sa (k - 424 * c) else pa k
theorem pwr_0 (sa pa : Nat → Int32) (c : Nat) : pwr sa pa c 0 = pa := by
  funext k
  exact if_neg (by omega)
theorem pwr_s (sa pa : Nat → Int32) (c i : Nat) : upd (pwr sa pa c i) (424 * c + i) (sa i) = pwr sa pa c (i + 1) := by
  funext k
  by_cases h : k = 424 * c + i
  · subst h
    rw [upd_at rfl]
    unfold pwr
    rw [if_pos (by omega)]
    exact congrArg sa (by omega)
  · rw [upd_ne h]
    unfold pwr
    by_cases h2 : 424 * c ≤ k ∧ k < 424 * c + i
    · rw [if_pos h2, if_pos (by omega)]
    · rw [if_neg h2, if_neg (by omega)]
def kpa (sa pa : Nat → Int32) (c : Nat) : Nat → Int32 := if c = 4 then pwr sa (pshf pa 1272) 3 424 else pwr sa pa c 424
set_option maxHeartbeats 4000000 in
set_option maxRecDepth 100000 in
theorem lp_X7_keepsB {l : Launch} {p : Program} {e : Env} {s : State} {m : MethodId} {args : Array Value} {below : List Frame} {meth : Method} {c : Code} {A : Nat → Prop} {D : va_G} {cI cJ cQ : ClassId} {b0 b1 b2 b3 b4 b5 : Nat} {sa pa ad tx nb : Nat → Int32} {th ty ap : Int32} {hh : Int64} {cn : Nat} (hc : cn < 4) (C : CC p s m args c cX7_keeps 2 RX7 (Cond.code yX7_keeps cX7_keeps 2 none :: lw_all) D (tyz cI cJ cQ) A s.heap) (RC : meth.sig.returnType = none ∧ meth.locks = false ∧ meth.name = yX7_keeps.name) : ∀ (fu i : Nat), i ≤ 424 → 424 + 1 ≤ i + fu →  ∀ (xi : Int32), (xi = nI i) →  sw p l e ({ frames := 0, cells := 0, slots := 0, locals := 0 } : Room) s m args below meth c D A s.heap 2 0 0 (MQ below (ctQ D (tyz cI cJ cQ) A (pstV [(b0, .inr (7, [.ref b1, .ref b2, .ref b3, .int (nI (cn + 1)), .int (th), .ref b4, .int (ty), .int (ap), .ref b5, .long (hh)])), (b1, .inl (cI, 424, .inl (sa))), (b2, .inl (cI, 1696, .inl (pwr sa pa cn 424))), (b3, .inl (cI, 424, .inl (ad))), (b4, .inl (cI, 100, .inl (tx))), (b5, .inl (cI, 4, .inl (nb)))])) args s 0 0 A) [(b0, .inr (7, [.ref b1, .ref b2, .ref b3, .int (nI cn), .int (th), .ref b4, .int (ty), .int (ap), .ref b5, .long (hh)])), (b1, .inl (cI, 424, .inl (sa))), (b2, .inl (cI, 1696, .inl (pwr sa pa cn i))), (b3, .inl (cI, 424, .inl (ad))), (b4, .inl (cI, 100, .inl (tx))), (b5, .inl (cI, 4, .inl (nb)))] 51 [(0, .ref b0), (1, .int xi)] [] := by
  intro fu
  induction fu with
  | zero => intro i h1 h2; exact absurd h2 (by omega)
  | succ fu ih =>
    intro i hi hf  xi exi
    subst exi
    refine sw_iload_n 51 1 C dX7_keeps_51 rfl rfl ?_
    refine sw_sipush 52 C dX7_keeps_52 424 (by decide) ?_
    refine sw_icmp_ge 55 85 C dX7_keeps_55 (by decide) (fun c_55 => ?_) (fun c_55 => ?_)
    · obtain rfl : i = 424 := by
        have c : nI 424 ≤ nI i := c_55
        have := nI_ge' (by omega) c (by omega)
        omega
      refine sw_aload_n 85 0 C dX7_keeps_85 rfl rfl ?_
      refine sw_dup 86 C dX7_keeps_86 rfl ?_
      refine sw_get 87 0 3 C dX7_keeps_87 rfl rfl (inA lwX7) (C.w wF_X7_29) rfl rfl rfl ?_
      refine sw_iconst 90 C dX7_keeps_90 1 (by decide) ?_
      refine sw_iadd 91 C dX7_keeps_91 ?_
      refine sw_top (nI_1 cn) ?_
      refine sw_put 92 0 3 tyX7 C dX7_keeps_92 rfl rfl (inA lwX7) tyX7_ok nmX7 (C.w wF_X7_29) rfl rfl rfl rfl rfl rfl rfl ?_
      refine sw_ws [(_, .inr (7, [.ref _, .ref _, .ref _, .int _, .int _, .ref _, .int _, .int _, .ref _, .long _])), (_, .inl (_, _, .inl _)), (_, .inl (_, _, .inl _)), (_, .inl (_, _, .inl _)), (_, .inl (_, _, .inl _)), (_, .inl (_, _, .inl _))] rfl ?_
      refine sw_vret 95 C RC dX7_keeps_95 ?_
      exact ⟨rfl, rfl⟩
    · have hlt : i < 424 := by
        rcases Nat.lt_or_ge i 424 with q | q
        · exact q
        · exact absurd (show (424 : Int32) ≤ nI i from nI_le (a := 424) q (by omega)) c_55
      refine sw_aload_n 58 0 C dX7_keeps_58 rfl rfl ?_
      refine sw_get 59 0 1 C dX7_keeps_59 rfl rfl (inA lwX7) (C.w wF_X7_13) rfl rfl rfl ?_
      refine sw_sipush 62 C dX7_keeps_62 424 (by decide) ?_
      refine sw_aload_n 65 0 C dX7_keeps_65 rfl rfl ?_
      refine sw_get 66 0 3 C dX7_keeps_66 rfl rfl (inA lwX7) (C.w wF_X7_29) rfl rfl rfl ?_
      refine sw_imul 69 C dX7_keeps_69 ?_
      refine sw_iload_n 70 1 C dX7_keeps_70 rfl rfl ?_
      refine sw_iadd 71 C dX7_keeps_71 ?_
      refine sw_aload_n 72 0 C dX7_keeps_72 rfl rfl ?_
      refine sw_get 73 0 0 C dX7_keeps_73 rfl rfl (inA lwX7) (C.w wF_X7_7) rfl rfl rfl ?_
      refine sw_iload_n 76 1 C dX7_keeps_76 rfl rfl ?_
      refine sw_ialdN 77 1 0 (i) C dX7_keeps_77 rfl hlt rfl rfl rfl ?_
      refine sw_iastN 78 2 0 (424 * cn + i) C dX7_keeps_78 (by rw [show (424 : Int32) = nI 424 from rfl, pk_mul, nI_add]) (by omega) rfl rfl rfl ?_
      refine sw_ws [(_, .inr (7, [.ref _, .ref _, .ref _, .int _, .int _, .ref _, .int _, .int _, .ref _, .long _])), (_, .inl (_, _, .inl _)), (_, .inl (_, _, .inl _)), (_, .inl (_, _, .inl _)), (_, .inl (_, _, .inl _)), (_, .inl (_, _, .inl _))] rfl ?_
      refine sw_iinc 79 C 1 dX7_keeps_79 (by decide) rfl rfl ?_
      refine sw_goto 82 51 C dX7_keeps_82 (by decide) ?_
      refine sw_ws [(b0, .inr (7, [.ref b1, .ref b2, .ref b3, .int (nI cn), .int (th), .ref b4, .int (ty), .int (ap), .ref b5, .long (hh)])), (b1, .inl (cI, 424, .inl (sa))), (b2, .inl (cI, 1696, .inl (pwr sa pa cn (i + 1)))), (b3, .inl (cI, 424, .inl (ad))), (b4, .inl (cI, 100, .inl (tx))), (b5, .inl (cI, 4, .inl (nb)))] (by rw [← pwr_s]) ?_
      exact sw_loc (ih (i + 1) (by omega) (by omega) _ (nI_1 i)) rfl
set_option maxHeartbeats 4000000 in
set_option maxRecDepth 100000 in
theorem lp_X7_keepsA {l : Launch} {p : Program} {e : Env} {s : State} {m : MethodId} {args : Array Value} {below : List Frame} {meth : Method} {c : Code} {A : Nat → Prop} {D : va_G} {cI cJ cQ : ClassId} {b0 b1 b2 b3 b4 b5 : Nat} {sa pa ad tx nb : Nat → Int32} {th ty ap : Int32} {hh : Int64} (C : CC p s m args c cX7_keeps 2 RX7 (Cond.code yX7_keeps cX7_keeps 2 none :: lw_all) D (tyz cI cJ cQ) A s.heap) (RC : meth.sig.returnType = none ∧ meth.locks = false ∧ meth.name = yX7_keeps.name) : ∀ (fu i : Nat), i ≤ 1272 → 1272 + 1 ≤ i + fu →  ∀ (xi : Int32), (xi = nI i) →  sw p l e ({ frames := 0, cells := 0, slots := 0, locals := 0 } : Room) s m args below meth c D A s.heap 2 0 0 (MQ below (ctQ D (tyz cI cJ cQ) A (pstV [(b0, .inr (7, [.ref b1, .ref b2, .ref b3, .int (nI 4), .int (th), .ref b4, .int (ty), .int (ap), .ref b5, .long (hh)])), (b1, .inl (cI, 424, .inl (sa))), (b2, .inl (cI, 1696, .inl (pwr sa (pshf pa 1272) 3 424))), (b3, .inl (cI, 424, .inl (ad))), (b4, .inl (cI, 100, .inl (tx))), (b5, .inl (cI, 4, .inl (nb)))])) args s 0 0 A) [(b0, .inr (7, [.ref b1, .ref b2, .ref b3, .int (nI 4), .int (th), .ref b4, .int (ty), .int (ap), .ref b5, .long (hh)])), (b1, .inl (cI, 424, .inl (sa))), (b2, .inl (cI, 1696, .inl (pshf pa i))), (b3, .inl (cI, 424, .inl (ad))), (b4, .inl (cI, 100, .inl (tx))), (b5, .inl (cI, 4, .inl (nb)))] 10 [(0, .ref b0), (1, .int xi)] [] := by
  intro fu
  induction fu with
  | zero => intro i h1 h2; exact absurd h2 (by omega)
  | succ fu ih =>
    intro i hi hf  xi exi
    subst exi
    refine sw_iload_n 10 1 C dX7_keeps_10 rfl rfl ?_
    refine sw_sipush 11 C dX7_keeps_11 1272 (by decide) ?_
    refine sw_icmp_ge 14 39 C dX7_keeps_14 (by decide) (fun c_14 => ?_) (fun c_14 => ?_)
    · obtain rfl : i = 1272 := by
        have c : nI 1272 ≤ nI i := c_14
        have := nI_ge' (by omega) c (by omega)
        omega
      refine sw_aload_n 39 0 C dX7_keeps_39 rfl rfl ?_
      refine sw_dup 40 C dX7_keeps_40 rfl ?_
      refine sw_get 41 0 3 C dX7_keeps_41 rfl rfl (inA lwX7) (C.w wF_X7_29) rfl rfl rfl ?_
      refine sw_iconst 44 C dX7_keeps_44 1 (by decide) ?_
      refine sw_isub 45 C dX7_keeps_45 ?_
      refine sw_top (show nI 4 - 1 = nI 3 from rfl) ?_
      refine sw_put 46 0 3 tyX7 C dX7_keeps_46 rfl rfl (inA lwX7) tyX7_ok nmX7 (C.w wF_X7_29) rfl rfl rfl rfl rfl rfl rfl ?_
      refine sw_ws [(_, .inr (7, [.ref _, .ref _, .ref _, .int _, .int _, .ref _, .int _, .int _, .ref _, .long _])), (_, .inl (_, _, .inl _)), (_, .inl (_, _, .inl _)), (_, .inl (_, _, .inl _)), (_, .inl (_, _, .inl _)), (_, .inl (_, _, .inl _))] rfl ?_
      refine sw_iconst 49 C dX7_keeps_49 0 (by decide) ?_
      refine sw_istore_n 50 1 C dX7_keeps_50 rfl rfl ?_
      refine sw_ws [(b0, .inr (7, [.ref b1, .ref b2, .ref b3, .int (nI 3), .int (th), .ref b4, .int (ty), .int (ap), .ref b5, .long (hh)])), (b1, .inl (cI, 424, .inl (sa))), (b2, .inl (cI, 1696, .inl (pwr sa (pshf pa 1272) 3 0))), (b3, .inl (cI, 424, .inl (ad))), (b4, .inl (cI, 100, .inl (tx))), (b5, .inl (cI, 4, .inl (nb)))] (by rw [pwr_0]) ?_
      exact sw_loc (lp_X7_keepsB (cn := 3) (by decide) C RC 425 0 (Nat.zero_le _) (by omega) _ rfl) rfl
    · have hlt : i < 1272 := by
        rcases Nat.lt_or_ge i 1272 with q | q
        · exact q
        · exact absurd (show (1272 : Int32) ≤ nI i from nI_le (a := 1272) q (by omega)) c_14
      refine sw_aload_n 17 0 C dX7_keeps_17 rfl rfl ?_
      refine sw_get 18 0 1 C dX7_keeps_18 rfl rfl (inA lwX7) (C.w wF_X7_13) rfl rfl rfl ?_
      refine sw_iload_n 21 1 C dX7_keeps_21 rfl rfl ?_
      refine sw_aload_n 22 0 C dX7_keeps_22 rfl rfl ?_
      refine sw_get 23 0 1 C dX7_keeps_23 rfl rfl (inA lwX7) (C.w wF_X7_13) rfl rfl rfl ?_
      refine sw_iload_n 26 1 C dX7_keeps_26 rfl rfl ?_
      refine sw_sipush 27 C dX7_keeps_27 424 (by decide) ?_
      refine sw_iadd 30 C dX7_keeps_30 ?_
      refine sw_ialdN 31 2 0 (i + 424) C dX7_keeps_31 (by rw [show (424 : Int32) = nI 424 from rfl, nI_add]) (by omega) rfl rfl rfl ?_
      refine sw_iastN 32 2 0 (i) C dX7_keeps_32 rfl (by omega) rfl rfl rfl ?_
      refine sw_ws [(_, .inr (7, [.ref _, .ref _, .ref _, .int _, .int _, .ref _, .int _, .int _, .ref _, .long _])), (_, .inl (_, _, .inl _)), (_, .inl (_, _, .inl _)), (_, .inl (_, _, .inl _)), (_, .inl (_, _, .inl _)), (_, .inl (_, _, .inl _))] rfl ?_
      refine sw_iinc 33 C 1 dX7_keeps_33 (by decide) rfl rfl ?_
      refine sw_goto 36 10 C dX7_keeps_36 (by decide) ?_
      refine sw_ws [(b0, .inr (7, [.ref b1, .ref b2, .ref b3, .int (nI 4), .int (th), .ref b4, .int (ty), .int (ap), .ref b5, .long (hh)])), (b1, .inl (cI, 424, .inl (sa))), (b2, .inl (cI, 1696, .inl (pshf pa (i + 1)))), (b3, .inl (cI, 424, .inl (ad))), (b4, .inl (cI, 100, .inl (tx))), (b5, .inl (cI, 4, .inl (nb)))] (by rw [← pshf_s]) ?_
      exact sw_loc (ih (i + 1) (by omega) (by omega) _ (nI_1 i)) rfl
set_option maxHeartbeats 4000000 in
set_option maxRecDepth 100000 in
theorem ct_X7_keeps (l : Launch) {D : va_G} {cI cJ cQ : ClassId} {b0 b1 b2 b3 b4 b5 : Nat} {sa pa ad tx nb : Nat → Int32} {th ty ap : Int32} {hh : Int64} {cn : Nat} (hcn : cn ≤ 4) : Ct l yX7_keeps (Cond.code yX7_keeps cX7_keeps 2 none) 0 0 0 0 D (tyz cI cJ cQ) [.ref b0] [(b0, .inr (7, [.ref b1, .ref b2, .ref b3, .int (nI cn), .int (th), .ref b4, .int (ty), .int (ap), .ref b5, .long (hh)])), (b1, .inl (cI, 424, .inl (sa))), (b2, .inl (cI, 1696, .inl (pa))), (b3, .inl (cI, 424, .inl (ad))), (b4, .inl (cI, 100, .inl (tx))), (b5, .inl (cI, 4, .inl (nb)))] (pstV [(b0, .inr (7, [.ref b1, .ref b2, .ref b3, .int (nI (svC cn)), .int (th), .ref b4, .int (ty), .int (ap), .ref b5, .long (hh)])), (b1, .inl (cI, 424, .inl (sa))), (b2, .inl (cI, 1696, .inl (kpa sa pa cn))), (b3, .inl (cI, 424, .inl (ad))), (b4, .inl (cI, 100, .inl (tx))), (b5, .inl (cI, 4, .inl (nb)))]) := by
  refine Ct.of RX7 (by decide) rfl (Nat.le_of_ble_eq_true rfl) ?_
  intro p e s m below meth c A C RC
  refine sw_aload_n 0 0 C dX7_keeps_0 rfl rfl ?_
  refine sw_get 1 0 3 C dX7_keeps_1 rfl rfl (inA lwX7) (C.w wF_X7_29) rfl rfl rfl ?_
  refine sw_iconst 4 C dX7_keeps_4 4 (by decide) ?_
  refine sw_icmp_ne 5 49 C dX7_keeps_5 (by decide) (fun c_5 => ?_) (fun c_5 => ?_)
  · refine sw_iconst 49 C dX7_keeps_49 0 (by decide) ?_
    refine sw_istore_n 50 1 C dX7_keeps_50 rfl rfl ?_
    have h4 : cn ≠ 4 := fun e => c_5 (by rw [e]; rfl)
    rw [show kpa sa pa cn = pwr sa pa cn 424 from if_neg h4, show svC cn = cn + 1 from if_neg h4]
    refine sw_ws [(b0, .inr (7, [.ref b1, .ref b2, .ref b3, .int (nI cn), .int (th), .ref b4, .int (ty), .int (ap), .ref b5, .long (hh)])), (b1, .inl (cI, 424, .inl (sa))), (b2, .inl (cI, 1696, .inl (pwr sa (pa) cn 0))), (b3, .inl (cI, 424, .inl (ad))), (b4, .inl (cI, 100, .inl (tx))), (b5, .inl (cI, 4, .inl (nb)))] (by rw [pwr_0]) ?_
    exact sw_loc (lp_X7_keepsB (by omega) C RC 425 0 (Nat.zero_le _) (by omega) _ rfl) rfl
  · refine sw_iconst 8 C dX7_keeps_8 0 (by decide) ?_
    refine sw_istore_n 9 1 C dX7_keeps_9 rfl rfl ?_
    obtain rfl : cn = 4 := nI_inj (by omega) (by decide) c_5
    refine sw_ws [(b0, .inr (7, [.ref b1, .ref b2, .ref b3, .int (nI 4), .int (th), .ref b4, .int (ty), .int (ap), .ref b5, .long (hh)])), (b1, .inl (cI, 424, .inl (sa))), (b2, .inl (cI, 1696, .inl (pshf pa 0))), (b3, .inl (cI, 424, .inl (ad))), (b4, .inl (cI, 100, .inl (tx))), (b5, .inl (cI, 4, .inl (nb)))] (by rw [pshf_0]) ?_
    exact sw_loc (lp_X7_keepsA C RC 1273 0 (Nat.zero_le _) (by omega) _ rfl) rfl
/-- the saved States lie in past -/
def mK (B T : Nat) (R : Nat → StT) (cn od : Nat) (pa : Nat → Int32) : Prop := ∀ j, j < cn → mO B T (R ((od + j) % 4)) ∧ mE (R ((od + j) % 4)) (fun k => pa (424 * j + k))
theorem mK_add {B T : Nat} {R : Nat → StT} {cn od : Nat} {sa pa : Nat → Int32} {S : StT} (h : mK B T R cn od pa) (hcn : cn ≤ 4) (hod : od < 4) (hE : mE S sa) (hO : mO B T S) : mK B T (va_up R (svI cn od) S) (svC cn) (svO cn od) (kpa sa pa cn) := by
  intro j hj
  by_cases h4 : cn = 4
  · subst h4
    rw [show svC 4 = 4 from rfl] at hj
    rw [show svI 4 od = ((od + 1) % 4 + 3) % 4 from rfl, show svO 4 od = (od + 1) % 4 from rfl, show kpa sa pa 4 = pwr sa (pshf pa 1272) 3 424 from rfl]
    by_cases hj3 : j = 3
    · subst hj3
      rw [show va_up R (((od + 1) % 4 + 3) % 4) S (((od + 1) % 4 + 3) % 4) = S from if_pos rfl]
      refine ⟨hO, hE.cong hO.n (fun k hk => ?_)⟩
      show pwr sa (pshf pa 1272) 3 424 (424 * 3 + k) = sa k
      unfold pwr
      rw [if_pos (by omega)]
      exact congrArg sa (by omega)
    · have e : va_up R (((od + 1) % 4 + 3) % 4) S (((od + 1) % 4 + j) % 4) = R (((od + 1) % 4 + j) % 4) := if_neg (by omega)
      rw [e, show ((od + 1) % 4 + j) % 4 = (od + (j + 1)) % 4 by omega]
      obtain ⟨h1, h2⟩ := h (j + 1) (by omega)
      refine ⟨h1, h2.cong h1.n (fun k hk => ?_)⟩
      show pwr sa (pshf pa 1272) 3 424 (424 * j + k) = pa (424 * (j + 1) + k)
      unfold pwr pshf
      rw [if_neg (by omega), if_pos (by omega)]
      exact congrArg pa (by omega)
  · rw [show svC cn = cn + 1 from if_neg h4] at hj
    rw [show svI cn od = (od + cn) % 4 from if_neg h4, show svO cn od = od from if_neg h4, show kpa sa pa cn = pwr sa pa cn 424 from if_neg h4]
    by_cases hjc : j = cn
    · subst hjc
      rw [show va_up R ((od + j) % 4) S ((od + j) % 4) = S from if_pos rfl]
      refine ⟨hO, hE.cong hO.n (fun k hk => ?_)⟩
      show pwr sa pa j 424 (424 * j + k) = sa k
      unfold pwr
      rw [if_pos (by omega)]
      exact congrArg sa (by omega)
    · have e : va_up R ((od + cn) % 4) S ((od + j) % 4) = R ((od + j) % 4) := if_neg (by omega)
      rw [e]
      obtain ⟨h1, h2⟩ := h j (by omega)
      refine ⟨h1, h2.cong h1.n (fun k hk => ?_)⟩
      show pwr sa pa cn 424 (424 * j + k) = pa (424 * j + k)
      exact if_neg (by omega)
theorem mK.mono {A B T U : Nat} {R : Nat → StT} {cn od : Nat} {pa : Nat → Int32} (h : mK A T R cn od pa) (hAB : A ≤ B) (hTU : T ≤ U) : mK B U R cn od pa := fun j hj => ⟨(h j hj).1.mono hAB hTU, (h j hj).2⟩
set_option maxHeartbeats 4000000 in
set_option maxRecDepth 100000 in
theorem ct_X7_sets (l : Launch) {D : va_G} {cI cJ cQ : ClassId} {b0 b1 b2 b3 b4 b5 : Nat} {sa pa ad tx nb : Nat → Int32} {th ty ap : Int32} {hh : Int64} {x1 x2 : Int32} {cn : Nat} (hcn : cn ≤ 4) (i : Nat) (h1 : x1 = nI i) (hi : i < 424) : Ct l yX7_sets (Cond.code yX7_sets cX7_sets 4 (some .int)) 1 21 0 0 D (tyz cI cJ cQ) [.ref b0, .int x1, .int x2] [(b0, .inr (7, [.ref b1, .ref b2, .ref b3, .int (nI cn), .int (th), .ref b4, .int (ty), .int (ap), .ref b5, .long (hh)])), (b1, .inl (cI, 424, .inl (sa))), (b2, .inl (cI, 1696, .inl (pa))), (b3, .inl (cI, 424, .inl (ad))), (b4, .inl (cI, 100, .inl (tx))), (b5, .inl (cI, 4, .inl (nb)))] (pstI (sa i) [(b0, .inr (7, [.ref b1, .ref b2, .ref b3, .int (nI (svC cn)), .int (0), .ref b4, .int (ty), .int (ap), .ref b5, .long (hh)])), (b1, .inl (cI, 424, .inl (upd sa i x2))), (b2, .inl (cI, 1696, .inl (kpa sa pa cn))), (b3, .inl (cI, 424, .inl (ad))), (b4, .inl (cI, 100, .inl (tx))), (b5, .inl (cI, 4, .inl (nb)))]) := by
  refine Ct.of RX7 (by decide) rfl (Nat.le_of_ble_eq_true rfl) ?_
  intro p e s m below meth c A C RC
  subst h1
  refine sw_aload_n 0 0 C dX7_sets_0 rfl rfl ?_
  refine sw_callVV 1 [0, 1, 2, 3, 4, 5] 0 C dX7_sets_1 (ct_X7_keeps l hcn) wK_X7_keeps wM_X7_67 wN_X7_keeps wS_X7_X7_keeps wI_X7 hd_X7_keeps rfl rfl rfl ⟨rfl, rfl⟩ ⟨Nat.le_of_ble_eq_true rfl, Nat.le_of_ble_eq_true rfl⟩ rfl rfl rfl rfl rfl ?_
  refine sw_ws [(_, .inr (7, [.ref _, .ref _, .ref _, .int _, .int _, .ref _, .int _, .int _, .ref _, .long _])), (_, .inl (_, _, .inl _)), (_, .inl (_, _, .inl _)), (_, .inl (_, _, .inl _)), (_, .inl (_, _, .inl _)), (_, .inl (_, _, .inl _))] rfl ?_
  refine sw_aload_n 4 0 C dX7_sets_4 rfl rfl ?_
  refine sw_get 5 0 0 C dX7_sets_5 rfl rfl (inA lwX7) (C.w wF_X7_7) rfl rfl rfl ?_
  refine sw_iload_n 8 1 C dX7_sets_8 rfl rfl ?_
  refine sw_ialdN 9 1 0 (i) C dX7_sets_9 rfl hi rfl rfl rfl ?_
  refine sw_istore_n 10 3 C dX7_sets_10 rfl rfl ?_
  refine sw_aload_n 11 0 C dX7_sets_11 rfl rfl ?_
  refine sw_get 12 0 0 C dX7_sets_12 rfl rfl (inA lwX7) (C.w wF_X7_7) rfl rfl rfl ?_
  refine sw_iload_n 15 1 C dX7_sets_15 rfl rfl ?_
  refine sw_iload_n 16 2 C dX7_sets_16 rfl rfl ?_
  refine sw_iastN 17 1 0 (i) C dX7_sets_17 rfl hi rfl rfl rfl ?_
  refine sw_ws [(_, .inr (7, [.ref _, .ref _, .ref _, .int _, .int _, .ref _, .int _, .int _, .ref _, .long _])), (_, .inl (_, _, .inl _)), (_, .inl (_, _, .inl _)), (_, .inl (_, _, .inl _)), (_, .inl (_, _, .inl _)), (_, .inl (_, _, .inl _))] rfl ?_
  refine sw_aload_n 18 0 C dX7_sets_18 rfl rfl ?_
  refine sw_iload_n 19 3 C dX7_sets_19 rfl rfl ?_
  refine sw_callVI 20 [0, 1, 2, 3, 4, 5] 1 C dX7_sets_20 (ct_X7_tells l) wK_X7_tells wM_X7_70 wN_X7_tells wS_X7_X7_tells wI_X7 hd_X7_tells rfl rfl rfl ⟨rfl, rfl⟩ ⟨Nat.le_of_ble_eq_true rfl, Nat.le_of_ble_eq_true rfl⟩ rfl rfl rfl rfl rfl ?_
  refine sw_ws [(_, .inr (7, [.ref _, .ref _, .ref _, .int _, .int _, .ref _, .int _, .int _, .ref _, .long _])), (_, .inl (_, _, .inl _)), (_, .inl (_, _, .inl _)), (_, .inl (_, _, .inl _)), (_, .inl (_, _, .inl _)), (_, .inl (_, _, .inl _))] rfl ?_
  refine sw_iret 23 C RC dX7_sets_23 ?_
  exact ⟨rfl, rfl⟩
set_option maxHeartbeats 4000000 in
set_option maxRecDepth 100000 in
theorem ct_X7_comes (l : Launch) {D : va_G} {cI cJ cQ : ClassId} {b0 b1 b2 b3 b4 b5 : Nat} {sa pa ad tx nb : Nat → Int32} {kp th ty ap : Int32} {hh : Int64} {S : StT} {B T : Nat} (hE : mE S sa) (hO : mO B T S) {x1 x2 x3 x4 x5 : Int32} (hn : zn S < 40) : Ct l yX7_comes (Cond.code yX7_comes cX7_comes 7 (some .int)) 1 23 0 0 D (tyz cI cJ cQ) [.ref b0, .int x1, .int x2, .int x3, .int x4, .int x5] [(b0, .inr (7, [.ref b1, .ref b2, .ref b3, .int (kp), .int (th), .ref b4, .int (ty), .int (ap), .ref b5, .long (hh)])), (b1, .inl (cI, 424, .inl (sa))), (b2, .inl (cI, 1696, .inl (pa))), (b3, .inl (cI, 424, .inl (ad))), (b4, .inl (cI, 100, .inl (tx))), (b5, .inl (cI, 4, .inl (nb)))] (pstE (zp S) (mE (pinS S x1 x2 x3 x4 x5)) (fun f => [(b0, .inr (7, [.ref b1, .ref b2, .ref b3, .int (kp), .int (th), .ref b4, .int (ty), .int (ap), .ref b5, .long (hh)])), (b1, .inl (cI, 424, .inl (f))), (b2, .inl (cI, 1696, .inl (pa))), (b3, .inl (cI, 424, .inl (ad))), (b4, .inl (cI, 100, .inl (tx))), (b5, .inl (cI, 4, .inl (nb)))])) := by
  refine Ct.of RX7 (by decide) rfl (Nat.le_of_ble_eq_true rfl) ?_
  intro p e s m below meth c A C RC
  refine sw_aload_n 0 0 C dX7_comes_0 rfl rfl ?_
  refine sw_get 1 0 0 C dX7_comes_1 rfl rfl (inA lwX7) (C.w wF_X7_7) rfl rfl rfl ?_
  refine sw_iconst 4 C dX7_comes_4 1 (by decide) ?_
  refine sw_ialdN 5 1 0 (1) C dX7_comes_5 rfl (by decide) rfl rfl rfl ?_
  refine sw_top (hE.n) ?_
  refine sw_istore 6 C dX7_comes_6 rfl ?_
  refine sw_aload_n 8 0 C dX7_comes_8 rfl rfl ?_
  refine sw_get 9 0 0 C dX7_comes_9 rfl rfl (inA lwX7) (C.w wF_X7_7) rfl rfl rfl ?_
  refine sw_iconst 12 C dX7_comes_12 1 (by decide) ?_
  refine sw_dup2 13 C dX7_comes_13 rfl rfl ?_
  refine sw_ialdN 14 1 0 (1) C dX7_comes_14 rfl (by decide) rfl rfl rfl ?_
  refine sw_top (hE.n) ?_
  refine sw_iconst 15 C dX7_comes_15 1 (by decide) ?_
  refine sw_iadd 16 C dX7_comes_16 ?_
  refine sw_top (nI_1 (zn S)) ?_
  refine sw_iastN 17 1 0 (1) C dX7_comes_17 rfl (by decide) rfl rfl rfl ?_
  refine sw_ws [(_, .inr (7, [.ref _, .ref _, .ref _, .int _, .int _, .ref _, .int _, .int _, .ref _, .long _])), (_, .inl (_, _, .inl _)), (_, .inl (_, _, .inl _)), (_, .inl (_, _, .inl _)), (_, .inl (_, _, .inl _)), (_, .inl (_, _, .inl _))] rfl ?_
  refine sw_aload_n 18 0 C dX7_comes_18 rfl rfl ?_
  refine sw_iload 19 C dX7_comes_19 rfl ?_
  refine sw_iconst 21 C dX7_comes_21 0 (by decide) ?_
  refine sw_aload_n 22 0 C dX7_comes_22 rfl rfl ?_
  refine sw_get 23 0 0 C dX7_comes_23 rfl rfl (inA lwX7) (C.w wF_X7_7) rfl rfl rfl ?_
  refine sw_iconst 26 C dX7_comes_26 2 (by decide) ?_
  refine sw_ialdN 27 1 0 (2) C dX7_comes_27 rfl (by decide) rfl rfl rfl ?_
  refine sw_top ((upd_ne (by decide)).trans hE.p) ?_
  refine sw_callVV 28 [0, 1, 2, 3, 4, 5] 3 C dX7_comes_28 (ct_X7_put l (zn S) 0 rfl rfl hn (by decide)) wK_X7_put wM_X7_47 wN_X7_put wS_X7_X7_put wI_X7 hd_X7_put rfl rfl rfl ⟨rfl, rfl⟩ ⟨Nat.le_of_ble_eq_true rfl, Nat.le_of_ble_eq_true rfl⟩ rfl rfl rfl rfl rfl ?_
  refine sw_ws [(_, .inr (7, [.ref _, .ref _, .ref _, .int _, .int _, .ref _, .int _, .int _, .ref _, .long _])), (_, .inl (_, _, .inl _)), (_, .inl (_, _, .inl _)), (_, .inl (_, _, .inl _)), (_, .inl (_, _, .inl _)), (_, .inl (_, _, .inl _))] rfl ?_
  refine sw_aload_n 31 0 C dX7_comes_31 rfl rfl ?_
  refine sw_iload 32 C dX7_comes_32 rfl ?_
  refine sw_iconst 34 C dX7_comes_34 1 (by decide) ?_
  refine sw_iload_n 35 1 C dX7_comes_35 rfl rfl ?_
  refine sw_callVV 36 [0, 1, 2, 3, 4, 5] 3 C dX7_comes_36 (ct_X7_put l (zn S) 1 rfl rfl hn (by decide)) wK_X7_put wM_X7_47 wN_X7_put wS_X7_X7_put wI_X7 hd_X7_put rfl rfl rfl ⟨rfl, rfl⟩ ⟨Nat.le_of_ble_eq_true rfl, Nat.le_of_ble_eq_true rfl⟩ rfl rfl rfl rfl rfl ?_
  refine sw_ws [(_, .inr (7, [.ref _, .ref _, .ref _, .int _, .int _, .ref _, .int _, .int _, .ref _, .long _])), (_, .inl (_, _, .inl _)), (_, .inl (_, _, .inl _)), (_, .inl (_, _, .inl _)), (_, .inl (_, _, .inl _)), (_, .inl (_, _, .inl _))] rfl ?_
  refine sw_aload_n 39 0 C dX7_comes_39 rfl rfl ?_
  refine sw_iload 40 C dX7_comes_40 rfl ?_
  refine sw_iconst 42 C dX7_comes_42 2 (by decide) ?_
  refine sw_iload_n 43 2 C dX7_comes_43 rfl rfl ?_
  refine sw_callVV 44 [0, 1, 2, 3, 4, 5] 3 C dX7_comes_44 (ct_X7_put l (zn S) 2 rfl rfl hn (by decide)) wK_X7_put wM_X7_47 wN_X7_put wS_X7_X7_put wI_X7 hd_X7_put rfl rfl rfl ⟨rfl, rfl⟩ ⟨Nat.le_of_ble_eq_true rfl, Nat.le_of_ble_eq_true rfl⟩ rfl rfl rfl rfl rfl ?_
  refine sw_ws [(_, .inr (7, [.ref _, .ref _, .ref _, .int _, .int _, .ref _, .int _, .int _, .ref _, .long _])), (_, .inl (_, _, .inl _)), (_, .inl (_, _, .inl _)), (_, .inl (_, _, .inl _)), (_, .inl (_, _, .inl _)), (_, .inl (_, _, .inl _))] rfl ?_
  refine sw_aload_n 47 0 C dX7_comes_47 rfl rfl ?_
  refine sw_iload 48 C dX7_comes_48 rfl ?_
  refine sw_iconst 50 C dX7_comes_50 3 (by decide) ?_
  refine sw_iload_n 51 3 C dX7_comes_51 rfl rfl ?_
  refine sw_iload 52 C dX7_comes_52 rfl ?_
  refine sw_callSIP 54 [] 2 C dX7_comes_54 (ct_X7_louder l) wK_X7_louder wM_X7_51 wT_X7_louder wI_X7 hd_X7_louder rfl ⟨rfl, rfl⟩ ⟨Nat.le_of_ble_eq_true rfl, Nat.le_of_ble_eq_true rfl⟩ rfl rfl rfl rfl ?_
  refine sw_callVV 57 [0, 1, 2, 3, 4, 5] 3 C dX7_comes_57 (ct_X7_put l (zn S) 3 rfl rfl hn (by decide)) wK_X7_put wM_X7_47 wN_X7_put wS_X7_X7_put wI_X7 hd_X7_put rfl rfl rfl ⟨rfl, rfl⟩ ⟨Nat.le_of_ble_eq_true rfl, Nat.le_of_ble_eq_true rfl⟩ rfl rfl rfl rfl rfl ?_
  refine sw_ws [(_, .inr (7, [.ref _, .ref _, .ref _, .int _, .int _, .ref _, .int _, .int _, .ref _, .long _])), (_, .inl (_, _, .inl _)), (_, .inl (_, _, .inl _)), (_, .inl (_, _, .inl _)), (_, .inl (_, _, .inl _)), (_, .inl (_, _, .inl _))] rfl ?_
  refine sw_aload_n 60 0 C dX7_comes_60 rfl rfl ?_
  refine sw_iload 61 C dX7_comes_61 rfl ?_
  refine sw_iconst 63 C dX7_comes_63 4 (by decide) ?_
  refine sw_iconst 64 C dX7_comes_64 0 (by decide) ?_
  refine sw_callVV 65 [0, 1, 2, 3, 4, 5] 3 C dX7_comes_65 (ct_X7_put l (zn S) 4 rfl rfl hn (by decide)) wK_X7_put wM_X7_47 wN_X7_put wS_X7_X7_put wI_X7 hd_X7_put rfl rfl rfl ⟨rfl, rfl⟩ ⟨Nat.le_of_ble_eq_true rfl, Nat.le_of_ble_eq_true rfl⟩ rfl rfl rfl rfl rfl ?_
  refine sw_ws [(_, .inr (7, [.ref _, .ref _, .ref _, .int _, .int _, .ref _, .int _, .int _, .ref _, .long _])), (_, .inl (_, _, .inl _)), (_, .inl (_, _, .inl _)), (_, .inl (_, _, .inl _)), (_, .inl (_, _, .inl _)), (_, .inl (_, _, .inl _))] rfl ?_
  refine sw_aload_n 68 0 C dX7_comes_68 rfl rfl ?_
  refine sw_iload 69 C dX7_comes_69 rfl ?_
  refine sw_iconst 71 C dX7_comes_71 5 (by decide) ?_
  refine sw_iconst 72 C dX7_comes_72 0 (by decide) ?_
  refine sw_callVV 73 [0, 1, 2, 3, 4, 5] 3 C dX7_comes_73 (ct_X7_put l (zn S) 5 rfl rfl hn (by decide)) wK_X7_put wM_X7_47 wN_X7_put wS_X7_X7_put wI_X7 hd_X7_put rfl rfl rfl ⟨rfl, rfl⟩ ⟨Nat.le_of_ble_eq_true rfl, Nat.le_of_ble_eq_true rfl⟩ rfl rfl rfl rfl rfl ?_
  refine sw_ws [(_, .inr (7, [.ref _, .ref _, .ref _, .int _, .int _, .ref _, .int _, .int _, .ref _, .long _])), (_, .inl (_, _, .inl _)), (_, .inl (_, _, .inl _)), (_, .inl (_, _, .inl _)), (_, .inl (_, _, .inl _)), (_, .inl (_, _, .inl _))] rfl ?_
  refine sw_aload_n 76 0 C dX7_comes_76 rfl rfl ?_
  refine sw_iload 77 C dX7_comes_77 rfl ?_
  refine sw_bipush 79 C dX7_comes_79 6 (by decide) ?_
  refine sw_iload 81 C dX7_comes_81 rfl ?_
  refine sw_callVV 83 [0, 1, 2, 3, 4, 5] 3 C dX7_comes_83 (ct_X7_put l (zn S) 6 rfl rfl hn (by decide)) wK_X7_put wM_X7_47 wN_X7_put wS_X7_X7_put wI_X7 hd_X7_put rfl rfl rfl ⟨rfl, rfl⟩ ⟨Nat.le_of_ble_eq_true rfl, Nat.le_of_ble_eq_true rfl⟩ rfl rfl rfl rfl rfl ?_
  refine sw_ws [(_, .inr (7, [.ref _, .ref _, .ref _, .int _, .int _, .ref _, .int _, .int _, .ref _, .long _])), (_, .inl (_, _, .inl _)), (_, .inl (_, _, .inl _)), (_, .inl (_, _, .inl _)), (_, .inl (_, _, .inl _)), (_, .inl (_, _, .inl _))] rfl ?_
  refine sw_aload_n 86 0 C dX7_comes_86 rfl rfl ?_
  refine sw_iload 87 C dX7_comes_87 rfl ?_
  refine sw_bipush 89 C dX7_comes_89 7 (by decide) ?_
  refine sw_iload 91 C dX7_comes_91 rfl ?_
  refine sw_callVV 93 [0, 1, 2, 3, 4, 5] 3 C dX7_comes_93 (ct_X7_put l (zn S) 7 rfl rfl hn (by decide)) wK_X7_put wM_X7_47 wN_X7_put wS_X7_X7_put wI_X7 hd_X7_put rfl rfl rfl ⟨rfl, rfl⟩ ⟨Nat.le_of_ble_eq_true rfl, Nat.le_of_ble_eq_true rfl⟩ rfl rfl rfl rfl rfl ?_
  refine sw_ws [(_, .inr (7, [.ref _, .ref _, .ref _, .int _, .int _, .ref _, .int _, .int _, .ref _, .long _])), (_, .inl (_, _, .inl _)), (_, .inl (_, _, .inl _)), (_, .inl (_, _, .inl _)), (_, .inl (_, _, .inl _)), (_, .inl (_, _, .inl _))] rfl ?_
  refine sw_aload_n 96 0 C dX7_comes_96 rfl rfl ?_
  refine sw_get 97 0 0 C dX7_comes_97 rfl rfl (inA lwX7) (C.w wF_X7_7) rfl rfl rfl ?_
  refine sw_iconst 100 C dX7_comes_100 2 (by decide) ?_
  refine sw_dup2 101 C dX7_comes_101 rfl rfl ?_
  refine sw_ialdN 102 1 0 (2) C dX7_comes_102 rfl (by decide) rfl rfl rfl ?_
  refine sw_top (show _ = zp S by
    repeat (first | rw [upd_ne (by omega)] | rw [upd_at (by omega)])
    exact hE.p) ?_
  refine sw_iconst 103 C dX7_comes_103 1 (by decide) ?_
  refine sw_iadd 104 C dX7_comes_104 ?_
  refine sw_iastN 105 1 0 (2) C dX7_comes_105 rfl (by decide) rfl rfl rfl ?_
  refine sw_ws [(_, .inr (7, [.ref _, .ref _, .ref _, .int _, .int _, .ref _, .int _, .int _, .ref _, .long _])), (_, .inl (_, _, .inl _)), (_, .inl (_, _, .inl _)), (_, .inl (_, _, .inl _)), (_, .inl (_, _, .inl _)), (_, .inl (_, _, .inl _))] rfl ?_
  refine sw_aload_n 106 0 C dX7_comes_106 rfl rfl ?_
  refine sw_get 107 0 0 C dX7_comes_107 rfl rfl (inA lwX7) (C.w wF_X7_7) rfl rfl rfl ?_
  refine sw_iconst 110 C dX7_comes_110 2 (by decide) ?_
  refine sw_ialdN 111 1 0 (2) C dX7_comes_111 rfl (by decide) rfl rfl rfl ?_
  refine sw_top (upd_at rfl) ?_
  refine sw_iconst 112 C dX7_comes_112 1 (by decide) ?_
  refine sw_isub 113 C dX7_comes_113 ?_
  refine sw_iret 114 C RC dX7_comes_114 ?_
  refine ⟨congrArg some (congrArg Value.int ?_), _, mE_pin hE x1 x2 x3 x4 x5, rfl⟩
  rw [Int32.add_sub_cancel]
set_option maxHeartbeats 4000000 in
set_option maxRecDepth 100000 in
theorem lp_X7_leavesB {l : Launch} {p : Program} {e : Env} {s : State} {m : MethodId} {args : Array Value} {below : List Frame} {meth : Method} {c : Code} {A : Nat → Prop} {D : va_G} {cI cJ cQ : ClassId} {b0 b1 b2 b3 b4 b5 : Nat} {pa ad tx nb : Nat → Int32} {kp th ty ap : Int32} {hh : Int64} {q : Nat → Int32} {i nn : Nat} {P : (Nat → Int32) → Prop} {x1 x2 r : Int32} (hi : i ≤ nn) (hn : nn < 40) (hq : q 1 = nI nn) (hP : P (psh q (104 + i * 8) (104 + nn * 8))) (C : CC p s m args c cX7_leaves 5 RX7 (Cond.code yX7_leaves cX7_leaves 5 (some .int) :: lw_all) D (tyz cI cJ cQ) A s.heap) (RC : meth.sig.returnType = (some .int) ∧ meth.locks = false ∧ meth.name = yX7_leaves.name) : ∀ (fu j : Nat), j ≤ nn * 8 - i * 8 → nn * 8 - i * 8 + 1 ≤ j + fu →  ∀ (xi : Int32), (xi = nI (104 + i * 8 + j)) →  sw p l e ({ frames := 2, cells := 0, slots := 0, locals := 45 } : Room) s m args below meth c D A s.heap 5 0 0 (MQ below (ctQ D (tyz cI cJ cQ) A (pstE r P (fun f => [(b0, .inr (7, [.ref b1, .ref b2, .ref b3, .int (kp), .int (th), .ref b4, .int (ty), .int (ap), .ref b5, .long (hh)])), (b1, .inl (cI, 424, .inl (f))), (b2, .inl (cI, 1696, .inl (pa))), (b3, .inl (cI, 424, .inl (ad))), (b4, .inl (cI, 100, .inl (tx))), (b5, .inl (cI, 4, .inl (nb)))]))) args s 0 0 A) [(b0, .inr (7, [.ref b1, .ref b2, .ref b3, .int (kp), .int (th), .ref b4, .int (ty), .int (ap), .ref b5, .long (hh)])), (b1, .inl (cI, 424, .inl (psh q (104 + i * 8) (104 + i * 8 + j)))), (b2, .inl (cI, 1696, .inl (pa))), (b3, .inl (cI, 424, .inl (ad))), (b4, .inl (cI, 100, .inl (tx))), (b5, .inl (cI, 4, .inl (nb)))] 230 [(0, .ref b0), (1, .int x1), (2, .int x2), (3, .int r), (4, .int xi)] [] := by
  intro fu
  induction fu with
  | zero => intro j h1 h2; exact absurd h2 (by omega)
  | succ fu ih =>
    intro j hi hf  xi exi
    subst exi
    refine sw_iload 230 C dX7_leaves_230 rfl ?_
    refine sw_bipush 232 C dX7_leaves_232 104 (by decide) ?_
    refine sw_bipush 234 C dX7_leaves_234 8 (by decide) ?_
    refine sw_aload_n 236 0 C dX7_leaves_236 rfl rfl ?_
    refine sw_get 237 0 0 C dX7_leaves_237 rfl rfl (inA lwX7) (C.w wF_X7_7) rfl rfl rfl ?_
    refine sw_iconst 240 C dX7_leaves_240 1 (by decide) ?_
    refine sw_ialdN 241 1 0 (1) C dX7_leaves_241 rfl (by decide) rfl rfl rfl ?_
    refine sw_top (show _ = nI nn from (psh_out (by omega)).trans hq) ?_
    refine sw_imul 242 C dX7_leaves_242 ?_
    refine sw_iadd 243 C dX7_leaves_243 ?_
    refine sw_top (show (104 : Int32) + 8 * nI nn = nI (104 + nn * 8) by rw [show (104 : Int32) = nI 104 from rfl, show (8 : Int32) = nI 8 from rfl, pk_mul, nI_add, Nat.mul_comm 8]) ?_
    refine sw_icmp_ge 244 270 C dX7_leaves_244 (by decide) (fun c_244 => ?_) (fun c_244 => ?_)
    · have hz : j = nn * 8 - i * 8 := by
        have := nI_ge' (by omega) c_244 (by omega)
        omega
      refine sw_iload_n 270 3 C dX7_leaves_270 rfl rfl ?_
      refine sw_iret 271 C RC dX7_leaves_271 ?_
      exact ⟨rfl, _, hP, by rw [show 104 + nn * 8 = 104 + i * 8 + j by omega]⟩
    · have hlt : j < nn * 8 - i * 8 := by
        rcases Nat.lt_or_ge j (nn * 8 - i * 8) with q2 | q2
        · exact q2
        · exact absurd (nI_le (show 104 + nn * 8 ≤ 104 + i * 8 + j by omega) (by omega)) c_244
      refine sw_aload_n 247 0 C dX7_leaves_247 rfl rfl ?_
      refine sw_get 248 0 0 C dX7_leaves_248 rfl rfl (inA lwX7) (C.w wF_X7_7) rfl rfl rfl ?_
      refine sw_iload 251 C dX7_leaves_251 rfl ?_
      refine sw_aload_n 253 0 C dX7_leaves_253 rfl rfl ?_
      refine sw_get 254 0 0 C dX7_leaves_254 rfl rfl (inA lwX7) (C.w wF_X7_7) rfl rfl rfl ?_
      refine sw_iload 257 C dX7_leaves_257 rfl ?_
      refine sw_bipush 259 C dX7_leaves_259 8 (by decide) ?_
      refine sw_iadd 261 C dX7_leaves_261 ?_
      refine sw_ialdN 262 1 0 (104 + i * 8 + j + 8) C dX7_leaves_262 (by rw [show (8 : Int32) = nI 8 from rfl, nI_add]) (by omega) rfl rfl rfl ?_
      refine sw_iastN 263 1 0 (104 + i * 8 + j) C dX7_leaves_263 rfl (by omega) rfl rfl rfl ?_
      refine sw_ws [(_, .inr (7, [.ref _, .ref _, .ref _, .int _, .int _, .ref _, .int _, .int _, .ref _, .long _])), (_, .inl (_, _, .inl _)), (_, .inl (_, _, .inl _)), (_, .inl (_, _, .inl _)), (_, .inl (_, _, .inl _)), (_, .inl (_, _, .inl _))] rfl ?_
      refine sw_iinc 264 C 1 dX7_leaves_264 (by decide) rfl rfl ?_
      refine sw_goto 267 230 C dX7_leaves_267 (by decide) ?_
      refine sw_ws [(b0, .inr (7, [.ref b1, .ref b2, .ref b3, .int (kp), .int (th), .ref b4, .int (ty), .int (ap), .ref b5, .long (hh)])), (b1, .inl (cI, 424, .inl (psh q (104 + i * 8) (104 + i * 8 + (j + 1))))), (b2, .inl (cI, 1696, .inl (pa))), (b3, .inl (cI, 424, .inl (ad))), (b4, .inl (cI, 100, .inl (tx))), (b5, .inl (cI, 4, .inl (nb)))] (by rw [← Nat.add_assoc, ← psh_s (m := q) (show 104 + i * 8 ≤ 104 + i * 8 + j by omega)]) ?_
      exact sw_loc (ih (j + 1) (by omega) (by omega) _ (by rw [nI_1]; rfl)) rfl
theorem lgc_m {c : Nat} (h : c ≤ 16) : nI c + (if nI c < 16 then 1 else 0) = nI (lgc c) := by
  unfold lgc
  by_cases q : c < 16
  · rw [if_pos q, if_pos (show nI c < 16 from nI_lt q (by decide)), nI_1]
  · rw [if_neg q, if_neg (fun e : nI c < 16 => q ((nI_ltI (b := 16) (by omega) (by decide)).mp e)), Int32.add_zero]
set_option maxHeartbeats 4000000 in
set_option maxRecDepth 100000 in
theorem lp_X7_leavesA {l : Launch} {p : Program} {e : Env} {s : State} {m : MethodId} {args : Array Value} {below : List Frame} {meth : Method} {c : Code} {A : Nat → Prop} {D : va_G} {cI cJ cQ : ClassId} {b0 b1 b2 b3 b4 b5 : Nat} {sa pa ad tx nb : Nat → Int32} {kp th ty ap : Int32} {hh : Int64} {S : StT} (hE : mE S sa) (hO : SI S) (i w : Nat) (hiS : i < zn S) (hw : w < 3) (C : CC p s m args c cX7_leaves 5 RX7 (Cond.code yX7_leaves cX7_leaves 5 (some .int) :: lw_all) D (tyz cI cJ cQ) A s.heap) (RC : meth.sig.returnType = (some .int) ∧ meth.locks = false ∧ meth.name = yX7_leaves.name) : ∀ (fu j : Nat), j ≤ 75 → 75 + 1 ≤ j + fu →  ∀ (xi : Int32), (xi = nI (79 - j)) →  sw p l e ({ frames := 2, cells := 0, slots := 0, locals := 45 } : Room) s m args below meth c D A s.heap 5 0 0 (MQ below (ctQ D (tyz cI cJ cQ) A (pstE (gbk (zf S) (zg S) i w) (mE (lvS S i w)) (fun f => [(b0, .inr (7, [.ref b1, .ref b2, .ref b3, .int (kp), .int (th), .ref b4, .int (ty), .int (ap), .ref b5, .long (hh)])), (b1, .inl (cI, 424, .inl (f))), (b2, .inl (cI, 1696, .inl (pa))), (b3, .inl (cI, 424, .inl (ad))), (b4, .inl (cI, 100, .inl (tx))), (b5, .inl (cI, 4, .inl (nb)))]))) args s 0 0 A) [(b0, .inr (7, [.ref b1, .ref b2, .ref b3, .int (kp), .int (th), .ref b4, .int (ty), .int (ap), .ref b5, .long (hh)])), (b1, .inl (cI, 424, .inl (lsh sa (79 - j)))), (b2, .inl (cI, 1696, .inl (pa))), (b3, .inl (cI, 424, .inl (ad))), (b4, .inl (cI, 100, .inl (tx))), (b5, .inl (cI, 4, .inl (nb)))] 11 [(0, .ref b0), (1, .int (nI i)), (2, .int (nI w)), (3, .int (gbk (zf S) (zg S) i w)), (4, .int xi)] [] := by
  intro fu
  induction fu with
  | zero => intro j h1 h2; exact absurd h2 (by omega)
  | succ fu ih =>
    intro j hi hf  xi exi
    subst exi
    refine sw_iload 11 C dX7_leaves_11 rfl ?_
    refine sw_iconst 13 C dX7_leaves_13 4 (by decide) ?_
    refine sw_icmp_le 14 45 C dX7_leaves_14 (by decide) (fun c_14 => ?_) (fun c_14 => ?_)
    · obtain rfl : j = 75 := by
        rcases Nat.lt_or_ge j 75 with q | q
        · exact absurd c_14 (nI_ge (a := 4) (by omega) (by omega))
        · omega
      have hn := hO.n
      have hsd := hO.si.2.2 i hiS
      have hs1 := hsd.2
      refine sw_aload_n 45 0 C dX7_leaves_45 rfl rfl ?_
      refine sw_get 46 0 0 C dX7_leaves_46 rfl rfl (inA lwX7) (C.w wF_X7_7) rfl rfl rfl ?_
      refine sw_bipush 49 C dX7_leaves_49 24 (by decide) ?_
      refine sw_aload_n 51 0 C dX7_leaves_51 rfl rfl ?_
      refine sw_iload_n 52 1 C dX7_leaves_52 rfl rfl ?_
      refine sw_iconst 53 C dX7_leaves_53 0 (by decide) ?_
      refine sw_callVIP 54 [0, 1, 2, 3, 4, 5] 2 C dX7_leaves_54 (ct_X7_of l i 0 rfl rfl (by omega) (by decide)) wK_X7_of wM_X7_32 wN_X7_of wS_X7_X7_of wI_X7 hd_X7_of rfl rfl rfl ⟨rfl, rfl⟩ ⟨Nat.le_of_ble_eq_true rfl, Nat.le_of_ble_eq_true rfl⟩ rfl rfl rfl rfl ?_
      refine sw_top (show _ = zf S (i * 8 + 7) by
        repeat (first | rw [upd_ne (by omega)] | rw [upd_at (by omega)])
        exact (lsh_out (by omega)).trans (hE.row i 7 hiS (by decide))) ?_
      refine sw_iastN 57 1 0 (24) C dX7_leaves_57 rfl (by decide) rfl rfl rfl ?_
      refine sw_ws [(_, .inr (7, [.ref _, .ref _, .ref _, .int _, .int _, .ref _, .int _, .int _, .ref _, .long _])), (_, .inl (_, _, .inl _)), (_, .inl (_, _, .inl _)), (_, .inl (_, _, .inl _)), (_, .inl (_, _, .inl _)), (_, .inl (_, _, .inl _))] rfl ?_
      refine sw_aload_n 58 0 C dX7_leaves_58 rfl rfl ?_
      refine sw_get 59 0 0 C dX7_leaves_59 rfl rfl (inA lwX7) (C.w wF_X7_7) rfl rfl rfl ?_
      refine sw_bipush 62 C dX7_leaves_62 25 (by decide) ?_
      refine sw_iload_n 64 2 C dX7_leaves_64 rfl rfl ?_
      refine sw_iastN 65 1 0 (25) C dX7_leaves_65 rfl (by decide) rfl rfl rfl ?_
      refine sw_ws [(_, .inr (7, [.ref _, .ref _, .ref _, .int _, .int _, .ref _, .int _, .int _, .ref _, .long _])), (_, .inl (_, _, .inl _)), (_, .inl (_, _, .inl _)), (_, .inl (_, _, .inl _)), (_, .inl (_, _, .inl _)), (_, .inl (_, _, .inl _))] rfl ?_
      refine sw_aload_n 66 0 C dX7_leaves_66 rfl rfl ?_
      refine sw_get 67 0 0 C dX7_leaves_67 rfl rfl (inA lwX7) (C.w wF_X7_7) rfl rfl rfl ?_
      refine sw_bipush 70 C dX7_leaves_70 26 (by decide) ?_
      refine sw_aload_n 72 0 C dX7_leaves_72 rfl rfl ?_
      refine sw_iload_n 73 1 C dX7_leaves_73 rfl rfl ?_
      refine sw_iconst 74 C dX7_leaves_74 4 (by decide) ?_
      refine sw_callVIP 75 [0, 1, 2, 3, 4, 5] 2 C dX7_leaves_75 (ct_X7_of l i 4 rfl rfl (by omega) (by decide)) wK_X7_of wM_X7_32 wN_X7_of wS_X7_X7_of wI_X7 hd_X7_of rfl rfl rfl ⟨rfl, rfl⟩ ⟨Nat.le_of_ble_eq_true rfl, Nat.le_of_ble_eq_true rfl⟩ rfl rfl rfl rfl ?_
      refine sw_top (show _ = zf S (i * 8 + 3) by
        repeat (first | rw [upd_ne (by omega)] | rw [upd_at (by omega)])
        exact (lsh_out (by omega)).trans (hE.row i 3 hiS (by decide))) ?_
      refine sw_iastN 78 1 0 (26) C dX7_leaves_78 rfl (by decide) rfl rfl rfl ?_
      refine sw_ws [(_, .inr (7, [.ref _, .ref _, .ref _, .int _, .int _, .ref _, .int _, .int _, .ref _, .long _])), (_, .inl (_, _, .inl _)), (_, .inl (_, _, .inl _)), (_, .inl (_, _, .inl _)), (_, .inl (_, _, .inl _)), (_, .inl (_, _, .inl _))] rfl ?_
      refine sw_aload_n 79 0 C dX7_leaves_79 rfl rfl ?_
      refine sw_get 80 0 0 C dX7_leaves_80 rfl rfl (inA lwX7) (C.w wF_X7_7) rfl rfl rfl ?_
      refine sw_bipush 83 C dX7_leaves_83 27 (by decide) ?_
      refine sw_iload_n 85 3 C dX7_leaves_85 rfl rfl ?_
      refine sw_iastN 86 1 0 (27) C dX7_leaves_86 rfl (by decide) rfl rfl rfl ?_
      refine sw_ws [(_, .inr (7, [.ref _, .ref _, .ref _, .int _, .int _, .ref _, .int _, .int _, .ref _, .long _])), (_, .inl (_, _, .inl _)), (_, .inl (_, _, .inl _)), (_, .inl (_, _, .inl _)), (_, .inl (_, _, .inl _)), (_, .inl (_, _, .inl _))] rfl ?_
      refine sw_aload_n 87 0 C dX7_leaves_87 rfl rfl ?_
      refine sw_get 88 0 0 C dX7_leaves_88 rfl rfl (inA lwX7) (C.w wF_X7_7) rfl rfl rfl ?_
      refine sw_bipush 91 C dX7_leaves_91 28 (by decide) ?_
      refine sw_aload_n 93 0 C dX7_leaves_93 rfl rfl ?_
      refine sw_iload_n 94 1 C dX7_leaves_94 rfl rfl ?_
      refine sw_iconst 95 C dX7_leaves_95 3 (by decide) ?_
      refine sw_callVIP 96 [0, 1, 2, 3, 4, 5] 2 C dX7_leaves_96 (ct_X7_of l i 3 rfl rfl (by omega) (by decide)) wK_X7_of wM_X7_32 wN_X7_of wS_X7_X7_of wI_X7 hd_X7_of rfl rfl rfl ⟨rfl, rfl⟩ ⟨Nat.le_of_ble_eq_true rfl, Nat.le_of_ble_eq_true rfl⟩ rfl rfl rfl rfl ?_
      refine sw_top (show _ = zf S (i * 8 + 2) by
        repeat (first | rw [upd_ne (by omega)] | rw [upd_at (by omega)])
        exact (lsh_out (by omega)).trans (hE.row i 2 hiS (by decide))) ?_
      refine sw_iastN 99 1 0 (28) C dX7_leaves_99 rfl (by decide) rfl rfl rfl ?_
      refine sw_ws [(_, .inr (7, [.ref _, .ref _, .ref _, .int _, .int _, .ref _, .int _, .int _, .ref _, .long _])), (_, .inl (_, _, .inl _)), (_, .inl (_, _, .inl _)), (_, .inl (_, _, .inl _)), (_, .inl (_, _, .inl _)), (_, .inl (_, _, .inl _))] rfl ?_
      refine sw_aload_n 100 0 C dX7_leaves_100 rfl rfl ?_
      refine sw_get 101 0 0 C dX7_leaves_101 rfl rfl (inA lwX7) (C.w wF_X7_7) rfl rfl rfl ?_
      refine sw_bipush 104 C dX7_leaves_104 11 (by decide) ?_
      refine sw_dup2 106 C dX7_leaves_106 rfl rfl ?_
      refine sw_ialdN 107 1 0 (11) C dX7_leaves_107 rfl (by decide) rfl rfl rfl ?_
      refine sw_top (show _ = nI (zl S) by
        repeat (first | rw [upd_ne (by omega)] | rw [upd_at (by omega)])
        exact (lsh_out (by omega)).trans hE.l) ?_
      refine sw_aload_n 108 0 C dX7_leaves_108 rfl rfl ?_
      refine sw_get 109 0 0 C dX7_leaves_109 rfl rfl (inA lwX7) (C.w wF_X7_7) rfl rfl rfl ?_
      refine sw_bipush 112 C dX7_leaves_112 11 (by decide) ?_
      refine sw_ialdN 114 1 0 (11) C dX7_leaves_114 rfl (by decide) rfl rfl rfl ?_
      refine sw_top (show _ = nI (zl S) by
        repeat (first | rw [upd_ne (by omega)] | rw [upd_at (by omega)])
        exact (lsh_out (by omega)).trans hE.l) ?_
      refine sw_bipush 115 C dX7_leaves_115 16 (by decide) ?_
      refine sw_jn2 125 (if nI (zl S) < 16 then 1 else 0) (fun hj_117 => ?_) ?_
      · refine sw_icmp_ge 117 124 C dX7_leaves_117 (by decide) (fun c_117 => ?_) (fun c_117 => ?_)
        · refine sw_iconst 124 C dX7_leaves_124 0 (by decide) ?_
          exact sw_top ((if_neg (Int32.not_lt.mpr c_117)).symm) hj_117
        · refine sw_iconst 120 C dX7_leaves_120 1 (by decide) ?_
          refine sw_goto 121 125 C dX7_leaves_121 (by decide) ?_
          exact sw_top ((if_pos (Int32.not_le.mp c_117)).symm) hj_117
      refine sw_iadd 125 C dX7_leaves_125 ?_
      refine sw_top (show nI (zl S) + (if nI (zl S) < 16 then 1 else 0) = nI (lgc (zl S)) from lgc_m hO.si.2.1) ?_
      refine sw_iastN 126 1 0 (11) C dX7_leaves_126 rfl (by decide) rfl rfl rfl ?_
      refine sw_ws [(_, .inr (7, [.ref _, .ref _, .ref _, .int _, .int _, .ref _, .int _, .int _, .ref _, .long _])), (_, .inl (_, _, .inl _)), (_, .inl (_, _, .inl _)), (_, .inl (_, _, .inl _)), (_, .inl (_, _, .inl _)), (_, .inl (_, _, .inl _))] rfl ?_
      refine sw_aload_n 127 0 C dX7_leaves_127 rfl rfl ?_
      refine sw_get 128 0 0 C dX7_leaves_128 rfl rfl (inA lwX7) (C.w wF_X7_7) rfl rfl rfl ?_
      refine sw_iconst 131 C dX7_leaves_131 3 (by decide) ?_
      refine sw_iload_n 132 2 C dX7_leaves_132 rfl rfl ?_
      refine sw_iadd 133 C dX7_leaves_133 ?_
      refine sw_dup2 134 C dX7_leaves_134 rfl rfl ?_
      refine sw_ialdN 135 1 0 (3 + w) C dX7_leaves_135 (by rw [show (3 : Int32) = nI 3 from rfl, nI_add]) (by omega) rfl rfl rfl ?_
      refine sw_top (show _ = zlv S w by
        repeat (first | rw [upd_ne (by omega)] | rw [upd_at (by omega)])
        exact (lsh_out (by omega)).trans (hE.v w hw)) ?_
      refine sw_iconst 136 C dX7_leaves_136 1 (by decide) ?_
      refine sw_iadd 137 C dX7_leaves_137 ?_
      refine sw_iastN 138 1 0 (3 + w) C dX7_leaves_138 (by rw [show (3 : Int32) = nI 3 from rfl, nI_add]) (by omega) rfl rfl rfl ?_
      refine sw_ws [(_, .inr (7, [.ref _, .ref _, .ref _, .int _, .int _, .ref _, .int _, .int _, .ref _, .long _])), (_, .inl (_, _, .inl _)), (_, .inl (_, _, .inl _)), (_, .inl (_, _, .inl _)), (_, .inl (_, _, .inl _)), (_, .inl (_, _, .inl _))] rfl ?_
      refine sw_aload_n 139 0 C dX7_leaves_139 rfl rfl ?_
      refine sw_get 140 0 0 C dX7_leaves_140 rfl rfl (inA lwX7) (C.w wF_X7_7) rfl rfl rfl ?_
      refine sw_bipush 143 C dX7_leaves_143 7 (by decide) ?_
      refine sw_dup2 145 C dX7_leaves_145 rfl rfl ?_
      refine sw_ialdN 146 1 0 (7) C dX7_leaves_146 rfl (by decide) rfl rfl rfl ?_
      refine sw_top (show _ = sgb (zbk S) 8 by
        repeat (first | rw [upd_ne (by omega)] | rw [upd_at (by omega)])
        exact (lsh_out (by omega)).trans hE.b) ?_
      refine sw_iload_n 147 3 C dX7_leaves_147 rfl rfl ?_
      refine sw_iadd 148 C dX7_leaves_148 ?_
      refine sw_iastN 149 1 0 (7) C dX7_leaves_149 rfl (by decide) rfl rfl rfl ?_
      refine sw_ws [(_, .inr (7, [.ref _, .ref _, .ref _, .int _, .int _, .ref _, .int _, .int _, .ref _, .long _])), (_, .inl (_, _, .inl _)), (_, .inl (_, _, .inl _)), (_, .inl (_, _, .inl _)), (_, .inl (_, _, .inl _)), (_, .inl (_, _, .inl _))] rfl ?_
      refine sw_aload_n 150 0 C dX7_leaves_150 rfl rfl ?_
      refine sw_get 151 0 0 C dX7_leaves_151 rfl rfl (inA lwX7) (C.w wF_X7_7) rfl rfl rfl ?_
      refine sw_bipush 154 C dX7_leaves_154 6 (by decide) ?_
      refine sw_dup2 156 C dX7_leaves_156 rfl rfl ?_
      refine sw_ialdN 157 1 0 (6) C dX7_leaves_157 rfl (by decide) rfl rfl rfl ?_
      refine sw_top (show _ = zk S by
        repeat (first | rw [upd_ne (by omega)] | rw [upd_at (by omega)])
        exact (lsh_out (by omega)).trans hE.k) ?_
      refine sw_aload_n 158 0 C dX7_leaves_158 rfl rfl ?_
      refine sw_iload_n 159 1 C dX7_leaves_159 rfl rfl ?_
      refine sw_bipush 160 C dX7_leaves_160 7 (by decide) ?_
      refine sw_callVIP 162 [0, 1, 2, 3, 4, 5] 2 C dX7_leaves_162 (ct_X7_of l i 7 rfl rfl (by omega) (by decide)) wK_X7_of wM_X7_32 wN_X7_of wS_X7_X7_of wI_X7 hd_X7_of rfl rfl rfl ⟨rfl, rfl⟩ ⟨Nat.le_of_ble_eq_true rfl, Nat.le_of_ble_eq_true rfl⟩ rfl rfl rfl rfl ?_
      refine sw_top (show _ = zf S (i * 8 + 6) by
        repeat (first | rw [upd_ne (by omega)] | rw [upd_at (by omega)])
        exact (lsh_out (by omega)).trans (hE.row i 6 hiS (by decide))) ?_
      refine sw_iload_n 165 3 C dX7_leaves_165 rfl rfl ?_
      refine sw_isub 166 C dX7_leaves_166 ?_
      refine sw_iadd 167 C dX7_leaves_167 ?_
      refine sw_iastN 168 1 0 (6) C dX7_leaves_168 rfl (by decide) rfl rfl rfl ?_
      refine sw_ws [(_, .inr (7, [.ref _, .ref _, .ref _, .int _, .int _, .ref _, .int _, .int _, .ref _, .long _])), (_, .inl (_, _, .inl _)), (_, .inl (_, _, .inl _)), (_, .inl (_, _, .inl _)), (_, .inl (_, _, .inl _)), (_, .inl (_, _, .inl _))] rfl ?_
      refine sw_aload_n 169 0 C dX7_leaves_169 rfl rfl ?_
      refine sw_get 170 0 0 C dX7_leaves_170 rfl rfl (inA lwX7) (C.w wF_X7_7) rfl rfl rfl ?_
      refine sw_bipush 173 C dX7_leaves_173 16 (by decide) ?_
      refine sw_aload_n 175 0 C dX7_leaves_175 rfl rfl ?_
      refine sw_iload_n 176 1 C dX7_leaves_176 rfl rfl ?_
      refine sw_iconst 177 C dX7_leaves_177 1 (by decide) ?_
      refine sw_callVIP 178 [0, 1, 2, 3, 4, 5] 2 C dX7_leaves_178 (ct_X7_of l i 1 rfl rfl (by omega) (by decide)) wK_X7_of wM_X7_32 wN_X7_of wS_X7_X7_of wI_X7 hd_X7_of rfl rfl rfl ⟨rfl, rfl⟩ ⟨Nat.le_of_ble_eq_true rfl, Nat.le_of_ble_eq_true rfl⟩ rfl rfl rfl rfl ?_
      refine sw_top (show _ = zf S (i * 8 + 0) by
        repeat (first | rw [upd_ne (by omega)] | rw [upd_at (by omega)])
        exact (lsh_out (by omega)).trans (hE.row i 0 hiS (by decide))) ?_
      refine sw_iadd 181 C dX7_leaves_181 ?_
      refine sw_top (show (16 : Int32) + zf S (i * 8 + 0) = nI (16 + (zf S (i * 8 + 0)).toNatClampNeg) by rw [show (16 : Int32) = nI 16 from rfl, ← nI_add, ← hsd.1]) ?_
      refine sw_dup2 182 C dX7_leaves_182 rfl rfl ?_
      refine sw_ialdN 183 1 0 (16 + (zf S (i * 8 + 0)).toNatClampNeg) C dX7_leaves_183 rfl (by omega) rfl rfl rfl ?_
      refine sw_top (show _ = zbk S (zf S (i * 8 + 0)).toNatClampNeg by
        repeat (first | rw [upd_ne (by omega)] | rw [upd_at (by omega)])
        exact (lsh_out (by omega)).trans (hE.bk (zf S (i * 8 + 0)).toNatClampNeg hs1)) ?_
      refine sw_iload_n 184 3 C dX7_leaves_184 rfl rfl ?_
      refine sw_iadd 185 C dX7_leaves_185 ?_
      refine sw_iastN 186 1 0 (16 + (zf S (i * 8 + 0)).toNatClampNeg) C dX7_leaves_186 rfl (by omega) rfl rfl rfl ?_
      refine sw_ws [(_, .inr (7, [.ref _, .ref _, .ref _, .int _, .int _, .ref _, .int _, .int _, .ref _, .long _])), (_, .inl (_, _, .inl _)), (_, .inl (_, _, .inl _)), (_, .inl (_, _, .inl _)), (_, .inl (_, _, .inl _)), (_, .inl (_, _, .inl _))] rfl ?_
      refine sw_aload_n 187 0 C dX7_leaves_187 rfl rfl ?_
      refine sw_get 188 0 0 C dX7_leaves_188 rfl rfl (inA lwX7) (C.w wF_X7_7) rfl rfl rfl ?_
      refine sw_bipush 191 C dX7_leaves_191 10 (by decide) ?_
      refine sw_dup2 193 C dX7_leaves_193 rfl rfl ?_
      refine sw_ialdN 194 1 0 (10) C dX7_leaves_194 rfl (by decide) rfl rfl rfl ?_
      refine sw_top (show _ = zv S by
        repeat (first | rw [upd_ne (by omega)] | rw [upd_at (by omega)])
        exact (lsh_out (by omega)).trans hE.w) ?_
      refine sw_iload_n 195 2 C dX7_leaves_195 rfl rfl ?_
      refine sw_jn1 209 (if w = 0 then zf S (i * 8 + 3) else 0) (fun hj_196 => ?_) ?_
      · refine sw_if_ne 196 208 C dX7_leaves_196 (by decide) (fun c_196 => ?_) (fun c_196 => ?_)
        · refine sw_iconst 208 C dX7_leaves_208 0 (by decide) ?_
          exact sw_top ((if_neg (fun e => c_196 (by rw [e]; rfl))).symm) hj_196
        · refine sw_aload_n 199 0 C dX7_leaves_199 rfl rfl ?_
          refine sw_iload_n 200 1 C dX7_leaves_200 rfl rfl ?_
          refine sw_iconst 201 C dX7_leaves_201 4 (by decide) ?_
          refine sw_callVIP 202 [0, 1, 2, 3, 4, 5] 2 C dX7_leaves_202 (ct_X7_of l i 4 rfl rfl (by omega) (by decide)) wK_X7_of wM_X7_32 wN_X7_of wS_X7_X7_of wI_X7 hd_X7_of rfl rfl rfl ⟨rfl, rfl⟩ ⟨Nat.le_of_ble_eq_true rfl, Nat.le_of_ble_eq_true rfl⟩ rfl rfl rfl rfl ?_
          refine sw_top (show _ = zf S (i * 8 + 3) by
            repeat (first | rw [upd_ne (by omega)] | rw [upd_at (by omega)])
            exact (lsh_out (by omega)).trans (hE.row i 3 hiS (by decide))) ?_
          refine sw_goto 205 209 C dX7_leaves_205 (by decide) ?_
          exact sw_top ((if_pos (nI_inj (by omega) (by decide) c_196)).symm) hj_196
      refine sw_iadd 209 C dX7_leaves_209 ?_
      refine sw_iastN 210 1 0 (10) C dX7_leaves_210 rfl (by decide) rfl rfl rfl ?_
      refine sw_ws [(_, .inr (7, [.ref _, .ref _, .ref _, .int _, .int _, .ref _, .int _, .int _, .ref _, .long _])), (_, .inl (_, _, .inl _)), (_, .inl (_, _, .inl _)), (_, .inl (_, _, .inl _)), (_, .inl (_, _, .inl _)), (_, .inl (_, _, .inl _))] rfl ?_
      refine sw_aload_n 211 0 C dX7_leaves_211 rfl rfl ?_
      refine sw_get 212 0 0 C dX7_leaves_212 rfl rfl (inA lwX7) (C.w wF_X7_7) rfl rfl rfl ?_
      refine sw_iconst 215 C dX7_leaves_215 1 (by decide) ?_
      refine sw_dup2 216 C dX7_leaves_216 rfl rfl ?_
      refine sw_ialdN 217 1 0 (1) C dX7_leaves_217 rfl (by decide) rfl rfl rfl ?_
      refine sw_top (show _ = nI (zn S) by
        repeat (first | rw [upd_ne (by omega)] | rw [upd_at (by omega)])
        exact (lsh_out (by omega)).trans hE.n) ?_
      refine sw_iconst 218 C dX7_leaves_218 1 (by decide) ?_
      refine sw_isub 219 C dX7_leaves_219 ?_
      refine sw_top (show nI (zn S) - 1 = nI (zn S - 1) by rw [show (1 : Int32) = nI 1 from rfl, pk_sub (by omega)]) ?_
      refine sw_iastN 220 1 0 (1) C dX7_leaves_220 rfl (by decide) rfl rfl rfl ?_
      refine sw_ws [(_, .inr (7, [.ref _, .ref _, .ref _, .int _, .int _, .ref _, .int _, .int _, .ref _, .long _])), (_, .inl (_, _, .inl _)), (_, .inl (_, _, .inl _)), (_, .inl (_, _, .inl _)), (_, .inl (_, _, .inl _)), (_, .inl (_, _, .inl _))] rfl ?_
      refine sw_bipush 221 C dX7_leaves_221 104 (by decide) ?_
      refine sw_bipush 223 C dX7_leaves_223 8 (by decide) ?_
      refine sw_iload_n 225 1 C dX7_leaves_225 rfl rfl ?_
      refine sw_imul 226 C dX7_leaves_226 ?_
      refine sw_iadd 227 C dX7_leaves_227 ?_
      refine sw_top (show (104 : Int32) + 8 * nI i = nI (104 + i * 8) by rw [show (104 : Int32) = nI 104 from rfl, show (8 : Int32) = nI 8 from rfl, pk_mul, nI_add, Nat.mul_comm 8]) ?_
      refine sw_istore 228 C dX7_leaves_228 rfl ?_
      refine sw_ws [(b0, .inr (7, [.ref b1, .ref b2, .ref b3, .int (kp), .int (th), .ref b4, .int (ty), .int (ap), .ref b5, .long (hh)])), (b1, .inl (cI, 424, .inl (psh (lvs sa S i w (gbk (zf S) (zg S) i w)) (104 + i * 8) (104 + i * 8 + 0)))), (b2, .inl (cI, 1696, .inl (pa))), (b3, .inl (cI, 424, .inl (ad))), (b4, .inl (cI, 100, .inl (tx))), (b5, .inl (cI, 4, .inl (nb)))] (by rw [show 104 + i * 8 + 0 = 104 + i * 8 from rfl, psh_0]; rfl) ?_
      exact sw_loc (lp_X7_leavesB (q := lvs sa S i w (gbk (zf S) (zg S) i w)) (P := mE (lvS S i w)) (i := i) (nn := zn S - 1) (by omega) (by omega) (upd_at rfl) (mE_leave hE hiS hn hw hs1) C RC ((zn S - 1) * 8 - i * 8 + 1) 0 (Nat.zero_le _) (by omega) _ rfl) rfl
    · have hlt : j < 75 := by
        rcases Nat.lt_or_ge j 75 with q | q
        · exact q
        · exact absurd (show nI (79 - j) ≤ 4 from nI_le (b := 4) (by omega) (by decide)) c_14
      refine sw_aload_n 17 0 C dX7_leaves_17 rfl rfl ?_
      refine sw_get 18 0 0 C dX7_leaves_18 rfl rfl (inA lwX7) (C.w wF_X7_7) rfl rfl rfl ?_
      refine sw_bipush 21 C dX7_leaves_21 24 (by decide) ?_
      refine sw_iload 23 C dX7_leaves_23 rfl ?_
      refine sw_iadd 25 C dX7_leaves_25 ?_
      refine sw_aload_n 26 0 C dX7_leaves_26 rfl rfl ?_
      refine sw_get 27 0 0 C dX7_leaves_27 rfl rfl (inA lwX7) (C.w wF_X7_7) rfl rfl rfl ?_
      refine sw_bipush 30 C dX7_leaves_30 24 (by decide) ?_
      refine sw_iload 32 C dX7_leaves_32 rfl ?_
      refine sw_iadd 34 C dX7_leaves_34 ?_
      refine sw_iconst 35 C dX7_leaves_35 5 (by decide) ?_
      refine sw_isub 36 C dX7_leaves_36 ?_
      refine sw_ialdN 37 1 0 (24 + (79 - j) - 5) C dX7_leaves_37 (by rw [show (24 : Int32) = nI 24 from rfl, show (5 : Int32) = nI 5 from rfl, nI_add, pk_sub (by omega)]) (by omega) rfl rfl rfl ?_
      refine sw_iastN 38 1 0 (24 + (79 - j)) C dX7_leaves_38 (by rw [show (24 : Int32) = nI 24 from rfl, nI_add]) (by omega) rfl rfl rfl ?_
      refine sw_ws [(_, .inr (7, [.ref _, .ref _, .ref _, .int _, .int _, .ref _, .int _, .int _, .ref _, .long _])), (_, .inl (_, _, .inl _)), (_, .inl (_, _, .inl _)), (_, .inl (_, _, .inl _)), (_, .inl (_, _, .inl _)), (_, .inl (_, _, .inl _))] rfl ?_
      refine sw_iinc 39 C (-1) dX7_leaves_39 (by decide) rfl rfl ?_
      refine sw_goto 42 11 C dX7_leaves_42 (by decide) ?_
      refine sw_ws [(b0, .inr (7, [.ref b1, .ref b2, .ref b3, .int (kp), .int (th), .ref b4, .int (ty), .int (ap), .ref b5, .long (hh)])), (b1, .inl (cI, 424, .inl (lsh sa (79 - (j + 1))))), (b2, .inl (cI, 1696, .inl (pa))), (b3, .inl (cI, 424, .inl (ad))), (b4, .inl (cI, 100, .inl (tx))), (b5, .inl (cI, 4, .inl (nb)))] (by rw [← lsh_s sa (c := 79 - (j + 1)) (by omega) (by omega), show 79 - (j + 1) + 1 = 79 - j by omega]) ?_
      exact sw_loc (ih (j + 1) (by omega) (by omega) _ (by rw [show 79 - j = 79 - (j + 1) + 1 by omega, pk_m1])) rfl
set_option maxHeartbeats 4000000 in
set_option maxRecDepth 100000 in
theorem ct_X7_leaves (l : Launch) {D : va_G} {cI cJ cQ : ClassId} {b0 b1 b2 b3 b4 b5 : Nat} {sa pa ad tx nb : Nat → Int32} {kp th ty ap : Int32} {hh : Int64} {S : StT} (hE : mE S sa) (hO : SI S) {x1 x2 : Int32} (i w : Nat) (h1 : x1 = nI i) (h2 : x2 = nI w) (hi : i < zn S) (hw : w < 3) : Ct l yX7_leaves (Cond.code yX7_leaves cX7_leaves 5 (some .int)) 2 45 0 0 D (tyz cI cJ cQ) [.ref b0, .int x1, .int x2] [(b0, .inr (7, [.ref b1, .ref b2, .ref b3, .int (kp), .int (th), .ref b4, .int (ty), .int (ap), .ref b5, .long (hh)])), (b1, .inl (cI, 424, .inl (sa))), (b2, .inl (cI, 1696, .inl (pa))), (b3, .inl (cI, 424, .inl (ad))), (b4, .inl (cI, 100, .inl (tx))), (b5, .inl (cI, 4, .inl (nb)))] (pstE (gbk (zf S) (zg S) i w) (mE (lvS S i w)) (fun f => [(b0, .inr (7, [.ref b1, .ref b2, .ref b3, .int (kp), .int (th), .ref b4, .int (ty), .int (ap), .ref b5, .long (hh)])), (b1, .inl (cI, 424, .inl (f))), (b2, .inl (cI, 1696, .inl (pa))), (b3, .inl (cI, 424, .inl (ad))), (b4, .inl (cI, 100, .inl (tx))), (b5, .inl (cI, 4, .inl (nb)))])) := by
  refine Ct.of RX7 (by decide) rfl (Nat.le_of_ble_eq_true rfl) ?_
  intro p e s m below meth c A C RC
  subst h1 h2
  refine sw_aload_n 0 0 C dX7_leaves_0 rfl rfl ?_
  refine sw_iload_n 1 1 C dX7_leaves_1 rfl rfl ?_
  refine sw_iload_n 2 2 C dX7_leaves_2 rfl rfl ?_
  refine sw_callVIP 3 [0, 1, 2, 3, 4, 5] 2 C dX7_leaves_3 (ct_X7_backOf l hE hO i w rfl rfl hi hw) wK_X7_backOf wM_X7_54 wN_X7_backOf wS_X7_X7_backOf wI_X7 hd_X7_backOf rfl rfl rfl ⟨rfl, rfl⟩ ⟨Nat.le_of_ble_eq_true rfl, Nat.le_of_ble_eq_true rfl⟩ rfl rfl rfl rfl ?_
  refine sw_istore_n 6 3 C dX7_leaves_6 rfl rfl ?_
  refine sw_bipush 7 C dX7_leaves_7 79 (by decide) ?_
  refine sw_istore 9 C dX7_leaves_9 rfl ?_
  refine sw_ws [(b0, .inr (7, [.ref b1, .ref b2, .ref b3, .int (kp), .int (th), .ref b4, .int (ty), .int (ap), .ref b5, .long (hh)])), (b1, .inl (cI, 424, .inl (lsh sa (79 - 0)))), (b2, .inl (cI, 1696, .inl (pa))), (b3, .inl (cI, 424, .inl (ad))), (b4, .inl (cI, 100, .inl (tx))), (b5, .inl (cI, 4, .inl (nb)))] (by rw [lsh_0]) ?_
  exact sw_loc (lp_X7_leavesA hE hO i w hi hw C RC 76 0 (Nat.zero_le _) (by omega) _ rfl) rfl
