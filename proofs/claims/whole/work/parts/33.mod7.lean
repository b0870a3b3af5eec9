/-! the Model: its text -/
set_option maxHeartbeats 4000000 in
set_option maxRecDepth 100000 in
theorem ct_X7_isAt (l : Launch) {D : va_G} {cI cJ cQ : ClassId} {b0 b1 b2 b3 b4 b5 : Nat} {sa pa ad tx nb : Nat → Int32} {kp th : Int32} {hh : Int64} {by_ : Nat → Int32} {ln : Nat} {x1 x2 : Int32} (hT : tR by_ tx ln) (hln : ln ≤ 100) (p0 : Nat) (hp : p0 < 1000) (h0 : 0 ≤ x1) : Ct l yX7_isAt (Cond.code yX7_isAt cX7_isAt 3 (some .boolean)) 1 22 0 0 D (tyz cI cJ cQ) [.ref b0, .int x1, .int x2] [(b0, .inr (7, [.ref b1, .ref b2, .ref b3, .int (kp), .int (th), .ref b4, .int (nI ln), .int (nI p0), .ref b5, .long (hh)])), (b1, .inl (cI, 424, .inl (sa))), (b2, .inl (cI, 1696, .inl (pa))), (b3, .inl (cI, 424, .inl (ad))), (b4, .inl (cI, 100, .inl (tx))), (b5, .inl (cI, 4, .inl (nb)))] (pstI (bI (inR (txa by_ ln p0) x1 x2)) [(b0, .inr (7, [.ref b1, .ref b2, .ref b3, .int (kp), .int (th), .ref b4, .int (nI ln), .int (nI p0), .ref b5, .long (hh)])), (b1, .inl (cI, 424, .inl (sa))), (b2, .inl (cI, 1696, .inl (pa))), (b3, .inl (cI, 424, .inl (ad))), (b4, .inl (cI, 100, .inl (tx))), (b5, .inl (cI, 4, .inl (nb)))]) := by
  refine Ct.of RX7 (by decide) rfl (Nat.le_of_ble_eq_true rfl) ?_
  intro p e s m below meth c A C RC
  refine sw_aload_n 0 0 C dX7_isAt_0 rfl rfl ?_
  refine sw_get 1 0 7 C dX7_isAt_1 rfl rfl (inA lwX7) (C.w wF_X7_131) rfl rfl rfl ?_
  refine sw_aload_n 4 0 C dX7_isAt_4 rfl rfl ?_
  refine sw_get 5 0 6 C dX7_isAt_5 rfl rfl (inA lwX7) (C.w wF_X7_128) rfl rfl rfl ?_
  refine sw_icmp_ge 8 32 C dX7_isAt_8 (by decide) (fun c_8 => ?_) (fun c_8 => ?_)
  · refine sw_iconst 32 C dX7_isAt_32 0 (by decide) ?_
    refine sw_zret 33 C RC rfl dX7_isAt_33 ?_
    exact ⟨by rw [txa_out (fun h => nI_ge h (by omega) c_8), inR_m1 h0]; rfl, rfl⟩
  · have hlt : p0 < ln := (nI_ltI (by omega) (by omega)).mp (Int32.not_le.mp c_8)
    refine sw_aload_n 11 0 C dX7_isAt_11 rfl rfl ?_
    refine sw_get 12 0 5 C dX7_isAt_12 rfl rfl (inA lwX7) (C.w wF_X7_19) rfl rfl rfl ?_
    refine sw_aload_n 15 0 C dX7_isAt_15 rfl rfl ?_
    refine sw_get 16 0 7 C dX7_isAt_16 rfl rfl (inA lwX7) (C.w wF_X7_131) rfl rfl rfl ?_
    refine sw_ialdN 19 4 0 (p0) C dX7_isAt_19 rfl (by omega) rfl rfl rfl ?_
    refine sw_top (txa_in hT hlt) ?_
    refine sw_iload_n 20 1 C dX7_isAt_20 rfl rfl ?_
    refine sw_iload_n 21 2 C dX7_isAt_21 rfl rfl ?_
    refine sw_callSIP 22 [] 3 C dX7_isAt_22 (ct_X7_in l) wK_X7_in wM_X7_73 wT_X7_in wI_X7 hd_X7_in rfl ⟨rfl, rfl⟩ ⟨Nat.le_of_ble_eq_true rfl, Nat.le_of_ble_eq_true rfl⟩ rfl rfl rfl rfl ?_
    refine sw_if_eq 25 32 C dX7_isAt_25 (by decide) (fun c_25 => ?_) (fun c_25 => ?_)
    · refine sw_iconst 32 C dX7_isAt_32 0 (by decide) ?_
      refine sw_zret 33 C RC rfl dX7_isAt_33 ?_
      exact ⟨by rw [bI_f c_25]; rfl, rfl⟩
    · refine sw_iconst 28 C dX7_isAt_28 1 (by decide) ?_
      refine sw_goto 29 33 C dX7_isAt_29 (by decide) ?_
      refine sw_zret 33 C RC rfl dX7_isAt_33 ?_
      exact ⟨by rw [bI_t c_25]; rfl, rfl⟩
set_option maxHeartbeats 4000000 in
set_option maxRecDepth 100000 in
theorem ct_X7_takes (l : Launch) {D : va_G} {cI cJ cQ : ClassId} {b0 b1 b2 b3 b4 b5 : Nat} {sa pa ad tx nb : Nat → Int32} {kp th : Int32} {hh : Int64} {by_ : Nat → Int32} {ln : Nat} {Q : Nat × Int32} {w : Int32} (hT : tR by_ tx ln) (hln : ln ≤ 100) (hP : Q.2 = -1) (hp : Q.1 < 900) (h0 : 0 ≤ w) : Ct l yX7_takes (Cond.code yX7_takes cX7_takes 3 (some .boolean)) 2 44 0 0 D (tyz cI cJ cQ) [.ref b0, .int w] [(b0, .inr (7, [.ref b1, .ref b2, .ref b3, .int (kp), .int (th), .ref b4, .int (nI ln), .int (nI Q.1), .ref b5, .long (hh)])), (b1, .inl (cI, 424, .inl (sa))), (b2, .inl (cI, 1696, .inl (pa))), (b3, .inl (cI, 424, .inl (ad))), (b4, .inl (cI, 100, .inl (tx))), (b5, .inl (cI, 4, .inl (nb)))] (pstI (bI (decide ((rSg by_ ln w Q).2 = -1))) [(b0, .inr (7, [.ref b1, .ref b2, .ref b3, .int (kp), .int (th), .ref b4, .int (nI ln), .int (mat (rSg by_ ln w Q)), .ref b5, .long (hh)])), (b1, .inl (cI, 424, .inl (sa))), (b2, .inl (cI, 1696, .inl (pa))), (b3, .inl (cI, 424, .inl (ad))), (b4, .inl (cI, 100, .inl (tx))), (b5, .inl (cI, 4, .inl (nb)))]) := by
  refine Ct.of RX7 (by decide) rfl (Nat.le_of_ble_eq_true rfl) ?_
  intro p e s m below meth c A C RC
  refine sw_aload_n 0 0 C dX7_takes_0 rfl rfl ?_
  refine sw_iload_n 1 1 C dX7_takes_1 rfl rfl ?_
  refine sw_iload_n 2 1 C dX7_takes_2 rfl rfl ?_
  refine sw_callVIP 3 [0, 1, 2, 3, 4, 5] 2 C dX7_takes_3 (ct_X7_isAt l hT hln Q.1 (by omega) h0) wK_X7_isAt wM_X7_134 wN_X7_isAt wS_X7_X7_isAt wI_X7 hd_X7_isAt rfl rfl rfl ⟨rfl, rfl⟩ ⟨Nat.le_of_ble_eq_true rfl, Nat.le_of_ble_eq_true rfl⟩ rfl rfl rfl rfl ?_
  refine sw_top (show _ = bI (decide (txa by_ ln Q.1 = w)) by rw [inR_eq]) ?_
  refine sw_istore_n 6 2 C dX7_takes_6 rfl rfl ?_
  refine sw_aload_n 7 0 C dX7_takes_7 rfl rfl ?_
  refine sw_dup 8 C dX7_takes_8 rfl ?_
  refine sw_get 9 0 7 C dX7_takes_9 rfl rfl (inA lwX7) (C.w wF_X7_131) rfl rfl rfl ?_
  refine sw_iload_n 12 2 C dX7_takes_12 rfl rfl ?_
  refine sw_jn1 21 (bI (decide (txa by_ ln Q.1 = w))) (fun hj_13 => ?_) ?_
  · refine sw_if_eq 13 20 C dX7_takes_13 (by decide) (fun c_13 => ?_) (fun c_13 => ?_)
    · refine sw_iconst 20 C dX7_takes_20 0 (by decide) ?_
      exact sw_top (c_13.symm) hj_13
    · refine sw_iconst 16 C dX7_takes_16 1 (by decide) ?_
      refine sw_goto 17 21 C dX7_takes_17 (by decide) ?_
      exact sw_top (by rw [bI_t c_13]; rfl) hj_13
  refine sw_iadd 21 C dX7_takes_21 ?_
  refine sw_put 22 0 7 tyX7 C dX7_takes_22 rfl rfl (inA lwX7) tyX7_ok nmX7 (C.w wF_X7_131) rfl rfl rfl rfl rfl rfl rfl ?_
  refine sw_ws [(_, .inr (7, [.ref _, .ref _, .ref _, .int _, .int _, .ref _, .int _, .int _, .ref _, .long _])), (_, .inl (_, _, .inl _)), (_, .inl (_, _, .inl _)), (_, .inl (_, _, .inl _)), (_, .inl (_, _, .inl _)), (_, .inl (_, _, .inl _))] rfl ?_
  refine sw_iload_n 25 2 C dX7_takes_25 rfl rfl ?_
  refine sw_zret 26 C RC (bI_nar _) dX7_takes_26 ?_
  by_cases q : txa by_ ln Q.1 = w
  · have hr := rSg_y (w := w) hP q
    exact ⟨by rw [hr, decide_eq_true q, decide_eq_true (p := (Q.1 + 1, Q.2).2 = -1) hP], by rw [hr, mat_ok (P := (Q.1 + 1, Q.2)) hP, decide_eq_true q, ← nI_1]; rfl⟩
  · have hr := rSg_n (w := w) hP q
    have h1 : ¬ nI Q.1 = -1 := i32_ne_m1 (by omega)
    exact ⟨by rw [hr, decide_eq_false q, decide_eq_false (p := (Q.1, nI Q.1).2 = -1) h1], by rw [hr, mat_no (P := (Q.1, nI Q.1)) h1, decide_eq_false q, ← Int32.add_zero (nI Q.1)]; simp [bI]⟩
def nbD (D : Int32 × Nat × Int32) (k : Nat) (nb : Nat → Int32) : Nat → Int32 := if D.2.2 = -1 then upd nb k D.1 else nb
set_option maxHeartbeats 4000000 in
set_option maxRecDepth 100000 in
theorem ct_X7_takesDigit (l : Launch) {D : va_G} {cI cJ cQ : ClassId} {b0 b1 b2 b3 b4 b5 : Nat} {sa pa ad tx nb : Nat → Int32} {kp th : Int32} {hh : Int64} {by_ : Nat → Int32} {ln : Nat} {Q : Nat × Int32} {x1 x2 w : Int32} (hT : tR by_ tx ln) (hln : ln ≤ 100) (hP : Q.2 = -1) (hp : Q.1 < 900) (k g : Nat) (h1 : x1 = nI k) (h2 : x2 = nI g) (hw : w = nI g) (hk : k < 4) (hg : g ≤ 9) : Ct l yX7_takesDigit (Cond.code yX7_takesDigit cX7_takesDigit 3 (some .boolean)) 2 44 0 0 D (tyz cI cJ cQ) [.ref b0, .int x1, .int x2] [(b0, .inr (7, [.ref b1, .ref b2, .ref b3, .int (kp), .int (th), .ref b4, .int (nI ln), .int (nI Q.1), .ref b5, .long (hh)])), (b1, .inl (cI, 424, .inl (sa))), (b2, .inl (cI, 1696, .inl (pa))), (b3, .inl (cI, 424, .inl (ad))), (b4, .inl (cI, 100, .inl (tx))), (b5, .inl (cI, 4, .inl (nb)))] (pstI (bI (decide ((rDg by_ ln w Q).2.2 = -1))) [(b0, .inr (7, [.ref b1, .ref b2, .ref b3, .int (kp), .int (th), .ref b4, .int (nI ln), .int (mat (rDg by_ ln w Q).2), .ref b5, .long (hh)])), (b1, .inl (cI, 424, .inl (sa))), (b2, .inl (cI, 1696, .inl (pa))), (b3, .inl (cI, 424, .inl (ad))), (b4, .inl (cI, 100, .inl (tx))), (b5, .inl (cI, 4, .inl (nbD (rDg by_ ln w Q) k nb)))]) := by
  refine Ct.of RX7 (by decide) rfl (Nat.le_of_ble_eq_true rfl) ?_
  intro p e s m below meth c A C RC
  subst h1 h2 hw
  refine sw_aload_n 0 0 C dX7_takesDigit_0 rfl rfl ?_
  refine sw_bipush 1 C dX7_takesDigit_1 48 (by decide) ?_
  refine sw_bipush 3 C dX7_takesDigit_3 48 (by decide) ?_
  refine sw_iload_n 5 2 C dX7_takesDigit_5 rfl rfl ?_
  refine sw_iadd 6 C dX7_takesDigit_6 ?_
  refine sw_callVIP 7 [0, 1, 2, 3, 4, 5] 2 C dX7_takesDigit_7 (ct_X7_isAt l hT hln Q.1 (by omega) (by decide)) wK_X7_isAt wM_X7_134 wN_X7_isAt wS_X7_X7_isAt wI_X7 hd_X7_isAt rfl rfl rfl ⟨rfl, rfl⟩ ⟨Nat.le_of_ble_eq_true rfl, Nat.le_of_ble_eq_true rfl⟩ rfl rfl rfl rfl ?_
  refine sw_top (show _ = bI (decide (¬ (txa by_ ln Q.1 - 48 < 0 ∨ nI g < txa by_ ln Q.1 - 48))) by rw [dig_iff hT hg]) ?_
  refine sw_if_ne 10 15 C dX7_takesDigit_10 (by decide) (fun c_10 => ?_) (fun c_10 => ?_)
  · have q := of_decide_eq_true (bI_t c_10)
    have hr := rDg_y hP q
    have hlt : Q.1 < ln := by
      rcases Nat.lt_or_ge Q.1 ln with z | z
      · exact z
      · exact absurd (Or.inl (by rw [txa_out (by omega)]; decide)) q
    refine sw_aload_n 15 0 C dX7_takesDigit_15 rfl rfl ?_
    refine sw_get 16 0 8 C dX7_takesDigit_16 rfl rfl (inA lwX7) (C.w wF_X7_22) rfl rfl rfl ?_
    refine sw_iload_n 19 1 C dX7_takesDigit_19 rfl rfl ?_
    refine sw_aload_n 20 0 C dX7_takesDigit_20 rfl rfl ?_
    refine sw_get 21 0 5 C dX7_takesDigit_21 rfl rfl (inA lwX7) (C.w wF_X7_19) rfl rfl rfl ?_
    refine sw_aload_n 24 0 C dX7_takesDigit_24 rfl rfl ?_
    refine sw_get 25 0 7 C dX7_takesDigit_25 rfl rfl (inA lwX7) (C.w wF_X7_131) rfl rfl rfl ?_
    refine sw_ialdN 28 4 0 (Q.1) C dX7_takesDigit_28 rfl (by omega) rfl rfl rfl ?_
    refine sw_top (txa_in hT hlt) ?_
    refine sw_bipush 29 C dX7_takesDigit_29 48 (by decide) ?_
    refine sw_isub 31 C dX7_takesDigit_31 ?_
    refine sw_iastN 32 5 0 (k) C dX7_takesDigit_32 rfl (by omega) rfl rfl rfl ?_
    refine sw_ws [(_, .inr (7, [.ref _, .ref _, .ref _, .int _, .int _, .ref _, .int _, .int _, .ref _, .long _])), (_, .inl (_, _, .inl _)), (_, .inl (_, _, .inl _)), (_, .inl (_, _, .inl _)), (_, .inl (_, _, .inl _)), (_, .inl (_, _, .inl _))] rfl ?_
    refine sw_aload_n 33 0 C dX7_takesDigit_33 rfl rfl ?_
    refine sw_dup 34 C dX7_takesDigit_34 rfl ?_
    refine sw_get 35 0 7 C dX7_takesDigit_35 rfl rfl (inA lwX7) (C.w wF_X7_131) rfl rfl rfl ?_
    refine sw_iconst 38 C dX7_takesDigit_38 1 (by decide) ?_
    refine sw_iadd 39 C dX7_takesDigit_39 ?_
    refine sw_top (nI_1 Q.1) ?_
    refine sw_put 40 0 7 tyX7 C dX7_takesDigit_40 rfl rfl (inA lwX7) tyX7_ok nmX7 (C.w wF_X7_131) rfl rfl rfl rfl rfl rfl rfl ?_
    refine sw_ws [(_, .inr (7, [.ref _, .ref _, .ref _, .int _, .int _, .ref _, .int _, .int _, .ref _, .long _])), (_, .inl (_, _, .inl _)), (_, .inl (_, _, .inl _)), (_, .inl (_, _, .inl _)), (_, .inl (_, _, .inl _)), (_, .inl (_, _, .inl _))] rfl ?_
    refine sw_iconst 43 C dX7_takesDigit_43 1 (by decide) ?_
    refine sw_zret 44 C RC rfl dX7_takesDigit_44 ?_
    exact ⟨by rw [hr, decide_eq_true (p := Q.2 = -1) hP]; rfl, by rw [hr, mat_ok (P := (Q.1 + 1, Q.2)) hP, show nbD (txa by_ ln Q.1 - 48, Q.1 + 1, Q.2) k nb = upd nb k (txa by_ ln Q.1 - 48) from if_pos hP]⟩
  · refine sw_iconst 13 C dX7_takesDigit_13 0 (by decide) ?_
    refine sw_zret 14 C RC rfl dX7_takesDigit_14 ?_
    have q : txa by_ ln Q.1 - 48 < 0 ∨ nI g < txa by_ ln Q.1 - 48 := Decidable.byContradiction (fun z => absurd (bI_f c_10) (by rw [decide_eq_true z]; decide))
    have hr := rDg_n hP q
    have h1 : ¬ nI Q.1 = -1 := i32_ne_m1 (by omega)
    exact ⟨by rw [hr, decide_eq_false (p := nI Q.1 = -1) h1]; rfl, by rw [hr, mat_no (P := (Q.1, nI Q.1)) h1, show nbD (0, Q.1, nI Q.1) k nb = nb from if_neg h1]⟩
def nbN (by_ : Nat → Int32) (ln p0 : Nat) (T : Nat × Int32) (k : Nat) (nb : Nat → Int32) : Nat → Int32 := if T.1 = p0 ∨ isDv (txa by_ ln T.1) = true then nb else upd nb k T.2
theorem nbN_ok {by_ : Nat → Int32} {ln m k : Nat} {w : Int32} {Q : Nat × Int32} {nb : Nat → Int32} (h : (rNm by_ ln m w Q).2.2 = -1) (hp : Q.1 + m < 1000) : nbN by_ ln Q.1 (dlp by_ ln m Q.1 0) k nb = upd nb k (rNm by_ ln m w Q).1 := by
  have h0 := rNm_err h
  rw [rNm_g h0] at h ⊢
  have hd := dlp_le by_ ln m Q.1 0
  have h : rEr by_ ln w Q.1 (dlp by_ ln m Q.1 0) Q.2 = -1 := h
  unfold rEr at h
  unfold nbN
  split at h
  · exact absurd h (i32_ne_m1 (by omega))
  · rename_i q
    exact if_neg q
theorem inR_n {v g : Int32} : inR v 1 g = decide (¬ (v < 1 ∨ g < v)) := by
  unfold inR
  rw [Bool.eq_iff_iff, Bool.and_eq_true, decide_eq_true_iff, decide_eq_true_iff, decide_eq_true_iff, ← Int32.not_lt, ← Int32.not_lt, not_or]
theorem rEr_d {by_ : Nat → Int32} {ln : Nat} {g er : Int32} {p0 : Nat} {T : Nat × Int32} (h : T.1 = p0 ∨ isDv (txa by_ ln T.1) = true) : rEr by_ ln g p0 T er = nI T.1 := if_pos h
theorem rEr_r {by_ : Nat → Int32} {ln : Nat} {g er : Int32} {p0 : Nat} {T : Nat × Int32} (h : ¬ (T.1 = p0 ∨ isDv (txa by_ ln T.1) = true)) (h2 : T.2 < 1 ∨ g < T.2) : rEr by_ ln g p0 T er = nI p0 := (if_neg h).trans (if_pos h2)
theorem rEr_o {by_ : Nat → Int32} {ln : Nat} {g er : Int32} {p0 : Nat} {T : Nat × Int32} (h : ¬ (T.1 = p0 ∨ isDv (txa by_ ln T.1) = true)) (h2 : ¬ (T.2 < 1 ∨ g < T.2)) : rEr by_ ln g p0 T er = er := (if_neg h).trans (if_neg h2)
set_option maxHeartbeats 4000000 in
set_option maxRecDepth 100000 in
theorem lp_X7_takesNumberE {l : Launch} {p : Program} {e : Env} {s : State} {m : MethodId} {args : Array Value} {below : List Frame} {meth : Method} {c : Code} {A : Nat → Prop} {D : va_G} {cI cJ cQ : ClassId} {b0 b1 b2 b3 b4 b5 : Nat} {sa pa ad tx nb : Nat → Int32} {kp th : Int32} {hh : Int64} {by_ : Nat → Int32} {ln : Nat} {g : Int32} (hT : tR by_ tx ln) (hln : ln ≤ 100) {k mx p0 : Nat} (hk : k < 4) (hmx : mx ≤ 3) (hp : p0 < 900) (T : Nat × Int32) (C : CC p s m args c cX7_takesNumber 7 RX7 (Cond.code yX7_takesNumber cX7_takesNumber 7 (some .boolean) :: lw_all) D (tyz cI cJ cQ) A s.heap) (RC : meth.sig.returnType = (some .boolean) ∧ meth.locks = false ∧ meth.name = yX7_takesNumber.name) (hT1 : T.1 < 950) : sw p l e ({ frames := 2, cells := 0, slots := 0, locals := 44 } : Room) s m args below meth c D A s.heap 7 0 0 (MQ below (ctQ D (tyz cI cJ cQ) A (pstI (bI (decide ((rEr by_ ln g p0 T (-1)) = -1))) [(b0, .inr (7, [.ref b1, .ref b2, .ref b3, .int (kp), .int (th), .ref b4, .int (nI ln), .int (mat (T.1, rEr by_ ln g p0 T (-1))), .ref b5, .long (hh)])), (b1, .inl (cI, 424, .inl (sa))), (b2, .inl (cI, 1696, .inl (pa))), (b3, .inl (cI, 424, .inl (ad))), (b4, .inl (cI, 100, .inl (tx))), (b5, .inl (cI, 4, .inl (nbN by_ ln p0 T k nb)))])) args s 0 0 A) [(b0, .inr (7, [.ref b1, .ref b2, .ref b3, .int (kp), .int (th), .ref b4, .int (nI ln), .int (nI T.1), .ref b5, .long (hh)])), (b1, .inl (cI, 424, .inl (sa))), (b2, .inl (cI, 1696, .inl (pa))), (b3, .inl (cI, 424, .inl (ad))), (b4, .inl (cI, 100, .inl (tx))), (b5, .inl (cI, 4, .inl (nb)))] 64 [(0, .ref b0), (1, .int (nI k)), (2, .int (nI mx)), (3, .int g), (4, .int (nI p0)), (5, .int T.2)] [] := by
  refine sw_aload_n 64 0 C dX7_takesNumber_64 rfl rfl ?_
  refine sw_get 65 0 7 C dX7_takesNumber_65 rfl rfl (inA lwX7) (C.w wF_X7_131) rfl rfl rfl ?_
  refine sw_iload 68 C dX7_takesNumber_68 rfl ?_
  refine sw_icmp_eq 70 84 C dX7_takesNumber_70 (by decide) (fun c_70 => ?_) (fun c_70 => ?_)
  · refine sw_iconst 84 C dX7_takesNumber_84 0 (by decide) ?_
    refine sw_zret 85 C RC rfl dX7_takesNumber_85 ?_
    have hq : T.1 = p0 ∨ isDv (txa by_ ln T.1) = true := Or.inl (nI_inj (by omega) (by omega) c_70)
    have h1 : ¬ nI T.1 = -1 := i32_ne_m1 (by omega)
    have hr := rEr_d (g := g) (er := -1) hq
    exact ⟨by rw [hr, decide_eq_false (p := nI T.1 = -1) h1]; rfl, by rw [hr, mat_no (P := (T.1, nI T.1)) h1, show nbN by_ ln p0 T k nb = nb from if_pos hq]⟩
  · refine sw_aload_n 73 0 C dX7_takesNumber_73 rfl rfl ?_
    refine sw_bipush 74 C dX7_takesNumber_74 48 (by decide) ?_
    refine sw_bipush 76 C dX7_takesNumber_76 57 (by decide) ?_
    refine sw_callVIP 78 [0, 1, 2, 3, 4, 5] 2 C dX7_takesNumber_78 (ct_X7_isAt l hT hln T.1 (by omega) (by decide)) wK_X7_isAt wM_X7_134 wN_X7_isAt wS_X7_X7_isAt wI_X7 hd_X7_isAt rfl rfl rfl ⟨rfl, rfl⟩ ⟨Nat.le_of_ble_eq_true rfl, Nat.le_of_ble_eq_true rfl⟩ rfl rfl rfl rfl ?_
    refine sw_if_eq 81 86 C dX7_takesNumber_81 (by decide) (fun c_81 => ?_) (fun c_81 => ?_)
    · have hq : ¬ (T.1 = p0 ∨ isDv (txa by_ ln T.1) = true) := fun h => h.elim (fun e => c_70 (by rw [e])) (fun e => by rw [isDv_in, e] at c_81; exact absurd c_81 (by decide))
      have hnb : nbN by_ ln p0 T k nb = upd nb k T.2 := if_neg hq
      refine sw_aload_n 86 0 C dX7_takesNumber_86 rfl rfl ?_
      refine sw_get 87 0 8 C dX7_takesNumber_87 rfl rfl (inA lwX7) (C.w wF_X7_22) rfl rfl rfl ?_
      refine sw_iload_n 90 1 C dX7_takesNumber_90 rfl rfl ?_
      refine sw_iload 91 C dX7_takesNumber_91 rfl ?_
      refine sw_iastN 93 5 0 (k) C dX7_takesNumber_93 rfl (by omega) rfl rfl rfl ?_
      refine sw_ws [(_, .inr (7, [.ref _, .ref _, .ref _, .int _, .int _, .ref _, .int _, .int _, .ref _, .long _])), (_, .inl (_, _, .inl _)), (_, .inl (_, _, .inl _)), (_, .inl (_, _, .inl _)), (_, .inl (_, _, .inl _)), (_, .inl (_, _, .inl _))] rfl ?_
      refine sw_iload 94 C dX7_takesNumber_94 rfl ?_
      refine sw_iconst 96 C dX7_takesNumber_96 1 (by decide) ?_
      refine sw_iload_n 97 3 C dX7_takesNumber_97 rfl rfl ?_
      refine sw_callSIP 98 [] 3 C dX7_takesNumber_98 (ct_X7_in l) wK_X7_in wM_X7_73 wT_X7_in wI_X7 hd_X7_in rfl ⟨rfl, rfl⟩ ⟨Nat.le_of_ble_eq_true rfl, Nat.le_of_ble_eq_true rfl⟩ rfl rfl rfl rfl ?_
      refine sw_top (show _ = bI (decide (¬ (T.2 < 1 ∨ g < T.2))) by rw [inR_n]) ?_
      refine sw_istore 101 C dX7_takesNumber_101 rfl ?_
      refine sw_aload_n 103 0 C dX7_takesNumber_103 rfl rfl ?_
      refine sw_iload 104 C dX7_takesNumber_104 rfl ?_
      by_cases q : T.2 < 1 ∨ g < T.2
      · refine sw_if_eq 106 116 C dX7_takesNumber_106 (by decide) (fun c_106 => ?_) (fun c_106 => ?_)
        rotate_left
        · exact by first | exact absurd c_106 (by rw [decide_eq_false (fun z : ¬ (T.2 < 1 ∨ g < T.2) => z q)]; rfl) | exact absurd (by rw [decide_eq_false (fun z : ¬ (T.2 < 1 ∨ g < T.2) => z q)]; rfl) c_106
        refine sw_iload 116 C dX7_takesNumber_116 rfl ?_
        refine sw_put 118 0 7 tyX7 C dX7_takesNumber_118 rfl rfl (inA lwX7) tyX7_ok nmX7 (C.w wF_X7_131) rfl rfl rfl rfl rfl rfl rfl ?_
        refine sw_ws [(_, .inr (7, [.ref _, .ref _, .ref _, .int _, .int _, .ref _, .int _, .int _, .ref _, .long _])), (_, .inl (_, _, .inl _)), (_, .inl (_, _, .inl _)), (_, .inl (_, _, .inl _)), (_, .inl (_, _, .inl _)), (_, .inl (_, _, .inl _))] rfl ?_
        refine sw_iload 121 C dX7_takesNumber_121 rfl ?_
        refine sw_zret 123 C RC (bI_nar _) dX7_takesNumber_123 ?_
        have hr := rEr_r (g := g) (er := -1) hq q
        have h1 : ¬ nI p0 = -1 := i32_ne_m1 (by omega)
        exact ⟨by rw [hr, decide_eq_false (p := nI p0 = -1) h1, decide_eq_false (fun z : ¬ (T.2 < 1 ∨ g < T.2) => z q)], by rw [hr, hnb, mat_no (P := (T.1, nI p0)) h1]⟩
      · refine sw_if_eq 106 116 C dX7_takesNumber_106 (by decide) (fun c_106 => ?_) (fun c_106 => ?_)
        · exact by first | exact absurd c_106 (by rw [decide_eq_true q]; decide) | exact absurd (by rw [decide_eq_true q]; decide) c_106
        refine sw_aload_n 109 0 C dX7_takesNumber_109 rfl rfl ?_
        refine sw_get 110 0 7 C dX7_takesNumber_110 rfl rfl (inA lwX7) (C.w wF_X7_131) rfl rfl rfl ?_
        refine sw_goto 113 118 C dX7_takesNumber_113 (by decide) ?_
        refine sw_put 118 0 7 tyX7 C dX7_takesNumber_118 rfl rfl (inA lwX7) tyX7_ok nmX7 (C.w wF_X7_131) rfl rfl rfl rfl rfl rfl rfl ?_
        refine sw_ws [(_, .inr (7, [.ref _, .ref _, .ref _, .int _, .int _, .ref _, .int _, .int _, .ref _, .long _])), (_, .inl (_, _, .inl _)), (_, .inl (_, _, .inl _)), (_, .inl (_, _, .inl _)), (_, .inl (_, _, .inl _)), (_, .inl (_, _, .inl _))] rfl ?_
        refine sw_iload 121 C dX7_takesNumber_121 rfl ?_
        refine sw_zret 123 C RC (bI_nar _) dX7_takesNumber_123 ?_
        have hr := rEr_o (g := g) (er := -1) hq q
        exact ⟨by rw [hr, decide_eq_true (p := (-1 : Int32) = -1) rfl, decide_eq_true q], by rw [hr, hnb, mat_ok (P := (T.1, -1)) rfl]⟩
    · refine sw_iconst 84 C dX7_takesNumber_84 0 (by decide) ?_
      refine sw_zret 85 C RC rfl dX7_takesNumber_85 ?_
      have hq : T.1 = p0 ∨ isDv (txa by_ ln T.1) = true := Or.inr (bI_t c_81)
      have h1 : ¬ nI T.1 = -1 := i32_ne_m1 (by omega)
      have hr := rEr_d (g := g) (er := -1) hq
      exact ⟨by rw [hr, decide_eq_false (p := nI T.1 = -1) h1]; rfl, by rw [hr, mat_no (P := (T.1, nI T.1)) h1, show nbN by_ ln p0 T k nb = nb from if_pos hq]⟩
set_option maxHeartbeats 4000000 in
set_option maxRecDepth 100000 in
theorem lp_X7_takesNumber {l : Launch} {p : Program} {e : Env} {s : State} {m : MethodId} {args : Array Value} {below : List Frame} {meth : Method} {c : Code} {A : Nat → Prop} {D : va_G} {cI cJ cQ : ClassId} {b0 b1 b2 b3 b4 b5 : Nat} {sa pa ad tx nb : Nat → Int32} {kp th : Int32} {hh : Int64} {by_ : Nat → Int32} {ln : Nat} {g : Int32} (hT : tR by_ tx ln) (hln : ln ≤ 100) {k mx p0 : Nat} (hk : k < 4) (hmx : mx ≤ 3) (hp : p0 < 900) (T : Nat × Int32) (C : CC p s m args c cX7_takesNumber 7 RX7 (Cond.code yX7_takesNumber cX7_takesNumber 7 (some .boolean) :: lw_all) D (tyz cI cJ cQ) A s.heap) (RC : meth.sig.returnType = (some .boolean) ∧ meth.locks = false ∧ meth.name = yX7_takesNumber.name) : ∀ (u pz : Nat) (v : Int32), p0 ≤ pz → pz + u = p0 + mx → dlp by_ ln u pz v = T → sw p l e ({ frames := 2, cells := 0, slots := 0, locals := 44 } : Room) s m args below meth c D A s.heap 7 0 0 (MQ below (ctQ D (tyz cI cJ cQ) A (pstI (bI (decide ((rEr by_ ln g p0 T (-1)) = -1))) [(b0, .inr (7, [.ref b1, .ref b2, .ref b3, .int (kp), .int (th), .ref b4, .int (nI ln), .int (mat (T.1, rEr by_ ln g p0 T (-1))), .ref b5, .long (hh)])), (b1, .inl (cI, 424, .inl (sa))), (b2, .inl (cI, 1696, .inl (pa))), (b3, .inl (cI, 424, .inl (ad))), (b4, .inl (cI, 100, .inl (tx))), (b5, .inl (cI, 4, .inl (nbN by_ ln p0 T k nb)))])) args s 0 0 A) [(b0, .inr (7, [.ref b1, .ref b2, .ref b3, .int (kp), .int (th), .ref b4, .int (nI ln), .int (nI pz), .ref b5, .long (hh)])), (b1, .inl (cI, 424, .inl (sa))), (b2, .inl (cI, 1696, .inl (pa))), (b3, .inl (cI, 424, .inl (ad))), (b4, .inl (cI, 100, .inl (tx))), (b5, .inl (cI, 4, .inl (nb)))] 9 [(0, .ref b0), (1, .int (nI k)), (2, .int (nI mx)), (3, .int g), (4, .int (nI p0)), (5, .int v)] [] := by
  intro u
  induction u with
  | zero =>
    intro pz v hpz hu hd
    refine sw_aload_n 9 0 C dX7_takesNumber_9 rfl rfl ?_
    refine sw_bipush 10 C dX7_takesNumber_10 48 (by decide) ?_
    refine sw_bipush 12 C dX7_takesNumber_12 57 (by decide) ?_
    refine sw_callVIP 14 [0, 1, 2, 3, 4, 5] 2 C dX7_takesNumber_14 (ct_X7_isAt l hT hln pz (by omega) (by decide)) wK_X7_isAt wM_X7_134 wN_X7_isAt wS_X7_X7_isAt wI_X7 hd_X7_isAt rfl rfl rfl ⟨rfl, rfl⟩ ⟨Nat.le_of_ble_eq_true rfl, Nat.le_of_ble_eq_true rfl⟩ rfl rfl rfl rfl ?_
    refine sw_if_eq 17 64 C dX7_takesNumber_17 (by decide) (fun c_17 => ?_) (fun c_17 => ?_)
    · obtain rfl : T = (pz, v) := by
        rw [← hd]
        rfl
      exact sw_loc (lp_X7_takesNumberE hT hln hk hmx hp (pz, v) C RC (by show pz < 950; omega)) rfl
    · refine sw_aload_n 20 0 C dX7_takesNumber_20 rfl rfl ?_
      refine sw_get 21 0 7 C dX7_takesNumber_21 rfl rfl (inA lwX7) (C.w wF_X7_131) rfl rfl rfl ?_
      refine sw_iload 24 C dX7_takesNumber_24 rfl ?_
      refine sw_iload_n 26 2 C dX7_takesNumber_26 rfl rfl ?_
      refine sw_iadd 27 C dX7_takesNumber_27 ?_
      refine sw_icmp_ge 28 64 C dX7_takesNumber_28 (by decide) (fun c_28 => ?_) (fun c_28 => ?_)
      rotate_left
      · exact by first | exact absurd c_28 (by rw [nI_add]; exact nI_le (by omega) (by omega)) | exact absurd (by rw [nI_add]; exact nI_le (by omega) (by omega)) c_28
      obtain rfl : T = (pz, v) := by
        rw [← hd]
        rfl
      exact sw_loc (lp_X7_takesNumberE hT hln hk hmx hp (pz, v) C RC (by show pz < 950; omega)) rfl
  | succ u ih =>
    intro pz v hpz hu hd
    refine sw_aload_n 9 0 C dX7_takesNumber_9 rfl rfl ?_
    refine sw_bipush 10 C dX7_takesNumber_10 48 (by decide) ?_
    refine sw_bipush 12 C dX7_takesNumber_12 57 (by decide) ?_
    refine sw_callVIP 14 [0, 1, 2, 3, 4, 5] 2 C dX7_takesNumber_14 (ct_X7_isAt l hT hln pz (by omega) (by decide)) wK_X7_isAt wM_X7_134 wN_X7_isAt wS_X7_X7_isAt wI_X7 hd_X7_isAt rfl rfl rfl ⟨rfl, rfl⟩ ⟨Nat.le_of_ble_eq_true rfl, Nat.le_of_ble_eq_true rfl⟩ rfl rfl rfl rfl ?_
    refine sw_if_eq 17 64 C dX7_takesNumber_17 (by decide) (fun c_17 => ?_) (fun c_17 => ?_)
    · obtain rfl : T = (pz, v) := by
        rw [← hd]
        exact if_neg (by rw [show isDv (txa by_ ln pz) = false from bI_f c_17]; decide)
      exact sw_loc (lp_X7_takesNumberE hT hln hk hmx hp (pz, v) C RC (by show pz < 950; omega)) rfl
    · have hdv : isDv (txa by_ ln pz) = true := bI_t c_17
      have hlt : pz < ln := by
        rcases Nat.lt_or_ge pz ln with z | z
        · exact z
        · rw [txa_out (by omega)] at hdv; exact absurd hdv (by decide)
      refine sw_aload_n 20 0 C dX7_takesNumber_20 rfl rfl ?_
      refine sw_get 21 0 7 C dX7_takesNumber_21 rfl rfl (inA lwX7) (C.w wF_X7_131) rfl rfl rfl ?_
      refine sw_iload 24 C dX7_takesNumber_24 rfl ?_
      refine sw_iload_n 26 2 C dX7_takesNumber_26 rfl rfl ?_
      refine sw_iadd 27 C dX7_takesNumber_27 ?_
      refine sw_icmp_ge 28 64 C dX7_takesNumber_28 (by decide) (fun c_28 => ?_) (fun c_28 => ?_)
      · exact by first | exact absurd c_28 (by rw [nI_add]; exact nI_ge (by omega) (by omega)) | exact absurd (by rw [nI_add]; exact nI_ge (by omega) (by omega)) c_28
      refine sw_bipush 31 C dX7_takesNumber_31 10 (by decide) ?_
      refine sw_iload 33 C dX7_takesNumber_33 rfl ?_
      refine sw_imul 35 C dX7_takesNumber_35 ?_
      refine sw_aload_n 36 0 C dX7_takesNumber_36 rfl rfl ?_
      refine sw_get 37 0 5 C dX7_takesNumber_37 rfl rfl (inA lwX7) (C.w wF_X7_19) rfl rfl rfl ?_
      refine sw_aload_n 40 0 C dX7_takesNumber_40 rfl rfl ?_
      refine sw_get 41 0 7 C dX7_takesNumber_41 rfl rfl (inA lwX7) (C.w wF_X7_131) rfl rfl rfl ?_
      refine sw_ialdN 44 4 0 (pz) C dX7_takesNumber_44 rfl (by omega) rfl rfl rfl ?_
      refine sw_top (txa_in hT hlt) ?_
      refine sw_iadd 45 C dX7_takesNumber_45 ?_
      refine sw_bipush 46 C dX7_takesNumber_46 48 (by decide) ?_
      refine sw_isub 48 C dX7_takesNumber_48 ?_
      refine sw_istore 49 C dX7_takesNumber_49 rfl ?_
      refine sw_aload_n 51 0 C dX7_takesNumber_51 rfl rfl ?_
      refine sw_dup 52 C dX7_takesNumber_52 rfl ?_
      refine sw_get 53 0 7 C dX7_takesNumber_53 rfl rfl (inA lwX7) (C.w wF_X7_131) rfl rfl rfl ?_
      refine sw_iconst 56 C dX7_takesNumber_56 1 (by decide) ?_
      refine sw_iadd 57 C dX7_takesNumber_57 ?_
      refine sw_top (nI_1 pz) ?_
      refine sw_put 58 0 7 tyX7 C dX7_takesNumber_58 rfl rfl (inA lwX7) tyX7_ok nmX7 (C.w wF_X7_131) rfl rfl rfl rfl rfl rfl rfl ?_
      refine sw_ws [(_, .inr (7, [.ref _, .ref _, .ref _, .int _, .int _, .ref _, .int _, .int _, .ref _, .long _])), (_, .inl (_, _, .inl _)), (_, .inl (_, _, .inl _)), (_, .inl (_, _, .inl _)), (_, .inl (_, _, .inl _)), (_, .inl (_, _, .inl _))] rfl ?_
      refine sw_goto 61 9 C dX7_takesNumber_61 (by decide) ?_
      exact sw_loc (ih (pz + 1) (v * 10 + txa by_ ln pz - 48) (by omega) (by omega) (by rw [← hd]; exact (if_pos hdv).symm)) (by rw [Int32.mul_comm 10 v]; rfl)
set_option maxHeartbeats 4000000 in
set_option maxRecDepth 100000 in
theorem ct_X7_takesNumber (l : Launch) {D : va_G} {cI cJ cQ : ClassId} {b0 b1 b2 b3 b4 b5 : Nat} {sa pa ad tx nb : Nat → Int32} {kp th : Int32} {hh : Int64} {by_ : Nat → Int32} {ln : Nat} {Q : Nat × Int32} {x1 x2 g : Int32} (hT : tR by_ tx ln) (hln : ln ≤ 100) (hP : Q.2 = -1) (hp : Q.1 < 900) (k mx : Nat) (h1 : x1 = nI k) (h2 : x2 = nI mx) (hk : k < 4) (hmx : mx ≤ 3) : Ct l yX7_takesNumber (Cond.code yX7_takesNumber cX7_takesNumber 7 (some .boolean)) 2 44 0 0 D (tyz cI cJ cQ) [.ref b0, .int x1, .int x2, .int g] [(b0, .inr (7, [.ref b1, .ref b2, .ref b3, .int (kp), .int (th), .ref b4, .int (nI ln), .int (nI Q.1), .ref b5, .long (hh)])), (b1, .inl (cI, 424, .inl (sa))), (b2, .inl (cI, 1696, .inl (pa))), (b3, .inl (cI, 424, .inl (ad))), (b4, .inl (cI, 100, .inl (tx))), (b5, .inl (cI, 4, .inl (nb)))] (pstI (bI (decide ((rNm by_ ln mx g Q).2.2 = -1))) [(b0, .inr (7, [.ref b1, .ref b2, .ref b3, .int (kp), .int (th), .ref b4, .int (nI ln), .int (mat (rNm by_ ln mx g Q).2), .ref b5, .long (hh)])), (b1, .inl (cI, 424, .inl (sa))), (b2, .inl (cI, 1696, .inl (pa))), (b3, .inl (cI, 424, .inl (ad))), (b4, .inl (cI, 100, .inl (tx))), (b5, .inl (cI, 4, .inl (nbN by_ ln Q.1 (dlp by_ ln mx Q.1 0) k nb)))]) := by
  refine Ct.of RX7 (by decide) rfl (Nat.le_of_ble_eq_true rfl) ?_
  intro p e s m below meth c A C RC
  subst h1 h2
  refine sw_aload_n 0 0 C dX7_takesNumber_0 rfl rfl ?_
  refine sw_get 1 0 7 C dX7_takesNumber_1 rfl rfl (inA lwX7) (C.w wF_X7_131) rfl rfl rfl ?_
  refine sw_istore 4 C dX7_takesNumber_4 rfl ?_
  refine sw_iconst 6 C dX7_takesNumber_6 0 (by decide) ?_
  refine sw_istore 7 C dX7_takesNumber_7 rfl ?_
  rw [rNm_g hP, hP]
  exact sw_loc (lp_X7_takesNumber hT hln hk hmx hp (dlp by_ ln mx Q.1 0) C RC mx Q.1 0 (Nat.le_refl _) rfl rfl) rfl
