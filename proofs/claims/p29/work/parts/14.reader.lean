/-! OrderReader: what it reads; P: position and error -/
abbrev RS : Type := (Int32 × Int32 × Int32 × Int32 × Int32 × Int32) × Nat × Int32
abbrev xg (X : RS) : Int32 := X.1.1
abbrev xs_ (X : RS) : Int32 := X.1.2.1
abbrev xr (X : RS) : Int32 := X.1.2.2.1
abbrev xb (X : RS) : Int32 := X.1.2.2.2.1
abbrev xi_ (X : RS) : Int32 := X.1.2.2.2.2.1
abbrev xt (X : RS) : Int32 := X.1.2.2.2.2.2
abbrev xp (X : RS) : Nat := X.2.1
abbrev xe (X : RS) : Int32 := X.2.2
def isDv (v : Int32) : Bool := decide (48 ≤ v) && decide (v ≤ 57)
def rSg (by_ : Nat → Int32) (ln : Nat) (w : Int32) (P : Nat × Int32) : Nat × Int32 := if P.2 = -1 then (if txa by_ ln P.1 = w then (P.1 + 1, P.2) else (P.1, nI P.1)) else P
def rDg (by_ : Nat → Int32) (ln : Nat) (g : Int32) (P : Nat × Int32) : Int32 × Nat × Int32 := if P.2 = -1 then (if txa by_ ln P.1 - 48 < 0 ∨ g < txa by_ ln P.1 - 48 then (0, P.1, nI P.1) else (txa by_ ln P.1 - 48, P.1 + 1, P.2)) else (0, P)
def dlp (by_ : Nat → Int32) (ln : Nat) : Nat → Nat → Int32 → Nat × Int32
  | 0, p, v => (p, v)
  | m + 1, p, v => if isDv (txa by_ ln p) = true then dlp by_ ln m (p + 1) (v * 10 + txa by_ ln p - 48) else (p, v)
def rEr (by_ : Nat → Int32) (ln : Nat) (g : Int32) (p0 : Nat) (T : Nat × Int32) (er : Int32) : Int32 := if T.1 = p0 ∨ isDv (txa by_ ln T.1) = true then nI T.1 else if T.2 < 1 ∨ g < T.2 then nI p0 else er
def rNm (by_ : Nat → Int32) (ln m : Nat) (g : Int32) (P : Nat × Int32) : Int32 × Nat × Int32 := if P.2 = -1 then ((dlp by_ ln m P.1 0).2, (dlp by_ ln m P.1 0).1, rEr by_ ln g P.1 (dlp by_ ln m P.1 0) P.2) else (0, P)
theorem rSg_le (by_ : Nat → Int32) (ln : Nat) (w : Int32) (P : Nat × Int32) : (rSg by_ ln w P).1 ≤ P.1 + 1 := by
  unfold rSg
  split
  · split <;> simp
  · simp
theorem rDg_le (by_ : Nat → Int32) (ln : Nat) (w : Int32) (P : Nat × Int32) : (rDg by_ ln w P).2.1 ≤ P.1 + 1 := by
  unfold rDg
  split
  · split <;> simp
  · simp
theorem dlp_le (by_ : Nat → Int32) (ln : Nat) : ∀ (m p : Nat) (v : Int32), (dlp by_ ln m p v).1 ≤ p + m
  | 0, p, v => Nat.le_refl _
  | m + 1, p, v => by
    unfold dlp
    split
    · have := dlp_le by_ ln m (p + 1) (v * 10 + txa by_ ln p - 48)
      omega
    · simp
theorem rNm_le (by_ : Nat → Int32) (ln m : Nat) (g : Int32) (P : Nat × Int32) : (rNm by_ ln m g P).2.1 ≤ P.1 + m := by
  unfold rNm
  split
  · exact dlp_le by_ ln m P.1 0
  · simp
set_option maxHeartbeats 4000000 in
set_option maxRecDepth 100000 in
theorem ct_X1_startAnew (l : Launch) {D : va_G} {cI cJ cQ : ClassId} {r0 t0 t1 ln : Nat} {by_ : Nat → Int32} {sg sn rk bd br tk : Int32} {P : Nat × Int32} : Ct l yX1_startAnew (Cond.code yX1_startAnew cX1_startAnew 1 none) 0 0 0 0 D (tyz cI cJ cQ) [.ref r0] [(r0, .inr (1, [.ref t0, .int (sg), .int (sn), .int (rk), .int (bd), .int (br), .int (tk), .int (nI (P.1)), .int (P.2)])), (t0, .inr (5, [.int (nI ln), .ref t1])), (t1, .inl (cI, 100, .inl by_))] (pstV [(r0, .inr (1, [.ref t0, .int (sg), .int (sn), .int (rk), .int (bd), .int (br), .int (tk), .int (nI (0)), .int (-1)])), (t0, .inr (5, [.int (nI ln), .ref t1])), (t1, .inl (cI, 100, .inl by_))]) := by
  refine Ct.of RX1 (by decide) rfl (Nat.le_of_ble_eq_true rfl) ?_
  intro p e s m below meth c A C RC
  refine sw_aload_n 0 0 C dX1_startAnew_0 rfl rfl ?_
  refine sw_iconst 1 C dX1_startAnew_1 0 (by decide) ?_
  refine sw_top (show (0 : Int32) = nI 0 from rfl) ?_
  refine sw_put 2 0 7 tyX1 C dX1_startAnew_2 rfl rfl (inA lwX1) tyX1_ok nmX1 (C.w wF_X1_22) rfl rfl rfl rfl rfl rfl rfl ?_
  refine sw_ws [(_, .inr (1, [.ref _, .int _, .int _, .int _, .int _, .int _, .int _, .int _, .int _])), (_, .inr (5, [.int _, .ref _])), (_, .inl (_, _, .inl _))] rfl ?_
  refine sw_aload_n 5 0 C dX1_startAnew_5 rfl rfl ?_
  refine sw_iconst 6 C dX1_startAnew_6 (-1) (by decide) ?_
  refine sw_put 7 0 8 tyX1 C dX1_startAnew_7 rfl rfl (inA lwX1) tyX1_ok nmX1 (C.w wF_X1_18) rfl rfl rfl rfl rfl rfl rfl ?_
  refine sw_ws [(_, .inr (1, [.ref _, .int _, .int _, .int _, .int _, .int _, .int _, .int _, .int _])), (_, .inr (5, [.int _, .ref _])), (_, .inl (_, _, .inl _))] rfl ?_
  refine sw_vret 10 C RC dX1_startAnew_10 ?_
  exact ⟨rfl, rfl⟩
set_option maxHeartbeats 4000000 in
set_option maxRecDepth 100000 in
theorem ct_X1_isAtEnd (l : Launch) {D : va_G} {cI cJ cQ : ClassId} {r0 t0 t1 ln : Nat} {by_ : Nat → Int32} {sg sn rk bd br tk : Int32} {P : Nat × Int32} (hp : P.1 < 100000) (hln : ln ≤ 100) : Ct l yX1_isAtEnd (Cond.code yX1_isAtEnd cX1_isAtEnd 1 (some .boolean)) 0 0 0 0 D (tyz cI cJ cQ) [.ref r0] [(r0, .inr (1, [.ref t0, .int (sg), .int (sn), .int (rk), .int (bd), .int (br), .int (tk), .int (nI (P.1)), .int (P.2)])), (t0, .inr (5, [.int (nI ln), .ref t1])), (t1, .inl (cI, 100, .inl by_))] (pstI (bI (decide (ln ≤ P.1))) [(r0, .inr (1, [.ref t0, .int (sg), .int (sn), .int (rk), .int (bd), .int (br), .int (tk), .int (nI (P.1)), .int (P.2)])), (t0, .inr (5, [.int (nI ln), .ref t1])), (t1, .inl (cI, 100, .inl by_))]) := by
  refine Ct.of RX1 (by decide) rfl (Nat.le_of_ble_eq_true rfl) ?_
  intro p e s m below meth c A C RC
  refine sw_aload_n 0 0 C dX1_isAtEnd_0 rfl rfl ?_
  refine sw_get 1 0 7 C dX1_isAtEnd_1 rfl rfl (inA lwX1) (C.w wF_X1_22) rfl rfl rfl ?_
  refine sw_aload_n 4 0 C dX1_isAtEnd_4 rfl rfl ?_
  refine sw_get 5 0 0 C dX1_isAtEnd_5 rfl rfl (inA lwX1) (C.w wF_X1_12) rfl rfl rfl ?_
  refine sw_get 8 1 0 C dX1_isAtEnd_8 rfl rfl (inA lwX5) (C.w wF_X1_25) rfl rfl rfl ?_
  refine sw_icmp_lt 11 18 C dX1_isAtEnd_11 (by decide) (fun c_11 => ?_) (fun c_11 => ?_)
  · refine sw_iconst 18 C dX1_isAtEnd_18 0 (by decide) ?_
    refine sw_zret 19 C RC rfl dX1_isAtEnd_19 ?_
    exact ⟨by rw [decide_eq_false (p := ln ≤ P.1) (by have := (nI_ltI (by omega) (by omega)).mp c_11; omega)]; rfl, rfl⟩
  · refine sw_iconst 14 C dX1_isAtEnd_14 1 (by decide) ?_
    refine sw_goto 15 19 C dX1_isAtEnd_15 (by decide) ?_
    refine sw_zret 19 C RC rfl dX1_isAtEnd_19 ?_
    exact ⟨by rw [decide_eq_true (p := ln ≤ P.1) (Nat.not_lt.mp (fun h => c_11 (nI_lt h (by omega))))]; rfl, rfl⟩
set_option maxHeartbeats 4000000 in
set_option maxRecDepth 100000 in
theorem ct_X1_isDigitNext (l : Launch) {D : va_G} {cI cJ cQ : ClassId} {r0 t0 t1 ln : Nat} {by_ : Nat → Int32} {sg sn rk bd br tk : Int32} {P : Nat × Int32} (hp : P.1 < 100000) (hln : ln ≤ 100) : Ct l yX1_isDigitNext (Cond.code yX1_isDigitNext cX1_isDigitNext 2 (some .boolean)) 1 21 0 0 D (tyz cI cJ cQ) [.ref r0] [(r0, .inr (1, [.ref t0, .int (sg), .int (sn), .int (rk), .int (bd), .int (br), .int (tk), .int (nI (P.1)), .int (P.2)])), (t0, .inr (5, [.int (nI ln), .ref t1])), (t1, .inl (cI, 100, .inl by_))] (pstI (bI (isDv (txa by_ ln P.1))) [(r0, .inr (1, [.ref t0, .int (sg), .int (sn), .int (rk), .int (bd), .int (br), .int (tk), .int (nI (P.1)), .int (P.2)])), (t0, .inr (5, [.int (nI ln), .ref t1])), (t1, .inl (cI, 100, .inl by_))]) := by
  refine Ct.of RX1 (by decide) rfl (Nat.le_of_ble_eq_true rfl) ?_
  intro p e s m below meth c A C RC
  refine sw_aload_n 0 0 C dX1_isDigitNext_0 rfl rfl ?_
  refine sw_get 1 0 0 C dX1_isDigitNext_1 rfl rfl (inA lwX1) (C.w wF_X1_12) rfl rfl rfl ?_
  refine sw_aload_n 4 0 C dX1_isDigitNext_4 rfl rfl ?_
  refine sw_get 5 0 7 C dX1_isDigitNext_5 rfl rfl (inA lwX1) (C.w wF_X1_22) rfl rfl rfl ?_
  refine sw_callVIP 8 [1, 2] 1 C dX1_isDigitNext_8 (ct_X5_at l P.1 rfl (by omega) hln) wK_X5_at wM_X1_38 wN_X5_at wS_X5_X5_at wI_X5 hd_X5_at rfl rfl rfl ⟨rfl, rfl⟩ ⟨Nat.le_of_ble_eq_true rfl, Nat.le_of_ble_eq_true rfl⟩ rfl rfl rfl rfl ?_
  refine sw_istore_n 11 1 C dX1_isDigitNext_11 rfl rfl ?_
  refine sw_iload_n 12 1 C dX1_isDigitNext_12 rfl rfl ?_
  refine sw_bipush 13 C dX1_isDigitNext_13 48 (by decide) ?_
  refine sw_icmp_lt 15 28 C dX1_isDigitNext_15 (by decide) (fun c_15 => ?_) (fun c_15 => ?_)
  · refine sw_iconst 28 C dX1_isDigitNext_28 0 (by decide) ?_
    refine sw_zret 29 C RC rfl dX1_isDigitNext_29 ?_
    exact ⟨by unfold isDv; rw [decide_eq_false (Int32.not_le.mpr c_15)]; rfl, rfl⟩
  · refine sw_iload_n 18 1 C dX1_isDigitNext_18 rfl rfl ?_
    refine sw_bipush 19 C dX1_isDigitNext_19 57 (by decide) ?_
    refine sw_icmp_gt 21 28 C dX1_isDigitNext_21 (by decide) (fun c_21 => ?_) (fun c_21 => ?_)
    · refine sw_iconst 28 C dX1_isDigitNext_28 0 (by decide) ?_
      refine sw_zret 29 C RC rfl dX1_isDigitNext_29 ?_
      exact ⟨by unfold isDv; rw [decide_eq_false (p := _ ≤ (57 : Int32)) (Int32.not_le.mpr c_21), Bool.and_false]; rfl, rfl⟩
    · refine sw_iconst 24 C dX1_isDigitNext_24 1 (by decide) ?_
      refine sw_goto 25 29 C dX1_isDigitNext_25 (by decide) ?_
      refine sw_zret 29 C RC rfl dX1_isDigitNext_29 ?_
      exact ⟨by unfold isDv; rw [decide_eq_true (Int32.not_lt.mp c_15), decide_eq_true (p := _ ≤ (57 : Int32)) (Int32.not_lt.mp c_21)]; rfl, rfl⟩
set_option maxHeartbeats 4000000 in
set_option maxRecDepth 100000 in
theorem ct_X1_readSign (l : Launch) {D : va_G} {cI cJ cQ : ClassId} {r0 t0 t1 ln : Nat} {by_ : Nat → Int32} {sg sn rk bd br tk : Int32} {P : Nat × Int32} {w : Int32} (hp : P.1 < 100000) (hln : ln ≤ 100) : Ct l yX1_readSign (Cond.code yX1_readSign cX1_readSign 2 none) 1 21 0 0 D (tyz cI cJ cQ) [.ref r0, .int w] [(r0, .inr (1, [.ref t0, .int (sg), .int (sn), .int (rk), .int (bd), .int (br), .int (tk), .int (nI (P.1)), .int (P.2)])), (t0, .inr (5, [.int (nI ln), .ref t1])), (t1, .inl (cI, 100, .inl by_))] (pstV [(r0, .inr (1, [.ref t0, .int (sg), .int (sn), .int (rk), .int (bd), .int (br), .int (tk), .int (nI ((rSg by_ ln w P).1)), .int ((rSg by_ ln w P).2)])), (t0, .inr (5, [.int (nI ln), .ref t1])), (t1, .inl (cI, 100, .inl by_))]) := by
  refine Ct.of RX1 (by decide) rfl (Nat.le_of_ble_eq_true rfl) ?_
  intro p e s m below meth c A C RC
  refine sw_aload_n 0 0 C dX1_readSign_0 rfl rfl ?_
  refine sw_get 1 0 8 C dX1_readSign_1 rfl rfl (inA lwX1) (C.w wF_X1_18) rfl rfl rfl ?_
  refine sw_iconst 4 C dX1_readSign_4 (-1) (by decide) ?_
  refine sw_icmp_eq 5 9 C dX1_readSign_5 (by decide) (fun c_5 => ?_) (fun c_5 => ?_)
  · refine sw_aload_n 9 0 C dX1_readSign_9 rfl rfl ?_
    refine sw_get 10 0 0 C dX1_readSign_10 rfl rfl (inA lwX1) (C.w wF_X1_12) rfl rfl rfl ?_
    refine sw_aload_n 13 0 C dX1_readSign_13 rfl rfl ?_
    refine sw_get 14 0 7 C dX1_readSign_14 rfl rfl (inA lwX1) (C.w wF_X1_22) rfl rfl rfl ?_
    refine sw_callVIP 17 [1, 2] 1 C dX1_readSign_17 (ct_X5_at l P.1 rfl (by omega) hln) wK_X5_at wM_X1_38 wN_X5_at wS_X5_X5_at wI_X5 hd_X5_at rfl rfl rfl ⟨rfl, rfl⟩ ⟨Nat.le_of_ble_eq_true rfl, Nat.le_of_ble_eq_true rfl⟩ rfl rfl rfl rfl ?_
    refine sw_iload_n 20 1 C dX1_readSign_20 rfl rfl ?_
    refine sw_icmp_ne 21 37 C dX1_readSign_21 (by decide) (fun c_21 => ?_) (fun c_21 => ?_)
    · refine sw_aload_n 37 0 C dX1_readSign_37 rfl rfl ?_
      refine sw_aload_n 38 0 C dX1_readSign_38 rfl rfl ?_
      refine sw_get 39 0 7 C dX1_readSign_39 rfl rfl (inA lwX1) (C.w wF_X1_22) rfl rfl rfl ?_
      refine sw_put 42 0 8 tyX1 C dX1_readSign_42 rfl rfl (inA lwX1) tyX1_ok nmX1 (C.w wF_X1_18) rfl rfl rfl rfl rfl rfl rfl ?_
      refine sw_ws [(_, .inr (1, [.ref _, .int _, .int _, .int _, .int _, .int _, .int _, .int _, .int _])), (_, .inr (5, [.int _, .ref _])), (_, .inl (_, _, .inl _))] rfl ?_
      refine sw_vret 45 C RC dX1_readSign_45 ?_
      exact ⟨rfl, by rw [show rSg by_ ln w P = (P.1, nI P.1) from by unfold rSg; rw [if_pos c_5, if_neg c_21]]⟩
    · refine sw_aload_n 24 0 C dX1_readSign_24 rfl rfl ?_
      refine sw_dup 25 C dX1_readSign_25 rfl ?_
      refine sw_get 26 0 7 C dX1_readSign_26 rfl rfl (inA lwX1) (C.w wF_X1_22) rfl rfl rfl ?_
      refine sw_iconst 29 C dX1_readSign_29 1 (by decide) ?_
      refine sw_iadd 30 C dX1_readSign_30 ?_
      refine sw_top (nI_1 P.1) ?_
      refine sw_put 31 0 7 tyX1 C dX1_readSign_31 rfl rfl (inA lwX1) tyX1_ok nmX1 (C.w wF_X1_22) rfl rfl rfl rfl rfl rfl rfl ?_
      refine sw_ws [(_, .inr (1, [.ref _, .int _, .int _, .int _, .int _, .int _, .int _, .int _, .int _])), (_, .inr (5, [.int _, .ref _])), (_, .inl (_, _, .inl _))] rfl ?_
      refine sw_goto 34 45 C dX1_readSign_34 (by decide) ?_
      refine sw_vret 45 C RC dX1_readSign_45 ?_
      exact ⟨rfl, by rw [show rSg by_ ln w P = (P.1 + 1, P.2) from by unfold rSg; rw [if_pos c_5, if_pos c_21]]⟩
  · refine sw_vret 8 C RC dX1_readSign_8 ?_
    exact ⟨rfl, by rw [show rSg by_ ln w P = P from if_neg c_5]⟩
set_option maxHeartbeats 4000000 in
set_option maxRecDepth 100000 in
theorem ct_X1_readDigit (l : Launch) {D : va_G} {cI cJ cQ : ClassId} {r0 t0 t1 ln : Nat} {by_ : Nat → Int32} {sg sn rk bd br tk : Int32} {P : Nat × Int32} {g : Int32} (hp : P.1 < 100000) (hln : ln ≤ 100) : Ct l yX1_readDigit (Cond.code yX1_readDigit cX1_readDigit 3 (some .int)) 1 21 0 0 D (tyz cI cJ cQ) [.ref r0, .int g] [(r0, .inr (1, [.ref t0, .int (sg), .int (sn), .int (rk), .int (bd), .int (br), .int (tk), .int (nI (P.1)), .int (P.2)])), (t0, .inr (5, [.int (nI ln), .ref t1])), (t1, .inl (cI, 100, .inl by_))] (pstI (rDg by_ ln g P).1 [(r0, .inr (1, [.ref t0, .int (sg), .int (sn), .int (rk), .int (bd), .int (br), .int (tk), .int (nI ((rDg by_ ln g P).2.1)), .int ((rDg by_ ln g P).2.2)])), (t0, .inr (5, [.int (nI ln), .ref t1])), (t1, .inl (cI, 100, .inl by_))]) := by
  refine Ct.of RX1 (by decide) rfl (Nat.le_of_ble_eq_true rfl) ?_
  intro p e s m below meth c A C RC
  refine sw_aload_n 0 0 C dX1_readDigit_0 rfl rfl ?_
  refine sw_get 1 0 8 C dX1_readDigit_1 rfl rfl (inA lwX1) (C.w wF_X1_18) rfl rfl rfl ?_
  refine sw_iconst 4 C dX1_readDigit_4 (-1) (by decide) ?_
  refine sw_icmp_eq 5 10 C dX1_readDigit_5 (by decide) (fun c_5 => ?_) (fun c_5 => ?_)
  · refine sw_aload_n 10 0 C dX1_readDigit_10 rfl rfl ?_
    refine sw_get 11 0 0 C dX1_readDigit_11 rfl rfl (inA lwX1) (C.w wF_X1_12) rfl rfl rfl ?_
    refine sw_aload_n 14 0 C dX1_readDigit_14 rfl rfl ?_
    refine sw_get 15 0 7 C dX1_readDigit_15 rfl rfl (inA lwX1) (C.w wF_X1_22) rfl rfl rfl ?_
    refine sw_callVIP 18 [1, 2] 1 C dX1_readDigit_18 (ct_X5_at l P.1 rfl (by omega) hln) wK_X5_at wM_X1_38 wN_X5_at wS_X5_X5_at wI_X5 hd_X5_at rfl rfl rfl ⟨rfl, rfl⟩ ⟨Nat.le_of_ble_eq_true rfl, Nat.le_of_ble_eq_true rfl⟩ rfl rfl rfl rfl ?_
    refine sw_bipush 21 C dX1_readDigit_21 48 (by decide) ?_
    refine sw_isub 23 C dX1_readDigit_23 ?_
    refine sw_istore_n 24 2 C dX1_readDigit_24 rfl rfl ?_
    refine sw_iload_n 25 2 C dX1_readDigit_25 rfl rfl ?_
    refine sw_if_lt 26 34 C dX1_readDigit_26 (by decide) (fun c_26 => ?_) (fun c_26 => ?_)
    · refine sw_aload_n 34 0 C dX1_readDigit_34 rfl rfl ?_
      refine sw_aload_n 35 0 C dX1_readDigit_35 rfl rfl ?_
      refine sw_get 36 0 7 C dX1_readDigit_36 rfl rfl (inA lwX1) (C.w wF_X1_22) rfl rfl rfl ?_
      refine sw_put 39 0 8 tyX1 C dX1_readDigit_39 rfl rfl (inA lwX1) tyX1_ok nmX1 (C.w wF_X1_18) rfl rfl rfl rfl rfl rfl rfl ?_
      refine sw_ws [(_, .inr (1, [.ref _, .int _, .int _, .int _, .int _, .int _, .int _, .int _, .int _])), (_, .inr (5, [.int _, .ref _])), (_, .inl (_, _, .inl _))] rfl ?_
      refine sw_iconst 42 C dX1_readDigit_42 0 (by decide) ?_
      refine sw_iret 43 C RC dX1_readDigit_43 ?_
      have hr : rDg by_ ln g P = (0, P.1, nI P.1) := by unfold rDg; rw [if_pos c_5, if_pos (Or.inl c_26)]
      exact ⟨by rw [hr], by rw [hr]⟩
    · refine sw_iload_n 29 2 C dX1_readDigit_29 rfl rfl ?_
      refine sw_iload_n 30 1 C dX1_readDigit_30 rfl rfl ?_
      refine sw_icmp_le 31 44 C dX1_readDigit_31 (by decide) (fun c_31 => ?_) (fun c_31 => ?_)
      · refine sw_aload_n 44 0 C dX1_readDigit_44 rfl rfl ?_
        refine sw_dup 45 C dX1_readDigit_45 rfl ?_
        refine sw_get 46 0 7 C dX1_readDigit_46 rfl rfl (inA lwX1) (C.w wF_X1_22) rfl rfl rfl ?_
        refine sw_iconst 49 C dX1_readDigit_49 1 (by decide) ?_
        refine sw_iadd 50 C dX1_readDigit_50 ?_
        refine sw_top (nI_1 P.1) ?_
        refine sw_put 51 0 7 tyX1 C dX1_readDigit_51 rfl rfl (inA lwX1) tyX1_ok nmX1 (C.w wF_X1_22) rfl rfl rfl rfl rfl rfl rfl ?_
        refine sw_ws [(_, .inr (1, [.ref _, .int _, .int _, .int _, .int _, .int _, .int _, .int _, .int _])), (_, .inr (5, [.int _, .ref _])), (_, .inl (_, _, .inl _))] rfl ?_
        refine sw_iload_n 54 2 C dX1_readDigit_54 rfl rfl ?_
        refine sw_iret 55 C RC dX1_readDigit_55 ?_
        have hr : rDg by_ ln g P = (txa by_ ln P.1 - 48, P.1 + 1, P.2) := by unfold rDg; rw [if_pos c_5, if_neg (fun h => h.elim c_26 (fun h => absurd c_31 (Int32.not_le.mpr h)))]
        exact ⟨by rw [hr], by rw [hr]⟩
      · refine sw_aload_n 34 0 C dX1_readDigit_34 rfl rfl ?_
        refine sw_aload_n 35 0 C dX1_readDigit_35 rfl rfl ?_
        refine sw_get 36 0 7 C dX1_readDigit_36 rfl rfl (inA lwX1) (C.w wF_X1_22) rfl rfl rfl ?_
        refine sw_put 39 0 8 tyX1 C dX1_readDigit_39 rfl rfl (inA lwX1) tyX1_ok nmX1 (C.w wF_X1_18) rfl rfl rfl rfl rfl rfl rfl ?_
        refine sw_ws [(_, .inr (1, [.ref _, .int _, .int _, .int _, .int _, .int _, .int _, .int _, .int _])), (_, .inr (5, [.int _, .ref _])), (_, .inl (_, _, .inl _))] rfl ?_
        refine sw_iconst 42 C dX1_readDigit_42 0 (by decide) ?_
        refine sw_iret 43 C RC dX1_readDigit_43 ?_
        have hr : rDg by_ ln g P = (0, P.1, nI P.1) := by unfold rDg; rw [if_pos c_5, if_pos (Or.inr (Int32.not_le.mp c_31))]
        exact ⟨by rw [hr], by rw [hr]⟩
  · refine sw_iconst 8 C dX1_readDigit_8 0 (by decide) ?_
    refine sw_iret 9 C RC dX1_readDigit_9 ?_
    have hr : rDg by_ ln g P = (0, P) := if_neg c_5
    exact ⟨by rw [hr], by rw [hr]⟩
set_option maxHeartbeats 4000000 in
set_option maxRecDepth 100000 in
theorem lp_X1_readNumber {l : Launch} {p : Program} {e : Env} {s : State} {m : MethodId} {args : Array Value} {below : List Frame} {meth : Method} {c : Code} {A : Nat → Prop} {D : va_G} {cI cJ cQ : ClassId} {r0 t0 t1 ln : Nat} {by_ : Nat → Int32} {sg sn rk bd br tk : Int32} {p0 : Nat} {er : Int32} {g : Int32} {mx : Nat} (hmx : mx ≤ 3) (hp : p0 < 99000) (hln : ln ≤ 100) (T : Nat × Int32) (C : CC p s m args c cX1_readNumber 6 RX1 (Cond.code yX1_readNumber cX1_readNumber 6 (some .int) :: lw_all) D (tyz cI cJ cQ) A s.heap) (RC : meth.sig.returnType = (some .int) ∧ meth.locks = false ∧ meth.name = yX1_readNumber.name) : ∀ (fu i : Nat), i ≤ mx → mx + 1 ≤ i + fu → ∀ (pz : Nat) (v : Int32), pz ≤ 99000 + i → dlp by_ ln (mx - i) pz v = T → ∀ (xv : Int32) (xi : Int32), (xv = v) → (xi = nI i) →  sw p l e ({ frames := 2, cells := 0, slots := 0, locals := 42 } : Room) s m args below meth c D A s.heap 6 0 0 (MQ below (ctQ D (tyz cI cJ cQ) A (pstI T.2 [(r0, .inr (1, [.ref t0, .int (sg), .int (sn), .int (rk), .int (bd), .int (br), .int (tk), .int (nI (T.1)), .int (rEr by_ ln g p0 T er)])), (t0, .inr (5, [.int (nI ln), .ref t1])), (t1, .inl (cI, 100, .inl by_))])) args s 0 0 A) [(r0, .inr (1, [.ref t0, .int (sg), .int (sn), .int (rk), .int (bd), .int (br), .int (tk), .int (nI (pz)), .int (er)])), (t0, .inr (5, [.int (nI ln), .ref t1])), (t1, .inl (cI, 100, .inl by_))] 21 [(0, .ref r0), (1, .int (nI mx)), (2, .int g), (3, .int (nI p0)), (4, .int xv), (5, .int xi)] [] := by
  intro fu
  induction fu with
  | zero => intro i h1 h2; exact absurd h2 (by omega)
  | succ fu ih =>
    intro i hi hf pz v hpb hd xv xi exv exi
    subst exv exi
    refine sw_iload 21 C dX1_readNumber_21 rfl ?_
    refine sw_iload_n 23 1 C dX1_readNumber_23 rfl rfl ?_
    refine sw_icmp_ge 24 72 C dX1_readNumber_24 (by decide) (fun c_24 => ?_) (fun c_24 => ?_)
    · obtain rfl : T = (pz, xv) := by rw [← hd, show mx - i = 0 by have := nI_ge' (by omega) c_24 (by omega); omega]; rfl
      refine sw_aload_n 72 0 C dX1_readNumber_72 rfl rfl ?_
      refine sw_get 73 0 7 C dX1_readNumber_73 rfl rfl (inA lwX1) (C.w wF_X1_22) rfl rfl rfl ?_
      refine sw_iload_n 76 3 C dX1_readNumber_76 rfl rfl ?_
      refine sw_icmp_eq 77 87 C dX1_readNumber_77 (by decide) (fun c_77 => ?_) (fun c_77 => ?_)
      · refine sw_aload_n 87 0 C dX1_readNumber_87 rfl rfl ?_
        refine sw_aload_n 88 0 C dX1_readNumber_88 rfl rfl ?_
        refine sw_get 89 0 7 C dX1_readNumber_89 rfl rfl (inA lwX1) (C.w wF_X1_22) rfl rfl rfl ?_
        refine sw_put 92 0 8 tyX1 C dX1_readNumber_92 rfl rfl (inA lwX1) tyX1_ok nmX1 (C.w wF_X1_18) rfl rfl rfl rfl rfl rfl rfl ?_
        refine sw_ws [(_, .inr (1, [.ref _, .int _, .int _, .int _, .int _, .int _, .int _, .int _, .int _])), (_, .inr (5, [.int _, .ref _])), (_, .inl (_, _, .inl _))] rfl ?_
        refine sw_goto 95 115 C dX1_readNumber_95 (by decide) ?_
        refine sw_iload 115 C dX1_readNumber_115 rfl ?_
        refine sw_iret 117 C RC dX1_readNumber_117 ?_
        have hr : rEr by_ ln g p0 (pz, xv) er = nI pz := by unfold rEr; rw [if_pos (Or.inl (nI_inj (by omega) (by omega) c_77))]
        exact ⟨rfl, by rw [hr]⟩
      · refine sw_aload_n 80 0 C dX1_readNumber_80 rfl rfl ?_
        refine sw_callVIP 81 [0, 1, 2] 0 C dX1_readNumber_81 (ct_X1_isDigitNext l (P := (pz, er)) (by omega) hln) wK_X1_isDigitNext wM_X1_74 wN_X1_isDigitNext wS_X1_X1_isDigitNext wI_X1 hd_X1_isDigitNext rfl rfl rfl ⟨rfl, rfl⟩ ⟨Nat.le_of_ble_eq_true rfl, Nat.le_of_ble_eq_true rfl⟩ rfl rfl rfl rfl ?_
        refine sw_if_eq 84 98 C dX1_readNumber_84 (by decide) (fun c_84 => ?_) (fun c_84 => ?_)
        · refine sw_iload 98 C dX1_readNumber_98 rfl ?_
          refine sw_iconst 100 C dX1_readNumber_100 1 (by decide) ?_
          refine sw_icmp_lt 101 110 C dX1_readNumber_101 (by decide) (fun c_101 => ?_) (fun c_101 => ?_)
          · refine sw_aload_n 110 0 C dX1_readNumber_110 rfl rfl ?_
            refine sw_iload_n 111 3 C dX1_readNumber_111 rfl rfl ?_
            refine sw_put 112 0 8 tyX1 C dX1_readNumber_112 rfl rfl (inA lwX1) tyX1_ok nmX1 (C.w wF_X1_18) rfl rfl rfl rfl rfl rfl rfl ?_
            refine sw_ws [(_, .inr (1, [.ref _, .int _, .int _, .int _, .int _, .int _, .int _, .int _, .int _])), (_, .inr (5, [.int _, .ref _])), (_, .inl (_, _, .inl _))] rfl ?_
            refine sw_iload 115 C dX1_readNumber_115 rfl ?_
            refine sw_iret 117 C RC dX1_readNumber_117 ?_
            have hr : rEr by_ ln g p0 (pz, xv) er = nI p0 := by unfold rEr; rw [if_neg (fun h => h.elim (fun h => c_77 (by rw [show pz = p0 from h])) (fun h => by rw [bI_f c_84] at h; cases h)), if_pos (Or.inl c_101)]
            exact ⟨rfl, by rw [hr]⟩
          · refine sw_iload 104 C dX1_readNumber_104 rfl ?_
            refine sw_iload_n 106 2 C dX1_readNumber_106 rfl rfl ?_
            refine sw_icmp_le 107 115 C dX1_readNumber_107 (by decide) (fun c_107 => ?_) (fun c_107 => ?_)
            · refine sw_iload 115 C dX1_readNumber_115 rfl ?_
              refine sw_iret 117 C RC dX1_readNumber_117 ?_
              have hr : rEr by_ ln g p0 (pz, xv) er = er := by unfold rEr; rw [if_neg (fun h => h.elim (fun h => c_77 (by rw [show pz = p0 from h])) (fun h => by rw [bI_f c_84] at h; cases h)), if_neg (fun h => h.elim c_101 (fun h => absurd c_107 (Int32.not_le.mpr h)))]
              exact ⟨rfl, by rw [hr]⟩
            · refine sw_aload_n 110 0 C dX1_readNumber_110 rfl rfl ?_
              refine sw_iload_n 111 3 C dX1_readNumber_111 rfl rfl ?_
              refine sw_put 112 0 8 tyX1 C dX1_readNumber_112 rfl rfl (inA lwX1) tyX1_ok nmX1 (C.w wF_X1_18) rfl rfl rfl rfl rfl rfl rfl ?_
              refine sw_ws [(_, .inr (1, [.ref _, .int _, .int _, .int _, .int _, .int _, .int _, .int _, .int _])), (_, .inr (5, [.int _, .ref _])), (_, .inl (_, _, .inl _))] rfl ?_
              refine sw_iload 115 C dX1_readNumber_115 rfl ?_
              refine sw_iret 117 C RC dX1_readNumber_117 ?_
              have hr : rEr by_ ln g p0 (pz, xv) er = nI p0 := by unfold rEr; rw [if_neg (fun h => h.elim (fun h => c_77 (by rw [show pz = p0 from h])) (fun h => by rw [bI_f c_84] at h; cases h)), if_pos (Or.inr (Int32.not_le.mp c_107))]
              exact ⟨rfl, by rw [hr]⟩
        · refine sw_aload_n 87 0 C dX1_readNumber_87 rfl rfl ?_
          refine sw_aload_n 88 0 C dX1_readNumber_88 rfl rfl ?_
          refine sw_get 89 0 7 C dX1_readNumber_89 rfl rfl (inA lwX1) (C.w wF_X1_22) rfl rfl rfl ?_
          refine sw_put 92 0 8 tyX1 C dX1_readNumber_92 rfl rfl (inA lwX1) tyX1_ok nmX1 (C.w wF_X1_18) rfl rfl rfl rfl rfl rfl rfl ?_
          refine sw_ws [(_, .inr (1, [.ref _, .int _, .int _, .int _, .int _, .int _, .int _, .int _, .int _])), (_, .inr (5, [.int _, .ref _])), (_, .inl (_, _, .inl _))] rfl ?_
          refine sw_goto 95 115 C dX1_readNumber_95 (by decide) ?_
          refine sw_iload 115 C dX1_readNumber_115 rfl ?_
          refine sw_iret 117 C RC dX1_readNumber_117 ?_
          have hr : rEr by_ ln g p0 (pz, xv) er = nI pz := by unfold rEr; rw [if_pos (Or.inr (bI_t c_84))]
          exact ⟨rfl, by rw [hr]⟩
    · have hlt : i < mx := by
        rcases Nat.lt_or_ge i mx with q | q
        · exact q
        · exact absurd (nI_le q (by omega)) c_24
      refine sw_aload_n 27 0 C dX1_readNumber_27 rfl rfl ?_
      refine sw_callVIP 28 [0, 1, 2] 0 C dX1_readNumber_28 (ct_X1_isDigitNext l (P := (pz, er)) (by omega) hln) wK_X1_isDigitNext wM_X1_74 wN_X1_isDigitNext wS_X1_X1_isDigitNext wI_X1 hd_X1_isDigitNext rfl rfl rfl ⟨rfl, rfl⟩ ⟨Nat.le_of_ble_eq_true rfl, Nat.le_of_ble_eq_true rfl⟩ rfl rfl rfl rfl ?_
      refine sw_if_eq 31 72 C dX1_readNumber_31 (by decide) (fun c_31 => ?_) (fun c_31 => ?_)
      · obtain rfl : T = (pz, xv) := by
          rw [← hd, show mx - i = (mx - i - 1) + 1 by omega]
          exact if_neg (by rw [bI_f c_31]; decide)
        refine sw_aload_n 72 0 C dX1_readNumber_72 rfl rfl ?_
        refine sw_get 73 0 7 C dX1_readNumber_73 rfl rfl (inA lwX1) (C.w wF_X1_22) rfl rfl rfl ?_
        refine sw_iload_n 76 3 C dX1_readNumber_76 rfl rfl ?_
        refine sw_icmp_eq 77 87 C dX1_readNumber_77 (by decide) (fun c_77 => ?_) (fun c_77 => ?_)
        · refine sw_aload_n 87 0 C dX1_readNumber_87 rfl rfl ?_
          refine sw_aload_n 88 0 C dX1_readNumber_88 rfl rfl ?_
          refine sw_get 89 0 7 C dX1_readNumber_89 rfl rfl (inA lwX1) (C.w wF_X1_22) rfl rfl rfl ?_
          refine sw_put 92 0 8 tyX1 C dX1_readNumber_92 rfl rfl (inA lwX1) tyX1_ok nmX1 (C.w wF_X1_18) rfl rfl rfl rfl rfl rfl rfl ?_
          refine sw_ws [(_, .inr (1, [.ref _, .int _, .int _, .int _, .int _, .int _, .int _, .int _, .int _])), (_, .inr (5, [.int _, .ref _])), (_, .inl (_, _, .inl _))] rfl ?_
          refine sw_goto 95 115 C dX1_readNumber_95 (by decide) ?_
          refine sw_iload 115 C dX1_readNumber_115 rfl ?_
          refine sw_iret 117 C RC dX1_readNumber_117 ?_
          have hr : rEr by_ ln g p0 (pz, xv) er = nI pz := by unfold rEr; rw [if_pos (Or.inl (nI_inj (by omega) (by omega) c_77))]
          exact ⟨rfl, by rw [hr]⟩
        · refine sw_aload_n 80 0 C dX1_readNumber_80 rfl rfl ?_
          refine sw_callVIP 81 [0, 1, 2] 0 C dX1_readNumber_81 (ct_X1_isDigitNext l (P := (pz, er)) (by omega) hln) wK_X1_isDigitNext wM_X1_74 wN_X1_isDigitNext wS_X1_X1_isDigitNext wI_X1 hd_X1_isDigitNext rfl rfl rfl ⟨rfl, rfl⟩ ⟨Nat.le_of_ble_eq_true rfl, Nat.le_of_ble_eq_true rfl⟩ rfl rfl rfl rfl ?_
          refine sw_if_eq 84 98 C dX1_readNumber_84 (by decide) (fun c_84 => ?_) (fun c_84 => ?_)
          · refine sw_iload 98 C dX1_readNumber_98 rfl ?_
            refine sw_iconst 100 C dX1_readNumber_100 1 (by decide) ?_
            refine sw_icmp_lt 101 110 C dX1_readNumber_101 (by decide) (fun c_101 => ?_) (fun c_101 => ?_)
            · refine sw_aload_n 110 0 C dX1_readNumber_110 rfl rfl ?_
              refine sw_iload_n 111 3 C dX1_readNumber_111 rfl rfl ?_
              refine sw_put 112 0 8 tyX1 C dX1_readNumber_112 rfl rfl (inA lwX1) tyX1_ok nmX1 (C.w wF_X1_18) rfl rfl rfl rfl rfl rfl rfl ?_
              refine sw_ws [(_, .inr (1, [.ref _, .int _, .int _, .int _, .int _, .int _, .int _, .int _, .int _])), (_, .inr (5, [.int _, .ref _])), (_, .inl (_, _, .inl _))] rfl ?_
              refine sw_iload 115 C dX1_readNumber_115 rfl ?_
              refine sw_iret 117 C RC dX1_readNumber_117 ?_
              have hr : rEr by_ ln g p0 (pz, xv) er = nI p0 := by unfold rEr; rw [if_neg (fun h => h.elim (fun h => c_77 (by rw [show pz = p0 from h])) (fun h => by rw [bI_f c_84] at h; cases h)), if_pos (Or.inl c_101)]
              exact ⟨rfl, by rw [hr]⟩
            · refine sw_iload 104 C dX1_readNumber_104 rfl ?_
              refine sw_iload_n 106 2 C dX1_readNumber_106 rfl rfl ?_
              refine sw_icmp_le 107 115 C dX1_readNumber_107 (by decide) (fun c_107 => ?_) (fun c_107 => ?_)
              · refine sw_iload 115 C dX1_readNumber_115 rfl ?_
                refine sw_iret 117 C RC dX1_readNumber_117 ?_
                have hr : rEr by_ ln g p0 (pz, xv) er = er := by unfold rEr; rw [if_neg (fun h => h.elim (fun h => c_77 (by rw [show pz = p0 from h])) (fun h => by rw [bI_f c_84] at h; cases h)), if_neg (fun h => h.elim c_101 (fun h => absurd c_107 (Int32.not_le.mpr h)))]
                exact ⟨rfl, by rw [hr]⟩
              · refine sw_aload_n 110 0 C dX1_readNumber_110 rfl rfl ?_
                refine sw_iload_n 111 3 C dX1_readNumber_111 rfl rfl ?_
                refine sw_put 112 0 8 tyX1 C dX1_readNumber_112 rfl rfl (inA lwX1) tyX1_ok nmX1 (C.w wF_X1_18) rfl rfl rfl rfl rfl rfl rfl ?_
                refine sw_ws [(_, .inr (1, [.ref _, .int _, .int _, .int _, .int _, .int _, .int _, .int _, .int _])), (_, .inr (5, [.int _, .ref _])), (_, .inl (_, _, .inl _))] rfl ?_
                refine sw_iload 115 C dX1_readNumber_115 rfl ?_
                refine sw_iret 117 C RC dX1_readNumber_117 ?_
                have hr : rEr by_ ln g p0 (pz, xv) er = nI p0 := by unfold rEr; rw [if_neg (fun h => h.elim (fun h => c_77 (by rw [show pz = p0 from h])) (fun h => by rw [bI_f c_84] at h; cases h)), if_pos (Or.inr (Int32.not_le.mp c_107))]
                exact ⟨rfl, by rw [hr]⟩
          · refine sw_aload_n 87 0 C dX1_readNumber_87 rfl rfl ?_
            refine sw_aload_n 88 0 C dX1_readNumber_88 rfl rfl ?_
            refine sw_get 89 0 7 C dX1_readNumber_89 rfl rfl (inA lwX1) (C.w wF_X1_22) rfl rfl rfl ?_
            refine sw_put 92 0 8 tyX1 C dX1_readNumber_92 rfl rfl (inA lwX1) tyX1_ok nmX1 (C.w wF_X1_18) rfl rfl rfl rfl rfl rfl rfl ?_
            refine sw_ws [(_, .inr (1, [.ref _, .int _, .int _, .int _, .int _, .int _, .int _, .int _, .int _])), (_, .inr (5, [.int _, .ref _])), (_, .inl (_, _, .inl _))] rfl ?_
            refine sw_goto 95 115 C dX1_readNumber_95 (by decide) ?_
            refine sw_iload 115 C dX1_readNumber_115 rfl ?_
            refine sw_iret 117 C RC dX1_readNumber_117 ?_
            have hr : rEr by_ ln g p0 (pz, xv) er = nI pz := by unfold rEr; rw [if_pos (Or.inr (bI_t c_84))]
            exact ⟨rfl, by rw [hr]⟩
      · refine sw_iload 34 C dX1_readNumber_34 rfl ?_
        refine sw_bipush 36 C dX1_readNumber_36 10 (by decide) ?_
        refine sw_imul 38 C dX1_readNumber_38 ?_
        refine sw_aload_n 39 0 C dX1_readNumber_39 rfl rfl ?_
        refine sw_get 40 0 0 C dX1_readNumber_40 rfl rfl (inA lwX1) (C.w wF_X1_12) rfl rfl rfl ?_
        refine sw_aload_n 43 0 C dX1_readNumber_43 rfl rfl ?_
        refine sw_get 44 0 7 C dX1_readNumber_44 rfl rfl (inA lwX1) (C.w wF_X1_22) rfl rfl rfl ?_
        refine sw_callVIP 47 [1, 2] 1 C dX1_readNumber_47 (ct_X5_at l pz rfl (by omega) hln) wK_X5_at wM_X1_38 wN_X5_at wS_X5_X5_at wI_X5 hd_X5_at rfl rfl rfl ⟨rfl, rfl⟩ ⟨Nat.le_of_ble_eq_true rfl, Nat.le_of_ble_eq_true rfl⟩ rfl rfl rfl rfl ?_
        refine sw_iadd 50 C dX1_readNumber_50 ?_
        refine sw_bipush 51 C dX1_readNumber_51 48 (by decide) ?_
        refine sw_isub 53 C dX1_readNumber_53 ?_
        refine sw_istore 54 C dX1_readNumber_54 rfl ?_
        refine sw_aload_n 56 0 C dX1_readNumber_56 rfl rfl ?_
        refine sw_dup 57 C dX1_readNumber_57 rfl ?_
        refine sw_get 58 0 7 C dX1_readNumber_58 rfl rfl (inA lwX1) (C.w wF_X1_22) rfl rfl rfl ?_
        refine sw_iconst 61 C dX1_readNumber_61 1 (by decide) ?_
        refine sw_iadd 62 C dX1_readNumber_62 ?_
        refine sw_top (nI_1 pz) ?_
        refine sw_put 63 0 7 tyX1 C dX1_readNumber_63 rfl rfl (inA lwX1) tyX1_ok nmX1 (C.w wF_X1_22) rfl rfl rfl rfl rfl rfl rfl ?_
        refine sw_ws [(_, .inr (1, [.ref _, .int _, .int _, .int _, .int _, .int _, .int _, .int _, .int _])), (_, .inr (5, [.int _, .ref _])), (_, .inl (_, _, .inl _))] rfl ?_
        refine sw_iinc 66 C 1 dX1_readNumber_66 (by decide) rfl rfl ?_
        refine sw_loc (L1 := [(0, .ref _), (1, .int _), (2, .int _), (3, .int _), (4, .int _), (5, .int _)]) ?_ rfl
        refine sw_goto 69 21 C dX1_readNumber_69 (by decide) ?_
        exact sw_loc (ih (i + 1) (by omega) (by omega) (pz + 1) (xv * 10 + txa by_ ln pz - 48) (by omega) (by
          rw [← hd, show mx - i = (mx - (i + 1)) + 1 by omega]
          exact (if_pos (bI_t c_31)).symm) _ _ rfl (nI_1 i)) rfl
set_option maxHeartbeats 4000000 in
set_option maxRecDepth 100000 in
theorem ct_X1_readNumber (l : Launch) {D : va_G} {cI cJ cQ : ClassId} {r0 t0 t1 ln : Nat} {by_ : Nat → Int32} {sg sn rk bd br tk : Int32} {P : Nat × Int32} {g x1 : Int32} (mx : Nat) (h1 : x1 = nI mx) (hmx : mx ≤ 3) (hp : P.1 < 99000) (hln : ln ≤ 100) : Ct l yX1_readNumber (Cond.code yX1_readNumber cX1_readNumber 6 (some .int)) 2 42 0 0 D (tyz cI cJ cQ) [.ref r0, .int x1, .int g] [(r0, .inr (1, [.ref t0, .int (sg), .int (sn), .int (rk), .int (bd), .int (br), .int (tk), .int (nI (P.1)), .int (P.2)])), (t0, .inr (5, [.int (nI ln), .ref t1])), (t1, .inl (cI, 100, .inl by_))] (pstI (rNm by_ ln mx g P).1 [(r0, .inr (1, [.ref t0, .int (sg), .int (sn), .int (rk), .int (bd), .int (br), .int (tk), .int (nI ((rNm by_ ln mx g P).2.1)), .int ((rNm by_ ln mx g P).2.2)])), (t0, .inr (5, [.int (nI ln), .ref t1])), (t1, .inl (cI, 100, .inl by_))]) := by
  refine Ct.of RX1 (by decide) rfl (Nat.le_of_ble_eq_true rfl) ?_
  intro p e s m below meth c A C RC
  subst h1
  refine sw_aload_n 0 0 C dX1_readNumber_0 rfl rfl ?_
  refine sw_get 1 0 8 C dX1_readNumber_1 rfl rfl (inA lwX1) (C.w wF_X1_18) rfl rfl rfl ?_
  refine sw_iconst 4 C dX1_readNumber_4 (-1) (by decide) ?_
  refine sw_icmp_eq 5 10 C dX1_readNumber_5 (by decide) (fun c_5 => ?_) (fun c_5 => ?_)
  · refine sw_aload_n 10 0 C dX1_readNumber_10 rfl rfl ?_
    refine sw_get 11 0 7 C dX1_readNumber_11 rfl rfl (inA lwX1) (C.w wF_X1_22) rfl rfl rfl ?_
    refine sw_istore_n 14 3 C dX1_readNumber_14 rfl rfl ?_
    refine sw_iconst 15 C dX1_readNumber_15 0 (by decide) ?_
    refine sw_istore 16 C dX1_readNumber_16 rfl ?_
    refine sw_loc (L1 := [(0, .ref _), (1, .int _), (2, .int _), (3, .int _), (4, .int _)]) ?_ rfl
    refine sw_iconst 18 C dX1_readNumber_18 0 (by decide) ?_
    refine sw_istore 19 C dX1_readNumber_19 rfl ?_
    have hr : rNm by_ ln mx g P = ((dlp by_ ln mx P.1 0).2, (dlp by_ ln mx P.1 0).1, rEr by_ ln g P.1 (dlp by_ ln mx P.1 0) P.2) := if_pos c_5
    rw [hr]
    exact sw_loc (lp_X1_readNumber hmx hp hln (dlp by_ ln mx P.1 0) C RC (mx + 1) 0 (Nat.zero_le _) (by omega) P.1 0 (by omega) rfl _ _ rfl rfl) rfl
  · refine sw_iconst 8 C dX1_readNumber_8 0 (by decide) ?_
    refine sw_iret 9 C RC dX1_readNumber_9 ?_
    have hr : rNm by_ ln mx g P = (0, P) := if_neg c_5
    exact ⟨by rw [hr], by rw [hr]⟩
def rSd (by_ : Nat → Int32) (ln : Nat) (P : Nat × Int32) : (Int32 × Int32 × Int32) × Nat × Int32 :=
  (((rDg by_ ln 7 P).1, (rDg by_ ln 4 (rDg by_ ln 7 P).2).1, (rNm by_ ln 3 200 (rSg by_ ln 44 (rDg by_ ln 4 (rDg by_ ln 7 P).2).2)).1), (rNm by_ ln 3 200 (rSg by_ ln 44 (rDg by_ ln 4 (rDg by_ ln 7 P).2).2)).2)
theorem rSd_le (by_ : Nat → Int32) (ln : Nat) (P : Nat × Int32) : (rSd by_ ln P).2.1 ≤ P.1 + 6 := by
  unfold rSd
  have h1 := rDg_le by_ ln 7 P
  have h2 := rDg_le by_ ln 4 (rDg by_ ln 7 P).2
  have h3 := rSg_le by_ ln 44 (rDg by_ ln 4 (rDg by_ ln 7 P).2).2
  have h4 := rNm_le by_ ln 3 200 (rSg by_ ln 44 (rDg by_ ln 4 (rDg by_ ln 7 P).2).2)
  dsimp only
  omega
set_option maxHeartbeats 4000000 in
set_option maxRecDepth 100000 in
theorem ct_X1_readSending (l : Launch) {D : va_G} {cI cJ cQ : ClassId} {r0 t0 t1 ln : Nat} {by_ : Nat → Int32} {sg sn rk bd br tk : Int32} {P : Nat × Int32} (hp : P.1 < 90000) (hln : ln ≤ 100) : Ct l yX1_readSending (Cond.code yX1_readSending cX1_readSending 1 none) 3 67 0 0 D (tyz cI cJ cQ) [.ref r0] [(r0, .inr (1, [.ref t0, .int (sg), .int (sn), .int (rk), .int (bd), .int (br), .int (tk), .int (nI (P.1)), .int (P.2)])), (t0, .inr (5, [.int (nI ln), .ref t1])), (t1, .inl (cI, 100, .inl by_))] (pstV [(r0, .inr (1, [.ref t0, .int (sg), .int ((rSd by_ ln P).1.1), .int ((rSd by_ ln P).1.2.1), .int ((rSd by_ ln P).1.2.2), .int (br), .int (tk), .int (nI ((rSd by_ ln P).2.1)), .int ((rSd by_ ln P).2.2)])), (t0, .inr (5, [.int (nI ln), .ref t1])), (t1, .inl (cI, 100, .inl by_))]) := by
  refine Ct.of RX1 (by decide) rfl (Nat.le_of_ble_eq_true rfl) ?_
  intro p e s m below meth c A C RC
  have h1 := rDg_le by_ ln 7 P
  have h2 := rDg_le by_ ln 4 (rDg by_ ln 7 P).2
  have h3 := rSg_le by_ ln 44 (rDg by_ ln 4 (rDg by_ ln 7 P).2).2
  refine sw_aload_n 0 0 C dX1_readSending_0 rfl rfl ?_
  refine sw_aload_n 1 0 C dX1_readSending_1 rfl rfl ?_
  refine sw_bipush 2 C dX1_readSending_2 7 (by decide) ?_
  refine sw_callVI 4 [0, 1, 2] 1 C dX1_readSending_4 (ct_X1_readDigit l (by omega) hln) wK_X1_readDigit wM_X1_71 wN_X1_readDigit wS_X1_X1_readDigit wI_X1 hd_X1_readDigit rfl rfl rfl ⟨rfl, rfl⟩ ⟨Nat.le_of_ble_eq_true rfl, Nat.le_of_ble_eq_true rfl⟩ rfl rfl rfl rfl rfl ?_
  refine sw_ws [(_, .inr (1, [.ref _, .int _, .int _, .int _, .int _, .int _, .int _, .int _, .int _])), (_, .inr (5, [.int _, .ref _])), (_, .inl (_, _, .inl _))] rfl ?_
  refine sw_put 7 0 2 tyX1 C dX1_readSending_7 rfl rfl (inA lwX1) tyX1_ok nmX1 (C.w wF_X1_45) rfl rfl rfl rfl rfl rfl rfl ?_
  refine sw_ws [(_, .inr (1, [.ref _, .int _, .int _, .int _, .int _, .int _, .int _, .int _, .int _])), (_, .inr (5, [.int _, .ref _])), (_, .inl (_, _, .inl _))] rfl ?_
  refine sw_aload_n 10 0 C dX1_readSending_10 rfl rfl ?_
  refine sw_aload_n 11 0 C dX1_readSending_11 rfl rfl ?_
  refine sw_iconst 12 C dX1_readSending_12 4 (by decide) ?_
  refine sw_callVI 13 [0, 1, 2] 1 C dX1_readSending_13 (ct_X1_readDigit l (by omega) hln) wK_X1_readDigit wM_X1_71 wN_X1_readDigit wS_X1_X1_readDigit wI_X1 hd_X1_readDigit rfl rfl rfl ⟨rfl, rfl⟩ ⟨Nat.le_of_ble_eq_true rfl, Nat.le_of_ble_eq_true rfl⟩ rfl rfl rfl rfl rfl ?_
  refine sw_ws [(_, .inr (1, [.ref _, .int _, .int _, .int _, .int _, .int _, .int _, .int _, .int _])), (_, .inr (5, [.int _, .ref _])), (_, .inl (_, _, .inl _))] rfl ?_
  refine sw_put 16 0 3 tyX1 C dX1_readSending_16 rfl rfl (inA lwX1) tyX1_ok nmX1 (C.w wF_X1_48) rfl rfl rfl rfl rfl rfl rfl ?_
  refine sw_ws [(_, .inr (1, [.ref _, .int _, .int _, .int _, .int _, .int _, .int _, .int _, .int _])), (_, .inr (5, [.int _, .ref _])), (_, .inl (_, _, .inl _))] rfl ?_
  refine sw_aload_n 19 0 C dX1_readSending_19 rfl rfl ?_
  refine sw_bipush 20 C dX1_readSending_20 44 (by decide) ?_
  refine sw_callVV 22 [0, 1, 2] 1 C dX1_readSending_22 (ct_X1_readSign l (by show (rDg by_ ln 4 (rDg by_ ln 7 P).2).2.1 < 100000; omega) hln) wK_X1_readSign wM_X1_63 wN_X1_readSign wS_X1_X1_readSign wI_X1 hd_X1_readSign rfl rfl rfl ⟨rfl, rfl⟩ ⟨Nat.le_of_ble_eq_true rfl, Nat.le_of_ble_eq_true rfl⟩ rfl rfl rfl rfl rfl ?_
  refine sw_ws [(_, .inr (1, [.ref _, .int _, .int _, .int _, .int _, .int _, .int _, .int _, .int _])), (_, .inr (5, [.int _, .ref _])), (_, .inl (_, _, .inl _))] rfl ?_
  refine sw_aload_n 25 0 C dX1_readSending_25 rfl rfl ?_
  refine sw_aload_n 26 0 C dX1_readSending_26 rfl rfl ?_
  refine sw_iconst 27 C dX1_readSending_27 3 (by decide) ?_
  refine sw_sipush 28 C dX1_readSending_28 200 (by decide) ?_
  refine sw_callVI 31 [0, 1, 2] 2 C dX1_readSending_31 (ct_X1_readNumber l 3 rfl (by decide) (by show (rSg by_ ln 44 (rDg by_ ln 4 (rDg by_ ln 7 P).2).2).1 < 99000; omega) hln) wK_X1_readNumber wM_X1_67 wN_X1_readNumber wS_X1_X1_readNumber wI_X1 hd_X1_readNumber rfl rfl rfl ⟨rfl, rfl⟩ ⟨Nat.le_of_ble_eq_true rfl, Nat.le_of_ble_eq_true rfl⟩ rfl rfl rfl rfl rfl ?_
  refine sw_ws [(_, .inr (1, [.ref _, .int _, .int _, .int _, .int _, .int _, .int _, .int _, .int _])), (_, .inr (5, [.int _, .ref _])), (_, .inl (_, _, .inl _))] rfl ?_
  refine sw_put 34 0 4 tyX1 C dX1_readSending_34 rfl rfl (inA lwX1) tyX1_ok nmX1 (C.w wF_X1_51) rfl rfl rfl rfl rfl rfl rfl ?_
  refine sw_ws [(_, .inr (1, [.ref _, .int _, .int _, .int _, .int _, .int _, .int _, .int _, .int _])), (_, .inr (5, [.int _, .ref _])), (_, .inl (_, _, .inl _))] rfl ?_
  refine sw_vret 37 C RC dX1_readSending_37 ?_
  exact ⟨rfl, rfl⟩
def rBd (by_ : Nat → Int32) (ln : Nat) (sg : Int32) (P : Nat × Int32) : (Int32 × Int32 × Int32 × Int32 × Int32) × Nat × Int32 :=
  if sg = 98 then (((rSd by_ ln P).1.1, (rSd by_ ln P).1.2.1, (rSd by_ ln P).1.2.2, (rNm by_ ln 3 100 (rSg by_ ln 44 (rSd by_ ln P).2)).1, 0), (rNm by_ ln 3 100 (rSg by_ ln 44 (rSd by_ ln P).2)).2)
  else if sg = 112 then (((rSd by_ ln P).1.1, (rSd by_ ln P).1.2.1, (rSd by_ ln P).1.2.2, 0, 0), (rSd by_ ln P).2)
  else if sg = 115 then ((0, 0, 0, 0, 0), P)
  else if sg = 116 then ((0, 0, 0, 0, (rNm by_ ln 2 50 P).1), (rNm by_ ln 2 50 P).2)
  else ((0, 0, 0, 0, 0), P.1, nI (P.1 - 1))
def rOr (by_ : Nat → Int32) (ln : Nat) (P : Nat × Int32) : RS :=
  ((txa by_ ln P.1, (rBd by_ ln (txa by_ ln P.1) (P.1 + 1, P.2)).1), rSg by_ ln 59 (rBd by_ ln (txa by_ ln P.1) (P.1 + 1, P.2)).2)
theorem rBd_le (by_ : Nat → Int32) (ln : Nat) (sg : Int32) (P : Nat × Int32) : (rBd by_ ln sg P).2.1 ≤ P.1 + 10 := by
  have h1 := rSd_le by_ ln P
  have h2 := rSg_le by_ ln 44 (rSd by_ ln P).2
  have h3 := rNm_le by_ ln 3 100 (rSg by_ ln 44 (rSd by_ ln P).2)
  have h4 := rNm_le by_ ln 2 50 P
  unfold rBd
  split
  · dsimp only; omega
  · split
    · dsimp only; omega
    · split
      · dsimp only; omega
      · split
        · dsimp only; omega
        · dsimp only; omega
theorem rOr_le (by_ : Nat → Int32) (ln : Nat) (P : Nat × Int32) : xp (rOr by_ ln P) ≤ P.1 + 12 := by
  have h1 := rBd_le by_ ln (txa by_ ln P.1) (P.1 + 1, P.2)
  have h2 := rSg_le by_ ln 59 (rBd by_ ln (txa by_ ln P.1) (P.1 + 1, P.2)).2
  show (rSg by_ ln 59 (rBd by_ ln (txa by_ ln P.1) (P.1 + 1, P.2)).2).1 ≤ P.1 + 12
  dsimp only at h1
  omega
abbrev wRd (r0 t0 t1 : Nat) (cI : ClassId) (ln : Nat) (by_ : Nat → Int32) (X : RS) : va_W := [(r0, .inr (1, [.ref t0, .int (xg (X)), .int (xs_ (X)), .int (xr (X)), .int (xb (X)), .int (xi_ (X)), .int (xt (X)), .int (nI (xp (X))), .int (xe (X))])), (t0, .inr (5, [.int (nI ln), .ref t1])), (t1, .inl (cI, 100, .inl by_))]
set_option maxHeartbeats 4000000 in
set_option maxRecDepth 100000 in
theorem ct_X1_readOrder (l : Launch) {D : va_G} {cI cJ cQ : ClassId} {r0 t0 t1 ln : Nat} {by_ : Nat → Int32} {sg sn rk bd br tk : Int32} {P : Nat × Int32} (hp : P.1 < 80000) (hln : ln ≤ 100) : Ct l yX1_readOrder (Cond.code yX1_readOrder cX1_readOrder 1 none) 4 87 0 0 D (tyz cI cJ cQ) [.ref r0] [(r0, .inr (1, [.ref t0, .int (sg), .int (sn), .int (rk), .int (bd), .int (br), .int (tk), .int (nI (P.1)), .int (P.2)])), (t0, .inr (5, [.int (nI ln), .ref t1])), (t1, .inl (cI, 100, .inl by_))] (pstV (wRd r0 t0 t1 cI ln by_ (rOr by_ ln P))) := by
  refine Ct.of RX1 (by decide) rfl (Nat.le_of_ble_eq_true rfl) ?_
  intro p e s m below meth c A C RC
  have h1 := rSd_le by_ ln (P.1 + 1, P.2)
  have h2 := rSg_le by_ ln 44 (rSd by_ ln (P.1 + 1, P.2)).2
  have h3 := rNm_le by_ ln 3 100 (rSg by_ ln 44 (rSd by_ ln (P.1 + 1, P.2)).2)
  have h4 := rNm_le by_ ln 2 50 (P.1 + 1, P.2)
  dsimp only at h1 h2 h3 h4
  refine sw_aload_n 0 0 C dX1_readOrder_0 rfl rfl ?_
  refine sw_aload_n 1 0 C dX1_readOrder_1 rfl rfl ?_
  refine sw_get 2 0 0 C dX1_readOrder_2 rfl rfl (inA lwX1) (C.w wF_X1_12) rfl rfl rfl ?_
  refine sw_aload_n 5 0 C dX1_readOrder_5 rfl rfl ?_
  refine sw_get 6 0 7 C dX1_readOrder_6 rfl rfl (inA lwX1) (C.w wF_X1_22) rfl rfl rfl ?_
  refine sw_callVIP 9 [1, 2] 1 C dX1_readOrder_9 (ct_X5_at l P.1 rfl (by omega) hln) wK_X5_at wM_X1_38 wN_X5_at wS_X5_X5_at wI_X5 hd_X5_at rfl rfl rfl ⟨rfl, rfl⟩ ⟨Nat.le_of_ble_eq_true rfl, Nat.le_of_ble_eq_true rfl⟩ rfl rfl rfl rfl ?_
  refine sw_put 12 0 1 tyX1 C dX1_readOrder_12 rfl rfl (inA lwX1) tyX1_ok nmX1 (C.w wF_X1_42) rfl rfl rfl rfl rfl rfl rfl ?_
  refine sw_ws [(_, .inr (1, [.ref _, .int _, .int _, .int _, .int _, .int _, .int _, .int _, .int _])), (_, .inr (5, [.int _, .ref _])), (_, .inl (_, _, .inl _))] rfl ?_
  refine sw_aload_n 15 0 C dX1_readOrder_15 rfl rfl ?_
  refine sw_iconst 16 C dX1_readOrder_16 0 (by decide) ?_
  refine sw_put 17 0 2 tyX1 C dX1_readOrder_17 rfl rfl (inA lwX1) tyX1_ok nmX1 (C.w wF_X1_45) rfl rfl rfl rfl rfl rfl rfl ?_
  refine sw_ws [(_, .inr (1, [.ref _, .int _, .int _, .int _, .int _, .int _, .int _, .int _, .int _])), (_, .inr (5, [.int _, .ref _])), (_, .inl (_, _, .inl _))] rfl ?_
  refine sw_aload_n 20 0 C dX1_readOrder_20 rfl rfl ?_
  refine sw_iconst 21 C dX1_readOrder_21 0 (by decide) ?_
  refine sw_put 22 0 3 tyX1 C dX1_readOrder_22 rfl rfl (inA lwX1) tyX1_ok nmX1 (C.w wF_X1_48) rfl rfl rfl rfl rfl rfl rfl ?_
  refine sw_ws [(_, .inr (1, [.ref _, .int _, .int _, .int _, .int _, .int _, .int _, .int _, .int _])), (_, .inr (5, [.int _, .ref _])), (_, .inl (_, _, .inl _))] rfl ?_
  refine sw_aload_n 25 0 C dX1_readOrder_25 rfl rfl ?_
  refine sw_iconst 26 C dX1_readOrder_26 0 (by decide) ?_
  refine sw_put 27 0 4 tyX1 C dX1_readOrder_27 rfl rfl (inA lwX1) tyX1_ok nmX1 (C.w wF_X1_51) rfl rfl rfl rfl rfl rfl rfl ?_
  refine sw_ws [(_, .inr (1, [.ref _, .int _, .int _, .int _, .int _, .int _, .int _, .int _, .int _])), (_, .inr (5, [.int _, .ref _])), (_, .inl (_, _, .inl _))] rfl ?_
  refine sw_aload_n 30 0 C dX1_readOrder_30 rfl rfl ?_
  refine sw_iconst 31 C dX1_readOrder_31 0 (by decide) ?_
  refine sw_put 32 0 5 tyX1 C dX1_readOrder_32 rfl rfl (inA lwX1) tyX1_ok nmX1 (C.w wF_X1_54) rfl rfl rfl rfl rfl rfl rfl ?_
  refine sw_ws [(_, .inr (1, [.ref _, .int _, .int _, .int _, .int _, .int _, .int _, .int _, .int _])), (_, .inr (5, [.int _, .ref _])), (_, .inl (_, _, .inl _))] rfl ?_
  refine sw_aload_n 35 0 C dX1_readOrder_35 rfl rfl ?_
  refine sw_iconst 36 C dX1_readOrder_36 0 (by decide) ?_
  refine sw_put 37 0 6 tyX1 C dX1_readOrder_37 rfl rfl (inA lwX1) tyX1_ok nmX1 (C.w wF_X1_57) rfl rfl rfl rfl rfl rfl rfl ?_
  refine sw_ws [(_, .inr (1, [.ref _, .int _, .int _, .int _, .int _, .int _, .int _, .int _, .int _])), (_, .inr (5, [.int _, .ref _])), (_, .inl (_, _, .inl _))] rfl ?_
  refine sw_aload_n 40 0 C dX1_readOrder_40 rfl rfl ?_
  refine sw_dup 41 C dX1_readOrder_41 rfl ?_
  refine sw_get 42 0 7 C dX1_readOrder_42 rfl rfl (inA lwX1) (C.w wF_X1_22) rfl rfl rfl ?_
  refine sw_iconst 45 C dX1_readOrder_45 1 (by decide) ?_
  refine sw_iadd 46 C dX1_readOrder_46 ?_
  refine sw_top (nI_1 P.1) ?_
  refine sw_put 47 0 7 tyX1 C dX1_readOrder_47 rfl rfl (inA lwX1) tyX1_ok nmX1 (C.w wF_X1_22) rfl rfl rfl rfl rfl rfl rfl ?_
  refine sw_ws [(_, .inr (1, [.ref _, .int _, .int _, .int _, .int _, .int _, .int _, .int _, .int _])), (_, .inr (5, [.int _, .ref _])), (_, .inl (_, _, .inl _))] rfl ?_
  refine sw_aload_n 50 0 C dX1_readOrder_50 rfl rfl ?_
  refine sw_get 51 0 1 C dX1_readOrder_51 rfl rfl (inA lwX1) (C.w wF_X1_42) rfl rfl rfl ?_
  by_cases e_54_98 : txa by_ ln P.1 = 98
  · refine sw_lkp 54 103 (off := 49) C dX1_readOrder_54 (by decide) (by rw [e_54_98]; decide) (by decide) ?_
    refine sw_aload_n 103 0 C dX1_readOrder_103 rfl rfl ?_
    refine sw_callVV 104 [0, 1, 2] 0 C dX1_readOrder_104 (ct_X1_readSending l (P := (P.1 + 1, P.2)) (by show P.1 + 1 < 90000; omega) hln) wK_X1_readSending wM_X1_60 wN_X1_readSending wS_X1_X1_readSending wI_X1 hd_X1_readSending rfl rfl rfl ⟨rfl, rfl⟩ ⟨Nat.le_of_ble_eq_true rfl, Nat.le_of_ble_eq_true rfl⟩ rfl rfl rfl rfl rfl ?_
    refine sw_ws [(_, .inr (1, [.ref _, .int _, .int _, .int _, .int _, .int _, .int _, .int _, .int _])), (_, .inr (5, [.int _, .ref _])), (_, .inl (_, _, .inl _))] rfl ?_
    refine sw_aload_n 107 0 C dX1_readOrder_107 rfl rfl ?_
    refine sw_bipush 108 C dX1_readOrder_108 44 (by decide) ?_
    refine sw_callVV 110 [0, 1, 2] 1 C dX1_readOrder_110 (ct_X1_readSign l (P := (rSd by_ ln (P.1 + 1, P.2)).2) (by omega) hln) wK_X1_readSign wM_X1_63 wN_X1_readSign wS_X1_X1_readSign wI_X1 hd_X1_readSign rfl rfl rfl ⟨rfl, rfl⟩ ⟨Nat.le_of_ble_eq_true rfl, Nat.le_of_ble_eq_true rfl⟩ rfl rfl rfl rfl rfl ?_
    refine sw_ws [(_, .inr (1, [.ref _, .int _, .int _, .int _, .int _, .int _, .int _, .int _, .int _])), (_, .inr (5, [.int _, .ref _])), (_, .inl (_, _, .inl _))] rfl ?_
    refine sw_aload_n 113 0 C dX1_readOrder_113 rfl rfl ?_
    refine sw_aload_n 114 0 C dX1_readOrder_114 rfl rfl ?_
    refine sw_iconst 115 C dX1_readOrder_115 3 (by decide) ?_
    refine sw_bipush 116 C dX1_readOrder_116 100 (by decide) ?_
    refine sw_callVI 118 [0, 1, 2] 2 C dX1_readOrder_118 (ct_X1_readNumber l (P := rSg by_ ln 44 (rSd by_ ln (P.1 + 1, P.2)).2) 3 rfl (by decide) (by omega) hln) wK_X1_readNumber wM_X1_67 wN_X1_readNumber wS_X1_X1_readNumber wI_X1 hd_X1_readNumber rfl rfl rfl ⟨rfl, rfl⟩ ⟨Nat.le_of_ble_eq_true rfl, Nat.le_of_ble_eq_true rfl⟩ rfl rfl rfl rfl rfl ?_
    refine sw_ws [(_, .inr (1, [.ref _, .int _, .int _, .int _, .int _, .int _, .int _, .int _, .int _])), (_, .inr (5, [.int _, .ref _])), (_, .inl (_, _, .inl _))] rfl ?_
    refine sw_put 121 0 5 tyX1 C dX1_readOrder_121 rfl rfl (inA lwX1) tyX1_ok nmX1 (C.w wF_X1_54) rfl rfl rfl rfl rfl rfl rfl ?_
    refine sw_ws [(_, .inr (1, [.ref _, .int _, .int _, .int _, .int _, .int _, .int _, .int _, .int _])), (_, .inr (5, [.int _, .ref _])), (_, .inl (_, _, .inl _))] rfl ?_
    refine sw_goto 124 154 C dX1_readOrder_124 (by decide) ?_
    refine sw_aload_n 154 0 C dX1_readOrder_154 rfl rfl ?_
    refine sw_bipush 155 C dX1_readOrder_155 59 (by decide) ?_
    refine sw_callVV 157 [0, 1, 2] 1 C dX1_readOrder_157 (ct_X1_readSign l (by show (rNm by_ ln 3 100 (rSg by_ ln 44 (rSd by_ ln (P.1 + 1, P.2)).2)).2.1 < 100000; omega) hln) wK_X1_readSign wM_X1_63 wN_X1_readSign wS_X1_X1_readSign wI_X1 hd_X1_readSign rfl rfl rfl ⟨rfl, rfl⟩ ⟨Nat.le_of_ble_eq_true rfl, Nat.le_of_ble_eq_true rfl⟩ rfl rfl rfl rfl rfl ?_
    refine sw_ws [(_, .inr (1, [.ref _, .int _, .int _, .int _, .int _, .int _, .int _, .int _, .int _])), (_, .inr (5, [.int _, .ref _])), (_, .inl (_, _, .inl _))] rfl ?_
    refine sw_vret 160 C RC dX1_readOrder_160 ?_
    have hb : rBd by_ ln (txa by_ ln P.1) (P.1 + 1, P.2) = (((rSd by_ ln (P.1 + 1, P.2)).1.1, (rSd by_ ln (P.1 + 1, P.2)).1.2.1, (rSd by_ ln (P.1 + 1, P.2)).1.2.2, (rNm by_ ln 3 100 (rSg by_ ln 44 (rSd by_ ln (P.1 + 1, P.2)).2)).1, 0), (rNm by_ ln 3 100 (rSg by_ ln 44 (rSd by_ ln (P.1 + 1, P.2)).2)).2) := if_pos e_54_98
    have ho : rOr by_ ln P = ((txa by_ ln P.1, (rBd by_ ln (txa by_ ln P.1) (P.1 + 1, P.2)).1), rSg by_ ln 59 (rBd by_ ln (txa by_ ln P.1) (P.1 + 1, P.2)).2) := rfl
    rw [hb] at ho
    exact ⟨rfl, by rw [ho]⟩
  by_cases e_54_112 : txa by_ ln P.1 = 112
  · refine sw_lkp 54 96 (off := 42) C dX1_readOrder_54 (by decide) (by rw [e_54_112]; decide) (by decide) ?_
    refine sw_aload_n 96 0 C dX1_readOrder_96 rfl rfl ?_
    refine sw_callVV 97 [0, 1, 2] 0 C dX1_readOrder_97 (ct_X1_readSending l (P := (P.1 + 1, P.2)) (by show P.1 + 1 < 90000; omega) hln) wK_X1_readSending wM_X1_60 wN_X1_readSending wS_X1_X1_readSending wI_X1 hd_X1_readSending rfl rfl rfl ⟨rfl, rfl⟩ ⟨Nat.le_of_ble_eq_true rfl, Nat.le_of_ble_eq_true rfl⟩ rfl rfl rfl rfl rfl ?_
    refine sw_ws [(_, .inr (1, [.ref _, .int _, .int _, .int _, .int _, .int _, .int _, .int _, .int _])), (_, .inr (5, [.int _, .ref _])), (_, .inl (_, _, .inl _))] rfl ?_
    refine sw_goto 100 154 C dX1_readOrder_100 (by decide) ?_
    refine sw_aload_n 154 0 C dX1_readOrder_154 rfl rfl ?_
    refine sw_bipush 155 C dX1_readOrder_155 59 (by decide) ?_
    refine sw_callVV 157 [0, 1, 2] 1 C dX1_readOrder_157 (ct_X1_readSign l (by omega) hln) wK_X1_readSign wM_X1_63 wN_X1_readSign wS_X1_X1_readSign wI_X1 hd_X1_readSign rfl rfl rfl ⟨rfl, rfl⟩ ⟨Nat.le_of_ble_eq_true rfl, Nat.le_of_ble_eq_true rfl⟩ rfl rfl rfl rfl rfl ?_
    refine sw_ws [(_, .inr (1, [.ref _, .int _, .int _, .int _, .int _, .int _, .int _, .int _, .int _])), (_, .inr (5, [.int _, .ref _])), (_, .inl (_, _, .inl _))] rfl ?_
    refine sw_vret 160 C RC dX1_readOrder_160 ?_
    have hb : rBd by_ ln (txa by_ ln P.1) (P.1 + 1, P.2) = (((rSd by_ ln (P.1 + 1, P.2)).1.1, (rSd by_ ln (P.1 + 1, P.2)).1.2.1, (rSd by_ ln (P.1 + 1, P.2)).1.2.2, 0, 0), (rSd by_ ln (P.1 + 1, P.2)).2) := (if_neg e_54_98).trans (if_pos e_54_112)
    have ho : rOr by_ ln P = ((txa by_ ln P.1, (rBd by_ ln (txa by_ ln P.1) (P.1 + 1, P.2)).1), rSg by_ ln 59 (rBd by_ ln (txa by_ ln P.1) (P.1 + 1, P.2)).2) := rfl
    rw [hb] at ho
    exact ⟨rfl, by rw [ho]⟩
  by_cases e_54_115 : txa by_ ln P.1 = 115
  · refine sw_lkp 54 127 (off := 73) C dX1_readOrder_54 (by decide) (by rw [e_54_115]; decide) (by decide) ?_
    refine sw_goto 127 154 C dX1_readOrder_127 (by decide) ?_
    refine sw_aload_n 154 0 C dX1_readOrder_154 rfl rfl ?_
    refine sw_bipush 155 C dX1_readOrder_155 59 (by decide) ?_
    refine sw_callVV 157 [0, 1, 2] 1 C dX1_readOrder_157 (ct_X1_readSign l (P := (P.1 + 1, P.2)) (by show P.1 + 1 < 100000; omega) hln) wK_X1_readSign wM_X1_63 wN_X1_readSign wS_X1_X1_readSign wI_X1 hd_X1_readSign rfl rfl rfl ⟨rfl, rfl⟩ ⟨Nat.le_of_ble_eq_true rfl, Nat.le_of_ble_eq_true rfl⟩ rfl rfl rfl rfl rfl ?_
    refine sw_ws [(_, .inr (1, [.ref _, .int _, .int _, .int _, .int _, .int _, .int _, .int _, .int _])), (_, .inr (5, [.int _, .ref _])), (_, .inl (_, _, .inl _))] rfl ?_
    refine sw_vret 160 C RC dX1_readOrder_160 ?_
    have hb : rBd by_ ln (txa by_ ln P.1) (P.1 + 1, P.2) = ((0, 0, 0, 0, 0), P.1 + 1, P.2) := (if_neg e_54_98).trans ((if_neg e_54_112).trans (if_pos e_54_115))
    have ho : rOr by_ ln P = ((txa by_ ln P.1, (rBd by_ ln (txa by_ ln P.1) (P.1 + 1, P.2)).1), rSg by_ ln 59 (rBd by_ ln (txa by_ ln P.1) (P.1 + 1, P.2)).2) := rfl
    rw [hb] at ho
    exact ⟨rfl, by rw [ho]⟩
  by_cases e_54_116 : txa by_ ln P.1 = 116
  · refine sw_lkp 54 130 (off := 76) C dX1_readOrder_54 (by decide) (by rw [e_54_116]; decide) (by decide) ?_
    refine sw_aload_n 130 0 C dX1_readOrder_130 rfl rfl ?_
    refine sw_aload_n 131 0 C dX1_readOrder_131 rfl rfl ?_
    refine sw_iconst 132 C dX1_readOrder_132 2 (by decide) ?_
    refine sw_bipush 133 C dX1_readOrder_133 50 (by decide) ?_
    refine sw_callVI 135 [0, 1, 2] 2 C dX1_readOrder_135 (ct_X1_readNumber l (P := (P.1 + 1, P.2)) 2 rfl (by decide) (by show P.1 + 1 < 99000; omega) hln) wK_X1_readNumber wM_X1_67 wN_X1_readNumber wS_X1_X1_readNumber wI_X1 hd_X1_readNumber rfl rfl rfl ⟨rfl, rfl⟩ ⟨Nat.le_of_ble_eq_true rfl, Nat.le_of_ble_eq_true rfl⟩ rfl rfl rfl rfl rfl ?_
    refine sw_ws [(_, .inr (1, [.ref _, .int _, .int _, .int _, .int _, .int _, .int _, .int _, .int _])), (_, .inr (5, [.int _, .ref _])), (_, .inl (_, _, .inl _))] rfl ?_
    refine sw_put 138 0 6 tyX1 C dX1_readOrder_138 rfl rfl (inA lwX1) tyX1_ok nmX1 (C.w wF_X1_57) rfl rfl rfl rfl rfl rfl rfl ?_
    refine sw_ws [(_, .inr (1, [.ref _, .int _, .int _, .int _, .int _, .int _, .int _, .int _, .int _])), (_, .inr (5, [.int _, .ref _])), (_, .inl (_, _, .inl _))] rfl ?_
    refine sw_goto 141 154 C dX1_readOrder_141 (by decide) ?_
    refine sw_aload_n 154 0 C dX1_readOrder_154 rfl rfl ?_
    refine sw_bipush 155 C dX1_readOrder_155 59 (by decide) ?_
    refine sw_callVV 157 [0, 1, 2] 1 C dX1_readOrder_157 (ct_X1_readSign l (by omega) hln) wK_X1_readSign wM_X1_63 wN_X1_readSign wS_X1_X1_readSign wI_X1 hd_X1_readSign rfl rfl rfl ⟨rfl, rfl⟩ ⟨Nat.le_of_ble_eq_true rfl, Nat.le_of_ble_eq_true rfl⟩ rfl rfl rfl rfl rfl ?_
    refine sw_ws [(_, .inr (1, [.ref _, .int _, .int _, .int _, .int _, .int _, .int _, .int _, .int _])), (_, .inr (5, [.int _, .ref _])), (_, .inl (_, _, .inl _))] rfl ?_
    refine sw_vret 160 C RC dX1_readOrder_160 ?_
    have hb : rBd by_ ln (txa by_ ln P.1) (P.1 + 1, P.2) = ((0, 0, 0, 0, (rNm by_ ln 2 50 (P.1 + 1, P.2)).1), (rNm by_ ln 2 50 (P.1 + 1, P.2)).2) := (if_neg e_54_98).trans ((if_neg e_54_112).trans ((if_neg e_54_115).trans (if_pos e_54_116)))
    have ho : rOr by_ ln P = ((txa by_ ln P.1, (rBd by_ ln (txa by_ ln P.1) (P.1 + 1, P.2)).1), rSg by_ ln 59 (rBd by_ ln (txa by_ ln P.1) (P.1 + 1, P.2)).2) := rfl
    rw [hb] at ho
    exact ⟨rfl, by rw [ho]⟩
  have t_54_98 := i32_ne (y := 98) e_54_98
  have t_54_112 := i32_ne (y := 112) e_54_112
  have t_54_115 := i32_ne (y := 115) e_54_115
  have t_54_116 := i32_ne (y := 116) e_54_116
  rw [show (98 : Int32).toInt = 98 from by decide] at t_54_98
  rw [show (112 : Int32).toInt = 112 from by decide] at t_54_112
  rw [show (115 : Int32).toInt = 115 from by decide] at t_54_115
  rw [show (116 : Int32).toInt = 116 from by decide] at t_54_116
  refine sw_lkp 54 144 (off := 90) C dX1_readOrder_54 (by decide) (lkp_out (by simp; omega)) (by decide) ?_
  refine sw_aload_n 144 0 C dX1_readOrder_144 rfl rfl ?_
  refine sw_aload_n 145 0 C dX1_readOrder_145 rfl rfl ?_
  refine sw_get 146 0 7 C dX1_readOrder_146 rfl rfl (inA lwX1) (C.w wF_X1_22) rfl rfl rfl ?_
  refine sw_iconst 149 C dX1_readOrder_149 1 (by decide) ?_
  refine sw_isub 150 C dX1_readOrder_150 ?_
  refine sw_top (show nI (P.1 + 1) - 1 = nI (P.1 + 1 - 1) by rw [show (1 : Int32) = nI 1 from rfl, pk_sub (by omega)]) ?_
  refine sw_put 151 0 8 tyX1 C dX1_readOrder_151 rfl rfl (inA lwX1) tyX1_ok nmX1 (C.w wF_X1_18) rfl rfl rfl rfl rfl rfl rfl ?_
  refine sw_ws [(_, .inr (1, [.ref _, .int _, .int _, .int _, .int _, .int _, .int _, .int _, .int _])), (_, .inr (5, [.int _, .ref _])), (_, .inl (_, _, .inl _))] rfl ?_
  refine sw_aload_n 154 0 C dX1_readOrder_154 rfl rfl ?_
  refine sw_bipush 155 C dX1_readOrder_155 59 (by decide) ?_
  refine sw_callVV 157 [0, 1, 2] 1 C dX1_readOrder_157 (ct_X1_readSign l (P := (P.1 + 1, nI (P.1 + 1 - 1))) (by show P.1 + 1 < 100000; omega) hln) wK_X1_readSign wM_X1_63 wN_X1_readSign wS_X1_X1_readSign wI_X1 hd_X1_readSign rfl rfl rfl ⟨rfl, rfl⟩ ⟨Nat.le_of_ble_eq_true rfl, Nat.le_of_ble_eq_true rfl⟩ rfl rfl rfl rfl rfl ?_
  refine sw_ws [(_, .inr (1, [.ref _, .int _, .int _, .int _, .int _, .int _, .int _, .int _, .int _])), (_, .inr (5, [.int _, .ref _])), (_, .inl (_, _, .inl _))] rfl ?_
  refine sw_vret 160 C RC dX1_readOrder_160 ?_
  have hb : rBd by_ ln (txa by_ ln P.1) (P.1 + 1, P.2) = ((0, 0, 0, 0, 0), P.1 + 1, nI (P.1 + 1 - 1)) := (if_neg e_54_98).trans ((if_neg e_54_112).trans ((if_neg e_54_115).trans (if_neg e_54_116)))
  have ho : rOr by_ ln P = ((txa by_ ln P.1, (rBd by_ ln (txa by_ ln P.1) (P.1 + 1, P.2)).1), rSg by_ ln 59 (rBd by_ ln (txa by_ ln P.1) (P.1 + 1, P.2)).2) := rfl
  rw [hb] at ho
  exact ⟨rfl, by rw [ho]⟩
def fEr (by_ : Nat → Int32) (ln : Nat) : Nat → RS → RS
  | 0, X => X
  | k + 1, X => if xe X = -1 ∧ xp X < ln then fEr by_ ln k (rOr by_ ln X.2) else X
theorem fEr_stop {by_ : Nat → Int32} {ln k : Nat} {X : RS} (h : ¬ (xe X = -1 ∧ xp X < ln)) : fEr by_ ln k X = X := by
  cases k with
  | zero => rfl
  | succ k => exact if_neg h
set_option maxHeartbeats 4000000 in
set_option maxRecDepth 100000 in
theorem lp_X1_findError {l : Launch} {p : Program} {e : Env} {s : State} {m : MethodId} {args : Array Value} {below : List Frame} {meth : Method} {c : Code} {A : Nat → Prop} {D : va_G} {cI cJ cQ : ClassId} {r0 t0 t1 ln : Nat} {by_ : Nat → Int32} (hln : ln ≤ 100) (T : RS) (C : CC p s m args c cX1_findError 2 RX1 (Cond.code yX1_findError cX1_findError 2 (some .int) :: lw_all) D (tyz cI cJ cQ) A s.heap) (RC : meth.sig.returnType = (some .int) ∧ meth.locks = false ∧ meth.name = yX1_findError.name) : ∀ (fu i : Nat), i ≤ 100 → 100 + 1 ≤ i + fu → ∀ (X : RS), xp X ≤ 12 * i → fEr by_ ln (100 - i) X = T → ∀ (xi : Int32), (xi = nI i) →  sw p l e ({ frames := 5, cells := 0, slots := 0, locals := 107 } : Room) s m args below meth c D A s.heap 2 0 0 (MQ below (ctQ D (tyz cI cJ cQ) A (pstI (xe T) (wRd r0 t0 t1 cI ln by_ (T)))) args s 0 0 A) (wRd r0 t0 t1 cI ln by_ (X)) 6 [(0, .ref r0), (1, .int xi)] [] := by
  intro fu
  induction fu with
  | zero => intro i h1 h2; exact absurd h2 (by omega)
  | succ fu ih =>
    intro i hi hf X hb hd xi exi
    subst exi
    refine sw_iload_n 6 1 C dX1_findError_6 rfl rfl ?_
    refine sw_bipush 7 C dX1_findError_7 100 (by decide) ?_
    refine sw_icmp_ge 9 37 C dX1_findError_9 (by decide) (fun c_9 => ?_) (fun c_9 => ?_)
    · skip
      refine sw_aload_n 37 0 C dX1_findError_37 rfl rfl ?_
      refine sw_get 38 0 8 C dX1_findError_38 rfl rfl (inA lwX1) (C.w wF_X1_18) rfl rfl rfl ?_
      refine sw_iret 41 C RC dX1_findError_41 ?_
      obtain rfl : T = X := by rw [← hd, show 100 - i = 0 by have := nI_ge' (by omega) (b := 100) c_9 (by omega); omega]; rfl
      exact ⟨rfl, rfl⟩
    · refine sw_aload_n 12 0 C dX1_findError_12 rfl rfl ?_
      refine sw_get 13 0 8 C dX1_findError_13 rfl rfl (inA lwX1) (C.w wF_X1_18) rfl rfl rfl ?_
      refine sw_iconst 16 C dX1_findError_16 (-1) (by decide) ?_
      refine sw_icmp_ne 17 37 C dX1_findError_17 (by decide) (fun c_17 => ?_) (fun c_17 => ?_)
      · skip
        refine sw_aload_n 37 0 C dX1_findError_37 rfl rfl ?_
        refine sw_get 38 0 8 C dX1_findError_38 rfl rfl (inA lwX1) (C.w wF_X1_18) rfl rfl rfl ?_
        refine sw_iret 41 C RC dX1_findError_41 ?_
        obtain rfl : T = X := by rw [← hd]; exact fEr_stop (fun h => c_17 h.1)
        exact ⟨rfl, rfl⟩
      · refine sw_aload_n 20 0 C dX1_findError_20 rfl rfl ?_
        refine sw_callVIP 21 [0, 1, 2] 0 C dX1_findError_21 (ct_X1_isAtEnd l (P := X.2) (by show xp X < 100000; omega) hln) wK_X1_isAtEnd wM_X1_31 wN_X1_isAtEnd wS_X1_X1_isAtEnd wI_X1 hd_X1_isAtEnd rfl rfl rfl ⟨rfl, rfl⟩ ⟨Nat.le_of_ble_eq_true rfl, Nat.le_of_ble_eq_true rfl⟩ rfl rfl rfl rfl ?_
        refine sw_if_ne 24 37 C dX1_findError_24 (by decide) (fun c_24 => ?_) (fun c_24 => ?_)
        · skip
          refine sw_aload_n 37 0 C dX1_findError_37 rfl rfl ?_
          refine sw_get 38 0 8 C dX1_findError_38 rfl rfl (inA lwX1) (C.w wF_X1_18) rfl rfl rfl ?_
          refine sw_iret 41 C RC dX1_findError_41 ?_
          obtain rfl : T = X := by rw [← hd]; exact fEr_stop (fun h => by have : ln ≤ xp X := of_decide_eq_true (bI_t c_24); omega)
          exact ⟨rfl, rfl⟩
        · refine sw_aload_n 27 0 C dX1_findError_27 rfl rfl ?_
          refine sw_callVV 28 [0, 1, 2] 0 C dX1_findError_28 (ct_X1_readOrder l (P := X.2) (by show xp X < 80000; omega) hln) wK_X1_readOrder wM_X1_35 wN_X1_readOrder wS_X1_X1_readOrder wI_X1 hd_X1_readOrder rfl rfl rfl ⟨rfl, rfl⟩ ⟨Nat.le_of_ble_eq_true rfl, Nat.le_of_ble_eq_true rfl⟩ rfl rfl rfl rfl rfl ?_
          refine sw_ws [(_, .inr (1, [.ref _, .int _, .int _, .int _, .int _, .int _, .int _, .int _, .int _])), (_, .inr (5, [.int _, .ref _])), (_, .inl (_, _, .inl _))] rfl ?_
          refine sw_iinc 31 C 1 dX1_findError_31 (by decide) rfl rfl ?_
          refine sw_goto 34 6 C dX1_findError_34 (by decide) ?_
          have hlt : i < 100 := by
            rcases Nat.lt_or_ge i 100 with q | q
            · exact q
            · exact absurd (nI_le q (by omega)) c_9
          have hle := rOr_le by_ ln X.2
          exact sw_loc (ih (i + 1) (by omega) (by omega) (rOr by_ ln X.2) (by have : X.2.1 ≤ 12 * i := hb; omega) (by
            rw [← hd, show 100 - i = (100 - (i + 1)) + 1 by omega]
            exact (if_pos ⟨c_17, by have : ¬ ln ≤ xp X := of_decide_eq_false (bI_f c_24); omega⟩).symm) _ (nI_1 i)) rfl
set_option maxHeartbeats 4000000 in
set_option maxRecDepth 100000 in
theorem ct_X1_findError (l : Launch) {D : va_G} {cI cJ cQ : ClassId} {r0 t0 t1 ln : Nat} {by_ : Nat → Int32} {X : RS} (hln : ln ≤ 100) : Ct l yX1_findError (Cond.code yX1_findError cX1_findError 2 (some .int)) 5 107 0 0 D (tyz cI cJ cQ) [.ref r0] (wRd r0 t0 t1 cI ln by_ (X)) (pstI (xe (fEr by_ ln 100 (X.1, 0, -1))) (wRd r0 t0 t1 cI ln by_ (fEr by_ ln 100 (X.1, 0, -1)))) := by
  refine Ct.of RX1 (by decide) rfl (Nat.le_of_ble_eq_true rfl) ?_
  intro p e s m below meth c A C RC
  refine sw_aload_n 0 0 C dX1_findError_0 rfl rfl ?_
  refine sw_callVV 1 [0, 1, 2] 0 C dX1_findError_1 (ct_X1_startAnew l (P := X.2)) wK_X1_startAnew wM_X1_28 wN_X1_startAnew wS_X1_X1_startAnew wI_X1 hd_X1_startAnew rfl rfl rfl ⟨rfl, rfl⟩ ⟨Nat.le_of_ble_eq_true rfl, Nat.le_of_ble_eq_true rfl⟩ rfl rfl rfl rfl rfl ?_
  refine sw_ws [(_, .inr (1, [.ref _, .int _, .int _, .int _, .int _, .int _, .int _, .int _, .int _])), (_, .inr (5, [.int _, .ref _])), (_, .inl (_, _, .inl _))] rfl ?_
  refine sw_iconst 4 C dX1_findError_4 0 (by decide) ?_
  refine sw_istore_n 5 1 C dX1_findError_5 rfl rfl ?_
  exact lp_X1_findError hln _ C RC 101 0 (Nat.zero_le _) (by omega) (X.1, 0, -1) (Nat.zero_le _) rfl _ rfl
