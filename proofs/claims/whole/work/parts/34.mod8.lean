/-! the Model: orders -/
def nbOK (X : RS) (f : Nat → Int32) : Prop := (xg X = 98 ∨ xg X = 112 → f 0 = xs_ X ∧ f 1 = xr X ∧ f 2 = xb X ∧ f 3 = xi_ X) ∧ (xg X = 116 → f 0 = xt X)
theorem rSd_2 (by_ : Nat → Int32) (ln : Nat) (Q : Nat × Int32) : rSd by_ ln Q = (((rDg by_ ln 7 Q).1, (rDg by_ ln 4 (rDg by_ ln 7 Q).2).1, (rNm by_ ln 3 200 (rSg by_ ln 44 (rDg by_ ln 4 (rDg by_ ln 7 Q).2).2)).1), (rNm by_ ln 3 200 (rSg by_ ln 44 (rDg by_ ln 4 (rDg by_ ln 7 Q).2).2)).2) := rfl
theorem ro_s {by_ : Nat → Int32} {ln p0 : Nat} (h : txa by_ ln p0 = 115) : (rOr by_ ln (p0, -1)).2 = rSg by_ ln 59 (p0 + 1, -1) := by
  have e := rOr_s (by_ := by_) (ln := ln) (P := (p0, -1)) h
  rw [e]
theorem ro_p {by_ : Nat → Int32} {ln p0 : Nat} (h : txa by_ ln p0 = 112) : rOr by_ ln (p0, -1) = ((112, (rDg by_ ln 7 (p0 + 1, -1)).1, (rDg by_ ln 4 (rDg by_ ln 7 (p0 + 1, -1)).2).1, (rNm by_ ln 3 200 (rSg by_ ln 44 (rDg by_ ln 4 (rDg by_ ln 7 (p0 + 1, -1)).2).2)).1, 0, 0), rSg by_ ln 59 (rNm by_ ln 3 200 (rSg by_ ln 44 (rDg by_ ln 4 (rDg by_ ln 7 (p0 + 1, -1)).2).2)).2) := by
  have e := rOr_p (by_ := by_) (ln := ln) (P := (p0, -1)) h
  dsimp only at e
  rw [rSd_2] at e
  dsimp only at e
  exact e
theorem ro_b {by_ : Nat → Int32} {ln p0 : Nat} (h : txa by_ ln p0 = 98) : rOr by_ ln (p0, -1) = ((98, (rDg by_ ln 7 (p0 + 1, -1)).1, (rDg by_ ln 4 (rDg by_ ln 7 (p0 + 1, -1)).2).1, (rNm by_ ln 3 200 (rSg by_ ln 44 (rDg by_ ln 4 (rDg by_ ln 7 (p0 + 1, -1)).2).2)).1, (rNm by_ ln 3 100 (rSg by_ ln 44 (rNm by_ ln 3 200 (rSg by_ ln 44 (rDg by_ ln 4 (rDg by_ ln 7 (p0 + 1, -1)).2).2)).2)).1, 0), rSg by_ ln 59 (rNm by_ ln 3 100 (rSg by_ ln 44 (rNm by_ ln 3 200 (rSg by_ ln 44 (rDg by_ ln 4 (rDg by_ ln 7 (p0 + 1, -1)).2).2)).2)).2) := by
  have e := rOr_b (by_ := by_) (ln := ln) (P := (p0, -1)) h
  dsimp only at e
  rw [rSd_2] at e
  dsimp only at e
  exact e
theorem ro_t {by_ : Nat → Int32} {ln p0 : Nat} (h : txa by_ ln p0 = 116) : rOr by_ ln (p0, -1) = ((116, 0, 0, 0, 0, (rNm by_ ln 2 50 (p0 + 1, -1)).1), rSg by_ ln 59 (rNm by_ ln 2 50 (p0 + 1, -1)).2) := by
  have e := rOr_t (by_ := by_) (ln := ln) (P := (p0, -1)) h
  dsimp only at e
  exact e
theorem ro_p2f {by_ : Nat → Int32} {ln p0 : Nat} (hs : txa by_ ln p0 = 112) : (rOr by_ ln (p0, -1)).2 = rSg by_ ln 59 (rNm by_ ln 3 200 (rSg by_ ln 44 (rDg by_ ln 4 (rDg by_ ln 7 (p0 + 1, -1)).2).2)).2 := by
  rw [ro_p hs]
theorem ro_b2f {by_ : Nat → Int32} {ln p0 : Nat} (hs : txa by_ ln p0 = 98) : (rOr by_ ln (p0, -1)).2 = rSg by_ ln 59 (rNm by_ ln 3 100 (rSg by_ ln 44 (rNm by_ ln 3 200 (rSg by_ ln 44 (rDg by_ ln 4 (rDg by_ ln 7 (p0 + 1, -1)).2).2)).2)).2 := by
  rw [ro_b hs]
theorem ro_t2f {by_ : Nat → Int32} {ln p0 : Nat} (hs : txa by_ ln p0 = 116) : (rOr by_ ln (p0, -1)).2 = rSg by_ ln 59 (rNm by_ ln 2 50 (p0 + 1, -1)).2 := by
  rw [ro_t hs]
theorem sd_p1 {by_ : Nat → Int32} {ln : Nat} {Q : Nat × Int32} (h : ¬ Q.2 = -1) : rSg by_ ln 59 (rNm by_ ln 3 200 (rSg by_ ln 44 (rDg by_ ln 4 Q).2)).2 = Q := by
  rw [rDg_bad h, rSg_bad h, rNm_bad h, rSg_bad h]
theorem sd_p2 {by_ : Nat → Int32} {ln : Nat} {Q : Nat × Int32} (h : ¬ Q.2 = -1) : rSg by_ ln 59 (rNm by_ ln 3 200 (rSg by_ ln 44 Q)).2 = Q := by
  rw [rSg_bad h, rNm_bad h, rSg_bad h]
theorem sd_p3 {by_ : Nat → Int32} {ln m : Nat} {g : Int32} {Q : Nat × Int32} (h : ¬ Q.2 = -1) : rSg by_ ln 59 (rNm by_ ln m g Q).2 = Q := by
  rw [rNm_bad h, rSg_bad h]
theorem sd_b1 {by_ : Nat → Int32} {ln : Nat} {Q : Nat × Int32} (h : ¬ Q.2 = -1) : rSg by_ ln 59 (rNm by_ ln 3 100 (rSg by_ ln 44 (rNm by_ ln 3 200 (rSg by_ ln 44 (rDg by_ ln 4 Q).2)).2)).2 = Q := by
  rw [rDg_bad h, rSg_bad h, rNm_bad h, rSg_bad h, rNm_bad h, rSg_bad h]
theorem sd_b2 {by_ : Nat → Int32} {ln : Nat} {Q : Nat × Int32} (h : ¬ Q.2 = -1) : rSg by_ ln 59 (rNm by_ ln 3 100 (rSg by_ ln 44 (rNm by_ ln 3 200 (rSg by_ ln 44 Q)).2)).2 = Q := by
  rw [rSg_bad h, rNm_bad h, rSg_bad h, rNm_bad h, rSg_bad h]
theorem sd_b3 {by_ : Nat → Int32} {ln : Nat} {Q : Nat × Int32} (h : ¬ Q.2 = -1) : rSg by_ ln 59 (rNm by_ ln 3 100 (rSg by_ ln 44 (rNm by_ ln 3 200 Q).2)).2 = Q := by
  rw [rNm_bad h, rSg_bad h, rNm_bad h, rSg_bad h]
theorem sd_b4 {by_ : Nat → Int32} {ln : Nat} {Q : Nat × Int32} (h : ¬ Q.2 = -1) : rSg by_ ln 59 (rNm by_ ln 3 100 (rSg by_ ln 44 Q)).2 = Q := by
  rw [rSg_bad h, rNm_bad h, rSg_bad h]
theorem ro_p1 {by_ : Nat → Int32} {ln p0 : Nat} (hs : txa by_ ln p0 = 112) (h : ¬ ((rDg by_ ln 7 (p0 + 1, -1)).2).2 = -1) : (rOr by_ ln (p0, -1)).2 = (rDg by_ ln 7 (p0 + 1, -1)).2 := by
  rw [ro_p hs]
  dsimp only
  exact sd_p1 h
theorem ro_p2 {by_ : Nat → Int32} {ln p0 : Nat} (hs : txa by_ ln p0 = 112) (h : ¬ ((rDg by_ ln 4 (rDg by_ ln 7 (p0 + 1, -1)).2).2).2 = -1) : (rOr by_ ln (p0, -1)).2 = (rDg by_ ln 4 (rDg by_ ln 7 (p0 + 1, -1)).2).2 := by
  rw [ro_p hs]
  dsimp only
  exact sd_p2 h
theorem ro_p3 {by_ : Nat → Int32} {ln p0 : Nat} (hs : txa by_ ln p0 = 112) (h : ¬ (rSg by_ ln 44 (rDg by_ ln 4 (rDg by_ ln 7 (p0 + 1, -1)).2).2).2 = -1) : (rOr by_ ln (p0, -1)).2 = rSg by_ ln 44 (rDg by_ ln 4 (rDg by_ ln 7 (p0 + 1, -1)).2).2 := by
  rw [ro_p hs]
  dsimp only
  exact sd_p3 h
theorem ro_p4 {by_ : Nat → Int32} {ln p0 : Nat} (hs : txa by_ ln p0 = 112) (h : ¬ ((rNm by_ ln 3 200 (rSg by_ ln 44 (rDg by_ ln 4 (rDg by_ ln 7 (p0 + 1, -1)).2).2)).2).2 = -1) : (rOr by_ ln (p0, -1)).2 = (rNm by_ ln 3 200 (rSg by_ ln 44 (rDg by_ ln 4 (rDg by_ ln 7 (p0 + 1, -1)).2).2)).2 := by
  rw [ro_p hs]
  dsimp only
  exact rSg_bad h
theorem ro_b1 {by_ : Nat → Int32} {ln p0 : Nat} (hs : txa by_ ln p0 = 98) (h : ¬ ((rDg by_ ln 7 (p0 + 1, -1)).2).2 = -1) : (rOr by_ ln (p0, -1)).2 = (rDg by_ ln 7 (p0 + 1, -1)).2 := by
  rw [ro_b hs]
  dsimp only
  exact sd_b1 h
theorem ro_b2 {by_ : Nat → Int32} {ln p0 : Nat} (hs : txa by_ ln p0 = 98) (h : ¬ ((rDg by_ ln 4 (rDg by_ ln 7 (p0 + 1, -1)).2).2).2 = -1) : (rOr by_ ln (p0, -1)).2 = (rDg by_ ln 4 (rDg by_ ln 7 (p0 + 1, -1)).2).2 := by
  rw [ro_b hs]
  dsimp only
  exact sd_b2 h
theorem ro_b3 {by_ : Nat → Int32} {ln p0 : Nat} (hs : txa by_ ln p0 = 98) (h : ¬ (rSg by_ ln 44 (rDg by_ ln 4 (rDg by_ ln 7 (p0 + 1, -1)).2).2).2 = -1) : (rOr by_ ln (p0, -1)).2 = rSg by_ ln 44 (rDg by_ ln 4 (rDg by_ ln 7 (p0 + 1, -1)).2).2 := by
  rw [ro_b hs]
  dsimp only
  exact sd_b3 h
theorem ro_b4 {by_ : Nat → Int32} {ln p0 : Nat} (hs : txa by_ ln p0 = 98) (h : ¬ ((rNm by_ ln 3 200 (rSg by_ ln 44 (rDg by_ ln 4 (rDg by_ ln 7 (p0 + 1, -1)).2).2)).2).2 = -1) : (rOr by_ ln (p0, -1)).2 = (rNm by_ ln 3 200 (rSg by_ ln 44 (rDg by_ ln 4 (rDg by_ ln 7 (p0 + 1, -1)).2).2)).2 := by
  rw [ro_b hs]
  dsimp only
  exact sd_b4 h
theorem ro_b5 {by_ : Nat → Int32} {ln p0 : Nat} (hs : txa by_ ln p0 = 98) (h : ¬ (rSg by_ ln 44 (rNm by_ ln 3 200 (rSg by_ ln 44 (rDg by_ ln 4 (rDg by_ ln 7 (p0 + 1, -1)).2).2)).2).2 = -1) : (rOr by_ ln (p0, -1)).2 = rSg by_ ln 44 (rNm by_ ln 3 200 (rSg by_ ln 44 (rDg by_ ln 4 (rDg by_ ln 7 (p0 + 1, -1)).2).2)).2 := by
  rw [ro_b hs]
  dsimp only
  exact sd_p3 h
theorem ro_b6 {by_ : Nat → Int32} {ln p0 : Nat} (hs : txa by_ ln p0 = 98) (h : ¬ ((rNm by_ ln 3 100 (rSg by_ ln 44 (rNm by_ ln 3 200 (rSg by_ ln 44 (rDg by_ ln 4 (rDg by_ ln 7 (p0 + 1, -1)).2).2)).2)).2).2 = -1) : (rOr by_ ln (p0, -1)).2 = (rNm by_ ln 3 100 (rSg by_ ln 44 (rNm by_ ln 3 200 (rSg by_ ln 44 (rDg by_ ln 4 (rDg by_ ln 7 (p0 + 1, -1)).2).2)).2)).2 := by
  rw [ro_b hs]
  dsimp only
  exact rSg_bad h
theorem ro_t1 {by_ : Nat → Int32} {ln p0 : Nat} (hs : txa by_ ln p0 = 116) (h : ¬ ((rNm by_ ln 2 50 (p0 + 1, -1)).2).2 = -1) : (rOr by_ ln (p0, -1)).2 = (rNm by_ ln 2 50 (p0 + 1, -1)).2 := by
  rw [ro_t hs]
  dsimp only
  exact rSg_bad h
theorem lt_b {a b p m k : Nat} (h : a ≤ b + k) (h2 : b ≤ p + m) : a ≤ p + (m + k) := by omega
theorem b_lt {a p m : Nat} (h : a ≤ p + m) (hp : p < 100) (hm : m ≤ 100) : a < 900 := by omega
theorem b_lt3 {a p m : Nat} (h : a ≤ p + m) (hp : p < 100) (hm : m ≤ 100) : a + 3 < 1000 := by omega
theorem bq1 (by_ : Nat → Int32) (ln p0 : Nat) : (rDg by_ ln 7 (p0 + 1, -1)).2.1 ≤ p0 + 2 := rDg_le by_ ln 7 (p0 + 1, -1)
theorem bq2 (by_ : Nat → Int32) (ln p0 : Nat) : (rDg by_ ln 4 (rDg by_ ln 7 (p0 + 1, -1)).2).2.1 ≤ p0 + (2 + 1) := lt_b (rDg_le by_ ln 4 _) (bq1 by_ ln p0)
theorem bq3 (by_ : Nat → Int32) (ln p0 : Nat) : (rSg by_ ln 44 (rDg by_ ln 4 (rDg by_ ln 7 (p0 + 1, -1)).2).2).1 ≤ p0 + (2 + 1 + 1) := lt_b (rSg_le by_ ln 44 _) (bq2 by_ ln p0)
theorem bq4 (by_ : Nat → Int32) (ln p0 : Nat) : (rNm by_ ln 3 200 (rSg by_ ln 44 (rDg by_ ln 4 (rDg by_ ln 7 (p0 + 1, -1)).2).2)).2.1 ≤ p0 + (2 + 1 + 1 + 3) := lt_b (rNm_le by_ ln 3 200 _) (bq3 by_ ln p0)
theorem bq5 (by_ : Nat → Int32) (ln p0 : Nat) : (rSg by_ ln 44 (rNm by_ ln 3 200 (rSg by_ ln 44 (rDg by_ ln 4 (rDg by_ ln 7 (p0 + 1, -1)).2).2)).2).1 ≤ p0 + (2 + 1 + 1 + 3 + 1) := lt_b (rSg_le by_ ln 44 _) (bq4 by_ ln p0)
theorem bq6 (by_ : Nat → Int32) (ln p0 : Nat) : (rNm by_ ln 3 100 (rSg by_ ln 44 (rNm by_ ln 3 200 (rSg by_ ln 44 (rDg by_ ln 4 (rDg by_ ln 7 (p0 + 1, -1)).2).2)).2)).2.1 ≤ p0 + (2 + 1 + 1 + 3 + 1 + 3) := lt_b (rNm_le by_ ln 3 100 _) (bq5 by_ ln p0)
theorem bq7 (by_ : Nat → Int32) (ln p0 : Nat) : (rNm by_ ln 2 50 (p0 + 1, -1)).2.1 ≤ p0 + (1 + 2) := lt_b (rNm_le by_ ln 2 50 _) (Nat.le_refl (p0 + 1))
set_option maxHeartbeats 4000000 in
set_option maxRecDepth 100000 in
theorem ct_X7_takesOrder (l : Launch) {D : va_G} {cI cJ cQ : ClassId} {b0 b1 b2 b3 b4 b5 : Nat} {sa pa ad tx nb : Nat → Int32} {kp th : Int32} {hh : Int64} {by_ : Nat → Int32} {ln : Nat} (hT : tR by_ tx ln) (hln : ln ≤ 100) (p0 : Nat) (hp : p0 < ln) : Ct l yX7_takesOrder (Cond.code yX7_takesOrder cX7_takesOrder 3 (some .boolean)) 3 70 0 0 D (tyz cI cJ cQ) [.ref b0] [(b0, .inr (7, [.ref b1, .ref b2, .ref b3, .int (kp), .int (th), .ref b4, .int (nI ln), .int (nI p0), .ref b5, .long (hh)])), (b1, .inl (cI, 424, .inl (sa))), (b2, .inl (cI, 1696, .inl (pa))), (b3, .inl (cI, 424, .inl (ad))), (b4, .inl (cI, 100, .inl (tx))), (b5, .inl (cI, 4, .inl (nb)))] (pstE (bI (decide ((rOr by_ ln (p0, -1)).2.2 = -1))) (fun f => (rOr by_ ln (p0, -1)).2.2 = -1 → nbOK (rOr by_ ln (p0, -1)) f) (fun f => [(b0, .inr (7, [.ref b1, .ref b2, .ref b3, .int (kp), .int (th), .ref b4, .int (nI ln), .int (mat (rOr by_ ln (p0, -1)).2), .ref b5, .long (hh)])), (b1, .inl (cI, 424, .inl (sa))), (b2, .inl (cI, 1696, .inl (pa))), (b3, .inl (cI, 424, .inl (ad))), (b4, .inl (cI, 100, .inl (tx))), (b5, .inl (cI, 4, .inl (f)))])) := by
  refine Ct.of RX7 (by decide) rfl (Nat.le_of_ble_eq_true rfl) ?_
  intro p e s m below meth c A C RC
  have hp100 : p0 < 100 := Nat.lt_of_lt_of_le hp hln
  refine sw_aload_n 0 0 C dX7_takesOrder_0 rfl rfl ?_
  refine sw_get 1 0 5 C dX7_takesOrder_1 rfl rfl (inA lwX7) (C.w wF_X7_19) rfl rfl rfl ?_
  refine sw_aload_n 4 0 C dX7_takesOrder_4 rfl rfl ?_
  refine sw_get 5 0 7 C dX7_takesOrder_5 rfl rfl (inA lwX7) (C.w wF_X7_131) rfl rfl rfl ?_
  refine sw_ialdN 8 4 0 (p0) C dX7_takesOrder_8 rfl (by omega) rfl rfl rfl ?_
  refine sw_top (txa_in hT hp) ?_
  refine sw_istore_n 9 1 C dX7_takesOrder_9 rfl rfl ?_
  rcases (show txa by_ ln p0 = 115 ∨ txa by_ ln p0 = 112 ∨ txa by_ ln p0 = 98 ∨ txa by_ ln p0 = 116 ∨ (¬ txa by_ ln p0 = 115 ∧ ¬ txa by_ ln p0 = 112 ∧ ¬ txa by_ ln p0 = 98 ∧ ¬ txa by_ ln p0 = 116) from by
    by_cases q1 : txa by_ ln p0 = 115
    · exact Or.inl q1
    · by_cases q2 : txa by_ ln p0 = 112
      · exact Or.inr (Or.inl q2)
      · by_cases q3 : txa by_ ln p0 = 98
        · exact Or.inr (Or.inr (Or.inl q3))
        · by_cases q4 : txa by_ ln p0 = 116
          · exact Or.inr (Or.inr (Or.inr (Or.inl q4)))
          · exact Or.inr (Or.inr (Or.inr (Or.inr ⟨q1, q2, q3, q4⟩)))) with hs | hs | hs | hs | hs
  · refine sw_iload_n 10 1 C dX7_takesOrder_10 rfl rfl ?_
    refine sw_bipush 11 C dX7_takesOrder_11 115 (by decide) ?_
    refine sw_icmp_eq 13 36 C dX7_takesOrder_13 (by decide) (fun c_13 => ?_) (fun c_13 => ?_)
    rotate_left
    · exact by first | exact absurd c_13 (hs) | exact absurd (hs) c_13
    refine sw_aload_n 36 0 C dX7_takesOrder_36 rfl rfl ?_
    refine sw_dup 37 C dX7_takesOrder_37 rfl ?_
    refine sw_get 38 0 7 C dX7_takesOrder_38 rfl rfl (inA lwX7) (C.w wF_X7_131) rfl rfl rfl ?_
    refine sw_iconst 41 C dX7_takesOrder_41 1 (by decide) ?_
    refine sw_iadd 42 C dX7_takesOrder_42 ?_
    refine sw_top (nI_1 p0) ?_
    refine sw_put 43 0 7 tyX7 C dX7_takesOrder_43 rfl rfl (inA lwX7) tyX7_ok nmX7 (C.w wF_X7_131) rfl rfl rfl rfl rfl rfl rfl ?_
    refine sw_ws [(_, .inr (7, [.ref _, .ref _, .ref _, .int _, .int _, .ref _, .int _, .int _, .ref _, .long _])), (_, .inl (_, _, .inl _)), (_, .inl (_, _, .inl _)), (_, .inl (_, _, .inl _)), (_, .inl (_, _, .inl _)), (_, .inl (_, _, .inl _))] rfl ?_
    refine sw_iconst 46 C dX7_takesOrder_46 1 (by decide) ?_
    refine sw_istore_n 47 2 C dX7_takesOrder_47 rfl rfl ?_
    refine sw_aload_n 48 0 C dX7_takesOrder_48 rfl rfl ?_
    refine sw_get 49 0 8 C dX7_takesOrder_49 rfl rfl (inA lwX7) (C.w wF_X7_22) rfl rfl rfl ?_
    refine sw_iconst 52 C dX7_takesOrder_52 3 (by decide) ?_
    refine sw_iconst 53 C dX7_takesOrder_53 0 (by decide) ?_
    refine sw_iastN 54 5 0 (3) C dX7_takesOrder_54 rfl (by decide) rfl rfl rfl ?_
    refine sw_ws [(_, .inr (7, [.ref _, .ref _, .ref _, .int _, .int _, .ref _, .int _, .int _, .ref _, .long _])), (_, .inl (_, _, .inl _)), (_, .inl (_, _, .inl _)), (_, .inl (_, _, .inl _)), (_, .inl (_, _, .inl _)), (_, .inl (_, _, .inl _))] rfl ?_
    refine sw_iload_n 55 1 C dX7_takesOrder_55 rfl rfl ?_
    refine sw_bipush 56 C dX7_takesOrder_56 112 (by decide) ?_
    refine sw_icmp_eq 58 67 C dX7_takesOrder_58 (by decide) (fun c_58 => ?_) (fun c_58 => ?_)
    · exact by first | exact absurd c_58 (fun q => absurd (hs.symm.trans q) (by decide)) | exact absurd (fun q => absurd (hs.symm.trans q) (by decide)) c_58
    refine sw_iload_n 61 1 C dX7_takesOrder_61 rfl rfl ?_
    refine sw_bipush 62 C dX7_takesOrder_62 98 (by decide) ?_
    refine sw_icmp_ne 64 113 C dX7_takesOrder_64 (by decide) (fun c_64 => ?_) (fun c_64 => ?_)
    rotate_left
    · exact by first | exact absurd c_64 (fun q => absurd (hs.symm.trans q) (by decide)) | exact absurd (fun q => absurd (hs.symm.trans q) (by decide)) c_64
    refine sw_iload_n 113 1 C dX7_takesOrder_113 rfl rfl ?_
    refine sw_bipush 114 C dX7_takesOrder_114 98 (by decide) ?_
    refine sw_icmp_ne 116 149 C dX7_takesOrder_116 (by decide) (fun c_116 => ?_) (fun c_116 => ?_)
    rotate_left
    · exact by first | exact absurd c_116 (fun q => absurd (hs.symm.trans q) (by decide)) | exact absurd (fun q => absurd (hs.symm.trans q) (by decide)) c_116
    refine sw_iload_n 149 1 C dX7_takesOrder_149 rfl rfl ?_
    refine sw_bipush 150 C dX7_takesOrder_150 116 (by decide) ?_
    refine sw_icmp_ne 152 164 C dX7_takesOrder_152 (by decide) (fun c_152 => ?_) (fun c_152 => ?_)
    rotate_left
    · exact by first | exact absurd c_152 (fun q => absurd (hs.symm.trans q) (by decide)) | exact absurd (fun q => absurd (hs.symm.trans q) (by decide)) c_152
    refine sw_iload_n 164 2 C dX7_takesOrder_164 rfl rfl ?_
    refine sw_if_eq 165 181 C dX7_takesOrder_165 (by decide) (fun c_165 => ?_) (fun c_165 => ?_)
    · exact by first | exact absurd c_165 (by decide) | exact absurd (by decide) c_165
    refine sw_aload_n 168 0 C dX7_takesOrder_168 rfl rfl ?_
    refine sw_bipush 169 C dX7_takesOrder_169 59 (by decide) ?_
    refine sw_callVI 171 [0, 1, 2, 3, 4, 5] 1 C dX7_takesOrder_171 (ct_X7_takes l hT hln (Q := (p0 + 1, -1)) rfl (by show p0 + 1 < 900; omega) (by decide)) wK_X7_takes wM_X7_140 wN_X7_takes wS_X7_X7_takes wI_X7 hd_X7_takes rfl rfl rfl ⟨rfl, rfl⟩ ⟨Nat.le_of_ble_eq_true rfl, Nat.le_of_ble_eq_true rfl⟩ rfl rfl rfl rfl rfl ?_
    refine sw_ws [(_, .inr (7, [.ref _, .ref _, .ref _, .int _, .int _, .ref _, .int _, .int _, .ref _, .long _])), (_, .inl (_, _, .inl _)), (_, .inl (_, _, .inl _)), (_, .inl (_, _, .inl _)), (_, .inl (_, _, .inl _)), (_, .inl (_, _, .inl _))] rfl ?_
    refine sw_if_eq 174 181 C dX7_takesOrder_174 (by decide) (fun c_174 => ?_) (fun c_174 => ?_)
    · refine sw_iconst 181 C dX7_takesOrder_181 0 (by decide) ?_
      refine sw_zret 182 C RC rfl dX7_takesOrder_182 ?_
      have he := ro_s hs
      have hk := of_decide_eq_false (bI_f c_174)
      rw [he]
      exact ⟨by rw [decide_eq_false hk]; rfl, _, fun q => absurd q hk, rfl⟩
    · refine sw_iconst 177 C dX7_takesOrder_177 1 (by decide) ?_
      refine sw_goto 178 182 C dX7_takesOrder_178 (by decide) ?_
      refine sw_zret 182 C RC rfl dX7_takesOrder_182 ?_
      have he : (rOr by_ ln (p0, -1)).2 = _ := ro_s hs
      have hk := of_decide_eq_true (bI_t c_174)
      rw [he]
      refine ⟨by rw [decide_eq_true hk]; rfl, _, fun _ => ?_, rfl⟩
      exact ⟨fun q => absurd (q.imp (show xg (rOr by_ ln (p0, -1)) = txa by_ ln p0 from rfl).symm.trans (show xg (rOr by_ ln (p0, -1)) = txa by_ ln p0 from rfl).symm.trans) (by rw [hs]; decide), fun q => absurd ((show xg (rOr by_ ln (p0, -1)) = txa by_ ln p0 from rfl).symm.trans q) (by rw [hs]; decide)⟩
  · refine sw_iload_n 10 1 C dX7_takesOrder_10 rfl rfl ?_
    refine sw_bipush 11 C dX7_takesOrder_11 115 (by decide) ?_
    refine sw_icmp_eq 13 36 C dX7_takesOrder_13 (by decide) (fun c_13 => ?_) (fun c_13 => ?_)
    · exact by first | exact absurd c_13 (fun q => absurd (hs.symm.trans q) (by decide)) | exact absurd (fun q => absurd (hs.symm.trans q) (by decide)) c_13
    refine sw_iload_n 16 1 C dX7_takesOrder_16 rfl rfl ?_
    refine sw_bipush 17 C dX7_takesOrder_17 112 (by decide) ?_
    refine sw_icmp_eq 19 36 C dX7_takesOrder_19 (by decide) (fun c_19 => ?_) (fun c_19 => ?_)
    rotate_left
    · exact by first | exact absurd c_19 (hs) | exact absurd (hs) c_19
    refine sw_aload_n 36 0 C dX7_takesOrder_36 rfl rfl ?_
    refine sw_dup 37 C dX7_takesOrder_37 rfl ?_
    refine sw_get 38 0 7 C dX7_takesOrder_38 rfl rfl (inA lwX7) (C.w wF_X7_131) rfl rfl rfl ?_
    refine sw_iconst 41 C dX7_takesOrder_41 1 (by decide) ?_
    refine sw_iadd 42 C dX7_takesOrder_42 ?_
    refine sw_top (nI_1 p0) ?_
    refine sw_put 43 0 7 tyX7 C dX7_takesOrder_43 rfl rfl (inA lwX7) tyX7_ok nmX7 (C.w wF_X7_131) rfl rfl rfl rfl rfl rfl rfl ?_
    refine sw_ws [(_, .inr (7, [.ref _, .ref _, .ref _, .int _, .int _, .ref _, .int _, .int _, .ref _, .long _])), (_, .inl (_, _, .inl _)), (_, .inl (_, _, .inl _)), (_, .inl (_, _, .inl _)), (_, .inl (_, _, .inl _)), (_, .inl (_, _, .inl _))] rfl ?_
    refine sw_iconst 46 C dX7_takesOrder_46 1 (by decide) ?_
    refine sw_istore_n 47 2 C dX7_takesOrder_47 rfl rfl ?_
    refine sw_aload_n 48 0 C dX7_takesOrder_48 rfl rfl ?_
    refine sw_get 49 0 8 C dX7_takesOrder_49 rfl rfl (inA lwX7) (C.w wF_X7_22) rfl rfl rfl ?_
    refine sw_iconst 52 C dX7_takesOrder_52 3 (by decide) ?_
    refine sw_iconst 53 C dX7_takesOrder_53 0 (by decide) ?_
    refine sw_iastN 54 5 0 (3) C dX7_takesOrder_54 rfl (by decide) rfl rfl rfl ?_
    refine sw_ws [(_, .inr (7, [.ref _, .ref _, .ref _, .int _, .int _, .ref _, .int _, .int _, .ref _, .long _])), (_, .inl (_, _, .inl _)), (_, .inl (_, _, .inl _)), (_, .inl (_, _, .inl _)), (_, .inl (_, _, .inl _)), (_, .inl (_, _, .inl _))] rfl ?_
    refine sw_iload_n 55 1 C dX7_takesOrder_55 rfl rfl ?_
    refine sw_bipush 56 C dX7_takesOrder_56 112 (by decide) ?_
    refine sw_icmp_eq 58 67 C dX7_takesOrder_58 (by decide) (fun c_58 => ?_) (fun c_58 => ?_)
    rotate_left
    · exact by first | exact absurd c_58 (hs) | exact absurd (hs) c_58
    refine sw_aload_n 67 0 C dX7_takesOrder_67 rfl rfl ?_
    refine sw_iconst 68 C dX7_takesOrder_68 0 (by decide) ?_
    refine sw_bipush 69 C dX7_takesOrder_69 7 (by decide) ?_
    refine sw_callVI 71 [0, 1, 2, 3, 4, 5] 2 C dX7_takesOrder_71 (ct_X7_takesDigit l (w := 7) hT hln (Q := (p0 + 1, -1)) rfl (by show p0 + 1 < 900; omega) 0 7 rfl rfl rfl (by decide) (by decide)) wK_X7_takesDigit wM_X7_137 wN_X7_takesDigit wS_X7_X7_takesDigit wI_X7 hd_X7_takesDigit rfl rfl rfl ⟨rfl, rfl⟩ ⟨Nat.le_of_ble_eq_true rfl, Nat.le_of_ble_eq_true rfl⟩ rfl rfl rfl rfl rfl ?_
    refine sw_ws [(_, .inr (7, [.ref _, .ref _, .ref _, .int _, .int _, .ref _, .int _, .int _, .ref _, .long _])), (_, .inl (_, _, .inl _)), (_, .inl (_, _, .inl _)), (_, .inl (_, _, .inl _)), (_, .inl (_, _, .inl _)), (_, .inl (_, _, .inl _))] rfl ?_
    refine sw_if_eq 74 111 C dX7_takesOrder_74 (by decide) (fun c_74 => ?_) (fun c_74 => ?_)
    · refine sw_iconst 111 C dX7_takesOrder_111 0 (by decide) ?_
      refine sw_istore_n 112 2 C dX7_takesOrder_112 rfl rfl ?_
      refine sw_iload_n 113 1 C dX7_takesOrder_113 rfl rfl ?_
      refine sw_bipush 114 C dX7_takesOrder_114 98 (by decide) ?_
      refine sw_icmp_ne 116 149 C dX7_takesOrder_116 (by decide) (fun c_116 => ?_) (fun c_116 => ?_)
      rotate_left
      · exact by first | exact absurd c_116 (fun q => absurd (hs.symm.trans q) (by decide)) | exact absurd (fun q => absurd (hs.symm.trans q) (by decide)) c_116
      refine sw_iload_n 149 1 C dX7_takesOrder_149 rfl rfl ?_
      refine sw_bipush 150 C dX7_takesOrder_150 116 (by decide) ?_
      refine sw_icmp_ne 152 164 C dX7_takesOrder_152 (by decide) (fun c_152 => ?_) (fun c_152 => ?_)
      rotate_left
      · exact by first | exact absurd c_152 (fun q => absurd (hs.symm.trans q) (by decide)) | exact absurd (fun q => absurd (hs.symm.trans q) (by decide)) c_152
      refine sw_iload_n 164 2 C dX7_takesOrder_164 rfl rfl ?_
      refine sw_if_eq 165 181 C dX7_takesOrder_165 (by decide) (fun c_165 => ?_) (fun c_165 => ?_)
      rotate_left
      · exact by first | exact absurd c_165 (rfl) | exact absurd (rfl) c_165
      refine sw_iconst 181 C dX7_takesOrder_181 0 (by decide) ?_
      refine sw_zret 182 C RC rfl dX7_takesOrder_182 ?_
      have he := ro_p1 hs (of_decide_eq_false (bI_f c_74))
      have hk := of_decide_eq_false (bI_f c_74)
      rw [he]
      exact ⟨by rw [decide_eq_false hk]; rfl, _, fun q => absurd q hk, rfl⟩
    · have h1 := of_decide_eq_true (bI_t c_74)
      rw [mat_ok h1, show nbD (rDg by_ ln 7 (p0 + 1, -1)) 0 (upd nb 3 0) = upd (upd nb 3 0) 0 (rDg by_ ln 7 (p0 + 1, -1)).1 from if_pos h1]
      refine sw_aload_n 77 0 C dX7_takesOrder_77 rfl rfl ?_
      refine sw_iconst 78 C dX7_takesOrder_78 1 (by decide) ?_
      refine sw_iconst 79 C dX7_takesOrder_79 4 (by decide) ?_
      refine sw_callVI 80 [0, 1, 2, 3, 4, 5] 2 C dX7_takesOrder_80 (ct_X7_takesDigit l (w := 4) hT hln h1 (b_lt (bq1 by_ ln p0) hp100 (by decide)) 1 4 rfl rfl rfl (by decide) (by decide)) wK_X7_takesDigit wM_X7_137 wN_X7_takesDigit wS_X7_X7_takesDigit wI_X7 hd_X7_takesDigit rfl rfl rfl ⟨rfl, rfl⟩ ⟨Nat.le_of_ble_eq_true rfl, Nat.le_of_ble_eq_true rfl⟩ rfl rfl rfl rfl rfl ?_
      refine sw_ws [(_, .inr (7, [.ref _, .ref _, .ref _, .int _, .int _, .ref _, .int _, .int _, .ref _, .long _])), (_, .inl (_, _, .inl _)), (_, .inl (_, _, .inl _)), (_, .inl (_, _, .inl _)), (_, .inl (_, _, .inl _)), (_, .inl (_, _, .inl _))] rfl ?_
      refine sw_if_eq 83 111 C dX7_takesOrder_83 (by decide) (fun c_83 => ?_) (fun c_83 => ?_)
      · refine sw_iconst 111 C dX7_takesOrder_111 0 (by decide) ?_
        refine sw_istore_n 112 2 C dX7_takesOrder_112 rfl rfl ?_
        refine sw_iload_n 113 1 C dX7_takesOrder_113 rfl rfl ?_
        refine sw_bipush 114 C dX7_takesOrder_114 98 (by decide) ?_
        refine sw_icmp_ne 116 149 C dX7_takesOrder_116 (by decide) (fun c_116 => ?_) (fun c_116 => ?_)
        rotate_left
        · exact by first | exact absurd c_116 (fun q => absurd (hs.symm.trans q) (by decide)) | exact absurd (fun q => absurd (hs.symm.trans q) (by decide)) c_116
        refine sw_iload_n 149 1 C dX7_takesOrder_149 rfl rfl ?_
        refine sw_bipush 150 C dX7_takesOrder_150 116 (by decide) ?_
        refine sw_icmp_ne 152 164 C dX7_takesOrder_152 (by decide) (fun c_152 => ?_) (fun c_152 => ?_)
        rotate_left
        · exact by first | exact absurd c_152 (fun q => absurd (hs.symm.trans q) (by decide)) | exact absurd (fun q => absurd (hs.symm.trans q) (by decide)) c_152
        refine sw_iload_n 164 2 C dX7_takesOrder_164 rfl rfl ?_
        refine sw_if_eq 165 181 C dX7_takesOrder_165 (by decide) (fun c_165 => ?_) (fun c_165 => ?_)
        rotate_left
        · exact by first | exact absurd c_165 (rfl) | exact absurd (rfl) c_165
        refine sw_iconst 181 C dX7_takesOrder_181 0 (by decide) ?_
        refine sw_zret 182 C RC rfl dX7_takesOrder_182 ?_
        have he := ro_p2 hs (of_decide_eq_false (bI_f c_83))
        have hk := of_decide_eq_false (bI_f c_83)
        rw [he]
        exact ⟨by rw [decide_eq_false hk]; rfl, _, fun q => absurd q hk, rfl⟩
      · have h2 := of_decide_eq_true (bI_t c_83)
        rw [mat_ok h2, show nbD (rDg by_ ln 4 (rDg by_ ln 7 (p0 + 1, -1)).2) 1 (upd (upd nb 3 0) 0 (rDg by_ ln 7 (p0 + 1, -1)).1) = upd (upd (upd nb 3 0) 0 (rDg by_ ln 7 (p0 + 1, -1)).1) 1 (rDg by_ ln 4 (rDg by_ ln 7 (p0 + 1, -1)).2).1 from if_pos h2]
        refine sw_aload_n 86 0 C dX7_takesOrder_86 rfl rfl ?_
        refine sw_bipush 87 C dX7_takesOrder_87 44 (by decide) ?_
        refine sw_callVI 89 [0, 1, 2, 3, 4, 5] 1 C dX7_takesOrder_89 (ct_X7_takes l hT hln h2 (b_lt (bq2 by_ ln p0) hp100 (by decide)) (by decide)) wK_X7_takes wM_X7_140 wN_X7_takes wS_X7_X7_takes wI_X7 hd_X7_takes rfl rfl rfl ⟨rfl, rfl⟩ ⟨Nat.le_of_ble_eq_true rfl, Nat.le_of_ble_eq_true rfl⟩ rfl rfl rfl rfl rfl ?_
        refine sw_ws [(_, .inr (7, [.ref _, .ref _, .ref _, .int _, .int _, .ref _, .int _, .int _, .ref _, .long _])), (_, .inl (_, _, .inl _)), (_, .inl (_, _, .inl _)), (_, .inl (_, _, .inl _)), (_, .inl (_, _, .inl _)), (_, .inl (_, _, .inl _))] rfl ?_
        refine sw_if_eq 92 111 C dX7_takesOrder_92 (by decide) (fun c_92 => ?_) (fun c_92 => ?_)
        · refine sw_iconst 111 C dX7_takesOrder_111 0 (by decide) ?_
          refine sw_istore_n 112 2 C dX7_takesOrder_112 rfl rfl ?_
          refine sw_iload_n 113 1 C dX7_takesOrder_113 rfl rfl ?_
          refine sw_bipush 114 C dX7_takesOrder_114 98 (by decide) ?_
          refine sw_icmp_ne 116 149 C dX7_takesOrder_116 (by decide) (fun c_116 => ?_) (fun c_116 => ?_)
          rotate_left
          · exact by first | exact absurd c_116 (fun q => absurd (hs.symm.trans q) (by decide)) | exact absurd (fun q => absurd (hs.symm.trans q) (by decide)) c_116
          refine sw_iload_n 149 1 C dX7_takesOrder_149 rfl rfl ?_
          refine sw_bipush 150 C dX7_takesOrder_150 116 (by decide) ?_
          refine sw_icmp_ne 152 164 C dX7_takesOrder_152 (by decide) (fun c_152 => ?_) (fun c_152 => ?_)
          rotate_left
          · exact by first | exact absurd c_152 (fun q => absurd (hs.symm.trans q) (by decide)) | exact absurd (fun q => absurd (hs.symm.trans q) (by decide)) c_152
          refine sw_iload_n 164 2 C dX7_takesOrder_164 rfl rfl ?_
          refine sw_if_eq 165 181 C dX7_takesOrder_165 (by decide) (fun c_165 => ?_) (fun c_165 => ?_)
          rotate_left
          · exact by first | exact absurd c_165 (rfl) | exact absurd (rfl) c_165
          refine sw_iconst 181 C dX7_takesOrder_181 0 (by decide) ?_
          refine sw_zret 182 C RC rfl dX7_takesOrder_182 ?_
          have he := ro_p3 hs (of_decide_eq_false (bI_f c_92))
          have hk := of_decide_eq_false (bI_f c_92)
          rw [he]
          exact ⟨by rw [decide_eq_false hk]; rfl, _, fun q => absurd q hk, rfl⟩
        · have h3 := of_decide_eq_true (bI_t c_92)
          rw [mat_ok h3]
          refine sw_aload_n 95 0 C dX7_takesOrder_95 rfl rfl ?_
          refine sw_iconst 96 C dX7_takesOrder_96 2 (by decide) ?_
          refine sw_iconst 97 C dX7_takesOrder_97 3 (by decide) ?_
          refine sw_sipush 98 C dX7_takesOrder_98 200 (by decide) ?_
          refine sw_callVI 101 [0, 1, 2, 3, 4, 5] 3 C dX7_takesOrder_101 (ct_X7_takesNumber l hT hln h3 (b_lt (bq3 by_ ln p0) hp100 (by decide)) 2 3 rfl rfl (by decide) (by decide)) wK_X7_takesNumber wM_X7_143 wN_X7_takesNumber wS_X7_X7_takesNumber wI_X7 hd_X7_takesNumber rfl rfl rfl ⟨rfl, rfl⟩ ⟨Nat.le_of_ble_eq_true rfl, Nat.le_of_ble_eq_true rfl⟩ rfl rfl rfl rfl rfl ?_
          refine sw_ws [(_, .inr (7, [.ref _, .ref _, .ref _, .int _, .int _, .ref _, .int _, .int _, .ref _, .long _])), (_, .inl (_, _, .inl _)), (_, .inl (_, _, .inl _)), (_, .inl (_, _, .inl _)), (_, .inl (_, _, .inl _)), (_, .inl (_, _, .inl _))] rfl ?_
          refine sw_if_eq 104 111 C dX7_takesOrder_104 (by decide) (fun c_104 => ?_) (fun c_104 => ?_)
          · refine sw_iconst 111 C dX7_takesOrder_111 0 (by decide) ?_
            refine sw_istore_n 112 2 C dX7_takesOrder_112 rfl rfl ?_
            refine sw_iload_n 113 1 C dX7_takesOrder_113 rfl rfl ?_
            refine sw_bipush 114 C dX7_takesOrder_114 98 (by decide) ?_
            refine sw_icmp_ne 116 149 C dX7_takesOrder_116 (by decide) (fun c_116 => ?_) (fun c_116 => ?_)
            rotate_left
            · exact by first | exact absurd c_116 (fun q => absurd (hs.symm.trans q) (by decide)) | exact absurd (fun q => absurd (hs.symm.trans q) (by decide)) c_116
            refine sw_iload_n 149 1 C dX7_takesOrder_149 rfl rfl ?_
            refine sw_bipush 150 C dX7_takesOrder_150 116 (by decide) ?_
            refine sw_icmp_ne 152 164 C dX7_takesOrder_152 (by decide) (fun c_152 => ?_) (fun c_152 => ?_)
            rotate_left
            · exact by first | exact absurd c_152 (fun q => absurd (hs.symm.trans q) (by decide)) | exact absurd (fun q => absurd (hs.symm.trans q) (by decide)) c_152
            refine sw_iload_n 164 2 C dX7_takesOrder_164 rfl rfl ?_
            refine sw_if_eq 165 181 C dX7_takesOrder_165 (by decide) (fun c_165 => ?_) (fun c_165 => ?_)
            rotate_left
            · exact by first | exact absurd c_165 (rfl) | exact absurd (rfl) c_165
            refine sw_iconst 181 C dX7_takesOrder_181 0 (by decide) ?_
            refine sw_zret 182 C RC rfl dX7_takesOrder_182 ?_
            have he := ro_p4 hs (of_decide_eq_false (bI_f c_104))
            have hk := of_decide_eq_false (bI_f c_104)
            rw [he]
            exact ⟨by rw [decide_eq_false hk]; rfl, _, fun q => absurd q hk, rfl⟩
          · have h4 := of_decide_eq_true (bI_t c_104)
            rw [mat_ok h4, nbN_ok h4 (b_lt3 (bq3 by_ ln p0) hp100 (by decide))]
            refine sw_iconst 107 C dX7_takesOrder_107 1 (by decide) ?_
            refine sw_goto 108 112 C dX7_takesOrder_108 (by decide) ?_
            refine sw_istore_n 112 2 C dX7_takesOrder_112 rfl rfl ?_
            refine sw_iload_n 113 1 C dX7_takesOrder_113 rfl rfl ?_
            refine sw_bipush 114 C dX7_takesOrder_114 98 (by decide) ?_
            refine sw_icmp_ne 116 149 C dX7_takesOrder_116 (by decide) (fun c_116 => ?_) (fun c_116 => ?_)
            rotate_left
            · exact by first | exact absurd c_116 (fun q => absurd (hs.symm.trans q) (by decide)) | exact absurd (fun q => absurd (hs.symm.trans q) (by decide)) c_116
            refine sw_iload_n 149 1 C dX7_takesOrder_149 rfl rfl ?_
            refine sw_bipush 150 C dX7_takesOrder_150 116 (by decide) ?_
            refine sw_icmp_ne 152 164 C dX7_takesOrder_152 (by decide) (fun c_152 => ?_) (fun c_152 => ?_)
            rotate_left
            · exact by first | exact absurd c_152 (fun q => absurd (hs.symm.trans q) (by decide)) | exact absurd (fun q => absurd (hs.symm.trans q) (by decide)) c_152
            refine sw_iload_n 164 2 C dX7_takesOrder_164 rfl rfl ?_
            refine sw_if_eq 165 181 C dX7_takesOrder_165 (by decide) (fun c_165 => ?_) (fun c_165 => ?_)
            · exact by first | exact absurd c_165 (by decide) | exact absurd (by decide) c_165
            refine sw_aload_n 168 0 C dX7_takesOrder_168 rfl rfl ?_
            refine sw_bipush 169 C dX7_takesOrder_169 59 (by decide) ?_
            refine sw_callVI 171 [0, 1, 2, 3, 4, 5] 1 C dX7_takesOrder_171 (ct_X7_takes l hT hln h4 (b_lt (bq4 by_ ln p0) hp100 (by decide)) (by decide)) wK_X7_takes wM_X7_140 wN_X7_takes wS_X7_X7_takes wI_X7 hd_X7_takes rfl rfl rfl ⟨rfl, rfl⟩ ⟨Nat.le_of_ble_eq_true rfl, Nat.le_of_ble_eq_true rfl⟩ rfl rfl rfl rfl rfl ?_
            refine sw_ws [(_, .inr (7, [.ref _, .ref _, .ref _, .int _, .int _, .ref _, .int _, .int _, .ref _, .long _])), (_, .inl (_, _, .inl _)), (_, .inl (_, _, .inl _)), (_, .inl (_, _, .inl _)), (_, .inl (_, _, .inl _)), (_, .inl (_, _, .inl _))] rfl ?_
            refine sw_if_eq 174 181 C dX7_takesOrder_174 (by decide) (fun c_174 => ?_) (fun c_174 => ?_)
            · refine sw_iconst 181 C dX7_takesOrder_181 0 (by decide) ?_
              refine sw_zret 182 C RC rfl dX7_takesOrder_182 ?_
              have he := ro_p2f hs
              have hk := of_decide_eq_false (bI_f c_174)
              rw [he]
              exact ⟨by rw [decide_eq_false hk]; rfl, _, fun q => absurd q hk, rfl⟩
            · refine sw_iconst 177 C dX7_takesOrder_177 1 (by decide) ?_
              refine sw_goto 178 182 C dX7_takesOrder_178 (by decide) ?_
              refine sw_zret 182 C RC rfl dX7_takesOrder_182 ?_
              have he : (rOr by_ ln (p0, -1)).2 = _ := ro_p2f hs
              have hk := of_decide_eq_true (bI_t c_174)
              rw [he]
              refine ⟨by rw [decide_eq_true hk]; rfl, _, fun _ => ?_, rfl⟩
              refine ⟨fun _ => ?_, fun q => absurd ((show xg (rOr by_ ln (p0, -1)) = txa by_ ln p0 from rfl).symm.trans q) (by rw [hs]; decide)⟩
              rw [ro_p hs]
              refine ⟨?_, ?_, ?_, ?_⟩
              · show upd _ _ _ _ = _
                repeat (first | rw [upd_ne (by decide)] | rw [upd_at rfl])
              · show upd _ _ _ _ = _
                repeat (first | rw [upd_ne (by decide)] | rw [upd_at rfl])
              · show upd _ _ _ _ = _
                repeat (first | rw [upd_ne (by decide)] | rw [upd_at rfl])
              · show upd _ _ _ _ = _
                repeat (first | rw [upd_ne (by decide)] | rw [upd_at rfl])
  · refine sw_iload_n 10 1 C dX7_takesOrder_10 rfl rfl ?_
    refine sw_bipush 11 C dX7_takesOrder_11 115 (by decide) ?_
    refine sw_icmp_eq 13 36 C dX7_takesOrder_13 (by decide) (fun c_13 => ?_) (fun c_13 => ?_)
    · exact by first | exact absurd c_13 (fun q => absurd (hs.symm.trans q) (by decide)) | exact absurd (fun q => absurd (hs.symm.trans q) (by decide)) c_13
    refine sw_iload_n 16 1 C dX7_takesOrder_16 rfl rfl ?_
    refine sw_bipush 17 C dX7_takesOrder_17 112 (by decide) ?_
    refine sw_icmp_eq 19 36 C dX7_takesOrder_19 (by decide) (fun c_19 => ?_) (fun c_19 => ?_)
    · exact by first | exact absurd c_19 (fun q => absurd (hs.symm.trans q) (by decide)) | exact absurd (fun q => absurd (hs.symm.trans q) (by decide)) c_19
    refine sw_iload_n 22 1 C dX7_takesOrder_22 rfl rfl ?_
    refine sw_bipush 23 C dX7_takesOrder_23 98 (by decide) ?_
    refine sw_icmp_eq 25 36 C dX7_takesOrder_25 (by decide) (fun c_25 => ?_) (fun c_25 => ?_)
    rotate_left
    · exact by first | exact absurd c_25 (hs) | exact absurd (hs) c_25
    refine sw_aload_n 36 0 C dX7_takesOrder_36 rfl rfl ?_
    refine sw_dup 37 C dX7_takesOrder_37 rfl ?_
    refine sw_get 38 0 7 C dX7_takesOrder_38 rfl rfl (inA lwX7) (C.w wF_X7_131) rfl rfl rfl ?_
    refine sw_iconst 41 C dX7_takesOrder_41 1 (by decide) ?_
    refine sw_iadd 42 C dX7_takesOrder_42 ?_
    refine sw_top (nI_1 p0) ?_
    refine sw_put 43 0 7 tyX7 C dX7_takesOrder_43 rfl rfl (inA lwX7) tyX7_ok nmX7 (C.w wF_X7_131) rfl rfl rfl rfl rfl rfl rfl ?_
    refine sw_ws [(_, .inr (7, [.ref _, .ref _, .ref _, .int _, .int _, .ref _, .int _, .int _, .ref _, .long _])), (_, .inl (_, _, .inl _)), (_, .inl (_, _, .inl _)), (_, .inl (_, _, .inl _)), (_, .inl (_, _, .inl _)), (_, .inl (_, _, .inl _))] rfl ?_
    refine sw_iconst 46 C dX7_takesOrder_46 1 (by decide) ?_
    refine sw_istore_n 47 2 C dX7_takesOrder_47 rfl rfl ?_
    refine sw_aload_n 48 0 C dX7_takesOrder_48 rfl rfl ?_
    refine sw_get 49 0 8 C dX7_takesOrder_49 rfl rfl (inA lwX7) (C.w wF_X7_22) rfl rfl rfl ?_
    refine sw_iconst 52 C dX7_takesOrder_52 3 (by decide) ?_
    refine sw_iconst 53 C dX7_takesOrder_53 0 (by decide) ?_
    refine sw_iastN 54 5 0 (3) C dX7_takesOrder_54 rfl (by decide) rfl rfl rfl ?_
    refine sw_ws [(_, .inr (7, [.ref _, .ref _, .ref _, .int _, .int _, .ref _, .int _, .int _, .ref _, .long _])), (_, .inl (_, _, .inl _)), (_, .inl (_, _, .inl _)), (_, .inl (_, _, .inl _)), (_, .inl (_, _, .inl _)), (_, .inl (_, _, .inl _))] rfl ?_
    refine sw_iload_n 55 1 C dX7_takesOrder_55 rfl rfl ?_
    refine sw_bipush 56 C dX7_takesOrder_56 112 (by decide) ?_
    refine sw_icmp_eq 58 67 C dX7_takesOrder_58 (by decide) (fun c_58 => ?_) (fun c_58 => ?_)
    · exact by first | exact absurd c_58 (fun q => absurd (hs.symm.trans q) (by decide)) | exact absurd (fun q => absurd (hs.symm.trans q) (by decide)) c_58
    refine sw_iload_n 61 1 C dX7_takesOrder_61 rfl rfl ?_
    refine sw_bipush 62 C dX7_takesOrder_62 98 (by decide) ?_
    refine sw_icmp_ne 64 113 C dX7_takesOrder_64 (by decide) (fun c_64 => ?_) (fun c_64 => ?_)
    · exact by first | exact absurd c_64 (fun q => q hs) | exact absurd (fun q => q hs) c_64
    refine sw_aload_n 67 0 C dX7_takesOrder_67 rfl rfl ?_
    refine sw_iconst 68 C dX7_takesOrder_68 0 (by decide) ?_
    refine sw_bipush 69 C dX7_takesOrder_69 7 (by decide) ?_
    refine sw_callVI 71 [0, 1, 2, 3, 4, 5] 2 C dX7_takesOrder_71 (ct_X7_takesDigit l (w := 7) hT hln (Q := (p0 + 1, -1)) rfl (by show p0 + 1 < 900; omega) 0 7 rfl rfl rfl (by decide) (by decide)) wK_X7_takesDigit wM_X7_137 wN_X7_takesDigit wS_X7_X7_takesDigit wI_X7 hd_X7_takesDigit rfl rfl rfl ⟨rfl, rfl⟩ ⟨Nat.le_of_ble_eq_true rfl, Nat.le_of_ble_eq_true rfl⟩ rfl rfl rfl rfl rfl ?_
    refine sw_ws [(_, .inr (7, [.ref _, .ref _, .ref _, .int _, .int _, .ref _, .int _, .int _, .ref _, .long _])), (_, .inl (_, _, .inl _)), (_, .inl (_, _, .inl _)), (_, .inl (_, _, .inl _)), (_, .inl (_, _, .inl _)), (_, .inl (_, _, .inl _))] rfl ?_
    refine sw_if_eq 74 111 C dX7_takesOrder_74 (by decide) (fun c_74 => ?_) (fun c_74 => ?_)
    · refine sw_iconst 111 C dX7_takesOrder_111 0 (by decide) ?_
      refine sw_istore_n 112 2 C dX7_takesOrder_112 rfl rfl ?_
      refine sw_iload_n 113 1 C dX7_takesOrder_113 rfl rfl ?_
      refine sw_bipush 114 C dX7_takesOrder_114 98 (by decide) ?_
      refine sw_icmp_ne 116 149 C dX7_takesOrder_116 (by decide) (fun c_116 => ?_) (fun c_116 => ?_)
      · exact by first | exact absurd c_116 (fun q => q hs) | exact absurd (fun q => q hs) c_116
      refine sw_iload_n 119 2 C dX7_takesOrder_119 rfl rfl ?_
      refine sw_if_eq 120 147 C dX7_takesOrder_120 (by decide) (fun c_120 => ?_) (fun c_120 => ?_)
      rotate_left
      · exact by first | exact absurd c_120 (rfl) | exact absurd (rfl) c_120
      refine sw_iconst 147 C dX7_takesOrder_147 0 (by decide) ?_
      refine sw_istore_n 148 2 C dX7_takesOrder_148 rfl rfl ?_
      refine sw_loc (L1 := [(0, .ref _), (1, .int _), (2, .int _)]) ?_ rfl
      refine sw_iload_n 149 1 C dX7_takesOrder_149 rfl rfl ?_
      refine sw_bipush 150 C dX7_takesOrder_150 116 (by decide) ?_
      refine sw_icmp_ne 152 164 C dX7_takesOrder_152 (by decide) (fun c_152 => ?_) (fun c_152 => ?_)
      rotate_left
      · exact by first | exact absurd c_152 (fun q => absurd (hs.symm.trans q) (by decide)) | exact absurd (fun q => absurd (hs.symm.trans q) (by decide)) c_152
      refine sw_iload_n 164 2 C dX7_takesOrder_164 rfl rfl ?_
      refine sw_if_eq 165 181 C dX7_takesOrder_165 (by decide) (fun c_165 => ?_) (fun c_165 => ?_)
      rotate_left
      · exact by first | exact absurd c_165 (rfl) | exact absurd (rfl) c_165
      refine sw_iconst 181 C dX7_takesOrder_181 0 (by decide) ?_
      refine sw_zret 182 C RC rfl dX7_takesOrder_182 ?_
      have he := ro_b1 hs (of_decide_eq_false (bI_f c_74))
      have hk := of_decide_eq_false (bI_f c_74)
      rw [he]
      exact ⟨by rw [decide_eq_false hk]; rfl, _, fun q => absurd q hk, rfl⟩
    · have h1 := of_decide_eq_true (bI_t c_74)
      rw [mat_ok h1, show nbD (rDg by_ ln 7 (p0 + 1, -1)) 0 (upd nb 3 0) = upd (upd nb 3 0) 0 (rDg by_ ln 7 (p0 + 1, -1)).1 from if_pos h1]
      refine sw_aload_n 77 0 C dX7_takesOrder_77 rfl rfl ?_
      refine sw_iconst 78 C dX7_takesOrder_78 1 (by decide) ?_
      refine sw_iconst 79 C dX7_takesOrder_79 4 (by decide) ?_
      refine sw_callVI 80 [0, 1, 2, 3, 4, 5] 2 C dX7_takesOrder_80 (ct_X7_takesDigit l (w := 4) hT hln h1 (b_lt (bq1 by_ ln p0) hp100 (by decide)) 1 4 rfl rfl rfl (by decide) (by decide)) wK_X7_takesDigit wM_X7_137 wN_X7_takesDigit wS_X7_X7_takesDigit wI_X7 hd_X7_takesDigit rfl rfl rfl ⟨rfl, rfl⟩ ⟨Nat.le_of_ble_eq_true rfl, Nat.le_of_ble_eq_true rfl⟩ rfl rfl rfl rfl rfl ?_
      refine sw_ws [(_, .inr (7, [.ref _, .ref _, .ref _, .int _, .int _, .ref _, .int _, .int _, .ref _, .long _])), (_, .inl (_, _, .inl _)), (_, .inl (_, _, .inl _)), (_, .inl (_, _, .inl _)), (_, .inl (_, _, .inl _)), (_, .inl (_, _, .inl _))] rfl ?_
      refine sw_if_eq 83 111 C dX7_takesOrder_83 (by decide) (fun c_83 => ?_) (fun c_83 => ?_)
      · refine sw_iconst 111 C dX7_takesOrder_111 0 (by decide) ?_
        refine sw_istore_n 112 2 C dX7_takesOrder_112 rfl rfl ?_
        refine sw_iload_n 113 1 C dX7_takesOrder_113 rfl rfl ?_
        refine sw_bipush 114 C dX7_takesOrder_114 98 (by decide) ?_
        refine sw_icmp_ne 116 149 C dX7_takesOrder_116 (by decide) (fun c_116 => ?_) (fun c_116 => ?_)
        · exact by first | exact absurd c_116 (fun q => q hs) | exact absurd (fun q => q hs) c_116
        refine sw_iload_n 119 2 C dX7_takesOrder_119 rfl rfl ?_
        refine sw_if_eq 120 147 C dX7_takesOrder_120 (by decide) (fun c_120 => ?_) (fun c_120 => ?_)
        rotate_left
        · exact by first | exact absurd c_120 (rfl) | exact absurd (rfl) c_120
        refine sw_iconst 147 C dX7_takesOrder_147 0 (by decide) ?_
        refine sw_istore_n 148 2 C dX7_takesOrder_148 rfl rfl ?_
        refine sw_loc (L1 := [(0, .ref _), (1, .int _), (2, .int _)]) ?_ rfl
        refine sw_iload_n 149 1 C dX7_takesOrder_149 rfl rfl ?_
        refine sw_bipush 150 C dX7_takesOrder_150 116 (by decide) ?_
        refine sw_icmp_ne 152 164 C dX7_takesOrder_152 (by decide) (fun c_152 => ?_) (fun c_152 => ?_)
        rotate_left
        · exact by first | exact absurd c_152 (fun q => absurd (hs.symm.trans q) (by decide)) | exact absurd (fun q => absurd (hs.symm.trans q) (by decide)) c_152
        refine sw_iload_n 164 2 C dX7_takesOrder_164 rfl rfl ?_
        refine sw_if_eq 165 181 C dX7_takesOrder_165 (by decide) (fun c_165 => ?_) (fun c_165 => ?_)
        rotate_left
        · exact by first | exact absurd c_165 (rfl) | exact absurd (rfl) c_165
        refine sw_iconst 181 C dX7_takesOrder_181 0 (by decide) ?_
        refine sw_zret 182 C RC rfl dX7_takesOrder_182 ?_
        have he := ro_b2 hs (of_decide_eq_false (bI_f c_83))
        have hk := of_decide_eq_false (bI_f c_83)
        rw [he]
        exact ⟨by rw [decide_eq_false hk]; rfl, _, fun q => absurd q hk, rfl⟩
      · have h2 := of_decide_eq_true (bI_t c_83)
        rw [mat_ok h2, show nbD (rDg by_ ln 4 (rDg by_ ln 7 (p0 + 1, -1)).2) 1 (upd (upd nb 3 0) 0 (rDg by_ ln 7 (p0 + 1, -1)).1) = upd (upd (upd nb 3 0) 0 (rDg by_ ln 7 (p0 + 1, -1)).1) 1 (rDg by_ ln 4 (rDg by_ ln 7 (p0 + 1, -1)).2).1 from if_pos h2]
        refine sw_aload_n 86 0 C dX7_takesOrder_86 rfl rfl ?_
        refine sw_bipush 87 C dX7_takesOrder_87 44 (by decide) ?_
        refine sw_callVI 89 [0, 1, 2, 3, 4, 5] 1 C dX7_takesOrder_89 (ct_X7_takes l hT hln h2 (b_lt (bq2 by_ ln p0) hp100 (by decide)) (by decide)) wK_X7_takes wM_X7_140 wN_X7_takes wS_X7_X7_takes wI_X7 hd_X7_takes rfl rfl rfl ⟨rfl, rfl⟩ ⟨Nat.le_of_ble_eq_true rfl, Nat.le_of_ble_eq_true rfl⟩ rfl rfl rfl rfl rfl ?_
        refine sw_ws [(_, .inr (7, [.ref _, .ref _, .ref _, .int _, .int _, .ref _, .int _, .int _, .ref _, .long _])), (_, .inl (_, _, .inl _)), (_, .inl (_, _, .inl _)), (_, .inl (_, _, .inl _)), (_, .inl (_, _, .inl _)), (_, .inl (_, _, .inl _))] rfl ?_
        refine sw_if_eq 92 111 C dX7_takesOrder_92 (by decide) (fun c_92 => ?_) (fun c_92 => ?_)
        · refine sw_iconst 111 C dX7_takesOrder_111 0 (by decide) ?_
          refine sw_istore_n 112 2 C dX7_takesOrder_112 rfl rfl ?_
          refine sw_iload_n 113 1 C dX7_takesOrder_113 rfl rfl ?_
          refine sw_bipush 114 C dX7_takesOrder_114 98 (by decide) ?_
          refine sw_icmp_ne 116 149 C dX7_takesOrder_116 (by decide) (fun c_116 => ?_) (fun c_116 => ?_)
          · exact by first | exact absurd c_116 (fun q => q hs) | exact absurd (fun q => q hs) c_116
          refine sw_iload_n 119 2 C dX7_takesOrder_119 rfl rfl ?_
          refine sw_if_eq 120 147 C dX7_takesOrder_120 (by decide) (fun c_120 => ?_) (fun c_120 => ?_)
          rotate_left
          · exact by first | exact absurd c_120 (rfl) | exact absurd (rfl) c_120
          refine sw_iconst 147 C dX7_takesOrder_147 0 (by decide) ?_
          refine sw_istore_n 148 2 C dX7_takesOrder_148 rfl rfl ?_
          refine sw_loc (L1 := [(0, .ref _), (1, .int _), (2, .int _)]) ?_ rfl
          refine sw_iload_n 149 1 C dX7_takesOrder_149 rfl rfl ?_
          refine sw_bipush 150 C dX7_takesOrder_150 116 (by decide) ?_
          refine sw_icmp_ne 152 164 C dX7_takesOrder_152 (by decide) (fun c_152 => ?_) (fun c_152 => ?_)
          rotate_left
          · exact by first | exact absurd c_152 (fun q => absurd (hs.symm.trans q) (by decide)) | exact absurd (fun q => absurd (hs.symm.trans q) (by decide)) c_152
          refine sw_iload_n 164 2 C dX7_takesOrder_164 rfl rfl ?_
          refine sw_if_eq 165 181 C dX7_takesOrder_165 (by decide) (fun c_165 => ?_) (fun c_165 => ?_)
          rotate_left
          · exact by first | exact absurd c_165 (rfl) | exact absurd (rfl) c_165
          refine sw_iconst 181 C dX7_takesOrder_181 0 (by decide) ?_
          refine sw_zret 182 C RC rfl dX7_takesOrder_182 ?_
          have he := ro_b3 hs (of_decide_eq_false (bI_f c_92))
          have hk := of_decide_eq_false (bI_f c_92)
          rw [he]
          exact ⟨by rw [decide_eq_false hk]; rfl, _, fun q => absurd q hk, rfl⟩
        · have h3 := of_decide_eq_true (bI_t c_92)
          rw [mat_ok h3]
          refine sw_aload_n 95 0 C dX7_takesOrder_95 rfl rfl ?_
          refine sw_iconst 96 C dX7_takesOrder_96 2 (by decide) ?_
          refine sw_iconst 97 C dX7_takesOrder_97 3 (by decide) ?_
          refine sw_sipush 98 C dX7_takesOrder_98 200 (by decide) ?_
          refine sw_callVI 101 [0, 1, 2, 3, 4, 5] 3 C dX7_takesOrder_101 (ct_X7_takesNumber l hT hln h3 (b_lt (bq3 by_ ln p0) hp100 (by decide)) 2 3 rfl rfl (by decide) (by decide)) wK_X7_takesNumber wM_X7_143 wN_X7_takesNumber wS_X7_X7_takesNumber wI_X7 hd_X7_takesNumber rfl rfl rfl ⟨rfl, rfl⟩ ⟨Nat.le_of_ble_eq_true rfl, Nat.le_of_ble_eq_true rfl⟩ rfl rfl rfl rfl rfl ?_
          refine sw_ws [(_, .inr (7, [.ref _, .ref _, .ref _, .int _, .int _, .ref _, .int _, .int _, .ref _, .long _])), (_, .inl (_, _, .inl _)), (_, .inl (_, _, .inl _)), (_, .inl (_, _, .inl _)), (_, .inl (_, _, .inl _)), (_, .inl (_, _, .inl _))] rfl ?_
          refine sw_if_eq 104 111 C dX7_takesOrder_104 (by decide) (fun c_104 => ?_) (fun c_104 => ?_)
          · refine sw_iconst 111 C dX7_takesOrder_111 0 (by decide) ?_
            refine sw_istore_n 112 2 C dX7_takesOrder_112 rfl rfl ?_
            refine sw_iload_n 113 1 C dX7_takesOrder_113 rfl rfl ?_
            refine sw_bipush 114 C dX7_takesOrder_114 98 (by decide) ?_
            refine sw_icmp_ne 116 149 C dX7_takesOrder_116 (by decide) (fun c_116 => ?_) (fun c_116 => ?_)
            · exact by first | exact absurd c_116 (fun q => q hs) | exact absurd (fun q => q hs) c_116
            refine sw_iload_n 119 2 C dX7_takesOrder_119 rfl rfl ?_
            refine sw_if_eq 120 147 C dX7_takesOrder_120 (by decide) (fun c_120 => ?_) (fun c_120 => ?_)
            rotate_left
            · exact by first | exact absurd c_120 (rfl) | exact absurd (rfl) c_120
            refine sw_iconst 147 C dX7_takesOrder_147 0 (by decide) ?_
            refine sw_istore_n 148 2 C dX7_takesOrder_148 rfl rfl ?_
            refine sw_loc (L1 := [(0, .ref _), (1, .int _), (2, .int _)]) ?_ rfl
            refine sw_iload_n 149 1 C dX7_takesOrder_149 rfl rfl ?_
            refine sw_bipush 150 C dX7_takesOrder_150 116 (by decide) ?_
            refine sw_icmp_ne 152 164 C dX7_takesOrder_152 (by decide) (fun c_152 => ?_) (fun c_152 => ?_)
            rotate_left
            · exact by first | exact absurd c_152 (fun q => absurd (hs.symm.trans q) (by decide)) | exact absurd (fun q => absurd (hs.symm.trans q) (by decide)) c_152
            refine sw_iload_n 164 2 C dX7_takesOrder_164 rfl rfl ?_
            refine sw_if_eq 165 181 C dX7_takesOrder_165 (by decide) (fun c_165 => ?_) (fun c_165 => ?_)
            rotate_left
            · exact by first | exact absurd c_165 (rfl) | exact absurd (rfl) c_165
            refine sw_iconst 181 C dX7_takesOrder_181 0 (by decide) ?_
            refine sw_zret 182 C RC rfl dX7_takesOrder_182 ?_
            have he := ro_b4 hs (of_decide_eq_false (bI_f c_104))
            have hk := of_decide_eq_false (bI_f c_104)
            rw [he]
            exact ⟨by rw [decide_eq_false hk]; rfl, _, fun q => absurd q hk, rfl⟩
          · have h4 := of_decide_eq_true (bI_t c_104)
            rw [mat_ok h4, nbN_ok h4 (b_lt3 (bq3 by_ ln p0) hp100 (by decide))]
            refine sw_iconst 107 C dX7_takesOrder_107 1 (by decide) ?_
            refine sw_goto 108 112 C dX7_takesOrder_108 (by decide) ?_
            refine sw_istore_n 112 2 C dX7_takesOrder_112 rfl rfl ?_
            refine sw_iload_n 113 1 C dX7_takesOrder_113 rfl rfl ?_
            refine sw_bipush 114 C dX7_takesOrder_114 98 (by decide) ?_
            refine sw_icmp_ne 116 149 C dX7_takesOrder_116 (by decide) (fun c_116 => ?_) (fun c_116 => ?_)
            · exact by first | exact absurd c_116 (fun q => q hs) | exact absurd (fun q => q hs) c_116
            refine sw_iload_n 119 2 C dX7_takesOrder_119 rfl rfl ?_
            refine sw_if_eq 120 147 C dX7_takesOrder_120 (by decide) (fun c_120 => ?_) (fun c_120 => ?_)
            · exact by first | exact absurd c_120 (by decide) | exact absurd (by decide) c_120
            refine sw_aload_n 123 0 C dX7_takesOrder_123 rfl rfl ?_
            refine sw_bipush 124 C dX7_takesOrder_124 44 (by decide) ?_
            refine sw_callVI 126 [0, 1, 2, 3, 4, 5] 1 C dX7_takesOrder_126 (ct_X7_takes l hT hln h4 (b_lt (bq4 by_ ln p0) hp100 (by decide)) (by decide)) wK_X7_takes wM_X7_140 wN_X7_takes wS_X7_X7_takes wI_X7 hd_X7_takes rfl rfl rfl ⟨rfl, rfl⟩ ⟨Nat.le_of_ble_eq_true rfl, Nat.le_of_ble_eq_true rfl⟩ rfl rfl rfl rfl rfl ?_
            refine sw_ws [(_, .inr (7, [.ref _, .ref _, .ref _, .int _, .int _, .ref _, .int _, .int _, .ref _, .long _])), (_, .inl (_, _, .inl _)), (_, .inl (_, _, .inl _)), (_, .inl (_, _, .inl _)), (_, .inl (_, _, .inl _)), (_, .inl (_, _, .inl _))] rfl ?_
            refine sw_if_eq 129 147 C dX7_takesOrder_129 (by decide) (fun c_129 => ?_) (fun c_129 => ?_)
            · refine sw_iconst 147 C dX7_takesOrder_147 0 (by decide) ?_
              refine sw_istore_n 148 2 C dX7_takesOrder_148 rfl rfl ?_
              refine sw_iload_n 149 1 C dX7_takesOrder_149 rfl rfl ?_
              refine sw_bipush 150 C dX7_takesOrder_150 116 (by decide) ?_
              refine sw_icmp_ne 152 164 C dX7_takesOrder_152 (by decide) (fun c_152 => ?_) (fun c_152 => ?_)
              rotate_left
              · exact by first | exact absurd c_152 (fun q => absurd (hs.symm.trans q) (by decide)) | exact absurd (fun q => absurd (hs.symm.trans q) (by decide)) c_152
              refine sw_iload_n 164 2 C dX7_takesOrder_164 rfl rfl ?_
              refine sw_if_eq 165 181 C dX7_takesOrder_165 (by decide) (fun c_165 => ?_) (fun c_165 => ?_)
              rotate_left
              · exact by first | exact absurd c_165 (rfl) | exact absurd (rfl) c_165
              refine sw_iconst 181 C dX7_takesOrder_181 0 (by decide) ?_
              refine sw_zret 182 C RC rfl dX7_takesOrder_182 ?_
              have he := ro_b5 hs (of_decide_eq_false (bI_f c_129))
              have hk := of_decide_eq_false (bI_f c_129)
              rw [he]
              exact ⟨by rw [decide_eq_false hk]; rfl, _, fun q => absurd q hk, rfl⟩
            · have h5 := of_decide_eq_true (bI_t c_129)
              rw [mat_ok h5]
              refine sw_aload_n 132 0 C dX7_takesOrder_132 rfl rfl ?_
              refine sw_iconst 133 C dX7_takesOrder_133 3 (by decide) ?_
              refine sw_iconst 134 C dX7_takesOrder_134 3 (by decide) ?_
              refine sw_bipush 135 C dX7_takesOrder_135 100 (by decide) ?_
              refine sw_callVI 137 [0, 1, 2, 3, 4, 5] 3 C dX7_takesOrder_137 (ct_X7_takesNumber l hT hln h5 (b_lt (bq5 by_ ln p0) hp100 (by decide)) 3 3 rfl rfl (by decide) (by decide)) wK_X7_takesNumber wM_X7_143 wN_X7_takesNumber wS_X7_X7_takesNumber wI_X7 hd_X7_takesNumber rfl rfl rfl ⟨rfl, rfl⟩ ⟨Nat.le_of_ble_eq_true rfl, Nat.le_of_ble_eq_true rfl⟩ rfl rfl rfl rfl rfl ?_
              refine sw_ws [(_, .inr (7, [.ref _, .ref _, .ref _, .int _, .int _, .ref _, .int _, .int _, .ref _, .long _])), (_, .inl (_, _, .inl _)), (_, .inl (_, _, .inl _)), (_, .inl (_, _, .inl _)), (_, .inl (_, _, .inl _)), (_, .inl (_, _, .inl _))] rfl ?_
              refine sw_if_eq 140 147 C dX7_takesOrder_140 (by decide) (fun c_140 => ?_) (fun c_140 => ?_)
              · refine sw_iconst 147 C dX7_takesOrder_147 0 (by decide) ?_
                refine sw_istore_n 148 2 C dX7_takesOrder_148 rfl rfl ?_
                refine sw_iload_n 149 1 C dX7_takesOrder_149 rfl rfl ?_
                refine sw_bipush 150 C dX7_takesOrder_150 116 (by decide) ?_
                refine sw_icmp_ne 152 164 C dX7_takesOrder_152 (by decide) (fun c_152 => ?_) (fun c_152 => ?_)
                rotate_left
                · exact by first | exact absurd c_152 (fun q => absurd (hs.symm.trans q) (by decide)) | exact absurd (fun q => absurd (hs.symm.trans q) (by decide)) c_152
                refine sw_iload_n 164 2 C dX7_takesOrder_164 rfl rfl ?_
                refine sw_if_eq 165 181 C dX7_takesOrder_165 (by decide) (fun c_165 => ?_) (fun c_165 => ?_)
                rotate_left
                · exact by first | exact absurd c_165 (rfl) | exact absurd (rfl) c_165
                refine sw_iconst 181 C dX7_takesOrder_181 0 (by decide) ?_
                refine sw_zret 182 C RC rfl dX7_takesOrder_182 ?_
                have he := ro_b6 hs (of_decide_eq_false (bI_f c_140))
                have hk := of_decide_eq_false (bI_f c_140)
                rw [he]
                exact ⟨by rw [decide_eq_false hk]; rfl, _, fun q => absurd q hk, rfl⟩
              · have h6 := of_decide_eq_true (bI_t c_140)
                rw [mat_ok h6, nbN_ok h6 (b_lt3 (bq5 by_ ln p0) hp100 (by decide))]
                refine sw_iconst 143 C dX7_takesOrder_143 1 (by decide) ?_
                refine sw_goto 144 148 C dX7_takesOrder_144 (by decide) ?_
                refine sw_istore_n 148 2 C dX7_takesOrder_148 rfl rfl ?_
                refine sw_iload_n 149 1 C dX7_takesOrder_149 rfl rfl ?_
                refine sw_bipush 150 C dX7_takesOrder_150 116 (by decide) ?_
                refine sw_icmp_ne 152 164 C dX7_takesOrder_152 (by decide) (fun c_152 => ?_) (fun c_152 => ?_)
                rotate_left
                · exact by first | exact absurd c_152 (fun q => absurd (hs.symm.trans q) (by decide)) | exact absurd (fun q => absurd (hs.symm.trans q) (by decide)) c_152
                refine sw_iload_n 164 2 C dX7_takesOrder_164 rfl rfl ?_
                refine sw_if_eq 165 181 C dX7_takesOrder_165 (by decide) (fun c_165 => ?_) (fun c_165 => ?_)
                · exact by first | exact absurd c_165 (by decide) | exact absurd (by decide) c_165
                refine sw_aload_n 168 0 C dX7_takesOrder_168 rfl rfl ?_
                refine sw_bipush 169 C dX7_takesOrder_169 59 (by decide) ?_
                refine sw_callVI 171 [0, 1, 2, 3, 4, 5] 1 C dX7_takesOrder_171 (ct_X7_takes l hT hln h6 (b_lt (bq6 by_ ln p0) hp100 (by decide)) (by decide)) wK_X7_takes wM_X7_140 wN_X7_takes wS_X7_X7_takes wI_X7 hd_X7_takes rfl rfl rfl ⟨rfl, rfl⟩ ⟨Nat.le_of_ble_eq_true rfl, Nat.le_of_ble_eq_true rfl⟩ rfl rfl rfl rfl rfl ?_
                refine sw_ws [(_, .inr (7, [.ref _, .ref _, .ref _, .int _, .int _, .ref _, .int _, .int _, .ref _, .long _])), (_, .inl (_, _, .inl _)), (_, .inl (_, _, .inl _)), (_, .inl (_, _, .inl _)), (_, .inl (_, _, .inl _)), (_, .inl (_, _, .inl _))] rfl ?_
                refine sw_if_eq 174 181 C dX7_takesOrder_174 (by decide) (fun c_174 => ?_) (fun c_174 => ?_)
                · refine sw_iconst 181 C dX7_takesOrder_181 0 (by decide) ?_
                  refine sw_zret 182 C RC rfl dX7_takesOrder_182 ?_
                  have he := ro_b2f hs
                  have hk := of_decide_eq_false (bI_f c_174)
                  rw [he]
                  exact ⟨by rw [decide_eq_false hk]; rfl, _, fun q => absurd q hk, rfl⟩
                · refine sw_iconst 177 C dX7_takesOrder_177 1 (by decide) ?_
                  refine sw_goto 178 182 C dX7_takesOrder_178 (by decide) ?_
                  refine sw_zret 182 C RC rfl dX7_takesOrder_182 ?_
                  have he : (rOr by_ ln (p0, -1)).2 = _ := ro_b2f hs
                  have hk := of_decide_eq_true (bI_t c_174)
                  rw [he]
                  refine ⟨by rw [decide_eq_true hk]; rfl, _, fun _ => ?_, rfl⟩
                  refine ⟨fun _ => ?_, fun q => absurd ((show xg (rOr by_ ln (p0, -1)) = txa by_ ln p0 from rfl).symm.trans q) (by rw [hs]; decide)⟩
                  rw [ro_b hs]
                  refine ⟨?_, ?_, ?_, ?_⟩
                  · show upd _ _ _ _ = _
                    repeat (first | rw [upd_ne (by decide)] | rw [upd_at rfl])
                  · show upd _ _ _ _ = _
                    repeat (first | rw [upd_ne (by decide)] | rw [upd_at rfl])
                  · show upd _ _ _ _ = _
                    repeat (first | rw [upd_ne (by decide)] | rw [upd_at rfl])
                  · show upd _ _ _ _ = _
                    repeat (first | rw [upd_ne (by decide)] | rw [upd_at rfl])
  · refine sw_iload_n 10 1 C dX7_takesOrder_10 rfl rfl ?_
    refine sw_bipush 11 C dX7_takesOrder_11 115 (by decide) ?_
    refine sw_icmp_eq 13 36 C dX7_takesOrder_13 (by decide) (fun c_13 => ?_) (fun c_13 => ?_)
    · exact by first | exact absurd c_13 (fun q => absurd (hs.symm.trans q) (by decide)) | exact absurd (fun q => absurd (hs.symm.trans q) (by decide)) c_13
    refine sw_iload_n 16 1 C dX7_takesOrder_16 rfl rfl ?_
    refine sw_bipush 17 C dX7_takesOrder_17 112 (by decide) ?_
    refine sw_icmp_eq 19 36 C dX7_takesOrder_19 (by decide) (fun c_19 => ?_) (fun c_19 => ?_)
    · exact by first | exact absurd c_19 (fun q => absurd (hs.symm.trans q) (by decide)) | exact absurd (fun q => absurd (hs.symm.trans q) (by decide)) c_19
    refine sw_iload_n 22 1 C dX7_takesOrder_22 rfl rfl ?_
    refine sw_bipush 23 C dX7_takesOrder_23 98 (by decide) ?_
    refine sw_icmp_eq 25 36 C dX7_takesOrder_25 (by decide) (fun c_25 => ?_) (fun c_25 => ?_)
    · exact by first | exact absurd c_25 (fun q => absurd (hs.symm.trans q) (by decide)) | exact absurd (fun q => absurd (hs.symm.trans q) (by decide)) c_25
    refine sw_iload_n 28 1 C dX7_takesOrder_28 rfl rfl ?_
    refine sw_bipush 29 C dX7_takesOrder_29 116 (by decide) ?_
    refine sw_icmp_eq 31 36 C dX7_takesOrder_31 (by decide) (fun c_31 => ?_) (fun c_31 => ?_)
    rotate_left
    · exact by first | exact absurd c_31 (hs) | exact absurd (hs) c_31
    refine sw_aload_n 36 0 C dX7_takesOrder_36 rfl rfl ?_
    refine sw_dup 37 C dX7_takesOrder_37 rfl ?_
    refine sw_get 38 0 7 C dX7_takesOrder_38 rfl rfl (inA lwX7) (C.w wF_X7_131) rfl rfl rfl ?_
    refine sw_iconst 41 C dX7_takesOrder_41 1 (by decide) ?_
    refine sw_iadd 42 C dX7_takesOrder_42 ?_
    refine sw_top (nI_1 p0) ?_
    refine sw_put 43 0 7 tyX7 C dX7_takesOrder_43 rfl rfl (inA lwX7) tyX7_ok nmX7 (C.w wF_X7_131) rfl rfl rfl rfl rfl rfl rfl ?_
    refine sw_ws [(_, .inr (7, [.ref _, .ref _, .ref _, .int _, .int _, .ref _, .int _, .int _, .ref _, .long _])), (_, .inl (_, _, .inl _)), (_, .inl (_, _, .inl _)), (_, .inl (_, _, .inl _)), (_, .inl (_, _, .inl _)), (_, .inl (_, _, .inl _))] rfl ?_
    refine sw_iconst 46 C dX7_takesOrder_46 1 (by decide) ?_
    refine sw_istore_n 47 2 C dX7_takesOrder_47 rfl rfl ?_
    refine sw_aload_n 48 0 C dX7_takesOrder_48 rfl rfl ?_
    refine sw_get 49 0 8 C dX7_takesOrder_49 rfl rfl (inA lwX7) (C.w wF_X7_22) rfl rfl rfl ?_
    refine sw_iconst 52 C dX7_takesOrder_52 3 (by decide) ?_
    refine sw_iconst 53 C dX7_takesOrder_53 0 (by decide) ?_
    refine sw_iastN 54 5 0 (3) C dX7_takesOrder_54 rfl (by decide) rfl rfl rfl ?_
    refine sw_ws [(_, .inr (7, [.ref _, .ref _, .ref _, .int _, .int _, .ref _, .int _, .int _, .ref _, .long _])), (_, .inl (_, _, .inl _)), (_, .inl (_, _, .inl _)), (_, .inl (_, _, .inl _)), (_, .inl (_, _, .inl _)), (_, .inl (_, _, .inl _))] rfl ?_
    refine sw_iload_n 55 1 C dX7_takesOrder_55 rfl rfl ?_
    refine sw_bipush 56 C dX7_takesOrder_56 112 (by decide) ?_
    refine sw_icmp_eq 58 67 C dX7_takesOrder_58 (by decide) (fun c_58 => ?_) (fun c_58 => ?_)
    · exact by first | exact absurd c_58 (fun q => absurd (hs.symm.trans q) (by decide)) | exact absurd (fun q => absurd (hs.symm.trans q) (by decide)) c_58
    refine sw_iload_n 61 1 C dX7_takesOrder_61 rfl rfl ?_
    refine sw_bipush 62 C dX7_takesOrder_62 98 (by decide) ?_
    refine sw_icmp_ne 64 113 C dX7_takesOrder_64 (by decide) (fun c_64 => ?_) (fun c_64 => ?_)
    rotate_left
    · exact by first | exact absurd c_64 (fun q => absurd (hs.symm.trans q) (by decide)) | exact absurd (fun q => absurd (hs.symm.trans q) (by decide)) c_64
    refine sw_iload_n 113 1 C dX7_takesOrder_113 rfl rfl ?_
    refine sw_bipush 114 C dX7_takesOrder_114 98 (by decide) ?_
    refine sw_icmp_ne 116 149 C dX7_takesOrder_116 (by decide) (fun c_116 => ?_) (fun c_116 => ?_)
    rotate_left
    · exact by first | exact absurd c_116 (fun q => absurd (hs.symm.trans q) (by decide)) | exact absurd (fun q => absurd (hs.symm.trans q) (by decide)) c_116
    refine sw_iload_n 149 1 C dX7_takesOrder_149 rfl rfl ?_
    refine sw_bipush 150 C dX7_takesOrder_150 116 (by decide) ?_
    refine sw_icmp_ne 152 164 C dX7_takesOrder_152 (by decide) (fun c_152 => ?_) (fun c_152 => ?_)
    · exact by first | exact absurd c_152 (fun q => q hs) | exact absurd (fun q => q hs) c_152
    refine sw_aload_n 155 0 C dX7_takesOrder_155 rfl rfl ?_
    refine sw_iconst 156 C dX7_takesOrder_156 0 (by decide) ?_
    refine sw_iconst 157 C dX7_takesOrder_157 2 (by decide) ?_
    refine sw_bipush 158 C dX7_takesOrder_158 50 (by decide) ?_
    refine sw_callVI 160 [0, 1, 2, 3, 4, 5] 3 C dX7_takesOrder_160 (ct_X7_takesNumber l hT hln (Q := (p0 + 1, -1)) rfl (by show p0 + 1 < 900; omega) 0 2 rfl rfl (by decide) (by decide)) wK_X7_takesNumber wM_X7_143 wN_X7_takesNumber wS_X7_X7_takesNumber wI_X7 hd_X7_takesNumber rfl rfl rfl ⟨rfl, rfl⟩ ⟨Nat.le_of_ble_eq_true rfl, Nat.le_of_ble_eq_true rfl⟩ rfl rfl rfl rfl rfl ?_
    refine sw_ws [(_, .inr (7, [.ref _, .ref _, .ref _, .int _, .int _, .ref _, .int _, .int _, .ref _, .long _])), (_, .inl (_, _, .inl _)), (_, .inl (_, _, .inl _)), (_, .inl (_, _, .inl _)), (_, .inl (_, _, .inl _)), (_, .inl (_, _, .inl _))] rfl ?_
    refine sw_istore_n 163 2 C dX7_takesOrder_163 rfl rfl ?_
    refine sw_loc (L1 := [(0, .ref _), (1, .int _), (2, .int _)]) ?_ rfl
    refine sw_iload_n 164 2 C dX7_takesOrder_164 rfl rfl ?_
    refine sw_if_eq 165 181 C dX7_takesOrder_165 (by decide) (fun c_165 => ?_) (fun c_165 => ?_)
    · refine sw_iconst 181 C dX7_takesOrder_181 0 (by decide) ?_
      refine sw_zret 182 C RC rfl dX7_takesOrder_182 ?_
      have he := ro_t1 hs (of_decide_eq_false (bI_f c_165))
      have hk := of_decide_eq_false (bI_f c_165)
      rw [he]
      exact ⟨by rw [decide_eq_false hk]; rfl, _, fun q => absurd q hk, rfl⟩
    · have h7 := of_decide_eq_true (bI_t c_165)
      rw [mat_ok h7, nbN_ok h7 (by show p0 + 1 + 2 < 1000; omega)]
      refine sw_aload_n 168 0 C dX7_takesOrder_168 rfl rfl ?_
      refine sw_bipush 169 C dX7_takesOrder_169 59 (by decide) ?_
      refine sw_callVI 171 [0, 1, 2, 3, 4, 5] 1 C dX7_takesOrder_171 (ct_X7_takes l hT hln h7 (b_lt (bq7 by_ ln p0) hp100 (by decide)) (by decide)) wK_X7_takes wM_X7_140 wN_X7_takes wS_X7_X7_takes wI_X7 hd_X7_takes rfl rfl rfl ⟨rfl, rfl⟩ ⟨Nat.le_of_ble_eq_true rfl, Nat.le_of_ble_eq_true rfl⟩ rfl rfl rfl rfl rfl ?_
      refine sw_ws [(_, .inr (7, [.ref _, .ref _, .ref _, .int _, .int _, .ref _, .int _, .int _, .ref _, .long _])), (_, .inl (_, _, .inl _)), (_, .inl (_, _, .inl _)), (_, .inl (_, _, .inl _)), (_, .inl (_, _, .inl _)), (_, .inl (_, _, .inl _))] rfl ?_
      refine sw_if_eq 174 181 C dX7_takesOrder_174 (by decide) (fun c_174 => ?_) (fun c_174 => ?_)
      · refine sw_iconst 181 C dX7_takesOrder_181 0 (by decide) ?_
        refine sw_zret 182 C RC rfl dX7_takesOrder_182 ?_
        have he := ro_t2f hs
        have hk := of_decide_eq_false (bI_f c_174)
        rw [he]
        exact ⟨by rw [decide_eq_false hk]; rfl, _, fun q => absurd q hk, rfl⟩
      · refine sw_iconst 177 C dX7_takesOrder_177 1 (by decide) ?_
        refine sw_goto 178 182 C dX7_takesOrder_178 (by decide) ?_
        refine sw_zret 182 C RC rfl dX7_takesOrder_182 ?_
        have he : (rOr by_ ln (p0, -1)).2 = _ := ro_t2f hs
        have hk := of_decide_eq_true (bI_t c_174)
        rw [he]
        refine ⟨by rw [decide_eq_true hk]; rfl, _, fun _ => ?_, rfl⟩
        refine ⟨fun q => absurd (q.imp (show xg (rOr by_ ln (p0, -1)) = txa by_ ln p0 from rfl).symm.trans (show xg (rOr by_ ln (p0, -1)) = txa by_ ln p0 from rfl).symm.trans) (by rw [hs]; decide), fun _ => ?_⟩
        rw [ro_t hs]
        show upd _ _ _ _ = _
        repeat (first | rw [upd_ne (by decide)] | rw [upd_at rfl])
  · refine sw_iload_n 10 1 C dX7_takesOrder_10 rfl rfl ?_
    refine sw_bipush 11 C dX7_takesOrder_11 115 (by decide) ?_
    refine sw_icmp_eq 13 36 C dX7_takesOrder_13 (by decide) (fun c_13 => ?_) (fun c_13 => ?_)
    · exact by first | exact absurd c_13 (hs.1) | exact absurd (hs.1) c_13
    refine sw_iload_n 16 1 C dX7_takesOrder_16 rfl rfl ?_
    refine sw_bipush 17 C dX7_takesOrder_17 112 (by decide) ?_
    refine sw_icmp_eq 19 36 C dX7_takesOrder_19 (by decide) (fun c_19 => ?_) (fun c_19 => ?_)
    · exact by first | exact absurd c_19 (hs.2.1) | exact absurd (hs.2.1) c_19
    refine sw_iload_n 22 1 C dX7_takesOrder_22 rfl rfl ?_
    refine sw_bipush 23 C dX7_takesOrder_23 98 (by decide) ?_
    refine sw_icmp_eq 25 36 C dX7_takesOrder_25 (by decide) (fun c_25 => ?_) (fun c_25 => ?_)
    · exact by first | exact absurd c_25 (hs.2.2.1) | exact absurd (hs.2.2.1) c_25
    refine sw_iload_n 28 1 C dX7_takesOrder_28 rfl rfl ?_
    refine sw_bipush 29 C dX7_takesOrder_29 116 (by decide) ?_
    refine sw_icmp_eq 31 36 C dX7_takesOrder_31 (by decide) (fun c_31 => ?_) (fun c_31 => ?_)
    · exact by first | exact absurd c_31 (hs.2.2.2) | exact absurd (hs.2.2.2) c_31
    refine sw_iconst 34 C dX7_takesOrder_34 0 (by decide) ?_
    refine sw_zret 35 C RC rfl dX7_takesOrder_35 ?_
    have he := rOr_x (P := (p0, -1)) (by show p0 < 2 ^ 30; omega) hs.1 hs.2.1 hs.2.2.1 hs.2.2.2
    have hk : ¬ nI p0 = -1 := i32_ne_m1 (by omega)
    rw [he]
    exact ⟨by rw [decide_eq_false (p := nI p0 = -1) hk]; rfl, _, fun q => absurd q hk, by rw [mat_no (P := (p0 + 1, nI p0)) hk]⟩
theorem srv_pos {B T : Nat} {S : StT} (hO : mO B T S) (h0 : 0 < zn S) : 0 ≤ (srv S).1 ∧ ¬ (srv S).1 = -1 := by
  obtain ⟨j, hj⟩ := frs_some (f := zf S) h0
  rw [srv_lv hj]
  have := (hO.num.1 j (frs_lt _ _ _ hj)).1
  exact ⟨this, fun e => by
    have e : zf S (j * 8 + 7) = -1 := e
    rw [e] at this
    exact absurd this (by decide)⟩
theorem srv_0 {S : StT} (h : zn S = 0) : srv S = (-1, S) := srv_n (by rw [h]; rfl)
set_option maxHeartbeats 4000000 in
set_option maxRecDepth 100000 in
theorem ct_X7_does (l : Launch) {D : va_G} {cI cJ cQ : ClassId} {b0 b1 b2 b3 b4 b5 : Nat} {sa pa ad tx nb : Nat → Int32} {kp th ty ap : Int32} {hh : Int64} {S : StT} {B : Nat} (hE : mE S sa) (hO : mO B 100000 S) (hB : B < 2 ^ 30) {X : RS} (hg : xg X = 115 ∨ xg X = 112 ∨ xg X = 98 ∨ xg X = 116) (hnb : nbOK X nb) (ht : xg X = 116 → ∃ k : Nat, 1 ≤ k ∧ k ≤ 50 ∧ xt X = nI k) : Ct l yX7_does (Cond.code yX7_does cX7_does 2 (some .boolean)) 5 114 0 0 D (tyz cI cJ cQ) [.ref b0, .int (xg X)] [(b0, .inr (7, [.ref b1, .ref b2, .ref b3, .int (kp), .int (th), .ref b4, .int (ty), .int (ap), .ref b5, .long (hh)])), (b1, .inl (cI, 424, .inl (sa))), (b2, .inl (cI, 1696, .inl (pa))), (b3, .inl (cI, 424, .inl (ad))), (b4, .inl (cI, 100, .inl (tx))), (b5, .inl (cI, 4, .inl (nb)))] (pstE (bI (cdo X S).1) (mE (cdo X S).2) (fun f => [(b0, .inr (7, [.ref b1, .ref b2, .ref b3, .int (kp), .int (th), .ref b4, .int (ty), .int (ap), .ref b5, .long (hh)])), (b1, .inl (cI, 424, .inl (f))), (b2, .inl (cI, 1696, .inl (pa))), (b3, .inl (cI, 424, .inl (ad))), (b4, .inl (cI, 100, .inl (tx))), (b5, .inl (cI, 4, .inl (nb)))])) := by
  refine Ct.of RX7 (by decide) rfl (Nat.le_of_ble_eq_true rfl) ?_
  intro p e s m below meth c A C RC
  refine sw_iload_n 0 1 C dX7_does_0 rfl rfl ?_
  refine sw_bipush 1 C dX7_does_1 115 (by decide) ?_
  refine sw_icmp_ne 3 28 C dX7_does_3 (by decide) (fun c_3 => ?_) (fun c_3 => ?_)
  · refine sw_iload_n 28 1 C dX7_does_28 rfl rfl ?_
    refine sw_bipush 29 C dX7_does_29 116 (by decide) ?_
    refine sw_icmp_ne 31 71 C dX7_does_31 (by decide) (fun c_31 => ?_) (fun c_31 => ?_)
    · have hG := (show xg X = 98 ∨ xg X = 112 from hg.elim (fun q => absurd q c_3) (fun q => q.elim (fun q => Or.inr q) (fun q => q.elim (fun q => Or.inl q) (fun q => absurd q c_31))))
      obtain ⟨n0, n1, n2, n3⟩ := hnb.1 hG
      refine sw_aload_n 71 0 C dX7_does_71 rfl rfl ?_
      refine sw_aload_n 72 0 C dX7_does_72 rfl rfl ?_
      refine sw_get 73 0 8 C dX7_does_73 rfl rfl (inA lwX7) (C.w wF_X7_22) rfl rfl rfl ?_
      refine sw_iconst 76 C dX7_does_76 0 (by decide) ?_
      refine sw_ialdN 77 5 0 (0) C dX7_does_77 rfl (by decide) rfl rfl rfl ?_
      refine sw_top n0 ?_
      refine sw_iconst 78 C dX7_does_78 (-1) (by decide) ?_
      refine sw_callVIP 79 [0, 1, 2, 3, 4, 5] 2 C dX7_does_79 (ct_X7_isRoom l hE hO) wK_X7_isRoom wM_X7_87 wN_X7_isRoom wS_X7_X7_isRoom wI_X7 hd_X7_isRoom rfl rfl rfl ⟨rfl, rfl⟩ ⟨Nat.le_of_ble_eq_true rfl, Nat.le_of_ble_eq_true rfl⟩ rfl rfl rfl rfl ?_
      refine sw_if_eq 82 121 C dX7_does_82 (by decide) (fun c_82 => ?_) (fun c_82 => ?_)
      · refine sw_iconst 121 C dX7_does_121 0 (by decide) ?_
        refine sw_zret 122 C RC rfl dX7_does_122 ?_
        have hc := cdo_pn (S := S) hG (bI_f c_82)
        exact ⟨by rw [hc]; rfl, sa, by rw [hc]; exact hE, rfl⟩
      · refine sw_aload_n 85 0 C dX7_does_85 rfl rfl ?_
        refine sw_aload_n 86 0 C dX7_does_86 rfl rfl ?_
        refine sw_get 87 0 8 C dX7_does_87 rfl rfl (inA lwX7) (C.w wF_X7_22) rfl rfl rfl ?_
        refine sw_iconst 90 C dX7_does_90 0 (by decide) ?_
        refine sw_ialdN 91 5 0 (0) C dX7_does_91 rfl (by decide) rfl rfl rfl ?_
        refine sw_top n0 ?_
        refine sw_iconst 92 C dX7_does_92 (-1) (by decide) ?_
        refine sw_aload_n 93 0 C dX7_does_93 rfl rfl ?_
        refine sw_get 94 0 8 C dX7_does_94 rfl rfl (inA lwX7) (C.w wF_X7_22) rfl rfl rfl ?_
        refine sw_iconst 97 C dX7_does_97 1 (by decide) ?_
        refine sw_ialdN 98 5 0 (1) C dX7_does_98 rfl (by decide) rfl rfl rfl ?_
        refine sw_top n1 ?_
        refine sw_aload_n 99 0 C dX7_does_99 rfl rfl ?_
        refine sw_get 100 0 8 C dX7_does_100 rfl rfl (inA lwX7) (C.w wF_X7_22) rfl rfl rfl ?_
        refine sw_iconst 103 C dX7_does_103 2 (by decide) ?_
        refine sw_ialdN 104 5 0 (2) C dX7_does_104 rfl (by decide) rfl rfl rfl ?_
        refine sw_top n2 ?_
        refine sw_aload_n 105 0 C dX7_does_105 rfl rfl ?_
        refine sw_get 106 0 8 C dX7_does_106 rfl rfl (inA lwX7) (C.w wF_X7_22) rfl rfl rfl ?_
        refine sw_iconst 109 C dX7_does_109 3 (by decide) ?_
        refine sw_ialdN 110 5 0 (3) C dX7_does_110 rfl (by decide) rfl rfl rfl ?_
        refine sw_top n3 ?_
        refine sw_callVE 111 [0, 1, 2, 3, 4, 5] 5 C dX7_does_111 (ct_X7_comes l hE hO (hrf_lt (bI_t c_82))) wK_X7_comes wM_X7_90 wN_X7_comes wS_X7_X7_comes wI_X7 hd_X7_comes rfl rfl rfl ⟨rfl, rfl⟩ ⟨Nat.le_of_ble_eq_true rfl, Nat.le_of_ble_eq_true rfl⟩ rfl rfl rfl (fun _ => rfl) rfl (fun f1 h1 => ?_)
        refine sw_ws [(_, .inr (7, [.ref _, .ref _, .ref _, .int _, .int _, .ref _, .int _, .int _, .ref _, .long _])), (_, .inl (_, _, .inl _)), (_, .inl (_, _, .inl _)), (_, .inl (_, _, .inl _)), (_, .inl (_, _, .inl _)), (_, .inl (_, _, .inl _))] rfl ?_
        refine sw_if_lt 114 121 C dX7_does_114 (by decide) (fun c_114 => ?_) (fun c_114 => ?_)
        · exact by first | exact absurd c_114 (Int32.not_lt.mpr (by obtain ⟨z, z1, z2⟩ := hO.p; rw [z2]; exact nI_pos' (by omega))) | exact absurd (Int32.not_lt.mpr (by obtain ⟨z, z1, z2⟩ := hO.p; rw [z2]; exact nI_pos' (by omega))) c_114
        refine sw_iconst 117 C dX7_does_117 1 (by decide) ?_
        refine sw_goto 118 122 C dX7_does_118 (by decide) ?_
        refine sw_zret 122 C RC rfl dX7_does_122 ?_
        have hc := cdo_p (S := S) hG (bI_t c_82)
        exact ⟨by rw [hc]; rfl, f1, by rw [hc]; exact h1, rfl⟩
    · refine sw_aload_n 34 0 C dX7_does_34 rfl rfl ?_
      refine sw_get 35 0 0 C dX7_does_35 rfl rfl (inA lwX7) (C.w wF_X7_7) rfl rfl rfl ?_
      refine sw_iconst 38 C dX7_does_38 0 (by decide) ?_
      refine sw_ialdN 39 1 0 (0) C dX7_does_39 rfl (by decide) rfl rfl rfl ?_
      obtain ⟨k, k1, k2, k3⟩ := ht c_31
      obtain ⟨t, t1, t2⟩ := hO.t
      refine sw_top (hE.t.trans t2) ?_
      refine sw_aload_n 40 0 C dX7_does_40 rfl rfl ?_
      refine sw_get 41 0 8 C dX7_does_41 rfl rfl (inA lwX7) (C.w wF_X7_22) rfl rfl rfl ?_
      refine sw_iconst 44 C dX7_does_44 0 (by decide) ?_
      refine sw_ialdN 45 5 0 (0) C dX7_does_45 rfl (by decide) rfl rfl rfl ?_
      refine sw_top ((hnb.2 c_31).trans k3) ?_
      refine sw_iadd 46 C dX7_does_46 ?_
      refine sw_top (nI_add t k) ?_
      refine sw_ldc 47 C dX7_does_47 (C.w wQ_X7_106) ?_
      refine sw_icmp_gt 49 69 C dX7_does_49 (by decide) (fun c_49 => ?_) (fun c_49 => ?_)
      · refine sw_iconst 69 C dX7_does_69 0 (by decide) ?_
        refine sw_zret 70 C RC rfl dX7_does_70 ?_
        have hn : ¬ xt X ≤ 100000 - zt S := fun q => by
          rw [k3, t2, show (100000 : Int32) = nI 100000 from rfl, pk_sub t1] at q
          have q2 := nI_ge' (a := 100000 - t) (by omega) q (by omega)
          exact absurd (show nI 100000 < nI (t + k) from c_49) (nI_nlt (by omega) (by omega))
        have hc := cdo_tn (S := S) c_31 hn
        exact ⟨by rw [hc]; rfl, sa, by rw [hc]; exact hE, rfl⟩
      · refine sw_aload_n 52 0 C dX7_does_52 rfl rfl ?_
        refine sw_aload_n 53 0 C dX7_does_53 rfl rfl ?_
        refine sw_get 54 0 8 C dX7_does_54 rfl rfl (inA lwX7) (C.w wF_X7_22) rfl rfl rfl ?_
        refine sw_iconst 57 C dX7_does_57 0 (by decide) ?_
        refine sw_ialdN 58 5 0 (0) C dX7_does_58 rfl (by decide) rfl rfl rfl ?_
        refine sw_top ((hnb.2 c_31).trans k3) ?_
        refine sw_callVE 59 [0, 1, 2, 3, 4, 5] 1 C dX7_does_59 (ct_X7_ticks l hE hO k rfl (by omega)) wK_X7_ticks wM_X7_107 wN_X7_ticks wS_X7_X7_ticks wI_X7 hd_X7_ticks rfl rfl rfl ⟨rfl, rfl⟩ ⟨Nat.le_of_ble_eq_true rfl, Nat.le_of_ble_eq_true rfl⟩ rfl rfl rfl (fun _ => rfl) rfl (fun f1 h1 => ?_)
        refine sw_ws [(_, .inr (7, [.ref _, .ref _, .ref _, .int _, .int _, .ref _, .int _, .int _, .ref _, .long _])), (_, .inl (_, _, .inl _)), (_, .inl (_, _, .inl _)), (_, .inl (_, _, .inl _)), (_, .inl (_, _, .inl _)), (_, .inl (_, _, .inl _))] rfl ?_
        refine sw_if_lt 62 69 C dX7_does_62 (by decide) (fun c_62 => ?_) (fun c_62 => ?_)
        · exact by first | exact absurd c_62 (nI_pos (by have := tps_le hO.si k; omega)) | exact absurd (nI_pos (by have := tps_le hO.si k; omega)) c_62
        refine sw_iconst 65 C dX7_does_65 1 (by decide) ?_
        refine sw_goto 66 70 C dX7_does_66 (by decide) ?_
        refine sw_zret 70 C RC rfl dX7_does_70 ?_
        have hy : xt X ≤ 100000 - zt S := by
          rw [k3, t2, show (100000 : Int32) = nI 100000 from rfl, pk_sub t1]
          exact nI_le (by
            rcases Nat.lt_or_ge 100000 (t + k) with z | z
            · exact absurd (show nI 100000 < nI (t + k) from nI_lt z (by omega)) c_49
            · omega) (by omega)
        have hc := cdo_t (S := S) c_31 hy
        exact ⟨by rw [hc]; rfl, f1, by rw [hc, k3, nI_clamp (by omega)]; exact h1, rfl⟩
  · refine sw_aload_n 6 0 C dX7_does_6 rfl rfl ?_
    refine sw_get 7 0 0 C dX7_does_7 rfl rfl (inA lwX7) (C.w wF_X7_7) rfl rfl rfl ?_
    refine sw_iconst 10 C dX7_does_10 1 (by decide) ?_
    refine sw_ialdN 11 1 0 (1) C dX7_does_11 rfl (by decide) rfl rfl rfl ?_
    refine sw_top (hE.n) ?_
    refine sw_if_le 12 26 C dX7_does_12 (by decide) (fun c_12 => ?_) (fun c_12 => ?_)
    · refine sw_iconst 26 C dX7_does_26 0 (by decide) ?_
      refine sw_zret 27 C RC rfl dX7_does_27 ?_
      have hz : zn S = 0 := by
        rcases Nat.eq_zero_or_pos (zn S) with z | z
        · exact z
        · exact absurd c_12 (nI_nle z (by have := hO.n; omega))
      have hc := cdo_s (S := S) c_3
      exact ⟨by rw [hc, srv_0 hz]; rfl, sa, by rw [hc, srv_0 hz]; exact hE, rfl⟩
    · have h0 : 0 < zn S := Nat.pos_of_ne_zero (fun e => c_12 (by rw [e]; decide))
      refine sw_aload_n 15 0 C dX7_does_15 rfl rfl ?_
      refine sw_callVE 16 [0, 1, 2, 3, 4, 5] 0 C dX7_does_16 (ct_X7_servesFirst l hE hO h0) wK_X7_servesFirst wM_X7_103 wN_X7_servesFirst wS_X7_X7_servesFirst wI_X7 hd_X7_servesFirst rfl rfl rfl ⟨rfl, rfl⟩ ⟨Nat.le_of_ble_eq_true rfl, Nat.le_of_ble_eq_true rfl⟩ rfl rfl rfl (fun _ => rfl) rfl (fun f1 h1 => ?_)
      refine sw_ws [(_, .inr (7, [.ref _, .ref _, .ref _, .int _, .int _, .ref _, .int _, .int _, .ref _, .long _])), (_, .inl (_, _, .inl _)), (_, .inl (_, _, .inl _)), (_, .inl (_, _, .inl _)), (_, .inl (_, _, .inl _)), (_, .inl (_, _, .inl _))] rfl ?_
      refine sw_if_lt 19 26 C dX7_does_19 (by decide) (fun c_19 => ?_) (fun c_19 => ?_)
      · exact by first | exact absurd c_19 (Int32.not_lt.mpr (srv_pos hO h0).1) | exact absurd (Int32.not_lt.mpr (srv_pos hO h0).1) c_19
      refine sw_iconst 22 C dX7_does_22 1 (by decide) ?_
      refine sw_goto 23 27 C dX7_does_23 (by decide) ?_
      refine sw_zret 27 C RC rfl dX7_does_27 ?_
      have hc := cdo_s (S := S) c_3
      exact ⟨by rw [hc, decide_eq_false (srv_pos hO h0).2]; rfl, f1, by rw [hc]; exact h1, rfl⟩
