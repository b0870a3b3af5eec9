set_option maxHeartbeats 4000000 in
set_option maxRecDepth 100000 in
theorem frs_a {f : Nat → Int32} {i : Nat} (h : oI (frs f i) = -1) (hi : i ≤ 40) : nI i = oI (frs f (i + 1)) := by
  unfold frs
  cases hq : frs f i with
  | none => rfl
  | some j =>
    rw [hq] at h
    exact absurd h (i32_ne_m1 (by have := frs_lt f i j hq; omega))
theorem frs_b {f : Nat → Int32} {i j : Nat} (h : frs f i = some j) (hb : bfr f i j = false) : oI (frs f i) = oI (frs f (i + 1)) := by
  conv => rhs; unfold frs
  rw [h]
  dsimp only
  rw [if_neg (by rw [hb]; decide)]
theorem frs_c {f : Nat → Int32} {i j : Nat} (h : frs f i = some j) (hb : bfr f i j = true) : nI i = oI (frs f (i + 1)) := by
  conv => rhs; unfold frs
  rw [h]
  dsimp only
  rw [if_pos hb]
  rfl
set_option maxHeartbeats 4000000 in
set_option maxRecDepth 100000 in
theorem lp_X2_firstRow {l : Launch} {p : Program} {e : Env} {s : State} {m : MethodId} {args : Array Value} {below : List Frame} {meth : Method} {c : Code} {A : Nat → Prop} {D : va_G} {cI cJ cQ : ClassId} {a0 a1 n : Nat} {f : Nat → Int32} (hn : n ≤ 40) (C : CC p s m args c cX2_firstRow 3 RX2 (Cond.code yX2_firstRow cX2_firstRow 3 (some .int) :: lw_all) D (tyz cI cJ cQ) A s.heap) (RC : meth.sig.returnType = (some .int) ∧ meth.locks = false ∧ meth.name = yX2_firstRow.name) : ∀ (fu i : Nat), i ≤ n → n + 1 ≤ i + fu →  ∀ (xa : Int32) (xi : Int32), (xa = oI (frs f i)) → (xi = nI i) →  sw p l e ({ frames := 2, cells := 0, slots := 0, locals := 49 } : Room) s m args below meth c D A s.heap 3 0 0 (MQ below (ctQ D (tyz cI cJ cQ) A (pstI (oI (frs f n)) (wPet a0 a1 cI n f))) args s 0 0 A) (wPet a0 a1 cI n f) 4 [(0, .ref a0), (1, .int xa), (2, .int xi)] [] := by
  intro fu
  induction fu with
  | zero => intro i h1 h2; exact absurd h2 (by omega)
  | succ fu ih =>
    intro i hi hf  xa xi exa exi
    subst exa exi
    refine sw_iload_n 4 2 C dX2_firstRow_4 rfl rfl ?_
    refine sw_aload_n 5 0 C dX2_firstRow_5 rfl rfl ?_
    refine sw_get 6 0 0 C dX2_firstRow_6 rfl rfl (inA lwX2) (C.w wF_X2_15) rfl rfl rfl ?_
    refine sw_icmp_ge 9 34 C dX2_firstRow_9 (by decide) (fun c_9 => ?_) (fun c_9 => ?_)
    · refine sw_iload_n 34 1 C dX2_firstRow_34 rfl rfl ?_
      refine sw_iret 35 C RC dX2_firstRow_35 ?_
      exact ⟨by rw [show i = n by have := nI_ge' (by omega) c_9 (by omega); omega], rfl⟩
    · have hlt : i < n := by
        rcases Nat.lt_or_ge i n with q | q
        · exact q
        · exact absurd (nI_le q (by omega)) c_9
      refine sw_iload_n 12 1 C dX2_firstRow_12 rfl rfl ?_
      refine sw_iconst 13 C dX2_firstRow_13 (-1) (by decide) ?_
      refine sw_icmp_eq 14 26 C dX2_firstRow_14 (by decide) (fun c_14 => ?_) (fun c_14 => ?_)
      · refine sw_iload_n 26 2 C dX2_firstRow_26 rfl rfl ?_
        refine sw_istore_n 27 1 C dX2_firstRow_27 rfl rfl ?_
        refine sw_iinc 28 C 1 dX2_firstRow_28 (by decide) rfl rfl ?_
        refine sw_loc (L1 := [(0, .ref _), (1, .int _), (2, .int _)]) ?_ rfl
        refine sw_goto 31 4 C dX2_firstRow_31 (by decide) ?_
        exact sw_loc (ih (i + 1) (by omega) (by omega) _ _ (frs_a c_14 (by omega)) (nI_1 i)) rfl
      · obtain ⟨j, hj⟩ : ∃ j, frs f i = some j := by
          cases hq : frs f i with
          | none => rw [hq] at c_14; exact absurd rfl c_14
          | some j => exact ⟨j, rfl⟩
        have hji : j < i := frs_lt f i j hj
        refine sw_aload_n 17 0 C dX2_firstRow_17 rfl rfl ?_
        refine sw_iload_n 18 2 C dX2_firstRow_18 rfl rfl ?_
        refine sw_iload_n 19 1 C dX2_firstRow_19 rfl rfl ?_
        refine sw_callVIP 20 [0, 1] 2 C dX2_firstRow_20 (ct_X2_isBefore l i j rfl (by rw [hj]; rfl) (by omega) (by omega) (by omega)) wK_X2_isBefore wM_X2_40 wN_X2_isBefore wS_X2_X2_isBefore wI_X2 hd_X2_isBefore rfl rfl rfl ⟨rfl, rfl⟩ ⟨Nat.le_of_ble_eq_true rfl, Nat.le_of_ble_eq_true rfl⟩ rfl rfl rfl rfl ?_
        refine sw_if_eq 23 28 C dX2_firstRow_23 (by decide) (fun c_23 => ?_) (fun c_23 => ?_)
        · refine sw_iinc 28 C 1 dX2_firstRow_28 (by decide) rfl rfl ?_
          refine sw_goto 31 4 C dX2_firstRow_31 (by decide) ?_
          exact sw_loc (ih (i + 1) (by omega) (by omega) _ _ (frs_b hj (bI_f c_23)) (nI_1 i)) rfl
        · refine sw_iload_n 26 2 C dX2_firstRow_26 rfl rfl ?_
          refine sw_istore_n 27 1 C dX2_firstRow_27 rfl rfl ?_
          refine sw_iinc 28 C 1 dX2_firstRow_28 (by decide) rfl rfl ?_
          refine sw_loc (L1 := [(0, .ref _), (1, .int _), (2, .int _)]) ?_ rfl
          refine sw_goto 31 4 C dX2_firstRow_31 (by decide) ?_
          exact sw_loc (ih (i + 1) (by omega) (by omega) _ _ (frs_c hj (bI_t c_23)) (nI_1 i)) rfl
set_option maxHeartbeats 4000000 in
set_option maxRecDepth 100000 in
theorem ct_X2_firstRow (l : Launch) {D : va_G} {cI cJ cQ : ClassId} {a0 a1 n : Nat} {f : Nat → Int32} (hn : n ≤ 40) : Ct l yX2_firstRow (Cond.code yX2_firstRow cX2_firstRow 3 (some .int)) 2 49 0 0 D (tyz cI cJ cQ) [.ref a0] (wPet a0 a1 cI n f) (pstI (oI (frs f n)) (wPet a0 a1 cI n f)) := by
  refine Ct.of RX2 (by decide) rfl (Nat.le_of_ble_eq_true rfl) ?_
  intro p e s m below meth c A C RC
  refine sw_iconst 0 C dX2_firstRow_0 (-1) (by decide) ?_
  refine sw_istore_n 1 1 C dX2_firstRow_1 rfl rfl ?_
  refine sw_iconst 2 C dX2_firstRow_2 0 (by decide) ?_
  refine sw_istore_n 3 2 C dX2_firstRow_3 rfl rfl ?_
  exact lp_X2_firstRow hn C RC (n + 1) 0 (Nat.zero_le _) (by omega) _ _ rfl rfl
set_option maxHeartbeats 4000000 in
set_option maxRecDepth 100000 in
theorem ct_X2_tell (l : Launch) {D : va_G} {cI cJ cQ : ClassId} {a0 a1 n : Nat} {f : Nat → Int32} {x1 x2 : Int32} (i w : Nat) (h1 : x1 = nI i) (h2 : x2 = nI w) (hi : i < n) (hw : w ≤ 9) (hn : n ≤ 40) : Ct l yX2_tell (Cond.code yX2_tell cX2_tell 3 (some .int)) 3 72 0 0 D (tyz cI cJ cQ) [.ref a0, .int x1, .int x2] (wPet a0 a1 cI n f) (pstI (tel f n i w) (wPet a0 a1 cI n f)) := by
  refine Ct.of RX2 (by decide) rfl (Nat.le_of_ble_eq_true rfl) ?_
  intro p e s m below meth c A C RC
  subst h1 h2
  refine sw_iload_n 0 2 C dX2_tell_0 rfl rfl ?_
  by_cases e_1_7 : w = 7
  · refine sw_tblIn 1 28 C 0 dX2_tell_1 (by rw [e_1_7]; decide) (by decide) rfl (by decide) ?_
    refine sw_aload_n 28 0 C dX2_tell_28 rfl rfl ?_
    refine sw_iload_n 29 1 C dX2_tell_29 rfl rfl ?_
    refine sw_iconst 30 C dX2_tell_30 5 (by decide) ?_
    refine sw_callVIP 31 [0, 1] 2 C dX2_tell_31 (ct_X2_at l (i) 5 rfl rfl (by omega) (by decide) (by omega)) wK_X2_at wM_X2_29 wN_X2_at wS_X2_X2_at wI_X2 hd_X2_at rfl rfl rfl ⟨rfl, rfl⟩ ⟨Nat.le_of_ble_eq_true rfl, Nat.le_of_ble_eq_true rfl⟩ rfl rfl rfl rfl ?_
    refine sw_aload_n 34 0 C dX2_tell_34 rfl rfl ?_
    refine sw_iload_n 35 1 C dX2_tell_35 rfl rfl ?_
    refine sw_iconst 36 C dX2_tell_36 3 (by decide) ?_
    refine sw_callVIP 37 [0, 1] 2 C dX2_tell_37 (ct_X2_at l (i) 3 rfl rfl (by omega) (by decide) (by omega)) wK_X2_at wM_X2_29 wN_X2_at wS_X2_X2_at wI_X2 hd_X2_at rfl rfl rfl ⟨rfl, rfl⟩ ⟨Nat.le_of_ble_eq_true rfl, Nat.le_of_ble_eq_true rfl⟩ rfl rfl rfl rfl ?_
    refine sw_isub 40 C dX2_tell_40 ?_
    refine sw_iret 41 C RC dX2_tell_41 ?_
    exact ⟨by simp [tel, e_1_7], rfl⟩
  by_cases e_1_8 : w = 8
  · refine sw_tblIn 1 42 C 1 dX2_tell_1 (by rw [e_1_8]; decide) (by decide) rfl (by decide) ?_
    refine sw_aload_n 42 0 C dX2_tell_42 rfl rfl ?_
    refine sw_iload_n 43 1 C dX2_tell_43 rfl rfl ?_
    refine sw_callVIP 44 [0, 1] 1 C dX2_tell_44 (ct_X2_countBefore l i rfl hi hn) wK_X2_countBefore wM_X2_33 wN_X2_countBefore wS_X2_X2_countBefore wI_X2 hd_X2_countBefore rfl rfl rfl ⟨rfl, rfl⟩ ⟨Nat.le_of_ble_eq_true rfl, Nat.le_of_ble_eq_true rfl⟩ rfl rfl rfl rfl ?_
    refine sw_iret 47 C RC dX2_tell_47 ?_
    exact ⟨by simp [tel, e_1_8], rfl⟩
  by_cases e_1_9 : w = 9
  · refine sw_tblIn 1 48 C 2 dX2_tell_1 (by rw [e_1_9]; decide) (by decide) rfl (by decide) ?_
    refine sw_aload_n 48 0 C dX2_tell_48 rfl rfl ?_
    refine sw_iload_n 49 1 C dX2_tell_49 rfl rfl ?_
    refine sw_callVIP 50 [0, 1] 1 C dX2_tell_50 (ct_X2_kindOf l i rfl hi hn) wK_X2_kindOf wM_X2_37 wN_X2_kindOf wS_X2_X2_kindOf wI_X2 hd_X2_kindOf rfl rfl rfl ⟨rfl, rfl⟩ ⟨Nat.le_of_ble_eq_true rfl, Nat.le_of_ble_eq_true rfl⟩ rfl rfl rfl rfl ?_
    refine sw_iret 53 C RC dX2_tell_53 ?_
    exact ⟨by simp [tel, e_1_9], rfl⟩
  refine sw_tblOut 1 54 C dX2_tell_1 (by rw [nI_toInt (by omega)]; omega) (by decide) ?_
  refine sw_aload_n 54 0 C dX2_tell_54 rfl rfl ?_
  refine sw_iload_n 55 1 C dX2_tell_55 rfl rfl ?_
  refine sw_iload_n 56 2 C dX2_tell_56 rfl rfl ?_
  refine sw_callVIP 57 [0, 1] 2 C dX2_tell_57 (ct_X2_at l i w rfl rfl hi (by omega) hn) wK_X2_at wM_X2_29 wN_X2_at wS_X2_X2_at wI_X2 hd_X2_at rfl rfl rfl ⟨rfl, rfl⟩ ⟨Nat.le_of_ble_eq_true rfl, Nat.le_of_ble_eq_true rfl⟩ rfl rfl rfl rfl ?_
  refine sw_iret 60 C RC dX2_tell_60 ?_
  exact ⟨by simp [tel, e_1_7, e_1_8, e_1_9], rfl⟩
set_option maxHeartbeats 4000000 in
set_option maxRecDepth 100000 in
theorem lp_X2_arrange {l : Launch} {p : Program} {e : Env} {s : State} {m : MethodId} {args : Array Value} {below : List Frame} {meth : Method} {c : Code} {A : Nat → Prop} {D : va_G} {cI cJ cQ : ClassId} {a0 a1 a2 n : Nat} {f g : Nat → Int32} (hn : n ≤ 40) (C : CC p s m args c cX2_arrange 4 RX2 (Cond.code yX2_arrange cX2_arrange 4 none :: lw_all) D (tyz cI cJ cQ) A s.heap) (RC : meth.sig.returnType = none ∧ meth.locks = false ∧ meth.name = yX2_arrange.name) : ∀ (fu i : Nat), i ≤ n → n + 1 ≤ i + fu →  ∀ (xi : Int32), (xi = nI i) →  sw p l e ({ frames := 3, cells := 0, slots := 0, locals := 72 } : Room) s m args below meth c D A s.heap 4 0 0 (MQ below (ctQ D (tyz cI cJ cQ) A (pstV [(a0, .inr (2, [.int (nI n), .ref a1])), (a1, .inl (cI, 320, .inl f)), (a2, .inl (cI, 40, .inl (arrg f n g n)))])) args s 0 0 A) [(a0, .inr (2, [.int (nI n), .ref a1])), (a1, .inl (cI, 320, .inl f)), (a2, .inl (cI, 40, .inl (arrg f n g i)))] 2 [(0, .ref a0), (1, .ref a2), (2, .int xi)] [] := by
  intro fu
  induction fu with
  | zero => intro i h1 h2; exact absurd h2 (by omega)
  | succ fu ih =>
    intro i hi hf  xi exi
    subst exi
    refine sw_iload_n 2 2 C dX2_arrange_2 rfl rfl ?_
    refine sw_aload_n 3 0 C dX2_arrange_3 rfl rfl ?_
    refine sw_get 4 0 0 C dX2_arrange_4 rfl rfl (inA lwX2) (C.w wF_X2_15) rfl rfl rfl ?_
    refine sw_icmp_ge 7 36 C dX2_arrange_7 (by decide) (fun c_7 => ?_) (fun c_7 => ?_)
    · refine sw_vret 36 C RC dX2_arrange_36 ?_
      exact ⟨rfl, by rw [show i = n by have := nI_ge' (by omega) c_7 (by omega); omega]⟩
    · have hlt : i < n := by
        rcases Nat.lt_or_ge i n with q | q
        · exact q
        · exact absurd (nI_le q (by omega)) c_7
      refine sw_aload_n 10 0 C dX2_arrange_10 rfl rfl ?_
      refine sw_iload_n 11 2 C dX2_arrange_11 rfl rfl ?_
      refine sw_callVIP 12 [0, 1] 1 C dX2_arrange_12 (ct_X2_countBefore l i rfl hlt hn) wK_X2_countBefore wM_X2_33 wN_X2_countBefore wS_X2_X2_countBefore wI_X2 hd_X2_countBefore rfl rfl rfl ⟨rfl, rfl⟩ ⟨Nat.le_of_ble_eq_true rfl, Nat.le_of_ble_eq_true rfl⟩ rfl rfl rfl rfl ?_
      refine sw_istore_n 15 3 C dX2_arrange_15 rfl rfl ?_
      refine sw_iload_n 16 3 C dX2_arrange_16 rfl rfl ?_
      refine sw_if_lt 17 30 C dX2_arrange_17 (by decide) (fun c_17 => ?_) (fun c_17 => ?_)
      · exact by first | exact absurd c_17 (nI_pos (Nat.lt_trans (Nat.lt_of_lt_of_le (cbf_lt hlt) hn) (by decide))) | exact absurd (nI_pos (Nat.lt_trans (Nat.lt_of_lt_of_le (cbf_lt hlt) hn) (by decide))) c_17
      refine sw_iload_n 20 3 C dX2_arrange_20 rfl rfl ?_
      refine sw_aload_n 21 1 C dX2_arrange_21 rfl rfl ?_
      refine sw_alen 22 2 0 C 40 dX2_arrange_22 rfl rfl rfl ?_
      refine sw_icmp_ge 23 30 C dX2_arrange_23 (by decide) (fun c_23 => ?_) (fun c_23 => ?_)
      · exact by first | exact absurd c_23 (nI_ge (Nat.lt_of_lt_of_le (cbf_lt hlt) hn) (by decide)) | exact absurd (nI_ge (Nat.lt_of_lt_of_le (cbf_lt hlt) hn) (by decide)) c_23
      refine sw_aload_n 26 1 C dX2_arrange_26 rfl rfl ?_
      refine sw_iload_n 27 3 C dX2_arrange_27 rfl rfl ?_
      refine sw_iload_n 28 2 C dX2_arrange_28 rfl rfl ?_
      refine sw_iastN 29 2 0 (cbf f n i) C dX2_arrange_29 rfl (Nat.lt_of_lt_of_le (cbf_lt hlt) hn) rfl rfl rfl ?_
      refine sw_ws [(_, .inr (2, [.int _, .ref _])), (_, .inl (_, _, .inl _)), (_, .inl (_, _, .inl _))] rfl ?_
      refine sw_iinc 30 C 1 dX2_arrange_30 (by decide) rfl rfl ?_
      refine sw_loc (L1 := [(0, .ref _), (1, .ref _), (2, .int _), (3, .int _)]) ?_ rfl
      refine sw_goto 33 2 C dX2_arrange_33 (by decide) ?_
      exact sw_loc (ih (i + 1) (by omega) (by omega) _ (nI_1 i)) rfl
set_option maxHeartbeats 4000000 in
set_option maxRecDepth 100000 in
theorem ct_X2_arrange (l : Launch) {D : va_G} {cI cJ cQ : ClassId} {a0 a1 a2 n : Nat} {f g : Nat → Int32} (hn : n ≤ 40) : Ct l yX2_arrange (Cond.code yX2_arrange cX2_arrange 4 none) 3 72 0 0 D (tyz cI cJ cQ) [.ref a0, .ref a2] [(a0, .inr (2, [.int (nI n), .ref a1])), (a1, .inl (cI, 320, .inl f)), (a2, .inl (cI, 40, .inl (g)))] (pstV [(a0, .inr (2, [.int (nI n), .ref a1])), (a1, .inl (cI, 320, .inl f)), (a2, .inl (cI, 40, .inl (arrg f n g n)))]) := by
  refine Ct.of RX2 (by decide) rfl (Nat.le_of_ble_eq_true rfl) ?_
  intro p e s m below meth c A C RC
  refine sw_iconst 0 C dX2_arrange_0 0 (by decide) ?_
  refine sw_istore_n 1 2 C dX2_arrange_1 rfl rfl ?_
  exact lp_X2_arrange hn C RC (n + 1) 0 (Nat.zero_le _) (by omega) _ rfl
theorem fnd_no {f : Nat → Int32} {x : Int32} {i : Nat} (h : fnd f x i = none) (hc : ¬ f (i * 8 + 7) = x) : fnd f x (i + 1) = none := by
  unfold fnd
  rw [h]
  exact if_neg hc
theorem fnd_yes {f : Nat → Int32} {x : Int32} {i n : Nat} (h : fnd f x i = none) (hc : f (i * 8 + 7) = x) (hn : i < n) : fnd f x n = some i := by
  have e : fnd f x (i + 1) = some i := by
    unfold fnd
    rw [h]
    exact if_pos hc
  have := fnd_up e (n - (i + 1))
  rwa [show i + 1 + (n - (i + 1)) = n by omega] at this
set_option maxHeartbeats 4000000 in
set_option maxRecDepth 100000 in
theorem lp_X2_rowOf {l : Launch} {p : Program} {e : Env} {s : State} {m : MethodId} {args : Array Value} {below : List Frame} {meth : Method} {c : Code} {A : Nat → Prop} {D : va_G} {cI cJ cQ : ClassId} {a0 a1 n : Nat} {f : Nat → Int32} {x : Int32} (hn : n ≤ 40) (C : CC p s m args c cX2_rowOf 3 RX2 (Cond.code yX2_rowOf cX2_rowOf 3 (some .int) :: lw_all) D (tyz cI cJ cQ) A s.heap) (RC : meth.sig.returnType = (some .int) ∧ meth.locks = false ∧ meth.name = yX2_rowOf.name) : ∀ (fu i : Nat), i ≤ n → n + 1 ≤ i + fu → fnd f x i = none → ∀ (xi : Int32), (xi = nI i) →  sw p l e ({ frames := 1, cells := 0, slots := 0, locals := 23 } : Room) s m args below meth c D A s.heap 3 0 0 (MQ below (ctQ D (tyz cI cJ cQ) A (pstI (oI (fnd f x n)) (wPet a0 a1 cI n f))) args s 0 0 A) (wPet a0 a1 cI n f) 2 [(0, .ref a0), (1, .int x), (2, .int xi)] [] := by
  intro fu
  induction fu with
  | zero => intro i h1 h2; exact absurd h2 (by omega)
  | succ fu ih =>
    intro i hi hf hno xi exi
    subst exi
    refine sw_iload_n 2 2 C dX2_rowOf_2 rfl rfl ?_
    refine sw_aload_n 3 0 C dX2_rowOf_3 rfl rfl ?_
    refine sw_get 4 0 0 C dX2_rowOf_4 rfl rfl (inA lwX2) (C.w wF_X2_15) rfl rfl rfl ?_
    refine sw_icmp_ge 7 29 C dX2_rowOf_7 (by decide) (fun c_7 => ?_) (fun c_7 => ?_)
    · refine sw_iconst 29 C dX2_rowOf_29 (-1) (by decide) ?_
      refine sw_iret 30 C RC dX2_rowOf_30 ?_
      exact ⟨by rw [show i = n by have := nI_ge' (by omega) c_7 (by omega); omega] at hno; rw [hno]; rfl, rfl⟩
    · have hlt : i < n := by
        rcases Nat.lt_or_ge i n with q | q
        · exact q
        · exact absurd (nI_le q (by omega)) c_7
      refine sw_aload_n 10 0 C dX2_rowOf_10 rfl rfl ?_
      refine sw_iload_n 11 2 C dX2_rowOf_11 rfl rfl ?_
      refine sw_bipush 12 C dX2_rowOf_12 7 (by decide) ?_
      refine sw_callVIP 14 [0, 1] 2 C dX2_rowOf_14 (ct_X2_at l (i) 7 rfl rfl (by omega) (by decide) (by omega)) wK_X2_at wM_X2_29 wN_X2_at wS_X2_X2_at wI_X2 hd_X2_at rfl rfl rfl ⟨rfl, rfl⟩ ⟨Nat.le_of_ble_eq_true rfl, Nat.le_of_ble_eq_true rfl⟩ rfl rfl rfl rfl ?_
      refine sw_iload_n 17 1 C dX2_rowOf_17 rfl rfl ?_
      refine sw_icmp_ne 18 23 C dX2_rowOf_18 (by decide) (fun c_18 => ?_) (fun c_18 => ?_)
      · refine sw_iinc 23 C 1 dX2_rowOf_23 (by decide) rfl rfl ?_
        refine sw_goto 26 2 C dX2_rowOf_26 (by decide) ?_
        exact sw_loc (ih (i + 1) (by omega) (by omega) (fnd_no hno c_18) _ (nI_1 i)) rfl
      · refine sw_iload_n 21 2 C dX2_rowOf_21 rfl rfl ?_
        refine sw_iret 22 C RC dX2_rowOf_22 ?_
        exact ⟨by rw [fnd_yes hno c_18 hlt]; rfl, rfl⟩
set_option maxHeartbeats 4000000 in
set_option maxRecDepth 100000 in
theorem ct_X2_rowOf (l : Launch) {D : va_G} {cI cJ cQ : ClassId} {a0 a1 n : Nat} {f : Nat → Int32} {x : Int32} (hn : n ≤ 40) : Ct l yX2_rowOf (Cond.code yX2_rowOf cX2_rowOf 3 (some .int)) 1 23 0 0 D (tyz cI cJ cQ) [.ref a0, .int x] (wPet a0 a1 cI n f) (pstI (oI (fnd f x n)) (wPet a0 a1 cI n f)) := by
  refine Ct.of RX2 (by decide) rfl (Nat.le_of_ble_eq_true rfl) ?_
  intro p e s m below meth c A C RC
  refine sw_iconst 0 C dX2_rowOf_0 0 (by decide) ?_
  refine sw_istore_n 1 2 C dX2_rowOf_1 rfl rfl ?_
  exact lp_X2_rowOf hn C RC (n + 1) 0 (Nat.zero_le _) (by omega) rfl _ rfl
set_option maxHeartbeats 4000000 in
set_option maxRecDepth 100000 in
theorem lp_X2_addRow {l : Launch} {p : Program} {e : Env} {s : State} {m : MethodId} {args : Array Value} {below : List Frame} {meth : Method} {c : Code} {A : Nat → Prop} {D : va_G} {cI cJ cQ : ClassId} {a0 a1 n : Nat} {f : Nat → Int32} (hn : n < 40) (C : CC p s m args c cX2_addRow 3 RX2 (Cond.code yX2_addRow cX2_addRow 3 (some .int) :: lw_all) D (tyz cI cJ cQ) A s.heap) (RC : meth.sig.returnType = (some .int) ∧ meth.locks = false ∧ meth.name = yX2_addRow.name) : ∀ (fu i : Nat), i ≤ 8 → 8 + 1 ≤ i + fu →  ∀ (xi : Int32), (xi = nI i) →  sw p l e ({ frames := 1, cells := 0, slots := 0, locals := 24 } : Room) s m args below meth c D A s.heap 3 0 0 (MQ below (ctQ D (tyz cI cJ cQ) A (pstI (nI n) (wPet a0 a1 cI (n + 1) (zrr f n 8)))) args s 0 0 A) (wPet a0 a1 cI (n + 1) (zrr f n i)) 28 [(0, .ref a0), (1, .int (nI n)), (2, .int xi)] [] := by
  intro fu
  induction fu with
  | zero => intro i h1 h2; exact absurd h2 (by omega)
  | succ fu ih =>
    intro i hi hf  xi exi
    subst exi
    refine sw_iload_n 28 2 C dX2_addRow_28 rfl rfl ?_
    refine sw_bipush 29 C dX2_addRow_29 8 (by decide) ?_
    refine sw_icmp_ge 31 47 C dX2_addRow_31 (by decide) (fun c_31 => ?_) (fun c_31 => ?_)
    · refine sw_iload_n 47 1 C dX2_addRow_47 rfl rfl ?_
      refine sw_iret 48 C RC dX2_addRow_48 ?_
      exact ⟨rfl, by rw [show i = 8 by have := nI_ge' (by omega) (b := 8) c_31 (by omega); omega]⟩
    · have hlt : i < 8 := by
        rcases Nat.lt_or_ge i 8 with q | q
        · exact q
        · exact absurd (nI_le q (by omega)) c_31
      refine sw_aload_n 34 0 C dX2_addRow_34 rfl rfl ?_
      refine sw_iload_n 35 1 C dX2_addRow_35 rfl rfl ?_
      refine sw_iload_n 36 2 C dX2_addRow_36 rfl rfl ?_
      refine sw_iconst 37 C dX2_addRow_37 0 (by decide) ?_
      refine sw_callVV 38 [0, 1] 3 C dX2_addRow_38 (ct_X2_set l n i rfl rfl (by omega) hlt (by omega)) wK_X2_set wM_X2_19 wN_X2_set wS_X2_X2_set wI_X2 hd_X2_set rfl rfl rfl ⟨rfl, rfl⟩ ⟨Nat.le_of_ble_eq_true rfl, Nat.le_of_ble_eq_true rfl⟩ rfl rfl rfl rfl rfl ?_
      refine sw_ws [(_, .inr (2, [.int _, .ref _])), (_, .inl (_, _, .inl _))] rfl ?_
      refine sw_iinc 41 C 1 dX2_addRow_41 (by decide) rfl rfl ?_
      refine sw_goto 44 28 C dX2_addRow_44 (by decide) ?_
      refine sw_ws (wPet a0 a1 cI (n + 1) (zrr f n (i + 1))) (by rw [← zrr_s]) ?_
      exact sw_loc (ih (i + 1) (by omega) (by omega) _ (nI_1 i)) rfl
set_option maxHeartbeats 4000000 in
set_option maxRecDepth 100000 in
theorem ct_X2_addRow (l : Launch) {D : va_G} {cI cJ cQ : ClassId} {a0 a1 n : Nat} {f : Nat → Int32} (hn : n < 40) : Ct l yX2_addRow (Cond.code yX2_addRow cX2_addRow 3 (some .int)) 1 24 0 0 D (tyz cI cJ cQ) [.ref a0] (wPet a0 a1 cI n f) (pstI (nI n) (wPet a0 a1 cI (n + 1) (zrr f n 8))) := by
  refine Ct.of RX2 (by decide) rfl (Nat.le_of_ble_eq_true rfl) ?_
  intro p e s m below meth c A C RC
  refine sw_aload_n 0 0 C dX2_addRow_0 rfl rfl ?_
  refine sw_get 1 0 0 C dX2_addRow_1 rfl rfl (inA lwX2) (C.w wF_X2_15) rfl rfl rfl ?_
  refine sw_bipush 4 C dX2_addRow_4 40 (by decide) ?_
  refine sw_icmp_lt 6 11 C dX2_addRow_6 (by decide) (fun c_6 => ?_) (fun c_6 => ?_)
  rotate_left
  · exact by first | exact absurd c_6 (nI_lt hn (by decide)) | exact absurd (nI_lt hn (by decide)) c_6
  refine sw_aload_n 11 0 C dX2_addRow_11 rfl rfl ?_
  refine sw_get 12 0 0 C dX2_addRow_12 rfl rfl (inA lwX2) (C.w wF_X2_15) rfl rfl rfl ?_
  refine sw_istore_n 15 1 C dX2_addRow_15 rfl rfl ?_
  refine sw_aload_n 16 0 C dX2_addRow_16 rfl rfl ?_
  refine sw_dup 17 C dX2_addRow_17 rfl ?_
  refine sw_get 18 0 0 C dX2_addRow_18 rfl rfl (inA lwX2) (C.w wF_X2_15) rfl rfl rfl ?_
  refine sw_iconst 21 C dX2_addRow_21 1 (by decide) ?_
  refine sw_iadd 22 C dX2_addRow_22 ?_
  refine sw_top (nI_1 n) ?_
  refine sw_put 23 0 0 tyX2 C dX2_addRow_23 rfl rfl (inA lwX2) tyX2_ok nmX2 (C.w wF_X2_15) rfl rfl rfl rfl rfl rfl rfl ?_
  refine sw_ws [(_, .inr (2, [.int _, .ref _])), (_, .inl (_, _, .inl _))] rfl ?_
  refine sw_iconst 26 C dX2_addRow_26 0 (by decide) ?_
  refine sw_istore_n 27 2 C dX2_addRow_27 rfl rfl ?_
  refine sw_ws (wPet a0 a1 cI (n + 1) (zrr f n 0)) (by rw [zrr_0]) ?_
  exact lp_X2_addRow hn C RC 9 0 (Nat.zero_le _) (by omega) _ rfl
set_option maxHeartbeats 4000000 in
set_option maxRecDepth 100000 in
theorem ct_X2_removeRow (l : Launch) {D : va_G} {cI cJ cQ : ClassId} {a0 a1 n : Nat} {f : Nat → Int32} {x1 : Int32} (i : Nat) (h1 : x1 = nI i) (hi : i < n) (hn : n ≤ 40) : Ct l yX2_removeRow (Cond.code yX2_removeRow cX2_removeRow 4 none) 1 20 0 0 D (tyz cI cJ cQ) [.ref a0, .int x1] (wPet a0 a1 cI n f) (pstV (wPet a0 a1 cI (n - 1) (rmv f n i))) := by
  refine Ct.of RX2 (by decide) rfl (Nat.le_of_ble_eq_true rfl) ?_
  intro p e s m below meth c A C RC
  subst h1
  refine sw_iload_n 0 1 C dX2_removeRow_0 rfl rfl ?_
  refine sw_if_lt 1 21 C dX2_removeRow_1 (by decide) (fun c_1 => ?_) (fun c_1 => ?_)
  · exact by first | exact absurd c_1 (nI_pos (by omega)) | exact absurd (nI_pos (by omega)) c_1
  refine sw_iload_n 4 1 C dX2_removeRow_4 rfl rfl ?_
  refine sw_aload_n 5 0 C dX2_removeRow_5 rfl rfl ?_
  refine sw_get 6 0 0 C dX2_removeRow_6 rfl rfl (inA lwX2) (C.w wF_X2_15) rfl rfl rfl ?_
  refine sw_icmp_ge 9 21 C dX2_removeRow_9 (by decide) (fun c_9 => ?_) (fun c_9 => ?_)
  · exact by first | exact absurd c_9 (nI_ge hi (by omega)) | exact absurd (nI_ge hi (by omega)) c_9
  refine sw_aload_n 12 0 C dX2_removeRow_12 rfl rfl ?_
  refine sw_get 13 0 0 C dX2_removeRow_13 rfl rfl (inA lwX2) (C.w wF_X2_15) rfl rfl rfl ?_
  refine sw_bipush 16 C dX2_removeRow_16 40 (by decide) ?_
  refine sw_icmp_le 18 22 C dX2_removeRow_18 (by decide) (fun c_18 => ?_) (fun c_18 => ?_)
  rotate_left
  · exact by first | exact absurd c_18 (nI_le hn (by decide)) | exact absurd (nI_le hn (by decide)) c_18
  refine sw_iload_n 22 1 C dX2_removeRow_22 rfl rfl ?_
  refine sw_iconst 23 C dX2_removeRow_23 1 (by decide) ?_
  refine sw_iadd 24 C dX2_removeRow_24 ?_
  refine sw_bipush 25 C dX2_removeRow_25 8 (by decide) ?_
  refine sw_imul 27 C dX2_removeRow_27 ?_
  refine sw_istore_n 28 2 C dX2_removeRow_28 rfl rfl ?_
  refine sw_aload_n 29 0 C dX2_removeRow_29 rfl rfl ?_
  refine sw_get 30 0 0 C dX2_removeRow_30 rfl rfl (inA lwX2) (C.w wF_X2_15) rfl rfl rfl ?_
  refine sw_bipush 33 C dX2_removeRow_33 8 (by decide) ?_
  refine sw_imul 35 C dX2_removeRow_35 ?_
  refine sw_iload_n 36 2 C dX2_removeRow_36 rfl rfl ?_
  refine sw_isub 37 C dX2_removeRow_37 ?_
  refine sw_istore_n 38 3 C dX2_removeRow_38 rfl rfl ?_
  refine sw_loc (L1 := [(0, .ref _), (1, .int _), (2, .int _), (3, .int _)]) ?_ rfl
  refine sw_aload_n 39 0 C dX2_removeRow_39 rfl rfl ?_
  refine sw_get 40 0 1 C dX2_removeRow_40 rfl rfl (inA lwX2) (C.w wF_X2_9) rfl rfl rfl ?_
  refine sw_iload_n 43 2 C dX2_removeRow_43 rfl rfl ?_
  refine sw_aload_n 44 0 C dX2_removeRow_44 rfl rfl ?_
  refine sw_get 45 0 1 C dX2_removeRow_45 rfl rfl (inA lwX2) (C.w wF_X2_9) rfl rfl rfl ?_
  refine sw_iload_n 48 1 C dX2_removeRow_48 rfl rfl ?_
  refine sw_bipush 49 C dX2_removeRow_49 8 (by decide) ?_
  refine sw_imul 51 C dX2_removeRow_51 ?_
  refine sw_iload_n 52 3 C dX2_removeRow_52 rfl rfl ?_
  refine sw_copyN 53 1 1 0 ((i + 1) * 8) (i * 8) (n * 8 - (i + 1) * 8) C dX2_removeRow_53 (C.w wM_X2_23) (C.w wNat_J10_arraycopy__Ljava_lang_Object_ILjava_lang_Object_II_V) (C.w wT_J10_arraycopy__Ljava_lang_Object_ILjava_lang_Object_II_V) (C.w wI_J10) (by rw [nI_1, show (8 : Int32) = nI 8 from rfl, pk_mul]) (by rw [show (8 : Int32) = nI 8 from rfl, pk_mul]) (by rw [nI_1, show (8 : Int32) = nI 8 from rfl, pk_mul, pk_mul, pk_sub (by omega)]) (by omega) (by omega) rfl rfl (Nat.le_of_ble_eq_true rfl) (Nat.le_of_ble_eq_true rfl) rfl rfl rfl ?_
  refine sw_ws [(_, .inr (2, [.int _, .ref _])), (_, .inl (_, _, .inl _))] rfl ?_
  refine sw_aload_n 56 0 C dX2_removeRow_56 rfl rfl ?_
  refine sw_dup 57 C dX2_removeRow_57 rfl ?_
  refine sw_get 58 0 0 C dX2_removeRow_58 rfl rfl (inA lwX2) (C.w wF_X2_15) rfl rfl rfl ?_
  refine sw_iconst 61 C dX2_removeRow_61 1 (by decide) ?_
  refine sw_isub 62 C dX2_removeRow_62 ?_
  refine sw_top (show nI n - 1 = nI (n - 1) by rw [show (1 : Int32) = nI 1 from rfl, pk_sub (by omega)]) ?_
  refine sw_put 63 0 0 tyX2 C dX2_removeRow_63 rfl rfl (inA lwX2) tyX2_ok nmX2 (C.w wF_X2_15) rfl rfl rfl rfl rfl rfl rfl ?_
  refine sw_ws [(_, .inr (2, [.int _, .ref _])), (_, .inl (_, _, .inl _))] rfl ?_
  refine sw_vret 66 C RC dX2_removeRow_66 ?_
  exact ⟨rfl, rfl⟩
theorem va_cpy_all {f g : Nat → Int32} {n j : Nat} (h : j < n) : va_cpy f g 0 0 n j = f j := by
  unfold va_cpy
  rw [if_pos (by omega)]
  congr 1
  omega
set_option maxHeartbeats 4000000 in
set_option maxRecDepth 100000 in
theorem ct_X2_copyFrom (l : Launch) {D : va_G} {cI cJ cQ : ClassId} {a0 a1 b0 b1 : Nat} {f g : Nat → Int32} {x y : Int32} : Ct l yX2_copyFrom (Cond.code yX2_copyFrom cX2_copyFrom 2 none) 1 20 0 0 D (tyz cI cJ cQ) [.ref a0, .ref b0] [(a0, .inr (2, [.int (y), .ref a1])), (a1, .inl (cI, 320, .inl g)), (b0, .inr (2, [.int x, .ref b1])), (b1, .inl (cI, 320, .inl f))] (pstV [(a0, .inr (2, [.int (x), .ref a1])), (a1, .inl (cI, 320, .inl f)), (b0, .inr (2, [.int x, .ref b1])), (b1, .inl (cI, 320, .inl f))]) := by
  refine Ct.of RX2 (by decide) rfl (Nat.le_of_ble_eq_true rfl) ?_
  intro p e s m below meth c A C RC
  refine sw_aload_n 0 0 C dX2_copyFrom_0 rfl rfl ?_
  refine sw_aload_n 1 1 C dX2_copyFrom_1 rfl rfl ?_
  refine sw_get 2 2 0 C dX2_copyFrom_2 rfl rfl (inA lwX2) (C.w wF_X2_15) rfl rfl rfl ?_
  refine sw_put 5 0 0 tyX2 C dX2_copyFrom_5 rfl rfl (inA lwX2) tyX2_ok nmX2 (C.w wF_X2_15) rfl rfl rfl rfl rfl rfl rfl ?_
  refine sw_ws [(_, .inr (2, [.int _, .ref _])), (_, .inl (_, _, .inl _)), (_, .inr (2, [.int _, .ref _])), (_, .inl (_, _, .inl _))] rfl ?_
  refine sw_aload_n 8 1 C dX2_copyFrom_8 rfl rfl ?_
  refine sw_get 9 2 1 C dX2_copyFrom_9 rfl rfl (inA lwX2) (C.w wF_X2_9) rfl rfl rfl ?_
  refine sw_iconst 12 C dX2_copyFrom_12 0 (by decide) ?_
  refine sw_aload_n 13 0 C dX2_copyFrom_13 rfl rfl ?_
  refine sw_get 14 0 1 C dX2_copyFrom_14 rfl rfl (inA lwX2) (C.w wF_X2_9) rfl rfl rfl ?_
  refine sw_iconst 17 C dX2_copyFrom_17 0 (by decide) ?_
  refine sw_aload_n 18 0 C dX2_copyFrom_18 rfl rfl ?_
  refine sw_get 19 0 1 C dX2_copyFrom_19 rfl rfl (inA lwX2) (C.w wF_X2_9) rfl rfl rfl ?_
  refine sw_alen 22 1 0 C 320 dX2_copyFrom_22 rfl rfl rfl ?_
  refine sw_copyN 23 3 1 0 (0) (0) (320) C dX2_copyFrom_23 (C.w wM_X2_23) (C.w wNat_J10_arraycopy__Ljava_lang_Object_ILjava_lang_Object_II_V) (C.w wT_J10_arraycopy__Ljava_lang_Object_ILjava_lang_Object_II_V) (C.w wI_J10) rfl rfl rfl (by decide) (by decide) rfl rfl (Nat.le_of_ble_eq_true rfl) (Nat.le_of_ble_eq_true rfl) rfl rfl rfl ?_
  refine sw_ws [(_, .inr (2, [.int _, .ref _])), (_, .inl (_, _, .inl _)), (_, .inr (2, [.int _, .ref _])), (_, .inl (_, _, .inl _))] rfl ?_
  refine sw_arrEq 1 f rfl (fun j hj => va_cpy_all hj) ?_
  refine sw_vret 26 C RC dX2_copyFrom_26 ?_
  exact ⟨rfl, rfl⟩
