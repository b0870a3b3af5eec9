theorem fnd_keep {f : Nat → Int32} {x : Int32} {i : Nat} (h : ¬ f (i * 8 + 7) = x) : oI (fnd f x i) = oI (fnd f x (i + 1)) := by
  conv => rhs; unfold fnd
  cases fnd f x i with
  | none => exact congrArg oI (if_neg h).symm
  | some j => rfl
theorem fnd_has {f : Nat → Int32} {x : Int32} : ∀ {i j : Nat}, fnd f x i = some j → j < i ∧ f (j * 8 + 7) = x
  | 0, j, h => by cases h
  | i + 1, j, h => by
    unfold fnd at h
    cases hq : fnd f x i with
    | none =>
      rw [hq] at h
      dsimp only at h
      split at h
      · cases h
        exact ⟨by omega, by assumption⟩
      · cases h
    | some k =>
      rw [hq] at h
      cases h
      obtain ⟨h1, h2⟩ := fnd_has hq
      exact ⟨by omega, h2⟩
theorem fnd_new {f : Nat → Int32} {x p : Int32} {i n : Nat} (hn : nOK f n p) (hi : i < n) (h : f (i * 8 + 7) = x) : nI i = oI (fnd f x (i + 1)) := by
  have e : fnd f x (i + 1) = some i := by
    unfold fnd
    cases hq : fnd f x i with
    | none => exact if_pos h
    | some j =>
      obtain ⟨h1, h2⟩ := fnd_has hq
      have := num_eq hn (by omega) hi (h2.trans h.symm)
      omega
  rw [e]
  rfl
theorem ct_b {p : Nat → Bool} {i : Nat} : nI (ct p i) + bI (p i) = nI (ct p (i + 1)) := by
  cases h : p i with
  | true => exact ct_t h
  | false =>
    rw [← ct_f h]
    show nI (ct p i) + 0 = _
    rw [show (0 : Int32) = nI 0 from rfl, nI_add]
    rfl
set_option maxHeartbeats 4000000 in
set_option maxRecDepth 100000 in
theorem lp_X7_find {l : Launch} {p : Program} {e : Env} {s : State} {m : MethodId} {args : Array Value} {below : List Frame} {meth : Method} {c : Code} {A : Nat → Prop} {D : va_G} {cI cJ cQ : ClassId} {b0 b1 b2 b3 b4 b5 : Nat} {sa pa ad tx nb : Nat → Int32} {kp th ty ap : Int32} {hh : Int64} {S : StT} {B T : Nat} (hE : mE S sa) (hO : mO B T S) {x : Int32} (C : CC p s m args c cX7_find 4 RX7 (Cond.code yX7_find cX7_find 4 (some .int) :: lw_all) D (tyz cI cJ cQ) A s.heap) (RC : meth.sig.returnType = (some .int) ∧ meth.locks = false ∧ meth.name = yX7_find.name) : ∀ (fu i : Nat), i ≤ zn S → zn S + 1 ≤ i + fu →  ∀ (xa : Int32) (xi : Int32), (xa = oI (fnd (zf S) x i)) → (xi = nI i) →  sw p l e ({ frames := 1, cells := 0, slots := 0, locals := 22 } : Room) s m args below meth c D A s.heap 4 0 0 (MQ below (ctQ D (tyz cI cJ cQ) A (pstI (oI (fnd (zf S) x (zn S))) [(b0, .inr (7, [.ref b1, .ref b2, .ref b3, .int (kp), .int (th), .ref b4, .int (ty), .int (ap), .ref b5, .long (hh)])), (b1, .inl (cI, 424, .inl (sa))), (b2, .inl (cI, 1696, .inl (pa))), (b3, .inl (cI, 424, .inl (ad))), (b4, .inl (cI, 100, .inl (tx))), (b5, .inl (cI, 4, .inl (nb)))])) args s 0 0 A) [(b0, .inr (7, [.ref b1, .ref b2, .ref b3, .int (kp), .int (th), .ref b4, .int (ty), .int (ap), .ref b5, .long (hh)])), (b1, .inl (cI, 424, .inl (sa))), (b2, .inl (cI, 1696, .inl (pa))), (b3, .inl (cI, 424, .inl (ad))), (b4, .inl (cI, 100, .inl (tx))), (b5, .inl (cI, 4, .inl (nb)))] 4 [(0, .ref b0), (1, .int x), (2, .int xa), (3, .int xi)] [] := by
  intro fu
  induction fu with
  | zero => intro i h1 h2; exact absurd h2 (by omega)
  | succ fu ih =>
    intro i hi hf  xa xi exa exi
    subst exa exi
    refine sw_iload_n 4 3 C dX7_find_4 rfl rfl ?_
    refine sw_aload_n 5 0 C dX7_find_5 rfl rfl ?_
    refine sw_get 6 0 0 C dX7_find_6 rfl rfl (inA lwX7) (C.w wF_X7_7) rfl rfl rfl ?_
    refine sw_iconst 9 C dX7_find_9 1 (by decide) ?_
    refine sw_ialdN 10 1 0 (1) C dX7_find_10 rfl (by decide) rfl rfl rfl ?_
    refine sw_top hE.n ?_
    refine sw_icmp_ge 11 36 C dX7_find_11 (by decide) (fun c_11 => ?_) (fun c_11 => ?_)
    · obtain hz : i = zn S := by
        have := nI_ge' (by have := hO.n; omega) c_11 (by have := hO.n; omega)
        omega
      refine sw_iload_n 36 2 C dX7_find_36 rfl rfl ?_
      refine sw_iret 37 C RC dX7_find_37 ?_
      exact ⟨by rw [← hz], rfl⟩
    · have hlt : i < zn S := by
        rcases Nat.lt_or_ge i (zn S) with q | q
        · exact q
        · exact absurd (nI_le q (by have := hO.n; omega)) c_11
      refine sw_aload_n 14 0 C dX7_find_14 rfl rfl ?_
      refine sw_iload_n 15 3 C dX7_find_15 rfl rfl ?_
      refine sw_iconst 16 C dX7_find_16 0 (by decide) ?_
      refine sw_callVIP 17 [0, 1, 2, 3, 4, 5] 2 C dX7_find_17 (ct_X7_ofE l hE i 7 rfl rfl hlt (by decide) hO.n) wK_X7_of wM_X7_32 wN_X7_of wS_X7_X7_of wI_X7 hd_X7_of rfl rfl rfl ⟨rfl, rfl⟩ ⟨Nat.le_of_ble_eq_true rfl, Nat.le_of_ble_eq_true rfl⟩ rfl rfl rfl rfl ?_
      refine sw_iload_n 20 1 C dX7_find_20 rfl rfl ?_
      refine sw_jn2 29 (oI (fnd (zf S) x (i + 1))) (fun hj_21 => ?_) ?_
      · refine sw_icmp_ne 21 28 C dX7_find_21 (by decide) (fun c_21 => ?_) (fun c_21 => ?_)
        · refine sw_iload_n 28 2 C dX7_find_28 rfl rfl ?_
          exact sw_top (fnd_keep c_21) hj_21
        · refine sw_iload_n 24 3 C dX7_find_24 rfl rfl ?_
          refine sw_goto 25 29 C dX7_find_25 (by decide) ?_
          exact sw_top (fnd_new hO.num hlt c_21) hj_21
      refine sw_istore_n 29 2 C dX7_find_29 rfl rfl ?_
      refine sw_iinc 30 C 1 dX7_find_30 (by decide) rfl rfl ?_
      refine sw_loc (L1 := [(0, .ref _), (1, .int _), (2, .int _), (3, .int _)]) ?_ rfl
      refine sw_goto 33 4 C dX7_find_33 (by decide) ?_
      exact sw_loc (ih (i + 1) (by omega) (by omega) _ _ rfl (nI_1 i)) rfl
set_option maxHeartbeats 4000000 in
set_option maxRecDepth 100000 in
theorem ct_X7_find (l : Launch) {D : va_G} {cI cJ cQ : ClassId} {b0 b1 b2 b3 b4 b5 : Nat} {sa pa ad tx nb : Nat → Int32} {kp th ty ap : Int32} {hh : Int64} {S : StT} {B T : Nat} (hE : mE S sa) (hO : mO B T S) {x : Int32} : Ct l yX7_find (Cond.code yX7_find cX7_find 4 (some .int)) 1 22 0 0 D (tyz cI cJ cQ) [.ref b0, .int x] [(b0, .inr (7, [.ref b1, .ref b2, .ref b3, .int (kp), .int (th), .ref b4, .int (ty), .int (ap), .ref b5, .long (hh)])), (b1, .inl (cI, 424, .inl (sa))), (b2, .inl (cI, 1696, .inl (pa))), (b3, .inl (cI, 424, .inl (ad))), (b4, .inl (cI, 100, .inl (tx))), (b5, .inl (cI, 4, .inl (nb)))] (pstI (oI (fnd (zf S) x (zn S))) [(b0, .inr (7, [.ref b1, .ref b2, .ref b3, .int (kp), .int (th), .ref b4, .int (ty), .int (ap), .ref b5, .long (hh)])), (b1, .inl (cI, 424, .inl (sa))), (b2, .inl (cI, 1696, .inl (pa))), (b3, .inl (cI, 424, .inl (ad))), (b4, .inl (cI, 100, .inl (tx))), (b5, .inl (cI, 4, .inl (nb)))]) := by
  refine Ct.of RX7 (by decide) rfl (Nat.le_of_ble_eq_true rfl) ?_
  intro p e s m below meth c A C RC
  refine sw_iconst 0 C dX7_find_0 (-1) (by decide) ?_
  refine sw_istore_n 1 2 C dX7_find_1 rfl rfl ?_
  refine sw_iconst 2 C dX7_find_2 0 (by decide) ?_
  refine sw_istore_n 3 3 C dX7_find_3 rfl rfl ?_
  exact lp_X7_find hE hO C RC (zn S + 1) 0 (Nat.zero_le _) (by omega) _ _ rfl rfl
set_option maxHeartbeats 4000000 in
set_option maxRecDepth 100000 in
theorem ct_X7_isAhead (l : Launch) {D : va_G} {cI cJ cQ : ClassId} {b0 b1 b2 b3 b4 b5 : Nat} {sa pa ad tx nb : Nat → Int32} {kp th ty ap : Int32} {hh : Int64} {S : StT} {B T : Nat} (hE : mE S sa) (hO : mO B T S) {x1 x2 : Int32} (i j : Nat) (h1 : x1 = nI i) (h2 : x2 = nI j) (hi : i < zn S) (hj : j < zn S) : Ct l yX7_isAhead (Cond.code yX7_isAhead cX7_isAhead 4 (some .boolean)) 1 22 0 0 D (tyz cI cJ cQ) [.ref b0, .int x1, .int x2] [(b0, .inr (7, [.ref b1, .ref b2, .ref b3, .int (kp), .int (th), .ref b4, .int (ty), .int (ap), .ref b5, .long (hh)])), (b1, .inl (cI, 424, .inl (sa))), (b2, .inl (cI, 1696, .inl (pa))), (b3, .inl (cI, 424, .inl (ad))), (b4, .inl (cI, 100, .inl (tx))), (b5, .inl (cI, 4, .inl (nb)))] (pstI (bI (bfr (zf S) i j)) [(b0, .inr (7, [.ref b1, .ref b2, .ref b3, .int (kp), .int (th), .ref b4, .int (ty), .int (ap), .ref b5, .long (hh)])), (b1, .inl (cI, 424, .inl (sa))), (b2, .inl (cI, 1696, .inl (pa))), (b3, .inl (cI, 424, .inl (ad))), (b4, .inl (cI, 100, .inl (tx))), (b5, .inl (cI, 4, .inl (nb)))]) := by
  refine Ct.of RX7 (by decide) rfl (Nat.le_of_ble_eq_true rfl) ?_
  intro p e s m below meth c A C RC
  subst h1 h2
  refine sw_aload_n 0 0 C dX7_isAhead_0 rfl rfl ?_
  refine sw_iload_n 1 1 C dX7_isAhead_1 rfl rfl ?_
  refine sw_iconst 2 C dX7_isAhead_2 3 (by decide) ?_
  refine sw_callVIP 3 [0, 1, 2, 3, 4, 5] 2 C dX7_isAhead_3 (ct_X7_ofE l hE i 2 rfl rfl hi (by decide) hO.n) wK_X7_of wM_X7_32 wN_X7_of wS_X7_X7_of wI_X7 hd_X7_of rfl rfl rfl ⟨rfl, rfl⟩ ⟨Nat.le_of_ble_eq_true rfl, Nat.le_of_ble_eq_true rfl⟩ rfl rfl rfl rfl ?_
  refine sw_aload_n 6 0 C dX7_isAhead_6 rfl rfl ?_
  refine sw_iload_n 7 2 C dX7_isAhead_7 rfl rfl ?_
  refine sw_iconst 8 C dX7_isAhead_8 3 (by decide) ?_
  refine sw_callVIP 9 [0, 1, 2, 3, 4, 5] 2 C dX7_isAhead_9 (ct_X7_ofE l hE j 2 rfl rfl hj (by decide) hO.n) wK_X7_of wM_X7_32 wN_X7_of wS_X7_X7_of wI_X7 hd_X7_of rfl rfl rfl ⟨rfl, rfl⟩ ⟨Nat.le_of_ble_eq_true rfl, Nat.le_of_ble_eq_true rfl⟩ rfl rfl rfl rfl ?_
  refine sw_isub 12 C dX7_isAhead_12 ?_
  refine sw_istore_n 13 3 C dX7_isAhead_13 rfl rfl ?_
  refine sw_iload_n 14 3 C dX7_isAhead_14 rfl rfl ?_
  refine sw_jn1 35 (ahd (zf S) i j) (fun hj_15 => ?_) ?_
  · refine sw_if_ne 15 34 C dX7_isAhead_15 (by decide) (fun c_15 => ?_) (fun c_15 => ?_)
    · refine sw_iload_n 34 3 C dX7_isAhead_34 rfl rfl ?_
      exact sw_top ((if_neg c_15).symm) hj_15
    · refine sw_aload_n 18 0 C dX7_isAhead_18 rfl rfl ?_
      refine sw_iload_n 19 1 C dX7_isAhead_19 rfl rfl ?_
      refine sw_iconst 20 C dX7_isAhead_20 4 (by decide) ?_
      refine sw_callVIP 21 [0, 1, 2, 3, 4, 5] 2 C dX7_isAhead_21 (ct_X7_ofE l hE i 3 rfl rfl hi (by decide) hO.n) wK_X7_of wM_X7_32 wN_X7_of wS_X7_X7_of wI_X7 hd_X7_of rfl rfl rfl ⟨rfl, rfl⟩ ⟨Nat.le_of_ble_eq_true rfl, Nat.le_of_ble_eq_true rfl⟩ rfl rfl rfl rfl ?_
      refine sw_aload_n 24 0 C dX7_isAhead_24 rfl rfl ?_
      refine sw_iload_n 25 2 C dX7_isAhead_25 rfl rfl ?_
      refine sw_iconst 26 C dX7_isAhead_26 4 (by decide) ?_
      refine sw_callVIP 27 [0, 1, 2, 3, 4, 5] 2 C dX7_isAhead_27 (ct_X7_ofE l hE j 3 rfl rfl hj (by decide) hO.n) wK_X7_of wM_X7_32 wN_X7_of wS_X7_X7_of wI_X7 hd_X7_of rfl rfl rfl ⟨rfl, rfl⟩ ⟨Nat.le_of_ble_eq_true rfl, Nat.le_of_ble_eq_true rfl⟩ rfl rfl rfl rfl ?_
      refine sw_isub 30 C dX7_isAhead_30 ?_
      refine sw_goto 31 35 C dX7_isAhead_31 (by decide) ?_
      exact sw_top ((if_pos c_15).symm) hj_15
  refine sw_istore_n 35 3 C dX7_isAhead_35 rfl rfl ?_
  refine sw_loc (L1 := [(0, .ref _), (1, .int _), (2, .int _), (3, .int _)]) ?_ rfl
  refine sw_iload_n 36 3 C dX7_isAhead_36 rfl rfl ?_
  refine sw_if_gt 37 49 C dX7_isAhead_37 (by decide) (fun c_37 => ?_) (fun c_37 => ?_)
  · refine sw_iconst 49 C dX7_isAhead_49 1 (by decide) ?_
    refine sw_goto 50 54 C dX7_isAhead_50 (by decide) ?_
    refine sw_zret 54 C RC rfl dX7_isAhead_54 ?_
    exact ⟨by rw [ahd_bfr hO.num hO.row hi hj, decide_eq_true c_37]; rfl, rfl⟩
  · refine sw_iload_n 40 3 C dX7_isAhead_40 rfl rfl ?_
    refine sw_if_ne 41 53 C dX7_isAhead_41 (by decide) (fun c_41 => ?_) (fun c_41 => ?_)
    · refine sw_iconst 53 C dX7_isAhead_53 0 (by decide) ?_
      refine sw_zret 54 C RC rfl dX7_isAhead_54 ?_
      exact ⟨by rw [ahd_bfr hO.num hO.row hi hj, decide_eq_false c_37, decide_eq_false c_41]; rfl, rfl⟩
    · refine sw_iload_n 44 1 C dX7_isAhead_44 rfl rfl ?_
      refine sw_iload_n 45 2 C dX7_isAhead_45 rfl rfl ?_
      refine sw_icmp_ge 46 53 C dX7_isAhead_46 (by decide) (fun c_46 => ?_) (fun c_46 => ?_)
      · refine sw_iconst 53 C dX7_isAhead_53 0 (by decide) ?_
        refine sw_zret 54 C RC rfl dX7_isAhead_54 ?_
        exact ⟨by rw [ahd_bfr hO.num hO.row hi hj, decide_eq_false c_37, decide_eq_true c_41, decide_eq_false (p := i < j) (by have := nI_ge' (by have := hO.n; omega) c_46 (by have := hO.n; omega); omega)]; rfl, rfl⟩
      · refine sw_iconst 49 C dX7_isAhead_49 1 (by decide) ?_
        refine sw_goto 50 54 C dX7_isAhead_50 (by decide) ?_
        refine sw_zret 54 C RC rfl dX7_isAhead_54 ?_
        exact ⟨by rw [ahd_bfr hO.num hO.row hi hj, decide_eq_false c_37, decide_eq_true c_41, decide_eq_true (p := i < j) (Nat.lt_of_not_le (fun q => c_46 (nI_le q (by have := hO.n; omega))))]; rfl, rfl⟩
set_option maxHeartbeats 4000000 in
set_option maxRecDepth 100000 in
theorem lp_X7_placeOf {l : Launch} {p : Program} {e : Env} {s : State} {m : MethodId} {args : Array Value} {below : List Frame} {meth : Method} {c : Code} {A : Nat → Prop} {D : va_G} {cI cJ cQ : ClassId} {b0 b1 b2 b3 b4 b5 : Nat} {sa pa ad tx nb : Nat → Int32} {kp th ty ap : Int32} {hh : Int64} {S : StT} {B T : Nat} (hE : mE S sa) (hO : mO B T S) (j : Nat) (hj : j < zn S) (C : CC p s m args c cX7_placeOf 4 RX7 (Cond.code yX7_placeOf cX7_placeOf 4 (some .int) :: lw_all) D (tyz cI cJ cQ) A s.heap) (RC : meth.sig.returnType = (some .int) ∧ meth.locks = false ∧ meth.name = yX7_placeOf.name) : ∀ (fu i : Nat), i ≤ zn S → zn S + 1 ≤ i + fu →  ∀ (xa : Int32) (xi : Int32), (xa = nI (ct (fun o => bfr (zf S) o j) i)) → (xi = nI i) →  sw p l e ({ frames := 2, cells := 0, slots := 0, locals := 45 } : Room) s m args below meth c D A s.heap 4 0 0 (MQ below (ctQ D (tyz cI cJ cQ) A (pstI (nI (cbf (zf S) (zn S) j)) [(b0, .inr (7, [.ref b1, .ref b2, .ref b3, .int (kp), .int (th), .ref b4, .int (ty), .int (ap), .ref b5, .long (hh)])), (b1, .inl (cI, 424, .inl (sa))), (b2, .inl (cI, 1696, .inl (pa))), (b3, .inl (cI, 424, .inl (ad))), (b4, .inl (cI, 100, .inl (tx))), (b5, .inl (cI, 4, .inl (nb)))])) args s 0 0 A) [(b0, .inr (7, [.ref b1, .ref b2, .ref b3, .int (kp), .int (th), .ref b4, .int (ty), .int (ap), .ref b5, .long (hh)])), (b1, .inl (cI, 424, .inl (sa))), (b2, .inl (cI, 1696, .inl (pa))), (b3, .inl (cI, 424, .inl (ad))), (b4, .inl (cI, 100, .inl (tx))), (b5, .inl (cI, 4, .inl (nb)))] 4 [(0, .ref b0), (1, .int (nI j)), (2, .int xa), (3, .int xi)] [] := by
  intro fu
  induction fu with
  | zero => intro i h1 h2; exact absurd h2 (by omega)
  | succ fu ih =>
    intro i hi hf  xa xi exa exi
    subst exa exi
    refine sw_iload_n 4 3 C dX7_placeOf_4 rfl rfl ?_
    refine sw_aload_n 5 0 C dX7_placeOf_5 rfl rfl ?_
    refine sw_get 6 0 0 C dX7_placeOf_6 rfl rfl (inA lwX7) (C.w wF_X7_7) rfl rfl rfl ?_
    refine sw_iconst 9 C dX7_placeOf_9 1 (by decide) ?_
    refine sw_ialdN 10 1 0 (1) C dX7_placeOf_10 rfl (by decide) rfl rfl rfl ?_
    refine sw_top hE.n ?_
    refine sw_icmp_ge 11 42 C dX7_placeOf_11 (by decide) (fun c_11 => ?_) (fun c_11 => ?_)
    · obtain hz : i = zn S := by
        have := nI_ge' (by have := hO.n; omega) c_11 (by have := hO.n; omega)
        omega
      refine sw_iload_n 42 2 C dX7_placeOf_42 rfl rfl ?_
      refine sw_iret 43 C RC dX7_placeOf_43 ?_
      exact ⟨by rw [hz]; rfl, rfl⟩
    · have hlt : i < zn S := by
        rcases Nat.lt_or_ge i (zn S) with q | q
        · exact q
        · exact absurd (nI_le q (by have := hO.n; omega)) c_11
      refine sw_iload_n 14 2 C dX7_placeOf_14 rfl rfl ?_
      refine sw_iload_n 15 3 C dX7_placeOf_15 rfl rfl ?_
      refine sw_iload_n 16 1 C dX7_placeOf_16 rfl rfl ?_
      refine sw_jn2 34 (bI (bfr (zf S) i j)) (fun hj_17 => ?_) ?_
      · refine sw_icmp_eq 17 33 C dX7_placeOf_17 (by decide) (fun c_17 => ?_) (fun c_17 => ?_)
        · refine sw_iconst 33 C dX7_placeOf_33 0 (by decide) ?_
          exact sw_top (by rw [show i = j from nI_inj (by have := hO.n; omega) (by have := hO.n; omega) c_17, bfr_self]; rfl) hj_17
        · refine sw_aload_n 20 0 C dX7_placeOf_20 rfl rfl ?_
          refine sw_iload_n 21 3 C dX7_placeOf_21 rfl rfl ?_
          refine sw_iload_n 22 1 C dX7_placeOf_22 rfl rfl ?_
          refine sw_callVIP 23 [0, 1, 2, 3, 4, 5] 2 C dX7_placeOf_23 (ct_X7_isAhead l hE hO i j rfl rfl hlt hj) wK_X7_isAhead wM_X7_36 wN_X7_isAhead wS_X7_X7_isAhead wI_X7 hd_X7_isAhead rfl rfl rfl ⟨rfl, rfl⟩ ⟨Nat.le_of_ble_eq_true rfl, Nat.le_of_ble_eq_true rfl⟩ rfl rfl rfl rfl ?_
          refine sw_if_eq 26 33 C dX7_placeOf_26 (by decide) (fun c_26 => ?_) (fun c_26 => ?_)
          · refine sw_iconst 33 C dX7_placeOf_33 0 (by decide) ?_
            exact sw_top (c_26.symm) hj_17
          · refine sw_iconst 29 C dX7_placeOf_29 1 (by decide) ?_
            refine sw_goto 30 34 C dX7_placeOf_30 (by decide) ?_
            exact sw_top (by rw [bI_t c_26]; rfl) hj_17
      refine sw_iadd 34 C dX7_placeOf_34 ?_
      refine sw_istore_n 35 2 C dX7_placeOf_35 rfl rfl ?_
      refine sw_iinc 36 C 1 dX7_placeOf_36 (by decide) rfl rfl ?_
      refine sw_loc (L1 := [(0, .ref _), (1, .int _), (2, .int _), (3, .int _)]) ?_ rfl
      refine sw_goto 39 4 C dX7_placeOf_39 (by decide) ?_
      exact sw_loc (ih (i + 1) (by omega) (by omega) _ _ (ct_b (p := fun o => bfr (zf S) o j)) (nI_1 i)) rfl
set_option maxHeartbeats 4000000 in
set_option maxRecDepth 100000 in
theorem ct_X7_placeOf (l : Launch) {D : va_G} {cI cJ cQ : ClassId} {b0 b1 b2 b3 b4 b5 : Nat} {sa pa ad tx nb : Nat → Int32} {kp th ty ap : Int32} {hh : Int64} {S : StT} {B T : Nat} (hE : mE S sa) (hO : mO B T S) {x1 : Int32} (j : Nat) (h1 : x1 = nI j) (hj : j < zn S) : Ct l yX7_placeOf (Cond.code yX7_placeOf cX7_placeOf 4 (some .int)) 2 45 0 0 D (tyz cI cJ cQ) [.ref b0, .int x1] [(b0, .inr (7, [.ref b1, .ref b2, .ref b3, .int (kp), .int (th), .ref b4, .int (ty), .int (ap), .ref b5, .long (hh)])), (b1, .inl (cI, 424, .inl (sa))), (b2, .inl (cI, 1696, .inl (pa))), (b3, .inl (cI, 424, .inl (ad))), (b4, .inl (cI, 100, .inl (tx))), (b5, .inl (cI, 4, .inl (nb)))] (pstI (nI (cbf (zf S) (zn S) j)) [(b0, .inr (7, [.ref b1, .ref b2, .ref b3, .int (kp), .int (th), .ref b4, .int (ty), .int (ap), .ref b5, .long (hh)])), (b1, .inl (cI, 424, .inl (sa))), (b2, .inl (cI, 1696, .inl (pa))), (b3, .inl (cI, 424, .inl (ad))), (b4, .inl (cI, 100, .inl (tx))), (b5, .inl (cI, 4, .inl (nb)))]) := by
  refine Ct.of RX7 (by decide) rfl (Nat.le_of_ble_eq_true rfl) ?_
  intro p e s m below meth c A C RC
  subst h1
  refine sw_iconst 0 C dX7_placeOf_0 0 (by decide) ?_
  refine sw_istore_n 1 2 C dX7_placeOf_1 rfl rfl ?_
  refine sw_iconst 2 C dX7_placeOf_2 0 (by decide) ?_
  refine sw_istore_n 3 3 C dX7_placeOf_3 rfl rfl ?_
  exact lp_X7_placeOf hE hO j hj C RC (zn S + 1) 0 (Nat.zero_le _) (by omega) _ _ rfl rfl
set_option maxHeartbeats 4000000 in
set_option maxRecDepth 100000 in
theorem lp_X7_atPlace {l : Launch} {p : Program} {e : Env} {s : State} {m : MethodId} {args : Array Value} {below : List Frame} {meth : Method} {c : Code} {A : Nat → Prop} {D : va_G} {cI cJ cQ : ClassId} {b0 b1 b2 b3 b4 b5 : Nat} {sa pa ad tx nb : Nat → Int32} {kp th ty ap : Int32} {hh : Int64} {S : StT} {B T : Nat} (hE : mE S sa) (hO : mO B T S) (j k : Nat) (hj : j < zn S) (hk : cbf (zf S) (zn S) j = k) (C : CC p s m args c cX7_atPlace 3 RX7 (Cond.code yX7_atPlace cX7_atPlace 3 (some .int) :: lw_all) D (tyz cI cJ cQ) A s.heap) (RC : meth.sig.returnType = (some .int) ∧ meth.locks = false ∧ meth.name = yX7_atPlace.name) : ∀ (fu i : Nat), i ≤ j → j + 1 ≤ i + fu →  ∀ (xi : Int32), (xi = nI i) →  sw p l e ({ frames := 3, cells := 0, slots := 0, locals := 68 } : Room) s m args below meth c D A s.heap 3 0 0 (MQ below (ctQ D (tyz cI cJ cQ) A (pstI (nI j) [(b0, .inr (7, [.ref b1, .ref b2, .ref b3, .int (kp), .int (th), .ref b4, .int (ty), .int (ap), .ref b5, .long (hh)])), (b1, .inl (cI, 424, .inl (sa))), (b2, .inl (cI, 1696, .inl (pa))), (b3, .inl (cI, 424, .inl (ad))), (b4, .inl (cI, 100, .inl (tx))), (b5, .inl (cI, 4, .inl (nb)))])) args s 0 0 A) [(b0, .inr (7, [.ref b1, .ref b2, .ref b3, .int (kp), .int (th), .ref b4, .int (ty), .int (ap), .ref b5, .long (hh)])), (b1, .inl (cI, 424, .inl (sa))), (b2, .inl (cI, 1696, .inl (pa))), (b3, .inl (cI, 424, .inl (ad))), (b4, .inl (cI, 100, .inl (tx))), (b5, .inl (cI, 4, .inl (nb)))] 2 [(0, .ref b0), (1, .int (nI k)), (2, .int xi)] [] := by
  intro fu
  induction fu with
  | zero => intro i h1 h2; exact absurd h2 (by omega)
  | succ fu ih =>
    intro i hi hf  xi exi
    subst exi
    refine sw_aload_n 2 0 C dX7_atPlace_2 rfl rfl ?_
    refine sw_iload_n 3 2 C dX7_atPlace_3 rfl rfl ?_
    refine sw_callVIP 4 [0, 1, 2, 3, 4, 5] 1 C dX7_atPlace_4 (ct_X7_placeOf l hE hO i rfl (by omega)) wK_X7_placeOf wM_X7_40 wN_X7_placeOf wS_X7_X7_placeOf wI_X7 hd_X7_placeOf rfl rfl rfl ⟨rfl, rfl⟩ ⟨Nat.le_of_ble_eq_true rfl, Nat.le_of_ble_eq_true rfl⟩ rfl rfl rfl rfl ?_
    refine sw_iload_n 7 1 C dX7_atPlace_7 rfl rfl ?_
    refine sw_icmp_eq 8 17 C dX7_atPlace_8 (by decide) (fun c_8 => ?_) (fun c_8 => ?_)
    · refine sw_iload_n 17 2 C dX7_atPlace_17 rfl rfl ?_
      refine sw_iret 18 C RC dX7_atPlace_18 ?_
      obtain rfl : i = j := cbf_inj hO.num hO.row (by omega) hj ((nI_inj (by have := cbf_lt (f := zf S) (show i < zn S by omega); have := hO.n; omega) (by have := cbf_lt (f := zf S) hj; have := hO.n; omega) c_8).trans hk.symm)
      exact ⟨rfl, rfl⟩
    · refine sw_iinc 11 C 1 dX7_atPlace_11 (by decide) rfl rfl ?_
      refine sw_goto 14 2 C dX7_atPlace_14 (by decide) ?_
      have hne : i ≠ j := fun e => c_8 (by rw [e, hk])
      exact sw_loc (ih (i + 1) (by omega) (by omega) _ (nI_1 i)) rfl
set_option maxHeartbeats 4000000 in
set_option maxRecDepth 100000 in
theorem ct_X7_atPlace (l : Launch) {D : va_G} {cI cJ cQ : ClassId} {b0 b1 b2 b3 b4 b5 : Nat} {sa pa ad tx nb : Nat → Int32} {kp th ty ap : Int32} {hh : Int64} {S : StT} {B T : Nat} (hE : mE S sa) (hO : mO B T S) {x1 : Int32} (j k : Nat) (h1 : x1 = nI k) (hj : j < zn S) (hk : cbf (zf S) (zn S) j = k) : Ct l yX7_atPlace (Cond.code yX7_atPlace cX7_atPlace 3 (some .int)) 3 68 0 0 D (tyz cI cJ cQ) [.ref b0, .int x1] [(b0, .inr (7, [.ref b1, .ref b2, .ref b3, .int (kp), .int (th), .ref b4, .int (ty), .int (ap), .ref b5, .long (hh)])), (b1, .inl (cI, 424, .inl (sa))), (b2, .inl (cI, 1696, .inl (pa))), (b3, .inl (cI, 424, .inl (ad))), (b4, .inl (cI, 100, .inl (tx))), (b5, .inl (cI, 4, .inl (nb)))] (pstI (nI j) [(b0, .inr (7, [.ref b1, .ref b2, .ref b3, .int (kp), .int (th), .ref b4, .int (ty), .int (ap), .ref b5, .long (hh)])), (b1, .inl (cI, 424, .inl (sa))), (b2, .inl (cI, 1696, .inl (pa))), (b3, .inl (cI, 424, .inl (ad))), (b4, .inl (cI, 100, .inl (tx))), (b5, .inl (cI, 4, .inl (nb)))]) := by
  refine Ct.of RX7 (by decide) rfl (Nat.le_of_ble_eq_true rfl) ?_
  intro p e s m below meth c A C RC
  subst h1
  refine sw_iconst 0 C dX7_atPlace_0 0 (by decide) ?_
  refine sw_istore_n 1 2 C dX7_atPlace_1 rfl rfl ?_
  exact lp_X7_atPlace hE hO j k hj hk C RC (j + 1) 0 (Nat.zero_le _) (by omega) _ rfl
set_option maxHeartbeats 4000000 in
set_option maxRecDepth 100000 in
theorem lp_X7_sentOf {l : Launch} {p : Program} {e : Env} {s : State} {m : MethodId} {args : Array Value} {below : List Frame} {meth : Method} {c : Code} {A : Nat → Prop} {D : va_G} {cI cJ cQ : ClassId} {b0 b1 b2 b3 b4 b5 : Nat} {sa pa ad tx nb : Nat → Int32} {kp th ty ap : Int32} {hh : Int64} {S : StT} {B T : Nat} (hE : mE S sa) (hO : mO B T S) {x : Int32} (C : CC p s m args c cX7_sentOf 4 RX7 (Cond.code yX7_sentOf cX7_sentOf 4 (some .int) :: lw_all) D (tyz cI cJ cQ) A s.heap) (RC : meth.sig.returnType = (some .int) ∧ meth.locks = false ∧ meth.name = yX7_sentOf.name) : ∀ (fu i : Nat), i ≤ zn S → zn S + 1 ≤ i + fu →  ∀ (xa : Int32) (xi : Int32), (xa = nI (ct (isOf (zf S) x) i)) → (xi = nI i) →  sw p l e ({ frames := 1, cells := 0, slots := 0, locals := 22 } : Room) s m args below meth c D A s.heap 4 0 0 (MQ below (ctQ D (tyz cI cJ cQ) A (pstI (nI (ct (isOf (zf S) x) (zn S))) [(b0, .inr (7, [.ref b1, .ref b2, .ref b3, .int (kp), .int (th), .ref b4, .int (ty), .int (ap), .ref b5, .long (hh)])), (b1, .inl (cI, 424, .inl (sa))), (b2, .inl (cI, 1696, .inl (pa))), (b3, .inl (cI, 424, .inl (ad))), (b4, .inl (cI, 100, .inl (tx))), (b5, .inl (cI, 4, .inl (nb)))])) args s 0 0 A) [(b0, .inr (7, [.ref b1, .ref b2, .ref b3, .int (kp), .int (th), .ref b4, .int (ty), .int (ap), .ref b5, .long (hh)])), (b1, .inl (cI, 424, .inl (sa))), (b2, .inl (cI, 1696, .inl (pa))), (b3, .inl (cI, 424, .inl (ad))), (b4, .inl (cI, 100, .inl (tx))), (b5, .inl (cI, 4, .inl (nb)))] 4 [(0, .ref b0), (1, .int x), (2, .int xa), (3, .int xi)] [] := by
  intro fu
  induction fu with
  | zero => intro i h1 h2; exact absurd h2 (by omega)
  | succ fu ih =>
    intro i hi hf  xa xi exa exi
    subst exa exi
    refine sw_iload_n 4 3 C dX7_sentOf_4 rfl rfl ?_
    refine sw_aload_n 5 0 C dX7_sentOf_5 rfl rfl ?_
    refine sw_get 6 0 0 C dX7_sentOf_6 rfl rfl (inA lwX7) (C.w wF_X7_7) rfl rfl rfl ?_
    refine sw_iconst 9 C dX7_sentOf_9 1 (by decide) ?_
    refine sw_ialdN 10 1 0 (1) C dX7_sentOf_10 rfl (by decide) rfl rfl rfl ?_
    refine sw_top hE.n ?_
    refine sw_icmp_ge 11 48 C dX7_sentOf_11 (by decide) (fun c_11 => ?_) (fun c_11 => ?_)
    · obtain hz : i = zn S := by
        have := nI_ge' (by have := hO.n; omega) c_11 (by have := hO.n; omega)
        omega
      refine sw_iload_n 48 2 C dX7_sentOf_48 rfl rfl ?_
      refine sw_iret 49 C RC dX7_sentOf_49 ?_
      exact ⟨by rw [← hz], rfl⟩
    · have hlt : i < zn S := by
        rcases Nat.lt_or_ge i (zn S) with q | q
        · exact q
        · exact absurd (nI_le q (by have := hO.n; omega)) c_11
      refine sw_iload_n 14 2 C dX7_sentOf_14 rfl rfl ?_
      refine sw_aload_n 15 0 C dX7_sentOf_15 rfl rfl ?_
      refine sw_iload_n 16 3 C dX7_sentOf_16 rfl rfl ?_
      refine sw_iconst 17 C dX7_sentOf_17 1 (by decide) ?_
      refine sw_callVIP 18 [0, 1, 2, 3, 4, 5] 2 C dX7_sentOf_18 (ct_X7_ofE l hE i 0 rfl rfl hlt (by decide) hO.n) wK_X7_of wM_X7_32 wN_X7_of wS_X7_X7_of wI_X7 hd_X7_of rfl rfl rfl ⟨rfl, rfl⟩ ⟨Nat.le_of_ble_eq_true rfl, Nat.le_of_ble_eq_true rfl⟩ rfl rfl rfl rfl ?_
      refine sw_iload_n 21 1 C dX7_sentOf_21 rfl rfl ?_
      refine sw_jn2 40 (bI (isOf (zf S) x i)) (fun hj_22 => ?_) ?_
      · refine sw_icmp_eq 22 35 C dX7_sentOf_22 (by decide) (fun c_22 => ?_) (fun c_22 => ?_)
        · refine sw_iconst 35 C dX7_sentOf_35 1 (by decide) ?_
          refine sw_goto 36 40 C dX7_sentOf_36 (by decide) ?_
          exact sw_top (by unfold isOf; rw [decide_eq_true (Or.inl c_22)]; rfl) hj_22
        · refine sw_aload_n 25 0 C dX7_sentOf_25 rfl rfl ?_
          refine sw_iload_n 26 3 C dX7_sentOf_26 rfl rfl ?_
          refine sw_iconst 27 C dX7_sentOf_27 2 (by decide) ?_
          refine sw_callVIP 28 [0, 1, 2, 3, 4, 5] 2 C dX7_sentOf_28 (ct_X7_ofE l hE i 1 rfl rfl hlt (by decide) hO.n) wK_X7_of wM_X7_32 wN_X7_of wS_X7_X7_of wI_X7 hd_X7_of rfl rfl rfl ⟨rfl, rfl⟩ ⟨Nat.le_of_ble_eq_true rfl, Nat.le_of_ble_eq_true rfl⟩ rfl rfl rfl rfl ?_
          refine sw_iload_n 31 1 C dX7_sentOf_31 rfl rfl ?_
          refine sw_icmp_ne 32 39 C dX7_sentOf_32 (by decide) (fun c_32 => ?_) (fun c_32 => ?_)
          · refine sw_iconst 39 C dX7_sentOf_39 0 (by decide) ?_
            exact sw_top (by unfold isOf; rw [decide_eq_false (fun h => h.elim c_22 c_32)]; rfl) hj_22
          · refine sw_iconst 35 C dX7_sentOf_35 1 (by decide) ?_
            refine sw_goto 36 40 C dX7_sentOf_36 (by decide) ?_
            exact sw_top (by unfold isOf; rw [decide_eq_true (Or.inr c_32)]; rfl) hj_22
      refine sw_iadd 40 C dX7_sentOf_40 ?_
      refine sw_istore_n 41 2 C dX7_sentOf_41 rfl rfl ?_
      refine sw_iinc 42 C 1 dX7_sentOf_42 (by decide) rfl rfl ?_
      refine sw_loc (L1 := [(0, .ref _), (1, .int _), (2, .int _), (3, .int _)]) ?_ rfl
      refine sw_goto 45 4 C dX7_sentOf_45 (by decide) ?_
      exact sw_loc (ih (i + 1) (by omega) (by omega) _ _ ct_b (nI_1 i)) rfl
set_option maxHeartbeats 4000000 in
set_option maxRecDepth 100000 in
theorem ct_X7_sentOf (l : Launch) {D : va_G} {cI cJ cQ : ClassId} {b0 b1 b2 b3 b4 b5 : Nat} {sa pa ad tx nb : Nat → Int32} {kp th ty ap : Int32} {hh : Int64} {S : StT} {B T : Nat} (hE : mE S sa) (hO : mO B T S) {x : Int32} : Ct l yX7_sentOf (Cond.code yX7_sentOf cX7_sentOf 4 (some .int)) 1 22 0 0 D (tyz cI cJ cQ) [.ref b0, .int x] [(b0, .inr (7, [.ref b1, .ref b2, .ref b3, .int (kp), .int (th), .ref b4, .int (ty), .int (ap), .ref b5, .long (hh)])), (b1, .inl (cI, 424, .inl (sa))), (b2, .inl (cI, 1696, .inl (pa))), (b3, .inl (cI, 424, .inl (ad))), (b4, .inl (cI, 100, .inl (tx))), (b5, .inl (cI, 4, .inl (nb)))] (pstI (nI (ct (isOf (zf S) x) (zn S))) [(b0, .inr (7, [.ref b1, .ref b2, .ref b3, .int (kp), .int (th), .ref b4, .int (ty), .int (ap), .ref b5, .long (hh)])), (b1, .inl (cI, 424, .inl (sa))), (b2, .inl (cI, 1696, .inl (pa))), (b3, .inl (cI, 424, .inl (ad))), (b4, .inl (cI, 100, .inl (tx))), (b5, .inl (cI, 4, .inl (nb)))]) := by
  refine Ct.of RX7 (by decide) rfl (Nat.le_of_ble_eq_true rfl) ?_
  intro p e s m below meth c A C RC
  refine sw_iconst 0 C dX7_sentOf_0 0 (by decide) ?_
  refine sw_istore_n 1 2 C dX7_sentOf_1 rfl rfl ?_
  refine sw_iconst 2 C dX7_sentOf_2 0 (by decide) ?_
  refine sw_istore_n 3 3 C dX7_sentOf_3 rfl rfl ?_
  exact lp_X7_sentOf hE hO C RC (zn S + 1) 0 (Nat.zero_le _) (by omega) _ _ rfl rfl
set_option maxHeartbeats 4000000 in
set_option maxRecDepth 100000 in
theorem ct_X7_isRoom (l : Launch) {D : va_G} {cI cJ cQ : ClassId} {b0 b1 b2 b3 b4 b5 : Nat} {sa pa ad tx nb : Nat → Int32} {kp th ty ap : Int32} {hh : Int64} {S : StT} {B T : Nat} (hE : mE S sa) (hO : mO B T S) {x y : Int32} : Ct l yX7_isRoom (Cond.code yX7_isRoom cX7_isRoom 3 (some .boolean)) 2 45 0 0 D (tyz cI cJ cQ) [.ref b0, .int x, .int y] [(b0, .inr (7, [.ref b1, .ref b2, .ref b3, .int (kp), .int (th), .ref b4, .int (ty), .int (ap), .ref b5, .long (hh)])), (b1, .inl (cI, 424, .inl (sa))), (b2, .inl (cI, 1696, .inl (pa))), (b3, .inl (cI, 424, .inl (ad))), (b4, .inl (cI, 100, .inl (tx))), (b5, .inl (cI, 4, .inl (nb)))] (pstI (bI (hrf (zf S) (zn S) (zq S) x y)) [(b0, .inr (7, [.ref b1, .ref b2, .ref b3, .int (kp), .int (th), .ref b4, .int (ty), .int (ap), .ref b5, .long (hh)])), (b1, .inl (cI, 424, .inl (sa))), (b2, .inl (cI, 1696, .inl (pa))), (b3, .inl (cI, 424, .inl (ad))), (b4, .inl (cI, 100, .inl (tx))), (b5, .inl (cI, 4, .inl (nb)))]) := by
  refine Ct.of RX7 (by decide) rfl (Nat.le_of_ble_eq_true rfl) ?_
  intro p e s m below meth c A C RC
  refine sw_aload_n 0 0 C dX7_isRoom_0 rfl rfl ?_
  refine sw_get 1 0 0 C dX7_isRoom_1 rfl rfl (inA lwX7) (C.w wF_X7_7) rfl rfl rfl ?_
  refine sw_iconst 4 C dX7_isRoom_4 1 (by decide) ?_
  refine sw_ialdN 5 1 0 (1) C dX7_isRoom_5 rfl (by decide) rfl rfl rfl ?_
  refine sw_top hE.n ?_
  refine sw_bipush 6 C dX7_isRoom_6 40 (by decide) ?_
  refine sw_icmp_ge 8 50 C dX7_isRoom_8 (by decide) (fun c_8 => ?_) (fun c_8 => ?_)
  · refine sw_iconst 50 C dX7_isRoom_50 0 (by decide) ?_
    refine sw_zret 51 C RC rfl dX7_isRoom_51 ?_
    exact ⟨by unfold hrf qal; rw [decide_eq_false (p := zn S < 40) (fun h => absurd c_8 (nI_ge h (by decide)))]; rfl, rfl⟩
  · have hlt : zn S < 40 := (nI_ltI (b := 40) (by have := hO.n; omega) (by decide)).mp (Int32.not_le.mp c_8)
    refine sw_aload_n 11 0 C dX7_isRoom_11 rfl rfl ?_
    refine sw_iload_n 12 1 C dX7_isRoom_12 rfl rfl ?_
    refine sw_callVIP 13 [0, 1, 2, 3, 4, 5] 1 C dX7_isRoom_13 (ct_X7_sentOf l hE hO) wK_X7_sentOf wM_X7_44 wN_X7_sentOf wS_X7_X7_sentOf wI_X7 hd_X7_sentOf rfl rfl rfl ⟨rfl, rfl⟩ ⟨Nat.le_of_ble_eq_true rfl, Nat.le_of_ble_eq_true rfl⟩ rfl rfl rfl rfl ?_
    refine sw_aload_n 16 0 C dX7_isRoom_16 rfl rfl ?_
    refine sw_get 17 0 0 C dX7_isRoom_17 rfl rfl (inA lwX7) (C.w wF_X7_7) rfl rfl rfl ?_
    refine sw_bipush 20 C dX7_isRoom_20 8 (by decide) ?_
    refine sw_ialdN 22 1 0 (8) C dX7_isRoom_22 rfl (by decide) rfl rfl rfl ?_
    refine sw_top hE.q ?_
    refine sw_icmp_ge 23 50 C dX7_isRoom_23 (by decide) (fun c_23 => ?_) (fun c_23 => ?_)
    · refine sw_iconst 50 C dX7_isRoom_50 0 (by decide) ?_
      refine sw_zret 51 C RC rfl dX7_isRoom_51 ?_
      exact ⟨by unfold hrf qal; rw [decide_eq_false (Int32.not_lt.mpr c_23), Bool.and_false, Bool.false_and]; rfl, rfl⟩
    · refine sw_iload_n 26 2 C dX7_isRoom_26 rfl rfl ?_
      refine sw_iconst 27 C dX7_isRoom_27 (-1) (by decide) ?_
      refine sw_icmp_eq 28 46 C dX7_isRoom_28 (by decide) (fun c_28 => ?_) (fun c_28 => ?_)
      · refine sw_iconst 46 C dX7_isRoom_46 1 (by decide) ?_
        refine sw_goto 47 51 C dX7_isRoom_47 (by decide) ?_
        refine sw_zret 51 C RC rfl dX7_isRoom_51 ?_
        exact ⟨by unfold hrf qal; rw [decide_eq_true (Int32.not_le.mp c_23), decide_eq_true hlt, decide_eq_true c_28]; rfl, rfl⟩
      · refine sw_aload_n 31 0 C dX7_isRoom_31 rfl rfl ?_
        refine sw_iload_n 32 2 C dX7_isRoom_32 rfl rfl ?_
        refine sw_callVIP 33 [0, 1, 2, 3, 4, 5] 1 C dX7_isRoom_33 (ct_X7_sentOf l hE hO) wK_X7_sentOf wM_X7_44 wN_X7_sentOf wS_X7_X7_sentOf wI_X7 hd_X7_sentOf rfl rfl rfl ⟨rfl, rfl⟩ ⟨Nat.le_of_ble_eq_true rfl, Nat.le_of_ble_eq_true rfl⟩ rfl rfl rfl rfl ?_
        refine sw_aload_n 36 0 C dX7_isRoom_36 rfl rfl ?_
        refine sw_get 37 0 0 C dX7_isRoom_37 rfl rfl (inA lwX7) (C.w wF_X7_7) rfl rfl rfl ?_
        refine sw_bipush 40 C dX7_isRoom_40 8 (by decide) ?_
        refine sw_ialdN 42 1 0 (8) C dX7_isRoom_42 rfl (by decide) rfl rfl rfl ?_
        refine sw_top hE.q ?_
        refine sw_icmp_ge 43 50 C dX7_isRoom_43 (by decide) (fun c_43 => ?_) (fun c_43 => ?_)
        · refine sw_iconst 50 C dX7_isRoom_50 0 (by decide) ?_
          refine sw_zret 51 C RC rfl dX7_isRoom_51 ?_
          exact ⟨by unfold hrf qal; rw [decide_eq_true (Int32.not_le.mp c_23), decide_eq_true hlt, decide_eq_false c_28, decide_eq_false (Int32.not_lt.mpr c_43)]; rfl, rfl⟩
        · refine sw_iconst 46 C dX7_isRoom_46 1 (by decide) ?_
          refine sw_goto 47 51 C dX7_isRoom_47 (by decide) ?_
          refine sw_zret 51 C RC rfl dX7_isRoom_51 ?_
          exact ⟨by unfold hrf qal; rw [decide_eq_true (Int32.not_le.mp c_23), decide_eq_true hlt, decide_eq_false c_28, decide_eq_true (Int32.not_le.mp c_43)]; rfl, rfl⟩
theorem SI.n {S : StT} (h : SI S) : zn S ≤ 40 := h.1
theorem SI.si {S : StT} (h : SI S) : SI S := h
set_option maxHeartbeats 4000000 in
set_option maxRecDepth 100000 in
theorem ct_X7_backOf (l : Launch) {D : va_G} {cI cJ cQ : ClassId} {b0 b1 b2 b3 b4 b5 : Nat} {sa pa ad tx nb : Nat → Int32} {kp th ty ap : Int32} {hh : Int64} {S : StT} (hE : mE S sa) (hO : SI S) {x1 x2 : Int32} (i w : Nat) (h1 : x1 = nI i) (h2 : x2 = nI w) (hi : i < zn S) (hw : w < 3) : Ct l yX7_backOf (Cond.code yX7_backOf cX7_backOf 4 (some .int)) 1 22 0 0 D (tyz cI cJ cQ) [.ref b0, .int x1, .int x2] [(b0, .inr (7, [.ref b1, .ref b2, .ref b3, .int (kp), .int (th), .ref b4, .int (ty), .int (ap), .ref b5, .long (hh)])), (b1, .inl (cI, 424, .inl (sa))), (b2, .inl (cI, 1696, .inl (pa))), (b3, .inl (cI, 424, .inl (ad))), (b4, .inl (cI, 100, .inl (tx))), (b5, .inl (cI, 4, .inl (nb)))] (pstI (gbk (zf S) (zg S) i w) [(b0, .inr (7, [.ref b1, .ref b2, .ref b3, .int (kp), .int (th), .ref b4, .int (ty), .int (ap), .ref b5, .long (hh)])), (b1, .inl (cI, 424, .inl (sa))), (b2, .inl (cI, 1696, .inl (pa))), (b3, .inl (cI, 424, .inl (ad))), (b4, .inl (cI, 100, .inl (tx))), (b5, .inl (cI, 4, .inl (nb)))]) := by
  refine Ct.of RX7 (by decide) rfl (Nat.le_of_ble_eq_true rfl) ?_
  intro p e s m below meth c A C RC
  subst h1 h2
  refine sw_aload_n 0 0 C dX7_backOf_0 rfl rfl ?_
  refine sw_iload_n 1 1 C dX7_backOf_1 rfl rfl ?_
  refine sw_bipush 2 C dX7_backOf_2 7 (by decide) ?_
  refine sw_callVIP 4 [0, 1, 2, 3, 4, 5] 2 C dX7_backOf_4 (ct_X7_ofE l hE i 6 rfl rfl hi (by decide) hO.n) wK_X7_of wM_X7_32 wN_X7_of wS_X7_X7_of wI_X7 hd_X7_of rfl rfl rfl ⟨rfl, rfl⟩ ⟨Nat.le_of_ble_eq_true rfl, Nat.le_of_ble_eq_true rfl⟩ rfl rfl rfl rfl ?_
  refine sw_istore_n 7 3 C dX7_backOf_7 rfl rfl ?_
  refine sw_iload_n 8 2 C dX7_backOf_8 rfl rfl ?_
  refine sw_if_ne 9 36 C dX7_backOf_9 (by decide) (fun c_9 => ?_) (fun c_9 => ?_)
  · refine sw_iload_n 36 2 C dX7_backOf_36 rfl rfl ?_
    refine sw_iconst 37 C dX7_backOf_37 1 (by decide) ?_
    refine sw_icmp_ne 38 45 C dX7_backOf_38 (by decide) (fun c_38 => ?_) (fun c_38 => ?_)
    · refine sw_iload_n 45 3 C dX7_backOf_45 rfl rfl ?_
      refine sw_iload_n 46 3 C dX7_backOf_46 rfl rfl ?_
      refine sw_iconst 47 C dX7_backOf_47 4 (by decide) ?_
      refine sw_idiv 48 C dX7_backOf_48 (by decide) ?_
      refine sw_isub 49 C dX7_backOf_49 ?_
      refine sw_iret 50 C RC dX7_backOf_50 ?_
      exact ⟨by unfold gbk; rw [if_neg (fun e => c_9 (by rw [e]; rfl)), if_neg (fun e => c_38 (by rw [e]; rfl))], rfl⟩
    · refine sw_iload_n 41 3 C dX7_backOf_41 rfl rfl ?_
      refine sw_goto 42 50 C dX7_backOf_42 (by decide) ?_
      refine sw_iret 50 C RC dX7_backOf_50 ?_
      exact ⟨by unfold gbk; rw [if_neg (fun e => c_9 (by rw [e]; rfl)), if_pos (nI_inj (by omega) (by decide) c_38)], rfl⟩
  · obtain rfl : w = 0 := nI_inj (by omega) (by decide) c_9
    refine sw_aload_n 12 0 C dX7_backOf_12 rfl rfl ?_
    refine sw_iload_n 13 1 C dX7_backOf_13 rfl rfl ?_
    refine sw_iconst 14 C dX7_backOf_14 4 (by decide) ?_
    refine sw_callVIP 15 [0, 1, 2, 3, 4, 5] 2 C dX7_backOf_15 (ct_X7_ofE l hE i 3 rfl rfl hi (by decide) hO.n) wK_X7_of wM_X7_32 wN_X7_of wS_X7_X7_of wI_X7 hd_X7_of rfl rfl rfl ⟨rfl, rfl⟩ ⟨Nat.le_of_ble_eq_true rfl, Nat.le_of_ble_eq_true rfl⟩ rfl rfl rfl rfl ?_
    refine sw_aload_n 18 0 C dX7_backOf_18 rfl rfl ?_
    refine sw_get 19 0 0 C dX7_backOf_19 rfl rfl (inA lwX7) (C.w wF_X7_7) rfl rfl rfl ?_
    refine sw_bipush 22 C dX7_backOf_22 9 (by decide) ?_
    refine sw_ialdN 24 1 0 (9) C dX7_backOf_24 rfl (by decide) rfl rfl rfl ?_
    refine sw_top hE.g ?_
    refine sw_icmp_gt 25 32 C dX7_backOf_25 (by decide) (fun c_25 => ?_) (fun c_25 => ?_)
    · refine sw_iload_n 32 3 C dX7_backOf_32 rfl rfl ?_
      refine sw_iconst 33 C dX7_backOf_33 2 (by decide) ?_
      refine sw_idiv 34 C dX7_backOf_34 (by decide) ?_
      refine sw_iret 35 C RC dX7_backOf_35 ?_
      exact ⟨by unfold gbk; rw [if_pos rfl, if_neg (Int32.not_le.mpr c_25)], rfl⟩
    · refine sw_iconst 28 C dX7_backOf_28 0 (by decide) ?_
      refine sw_goto 29 35 C dX7_backOf_29 (by decide) ?_
      refine sw_iret 35 C RC dX7_backOf_35 ?_
      exact ⟨by unfold gbk; rw [if_pos rfl, if_pos (Int32.not_lt.mp c_25)], rfl⟩
theorem knd_m {f : Nat → Int32} {i : Nat} (h : rOK f i) : knd f i = if 0 < f (i * 8 + 6) then 1 else if f (i * 8 + 1) = -1 then 0 else 2 := by
  unfold knd
  rcases h.2.2.2 with q | q
  · rw [if_pos q, if_pos q]
  · rw [q, if_neg (show ¬ (0 : Int32) < 0 by decide), if_neg (show ¬ (0 : Int32) < 0 by decide)]
set_option maxHeartbeats 4000000 in
set_option maxRecDepth 100000 in
theorem ct_X7_told (l : Launch) {D : va_G} {cI cJ cQ : ClassId} {b0 b1 b2 b3 b4 b5 : Nat} {sa pa ad tx nb : Nat → Int32} {kp th ty ap : Int32} {hh : Int64} {S : StT} {B T : Nat} (hE : mE S sa) (hO : mO B T S) {x1 x2 : Int32} (i w : Nat) (h1 : x1 = nI i) (h2 : x2 = nI w) (hi : i < zn S) (hw : w ≤ 9) : Ct l yX7_told (Cond.code yX7_told cX7_told 3 (some .int)) 3 68 0 0 D (tyz cI cJ cQ) [.ref b0, .int x1, .int x2] [(b0, .inr (7, [.ref b1, .ref b2, .ref b3, .int (kp), .int (th), .ref b4, .int (ty), .int (ap), .ref b5, .long (hh)])), (b1, .inl (cI, 424, .inl (sa))), (b2, .inl (cI, 1696, .inl (pa))), (b3, .inl (cI, 424, .inl (ad))), (b4, .inl (cI, 100, .inl (tx))), (b5, .inl (cI, 4, .inl (nb)))] (pstI (tel (zf S) (zn S) i w) [(b0, .inr (7, [.ref b1, .ref b2, .ref b3, .int (kp), .int (th), .ref b4, .int (ty), .int (ap), .ref b5, .long (hh)])), (b1, .inl (cI, 424, .inl (sa))), (b2, .inl (cI, 1696, .inl (pa))), (b3, .inl (cI, 424, .inl (ad))), (b4, .inl (cI, 100, .inl (tx))), (b5, .inl (cI, 4, .inl (nb)))]) := by
  refine Ct.of RX7 (by decide) rfl (Nat.le_of_ble_eq_true rfl) ?_
  intro p e s m below meth c A C RC
  subst h1 h2
  refine sw_iload_n 0 2 C dX7_told_0 rfl rfl ?_
  by_cases e_1_6 : w = 6
  · refine sw_tblIn 1 83 C 0 dX7_told_1 (by rw [e_1_6]; decide) (by decide) rfl (by decide) ?_
    refine sw_aload_n 83 0 C dX7_told_83 rfl rfl ?_
    refine sw_iload_n 84 1 C dX7_told_84 rfl rfl ?_
    refine sw_bipush 85 C dX7_told_85 7 (by decide) ?_
    refine sw_callVIP 87 [0, 1, 2, 3, 4, 5] 2 C dX7_told_87 (ct_X7_ofE l hE i 6 rfl rfl hi (by decide) hO.n) wK_X7_of wM_X7_32 wN_X7_of wS_X7_X7_of wI_X7 hd_X7_of rfl rfl rfl ⟨rfl, rfl⟩ ⟨Nat.le_of_ble_eq_true rfl, Nat.le_of_ble_eq_true rfl⟩ rfl rfl rfl rfl ?_
    refine sw_iret 90 C RC dX7_told_90 ?_
    exact ⟨by rw [e_1_6]; rfl, rfl⟩
  by_cases e_1_7 : w = 7
  · refine sw_tblIn 1 32 C 1 dX7_told_1 (by rw [e_1_7]; decide) (by decide) rfl (by decide) ?_
    refine sw_aload_n 32 0 C dX7_told_32 rfl rfl ?_
    refine sw_iload_n 33 1 C dX7_told_33 rfl rfl ?_
    refine sw_bipush 34 C dX7_told_34 6 (by decide) ?_
    refine sw_callVIP 36 [0, 1, 2, 3, 4, 5] 2 C dX7_told_36 (ct_X7_ofE l hE i 5 rfl rfl hi (by decide) hO.n) wK_X7_of wM_X7_32 wN_X7_of wS_X7_X7_of wI_X7 hd_X7_of rfl rfl rfl ⟨rfl, rfl⟩ ⟨Nat.le_of_ble_eq_true rfl, Nat.le_of_ble_eq_true rfl⟩ rfl rfl rfl rfl ?_
    refine sw_aload_n 39 0 C dX7_told_39 rfl rfl ?_
    refine sw_iload_n 40 1 C dX7_told_40 rfl rfl ?_
    refine sw_iconst 41 C dX7_told_41 4 (by decide) ?_
    refine sw_callVIP 42 [0, 1, 2, 3, 4, 5] 2 C dX7_told_42 (ct_X7_ofE l hE i 3 rfl rfl hi (by decide) hO.n) wK_X7_of wM_X7_32 wN_X7_of wS_X7_X7_of wI_X7 hd_X7_of rfl rfl rfl ⟨rfl, rfl⟩ ⟨Nat.le_of_ble_eq_true rfl, Nat.le_of_ble_eq_true rfl⟩ rfl rfl rfl rfl ?_
    refine sw_isub 45 C dX7_told_45 ?_
    refine sw_iret 46 C RC dX7_told_46 ?_
    exact ⟨by rw [e_1_7]; rfl, rfl⟩
  by_cases e_1_8 : w = 8
  · refine sw_tblIn 1 47 C 2 dX7_told_1 (by rw [e_1_8]; decide) (by decide) rfl (by decide) ?_
    refine sw_aload_n 47 0 C dX7_told_47 rfl rfl ?_
    refine sw_iload_n 48 1 C dX7_told_48 rfl rfl ?_
    refine sw_callVIP 49 [0, 1, 2, 3, 4, 5] 1 C dX7_told_49 (ct_X7_placeOf l hE hO i rfl hi) wK_X7_placeOf wM_X7_40 wN_X7_placeOf wS_X7_X7_placeOf wI_X7 hd_X7_placeOf rfl rfl rfl ⟨rfl, rfl⟩ ⟨Nat.le_of_ble_eq_true rfl, Nat.le_of_ble_eq_true rfl⟩ rfl rfl rfl rfl ?_
    refine sw_iret 52 C RC dX7_told_52 ?_
    exact ⟨by rw [e_1_8]; rfl, rfl⟩
  by_cases e_1_9 : w = 9
  · refine sw_tblIn 1 53 C 3 dX7_told_1 (by rw [e_1_9]; decide) (by decide) rfl (by decide) ?_
    refine sw_aload_n 53 0 C dX7_told_53 rfl rfl ?_
    refine sw_iload_n 54 1 C dX7_told_54 rfl rfl ?_
    refine sw_bipush 55 C dX7_told_55 7 (by decide) ?_
    refine sw_callVIP 57 [0, 1, 2, 3, 4, 5] 2 C dX7_told_57 (ct_X7_ofE l hE i 6 rfl rfl hi (by decide) hO.n) wK_X7_of wM_X7_32 wN_X7_of wS_X7_X7_of wI_X7 hd_X7_of rfl rfl rfl ⟨rfl, rfl⟩ ⟨Nat.le_of_ble_eq_true rfl, Nat.le_of_ble_eq_true rfl⟩ rfl rfl rfl rfl ?_
    refine sw_if_le 60 67 C dX7_told_60 (by decide) (fun c_60 => ?_) (fun c_60 => ?_)
    · refine sw_aload_n 67 0 C dX7_told_67 rfl rfl ?_
      refine sw_iload_n 68 1 C dX7_told_68 rfl rfl ?_
      refine sw_iconst 69 C dX7_told_69 2 (by decide) ?_
      refine sw_callVIP 70 [0, 1, 2, 3, 4, 5] 2 C dX7_told_70 (ct_X7_ofE l hE i 1 rfl rfl hi (by decide) hO.n) wK_X7_of wM_X7_32 wN_X7_of wS_X7_X7_of wI_X7 hd_X7_of rfl rfl rfl ⟨rfl, rfl⟩ ⟨Nat.le_of_ble_eq_true rfl, Nat.le_of_ble_eq_true rfl⟩ rfl rfl rfl rfl ?_
      refine sw_iconst 73 C dX7_told_73 (-1) (by decide) ?_
      refine sw_icmp_ne 74 81 C dX7_told_74 (by decide) (fun c_74 => ?_) (fun c_74 => ?_)
      · refine sw_iconst 81 C dX7_told_81 2 (by decide) ?_
        refine sw_iret 82 C RC dX7_told_82 ?_
        exact ⟨by rw [e_1_9]; show _ = some (Value.int (knd (zf S) i)); rw [knd_m (hO.row i hi), if_neg (Int32.not_lt.mpr c_60), if_neg c_74], rfl⟩
      · refine sw_iconst 77 C dX7_told_77 0 (by decide) ?_
        refine sw_goto 78 82 C dX7_told_78 (by decide) ?_
        refine sw_iret 82 C RC dX7_told_82 ?_
        exact ⟨by rw [e_1_9]; show _ = some (Value.int (knd (zf S) i)); rw [knd_m (hO.row i hi), if_neg (Int32.not_lt.mpr c_60), if_pos c_74], rfl⟩
    · refine sw_iconst 63 C dX7_told_63 1 (by decide) ?_
      refine sw_goto 64 82 C dX7_told_64 (by decide) ?_
      refine sw_iret 82 C RC dX7_told_82 ?_
      exact ⟨by rw [e_1_9]; show _ = some (Value.int (knd (zf S) i)); rw [knd_m (hO.row i hi), if_pos (Int32.not_le.mp c_60)], rfl⟩
  refine sw_tblOut 1 91 C dX7_told_1 (by rw [nI_toInt (by omega)]; omega) (by decide) ?_
  refine sw_aload_n 91 0 C dX7_told_91 rfl rfl ?_
  refine sw_iload_n 92 1 C dX7_told_92 rfl rfl ?_
  refine sw_iload_n 93 2 C dX7_told_93 rfl rfl ?_
  refine sw_iconst 94 C dX7_told_94 1 (by decide) ?_
  refine sw_iadd 95 C dX7_told_95 ?_
  refine sw_callVIP 96 [0, 1, 2, 3, 4, 5] 2 C dX7_told_96 (ct_X7_ofE l hE i w rfl (by rw [nI_1, show cM w = w + 1 from Nat.mod_eq_of_lt (by omega)]) hi (by omega) hO.n) wK_X7_of wM_X7_32 wN_X7_of wS_X7_X7_of wI_X7 hd_X7_of rfl rfl rfl ⟨rfl, rfl⟩ ⟨Nat.le_of_ble_eq_true rfl, Nat.le_of_ble_eq_true rfl⟩ rfl rfl rfl rfl ?_
  refine sw_iret 99 C RC dX7_told_99 ?_
  exact ⟨by unfold tel; rw [if_neg e_1_7, if_neg e_1_8, if_neg e_1_9], rfl⟩
set_option maxHeartbeats 4000000 in
set_option maxRecDepth 100000 in
theorem lp_X7_loudest {l : Launch} {p : Program} {e : Env} {s : State} {m : MethodId} {args : Array Value} {below : List Frame} {meth : Method} {c : Code} {A : Nat → Prop} {D : va_G} {cI cJ cQ : ClassId} {b0 b1 b2 b3 b4 b5 : Nat} {sa pa ad tx nb : Nat → Int32} {kp th ty ap : Int32} {hh : Int64} {S : StT} {B T : Nat} (hE : mE S sa) (hO : mO B T S) (C : CC p s m args c cX7_loudest 3 RX7 (Cond.code yX7_loudest cX7_loudest 3 (some .int) :: lw_all) D (tyz cI cJ cQ) A s.heap) (RC : meth.sig.returnType = (some .int) ∧ meth.locks = false ∧ meth.name = yX7_loudest.name) : ∀ (fu i : Nat), i ≤ zn S → zn S + 1 ≤ i + fu →  ∀ (xa : Int32) (xi : Int32), (xa = ldr (zf S) i) → (xi = nI i) →  sw p l e ({ frames := 1, cells := 0, slots := 0, locals := 22 } : Room) s m args below meth c D A s.heap 3 0 0 (MQ below (ctQ D (tyz cI cJ cQ) A (pstI (ldr (zf S) (zn S)) [(b0, .inr (7, [.ref b1, .ref b2, .ref b3, .int (kp), .int (th), .ref b4, .int (ty), .int (ap), .ref b5, .long (hh)])), (b1, .inl (cI, 424, .inl (sa))), (b2, .inl (cI, 1696, .inl (pa))), (b3, .inl (cI, 424, .inl (ad))), (b4, .inl (cI, 100, .inl (tx))), (b5, .inl (cI, 4, .inl (nb)))])) args s 0 0 A) [(b0, .inr (7, [.ref b1, .ref b2, .ref b3, .int (kp), .int (th), .ref b4, .int (ty), .int (ap), .ref b5, .long (hh)])), (b1, .inl (cI, 424, .inl (sa))), (b2, .inl (cI, 1696, .inl (pa))), (b3, .inl (cI, 424, .inl (ad))), (b4, .inl (cI, 100, .inl (tx))), (b5, .inl (cI, 4, .inl (nb)))] 4 [(0, .ref b0), (1, .int xa), (2, .int xi)] [] := by
  intro fu
  induction fu with
  | zero => intro i h1 h2; exact absurd h2 (by omega)
  | succ fu ih =>
    intro i hi hf  xa xi exa exi
    subst exa exi
    refine sw_iload_n 4 2 C dX7_loudest_4 rfl rfl ?_
    refine sw_aload_n 5 0 C dX7_loudest_5 rfl rfl ?_
    refine sw_get 6 0 0 C dX7_loudest_6 rfl rfl (inA lwX7) (C.w wF_X7_7) rfl rfl rfl ?_
    refine sw_iconst 9 C dX7_loudest_9 1 (by decide) ?_
    refine sw_ialdN 10 1 0 (1) C dX7_loudest_10 rfl (by decide) rfl rfl rfl ?_
    refine sw_top hE.n ?_
    refine sw_icmp_ge 11 41 C dX7_loudest_11 (by decide) (fun c_11 => ?_) (fun c_11 => ?_)
    · obtain hz : i = zn S := by
        have := nI_ge' (by have := hO.n; omega) c_11 (by have := hO.n; omega)
        omega
      refine sw_iload_n 41 1 C dX7_loudest_41 rfl rfl ?_
      refine sw_iret 42 C RC dX7_loudest_42 ?_
      exact ⟨by rw [← hz], rfl⟩
    · have hlt : i < zn S := by
        rcases Nat.lt_or_ge i (zn S) with q | q
        · exact q
        · exact absurd (nI_le q (by have := hO.n; omega)) c_11
      refine sw_aload_n 14 0 C dX7_loudest_14 rfl rfl ?_
      refine sw_iload_n 15 2 C dX7_loudest_15 rfl rfl ?_
      refine sw_iconst 16 C dX7_loudest_16 3 (by decide) ?_
      refine sw_callVIP 17 [0, 1, 2, 3, 4, 5] 2 C dX7_loudest_17 (ct_X7_ofE l hE i 2 rfl rfl hlt (by decide) hO.n) wK_X7_of wM_X7_32 wN_X7_of wS_X7_X7_of wI_X7 hd_X7_of rfl rfl rfl ⟨rfl, rfl⟩ ⟨Nat.le_of_ble_eq_true rfl, Nat.le_of_ble_eq_true rfl⟩ rfl rfl rfl rfl ?_
      refine sw_iload_n 20 1 C dX7_loudest_20 rfl rfl ?_
      refine sw_jn2 34 (ldr (zf S) (i + 1)) (fun hj_21 => ?_) ?_
      · refine sw_icmp_le 21 33 C dX7_loudest_21 (by decide) (fun c_21 => ?_) (fun c_21 => ?_)
        · refine sw_iload_n 33 1 C dX7_loudest_33 rfl rfl ?_
          exact sw_top ((if_neg (Int32.not_lt.mpr c_21)).symm) hj_21
        · refine sw_aload_n 24 0 C dX7_loudest_24 rfl rfl ?_
          refine sw_iload_n 25 2 C dX7_loudest_25 rfl rfl ?_
          refine sw_iconst 26 C dX7_loudest_26 3 (by decide) ?_
          refine sw_callVIP 27 [0, 1, 2, 3, 4, 5] 2 C dX7_loudest_27 (ct_X7_ofE l hE i 2 rfl rfl hlt (by decide) hO.n) wK_X7_of wM_X7_32 wN_X7_of wS_X7_X7_of wI_X7 hd_X7_of rfl rfl rfl ⟨rfl, rfl⟩ ⟨Nat.le_of_ble_eq_true rfl, Nat.le_of_ble_eq_true rfl⟩ rfl rfl rfl rfl ?_
          refine sw_goto 30 34 C dX7_loudest_30 (by decide) ?_
          exact sw_top ((if_pos (Int32.not_le.mp c_21)).symm) hj_21
      refine sw_istore_n 34 1 C dX7_loudest_34 rfl rfl ?_
      refine sw_iinc 35 C 1 dX7_loudest_35 (by decide) rfl rfl ?_
      refine sw_loc (L1 := [(0, .ref _), (1, .int _), (2, .int _)]) ?_ rfl
      refine sw_goto 38 4 C dX7_loudest_38 (by decide) ?_
      exact sw_loc (ih (i + 1) (by omega) (by omega) _ _ rfl (nI_1 i)) rfl
set_option maxHeartbeats 4000000 in
set_option maxRecDepth 100000 in
theorem lp_X7_bribes {l : Launch} {p : Program} {e : Env} {s : State} {m : MethodId} {args : Array Value} {below : List Frame} {meth : Method} {c : Code} {A : Nat → Prop} {D : va_G} {cI cJ cQ : ClassId} {b0 b1 b2 b3 b4 b5 : Nat} {sa pa ad tx nb : Nat → Int32} {kp th ty ap : Int32} {hh : Int64} {S : StT} {B T : Nat} (hE : mE S sa) (hO : mO B T S) (C : CC p s m args c cX7_bribes 3 RX7 (Cond.code yX7_bribes cX7_bribes 3 (some .int) :: lw_all) D (tyz cI cJ cQ) A s.heap) (RC : meth.sig.returnType = (some .int) ∧ meth.locks = false ∧ meth.name = yX7_bribes.name) : ∀ (fu i : Nat), i ≤ zn S → zn S + 1 ≤ i + fu →  ∀ (xa : Int32) (xi : Int32), (xa = smb (zf S) i) → (xi = nI i) →  sw p l e ({ frames := 1, cells := 0, slots := 0, locals := 22 } : Room) s m args below meth c D A s.heap 3 0 0 (MQ below (ctQ D (tyz cI cJ cQ) A (pstI (smb (zf S) (zn S)) [(b0, .inr (7, [.ref b1, .ref b2, .ref b3, .int (kp), .int (th), .ref b4, .int (ty), .int (ap), .ref b5, .long (hh)])), (b1, .inl (cI, 424, .inl (sa))), (b2, .inl (cI, 1696, .inl (pa))), (b3, .inl (cI, 424, .inl (ad))), (b4, .inl (cI, 100, .inl (tx))), (b5, .inl (cI, 4, .inl (nb)))])) args s 0 0 A) [(b0, .inr (7, [.ref b1, .ref b2, .ref b3, .int (kp), .int (th), .ref b4, .int (ty), .int (ap), .ref b5, .long (hh)])), (b1, .inl (cI, 424, .inl (sa))), (b2, .inl (cI, 1696, .inl (pa))), (b3, .inl (cI, 424, .inl (ad))), (b4, .inl (cI, 100, .inl (tx))), (b5, .inl (cI, 4, .inl (nb)))] 4 [(0, .ref b0), (1, .int xa), (2, .int xi)] [] := by
  intro fu
  induction fu with
  | zero => intro i h1 h2; exact absurd h2 (by omega)
  | succ fu ih =>
    intro i hi hf  xa xi exa exi
    subst exa exi
    refine sw_iload_n 4 2 C dX7_bribes_4 rfl rfl ?_
    refine sw_aload_n 5 0 C dX7_bribes_5 rfl rfl ?_
    refine sw_get 6 0 0 C dX7_bribes_6 rfl rfl (inA lwX7) (C.w wF_X7_7) rfl rfl rfl ?_
    refine sw_iconst 9 C dX7_bribes_9 1 (by decide) ?_
    refine sw_ialdN 10 1 0 (1) C dX7_bribes_10 rfl (by decide) rfl rfl rfl ?_
    refine sw_top hE.n ?_
    refine sw_icmp_ge 11 30 C dX7_bribes_11 (by decide) (fun c_11 => ?_) (fun c_11 => ?_)
    · obtain hz : i = zn S := by
        have := nI_ge' (by have := hO.n; omega) c_11 (by have := hO.n; omega)
        omega
      refine sw_iload_n 30 1 C dX7_bribes_30 rfl rfl ?_
      refine sw_iret 31 C RC dX7_bribes_31 ?_
      exact ⟨by rw [← hz], rfl⟩
    · have hlt : i < zn S := by
        rcases Nat.lt_or_ge i (zn S) with q | q
        · exact q
        · exact absurd (nI_le q (by have := hO.n; omega)) c_11
      refine sw_iload_n 14 1 C dX7_bribes_14 rfl rfl ?_
      refine sw_aload_n 15 0 C dX7_bribes_15 rfl rfl ?_
      refine sw_iload_n 16 2 C dX7_bribes_16 rfl rfl ?_
      refine sw_bipush 17 C dX7_bribes_17 7 (by decide) ?_
      refine sw_callVIP 19 [0, 1, 2, 3, 4, 5] 2 C dX7_bribes_19 (ct_X7_ofE l hE i 6 rfl rfl hlt (by decide) hO.n) wK_X7_of wM_X7_32 wN_X7_of wS_X7_X7_of wI_X7 hd_X7_of rfl rfl rfl ⟨rfl, rfl⟩ ⟨Nat.le_of_ble_eq_true rfl, Nat.le_of_ble_eq_true rfl⟩ rfl rfl rfl rfl ?_
      refine sw_iadd 22 C dX7_bribes_22 ?_
      refine sw_istore_n 23 1 C dX7_bribes_23 rfl rfl ?_
      refine sw_iinc 24 C 1 dX7_bribes_24 (by decide) rfl rfl ?_
      refine sw_loc (L1 := [(0, .ref _), (1, .int _), (2, .int _)]) ?_ rfl
      refine sw_goto 27 4 C dX7_bribes_27 (by decide) ?_
      exact sw_loc (ih (i + 1) (by omega) (by omega) _ _ rfl (nI_1 i)) rfl
set_option maxHeartbeats 4000000 in
set_option maxRecDepth 100000 in
theorem ct_X7_loudest (l : Launch) {D : va_G} {cI cJ cQ : ClassId} {b0 b1 b2 b3 b4 b5 : Nat} {sa pa ad tx nb : Nat → Int32} {kp th ty ap : Int32} {hh : Int64} {S : StT} {B T : Nat} (hE : mE S sa) (hO : mO B T S) : Ct l yX7_loudest (Cond.code yX7_loudest cX7_loudest 3 (some .int)) 1 22 0 0 D (tyz cI cJ cQ) [.ref b0] [(b0, .inr (7, [.ref b1, .ref b2, .ref b3, .int (kp), .int (th), .ref b4, .int (ty), .int (ap), .ref b5, .long (hh)])), (b1, .inl (cI, 424, .inl (sa))), (b2, .inl (cI, 1696, .inl (pa))), (b3, .inl (cI, 424, .inl (ad))), (b4, .inl (cI, 100, .inl (tx))), (b5, .inl (cI, 4, .inl (nb)))] (pstI (ldr (zf S) (zn S)) [(b0, .inr (7, [.ref b1, .ref b2, .ref b3, .int (kp), .int (th), .ref b4, .int (ty), .int (ap), .ref b5, .long (hh)])), (b1, .inl (cI, 424, .inl (sa))), (b2, .inl (cI, 1696, .inl (pa))), (b3, .inl (cI, 424, .inl (ad))), (b4, .inl (cI, 100, .inl (tx))), (b5, .inl (cI, 4, .inl (nb)))]) := by
  refine Ct.of RX7 (by decide) rfl (Nat.le_of_ble_eq_true rfl) ?_
  intro p e s m below meth c A C RC
  refine sw_iconst 0 C dX7_loudest_0 (-1) (by decide) ?_
  refine sw_istore_n 1 1 C dX7_loudest_1 rfl rfl ?_
  refine sw_iconst 2 C dX7_loudest_2 0 (by decide) ?_
  refine sw_istore_n 3 2 C dX7_loudest_3 rfl rfl ?_
  exact lp_X7_loudest hE hO C RC (zn S + 1) 0 (Nat.zero_le _) (by omega) _ _ rfl rfl
set_option maxHeartbeats 4000000 in
set_option maxRecDepth 100000 in
theorem ct_X7_bribes (l : Launch) {D : va_G} {cI cJ cQ : ClassId} {b0 b1 b2 b3 b4 b5 : Nat} {sa pa ad tx nb : Nat → Int32} {kp th ty ap : Int32} {hh : Int64} {S : StT} {B T : Nat} (hE : mE S sa) (hO : mO B T S) : Ct l yX7_bribes (Cond.code yX7_bribes cX7_bribes 3 (some .int)) 1 22 0 0 D (tyz cI cJ cQ) [.ref b0] [(b0, .inr (7, [.ref b1, .ref b2, .ref b3, .int (kp), .int (th), .ref b4, .int (ty), .int (ap), .ref b5, .long (hh)])), (b1, .inl (cI, 424, .inl (sa))), (b2, .inl (cI, 1696, .inl (pa))), (b3, .inl (cI, 424, .inl (ad))), (b4, .inl (cI, 100, .inl (tx))), (b5, .inl (cI, 4, .inl (nb)))] (pstI (smb (zf S) (zn S)) [(b0, .inr (7, [.ref b1, .ref b2, .ref b3, .int (kp), .int (th), .ref b4, .int (ty), .int (ap), .ref b5, .long (hh)])), (b1, .inl (cI, 424, .inl (sa))), (b2, .inl (cI, 1696, .inl (pa))), (b3, .inl (cI, 424, .inl (ad))), (b4, .inl (cI, 100, .inl (tx))), (b5, .inl (cI, 4, .inl (nb)))]) := by
  refine Ct.of RX7 (by decide) rfl (Nat.le_of_ble_eq_true rfl) ?_
  intro p e s m below meth c A C RC
  refine sw_iconst 0 C dX7_bribes_0 0 (by decide) ?_
  refine sw_istore_n 1 1 C dX7_bribes_1 rfl rfl ?_
  refine sw_iconst 2 C dX7_bribes_2 0 (by decide) ?_
  refine sw_istore_n 3 2 C dX7_bribes_3 rfl rfl ?_
  exact lp_X7_bribes hE hO C RC (zn S + 1) 0 (Nat.zero_le _) (by omega) _ _ rfl rfl
theorem sv_m (S : StT) {m : Nat → Int32} (hE : mE S m) (w : Nat) (h : 2 ≤ w) (h2 : w ≤ 7) : m w = fig (zq S) (zg S) (zv S) (zt S) (zp S) (zk S) (zn S) (zl S) (zf S) (zlv S) (zbk S) w := by
  rcases (show w = 2 ∨ w = 3 ∨ w = 4 ∨ w = 5 ∨ w = 6 ∨ w = 7 by omega) with q | q | q | q | q | q <;> subst q
  · exact hE.p
  · exact hE.v 0 (by decide)
  · exact hE.v 1 (by decide)
  · exact hE.v 2 (by decide)
  · exact hE.k
  · exact hE.b
set_option maxHeartbeats 4000000 in
set_option maxRecDepth 100000 in
theorem ct_X7_valueTold (l : Launch) {D : va_G} {cI cJ cQ : ClassId} {b0 b1 b2 b3 b4 b5 : Nat} {sa pa ad tx nb : Nat → Int32} {kp th ty ap : Int32} {hh : Int64} {S : StT} {B T : Nat} (hE : mE S sa) (hO : mO B T S) {x : Int32} (w : Nat) (h1 : x = nI w) (hw : w ≤ 13) : Ct l yX7_valueTold (Cond.code yX7_valueTold cX7_valueTold 2 (some .int)) 2 44 0 0 D (tyz cI cJ cQ) [.ref b0, .int x] [(b0, .inr (7, [.ref b1, .ref b2, .ref b3, .int (kp), .int (th), .ref b4, .int (ty), .int (ap), .ref b5, .long (hh)])), (b1, .inl (cI, 424, .inl (sa))), (b2, .inl (cI, 1696, .inl (pa))), (b3, .inl (cI, 424, .inl (ad))), (b4, .inl (cI, 100, .inl (tx))), (b5, .inl (cI, 4, .inl (nb)))] (pstI (fig (zq S) (zg S) (zv S) (zt S) (zp S) (zk S) (zn S) (zl S) (zf S) (zlv S) (zbk S) w) [(b0, .inr (7, [.ref b1, .ref b2, .ref b3, .int (kp), .int (th), .ref b4, .int (ty), .int (ap), .ref b5, .long (hh)])), (b1, .inl (cI, 424, .inl (sa))), (b2, .inl (cI, 1696, .inl (pa))), (b3, .inl (cI, 424, .inl (ad))), (b4, .inl (cI, 100, .inl (tx))), (b5, .inl (cI, 4, .inl (nb)))]) := by
  refine Ct.of RX7 (by decide) rfl (Nat.le_of_ble_eq_true rfl) ?_
  intro p e s m below meth c A C RC
  subst h1
  refine sw_iload_n 0 1 C dX7_valueTold_0 rfl rfl ?_
  by_cases e_1_0 : w = 0
  · refine sw_tblIn 1 72 C 0 dX7_valueTold_1 (by rw [e_1_0]; decide) (by decide) rfl (by decide) ?_
    refine sw_aload_n 72 0 C dX7_valueTold_72 rfl rfl ?_
    refine sw_get 73 0 0 C dX7_valueTold_73 rfl rfl (inA lwX7) (C.w wF_X7_7) rfl rfl rfl ?_
    refine sw_iconst 76 C dX7_valueTold_76 1 (by decide) ?_
    refine sw_ialdN 77 1 0 (1) C dX7_valueTold_77 rfl (by decide) rfl rfl rfl ?_
    refine sw_top hE.n ?_
    refine sw_iret 78 C RC dX7_valueTold_78 ?_
    exact ⟨by rw [e_1_0]; rfl, rfl⟩
  by_cases e_1_1 : w = 1
  · refine sw_tblIn 1 79 C 1 dX7_valueTold_1 (by rw [e_1_1]; decide) (by decide) rfl (by decide) ?_
    refine sw_aload_n 79 0 C dX7_valueTold_79 rfl rfl ?_
    refine sw_get 80 0 0 C dX7_valueTold_80 rfl rfl (inA lwX7) (C.w wF_X7_7) rfl rfl rfl ?_
    refine sw_iconst 83 C dX7_valueTold_83 0 (by decide) ?_
    refine sw_ialdN 84 1 0 (0) C dX7_valueTold_84 rfl (by decide) rfl rfl rfl ?_
    refine sw_top hE.t ?_
    refine sw_iret 85 C RC dX7_valueTold_85 ?_
    exact ⟨by rw [e_1_1]; rfl, rfl⟩
  by_cases e_1_2 : w = 2
  · refine sw_tblIn 1 128 C 2 dX7_valueTold_1 (by rw [e_1_2]; decide) (by decide) rfl (by decide) ?_
    refine sw_aload_n 128 0 C dX7_valueTold_128 rfl rfl ?_
    refine sw_get 129 0 0 C dX7_valueTold_129 rfl rfl (inA lwX7) (C.w wF_X7_7) rfl rfl rfl ?_
    refine sw_iload_n 132 1 C dX7_valueTold_132 rfl rfl ?_
    refine sw_ialdN 133 1 0 (w) C dX7_valueTold_133 rfl (by omega) rfl rfl rfl ?_
    refine sw_iret 134 C RC dX7_valueTold_134 ?_
    exact ⟨by rw [← sv_m S hE w (by omega) (by omega)], rfl⟩
  by_cases e_1_3 : w = 3
  · refine sw_tblIn 1 128 C 3 dX7_valueTold_1 (by rw [e_1_3]; decide) (by decide) rfl (by decide) ?_
    refine sw_aload_n 128 0 C dX7_valueTold_128 rfl rfl ?_
    refine sw_get 129 0 0 C dX7_valueTold_129 rfl rfl (inA lwX7) (C.w wF_X7_7) rfl rfl rfl ?_
    refine sw_iload_n 132 1 C dX7_valueTold_132 rfl rfl ?_
    refine sw_ialdN 133 1 0 (w) C dX7_valueTold_133 rfl (by omega) rfl rfl rfl ?_
    refine sw_iret 134 C RC dX7_valueTold_134 ?_
    exact ⟨by rw [← sv_m S hE w (by omega) (by omega)], rfl⟩
  by_cases e_1_4 : w = 4
  · refine sw_tblIn 1 128 C 4 dX7_valueTold_1 (by rw [e_1_4]; decide) (by decide) rfl (by decide) ?_
    refine sw_aload_n 128 0 C dX7_valueTold_128 rfl rfl ?_
    refine sw_get 129 0 0 C dX7_valueTold_129 rfl rfl (inA lwX7) (C.w wF_X7_7) rfl rfl rfl ?_
    refine sw_iload_n 132 1 C dX7_valueTold_132 rfl rfl ?_
    refine sw_ialdN 133 1 0 (w) C dX7_valueTold_133 rfl (by omega) rfl rfl rfl ?_
    refine sw_iret 134 C RC dX7_valueTold_134 ?_
    exact ⟨by rw [← sv_m S hE w (by omega) (by omega)], rfl⟩
  by_cases e_1_5 : w = 5
  · refine sw_tblIn 1 128 C 5 dX7_valueTold_1 (by rw [e_1_5]; decide) (by decide) rfl (by decide) ?_
    refine sw_aload_n 128 0 C dX7_valueTold_128 rfl rfl ?_
    refine sw_get 129 0 0 C dX7_valueTold_129 rfl rfl (inA lwX7) (C.w wF_X7_7) rfl rfl rfl ?_
    refine sw_iload_n 132 1 C dX7_valueTold_132 rfl rfl ?_
    refine sw_ialdN 133 1 0 (w) C dX7_valueTold_133 rfl (by omega) rfl rfl rfl ?_
    refine sw_iret 134 C RC dX7_valueTold_134 ?_
    exact ⟨by rw [← sv_m S hE w (by omega) (by omega)], rfl⟩
  by_cases e_1_6 : w = 6
  · refine sw_tblIn 1 128 C 6 dX7_valueTold_1 (by rw [e_1_6]; decide) (by decide) rfl (by decide) ?_
    refine sw_aload_n 128 0 C dX7_valueTold_128 rfl rfl ?_
    refine sw_get 129 0 0 C dX7_valueTold_129 rfl rfl (inA lwX7) (C.w wF_X7_7) rfl rfl rfl ?_
    refine sw_iload_n 132 1 C dX7_valueTold_132 rfl rfl ?_
    refine sw_ialdN 133 1 0 (w) C dX7_valueTold_133 rfl (by omega) rfl rfl rfl ?_
    refine sw_iret 134 C RC dX7_valueTold_134 ?_
    exact ⟨by rw [← sv_m S hE w (by omega) (by omega)], rfl⟩
  by_cases e_1_7 : w = 7
  · refine sw_tblIn 1 128 C 7 dX7_valueTold_1 (by rw [e_1_7]; decide) (by decide) rfl (by decide) ?_
    refine sw_aload_n 128 0 C dX7_valueTold_128 rfl rfl ?_
    refine sw_get 129 0 0 C dX7_valueTold_129 rfl rfl (inA lwX7) (C.w wF_X7_7) rfl rfl rfl ?_
    refine sw_iload_n 132 1 C dX7_valueTold_132 rfl rfl ?_
    refine sw_ialdN 133 1 0 (w) C dX7_valueTold_133 rfl (by omega) rfl rfl rfl ?_
    refine sw_iret 134 C RC dX7_valueTold_134 ?_
    exact ⟨by rw [← sv_m S hE w (by omega) (by omega)], rfl⟩
  by_cases e_1_8 : w = 8
  · refine sw_tblIn 1 86 C 8 dX7_valueTold_1 (by rw [e_1_8]; decide) (by decide) rfl (by decide) ?_
    refine sw_aload_n 86 0 C dX7_valueTold_86 rfl rfl ?_
    refine sw_callVIP 87 [0, 1, 2, 3, 4, 5] 0 C dX7_valueTold_87 (ct_X7_bribes l hE hO) wK_X7_bribes wM_X7_113 wN_X7_bribes wS_X7_X7_bribes wI_X7 hd_X7_bribes rfl rfl rfl ⟨rfl, rfl⟩ ⟨Nat.le_of_ble_eq_true rfl, Nat.le_of_ble_eq_true rfl⟩ rfl rfl rfl rfl ?_
    refine sw_iret 90 C RC dX7_valueTold_90 ?_
    exact ⟨by rw [e_1_8]; rfl, rfl⟩
  by_cases e_1_9 : w = 9
  · refine sw_tblIn 1 91 C 9 dX7_valueTold_1 (by rw [e_1_9]; decide) (by decide) rfl (by decide) ?_
    refine sw_aload_n 91 0 C dX7_valueTold_91 rfl rfl ?_
    refine sw_callVIP 92 [0, 1, 2, 3, 4, 5] 0 C dX7_valueTold_92 (ct_X7_loudest l hE hO) wK_X7_loudest wM_X7_116 wN_X7_loudest wS_X7_X7_loudest wI_X7 hd_X7_loudest rfl rfl rfl ⟨rfl, rfl⟩ ⟨Nat.le_of_ble_eq_true rfl, Nat.le_of_ble_eq_true rfl⟩ rfl rfl rfl rfl ?_
    refine sw_iret 95 C RC dX7_valueTold_95 ?_
    exact ⟨by rw [e_1_9]; rfl, rfl⟩
  by_cases e_1_10 : w = 10
  · refine sw_tblIn 1 96 C 10 dX7_valueTold_1 (by rw [e_1_10]; decide) (by decide) rfl (by decide) ?_
    refine sw_aload_n 96 0 C dX7_valueTold_96 rfl rfl ?_
    refine sw_get 97 0 0 C dX7_valueTold_97 rfl rfl (inA lwX7) (C.w wF_X7_7) rfl rfl rfl ?_
    refine sw_bipush 100 C dX7_valueTold_100 11 (by decide) ?_
    refine sw_ialdN 102 1 0 (11) C dX7_valueTold_102 rfl (by decide) rfl rfl rfl ?_
    refine sw_top hE.l ?_
    refine sw_iret 103 C RC dX7_valueTold_103 ?_
    exact ⟨by rw [e_1_10]; rfl, rfl⟩
  by_cases e_1_11 : w = 11
  · refine sw_tblIn 1 104 C 11 dX7_valueTold_1 (by rw [e_1_11]; decide) (by decide) rfl (by decide) ?_
    refine sw_aload_n 104 0 C dX7_valueTold_104 rfl rfl ?_
    refine sw_get 105 0 0 C dX7_valueTold_105 rfl rfl (inA lwX7) (C.w wF_X7_7) rfl rfl rfl ?_
    refine sw_bipush 108 C dX7_valueTold_108 8 (by decide) ?_
    refine sw_ialdN 110 1 0 (8) C dX7_valueTold_110 rfl (by decide) rfl rfl rfl ?_
    refine sw_top hE.q ?_
    refine sw_iret 111 C RC dX7_valueTold_111 ?_
    exact ⟨by rw [e_1_11]; rfl, rfl⟩
  by_cases e_1_12 : w = 12
  · refine sw_tblIn 1 112 C 12 dX7_valueTold_1 (by rw [e_1_12]; decide) (by decide) rfl (by decide) ?_
    refine sw_aload_n 112 0 C dX7_valueTold_112 rfl rfl ?_
    refine sw_get 113 0 0 C dX7_valueTold_113 rfl rfl (inA lwX7) (C.w wF_X7_7) rfl rfl rfl ?_
    refine sw_bipush 116 C dX7_valueTold_116 9 (by decide) ?_
    refine sw_ialdN 118 1 0 (9) C dX7_valueTold_118 rfl (by decide) rfl rfl rfl ?_
    refine sw_top hE.g ?_
    refine sw_iret 119 C RC dX7_valueTold_119 ?_
    exact ⟨by rw [e_1_12]; rfl, rfl⟩
  by_cases e_1_13 : w = 13
  · refine sw_tblIn 1 120 C 13 dX7_valueTold_1 (by rw [e_1_13]; decide) (by decide) rfl (by decide) ?_
    refine sw_aload_n 120 0 C dX7_valueTold_120 rfl rfl ?_
    refine sw_get 121 0 0 C dX7_valueTold_121 rfl rfl (inA lwX7) (C.w wF_X7_7) rfl rfl rfl ?_
    refine sw_bipush 124 C dX7_valueTold_124 10 (by decide) ?_
    refine sw_ialdN 126 1 0 (10) C dX7_valueTold_126 rfl (by decide) rfl rfl rfl ?_
    refine sw_top hE.w ?_
    refine sw_iret 127 C RC dX7_valueTold_127 ?_
    exact ⟨by rw [e_1_13]; rfl, rfl⟩
  refine sw_tblOut 1 128 C dX7_valueTold_1 (by rw [nI_toInt (by omega)]; omega) (by decide) ?_
  refine sw_aload_n 128 0 C dX7_valueTold_128 rfl rfl ?_
  refine sw_get 129 0 0 C dX7_valueTold_129 rfl rfl (inA lwX7) (C.w wF_X7_7) rfl rfl rfl ?_
  refine sw_iload_n 132 1 C dX7_valueTold_132 rfl rfl ?_
  refine sw_ialdN 133 1 0 (w) C dX7_valueTold_133 rfl (by omega) rfl rfl rfl ?_
  refine sw_iret 134 C RC dX7_valueTold_134 ?_
  exact ⟨by rw [← sv_m S hE w (by omega) (by omega)], rfl⟩
