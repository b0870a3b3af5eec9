/-! the digest -/
def dgI (f : Nat → Int32) (b : Nat) (h : Int64) : Nat → Int64
  | 0 => h
  | w + 1 => 31 * dgI f b h w + (f (b + w)).toInt64
def dgL (f : Nat → Int32) (h : Int64) : Nat → Int64
  | 0 => h
  | i + 1 => dgI f (i * 5) (dgL f h i) 5
set_option maxHeartbeats 4000000 in
set_option maxRecDepth 100000 in
theorem lp_X6_mixLogI {l : Launch} {p : Program} {e : Env} {s : State} {m : MethodId} {args : Array Value} {below : List Frame} {meth : Method} {c : Code} {A : Nat → Prop} {D : va_G} {cI cJ cQ : ClassId} {x0a a0 a1 a2 a3 a4 a5 a6 a7 tr0 s0 r0 w0 : Nat} {S : StT} (hS : SI S) {h0 : Int64} (i : Nat) (hti : i < zl S) (C : CC p s m args c cX6_mixLog 7 RX6 (Cond.code yX6_mixLog cX6_mixLog 7 (some .long) :: lw_all) D (tyz cI cJ cQ) A s.heap) (RC : meth.sig.returnType = (some .long) ∧ meth.locks = false ∧ meth.name = yX6_mixLog.name) : ∀ (fu j : Nat), j ≤ 5 → 5 + 1 ≤ j + fu → (sw p l e ({ frames := 1, cells := 0, slots := 0, locals := 23 } : Room) s m args below meth c D A s.heap 7 0 0 (MQ below (ctQ D (tyz cI cJ cQ) A (pstL (dgL (zlg S) h0 (zl S)) (flatS [[(x0a, .inr (6, [.ref a0, .ref tr0, .ref s0, .ref r0, .ref w0]))], (wSt a0 a1 a2 a3 a4 a5 a6 a7 cI (S))]))) args s 0 0 A) (flatS [[(x0a, .inr (6, [.ref a0, .ref tr0, .ref s0, .ref r0, .ref w0]))], (wSt a0 a1 a2 a3 a4 a5 a6 a7 cI (S))]) 5 [(0, .ref x0a), (1, .long h0), (3, .long (dgL (zlg S) h0 (i + 1))), (5, .int (nI (i + 1)))] []) → ∀ (xa : Int64) (xi : Int32), (xa = dgI (zlg S) (i * 5) (dgL (zlg S) h0 i) j) → (xi = nI j) →  sw p l e ({ frames := 1, cells := 0, slots := 0, locals := 23 } : Room) s m args below meth c D A s.heap 7 0 0 (MQ below (ctQ D (tyz cI cJ cQ) A (pstL (dgL (zlg S) h0 (zl S)) (flatS [[(x0a, .inr (6, [.ref a0, .ref tr0, .ref s0, .ref r0, .ref w0]))], (wSt a0 a1 a2 a3 a4 a5 a6 a7 cI (S))]))) args s 0 0 A) (flatS [[(x0a, .inr (6, [.ref a0, .ref tr0, .ref s0, .ref r0, .ref w0]))], (wSt a0 a1 a2 a3 a4 a5 a6 a7 cI (S))]) 23 [(0, .ref x0a), (1, .long h0), (3, .long xa), (5, .int (nI i)), (6, .int xi)] [] := by
  intro fu
  induction fu with
  | zero => intro j h1 h2; exact absurd h2 (by omega)
  | succ fu ih =>
    intro j hi hf hk xa xi exa exi
    subst exa exi
    refine sw_iload 23 C dX6_mixLog_23 rfl ?_
    refine sw_iconst 25 C dX6_mixLog_25 5 (by decide) ?_
    refine sw_icmp_ge 26 54 C dX6_mixLog_26 (by decide) (fun c_26 => ?_) (fun c_26 => ?_)
    · obtain rfl : j = 5 := by
        have c : nI 5 ≤ nI j := c_26
        have := nI_ge' (by omega) c (by omega)
        omega
      refine sw_iinc 54 C 1 dX6_mixLog_54 (by decide) rfl rfl ?_
      refine sw_goto 57 5 C dX6_mixLog_57 (by decide) ?_
      refine sw_loc (L1 := [(0, .ref x0a), (1, .long h0), (3, .long (dgL (zlg S) h0 (i + 1))), (5, .int (nI (i + 1)))]) hk (by rw [← nI_1]; rfl)
    · have hlt : j < 5 := by
        rcases Nat.lt_or_ge j 5 with q | q
        · exact q
        · exact absurd (show (5 : Int32) ≤ nI j from nI_le (a := 5) q (by omega)) c_26
      refine sw_lload_n 29 3 C dX6_mixLog_29 rfl rfl ?_
      refine sw_aload_n 30 0 C dX6_mixLog_30 rfl rfl ?_
      refine sg_get 31 0 0 0 C dX6_mixLog_31 rfl rfl rfl (inA lwX6) (C.w wF_X6_10) rfl rfl rfl ?_
      refine sg_get 34 1 0 5 C dX6_mixLog_34 rfl rfl rfl (inA lwX4) (C.w wF_X6_134) rfl rfl rfl ?_
      refine sw_iload 37 C dX6_mixLog_37 rfl ?_
      refine sw_iload 39 C dX6_mixLog_39 rfl ?_
      refine sg_callVIP 41 [1] 2 4 C dX6_mixLog_41 ((ct_X0_at l i j rfl rfl hti hlt hS.2.1).liftIP (ws := (wSt a0 a1 a2 a3 a4 a5 a6 a7 cI (S))) [4, 5] rfl rfl rfl) wK_X0_at wM_X6_143 wN_X0_at wS_X0_X0_at wI_X0 hd_X0_at rfl rfl rfl ⟨rfl, rfl⟩ ⟨Nat.le_of_ble_eq_true rfl, Nat.le_of_ble_eq_true rfl⟩ rfl rfl rfl rfl ?_
      refine sg_callSLP 44 [] 2 C dX6_mixLog_44 (ct_X6_mix l) wK_X6_mix wM_X6_205 wT_X6_mix wI_X6 hd_X6_mix rfl ⟨rfl, rfl⟩ ⟨Nat.le_of_ble_eq_true rfl, Nat.le_of_ble_eq_true rfl⟩ rfl rfl rfl rfl ?_
      refine sw_lstore_n 47 3 C dX6_mixLog_47 rfl rfl ?_
      refine sw_iinc 48 C 1 dX6_mixLog_48 (by decide) rfl rfl ?_
      refine sw_loc (L1 := [(0, .ref _), (1, .long _), (3, .long _), (5, .int _), (6, .int _)]) ?_ rfl
      refine sw_goto 51 23 C dX6_mixLog_51 (by decide) ?_
      exact sw_loc (ih (j + 1) (by omega) (by omega) hk _ _ rfl (nI_1 j)) rfl
set_option maxHeartbeats 4000000 in
set_option maxRecDepth 100000 in
theorem lp_X6_mixLog {l : Launch} {p : Program} {e : Env} {s : State} {m : MethodId} {args : Array Value} {below : List Frame} {meth : Method} {c : Code} {A : Nat → Prop} {D : va_G} {cI cJ cQ : ClassId} {x0a a0 a1 a2 a3 a4 a5 a6 a7 tr0 s0 r0 w0 : Nat} {S : StT} (hS : SI S) {h0 : Int64} (C : CC p s m args c cX6_mixLog 7 RX6 (Cond.code yX6_mixLog cX6_mixLog 7 (some .long) :: lw_all) D (tyz cI cJ cQ) A s.heap) (RC : meth.sig.returnType = (some .long) ∧ meth.locks = false ∧ meth.name = yX6_mixLog.name) : ∀ (fu i : Nat), i ≤ zl S → zl S + 1 ≤ i + fu →  ∀ (xa : Int64) (xi : Int32), (xa = dgL (zlg S) h0 i) → (xi = nI i) →  sw p l e ({ frames := 1, cells := 0, slots := 0, locals := 23 } : Room) s m args below meth c D A s.heap 7 0 0 (MQ below (ctQ D (tyz cI cJ cQ) A (pstL (dgL (zlg S) h0 (zl S)) (flatS [[(x0a, .inr (6, [.ref a0, .ref tr0, .ref s0, .ref r0, .ref w0]))], (wSt a0 a1 a2 a3 a4 a5 a6 a7 cI (S))]))) args s 0 0 A) (flatS [[(x0a, .inr (6, [.ref a0, .ref tr0, .ref s0, .ref r0, .ref w0]))], (wSt a0 a1 a2 a3 a4 a5 a6 a7 cI (S))]) 5 [(0, .ref x0a), (1, .long h0), (3, .long xa), (5, .int xi)] [] := by
  intro fu
  induction fu with
  | zero => intro i h1 h2; exact absurd h2 (by omega)
  | succ fu ih =>
    intro i hi hf  xa xi exa exi
    subst exa exi
    refine sw_iload 5 C dX6_mixLog_5 rfl ?_
    refine sw_aload_n 7 0 C dX6_mixLog_7 rfl rfl ?_
    refine sg_get 8 0 0 0 C dX6_mixLog_8 rfl rfl rfl (inA lwX6) (C.w wF_X6_10) rfl rfl rfl ?_
    refine sg_get 11 1 0 5 C dX6_mixLog_11 rfl rfl rfl (inA lwX4) (C.w wF_X6_134) rfl rfl rfl ?_
    refine sg_get 14 1 4 0 C dX6_mixLog_14 rfl rfl rfl (inA lwX0) (C.w wF_X6_138) rfl rfl rfl ?_
    refine sw_icmp_ge 17 60 C dX6_mixLog_17 (by decide) (fun c_17 => ?_) (fun c_17 => ?_)
    · obtain hz : i = zl S := by have := nI_ge' (by have := hS.2.1; omega) c_17 (by have := hS.2.1; omega); omega
      refine sw_lload_n 60 3 C dX6_mixLog_60 rfl rfl ?_
      refine sw_lret 61 C RC dX6_mixLog_61 ?_
      exact ⟨by rw [← hz], rfl⟩
    · have hlt : i < zl S := by
        rcases Nat.lt_or_ge i (zl S) with q | q
        · exact q
        · exact absurd (nI_le q (by have := hS.2.1; omega)) c_17
      refine sw_iconst 20 C dX6_mixLog_20 0 (by decide) ?_
      refine sw_istore 21 C dX6_mixLog_21 rfl ?_
      exact sw_loc (lp_X6_mixLogI hS i hlt C RC 6 0 (by decide) (by decide) (ih (i + 1) hlt (by omega) _ _ rfl rfl) _ _ rfl rfl) rfl
set_option maxHeartbeats 4000000 in
set_option maxRecDepth 100000 in
theorem ct_X6_mixLog (l : Launch) {D : va_G} {cI cJ cQ : ClassId} {x0a a0 a1 a2 a3 a4 a5 a6 a7 tr0 s0 r0 w0 : Nat} {S : StT} (hS : SI S) {h0 : Int64} : Ct l yX6_mixLog (Cond.code yX6_mixLog cX6_mixLog 7 (some .long)) 1 23 0 0 D (tyz cI cJ cQ) [.ref x0a, .long h0] (flatS [[(x0a, .inr (6, [.ref a0, .ref tr0, .ref s0, .ref r0, .ref w0]))], (wSt a0 a1 a2 a3 a4 a5 a6 a7 cI (S))]) (pstL (dgL (zlg S) h0 (zl S)) (flatS [[(x0a, .inr (6, [.ref a0, .ref tr0, .ref s0, .ref r0, .ref w0]))], (wSt a0 a1 a2 a3 a4 a5 a6 a7 cI (S))])) := by
  refine Ct.of RX6 (by decide) rfl (Nat.le_of_ble_eq_true rfl) ?_
  intro p e s m below meth c A C RC
  refine sw_lload_n 0 1 C dX6_mixLog_0 rfl rfl ?_
  refine sw_lstore_n 1 3 C dX6_mixLog_1 rfl rfl ?_
  refine sw_iconst 2 C dX6_mixLog_2 0 (by decide) ?_
  refine sw_istore 3 C dX6_mixLog_3 rfl ?_
  exact sw_loc (lp_X6_mixLog hS C RC (zl S + 1) 0 (Nat.zero_le _) (by omega) _ _ rfl rfl) rfl
def dgT (f : Nat → Int32) (n r : Nat) (h : Int64) : Nat → Int64
  | 0 => 31 * h + (f (r * 8 + 7)).toInt64
  | w + 1 => 31 * dgT f n r h w + (tel f n r w).toInt64
def dgP (f : Nat → Int32) (n : Nat) (od : Nat → Nat) (h : Int64) : Nat → Int64
  | 0 => h
  | i + 1 => dgT f n (od i) (dgP f n od h i) 10
set_option maxHeartbeats 4000000 in
set_option maxRecDepth 100000 in
theorem lp_X6_mixPetitionsI {l : Launch} {p : Program} {e : Env} {s : State} {m : MethodId} {args : Array Value} {below : List Frame} {meth : Method} {c : Code} {A : Nat → Prop} {D : va_G} {cI cJ cQ : ClassId} {x0a a0 a1 a2 a3 a4 a5 a6 a7 tr0 s0 r0 w0 : Nat} {S : StT} {g : Nat → Int32} {h0 : Int64} {od : Nat → Nat} (hS : SI S) (hg : ∀ i, i < zn S → arrg (zf S) (zn S) g (zn S) i = nI (od i) ∧ od i < zn S) (i : Nat) (hti : i < zn S) (C : CC p s m args c cX6_mixPetitions 8 RX6 (Cond.code yX6_mixPetitions cX6_mixPetitions 8 (some .long) :: lw_all) D (tyz cI cJ cQ) A s.heap) (RC : meth.sig.returnType = (some .long) ∧ meth.locks = false ∧ meth.name = yX6_mixPetitions.name) : ∀ (fu j : Nat), j ≤ 10 → 10 + 1 ≤ j + fu → (sw p l e ({ frames := 4, cells := 0, slots := 0, locals := 95 } : Room) s m args below meth c D A s.heap 8 0 0 (MQ below (ctQ D (tyz cI cJ cQ) A (pstL (dgP (zf S) (zn S) od h0 (zn S)) (flatS [[(x0a, .inr (6, [.ref a0, .ref tr0, .ref s0, .ref r0, .ref w0]))], (wSt a0 a1 a2 a3 a4 a5 a6 a7 cI (S)), [(w0, .inl (cI, 40, .inl (arrg (zf S) (zn S) g (zn S))))]]))) args s 0 0 A) (flatS [[(x0a, .inr (6, [.ref a0, .ref tr0, .ref s0, .ref r0, .ref w0]))], (wSt a0 a1 a2 a3 a4 a5 a6 a7 cI (S)), [(w0, .inl (cI, 40, .inl (arrg (zf S) (zn S) g (zn S))))]]) 19 [(0, .ref x0a), (1, .long h0), (3, .long (dgP (zf S) (zn S) od h0 (i + 1))), (5, .int (nI (i + 1)))] []) → ∀ (xa : Int64) (xi : Int32), (xa = dgT (zf S) (zn S) (od i) (dgP (zf S) (zn S) od h0 i) j) → (xi = nI j) →  sw p l e ({ frames := 4, cells := 0, slots := 0, locals := 95 } : Room) s m args below meth c D A s.heap 8 0 0 (MQ below (ctQ D (tyz cI cJ cQ) A (pstL (dgP (zf S) (zn S) od h0 (zn S)) (flatS [[(x0a, .inr (6, [.ref a0, .ref tr0, .ref s0, .ref r0, .ref w0]))], (wSt a0 a1 a2 a3 a4 a5 a6 a7 cI (S)), [(w0, .inl (cI, 40, .inl (arrg (zf S) (zn S) g (zn S))))]]))) args s 0 0 A) (flatS [[(x0a, .inr (6, [.ref a0, .ref tr0, .ref s0, .ref r0, .ref w0]))], (wSt a0 a1 a2 a3 a4 a5 a6 a7 cI (S)), [(w0, .inl (cI, 40, .inl (arrg (zf S) (zn S) g (zn S))))]]) 75 [(0, .ref x0a), (1, .long h0), (3, .long xa), (5, .int (nI i)), (6, .int (nI (od i))), (7, .int xi)] [] := by
  intro fu
  induction fu with
  | zero => intro j h1 h2; exact absurd h2 (by omega)
  | succ fu ih =>
    intro j hi hf hk xa xi exa exi
    subst exa exi
    refine sw_iload 75 C dX6_mixPetitions_75 rfl ?_
    refine sw_bipush 77 C dX6_mixPetitions_77 9 (by decide) ?_
    refine sw_icmp_gt 79 107 C dX6_mixPetitions_79 (by decide) (fun c_79 => ?_) (fun c_79 => ?_)
    · obtain rfl : j = 10 := by
        have c : nI 9 < nI j := c_79
        have := (nI_ltI (by decide) (by omega)).mp c
        omega
      refine sw_iinc 107 C 1 dX6_mixPetitions_107 (by decide) rfl rfl ?_
      refine sw_goto 110 19 C dX6_mixPetitions_110 (by decide) ?_
      refine sw_loc (L1 := [(0, .ref x0a), (1, .long h0), (3, .long (dgP (zf S) (zn S) od h0 (i + 1))), (5, .int (nI (i + 1)))]) hk (by rw [← nI_1]; rfl)
    · have hlt : j < 10 := by
        rcases Nat.lt_or_ge j 10 with q | q
        · exact q
        · exact absurd ((nI_ltI (a := 9) (b := j) (by decide) (by omega)).mpr (by omega)) c_79
      refine sw_lload_n 82 3 C dX6_mixPetitions_82 rfl rfl ?_
      refine sw_aload_n 83 0 C dX6_mixPetitions_83 rfl rfl ?_
      refine sg_get 84 0 0 0 C dX6_mixPetitions_84 rfl rfl rfl (inA lwX6) (C.w wF_X6_10) rfl rfl rfl ?_
      refine sg_get 87 1 0 4 C dX6_mixPetitions_87 rfl rfl rfl (inA lwX4) (C.w wF_X6_86) rfl rfl rfl ?_
      refine sw_iload 90 C dX6_mixPetitions_90 rfl ?_
      refine sw_iload 92 C dX6_mixPetitions_92 rfl ?_
      refine sg_callVIP 94 [1] 2 2 C dX6_mixPetitions_94 ((ct_X2_tell l (od i) j rfl rfl (hg i hti).2 (by omega) hS.1).liftIP (ws := (wSt a0 a1 a2 a3 a4 a5 a6 a7 cI (S))) [2, 3] rfl rfl rfl) wK_X2_tell wM_X6_116 wN_X2_tell wS_X2_X2_tell wI_X2 hd_X2_tell rfl rfl rfl ⟨rfl, rfl⟩ ⟨Nat.le_of_ble_eq_true rfl, Nat.le_of_ble_eq_true rfl⟩ rfl rfl rfl rfl ?_
      refine sg_callSLP 97 [] 2 C dX6_mixPetitions_97 (ct_X6_mix l) wK_X6_mix wM_X6_205 wT_X6_mix wI_X6 hd_X6_mix rfl ⟨rfl, rfl⟩ ⟨Nat.le_of_ble_eq_true rfl, Nat.le_of_ble_eq_true rfl⟩ rfl rfl rfl rfl ?_
      refine sw_lstore_n 100 3 C dX6_mixPetitions_100 rfl rfl ?_
      refine sw_iinc 101 C 1 dX6_mixPetitions_101 (by decide) rfl rfl ?_
      refine sw_loc (L1 := [(0, .ref _), (1, .long _), (3, .long _), (5, .int _), (6, .int _), (7, .int _)]) ?_ rfl
      refine sw_goto 104 75 C dX6_mixPetitions_104 (by decide) ?_
      exact sw_loc (ih (j + 1) (by omega) (by omega) hk _ _ rfl (nI_1 j)) rfl
set_option maxHeartbeats 4000000 in
set_option maxRecDepth 100000 in
theorem lp_X6_mixPetitions {l : Launch} {p : Program} {e : Env} {s : State} {m : MethodId} {args : Array Value} {below : List Frame} {meth : Method} {c : Code} {A : Nat → Prop} {D : va_G} {cI cJ cQ : ClassId} {x0a a0 a1 a2 a3 a4 a5 a6 a7 tr0 s0 r0 w0 : Nat} {S : StT} {g : Nat → Int32} {h0 : Int64} {od : Nat → Nat} (hS : SI S) (hg : ∀ i, i < zn S → arrg (zf S) (zn S) g (zn S) i = nI (od i) ∧ od i < zn S) (C : CC p s m args c cX6_mixPetitions 8 RX6 (Cond.code yX6_mixPetitions cX6_mixPetitions 8 (some .long) :: lw_all) D (tyz cI cJ cQ) A s.heap) (RC : meth.sig.returnType = (some .long) ∧ meth.locks = false ∧ meth.name = yX6_mixPetitions.name) : ∀ (fu i : Nat), i ≤ zn S → zn S + 1 ≤ i + fu →  ∀ (xa : Int64) (xi : Int32), (xa = dgP (zf S) (zn S) od h0 i) → (xi = nI i) →  sw p l e ({ frames := 4, cells := 0, slots := 0, locals := 95 } : Room) s m args below meth c D A s.heap 8 0 0 (MQ below (ctQ D (tyz cI cJ cQ) A (pstL (dgP (zf S) (zn S) od h0 (zn S)) (flatS [[(x0a, .inr (6, [.ref a0, .ref tr0, .ref s0, .ref r0, .ref w0]))], (wSt a0 a1 a2 a3 a4 a5 a6 a7 cI (S)), [(w0, .inl (cI, 40, .inl (arrg (zf S) (zn S) g (zn S))))]]))) args s 0 0 A) (flatS [[(x0a, .inr (6, [.ref a0, .ref tr0, .ref s0, .ref r0, .ref w0]))], (wSt a0 a1 a2 a3 a4 a5 a6 a7 cI (S)), [(w0, .inl (cI, 40, .inl (arrg (zf S) (zn S) g (zn S))))]]) 19 [(0, .ref x0a), (1, .long h0), (3, .long xa), (5, .int xi)] [] := by
  intro fu
  induction fu with
  | zero => intro i h1 h2; exact absurd h2 (by omega)
  | succ fu ih =>
    intro i hi hf  xa xi exa exi
    subst exa exi
    refine sw_iload 19 C dX6_mixPetitions_19 rfl ?_
    refine sw_aload_n 21 0 C dX6_mixPetitions_21 rfl rfl ?_
    refine sg_get 22 0 0 0 C dX6_mixPetitions_22 rfl rfl rfl (inA lwX6) (C.w wF_X6_10) rfl rfl rfl ?_
    refine sg_get 25 1 0 4 C dX6_mixPetitions_25 rfl rfl rfl (inA lwX4) (C.w wF_X6_86) rfl rfl rfl ?_
    refine sg_get 28 1 2 0 C dX6_mixPetitions_28 rfl rfl rfl (inA lwX2) (C.w wF_X6_90) rfl rfl rfl ?_
    refine sw_icmp_ge 31 113 C dX6_mixPetitions_31 (by decide) (fun c_31 => ?_) (fun c_31 => ?_)
    · obtain hz : i = zn S := by have := nI_ge' (by have := hS.1; omega) c_31 (by have := hS.1; omega); omega
      refine sw_lload_n 113 3 C dX6_mixPetitions_113 rfl rfl ?_
      refine sw_lret 114 C RC dX6_mixPetitions_114 ?_
      exact ⟨by rw [← hz], rfl⟩
    · have hlt : i < zn S := by
        rcases Nat.lt_or_ge i (zn S) with q | q
        · exact q
        · exact absurd (nI_le q (by have := hS.1; omega)) c_31
      have h40 : i < 40 := Nat.lt_of_lt_of_le hlt hS.1
      refine sw_iload 34 C dX6_mixPetitions_34 rfl ?_
      refine sw_aload_n 36 0 C dX6_mixPetitions_36 rfl rfl ?_
      refine sg_get 37 0 0 4 C dX6_mixPetitions_37 rfl rfl rfl (inA lwX6) (C.w wF_X6_33) rfl rfl rfl ?_
      refine sg_alen 40 2 0 0 C 40 dX6_mixPetitions_40 rfl rfl rfl rfl ?_
      refine sw_icmp_ge 41 113 C dX6_mixPetitions_41 (by decide) (fun c_41 => ?_) (fun c_41 => ?_)
      · exact by first | exact absurd c_41 (nI_ge (b := 40) h40 (by decide)) | exact absurd (nI_ge (b := 40) h40 (by decide)) c_41
      refine sw_aload_n 44 0 C dX6_mixPetitions_44 rfl rfl ?_
      refine sg_get 45 0 0 4 C dX6_mixPetitions_45 rfl rfl rfl (inA lwX6) (C.w wF_X6_33) rfl rfl rfl ?_
      refine sw_iload 48 C dX6_mixPetitions_48 rfl ?_
      refine sg_ialdN 50 2 0 0 (i) C dX6_mixPetitions_50 rfl h40 rfl rfl rfl rfl ?_
      refine sw_top (hg i hlt).1 ?_
      refine sw_istore 51 C dX6_mixPetitions_51 rfl ?_
      refine sw_lload_n 53 3 C dX6_mixPetitions_53 rfl rfl ?_
      refine sw_aload_n 54 0 C dX6_mixPetitions_54 rfl rfl ?_
      refine sg_get 55 0 0 0 C dX6_mixPetitions_55 rfl rfl rfl (inA lwX6) (C.w wF_X6_10) rfl rfl rfl ?_
      refine sg_get 58 1 0 4 C dX6_mixPetitions_58 rfl rfl rfl (inA lwX4) (C.w wF_X6_86) rfl rfl rfl ?_
      refine sw_iload 61 C dX6_mixPetitions_61 rfl ?_
      refine sw_bipush 63 C dX6_mixPetitions_63 7 (by decide) ?_
      refine sg_callVIP 65 [1] 2 2 C dX6_mixPetitions_65 ((ct_X2_at l (od i) 7 rfl rfl (hg i hlt).2 (by decide) hS.1).liftIP (ws := (wSt a0 a1 a2 a3 a4 a5 a6 a7 cI (S))) [2, 3] rfl rfl rfl) wK_X2_at wM_X6_125 wN_X2_at wS_X2_X2_at wI_X2 hd_X2_at rfl rfl rfl ⟨rfl, rfl⟩ ⟨Nat.le_of_ble_eq_true rfl, Nat.le_of_ble_eq_true rfl⟩ rfl rfl rfl rfl ?_
      refine sg_callSLP 68 [] 2 C dX6_mixPetitions_68 (ct_X6_mix l) wK_X6_mix wM_X6_205 wT_X6_mix wI_X6 hd_X6_mix rfl ⟨rfl, rfl⟩ ⟨Nat.le_of_ble_eq_true rfl, Nat.le_of_ble_eq_true rfl⟩ rfl rfl rfl rfl ?_
      refine sw_lstore_n 71 3 C dX6_mixPetitions_71 rfl rfl ?_
      refine sw_loc (L1 := [(0, .ref _), (1, .long _), (3, .long _), (5, .int _), (6, .int _)]) ?_ rfl
      refine sw_iconst 72 C dX6_mixPetitions_72 0 (by decide) ?_
      refine sw_istore 73 C dX6_mixPetitions_73 rfl ?_
      exact sw_loc (lp_X6_mixPetitionsI hS hg i hlt C RC 11 0 (by decide) (by decide) (ih (i + 1) hlt (by omega) _ _ rfl rfl) _ _ rfl rfl) rfl
set_option maxHeartbeats 4000000 in
set_option maxRecDepth 100000 in
theorem ct_X6_mixPetitions (l : Launch) {D : va_G} {cI cJ cQ : ClassId} {x0a a0 a1 a2 a3 a4 a5 a6 a7 tr0 s0 r0 w0 : Nat} {S : StT} {g : Nat → Int32} {h0 : Int64} {od : Nat → Nat} (hS : SI S) (hg : ∀ i, i < zn S → arrg (zf S) (zn S) g (zn S) i = nI (od i) ∧ od i < zn S) : Ct l yX6_mixPetitions (Cond.code yX6_mixPetitions cX6_mixPetitions 8 (some .long)) 4 95 0 0 D (tyz cI cJ cQ) [.ref x0a, .long h0] (flatS [[(x0a, .inr (6, [.ref a0, .ref tr0, .ref s0, .ref r0, .ref w0]))], (wSt a0 a1 a2 a3 a4 a5 a6 a7 cI (S)), [(w0, .inl (cI, 40, .inl (g)))]]) (pstL (dgP (zf S) (zn S) od h0 (zn S)) (flatS [[(x0a, .inr (6, [.ref a0, .ref tr0, .ref s0, .ref r0, .ref w0]))], (wSt a0 a1 a2 a3 a4 a5 a6 a7 cI (S)), [(w0, .inl (cI, 40, .inl (arrg (zf S) (zn S) g (zn S))))]])) := by
  refine Ct.of RX6 (by decide) rfl (Nat.le_of_ble_eq_true rfl) ?_
  intro p e s m below meth c A C RC
  refine sw_lload_n 0 1 C dX6_mixPetitions_0 rfl rfl ?_
  refine sw_lstore_n 1 3 C dX6_mixPetitions_1 rfl rfl ?_
  refine sw_aload_n 2 0 C dX6_mixPetitions_2 rfl rfl ?_
  refine sg_get 3 0 0 0 C dX6_mixPetitions_3 rfl rfl rfl (inA lwX6) (C.w wF_X6_10) rfl rfl rfl ?_
  refine sg_get 6 1 0 4 C dX6_mixPetitions_6 rfl rfl rfl (inA lwX4) (C.w wF_X6_86) rfl rfl rfl ?_
  refine sw_aload_n 9 0 C dX6_mixPetitions_9 rfl rfl ?_
  refine sg_get 10 0 0 4 C dX6_mixPetitions_10 rfl rfl rfl (inA lwX6) (C.w wF_X6_33) rfl rfl rfl ?_
  refine sg_callVV 13 [1, 2] 1 2 [_, _] C dX6_mixPetitions_13 (ct_X2_arrange_S l hS.1) wK_X2_arrange wM_X6_121 wN_X2_arrange wS_X2_X2_arrange wI_X2 hd_X2_arrange rfl rfl rfl ⟨rfl, rfl⟩ ⟨Nat.le_of_ble_eq_true rfl, Nat.le_of_ble_eq_true rfl⟩ rfl rfl rfl rfl rfl rfl ?_
  refine sg_segs [_, _, _] rfl ?_
  refine sw_iconst 16 C dX6_mixPetitions_16 0 (by decide) ?_
  refine sw_istore 17 C dX6_mixPetitions_17 rfl ?_
  exact sw_loc (lp_X6_mixPetitions hS hg C RC (zn S + 1) 0 (Nat.zero_le _) (by omega) _ _ rfl rfl) rfl
def dgF (F : Nat → Int32) (h : Int64) : Nat → Int64
  | 0 => h
  | w + 1 => 31 * dgF F h w + (F w).toInt64
set_option maxHeartbeats 4000000 in
set_option maxRecDepth 100000 in
theorem lp_X6_digestC {l : Launch} {p : Program} {e : Env} {s : State} {m : MethodId} {args : Array Value} {below : List Frame} {meth : Method} {c : Code} {A : Nat → Prop} {D : va_G} {cI cJ cQ : ClassId} {x0a a0 a1 a2 a3 a4 a5 a6 a7 tr0 s0 s1 r0 t0 t1 w0 ln cn od : Nat} {by_ : Nat → Int32} {X : RS} {h : Nat → Option Nat} {S : StT} {g : Nat → Int32} {orf : Nat → Nat} (hS : SI S) (hg : ∀ i, i < zn S → arrg (zf S) (zn S) g (zn S) i = nI (orf i) ∧ orf i < zn S) {h0 : Int64} (C : CC p s m args c cX6_digest 4 RX6 (Cond.code yX6_digest cX6_digest 4 (some .long) :: lw_all) D (tyz cI cJ cQ) A s.heap) (RC : meth.sig.returnType = (some .long) ∧ meth.locks = false ∧ meth.name = yX6_digest.name) : ∀ (fu j : Nat), j ≤ 8 → 8 + 1 ≤ j + fu →  ∀ (xa : Int64) (xi : Int32), (xa = dgF (zbk S) h0 j) → (xi = nI j) →  sw p l e ({ frames := 5, cells := 0, slots := 0, locals := 122 } : Room) s m args below meth c D A s.heap 4 0 0 (MQ below (ctQ D (tyz cI cJ cQ) A (pstL (31 * dgL (zlg S) (dgP (zf S) (zn S) orf (dgF (zbk S) h0 8) (zn S)) (zl S) + (nI cn).toInt64) (flatS [[(x0a, .inr (6, [.ref a0, .ref tr0, .ref s0, .ref r0, .ref w0]))], (wSt a0 a1 a2 a3 a4 a5 a6 a7 cI (S)), [(w0, .inl (cI, 40, .inl (arrg (zf S) (zn S) g (zn S))))], [(s0, .inr (3, [.int (nI (cn)), .int (nI (od)), .ref s1])), (s1, .inl (cQ, 4, .inr (.inr (.inr (.inr h)))))], (wRd r0 t0 t1 cI ln by_ X)]))) args s 0 0 A) (flatS [[(x0a, .inr (6, [.ref a0, .ref tr0, .ref s0, .ref r0, .ref w0]))], (wSt a0 a1 a2 a3 a4 a5 a6 a7 cI (S)), [(w0, .inl (cI, 40, .inl (g)))], [(s0, .inr (3, [.int (nI (cn)), .int (nI (od)), .ref s1])), (s1, .inl (cQ, 4, .inr (.inr (.inr (.inr h)))))], (wRd r0 t0 t1 cI ln by_ X)]) 80 [(0, .ref x0a), (1, .long xa), (3, .int xi)] [] := by
  intro fu
  induction fu with
  | zero => intro j h1 h2; exact absurd h2 (by omega)
  | succ fu ih =>
    intro j hi hf  xa xi exa exi
    subst exa exi
    refine sw_iload_n 80 3 C dX6_digest_80 rfl rfl ?_
    refine sw_bipush 81 C dX6_digest_81 8 (by decide) ?_
    refine sw_icmp_ge 83 105 C dX6_digest_83 (by decide) (fun c_83 => ?_) (fun c_83 => ?_)
    · obtain rfl : j = 8 := by
        have c : nI 8 ≤ nI j := c_83
        have := nI_ge' (by omega) c (by omega)
        omega
      refine sw_aload_n 105 0 C dX6_digest_105 rfl rfl ?_
      refine sw_lload_n 106 1 C dX6_digest_106 rfl rfl ?_
      refine sg_callVL 107 [0, 1, 2] 1 0 [_, _, _] C dX6_digest_107 (ct_X6_mixPetitions l hS hg) wK_X6_mixPetitions wM_X6_209 wN_X6_mixPetitions wS_X6_X6_mixPetitions wI_X6 hd_X6_mixPetitions rfl rfl rfl ⟨rfl, rfl⟩ ⟨Nat.le_of_ble_eq_true rfl, Nat.le_of_ble_eq_true rfl⟩ rfl rfl rfl rfl rfl rfl ?_
      refine sg_segs [_, _, _, _, _] rfl ?_
      refine sw_lstore_n 110 1 C dX6_digest_110 rfl rfl ?_
      refine sw_aload_n 111 0 C dX6_digest_111 rfl rfl ?_
      refine sw_lload_n 112 1 C dX6_digest_112 rfl rfl ?_
      refine sg_callVL 113 [0, 1] 1 0 [_, _] C dX6_digest_113 (ct_X6_mixLog l hS) wK_X6_mixLog wM_X6_213 wN_X6_mixLog wS_X6_X6_mixLog wI_X6 hd_X6_mixLog rfl rfl rfl ⟨rfl, rfl⟩ ⟨Nat.le_of_ble_eq_true rfl, Nat.le_of_ble_eq_true rfl⟩ rfl rfl rfl rfl rfl rfl ?_
      refine sg_segs [_, _, _, _, _] rfl ?_
      refine sw_lstore_n 116 1 C dX6_digest_116 rfl rfl ?_
      refine sw_loc (L1 := [(0, .ref _), (1, .long _), (3, .int _)]) ?_ rfl
      refine sw_lload_n 117 1 C dX6_digest_117 rfl rfl ?_
      refine sw_aload_n 118 0 C dX6_digest_118 rfl rfl ?_
      refine sg_get 119 0 0 2 C dX6_digest_119 rfl rfl rfl (inA lwX6) (C.w wF_X6_22) rfl rfl rfl ?_
      refine sg_get 122 3 0 0 C dX6_digest_122 rfl rfl rfl (inA lwX3) (C.w wF_X6_197) rfl rfl rfl ?_
      refine sg_callSLP 125 [] 2 C dX6_digest_125 (ct_X6_mix l) wK_X6_mix wM_X6_205 wT_X6_mix wI_X6 hd_X6_mix rfl ⟨rfl, rfl⟩ ⟨Nat.le_of_ble_eq_true rfl, Nat.le_of_ble_eq_true rfl⟩ rfl rfl rfl rfl ?_
      refine sw_lret 128 C RC dX6_digest_128 ?_
      exact ⟨rfl, rfl⟩
    · have hlt : j < 8 := by
        rcases Nat.lt_or_ge j 8 with q | q
        · exact q
        · exact absurd (show (8 : Int32) ≤ nI j from nI_le (a := 8) q (by omega)) c_83
      refine sw_lload_n 86 1 C dX6_digest_86 rfl rfl ?_
      refine sw_aload_n 87 0 C dX6_digest_87 rfl rfl ?_
      refine sg_get 88 0 0 0 C dX6_digest_88 rfl rfl rfl (inA lwX6) (C.w wF_X6_10) rfl rfl rfl ?_
      refine sw_iload_n 91 3 C dX6_digest_91 rfl rfl ?_
      refine sg_callVIP 92 [1] 1 0 C dX6_digest_92 (ct_X4_givenBackTo l j rfl hlt) wK_X4_givenBackTo wM_X6_131 wN_X4_givenBackTo wS_X4_X4_givenBackTo wI_X4 hd_X4_givenBackTo rfl rfl rfl ⟨rfl, rfl⟩ ⟨Nat.le_of_ble_eq_true rfl, Nat.le_of_ble_eq_true rfl⟩ rfl rfl rfl rfl ?_
      refine sg_callSLP 95 [] 2 C dX6_digest_95 (ct_X6_mix l) wK_X6_mix wM_X6_205 wT_X6_mix wI_X6 hd_X6_mix rfl ⟨rfl, rfl⟩ ⟨Nat.le_of_ble_eq_true rfl, Nat.le_of_ble_eq_true rfl⟩ rfl rfl rfl rfl ?_
      refine sw_lstore_n 98 1 C dX6_digest_98 rfl rfl ?_
      refine sw_iinc 99 C 1 dX6_digest_99 (by decide) rfl rfl ?_
      refine sw_loc (L1 := [(0, .ref _), (1, .long _), (3, .int _)]) ?_ rfl
      refine sw_goto 102 80 C dX6_digest_102 (by decide) ?_
      exact sw_loc (ih (j + 1) (by omega) (by omega) _ _ rfl (nI_1 j)) rfl
set_option maxHeartbeats 4000000 in
set_option maxRecDepth 100000 in
theorem lp_X6_digestB {l : Launch} {p : Program} {e : Env} {s : State} {m : MethodId} {args : Array Value} {below : List Frame} {meth : Method} {c : Code} {A : Nat → Prop} {D : va_G} {cI cJ cQ : ClassId} {x0a a0 a1 a2 a3 a4 a5 a6 a7 tr0 s0 s1 r0 t0 t1 w0 ln cn od : Nat} {by_ : Nat → Int32} {X : RS} {h : Nat → Option Nat} {S : StT} {g : Nat → Int32} {orf : Nat → Nat} (hS : SI S) (hg : ∀ i, i < zn S → arrg (zf S) (zn S) g (zn S) i = nI (orf i) ∧ orf i < zn S) {h0 rz : Int64} (C : CC p s m args c cX6_digest 4 RX6 (Cond.code yX6_digest cX6_digest 4 (some .long) :: lw_all) D (tyz cI cJ cQ) A s.heap) (RC : meth.sig.returnType = (some .long) ∧ meth.locks = false ∧ meth.name = yX6_digest.name) : ∀ (fu j : Nat), j ≤ 4 → 4 + 1 ≤ j + fu → (sw p l e ({ frames := 5, cells := 0, slots := 0, locals := 122 } : Room) s m args below meth c D A s.heap 4 0 0 (MQ below (ctQ D (tyz cI cJ cQ) A (pstL rz (flatS [[(x0a, .inr (6, [.ref a0, .ref tr0, .ref s0, .ref r0, .ref w0]))], (wSt a0 a1 a2 a3 a4 a5 a6 a7 cI (S)), [(w0, .inl (cI, 40, .inl (arrg (zf S) (zn S) g (zn S))))], [(s0, .inr (3, [.int (nI (cn)), .int (nI (od)), .ref s1])), (s1, .inl (cQ, 4, .inr (.inr (.inr (.inr h)))))], (wRd r0 t0 t1 cI ln by_ X)]))) args s 0 0 A) (flatS [[(x0a, .inr (6, [.ref a0, .ref tr0, .ref s0, .ref r0, .ref w0]))], (wSt a0 a1 a2 a3 a4 a5 a6 a7 cI (S)), [(w0, .inl (cI, 40, .inl (g)))], [(s0, .inr (3, [.int (nI (cn)), .int (nI (od)), .ref s1])), (s1, .inl (cQ, 4, .inr (.inr (.inr (.inr h)))))], (wRd r0 t0 t1 cI ln by_ X)]) 80 [(0, .ref x0a), (1, .long (dgF (zpat S) h0 4)), (3, .int 0)] []) → ∀ (xa : Int64) (xi : Int32), (xa = dgF (zpat S) h0 j) → (xi = nI j) →  sw p l e ({ frames := 5, cells := 0, slots := 0, locals := 122 } : Room) s m args below meth c D A s.heap 4 0 0 (MQ below (ctQ D (tyz cI cJ cQ) A (pstL rz (flatS [[(x0a, .inr (6, [.ref a0, .ref tr0, .ref s0, .ref r0, .ref w0]))], (wSt a0 a1 a2 a3 a4 a5 a6 a7 cI (S)), [(w0, .inl (cI, 40, .inl (arrg (zf S) (zn S) g (zn S))))], [(s0, .inr (3, [.int (nI (cn)), .int (nI (od)), .ref s1])), (s1, .inl (cQ, 4, .inr (.inr (.inr (.inr h)))))], (wRd r0 t0 t1 cI ln by_ X)]))) args s 0 0 A) (flatS [[(x0a, .inr (6, [.ref a0, .ref tr0, .ref s0, .ref r0, .ref w0]))], (wSt a0 a1 a2 a3 a4 a5 a6 a7 cI (S)), [(w0, .inl (cI, 40, .inl (g)))], [(s0, .inr (3, [.int (nI (cn)), .int (nI (od)), .ref s1])), (s1, .inl (cQ, 4, .inr (.inr (.inr (.inr h)))))], (wRd r0 t0 t1 cI ln by_ X)]) 46 [(0, .ref x0a), (1, .long xa), (3, .int xi)] [] := by
  intro fu
  induction fu with
  | zero => intro j h1 h2; exact absurd h2 (by omega)
  | succ fu ih =>
    intro j hi hf hk xa xi exa exi
    subst exa exi
    refine sw_iload_n 46 3 C dX6_digest_46 rfl rfl ?_
    refine sw_aload_n 47 0 C dX6_digest_47 rfl rfl ?_
    refine sg_get 48 0 0 0 C dX6_digest_48 rfl rfl rfl (inA lwX6) (C.w wF_X6_10) rfl rfl rfl ?_
    refine sg_get 51 1 0 3 C dX6_digest_51 rfl rfl rfl (inA lwX4) (C.w wF_X6_37) rfl rfl rfl ?_
    refine sg_alen 54 1 1 0 C 4 dX6_digest_54 rfl rfl rfl rfl ?_
    refine sw_icmp_ge 55 78 C dX6_digest_55 (by decide) (fun c_55 => ?_) (fun c_55 => ?_)
    · obtain rfl : j = 4 := by
        have c : nI 4 ≤ nI j := c_55
        have := nI_ge' (by omega) c (by omega)
        omega
      refine sw_iconst 78 C dX6_digest_78 0 (by decide) ?_
      refine sw_istore_n 79 3 C dX6_digest_79 rfl rfl ?_
      exact sw_loc hk rfl
    · have hlt : j < 4 := by
        rcases Nat.lt_or_ge j 4 with q | q
        · exact q
        · exact absurd (show (4 : Int32) ≤ nI j from nI_le (a := 4) q (by omega)) c_55
      refine sw_lload_n 58 1 C dX6_digest_58 rfl rfl ?_
      refine sw_aload_n 59 0 C dX6_digest_59 rfl rfl ?_
      refine sg_get 60 0 0 0 C dX6_digest_60 rfl rfl rfl (inA lwX6) (C.w wF_X6_10) rfl rfl rfl ?_
      refine sg_get 63 1 0 3 C dX6_digest_63 rfl rfl rfl (inA lwX4) (C.w wF_X6_37) rfl rfl rfl ?_
      refine sw_iload_n 66 3 C dX6_digest_66 rfl rfl ?_
      refine sg_ialdN 67 1 1 0 (j) C dX6_digest_67 rfl hlt rfl rfl rfl rfl ?_
      refine sg_callSLP 68 [] 2 C dX6_digest_68 (ct_X6_mix l) wK_X6_mix wM_X6_205 wT_X6_mix wI_X6 hd_X6_mix rfl ⟨rfl, rfl⟩ ⟨Nat.le_of_ble_eq_true rfl, Nat.le_of_ble_eq_true rfl⟩ rfl rfl rfl rfl ?_
      refine sw_lstore_n 71 1 C dX6_digest_71 rfl rfl ?_
      refine sw_iinc 72 C 1 dX6_digest_72 (by decide) rfl rfl ?_
      refine sw_loc (L1 := [(0, .ref _), (1, .long _), (3, .int _)]) ?_ rfl
      refine sw_goto 75 46 C dX6_digest_75 (by decide) ?_
      exact sw_loc (ih (j + 1) (by omega) (by omega) hk _ _ rfl (nI_1 j)) rfl
set_option maxHeartbeats 4000000 in
set_option maxRecDepth 100000 in
theorem lp_X6_digestA {l : Launch} {p : Program} {e : Env} {s : State} {m : MethodId} {args : Array Value} {below : List Frame} {meth : Method} {c : Code} {A : Nat → Prop} {D : va_G} {cI cJ cQ : ClassId} {x0a a0 a1 a2 a3 a4 a5 a6 a7 tr0 s0 s1 r0 t0 t1 w0 ln cn od : Nat} {by_ : Nat → Int32} {X : RS} {h : Nat → Option Nat} {S : StT} {g : Nat → Int32} {orf : Nat → Nat} (hS : SI S) (hg : ∀ i, i < zn S → arrg (zf S) (zn S) g (zn S) i = nI (orf i) ∧ orf i < zn S) {h0 rz : Int64} (C : CC p s m args c cX6_digest 4 RX6 (Cond.code yX6_digest cX6_digest 4 (some .long) :: lw_all) D (tyz cI cJ cQ) A s.heap) (RC : meth.sig.returnType = (some .long) ∧ meth.locks = false ∧ meth.name = yX6_digest.name) : ∀ (fu j : Nat), j ≤ 14 → 14 + 1 ≤ j + fu → (sw p l e ({ frames := 5, cells := 0, slots := 0, locals := 122 } : Room) s m args below meth c D A s.heap 4 0 0 (MQ below (ctQ D (tyz cI cJ cQ) A (pstL rz (flatS [[(x0a, .inr (6, [.ref a0, .ref tr0, .ref s0, .ref r0, .ref w0]))], (wSt a0 a1 a2 a3 a4 a5 a6 a7 cI (S)), [(w0, .inl (cI, 40, .inl (arrg (zf S) (zn S) g (zn S))))], [(s0, .inr (3, [.int (nI (cn)), .int (nI (od)), .ref s1])), (s1, .inl (cQ, 4, .inr (.inr (.inr (.inr h)))))], (wRd r0 t0 t1 cI ln by_ X)]))) args s 0 0 A) (flatS [[(x0a, .inr (6, [.ref a0, .ref tr0, .ref s0, .ref r0, .ref w0]))], (wSt a0 a1 a2 a3 a4 a5 a6 a7 cI (S)), [(w0, .inl (cI, 40, .inl (g)))], [(s0, .inr (3, [.int (nI (cn)), .int (nI (od)), .ref s1])), (s1, .inl (cQ, 4, .inr (.inr (.inr (.inr h)))))], (wRd r0 t0 t1 cI ln by_ X)]) 46 [(0, .ref x0a), (1, .long (dgF (fig (zq S) (zg S) (zv S) (zt S) (zp S) (zk S) (zn S) (zl S) (zf S) (zlv S) (zbk S)) h0 14)), (3, .int 0)] []) → ∀ (xa : Int64) (xi : Int32), (xa = dgF (fig (zq S) (zg S) (zv S) (zt S) (zp S) (zk S) (zn S) (zl S) (zf S) (zlv S) (zbk S)) h0 j) → (xi = nI j) →  sw p l e ({ frames := 5, cells := 0, slots := 0, locals := 122 } : Room) s m args below meth c D A s.heap 4 0 0 (MQ below (ctQ D (tyz cI cJ cQ) A (pstL rz (flatS [[(x0a, .inr (6, [.ref a0, .ref tr0, .ref s0, .ref r0, .ref w0]))], (wSt a0 a1 a2 a3 a4 a5 a6 a7 cI (S)), [(w0, .inl (cI, 40, .inl (arrg (zf S) (zn S) g (zn S))))], [(s0, .inr (3, [.int (nI (cn)), .int (nI (od)), .ref s1])), (s1, .inl (cQ, 4, .inr (.inr (.inr (.inr h)))))], (wRd r0 t0 t1 cI ln by_ X)]))) args s 0 0 A) (flatS [[(x0a, .inr (6, [.ref a0, .ref tr0, .ref s0, .ref r0, .ref w0]))], (wSt a0 a1 a2 a3 a4 a5 a6 a7 cI (S)), [(w0, .inl (cI, 40, .inl (g)))], [(s0, .inr (3, [.int (nI (cn)), .int (nI (od)), .ref s1])), (s1, .inl (cQ, 4, .inr (.inr (.inr (.inr h)))))], (wRd r0 t0 t1 cI ln by_ X)]) 19 [(0, .ref x0a), (1, .long xa), (3, .int xi)] [] := by
  intro fu
  induction fu with
  | zero => intro j h1 h2; exact absurd h2 (by omega)
  | succ fu ih =>
    intro j hi hf hk xa xi exa exi
    subst exa exi
    refine sw_iload_n 19 3 C dX6_digest_19 rfl rfl ?_
    refine sw_bipush 20 C dX6_digest_20 13 (by decide) ?_
    refine sw_icmp_gt 22 44 C dX6_digest_22 (by decide) (fun c_22 => ?_) (fun c_22 => ?_)
    · obtain rfl : j = 14 := by
        have c : nI 13 < nI j := c_22
        have := (nI_ltI (by decide) (by omega)).mp c
        omega
      refine sw_iconst 44 C dX6_digest_44 0 (by decide) ?_
      refine sw_istore_n 45 3 C dX6_digest_45 rfl rfl ?_
      exact sw_loc hk rfl
    · have hlt : j < 14 := by
        rcases Nat.lt_or_ge j 14 with q | q
        · exact q
        · exact absurd ((nI_ltI (a := 13) (b := j) (by decide) (by omega)).mpr (by omega)) c_22
      refine sw_lload_n 25 1 C dX6_digest_25 rfl rfl ?_
      refine sw_aload_n 26 0 C dX6_digest_26 rfl rfl ?_
      refine sg_get 27 0 0 0 C dX6_digest_27 rfl rfl rfl (inA lwX6) (C.w wF_X6_10) rfl rfl rfl ?_
      refine sw_iload_n 30 3 C dX6_digest_30 rfl rfl ?_
      refine sg_callVIP 31 [1] 1 0 C dX6_digest_31 (ct_X4_figure l j rfl (by omega) hS.1) wK_X4_figure wM_X6_144 wN_X4_figure wS_X4_X4_figure wI_X4 hd_X4_figure rfl rfl rfl ⟨rfl, rfl⟩ ⟨Nat.le_of_ble_eq_true rfl, Nat.le_of_ble_eq_true rfl⟩ rfl rfl rfl rfl ?_
      refine sg_callSLP 34 [] 2 C dX6_digest_34 (ct_X6_mix l) wK_X6_mix wM_X6_205 wT_X6_mix wI_X6 hd_X6_mix rfl ⟨rfl, rfl⟩ ⟨Nat.le_of_ble_eq_true rfl, Nat.le_of_ble_eq_true rfl⟩ rfl rfl rfl rfl ?_
      refine sw_lstore_n 37 1 C dX6_digest_37 rfl rfl ?_
      refine sw_iinc 38 C 1 dX6_digest_38 (by decide) rfl rfl ?_
      refine sw_loc (L1 := [(0, .ref _), (1, .long _), (3, .int _)]) ?_ rfl
      refine sw_goto 41 19 C dX6_digest_41 (by decide) ?_
      exact sw_loc (ih (j + 1) (by omega) (by omega) hk _ _ rfl (nI_1 j)) rfl
set_option maxHeartbeats 4000000 in
set_option maxRecDepth 100000 in
theorem ct_X6_digest (l : Launch) {D : va_G} {cI cJ cQ : ClassId} {x0a a0 a1 a2 a3 a4 a5 a6 a7 tr0 s0 s1 r0 t0 t1 w0 ln cn od : Nat} {by_ : Nat → Int32} {X : RS} {h : Nat → Option Nat} {S : StT} {g : Nat → Int32} {orf : Nat → Nat} (hS : SI S) (hg : ∀ i, i < zn S → arrg (zf S) (zn S) g (zn S) i = nI (orf i) ∧ orf i < zn S) : Ct l yX6_digest (Cond.code yX6_digest cX6_digest 4 (some .long)) 5 122 0 0 D (tyz cI cJ cQ) [.ref x0a] (flatS [[(x0a, .inr (6, [.ref a0, .ref tr0, .ref s0, .ref r0, .ref w0]))], (wSt a0 a1 a2 a3 a4 a5 a6 a7 cI (S)), [(w0, .inl (cI, 40, .inl (g)))], [(s0, .inr (3, [.int (nI (cn)), .int (nI (od)), .ref s1])), (s1, .inl (cQ, 4, .inr (.inr (.inr (.inr h)))))], (wRd r0 t0 t1 cI ln by_ X)]) (pstL (31 * dgL (zlg S) (dgP (zf S) (zn S) orf (dgF (zbk S) (dgF (zpat S) (dgF (fig (zq S) (zg S) (zv S) (zt S) (zp S) (zk S) (zn S) (zl S) (zf S) (zlv S) (zbk S)) (31 * 3659 + (nI ln).toInt64) 14) 4) 8) (zn S)) (zl S) + (nI cn).toInt64) (flatS [[(x0a, .inr (6, [.ref a0, .ref tr0, .ref s0, .ref r0, .ref w0]))], (wSt a0 a1 a2 a3 a4 a5 a6 a7 cI (S)), [(w0, .inl (cI, 40, .inl (arrg (zf S) (zn S) g (zn S))))], [(s0, .inr (3, [.int (nI (cn)), .int (nI (od)), .ref s1])), (s1, .inl (cQ, 4, .inr (.inr (.inr (.inr h)))))], (wRd r0 t0 t1 cI ln by_ X)])) := by
  refine Ct.of RX6 (by decide) rfl (Nat.le_of_ble_eq_true rfl) ?_
  intro p e s m below meth c A C RC
  refine sw_ldc2 0 C dX6_digest_0 (C.w wQ_X6_203) ?_
  refine sw_aload_n 3 0 C dX6_digest_3 rfl rfl ?_
  refine sg_get 4 0 0 3 C dX6_digest_4 rfl rfl rfl (inA lwX6) (C.w wF_X6_29) rfl rfl rfl ?_
  refine sg_get 7 4 0 0 C dX6_digest_7 rfl rfl rfl (inA lwX1) (C.w wF_X6_168) rfl rfl rfl ?_
  refine sg_get 10 4 1 0 C dX6_digest_10 rfl rfl rfl (inA lwX5) (C.w wF_X6_178) rfl rfl rfl ?_
  refine sg_callSLP 13 [] 2 C dX6_digest_13 (ct_X6_mix l) wK_X6_mix wM_X6_205 wT_X6_mix wI_X6 hd_X6_mix rfl ⟨rfl, rfl⟩ ⟨Nat.le_of_ble_eq_true rfl, Nat.le_of_ble_eq_true rfl⟩ rfl rfl rfl rfl ?_
  refine sw_lstore_n 16 1 C dX6_digest_16 rfl rfl ?_
  refine sw_iconst 17 C dX6_digest_17 0 (by decide) ?_
  refine sw_istore_n 18 3 C dX6_digest_18 rfl rfl ?_
  exact sw_loc (lp_X6_digestA hS hg C RC 15 0 (by decide) (by decide) (lp_X6_digestB hS hg C RC 5 0 (by decide) (by decide) (lp_X6_digestC hS hg C RC 9 0 (by decide) (by decide) _ _ rfl rfl) _ _ rfl rfl) _ _ rfl rfl) rfl
