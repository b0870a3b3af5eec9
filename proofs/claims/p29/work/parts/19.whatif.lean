theorem ct_X2_arrange_S (l : Launch) {D : va_G} {cI cJ cQ : ClassId} {a0 a1 a2 a3 a4 a5 a6 a7 w0 : Nat} {S : StT} {g : Nat → Int32} (hn : zn S ≤ 40) : Ct l yX2_arrange (Cond.code yX2_arrange cX2_arrange 4 none) 3 72 0 0 D (tyz cI cJ cQ) [.ref a2, .ref w0] (flatS [(wSt a0 a1 a2 a3 a4 a5 a6 a7 cI (S)), [(w0, .inl (cI, 40, .inl (g)))]]) (pstV (flatS [(wSt a0 a1 a2 a3 a4 a5 a6 a7 cI (S)), [(w0, .inl (cI, 40, .inl (arrg (zf S) (zn S) g (zn S))))]])) := (ct_X2_arrange l (a0 := a2) (a1 := a3) (a2 := w0) hn).liftV (ws := flatS [(wSt a0 a1 a2 a3 a4 a5 a6 a7 cI (S)), [(w0, .inl (cI, 40, .inl (g)))]]) [2, 3, 8] rfl rfl rfl rfl
set_option maxHeartbeats 4000000 in
set_option maxRecDepth 100000 in
theorem ct_X6_peek (l : Launch) {D : va_G} {cI cJ cQ : ClassId} {x0a a0 a1 a2 a3 a4 a5 a6 a7 tr0 s0 r0 w0 : Nat} {S : StT} {g : Nat → Int32} {x : Int32} (hS : SI S) (k i : Nat) (h1 : x = nI k) (hk : k < zn S) (hi : i < zn S) (hg : arrg (zf S) (zn S) g (zn S) k = nI i) : Ct l yX6_peek (Cond.code yX6_peek cX6_peek 2 (some .int)) 7 120 0 0 D (tyz cI cJ cQ) [.ref x0a, .int x] (flatS [[(x0a, .inr (6, [.ref a0, .ref tr0, .ref s0, .ref r0, .ref w0]))], (wSt a0 a1 a2 a3 a4 a5 a6 a7 cI (S)), [(w0, .inl (cI, 40, .inl (g)))]]) (pstI (zf S (i * 8 + 7)) (flatS [[(x0a, .inr (6, [.ref a0, .ref tr0, .ref s0, .ref r0, .ref w0]))], (wSt a0 a1 a2 a3 a4 a5 a6 a7 cI (S)), [(w0, .inl (cI, 40, .inl (arrg (zf S) (zn S) g (zn S))))]])) := by
  refine Ct.of RX6 (by decide) rfl (Nat.le_of_ble_eq_true rfl) ?_
  intro p e s m below meth c A C RC
  subst h1
  refine sw_iload_n 0 1 C dX6_peek_0 rfl rfl ?_
  refine sw_if_lt 1 27 C dX6_peek_1 (by decide) (fun c_1 => ?_) (fun c_1 => ?_)
  · exact by first | exact absurd c_1 (nI_pos (by have := hS.1; omega)) | exact absurd (nI_pos (by have := hS.1; omega)) c_1
  refine sw_iload_n 4 1 C dX6_peek_4 rfl rfl ?_
  refine sw_aload_n 5 0 C dX6_peek_5 rfl rfl ?_
  refine sg_get 6 0 0 0 C dX6_peek_6 rfl rfl rfl (inA lwX6) (C.w wF_X6_10) rfl rfl rfl ?_
  refine sg_get 9 1 0 4 C dX6_peek_9 rfl rfl rfl (inA lwX4) (C.w wF_X6_86) rfl rfl rfl ?_
  refine sg_get 12 1 2 0 C dX6_peek_12 rfl rfl rfl (inA lwX2) (C.w wF_X6_90) rfl rfl rfl ?_
  refine sw_icmp_ge 15 27 C dX6_peek_15 (by decide) (fun c_15 => ?_) (fun c_15 => ?_)
  · exact by first | exact absurd c_15 (nI_ge hk (by have := hS.1; omega)) | exact absurd (nI_ge hk (by have := hS.1; omega)) c_15
  refine sw_iload_n 18 1 C dX6_peek_18 rfl rfl ?_
  refine sw_aload_n 19 0 C dX6_peek_19 rfl rfl ?_
  refine sg_get 20 0 0 4 C dX6_peek_20 rfl rfl rfl (inA lwX6) (C.w wF_X6_33) rfl rfl rfl ?_
  refine sg_alen 23 2 0 0 C 40 dX6_peek_23 rfl rfl rfl rfl ?_
  refine sw_icmp_lt 24 37 C dX6_peek_24 (by decide) (fun c_24 => ?_) (fun c_24 => ?_)
  rotate_left
  · exact by first | exact absurd c_24 (nI_lt (Nat.lt_of_lt_of_le hk hS.1) (by decide)) | exact absurd (nI_lt (Nat.lt_of_lt_of_le hk hS.1) (by decide)) c_24
  refine sw_aload_n 37 0 C dX6_peek_37 rfl rfl ?_
  refine sg_get 38 0 0 0 C dX6_peek_38 rfl rfl rfl (inA lwX6) (C.w wF_X6_10) rfl rfl rfl ?_
  refine sg_get 41 1 0 4 C dX6_peek_41 rfl rfl rfl (inA lwX4) (C.w wF_X6_86) rfl rfl rfl ?_
  refine sw_aload_n 44 0 C dX6_peek_44 rfl rfl ?_
  refine sg_get 45 0 0 4 C dX6_peek_45 rfl rfl rfl (inA lwX6) (C.w wF_X6_33) rfl rfl rfl ?_
  refine sg_callVV 48 [1, 2] 1 2 [_, _] C dX6_peek_48 (ct_X2_arrange_S l hS.1) wK_X2_arrange wM_X6_121 wN_X2_arrange wS_X2_X2_arrange wI_X2 hd_X2_arrange rfl rfl rfl ⟨rfl, rfl⟩ ⟨Nat.le_of_ble_eq_true rfl, Nat.le_of_ble_eq_true rfl⟩ rfl rfl rfl rfl rfl rfl ?_
  refine sg_segs [_, _, _] rfl ?_
  refine sw_aload_n 51 0 C dX6_peek_51 rfl rfl ?_
  refine sg_get 52 0 0 0 C dX6_peek_52 rfl rfl rfl (inA lwX6) (C.w wF_X6_10) rfl rfl rfl ?_
  refine sg_get 55 1 0 4 C dX6_peek_55 rfl rfl rfl (inA lwX4) (C.w wF_X6_86) rfl rfl rfl ?_
  refine sw_aload_n 58 0 C dX6_peek_58 rfl rfl ?_
  refine sg_get 59 0 0 4 C dX6_peek_59 rfl rfl rfl (inA lwX6) (C.w wF_X6_33) rfl rfl rfl ?_
  refine sw_iload_n 62 1 C dX6_peek_62 rfl rfl ?_
  refine sg_ialdN 63 2 0 0 (k) C dX6_peek_63 rfl (Nat.lt_of_lt_of_le hk hS.1) rfl rfl rfl rfl ?_
  refine sw_top hg ?_
  refine sw_bipush 64 C dX6_peek_64 7 (by decide) ?_
  refine sg_callVIP 66 [1] 2 2 C dX6_peek_66 ((ct_X2_at l i 7 rfl rfl hi (by decide) hS.1).liftIP (ws := (wSt a0 a1 a2 a3 a4 a5 a6 a7 cI (S))) [2, 3] rfl rfl rfl) wK_X2_at wM_X6_125 wN_X2_at wS_X2_X2_at wI_X2 hd_X2_at rfl rfl rfl ⟨rfl, rfl⟩ ⟨Nat.le_of_ble_eq_true rfl, Nat.le_of_ble_eq_true rfl⟩ rfl rfl rfl rfl ?_
  refine sw_iret 69 C RC dX6_peek_69 ?_
  exact ⟨rfl, rfl⟩
set_option maxHeartbeats 4000000 in
set_option maxRecDepth 100000 in
theorem xt_X6_peek (l : Launch) (hfl : l.stackTraces = false) {D : va_G} {cI cJ cQ : ClassId} {x0a a0 a1 a2 a3 a4 a5 a6 a7 tr0 s0 r0 w0 : Nat} {S : StT} {g : Nat → Int32} {x : Int32} (hS : SI S) (h : x < 0 ∨ nI (zn S) ≤ x) : XCt l yX6_peek (Cond.code yX6_peek cX6_peek 2 (some .int)) 7 120 1 6 D (tyz cI cJ cQ) [.ref x0a, .int x] (flatS [[(x0a, .inr (6, [.ref a0, .ref tr0, .ref s0, .ref r0, .ref w0]))], (wSt a0 a1 a2 a3 a4 a5 a6 a7 cI (S)), [(w0, .inl (cI, 40, .inl (g)))]]) (fun _ _ => False) (fun E => E = "java/lang/IndexOutOfBoundsException") := by
  refine XCt.of RX6 (by decide) rfl (Nat.le_of_ble_eq_true rfl) ?_
  intro p e s m below meth c A C RC XT
  refine sw_iload_n 0 1 C dX6_peek_0 rfl rfl ?_
  refine sw_if_lt 1 27 C dX6_peek_1 (by decide) (fun c_1 => ?_) (fun c_1 => ?_)
  · exact xw_throw 27 40 119 44 C RC XT hfl dX6_peek_27 dX6_peek_30 dX6_peek_31 dX6_peek_33 dX6_peek_36 (by decide +kernel) wC_X6_40 wI_IndexOutOfBoundsException xat_ioe xno_ioe xot_ioe (List.mem_of_getElem? (i := 4) rfl) rfl rfl (Nat.le_of_ble_eq_true rfl) (Nat.le_of_ble_eq_true rfl) (Nat.le_of_ble_eq_true rfl) (Nat.le_of_ble_eq_true rfl) (rfl)
  · refine sw_iload_n 4 1 C dX6_peek_4 rfl rfl ?_
    refine sw_aload_n 5 0 C dX6_peek_5 rfl rfl ?_
    refine sg_get 6 0 0 0 C dX6_peek_6 rfl rfl rfl (inA lwX6) (C.w wF_X6_10) rfl rfl rfl ?_
    refine sg_get 9 1 0 4 C dX6_peek_9 rfl rfl rfl (inA lwX4) (C.w wF_X6_86) rfl rfl rfl ?_
    refine sg_get 12 1 2 0 C dX6_peek_12 rfl rfl rfl (inA lwX2) (C.w wF_X6_90) rfl rfl rfl ?_
    refine sw_icmp_ge 15 27 C dX6_peek_15 (by decide) (fun c_15 => ?_) (fun c_15 => ?_)
    · exact xw_throw 27 40 119 44 C RC XT hfl dX6_peek_27 dX6_peek_30 dX6_peek_31 dX6_peek_33 dX6_peek_36 (by decide +kernel) wC_X6_40 wI_IndexOutOfBoundsException xat_ioe xno_ioe xot_ioe (List.mem_of_getElem? (i := 4) rfl) rfl rfl (Nat.le_of_ble_eq_true rfl) (Nat.le_of_ble_eq_true rfl) (Nat.le_of_ble_eq_true rfl) (Nat.le_of_ble_eq_true rfl) (rfl)
    · exact absurd (h.resolve_left c_1) c_15
def fex (f : Nat → Int32) (n : Nat) : Nat → Int32 × Int32
  | 0 => (201, -1)
  | i + 1 => if tel f n i 7 < (fex f n i).1 then (tel f n i 7, f (i * 8 + 7)) else fex f n i
theorem fex_t {f : Nat → Int32} {n i : Nat} (h : tel f n i 7 < (fex f n i).1) : fex f n (i + 1) = (tel f n i 7, f (i * 8 + 7)) := if_pos h
theorem fex_f {f : Nat → Int32} {n i : Nat} (h : ¬ tel f n i 7 < (fex f n i).1) : fex f n (i + 1) = fex f n i := if_neg h
set_option maxHeartbeats 4000000 in
set_option maxRecDepth 100000 in
theorem lp_X6_firstToExpire {l : Launch} {p : Program} {e : Env} {s : State} {m : MethodId} {args : Array Value} {below : List Frame} {meth : Method} {c : Code} {A : Nat → Prop} {D : va_G} {cI cJ cQ : ClassId} {x0a a0 a1 a2 a3 a4 a5 a6 a7 tr0 s0 r0 w0 : Nat} {S : StT} (hS : SI S) (C : CC p s m args c cX6_firstToExpire 5 RX6 (Cond.code yX6_firstToExpire cX6_firstToExpire 5 (some .int) :: lw_all) D (tyz cI cJ cQ) A s.heap) (RC : meth.sig.returnType = (some .int) ∧ meth.locks = false ∧ meth.name = yX6_firstToExpire.name) : ∀ (fu i : Nat), i ≤ zn S → zn S + 1 ≤ i + fu →  ∀ (xa : Int32) (xb : Int32) (xi : Int32), (xa = (fex (zf S) (zn S) i).1) → (xb = (fex (zf S) (zn S) i).2) → (xi = nI i) →  sw p l e ({ frames := 4, cells := 0, slots := 0, locals := 94 } : Room) s m args below meth c D A s.heap 5 0 0 (MQ below (ctQ D (tyz cI cJ cQ) A (pstI (fex (zf S) (zn S) (zn S)).2 (flatS [[(x0a, .inr (6, [.ref a0, .ref tr0, .ref s0, .ref r0, .ref w0]))], (wSt a0 a1 a2 a3 a4 a5 a6 a7 cI (S))]))) args s 0 0 A) (flatS [[(x0a, .inr (6, [.ref a0, .ref tr0, .ref s0, .ref r0, .ref w0]))], (wSt a0 a1 a2 a3 a4 a5 a6 a7 cI (S))]) 8 [(0, .ref x0a), (1, .int xa), (2, .int xb), (3, .int xi)] [] := by
  intro fu
  induction fu with
  | zero => intro i h1 h2; exact absurd h2 (by omega)
  | succ fu ih =>
    intro i hi hf  xa xb xi exa exb exi
    subst exa exb exi
    refine sw_iload_n 8 3 C dX6_firstToExpire_8 rfl rfl ?_
    refine sw_aload_n 9 0 C dX6_firstToExpire_9 rfl rfl ?_
    refine sg_get 10 0 0 0 C dX6_firstToExpire_10 rfl rfl rfl (inA lwX6) (C.w wF_X6_10) rfl rfl rfl ?_
    refine sg_get 13 1 0 4 C dX6_firstToExpire_13 rfl rfl rfl (inA lwX4) (C.w wF_X6_86) rfl rfl rfl ?_
    refine sg_get 16 1 2 0 C dX6_firstToExpire_16 rfl rfl rfl (inA lwX2) (C.w wF_X6_90) rfl rfl rfl ?_
    refine sw_icmp_ge 19 66 C dX6_firstToExpire_19 (by decide) (fun c_19 => ?_) (fun c_19 => ?_)
    · refine sw_iload_n 66 2 C dX6_firstToExpire_66 rfl rfl ?_
      refine sw_iret 67 C RC dX6_firstToExpire_67 ?_
      exact ⟨by rw [show i = zn S by have := nI_ge' (by have := hS.1; omega) c_19 (by have := hS.1; omega); omega], rfl⟩
    · have hlt : i < zn S := by
        rcases Nat.lt_or_ge i (zn S) with q | q
        · exact q
        · exact absurd (nI_le q (by have := hS.1; omega)) c_19
      refine sw_aload_n 22 0 C dX6_firstToExpire_22 rfl rfl ?_
      refine sg_get 23 0 0 0 C dX6_firstToExpire_23 rfl rfl rfl (inA lwX6) (C.w wF_X6_10) rfl rfl rfl ?_
      refine sg_get 26 1 0 4 C dX6_firstToExpire_26 rfl rfl rfl (inA lwX4) (C.w wF_X6_86) rfl rfl rfl ?_
      refine sw_iload_n 29 3 C dX6_firstToExpire_29 rfl rfl ?_
      refine sw_bipush 30 C dX6_firstToExpire_30 7 (by decide) ?_
      refine sg_callVIP 32 [1] 2 2 C dX6_firstToExpire_32 ((ct_X2_tell l i 7 rfl rfl hlt (by decide) hS.1).liftIP (ws := (wSt a0 a1 a2 a3 a4 a5 a6 a7 cI (S))) [2, 3] rfl rfl rfl) wK_X2_tell wM_X6_116 wN_X2_tell wS_X2_X2_tell wI_X2 hd_X2_tell rfl rfl rfl ⟨rfl, rfl⟩ ⟨Nat.le_of_ble_eq_true rfl, Nat.le_of_ble_eq_true rfl⟩ rfl rfl rfl rfl ?_
      refine sw_istore 35 C dX6_firstToExpire_35 rfl ?_
      refine sw_iload 37 C dX6_firstToExpire_37 rfl ?_
      refine sw_iload_n 39 1 C dX6_firstToExpire_39 rfl rfl ?_
      refine sw_icmp_ge 40 60 C dX6_firstToExpire_40 (by decide) (fun c_40 => ?_) (fun c_40 => ?_)
      · refine sw_iinc 60 C 1 dX6_firstToExpire_60 (by decide) rfl rfl ?_
        refine sw_goto 63 8 C dX6_firstToExpire_63 (by decide) ?_
        exact sw_loc (ih (i + 1) (by omega) (by omega) _ _ _ (by rw [fex_f (Int32.not_lt.mpr c_40)]) (by rw [fex_f (Int32.not_lt.mpr c_40)]) (nI_1 i)) rfl
      · refine sw_iload 43 C dX6_firstToExpire_43 rfl ?_
        refine sw_istore_n 45 1 C dX6_firstToExpire_45 rfl rfl ?_
        refine sw_aload_n 46 0 C dX6_firstToExpire_46 rfl rfl ?_
        refine sg_get 47 0 0 0 C dX6_firstToExpire_47 rfl rfl rfl (inA lwX6) (C.w wF_X6_10) rfl rfl rfl ?_
        refine sg_get 50 1 0 4 C dX6_firstToExpire_50 rfl rfl rfl (inA lwX4) (C.w wF_X6_86) rfl rfl rfl ?_
        refine sw_iload_n 53 3 C dX6_firstToExpire_53 rfl rfl ?_
        refine sw_bipush 54 C dX6_firstToExpire_54 7 (by decide) ?_
        refine sg_callVIP 56 [1] 2 2 C dX6_firstToExpire_56 ((ct_X2_at l i 7 rfl rfl hlt (by decide) hS.1).liftIP (ws := (wSt a0 a1 a2 a3 a4 a5 a6 a7 cI (S))) [2, 3] rfl rfl rfl) wK_X2_at wM_X6_125 wN_X2_at wS_X2_X2_at wI_X2 hd_X2_at rfl rfl rfl ⟨rfl, rfl⟩ ⟨Nat.le_of_ble_eq_true rfl, Nat.le_of_ble_eq_true rfl⟩ rfl rfl rfl rfl ?_
        refine sw_istore_n 59 2 C dX6_firstToExpire_59 rfl rfl ?_
        refine sw_loc (L1 := [(0, .ref _), (1, .int _), (2, .int _), (3, .int _), (4, .int _)]) ?_ rfl
        refine sw_iinc 60 C 1 dX6_firstToExpire_60 (by decide) rfl rfl ?_
        refine sw_goto 63 8 C dX6_firstToExpire_63 (by decide) ?_
        exact sw_loc (ih (i + 1) (by omega) (by omega) _ _ _ (by rw [fex_t (Int32.not_le.mp c_40)]) (by rw [fex_t (Int32.not_le.mp c_40)]) (nI_1 i)) rfl
set_option maxHeartbeats 4000000 in
set_option maxRecDepth 100000 in
theorem ct_X6_firstToExpire (l : Launch) {D : va_G} {cI cJ cQ : ClassId} {x0a a0 a1 a2 a3 a4 a5 a6 a7 tr0 s0 r0 w0 : Nat} {S : StT} (hS : SI S) : Ct l yX6_firstToExpire (Cond.code yX6_firstToExpire cX6_firstToExpire 5 (some .int)) 4 94 0 0 D (tyz cI cJ cQ) [.ref x0a] (flatS [[(x0a, .inr (6, [.ref a0, .ref tr0, .ref s0, .ref r0, .ref w0]))], (wSt a0 a1 a2 a3 a4 a5 a6 a7 cI (S))]) (pstI (fex (zf S) (zn S) (zn S)).2 (flatS [[(x0a, .inr (6, [.ref a0, .ref tr0, .ref s0, .ref r0, .ref w0]))], (wSt a0 a1 a2 a3 a4 a5 a6 a7 cI (S))])) := by
  refine Ct.of RX6 (by decide) rfl (Nat.le_of_ble_eq_true rfl) ?_
  intro p e s m below meth c A C RC
  refine sw_sipush 0 C dX6_firstToExpire_0 201 (by decide) ?_
  refine sw_istore_n 3 1 C dX6_firstToExpire_3 rfl rfl ?_
  refine sw_iconst 4 C dX6_firstToExpire_4 (-1) (by decide) ?_
  refine sw_istore_n 5 2 C dX6_firstToExpire_5 rfl rfl ?_
  refine sw_loc (L1 := [(0, .ref _), (1, .int _), (2, .int _)]) ?_ rfl
  refine sw_iconst 6 C dX6_firstToExpire_6 0 (by decide) ?_
  refine sw_istore_n 7 3 C dX6_firstToExpire_7 rfl rfl ?_
  exact lp_X6_firstToExpire hS C RC (zn S + 1) 0 (Nat.zero_le _) (by omega) _ _ _ rfl rfl rfl
def rkf (i : Nat) : Nat → StT → Int32 × StT
  | 0, T => (zf T (i * 8 + 2), T)
  | k + 1, T => if gexp (zf T) i = true then (-1, groS T i) else rkf i k (groS T i)
theorem rkf_x {i k : Nat} {T : StT} (h : gexp (zf T) i = true) : rkf i (k + 1) T = (-1, groS T i) := if_pos h
theorem rkf_n {i k : Nat} {T : StT} (h : gexp (zf T) i = false) : rkf i (k + 1) T = rkf i k (groS T i) := if_neg (by rw [h]; decide)
set_option maxHeartbeats 4000000 in
set_option maxRecDepth 100000 in
theorem lp_X6_rankIn {l : Launch} {p : Program} {e : Env} {s : State} {m : MethodId} {args : Array Value} {below : List Frame} {meth : Method} {c : Code} {A : Nat → Prop} {D : va_G} {cI cJ cQ : ClassId} {x0a a0 a1 a2 a3 a4 a5 a6 a7 tr0 tr1 tr2 tr3 tr4 tr5 tr6 tr7 s0 r0 w0 : Nat} {S : StT} {i : Nat} {k : Nat} (hk : k ≤ 200) (Z : Int32 × StT) (C : CC p s m args c cX6_rankIn 5 RX6 (Cond.code yX6_rankIn cX6_rankIn 5 (some .int) :: lw_all) D (tyz cI cJ cQ) A s.heap) (RC : meth.sig.returnType = (some .int) ∧ meth.locks = false ∧ meth.name = yX6_rankIn.name) : ∀ (fu j : Nat), j ≤ k → k + 1 ≤ j + fu → ∀ (T : StT), zn T ≤ 40 → i < zn T → rkf i (k - j) T = Z → ∀ (xi : Int32), (xi = nI j) →  sw p l e ({ frames := 8, cells := 0, slots := 0, locals := 142 } : Room) s m args below meth c D A s.heap 5 0 0 (MQ below (ctQ D (tyz cI cJ cQ) A (pstI Z.1 (flatS [[(x0a, .inr (6, [.ref a0, .ref tr0, .ref s0, .ref r0, .ref w0]))], (wSt a0 a1 a2 a3 a4 a5 a6 a7 cI (S)), (wSt tr0 tr1 tr2 tr3 tr4 tr5 tr6 tr7 cI (Z.2))]))) args s 0 0 A) (flatS [[(x0a, .inr (6, [.ref a0, .ref tr0, .ref s0, .ref r0, .ref w0]))], (wSt a0 a1 a2 a3 a4 a5 a6 a7 cI (S)), (wSt tr0 tr1 tr2 tr3 tr4 tr5 tr6 tr7 cI (T))]) 28 [(0, .ref x0a), (2, .int (nI k)), (3, .int (nI i)), (4, .int xi)] [] := by
  intro fu
  induction fu with
  | zero => intro j h1 h2; exact absurd h2 (by omega)
  | succ fu ih =>
    intro j hi hf T hn hin hd xi exi
    subst exi
    refine sw_iload 28 C dX6_rankIn_28 rfl ?_
    refine sw_iload_n 30 2 C dX6_rankIn_30 rfl rfl ?_
    refine sw_icmp_ge 31 53 C dX6_rankIn_31 (by decide) (fun c_31 => ?_) (fun c_31 => ?_)
    · obtain rfl : Z = (zf T (i * 8 + 2), T) := by rw [← hd, show k - j = 0 by have := nI_ge' (by omega) c_31 (by omega); omega]; rfl
      refine sw_aload_n 53 0 C dX6_rankIn_53 rfl rfl ?_
      refine sg_get 54 0 0 1 C dX6_rankIn_54 rfl rfl rfl (inA lwX6) (C.w wF_X6_16) rfl rfl rfl ?_
      refine sg_get 57 2 0 4 C dX6_rankIn_57 rfl rfl rfl (inA lwX4) (C.w wF_X6_86) rfl rfl rfl ?_
      refine sw_iload_n 60 3 C dX6_rankIn_60 rfl rfl ?_
      refine sw_iconst 61 C dX6_rankIn_61 2 (by decide) ?_
      refine sg_callVIP 62 [2] 2 2 C dX6_rankIn_62 ((ct_X2_at l i 2 rfl rfl hin (by decide) hn).liftIP (ws := (wSt tr0 tr1 tr2 tr3 tr4 tr5 tr6 tr7 cI (T))) [2, 3] rfl rfl rfl) wK_X2_at wM_X6_125 wN_X2_at wS_X2_X2_at wI_X2 hd_X2_at rfl rfl rfl ⟨rfl, rfl⟩ ⟨Nat.le_of_ble_eq_true rfl, Nat.le_of_ble_eq_true rfl⟩ rfl rfl rfl rfl ?_
      refine sw_iret 65 C RC dX6_rankIn_65 ?_
      exact ⟨rfl, rfl⟩
    · have hlt : j < k := by
        rcases Nat.lt_or_ge j k with q | q
        · exact q
        · exact absurd (nI_le q (by omega)) c_31
      refine sw_aload_n 34 0 C dX6_rankIn_34 rfl rfl ?_
      refine sg_get 35 0 0 1 C dX6_rankIn_35 rfl rfl rfl (inA lwX6) (C.w wF_X6_16) rfl rfl rfl ?_
      refine sw_iload_n 38 3 C dX6_rankIn_38 rfl rfl ?_
      refine sg_callVI 39 [2] 1 0 [_] C dX6_rankIn_39 (ct_X4_growOlder l i rfl hin hn) wK_X4_growOlder wM_X6_153 wN_X4_growOlder wS_X4_X4_growOlder wI_X4 hd_X4_growOlder rfl rfl rfl ⟨rfl, rfl⟩ ⟨Nat.le_of_ble_eq_true rfl, Nat.le_of_ble_eq_true rfl⟩ rfl rfl rfl rfl rfl rfl ?_
      refine sg_segs [_, _, _] rfl ?_
      refine sw_if_eq 42 47 C dX6_rankIn_42 (by decide) (fun c_42 => ?_) (fun c_42 => ?_)
      · refine sw_iinc 47 C 1 dX6_rankIn_47 (by decide) rfl rfl ?_
        refine sw_goto 50 28 C dX6_rankIn_50 (by decide) ?_
        exact sw_loc (ih (j + 1) (by omega) (by omega) (groS T i) hn hin (by rw [← hd, show k - j = (k - (j + 1)) + 1 by omega]; exact (rkf_n (bI_f c_42)).symm) _ (nI_1 j)) rfl
      · obtain rfl : Z = (-1, groS T i) := by rw [← hd, show k - j = (k - (j + 1)) + 1 by omega]; exact rkf_x (bI_t c_42)
        refine sw_iconst 45 C dX6_rankIn_45 (-1) (by decide) ?_
        refine sw_iret 46 C RC dX6_rankIn_46 ?_
        exact ⟨rfl, rfl⟩
set_option maxHeartbeats 4000000 in
set_option maxRecDepth 100000 in
theorem ct_X6_rankIn (l : Launch) {D : va_G} {cI cJ cQ : ClassId} {x0a a0 a1 a2 a3 a4 a5 a6 a7 tr0 tr1 tr2 tr3 tr4 tr5 tr6 tr7 s0 r0 w0 : Nat} {S T : StT} {x1 x2 : Int32} (hS : SI S) (i : Nat) (hi : fnd (zf S) x1 (zn S) = some i) (k : Nat) (h2 : x2 = nI k) (hk : k ≤ 200) : Ct l yX6_rankIn (Cond.code yX6_rankIn cX6_rankIn 5 (some .int)) 8 142 0 0 D (tyz cI cJ cQ) [.ref x0a, .int x1, .int x2] (flatS [[(x0a, .inr (6, [.ref a0, .ref tr0, .ref s0, .ref r0, .ref w0]))], (wSt a0 a1 a2 a3 a4 a5 a6 a7 cI (S)), (wSt tr0 tr1 tr2 tr3 tr4 tr5 tr6 tr7 cI (T))]) (pstI (rkf i k S).1 (flatS [[(x0a, .inr (6, [.ref a0, .ref tr0, .ref s0, .ref r0, .ref w0]))], (wSt a0 a1 a2 a3 a4 a5 a6 a7 cI (S)), (wSt tr0 tr1 tr2 tr3 tr4 tr5 tr6 tr7 cI ((rkf i k S).2))])) := by
  refine Ct.of RX6 (by decide) rfl (Nat.le_of_ble_eq_true rfl) ?_
  intro p e s m below meth c A C RC
  subst h2
  refine sw_aload_n 0 0 C dX6_rankIn_0 rfl rfl ?_
  refine sw_iload_n 1 1 C dX6_rankIn_1 rfl rfl ?_
  refine sg_callVI 2 [0, 1] 1 0 [_, _] C dX6_rankIn_2 (ct_X6_findRow l hS.1 i hi) wK_X6_findRow wM_X6_78 wN_X6_findRow wS_X6_X6_findRow wI_X6 hd_X6_findRow rfl rfl rfl ⟨rfl, rfl⟩ ⟨Nat.le_of_ble_eq_true rfl, Nat.le_of_ble_eq_true rfl⟩ rfl rfl rfl rfl rfl rfl ?_
  refine sg_segs [_, _, _] rfl ?_
  refine sw_istore_n 5 3 C dX6_rankIn_5 rfl rfl ?_
  refine sw_iload_n 6 2 C dX6_rankIn_6 rfl rfl ?_
  refine sw_iconst 7 C dX6_rankIn_7 0 (by decide) ?_
  refine sw_sipush 8 C dX6_rankIn_8 200 (by decide) ?_
  refine sg_callSV 11 [] 3 [] C dX6_rankIn_11 (ct_X6_checkRange l (inR_nI 0 200 (Nat.zero_le _) hk (by decide))) wK_X6_checkRange wM_X6_47 wT_X6_checkRange wI_X6 hd_X6_checkRange rfl ⟨rfl, rfl⟩ ⟨Nat.le_of_ble_eq_true rfl, Nat.le_of_ble_eq_true rfl⟩ rfl rfl rfl rfl rfl rfl ?_
  refine sg_segs [_, _, _] rfl ?_
  refine sw_aload_n 14 0 C dX6_rankIn_14 rfl rfl ?_
  refine sg_get 15 0 0 1 C dX6_rankIn_15 rfl rfl rfl (inA lwX6) (C.w wF_X6_16) rfl rfl rfl ?_
  refine sw_aload_n 18 0 C dX6_rankIn_18 rfl rfl ?_
  refine sg_get 19 0 0 0 C dX6_rankIn_19 rfl rfl rfl (inA lwX6) (C.w wF_X6_10) rfl rfl rfl ?_
  refine sg_callVV 22 [2, 1] 1 0 [_, _] C dX6_rankIn_22 (ct_X4_copyFrom_S l) wK_X4_copyFrom wM_X6_150 wN_X4_copyFrom wS_X4_X4_copyFrom wI_X4 hd_X4_copyFrom rfl rfl rfl ⟨rfl, rfl⟩ ⟨Nat.le_of_ble_eq_true rfl, Nat.le_of_ble_eq_true rfl⟩ rfl rfl rfl rfl rfl rfl ?_
  refine sg_segs [_, _, _] rfl ?_
  refine sw_iconst 25 C dX6_rankIn_25 0 (by decide) ?_
  refine sw_istore 26 C dX6_rankIn_26 rfl ?_
  exact sw_loc (lp_X6_rankIn hk (rkf i k S) C RC (k + 1) 0 (Nat.zero_le _) (by omega) S hS.1 (fnd_lt _ _ hi) rfl _ rfl) rfl
set_option maxHeartbeats 4000000 in
set_option maxRecDepth 100000 in
theorem xt_X6_rankIn (l : Launch) (hfl : l.stackTraces = false) {D : va_G} {cI cJ cQ : ClassId} {x0a a0 a1 a2 a3 a4 a5 a6 a7 tr0 s0 r0 w0 : Nat} {S : StT} {x1 x2 : Int32} (hS : SI S) (hi : fnd (zf S) x1 (zn S) = none) : XCt l yX6_rankIn (Cond.code yX6_rankIn cX6_rankIn 5 (some .int)) 8 142 1 6 D (tyz cI cJ cQ) [.ref x0a, .int x1, .int x2] (flatS [[(x0a, .inr (6, [.ref a0, .ref tr0, .ref s0, .ref r0, .ref w0]))], (wSt a0 a1 a2 a3 a4 a5 a6 a7 cI (S))]) (fun _ _ => False) (fun E => E = "java/lang/IndexOutOfBoundsException") := by
  refine XCt.of RX6 (by decide) rfl (Nat.le_of_ble_eq_true rfl) ?_
  intro p e s m below meth c A C RC XT
  refine sw_aload_n 0 0 C dX6_rankIn_0 rfl rfl ?_
  refine sw_iload_n 1 1 C dX6_rankIn_1 rfl rfl ?_
  exact xg_thrV 2 [0, 1] 1 0 C RC XT dX6_rankIn_2 (xt_X6_findRow l hfl hS.1 hi) (fun _ h => h) wK_X6_findRow wM_X6_78 wN_X6_findRow wS_X6_X6_findRow wI_X6 hd_X6_findRow rfl rfl rfl ⟨rfl, rfl⟩ ⟨(Nat.le_of_ble_eq_true rfl), (Nat.le_of_ble_eq_true rfl)⟩ rfl ⟨(Nat.le_of_ble_eq_true rfl), (Nat.le_of_ble_eq_true rfl)⟩ rfl rfl rfl
set_option maxHeartbeats 4000000 in
set_option maxRecDepth 100000 in
theorem xt_X6_rankIn_2 (l : Launch) (hfl : l.stackTraces = false) {D : va_G} {cI cJ cQ : ClassId} {x0a a0 a1 a2 a3 a4 a5 a6 a7 tr0 s0 r0 w0 : Nat} {S : StT} {x1 x2 : Int32} (hS : SI S) (i : Nat) (hi : fnd (zf S) x1 (zn S) = some i) (hx : inR x2 0 200 = false) : XCt l yX6_rankIn (Cond.code yX6_rankIn cX6_rankIn 5 (some .int)) 8 142 1 6 D (tyz cI cJ cQ) [.ref x0a, .int x1, .int x2] (flatS [[(x0a, .inr (6, [.ref a0, .ref tr0, .ref s0, .ref r0, .ref w0]))], (wSt a0 a1 a2 a3 a4 a5 a6 a7 cI (S))]) (fun _ _ => False) (fun E => E = "java/lang/IllegalArgumentException") := by
  refine XCt.of RX6 (by decide) rfl (Nat.le_of_ble_eq_true rfl) ?_
  intro p e s m below meth c A C RC XT
  refine sw_aload_n 0 0 C dX6_rankIn_0 rfl rfl ?_
  refine sw_iload_n 1 1 C dX6_rankIn_1 rfl rfl ?_
  refine sg_callVI 2 [0, 1] 1 0 [_, _] C dX6_rankIn_2 (ct_X6_findRow l hS.1 i hi) wK_X6_findRow wM_X6_78 wN_X6_findRow wS_X6_X6_findRow wI_X6 hd_X6_findRow rfl rfl rfl ⟨rfl, rfl⟩ ⟨Nat.le_of_ble_eq_true rfl, Nat.le_of_ble_eq_true rfl⟩ rfl rfl rfl rfl rfl rfl ?_
  refine sg_segs [_, _] rfl ?_
  refine sw_istore_n 5 3 C dX6_rankIn_5 rfl rfl ?_
  refine sw_iload_n 6 2 C dX6_rankIn_6 rfl rfl ?_
  refine sw_iconst 7 C dX6_rankIn_7 0 (by decide) ?_
  refine sw_sipush 8 C dX6_rankIn_8 200 (by decide) ?_
  exact xg_thrS 11 [] 3 C RC XT dX6_rankIn_11 (xt_X6_checkRange l hfl hx) (fun _ h => h) wK_X6_checkRange wM_X6_47 wT_X6_checkRange wI_X6 hd_X6_checkRange rfl ⟨rfl, rfl⟩ ⟨(Nat.le_of_ble_eq_true rfl), (Nat.le_of_ble_eq_true rfl)⟩ rfl ⟨(Nat.le_of_ble_eq_true rfl), (Nat.le_of_ble_eq_true rfl)⟩ rfl rfl rfl
def svf (x : Int32) : Nat → Nat → StT → Int32 × StT
  | 0, _, T => (-1, T)
  | k + 1, j, T => if (srv T).1 = x then (nI j, (srv T).2) else if fnd (zf (tps 1 (srv T).2).2) x (zn (tps 1 (srv T).2).2) = none then (-1, (tps 1 (srv T).2).2) else svf x k (j + 1) (tps 1 (srv T).2).2
theorem SI_srv {S : StT} (h : SI S) : SI (srv S).2 := by
  cases hq : frs (zf S) (zn S) with
  | none => rw [srv_n hq]; exact h
  | some i => rw [srv_s hq]; exact SI_leave (SI_v h)
theorem oI_no {x : Option Nat} {n : Nat} (hx : ∀ j, x = some j → j < n) (hn : n ≤ 40) (h : oI x = -1) : x = none := by
  cases x with
  | none => rfl
  | some j => exact absurd h (i32_ne_m1 (by have := hx j rfl; omega))
theorem svf_a {x : Int32} {k j : Nat} {T : StT} (h : (srv T).1 = x) : svf x (k + 1) j T = (nI j, (srv T).2) := if_pos h
theorem svf_b {x : Int32} {k j : Nat} {T : StT} (h : ¬ (srv T).1 = x) (h2 : fnd (zf (tps 1 (srv T).2).2) x (zn (tps 1 (srv T).2).2) = none) : svf x (k + 1) j T = (-1, (tps 1 (srv T).2).2) := (if_neg h).trans (if_pos h2)
theorem svf_c {x : Int32} {k j : Nat} {T : StT} (h : ¬ (srv T).1 = x) (h2 : ¬ fnd (zf (tps 1 (srv T).2).2) x (zn (tps 1 (srv T).2).2) = none) : svf x (k + 1) j T = svf x k (j + 1) (tps 1 (srv T).2).2 := (if_neg h).trans (if_neg h2)
set_option maxHeartbeats 4000000 in
set_option maxRecDepth 100000 in
theorem lp_X6_servedIn {l : Launch} {p : Program} {e : Env} {s : State} {m : MethodId} {args : Array Value} {below : List Frame} {meth : Method} {c : Code} {A : Nat → Prop} {D : va_G} {cI cJ cQ : ClassId} {x0a a0 a1 a2 a3 a4 a5 a6 a7 tr0 tr1 tr2 tr3 tr4 tr5 tr6 tr7 s0 r0 w0 : Nat} {S : StT} {x1 : Int32} (Z : Int32 × StT) (C : CC p s m args c cX6_servedIn 3 RX6 (Cond.code yX6_servedIn cX6_servedIn 3 (some .int) :: lw_all) D (tyz cI cJ cQ) A s.heap) (RC : meth.sig.returnType = (some .int) ∧ meth.locks = false ∧ meth.name = yX6_servedIn.name) : ∀ (fu j : Nat), j ≤ 40 → 40 + 1 ≤ j + fu → ∀ (T : StT), SI T → svf x1 (40 - j) j T = Z → ∀ (xi : Int32), (xi = nI j) →  sw p l e ({ frames := 8, cells := 0, slots := 0, locals := 142 } : Room) s m args below meth c D A s.heap 3 0 0 (MQ below (ctQ D (tyz cI cJ cQ) A (pstI Z.1 (flatS [[(x0a, .inr (6, [.ref a0, .ref tr0, .ref s0, .ref r0, .ref w0]))], (wSt a0 a1 a2 a3 a4 a5 a6 a7 cI (S)), (wSt tr0 tr1 tr2 tr3 tr4 tr5 tr6 tr7 cI (Z.2))]))) args s 0 0 A) (flatS [[(x0a, .inr (6, [.ref a0, .ref tr0, .ref s0, .ref r0, .ref w0]))], (wSt a0 a1 a2 a3 a4 a5 a6 a7 cI (S)), (wSt tr0 tr1 tr2 tr3 tr4 tr5 tr6 tr7 cI (T))]) 19 [(0, .ref x0a), (1, .int x1), (2, .int xi)] [] := by
  intro fu
  induction fu with
  | zero => intro j h1 h2; exact absurd h2 (by omega)
  | succ fu ih =>
    intro j hi hf T hT hd xi exi
    subst exi
    refine sw_iload_n 19 2 C dX6_servedIn_19 rfl rfl ?_
    refine sw_bipush 20 C dX6_servedIn_20 40 (by decide) ?_
    refine sw_icmp_ge 22 70 C dX6_servedIn_22 (by decide) (fun c_22 => ?_) (fun c_22 => ?_)
    · obtain rfl : Z = (-1, T) := by rw [← hd, show 40 - j = 0 by have := nI_ge' (by omega) (b := 40) c_22 (by omega); omega]; rfl
      refine sw_iconst 70 C dX6_servedIn_70 (-1) (by decide) ?_
      refine sw_iret 71 C RC dX6_servedIn_71 ?_
      exact ⟨rfl, rfl⟩
    · have hlt : j < 40 := by
        rcases Nat.lt_or_ge j 40 with q | q
        · exact q
        · exact absurd (nI_le q (by omega)) c_22
      refine sw_aload_n 25 0 C dX6_servedIn_25 rfl rfl ?_
      refine sg_get 26 0 0 1 C dX6_servedIn_26 rfl rfl rfl (inA lwX6) (C.w wF_X6_16) rfl rfl rfl ?_
      refine sg_callVI 29 [2] 0 0 [_] C dX6_servedIn_29 (ct_X4_serveFirst l hT) wK_X4_serveFirst wM_X6_100 wN_X4_serveFirst wS_X4_X4_serveFirst wI_X4 hd_X4_serveFirst rfl rfl rfl ⟨rfl, rfl⟩ ⟨Nat.le_of_ble_eq_true rfl, Nat.le_of_ble_eq_true rfl⟩ rfl rfl rfl rfl rfl rfl ?_
      refine sg_segs [_, _, _] rfl ?_
      refine sw_iload_n 32 1 C dX6_servedIn_32 rfl rfl ?_
      refine sw_icmp_ne 33 38 C dX6_servedIn_33 (by decide) (fun c_33 => ?_) (fun c_33 => ?_)
      · refine sw_aload_n 38 0 C dX6_servedIn_38 rfl rfl ?_
        refine sg_get 39 0 0 1 C dX6_servedIn_39 rfl rfl rfl (inA lwX6) (C.w wF_X6_16) rfl rfl rfl ?_
        refine sw_iconst 42 C dX6_servedIn_42 1 (by decide) ?_
        refine sg_callVI 43 [2] 1 0 [_] C dX6_servedIn_43 (ct_X4_letPass l 1 rfl (by decide) (SI_srv hT)) wK_X4_letPass wM_X6_113 wN_X4_letPass wS_X4_X4_letPass wI_X4 hd_X4_letPass rfl rfl rfl ⟨rfl, rfl⟩ ⟨Nat.le_of_ble_eq_true rfl, Nat.le_of_ble_eq_true rfl⟩ rfl rfl rfl rfl rfl rfl ?_
        refine sg_segs [_, _, _] rfl ?_
        refine sw_pop 46 C dX6_servedIn_46 rfl ?_
        refine sw_aload_n 47 0 C dX6_servedIn_47 rfl rfl ?_
        refine sg_get 48 0 0 1 C dX6_servedIn_48 rfl rfl rfl (inA lwX6) (C.w wF_X6_16) rfl rfl rfl ?_
        refine sg_get 51 2 0 4 C dX6_servedIn_51 rfl rfl rfl (inA lwX4) (C.w wF_X6_86) rfl rfl rfl ?_
        refine sw_iload_n 54 1 C dX6_servedIn_54 rfl rfl ?_
        refine sg_callVIP 55 [2] 1 2 C dX6_servedIn_55 ((ct_X2_rowOf l (SI_tps (SI_srv hT) 1).1).liftIP (ws := (wSt tr0 tr1 tr2 tr3 tr4 tr5 tr6 tr7 cI ((tps 1 (srv T).2).2))) [2, 3] rfl rfl rfl) wK_X2_rowOf wM_X6_156 wN_X2_rowOf wS_X2_X2_rowOf wI_X2 hd_X2_rowOf rfl rfl rfl ⟨rfl, rfl⟩ ⟨Nat.le_of_ble_eq_true rfl, Nat.le_of_ble_eq_true rfl⟩ rfl rfl rfl rfl ?_
        refine sw_iconst 58 C dX6_servedIn_58 (-1) (by decide) ?_
        refine sw_icmp_ne 59 64 C dX6_servedIn_59 (by decide) (fun c_59 => ?_) (fun c_59 => ?_)
        · refine sw_iinc 64 C 1 dX6_servedIn_64 (by decide) rfl rfl ?_
          refine sw_goto 67 19 C dX6_servedIn_67 (by decide) ?_
          exact sw_loc (ih (j + 1) (by omega) (by omega) (tps 1 (srv T).2).2 (SI_tps (SI_srv hT) 1) (by rw [← hd, show 40 - j = (40 - (j + 1)) + 1 by omega]; exact (svf_c c_33 (fun h => c_59 (by rw [h]; rfl))).symm) _ (nI_1 j)) rfl
        · obtain rfl : Z = (-1, (tps 1 (srv T).2).2) := by rw [← hd, show 40 - j = (40 - (j + 1)) + 1 by omega]; exact svf_b c_33 (oI_no (fun j hj => fnd_lt _ _ hj) (SI_tps (SI_srv hT) 1).1 c_59)
          refine sw_iconst 62 C dX6_servedIn_62 (-1) (by decide) ?_
          refine sw_iret 63 C RC dX6_servedIn_63 ?_
          exact ⟨rfl, rfl⟩
      · obtain rfl : Z = (nI j, (srv T).2) := by rw [← hd, show 40 - j = (40 - (j + 1)) + 1 by omega]; exact svf_a c_33
        refine sw_iload_n 36 2 C dX6_servedIn_36 rfl rfl ?_
        refine sw_iret 37 C RC dX6_servedIn_37 ?_
        exact ⟨rfl, rfl⟩
set_option maxHeartbeats 4000000 in
set_option maxRecDepth 100000 in
theorem ct_X6_servedIn (l : Launch) {D : va_G} {cI cJ cQ : ClassId} {x0a a0 a1 a2 a3 a4 a5 a6 a7 tr0 tr1 tr2 tr3 tr4 tr5 tr6 tr7 s0 r0 w0 : Nat} {S T : StT} {x1 : Int32} (hS : SI S) (i : Nat) (hi : fnd (zf S) x1 (zn S) = some i) : Ct l yX6_servedIn (Cond.code yX6_servedIn cX6_servedIn 3 (some .int)) 8 142 0 0 D (tyz cI cJ cQ) [.ref x0a, .int x1] (flatS [[(x0a, .inr (6, [.ref a0, .ref tr0, .ref s0, .ref r0, .ref w0]))], (wSt a0 a1 a2 a3 a4 a5 a6 a7 cI (S)), (wSt tr0 tr1 tr2 tr3 tr4 tr5 tr6 tr7 cI (T))]) (pstI (svf x1 40 0 S).1 (flatS [[(x0a, .inr (6, [.ref a0, .ref tr0, .ref s0, .ref r0, .ref w0]))], (wSt a0 a1 a2 a3 a4 a5 a6 a7 cI (S)), (wSt tr0 tr1 tr2 tr3 tr4 tr5 tr6 tr7 cI ((svf x1 40 0 S).2))])) := by
  refine Ct.of RX6 (by decide) rfl (Nat.le_of_ble_eq_true rfl) ?_
  intro p e s m below meth c A C RC
  refine sw_aload_n 0 0 C dX6_servedIn_0 rfl rfl ?_
  refine sw_iload_n 1 1 C dX6_servedIn_1 rfl rfl ?_
  refine sg_callVI 2 [0, 1] 1 0 [_, _] C dX6_servedIn_2 (ct_X6_findRow l hS.1 i hi) wK_X6_findRow wM_X6_78 wN_X6_findRow wS_X6_X6_findRow wI_X6 hd_X6_findRow rfl rfl rfl ⟨rfl, rfl⟩ ⟨Nat.le_of_ble_eq_true rfl, Nat.le_of_ble_eq_true rfl⟩ rfl rfl rfl rfl rfl rfl ?_
  refine sg_segs [_, _, _] rfl ?_
  refine sw_pop 5 C dX6_servedIn_5 rfl ?_
  refine sw_aload_n 6 0 C dX6_servedIn_6 rfl rfl ?_
  refine sg_get 7 0 0 1 C dX6_servedIn_7 rfl rfl rfl (inA lwX6) (C.w wF_X6_16) rfl rfl rfl ?_
  refine sw_aload_n 10 0 C dX6_servedIn_10 rfl rfl ?_
  refine sg_get 11 0 0 0 C dX6_servedIn_11 rfl rfl rfl (inA lwX6) (C.w wF_X6_10) rfl rfl rfl ?_
  refine sg_callVV 14 [2, 1] 1 0 [_, _] C dX6_servedIn_14 (ct_X4_copyFrom_S l) wK_X4_copyFrom wM_X6_150 wN_X4_copyFrom wS_X4_X4_copyFrom wI_X4 hd_X4_copyFrom rfl rfl rfl ⟨rfl, rfl⟩ ⟨Nat.le_of_ble_eq_true rfl, Nat.le_of_ble_eq_true rfl⟩ rfl rfl rfl rfl rfl rfl ?_
  refine sg_segs [_, _, _] rfl ?_
  refine sw_iconst 17 C dX6_servedIn_17 0 (by decide) ?_
  refine sw_istore_n 18 2 C dX6_servedIn_18 rfl rfl ?_
  exact sw_loc (lp_X6_servedIn (svf x1 40 0 S) C RC 41 0 (Nat.zero_le _) (by omega) S hS rfl _ rfl) rfl
set_option maxHeartbeats 4000000 in
set_option maxRecDepth 100000 in
theorem xt_X6_servedIn (l : Launch) (hfl : l.stackTraces = false) {D : va_G} {cI cJ cQ : ClassId} {x0a a0 a1 a2 a3 a4 a5 a6 a7 tr0 s0 r0 w0 : Nat} {S : StT} {x1 : Int32} (hS : SI S) (hi : fnd (zf S) x1 (zn S) = none) : XCt l yX6_servedIn (Cond.code yX6_servedIn cX6_servedIn 3 (some .int)) 8 142 1 6 D (tyz cI cJ cQ) [.ref x0a, .int x1] (flatS [[(x0a, .inr (6, [.ref a0, .ref tr0, .ref s0, .ref r0, .ref w0]))], (wSt a0 a1 a2 a3 a4 a5 a6 a7 cI (S))]) (fun _ _ => False) (fun E => E = "java/lang/IndexOutOfBoundsException") := by
  refine XCt.of RX6 (by decide) rfl (Nat.le_of_ble_eq_true rfl) ?_
  intro p e s m below meth c A C RC XT
  refine sw_aload_n 0 0 C dX6_servedIn_0 rfl rfl ?_
  refine sw_iload_n 1 1 C dX6_servedIn_1 rfl rfl ?_
  exact xg_thrV 2 [0, 1] 1 0 C RC XT dX6_servedIn_2 (xt_X6_findRow l hfl hS.1 hi) (fun _ h => h) wK_X6_findRow wM_X6_78 wN_X6_findRow wS_X6_X6_findRow wI_X6 hd_X6_findRow rfl rfl rfl ⟨rfl, rfl⟩ ⟨(Nat.le_of_ble_eq_true rfl), (Nat.le_of_ble_eq_true rfl)⟩ rfl ⟨(Nat.le_of_ble_eq_true rfl), (Nat.le_of_ble_eq_true rfl)⟩ rfl rfl rfl
set_option maxHeartbeats 4000000 in
set_option maxRecDepth 100000 in
theorem ct_X6_append (l : Launch) {D : va_G} {cI cJ cQ : ClassId} {x0a a0 tr0 s0 r0 t0 t1 w0 ln : Nat} {by_ : Nat → Int32} {X : RS} {x : Int32} (hln : ln ≤ 100) (hx : inR x 0 127 = true) (h : ln < 100) : Ct l yX6_append (Cond.code yX6_append cX6_append 2 (some .int)) 8 142 0 0 D (tyz cI cJ cQ) [.ref x0a, .int x] (flatS [[(x0a, .inr (6, [.ref a0, .ref tr0, .ref s0, .ref r0, .ref w0]))], (wRd r0 t0 t1 cI (ln) (by_) X)]) (pstI (nI (txl ln)) (flatS [[(x0a, .inr (6, [.ref a0, .ref tr0, .ref s0, .ref r0, .ref w0]))], (wRd r0 t0 t1 cI (txl ln) (txb by_ ln x) X)])) := by
  refine Ct.of RX6 (by decide) rfl (Nat.le_of_ble_eq_true rfl) ?_
  intro p e s m below meth c A C RC
  refine sw_iload_n 0 1 C dX6_append_0 rfl rfl ?_
  refine sw_iconst 1 C dX6_append_1 0 (by decide) ?_
  refine sw_bipush 2 C dX6_append_2 127 (by decide) ?_
  refine sg_callSV 4 [] 3 [] C dX6_append_4 (ct_X6_checkRange l hx) wK_X6_checkRange wM_X6_47 wT_X6_checkRange wI_X6 hd_X6_checkRange rfl ⟨rfl, rfl⟩ ⟨Nat.le_of_ble_eq_true rfl, Nat.le_of_ble_eq_true rfl⟩ rfl rfl rfl rfl rfl rfl ?_
  refine sg_segs [_, _] rfl ?_
  refine sw_aload_n 7 0 C dX6_append_7 rfl rfl ?_
  refine sg_get 8 0 0 3 C dX6_append_8 rfl rfl rfl (inA lwX6) (C.w wF_X6_29) rfl rfl rfl ?_
  refine sg_get 11 1 0 0 C dX6_append_11 rfl rfl rfl (inA lwX1) (C.w wF_X6_168) rfl rfl rfl ?_
  refine sw_iload_n 14 1 C dX6_append_14 rfl rfl ?_
  refine sg_callVI 15 [1] 1 1 [_] C dX6_append_15 ((ct_X5_add l hln).liftI (ws := wRd r0 t0 t1 cI ln by_ X) [1, 2] rfl rfl rfl rfl) wK_X5_add wM_X6_172 wN_X5_add wS_X5_X5_add wI_X5 hd_X5_add rfl rfl rfl ⟨rfl, rfl⟩ ⟨Nat.le_of_ble_eq_true rfl, Nat.le_of_ble_eq_true rfl⟩ rfl rfl rfl rfl rfl rfl ?_
  refine sg_segs [_, _] rfl ?_
  refine sw_if_ne 18 31 C dX6_append_18 (by decide) (fun c_18 => ?_) (fun c_18 => ?_)
  rotate_left
  · exact by first | exact absurd c_18 (by rw [decide_eq_true h]; decide) | exact absurd (by rw [decide_eq_true h]; decide) c_18
  refine sw_aload_n 31 0 C dX6_append_31 rfl rfl ?_
  refine sg_get 32 0 0 3 C dX6_append_32 rfl rfl rfl (inA lwX6) (C.w wF_X6_29) rfl rfl rfl ?_
  refine sg_get 35 1 0 0 C dX6_append_35 rfl rfl rfl (inA lwX1) (C.w wF_X6_168) rfl rfl rfl ?_
  refine sg_get 38 1 1 0 C dX6_append_38 rfl rfl rfl (inA lwX5) (C.w wF_X6_178) rfl rfl rfl ?_
  refine sw_iret 41 C RC dX6_append_41 ?_
  exact ⟨rfl, rfl⟩
set_option maxHeartbeats 4000000 in
set_option maxRecDepth 100000 in
theorem xt_X6_append (l : Launch) (hfl : l.stackTraces = false) {D : va_G} {cI cJ cQ : ClassId} {x0a a0 tr0 s0 r0 t0 t1 w0 ln : Nat} {by_ : Nat → Int32} {X : RS} {x : Int32} (hx : inR x 0 127 = false) : XCt l yX6_append (Cond.code yX6_append cX6_append 2 (some .int)) 8 142 1 6 D (tyz cI cJ cQ) [.ref x0a, .int x] (flatS [[(x0a, .inr (6, [.ref a0, .ref tr0, .ref s0, .ref r0, .ref w0]))], (wRd r0 t0 t1 cI (ln) (by_) X)]) (fun _ _ => False) (fun E => E = "java/lang/IllegalArgumentException") := by
  refine XCt.of RX6 (by decide) rfl (Nat.le_of_ble_eq_true rfl) ?_
  intro p e s m below meth c A C RC XT
  refine sw_iload_n 0 1 C dX6_append_0 rfl rfl ?_
  refine sw_iconst 1 C dX6_append_1 0 (by decide) ?_
  refine sw_bipush 2 C dX6_append_2 127 (by decide) ?_
  exact xg_thrS 4 [] 3 C RC XT dX6_append_4 (xt_X6_checkRange l hfl hx) (fun _ h => h) wK_X6_checkRange wM_X6_47 wT_X6_checkRange wI_X6 hd_X6_checkRange rfl ⟨rfl, rfl⟩ ⟨(Nat.le_of_ble_eq_true rfl), (Nat.le_of_ble_eq_true rfl)⟩ rfl ⟨(Nat.le_of_ble_eq_true rfl), (Nat.le_of_ble_eq_true rfl)⟩ rfl rfl rfl
set_option maxHeartbeats 4000000 in
set_option maxRecDepth 100000 in
theorem xt_X6_append_2 (l : Launch) (hfl : l.stackTraces = false) {D : va_G} {cI cJ cQ : ClassId} {x0a a0 tr0 s0 r0 t0 t1 w0 ln : Nat} {by_ : Nat → Int32} {X : RS} {x : Int32} (hln : ln ≤ 100) (hx : inR x 0 127 = true) (h : ¬ ln < 100) : XCt l yX6_append (Cond.code yX6_append cX6_append 2 (some .int)) 8 142 1 6 D (tyz cI cJ cQ) [.ref x0a, .int x] (flatS [[(x0a, .inr (6, [.ref a0, .ref tr0, .ref s0, .ref r0, .ref w0]))], (wRd r0 t0 t1 cI (ln) (by_) X)]) (fun _ _ => False) (fun E => E = "java/lang/IllegalStateException") := by
  refine XCt.of RX6 (by decide) rfl (Nat.le_of_ble_eq_true rfl) ?_
  intro p e s m below meth c A C RC XT
  refine sw_iload_n 0 1 C dX6_append_0 rfl rfl ?_
  refine sw_iconst 1 C dX6_append_1 0 (by decide) ?_
  refine sw_bipush 2 C dX6_append_2 127 (by decide) ?_
  refine sg_callSV 4 [] 3 [] C dX6_append_4 (ct_X6_checkRange l hx) wK_X6_checkRange wM_X6_47 wT_X6_checkRange wI_X6 hd_X6_checkRange rfl ⟨rfl, rfl⟩ ⟨Nat.le_of_ble_eq_true rfl, Nat.le_of_ble_eq_true rfl⟩ rfl rfl rfl rfl rfl rfl ?_
  refine sg_segs [_, _] rfl ?_
  refine sw_aload_n 7 0 C dX6_append_7 rfl rfl ?_
  refine sg_get 8 0 0 3 C dX6_append_8 rfl rfl rfl (inA lwX6) (C.w wF_X6_29) rfl rfl rfl ?_
  refine sg_get 11 1 0 0 C dX6_append_11 rfl rfl rfl (inA lwX1) (C.w wF_X6_168) rfl rfl rfl ?_
  refine sw_iload_n 14 1 C dX6_append_14 rfl rfl ?_
  refine sg_callVI 15 [1] 1 1 [_] C dX6_append_15 ((ct_X5_add l hln).liftI (ws := wRd r0 t0 t1 cI ln by_ X) [1, 2] rfl rfl rfl rfl) wK_X5_add wM_X6_172 wN_X5_add wS_X5_X5_add wI_X5 hd_X5_add rfl rfl rfl ⟨rfl, rfl⟩ ⟨Nat.le_of_ble_eq_true rfl, Nat.le_of_ble_eq_true rfl⟩ rfl rfl rfl rfl rfl rfl ?_
  refine sg_segs [_, _] rfl ?_
  rw [show txl ln = ln from if_neg h, show txb by_ ln x = by_ from if_neg h]
  refine sw_if_ne 18 31 C dX6_append_18 (by decide) (fun c_18 => ?_) (fun c_18 => ?_)
  · exact by first | exact absurd c_18 (fun q => q (by rw [decide_eq_false h]; rfl)) | exact absurd (fun q => q (by rw [decide_eq_false h]; rfl)) c_18
  exact xw_throw 21 108 176 112 C RC XT hfl dX6_append_21 dX6_append_24 dX6_append_25 dX6_append_27 dX6_append_30 (by decide +kernel) wC_X6_108 wI_IllegalStateException xat_ise xno_ise xot_ise (List.mem_of_getElem? (i := 6) rfl) rfl rfl (Nat.le_of_ble_eq_true rfl) (Nat.le_of_ble_eq_true rfl) (Nat.le_of_ble_eq_true rfl) (Nat.le_of_ble_eq_true rfl) (rfl)
set_option maxHeartbeats 4000000 in
set_option maxRecDepth 100000 in
theorem ct_X6_clearText (l : Launch) {D : va_G} {cI cJ cQ : ClassId} {x0a a0 tr0 s0 r0 t0 t1 w0 ln : Nat} {by_ : Nat → Int32} {X : RS} : Ct l yX6_clearText (Cond.code yX6_clearText cX6_clearText 2 (some .int)) 0 0 0 0 D (tyz cI cJ cQ) [.ref x0a] (flatS [[(x0a, .inr (6, [.ref a0, .ref tr0, .ref s0, .ref r0, .ref w0]))], (wRd r0 t0 t1 cI (ln) (by_) X)]) (pstI (nI ln) (flatS [[(x0a, .inr (6, [.ref a0, .ref tr0, .ref s0, .ref r0, .ref w0]))], (wRd r0 t0 t1 cI (0) (by_) X)])) := by
  refine Ct.of RX6 (by decide) rfl (Nat.le_of_ble_eq_true rfl) ?_
  intro p e s m below meth c A C RC
  refine sw_aload_n 0 0 C dX6_clearText_0 rfl rfl ?_
  refine sg_get 1 0 0 3 C dX6_clearText_1 rfl rfl rfl (inA lwX6) (C.w wF_X6_29) rfl rfl rfl ?_
  refine sg_get 4 1 0 0 C dX6_clearText_4 rfl rfl rfl (inA lwX1) (C.w wF_X6_168) rfl rfl rfl ?_
  refine sg_get 7 1 1 0 C dX6_clearText_7 rfl rfl rfl (inA lwX5) (C.w wF_X6_178) rfl rfl rfl ?_
  refine sw_istore_n 10 1 C dX6_clearText_10 rfl rfl ?_
  refine sw_aload_n 11 0 C dX6_clearText_11 rfl rfl ?_
  refine sg_get 12 0 0 3 C dX6_clearText_12 rfl rfl rfl (inA lwX6) (C.w wF_X6_29) rfl rfl rfl ?_
  refine sg_get 15 1 0 0 C dX6_clearText_15 rfl rfl rfl (inA lwX1) (C.w wF_X6_168) rfl rfl rfl ?_
  refine sw_iconst 18 C dX6_clearText_18 0 (by decide) ?_
  refine sw_top (show (0 : Int32) = nI 0 from rfl) ?_
  refine sg_put 19 1 1 0 tyX5 C dX6_clearText_19 rfl rfl rfl (inA lwX5) tyX5_ok nmX5 (C.w wF_X6_178) rfl rfl rfl rfl rfl rfl rfl ?_
  refine sg_segs [_, [(_, .inr (1, [.ref _, .int _, .int _, .int _, .int _, .int _, .int _, .int _, .int _])), (_, .inr (5, [.int _, .ref _])), (_, .inl (_, _, .inl _))]] rfl ?_
  refine sw_iload_n 22 1 C dX6_clearText_22 rfl rfl ?_
  refine sw_iret 23 C RC dX6_clearText_23 ?_
  exact ⟨rfl, rfl⟩
