/-! State as one value -/
abbrev StT : Type := (Int32 × Int32 × Int32 × Int32 × Int32 × Int32) × (Nat × Nat) × (Nat → Int32) × (Nat → Int32) × (Nat → Int32) × (Nat → Int32) × (Nat → Int32)
abbrev zq (S : StT) : Int32 := S.1.1
abbrev zg (S : StT) : Int32 := S.1.2.1
abbrev zv (S : StT) : Int32 := S.1.2.2.1
abbrev zt (S : StT) : Int32 := S.1.2.2.2.1
abbrev zp (S : StT) : Int32 := S.1.2.2.2.2.1
abbrev zk (S : StT) : Int32 := S.1.2.2.2.2.2
abbrev zn (S : StT) : Nat := S.2.1.1
abbrev zl (S : StT) : Nat := S.2.1.2
abbrev zpat (S : StT) : Nat → Int32 := S.2.2.1
abbrev zf (S : StT) : Nat → Int32 := S.2.2.2.1
abbrev zlg (S : StT) : Nat → Int32 := S.2.2.2.2.1
abbrev zlv (S : StT) : Nat → Int32 := S.2.2.2.2.2.1
abbrev zbk (S : StT) : Nat → Int32 := S.2.2.2.2.2.2
abbrev wSt (a0 a1 a2 a3 a4 a5 a6 a7 : Nat) (cI : ClassId) (S : StT) : va_W := [(a0, .inr (4, [.int (zq S), .int (zg S), .int (zv S), .ref a1, .ref a2, .ref a4, .int (zt S), .int (zp S), .int (zk S), .ref a6, .ref a7])), (a1, .inl (cI, 4, .inl (zpat S))), (a2, .inr (2, [.int (nI (zn S)), .ref a3])), (a3, .inl (cI, 320, .inl (zf S))), (a4, .inr (0, [.int (nI (zl S)), .ref a5])), (a5, .inl (cI, 80, .inl (zlg S))), (a6, .inl (cI, 3, .inl (zlv S))), (a7, .inl (cI, 8, .inl (zbk S)))]
set_option maxHeartbeats 4000000 in
set_option maxRecDepth 100000 in
theorem ct_X4_hasTimeFor (l : Launch) {D : va_G} {cI cJ cQ : ClassId} {a0 a1 a2 a3 a4 a5 a6 a7 : Nat} {q g sv t ps ck : Int32} {n lc : Nat} {pat f lg lv bk : Nat → Int32} {x : Int32} : Ct l yX4_hasTimeFor (Cond.code yX4_hasTimeFor cX4_hasTimeFor 2 (some .boolean)) 0 0 0 0 D (tyz cI cJ cQ) [.ref a0, .int x] [(a0, .inr (4, [.int (q), .int (g), .int (sv), .ref a1, .ref a2, .ref a4, .int (t), .int (ps), .int (ck), .ref a6, .ref a7])), (a1, .inl (cI, 4, .inl (pat))), (a2, .inr (2, [.int (nI (n)), .ref a3])), (a3, .inl (cI, 320, .inl (f))), (a4, .inr (0, [.int (nI (lc)), .ref a5])), (a5, .inl (cI, 80, .inl (lg))), (a6, .inl (cI, 3, .inl (lv))), (a7, .inl (cI, 8, .inl (bk)))] (pstI (bI (decide (x ≤ 100000 - t))) [(a0, .inr (4, [.int (q), .int (g), .int (sv), .ref a1, .ref a2, .ref a4, .int (t), .int (ps), .int (ck), .ref a6, .ref a7])), (a1, .inl (cI, 4, .inl (pat))), (a2, .inr (2, [.int (nI (n)), .ref a3])), (a3, .inl (cI, 320, .inl (f))), (a4, .inr (0, [.int (nI (lc)), .ref a5])), (a5, .inl (cI, 80, .inl (lg))), (a6, .inl (cI, 3, .inl (lv))), (a7, .inl (cI, 8, .inl (bk)))]) := by
  refine Ct.of RX4 (by decide) rfl (Nat.le_of_ble_eq_true rfl) ?_
  intro p e s m below meth c A C RC
  refine sw_iload_n 0 1 C dX4_hasTimeFor_0 rfl rfl ?_
  refine sw_ldc 1 C dX4_hasTimeFor_1 (C.w wQ_X4_112) ?_
  refine sw_aload_n 3 0 C dX4_hasTimeFor_3 rfl rfl ?_
  refine sw_get 4 0 6 C dX4_hasTimeFor_4 rfl rfl (inA lwX4) (C.w wF_X4_45) rfl rfl rfl ?_
  refine sw_isub 7 C dX4_hasTimeFor_7 ?_
  refine sw_icmp_gt 8 15 C dX4_hasTimeFor_8 (by decide) (fun c_8 => ?_) (fun c_8 => ?_)
  · refine sw_iconst 15 C dX4_hasTimeFor_15 0 (by decide) ?_
    refine sw_zret 16 C RC rfl dX4_hasTimeFor_16 ?_
    exact ⟨by rw [decide_eq_false (Int32.not_le.mpr c_8)]; rfl, rfl⟩
  · refine sw_iconst 11 C dX4_hasTimeFor_11 1 (by decide) ?_
    refine sw_goto 12 16 C dX4_hasTimeFor_12 (by decide) ?_
    refine sw_zret 16 C RC rfl dX4_hasTimeFor_16 ?_
    exact ⟨by rw [decide_eq_true (Int32.not_lt.mp c_8)]; rfl, rfl⟩
set_option maxHeartbeats 4000000 in
set_option maxRecDepth 100000 in
theorem ct_X4_givenBackTo (l : Launch) {D : va_G} {cI cJ cQ : ClassId} {a0 a1 a2 a3 a4 a5 a6 a7 : Nat} {q g sv t ps ck : Int32} {n lc : Nat} {pat f lg lv bk : Nat → Int32} {x : Int32} (i : Nat) (h1 : x = nI i) (hi : i < 8) : Ct l yX4_givenBackTo (Cond.code yX4_givenBackTo cX4_givenBackTo 2 (some .int)) 0 0 0 0 D (tyz cI cJ cQ) [.ref a0, .int x] [(a0, .inr (4, [.int (q), .int (g), .int (sv), .ref a1, .ref a2, .ref a4, .int (t), .int (ps), .int (ck), .ref a6, .ref a7])), (a1, .inl (cI, 4, .inl (pat))), (a2, .inr (2, [.int (nI (n)), .ref a3])), (a3, .inl (cI, 320, .inl (f))), (a4, .inr (0, [.int (nI (lc)), .ref a5])), (a5, .inl (cI, 80, .inl (lg))), (a6, .inl (cI, 3, .inl (lv))), (a7, .inl (cI, 8, .inl (bk)))] (pstI (bk i) [(a0, .inr (4, [.int (q), .int (g), .int (sv), .ref a1, .ref a2, .ref a4, .int (t), .int (ps), .int (ck), .ref a6, .ref a7])), (a1, .inl (cI, 4, .inl (pat))), (a2, .inr (2, [.int (nI (n)), .ref a3])), (a3, .inl (cI, 320, .inl (f))), (a4, .inr (0, [.int (nI (lc)), .ref a5])), (a5, .inl (cI, 80, .inl (lg))), (a6, .inl (cI, 3, .inl (lv))), (a7, .inl (cI, 8, .inl (bk)))]) := by
  refine Ct.of RX4 (by decide) rfl (Nat.le_of_ble_eq_true rfl) ?_
  intro p e s m below meth c A C RC
  subst h1
  refine sw_iload_n 0 1 C dX4_givenBackTo_0 rfl rfl ?_
  refine sw_if_lt 1 22 C dX4_givenBackTo_1 (by decide) (fun c_1 => ?_) (fun c_1 => ?_)
  · exact by first | exact absurd c_1 (nI_pos (by omega)) | exact absurd (nI_pos (by omega)) c_1
  refine sw_iload_n 4 1 C dX4_givenBackTo_4 rfl rfl ?_
  refine sw_aload_n 5 0 C dX4_givenBackTo_5 rfl rfl ?_
  refine sw_get 6 0 10 C dX4_givenBackTo_6 rfl rfl (inA lwX4) (C.w wF_X4_39) rfl rfl rfl ?_
  refine sw_alen 9 7 0 C 8 dX4_givenBackTo_9 rfl rfl rfl ?_
  refine sw_icmp_ge 10 22 C dX4_givenBackTo_10 (by decide) (fun c_10 => ?_) (fun c_10 => ?_)
  · exact by first | exact absurd c_10 (nI_ge hi (by decide)) | exact absurd (nI_ge hi (by decide)) c_10
  refine sw_aload_n 13 0 C dX4_givenBackTo_13 rfl rfl ?_
  refine sw_get 14 0 10 C dX4_givenBackTo_14 rfl rfl (inA lwX4) (C.w wF_X4_39) rfl rfl rfl ?_
  refine sw_iload_n 17 1 C dX4_givenBackTo_17 rfl rfl ?_
  refine sw_ialdN 18 7 0 (i) C dX4_givenBackTo_18 rfl hi rfl rfl rfl ?_
  refine sw_goto 19 23 C dX4_givenBackTo_19 (by decide) ?_
  refine sw_iret 23 C RC dX4_givenBackTo_23 ?_
  exact ⟨rfl, rfl⟩
set_option maxHeartbeats 4000000 in
set_option maxRecDepth 100000 in
theorem ct_X4_leftBy (l : Launch) {D : va_G} {cI cJ cQ : ClassId} {a0 a1 a2 a3 a4 a5 a6 a7 : Nat} {q g sv t ps ck : Int32} {n lc : Nat} {pat f lg lv bk : Nat → Int32} {x : Int32} (i : Nat) (h1 : x = nI i) (hi : i < 3) : Ct l yX4_leftBy (Cond.code yX4_leftBy cX4_leftBy 2 (some .int)) 0 0 0 0 D (tyz cI cJ cQ) [.ref a0, .int x] [(a0, .inr (4, [.int (q), .int (g), .int (sv), .ref a1, .ref a2, .ref a4, .int (t), .int (ps), .int (ck), .ref a6, .ref a7])), (a1, .inl (cI, 4, .inl (pat))), (a2, .inr (2, [.int (nI (n)), .ref a3])), (a3, .inl (cI, 320, .inl (f))), (a4, .inr (0, [.int (nI (lc)), .ref a5])), (a5, .inl (cI, 80, .inl (lg))), (a6, .inl (cI, 3, .inl (lv))), (a7, .inl (cI, 8, .inl (bk)))] (pstI (lv i) [(a0, .inr (4, [.int (q), .int (g), .int (sv), .ref a1, .ref a2, .ref a4, .int (t), .int (ps), .int (ck), .ref a6, .ref a7])), (a1, .inl (cI, 4, .inl (pat))), (a2, .inr (2, [.int (nI (n)), .ref a3])), (a3, .inl (cI, 320, .inl (f))), (a4, .inr (0, [.int (nI (lc)), .ref a5])), (a5, .inl (cI, 80, .inl (lg))), (a6, .inl (cI, 3, .inl (lv))), (a7, .inl (cI, 8, .inl (bk)))]) := by
  refine Ct.of RX4 (by decide) rfl (Nat.le_of_ble_eq_true rfl) ?_
  intro p e s m below meth c A C RC
  subst h1
  refine sw_iload_n 0 1 C dX4_leftBy_0 rfl rfl ?_
  refine sw_if_lt 1 22 C dX4_leftBy_1 (by decide) (fun c_1 => ?_) (fun c_1 => ?_)
  · exact by first | exact absurd c_1 (nI_pos (by omega)) | exact absurd (nI_pos (by omega)) c_1
  refine sw_iload_n 4 1 C dX4_leftBy_4 rfl rfl ?_
  refine sw_aload_n 5 0 C dX4_leftBy_5 rfl rfl ?_
  refine sw_get 6 0 9 C dX4_leftBy_6 rfl rfl (inA lwX4) (C.w wF_X4_36) rfl rfl rfl ?_
  refine sw_alen 9 6 0 C 3 dX4_leftBy_9 rfl rfl rfl ?_
  refine sw_icmp_ge 10 22 C dX4_leftBy_10 (by decide) (fun c_10 => ?_) (fun c_10 => ?_)
  · exact by first | exact absurd c_10 (nI_ge hi (by decide)) | exact absurd (nI_ge hi (by decide)) c_10
  refine sw_aload_n 13 0 C dX4_leftBy_13 rfl rfl ?_
  refine sw_get 14 0 9 C dX4_leftBy_14 rfl rfl (inA lwX4) (C.w wF_X4_36) rfl rfl rfl ?_
  refine sw_iload_n 17 1 C dX4_leftBy_17 rfl rfl ?_
  refine sw_ialdN 18 6 0 (i) C dX4_leftBy_18 rfl hi rfl rfl rfl ?_
  refine sw_goto 19 23 C dX4_leftBy_19 (by decide) ?_
  refine sw_iret 23 C RC dX4_leftBy_23 ?_
  exact ⟨rfl, rfl⟩
def sgb (bk : Nat → Int32) : Nat → Int32
  | 0 => 0
  | i + 1 => sgb bk i + bk i
set_option maxHeartbeats 4000000 in
set_option maxRecDepth 100000 in
theorem lp_X4_sumGivenBack {l : Launch} {p : Program} {e : Env} {s : State} {m : MethodId} {args : Array Value} {below : List Frame} {meth : Method} {c : Code} {A : Nat → Prop} {D : va_G} {cI cJ cQ : ClassId} {a0 a1 a2 a3 a4 a5 a6 a7 : Nat} {q g sv t ps ck : Int32} {n lc : Nat} {pat f lg lv bk : Nat → Int32} (C : CC p s m args c cX4_sumGivenBack 6 RX4 (Cond.code yX4_sumGivenBack cX4_sumGivenBack 6 (some .int) :: lw_all) D (tyz cI cJ cQ) A s.heap) (RC : meth.sig.returnType = (some .int) ∧ meth.locks = false ∧ meth.name = yX4_sumGivenBack.name) : ∀ (fu i : Nat), i ≤ 8 → 8 + 1 ≤ i + fu →  ∀ (xa : Int32) (xi : Int32), (xa = sgb bk i) → (xi = nI i) →  sw p l e ({ frames := 0, cells := 0, slots := 0, locals := 0 } : Room) s m args below meth c D A s.heap 6 0 0 (MQ below (ctQ D (tyz cI cJ cQ) A (pstI (sgb bk 8) [(a0, .inr (4, [.int (q), .int (g), .int (sv), .ref a1, .ref a2, .ref a4, .int (t), .int (ps), .int (ck), .ref a6, .ref a7])), (a1, .inl (cI, 4, .inl (pat))), (a2, .inr (2, [.int (nI (n)), .ref a3])), (a3, .inl (cI, 320, .inl (f))), (a4, .inr (0, [.int (nI (lc)), .ref a5])), (a5, .inl (cI, 80, .inl (lg))), (a6, .inl (cI, 3, .inl (lv))), (a7, .inl (cI, 8, .inl (bk)))])) args s 0 0 A) [(a0, .inr (4, [.int (q), .int (g), .int (sv), .ref a1, .ref a2, .ref a4, .int (t), .int (ps), .int (ck), .ref a6, .ref a7])), (a1, .inl (cI, 4, .inl (pat))), (a2, .inr (2, [.int (nI (n)), .ref a3])), (a3, .inl (cI, 320, .inl (f))), (a4, .inr (0, [.int (nI (lc)), .ref a5])), (a5, .inl (cI, 80, .inl (lg))), (a6, .inl (cI, 3, .inl (lv))), (a7, .inl (cI, 8, .inl (bk)))] 13 [(0, .ref a0), (1, .int xa), (2, .ref a7), (3, .int 8), (4, .int xi)] [] := by
  intro fu
  induction fu with
  | zero => intro i h1 h2; exact absurd h2 (by omega)
  | succ fu ih =>
    intro i hi hf  xa xi exa exi
    subst exa exi
    refine sw_iload 13 C dX4_sumGivenBack_13 rfl ?_
    refine sw_iload_n 15 3 C dX4_sumGivenBack_15 rfl rfl ?_
    refine sw_icmp_ge 16 36 C dX4_sumGivenBack_16 (by decide) (fun c_16 => ?_) (fun c_16 => ?_)
    · refine sw_iload_n 36 1 C dX4_sumGivenBack_36 rfl rfl ?_
      refine sw_iret 37 C RC dX4_sumGivenBack_37 ?_
      exact ⟨by rw [show i = 8 by have := nI_ge' (by omega) (b := 8) c_16 (by omega); omega], rfl⟩
    · have hlt : i < 8 := by
        rcases Nat.lt_or_ge i 8 with q | q
        · exact q
        · exact absurd (nI_le q (by omega)) c_16
      refine sw_aload_n 19 2 C dX4_sumGivenBack_19 rfl rfl ?_
      refine sw_iload 20 C dX4_sumGivenBack_20 rfl ?_
      refine sw_ialdN 22 7 0 (i) C dX4_sumGivenBack_22 rfl hlt rfl rfl rfl ?_
      refine sw_istore 23 C dX4_sumGivenBack_23 rfl ?_
      refine sw_iload_n 25 1 C dX4_sumGivenBack_25 rfl rfl ?_
      refine sw_iload 26 C dX4_sumGivenBack_26 rfl ?_
      refine sw_iadd 28 C dX4_sumGivenBack_28 ?_
      refine sw_istore_n 29 1 C dX4_sumGivenBack_29 rfl rfl ?_
      refine sw_loc (L1 := [(0, .ref _), (1, .int _), (2, .ref _), (3, .int _), (4, .int _), (5, .int _)]) ?_ rfl
      refine sw_iinc 30 C 1 dX4_sumGivenBack_30 (by decide) rfl rfl ?_
      refine sw_goto 33 13 C dX4_sumGivenBack_33 (by decide) ?_
      exact sw_loc (ih (i + 1) (by omega) (by omega) _ _ rfl (nI_1 i)) rfl
set_option maxHeartbeats 4000000 in
set_option maxRecDepth 100000 in
theorem ct_X4_sumGivenBack (l : Launch) {D : va_G} {cI cJ cQ : ClassId} {a0 a1 a2 a3 a4 a5 a6 a7 : Nat} {q g sv t ps ck : Int32} {n lc : Nat} {pat f lg lv bk : Nat → Int32} : Ct l yX4_sumGivenBack (Cond.code yX4_sumGivenBack cX4_sumGivenBack 6 (some .int)) 0 0 0 0 D (tyz cI cJ cQ) [.ref a0] [(a0, .inr (4, [.int (q), .int (g), .int (sv), .ref a1, .ref a2, .ref a4, .int (t), .int (ps), .int (ck), .ref a6, .ref a7])), (a1, .inl (cI, 4, .inl (pat))), (a2, .inr (2, [.int (nI (n)), .ref a3])), (a3, .inl (cI, 320, .inl (f))), (a4, .inr (0, [.int (nI (lc)), .ref a5])), (a5, .inl (cI, 80, .inl (lg))), (a6, .inl (cI, 3, .inl (lv))), (a7, .inl (cI, 8, .inl (bk)))] (pstI (sgb bk 8) [(a0, .inr (4, [.int (q), .int (g), .int (sv), .ref a1, .ref a2, .ref a4, .int (t), .int (ps), .int (ck), .ref a6, .ref a7])), (a1, .inl (cI, 4, .inl (pat))), (a2, .inr (2, [.int (nI (n)), .ref a3])), (a3, .inl (cI, 320, .inl (f))), (a4, .inr (0, [.int (nI (lc)), .ref a5])), (a5, .inl (cI, 80, .inl (lg))), (a6, .inl (cI, 3, .inl (lv))), (a7, .inl (cI, 8, .inl (bk)))]) := by
  refine Ct.of RX4 (by decide) rfl (Nat.le_of_ble_eq_true rfl) ?_
  intro p e s m below meth c A C RC
  refine sw_iconst 0 C dX4_sumGivenBack_0 0 (by decide) ?_
  refine sw_istore_n 1 1 C dX4_sumGivenBack_1 rfl rfl ?_
  refine sw_aload_n 2 0 C dX4_sumGivenBack_2 rfl rfl ?_
  refine sw_get 3 0 10 C dX4_sumGivenBack_3 rfl rfl (inA lwX4) (C.w wF_X4_39) rfl rfl rfl ?_
  refine sw_astore_n 6 2 C dX4_sumGivenBack_6 rfl rfl ?_
  refine sw_loc (L1 := [(0, .ref _), (1, .int _), (2, .ref _)]) ?_ rfl
  refine sw_aload_n 7 2 C dX4_sumGivenBack_7 rfl rfl ?_
  refine sw_alen 8 7 0 C 8 dX4_sumGivenBack_8 rfl rfl rfl ?_
  refine sw_istore_n 9 3 C dX4_sumGivenBack_9 rfl rfl ?_
  refine sw_iconst 10 C dX4_sumGivenBack_10 0 (by decide) ?_
  refine sw_istore 11 C dX4_sumGivenBack_11 rfl ?_
  exact sw_loc (lp_X4_sumGivenBack C RC 9 0 (Nat.zero_le _) (by omega) _ _ rfl rfl) rfl
def fig (q g sv t ps ck : Int32) (n lc : Nat) (f lv bk : Nat → Int32) : Nat → Int32
  | 0 => nI n
  | 1 => t
  | 2 => ps
  | 3 => lv 0
  | 4 => lv 1
  | 5 => lv 2
  | 6 => ck
  | 7 => sgb bk 8
  | 8 => smb f n
  | 9 => ldr f n
  | 10 => nI lc
  | 11 => q
  | 12 => g
  | _ => sv
set_option maxHeartbeats 4000000 in
set_option maxRecDepth 100000 in
theorem ct_X4_figure (l : Launch) {D : va_G} {cI cJ cQ : ClassId} {a0 a1 a2 a3 a4 a5 a6 a7 : Nat} {q g sv t ps ck : Int32} {n lc : Nat} {pat f lg lv bk : Nat → Int32} {x : Int32} (w : Nat) (h1 : x = nI w) (hw : w ≤ 13) (hn : n ≤ 40) : Ct l yX4_figure (Cond.code yX4_figure cX4_figure 2 (some .int)) 2 45 0 0 D (tyz cI cJ cQ) [.ref a0, .int x] [(a0, .inr (4, [.int (q), .int (g), .int (sv), .ref a1, .ref a2, .ref a4, .int (t), .int (ps), .int (ck), .ref a6, .ref a7])), (a1, .inl (cI, 4, .inl (pat))), (a2, .inr (2, [.int (nI (n)), .ref a3])), (a3, .inl (cI, 320, .inl (f))), (a4, .inr (0, [.int (nI (lc)), .ref a5])), (a5, .inl (cI, 80, .inl (lg))), (a6, .inl (cI, 3, .inl (lv))), (a7, .inl (cI, 8, .inl (bk)))] (pstI (fig q g sv t ps ck n lc f lv bk w) [(a0, .inr (4, [.int (q), .int (g), .int (sv), .ref a1, .ref a2, .ref a4, .int (t), .int (ps), .int (ck), .ref a6, .ref a7])), (a1, .inl (cI, 4, .inl (pat))), (a2, .inr (2, [.int (nI (n)), .ref a3])), (a3, .inl (cI, 320, .inl (f))), (a4, .inr (0, [.int (nI (lc)), .ref a5])), (a5, .inl (cI, 80, .inl (lg))), (a6, .inl (cI, 3, .inl (lv))), (a7, .inl (cI, 8, .inl (bk)))]) := by
  refine Ct.of RX4 (by decide) rfl (Nat.le_of_ble_eq_true rfl) ?_
  intro p e s m below meth c A C RC
  subst h1
  refine sw_iload_n 0 1 C dX4_figure_0 rfl rfl ?_
  by_cases e_1_0 : w = 0
  · refine sw_tblIn 1 68 C 0 dX4_figure_1 (by rw [e_1_0]; decide) (by decide) rfl (by decide) ?_
    refine sw_aload_n 68 0 C dX4_figure_68 rfl rfl ?_
    refine sw_get 69 0 4 C dX4_figure_69 rfl rfl (inA lwX4) (C.w wF_X4_25) rfl rfl rfl ?_
    refine sw_get 72 2 0 C dX4_figure_72 rfl rfl (inA lwX2) (C.w wF_X4_67) rfl rfl rfl ?_
    refine sw_iret 75 C RC dX4_figure_75 ?_
    exact ⟨by rw [e_1_0]; rfl, rfl⟩
  by_cases e_1_1 : w = 1
  · refine sw_tblIn 1 76 C 1 dX4_figure_1 (by rw [e_1_1]; decide) (by decide) rfl (by decide) ?_
    refine sw_aload_n 76 0 C dX4_figure_76 rfl rfl ?_
    refine sw_get 77 0 6 C dX4_figure_77 rfl rfl (inA lwX4) (C.w wF_X4_45) rfl rfl rfl ?_
    refine sw_iret 80 C RC dX4_figure_80 ?_
    exact ⟨by rw [e_1_1]; rfl, rfl⟩
  by_cases e_1_2 : w = 2
  · refine sw_tblIn 1 81 C 2 dX4_figure_1 (by rw [e_1_2]; decide) (by decide) rfl (by decide) ?_
    refine sw_aload_n 81 0 C dX4_figure_81 rfl rfl ?_
    refine sw_get 82 0 7 C dX4_figure_82 rfl rfl (inA lwX4) (C.w wF_X4_48) rfl rfl rfl ?_
    refine sw_iret 85 C RC dX4_figure_85 ?_
    exact ⟨by rw [e_1_2]; rfl, rfl⟩
  by_cases e_1_3 : w = 3
  · refine sw_tblIn 1 86 C 3 dX4_figure_1 (by rw [e_1_3]; decide) (by decide) rfl (by decide) ?_
    refine sw_aload_n 86 0 C dX4_figure_86 rfl rfl ?_
    refine sw_iconst 87 C dX4_figure_87 0 (by decide) ?_
    refine sw_callVIP 88 [0, 1, 2, 3, 4, 5, 6, 7] 1 C dX4_figure_88 (ct_X4_leftBy l 0 rfl (by decide)) wK_X4_leftBy wM_X4_119 wN_X4_leftBy wS_X4_X4_leftBy wI_X4 hd_X4_leftBy rfl rfl rfl ⟨rfl, rfl⟩ ⟨Nat.le_of_ble_eq_true rfl, Nat.le_of_ble_eq_true rfl⟩ rfl rfl rfl rfl ?_
    refine sw_iret 91 C RC dX4_figure_91 ?_
    exact ⟨by rw [e_1_3]; rfl, rfl⟩
  by_cases e_1_4 : w = 4
  · refine sw_tblIn 1 92 C 4 dX4_figure_1 (by rw [e_1_4]; decide) (by decide) rfl (by decide) ?_
    refine sw_aload_n 92 0 C dX4_figure_92 rfl rfl ?_
    refine sw_iconst 93 C dX4_figure_93 1 (by decide) ?_
    refine sw_callVIP 94 [0, 1, 2, 3, 4, 5, 6, 7] 1 C dX4_figure_94 (ct_X4_leftBy l 1 rfl (by decide)) wK_X4_leftBy wM_X4_119 wN_X4_leftBy wS_X4_X4_leftBy wI_X4 hd_X4_leftBy rfl rfl rfl ⟨rfl, rfl⟩ ⟨Nat.le_of_ble_eq_true rfl, Nat.le_of_ble_eq_true rfl⟩ rfl rfl rfl rfl ?_
    refine sw_iret 97 C RC dX4_figure_97 ?_
    exact ⟨by rw [e_1_4]; rfl, rfl⟩
  by_cases e_1_5 : w = 5
  · refine sw_tblIn 1 98 C 5 dX4_figure_1 (by rw [e_1_5]; decide) (by decide) rfl (by decide) ?_
    refine sw_aload_n 98 0 C dX4_figure_98 rfl rfl ?_
    refine sw_iconst 99 C dX4_figure_99 2 (by decide) ?_
    refine sw_callVIP 100 [0, 1, 2, 3, 4, 5, 6, 7] 1 C dX4_figure_100 (ct_X4_leftBy l 2 rfl (by decide)) wK_X4_leftBy wM_X4_119 wN_X4_leftBy wS_X4_X4_leftBy wI_X4 hd_X4_leftBy rfl rfl rfl ⟨rfl, rfl⟩ ⟨Nat.le_of_ble_eq_true rfl, Nat.le_of_ble_eq_true rfl⟩ rfl rfl rfl rfl ?_
    refine sw_iret 103 C RC dX4_figure_103 ?_
    exact ⟨by rw [e_1_5]; rfl, rfl⟩
  by_cases e_1_6 : w = 6
  · refine sw_tblIn 1 104 C 6 dX4_figure_1 (by rw [e_1_6]; decide) (by decide) rfl (by decide) ?_
    refine sw_aload_n 104 0 C dX4_figure_104 rfl rfl ?_
    refine sw_get 105 0 8 C dX4_figure_105 rfl rfl (inA lwX4) (C.w wF_X4_51) rfl rfl rfl ?_
    refine sw_iret 108 C RC dX4_figure_108 ?_
    exact ⟨by rw [e_1_6]; rfl, rfl⟩
  by_cases e_1_7 : w = 7
  · refine sw_tblIn 1 109 C 7 dX4_figure_1 (by rw [e_1_7]; decide) (by decide) rfl (by decide) ?_
    refine sw_aload_n 109 0 C dX4_figure_109 rfl rfl ?_
    refine sw_callVIP 110 [0, 1, 2, 3, 4, 5, 6, 7] 0 C dX4_figure_110 (ct_X4_sumGivenBack l) wK_X4_sumGivenBack wM_X4_122 wN_X4_sumGivenBack wS_X4_X4_sumGivenBack wI_X4 hd_X4_sumGivenBack rfl rfl rfl ⟨rfl, rfl⟩ ⟨Nat.le_of_ble_eq_true rfl, Nat.le_of_ble_eq_true rfl⟩ rfl rfl rfl rfl ?_
    refine sw_iret 113 C RC dX4_figure_113 ?_
    exact ⟨by rw [e_1_7]; rfl, rfl⟩
  by_cases e_1_8 : w = 8
  · refine sw_tblIn 1 114 C 8 dX4_figure_1 (by rw [e_1_8]; decide) (by decide) rfl (by decide) ?_
    refine sw_aload_n 114 0 C dX4_figure_114 rfl rfl ?_
    refine sw_get 115 0 4 C dX4_figure_115 rfl rfl (inA lwX4) (C.w wF_X4_25) rfl rfl rfl ?_
    refine sw_callVIP 118 [2, 3] 0 C dX4_figure_118 (ct_X2_sumOfBribes l hn) wK_X2_sumOfBribes wM_X4_125 wN_X2_sumOfBribes wS_X2_X2_sumOfBribes wI_X2 hd_X2_sumOfBribes rfl rfl rfl ⟨rfl, rfl⟩ ⟨Nat.le_of_ble_eq_true rfl, Nat.le_of_ble_eq_true rfl⟩ rfl rfl rfl rfl ?_
    refine sw_iret 121 C RC dX4_figure_121 ?_
    exact ⟨by rw [e_1_8]; rfl, rfl⟩
  by_cases e_1_9 : w = 9
  · refine sw_tblIn 1 122 C 9 dX4_figure_1 (by rw [e_1_9]; decide) (by decide) rfl (by decide) ?_
    refine sw_aload_n 122 0 C dX4_figure_122 rfl rfl ?_
    refine sw_get 123 0 4 C dX4_figure_123 rfl rfl (inA lwX4) (C.w wF_X4_25) rfl rfl rfl ?_
    refine sw_callVIP 126 [2, 3] 0 C dX4_figure_126 (ct_X2_loudestRank l hn) wK_X2_loudestRank wM_X4_128 wN_X2_loudestRank wS_X2_X2_loudestRank wI_X2 hd_X2_loudestRank rfl rfl rfl ⟨rfl, rfl⟩ ⟨Nat.le_of_ble_eq_true rfl, Nat.le_of_ble_eq_true rfl⟩ rfl rfl rfl rfl ?_
    refine sw_iret 129 C RC dX4_figure_129 ?_
    exact ⟨by rw [e_1_9]; rfl, rfl⟩
  by_cases e_1_10 : w = 10
  · refine sw_tblIn 1 130 C 10 dX4_figure_1 (by rw [e_1_10]; decide) (by decide) rfl (by decide) ?_
    refine sw_aload_n 130 0 C dX4_figure_130 rfl rfl ?_
    refine sw_get 131 0 5 C dX4_figure_131 rfl rfl (inA lwX4) (C.w wF_X4_32) rfl rfl rfl ?_
    refine sw_get 134 4 0 C dX4_figure_134 rfl rfl (inA lwX0) (C.w wF_X4_131) rfl rfl rfl ?_
    refine sw_iret 137 C RC dX4_figure_137 ?_
    exact ⟨by rw [e_1_10]; rfl, rfl⟩
  by_cases e_1_11 : w = 11
  · refine sw_tblIn 1 138 C 11 dX4_figure_1 (by rw [e_1_11]; decide) (by decide) rfl (by decide) ?_
    refine sw_aload_n 138 0 C dX4_figure_138 rfl rfl ?_
    refine sw_get 139 0 0 C dX4_figure_139 rfl rfl (inA lwX4) (C.w wF_X4_9) rfl rfl rfl ?_
    refine sw_iret 142 C RC dX4_figure_142 ?_
    exact ⟨by rw [e_1_11]; rfl, rfl⟩
  by_cases e_1_12 : w = 12
  · refine sw_tblIn 1 143 C 12 dX4_figure_1 (by rw [e_1_12]; decide) (by decide) rfl (by decide) ?_
    refine sw_aload_n 143 0 C dX4_figure_143 rfl rfl ?_
    refine sw_get 144 0 1 C dX4_figure_144 rfl rfl (inA lwX4) (C.w wF_X4_15) rfl rfl rfl ?_
    refine sw_iret 147 C RC dX4_figure_147 ?_
    exact ⟨by rw [e_1_12]; rfl, rfl⟩
  refine sw_tblOut 1 148 C dX4_figure_1 (by rw [nI_toInt (by omega)]; omega) (by decide) ?_
  refine sw_aload_n 148 0 C dX4_figure_148 rfl rfl ?_
  refine sw_get 149 0 2 C dX4_figure_149 rfl rfl (inA lwX4) (C.w wF_X4_42) rfl rfl rfl ?_
  refine sw_iret 152 C RC dX4_figure_152 ?_
  exact ⟨by rw [show w = 13 by omega]; rfl, rfl⟩
set_option maxHeartbeats 4000000 in
set_option maxRecDepth 100000 in
theorem ct_X4_copyFrom (l : Launch) {D : va_G} {cI cJ cQ : ClassId} {a0 a1 a2 a3 a4 a5 a6 a7 : Nat} {q g sv t ps ck : Int32} {n lc : Nat} {pat f lg lv bk : Nat → Int32} {b0 b1 b2 b3 b4 b5 b6 b7 : Nat} {q2 g2 sv2 t2 ps2 ck2 : Int32} {n2 lc2 : Nat} {pat2 f2 lg2 lv2 bk2 : Nat → Int32} : Ct l yX4_copyFrom (Cond.code yX4_copyFrom cX4_copyFrom 2 none) 2 41 0 0 D (tyz cI cJ cQ) [.ref a0, .ref b0] [(a0, .inr (4, [.int (q), .int (g), .int (sv), .ref a1, .ref a2, .ref a4, .int (t), .int (ps), .int (ck), .ref a6, .ref a7])), (a1, .inl (cI, 4, .inl (pat))), (a2, .inr (2, [.int (nI (n)), .ref a3])), (a3, .inl (cI, 320, .inl (f))), (a4, .inr (0, [.int (nI (lc)), .ref a5])), (a5, .inl (cI, 80, .inl (lg))), (a6, .inl (cI, 3, .inl (lv))), (a7, .inl (cI, 8, .inl (bk))), (b0, .inr (4, [.int (q2), .int (g2), .int (sv2), .ref b1, .ref b2, .ref b4, .int (t2), .int (ps2), .int (ck2), .ref b6, .ref b7])), (b1, .inl (cI, 4, .inl (pat2))), (b2, .inr (2, [.int (nI (n2)), .ref b3])), (b3, .inl (cI, 320, .inl (f2))), (b4, .inr (0, [.int (nI (lc2)), .ref b5])), (b5, .inl (cI, 80, .inl (lg2))), (b6, .inl (cI, 3, .inl (lv2))), (b7, .inl (cI, 8, .inl (bk2)))] (pstV [(a0, .inr (4, [.int (q2), .int (g2), .int (sv2), .ref a1, .ref a2, .ref a4, .int (t2), .int (ps2), .int (ck2), .ref a6, .ref a7])), (a1, .inl (cI, 4, .inl (pat2))), (a2, .inr (2, [.int (nI (n2)), .ref a3])), (a3, .inl (cI, 320, .inl (f2))), (a4, .inr (0, [.int (nI (lc2)), .ref a5])), (a5, .inl (cI, 80, .inl (lg2))), (a6, .inl (cI, 3, .inl (lv2))), (a7, .inl (cI, 8, .inl (bk2))), (b0, .inr (4, [.int (q2), .int (g2), .int (sv2), .ref b1, .ref b2, .ref b4, .int (t2), .int (ps2), .int (ck2), .ref b6, .ref b7])), (b1, .inl (cI, 4, .inl (pat2))), (b2, .inr (2, [.int (nI (n2)), .ref b3])), (b3, .inl (cI, 320, .inl (f2))), (b4, .inr (0, [.int (nI (lc2)), .ref b5])), (b5, .inl (cI, 80, .inl (lg2))), (b6, .inl (cI, 3, .inl (lv2))), (b7, .inl (cI, 8, .inl (bk2)))]) := by
  refine Ct.of RX4 (by decide) rfl (Nat.le_of_ble_eq_true rfl) ?_
  intro p e s m below meth c A C RC
  refine sw_aload_n 0 0 C dX4_copyFrom_0 rfl rfl ?_
  refine sw_aload_n 1 1 C dX4_copyFrom_1 rfl rfl ?_
  refine sw_get 2 8 0 C dX4_copyFrom_2 rfl rfl (inA lwX4) (C.w wF_X4_9) rfl rfl rfl ?_
  refine sw_put 5 0 0 tyX4 C dX4_copyFrom_5 rfl rfl (inA lwX4) tyX4_ok nmX4 (C.w wF_X4_9) rfl rfl rfl rfl rfl rfl rfl ?_
  refine sw_ws [(_, .inr (4, [.int _, .int _, .int _, .ref _, .ref _, .ref _, .int _, .int _, .int _, .ref _, .ref _])), (_, .inl (_, _, .inl _)), (_, .inr (2, [.int _, .ref _])), (_, .inl (_, _, .inl _)), (_, .inr (0, [.int _, .ref _])), (_, .inl (_, _, .inl _)), (_, .inl (_, _, .inl _)), (_, .inl (_, _, .inl _)), (_, .inr (4, [.int _, .int _, .int _, .ref _, .ref _, .ref _, .int _, .int _, .int _, .ref _, .ref _])), (_, .inl (_, _, .inl _)), (_, .inr (2, [.int _, .ref _])), (_, .inl (_, _, .inl _)), (_, .inr (0, [.int _, .ref _])), (_, .inl (_, _, .inl _)), (_, .inl (_, _, .inl _)), (_, .inl (_, _, .inl _))] rfl ?_
  refine sw_aload_n 8 0 C dX4_copyFrom_8 rfl rfl ?_
  refine sw_aload_n 9 1 C dX4_copyFrom_9 rfl rfl ?_
  refine sw_get 10 8 1 C dX4_copyFrom_10 rfl rfl (inA lwX4) (C.w wF_X4_15) rfl rfl rfl ?_
  refine sw_put 13 0 1 tyX4 C dX4_copyFrom_13 rfl rfl (inA lwX4) tyX4_ok nmX4 (C.w wF_X4_15) rfl rfl rfl rfl rfl rfl rfl ?_
  refine sw_ws [(_, .inr (4, [.int _, .int _, .int _, .ref _, .ref _, .ref _, .int _, .int _, .int _, .ref _, .ref _])), (_, .inl (_, _, .inl _)), (_, .inr (2, [.int _, .ref _])), (_, .inl (_, _, .inl _)), (_, .inr (0, [.int _, .ref _])), (_, .inl (_, _, .inl _)), (_, .inl (_, _, .inl _)), (_, .inl (_, _, .inl _)), (_, .inr (4, [.int _, .int _, .int _, .ref _, .ref _, .ref _, .int _, .int _, .int _, .ref _, .ref _])), (_, .inl (_, _, .inl _)), (_, .inr (2, [.int _, .ref _])), (_, .inl (_, _, .inl _)), (_, .inr (0, [.int _, .ref _])), (_, .inl (_, _, .inl _)), (_, .inl (_, _, .inl _)), (_, .inl (_, _, .inl _))] rfl ?_
  refine sw_aload_n 16 0 C dX4_copyFrom_16 rfl rfl ?_
  refine sw_aload_n 17 1 C dX4_copyFrom_17 rfl rfl ?_
  refine sw_get 18 8 2 C dX4_copyFrom_18 rfl rfl (inA lwX4) (C.w wF_X4_42) rfl rfl rfl ?_
  refine sw_put 21 0 2 tyX4 C dX4_copyFrom_21 rfl rfl (inA lwX4) tyX4_ok nmX4 (C.w wF_X4_42) rfl rfl rfl rfl rfl rfl rfl ?_
  refine sw_ws [(_, .inr (4, [.int _, .int _, .int _, .ref _, .ref _, .ref _, .int _, .int _, .int _, .ref _, .ref _])), (_, .inl (_, _, .inl _)), (_, .inr (2, [.int _, .ref _])), (_, .inl (_, _, .inl _)), (_, .inr (0, [.int _, .ref _])), (_, .inl (_, _, .inl _)), (_, .inl (_, _, .inl _)), (_, .inl (_, _, .inl _)), (_, .inr (4, [.int _, .int _, .int _, .ref _, .ref _, .ref _, .int _, .int _, .int _, .ref _, .ref _])), (_, .inl (_, _, .inl _)), (_, .inr (2, [.int _, .ref _])), (_, .inl (_, _, .inl _)), (_, .inr (0, [.int _, .ref _])), (_, .inl (_, _, .inl _)), (_, .inl (_, _, .inl _)), (_, .inl (_, _, .inl _))] rfl ?_
  refine sw_aload_n 24 0 C dX4_copyFrom_24 rfl rfl ?_
  refine sw_aload_n 25 1 C dX4_copyFrom_25 rfl rfl ?_
  refine sw_get 26 8 6 C dX4_copyFrom_26 rfl rfl (inA lwX4) (C.w wF_X4_45) rfl rfl rfl ?_
  refine sw_put 29 0 6 tyX4 C dX4_copyFrom_29 rfl rfl (inA lwX4) tyX4_ok nmX4 (C.w wF_X4_45) rfl rfl rfl rfl rfl rfl rfl ?_
  refine sw_ws [(_, .inr (4, [.int _, .int _, .int _, .ref _, .ref _, .ref _, .int _, .int _, .int _, .ref _, .ref _])), (_, .inl (_, _, .inl _)), (_, .inr (2, [.int _, .ref _])), (_, .inl (_, _, .inl _)), (_, .inr (0, [.int _, .ref _])), (_, .inl (_, _, .inl _)), (_, .inl (_, _, .inl _)), (_, .inl (_, _, .inl _)), (_, .inr (4, [.int _, .int _, .int _, .ref _, .ref _, .ref _, .int _, .int _, .int _, .ref _, .ref _])), (_, .inl (_, _, .inl _)), (_, .inr (2, [.int _, .ref _])), (_, .inl (_, _, .inl _)), (_, .inr (0, [.int _, .ref _])), (_, .inl (_, _, .inl _)), (_, .inl (_, _, .inl _)), (_, .inl (_, _, .inl _))] rfl ?_
  refine sw_aload_n 32 0 C dX4_copyFrom_32 rfl rfl ?_
  refine sw_aload_n 33 1 C dX4_copyFrom_33 rfl rfl ?_
  refine sw_get 34 8 7 C dX4_copyFrom_34 rfl rfl (inA lwX4) (C.w wF_X4_48) rfl rfl rfl ?_
  refine sw_put 37 0 7 tyX4 C dX4_copyFrom_37 rfl rfl (inA lwX4) tyX4_ok nmX4 (C.w wF_X4_48) rfl rfl rfl rfl rfl rfl rfl ?_
  refine sw_ws [(_, .inr (4, [.int _, .int _, .int _, .ref _, .ref _, .ref _, .int _, .int _, .int _, .ref _, .ref _])), (_, .inl (_, _, .inl _)), (_, .inr (2, [.int _, .ref _])), (_, .inl (_, _, .inl _)), (_, .inr (0, [.int _, .ref _])), (_, .inl (_, _, .inl _)), (_, .inl (_, _, .inl _)), (_, .inl (_, _, .inl _)), (_, .inr (4, [.int _, .int _, .int _, .ref _, .ref _, .ref _, .int _, .int _, .int _, .ref _, .ref _])), (_, .inl (_, _, .inl _)), (_, .inr (2, [.int _, .ref _])), (_, .inl (_, _, .inl _)), (_, .inr (0, [.int _, .ref _])), (_, .inl (_, _, .inl _)), (_, .inl (_, _, .inl _)), (_, .inl (_, _, .inl _))] rfl ?_
  refine sw_aload_n 40 0 C dX4_copyFrom_40 rfl rfl ?_
  refine sw_aload_n 41 1 C dX4_copyFrom_41 rfl rfl ?_
  refine sw_get 42 8 8 C dX4_copyFrom_42 rfl rfl (inA lwX4) (C.w wF_X4_51) rfl rfl rfl ?_
  refine sw_put 45 0 8 tyX4 C dX4_copyFrom_45 rfl rfl (inA lwX4) tyX4_ok nmX4 (C.w wF_X4_51) rfl rfl rfl rfl rfl rfl rfl ?_
  refine sw_ws [(_, .inr (4, [.int _, .int _, .int _, .ref _, .ref _, .ref _, .int _, .int _, .int _, .ref _, .ref _])), (_, .inl (_, _, .inl _)), (_, .inr (2, [.int _, .ref _])), (_, .inl (_, _, .inl _)), (_, .inr (0, [.int _, .ref _])), (_, .inl (_, _, .inl _)), (_, .inl (_, _, .inl _)), (_, .inl (_, _, .inl _)), (_, .inr (4, [.int _, .int _, .int _, .ref _, .ref _, .ref _, .int _, .int _, .int _, .ref _, .ref _])), (_, .inl (_, _, .inl _)), (_, .inr (2, [.int _, .ref _])), (_, .inl (_, _, .inl _)), (_, .inr (0, [.int _, .ref _])), (_, .inl (_, _, .inl _)), (_, .inl (_, _, .inl _)), (_, .inl (_, _, .inl _))] rfl ?_
  refine sw_aload_n 48 1 C dX4_copyFrom_48 rfl rfl ?_
  refine sw_get 49 8 3 C dX4_copyFrom_49 rfl rfl (inA lwX4) (C.w wF_X4_18) rfl rfl rfl ?_
  refine sw_iconst 52 C dX4_copyFrom_52 0 (by decide) ?_
  refine sw_aload_n 53 0 C dX4_copyFrom_53 rfl rfl ?_
  refine sw_get 54 0 3 C dX4_copyFrom_54 rfl rfl (inA lwX4) (C.w wF_X4_18) rfl rfl rfl ?_
  refine sw_iconst 57 C dX4_copyFrom_57 0 (by decide) ?_
  refine sw_aload_n 58 0 C dX4_copyFrom_58 rfl rfl ?_
  refine sw_get 59 0 3 C dX4_copyFrom_59 rfl rfl (inA lwX4) (C.w wF_X4_18) rfl rfl rfl ?_
  refine sw_alen 62 1 0 C 4 dX4_copyFrom_62 rfl rfl rfl ?_
  refine sw_copyN 63 9 1 0 (0) (0) (4) C dX4_copyFrom_63 (C.w wM_X4_54) (C.w wNat_J10_arraycopy__Ljava_lang_Object_ILjava_lang_Object_II_V) (C.w wT_J10_arraycopy__Ljava_lang_Object_ILjava_lang_Object_II_V) (C.w wI_J10) rfl rfl rfl (by decide) (by decide) rfl rfl (Nat.le_of_ble_eq_true rfl) (Nat.le_of_ble_eq_true rfl) rfl rfl rfl ?_
  refine sw_ws [(_, .inr (4, [.int _, .int _, .int _, .ref _, .ref _, .ref _, .int _, .int _, .int _, .ref _, .ref _])), (_, .inl (_, _, .inl _)), (_, .inr (2, [.int _, .ref _])), (_, .inl (_, _, .inl _)), (_, .inr (0, [.int _, .ref _])), (_, .inl (_, _, .inl _)), (_, .inl (_, _, .inl _)), (_, .inl (_, _, .inl _)), (_, .inr (4, [.int _, .int _, .int _, .ref _, .ref _, .ref _, .int _, .int _, .int _, .ref _, .ref _])), (_, .inl (_, _, .inl _)), (_, .inr (2, [.int _, .ref _])), (_, .inl (_, _, .inl _)), (_, .inr (0, [.int _, .ref _])), (_, .inl (_, _, .inl _)), (_, .inl (_, _, .inl _)), (_, .inl (_, _, .inl _))] rfl ?_
  refine sw_arrEq 1 pat2 rfl (fun j hj => va_cpy_all hj) ?_
  refine sw_aload_n 66 1 C dX4_copyFrom_66 rfl rfl ?_
  refine sw_get 67 8 9 C dX4_copyFrom_67 rfl rfl (inA lwX4) (C.w wF_X4_36) rfl rfl rfl ?_
  refine sw_iconst 70 C dX4_copyFrom_70 0 (by decide) ?_
  refine sw_aload_n 71 0 C dX4_copyFrom_71 rfl rfl ?_
  refine sw_get 72 0 9 C dX4_copyFrom_72 rfl rfl (inA lwX4) (C.w wF_X4_36) rfl rfl rfl ?_
  refine sw_iconst 75 C dX4_copyFrom_75 0 (by decide) ?_
  refine sw_aload_n 76 0 C dX4_copyFrom_76 rfl rfl ?_
  refine sw_get 77 0 9 C dX4_copyFrom_77 rfl rfl (inA lwX4) (C.w wF_X4_36) rfl rfl rfl ?_
  refine sw_alen 80 6 0 C 3 dX4_copyFrom_80 rfl rfl rfl ?_
  refine sw_copyN 81 14 6 0 (0) (0) (3) C dX4_copyFrom_81 (C.w wM_X4_54) (C.w wNat_J10_arraycopy__Ljava_lang_Object_ILjava_lang_Object_II_V) (C.w wT_J10_arraycopy__Ljava_lang_Object_ILjava_lang_Object_II_V) (C.w wI_J10) rfl rfl rfl (by decide) (by decide) rfl rfl (Nat.le_of_ble_eq_true rfl) (Nat.le_of_ble_eq_true rfl) rfl rfl rfl ?_
  refine sw_ws [(_, .inr (4, [.int _, .int _, .int _, .ref _, .ref _, .ref _, .int _, .int _, .int _, .ref _, .ref _])), (_, .inl (_, _, .inl _)), (_, .inr (2, [.int _, .ref _])), (_, .inl (_, _, .inl _)), (_, .inr (0, [.int _, .ref _])), (_, .inl (_, _, .inl _)), (_, .inl (_, _, .inl _)), (_, .inl (_, _, .inl _)), (_, .inr (4, [.int _, .int _, .int _, .ref _, .ref _, .ref _, .int _, .int _, .int _, .ref _, .ref _])), (_, .inl (_, _, .inl _)), (_, .inr (2, [.int _, .ref _])), (_, .inl (_, _, .inl _)), (_, .inr (0, [.int _, .ref _])), (_, .inl (_, _, .inl _)), (_, .inl (_, _, .inl _)), (_, .inl (_, _, .inl _))] rfl ?_
  refine sw_arrEq 6 lv2 rfl (fun j hj => va_cpy_all hj) ?_
  refine sw_aload_n 84 1 C dX4_copyFrom_84 rfl rfl ?_
  refine sw_get 85 8 10 C dX4_copyFrom_85 rfl rfl (inA lwX4) (C.w wF_X4_39) rfl rfl rfl ?_
  refine sw_iconst 88 C dX4_copyFrom_88 0 (by decide) ?_
  refine sw_aload_n 89 0 C dX4_copyFrom_89 rfl rfl ?_
  refine sw_get 90 0 10 C dX4_copyFrom_90 rfl rfl (inA lwX4) (C.w wF_X4_39) rfl rfl rfl ?_
  refine sw_iconst 93 C dX4_copyFrom_93 0 (by decide) ?_
  refine sw_aload_n 94 0 C dX4_copyFrom_94 rfl rfl ?_
  refine sw_get 95 0 10 C dX4_copyFrom_95 rfl rfl (inA lwX4) (C.w wF_X4_39) rfl rfl rfl ?_
  refine sw_alen 98 7 0 C 8 dX4_copyFrom_98 rfl rfl rfl ?_
  refine sw_copyN 99 15 7 0 (0) (0) (8) C dX4_copyFrom_99 (C.w wM_X4_54) (C.w wNat_J10_arraycopy__Ljava_lang_Object_ILjava_lang_Object_II_V) (C.w wT_J10_arraycopy__Ljava_lang_Object_ILjava_lang_Object_II_V) (C.w wI_J10) rfl rfl rfl (by decide) (by decide) rfl rfl (Nat.le_of_ble_eq_true rfl) (Nat.le_of_ble_eq_true rfl) rfl rfl rfl ?_
  refine sw_ws [(_, .inr (4, [.int _, .int _, .int _, .ref _, .ref _, .ref _, .int _, .int _, .int _, .ref _, .ref _])), (_, .inl (_, _, .inl _)), (_, .inr (2, [.int _, .ref _])), (_, .inl (_, _, .inl _)), (_, .inr (0, [.int _, .ref _])), (_, .inl (_, _, .inl _)), (_, .inl (_, _, .inl _)), (_, .inl (_, _, .inl _)), (_, .inr (4, [.int _, .int _, .int _, .ref _, .ref _, .ref _, .int _, .int _, .int _, .ref _, .ref _])), (_, .inl (_, _, .inl _)), (_, .inr (2, [.int _, .ref _])), (_, .inl (_, _, .inl _)), (_, .inr (0, [.int _, .ref _])), (_, .inl (_, _, .inl _)), (_, .inl (_, _, .inl _)), (_, .inl (_, _, .inl _))] rfl ?_
  refine sw_arrEq 7 bk2 rfl (fun j hj => va_cpy_all hj) ?_
  refine sw_aload_n 102 0 C dX4_copyFrom_102 rfl rfl ?_
  refine sw_get 103 0 4 C dX4_copyFrom_103 rfl rfl (inA lwX4) (C.w wF_X4_25) rfl rfl rfl ?_
  refine sw_aload_n 106 1 C dX4_copyFrom_106 rfl rfl ?_
  refine sw_get 107 8 4 C dX4_copyFrom_107 rfl rfl (inA lwX4) (C.w wF_X4_25) rfl rfl rfl ?_
  refine sw_callVV 110 [2, 3, 10, 11] 1 C dX4_copyFrom_110 (ct_X2_copyFrom l) wK_X2_copyFrom wM_X4_60 wN_X2_copyFrom wS_X2_X2_copyFrom wI_X2 hd_X2_copyFrom rfl rfl rfl ⟨rfl, rfl⟩ ⟨Nat.le_of_ble_eq_true rfl, Nat.le_of_ble_eq_true rfl⟩ rfl rfl rfl rfl rfl ?_
  refine sw_ws [(_, .inr (4, [.int _, .int _, .int _, .ref _, .ref _, .ref _, .int _, .int _, .int _, .ref _, .ref _])), (_, .inl (_, _, .inl _)), (_, .inr (2, [.int _, .ref _])), (_, .inl (_, _, .inl _)), (_, .inr (0, [.int _, .ref _])), (_, .inl (_, _, .inl _)), (_, .inl (_, _, .inl _)), (_, .inl (_, _, .inl _)), (_, .inr (4, [.int _, .int _, .int _, .ref _, .ref _, .ref _, .int _, .int _, .int _, .ref _, .ref _])), (_, .inl (_, _, .inl _)), (_, .inr (2, [.int _, .ref _])), (_, .inl (_, _, .inl _)), (_, .inr (0, [.int _, .ref _])), (_, .inl (_, _, .inl _)), (_, .inl (_, _, .inl _)), (_, .inl (_, _, .inl _))] rfl ?_
  refine sw_aload_n 113 0 C dX4_copyFrom_113 rfl rfl ?_
  refine sw_get 114 0 5 C dX4_copyFrom_114 rfl rfl (inA lwX4) (C.w wF_X4_32) rfl rfl rfl ?_
  refine sw_aload_n 117 1 C dX4_copyFrom_117 rfl rfl ?_
  refine sw_get 118 8 5 C dX4_copyFrom_118 rfl rfl (inA lwX4) (C.w wF_X4_32) rfl rfl rfl ?_
  refine sw_callVV 121 [4, 5, 12, 13] 1 C dX4_copyFrom_121 (ct_X0_copyFrom l) wK_X0_copyFrom wM_X4_64 wN_X0_copyFrom wS_X0_X0_copyFrom wI_X0 hd_X0_copyFrom rfl rfl rfl ⟨rfl, rfl⟩ ⟨Nat.le_of_ble_eq_true rfl, Nat.le_of_ble_eq_true rfl⟩ rfl rfl rfl rfl rfl ?_
  refine sw_ws [(_, .inr (4, [.int _, .int _, .int _, .ref _, .ref _, .ref _, .int _, .int _, .int _, .ref _, .ref _])), (_, .inl (_, _, .inl _)), (_, .inr (2, [.int _, .ref _])), (_, .inl (_, _, .inl _)), (_, .inr (0, [.int _, .ref _])), (_, .inl (_, _, .inl _)), (_, .inl (_, _, .inl _)), (_, .inl (_, _, .inl _)), (_, .inr (4, [.int _, .int _, .int _, .ref _, .ref _, .ref _, .int _, .int _, .int _, .ref _, .ref _])), (_, .inl (_, _, .inl _)), (_, .inr (2, [.int _, .ref _])), (_, .inl (_, _, .inl _)), (_, .inr (0, [.int _, .ref _])), (_, .inl (_, _, .inl _)), (_, .inl (_, _, .inl _)), (_, .inl (_, _, .inl _))] rfl ?_
  refine sw_vret 124 C RC dX4_copyFrom_124 ?_
  exact ⟨rfl, rfl⟩
def okSd (x : Int32) : Prop := x = nI x.toNatClampNeg ∧ x.toNatClampNeg < 8
theorem i32_ix {x : Int32} {n : Nat} (h0 : ¬ x < 0) (h1 : ¬ nI n ≤ x) (hn : n < 2 ^ 31) : ∃ r : Nat, r < n ∧ x = nI r := by
  rcases pk_ix x hn with h | h | h
  · exact absurd h h0
  · exact absurd h h1
  · exact h
set_option maxHeartbeats 4000000 in
set_option maxRecDepth 100000 in
theorem ct_X4_letLeave (l : Launch) {D : va_G} {cI cJ cQ : ClassId} {a0 a1 a2 a3 a4 a5 a6 a7 : Nat} {q g sv t ps ck : Int32} {n lc : Nat} {pat f lg lv bk : Nat → Int32} {x1 x2 : Int32} (i w : Nat) (h1 : x1 = nI i) (h2 : x2 = nI w) (hi : i < n) (hw : w < 3) (hn : n ≤ 40) (hl : lc ≤ 16) (hsd : okSd (f (i * 8 + 0))) : Ct l yX4_letLeave (Cond.code yX4_letLeave cX4_letLeave 6 (some .int)) 2 46 0 0 D (tyz cI cJ cQ) [.ref a0, .int x1, .int x2] [(a0, .inr (4, [.int (q), .int (g), .int (sv), .ref a1, .ref a2, .ref a4, .int (t), .int (ps), .int (ck), .ref a6, .ref a7])), (a1, .inl (cI, 4, .inl (pat))), (a2, .inr (2, [.int (nI (n)), .ref a3])), (a3, .inl (cI, 320, .inl (f))), (a4, .inr (0, [.int (nI (lc)), .ref a5])), (a5, .inl (cI, 80, .inl (lg))), (a6, .inl (cI, 3, .inl (lv))), (a7, .inl (cI, 8, .inl (bk)))] (pstI (gbk f g i w) [(a0, .inr (4, [.int (q), .int (g), .int (sv), .ref a1, .ref a2, .ref a4, .int (t), .int (ps), .int (ck + (f (i * 8 + 6) - gbk f g i w)), .ref a6, .ref a7])), (a1, .inl (cI, 4, .inl (pat))), (a2, .inr (2, [.int (nI (n - 1)), .ref a3])), (a3, .inl (cI, 320, .inl (rmv f n i))), (a4, .inr (0, [.int (nI (lgc lc)), .ref a5])), (a5, .inl (cI, 80, .inl (lga lg (f (i * 8 + 7)) (nI w) (f (i * 8 + 3)) (gbk f g i w) (f (i * 8 + 2))))), (a6, .inl (cI, 3, .inl (upd lv w (lv w + 1)))), (a7, .inl (cI, 8, .inl (upd bk (f (i * 8 + 0)).toNatClampNeg (bk (f (i * 8 + 0)).toNatClampNeg + gbk f g i w))))]) := by
  refine Ct.of RX4 (by decide) rfl (Nat.le_of_ble_eq_true rfl) ?_
  intro p e s m below meth c A C RC
  subst h1 h2
  refine sw_aload_n 0 0 C dX4_letLeave_0 rfl rfl ?_
  refine sw_iload_n 1 1 C dX4_letLeave_1 rfl rfl ?_
  refine sw_iload_n 2 2 C dX4_letLeave_2 rfl rfl ?_
  refine sw_callVIP 3 [0, 1, 2, 3, 4, 5, 6, 7] 2 C dX4_letLeave_3 (ct_X4_bribeGivenBack l i w rfl rfl hi hw hn) wK_X4_bribeGivenBack wM_X4_101 wN_X4_bribeGivenBack wS_X4_X4_bribeGivenBack wI_X4 hd_X4_bribeGivenBack rfl rfl rfl ⟨rfl, rfl⟩ ⟨Nat.le_of_ble_eq_true rfl, Nat.le_of_ble_eq_true rfl⟩ rfl rfl rfl rfl ?_
  refine sw_istore_n 6 3 C dX4_letLeave_6 rfl rfl ?_
  refine sw_aload_n 7 0 C dX4_letLeave_7 rfl rfl ?_
  refine sw_get 8 0 4 C dX4_letLeave_8 rfl rfl (inA lwX4) (C.w wF_X4_25) rfl rfl rfl ?_
  refine sw_iload_n 11 1 C dX4_letLeave_11 rfl rfl ?_
  refine sw_iconst 12 C dX4_letLeave_12 0 (by decide) ?_
  refine sw_callVIP 13 [2, 3] 2 C dX4_letLeave_13 (ct_X2_at l (i) 0 rfl rfl (by omega) (by decide) (by omega)) wK_X2_at wM_X4_95 wN_X2_at wS_X2_X2_at wI_X2 hd_X2_at rfl rfl rfl ⟨rfl, rfl⟩ ⟨Nat.le_of_ble_eq_true rfl, Nat.le_of_ble_eq_true rfl⟩ rfl rfl rfl rfl ?_
  refine sw_istore 16 C dX4_letLeave_16 rfl ?_
  refine sw_loc (L1 := [(0, .ref _), (1, .int _), (2, .int _), (3, .int _), (4, .int _)]) ?_ rfl
  refine sw_aload_n 18 0 C dX4_letLeave_18 rfl rfl ?_
  refine sw_dup 19 C dX4_letLeave_19 rfl ?_
  refine sw_get 20 0 8 C dX4_letLeave_20 rfl rfl (inA lwX4) (C.w wF_X4_51) rfl rfl rfl ?_
  refine sw_aload_n 23 0 C dX4_letLeave_23 rfl rfl ?_
  refine sw_get 24 0 4 C dX4_letLeave_24 rfl rfl (inA lwX4) (C.w wF_X4_25) rfl rfl rfl ?_
  refine sw_iload_n 27 1 C dX4_letLeave_27 rfl rfl ?_
  refine sw_bipush 28 C dX4_letLeave_28 6 (by decide) ?_
  refine sw_callVIP 30 [2, 3] 2 C dX4_letLeave_30 (ct_X2_at l (i) 6 rfl rfl (by omega) (by decide) (by omega)) wK_X2_at wM_X4_95 wN_X2_at wS_X2_X2_at wI_X2 hd_X2_at rfl rfl rfl ⟨rfl, rfl⟩ ⟨Nat.le_of_ble_eq_true rfl, Nat.le_of_ble_eq_true rfl⟩ rfl rfl rfl rfl ?_
  refine sw_iload_n 33 3 C dX4_letLeave_33 rfl rfl ?_
  refine sw_isub 34 C dX4_letLeave_34 ?_
  refine sw_iadd 35 C dX4_letLeave_35 ?_
  refine sw_put 36 0 8 tyX4 C dX4_letLeave_36 rfl rfl (inA lwX4) tyX4_ok nmX4 (C.w wF_X4_51) rfl rfl rfl rfl rfl rfl rfl ?_
  refine sw_ws [(_, .inr (4, [.int _, .int _, .int _, .ref _, .ref _, .ref _, .int _, .int _, .int _, .ref _, .ref _])), (_, .inl (_, _, .inl _)), (_, .inr (2, [.int _, .ref _])), (_, .inl (_, _, .inl _)), (_, .inr (0, [.int _, .ref _])), (_, .inl (_, _, .inl _)), (_, .inl (_, _, .inl _)), (_, .inl (_, _, .inl _))] rfl ?_
  refine sw_iload 39 C dX4_letLeave_39 rfl ?_
  refine sw_if_lt 41 65 C dX4_letLeave_41 (by decide) (fun c_41 => ?_) (fun c_41 => ?_)
  · exact by first | exact absurd c_41 (by rw [hsd.1]; exact nI_pos (by have := hsd.2; omega)) | exact absurd (by rw [hsd.1]; exact nI_pos (by have := hsd.2; omega)) c_41
  refine sw_iload 44 C dX4_letLeave_44 rfl ?_
  refine sw_aload_n 46 0 C dX4_letLeave_46 rfl rfl ?_
  refine sw_get 47 0 10 C dX4_letLeave_47 rfl rfl (inA lwX4) (C.w wF_X4_39) rfl rfl rfl ?_
  refine sw_alen 50 7 0 C 8 dX4_letLeave_50 rfl rfl rfl ?_
  refine sw_icmp_ge 51 65 C dX4_letLeave_51 (by decide) (fun c_51 => ?_) (fun c_51 => ?_)
  · exact by first | exact absurd c_51 (by rw [hsd.1]; exact nI_ge hsd.2 (by decide)) | exact absurd (by rw [hsd.1]; exact nI_ge hsd.2 (by decide)) c_51
  refine sw_aload_n 54 0 C dX4_letLeave_54 rfl rfl ?_
  refine sw_get 55 0 10 C dX4_letLeave_55 rfl rfl (inA lwX4) (C.w wF_X4_39) rfl rfl rfl ?_
  refine sw_iload 58 C dX4_letLeave_58 rfl ?_
  refine sw_dup2 60 C dX4_letLeave_60 rfl rfl ?_
  refine sw_ialdN 61 7 0 ((f (i * 8 + 0)).toNatClampNeg) C dX4_letLeave_61 hsd.1 hsd.2 rfl rfl rfl ?_
  refine sw_iload_n 62 3 C dX4_letLeave_62 rfl rfl ?_
  refine sw_iadd 63 C dX4_letLeave_63 ?_
  refine sw_iastN 64 7 0 ((f (i * 8 + 0)).toNatClampNeg) C dX4_letLeave_64 hsd.1 hsd.2 rfl rfl rfl ?_
  refine sw_ws [(_, .inr (4, [.int _, .int _, .int _, .ref _, .ref _, .ref _, .int _, .int _, .int _, .ref _, .ref _])), (_, .inl (_, _, .inl _)), (_, .inr (2, [.int _, .ref _])), (_, .inl (_, _, .inl _)), (_, .inr (0, [.int _, .ref _])), (_, .inl (_, _, .inl _)), (_, .inl (_, _, .inl _)), (_, .inl (_, _, .inl _))] rfl ?_
  refine sw_iload_n 65 2 C dX4_letLeave_65 rfl rfl ?_
  refine sw_if_lt 66 88 C dX4_letLeave_66 (by decide) (fun c_66 => ?_) (fun c_66 => ?_)
  · exact by first | exact absurd c_66 (nI_pos (by omega)) | exact absurd (nI_pos (by omega)) c_66
  refine sw_iload_n 69 2 C dX4_letLeave_69 rfl rfl ?_
  refine sw_aload_n 70 0 C dX4_letLeave_70 rfl rfl ?_
  refine sw_get 71 0 9 C dX4_letLeave_71 rfl rfl (inA lwX4) (C.w wF_X4_36) rfl rfl rfl ?_
  refine sw_alen 74 6 0 C 3 dX4_letLeave_74 rfl rfl rfl ?_
  refine sw_icmp_ge 75 88 C dX4_letLeave_75 (by decide) (fun c_75 => ?_) (fun c_75 => ?_)
  · exact by first | exact absurd c_75 (nI_ge hw (by decide)) | exact absurd (nI_ge hw (by decide)) c_75
  refine sw_aload_n 78 0 C dX4_letLeave_78 rfl rfl ?_
  refine sw_get 79 0 9 C dX4_letLeave_79 rfl rfl (inA lwX4) (C.w wF_X4_36) rfl rfl rfl ?_
  refine sw_iload_n 82 2 C dX4_letLeave_82 rfl rfl ?_
  refine sw_dup2 83 C dX4_letLeave_83 rfl rfl ?_
  refine sw_ialdN 84 6 0 (w) C dX4_letLeave_84 rfl hw rfl rfl rfl ?_
  refine sw_iconst 85 C dX4_letLeave_85 1 (by decide) ?_
  refine sw_iadd 86 C dX4_letLeave_86 ?_
  refine sw_iastN 87 6 0 (w) C dX4_letLeave_87 rfl hw rfl rfl rfl ?_
  refine sw_ws [(_, .inr (4, [.int _, .int _, .int _, .ref _, .ref _, .ref _, .int _, .int _, .int _, .ref _, .ref _])), (_, .inl (_, _, .inl _)), (_, .inr (2, [.int _, .ref _])), (_, .inl (_, _, .inl _)), (_, .inr (0, [.int _, .ref _])), (_, .inl (_, _, .inl _)), (_, .inl (_, _, .inl _)), (_, .inl (_, _, .inl _))] rfl ?_
  refine sw_aload_n 88 0 C dX4_letLeave_88 rfl rfl ?_
  refine sw_get 89 0 4 C dX4_letLeave_89 rfl rfl (inA lwX4) (C.w wF_X4_25) rfl rfl rfl ?_
  refine sw_iload_n 92 1 C dX4_letLeave_92 rfl rfl ?_
  refine sw_iconst 93 C dX4_letLeave_93 3 (by decide) ?_
  refine sw_callVIP 94 [2, 3] 2 C dX4_letLeave_94 (ct_X2_at l (i) 3 rfl rfl (by omega) (by decide) (by omega)) wK_X2_at wM_X4_95 wN_X2_at wS_X2_X2_at wI_X2 hd_X2_at rfl rfl rfl ⟨rfl, rfl⟩ ⟨Nat.le_of_ble_eq_true rfl, Nat.le_of_ble_eq_true rfl⟩ rfl rfl rfl rfl ?_
  refine sw_istore 97 C dX4_letLeave_97 rfl ?_
  refine sw_aload_n 99 0 C dX4_letLeave_99 rfl rfl ?_
  refine sw_get 100 0 5 C dX4_letLeave_100 rfl rfl (inA lwX4) (C.w wF_X4_32) rfl rfl rfl ?_
  refine sw_aload_n 103 0 C dX4_letLeave_103 rfl rfl ?_
  refine sw_get 104 0 4 C dX4_letLeave_104 rfl rfl (inA lwX4) (C.w wF_X4_25) rfl rfl rfl ?_
  refine sw_iload_n 107 1 C dX4_letLeave_107 rfl rfl ?_
  refine sw_bipush 108 C dX4_letLeave_108 7 (by decide) ?_
  refine sw_callVIP 110 [2, 3] 2 C dX4_letLeave_110 (ct_X2_at l (i) 7 rfl rfl (by omega) (by decide) (by omega)) wK_X2_at wM_X4_95 wN_X2_at wS_X2_X2_at wI_X2 hd_X2_at rfl rfl rfl ⟨rfl, rfl⟩ ⟨Nat.le_of_ble_eq_true rfl, Nat.le_of_ble_eq_true rfl⟩ rfl rfl rfl rfl ?_
  refine sw_iload_n 113 2 C dX4_letLeave_113 rfl rfl ?_
  refine sw_iload 114 C dX4_letLeave_114 rfl ?_
  refine sw_iload_n 116 3 C dX4_letLeave_116 rfl rfl ?_
  refine sw_aload_n 117 0 C dX4_letLeave_117 rfl rfl ?_
  refine sw_get 118 0 4 C dX4_letLeave_118 rfl rfl (inA lwX4) (C.w wF_X4_25) rfl rfl rfl ?_
  refine sw_iload_n 121 1 C dX4_letLeave_121 rfl rfl ?_
  refine sw_iconst 122 C dX4_letLeave_122 2 (by decide) ?_
  refine sw_callVIP 123 [2, 3] 2 C dX4_letLeave_123 (ct_X2_at l (i) 2 rfl rfl (by omega) (by decide) (by omega)) wK_X2_at wM_X4_95 wN_X2_at wS_X2_X2_at wI_X2 hd_X2_at rfl rfl rfl ⟨rfl, rfl⟩ ⟨Nat.le_of_ble_eq_true rfl, Nat.le_of_ble_eq_true rfl⟩ rfl rfl rfl rfl ?_
  refine sw_callVV 126 [4, 5] 5 C dX4_letLeave_126 (ct_X0_add l hl) wK_X0_add wM_X4_104 wN_X0_add wS_X0_X0_add wI_X0 hd_X0_add rfl rfl rfl ⟨rfl, rfl⟩ ⟨Nat.le_of_ble_eq_true rfl, Nat.le_of_ble_eq_true rfl⟩ rfl rfl rfl rfl rfl ?_
  refine sw_ws [(_, .inr (4, [.int _, .int _, .int _, .ref _, .ref _, .ref _, .int _, .int _, .int _, .ref _, .ref _])), (_, .inl (_, _, .inl _)), (_, .inr (2, [.int _, .ref _])), (_, .inl (_, _, .inl _)), (_, .inr (0, [.int _, .ref _])), (_, .inl (_, _, .inl _)), (_, .inl (_, _, .inl _)), (_, .inl (_, _, .inl _))] rfl ?_
  refine sw_aload_n 129 0 C dX4_letLeave_129 rfl rfl ?_
  refine sw_get 130 0 4 C dX4_letLeave_130 rfl rfl (inA lwX4) (C.w wF_X4_25) rfl rfl rfl ?_
  refine sw_iload_n 133 1 C dX4_letLeave_133 rfl rfl ?_
  refine sw_callVV 134 [2, 3] 1 C dX4_letLeave_134 (ct_X2_removeRow l i rfl hi hn) wK_X2_removeRow wM_X4_108 wN_X2_removeRow wS_X2_X2_removeRow wI_X2 hd_X2_removeRow rfl rfl rfl ⟨rfl, rfl⟩ ⟨Nat.le_of_ble_eq_true rfl, Nat.le_of_ble_eq_true rfl⟩ rfl rfl rfl rfl rfl ?_
  refine sw_ws [(_, .inr (4, [.int _, .int _, .int _, .ref _, .ref _, .ref _, .int _, .int _, .int _, .ref _, .ref _])), (_, .inl (_, _, .inl _)), (_, .inr (2, [.int _, .ref _])), (_, .inl (_, _, .inl _)), (_, .inr (0, [.int _, .ref _])), (_, .inl (_, _, .inl _)), (_, .inl (_, _, .inl _)), (_, .inl (_, _, .inl _))] rfl ?_
  refine sw_iload_n 137 3 C dX4_letLeave_137 rfl rfl ?_
  refine sw_iret 138 C RC dX4_letLeave_138 ?_
  exact ⟨rfl, rfl⟩
def gro1 (f : Nat → Int32) (i : Nat) : Nat → Int32 := upd f (i * 8 + 3) (f (i * 8 + 3) + 1)
def gexp (f : Nat → Int32) (i : Nat) : Bool := decide (gro1 f i (i * 8 + 5) ≤ f (i * 8 + 3) + 1)
def gup (pat f : Nat → Int32) (i : Nat) : Bool := decide (0 ≤ gro1 f i (i * 8 + 2)) && decide (gro1 f i (i * 8 + 2) < 4) && decide (pat (gro1 f i (i * 8 + 2)).toNatClampNeg ≤ gro1 f i (i * 8 + 4) + 1)
def gro (pat f : Nat → Int32) (i : Nat) : Nat → Int32 :=
  if gexp f i = true then gro1 f i else if gup pat f i = true then upd (upd (gro1 f i) (i * 8 + 2) (gro1 f i (i * 8 + 2) + 1)) (i * 8 + 4) 0 else upd (gro1 f i) (i * 8 + 4) (gro1 f i (i * 8 + 4) + 1)
theorem gro_x {pat f : Nat → Int32} {i : Nat} (h : gexp f i = true) : gro pat f i = gro1 f i := if_pos h
theorem gro_u {pat f : Nat → Int32} {i : Nat} (h : gexp f i = false) (h2 : gup pat f i = true) : gro pat f i = upd (upd (gro1 f i) (i * 8 + 2) (gro1 f i (i * 8 + 2) + 1)) (i * 8 + 4) 0 := by
  unfold gro
  rw [if_neg (by rw [h]; decide), if_pos h2]
theorem gro_s {pat f : Nat → Int32} {i : Nat} (h : gexp f i = false) (h2 : gup pat f i = false) : gro pat f i = upd (gro1 f i) (i * 8 + 4) (gro1 f i (i * 8 + 4) + 1) := by
  unfold gro
  rw [if_neg (by rw [h]; decide), if_neg (by rw [h2]; decide)]
set_option maxHeartbeats 4000000 in
set_option maxRecDepth 100000 in
theorem ct_X4_growOlder (l : Launch) {D : va_G} {cI cJ cQ : ClassId} {a0 a1 a2 a3 a4 a5 a6 a7 : Nat} {q g sv t ps ck : Int32} {n lc : Nat} {pat f lg lv bk : Nat → Int32} {x1 : Int32} (i : Nat) (h1 : x1 = nI i) (hi : i < n) (hn : n ≤ 40) : Ct l yX4_growOlder (Cond.code yX4_growOlder cX4_growOlder 5 (some .boolean)) 1 24 0 0 D (tyz cI cJ cQ) [.ref a0, .int x1] [(a0, .inr (4, [.int (q), .int (g), .int (sv), .ref a1, .ref a2, .ref a4, .int (t), .int (ps), .int (ck), .ref a6, .ref a7])), (a1, .inl (cI, 4, .inl (pat))), (a2, .inr (2, [.int (nI (n)), .ref a3])), (a3, .inl (cI, 320, .inl (f))), (a4, .inr (0, [.int (nI (lc)), .ref a5])), (a5, .inl (cI, 80, .inl (lg))), (a6, .inl (cI, 3, .inl (lv))), (a7, .inl (cI, 8, .inl (bk)))] (pstI (bI (gexp f i)) [(a0, .inr (4, [.int (q), .int (g), .int (sv), .ref a1, .ref a2, .ref a4, .int (t), .int (ps), .int (ck), .ref a6, .ref a7])), (a1, .inl (cI, 4, .inl (pat))), (a2, .inr (2, [.int (nI (n)), .ref a3])), (a3, .inl (cI, 320, .inl (gro pat f i))), (a4, .inr (0, [.int (nI (lc)), .ref a5])), (a5, .inl (cI, 80, .inl (lg))), (a6, .inl (cI, 3, .inl (lv))), (a7, .inl (cI, 8, .inl (bk)))]) := by
  refine Ct.of RX4 (by decide) rfl (Nat.le_of_ble_eq_true rfl) ?_
  intro p e s m below meth c A C RC
  subst h1
  refine sw_aload_n 0 0 C dX4_growOlder_0 rfl rfl ?_
  refine sw_get 1 0 4 C dX4_growOlder_1 rfl rfl (inA lwX4) (C.w wF_X4_25) rfl rfl rfl ?_
  refine sw_iload_n 4 1 C dX4_growOlder_4 rfl rfl ?_
  refine sw_iconst 5 C dX4_growOlder_5 3 (by decide) ?_
  refine sw_callVIP 6 [2, 3] 2 C dX4_growOlder_6 (ct_X2_at l (i) 3 rfl rfl (by omega) (by decide) (by omega)) wK_X2_at wM_X4_95 wN_X2_at wS_X2_X2_at wI_X2 hd_X2_at rfl rfl rfl ⟨rfl, rfl⟩ ⟨Nat.le_of_ble_eq_true rfl, Nat.le_of_ble_eq_true rfl⟩ rfl rfl rfl rfl ?_
  refine sw_iconst 9 C dX4_growOlder_9 1 (by decide) ?_
  refine sw_iadd 10 C dX4_growOlder_10 ?_
  refine sw_istore_n 11 2 C dX4_growOlder_11 rfl rfl ?_
  refine sw_aload_n 12 0 C dX4_growOlder_12 rfl rfl ?_
  refine sw_get 13 0 4 C dX4_growOlder_13 rfl rfl (inA lwX4) (C.w wF_X4_25) rfl rfl rfl ?_
  refine sw_iload_n 16 1 C dX4_growOlder_16 rfl rfl ?_
  refine sw_iconst 17 C dX4_growOlder_17 3 (by decide) ?_
  refine sw_iload_n 18 2 C dX4_growOlder_18 rfl rfl ?_
  refine sw_callVV 19 [2, 3] 3 C dX4_growOlder_19 (ct_X2_set l i 3 rfl rfl hi (by decide) hn) wK_X2_set wM_X4_82 wN_X2_set wS_X2_X2_set wI_X2 hd_X2_set rfl rfl rfl ⟨rfl, rfl⟩ ⟨Nat.le_of_ble_eq_true rfl, Nat.le_of_ble_eq_true rfl⟩ rfl rfl rfl rfl rfl ?_
  refine sw_ws [(_, .inr (4, [.int _, .int _, .int _, .ref _, .ref _, .ref _, .int _, .int _, .int _, .ref _, .ref _])), (_, .inl (_, _, .inl _)), (_, .inr (2, [.int _, .ref _])), (_, .inl (_, _, .inl _)), (_, .inr (0, [.int _, .ref _])), (_, .inl (_, _, .inl _)), (_, .inl (_, _, .inl _)), (_, .inl (_, _, .inl _))] rfl ?_
  refine sw_ws [(a0, .inr (4, [.int (q), .int (g), .int (sv), .ref a1, .ref a2, .ref a4, .int (t), .int (ps), .int (ck), .ref a6, .ref a7])), (a1, .inl (cI, 4, .inl (pat))), (a2, .inr (2, [.int (nI (n)), .ref a3])), (a3, .inl (cI, 320, .inl (gro1 f i))), (a4, .inr (0, [.int (nI (lc)), .ref a5])), (a5, .inl (cI, 80, .inl (lg))), (a6, .inl (cI, 3, .inl (lv))), (a7, .inl (cI, 8, .inl (bk)))] rfl ?_
  refine sw_iload_n 22 2 C dX4_growOlder_22 rfl rfl ?_
  refine sw_aload_n 23 0 C dX4_growOlder_23 rfl rfl ?_
  refine sw_get 24 0 4 C dX4_growOlder_24 rfl rfl (inA lwX4) (C.w wF_X4_25) rfl rfl rfl ?_
  refine sw_iload_n 27 1 C dX4_growOlder_27 rfl rfl ?_
  refine sw_iconst 28 C dX4_growOlder_28 5 (by decide) ?_
  refine sw_callVIP 29 [2, 3] 2 C dX4_growOlder_29 (ct_X2_at l (i) 5 (f := gro1 f i) rfl rfl (by omega) (by decide) (by omega)) wK_X2_at wM_X4_95 wN_X2_at wS_X2_X2_at wI_X2 hd_X2_at rfl rfl rfl ⟨rfl, rfl⟩ ⟨Nat.le_of_ble_eq_true rfl, Nat.le_of_ble_eq_true rfl⟩ rfl rfl rfl rfl ?_
  refine sw_icmp_lt 32 37 C dX4_growOlder_32 (by decide) (fun c_32 => ?_) (fun c_32 => ?_)
  · refine sw_aload_n 37 0 C dX4_growOlder_37 rfl rfl ?_
    refine sw_get 38 0 4 C dX4_growOlder_38 rfl rfl (inA lwX4) (C.w wF_X4_25) rfl rfl rfl ?_
    refine sw_iload_n 41 1 C dX4_growOlder_41 rfl rfl ?_
    refine sw_iconst 42 C dX4_growOlder_42 2 (by decide) ?_
    refine sw_callVIP 43 [2, 3] 2 C dX4_growOlder_43 (ct_X2_at l (i) 2 (f := gro1 f i) rfl rfl (by omega) (by decide) (by omega)) wK_X2_at wM_X4_95 wN_X2_at wS_X2_X2_at wI_X2 hd_X2_at rfl rfl rfl ⟨rfl, rfl⟩ ⟨Nat.le_of_ble_eq_true rfl, Nat.le_of_ble_eq_true rfl⟩ rfl rfl rfl rfl ?_
    refine sw_istore_n 46 3 C dX4_growOlder_46 rfl rfl ?_
    refine sw_aload_n 47 0 C dX4_growOlder_47 rfl rfl ?_
    refine sw_get 48 0 4 C dX4_growOlder_48 rfl rfl (inA lwX4) (C.w wF_X4_25) rfl rfl rfl ?_
    refine sw_iload_n 51 1 C dX4_growOlder_51 rfl rfl ?_
    refine sw_iconst 52 C dX4_growOlder_52 4 (by decide) ?_
    refine sw_callVIP 53 [2, 3] 2 C dX4_growOlder_53 (ct_X2_at l (i) 4 (f := gro1 f i) rfl rfl (by omega) (by decide) (by omega)) wK_X2_at wM_X4_95 wN_X2_at wS_X2_X2_at wI_X2 hd_X2_at rfl rfl rfl ⟨rfl, rfl⟩ ⟨Nat.le_of_ble_eq_true rfl, Nat.le_of_ble_eq_true rfl⟩ rfl rfl rfl rfl ?_
    refine sw_iconst 56 C dX4_growOlder_56 1 (by decide) ?_
    refine sw_iadd 57 C dX4_growOlder_57 ?_
    refine sw_istore 58 C dX4_growOlder_58 rfl ?_
    refine sw_loc (L1 := [(0, .ref _), (1, .int _), (2, .int _), (3, .int _), (4, .int _)]) ?_ rfl
    refine sw_iload_n 60 3 C dX4_growOlder_60 rfl rfl ?_
    refine sw_if_lt 61 99 C dX4_growOlder_61 (by decide) (fun c_61 => ?_) (fun c_61 => ?_)
    · refine sw_aload_n 99 0 C dX4_growOlder_99 rfl rfl ?_
      refine sw_get 100 0 4 C dX4_growOlder_100 rfl rfl (inA lwX4) (C.w wF_X4_25) rfl rfl rfl ?_
      refine sw_iload_n 103 1 C dX4_growOlder_103 rfl rfl ?_
      refine sw_iconst 104 C dX4_growOlder_104 4 (by decide) ?_
      refine sw_iload 105 C dX4_growOlder_105 rfl ?_
      refine sw_callVV 107 [2, 3] 3 C dX4_growOlder_107 (ct_X2_set l i 4 rfl rfl hi (by decide) hn) wK_X2_set wM_X4_82 wN_X2_set wS_X2_X2_set wI_X2 hd_X2_set rfl rfl rfl ⟨rfl, rfl⟩ ⟨Nat.le_of_ble_eq_true rfl, Nat.le_of_ble_eq_true rfl⟩ rfl rfl rfl rfl rfl ?_
      refine sw_ws [(_, .inr (4, [.int _, .int _, .int _, .ref _, .ref _, .ref _, .int _, .int _, .int _, .ref _, .ref _])), (_, .inl (_, _, .inl _)), (_, .inr (2, [.int _, .ref _])), (_, .inl (_, _, .inl _)), (_, .inr (0, [.int _, .ref _])), (_, .inl (_, _, .inl _)), (_, .inl (_, _, .inl _)), (_, .inl (_, _, .inl _))] rfl ?_
      refine sw_iconst 110 C dX4_growOlder_110 0 (by decide) ?_
      refine sw_zret 111 C RC rfl dX4_growOlder_111 ?_
      have hx : gexp f i = false := decide_eq_false (Int32.not_le.mpr c_32)
      have hu : gup pat f i = false := by unfold gup; rw [decide_eq_false (p := 0 ≤ gro1 f i (i * 8 + 2)) (Int32.not_le.mpr c_61)]; rfl
      exact ⟨by rw [hx]; rfl, by rw [gro_s hx hu]⟩
    · refine sw_iload_n 64 3 C dX4_growOlder_64 rfl rfl ?_
      refine sw_aload_n 65 0 C dX4_growOlder_65 rfl rfl ?_
      refine sw_get 66 0 3 C dX4_growOlder_66 rfl rfl (inA lwX4) (C.w wF_X4_18) rfl rfl rfl ?_
      refine sw_alen 69 1 0 C 4 dX4_growOlder_69 rfl rfl rfl ?_
      refine sw_icmp_ge 70 99 C dX4_growOlder_70 (by decide) (fun c_70 => ?_) (fun c_70 => ?_)
      · refine sw_aload_n 99 0 C dX4_growOlder_99 rfl rfl ?_
        refine sw_get 100 0 4 C dX4_growOlder_100 rfl rfl (inA lwX4) (C.w wF_X4_25) rfl rfl rfl ?_
        refine sw_iload_n 103 1 C dX4_growOlder_103 rfl rfl ?_
        refine sw_iconst 104 C dX4_growOlder_104 4 (by decide) ?_
        refine sw_iload 105 C dX4_growOlder_105 rfl ?_
        refine sw_callVV 107 [2, 3] 3 C dX4_growOlder_107 (ct_X2_set l i 4 rfl rfl hi (by decide) hn) wK_X2_set wM_X4_82 wN_X2_set wS_X2_X2_set wI_X2 hd_X2_set rfl rfl rfl ⟨rfl, rfl⟩ ⟨Nat.le_of_ble_eq_true rfl, Nat.le_of_ble_eq_true rfl⟩ rfl rfl rfl rfl rfl ?_
        refine sw_ws [(_, .inr (4, [.int _, .int _, .int _, .ref _, .ref _, .ref _, .int _, .int _, .int _, .ref _, .ref _])), (_, .inl (_, _, .inl _)), (_, .inr (2, [.int _, .ref _])), (_, .inl (_, _, .inl _)), (_, .inr (0, [.int _, .ref _])), (_, .inl (_, _, .inl _)), (_, .inl (_, _, .inl _)), (_, .inl (_, _, .inl _))] rfl ?_
        refine sw_iconst 110 C dX4_growOlder_110 0 (by decide) ?_
        refine sw_zret 111 C RC rfl dX4_growOlder_111 ?_
        have hx : gexp f i = false := decide_eq_false (Int32.not_le.mpr c_32)
        have hu : gup pat f i = false := by unfold gup; rw [decide_eq_false (p := gro1 f i (i * 8 + 2) < 4) (Int32.not_lt.mpr c_70), Bool.and_false]; rfl
        exact ⟨by rw [hx]; rfl, by rw [gro_s hx hu]⟩
      · obtain ⟨r, hr, er⟩ := i32_ix (n := 4) c_61 c_70 (by decide)
        refine sw_iload 73 C dX4_growOlder_73 rfl ?_
        refine sw_aload_n 75 0 C dX4_growOlder_75 rfl rfl ?_
        refine sw_get 76 0 3 C dX4_growOlder_76 rfl rfl (inA lwX4) (C.w wF_X4_18) rfl rfl rfl ?_
        refine sw_iload_n 79 3 C dX4_growOlder_79 rfl rfl ?_
        refine sw_ialdN 80 1 0 (r) C dX4_growOlder_80 er hr rfl rfl rfl ?_
        refine sw_icmp_lt 81 99 C dX4_growOlder_81 (by decide) (fun c_81 => ?_) (fun c_81 => ?_)
        · refine sw_aload_n 99 0 C dX4_growOlder_99 rfl rfl ?_
          refine sw_get 100 0 4 C dX4_growOlder_100 rfl rfl (inA lwX4) (C.w wF_X4_25) rfl rfl rfl ?_
          refine sw_iload_n 103 1 C dX4_growOlder_103 rfl rfl ?_
          refine sw_iconst 104 C dX4_growOlder_104 4 (by decide) ?_
          refine sw_iload 105 C dX4_growOlder_105 rfl ?_
          refine sw_callVV 107 [2, 3] 3 C dX4_growOlder_107 (ct_X2_set l i 4 rfl rfl hi (by decide) hn) wK_X2_set wM_X4_82 wN_X2_set wS_X2_X2_set wI_X2 hd_X2_set rfl rfl rfl ⟨rfl, rfl⟩ ⟨Nat.le_of_ble_eq_true rfl, Nat.le_of_ble_eq_true rfl⟩ rfl rfl rfl rfl rfl ?_
          refine sw_ws [(_, .inr (4, [.int _, .int _, .int _, .ref _, .ref _, .ref _, .int _, .int _, .int _, .ref _, .ref _])), (_, .inl (_, _, .inl _)), (_, .inr (2, [.int _, .ref _])), (_, .inl (_, _, .inl _)), (_, .inr (0, [.int _, .ref _])), (_, .inl (_, _, .inl _)), (_, .inl (_, _, .inl _)), (_, .inl (_, _, .inl _))] rfl ?_
          refine sw_iconst 110 C dX4_growOlder_110 0 (by decide) ?_
          refine sw_zret 111 C RC rfl dX4_growOlder_111 ?_
          have hx : gexp f i = false := decide_eq_false (Int32.not_le.mpr c_32)
          have hu : gup pat f i = false := by unfold gup; rw [decide_eq_false (p := pat (gro1 f i (i * 8 + 2)).toNatClampNeg ≤ gro1 f i (i * 8 + 4) + 1) (Int32.not_le.mpr (by rw [er, nI_clamp (by omega)]; exact c_81)), Bool.and_false]
          exact ⟨by rw [hx]; rfl, by rw [gro_s hx hu]⟩
        · refine sw_aload_n 84 0 C dX4_growOlder_84 rfl rfl ?_
          refine sw_get 85 0 4 C dX4_growOlder_85 rfl rfl (inA lwX4) (C.w wF_X4_25) rfl rfl rfl ?_
          refine sw_iload_n 88 1 C dX4_growOlder_88 rfl rfl ?_
          refine sw_iconst 89 C dX4_growOlder_89 2 (by decide) ?_
          refine sw_iload_n 90 3 C dX4_growOlder_90 rfl rfl ?_
          refine sw_iconst 91 C dX4_growOlder_91 1 (by decide) ?_
          refine sw_iadd 92 C dX4_growOlder_92 ?_
          refine sw_callVV 93 [2, 3] 3 C dX4_growOlder_93 (ct_X2_set l i 2 rfl rfl hi (by decide) hn) wK_X2_set wM_X4_82 wN_X2_set wS_X2_X2_set wI_X2 hd_X2_set rfl rfl rfl ⟨rfl, rfl⟩ ⟨Nat.le_of_ble_eq_true rfl, Nat.le_of_ble_eq_true rfl⟩ rfl rfl rfl rfl rfl ?_
          refine sw_ws [(_, .inr (4, [.int _, .int _, .int _, .ref _, .ref _, .ref _, .int _, .int _, .int _, .ref _, .ref _])), (_, .inl (_, _, .inl _)), (_, .inr (2, [.int _, .ref _])), (_, .inl (_, _, .inl _)), (_, .inr (0, [.int _, .ref _])), (_, .inl (_, _, .inl _)), (_, .inl (_, _, .inl _)), (_, .inl (_, _, .inl _))] rfl ?_
          refine sw_iconst 96 C dX4_growOlder_96 0 (by decide) ?_
          refine sw_istore 97 C dX4_growOlder_97 rfl ?_
          refine sw_aload_n 99 0 C dX4_growOlder_99 rfl rfl ?_
          refine sw_get 100 0 4 C dX4_growOlder_100 rfl rfl (inA lwX4) (C.w wF_X4_25) rfl rfl rfl ?_
          refine sw_iload_n 103 1 C dX4_growOlder_103 rfl rfl ?_
          refine sw_iconst 104 C dX4_growOlder_104 4 (by decide) ?_
          refine sw_iload 105 C dX4_growOlder_105 rfl ?_
          refine sw_callVV 107 [2, 3] 3 C dX4_growOlder_107 (ct_X2_set l i 4 rfl rfl hi (by decide) hn) wK_X2_set wM_X4_82 wN_X2_set wS_X2_X2_set wI_X2 hd_X2_set rfl rfl rfl ⟨rfl, rfl⟩ ⟨Nat.le_of_ble_eq_true rfl, Nat.le_of_ble_eq_true rfl⟩ rfl rfl rfl rfl rfl ?_
          refine sw_ws [(_, .inr (4, [.int _, .int _, .int _, .ref _, .ref _, .ref _, .int _, .int _, .int _, .ref _, .ref _])), (_, .inl (_, _, .inl _)), (_, .inr (2, [.int _, .ref _])), (_, .inl (_, _, .inl _)), (_, .inr (0, [.int _, .ref _])), (_, .inl (_, _, .inl _)), (_, .inl (_, _, .inl _)), (_, .inl (_, _, .inl _))] rfl ?_
          refine sw_iconst 110 C dX4_growOlder_110 0 (by decide) ?_
          refine sw_zret 111 C RC rfl dX4_growOlder_111 ?_
          have hx : gexp f i = false := decide_eq_false (Int32.not_le.mpr c_32)
          have hu : gup pat f i = true := by
            unfold gup
            rw [decide_eq_true (p := 0 ≤ gro1 f i (i * 8 + 2)) (Int32.not_lt.mp c_61), decide_eq_true (p := gro1 f i (i * 8 + 2) < 4) (Int32.not_le.mp c_70), decide_eq_true (p := pat (gro1 f i (i * 8 + 2)).toNatClampNeg ≤ gro1 f i (i * 8 + 4) + 1) (by rw [er, nI_clamp (by omega)]; exact Int32.not_lt.mp c_81)]
            rfl
          exact ⟨by rw [hx]; rfl, by rw [gro_u hx hu]⟩
  · refine sw_iconst 35 C dX4_growOlder_35 1 (by decide) ?_
    refine sw_zret 36 C RC rfl dX4_growOlder_36 ?_
    have hx : gexp f i = true := decide_eq_true (Int32.not_lt.mp c_32)
    exact ⟨by rw [hx]; rfl, by rw [gro_x hx]⟩
