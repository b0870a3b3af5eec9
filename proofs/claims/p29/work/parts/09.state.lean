theorem hd_X0_at : yX0_at.cls = RX0 ∧ yX0_at.cls ≠ "java/lang/invoke/MethodHandle" ∧ yX0_at.cls ≠ "java/lang/invoke/VarHandle" ∧ (parseMethodDescriptor yX0_at.desc).map (fun d => d.parameters.length) = some 2 := by decide +kernel
theorem hd_X0_add : yX0_add.cls = RX0 ∧ yX0_add.cls ≠ "java/lang/invoke/MethodHandle" ∧ yX0_add.cls ≠ "java/lang/invoke/VarHandle" ∧ (parseMethodDescriptor yX0_add.desc).map (fun d => d.parameters.length) = some 5 := by decide +kernel
theorem hd_X0_copyFrom : yX0_copyFrom.cls = RX0 ∧ yX0_copyFrom.cls ≠ "java/lang/invoke/MethodHandle" ∧ yX0_copyFrom.cls ≠ "java/lang/invoke/VarHandle" ∧ (parseMethodDescriptor yX0_copyFrom.desc).map (fun d => d.parameters.length) = some 1 := by decide +kernel
theorem hd_X5_at : yX5_at.cls = RX5 ∧ yX5_at.cls ≠ "java/lang/invoke/MethodHandle" ∧ yX5_at.cls ≠ "java/lang/invoke/VarHandle" ∧ (parseMethodDescriptor yX5_at.desc).map (fun d => d.parameters.length) = some 1 := by decide +kernel
theorem hd_X5_add : yX5_add.cls = RX5 ∧ yX5_add.cls ≠ "java/lang/invoke/MethodHandle" ∧ yX5_add.cls ≠ "java/lang/invoke/VarHandle" ∧ (parseMethodDescriptor yX5_add.desc).map (fun d => d.parameters.length) = some 1 := by decide +kernel
theorem hd_X4_copyFrom : yX4_copyFrom.cls = RX4 ∧ yX4_copyFrom.cls ≠ "java/lang/invoke/MethodHandle" ∧ yX4_copyFrom.cls ≠ "java/lang/invoke/VarHandle" ∧ (parseMethodDescriptor yX4_copyFrom.desc).map (fun d => d.parameters.length) = some 1 := by decide +kernel
theorem hd_X4_hasRoomFor : yX4_hasRoomFor.cls = RX4 ∧ yX4_hasRoomFor.cls ≠ "java/lang/invoke/MethodHandle" ∧ yX4_hasRoomFor.cls ≠ "java/lang/invoke/VarHandle" ∧ (parseMethodDescriptor yX4_hasRoomFor.desc).map (fun d => d.parameters.length) = some 2 := by decide +kernel
theorem hd_X4_quotaAllows : yX4_quotaAllows.cls = RX4 ∧ yX4_quotaAllows.cls ≠ "java/lang/invoke/MethodHandle" ∧ yX4_quotaAllows.cls ≠ "java/lang/invoke/VarHandle" ∧ (parseMethodDescriptor yX4_quotaAllows.desc).map (fun d => d.parameters.length) = some 1 := by decide +kernel
theorem hd_X4_putIn : yX4_putIn.cls = RX4 ∧ yX4_putIn.cls ≠ "java/lang/invoke/MethodHandle" ∧ yX4_putIn.cls ≠ "java/lang/invoke/VarHandle" ∧ (parseMethodDescriptor yX4_putIn.desc).map (fun d => d.parameters.length) = some 5 := by decide +kernel
theorem hd_X4_serveFirst : yX4_serveFirst.cls = RX4 ∧ yX4_serveFirst.cls ≠ "java/lang/invoke/MethodHandle" ∧ yX4_serveFirst.cls ≠ "java/lang/invoke/VarHandle" ∧ (parseMethodDescriptor yX4_serveFirst.desc).map (fun d => d.parameters.length) = some 0 := by decide +kernel
theorem hd_X4_letLeave : yX4_letLeave.cls = RX4 ∧ yX4_letLeave.cls ≠ "java/lang/invoke/MethodHandle" ∧ yX4_letLeave.cls ≠ "java/lang/invoke/VarHandle" ∧ (parseMethodDescriptor yX4_letLeave.desc).map (fun d => d.parameters.length) = some 2 := by decide +kernel
theorem hd_X4_bribeGivenBack : yX4_bribeGivenBack.cls = RX4 ∧ yX4_bribeGivenBack.cls ≠ "java/lang/invoke/MethodHandle" ∧ yX4_bribeGivenBack.cls ≠ "java/lang/invoke/VarHandle" ∧ (parseMethodDescriptor yX4_bribeGivenBack.desc).map (fun d => d.parameters.length) = some 2 := by decide +kernel
theorem hd_X4_hasTimeFor : yX4_hasTimeFor.cls = RX4 ∧ yX4_hasTimeFor.cls ≠ "java/lang/invoke/MethodHandle" ∧ yX4_hasTimeFor.cls ≠ "java/lang/invoke/VarHandle" ∧ (parseMethodDescriptor yX4_hasTimeFor.desc).map (fun d => d.parameters.length) = some 1 := by decide +kernel
theorem hd_X4_letPass : yX4_letPass.cls = RX4 ∧ yX4_letPass.cls ≠ "java/lang/invoke/MethodHandle" ∧ yX4_letPass.cls ≠ "java/lang/invoke/VarHandle" ∧ (parseMethodDescriptor yX4_letPass.desc).map (fun d => d.parameters.length) = some 1 := by decide +kernel
theorem hd_X4_letOneTickPass : yX4_letOneTickPass.cls = RX4 ∧ yX4_letOneTickPass.cls ≠ "java/lang/invoke/MethodHandle" ∧ yX4_letOneTickPass.cls ≠ "java/lang/invoke/VarHandle" ∧ (parseMethodDescriptor yX4_letOneTickPass.desc).map (fun d => d.parameters.length) = some 0 := by decide +kernel
theorem hd_X4_growOlder : yX4_growOlder.cls = RX4 ∧ yX4_growOlder.cls ≠ "java/lang/invoke/MethodHandle" ∧ yX4_growOlder.cls ≠ "java/lang/invoke/VarHandle" ∧ (parseMethodDescriptor yX4_growOlder.desc).map (fun d => d.parameters.length) = some 1 := by decide +kernel
theorem hd_X4_givenBackTo : yX4_givenBackTo.cls = RX4 ∧ yX4_givenBackTo.cls ≠ "java/lang/invoke/MethodHandle" ∧ yX4_givenBackTo.cls ≠ "java/lang/invoke/VarHandle" ∧ (parseMethodDescriptor yX4_givenBackTo.desc).map (fun d => d.parameters.length) = some 1 := by decide +kernel
theorem hd_X4_sumGivenBack : yX4_sumGivenBack.cls = RX4 ∧ yX4_sumGivenBack.cls ≠ "java/lang/invoke/MethodHandle" ∧ yX4_sumGivenBack.cls ≠ "java/lang/invoke/VarHandle" ∧ (parseMethodDescriptor yX4_sumGivenBack.desc).map (fun d => d.parameters.length) = some 0 := by decide +kernel
theorem hd_X4_leftBy : yX4_leftBy.cls = RX4 ∧ yX4_leftBy.cls ≠ "java/lang/invoke/MethodHandle" ∧ yX4_leftBy.cls ≠ "java/lang/invoke/VarHandle" ∧ (parseMethodDescriptor yX4_leftBy.desc).map (fun d => d.parameters.length) = some 1 := by decide +kernel
theorem hd_X4_figure : yX4_figure.cls = RX4 ∧ yX4_figure.cls ≠ "java/lang/invoke/MethodHandle" ∧ yX4_figure.cls ≠ "java/lang/invoke/VarHandle" ∧ (parseMethodDescriptor yX4_figure.desc).map (fun d => d.parameters.length) = some 1 := by decide +kernel
theorem hd_X3_add : yX3_add.cls = RX3 ∧ yX3_add.cls ≠ "java/lang/invoke/MethodHandle" ∧ yX3_add.cls ≠ "java/lang/invoke/VarHandle" ∧ (parseMethodDescriptor yX3_add.desc).map (fun d => d.parameters.length) = some 1 := by decide +kernel
theorem hd_X3_takeLatest : yX3_takeLatest.cls = RX3 ∧ yX3_takeLatest.cls ≠ "java/lang/invoke/MethodHandle" ∧ yX3_takeLatest.cls ≠ "java/lang/invoke/VarHandle" ∧ (parseMethodDescriptor yX3_takeLatest.desc).map (fun d => d.parameters.length) = some 1 := by decide +kernel
/-! Log: count c, cells g (5 an entry) -/
abbrev wLog (a0 a1 : Nat) (cI : ClassId) (c : Nat) (g : Nat → Int32) : va_W := [(a0, .inr (0, [.int (nI c), .ref a1])), (a1, .inl (cI, 80, .inl g))]
def lga (g : Nat → Int32) (x1 x2 x3 x4 x5 : Int32) : Nat → Int32 := upd (upd (upd (upd (upd (va_cpy g g 0 5 75) 0 x1) 1 x2) 2 x3) 3 x4) 4 x5
def lgc (c : Nat) : Nat := if c < 16 then c + 1 else c
set_option maxHeartbeats 4000000 in
set_option maxRecDepth 100000 in
theorem ct_X0_at (l : Launch) {D : va_G} {cI cJ cQ : ClassId} {a0 a1 n : Nat} {f : Nat → Int32} {x1 x2 : Int32} (i k : Nat) (h1 : x1 = nI i) (h2 : x2 = nI k) (hi : i < n) (hk : k < 5) (hn : n ≤ 16) : Ct l yX0_at (Cond.code yX0_at cX0_at 4 (some .int)) 0 0 0 0 D (tyz cI cJ cQ) [.ref a0, .int x1, .int x2] (wLog a0 a1 cI n f) (pstI (f (i * 5 + k)) (wLog a0 a1 cI n f)) := by
  refine Ct.of RX0 (by decide) rfl (Nat.le_of_ble_eq_true rfl) ?_
  intro p e s m below meth c A C RC
  subst h1 h2
  refine sw_iload_n 0 1 C dX0_at_0 rfl rfl ?_
  refine sw_if_lt 1 21 C dX0_at_1 (by decide) (fun c_1 => ?_) (fun c_1 => ?_)
  · exact by first | exact absurd c_1 (nI_pos (by omega)) | exact absurd (nI_pos (by omega)) c_1
  refine sw_iload_n 4 1 C dX0_at_4 rfl rfl ?_
  refine sw_aload_n 5 0 C dX0_at_5 rfl rfl ?_
  refine sw_get 6 0 0 C dX0_at_6 rfl rfl (inA lwX0) (C.w wF_X0_15) rfl rfl rfl ?_
  refine sw_icmp_ge 9 21 C dX0_at_9 (by decide) (fun c_9 => ?_) (fun c_9 => ?_)
  · exact by first | exact absurd c_9 (nI_ge hi (by omega)) | exact absurd (nI_ge hi (by omega)) c_9
  refine sw_iload_n 12 2 C dX0_at_12 rfl rfl ?_
  refine sw_if_lt 13 21 C dX0_at_13 (by decide) (fun c_13 => ?_) (fun c_13 => ?_)
  · exact by first | exact absurd c_13 (nI_pos (by omega)) | exact absurd (nI_pos (by omega)) c_13
  refine sw_iload_n 16 2 C dX0_at_16 rfl rfl ?_
  refine sw_iconst 17 C dX0_at_17 5 (by decide) ?_
  refine sw_icmp_lt 18 23 C dX0_at_18 (by decide) (fun c_18 => ?_) (fun c_18 => ?_)
  rotate_left
  · exact by first | exact absurd c_18 (nI_lt hk (by decide)) | exact absurd (nI_lt hk (by decide)) c_18
  refine sw_iload_n 23 1 C dX0_at_23 rfl rfl ?_
  refine sw_iconst 24 C dX0_at_24 5 (by decide) ?_
  refine sw_imul 25 C dX0_at_25 ?_
  refine sw_iload_n 26 2 C dX0_at_26 rfl rfl ?_
  refine sw_iadd 27 C dX0_at_27 ?_
  refine sw_top (show nI i * 5 + nI k = nI (i * 5 + k) by rw [show (5 : Int32) = nI 5 from rfl, pk_mul, nI_add]) ?_
  refine sw_istore_n 28 3 C dX0_at_28 rfl rfl ?_
  refine sw_iload_n 29 3 C dX0_at_29 rfl rfl ?_
  refine sw_if_lt 30 51 C dX0_at_30 (by decide) (fun c_30 => ?_) (fun c_30 => ?_)
  · exact by first | exact absurd c_30 (nI_pos (by omega)) | exact absurd (nI_pos (by omega)) c_30
  refine sw_iload_n 33 3 C dX0_at_33 rfl rfl ?_
  refine sw_aload_n 34 0 C dX0_at_34 rfl rfl ?_
  refine sw_get 35 0 1 C dX0_at_35 rfl rfl (inA lwX0) (C.w wF_X0_9) rfl rfl rfl ?_
  refine sw_alen 38 1 0 C 80 dX0_at_38 rfl rfl rfl ?_
  refine sw_icmp_ge 39 51 C dX0_at_39 (by decide) (fun c_39 => ?_) (fun c_39 => ?_)
  · exact by first | exact absurd c_39 (nI_ge (show i * 5 + k < 80 by omega) (by decide)) | exact absurd (nI_ge (show i * 5 + k < 80 by omega) (by decide)) c_39
  refine sw_aload_n 42 0 C dX0_at_42 rfl rfl ?_
  refine sw_get 43 0 1 C dX0_at_43 rfl rfl (inA lwX0) (C.w wF_X0_9) rfl rfl rfl ?_
  refine sw_iload_n 46 3 C dX0_at_46 rfl rfl ?_
  refine sw_ialdN 47 1 0 (i * 5 + k) C dX0_at_47 rfl (by omega) rfl rfl rfl ?_
  refine sw_goto 48 52 C dX0_at_48 (by decide) ?_
  refine sw_iret 52 C RC dX0_at_52 ?_
  exact ⟨rfl, rfl⟩
set_option maxHeartbeats 4000000 in
set_option maxRecDepth 100000 in
theorem ct_X0_add (l : Launch) {D : va_G} {cI cJ cQ : ClassId} {a0 a1 n : Nat} {f : Nat → Int32} {x1 x2 x3 x4 x5 : Int32} (hn : n ≤ 16) : Ct l yX0_add (Cond.code yX0_add cX0_add 6 none) 1 20 0 0 D (tyz cI cJ cQ) [.ref a0, .int x1, .int x2, .int x3, .int x4, .int x5] (wLog a0 a1 cI n f) (pstV (wLog a0 a1 cI (lgc n) (lga f x1 x2 x3 x4 x5))) := by
  refine Ct.of RX0 (by decide) rfl (Nat.le_of_ble_eq_true rfl) ?_
  intro p e s m below meth c A C RC
  refine sw_aload_n 0 0 C dX0_add_0 rfl rfl ?_
  refine sw_get 1 0 1 C dX0_add_1 rfl rfl (inA lwX0) (C.w wF_X0_9) rfl rfl rfl ?_
  refine sw_iconst 4 C dX0_add_4 0 (by decide) ?_
  refine sw_aload_n 5 0 C dX0_add_5 rfl rfl ?_
  refine sw_get 6 0 1 C dX0_add_6 rfl rfl (inA lwX0) (C.w wF_X0_9) rfl rfl rfl ?_
  refine sw_iconst 9 C dX0_add_9 5 (by decide) ?_
  refine sw_aload_n 10 0 C dX0_add_10 rfl rfl ?_
  refine sw_get 11 0 1 C dX0_add_11 rfl rfl (inA lwX0) (C.w wF_X0_9) rfl rfl rfl ?_
  refine sw_alen 14 1 0 C 80 dX0_add_14 rfl rfl rfl ?_
  refine sw_iconst 15 C dX0_add_15 5 (by decide) ?_
  refine sw_isub 16 C dX0_add_16 ?_
  refine sw_copyN 17 1 1 0 (0) (5) (75) C dX0_add_17 (C.w wM_X0_19) (C.w wNat_J10_arraycopy__Ljava_lang_Object_ILjava_lang_Object_II_V) (C.w wT_J10_arraycopy__Ljava_lang_Object_ILjava_lang_Object_II_V) (C.w wI_J10) rfl rfl rfl (by decide) (by decide) rfl rfl (Nat.le_of_ble_eq_true rfl) (Nat.le_of_ble_eq_true rfl) rfl rfl rfl ?_
  refine sw_ws [(_, .inr (0, [.int _, .ref _])), (_, .inl (_, _, .inl _))] rfl ?_
  refine sw_aload_n 20 0 C dX0_add_20 rfl rfl ?_
  refine sw_get 21 0 1 C dX0_add_21 rfl rfl (inA lwX0) (C.w wF_X0_9) rfl rfl rfl ?_
  refine sw_iconst 24 C dX0_add_24 0 (by decide) ?_
  refine sw_iload_n 25 1 C dX0_add_25 rfl rfl ?_
  refine sw_iastN 26 1 0 (0) C dX0_add_26 rfl (by decide) rfl rfl rfl ?_
  refine sw_ws [(_, .inr (0, [.int _, .ref _])), (_, .inl (_, _, .inl _))] rfl ?_
  refine sw_aload_n 27 0 C dX0_add_27 rfl rfl ?_
  refine sw_get 28 0 1 C dX0_add_28 rfl rfl (inA lwX0) (C.w wF_X0_9) rfl rfl rfl ?_
  refine sw_iconst 31 C dX0_add_31 1 (by decide) ?_
  refine sw_iload_n 32 2 C dX0_add_32 rfl rfl ?_
  refine sw_iastN 33 1 0 (1) C dX0_add_33 rfl (by decide) rfl rfl rfl ?_
  refine sw_ws [(_, .inr (0, [.int _, .ref _])), (_, .inl (_, _, .inl _))] rfl ?_
  refine sw_aload_n 34 0 C dX0_add_34 rfl rfl ?_
  refine sw_get 35 0 1 C dX0_add_35 rfl rfl (inA lwX0) (C.w wF_X0_9) rfl rfl rfl ?_
  refine sw_iconst 38 C dX0_add_38 2 (by decide) ?_
  refine sw_iload_n 39 3 C dX0_add_39 rfl rfl ?_
  refine sw_iastN 40 1 0 (2) C dX0_add_40 rfl (by decide) rfl rfl rfl ?_
  refine sw_ws [(_, .inr (0, [.int _, .ref _])), (_, .inl (_, _, .inl _))] rfl ?_
  refine sw_aload_n 41 0 C dX0_add_41 rfl rfl ?_
  refine sw_get 42 0 1 C dX0_add_42 rfl rfl (inA lwX0) (C.w wF_X0_9) rfl rfl rfl ?_
  refine sw_iconst 45 C dX0_add_45 3 (by decide) ?_
  refine sw_iload 46 C dX0_add_46 rfl ?_
  refine sw_iastN 48 1 0 (3) C dX0_add_48 rfl (by decide) rfl rfl rfl ?_
  refine sw_ws [(_, .inr (0, [.int _, .ref _])), (_, .inl (_, _, .inl _))] rfl ?_
  refine sw_aload_n 49 0 C dX0_add_49 rfl rfl ?_
  refine sw_get 50 0 1 C dX0_add_50 rfl rfl (inA lwX0) (C.w wF_X0_9) rfl rfl rfl ?_
  refine sw_iconst 53 C dX0_add_53 4 (by decide) ?_
  refine sw_iload 54 C dX0_add_54 rfl ?_
  refine sw_iastN 56 1 0 (4) C dX0_add_56 rfl (by decide) rfl rfl rfl ?_
  refine sw_ws [(_, .inr (0, [.int _, .ref _])), (_, .inl (_, _, .inl _))] rfl ?_
  refine sw_aload_n 57 0 C dX0_add_57 rfl rfl ?_
  refine sw_get 58 0 0 C dX0_add_58 rfl rfl (inA lwX0) (C.w wF_X0_15) rfl rfl rfl ?_
  refine sw_bipush 61 C dX0_add_61 16 (by decide) ?_
  refine sw_icmp_ge 63 76 C dX0_add_63 (by decide) (fun c_63 => ?_) (fun c_63 => ?_)
  · refine sw_vret 76 C RC dX0_add_76 ?_
    exact ⟨rfl, by rw [show lgc n = n from if_neg (fun h => absurd (nI_lt h (by decide)) (Int32.not_lt.mpr c_63))]; rfl⟩
  · refine sw_aload_n 66 0 C dX0_add_66 rfl rfl ?_
    refine sw_dup 67 C dX0_add_67 rfl ?_
    refine sw_get 68 0 0 C dX0_add_68 rfl rfl (inA lwX0) (C.w wF_X0_15) rfl rfl rfl ?_
    refine sw_iconst 71 C dX0_add_71 1 (by decide) ?_
    refine sw_iadd 72 C dX0_add_72 ?_
    refine sw_top (nI_1 n) ?_
    refine sw_put 73 0 0 tyX0 C dX0_add_73 rfl rfl (inA lwX0) tyX0_ok nmX0 (C.w wF_X0_15) rfl rfl rfl rfl rfl rfl rfl ?_
    refine sw_ws [(_, .inr (0, [.int _, .ref _])), (_, .inl (_, _, .inl _))] rfl ?_
    refine sw_vret 76 C RC dX0_add_76 ?_
    exact ⟨rfl, by rw [show lgc n = n + 1 from if_pos (by have := Int32.not_le.mp c_63; exact (nI_ltI (by omega) (by decide)).mp this)]; rfl⟩
set_option maxHeartbeats 4000000 in
set_option maxRecDepth 100000 in
theorem ct_X0_copyFrom (l : Launch) {D : va_G} {cI cJ cQ : ClassId} {a0 a1 b0 b1 : Nat} {f g : Nat → Int32} {x y : Int32} : Ct l yX0_copyFrom (Cond.code yX0_copyFrom cX0_copyFrom 2 none) 1 20 0 0 D (tyz cI cJ cQ) [.ref a0, .ref b0] [(a0, .inr (0, [.int y, .ref a1])), (a1, .inl (cI, 80, .inl g)), (b0, .inr (0, [.int x, .ref b1])), (b1, .inl (cI, 80, .inl f))] (pstV [(a0, .inr (0, [.int x, .ref a1])), (a1, .inl (cI, 80, .inl f)), (b0, .inr (0, [.int x, .ref b1])), (b1, .inl (cI, 80, .inl f))]) := by
  refine Ct.of RX0 (by decide) rfl (Nat.le_of_ble_eq_true rfl) ?_
  intro p e s m below meth c A C RC
  refine sw_aload_n 0 0 C dX0_copyFrom_0 rfl rfl ?_
  refine sw_aload_n 1 1 C dX0_copyFrom_1 rfl rfl ?_
  refine sw_get 2 2 0 C dX0_copyFrom_2 rfl rfl (inA lwX0) (C.w wF_X0_15) rfl rfl rfl ?_
  refine sw_put 5 0 0 tyX0 C dX0_copyFrom_5 rfl rfl (inA lwX0) tyX0_ok nmX0 (C.w wF_X0_15) rfl rfl rfl rfl rfl rfl rfl ?_
  refine sw_ws [(_, .inr (0, [.int _, .ref _])), (_, .inl (_, _, .inl _)), (_, .inr (0, [.int _, .ref _])), (_, .inl (_, _, .inl _))] rfl ?_
  refine sw_aload_n 8 1 C dX0_copyFrom_8 rfl rfl ?_
  refine sw_get 9 2 1 C dX0_copyFrom_9 rfl rfl (inA lwX0) (C.w wF_X0_9) rfl rfl rfl ?_
  refine sw_iconst 12 C dX0_copyFrom_12 0 (by decide) ?_
  refine sw_aload_n 13 0 C dX0_copyFrom_13 rfl rfl ?_
  refine sw_get 14 0 1 C dX0_copyFrom_14 rfl rfl (inA lwX0) (C.w wF_X0_9) rfl rfl rfl ?_
  refine sw_iconst 17 C dX0_copyFrom_17 0 (by decide) ?_
  refine sw_aload_n 18 0 C dX0_copyFrom_18 rfl rfl ?_
  refine sw_get 19 0 1 C dX0_copyFrom_19 rfl rfl (inA lwX0) (C.w wF_X0_9) rfl rfl rfl ?_
  refine sw_alen 22 1 0 C 80 dX0_copyFrom_22 rfl rfl rfl ?_
  refine sw_copyN 23 3 1 0 (0) (0) (80) C dX0_copyFrom_23 (C.w wM_X0_19) (C.w wNat_J10_arraycopy__Ljava_lang_Object_ILjava_lang_Object_II_V) (C.w wT_J10_arraycopy__Ljava_lang_Object_ILjava_lang_Object_II_V) (C.w wI_J10) rfl rfl rfl (by decide) (by decide) rfl rfl (Nat.le_of_ble_eq_true rfl) (Nat.le_of_ble_eq_true rfl) rfl rfl rfl ?_
  refine sw_ws [(_, .inr (0, [.int _, .ref _])), (_, .inl (_, _, .inl _)), (_, .inr (0, [.int _, .ref _])), (_, .inl (_, _, .inl _))] rfl ?_
  refine sw_arrEq 1 f rfl (fun j hj => va_cpy_all hj) ?_
  refine sw_vret 26 C RC dX0_copyFrom_26 ?_
  exact ⟨rfl, rfl⟩
/-! State -/
def qal (f : Nat → Int32) (n : Nat) (q x : Int32) : Bool := decide (nI (ct (isOf f x) n) < q)
def hrf (f : Nat → Int32) (n : Nat) (q x y : Int32) : Bool := decide (n < 40) && qal f n q x && (decide (y = -1) || qal f n q y)
set_option maxHeartbeats 4000000 in
set_option maxRecDepth 100000 in
theorem ct_X4_quotaAllows (l : Launch) {D : va_G} {cI cJ cQ : ClassId} {a0 a1 a2 a3 a4 a5 a6 a7 : Nat} {q g sv t ps ck : Int32} {n lc : Nat} {pat f lg lv bk : Nat → Int32} {x : Int32} (hn : n ≤ 40) : Ct l yX4_quotaAllows (Cond.code yX4_quotaAllows cX4_quotaAllows 2 (some .boolean)) 2 46 0 0 D (tyz cI cJ cQ) [.ref a0, .int x] [(a0, .inr (4, [.int (q), .int (g), .int (sv), .ref a1, .ref a2, .ref a4, .int (t), .int (ps), .int (ck), .ref a6, .ref a7])), (a1, .inl (cI, 4, .inl (pat))), (a2, .inr (2, [.int (nI (n)), .ref a3])), (a3, .inl (cI, 320, .inl (f))), (a4, .inr (0, [.int (nI (lc)), .ref a5])), (a5, .inl (cI, 80, .inl (lg))), (a6, .inl (cI, 3, .inl (lv))), (a7, .inl (cI, 8, .inl (bk)))] (pstI (bI (qal f n q x)) [(a0, .inr (4, [.int (q), .int (g), .int (sv), .ref a1, .ref a2, .ref a4, .int (t), .int (ps), .int (ck), .ref a6, .ref a7])), (a1, .inl (cI, 4, .inl (pat))), (a2, .inr (2, [.int (nI (n)), .ref a3])), (a3, .inl (cI, 320, .inl (f))), (a4, .inr (0, [.int (nI (lc)), .ref a5])), (a5, .inl (cI, 80, .inl (lg))), (a6, .inl (cI, 3, .inl (lv))), (a7, .inl (cI, 8, .inl (bk)))]) := by
  refine Ct.of RX4 (by decide) rfl (Nat.le_of_ble_eq_true rfl) ?_
  intro p e s m below meth c A C RC
  refine sw_aload_n 0 0 C dX4_quotaAllows_0 rfl rfl ?_
  refine sw_get 1 0 4 C dX4_quotaAllows_1 rfl rfl (inA lwX4) (C.w wF_X4_25) rfl rfl rfl ?_
  refine sw_iload_n 4 1 C dX4_quotaAllows_4 rfl rfl ?_
  refine sw_callVIP 5 [2, 3] 1 C dX4_quotaAllows_5 (ct_X2_countOfSender l hn) wK_X2_countOfSender wM_X4_74 wN_X2_countOfSender wS_X2_X2_countOfSender wI_X2 hd_X2_countOfSender rfl rfl rfl ⟨rfl, rfl⟩ ⟨Nat.le_of_ble_eq_true rfl, Nat.le_of_ble_eq_true rfl⟩ rfl rfl rfl rfl ?_
  refine sw_aload_n 8 0 C dX4_quotaAllows_8 rfl rfl ?_
  refine sw_get 9 0 0 C dX4_quotaAllows_9 rfl rfl (inA lwX4) (C.w wF_X4_9) rfl rfl rfl ?_
  refine sw_icmp_ge 12 19 C dX4_quotaAllows_12 (by decide) (fun c_12 => ?_) (fun c_12 => ?_)
  · refine sw_iconst 19 C dX4_quotaAllows_19 0 (by decide) ?_
    refine sw_zret 20 C RC rfl dX4_quotaAllows_20 ?_
    exact ⟨by simp [qal, bI, c_12], rfl⟩
  · refine sw_iconst 15 C dX4_quotaAllows_15 1 (by decide) ?_
    refine sw_goto 16 20 C dX4_quotaAllows_16 (by decide) ?_
    refine sw_zret 20 C RC rfl dX4_quotaAllows_20 ?_
    exact ⟨by simp [qal, bI, c_12], rfl⟩
set_option maxHeartbeats 4000000 in
set_option maxRecDepth 100000 in
theorem ct_X4_hasRoomFor (l : Launch) {D : va_G} {cI cJ cQ : ClassId} {a0 a1 a2 a3 a4 a5 a6 a7 : Nat} {q g sv t ps ck : Int32} {n lc : Nat} {pat f lg lv bk : Nat → Int32} {x y : Int32} (hn : n ≤ 40) : Ct l yX4_hasRoomFor (Cond.code yX4_hasRoomFor cX4_hasRoomFor 3 (some .boolean)) 3 67 0 0 D (tyz cI cJ cQ) [.ref a0, .int x, .int y] [(a0, .inr (4, [.int (q), .int (g), .int (sv), .ref a1, .ref a2, .ref a4, .int (t), .int (ps), .int (ck), .ref a6, .ref a7])), (a1, .inl (cI, 4, .inl (pat))), (a2, .inr (2, [.int (nI (n)), .ref a3])), (a3, .inl (cI, 320, .inl (f))), (a4, .inr (0, [.int (nI (lc)), .ref a5])), (a5, .inl (cI, 80, .inl (lg))), (a6, .inl (cI, 3, .inl (lv))), (a7, .inl (cI, 8, .inl (bk)))] (pstI (bI (hrf f n q x y)) [(a0, .inr (4, [.int (q), .int (g), .int (sv), .ref a1, .ref a2, .ref a4, .int (t), .int (ps), .int (ck), .ref a6, .ref a7])), (a1, .inl (cI, 4, .inl (pat))), (a2, .inr (2, [.int (nI (n)), .ref a3])), (a3, .inl (cI, 320, .inl (f))), (a4, .inr (0, [.int (nI (lc)), .ref a5])), (a5, .inl (cI, 80, .inl (lg))), (a6, .inl (cI, 3, .inl (lv))), (a7, .inl (cI, 8, .inl (bk)))]) := by
  refine Ct.of RX4 (by decide) rfl (Nat.le_of_ble_eq_true rfl) ?_
  intro p e s m below meth c A C RC
  refine sw_aload_n 0 0 C dX4_hasRoomFor_0 rfl rfl ?_
  refine sw_get 1 0 4 C dX4_hasRoomFor_1 rfl rfl (inA lwX4) (C.w wF_X4_25) rfl rfl rfl ?_
  refine sw_get 4 2 0 C dX4_hasRoomFor_4 rfl rfl (inA lwX2) (C.w wF_X4_67) rfl rfl rfl ?_
  refine sw_bipush 7 C dX4_hasRoomFor_7 40 (by decide) ?_
  refine sw_icmp_ge 9 37 C dX4_hasRoomFor_9 (by decide) (fun c_9 => ?_) (fun c_9 => ?_)
  · refine sw_iconst 37 C dX4_hasRoomFor_37 0 (by decide) ?_
    refine sw_zret 38 C RC rfl dX4_hasRoomFor_38 ?_
    exact ⟨by rw [hrf, decide_eq_false (p := n < 40) (fun h => absurd c_9 (nI_ge h (by decide)))]; rfl, rfl⟩
  · have hlt : n < 40 := (nI_ltI (b := 40) (by omega) (by decide)).mp (Int32.not_le.mp c_9)
    refine sw_aload_n 12 0 C dX4_hasRoomFor_12 rfl rfl ?_
    refine sw_iload_n 13 1 C dX4_hasRoomFor_13 rfl rfl ?_
    refine sw_callVIP 14 [0, 1, 2, 3, 4, 5, 6, 7] 1 C dX4_hasRoomFor_14 (ct_X4_quotaAllows l hn) wK_X4_quotaAllows wM_X4_70 wN_X4_quotaAllows wS_X4_X4_quotaAllows wI_X4 hd_X4_quotaAllows rfl rfl rfl ⟨rfl, rfl⟩ ⟨Nat.le_of_ble_eq_true rfl, Nat.le_of_ble_eq_true rfl⟩ rfl rfl rfl rfl ?_
    refine sw_if_eq 17 37 C dX4_hasRoomFor_17 (by decide) (fun c_17 => ?_) (fun c_17 => ?_)
    · refine sw_iconst 37 C dX4_hasRoomFor_37 0 (by decide) ?_
      refine sw_zret 38 C RC rfl dX4_hasRoomFor_38 ?_
      exact ⟨by rw [hrf, bI_f c_17, Bool.and_false, Bool.false_and]; rfl, rfl⟩
    · refine sw_iload_n 20 2 C dX4_hasRoomFor_20 rfl rfl ?_
      refine sw_iconst 21 C dX4_hasRoomFor_21 (-1) (by decide) ?_
      refine sw_icmp_eq 22 33 C dX4_hasRoomFor_22 (by decide) (fun c_22 => ?_) (fun c_22 => ?_)
      · refine sw_iconst 33 C dX4_hasRoomFor_33 1 (by decide) ?_
        refine sw_goto 34 38 C dX4_hasRoomFor_34 (by decide) ?_
        refine sw_zret 38 C RC rfl dX4_hasRoomFor_38 ?_
        exact ⟨by rw [hrf, bI_t c_17, decide_eq_true hlt, decide_eq_true c_22]; rfl, rfl⟩
      · refine sw_aload_n 25 0 C dX4_hasRoomFor_25 rfl rfl ?_
        refine sw_iload_n 26 2 C dX4_hasRoomFor_26 rfl rfl ?_
        refine sw_callVIP 27 [0, 1, 2, 3, 4, 5, 6, 7] 1 C dX4_hasRoomFor_27 (ct_X4_quotaAllows l hn) wK_X4_quotaAllows wM_X4_70 wN_X4_quotaAllows wS_X4_X4_quotaAllows wI_X4 hd_X4_quotaAllows rfl rfl rfl ⟨rfl, rfl⟩ ⟨Nat.le_of_ble_eq_true rfl, Nat.le_of_ble_eq_true rfl⟩ rfl rfl rfl rfl ?_
        refine sw_if_eq 30 37 C dX4_hasRoomFor_30 (by decide) (fun c_30 => ?_) (fun c_30 => ?_)
        · refine sw_iconst 37 C dX4_hasRoomFor_37 0 (by decide) ?_
          refine sw_zret 38 C RC rfl dX4_hasRoomFor_38 ?_
          exact ⟨by rw [hrf, bI_t c_17, decide_eq_true hlt, decide_eq_false c_22, bI_f c_30]; rfl, rfl⟩
        · refine sw_iconst 33 C dX4_hasRoomFor_33 1 (by decide) ?_
          refine sw_goto 34 38 C dX4_hasRoomFor_34 (by decide) ?_
          refine sw_zret 38 C RC rfl dX4_hasRoomFor_38 ?_
          exact ⟨by rw [hrf, bI_t c_17, decide_eq_true hlt, decide_eq_false c_22, bI_t c_30]; rfl, rfl⟩
def pin (f : Nat → Int32) (n : Nat) (ps x1 x2 x3 x4 x5 : Int32) : Nat → Int32 :=
  upd (upd (upd (upd (upd (upd (zrr f n 8) (n * 8 + 7) ps) (n * 8 + 0) x1) (n * 8 + 1) x2) (n * 8 + 2) (if x3 + x5 / 25 < 4 then x3 + x5 / 25 else 4)) (n * 8 + 5) x4) (n * 8 + 6) x5
set_option maxHeartbeats 4000000 in
set_option maxRecDepth 100000 in
theorem ct_X4_putIn (l : Launch) {D : va_G} {cI cJ cQ : ClassId} {a0 a1 a2 a3 a4 a5 a6 a7 : Nat} {q g sv t ps ck : Int32} {n lc : Nat} {pat f lg lv bk : Nat → Int32} {x1 x2 x3 x4 x5 : Int32} (hn : n < 40) : Ct l yX4_putIn (Cond.code yX4_putIn cX4_putIn 8 (some .int)) 2 46 0 0 D (tyz cI cJ cQ) [.ref a0, .int x1, .int x2, .int x3, .int x4, .int x5] [(a0, .inr (4, [.int (q), .int (g), .int (sv), .ref a1, .ref a2, .ref a4, .int (t), .int (ps), .int (ck), .ref a6, .ref a7])), (a1, .inl (cI, 4, .inl (pat))), (a2, .inr (2, [.int (nI (n)), .ref a3])), (a3, .inl (cI, 320, .inl (f))), (a4, .inr (0, [.int (nI (lc)), .ref a5])), (a5, .inl (cI, 80, .inl (lg))), (a6, .inl (cI, 3, .inl (lv))), (a7, .inl (cI, 8, .inl (bk)))] (pstI ps [(a0, .inr (4, [.int (q), .int (g), .int (sv), .ref a1, .ref a2, .ref a4, .int (t), .int (ps + 1), .int (ck), .ref a6, .ref a7])), (a1, .inl (cI, 4, .inl (pat))), (a2, .inr (2, [.int (nI (n + 1)), .ref a3])), (a3, .inl (cI, 320, .inl (pin f n ps x1 x2 x3 x4 x5))), (a4, .inr (0, [.int (nI (lc)), .ref a5])), (a5, .inl (cI, 80, .inl (lg))), (a6, .inl (cI, 3, .inl (lv))), (a7, .inl (cI, 8, .inl (bk)))]) := by
  refine Ct.of RX4 (by decide) rfl (Nat.le_of_ble_eq_true rfl) ?_
  intro p e s m below meth c A C RC
  refine sw_aload_n 0 0 C dX4_putIn_0 rfl rfl ?_
  refine sw_get 1 0 7 C dX4_putIn_1 rfl rfl (inA lwX4) (C.w wF_X4_48) rfl rfl rfl ?_
  refine sw_istore 4 C dX4_putIn_4 rfl ?_
  refine sw_aload_n 6 0 C dX4_putIn_6 rfl rfl ?_
  refine sw_dup 7 C dX4_putIn_7 rfl ?_
  refine sw_get 8 0 7 C dX4_putIn_8 rfl rfl (inA lwX4) (C.w wF_X4_48) rfl rfl rfl ?_
  refine sw_iconst 11 C dX4_putIn_11 1 (by decide) ?_
  refine sw_iadd 12 C dX4_putIn_12 ?_
  refine sw_put 13 0 7 tyX4 C dX4_putIn_13 rfl rfl (inA lwX4) tyX4_ok nmX4 (C.w wF_X4_48) rfl rfl rfl rfl rfl rfl rfl ?_
  refine sw_ws [(_, .inr (4, [.int _, .int _, .int _, .ref _, .ref _, .ref _, .int _, .int _, .int _, .ref _, .ref _])), (_, .inl (_, _, .inl _)), (_, .inr (2, [.int _, .ref _])), (_, .inl (_, _, .inl _)), (_, .inr (0, [.int _, .ref _])), (_, .inl (_, _, .inl _)), (_, .inl (_, _, .inl _)), (_, .inl (_, _, .inl _))] rfl ?_
  refine sw_aload_n 16 0 C dX4_putIn_16 rfl rfl ?_
  refine sw_get 17 0 4 C dX4_putIn_17 rfl rfl (inA lwX4) (C.w wF_X4_25) rfl rfl rfl ?_
  refine sw_callVI 20 [2, 3] 0 C dX4_putIn_20 (ct_X2_addRow l hn) wK_X2_addRow wM_X4_78 wN_X2_addRow wS_X2_X2_addRow wI_X2 hd_X2_addRow rfl rfl rfl ⟨rfl, rfl⟩ ⟨Nat.le_of_ble_eq_true rfl, Nat.le_of_ble_eq_true rfl⟩ rfl rfl rfl rfl rfl ?_
  refine sw_ws [(_, .inr (4, [.int _, .int _, .int _, .ref _, .ref _, .ref _, .int _, .int _, .int _, .ref _, .ref _])), (_, .inl (_, _, .inl _)), (_, .inr (2, [.int _, .ref _])), (_, .inl (_, _, .inl _)), (_, .inr (0, [.int _, .ref _])), (_, .inl (_, _, .inl _)), (_, .inl (_, _, .inl _)), (_, .inl (_, _, .inl _))] rfl ?_
  refine sw_istore 23 C dX4_putIn_23 rfl ?_
  refine sw_loc (L1 := [(0, .ref _), (1, .int _), (2, .int _), (3, .int _), (4, .int _), (5, .int _), (6, .int _), (7, .int _)]) ?_ rfl
  refine sw_aload_n 25 0 C dX4_putIn_25 rfl rfl ?_
  refine sw_get 26 0 4 C dX4_putIn_26 rfl rfl (inA lwX4) (C.w wF_X4_25) rfl rfl rfl ?_
  refine sw_iload 29 C dX4_putIn_29 rfl ?_
  refine sw_bipush 31 C dX4_putIn_31 7 (by decide) ?_
  refine sw_iload 33 C dX4_putIn_33 rfl ?_
  refine sw_callVV 35 [2, 3] 3 C dX4_putIn_35 (ct_X2_set l n 7 rfl rfl (by omega) (by decide) (by omega)) wK_X2_set wM_X4_82 wN_X2_set wS_X2_X2_set wI_X2 hd_X2_set rfl rfl rfl ⟨rfl, rfl⟩ ⟨Nat.le_of_ble_eq_true rfl, Nat.le_of_ble_eq_true rfl⟩ rfl rfl rfl rfl rfl ?_
  refine sw_ws [(_, .inr (4, [.int _, .int _, .int _, .ref _, .ref _, .ref _, .int _, .int _, .int _, .ref _, .ref _])), (_, .inl (_, _, .inl _)), (_, .inr (2, [.int _, .ref _])), (_, .inl (_, _, .inl _)), (_, .inr (0, [.int _, .ref _])), (_, .inl (_, _, .inl _)), (_, .inl (_, _, .inl _)), (_, .inl (_, _, .inl _))] rfl ?_
  refine sw_aload_n 38 0 C dX4_putIn_38 rfl rfl ?_
  refine sw_get 39 0 4 C dX4_putIn_39 rfl rfl (inA lwX4) (C.w wF_X4_25) rfl rfl rfl ?_
  refine sw_iload 42 C dX4_putIn_42 rfl ?_
  refine sw_iconst 44 C dX4_putIn_44 0 (by decide) ?_
  refine sw_iload_n 45 1 C dX4_putIn_45 rfl rfl ?_
  refine sw_callVV 46 [2, 3] 3 C dX4_putIn_46 (ct_X2_set l n 0 rfl rfl (by omega) (by decide) (by omega)) wK_X2_set wM_X4_82 wN_X2_set wS_X2_X2_set wI_X2 hd_X2_set rfl rfl rfl ⟨rfl, rfl⟩ ⟨Nat.le_of_ble_eq_true rfl, Nat.le_of_ble_eq_true rfl⟩ rfl rfl rfl rfl rfl ?_
  refine sw_ws [(_, .inr (4, [.int _, .int _, .int _, .ref _, .ref _, .ref _, .int _, .int _, .int _, .ref _, .ref _])), (_, .inl (_, _, .inl _)), (_, .inr (2, [.int _, .ref _])), (_, .inl (_, _, .inl _)), (_, .inr (0, [.int _, .ref _])), (_, .inl (_, _, .inl _)), (_, .inl (_, _, .inl _)), (_, .inl (_, _, .inl _))] rfl ?_
  refine sw_aload_n 49 0 C dX4_putIn_49 rfl rfl ?_
  refine sw_get 50 0 4 C dX4_putIn_50 rfl rfl (inA lwX4) (C.w wF_X4_25) rfl rfl rfl ?_
  refine sw_iload 53 C dX4_putIn_53 rfl ?_
  refine sw_iconst 55 C dX4_putIn_55 1 (by decide) ?_
  refine sw_iload_n 56 2 C dX4_putIn_56 rfl rfl ?_
  refine sw_callVV 57 [2, 3] 3 C dX4_putIn_57 (ct_X2_set l n 1 rfl rfl (by omega) (by decide) (by omega)) wK_X2_set wM_X4_82 wN_X2_set wS_X2_X2_set wI_X2 hd_X2_set rfl rfl rfl ⟨rfl, rfl⟩ ⟨Nat.le_of_ble_eq_true rfl, Nat.le_of_ble_eq_true rfl⟩ rfl rfl rfl rfl rfl ?_
  refine sw_ws [(_, .inr (4, [.int _, .int _, .int _, .ref _, .ref _, .ref _, .int _, .int _, .int _, .ref _, .ref _])), (_, .inl (_, _, .inl _)), (_, .inr (2, [.int _, .ref _])), (_, .inl (_, _, .inl _)), (_, .inr (0, [.int _, .ref _])), (_, .inl (_, _, .inl _)), (_, .inl (_, _, .inl _)), (_, .inl (_, _, .inl _))] rfl ?_
  refine sw_aload_n 60 0 C dX4_putIn_60 rfl rfl ?_
  refine sw_get 61 0 4 C dX4_putIn_61 rfl rfl (inA lwX4) (C.w wF_X4_25) rfl rfl rfl ?_
  refine sw_iload 64 C dX4_putIn_64 rfl ?_
  refine sw_iconst 66 C dX4_putIn_66 2 (by decide) ?_
  refine sw_iconst 67 C dX4_putIn_67 4 (by decide) ?_
  refine sw_iload_n 68 3 C dX4_putIn_68 rfl rfl ?_
  refine sw_iload 69 C dX4_putIn_69 rfl ?_
  refine sw_bipush 71 C dX4_putIn_71 25 (by decide) ?_
  refine sw_idiv 73 C dX4_putIn_73 (by decide) ?_
  refine sw_iadd 74 C dX4_putIn_74 ?_
  refine sw_mmin 75 C (C.w wM_X4_86) (C.w wT_J9_min_7cf53) (C.w wI_J9) (C.w wK_J9_min_7cf53) (Nat.le_of_ble_eq_true rfl) (Nat.le_of_ble_eq_true rfl) (Nat.le_of_ble_eq_true rfl) (Nat.le_of_ble_eq_true rfl) dX4_putIn_75 ?_
  refine sw_callVV 78 [2, 3] 3 C dX4_putIn_78 (ct_X2_set l n 2 rfl rfl (by omega) (by decide) (by omega)) wK_X2_set wM_X4_82 wN_X2_set wS_X2_X2_set wI_X2 hd_X2_set rfl rfl rfl ⟨rfl, rfl⟩ ⟨Nat.le_of_ble_eq_true rfl, Nat.le_of_ble_eq_true rfl⟩ rfl rfl rfl rfl rfl ?_
  refine sw_ws [(_, .inr (4, [.int _, .int _, .int _, .ref _, .ref _, .ref _, .int _, .int _, .int _, .ref _, .ref _])), (_, .inl (_, _, .inl _)), (_, .inr (2, [.int _, .ref _])), (_, .inl (_, _, .inl _)), (_, .inr (0, [.int _, .ref _])), (_, .inl (_, _, .inl _)), (_, .inl (_, _, .inl _)), (_, .inl (_, _, .inl _))] rfl ?_
  refine sw_aload_n 81 0 C dX4_putIn_81 rfl rfl ?_
  refine sw_get 82 0 4 C dX4_putIn_82 rfl rfl (inA lwX4) (C.w wF_X4_25) rfl rfl rfl ?_
  refine sw_iload 85 C dX4_putIn_85 rfl ?_
  refine sw_iconst 87 C dX4_putIn_87 5 (by decide) ?_
  refine sw_iload 88 C dX4_putIn_88 rfl ?_
  refine sw_callVV 90 [2, 3] 3 C dX4_putIn_90 (ct_X2_set l n 5 rfl rfl (by omega) (by decide) (by omega)) wK_X2_set wM_X4_82 wN_X2_set wS_X2_X2_set wI_X2 hd_X2_set rfl rfl rfl ⟨rfl, rfl⟩ ⟨Nat.le_of_ble_eq_true rfl, Nat.le_of_ble_eq_true rfl⟩ rfl rfl rfl rfl rfl ?_
  refine sw_ws [(_, .inr (4, [.int _, .int _, .int _, .ref _, .ref _, .ref _, .int _, .int _, .int _, .ref _, .ref _])), (_, .inl (_, _, .inl _)), (_, .inr (2, [.int _, .ref _])), (_, .inl (_, _, .inl _)), (_, .inr (0, [.int _, .ref _])), (_, .inl (_, _, .inl _)), (_, .inl (_, _, .inl _)), (_, .inl (_, _, .inl _))] rfl ?_
  refine sw_aload_n 93 0 C dX4_putIn_93 rfl rfl ?_
  refine sw_get 94 0 4 C dX4_putIn_94 rfl rfl (inA lwX4) (C.w wF_X4_25) rfl rfl rfl ?_
  refine sw_iload 97 C dX4_putIn_97 rfl ?_
  refine sw_bipush 99 C dX4_putIn_99 6 (by decide) ?_
  refine sw_iload 101 C dX4_putIn_101 rfl ?_
  refine sw_callVV 103 [2, 3] 3 C dX4_putIn_103 (ct_X2_set l n 6 rfl rfl (by omega) (by decide) (by omega)) wK_X2_set wM_X4_82 wN_X2_set wS_X2_X2_set wI_X2 hd_X2_set rfl rfl rfl ⟨rfl, rfl⟩ ⟨Nat.le_of_ble_eq_true rfl, Nat.le_of_ble_eq_true rfl⟩ rfl rfl rfl rfl rfl ?_
  refine sw_ws [(_, .inr (4, [.int _, .int _, .int _, .ref _, .ref _, .ref _, .int _, .int _, .int _, .ref _, .ref _])), (_, .inl (_, _, .inl _)), (_, .inr (2, [.int _, .ref _])), (_, .inl (_, _, .inl _)), (_, .inr (0, [.int _, .ref _])), (_, .inl (_, _, .inl _)), (_, .inl (_, _, .inl _)), (_, .inl (_, _, .inl _))] rfl ?_
  refine sw_iload 106 C dX4_putIn_106 rfl ?_
  refine sw_iret 108 C RC dX4_putIn_108 ?_
  exact ⟨rfl, rfl⟩
def gbk (f : Nat → Int32) (g : Int32) (i w : Nat) : Int32 := if w = 0 then (if f (i * 8 + 3) ≤ g then 0 else f (i * 8 + 6) / 2) else if w = 1 then f (i * 8 + 6) else f (i * 8 + 6) - f (i * 8 + 6) / 4
theorem way_ne {w k : Nat} (hw : w < 3) (hk : k < 3) (h : ¬ w = k) : ¬ nI w = nI k := fun e => h (nI_inj (by omega) (by omega) e)
set_option maxHeartbeats 4000000 in
set_option maxRecDepth 100000 in
theorem ct_X4_bribeGivenBack (l : Launch) {D : va_G} {cI cJ cQ : ClassId} {a0 a1 a2 a3 a4 a5 a6 a7 : Nat} {q g sv t ps ck : Int32} {n lc : Nat} {pat f lg lv bk : Nat → Int32} {x1 x2 : Int32} (i w : Nat) (h1 : x1 = nI i) (h2 : x2 = nI w) (hi : i < n) (hw : w < 3) (hn : n ≤ 40) : Ct l yX4_bribeGivenBack (Cond.code yX4_bribeGivenBack cX4_bribeGivenBack 4 (some .int)) 1 23 0 0 D (tyz cI cJ cQ) [.ref a0, .int x1, .int x2] [(a0, .inr (4, [.int (q), .int (g), .int (sv), .ref a1, .ref a2, .ref a4, .int (t), .int (ps), .int (ck), .ref a6, .ref a7])), (a1, .inl (cI, 4, .inl (pat))), (a2, .inr (2, [.int (nI (n)), .ref a3])), (a3, .inl (cI, 320, .inl (f))), (a4, .inr (0, [.int (nI (lc)), .ref a5])), (a5, .inl (cI, 80, .inl (lg))), (a6, .inl (cI, 3, .inl (lv))), (a7, .inl (cI, 8, .inl (bk)))] (pstI (gbk f g i w) [(a0, .inr (4, [.int (q), .int (g), .int (sv), .ref a1, .ref a2, .ref a4, .int (t), .int (ps), .int (ck), .ref a6, .ref a7])), (a1, .inl (cI, 4, .inl (pat))), (a2, .inr (2, [.int (nI (n)), .ref a3])), (a3, .inl (cI, 320, .inl (f))), (a4, .inr (0, [.int (nI (lc)), .ref a5])), (a5, .inl (cI, 80, .inl (lg))), (a6, .inl (cI, 3, .inl (lv))), (a7, .inl (cI, 8, .inl (bk)))]) := by
  refine Ct.of RX4 (by decide) rfl (Nat.le_of_ble_eq_true rfl) ?_
  intro p e s m below meth c A C RC
  subst h1 h2
  refine sw_aload_n 0 0 C dX4_bribeGivenBack_0 rfl rfl ?_
  refine sw_get 1 0 4 C dX4_bribeGivenBack_1 rfl rfl (inA lwX4) (C.w wF_X4_25) rfl rfl rfl ?_
  refine sw_iload_n 4 1 C dX4_bribeGivenBack_4 rfl rfl ?_
  refine sw_bipush 5 C dX4_bribeGivenBack_5 6 (by decide) ?_
  refine sw_callVIP 7 [2, 3] 2 C dX4_bribeGivenBack_7 (ct_X2_at l (i) 6 rfl rfl (by omega) (by decide) (by omega)) wK_X2_at wM_X4_95 wN_X2_at wS_X2_X2_at wI_X2 hd_X2_at rfl rfl rfl ⟨rfl, rfl⟩ ⟨Nat.le_of_ble_eq_true rfl, Nat.le_of_ble_eq_true rfl⟩ rfl rfl rfl rfl ?_
  refine sw_istore_n 10 3 C dX4_bribeGivenBack_10 rfl rfl ?_
  refine sw_iload_n 11 2 C dX4_bribeGivenBack_11 rfl rfl ?_
  by_cases e_12_0 : w = 0
  · refine sw_lkp 12 40 (off := 28) C dX4_bribeGivenBack_12 (by decide) (by rw [e_12_0]; decide) (by decide) ?_
    refine sw_aload_n 40 0 C dX4_bribeGivenBack_40 rfl rfl ?_
    refine sw_get 41 0 4 C dX4_bribeGivenBack_41 rfl rfl (inA lwX4) (C.w wF_X4_25) rfl rfl rfl ?_
    refine sw_iload_n 44 1 C dX4_bribeGivenBack_44 rfl rfl ?_
    refine sw_iconst 45 C dX4_bribeGivenBack_45 3 (by decide) ?_
    refine sw_callVIP 46 [2, 3] 2 C dX4_bribeGivenBack_46 (ct_X2_at l (i) 3 rfl rfl (by omega) (by decide) (by omega)) wK_X2_at wM_X4_95 wN_X2_at wS_X2_X2_at wI_X2 hd_X2_at rfl rfl rfl ⟨rfl, rfl⟩ ⟨Nat.le_of_ble_eq_true rfl, Nat.le_of_ble_eq_true rfl⟩ rfl rfl rfl rfl ?_
    refine sw_aload_n 49 0 C dX4_bribeGivenBack_49 rfl rfl ?_
    refine sw_get 50 0 1 C dX4_bribeGivenBack_50 rfl rfl (inA lwX4) (C.w wF_X4_15) rfl rfl rfl ?_
    refine sw_icmp_gt 53 60 C dX4_bribeGivenBack_53 (by decide) (fun c_53 => ?_) (fun c_53 => ?_)
    · refine sw_iload_n 60 3 C dX4_bribeGivenBack_60 rfl rfl ?_
      refine sw_iconst 61 C dX4_bribeGivenBack_61 2 (by decide) ?_
      refine sw_idiv 62 C dX4_bribeGivenBack_62 (by decide) ?_
      refine sw_iret 63 C RC dX4_bribeGivenBack_63 ?_
      exact ⟨by simp [gbk, e_12_0, Int32.not_le.mpr c_53], rfl⟩
    · refine sw_iconst 56 C dX4_bribeGivenBack_56 0 (by decide) ?_
      refine sw_goto 57 63 C dX4_bribeGivenBack_57 (by decide) ?_
      refine sw_iret 63 C RC dX4_bribeGivenBack_63 ?_
      exact ⟨by simp [gbk, e_12_0, Int32.not_lt.mp c_53], rfl⟩
  by_cases e_12_1 : w = 1
  · refine sw_lkp 12 64 (off := 52) C dX4_bribeGivenBack_12 (by decide) (by rw [e_12_1]; decide) (by decide) ?_
    refine sw_iload_n 64 3 C dX4_bribeGivenBack_64 rfl rfl ?_
    refine sw_iret 65 C RC dX4_bribeGivenBack_65 ?_
    exact ⟨by simp [gbk, e_12_0, e_12_1], rfl⟩
  refine sw_lkp 12 66 (off := 54) C dX4_bribeGivenBack_12 (by decide) (lkp_out (by rw [nI_toInt (by omega)]; simp; omega)) (by decide) ?_
  refine sw_iload_n 66 3 C dX4_bribeGivenBack_66 rfl rfl ?_
  refine sw_iload_n 67 3 C dX4_bribeGivenBack_67 rfl rfl ?_
  refine sw_iconst 68 C dX4_bribeGivenBack_68 4 (by decide) ?_
  refine sw_idiv 69 C dX4_bribeGivenBack_69 (by decide) ?_
  refine sw_isub 70 C dX4_bribeGivenBack_70 ?_
  refine sw_iret 71 C RC dX4_bribeGivenBack_71 ?_
  exact ⟨by simp [gbk, e_12_0, e_12_1], rfl⟩
