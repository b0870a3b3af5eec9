/-! numbers, counts -/
def ct (p : Nat → Bool) : Nat → Nat
  | 0 => 0
  | n + 1 => ct p n + (if p n then 1 else 0)
theorem ct_le (p : Nat → Bool) : ∀ n, ct p n ≤ n
  | 0 => Nat.le_refl _
  | n + 1 => by
    have h := ct_le p n
    unfold ct
    split <;> omega
theorem ct_t {p : Nat → Bool} {i : Nat} (h : p i = true) : nI (ct p i) + 1 = nI (ct p (i + 1)) := by
  rw [nI_1, ct, if_pos h]
theorem ct_f {p : Nat → Bool} {i : Nat} (h : p i = false) : nI (ct p i) = nI (ct p (i + 1)) := by
  rw [ct, h]
  rfl
theorem ct_cong {p q : Nat → Bool} : ∀ {n : Nat}, (∀ k, k < n → p k = q k) → ct p n = ct q n
  | 0, _ => rfl
  | n + 1, h => by
    rw [ct, ct, ct_cong (fun k hk => h k (by omega)), h n (by omega)]
theorem nI_inj {a b : Nat} (ha : a < 2 ^ 31) (hb : b < 2 ^ 31) (h : nI a = nI b) : a = b := (nI_eq ha hb).mp h
theorem nI_ge' {a b : Nat} (ha : a < 2 ^ 31) (h : nI b ≤ nI a) (hb : b < 2 ^ 31) : b ≤ a := (nI_leI hb ha).mp h
theorem i32_ne_m1 {a : Nat} (h : a < 2 ^ 31) : ¬ nI a = -1 := fun e => by
  have h1 := nI_toInt h
  rw [e] at h1
  have h2 : (-1 : Int32).toInt = -1 := by decide
  omega
/-! Petitions: count n, cells f (8 a row) -/
abbrev wPet (a0 a1 : Nat) (cI : ClassId) (n : Nat) (f : Nat → Int32) : va_W := [(a0, .inr (2, [.int (nI n), .ref a1])), (a1, .inl (cI, 320, .inl f))]

theorem hd_X2_at : yX2_at.cls = RX2 ∧ yX2_at.cls ≠ "java/lang/invoke/MethodHandle" ∧ yX2_at.cls ≠ "java/lang/invoke/VarHandle" ∧ (parseMethodDescriptor yX2_at.desc).map (fun d => d.parameters.length) = some 2 := by decide +kernel
theorem hd_X2_set : yX2_set.cls = RX2 ∧ yX2_set.cls ≠ "java/lang/invoke/MethodHandle" ∧ yX2_set.cls ≠ "java/lang/invoke/VarHandle" ∧ (parseMethodDescriptor yX2_set.desc).map (fun d => d.parameters.length) = some 3 := by decide +kernel
theorem hd_X2_addRow : yX2_addRow.cls = RX2 ∧ yX2_addRow.cls ≠ "java/lang/invoke/MethodHandle" ∧ yX2_addRow.cls ≠ "java/lang/invoke/VarHandle" ∧ (parseMethodDescriptor yX2_addRow.desc).map (fun d => d.parameters.length) = some 0 := by decide +kernel
theorem hd_X2_removeRow : yX2_removeRow.cls = RX2 ∧ yX2_removeRow.cls ≠ "java/lang/invoke/MethodHandle" ∧ yX2_removeRow.cls ≠ "java/lang/invoke/VarHandle" ∧ (parseMethodDescriptor yX2_removeRow.desc).map (fun d => d.parameters.length) = some 1 := by decide +kernel
theorem hd_X2_rowOf : yX2_rowOf.cls = RX2 ∧ yX2_rowOf.cls ≠ "java/lang/invoke/MethodHandle" ∧ yX2_rowOf.cls ≠ "java/lang/invoke/VarHandle" ∧ (parseMethodDescriptor yX2_rowOf.desc).map (fun d => d.parameters.length) = some 1 := by decide +kernel
theorem hd_X2_kindOf : yX2_kindOf.cls = RX2 ∧ yX2_kindOf.cls ≠ "java/lang/invoke/MethodHandle" ∧ yX2_kindOf.cls ≠ "java/lang/invoke/VarHandle" ∧ (parseMethodDescriptor yX2_kindOf.desc).map (fun d => d.parameters.length) = some 1 := by decide +kernel
theorem hd_X2_isBefore : yX2_isBefore.cls = RX2 ∧ yX2_isBefore.cls ≠ "java/lang/invoke/MethodHandle" ∧ yX2_isBefore.cls ≠ "java/lang/invoke/VarHandle" ∧ (parseMethodDescriptor yX2_isBefore.desc).map (fun d => d.parameters.length) = some 2 := by decide +kernel
theorem hd_X2_countBefore : yX2_countBefore.cls = RX2 ∧ yX2_countBefore.cls ≠ "java/lang/invoke/MethodHandle" ∧ yX2_countBefore.cls ≠ "java/lang/invoke/VarHandle" ∧ (parseMethodDescriptor yX2_countBefore.desc).map (fun d => d.parameters.length) = some 1 := by decide +kernel
theorem hd_X2_firstRow : yX2_firstRow.cls = RX2 ∧ yX2_firstRow.cls ≠ "java/lang/invoke/MethodHandle" ∧ yX2_firstRow.cls ≠ "java/lang/invoke/VarHandle" ∧ (parseMethodDescriptor yX2_firstRow.desc).map (fun d => d.parameters.length) = some 0 := by decide +kernel
theorem hd_X2_tell : yX2_tell.cls = RX2 ∧ yX2_tell.cls ≠ "java/lang/invoke/MethodHandle" ∧ yX2_tell.cls ≠ "java/lang/invoke/VarHandle" ∧ (parseMethodDescriptor yX2_tell.desc).map (fun d => d.parameters.length) = some 2 := by decide +kernel
theorem hd_X2_arrange : yX2_arrange.cls = RX2 ∧ yX2_arrange.cls ≠ "java/lang/invoke/MethodHandle" ∧ yX2_arrange.cls ≠ "java/lang/invoke/VarHandle" ∧ (parseMethodDescriptor yX2_arrange.desc).map (fun d => d.parameters.length) = some 1 := by decide +kernel
theorem hd_X2_countOfSender : yX2_countOfSender.cls = RX2 ∧ yX2_countOfSender.cls ≠ "java/lang/invoke/MethodHandle" ∧ yX2_countOfSender.cls ≠ "java/lang/invoke/VarHandle" ∧ (parseMethodDescriptor yX2_countOfSender.desc).map (fun d => d.parameters.length) = some 1 := by decide +kernel
theorem hd_X2_countOfRank : yX2_countOfRank.cls = RX2 ∧ yX2_countOfRank.cls ≠ "java/lang/invoke/MethodHandle" ∧ yX2_countOfRank.cls ≠ "java/lang/invoke/VarHandle" ∧ (parseMethodDescriptor yX2_countOfRank.desc).map (fun d => d.parameters.length) = some 1 := by decide +kernel
theorem hd_X2_loudestRank : yX2_loudestRank.cls = RX2 ∧ yX2_loudestRank.cls ≠ "java/lang/invoke/MethodHandle" ∧ yX2_loudestRank.cls ≠ "java/lang/invoke/VarHandle" ∧ (parseMethodDescriptor yX2_loudestRank.desc).map (fun d => d.parameters.length) = some 0 := by decide +kernel
theorem hd_X2_sumOfBribes : yX2_sumOfBribes.cls = RX2 ∧ yX2_sumOfBribes.cls ≠ "java/lang/invoke/MethodHandle" ∧ yX2_sumOfBribes.cls ≠ "java/lang/invoke/VarHandle" ∧ (parseMethodDescriptor yX2_sumOfBribes.desc).map (fun d => d.parameters.length) = some 0 := by decide +kernel
theorem hd_X2_copyFrom : yX2_copyFrom.cls = RX2 ∧ yX2_copyFrom.cls ≠ "java/lang/invoke/MethodHandle" ∧ yX2_copyFrom.cls ≠ "java/lang/invoke/VarHandle" ∧ (parseMethodDescriptor yX2_copyFrom.desc).map (fun d => d.parameters.length) = some 1 := by decide +kernel
set_option maxHeartbeats 4000000 in
set_option maxRecDepth 100000 in
theorem ct_X2_at (l : Launch) {D : va_G} {cI cJ cQ : ClassId} {a0 a1 n : Nat} {f : Nat → Int32} {x1 x2 : Int32} (i k : Nat) (h1 : x1 = nI i) (h2 : x2 = nI k) (hi : i < n) (hk : k < 8) (hn : n ≤ 40) : Ct l yX2_at (Cond.code yX2_at cX2_at 3 (some .int)) 0 0 0 0 D (tyz cI cJ cQ) [.ref a0, .int x1, .int x2] (wPet a0 a1 cI n f) (pstI (f (i * 8 + k)) (wPet a0 a1 cI n f)) := by
  refine Ct.of RX2 (by decide) rfl (Nat.le_of_ble_eq_true rfl) ?_
  intro p e s m below meth c A C RC
  subst h1 h2
  refine sw_iload_n 0 1 C dX2_at_0 rfl rfl ?_
  refine sw_if_lt 1 22 C dX2_at_1 (by decide) (fun c_1 => ?_) (fun c_1 => ?_)
  · exact by first | exact absurd c_1 (nI_pos (by omega)) | exact absurd (nI_pos (by omega)) c_1
  refine sw_iload_n 4 1 C dX2_at_4 rfl rfl ?_
  refine sw_aload_n 5 0 C dX2_at_5 rfl rfl ?_
  refine sw_get 6 0 0 C dX2_at_6 (inA lwX2) (C.w wF_X2_15) rfl (by decide) rfl rfl rfl ?_
  refine sw_icmp_ge 9 22 C dX2_at_9 (by decide) (fun c_9 => ?_) (fun c_9 => ?_)
  · exact by first | exact absurd c_9 (nI_ge hi (by omega)) | exact absurd (nI_ge hi (by omega)) c_9
  refine sw_iload_n 12 2 C dX2_at_12 rfl rfl ?_
  refine sw_if_lt 13 22 C dX2_at_13 (by decide) (fun c_13 => ?_) (fun c_13 => ?_)
  · exact by first | exact absurd c_13 (nI_pos (by omega)) | exact absurd (nI_pos (by omega)) c_13
  refine sw_iload_n 16 2 C dX2_at_16 rfl rfl ?_
  refine sw_bipush 17 C dX2_at_17 8 (by decide) ?_
  refine sw_icmp_lt 19 24 C dX2_at_19 (by decide) (fun c_19 => ?_) (fun c_19 => ?_)
  rotate_left
  · exact by first | exact absurd c_19 (nI_lt hk (by decide)) | exact absurd (nI_lt hk (by decide)) c_19
  refine sw_aload_n 24 0 C dX2_at_24 rfl rfl ?_
  refine sw_get 25 0 1 C dX2_at_25 (inA lwX2) (C.w wF_X2_9) rfl (by decide) rfl rfl rfl ?_
  refine sw_iload_n 28 1 C dX2_at_28 rfl rfl ?_
  refine sw_bipush 29 C dX2_at_29 8 (by decide) ?_
  refine sw_imul 31 C dX2_at_31 ?_
  refine sw_iload_n 32 2 C dX2_at_32 rfl rfl ?_
  refine sw_iadd 33 C dX2_at_33 ?_
  refine sw_ialdN 34 1 0 (i * 8 + k) C dX2_at_34 (by rw [show (8 : Int32) = nI 8 from rfl, pk_mul, nI_add]) (by omega) rfl rfl rfl ?_
  refine sw_iret 35 C RC dX2_at_35 ?_
  exact ⟨rfl, rfl⟩
set_option maxHeartbeats 4000000 in
set_option maxRecDepth 100000 in
theorem ct_X2_set (l : Launch) {D : va_G} {cI cJ cQ : ClassId} {a0 a1 n : Nat} {f : Nat → Int32} {x1 x2 x3 : Int32} (i k : Nat) (h1 : x1 = nI i) (h2 : x2 = nI k) (hi : i < n) (hk : k < 8) (hn : n ≤ 40) : Ct l yX2_set (Cond.code yX2_set cX2_set 4 none) 0 0 0 0 D (tyz cI cJ cQ) [.ref a0, .int x1, .int x2, .int x3] (wPet a0 a1 cI n f) (pstV (wPet a0 a1 cI n (upd f (i * 8 + k) x3))) := by
  refine Ct.of RX2 (by decide) rfl (Nat.le_of_ble_eq_true rfl) ?_
  intro p e s m below meth c A C RC
  subst h1 h2
  refine sw_iload_n 0 1 C dX2_set_0 rfl rfl ?_
  refine sw_if_lt 1 34 C dX2_set_1 (by decide) (fun c_1 => ?_) (fun c_1 => ?_)
  · exact by first | exact absurd c_1 (nI_pos (by omega)) | exact absurd (nI_pos (by omega)) c_1
  refine sw_iload_n 4 1 C dX2_set_4 rfl rfl ?_
  refine sw_aload_n 5 0 C dX2_set_5 rfl rfl ?_
  refine sw_get 6 0 0 C dX2_set_6 (inA lwX2) (C.w wF_X2_15) rfl (by decide) rfl rfl rfl ?_
  refine sw_icmp_ge 9 34 C dX2_set_9 (by decide) (fun c_9 => ?_) (fun c_9 => ?_)
  · exact by first | exact absurd c_9 (nI_ge hi (by omega)) | exact absurd (nI_ge hi (by omega)) c_9
  refine sw_iload_n 12 2 C dX2_set_12 rfl rfl ?_
  refine sw_if_lt 13 34 C dX2_set_13 (by decide) (fun c_13 => ?_) (fun c_13 => ?_)
  · exact by first | exact absurd c_13 (nI_pos (by omega)) | exact absurd (nI_pos (by omega)) c_13
  refine sw_iload_n 16 2 C dX2_set_16 rfl rfl ?_
  refine sw_bipush 17 C dX2_set_17 8 (by decide) ?_
  refine sw_icmp_ge 19 34 C dX2_set_19 (by decide) (fun c_19 => ?_) (fun c_19 => ?_)
  · exact by first | exact absurd c_19 (nI_ge hk (by decide)) | exact absurd (nI_ge hk (by decide)) c_19
  refine sw_aload_n 22 0 C dX2_set_22 rfl rfl ?_
  refine sw_get 23 0 1 C dX2_set_23 (inA lwX2) (C.w wF_X2_9) rfl (by decide) rfl rfl rfl ?_
  refine sw_iload_n 26 1 C dX2_set_26 rfl rfl ?_
  refine sw_bipush 27 C dX2_set_27 8 (by decide) ?_
  refine sw_imul 29 C dX2_set_29 ?_
  refine sw_iload_n 30 2 C dX2_set_30 rfl rfl ?_
  refine sw_iadd 31 C dX2_set_31 ?_
  refine sw_iload_n 32 3 C dX2_set_32 rfl rfl ?_
  refine sw_iastN 33 1 0 (i * 8 + k) C dX2_set_33 (by rw [show (8 : Int32) = nI 8 from rfl, pk_mul, nI_add]) (by omega) rfl rfl rfl ?_
  refine sw_vret 34 C RC dX2_set_34 ?_
  exact ⟨rfl, rfl⟩
