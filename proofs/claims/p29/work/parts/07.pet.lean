/-! numbers, counts -/
def ct (p : Nat → Bool) : Nat → Nat
  | 0 => 0
  | n + 1 => ct p n + (if p n then 1 else 0)
theorem ct_le (p : Nat → Bool) : ∀ n, ct p n ≤ n
  | 0 => Nat.le_refl _
  | n + 1 => by
    have h := ct_le p n
    unfold ct
    split <;> omega
theorem ct_t {p : Nat → Bool} {i : Nat} (h : p i = true) : nI (ct p i) + 1 = nI (ct p (i + 1)) := by
  rw [nI_1, ct, if_pos h]
theorem ct_f {p : Nat → Bool} {i : Nat} (h : p i = false) : nI (ct p i) = nI (ct p (i + 1)) := by
  rw [ct, h]
  rfl
theorem ct_cong {p q : Nat → Bool} : ∀ {n : Nat}, (∀ k, k < n → p k = q k) → ct p n = ct q n
  | 0, _ => rfl
  | n + 1, h => by
    rw [ct, ct, ct_cong (fun k hk => h k (by omega)), h n (by omega)]
theorem nI_inj {a b : Nat} (ha : a < 2 ^ 31) (hb : b < 2 ^ 31) (h : nI a = nI b) : a = b := (nI_eq ha hb).mp h
theorem nI_ge' {a b : Nat} (ha : a < 2 ^ 31) (h : nI b ≤ nI a) (hb : b < 2 ^ 31) : b ≤ a := (nI_leI hb ha).mp h
theorem i32_ne_m1 {a : Nat} (h : a < 2 ^ 31) : ¬ nI a = -1 := fun e => by
  have h1 := nI_toInt h
  rw [e] at h1
  have h2 : (-1 : Int32).toInt = -1 := by decide
  omega
theorem i32_ne {x y : Int32} (h : ¬ x = y) : x.toInt ≠ y.toInt := fun e => h (Int32.toInt_inj.mp e)
theorem lkp_out {d k : Int} : ∀ {ps : List (Int × Int)}, (∀ q ∈ ps, q.1 ≠ k) → Op.lookupswitch.offset ps d k = d
  | [], _ => rfl
  | (a, o) :: r, h => by
    rw [Op.lookupswitch.offset_cons, if_neg (h (a, o) List.mem_cons_self)]
    exact lkp_out (fun q hq => h q (List.mem_cons_of_mem _ hq))
/-! Petitions: count n, cells f (8 a row) -/
abbrev wPet (a0 a1 : Nat) (cI : ClassId) (n : Nat) (f : Nat → Int32) : va_W := [(a0, .inr (2, [.int (nI n), .ref a1])), (a1, .inl (cI, 320, .inl f))]

theorem hd_X2_at : yX2_at.cls = RX2 ∧ yX2_at.cls ≠ "java/lang/invoke/MethodHandle" ∧ yX2_at.cls ≠ "java/lang/invoke/VarHandle" ∧ (parseMethodDescriptor yX2_at.desc).map (fun d => d.parameters.length) = some 2 := by decide +kernel
theorem hd_X2_set : yX2_set.cls = RX2 ∧ yX2_set.cls ≠ "java/lang/invoke/MethodHandle" ∧ yX2_set.cls ≠ "java/lang/invoke/VarHandle" ∧ (parseMethodDescriptor yX2_set.desc).map (fun d => d.parameters.length) = some 3 := by decide +kernel
theorem hd_X2_addRow : yX2_addRow.cls = RX2 ∧ yX2_addRow.cls ≠ "java/lang/invoke/MethodHandle" ∧ yX2_addRow.cls ≠ "java/lang/invoke/VarHandle" ∧ (parseMethodDescriptor yX2_addRow.desc).map (fun d => d.parameters.length) = some 0 := by decide +kernel
theorem hd_X2_removeRow : yX2_removeRow.cls = RX2 ∧ yX2_removeRow.cls ≠ "java/lang/invoke/MethodHandle" ∧ yX2_removeRow.cls ≠ "java/lang/invoke/VarHandle" ∧ (parseMethodDescriptor yX2_removeRow.desc).map (fun d => d.parameters.length) = some 1 := by decide +kernel
theorem hd_X2_rowOf : yX2_rowOf.cls = RX2 ∧ yX2_rowOf.cls ≠ "java/lang/invoke/MethodHandle" ∧ yX2_rowOf.cls ≠ "java/lang/invoke/VarHandle" ∧ (parseMethodDescriptor yX2_rowOf.desc).map (fun d => d.parameters.length) = some 1 := by decide +kernel
theorem hd_X2_kindOf : yX2_kindOf.cls = RX2 ∧ yX2_kindOf.cls ≠ "java/lang/invoke/MethodHandle" ∧ yX2_kindOf.cls ≠ "java/lang/invoke/VarHandle" ∧ (parseMethodDescriptor yX2_kindOf.desc).map (fun d => d.parameters.length) = some 1 := by decide +kernel
theorem hd_X2_isBefore : yX2_isBefore.cls = RX2 ∧ yX2_isBefore.cls ≠ "java/lang/invoke/MethodHandle" ∧ yX2_isBefore.cls ≠ "java/lang/invoke/VarHandle" ∧ (parseMethodDescriptor yX2_isBefore.desc).map (fun d => d.parameters.length) = some 2 := by decide +kernel
theorem hd_X2_countBefore : yX2_countBefore.cls = RX2 ∧ yX2_countBefore.cls ≠ "java/lang/invoke/MethodHandle" ∧ yX2_countBefore.cls ≠ "java/lang/invoke/VarHandle" ∧ (parseMethodDescriptor yX2_countBefore.desc).map (fun d => d.parameters.length) = some 1 := by decide +kernel
theorem hd_X2_firstRow : yX2_firstRow.cls = RX2 ∧ yX2_firstRow.cls ≠ "java/lang/invoke/MethodHandle" ∧ yX2_firstRow.cls ≠ "java/lang/invoke/VarHandle" ∧ (parseMethodDescriptor yX2_firstRow.desc).map (fun d => d.parameters.length) = some 0 := by decide +kernel
theorem hd_X2_tell : yX2_tell.cls = RX2 ∧ yX2_tell.cls ≠ "java/lang/invoke/MethodHandle" ∧ yX2_tell.cls ≠ "java/lang/invoke/VarHandle" ∧ (parseMethodDescriptor yX2_tell.desc).map (fun d => d.parameters.length) = some 2 := by decide +kernel
theorem hd_X2_arrange : yX2_arrange.cls = RX2 ∧ yX2_arrange.cls ≠ "java/lang/invoke/MethodHandle" ∧ yX2_arrange.cls ≠ "java/lang/invoke/VarHandle" ∧ (parseMethodDescriptor yX2_arrange.desc).map (fun d => d.parameters.length) = some 1 := by decide +kernel
theorem hd_X2_countOfSender : yX2_countOfSender.cls = RX2 ∧ yX2_countOfSender.cls ≠ "java/lang/invoke/MethodHandle" ∧ yX2_countOfSender.cls ≠ "java/lang/invoke/VarHandle" ∧ (parseMethodDescriptor yX2_countOfSender.desc).map (fun d => d.parameters.length) = some 1 := by decide +kernel
theorem hd_X2_countOfRank : yX2_countOfRank.cls = RX2 ∧ yX2_countOfRank.cls ≠ "java/lang/invoke/MethodHandle" ∧ yX2_countOfRank.cls ≠ "java/lang/invoke/VarHandle" ∧ (parseMethodDescriptor yX2_countOfRank.desc).map (fun d => d.parameters.length) = some 1 := by decide +kernel
theorem hd_X2_loudestRank : yX2_loudestRank.cls = RX2 ∧ yX2_loudestRank.cls ≠ "java/lang/invoke/MethodHandle" ∧ yX2_loudestRank.cls ≠ "java/lang/invoke/VarHandle" ∧ (parseMethodDescriptor yX2_loudestRank.desc).map (fun d => d.parameters.length) = some 0 := by decide +kernel
theorem hd_X2_sumOfBribes : yX2_sumOfBribes.cls = RX2 ∧ yX2_sumOfBribes.cls ≠ "java/lang/invoke/MethodHandle" ∧ yX2_sumOfBribes.cls ≠ "java/lang/invoke/VarHandle" ∧ (parseMethodDescriptor yX2_sumOfBribes.desc).map (fun d => d.parameters.length) = some 0 := by decide +kernel
theorem hd_X2_copyFrom : yX2_copyFrom.cls = RX2 ∧ yX2_copyFrom.cls ≠ "java/lang/invoke/MethodHandle" ∧ yX2_copyFrom.cls ≠ "java/lang/invoke/VarHandle" ∧ (parseMethodDescriptor yX2_copyFrom.desc).map (fun d => d.parameters.length) = some 1 := by decide +kernel
set_option maxHeartbeats 4000000 in
set_option maxRecDepth 100000 in
theorem ct_X2_at (l : Launch) {D : va_G} {cI cJ cQ : ClassId} {a0 a1 n : Nat} {f : Nat → Int32} {x1 x2 : Int32} (i k : Nat) (h1 : x1 = nI i) (h2 : x2 = nI k) (hi : i < n) (hk : k < 8) (hn : n ≤ 40) : Ct l yX2_at (Cond.code yX2_at cX2_at 4 (some .int)) 0 0 0 0 D (tyz cI cJ cQ) [.ref a0, .int x1, .int x2] (wPet a0 a1 cI n f) (pstI (f (i * 8 + k)) (wPet a0 a1 cI n f)) := by
  refine Ct.of RX2 (by decide) rfl (Nat.le_of_ble_eq_true rfl) ?_
  intro p e s m below meth c A C RC
  subst h1 h2
  refine sw_iload_n 0 1 C dX2_at_0 rfl rfl ?_
  refine sw_if_lt 1 22 C dX2_at_1 (by decide) (fun c_1 => ?_) (fun c_1 => ?_)
  · exact by first | exact absurd c_1 (nI_pos (by omega)) | exact absurd (nI_pos (by omega)) c_1
  refine sw_iload_n 4 1 C dX2_at_4 rfl rfl ?_
  refine sw_aload_n 5 0 C dX2_at_5 rfl rfl ?_
  refine sw_get 6 0 0 C dX2_at_6 rfl rfl (inA lwX2) (C.w wF_X2_15) rfl rfl rfl ?_
  refine sw_icmp_ge 9 22 C dX2_at_9 (by decide) (fun c_9 => ?_) (fun c_9 => ?_)
  · exact by first | exact absurd c_9 (nI_ge hi (by omega)) | exact absurd (nI_ge hi (by omega)) c_9
  refine sw_iload_n 12 2 C dX2_at_12 rfl rfl ?_
  refine sw_if_lt 13 22 C dX2_at_13 (by decide) (fun c_13 => ?_) (fun c_13 => ?_)
  · exact by first | exact absurd c_13 (nI_pos (by omega)) | exact absurd (nI_pos (by omega)) c_13
  refine sw_iload_n 16 2 C dX2_at_16 rfl rfl ?_
  refine sw_bipush 17 C dX2_at_17 8 (by decide) ?_
  refine sw_icmp_lt 19 24 C dX2_at_19 (by decide) (fun c_19 => ?_) (fun c_19 => ?_)
  rotate_left
  · exact by first | exact absurd c_19 (nI_lt hk (by decide)) | exact absurd (nI_lt hk (by decide)) c_19
  refine sw_iload_n 24 1 C dX2_at_24 rfl rfl ?_
  refine sw_bipush 25 C dX2_at_25 8 (by decide) ?_
  refine sw_imul 27 C dX2_at_27 ?_
  refine sw_iload_n 28 2 C dX2_at_28 rfl rfl ?_
  refine sw_iadd 29 C dX2_at_29 ?_
  refine sw_top (show nI i * 8 + nI k = nI (i * 8 + k) by rw [show (8 : Int32) = nI 8 from rfl, pk_mul, nI_add]) ?_
  refine sw_istore_n 30 3 C dX2_at_30 rfl rfl ?_
  refine sw_iload_n 31 3 C dX2_at_31 rfl rfl ?_
  refine sw_if_lt 32 53 C dX2_at_32 (by decide) (fun c_32 => ?_) (fun c_32 => ?_)
  · exact by first | exact absurd c_32 (nI_pos (by omega)) | exact absurd (nI_pos (by omega)) c_32
  refine sw_iload_n 35 3 C dX2_at_35 rfl rfl ?_
  refine sw_aload_n 36 0 C dX2_at_36 rfl rfl ?_
  refine sw_get 37 0 1 C dX2_at_37 rfl rfl (inA lwX2) (C.w wF_X2_9) rfl rfl rfl ?_
  refine sw_alen 40 1 0 C 320 dX2_at_40 rfl rfl rfl ?_
  refine sw_icmp_ge 41 53 C dX2_at_41 (by decide) (fun c_41 => ?_) (fun c_41 => ?_)
  · exact by first | exact absurd c_41 (nI_ge (show i * 8 + k < 320 by omega) (by decide)) | exact absurd (nI_ge (show i * 8 + k < 320 by omega) (by decide)) c_41
  refine sw_aload_n 44 0 C dX2_at_44 rfl rfl ?_
  refine sw_get 45 0 1 C dX2_at_45 rfl rfl (inA lwX2) (C.w wF_X2_9) rfl rfl rfl ?_
  refine sw_iload_n 48 3 C dX2_at_48 rfl rfl ?_
  refine sw_ialdN 49 1 0 (i * 8 + k) C dX2_at_49 rfl (by omega) rfl rfl rfl ?_
  refine sw_goto 50 54 C dX2_at_50 (by decide) ?_
  refine sw_iret 54 C RC dX2_at_54 ?_
  exact ⟨rfl, rfl⟩
set_option maxHeartbeats 4000000 in
set_option maxRecDepth 100000 in
theorem ct_X2_set (l : Launch) {D : va_G} {cI cJ cQ : ClassId} {a0 a1 n : Nat} {f : Nat → Int32} {x1 x2 x3 : Int32} (i k : Nat) (h1 : x1 = nI i) (h2 : x2 = nI k) (hi : i < n) (hk : k < 8) (hn : n ≤ 40) : Ct l yX2_set (Cond.code yX2_set cX2_set 5 none) 0 0 0 0 D (tyz cI cJ cQ) [.ref a0, .int x1, .int x2, .int x3] (wPet a0 a1 cI n f) (pstV (wPet a0 a1 cI n (upd f (i * 8 + k) x3))) := by
  refine Ct.of RX2 (by decide) rfl (Nat.le_of_ble_eq_true rfl) ?_
  intro p e s m below meth c A C RC
  subst h1 h2
  refine sw_iload_n 0 1 C dX2_set_0 rfl rfl ?_
  refine sw_if_lt 1 22 C dX2_set_1 (by decide) (fun c_1 => ?_) (fun c_1 => ?_)
  · exact by first | exact absurd c_1 (nI_pos (by omega)) | exact absurd (nI_pos (by omega)) c_1
  refine sw_iload_n 4 1 C dX2_set_4 rfl rfl ?_
  refine sw_aload_n 5 0 C dX2_set_5 rfl rfl ?_
  refine sw_get 6 0 0 C dX2_set_6 rfl rfl (inA lwX2) (C.w wF_X2_15) rfl rfl rfl ?_
  refine sw_icmp_ge 9 22 C dX2_set_9 (by decide) (fun c_9 => ?_) (fun c_9 => ?_)
  · exact by first | exact absurd c_9 (nI_ge hi (by omega)) | exact absurd (nI_ge hi (by omega)) c_9
  refine sw_iload_n 12 2 C dX2_set_12 rfl rfl ?_
  refine sw_if_lt 13 22 C dX2_set_13 (by decide) (fun c_13 => ?_) (fun c_13 => ?_)
  · exact by first | exact absurd c_13 (nI_pos (by omega)) | exact absurd (nI_pos (by omega)) c_13
  refine sw_iload_n 16 2 C dX2_set_16 rfl rfl ?_
  refine sw_bipush 17 C dX2_set_17 8 (by decide) ?_
  refine sw_icmp_lt 19 23 C dX2_set_19 (by decide) (fun c_19 => ?_) (fun c_19 => ?_)
  rotate_left
  · exact by first | exact absurd c_19 (nI_lt hk (by decide)) | exact absurd (nI_lt hk (by decide)) c_19
  refine sw_iload_n 23 1 C dX2_set_23 rfl rfl ?_
  refine sw_bipush 24 C dX2_set_24 8 (by decide) ?_
  refine sw_imul 26 C dX2_set_26 ?_
  refine sw_iload_n 27 2 C dX2_set_27 rfl rfl ?_
  refine sw_iadd 28 C dX2_set_28 ?_
  refine sw_top (show nI i * 8 + nI k = nI (i * 8 + k) by rw [show (8 : Int32) = nI 8 from rfl, pk_mul, nI_add]) ?_
  refine sw_istore 29 C dX2_set_29 rfl ?_
  refine sw_iload 31 C dX2_set_31 rfl ?_
  refine sw_if_lt 33 54 C dX2_set_33 (by decide) (fun c_33 => ?_) (fun c_33 => ?_)
  · exact by first | exact absurd c_33 (nI_pos (by omega)) | exact absurd (nI_pos (by omega)) c_33
  refine sw_iload 36 C dX2_set_36 rfl ?_
  refine sw_aload_n 38 0 C dX2_set_38 rfl rfl ?_
  refine sw_get 39 0 1 C dX2_set_39 rfl rfl (inA lwX2) (C.w wF_X2_9) rfl rfl rfl ?_
  refine sw_alen 42 1 0 C 320 dX2_set_42 rfl rfl rfl ?_
  refine sw_icmp_ge 43 54 C dX2_set_43 (by decide) (fun c_43 => ?_) (fun c_43 => ?_)
  · exact by first | exact absurd c_43 (nI_ge (show i * 8 + k < 320 by omega) (by decide)) | exact absurd (nI_ge (show i * 8 + k < 320 by omega) (by decide)) c_43
  refine sw_aload_n 46 0 C dX2_set_46 rfl rfl ?_
  refine sw_get 47 0 1 C dX2_set_47 rfl rfl (inA lwX2) (C.w wF_X2_9) rfl rfl rfl ?_
  refine sw_iload 50 C dX2_set_50 rfl ?_
  refine sw_iload_n 52 3 C dX2_set_52 rfl rfl ?_
  refine sw_iastN 53 1 0 (i * 8 + k) C dX2_set_53 rfl (by omega) rfl rfl rfl ?_
  refine sw_ws [(_, .inr (2, [.int _, .ref _])), (_, .inl (_, _, .inl _))] rfl ?_
  refine sw_vret 54 C RC dX2_set_54 ?_
  exact ⟨rfl, rfl⟩
/-! what the Petitions' methods say -/
def bI (b : Bool) : Int32 := if b = true then 1 else 0
theorem bI_f {b : Bool} (h : bI b = 0) : b = false := by
  cases b
  · rfl
  · exact absurd h (by decide)
theorem bI_t {b : Bool} (h : ¬ bI b = 0) : b = true := by
  cases b
  · exact absurd rfl h
  · rfl
theorem bI_nar (b : Bool) : narrow .boolean (.int (bI b)) = .int (bI b) := by cases b <;> rfl
def oI : Option Nat → Int32
  | none => -1
  | some j => nI j
def bfr (f : Nat → Int32) (i j : Nat) : Bool :=
  if f (i * 8 + 2) = f (j * 8 + 2) then (if f (i * 8 + 3) = f (j * 8 + 3) then decide (f (i * 8 + 7) < f (j * 8 + 7)) else decide (f (j * 8 + 3) < f (i * 8 + 3))) else decide (f (j * 8 + 2) < f (i * 8 + 2))
theorem bfr_self (f : Nat → Int32) (i : Nat) : bfr f i i = false := by
  unfold bfr
  rw [if_pos rfl, if_pos rfl]
  exact decide_eq_false (fun h => Int32.lt_irrefl h)
def cbf (f : Nat → Int32) (n i : Nat) : Nat := ct (fun o => bfr f o i) n
theorem ct_lt {p : Nat → Bool} {i : Nat} (h : p i = false) : ∀ {n : Nat}, i < n → ct p n < n
  | 0, hn => absurd hn (Nat.not_lt_zero _)
  | n + 1, hn => by
    unfold ct
    by_cases e : i = n
    · subst e
      rw [h]
      have := ct_le p i
      simp
      omega
    · have := ct_lt h (n := n) (by omega)
      split <;> omega
theorem cbf_lt {f : Nat → Int32} {n i : Nat} (h : i < n) : cbf f n i < n := ct_lt (p := fun o => bfr f o i) (bfr_self f i) h
def frs (f : Nat → Int32) : Nat → Option Nat
  | 0 => none
  | i + 1 => match frs f i with
    | none => some i
    | some j => if bfr f i j = true then some i else some j
theorem frs_lt (f : Nat → Int32) : ∀ (i j : Nat), frs f i = some j → j < i
  | 0, j, h => by cases h
  | i + 1, j, h => by
    unfold frs at h
    cases hq : frs f i with
    | none => rw [hq] at h; cases h; omega
    | some k =>
      rw [hq] at h
      have := frs_lt f i k hq
      dsimp only at h
      split at h <;> cases h <;> omega
def knd (f : Nat → Int32) (i : Nat) : Int32 := if f (i * 8 + 1) = -1 then (if 0 < f (i * 8 + 6) then 1 else 0) else 2
def tel (f : Nat → Int32) (n i w : Nat) : Int32 := if w = 7 then f (i * 8 + 5) - f (i * 8 + 3) else if w = 8 then nI (cbf f n i) else if w = 9 then knd f i else f (i * 8 + w)
def arrg (f : Nat → Int32) (n : Nat) (g : Nat → Int32) : Nat → Nat → Int32
  | 0 => g
  | i + 1 => upd (arrg f n g i) (cbf f n i) (nI i)
def isOf (f : Nat → Int32) (x : Int32) (i : Nat) : Bool := decide (f (i * 8 + 0) = x ∨ f (i * 8 + 1) = x)
def isRk (f : Nat → Int32) (x : Int32) (i : Nat) : Bool := decide (f (i * 8 + 2) = x)
def ldr (f : Nat → Int32) : Nat → Int32
  | 0 => -1
  | i + 1 => if ldr f i < f (i * 8 + 2) then f (i * 8 + 2) else ldr f i
def smb (f : Nat → Int32) : Nat → Int32
  | 0 => 0
  | i + 1 => smb f i + f (i * 8 + 6)
def fnd (f : Nat → Int32) (x : Int32) : Nat → Option Nat
  | 0 => none
  | i + 1 => match fnd f x i with
    | some j => some j
    | none => if f (i * 8 + 7) = x then some i else none
theorem fnd_up {f : Nat → Int32} {x : Int32} {i j : Nat} (h : fnd f x i = some j) : ∀ d, fnd f x (i + d) = some j
  | 0 => h
  | d + 1 => by
    show fnd f x (i + d + 1) = _
    unfold fnd
    rw [fnd_up h d]
theorem fnd_lt {f : Nat → Int32} {x : Int32} : ∀ (i j : Nat), fnd f x i = some j → j < i
  | 0, j, h => by cases h
  | i + 1, j, h => by
    unfold fnd at h
    cases hq : fnd f x i with
    | none =>
      rw [hq] at h
      dsimp only at h
      split at h
      · cases h; omega
      · cases h
    | some k =>
      rw [hq] at h
      cases h
      have := fnd_lt i _ hq
      omega
def zrr (f : Nat → Int32) (n c : Nat) : Nat → Int32 := fun k => if n * 8 ≤ k ∧ k < n * 8 + c then 0 else f k
theorem zrr_0 (f : Nat → Int32) (n : Nat) : zrr f n 0 = f := by
  funext k
  unfold zrr
  rw [if_neg (by omega)]
theorem zrr_s (f : Nat → Int32) (n c : Nat) : upd (zrr f n c) (n * 8 + c) 0 = zrr f n (c + 1) := by
  funext k
  unfold upd zrr
  by_cases h : k = n * 8 + c
  · rw [if_pos h, if_pos (by omega)]
  · rw [if_neg h]
    by_cases h2 : n * 8 ≤ k ∧ k < n * 8 + c
    · rw [if_pos h2, if_pos (by omega)]
    · rw [if_neg h2, if_neg (by omega)]
def rmv (f : Nat → Int32) (n i : Nat) : Nat → Int32 := va_cpy f f ((i + 1) * 8) (i * 8) (n * 8 - (i + 1) * 8)

set_option maxHeartbeats 4000000 in
set_option maxRecDepth 100000 in
theorem ct_X2_isBefore (l : Launch) {D : va_G} {cI cJ cQ : ClassId} {a0 a1 n : Nat} {f : Nat → Int32} {x1 x2 : Int32} (i j : Nat) (h1 : x1 = nI i) (h2 : x2 = nI j) (hi : i < n) (hj : j < n) (hn : n ≤ 40) : Ct l yX2_isBefore (Cond.code yX2_isBefore cX2_isBefore 7 (some .boolean)) 1 23 0 0 D (tyz cI cJ cQ) [.ref a0, .int x1, .int x2] (wPet a0 a1 cI n f) (pstI (bI (bfr f i j)) (wPet a0 a1 cI n f)) := by
  refine Ct.of RX2 (by decide) rfl (Nat.le_of_ble_eq_true rfl) ?_
  intro p e s m below meth c A C RC
  subst h1 h2
  refine sw_aload_n 0 0 C dX2_isBefore_0 rfl rfl ?_
  refine sw_iload_n 1 1 C dX2_isBefore_1 rfl rfl ?_
  refine sw_iconst 2 C dX2_isBefore_2 2 (by decide) ?_
  refine sw_callVIP 3 [0, 1] 2 C dX2_isBefore_3 (ct_X2_at l (i) 2 rfl rfl (by omega) (by decide) (by omega)) wK_X2_at wM_X2_29 wN_X2_at wS_X2_X2_at wI_X2 hd_X2_at rfl rfl rfl ⟨rfl, rfl⟩ ⟨Nat.le_of_ble_eq_true rfl, Nat.le_of_ble_eq_true rfl⟩ rfl rfl rfl rfl ?_
  refine sw_istore_n 6 3 C dX2_isBefore_6 rfl rfl ?_
  refine sw_aload_n 7 0 C dX2_isBefore_7 rfl rfl ?_
  refine sw_iload_n 8 2 C dX2_isBefore_8 rfl rfl ?_
  refine sw_iconst 9 C dX2_isBefore_9 2 (by decide) ?_
  refine sw_callVIP 10 [0, 1] 2 C dX2_isBefore_10 (ct_X2_at l (j) 2 rfl rfl (by omega) (by decide) (by omega)) wK_X2_at wM_X2_29 wN_X2_at wS_X2_X2_at wI_X2 hd_X2_at rfl rfl rfl ⟨rfl, rfl⟩ ⟨Nat.le_of_ble_eq_true rfl, Nat.le_of_ble_eq_true rfl⟩ rfl rfl rfl rfl ?_
  refine sw_istore 13 C dX2_isBefore_13 rfl ?_
  refine sw_loc (L1 := [(0, .ref _), (1, .int _), (2, .int _), (3, .int _), (4, .int _)]) ?_ rfl
  refine sw_iload_n 15 3 C dX2_isBefore_15 rfl rfl ?_
  refine sw_iload 16 C dX2_isBefore_16 rfl ?_
  refine sw_icmp_eq 18 33 C dX2_isBefore_18 (by decide) (fun c_18 => ?_) (fun c_18 => ?_)
  · refine sw_aload_n 33 0 C dX2_isBefore_33 rfl rfl ?_
    refine sw_iload_n 34 1 C dX2_isBefore_34 rfl rfl ?_
    refine sw_iconst 35 C dX2_isBefore_35 3 (by decide) ?_
    refine sw_callVIP 36 [0, 1] 2 C dX2_isBefore_36 (ct_X2_at l (i) 3 rfl rfl (by omega) (by decide) (by omega)) wK_X2_at wM_X2_29 wN_X2_at wS_X2_X2_at wI_X2 hd_X2_at rfl rfl rfl ⟨rfl, rfl⟩ ⟨Nat.le_of_ble_eq_true rfl, Nat.le_of_ble_eq_true rfl⟩ rfl rfl rfl rfl ?_
    refine sw_istore 39 C dX2_isBefore_39 rfl ?_
    refine sw_aload_n 41 0 C dX2_isBefore_41 rfl rfl ?_
    refine sw_iload_n 42 2 C dX2_isBefore_42 rfl rfl ?_
    refine sw_iconst 43 C dX2_isBefore_43 3 (by decide) ?_
    refine sw_callVIP 44 [0, 1] 2 C dX2_isBefore_44 (ct_X2_at l (j) 3 rfl rfl (by omega) (by decide) (by omega)) wK_X2_at wM_X2_29 wN_X2_at wS_X2_X2_at wI_X2 hd_X2_at rfl rfl rfl ⟨rfl, rfl⟩ ⟨Nat.le_of_ble_eq_true rfl, Nat.le_of_ble_eq_true rfl⟩ rfl rfl rfl rfl ?_
    refine sw_istore 47 C dX2_isBefore_47 rfl ?_
    refine sw_loc (L1 := [(0, .ref _), (1, .int _), (2, .int _), (3, .int _), (4, .int _), (5, .int _), (6, .int _)]) ?_ rfl
    refine sw_iload 49 C dX2_isBefore_49 rfl ?_
    refine sw_iload 51 C dX2_isBefore_51 rfl ?_
    refine sw_icmp_eq 53 69 C dX2_isBefore_53 (by decide) (fun c_53 => ?_) (fun c_53 => ?_)
    · refine sw_aload_n 69 0 C dX2_isBefore_69 rfl rfl ?_
      refine sw_iload_n 70 1 C dX2_isBefore_70 rfl rfl ?_
      refine sw_bipush 71 C dX2_isBefore_71 7 (by decide) ?_
      refine sw_callVIP 73 [0, 1] 2 C dX2_isBefore_73 (ct_X2_at l (i) 7 rfl rfl (by omega) (by decide) (by omega)) wK_X2_at wM_X2_29 wN_X2_at wS_X2_X2_at wI_X2 hd_X2_at rfl rfl rfl ⟨rfl, rfl⟩ ⟨Nat.le_of_ble_eq_true rfl, Nat.le_of_ble_eq_true rfl⟩ rfl rfl rfl rfl ?_
      refine sw_aload_n 76 0 C dX2_isBefore_76 rfl rfl ?_
      refine sw_iload_n 77 2 C dX2_isBefore_77 rfl rfl ?_
      refine sw_bipush 78 C dX2_isBefore_78 7 (by decide) ?_
      refine sw_callVIP 80 [0, 1] 2 C dX2_isBefore_80 (ct_X2_at l (j) 7 rfl rfl (by omega) (by decide) (by omega)) wK_X2_at wM_X2_29 wN_X2_at wS_X2_X2_at wI_X2 hd_X2_at rfl rfl rfl ⟨rfl, rfl⟩ ⟨Nat.le_of_ble_eq_true rfl, Nat.le_of_ble_eq_true rfl⟩ rfl rfl rfl rfl ?_
      refine sw_icmp_ge 83 90 C dX2_isBefore_83 (by decide) (fun c_83 => ?_) (fun c_83 => ?_)
      · refine sw_iconst 90 C dX2_isBefore_90 0 (by decide) ?_
        refine sw_zret 91 C RC rfl dX2_isBefore_91 ?_
        exact ⟨by simp [bfr, bI, c_18, c_53, c_83], rfl⟩
      · refine sw_iconst 86 C dX2_isBefore_86 1 (by decide) ?_
        refine sw_goto 87 91 C dX2_isBefore_87 (by decide) ?_
        refine sw_zret 91 C RC rfl dX2_isBefore_91 ?_
        exact ⟨by simp [bfr, bI, c_18, c_53, c_83], rfl⟩
    · refine sw_iload 56 C dX2_isBefore_56 rfl ?_
      refine sw_iload 58 C dX2_isBefore_58 rfl ?_
      refine sw_icmp_le 60 67 C dX2_isBefore_60 (by decide) (fun c_60 => ?_) (fun c_60 => ?_)
      · refine sw_iconst 67 C dX2_isBefore_67 0 (by decide) ?_
        refine sw_zret 68 C RC rfl dX2_isBefore_68 ?_
        exact ⟨by simp [bfr, bI, c_18, c_53, c_60], rfl⟩
      · refine sw_iconst 63 C dX2_isBefore_63 1 (by decide) ?_
        refine sw_goto 64 68 C dX2_isBefore_64 (by decide) ?_
        refine sw_zret 68 C RC rfl dX2_isBefore_68 ?_
        exact ⟨by simp [bfr, bI, c_18, c_53, c_60], rfl⟩
  · refine sw_iload_n 21 3 C dX2_isBefore_21 rfl rfl ?_
    refine sw_iload 22 C dX2_isBefore_22 rfl ?_
    refine sw_icmp_le 24 31 C dX2_isBefore_24 (by decide) (fun c_24 => ?_) (fun c_24 => ?_)
    · refine sw_iconst 31 C dX2_isBefore_31 0 (by decide) ?_
      refine sw_zret 32 C RC rfl dX2_isBefore_32 ?_
      exact ⟨by simp [bfr, bI, c_18, c_24], rfl⟩
    · refine sw_iconst 27 C dX2_isBefore_27 1 (by decide) ?_
      refine sw_goto 28 32 C dX2_isBefore_28 (by decide) ?_
      refine sw_zret 32 C RC rfl dX2_isBefore_32 ?_
      exact ⟨by simp [bfr, bI, c_18, c_24], rfl⟩
set_option maxHeartbeats 4000000 in
set_option maxRecDepth 100000 in
theorem ct_X2_kindOf (l : Launch) {D : va_G} {cI cJ cQ : ClassId} {a0 a1 n : Nat} {f : Nat → Int32} {x1 : Int32} (i : Nat) (h1 : x1 = nI i) (hi : i < n) (hn : n ≤ 40) : Ct l yX2_kindOf (Cond.code yX2_kindOf cX2_kindOf 2 (some .int)) 1 23 0 0 D (tyz cI cJ cQ) [.ref a0, .int x1] (wPet a0 a1 cI n f) (pstI (knd f i) (wPet a0 a1 cI n f)) := by
  refine Ct.of RX2 (by decide) rfl (Nat.le_of_ble_eq_true rfl) ?_
  intro p e s m below meth c A C RC
  subst h1
  refine sw_aload_n 0 0 C dX2_kindOf_0 rfl rfl ?_
  refine sw_iload_n 1 1 C dX2_kindOf_1 rfl rfl ?_
  refine sw_iconst 2 C dX2_kindOf_2 1 (by decide) ?_
  refine sw_callVIP 3 [0, 1] 2 C dX2_kindOf_3 (ct_X2_at l (i) 1 rfl rfl (by omega) (by decide) (by omega)) wK_X2_at wM_X2_29 wN_X2_at wS_X2_X2_at wI_X2 hd_X2_at rfl rfl rfl ⟨rfl, rfl⟩ ⟨Nat.le_of_ble_eq_true rfl, Nat.le_of_ble_eq_true rfl⟩ rfl rfl rfl rfl ?_
  refine sw_iconst 6 C dX2_kindOf_6 (-1) (by decide) ?_
  refine sw_icmp_eq 7 12 C dX2_kindOf_7 (by decide) (fun c_7 => ?_) (fun c_7 => ?_)
  · refine sw_aload_n 12 0 C dX2_kindOf_12 rfl rfl ?_
    refine sw_iload_n 13 1 C dX2_kindOf_13 rfl rfl ?_
    refine sw_bipush 14 C dX2_kindOf_14 6 (by decide) ?_
    refine sw_callVIP 16 [0, 1] 2 C dX2_kindOf_16 (ct_X2_at l (i) 6 rfl rfl (by omega) (by decide) (by omega)) wK_X2_at wM_X2_29 wN_X2_at wS_X2_X2_at wI_X2 hd_X2_at rfl rfl rfl ⟨rfl, rfl⟩ ⟨Nat.le_of_ble_eq_true rfl, Nat.le_of_ble_eq_true rfl⟩ rfl rfl rfl rfl ?_
    refine sw_if_le 19 26 C dX2_kindOf_19 (by decide) (fun c_19 => ?_) (fun c_19 => ?_)
    · refine sw_iconst 26 C dX2_kindOf_26 0 (by decide) ?_
      refine sw_iret 27 C RC dX2_kindOf_27 ?_
      exact ⟨by simp [knd, c_7, c_19], rfl⟩
    · refine sw_iconst 22 C dX2_kindOf_22 1 (by decide) ?_
      refine sw_goto 23 27 C dX2_kindOf_23 (by decide) ?_
      refine sw_iret 27 C RC dX2_kindOf_27 ?_
      exact ⟨by simp [knd, c_7, c_19], rfl⟩
  · refine sw_iconst 10 C dX2_kindOf_10 2 (by decide) ?_
    refine sw_iret 11 C RC dX2_kindOf_11 ?_
    exact ⟨by simp [knd, c_7], rfl⟩
set_option maxHeartbeats 4000000 in
set_option maxRecDepth 100000 in
theorem lp_X2_countBefore {l : Launch} {p : Program} {e : Env} {s : State} {m : MethodId} {args : Array Value} {below : List Frame} {meth : Method} {c : Code} {A : Nat → Prop} {D : va_G} {cI cJ cQ : ClassId} {a0 a1 n : Nat} {f : Nat → Int32} (j : Nat) (hj : j < n) (hn : n ≤ 40) (C : CC p s m args c cX2_countBefore 4 RX2 (Cond.code yX2_countBefore cX2_countBefore 4 (some .int) :: lw_all) D (tyz cI cJ cQ) A s.heap) (RC : meth.sig.returnType = (some .int) ∧ meth.locks = false ∧ meth.name = yX2_countBefore.name) : ∀ (fu i : Nat), i ≤ n → n + 1 ≤ i + fu →  ∀ (xa : Int32) (xi : Int32), (xa = nI (ct (fun o => bfr f o j) i)) → (xi = nI i) →  sw p l e ({ frames := 2, cells := 0, slots := 0, locals := 49 } : Room) s m args below meth c D A s.heap 4 0 0 (MQ below (ctQ D (tyz cI cJ cQ) A (pstI (nI (cbf f n j)) (wPet a0 a1 cI n f))) args s 0 0 A) (wPet a0 a1 cI n f) 4 [(0, .ref a0), (1, .int (nI j)), (2, .int xa), (3, .int xi)] [] := by
  intro fu
  induction fu with
  | zero => intro i h1 h2; exact absurd h2 (by omega)
  | succ fu ih =>
    intro i hi hf  xa xi exa exi
    subst exa exi
    refine sw_iload_n 4 3 C dX2_countBefore_4 rfl rfl ?_
    refine sw_aload_n 5 0 C dX2_countBefore_5 rfl rfl ?_
    refine sw_get 6 0 0 C dX2_countBefore_6 rfl rfl (inA lwX2) (C.w wF_X2_15) rfl rfl rfl ?_
    refine sw_icmp_ge 9 30 C dX2_countBefore_9 (by decide) (fun c_9 => ?_) (fun c_9 => ?_)
    · refine sw_iload_n 30 2 C dX2_countBefore_30 rfl rfl ?_
      refine sw_iret 31 C RC dX2_countBefore_31 ?_
      exact ⟨by rw [show i = n by have := nI_ge' (by omega) c_9 (by omega); omega]; rfl, rfl⟩
    · have hlt : i < n := by
        rcases Nat.lt_or_ge i n with q | q
        · exact q
        · exact absurd (nI_le q (by omega)) c_9
      refine sw_aload_n 12 0 C dX2_countBefore_12 rfl rfl ?_
      refine sw_iload_n 13 3 C dX2_countBefore_13 rfl rfl ?_
      refine sw_iload_n 14 1 C dX2_countBefore_14 rfl rfl ?_
      refine sw_callVIP 15 [0, 1] 2 C dX2_countBefore_15 (ct_X2_isBefore l i j rfl rfl (by omega) hj hn) wK_X2_isBefore wM_X2_40 wN_X2_isBefore wS_X2_X2_isBefore wI_X2 hd_X2_isBefore rfl rfl rfl ⟨rfl, rfl⟩ ⟨Nat.le_of_ble_eq_true rfl, Nat.le_of_ble_eq_true rfl⟩ rfl rfl rfl rfl ?_
      refine sw_if_eq 18 24 C dX2_countBefore_18 (by decide) (fun c_18 => ?_) (fun c_18 => ?_)
      · refine sw_iinc 24 C 1 dX2_countBefore_24 (by decide) rfl rfl ?_
        refine sw_goto 27 4 C dX2_countBefore_27 (by decide) ?_
        exact sw_loc (ih (i + 1) (by omega) (by omega) _ _ (ct_f (bI_f c_18)) (nI_1 i)) rfl
      · refine sw_iinc 21 C 1 dX2_countBefore_21 (by decide) rfl rfl ?_
        refine sw_iinc 24 C 1 dX2_countBefore_24 (by decide) rfl rfl ?_
        refine sw_loc (L1 := [(0, .ref _), (1, .int _), (2, .int _), (3, .int _)]) ?_ rfl
        refine sw_goto 27 4 C dX2_countBefore_27 (by decide) ?_
        exact sw_loc (ih (i + 1) (by omega) (by omega) _ _ (ct_t (bI_t c_18)) (nI_1 i)) rfl
set_option maxHeartbeats 4000000 in
set_option maxRecDepth 100000 in
theorem ct_X2_countBefore (l : Launch) {D : va_G} {cI cJ cQ : ClassId} {a0 a1 n : Nat} {f : Nat → Int32} {x1 : Int32} (j : Nat) (h1 : x1 = nI j) (hj : j < n) (hn : n ≤ 40) : Ct l yX2_countBefore (Cond.code yX2_countBefore cX2_countBefore 4 (some .int)) 2 49 0 0 D (tyz cI cJ cQ) [.ref a0, .int x1] (wPet a0 a1 cI n f) (pstI (nI (cbf f n j)) (wPet a0 a1 cI n f)) := by
  refine Ct.of RX2 (by decide) rfl (Nat.le_of_ble_eq_true rfl) ?_
  intro p e s m below meth c A C RC
  subst h1
  refine sw_iconst 0 C dX2_countBefore_0 0 (by decide) ?_
  refine sw_istore_n 1 2 C dX2_countBefore_1 rfl rfl ?_
  refine sw_iconst 2 C dX2_countBefore_2 0 (by decide) ?_
  refine sw_istore_n 3 3 C dX2_countBefore_3 rfl rfl ?_
  exact lp_X2_countBefore j hj hn C RC (n + 1) 0 (Nat.zero_le _) (by omega) _ _ rfl rfl
set_option maxHeartbeats 4000000 in
set_option maxRecDepth 100000 in
theorem lp_X2_countOfSender {l : Launch} {p : Program} {e : Env} {s : State} {m : MethodId} {args : Array Value} {below : List Frame} {meth : Method} {c : Code} {A : Nat → Prop} {D : va_G} {cI cJ cQ : ClassId} {a0 a1 n : Nat} {f : Nat → Int32} {x : Int32} (hn : n ≤ 40) (C : CC p s m args c cX2_countOfSender 4 RX2 (Cond.code yX2_countOfSender cX2_countOfSender 4 (some .int) :: lw_all) D (tyz cI cJ cQ) A s.heap) (RC : meth.sig.returnType = (some .int) ∧ meth.locks = false ∧ meth.name = yX2_countOfSender.name) : ∀ (fu i : Nat), i ≤ n → n + 1 ≤ i + fu →  ∀ (xa : Int32) (xi : Int32), (xa = nI (ct (isOf f x) i)) → (xi = nI i) →  sw p l e ({ frames := 1, cells := 0, slots := 0, locals := 23 } : Room) s m args below meth c D A s.heap 4 0 0 (MQ below (ctQ D (tyz cI cJ cQ) A (pstI (nI (ct (isOf f x) n)) (wPet a0 a1 cI n f))) args s 0 0 A) (wPet a0 a1 cI n f) 4 [(0, .ref a0), (1, .int x), (2, .int xa), (3, .int xi)] [] := by
  intro fu
  induction fu with
  | zero => intro i h1 h2; exact absurd h2 (by omega)
  | succ fu ih =>
    intro i hi hf  xa xi exa exi
    subst exa exi
    refine sw_iload_n 4 3 C dX2_countOfSender_4 rfl rfl ?_
    refine sw_aload_n 5 0 C dX2_countOfSender_5 rfl rfl ?_
    refine sw_get 6 0 0 C dX2_countOfSender_6 rfl rfl (inA lwX2) (C.w wF_X2_15) rfl rfl rfl ?_
    refine sw_icmp_ge 9 41 C dX2_countOfSender_9 (by decide) (fun c_9 => ?_) (fun c_9 => ?_)
    · refine sw_iload_n 41 2 C dX2_countOfSender_41 rfl rfl ?_
      refine sw_iret 42 C RC dX2_countOfSender_42 ?_
      exact ⟨by rw [show i = n by have := nI_ge' (by omega) c_9 (by omega); omega], rfl⟩
    · have hlt : i < n := by
        rcases Nat.lt_or_ge i n with q | q
        · exact q
        · exact absurd (nI_le q (by omega)) c_9
      refine sw_aload_n 12 0 C dX2_countOfSender_12 rfl rfl ?_
      refine sw_iload_n 13 3 C dX2_countOfSender_13 rfl rfl ?_
      refine sw_iconst 14 C dX2_countOfSender_14 0 (by decide) ?_
      refine sw_callVIP 15 [0, 1] 2 C dX2_countOfSender_15 (ct_X2_at l (i) 0 rfl rfl (by omega) (by decide) (by omega)) wK_X2_at wM_X2_29 wN_X2_at wS_X2_X2_at wI_X2 hd_X2_at rfl rfl rfl ⟨rfl, rfl⟩ ⟨Nat.le_of_ble_eq_true rfl, Nat.le_of_ble_eq_true rfl⟩ rfl rfl rfl rfl ?_
      refine sw_iload_n 18 1 C dX2_countOfSender_18 rfl rfl ?_
      refine sw_icmp_eq 19 32 C dX2_countOfSender_19 (by decide) (fun c_19 => ?_) (fun c_19 => ?_)
      · refine sw_iinc 32 C 1 dX2_countOfSender_32 (by decide) rfl rfl ?_
        refine sw_iinc 35 C 1 dX2_countOfSender_35 (by decide) rfl rfl ?_
        refine sw_loc (L1 := [(0, .ref _), (1, .int _), (2, .int _), (3, .int _)]) ?_ rfl
        refine sw_goto 38 4 C dX2_countOfSender_38 (by decide) ?_
        exact sw_loc (ih (i + 1) (by omega) (by omega) _ _ (ct_t (by simp [isOf] at c_19 ⊢; simp [c_19])) (nI_1 i)) rfl
      · refine sw_aload_n 22 0 C dX2_countOfSender_22 rfl rfl ?_
        refine sw_iload_n 23 3 C dX2_countOfSender_23 rfl rfl ?_
        refine sw_iconst 24 C dX2_countOfSender_24 1 (by decide) ?_
        refine sw_callVIP 25 [0, 1] 2 C dX2_countOfSender_25 (ct_X2_at l (i) 1 rfl rfl (by omega) (by decide) (by omega)) wK_X2_at wM_X2_29 wN_X2_at wS_X2_X2_at wI_X2 hd_X2_at rfl rfl rfl ⟨rfl, rfl⟩ ⟨Nat.le_of_ble_eq_true rfl, Nat.le_of_ble_eq_true rfl⟩ rfl rfl rfl rfl ?_
        refine sw_iload_n 28 1 C dX2_countOfSender_28 rfl rfl ?_
        refine sw_icmp_ne 29 35 C dX2_countOfSender_29 (by decide) (fun c_29 => ?_) (fun c_29 => ?_)
        · refine sw_iinc 35 C 1 dX2_countOfSender_35 (by decide) rfl rfl ?_
          refine sw_goto 38 4 C dX2_countOfSender_38 (by decide) ?_
          exact sw_loc (ih (i + 1) (by omega) (by omega) _ _ (ct_f (by simp [isOf] at c_19 c_29 ⊢; simp [c_19, c_29])) (nI_1 i)) rfl
        · refine sw_iinc 32 C 1 dX2_countOfSender_32 (by decide) rfl rfl ?_
          refine sw_iinc 35 C 1 dX2_countOfSender_35 (by decide) rfl rfl ?_
          refine sw_loc (L1 := [(0, .ref _), (1, .int _), (2, .int _), (3, .int _)]) ?_ rfl
          refine sw_goto 38 4 C dX2_countOfSender_38 (by decide) ?_
          exact sw_loc (ih (i + 1) (by omega) (by omega) _ _ (ct_t (by simp [isOf] at c_19 c_29 ⊢; simp [c_29])) (nI_1 i)) rfl
set_option maxHeartbeats 4000000 in
set_option maxRecDepth 100000 in
theorem lp_X2_countOfRank {l : Launch} {p : Program} {e : Env} {s : State} {m : MethodId} {args : Array Value} {below : List Frame} {meth : Method} {c : Code} {A : Nat → Prop} {D : va_G} {cI cJ cQ : ClassId} {a0 a1 n : Nat} {f : Nat → Int32} {x : Int32} (hn : n ≤ 40) (C : CC p s m args c cX2_countOfRank 4 RX2 (Cond.code yX2_countOfRank cX2_countOfRank 4 (some .int) :: lw_all) D (tyz cI cJ cQ) A s.heap) (RC : meth.sig.returnType = (some .int) ∧ meth.locks = false ∧ meth.name = yX2_countOfRank.name) : ∀ (fu i : Nat), i ≤ n → n + 1 ≤ i + fu →  ∀ (xa : Int32) (xi : Int32), (xa = nI (ct (isRk f x) i)) → (xi = nI i) →  sw p l e ({ frames := 1, cells := 0, slots := 0, locals := 23 } : Room) s m args below meth c D A s.heap 4 0 0 (MQ below (ctQ D (tyz cI cJ cQ) A (pstI (nI (ct (isRk f x) n)) (wPet a0 a1 cI n f))) args s 0 0 A) (wPet a0 a1 cI n f) 4 [(0, .ref a0), (1, .int x), (2, .int xa), (3, .int xi)] [] := by
  intro fu
  induction fu with
  | zero => intro i h1 h2; exact absurd h2 (by omega)
  | succ fu ih =>
    intro i hi hf  xa xi exa exi
    subst exa exi
    refine sw_iload_n 4 3 C dX2_countOfRank_4 rfl rfl ?_
    refine sw_aload_n 5 0 C dX2_countOfRank_5 rfl rfl ?_
    refine sw_get 6 0 0 C dX2_countOfRank_6 rfl rfl (inA lwX2) (C.w wF_X2_15) rfl rfl rfl ?_
    refine sw_icmp_ge 9 31 C dX2_countOfRank_9 (by decide) (fun c_9 => ?_) (fun c_9 => ?_)
    · refine sw_iload_n 31 2 C dX2_countOfRank_31 rfl rfl ?_
      refine sw_iret 32 C RC dX2_countOfRank_32 ?_
      exact ⟨by rw [show i = n by have := nI_ge' (by omega) c_9 (by omega); omega], rfl⟩
    · have hlt : i < n := by
        rcases Nat.lt_or_ge i n with q | q
        · exact q
        · exact absurd (nI_le q (by omega)) c_9
      refine sw_aload_n 12 0 C dX2_countOfRank_12 rfl rfl ?_
      refine sw_iload_n 13 3 C dX2_countOfRank_13 rfl rfl ?_
      refine sw_iconst 14 C dX2_countOfRank_14 2 (by decide) ?_
      refine sw_callVIP 15 [0, 1] 2 C dX2_countOfRank_15 (ct_X2_at l (i) 2 rfl rfl (by omega) (by decide) (by omega)) wK_X2_at wM_X2_29 wN_X2_at wS_X2_X2_at wI_X2 hd_X2_at rfl rfl rfl ⟨rfl, rfl⟩ ⟨Nat.le_of_ble_eq_true rfl, Nat.le_of_ble_eq_true rfl⟩ rfl rfl rfl rfl ?_
      refine sw_iload_n 18 1 C dX2_countOfRank_18 rfl rfl ?_
      refine sw_icmp_ne 19 25 C dX2_countOfRank_19 (by decide) (fun c_19 => ?_) (fun c_19 => ?_)
      · refine sw_iinc 25 C 1 dX2_countOfRank_25 (by decide) rfl rfl ?_
        refine sw_goto 28 4 C dX2_countOfRank_28 (by decide) ?_
        exact sw_loc (ih (i + 1) (by omega) (by omega) _ _ (ct_f (by simp [isRk, c_19])) (nI_1 i)) rfl
      · refine sw_iinc 22 C 1 dX2_countOfRank_22 (by decide) rfl rfl ?_
        refine sw_iinc 25 C 1 dX2_countOfRank_25 (by decide) rfl rfl ?_
        refine sw_loc (L1 := [(0, .ref _), (1, .int _), (2, .int _), (3, .int _)]) ?_ rfl
        refine sw_goto 28 4 C dX2_countOfRank_28 (by decide) ?_
        exact sw_loc (ih (i + 1) (by omega) (by omega) _ _ (ct_t (by simp [isRk, c_19])) (nI_1 i)) rfl
set_option maxHeartbeats 4000000 in
set_option maxRecDepth 100000 in
theorem ct_X2_countOfSender (l : Launch) {D : va_G} {cI cJ cQ : ClassId} {a0 a1 n : Nat} {f : Nat → Int32} {x : Int32} (hn : n ≤ 40) : Ct l yX2_countOfSender (Cond.code yX2_countOfSender cX2_countOfSender 4 (some .int)) 1 23 0 0 D (tyz cI cJ cQ) [.ref a0, .int x] (wPet a0 a1 cI n f) (pstI (nI (ct (isOf f x) n)) (wPet a0 a1 cI n f)) := by
  refine Ct.of RX2 (by decide) rfl (Nat.le_of_ble_eq_true rfl) ?_
  intro p e s m below meth c A C RC
  refine sw_iconst 0 C dX2_countOfSender_0 0 (by decide) ?_
  refine sw_istore_n 1 2 C dX2_countOfSender_1 rfl rfl ?_
  refine sw_iconst 2 C dX2_countOfSender_2 0 (by decide) ?_
  refine sw_istore_n 3 3 C dX2_countOfSender_3 rfl rfl ?_
  exact lp_X2_countOfSender hn C RC (n + 1) 0 (Nat.zero_le _) (by omega) _ _ rfl rfl
set_option maxHeartbeats 4000000 in
set_option maxRecDepth 100000 in
theorem ct_X2_countOfRank (l : Launch) {D : va_G} {cI cJ cQ : ClassId} {a0 a1 n : Nat} {f : Nat → Int32} {x : Int32} (hn : n ≤ 40) : Ct l yX2_countOfRank (Cond.code yX2_countOfRank cX2_countOfRank 4 (some .int)) 1 23 0 0 D (tyz cI cJ cQ) [.ref a0, .int x] (wPet a0 a1 cI n f) (pstI (nI (ct (isRk f x) n)) (wPet a0 a1 cI n f)) := by
  refine Ct.of RX2 (by decide) rfl (Nat.le_of_ble_eq_true rfl) ?_
  intro p e s m below meth c A C RC
  refine sw_iconst 0 C dX2_countOfRank_0 0 (by decide) ?_
  refine sw_istore_n 1 2 C dX2_countOfRank_1 rfl rfl ?_
  refine sw_iconst 2 C dX2_countOfRank_2 0 (by decide) ?_
  refine sw_istore_n 3 3 C dX2_countOfRank_3 rfl rfl ?_
  exact lp_X2_countOfRank hn C RC (n + 1) 0 (Nat.zero_le _) (by omega) _ _ rfl rfl
set_option maxHeartbeats 4000000 in
set_option maxRecDepth 100000 in
theorem lp_X2_loudestRank {l : Launch} {p : Program} {e : Env} {s : State} {m : MethodId} {args : Array Value} {below : List Frame} {meth : Method} {c : Code} {A : Nat → Prop} {D : va_G} {cI cJ cQ : ClassId} {a0 a1 n : Nat} {f : Nat → Int32} (hn : n ≤ 40) (C : CC p s m args c cX2_loudestRank 3 RX2 (Cond.code yX2_loudestRank cX2_loudestRank 3 (some .int) :: lw_all) D (tyz cI cJ cQ) A s.heap) (RC : meth.sig.returnType = (some .int) ∧ meth.locks = false ∧ meth.name = yX2_loudestRank.name) : ∀ (fu i : Nat), i ≤ n → n + 1 ≤ i + fu →  ∀ (xa : Int32) (xi : Int32), (xa = ldr f i) → (xi = nI i) →  sw p l e ({ frames := 1, cells := 0, slots := 0, locals := 23 } : Room) s m args below meth c D A s.heap 3 0 0 (MQ below (ctQ D (tyz cI cJ cQ) A (pstI (ldr f n) (wPet a0 a1 cI n f))) args s 0 0 A) (wPet a0 a1 cI n f) 4 [(0, .ref a0), (1, .int xa), (2, .int xi)] [] := by
  intro fu
  induction fu with
  | zero => intro i h1 h2; exact absurd h2 (by omega)
  | succ fu ih =>
    intro i hi hf  xa xi exa exi
    subst exa exi
    refine sw_iload_n 4 2 C dX2_loudestRank_4 rfl rfl ?_
    refine sw_aload_n 5 0 C dX2_loudestRank_5 rfl rfl ?_
    refine sw_get 6 0 0 C dX2_loudestRank_6 rfl rfl (inA lwX2) (C.w wF_X2_15) rfl rfl rfl ?_
    refine sw_icmp_ge 9 29 C dX2_loudestRank_9 (by decide) (fun c_9 => ?_) (fun c_9 => ?_)
    · refine sw_iload_n 29 1 C dX2_loudestRank_29 rfl rfl ?_
      refine sw_iret 30 C RC dX2_loudestRank_30 ?_
      exact ⟨by rw [show i = n by have := nI_ge' (by omega) c_9 (by omega); omega], rfl⟩
    · have hlt : i < n := by
        rcases Nat.lt_or_ge i n with q | q
        · exact q
        · exact absurd (nI_le q (by omega)) c_9
      refine sw_iload_n 12 1 C dX2_loudestRank_12 rfl rfl ?_
      refine sw_aload_n 13 0 C dX2_loudestRank_13 rfl rfl ?_
      refine sw_iload_n 14 2 C dX2_loudestRank_14 rfl rfl ?_
      refine sw_iconst 15 C dX2_loudestRank_15 2 (by decide) ?_
      refine sw_callVIP 16 [0, 1] 2 C dX2_loudestRank_16 (ct_X2_at l (i) 2 rfl rfl (by omega) (by decide) (by omega)) wK_X2_at wM_X2_29 wN_X2_at wS_X2_X2_at wI_X2 hd_X2_at rfl rfl rfl ⟨rfl, rfl⟩ ⟨Nat.le_of_ble_eq_true rfl, Nat.le_of_ble_eq_true rfl⟩ rfl rfl rfl rfl ?_
      refine sw_mmax 19 C (C.w wM_X2_44) (C.w wT_J9_max_7cf53) (C.w wI_J9) (C.w wK_J9_max_7cf53) (Nat.le_of_ble_eq_true rfl) (Nat.le_of_ble_eq_true rfl) (Nat.le_of_ble_eq_true rfl) (Nat.le_of_ble_eq_true rfl) dX2_loudestRank_19 ?_
      refine sw_istore_n 22 1 C dX2_loudestRank_22 rfl rfl ?_
      refine sw_iinc 23 C 1 dX2_loudestRank_23 (by decide) rfl rfl ?_
      refine sw_loc (L1 := [(0, .ref _), (1, .int _), (2, .int _)]) ?_ rfl
      refine sw_goto 26 4 C dX2_loudestRank_26 (by decide) ?_
      exact sw_loc (ih (i + 1) (by omega) (by omega) _ _ rfl (nI_1 i)) rfl
set_option maxHeartbeats 4000000 in
set_option maxRecDepth 100000 in
theorem lp_X2_sumOfBribes {l : Launch} {p : Program} {e : Env} {s : State} {m : MethodId} {args : Array Value} {below : List Frame} {meth : Method} {c : Code} {A : Nat → Prop} {D : va_G} {cI cJ cQ : ClassId} {a0 a1 n : Nat} {f : Nat → Int32} (hn : n ≤ 40) (C : CC p s m args c cX2_sumOfBribes 3 RX2 (Cond.code yX2_sumOfBribes cX2_sumOfBribes 3 (some .int) :: lw_all) D (tyz cI cJ cQ) A s.heap) (RC : meth.sig.returnType = (some .int) ∧ meth.locks = false ∧ meth.name = yX2_sumOfBribes.name) : ∀ (fu i : Nat), i ≤ n → n + 1 ≤ i + fu →  ∀ (xa : Int32) (xi : Int32), (xa = smb f i) → (xi = nI i) →  sw p l e ({ frames := 1, cells := 0, slots := 0, locals := 23 } : Room) s m args below meth c D A s.heap 3 0 0 (MQ below (ctQ D (tyz cI cJ cQ) A (pstI (smb f n) (wPet a0 a1 cI n f))) args s 0 0 A) (wPet a0 a1 cI n f) 4 [(0, .ref a0), (1, .int xa), (2, .int xi)] [] := by
  intro fu
  induction fu with
  | zero => intro i h1 h2; exact absurd h2 (by omega)
  | succ fu ih =>
    intro i hi hf  xa xi exa exi
    subst exa exi
    refine sw_iload_n 4 2 C dX2_sumOfBribes_4 rfl rfl ?_
    refine sw_aload_n 5 0 C dX2_sumOfBribes_5 rfl rfl ?_
    refine sw_get 6 0 0 C dX2_sumOfBribes_6 rfl rfl (inA lwX2) (C.w wF_X2_15) rfl rfl rfl ?_
    refine sw_icmp_ge 9 28 C dX2_sumOfBribes_9 (by decide) (fun c_9 => ?_) (fun c_9 => ?_)
    · refine sw_iload_n 28 1 C dX2_sumOfBribes_28 rfl rfl ?_
      refine sw_iret 29 C RC dX2_sumOfBribes_29 ?_
      exact ⟨by rw [show i = n by have := nI_ge' (by omega) c_9 (by omega); omega], rfl⟩
    · have hlt : i < n := by
        rcases Nat.lt_or_ge i n with q | q
        · exact q
        · exact absurd (nI_le q (by omega)) c_9
      refine sw_iload_n 12 1 C dX2_sumOfBribes_12 rfl rfl ?_
      refine sw_aload_n 13 0 C dX2_sumOfBribes_13 rfl rfl ?_
      refine sw_iload_n 14 2 C dX2_sumOfBribes_14 rfl rfl ?_
      refine sw_bipush 15 C dX2_sumOfBribes_15 6 (by decide) ?_
      refine sw_callVIP 17 [0, 1] 2 C dX2_sumOfBribes_17 (ct_X2_at l (i) 6 rfl rfl (by omega) (by decide) (by omega)) wK_X2_at wM_X2_29 wN_X2_at wS_X2_X2_at wI_X2 hd_X2_at rfl rfl rfl ⟨rfl, rfl⟩ ⟨Nat.le_of_ble_eq_true rfl, Nat.le_of_ble_eq_true rfl⟩ rfl rfl rfl rfl ?_
      refine sw_iadd 20 C dX2_sumOfBribes_20 ?_
      refine sw_istore_n 21 1 C dX2_sumOfBribes_21 rfl rfl ?_
      refine sw_iinc 22 C 1 dX2_sumOfBribes_22 (by decide) rfl rfl ?_
      refine sw_loc (L1 := [(0, .ref _), (1, .int _), (2, .int _)]) ?_ rfl
      refine sw_goto 25 4 C dX2_sumOfBribes_25 (by decide) ?_
      exact sw_loc (ih (i + 1) (by omega) (by omega) _ _ rfl (nI_1 i)) rfl
set_option maxHeartbeats 4000000 in
set_option maxRecDepth 100000 in
theorem ct_X2_loudestRank (l : Launch) {D : va_G} {cI cJ cQ : ClassId} {a0 a1 n : Nat} {f : Nat → Int32} (hn : n ≤ 40) : Ct l yX2_loudestRank (Cond.code yX2_loudestRank cX2_loudestRank 3 (some .int)) 1 23 0 0 D (tyz cI cJ cQ) [.ref a0] (wPet a0 a1 cI n f) (pstI (ldr f n) (wPet a0 a1 cI n f)) := by
  refine Ct.of RX2 (by decide) rfl (Nat.le_of_ble_eq_true rfl) ?_
  intro p e s m below meth c A C RC
  refine sw_iconst 0 C dX2_loudestRank_0 (-1) (by decide) ?_
  refine sw_istore_n 1 1 C dX2_loudestRank_1 rfl rfl ?_
  refine sw_iconst 2 C dX2_loudestRank_2 0 (by decide) ?_
  refine sw_istore_n 3 2 C dX2_loudestRank_3 rfl rfl ?_
  exact lp_X2_loudestRank hn C RC (n + 1) 0 (Nat.zero_le _) (by omega) _ _ rfl rfl
set_option maxHeartbeats 4000000 in
set_option maxRecDepth 100000 in
theorem ct_X2_sumOfBribes (l : Launch) {D : va_G} {cI cJ cQ : ClassId} {a0 a1 n : Nat} {f : Nat → Int32} (hn : n ≤ 40) : Ct l yX2_sumOfBribes (Cond.code yX2_sumOfBribes cX2_sumOfBribes 3 (some .int)) 1 23 0 0 D (tyz cI cJ cQ) [.ref a0] (wPet a0 a1 cI n f) (pstI (smb f n) (wPet a0 a1 cI n f)) := by
  refine Ct.of RX2 (by decide) rfl (Nat.le_of_ble_eq_true rfl) ?_
  intro p e s m below meth c A C RC
  refine sw_iconst 0 C dX2_sumOfBribes_0 0 (by decide) ?_
  refine sw_istore_n 1 1 C dX2_sumOfBribes_1 rfl rfl ?_
  refine sw_iconst 2 C dX2_sumOfBribes_2 0 (by decide) ?_
  refine sw_istore_n 3 2 C dX2_sumOfBribes_3 rfl rfl ?_
  exact lp_X2_sumOfBribes hn C RC (n + 1) 0 (Nat.zero_le _) (by omega) _ _ rfl rfl
