/-! doubles: a quotient of two ints, the second one not 0, is a number -/
section FPN
def bdD : FP.Core.Datum → Prop
  | .nan => False
  | .inf _ => True
  | .fin _ c q => c < 9007199254740992 ∧ q ≤ 971
theorem fp_tails : FP.Core.Fmt.tails FP.Core.b64 = 4503599627370496 := by decide +kernel
theorem fp_exps : FP.Core.Fmt.exps FP.Core.b64 = 2048 := by decide +kernel
theorem fp_qmax : FP.Core.Fmt.qmax FP.Core.b64 = 971 := by decide +kernel
theorem fp_qmin : FP.Core.Fmt.qmin FP.Core.b64 = -1074 := by decide +kernel
theorem fp_p : 2 ^ FP.Core.b64.p = 9007199254740992 := by decide +kernel
theorem fp_p1 : ((FP.Core.b64.p : Nat) : Int) - 1 = 52 := by decide +kernel
theorem bd_bound {s : Bool} {c : Nat} {q : Int} (h : c < 9007199254740992) : bdD (FP.Core.bound FP.Core.b64 s c q) := by
  unfold FP.Core.bound
  rw [fp_qmax]
  split
  · exact ⟨h, by assumption⟩
  · trivial
theorem bd_settle {s : Bool} {c : Nat} {q : Int} : bdD (FP.Core.settle FP.Core.b64 s c q) := by
  unfold FP.Core.settle
  rw [fp_p, fp_tails]
  split
  · exact bd_bound (by assumption)
  · exact bd_bound (by decide)
theorem bd_ratio {s : Bool} {a b : Nat} {e : Int} : bdD (FP.Core.roundRatio FP.Core.b64 s a b e) := by
  unfold FP.Core.roundRatio
  split
  · rw [fp_qmin]
    exact ⟨by decide, by decide⟩
  · exact bd_settle
theorem enc_bd {d : FP.Core.Datum} (h : bdD d) : ∃ s m : Nat, s ≤ 1 ∧ m ≤ 9218868437227405312 ∧ FP.Core.encode FP.Core.b64 d = s * 9223372036854775808 + m := by
  have hb : ∀ s : Bool, s.toNat ≤ 1 := fun s => by cases s <;> decide
  cases d with
  | nan => exact h.elim
  | inf s =>
    refine ⟨s.toNat, 2047 * 4503599627370496, hb s, by decide, ?_⟩
    unfold FP.Core.encode FP.Core.assemble
    rw [fp_tails, fp_exps]
    dsimp only
    omega
  | fin s c q =>
    obtain ⟨h1, h2⟩ := h
    unfold FP.Core.encode FP.Core.assemble
    rw [fp_tails, fp_exps, fp_qmin]
    dsimp only
    split
    · exact ⟨s.toNat, c, hb s, by omega, by omega⟩
    · refine ⟨s.toNat, ((q - -1074).toNat + 1) * 4503599627370496 + (c - 4503599627370496), hb s, ?_, by omega⟩
      omega
theorem n64_bd {d : FP.Core.Datum} (h : bdD d) : vf_n64 (UInt64.ofNat (FP.Core.encode FP.Core.b64 d)) := by
  obtain ⟨s, m, h1, h2, h3⟩ := enc_bd h
  unfold vf_n64
  rw [h3, UInt64.le_iff_toNat_le, UInt64.toNat_and, show (0x7fffffffffffffff : UInt64).toNat = 2 ^ 63 - 1 from by decide, Nat.and_two_pow_sub_one_eq_mod, show (0x7ff0000000000000 : UInt64).toNat = 9218868437227405312 from by decide, UInt64.toNat_ofNat']
  omega
theorem dec_bd {d : FP.Core.Datum} (h : bdD d) : FP.Core.decode FP.Core.b64 (UInt64.ofNat (FP.Core.encode FP.Core.b64 d)).toNat ≠ .nan := by
  obtain ⟨s, m, h1, h2, h3⟩ := enc_bd h
  rw [h3, UInt64.toNat_ofNat']
  unfold FP.Core.decode FP.Core.fieldE FP.Core.fieldT
  rw [fp_tails, fp_exps]
  intro e
  split at e
  · split at e
    · cases e
    · omega
  · split at e <;> cases e
/-- an int as a double -/
theorem near_1 (n : Nat) : FP.Core.nearest n 1 = n := by
  unfold FP.Core.nearest
  rw [Nat.mod_one, if_pos (by decide), Nat.div_one]
theorem lead_le {n : Nat} (h0 : n ≠ 0) (h : n < 2 ^ 32) : FP.Core.leading n 1 ≤ 31 := by
  unfold FP.Core.leading
  have := (Nat.log2_lt h0).mpr h
  rw [show Nat.log2 1 = 0 from by decide +kernel]
  dsimp only
  split <;> omega
theorem int_fin (s : Bool) {n : Nat} (h : n < 2 ^ 32) : ∃ (s2 : Bool) (c : Nat) (q : Int), FP.Core.roundRatio FP.Core.b64 s n 1 0 = .fin s2 c q ∧ c < 9007199254740992 ∧ q ≤ 0 ∧ (n ≠ 0 → c ≠ 0) := by
  unfold FP.Core.roundRatio
  by_cases h0 : n = 0
  · rw [if_pos h0, fp_qmin]
    exact ⟨s, 0, -1074, rfl, by decide, by decide, fun q => absurd h0 q⟩
  · rw [if_neg h0]
    unfold FP.Core.roundAt FP.Core.quantum
    rw [fp_qmin, fp_p1]
    have hl := lead_le h0 h
    generalize hq : max (-1074 : Int) (FP.Core.leading n 1 + 0 - 52) = q
    have hq1 : q ≤ -21 := by omega
    unfold FP.Core.unitsNum FP.Core.unitsDen
    rw [show (q - 0).toNat = 0 by omega, Nat.pow_zero, Nat.mul_one, near_1]
    have hpos : n * 2 ^ (0 - q).toNat ≠ 0 := Nat.mul_ne_zero h0 (Nat.ne_of_gt (Nat.two_pow_pos _))
    generalize n * 2 ^ (0 - q).toNat = c at hpos
    unfold FP.Core.settle FP.Core.bound
    rw [fp_p, fp_tails, fp_qmax]
    split
    · rw [if_pos (by omega)]
      exact ⟨s, c, q, rfl, by assumption, by omega, fun _ => hpos⟩
    · rw [if_pos (by omega)]
      exact ⟨s, 4503599627370496, q + 1, rfl, by decide, by omega, fun _ => by decide⟩
theorem dec_small (s : Bool) {c : Nat} {q : Int} (hc : c < 9007199254740992) (hq : q ≤ 0) : ∃ (s2 : Bool) (c2 : Nat) (q2 : Int), FP.Core.decode FP.Core.b64 (UInt64.ofNat (FP.Core.encode FP.Core.b64 (.fin s c q))).toNat = .fin s2 c2 q2 ∧ (c ≠ 0 → c2 ≠ 0) := by
  have hb : s.toNat ≤ 1 := by cases s <;> decide
  rw [UInt64.toNat_ofNat']
  unfold FP.Core.encode FP.Core.assemble
  rw [fp_tails, fp_exps, fp_qmin]
  dsimp only
  unfold FP.Core.decode FP.Core.fieldE FP.Core.fieldT
  rw [fp_tails, fp_exps]
  generalize s.toNat = b at hb
  split
  · rename_i h1
    have e1 : ((b * 2048 + 0) * 4503599627370496 + c) % 2 ^ 64 / 4503599627370496 % 2048 = 0 := by omega
    rw [e1, if_neg (by decide), if_pos rfl]
    exact ⟨_, _, _, rfl, fun h => by omega⟩
  · rename_i h1
    generalize hk : (q - -1074).toNat = k
    have hk2 : k ≤ 1074 := by omega
    have e1 : ((b * 2048 + (k + 1)) * 4503599627370496 + (c - 4503599627370496)) % 2 ^ 64 / 4503599627370496 % 2048 = k + 1 := by omega
    rw [e1, if_neg (by omega), if_neg (by omega)]
    exact ⟨_, _, _, rfl, fun _ => by omega⟩
theorem i2d_dec (x : Int32) : ∃ (s : Bool) (c : Nat) (q : Int), FP.Core.decode FP.Core.b64 (FP.i2d x).toNat = .fin s c q ∧ (x ≠ 0 → c ≠ 0) := by
  have hx1 := Int32.toInt_lt x
  have hx2 := Int32.le_toInt x
  obtain ⟨s2, c, q, h1, h2, h3, h4⟩ := int_fin (decide (x.toInt < 0)) (n := x.toInt.natAbs) (by omega)
  obtain ⟨s3, c3, q3, k1, k2⟩ := dec_small s2 h2 h3
  refine ⟨s3, c3, q3, ?_, fun hx => k2 (h4 (fun e => hx (Int32.toInt_inj.mp (by rw [show (0 : Int32).toInt = 0 from by decide]; omega))))⟩
  rw [← k1, ← h1]
  rfl
theorem ddiv_bd {x y : Int32} (hy : y ≠ 0) : bdD (FP.Core.quotient FP.Core.b64 (FP.Core.decode FP.Core.b64 (FP.i2d x).toNat) (FP.Core.decode FP.Core.b64 (FP.i2d y).toNat)) := by
  obtain ⟨s, c, q, h1, h2⟩ := i2d_dec x
  obtain ⟨t, d, r, k1, k2⟩ := i2d_dec y
  rw [h1, k1]
  show bdD (if d = 0 then (if c = 0 then .nan else .inf (s != t)) else FP.Core.roundRatio FP.Core.b64 (s != t) c d (q - r))
  rw [if_neg (k2 hy)]
  exact bd_ratio
theorem ddiv_n64 {x y : Int32} (hy : ¬ y = 0) : vf_n64 (FP.ddiv (FP.i2d x) (FP.i2d y)) := n64_bd (ddiv_bd hy)
theorem order_self {d : FP.Core.Datum} (h : d ≠ .nan) : FP.Core.order d d = some .eq := by
  have e : ∀ i : Int, compare i i = .eq := fun i => by simp [compare, compareOfLessAndEq]
  cases d with
  | nan => exact absurd rfl h
  | inf s => exact congrArg some (e _)
  | fin s c q => exact congrArg some (e _)
theorem ddiv_eq {x y : Int32} (hy : ¬ y = 0) : FP.dcmp (FP.ddiv (FP.i2d x) (FP.i2d y)) (FP.ddiv (FP.i2d x) (FP.i2d y)) = some .eq := order_self (dec_bd (ddiv_bd hy))
theorem dz_eq : FP.dcmp FP.dconst0 FP.dconst0 = some .eq := by decide +kernel
end FPN
section DSW
variable {p : Program} {l : Launch} {e : Env} {R : Room} {s : State} {m : MethodId} {args : Array Value} {below : List Frame} {meth : Method} {c : Code} {D : va_G} {tys : List (ClassId × FieldType)} {A : Nat → Prop} {H0 : Heap} {nL k n : Nat} {Q : State → Prop} {ws : va_W} {L : List (Nat × Value)} {st : List Value} {cc : ByteArray} {own : String} {Ts : List Cond} {x0 : Cond}
theorem sw_dconst0 (pc : Nat) (C : CC p s m args c cc nL own Ts D tys A H0) (d : decode cc pc = .ok (.dconst 0, 1)) (kk : sw p l e R s m args below meth c D A H0 nL k n Q ws (pc + 1) L (.double FP.dconst0 :: st)) : sw p l e R s m args below meth c D A H0 nL k n Q ws pc L st := fun H locs ls hP hD hS hl => lv_dconst0 C.hx C.hb d (kk H locs ls hP hD hS hl)
theorem sw_i2d (pc : Nat) {x : Int32} (C : CC p s m args c cc nL own Ts D tys A H0) (d : decode cc pc = .ok (.i2d, 1)) (kk : sw p l e R s m args below meth c D A H0 nL k n Q ws (pc + 1) L (.double (FP.i2d x) :: st)) : sw p l e R s m args below meth c D A H0 nL k n Q ws pc L (.int x :: st) := fun H locs ls hP hD hS hl => lv_i2d C.hx C.hb d (kk H locs ls hP hD hS hl)
theorem sw_ddiv (pc : Nat) {x y : UInt64} (C : CC p s m args c cc nL own Ts D tys A H0) (d : decode cc pc = .ok (.ddiv, 1)) (hne : vf_n64 (FP.ddiv x y)) (kk : sw p l e R s m args below meth c D A H0 nL k n Q ws (pc + 1) L (.double (FP.ddiv x y) :: st)) : sw p l e R s m args below meth c D A H0 nL k n Q ws pc L (.double y :: .double x :: st) := fun H locs ls hP hD hS hl => lv_ddiv C.hx C.hb d hne (kk H locs ls hP hD hS hl)
end DSW
def pstD (r : UInt64) (w0 : va_W) : Option Value → va_W → Prop := fun v w1 => v = some (.double r) ∧ w1 = w0
def mwS (S : StT) : UInt64 := if zlv S 0 = 0 then FP.dconst0 else FP.ddiv (FP.i2d (zv S)) (FP.i2d (zlv S 0))
theorem mwS_0 {S : StT} (h : zlv S 0 = 0) : mwS S = FP.dconst0 := if_pos h
theorem mwS_1 {S : StT} (h : ¬ zlv S 0 = 0) : mwS S = FP.ddiv (FP.i2d (zv S)) (FP.i2d (zlv S 0)) := if_neg h
theorem mwS_eq (S : StT) : FP.dcmp (mwS S) (mwS S) = some .eq := by
  by_cases h : zlv S 0 = 0
  · rw [mwS_0 h]
    exact dz_eq
  · rw [mwS_1 h]
    exact ddiv_eq h
set_option maxHeartbeats 4000000 in
set_option maxRecDepth 100000 in
theorem ct_X6_meanWait (l : Launch) {D : va_G} {cI cJ cQ : ClassId} {x0a a0 a1 a2 a3 a4 a5 a6 a7 tr0 s0 r0 w0 : Nat} {S : StT} : Ct l yX6_meanWait (Cond.code yX6_meanWait cX6_meanWait 2 (some .double)) 1 21 0 0 D (tyz cI cJ cQ) [.ref x0a] (flatS [[(x0a, .inr (6, [.ref a0, .ref tr0, .ref s0, .ref r0, .ref w0]))], (wSt a0 a1 a2 a3 a4 a5 a6 a7 cI (S))]) (pstD (mwS S) (flatS [[(x0a, .inr (6, [.ref a0, .ref tr0, .ref s0, .ref r0, .ref w0]))], (wSt a0 a1 a2 a3 a4 a5 a6 a7 cI (S))])) := by
  refine Ct.of RX6 (by decide) rfl (Nat.le_of_ble_eq_true rfl) ?_
  intro p e s m below meth c A C RC
  refine sw_aload_n 0 0 C dX6_meanWait_0 rfl rfl ?_
  refine sg_get 1 0 0 0 C dX6_meanWait_1 rfl rfl rfl (inA lwX6) (C.w wF_X6_10) rfl rfl rfl ?_
  refine sw_iconst 4 C dX6_meanWait_4 0 (by decide) ?_
  refine sg_callVIP 5 [1] 1 0 C dX6_meanWait_5 (ct_X4_leftBy l 0 rfl (by decide)) wK_X4_leftBy wM_X6_162 wN_X4_leftBy wS_X4_X4_leftBy wI_X4 hd_X4_leftBy rfl rfl rfl ⟨rfl, rfl⟩ ⟨Nat.le_of_ble_eq_true rfl, Nat.le_of_ble_eq_true rfl⟩ rfl rfl rfl rfl ?_
  refine sw_istore_n 8 1 C dX6_meanWait_8 rfl rfl ?_
  refine sw_iload_n 9 1 C dX6_meanWait_9 rfl rfl ?_
  refine sw_if_ne 10 15 C dX6_meanWait_10 (by decide) (fun c_10 => ?_) (fun c_10 => ?_)
  · refine sw_aload_n 15 0 C dX6_meanWait_15 rfl rfl ?_
    refine sg_get 16 0 0 0 C dX6_meanWait_16 rfl rfl rfl (inA lwX6) (C.w wF_X6_10) rfl rfl rfl ?_
    refine sg_get 19 1 0 2 C dX6_meanWait_19 rfl rfl rfl (inA lwX4) (C.w wF_X6_165) rfl rfl rfl ?_
    refine sw_i2d 22 C dX6_meanWait_22 ?_
    refine sw_iload_n 23 1 C dX6_meanWait_23 rfl rfl ?_
    refine sw_i2d 24 C dX6_meanWait_24 ?_
    refine sw_ddiv 25 C dX6_meanWait_25 (ddiv_n64 c_10) ?_
    refine sw_dret 26 C RC dX6_meanWait_26 ?_
    exact ⟨by rw [mwS_1 c_10], rfl⟩
  · refine sw_dconst0 13 C dX6_meanWait_13 ?_
    refine sw_dret 14 C RC dX6_meanWait_14 ?_
    exact ⟨by rw [mwS_0 c_10], rfl⟩
