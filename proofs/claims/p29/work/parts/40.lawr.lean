/-! the law: rules -/
section LAWR
variable {p : Program} {l : Launch} {e : Env} {R : Room} {s : State} {m : MethodId} {args : Array Value} {below : List Frame} {meth : Method} {c : Code} {D : va_G} {tys : List (ClassId × FieldType)} {A : Nat → Prop} {H0 : Heap} {nL k n : Nat} {Q : State → Prop} {ws : va_W} {segs : List va_W} {L : List (Nat × Value)} {st : List Value} {cc : ByteArray} {own : String} {Ts : List Cond} {x0 : Cond}
theorem sw_lcmp (pc : Nat) {x y : Int64} (C : CC p s m args c cc nL own Ts D tys A H0) (d : decode cc pc = .ok (.lcmp, 1)) (kk : sw p l e R s m args below meth c D A H0 nL k n Q ws (pc + 1) L (.int (lg_cmp x y) :: st)) : sw p l e R s m args below meth c D A H0 nL k n Q ws pc L (.long y :: .long x :: st) := fun H locs ls hP hD hS hl => W.lcmp C.hx C.hb d (kk H locs ls hP hD hS hl)
theorem sw_dcmp (pc : Nat) {x y : UInt64} {op : CmpOp} (C : CC p s m args c cc nL own Ts D tys A H0) (d : decode cc pc = .ok (.dcmp op, 1)) (kk : sw p l e R s m args below meth c D A H0 nL k n Q ws (pc + 1) L (.int (Op.cmpValue (FP.dcmp x y) op) :: st)) : sw p l e R s m args below meth c D A H0 nL k n Q ws pc L (.double y :: .double x :: st) := fun H locs ls hP hD hS hl => lv_dcmp C.hx C.hb d (kk H locs ls hP hD hS hl)
theorem sw_ishr (pc : Nat) {x y : Int32} (C : CC p s m args c cc nL own Ts D tys A H0) (d : decode cc pc = .ok (.ishr, 1)) (kk : sw p l e R s m args below meth c D A H0 nL k n Q ws (pc + 1) L (.int (x >>> (y &&& 31)) :: st)) : sw p l e R s m args below meth c D A H0 nL k n Q ws pc L (.int y :: .int x :: st) := fun H locs ls hP hD hS hl => lv_ishr C.hx C.hb d (kk H locs ls hP hD hS hl)
theorem sw_iushr (pc : Nat) {x y : Int32} (C : CC p s m args c cc nL own Ts D tys A H0) (d : decode cc pc = .ok (.iushr, 1)) (kk : sw p l e R s m args below meth c D A H0 nL k n Q ws (pc + 1) L (.int ((x.toUInt32 >>> (y.toUInt32 &&& Int32.toUInt32 31)).toInt32) :: st)) : sw p l e R s m args below meth c D A H0 nL k n Q ws pc L (.int y :: .int x :: st) := fun H locs ls hP hD hS hl => lv_iushr C.hx C.hb d rfl (kk H locs ls hP hD hS hl)
theorem sw_ixor (pc : Nat) {x y : Int32} (C : CC p s m args c cc nL own Ts D tys A H0) (d : decode cc pc = .ok (.ixor, 1)) (kk : sw p l e R s m args below meth c D A H0 nL k n Q ws (pc + 1) L (.int (x ^^^ y) :: st)) : sw p l e R s m args below meth c D A H0 nL k n Q ws pc L (.int y :: .int x :: st) := fun H locs ls hP hD hS hl => lv_ixor C.hx C.hb d (kk H locs ls hP hD hS hl)
theorem sw_topL {pc : Nat} {x y : Int64} (h : x = y) (kk : sw p l e R s m args below meth c D A H0 nL k n Q ws pc L (.long y :: st)) : sw p l e R s m args below meth c D A H0 nL k n Q ws pc L (.long x :: st) := h ▸ kk
theorem sw_sld (pc u : Nat) {b LL : Nat} {xs : Nat → Int32} {i : Int32} (C : CC p s m args c cc nL own Ts D tys A H0) (hX : va_X b LL xs s H0) (hbl : b < H0.size) (hbA : ¬ A b) (d : decode cc pc = .ok (.iaload, 1)) (hi : i = nI u) (hu : u < LL) (hL : LL < 2 ^ 31) (kk : sw p l e R s m args below meth c D A H0 nL k n Q ws (pc + 1) L (.int (xs u) :: st)) : sw p l e R s m args below meth c D A H0 nL k n Q ws pc L (.int i :: .ref b :: st) := by
  subst hi
  intro H locs ls hP hD hS hl
  refine va_sld C.hx C.hb hX hbl hbA hS (vp_in_nI hu hL) d ?_
  rw [nI_clamp (by omega)]
  exact kk H locs ls hP hD hS hl
theorem sw_slen (pc : Nat) {b LL : Nat} {xs : Nat → Int32} (C : CC p s m args c cc nL own Ts D tys A H0) (hX : va_X b LL xs s H0) (hbl : b < H0.size) (hbA : ¬ A b) (d : decode cc pc = .ok (.arraylength, 1)) (kk : sw p l e R s m args below meth c D A H0 nL k n Q ws (pc + 1) L (.int (nI LL) :: st)) : sw p l e R s m args below meth c D A H0 nL k n Q ws pc L (.ref b :: st) := fun H locs ls hP hD hS hl => va_slen C.hx C.hb hX hbl hbA hS d (kk H locs ls hP hD hS hl)
theorem xg_callG (pc : Nat) (is : List Nat) (na rq : Nat) {fr lo mc ms maxL index b ci : Nat} {y : MethodName} {bytes : ByteArray} {ret : Option FieldType} {wc : va_W} {As : List Value} {post : Option Value → va_W → Prop} {Cn : String} {T : u_T} {N : Nat} {fs : List Value} (C : CC p s m args c cc nL own (x0 :: lw_all) D tys A H0) (d : decode cc pc = .ok (.invokevirtual index, 3))
    (hM : Ct l y (Cond.code y bytes maxL ret) fr lo mc ms D tys (.ref b :: As) wc post) (g0 : Cond.code y bytes maxL ret ∈ lw_all) (g1 : Cond.methodLink own index y ∈ lw_all) (g2 : Cond.instanceMethod y ∈ lw_all) (g3 : Cond.selects Cn y y ∈ lw_all) (g4 : Cond.initialized Cn ∈ lw_all)
    (hd : y.cls = Cn ∧ y.cls ≠ "java/lang/invoke/MethodHandle" ∧ y.cls ≠ "java/lang/invoke/VarHandle" ∧ (parseMethodDescriptor y.desc).map (fun d => d.parameters.length) = some na) (hna : As.length = na) (hrv : wc[rq]? = some (b, .inr (ci, fs))) (hc : vwCl[ci]? = some (Cn, T, N))
    (hR : Nat.ble (fr + 1) R.frames = true ∧ Nat.ble (8 + (maxL + 11) + lo) R.locals = true) (hf : k + mc ≤ R.cells ∧ n + ms ≤ R.slots) (hst : Nat.ble (st.map fun v => v.category).sum 8 = true) (hn : wnd is = true) (hw : wall segs.length is = true) (hp : flatS (spick segs is) = wc)
    (kk : ∀ (v : Option Value) (w1 : va_W), post v w1 → ∃ news : List va_W, Nat.beq news.length is.length = true ∧ flatS news = w1 ∧ sw p l e R s m args below meth c D A H0 nL (k + mc) (n + ms) Q (flatS (sput segs is news)) (pc + 3) L (v.toList ++ st)) : sw p l e R s m args below meth c D A H0 nL k n Q (flatS segs) pc L (As.reverse ++ .ref b :: st) := by
  have hw' := wall_lt hw
  have hn' := wnd_nd hn
  have hper := (flatS_perm (segs_perm is segs hn' hw')).trans (by rw [flatS_app])
  subst hp
  intro H locs ls hP hD hS hl
  have hPp := va_P_perm hper hP
  have hDp := va_D_perm hper hD
  have hPc := va_P_l hPp
  have hDc := va_D_l hDp
  have hFc := free_of hDp hS C.hA
  have hK := C.hK
  refine va_callg (va_runV (As := As) (rest := st) (C := Cn) C.1 (hM H.size) (cwV na C.hts (goodV g0 g1 g2 g3 g4) rfl rfl rfl hd ⟨Nat.le_of_ble_eq_true hR.1, Nat.le_of_ble_eq_true hR.2⟩) ⟨ctP_blind, va_recv (q := (Cn, T, N)) hK hPc hc hrv, fun U hU hW => ⟨rfl, by rw [hU], by rw [hU]; exact hPc, va_K.moved hW.alike hK, hDc.weaken (fun _ _ _ _ => trivial)⟩⟩ rfl hna hl.1 rfl (lv_room (Nat.le_of_ble_eq_true hst)) d hf) hS (fun q _ h => hFc q h) hFc (fun v w1 H1 locs1 hpost hP1 hD1 hz1 hk1 hS1 => ?_)
  obtain ⟨news, hln, hnew, kk⟩ := kk v w1 hpost
  rw [← hnew] at hP1 hD1
  obtain ⟨hP2, hD2⟩ := seg_ok hPp hDp hk1 hFc hP1 hD1
  have hper2 := (flatS_perm (sput_perm is news segs hn' hw' (by rw [Nat.eq_of_beq_eq_true hln]))).trans (by rw [flatS_app])
  exact kk H1 locs1 ls (va_P_perm hper2.symm hP2) (va_D_perm hper2.symm hD2) hS1 hl
theorem LCt.ofC {y : MethodName} {cc : ByteArray} {maxL : Nat} {ret : Option FieldType} {fr lo mc ms : Nat} {As : List Value} {wc : va_W} {post : Option Value → va_W → Prop} (own : String) (hy : plainName y.cls = true) (ho : y.cls = own) (hL : (lg_sl As).length ≤ maxL)
    (body : ∀ (p : Program) (e : Env) (s : State) (m : MethodId) (below : List Frame) (meth : Method) (c : Code) (A : Nat → Prop), CC p s m As.toArray c cc maxL own (Cond.code y cc maxL ret :: lw_all) D tys A s.heap → (meth.sig.returnType = ret ∧ meth.locks = false ∧ meth.name = y.name) → xZ A s → xC s →
      sw p l e ({ frames := fr, cells := mc, slots := ms, locals := lo } : Room) s m As.toArray below meth c D A s.heap maxL 0 0 (MQ below (ctQ D tys A post) As.toArray s mc ms A) wc 0 (lv_args 0 As) []) : LCt l y (Cond.code y cc maxL ret) fr lo mc ms D tys As wc post := by
  intro sz
  refine Met.ofW (cc := cc) (maxL := maxL) (ret := ret) hy rfl ?_
  intro p e s m args below meth c s₁ B hml hv
  obtain ⟨rfl, hsz, hP, hK, hD0, hz, hC⟩ := hv
  subst hsz
  have hD := hD0.self (sz := s.heap.size)
  have hA : ∀ q : Nat, s.heap.size ≤ q → va_A wc s.heap.size q := fun q h => Or.inr h
  have hl := lv_entry As (n := maxL) hL
  rw [lg_entry_eq]
  exact body p e s m below meth c (va_A wc s.heap.size) ⟨⟨B.exec, B.bytes, hml, ho ▸ findClass_of_methodNamed B.named, atoms_spec B.pre⟩, hK, hA⟩ ⟨B.returns, B.notSynchronized, (name_of_methodNamed B.named B.method).1⟩ hz hC s.heap [] _ hP hD va_S.rf hl
theorem xl_callG (pc : Nat) (is : List Nat) (na : Nat) {fr lo mc ms maxL index : Nat} {y : MethodName} {bytes : ByteArray} {ret : Option FieldType} {hh : List (Nat × Nat × Nat × Nat)} {wc : va_W} {As : List Value} {post : Option Value → va_W → Prop} (C : CC p s m args c cc nL own (x0 :: lw_all) D tys A s.heap) (hz : xZ A s) (hC : xC s)
    (d : decode cc pc = .ok (.invokestatic index, 3)) (hM : LCt l y (Cond.codeWith y bytes maxL ret hh) fr lo mc ms D tys As wc post) (g0 : Cond.codeWith y bytes maxL ret hh ∈ lw_all) (g1 : Cond.methodLink own index y ∈ lw_all) (g2 : Cond.static y ∈ lw_all) (g4 : Cond.initialized y.cls ∈ lw_all)
    (hd : y.cls ≠ "java/lang/invoke/MethodHandle" ∧ y.cls ≠ "java/lang/invoke/VarHandle" ∧ (parseMethodDescriptor y.desc).map (fun d => d.parameters.length) = some na) (hna : As.length = na) (hR : Nat.ble (fr + 1) R.frames = true ∧ Nat.ble (8 + (maxL + 11) + lo) R.locals = true) (hf : k + mc ≤ R.cells ∧ n + ms ≤ R.slots) (hst : Nat.ble (st.map fun v => v.category).sum 8 = true) (hn : wnd is = true) (hw : wall segs.length is = true) (hp : flatS (spick segs is) = wc)
    (kk : ∀ (v : Option Value) (w1 : va_W), post v w1 → ∃ news : List va_W, Nat.beq news.length is.length = true ∧ flatS news = w1 ∧ sw p l e R s m args below meth c D A s.heap nL (k + mc) (n + ms) Q (flatS (sput segs is news)) (pc + 3) L (v.toList ++ st)) : sw p l e R s m args below meth c D A s.heap nL k n Q (flatS segs) pc L (As.reverse ++ st) := by
  have hw' := wall_lt hw
  have hn' := wnd_nd hn
  have hper := (flatS_perm (segs_perm is segs hn' hw')).trans (by rw [flatS_app])
  subst hp
  intro H locs ls hP hD hS hl
  have hPp := va_P_perm hper hP
  have hDp := va_D_perm hper hD
  have hPc := va_P_l hPp
  have hDc := va_D_l hDp
  have hFc := free_of hDp hS C.hA
  have hK := C.hK
  refine va_callg (vx_runSW (As := As) (rest := st) C.1 (hM H.size) (vx_cwSW na C.hts (fun w hw => by
    unfold va_wsS at hw
    simp only [List.cons_append, List.nil_append, List.mem_cons] at hw
    rcases hw with rfl | rfl | rfl | rfl | hw
    · exact goodAll _ g1
    · exact goodAll _ g2
    · exact goodAll _ g4
    · exact goodAll _ g0
    · exact goodAll _ hw) rfl rfl rfl hd ⟨Nat.le_of_ble_eq_true hR.1, Nat.le_of_ble_eq_true hR.2⟩) ⟨lP_blind, fun U hU hW => ⟨rfl, by rw [hU], by rw [hU]; exact hPc, va_K.moved hW.alike hK, hDc.weaken (fun _ _ _ _ => trivial), xZ_sub hz hS hU hW hFc, hC.moved hW.alike⟩⟩ rfl hna hl.1 rfl (lv_room (Nat.le_of_ble_eq_true hst)) d hf) hS (fun q _ h => hFc q h) hFc (fun v w1 H1 locs1 hpost hP1 hD1 hz1 hk1 hS1 => ?_)
  obtain ⟨news, hln, hnew, kk⟩ := kk v w1 hpost
  rw [← hnew] at hP1 hD1
  obtain ⟨hP2, hD2⟩ := seg_ok hPp hDp hk1 hFc hP1 hD1
  have hper2 := (flatS_perm (sput_perm is news segs hn' hw' (by rw [Nat.eq_of_beq_eq_true hln]))).trans (by rw [flatS_app])
  exact kk H1 locs1 ls (va_P_perm hper2.symm hP2) (va_D_perm hper2.symm hD2) hS1 hl
theorem xl_callH (pc : Nat) (is : List Nat) (na : Nat) {fr lo mc ms maxL index : Nat} {y : MethodName} {bytes : ByteArray} {ret : Option FieldType} {wc : va_W} {As : List Value} {post : Option Value → va_W → Prop} (C : CC p s m args c cc nL own (x0 :: lw_all) D tys A s.heap) (hz : xZ A s) (hC : xC s)
    (d : decode cc pc = .ok (.invokestatic index, 3)) (hM : LCt l y (Cond.code y bytes maxL ret) fr lo mc ms D tys As wc post) (g0 : Cond.code y bytes maxL ret ∈ lw_all) (g1 : Cond.methodLink own index y ∈ lw_all) (g2 : Cond.static y ∈ lw_all) (g4 : Cond.initialized y.cls ∈ lw_all)
    (hd : y.cls ≠ "java/lang/invoke/MethodHandle" ∧ y.cls ≠ "java/lang/invoke/VarHandle" ∧ (parseMethodDescriptor y.desc).map (fun d => d.parameters.length) = some na) (hna : As.length = na) (hR : Nat.ble (fr + 1) R.frames = true ∧ Nat.ble (8 + (maxL + 11) + lo) R.locals = true) (hf : k + mc ≤ R.cells ∧ n + ms ≤ R.slots) (hst : Nat.ble (st.map fun v => v.category).sum 8 = true) (hn : wnd is = true) (hw : wall segs.length is = true) (hp : flatS (spick segs is) = wc)
    (kk : ∀ (v : Option Value) (w1 : va_W), post v w1 → ∃ news : List va_W, Nat.beq news.length is.length = true ∧ flatS news = w1 ∧ sw p l e R s m args below meth c D A s.heap nL (k + mc) (n + ms) Q (flatS (sput segs is news)) (pc + 3) L (v.toList ++ st)) : sw p l e R s m args below meth c D A s.heap nL k n Q (flatS segs) pc L (As.reverse ++ st) := by
  have hw' := wall_lt hw
  have hn' := wnd_nd hn
  have hper := (flatS_perm (segs_perm is segs hn' hw')).trans (by rw [flatS_app])
  subst hp
  intro H locs ls hP hD hS hl
  have hPp := va_P_perm hper hP
  have hDp := va_D_perm hper hD
  have hPc := va_P_l hPp
  have hDc := va_D_l hDp
  have hFc := free_of hDp hS C.hA
  have hK := C.hK
  refine va_callg (va_runS (As := As) (rest := st) C.1 (hM H.size) (va_cwS na C.hts (goodS g0 g1 g2 g4) rfl rfl rfl hd ⟨Nat.le_of_ble_eq_true hR.1, Nat.le_of_ble_eq_true hR.2⟩) ⟨lP_blind, fun U hU hW => ⟨rfl, by rw [hU], by rw [hU]; exact hPc, va_K.moved hW.alike hK, hDc.weaken (fun _ _ _ _ => trivial), xZ_sub hz hS hU hW hFc, hC.moved hW.alike⟩⟩ rfl hna hl.1 rfl (lv_room (Nat.le_of_ble_eq_true hst)) d hf) hS (fun q _ h => hFc q h) hFc (fun v w1 H1 locs1 hpost hP1 hD1 hz1 hk1 hS1 => ?_)
  obtain ⟨news, hln, hnew, kk⟩ := kk v w1 hpost
  rw [← hnew] at hP1 hD1
  obtain ⟨hP2, hD2⟩ := seg_ok hPp hDp hk1 hFc hP1 hD1
  have hper2 := (flatS_perm (sput_perm is news segs hn' hw' (by rw [Nat.eq_of_beq_eq_true hln]))).trans (by rw [flatS_app])
  exact kk H1 locs1 ls (va_P_perm hper2.symm hP2) (va_D_perm hper2.symm hD2) hS1 hl
theorem lcmp_self (x : Int64) : lg_cmp x x = 0 := by
  unfold lg_cmp
  first
    | (rw [if_neg (Int64.lt_irrefl), if_pos rfl]; done)
    | simp
theorem dcv_eq {r : UInt64} {op : CmpOp} (h : FP.dcmp r r = some .eq) : Op.cmpValue (FP.dcmp r r) op = 0 := by
  rw [h]
  cases op <;> rfl
end LAWR
/-! low, cell -/
def lowN (v : Int32) (k : Nat) : Nat := v.toBitVec.toNat % 2 ^ 31 % k
theorem lowN_lt (v : Int32) {k : Nat} (h : 0 < k) : lowN v k < k := Nat.mod_lt _ h
theorem low_and (v : Int32) : v &&& 2147483647 = nI (v.toBitVec.toNat % 2 ^ 31) := pk_and v 31 (by decide)
theorem low_rem (v : Int32) {k : Nat} (h : 0 < k) (h2 : k < 2 ^ 31) : nI (v.toBitVec.toNat % 2 ^ 31) - nI (v.toBitVec.toNat % 2 ^ 31) / nI k * nI k = nI (lowN v k) := pk_rem (Nat.mod_lt _ (by decide)) h h2
set_option maxHeartbeats 4000000 in
set_option maxRecDepth 100000 in
theorem ct_L_low (l : Launch) {D : va_G} {cI cJ cQ : ClassId} {v x2 : Int32} (k : Nat) (h2 : x2 = nI k) (hk : 0 < k) (hk2 : k < 2 ^ 31) : Ct l yL_low (Cond.code yL_low cL_low 2 (some .int)) 0 0 0 0 D (tyz cI cJ cQ) [.int v, .int x2] [] (pstI (nI (lowN v k)) []) := by
  refine Ct.of RL (by decide) rfl (Nat.le_of_ble_eq_true rfl) ?_
  intro p e s m below meth c A C RC
  subst h2
  refine sw_iload_n 0 0 C dL_low_0 rfl rfl ?_
  refine sw_ldc 1 C dL_low_1 (C.w wQ_L_8) ?_
  refine sw_iand 3 C dL_low_3 ?_
  refine sw_top (low_and v) ?_
  refine sw_iload_n 4 1 C dL_low_4 rfl rfl ?_
  refine sw_irem 5 C dL_low_5 (nI_ne0 hk hk2) ?_
  refine sw_top (low_rem v hk hk2) ?_
  refine sw_iret 6 C RC dL_low_6 ?_
  exact ⟨rfl, rfl⟩
def cP (D : va_G) (tys : List (ClassId × FieldType)) (As : List Value) (b LL : Nat) (xs : Nat → Int32) (sz : Nat) : Array Value → State → Prop := va_Pc As (fun U => U.heap.size = sz ∧ va_K D vwCl tys U ∧ va_X b LL xs U U.heap ∧ b < U.heap.size)
theorem cP_blind {D : va_G} {tys : List (ClassId × FieldType)} {As : List Value} {b LL : Nat} {xs : Nat → Int32} {sz : Nat} : FrameBlind (cP D tys As b LL xs sz) := fun a U g mk q => by
  obtain ⟨q0, q1, qK, qX, qb⟩ := q
  exact ⟨q0, q1, va_K.moved (u := U) (U := U.calling g mk a) (Vm.Alike.refl U.vm) qK, va_X.moved (u := U) (U := U.calling g mk a) (Vm.Alike.refl U.vm) qX, qb⟩
def pstA : Option Value → va_W → Prop := fun v w1 => ∃ r : Int32, v = some (.int r) ∧ w1 = []
set_option maxHeartbeats 4000000 in
set_option maxRecDepth 100000 in
theorem ct_L_cell (l : Launch) {D : va_G} {tys : List (ClassId × FieldType)} {b LL : Nat} {xs : Nat → Int32} {x1 : Int32} (hLL : LL ≤ 260) (h0 : ¬ x1 < 0) (sz : Nat) : Met l yL_cell (Cond.code yL_cell cL_cell 3 (some .int) :: lw_all) ({ frames := 0, cells := 0, slots := 0, locals := 0 } : Room) (cP D tys [.ref b, .int x1] b LL xs sz) (ctQ D tys (va_A [] sz) pstA) 0 0 (va_A [] sz) := by
  refine Met.ofW (cc := cL_cell) (maxL := 3) (ret := (some .int)) (by decide) rfl ?_
  intro p e s m args below meth c s₁ B hml hv
  obtain ⟨rfl, hsz, hK, hX, hbl⟩ := hv
  subst hsz
  have hbA : ¬ va_A [] s.heap.size b := fun h => by
    rcases va_A_mem.mp h with ⟨e, he⟩ | h
    · exact absurd he List.not_mem_nil
    · omega
  have C : CC p s m #[.ref b, .int x1] c cL_cell 3 RL (Cond.code yL_cell cL_cell 3 (some .int) :: lw_all) D tys (va_A [] s.heap.size) s.heap := ⟨⟨B.exec, B.bytes, hml, findClass_of_methodNamed B.named, atoms_spec B.pre⟩, hK, fun q h => Or.inr h⟩
  have RC : meth.sig.returnType = (some .int) ∧ meth.locks = false ∧ meth.name = yL_cell.name := ⟨B.returns, B.notSynchronized, (name_of_methodNamed B.named B.method).1⟩
  have hl := lv_entry ([.ref b, .int x1] : List Value) (n := 3) (Nat.le_of_ble_eq_true rfl)
  rw [lg_entry_eq]
  suffices hw : sw p l e ({ frames := 0, cells := 0, slots := 0, locals := 0 } : Room) s m #[.ref b, .int x1] below meth c D (va_A [] s.heap.size) s.heap 3 0 0 (MQ below (ctQ D tys (va_A [] s.heap.size) pstA) #[.ref b, .int x1] s 0 0 (va_A [] s.heap.size)) [] 0 (lv_args 0 [.ref b, .int x1]) [] from
    hw s.heap [] _ (fun k q h => by simp at h) ⟨fun i j p q h => by simp at h, fun k q h => by simp at h⟩ va_S.rf hl
  refine sw_iload_n 0 1 C dL_cell_0 rfl rfl ?_
  refine sw_aload_n 1 0 C dL_cell_1 rfl rfl ?_
  refine sw_slen 2 C hX hbl hbA dL_cell_2 ?_
  refine sw_icmp_ge 3 12 C dL_cell_3 (by decide) (fun c_3 => ?_) (fun c_3 => ?_)
  · refine sw_ldc 12 C dL_cell_12 (C.w wQ_L_7) ?_
    refine sw_iload_n 14 1 C dL_cell_14 rfl rfl ?_
    refine sw_iconst 15 C dL_cell_15 3 (by decide) ?_
    refine sw_iadd 16 C dL_cell_16 ?_
    refine sw_imul 17 C dL_cell_17 ?_
    refine sw_istore_n 18 2 C dL_cell_18 rfl rfl ?_
    refine sw_iload_n 19 2 C dL_cell_19 rfl rfl ?_
    refine sw_iload_n 20 2 C dL_cell_20 rfl rfl ?_
    refine sw_bipush 21 C dL_cell_21 15 (by decide) ?_
    refine sw_iushr 23 C dL_cell_23 ?_
    refine sw_ixor 24 C dL_cell_24 ?_
    refine sw_iret 25 C RC dL_cell_25 ?_
    exact ⟨_, rfl, rfl⟩
  · obtain ⟨u, hu, e⟩ : ∃ u : Nat, u < LL ∧ x1 = nI u := by
      rcases pk_ix x1 (n := LL) (by omega) with q | q | q
      · exact absurd q (h0)
      · exact absurd q c_3
      · exact q
    refine sw_aload_n 6 0 C dL_cell_6 rfl rfl ?_
    refine sw_iload_n 7 1 C dL_cell_7 rfl rfl ?_
    refine sw_sld 8 (u) C hX hbl hbA dL_cell_8 e hu (by omega) ?_
    refine sw_goto 9 18 C dL_cell_9 (by decide) ?_
    refine sw_istore_n 18 2 C dL_cell_18 rfl rfl ?_
    refine sw_iload_n 19 2 C dL_cell_19 rfl rfl ?_
    refine sw_iload_n 20 2 C dL_cell_20 rfl rfl ?_
    refine sw_bipush 21 C dL_cell_21 15 (by decide) ?_
    refine sw_iushr 23 C dL_cell_23 ?_
    refine sw_ixor 24 C dL_cell_24 ?_
    refine sw_iret 25 C RC dL_cell_25 ?_
    exact ⟨_, rfl, rfl⟩
