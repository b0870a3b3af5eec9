theorem hd_X0_init : yX0_init.cls ≠ "java/lang/invoke/MethodHandle" ∧ yX0_init.cls ≠ "java/lang/invoke/VarHandle" ∧ (parseMethodDescriptor yX0_init.desc).map (fun d => d.parameters.length) = some 0 := by decide +kernel
theorem hd_X1_init : yX1_init.cls ≠ "java/lang/invoke/MethodHandle" ∧ yX1_init.cls ≠ "java/lang/invoke/VarHandle" ∧ (parseMethodDescriptor yX1_init.desc).map (fun d => d.parameters.length) = some 0 := by decide +kernel
theorem hd_X2_init : yX2_init.cls ≠ "java/lang/invoke/MethodHandle" ∧ yX2_init.cls ≠ "java/lang/invoke/VarHandle" ∧ (parseMethodDescriptor yX2_init.desc).map (fun d => d.parameters.length) = some 0 := by decide +kernel
theorem hd_X3_init : yX3_init.cls ≠ "java/lang/invoke/MethodHandle" ∧ yX3_init.cls ≠ "java/lang/invoke/VarHandle" ∧ (parseMethodDescriptor yX3_init.desc).map (fun d => d.parameters.length) = some 0 := by decide +kernel
theorem hd_X4_init : yX4_init.cls ≠ "java/lang/invoke/MethodHandle" ∧ yX4_init.cls ≠ "java/lang/invoke/VarHandle" ∧ (parseMethodDescriptor yX4_init.desc).map (fun d => d.parameters.length) = some 0 := by decide +kernel
theorem hd_X5_init : yX5_init.cls ≠ "java/lang/invoke/MethodHandle" ∧ yX5_init.cls ≠ "java/lang/invoke/VarHandle" ∧ (parseMethodDescriptor yX5_init.desc).map (fun d => d.parameters.length) = some 0 := by decide +kernel
theorem hd_X6_init : yX6_init.cls ≠ "java/lang/invoke/MethodHandle" ∧ yX6_init.cls ≠ "java/lang/invoke/VarHandle" ∧ (parseMethodDescriptor yX6_init.desc).map (fun d => d.parameters.length) = some 0 := by decide +kernel
/-! constructors -/
def xnwl : List (String × Nat × MethodName × String) := [(RX6, 9, yX4_init, RX6), (RX4, 24, yX2_init, RX6), (RX4, 31, yX0_init, RX6), (RX3, 17, yX4_init, RX6), (RX6, 28, yX1_init, RX6), (RX1, 11, yX5_init, RX6)]
def xN (U : State) : Prop := (∀ q ∈ xnwl, va_Nw (.methodLinkNest q.1 q.2.1 q.2.2.1 q.2.2.2) U) ∧ va_AO "PetitionBox$State" U
theorem xN.warm {s U : State} (hW : s.WarmedH U.vm) (h : xN s) : xN U := ⟨fun q hq => va_Nw.warmM hW (h.1 q hq), va_AO.moved hW.alike h.2⟩
theorem xN.same {u U : State} (hv : u.vm = U.vm) (h : xN u) : xN U := ⟨fun q hq => va_Nw.same rfl hv (h.1 q hq), va_AO.moved (hv ▸ Vm.Alike.refl u.vm) h.2⟩
section NSW
def nP (D : va_G) (tys : List (ClassId × FieldType)) (As : List Value) (wc : va_W) (sz : Nat) : Array Value → State → Prop := va_Pc As (fun U => U.heap.size = sz ∧ va_P D vwCl wc U.heap ∧ va_K D vwCl tys U ∧ va_D (fun _ => True) wc ∧ xN U)
def NCt (l : Launch) (y : MethodName) (cw : Cond) (fr lo mc ms : Nat) (D : va_G) (tys : List (ClassId × FieldType)) (As : List Value) (wc : va_W) (post : Option Value → va_W → Prop) : Prop :=
  ∀ sz : Nat, Met l y (cw :: lw_all) ({ frames := fr, cells := mc, slots := ms, locals := lo } : Room) (nP D tys As wc sz) (ctQ D tys (va_A wc sz) post) mc ms (va_A wc sz)
theorem nP_blind {D : va_G} {tys : List (ClassId × FieldType)} {As : List Value} {wc : va_W} {sz : Nat} : FrameBlind (nP D tys As wc sz) := fun a U g mk q => by
  obtain ⟨q0, q1, qP, qK, qD, qN⟩ := q
  exact ⟨q0, q1, qP, va_K.moved (u := U) (U := U.calling g mk a) (Vm.Alike.refl U.vm) qK, qD, xN.same (u := U) rfl qN⟩
variable {p : Program} {l : Launch} {e : Env} {R : Room} {s : State} {m : MethodId} {args : Array Value} {below : List Frame} {meth : Method} {c : Code} {D : va_G} {tys : List (ClassId × FieldType)} {A : Nat → Prop} {H0 : Heap} {nL k n : Nat} {Q : State → Prop} {ws : va_W} {L : List (Nat × Value)} {st : List Value} {cc : ByteArray} {own : String} {Ts : List Cond} {x0 : Cond}
theorem NCt.of {y : MethodName} {cc : ByteArray} {maxL : Nat} {ret : Option FieldType} {fr lo mc ms : Nat} {As : List Value} {wc : va_W} {post : Option Value → va_W → Prop} (own : String) (hy : plainName y.cls = true) (ho : y.cls = own) (hL : (lg_sl As).length ≤ maxL)
    (body : ∀ (p : Program) (e : Env) (s : State) (m : MethodId) (below : List Frame) (meth : Method) (c : Code) (A : Nat → Prop), CC p s m As.toArray c cc maxL own (Cond.code y cc maxL ret :: lw_all) D tys A s.heap → (meth.sig.returnType = ret ∧ meth.locks = false ∧ meth.name = y.name) → xN s →
      sw p l e ({ frames := fr, cells := mc, slots := ms, locals := lo } : Room) s m As.toArray below meth c D A s.heap maxL 0 0 (MQ below (ctQ D tys A post) As.toArray s mc ms A) wc 0 (lv_args 0 As) []) : NCt l y (Cond.code y cc maxL ret) fr lo mc ms D tys As wc post := by
  intro sz
  refine Met.ofW (cc := cc) (maxL := maxL) (ret := ret) hy rfl ?_
  intro p e s m args below meth c s₁ B hml hv
  obtain ⟨rfl, hsz, hP, hK, hD0, hN⟩ := hv
  subst hsz
  have hD := hD0.self (sz := s.heap.size)
  have hA : ∀ q : Nat, s.heap.size ≤ q → va_A wc s.heap.size q := fun q h => Or.inr h
  have hl := lv_entry As (n := maxL) hL
  rw [lg_entry_eq]
  exact body p e s m below meth c (va_A wc s.heap.size) ⟨⟨B.exec, B.bytes, hml, ho ▸ findClass_of_methodNamed B.named, atoms_spec B.pre⟩, hK, hA⟩ ⟨B.returns, B.notSynchronized, (name_of_methodNamed B.named B.method).1⟩ hN s.heap [] _ hP hD va_S.rf hl
theorem sw_callIN (pc : Nat) (isC : List Nat) (na : Nat) {fr lo mc ms maxL index b : Nat} {y : MethodName} {bytes : ByteArray} {wc : va_W} {As : List Value} {α : Type} {P : α → Prop} {Wf : α → va_W} {host : String} (C : CC p s m args c cc nL own (x0 :: lw_all) D tys A H0) (XN : xN s) (d : decode cc pc = .ok (.invokespecial index, 3)) (hM : NCt l y (Cond.code y bytes maxL none) fr lo mc ms D tys (.ref b :: As) wc (pstEV P Wf)) (g0 : Cond.code y bytes maxL none ∈ lw_all) (gl : (own, index, y, host) ∈ xnwl) (g2 : Cond.instanceMethod y ∈ lw_all) (g4 : Cond.initialized y.cls ∈ lw_all) (hy1 : y.name = "<init>")
    (hd : y.cls ≠ "java/lang/invoke/MethodHandle" ∧ y.cls ≠ "java/lang/invoke/VarHandle" ∧ (parseMethodDescriptor y.desc).map (fun d => d.parameters.length) = some na) (hna : As.length = na) (hR : Nat.ble (fr + 1) R.frames = true ∧ Nat.ble (8 + (maxL + 11) + lo) R.locals = true) (hf : k + mc ≤ R.cells ∧ n + ms ≤ R.slots) (hst : Nat.ble (st.map fun v => v.category).sum 8 = true) (hn : wnd isC = true) (hw : wall ws.length isC = true) (hlw : ∀ f, Nat.ble isC.length (Wf f).length = true) (hp : wpick ws isC = wc)
    (kk : ∀ f, P f → sw p l e R s m args below meth c D A H0 nL (k + mc) (n + ms) Q (wput ws isC (Wf f)) (pc + 3) L st) : sw p l e R s m args below meth c D A H0 nL k n Q ws pc L (As.reverse ++ .ref b :: st) := by
  subst hp
  have hw' := wall_lt hw
  have hn := wnd_nd hn
  intro H locs ls hP hD hS hl
  have hPc := wpick_P isC hP
  have hDc := wpick_D isC hD hn hw'
  have hFc := va_free (wc := wpick ws isC) hD hS C.hA isC (wpick_map isC ws hw')
  have hK := C.hK
  refine va_callg (va_runIN (As := As) (rest := st) C.1 (hM H.size) ⟨va_cnB na C.hts (goodC g0) rfl rfl rfl (XN.1 _ gl) (C.hts _ (List.mem_cons_of_mem _ g4)) hd ⟨Nat.le_of_ble_eq_true hR.1, Nat.le_of_ble_eq_true hR.2⟩, hy1, C.hts _ (List.mem_cons_of_mem _ g2)⟩ ⟨nP_blind, fun U hU hW => ⟨rfl, by rw [hU], by rw [hU]; exact hPc, va_K.moved hW.alike hK, hDc.weaken (fun _ _ _ _ => trivial), xN.warm hW XN⟩⟩ rfl hna hl.1 rfl (lv_room (Nat.le_of_ble_eq_true hst)) d hf) hS (fun q _ h => hFc q h) hFc (fun v w1 H1 locs1 hpost hP1 hD1 hz1 hk1 hS1 => ?_)
  obtain ⟨rfl, f, hf2, rfl⟩ := hpost
  obtain ⟨hP2, hD2⟩ := wput_ok isC hP hD hn hw' (Nat.le_of_ble_eq_true (hlw f)) hk1 hFc hP1 hD1
  exact kk f hf2 H1 locs1 ls hP2 hD2 hS1 hl
theorem sw_callIL (pc : Nat) (isC : List Nat) (na : Nat) {fr lo mc ms maxL index b : Nat} {y : MethodName} {bytes : ByteArray} {wc : va_W} {As : List Value} {α : Type} {P : α → Prop} {Wf : α → va_W} (C : CC p s m args c cc nL own (x0 :: lw_all) D tys A H0) (XN : xN s) (d : decode cc pc = .ok (.invokespecial index, 3)) (hM : NCt l y (Cond.code y bytes maxL none) fr lo mc ms D tys (.ref b :: As) wc (pstEV P Wf)) (g0 : Cond.code y bytes maxL none ∈ lw_all) (gl : Cond.methodLink own index y ∈ lw_all) (g2 : Cond.instanceMethod y ∈ lw_all) (g4 : Cond.initialized y.cls ∈ lw_all) (hy1 : y.name = "<init>")
    (hd : y.cls ≠ "java/lang/invoke/MethodHandle" ∧ y.cls ≠ "java/lang/invoke/VarHandle" ∧ (parseMethodDescriptor y.desc).map (fun d => d.parameters.length) = some na) (hna : As.length = na) (hR : Nat.ble (fr + 1) R.frames = true ∧ Nat.ble (8 + (maxL + 11) + lo) R.locals = true) (hf : k + mc ≤ R.cells ∧ n + ms ≤ R.slots) (hst : Nat.ble (st.map fun v => v.category).sum 8 = true) (hn : wnd isC = true) (hw : wall ws.length isC = true) (hlw : ∀ f, Nat.ble isC.length (Wf f).length = true) (hp : wpick ws isC = wc)
    (kk : ∀ f, P f → sw p l e R s m args below meth c D A H0 nL (k + mc) (n + ms) Q (wput ws isC (Wf f)) (pc + 3) L st) : sw p l e R s m args below meth c D A H0 nL k n Q ws pc L (As.reverse ++ .ref b :: st) := by
  subst hp
  have hw' := wall_lt hw
  have hn := wnd_nd hn
  intro H locs ls hP hD hS hl
  have hPc := wpick_P isC hP
  have hDc := wpick_D isC hD hn hw'
  have hFc := va_free (wc := wpick ws isC) hD hS C.hA isC (wpick_map isC ws hw')
  have hK := C.hK
  refine va_callg (va_runI (As := As) (rest := st) C.1 (hM H.size) (cwI na C.hts (goodC g0) rfl rfl rfl (C.hts _ (List.mem_cons_of_mem _ g4)) (C.hts _ (List.mem_cons_of_mem _ gl)) (C.hts _ (List.mem_cons_of_mem _ g2)) hy1 hd ⟨Nat.le_of_ble_eq_true hR.1, Nat.le_of_ble_eq_true hR.2⟩) ⟨nP_blind, fun U hU hW => ⟨rfl, by rw [hU], by rw [hU]; exact hPc, va_K.moved hW.alike hK, hDc.weaken (fun _ _ _ _ => trivial), xN.warm hW XN⟩⟩ rfl hna hl.1 rfl (lv_room (Nat.le_of_ble_eq_true hst)) d hf) hS (fun q _ h => hFc q h) hFc (fun v w1 H1 locs1 hpost hP1 hD1 hz1 hk1 hS1 => ?_)
  obtain ⟨rfl, f, hf2, rfl⟩ := hpost
  obtain ⟨hP2, hD2⟩ := wput_ok isC hP hD hn hw' (Nat.le_of_ble_eq_true (hlw f)) hk1 hFc hP1 hD1
  exact kk f hf2 H1 locs1 ls hP2 hD2 hS1 hl
end NSW
def pat0 : Nat → Int32 := upd (upd (upd (upd (fun _ => 0) 0 10) 1 8) 2 6) 3 4
def S00 : StT := ((3, 10, 0, 0, 0, 0), (0, 0), pat0, fun _ => 0, fun _ => 0, fun _ => 0, fun _ => 0)
set_option maxHeartbeats 4000000 in
set_option maxRecDepth 100000 in
theorem ct_X0_init (l : Launch) {D : va_G} {cI cJ cQ : ClassId} {a0 : Nat} : NCt l yX0_init (Cond.code yX0_init cX0_init 1 none) 1 20 1 80 D (tyz cI cJ cQ) [.ref a0] [(a0, .inr (0, [.int 0, .null]))] (pstEV (fun _ : Nat → Nat => True) (fun f => wLog a0 (f 0) cI 0 (fun _ => 0))) := by
  refine NCt.of RX0 (by decide) rfl (Nat.le_of_ble_eq_true rfl) ?_
  intro p e s m below meth c A C RC XN
  refine sw_aload_n 0 0 C dX0_init_0 rfl rfl ?_
  refine sw_objInit 1 C (C.w wM_X0_3) (C.w wN_Object_init___V) (C.w wK_Object_init___V) dX0_init_1 (Nat.le_of_ble_eq_true rfl) (Nat.le_of_ble_eq_true rfl) ?_
  refine sw_aload_n 4 0 C dX0_init_4 rfl rfl ?_
  refine sw_bipush 5 C dX0_init_5 80 (by decide) ?_
  refine sw_newI 7 0 C 80 (C.w wA_int) rfl (by decide) rfl (by decide) (Nat.le_of_ble_eq_true rfl) (Nat.le_of_ble_eq_true rfl) dX0_init_7 (fun q_7 => ?_)
  refine sw_ws [(_, .inr (0, [.int _, .null])), (_, .inl (_, _, .inl _))] rfl ?_
  refine sw_putF 9 0 1 tyX0 C dX0_init_9 rfl rfl (inA lwX0) tyX0_ok nmX0 (C.w wF_X0_9) rfl rfl rfl rfl RC.2.2 rfl rfl rfl rfl ?_
  refine sw_ws [(_, .inr (0, [.int _, .ref _])), (_, .inl (_, _, .inl _))] rfl ?_
  refine sw_vret 12 C RC dX0_init_12 ?_
  exact ⟨rfl, (fun i => ([q_7] : List Nat).getD i 0), trivial, rfl⟩
set_option maxHeartbeats 4000000 in
set_option maxRecDepth 100000 in
theorem ct_X2_init (l : Launch) {D : va_G} {cI cJ cQ : ClassId} {a0 : Nat} : NCt l yX2_init (Cond.code yX2_init cX2_init 1 none) 1 20 1 320 D (tyz cI cJ cQ) [.ref a0] [(a0, .inr (2, [.int 0, .null]))] (pstEV (fun _ : Nat → Nat => True) (fun f => wPet a0 (f 0) cI 0 (fun _ => 0))) := by
  refine NCt.of RX2 (by decide) rfl (Nat.le_of_ble_eq_true rfl) ?_
  intro p e s m below meth c A C RC XN
  refine sw_aload_n 0 0 C dX2_init_0 rfl rfl ?_
  refine sw_objInit 1 C (C.w wM_X2_3) (C.w wN_Object_init___V) (C.w wK_Object_init___V) dX2_init_1 (Nat.le_of_ble_eq_true rfl) (Nat.le_of_ble_eq_true rfl) ?_
  refine sw_aload_n 4 0 C dX2_init_4 rfl rfl ?_
  refine sw_sipush 5 C dX2_init_5 320 (by decide) ?_
  refine sw_newI 8 0 C 320 (C.w wA_int) rfl (by decide) rfl (by decide) (Nat.le_of_ble_eq_true rfl) (Nat.le_of_ble_eq_true rfl) dX2_init_8 (fun q_8 => ?_)
  refine sw_ws [(_, .inr (2, [.int _, .null])), (_, .inl (_, _, .inl _))] rfl ?_
  refine sw_putF 10 0 1 tyX2 C dX2_init_10 rfl rfl (inA lwX2) tyX2_ok nmX2 (C.w wF_X2_9) rfl rfl rfl rfl RC.2.2 rfl rfl rfl rfl ?_
  refine sw_ws [(_, .inr (2, [.int _, .ref _])), (_, .inl (_, _, .inl _))] rfl ?_
  refine sw_vret 13 C RC dX2_init_13 ?_
  exact ⟨rfl, (fun i => ([q_8] : List Nat).getD i 0), trivial, rfl⟩
set_option maxHeartbeats 4000000 in
set_option maxRecDepth 100000 in
theorem ct_X5_init (l : Launch) {D : va_G} {cI cJ cQ : ClassId} {a0 : Nat} : NCt l yX5_init (Cond.code yX5_init cX5_init 1 none) 1 20 1 100 D (tyz cI cJ cQ) [.ref a0] [(a0, .inr (5, [.int 0, .null]))] (pstEV (fun _ : Nat → Nat => True) (fun f => [(a0, .inr (5, [.int (nI 0), .ref (f 0)])), (f 0, .inl (cI, 100, .inl (fun _ => 0)))])) := by
  refine NCt.of RX5 (by decide) rfl (Nat.le_of_ble_eq_true rfl) ?_
  intro p e s m below meth c A C RC XN
  refine sw_aload_n 0 0 C dX5_init_0 rfl rfl ?_
  refine sw_objInit 1 C (C.w wM_X5_3) (C.w wN_Object_init___V) (C.w wK_Object_init___V) dX5_init_1 (Nat.le_of_ble_eq_true rfl) (Nat.le_of_ble_eq_true rfl) ?_
  refine sw_aload_n 4 0 C dX5_init_4 rfl rfl ?_
  refine sw_bipush 5 C dX5_init_5 100 (by decide) ?_
  refine sw_newI 7 0 C 100 (C.w wA_int) rfl (by decide) rfl (by decide) (Nat.le_of_ble_eq_true rfl) (Nat.le_of_ble_eq_true rfl) dX5_init_7 (fun q_7 => ?_)
  refine sw_ws [(_, .inr (5, [.int _, .null])), (_, .inl (_, _, .inl _))] rfl ?_
  refine sw_putF 9 0 1 tyX5 C dX5_init_9 rfl rfl (inA lwX5) tyX5_ok nmX5 (C.w wF_X5_9) rfl rfl rfl rfl RC.2.2 rfl rfl rfl rfl ?_
  refine sw_ws [(_, .inr (5, [.int _, .ref _])), (_, .inl (_, _, .inl _))] rfl ?_
  refine sw_vret 12 C RC dX5_init_12 ?_
  exact ⟨rfl, (fun i => ([q_7] : List Nat).getD i 0), trivial, rfl⟩
set_option maxHeartbeats 4000000 in
set_option maxRecDepth 100000 in
theorem ct_X4_init (l : Launch) {D : va_G} {cI cJ cQ : ClassId} {a0 : Nat} : NCt l yX4_init (Cond.code yX4_init cX4_init 1 none) 2 40 7 419 D (tyz cI cJ cQ) [.ref a0] [(a0, .inr (4, [.int 0, .int 0, .int 0, .null, .null, .null, .int 0, .int 0, .int 0, .null, .null]))] (pstEV (fun _ : Nat → Nat => True) (fun f => wSt a0 (f 0) (f 1) (f 2) (f 3) (f 4) (f 5) (f 6) cI S00)) := by
  refine NCt.of RX4 (by decide) rfl (Nat.le_of_ble_eq_true rfl) ?_
  intro p e s m below meth c A C RC XN
  refine sw_aload_n 0 0 C dX4_init_0 rfl rfl ?_
  refine sw_objInit 1 C (C.w wM_X4_3) (C.w wN_Object_init___V) (C.w wK_Object_init___V) dX4_init_1 (Nat.le_of_ble_eq_true rfl) (Nat.le_of_ble_eq_true rfl) ?_
  refine sw_aload_n 4 0 C dX4_init_4 rfl rfl ?_
  refine sw_iconst 5 C dX4_init_5 3 (by decide) ?_
  refine sw_put 6 0 0 tyX4 C dX4_init_6 rfl rfl (inA lwX4) tyX4_ok nmX4 (C.w wF_X4_9) rfl rfl rfl rfl rfl rfl rfl ?_
  refine sw_ws [(_, .inr (4, [.int _, .int _, .int _, .null, .null, .null, .int _, .int _, .int _, .null, .null]))] rfl ?_
  refine sw_aload_n 9 0 C dX4_init_9 rfl rfl ?_
  refine sw_bipush 10 C dX4_init_10 10 (by decide) ?_
  refine sw_put 12 0 1 tyX4 C dX4_init_12 rfl rfl (inA lwX4) tyX4_ok nmX4 (C.w wF_X4_15) rfl rfl rfl rfl rfl rfl rfl ?_
  refine sw_ws [(_, .inr (4, [.int _, .int _, .int _, .null, .null, .null, .int _, .int _, .int _, .null, .null]))] rfl ?_
  refine sw_aload_n 15 0 C dX4_init_15 rfl rfl ?_
  refine sw_iconst 16 C dX4_init_16 4 (by decide) ?_
  refine sw_newI 17 0 C 4 (C.w wA_int) rfl (by decide) rfl (by decide) (Nat.le_of_ble_eq_true rfl) (Nat.le_of_ble_eq_true rfl) dX4_init_17 (fun q_17 => ?_)
  refine sw_ws [(_, .inr (4, [.int _, .int _, .int _, .null, .null, .null, .int _, .int _, .int _, .null, .null])), (_, .inl (_, _, .inl _))] rfl ?_
  refine sw_dup 19 C dX4_init_19 rfl ?_
  refine sw_iconst 20 C dX4_init_20 0 (by decide) ?_
  refine sw_bipush 21 C dX4_init_21 10 (by decide) ?_
  refine sw_iastN 23 1 0 (0) C dX4_init_23 rfl (by decide) rfl rfl rfl ?_
  refine sw_ws [(_, .inr (4, [.int _, .int _, .int _, .null, .null, .null, .int _, .int _, .int _, .null, .null])), (_, .inl (_, _, .inl _))] rfl ?_
  refine sw_dup 24 C dX4_init_24 rfl ?_
  refine sw_iconst 25 C dX4_init_25 1 (by decide) ?_
  refine sw_bipush 26 C dX4_init_26 8 (by decide) ?_
  refine sw_iastN 28 1 0 (1) C dX4_init_28 rfl (by decide) rfl rfl rfl ?_
  refine sw_ws [(_, .inr (4, [.int _, .int _, .int _, .null, .null, .null, .int _, .int _, .int _, .null, .null])), (_, .inl (_, _, .inl _))] rfl ?_
  refine sw_dup 29 C dX4_init_29 rfl ?_
  refine sw_iconst 30 C dX4_init_30 2 (by decide) ?_
  refine sw_bipush 31 C dX4_init_31 6 (by decide) ?_
  refine sw_iastN 33 1 0 (2) C dX4_init_33 rfl (by decide) rfl rfl rfl ?_
  refine sw_ws [(_, .inr (4, [.int _, .int _, .int _, .null, .null, .null, .int _, .int _, .int _, .null, .null])), (_, .inl (_, _, .inl _))] rfl ?_
  refine sw_dup 34 C dX4_init_34 rfl ?_
  refine sw_iconst 35 C dX4_init_35 3 (by decide) ?_
  refine sw_iconst 36 C dX4_init_36 4 (by decide) ?_
  refine sw_iastN 37 1 0 (3) C dX4_init_37 rfl (by decide) rfl rfl rfl ?_
  refine sw_ws [(_, .inr (4, [.int _, .int _, .int _, .null, .null, .null, .int _, .int _, .int _, .null, .null])), (_, .inl (_, _, .inl _))] rfl ?_
  refine sw_putF 38 0 3 tyX4 C dX4_init_38 rfl rfl (inA lwX4) tyX4_ok nmX4 (C.w wF_X4_18) rfl rfl rfl rfl RC.2.2 rfl rfl rfl rfl ?_
  refine sw_ws [(_, .inr (4, [.int _, .int _, .int _, .ref _, .null, .null, .int _, .int _, .int _, .null, .null])), (_, .inl (_, _, .inl _))] rfl ?_
  refine sw_aload_n 41 0 C dX4_init_41 rfl rfl ?_
  refine sw_new 42 tyX2 [.int 0, .null] C (inA lwX2) tyX2_ok (C.w wC_X4_22) (C.w wZ_X2) (C.w wI_X2) (ci := 2) rfl (fun j hj => by rcases (show j = 0 ∨ j = 1 by omega) with rfl | rfl <;> rfl) (Nat.le_of_ble_eq_true rfl) (Nat.le_of_ble_eq_true rfl) dX4_init_42 (fun q_42 => ?_)
  refine sw_ws [(_, .inr (4, [.int _, .int _, .int _, .ref _, .null, .null, .int _, .int _, .int _, .null, .null])), (_, .inl (_, _, .inl _)), (_, .inr (2, [.int _, .null]))] rfl ?_
  refine sw_dup 45 C dX4_init_45 rfl ?_
  refine sw_callIN 46 [2] 0 C XN dX4_init_46 (ct_X2_init l) wK_X2_init (List.mem_of_getElem? (i := 1) rfl) wN_X2_init wI_X2 rfl hd_X2_init rfl ⟨rfl, rfl⟩ ⟨Nat.le_of_ble_eq_true rfl, Nat.le_of_ble_eq_true rfl⟩ rfl rfl rfl (fun _ => rfl) rfl (fun f_46 _ => ?_)
  refine sw_ws [(_, .inr (4, [.int _, .int _, .int _, .ref _, .null, .null, .int _, .int _, .int _, .null, .null])), (_, .inl (_, _, .inl _)), (_, .inr (2, [.int _, .ref _])), (_, .inl (_, _, .inl _))] rfl ?_
  refine sw_putF 49 0 4 tyX4 C dX4_init_49 rfl rfl (inA lwX4) tyX4_ok nmX4 (C.w wF_X4_25) rfl rfl rfl rfl RC.2.2 rfl rfl rfl rfl ?_
  refine sw_ws [(_, .inr (4, [.int _, .int _, .int _, .ref _, .ref _, .null, .int _, .int _, .int _, .null, .null])), (_, .inl (_, _, .inl _)), (_, .inr (2, [.int _, .ref _])), (_, .inl (_, _, .inl _))] rfl ?_
  refine sw_aload_n 52 0 C dX4_init_52 rfl rfl ?_
  refine sw_new 53 tyX0 [.int 0, .null] C (inA lwX0) tyX0_ok (C.w wC_X4_29) (C.w wZ_X0) (C.w wI_X0) (ci := 0) rfl (fun j hj => by rcases (show j = 0 ∨ j = 1 by omega) with rfl | rfl <;> rfl) (Nat.le_of_ble_eq_true rfl) (Nat.le_of_ble_eq_true rfl) dX4_init_53 (fun q_53 => ?_)
  refine sw_ws [(_, .inr (4, [.int _, .int _, .int _, .ref _, .ref _, .null, .int _, .int _, .int _, .null, .null])), (_, .inl (_, _, .inl _)), (_, .inr (2, [.int _, .ref _])), (_, .inl (_, _, .inl _)), (_, .inr (0, [.int _, .null]))] rfl ?_
  refine sw_dup 56 C dX4_init_56 rfl ?_
  refine sw_callIN 57 [4] 0 C XN dX4_init_57 (ct_X0_init l) wK_X0_init (List.mem_of_getElem? (i := 2) rfl) wN_X0_init wI_X0 rfl hd_X0_init rfl ⟨rfl, rfl⟩ ⟨Nat.le_of_ble_eq_true rfl, Nat.le_of_ble_eq_true rfl⟩ rfl rfl rfl (fun _ => rfl) rfl (fun f_57 _ => ?_)
  refine sw_ws [(_, .inr (4, [.int _, .int _, .int _, .ref _, .ref _, .null, .int _, .int _, .int _, .null, .null])), (_, .inl (_, _, .inl _)), (_, .inr (2, [.int _, .ref _])), (_, .inl (_, _, .inl _)), (_, .inr (0, [.int _, .ref _])), (_, .inl (_, _, .inl _))] rfl ?_
  refine sw_putF 60 0 5 tyX4 C dX4_init_60 rfl rfl (inA lwX4) tyX4_ok nmX4 (C.w wF_X4_32) rfl rfl rfl rfl RC.2.2 rfl rfl rfl rfl ?_
  refine sw_ws [(_, .inr (4, [.int _, .int _, .int _, .ref _, .ref _, .ref _, .int _, .int _, .int _, .null, .null])), (_, .inl (_, _, .inl _)), (_, .inr (2, [.int _, .ref _])), (_, .inl (_, _, .inl _)), (_, .inr (0, [.int _, .ref _])), (_, .inl (_, _, .inl _))] rfl ?_
  refine sw_aload_n 63 0 C dX4_init_63 rfl rfl ?_
  refine sw_iconst 64 C dX4_init_64 3 (by decide) ?_
  refine sw_newI 65 0 C 3 (C.w wA_int) rfl (by decide) rfl (by decide) (Nat.le_of_ble_eq_true rfl) (Nat.le_of_ble_eq_true rfl) dX4_init_65 (fun q_65 => ?_)
  refine sw_ws [(_, .inr (4, [.int _, .int _, .int _, .ref _, .ref _, .ref _, .int _, .int _, .int _, .null, .null])), (_, .inl (_, _, .inl _)), (_, .inr (2, [.int _, .ref _])), (_, .inl (_, _, .inl _)), (_, .inr (0, [.int _, .ref _])), (_, .inl (_, _, .inl _)), (_, .inl (_, _, .inl _))] rfl ?_
  refine sw_putF 67 0 9 tyX4 C dX4_init_67 rfl rfl (inA lwX4) tyX4_ok nmX4 (C.w wF_X4_36) rfl rfl rfl rfl RC.2.2 rfl rfl rfl rfl ?_
  refine sw_ws [(_, .inr (4, [.int _, .int _, .int _, .ref _, .ref _, .ref _, .int _, .int _, .int _, .ref _, .null])), (_, .inl (_, _, .inl _)), (_, .inr (2, [.int _, .ref _])), (_, .inl (_, _, .inl _)), (_, .inr (0, [.int _, .ref _])), (_, .inl (_, _, .inl _)), (_, .inl (_, _, .inl _))] rfl ?_
  refine sw_aload_n 70 0 C dX4_init_70 rfl rfl ?_
  refine sw_bipush 71 C dX4_init_71 8 (by decide) ?_
  refine sw_newI 73 0 C 8 (C.w wA_int) rfl (by decide) rfl (by decide) (Nat.le_of_ble_eq_true rfl) (Nat.le_of_ble_eq_true rfl) dX4_init_73 (fun q_73 => ?_)
  refine sw_ws [(_, .inr (4, [.int _, .int _, .int _, .ref _, .ref _, .ref _, .int _, .int _, .int _, .ref _, .null])), (_, .inl (_, _, .inl _)), (_, .inr (2, [.int _, .ref _])), (_, .inl (_, _, .inl _)), (_, .inr (0, [.int _, .ref _])), (_, .inl (_, _, .inl _)), (_, .inl (_, _, .inl _)), (_, .inl (_, _, .inl _))] rfl ?_
  refine sw_putF 75 0 10 tyX4 C dX4_init_75 rfl rfl (inA lwX4) tyX4_ok nmX4 (C.w wF_X4_39) rfl rfl rfl rfl RC.2.2 rfl rfl rfl rfl ?_
  refine sw_ws [(_, .inr (4, [.int _, .int _, .int _, .ref _, .ref _, .ref _, .int _, .int _, .int _, .ref _, .ref _])), (_, .inl (_, _, .inl _)), (_, .inr (2, [.int _, .ref _])), (_, .inl (_, _, .inl _)), (_, .inr (0, [.int _, .ref _])), (_, .inl (_, _, .inl _)), (_, .inl (_, _, .inl _)), (_, .inl (_, _, .inl _))] rfl ?_
  refine sw_vret 78 C RC dX4_init_78 ?_
  exact ⟨rfl, (fun i => ([q_17, q_42, f_46 0, q_53, f_57 0, q_65, q_73] : List Nat).getD i 0), trivial, rfl⟩
set_option maxHeartbeats 4000000 in
set_option maxRecDepth 100000 in
theorem ct_X1_init (l : Launch) {D : va_G} {cI cJ cQ : ClassId} {a0 : Nat} : NCt l yX1_init (Cond.code yX1_init cX1_init 1 none) 2 40 2 102 D (tyz cI cJ cQ) [.ref a0] [(a0, .inr (1, [.null, .int 0, .int 0, .int 0, .int 0, .int 0, .int 0, .int 0, .int 0]))] (pstEV (fun _ : Nat → Nat => True) (fun f => wRd a0 (f 0) (f 1) cI 0 (fun _ => 0) ((0, 0, 0, 0, 0, 0), 0, -1))) := by
  refine NCt.of RX1 (by decide) rfl (Nat.le_of_ble_eq_true rfl) ?_
  intro p e s m below meth c A C RC XN
  refine sw_aload_n 0 0 C dX1_init_0 rfl rfl ?_
  refine sw_objInit 1 C (C.w wM_X1_3) (C.w wN_Object_init___V) (C.w wK_Object_init___V) dX1_init_1 (Nat.le_of_ble_eq_true rfl) (Nat.le_of_ble_eq_true rfl) ?_
  refine sw_aload_n 4 0 C dX1_init_4 rfl rfl ?_
  refine sw_new 5 tyX5 [.int 0, .null] C (inA lwX5) tyX5_ok (C.w wC_X1_9) (C.w wZ_X5) (C.w wI_X5) (ci := 5) rfl (fun j hj => by rcases (show j = 0 ∨ j = 1 by omega) with rfl | rfl <;> rfl) (Nat.le_of_ble_eq_true rfl) (Nat.le_of_ble_eq_true rfl) dX1_init_5 (fun q_5 => ?_)
  refine sw_ws [(_, .inr (1, [.null, .int _, .int _, .int _, .int _, .int _, .int _, .int _, .int _])), (_, .inr (5, [.int _, .null]))] rfl ?_
  refine sw_dup 8 C dX1_init_8 rfl ?_
  refine sw_callIN 9 [1] 0 C XN dX1_init_9 (ct_X5_init l) wK_X5_init (List.mem_of_getElem? (i := 5) rfl) wN_X5_init wI_X5 rfl hd_X5_init rfl ⟨rfl, rfl⟩ ⟨Nat.le_of_ble_eq_true rfl, Nat.le_of_ble_eq_true rfl⟩ rfl rfl rfl (fun _ => rfl) rfl (fun f_9 _ => ?_)
  refine sw_ws [(_, .inr (1, [.null, .int _, .int _, .int _, .int _, .int _, .int _, .int _, .int _])), (_, .inr (5, [.int _, .ref _])), (_, .inl (_, _, .inl _))] rfl ?_
  refine sw_putF 12 0 0 tyX1 C dX1_init_12 rfl rfl (inA lwX1) tyX1_ok nmX1 (C.w wF_X1_12) rfl rfl rfl rfl RC.2.2 rfl rfl rfl rfl ?_
  refine sw_ws [(_, .inr (1, [.ref _, .int _, .int _, .int _, .int _, .int _, .int _, .int _, .int _])), (_, .inr (5, [.int _, .ref _])), (_, .inl (_, _, .inl _))] rfl ?_
  refine sw_aload_n 15 0 C dX1_init_15 rfl rfl ?_
  refine sw_iconst 16 C dX1_init_16 (-1) (by decide) ?_
  refine sw_put 17 0 8 tyX1 C dX1_init_17 rfl rfl (inA lwX1) tyX1_ok nmX1 (C.w wF_X1_18) rfl rfl rfl rfl rfl rfl rfl ?_
  refine sw_ws [(_, .inr (1, [.ref _, .int _, .int _, .int _, .int _, .int _, .int _, .int _, .int _])), (_, .inr (5, [.int _, .ref _])), (_, .inl (_, _, .inl _))] rfl ?_
  refine sw_vret 20 C RC dX1_init_20 ?_
  exact ⟨rfl, (fun i => ([q_5, f_9 0] : List Nat).getD i 0), trivial, rfl⟩
set_option maxHeartbeats 4000000 in
set_option maxRecDepth 100000 in
theorem ct_X3_init (l : Launch) {D : va_G} {cI cJ cQ : ClassId} {a0 : Nat} : NCt l yX3_init (Cond.code yX3_init cX3_init 2 none) 3 60 33 1724 D (tyz cI cJ cQ) [.ref a0] [(a0, .inr (3, [.int 0, .int 0, .null]))] (pstEV (fun _ : Nat → Nat => True) (fun f => ((a0, .inr (3, [.int (nI 0), .int (nI 0), .ref (f 0)])) :: (f 0, .inl (cQ, 4, .inr (.inr (.inr (.inr (va_up (va_up (va_up (va_up (fun _ => none) 0 (some (f 1))) 1 (some (f 9))) 2 (some (f 17))) 3 (some (f 25)))))))) :: []) ++ wSt (f 1) (f 2) (f 3) (f 4) (f 5) (f 6) (f 7) (f 8) cI S00 ++ wSt (f 9) (f 10) (f 11) (f 12) (f 13) (f 14) (f 15) (f 16) cI S00 ++ wSt (f 17) (f 18) (f 19) (f 20) (f 21) (f 22) (f 23) (f 24) cI S00 ++ wSt (f 25) (f 26) (f 27) (f 28) (f 29) (f 30) (f 31) (f 32) cI S00)) := by
  refine NCt.of RX3 (by decide) rfl (Nat.le_of_ble_eq_true rfl) ?_
  intro p e s m below meth c A C RC XN
  refine sw_aload_n 0 0 C dX3_init_0 rfl rfl ?_
  refine sw_objInit 1 C (C.w wM_X3_3) (C.w wN_Object_init___V) (C.w wK_Object_init___V) dX3_init_1 (Nat.le_of_ble_eq_true rfl) (Nat.le_of_ble_eq_true rfl) ?_
  refine sw_aload_n 4 0 C dX3_init_4 rfl rfl ?_
  refine sw_iconst 5 C dX3_init_5 4 (by decide) ?_
  refine sw_newQ 6 2 C 4 XN.2 (C.w wC_X3_9) rfl (by decide) rfl (by decide) (Nat.le_of_ble_eq_true rfl) (Nat.le_of_ble_eq_true rfl) dX3_init_6 (fun q_6 => ?_)
  refine sw_ws [(_, .inr (3, [.int _, .int _, .null])), (_, .inl (_, _, .inr (.inr (.inr (.inr _)))))] rfl ?_
  refine sw_putF 9 0 2 tyX3 C dX3_init_9 rfl rfl (inA lwX3) tyX3_ok nmX3 (C.w wF_X3_11) rfl rfl rfl rfl RC.2.2 rfl rfl rfl rfl ?_
  refine sw_ws [(_, .inr (3, [.int _, .int _, .ref _])), (_, .inl (_, _, .inr (.inr (.inr (.inr _)))))] rfl ?_
  refine sw_iconst 12 C dX3_init_12 0 (by decide) ?_
  refine sw_istore_n 13 1 C dX3_init_13 rfl rfl ?_
  refine sw_iload_n 14 1 C dX3_init_14 rfl rfl ?_
  refine sw_iconst 15 C dX3_init_15 4 (by decide) ?_
  refine sw_icmp_ge 16 38 C dX3_init_16 (by decide) (fun c_16 => ?_) (fun c_16 => ?_)
  · exact by first | exact absurd c_16 (by decide) | exact absurd (by decide) c_16
  refine sw_aload_n 19 0 C dX3_init_19 rfl rfl ?_
  refine sw_get 20 0 2 C dX3_init_20 rfl rfl (inA lwX3) (C.w wF_X3_11) rfl rfl rfl ?_
  refine sw_iload_n 23 1 C dX3_init_23 rfl rfl ?_
  refine sw_new 24 tyX4 [.int 0, .int 0, .int 0, .null, .null, .null, .int 0, .int 0, .int 0, .null, .null] C (inA lwX4) tyX4_ok (C.w wC_X3_9) (C.w wZ_X4) (C.w wI_X4) (ci := 4) rfl (fun j hj => by rcases (show j = 0 ∨ j = 1 ∨ j = 2 ∨ j = 3 ∨ j = 4 ∨ j = 5 ∨ j = 6 ∨ j = 7 ∨ j = 8 ∨ j = 9 ∨ j = 10 by omega) with rfl | rfl | rfl | rfl | rfl | rfl | rfl | rfl | rfl | rfl | rfl <;> rfl) (Nat.le_of_ble_eq_true rfl) (Nat.le_of_ble_eq_true rfl) dX3_init_24 (fun q_24 => ?_)
  refine sw_ws [(_, .inr (3, [.int _, .int _, .ref _])), (_, .inl (_, _, .inr (.inr (.inr (.inr _))))), (_, .inr (4, [.int _, .int _, .int _, .null, .null, .null, .int _, .int _, .int _, .null, .null]))] rfl ?_
  refine sw_dup 27 C dX3_init_27 rfl ?_
  refine sw_callIN 28 [2] 0 C XN dX3_init_28 (ct_X4_init l) wK_X4_init (List.mem_of_getElem? (i := 3) rfl) wN_X4_init wI_X4 rfl hd_X4_init rfl ⟨rfl, rfl⟩ ⟨Nat.le_of_ble_eq_true rfl, Nat.le_of_ble_eq_true rfl⟩ rfl rfl rfl (fun _ => rfl) rfl (fun f_28 _ => ?_)
  refine sw_ws [(_, .inr (3, [.int _, .int _, .ref _])), (_, .inl (_, _, .inr (.inr (.inr (.inr _))))), (_, .inr (4, [.int _, .int _, .int _, .ref _, .ref _, .ref _, .int _, .int _, .int _, .ref _, .ref _])), (_, .inl (_, _, .inl _)), (_, .inr (2, [.int _, .ref _])), (_, .inl (_, _, .inl _)), (_, .inr (0, [.int _, .ref _])), (_, .inl (_, _, .inl _)), (_, .inl (_, _, .inl _)), (_, .inl (_, _, .inl _))] rfl ?_
  refine sw_aast 31 1 2 2 C dX3_init_31 (vp_in_nI (n := 0) (by decide) (by decide)) rfl rfl rfl rfl ?_
  refine sw_ws [(_, .inr (3, [.int _, .int _, .ref _])), (_, .inl (_, _, .inr (.inr (.inr (.inr _))))), (_, .inr (4, [.int _, .int _, .int _, .ref _, .ref _, .ref _, .int _, .int _, .int _, .ref _, .ref _])), (_, .inl (_, _, .inl _)), (_, .inr (2, [.int _, .ref _])), (_, .inl (_, _, .inl _)), (_, .inr (0, [.int _, .ref _])), (_, .inl (_, _, .inl _)), (_, .inl (_, _, .inl _)), (_, .inl (_, _, .inl _))] rfl ?_
  refine sw_iinc 32 C 1 dX3_init_32 (by decide) rfl rfl ?_
  refine sw_loc (L1 := [(0, .ref _), (1, .int _)]) ?_ rfl
  refine sw_loc (L1 := [(0, .ref _), (1, .int 1)]) ?_ rfl
  refine sw_goto 35 14 C dX3_init_35 (by decide) ?_
  refine sw_iload_n 14 1 C dX3_init_14 rfl rfl ?_
  refine sw_iconst 15 C dX3_init_15 4 (by decide) ?_
  refine sw_icmp_ge 16 38 C dX3_init_16 (by decide) (fun c_16 => ?_) (fun c_16 => ?_)
  · exact by first | exact absurd c_16 (by decide) | exact absurd (by decide) c_16
  refine sw_aload_n 19 0 C dX3_init_19 rfl rfl ?_
  refine sw_get 20 0 2 C dX3_init_20 rfl rfl (inA lwX3) (C.w wF_X3_11) rfl rfl rfl ?_
  refine sw_iload_n 23 1 C dX3_init_23 rfl rfl ?_
  refine sw_new 24 tyX4 [.int 0, .int 0, .int 0, .null, .null, .null, .int 0, .int 0, .int 0, .null, .null] C (inA lwX4) tyX4_ok (C.w wC_X3_9) (C.w wZ_X4) (C.w wI_X4) (ci := 4) rfl (fun j hj => by rcases (show j = 0 ∨ j = 1 ∨ j = 2 ∨ j = 3 ∨ j = 4 ∨ j = 5 ∨ j = 6 ∨ j = 7 ∨ j = 8 ∨ j = 9 ∨ j = 10 by omega) with rfl | rfl | rfl | rfl | rfl | rfl | rfl | rfl | rfl | rfl | rfl <;> rfl) (Nat.le_of_ble_eq_true rfl) (Nat.le_of_ble_eq_true rfl) dX3_init_24 (fun q_24_1 => ?_)
  refine sw_ws [(_, .inr (3, [.int _, .int _, .ref _])), (_, .inl (_, _, .inr (.inr (.inr (.inr _))))), (_, .inr (4, [.int _, .int _, .int _, .ref _, .ref _, .ref _, .int _, .int _, .int _, .ref _, .ref _])), (_, .inl (_, _, .inl _)), (_, .inr (2, [.int _, .ref _])), (_, .inl (_, _, .inl _)), (_, .inr (0, [.int _, .ref _])), (_, .inl (_, _, .inl _)), (_, .inl (_, _, .inl _)), (_, .inl (_, _, .inl _)), (_, .inr (4, [.int _, .int _, .int _, .null, .null, .null, .int _, .int _, .int _, .null, .null]))] rfl ?_
  refine sw_dup 27 C dX3_init_27 rfl ?_
  refine sw_callIN 28 [10] 0 C XN dX3_init_28 (ct_X4_init l) wK_X4_init (List.mem_of_getElem? (i := 3) rfl) wN_X4_init wI_X4 rfl hd_X4_init rfl ⟨rfl, rfl⟩ ⟨Nat.le_of_ble_eq_true rfl, Nat.le_of_ble_eq_true rfl⟩ rfl rfl rfl (fun _ => rfl) rfl (fun f_28_1 _ => ?_)
  refine sw_ws [(_, .inr (3, [.int _, .int _, .ref _])), (_, .inl (_, _, .inr (.inr (.inr (.inr _))))), (_, .inr (4, [.int _, .int _, .int _, .ref _, .ref _, .ref _, .int _, .int _, .int _, .ref _, .ref _])), (_, .inl (_, _, .inl _)), (_, .inr (2, [.int _, .ref _])), (_, .inl (_, _, .inl _)), (_, .inr (0, [.int _, .ref _])), (_, .inl (_, _, .inl _)), (_, .inl (_, _, .inl _)), (_, .inl (_, _, .inl _)), (_, .inr (4, [.int _, .int _, .int _, .ref _, .ref _, .ref _, .int _, .int _, .int _, .ref _, .ref _])), (_, .inl (_, _, .inl _)), (_, .inr (2, [.int _, .ref _])), (_, .inl (_, _, .inl _)), (_, .inr (0, [.int _, .ref _])), (_, .inl (_, _, .inl _)), (_, .inl (_, _, .inl _)), (_, .inl (_, _, .inl _))] rfl ?_
  refine sw_aast 31 1 2 10 C dX3_init_31 (vp_in_nI (n := 1) (by decide) (by decide)) rfl rfl rfl rfl ?_
  refine sw_ws [(_, .inr (3, [.int _, .int _, .ref _])), (_, .inl (_, _, .inr (.inr (.inr (.inr _))))), (_, .inr (4, [.int _, .int _, .int _, .ref _, .ref _, .ref _, .int _, .int _, .int _, .ref _, .ref _])), (_, .inl (_, _, .inl _)), (_, .inr (2, [.int _, .ref _])), (_, .inl (_, _, .inl _)), (_, .inr (0, [.int _, .ref _])), (_, .inl (_, _, .inl _)), (_, .inl (_, _, .inl _)), (_, .inl (_, _, .inl _)), (_, .inr (4, [.int _, .int _, .int _, .ref _, .ref _, .ref _, .int _, .int _, .int _, .ref _, .ref _])), (_, .inl (_, _, .inl _)), (_, .inr (2, [.int _, .ref _])), (_, .inl (_, _, .inl _)), (_, .inr (0, [.int _, .ref _])), (_, .inl (_, _, .inl _)), (_, .inl (_, _, .inl _)), (_, .inl (_, _, .inl _))] rfl ?_
  refine sw_iinc 32 C 1 dX3_init_32 (by decide) rfl rfl ?_
  refine sw_loc (L1 := [(0, .ref _), (1, .int 2)]) ?_ rfl
  refine sw_goto 35 14 C dX3_init_35 (by decide) ?_
  refine sw_iload_n 14 1 C dX3_init_14 rfl rfl ?_
  refine sw_iconst 15 C dX3_init_15 4 (by decide) ?_
  refine sw_icmp_ge 16 38 C dX3_init_16 (by decide) (fun c_16 => ?_) (fun c_16 => ?_)
  · exact by first | exact absurd c_16 (by decide) | exact absurd (by decide) c_16
  refine sw_aload_n 19 0 C dX3_init_19 rfl rfl ?_
  refine sw_get 20 0 2 C dX3_init_20 rfl rfl (inA lwX3) (C.w wF_X3_11) rfl rfl rfl ?_
  refine sw_iload_n 23 1 C dX3_init_23 rfl rfl ?_
  refine sw_new 24 tyX4 [.int 0, .int 0, .int 0, .null, .null, .null, .int 0, .int 0, .int 0, .null, .null] C (inA lwX4) tyX4_ok (C.w wC_X3_9) (C.w wZ_X4) (C.w wI_X4) (ci := 4) rfl (fun j hj => by rcases (show j = 0 ∨ j = 1 ∨ j = 2 ∨ j = 3 ∨ j = 4 ∨ j = 5 ∨ j = 6 ∨ j = 7 ∨ j = 8 ∨ j = 9 ∨ j = 10 by omega) with rfl | rfl | rfl | rfl | rfl | rfl | rfl | rfl | rfl | rfl | rfl <;> rfl) (Nat.le_of_ble_eq_true rfl) (Nat.le_of_ble_eq_true rfl) dX3_init_24 (fun q_24_2 => ?_)
  refine sw_ws [(_, .inr (3, [.int _, .int _, .ref _])), (_, .inl (_, _, .inr (.inr (.inr (.inr _))))), (_, .inr (4, [.int _, .int _, .int _, .ref _, .ref _, .ref _, .int _, .int _, .int _, .ref _, .ref _])), (_, .inl (_, _, .inl _)), (_, .inr (2, [.int _, .ref _])), (_, .inl (_, _, .inl _)), (_, .inr (0, [.int _, .ref _])), (_, .inl (_, _, .inl _)), (_, .inl (_, _, .inl _)), (_, .inl (_, _, .inl _)), (_, .inr (4, [.int _, .int _, .int _, .ref _, .ref _, .ref _, .int _, .int _, .int _, .ref _, .ref _])), (_, .inl (_, _, .inl _)), (_, .inr (2, [.int _, .ref _])), (_, .inl (_, _, .inl _)), (_, .inr (0, [.int _, .ref _])), (_, .inl (_, _, .inl _)), (_, .inl (_, _, .inl _)), (_, .inl (_, _, .inl _)), (_, .inr (4, [.int _, .int _, .int _, .null, .null, .null, .int _, .int _, .int _, .null, .null]))] rfl ?_
  refine sw_dup 27 C dX3_init_27 rfl ?_
  refine sw_callIN 28 [18] 0 C XN dX3_init_28 (ct_X4_init l) wK_X4_init (List.mem_of_getElem? (i := 3) rfl) wN_X4_init wI_X4 rfl hd_X4_init rfl ⟨rfl, rfl⟩ ⟨Nat.le_of_ble_eq_true rfl, Nat.le_of_ble_eq_true rfl⟩ rfl rfl rfl (fun _ => rfl) rfl (fun f_28_2 _ => ?_)
  refine sw_ws [(_, .inr (3, [.int _, .int _, .ref _])), (_, .inl (_, _, .inr (.inr (.inr (.inr _))))), (_, .inr (4, [.int _, .int _, .int _, .ref _, .ref _, .ref _, .int _, .int _, .int _, .ref _, .ref _])), (_, .inl (_, _, .inl _)), (_, .inr (2, [.int _, .ref _])), (_, .inl (_, _, .inl _)), (_, .inr (0, [.int _, .ref _])), (_, .inl (_, _, .inl _)), (_, .inl (_, _, .inl _)), (_, .inl (_, _, .inl _)), (_, .inr (4, [.int _, .int _, .int _, .ref _, .ref _, .ref _, .int _, .int _, .int _, .ref _, .ref _])), (_, .inl (_, _, .inl _)), (_, .inr (2, [.int _, .ref _])), (_, .inl (_, _, .inl _)), (_, .inr (0, [.int _, .ref _])), (_, .inl (_, _, .inl _)), (_, .inl (_, _, .inl _)), (_, .inl (_, _, .inl _)), (_, .inr (4, [.int _, .int _, .int _, .ref _, .ref _, .ref _, .int _, .int _, .int _, .ref _, .ref _])), (_, .inl (_, _, .inl _)), (_, .inr (2, [.int _, .ref _])), (_, .inl (_, _, .inl _)), (_, .inr (0, [.int _, .ref _])), (_, .inl (_, _, .inl _)), (_, .inl (_, _, .inl _)), (_, .inl (_, _, .inl _))] rfl ?_
  refine sw_aast 31 1 2 18 C dX3_init_31 (vp_in_nI (n := 2) (by decide) (by decide)) rfl rfl rfl rfl ?_
  refine sw_ws [(_, .inr (3, [.int _, .int _, .ref _])), (_, .inl (_, _, .inr (.inr (.inr (.inr _))))), (_, .inr (4, [.int _, .int _, .int _, .ref _, .ref _, .ref _, .int _, .int _, .int _, .ref _, .ref _])), (_, .inl (_, _, .inl _)), (_, .inr (2, [.int _, .ref _])), (_, .inl (_, _, .inl _)), (_, .inr (0, [.int _, .ref _])), (_, .inl (_, _, .inl _)), (_, .inl (_, _, .inl _)), (_, .inl (_, _, .inl _)), (_, .inr (4, [.int _, .int _, .int _, .ref _, .ref _, .ref _, .int _, .int _, .int _, .ref _, .ref _])), (_, .inl (_, _, .inl _)), (_, .inr (2, [.int _, .ref _])), (_, .inl (_, _, .inl _)), (_, .inr (0, [.int _, .ref _])), (_, .inl (_, _, .inl _)), (_, .inl (_, _, .inl _)), (_, .inl (_, _, .inl _)), (_, .inr (4, [.int _, .int _, .int _, .ref _, .ref _, .ref _, .int _, .int _, .int _, .ref _, .ref _])), (_, .inl (_, _, .inl _)), (_, .inr (2, [.int _, .ref _])), (_, .inl (_, _, .inl _)), (_, .inr (0, [.int _, .ref _])), (_, .inl (_, _, .inl _)), (_, .inl (_, _, .inl _)), (_, .inl (_, _, .inl _))] rfl ?_
  refine sw_iinc 32 C 1 dX3_init_32 (by decide) rfl rfl ?_
  refine sw_loc (L1 := [(0, .ref _), (1, .int _)]) ?_ rfl
  refine sw_loc (L1 := [(0, .ref _), (1, .int 3)]) ?_ rfl
  refine sw_goto 35 14 C dX3_init_35 (by decide) ?_
  refine sw_iload_n 14 1 C dX3_init_14 rfl rfl ?_
  refine sw_iconst 15 C dX3_init_15 4 (by decide) ?_
  refine sw_icmp_ge 16 38 C dX3_init_16 (by decide) (fun c_16 => ?_) (fun c_16 => ?_)
  · exact by first | exact absurd c_16 (by decide) | exact absurd (by decide) c_16
  refine sw_aload_n 19 0 C dX3_init_19 rfl rfl ?_
  refine sw_get 20 0 2 C dX3_init_20 rfl rfl (inA lwX3) (C.w wF_X3_11) rfl rfl rfl ?_
  refine sw_iload_n 23 1 C dX3_init_23 rfl rfl ?_
  refine sw_new 24 tyX4 [.int 0, .int 0, .int 0, .null, .null, .null, .int 0, .int 0, .int 0, .null, .null] C (inA lwX4) tyX4_ok (C.w wC_X3_9) (C.w wZ_X4) (C.w wI_X4) (ci := 4) rfl (fun j hj => by rcases (show j = 0 ∨ j = 1 ∨ j = 2 ∨ j = 3 ∨ j = 4 ∨ j = 5 ∨ j = 6 ∨ j = 7 ∨ j = 8 ∨ j = 9 ∨ j = 10 by omega) with rfl | rfl | rfl | rfl | rfl | rfl | rfl | rfl | rfl | rfl | rfl <;> rfl) (Nat.le_of_ble_eq_true rfl) (Nat.le_of_ble_eq_true rfl) dX3_init_24 (fun q_24_3 => ?_)
  refine sw_ws [(_, .inr (3, [.int _, .int _, .ref _])), (_, .inl (_, _, .inr (.inr (.inr (.inr _))))), (_, .inr (4, [.int _, .int _, .int _, .ref _, .ref _, .ref _, .int _, .int _, .int _, .ref _, .ref _])), (_, .inl (_, _, .inl _)), (_, .inr (2, [.int _, .ref _])), (_, .inl (_, _, .inl _)), (_, .inr (0, [.int _, .ref _])), (_, .inl (_, _, .inl _)), (_, .inl (_, _, .inl _)), (_, .inl (_, _, .inl _)), (_, .inr (4, [.int _, .int _, .int _, .ref _, .ref _, .ref _, .int _, .int _, .int _, .ref _, .ref _])), (_, .inl (_, _, .inl _)), (_, .inr (2, [.int _, .ref _])), (_, .inl (_, _, .inl _)), (_, .inr (0, [.int _, .ref _])), (_, .inl (_, _, .inl _)), (_, .inl (_, _, .inl _)), (_, .inl (_, _, .inl _)), (_, .inr (4, [.int _, .int _, .int _, .ref _, .ref _, .ref _, .int _, .int _, .int _, .ref _, .ref _])), (_, .inl (_, _, .inl _)), (_, .inr (2, [.int _, .ref _])), (_, .inl (_, _, .inl _)), (_, .inr (0, [.int _, .ref _])), (_, .inl (_, _, .inl _)), (_, .inl (_, _, .inl _)), (_, .inl (_, _, .inl _)), (_, .inr (4, [.int _, .int _, .int _, .null, .null, .null, .int _, .int _, .int _, .null, .null]))] rfl ?_
  refine sw_dup 27 C dX3_init_27 rfl ?_
  refine sw_callIN 28 [26] 0 C XN dX3_init_28 (ct_X4_init l) wK_X4_init (List.mem_of_getElem? (i := 3) rfl) wN_X4_init wI_X4 rfl hd_X4_init rfl ⟨rfl, rfl⟩ ⟨Nat.le_of_ble_eq_true rfl, Nat.le_of_ble_eq_true rfl⟩ rfl rfl rfl (fun _ => rfl) rfl (fun f_28_3 _ => ?_)
  refine sw_ws ((_, .inr (3, [.int _, .int _, .ref _])) :: (_, .inl (_, _, .inr (.inr (.inr (.inr _))))) :: (_, .inr (4, [.int _, .int _, .int _, .ref _, .ref _, .ref _, .int _, .int _, .int _, .ref _, .ref _])) :: (_, .inl (_, _, .inl _)) :: (_, .inr (2, [.int _, .ref _])) :: (_, .inl (_, _, .inl _)) :: (_, .inr (0, [.int _, .ref _])) :: (_, .inl (_, _, .inl _)) :: (_, .inl (_, _, .inl _)) :: (_, .inl (_, _, .inl _)) :: (_, .inr (4, [.int _, .int _, .int _, .ref _, .ref _, .ref _, .int _, .int _, .int _, .ref _, .ref _])) :: (_, .inl (_, _, .inl _)) :: (_, .inr (2, [.int _, .ref _])) :: (_, .inl (_, _, .inl _)) :: (_, .inr (0, [.int _, .ref _])) :: (_, .inl (_, _, .inl _)) :: (_, .inl (_, _, .inl _)) :: (_, .inl (_, _, .inl _)) :: (_, .inr (4, [.int _, .int _, .int _, .ref _, .ref _, .ref _, .int _, .int _, .int _, .ref _, .ref _])) :: (_, .inl (_, _, .inl _)) :: (_, .inr (2, [.int _, .ref _])) :: (_, .inl (_, _, .inl _)) :: (_, .inr (0, [.int _, .ref _])) :: (_, .inl (_, _, .inl _)) :: (_, .inl (_, _, .inl _)) :: (_, .inl (_, _, .inl _)) :: (_, .inr (4, [.int _, .int _, .int _, .ref _, .ref _, .ref _, .int _, .int _, .int _, .ref _, .ref _])) :: (_, .inl (_, _, .inl _)) :: (_, .inr (2, [.int _, .ref _])) :: (_, .inl (_, _, .inl _)) :: (_, .inr (0, [.int _, .ref _])) :: (_, .inl (_, _, .inl _)) :: (_, .inl (_, _, .inl _)) :: (_, .inl (_, _, .inl _)) :: []) rfl ?_
  refine sw_aast 31 1 2 26 C dX3_init_31 (vp_in_nI (n := 3) (by decide) (by decide)) rfl rfl rfl rfl ?_
  refine sw_ws ((_, .inr (3, [.int _, .int _, .ref _])) :: (_, .inl (_, _, .inr (.inr (.inr (.inr _))))) :: (_, .inr (4, [.int _, .int _, .int _, .ref _, .ref _, .ref _, .int _, .int _, .int _, .ref _, .ref _])) :: (_, .inl (_, _, .inl _)) :: (_, .inr (2, [.int _, .ref _])) :: (_, .inl (_, _, .inl _)) :: (_, .inr (0, [.int _, .ref _])) :: (_, .inl (_, _, .inl _)) :: (_, .inl (_, _, .inl _)) :: (_, .inl (_, _, .inl _)) :: (_, .inr (4, [.int _, .int _, .int _, .ref _, .ref _, .ref _, .int _, .int _, .int _, .ref _, .ref _])) :: (_, .inl (_, _, .inl _)) :: (_, .inr (2, [.int _, .ref _])) :: (_, .inl (_, _, .inl _)) :: (_, .inr (0, [.int _, .ref _])) :: (_, .inl (_, _, .inl _)) :: (_, .inl (_, _, .inl _)) :: (_, .inl (_, _, .inl _)) :: (_, .inr (4, [.int _, .int _, .int _, .ref _, .ref _, .ref _, .int _, .int _, .int _, .ref _, .ref _])) :: (_, .inl (_, _, .inl _)) :: (_, .inr (2, [.int _, .ref _])) :: (_, .inl (_, _, .inl _)) :: (_, .inr (0, [.int _, .ref _])) :: (_, .inl (_, _, .inl _)) :: (_, .inl (_, _, .inl _)) :: (_, .inl (_, _, .inl _)) :: (_, .inr (4, [.int _, .int _, .int _, .ref _, .ref _, .ref _, .int _, .int _, .int _, .ref _, .ref _])) :: (_, .inl (_, _, .inl _)) :: (_, .inr (2, [.int _, .ref _])) :: (_, .inl (_, _, .inl _)) :: (_, .inr (0, [.int _, .ref _])) :: (_, .inl (_, _, .inl _)) :: (_, .inl (_, _, .inl _)) :: (_, .inl (_, _, .inl _)) :: []) rfl ?_
  refine sw_iinc 32 C 1 dX3_init_32 (by decide) rfl rfl ?_
  refine sw_loc (L1 := [(0, .ref _), (1, .int 4)]) ?_ rfl
  refine sw_goto 35 14 C dX3_init_35 (by decide) ?_
  refine sw_iload_n 14 1 C dX3_init_14 rfl rfl ?_
  refine sw_iconst 15 C dX3_init_15 4 (by decide) ?_
  refine sw_icmp_ge 16 38 C dX3_init_16 (by decide) (fun c_16 => ?_) (fun c_16 => ?_)
  rotate_left
  · exact by first | exact absurd c_16 (by decide) | exact absurd (by decide) c_16
  refine sw_vret 38 C RC dX3_init_38 ?_
  exact ⟨rfl, (fun i => ([q_6, q_24, f_28 0, f_28 1, f_28 2, f_28 3, f_28 4, f_28 5, f_28 6, q_24_1, f_28_1 0, f_28_1 1, f_28_1 2, f_28_1 3, f_28_1 4, f_28_1 5, f_28_1 6, q_24_2, f_28_2 0, f_28_2 1, f_28_2 2, f_28_2 3, f_28_2 4, f_28_2 5, f_28_2 6, q_24_3, f_28_3 0, f_28_3 1, f_28_3 2, f_28_3 3, f_28_3 4, f_28_3 5, f_28_3 6] : List Nat).getD i 0), trivial, rfl⟩
set_option maxHeartbeats 4000000 in
set_option maxRecDepth 100000 in
theorem ct_X6_init (l : Launch) {D : va_G} {cI cJ cQ : ClassId} {a0 : Nat} : NCt l yX6_init (Cond.code yX6_init cX6_init 1 none) 4 81 54 2738 D (tyz cI cJ cQ) [.ref a0] [(a0, .inr (6, [.null, .null, .null, .null, .null]))] (pstEV (fun _ : Nat → Nat => True) (fun f => ([(a0, .inr (6, [.ref (f 0), .ref (f 8), .ref (f 16), .ref (f 50), .ref (f 53)]))] ++ (wSt (f 0) (f 1) (f 2) (f 3) (f 4) (f 5) (f 6) (f 7) cI S00 ++ (wSt (f 8) (f 9) (f 10) (f 11) (f 12) (f 13) (f 14) (f 15) cI S00 ++ ((((f 16), .inr (3, [.int (nI 0), .int (nI 0), .ref (f 17)])) :: ((f 17), .inl (cQ, 4, .inr (.inr (.inr (.inr (va_up (va_up (va_up (va_up (fun _ => none) 0 (some (f 18))) 1 (some (f 26))) 2 (some (f 34))) 3 (some (f 42)))))))) :: []) ++ (wSt (f 18) (f 19) (f 20) (f 21) (f 22) (f 23) (f 24) (f 25) cI S00 ++ (wSt (f 26) (f 27) (f 28) (f 29) (f 30) (f 31) (f 32) (f 33) cI S00 ++ (wSt (f 34) (f 35) (f 36) (f 37) (f 38) (f 39) (f 40) (f 41) cI S00 ++ (wSt (f 42) (f 43) (f 44) (f 45) (f 46) (f 47) (f 48) (f 49) cI S00 ++ (wRd (f 50) (f 51) (f 52) cI 0 (fun _ => 0) ((0, 0, 0, 0, 0, 0), 0, -1) ++ [((f 53), .inl (cI, 40, .inl (fun _ => 0)))]))))))))))) := by
  refine NCt.of RX6 (by decide) rfl (Nat.le_of_ble_eq_true rfl) ?_
  intro p e s m below meth c A C RC XN
  refine sw_aload_n 0 0 C dX6_init_0 rfl rfl ?_
  refine sw_objInit 1 C (C.w wM_X6_1) (C.w wN_Object_init___V) (C.w wK_Object_init___V) dX6_init_1 (Nat.le_of_ble_eq_true rfl) (Nat.le_of_ble_eq_true rfl) ?_
  refine sw_aload_n 4 0 C dX6_init_4 rfl rfl ?_
  refine sw_new 5 tyX4 [.int 0, .int 0, .int 0, .null, .null, .null, .int 0, .int 0, .int 0, .null, .null] C (inA lwX4) tyX4_ok (C.w wC_X6_7) (C.w wZ_X4) (C.w wI_X4) (ci := 4) rfl (fun j hj => by rcases (show j = 0 ∨ j = 1 ∨ j = 2 ∨ j = 3 ∨ j = 4 ∨ j = 5 ∨ j = 6 ∨ j = 7 ∨ j = 8 ∨ j = 9 ∨ j = 10 by omega) with rfl | rfl | rfl | rfl | rfl | rfl | rfl | rfl | rfl | rfl | rfl <;> rfl) (Nat.le_of_ble_eq_true rfl) (Nat.le_of_ble_eq_true rfl) dX6_init_5 (fun q_5 => ?_)
  refine sw_ws [(_, .inr (6, [.null, .null, .null, .null, .null])), (_, .inr (4, [.int _, .int _, .int _, .null, .null, .null, .int _, .int _, .int _, .null, .null]))] rfl ?_
  refine sw_dup 8 C dX6_init_8 rfl ?_
  refine sw_callIN 9 [1] 0 C XN dX6_init_9 (ct_X4_init l) wK_X4_init (List.mem_of_getElem? (i := 0) rfl) wN_X4_init wI_X4 rfl hd_X4_init rfl ⟨rfl, rfl⟩ ⟨Nat.le_of_ble_eq_true rfl, Nat.le_of_ble_eq_true rfl⟩ rfl rfl rfl (fun _ => rfl) rfl (fun f_9 _ => ?_)
  refine sw_ws [(_, .inr (6, [.null, .null, .null, .null, .null])), (_, .inr (4, [.int _, .int _, .int _, .ref _, .ref _, .ref _, .int _, .int _, .int _, .ref _, .ref _])), (_, .inl (_, _, .inl _)), (_, .inr (2, [.int _, .ref _])), (_, .inl (_, _, .inl _)), (_, .inr (0, [.int _, .ref _])), (_, .inl (_, _, .inl _)), (_, .inl (_, _, .inl _)), (_, .inl (_, _, .inl _))] rfl ?_
  refine sw_putF 12 0 0 tyX6 C dX6_init_12 rfl rfl (inA lwX6) tyX6_ok nmX6 (C.w wF_X6_10) rfl rfl rfl rfl RC.2.2 rfl rfl rfl rfl ?_
  refine sw_ws [(_, .inr (6, [.ref _, .null, .null, .null, .null])), (_, .inr (4, [.int _, .int _, .int _, .ref _, .ref _, .ref _, .int _, .int _, .int _, .ref _, .ref _])), (_, .inl (_, _, .inl _)), (_, .inr (2, [.int _, .ref _])), (_, .inl (_, _, .inl _)), (_, .inr (0, [.int _, .ref _])), (_, .inl (_, _, .inl _)), (_, .inl (_, _, .inl _)), (_, .inl (_, _, .inl _))] rfl ?_
  refine sw_aload_n 15 0 C dX6_init_15 rfl rfl ?_
  refine sw_new 16 tyX4 [.int 0, .int 0, .int 0, .null, .null, .null, .int 0, .int 0, .int 0, .null, .null] C (inA lwX4) tyX4_ok (C.w wC_X6_7) (C.w wZ_X4) (C.w wI_X4) (ci := 4) rfl (fun j hj => by rcases (show j = 0 ∨ j = 1 ∨ j = 2 ∨ j = 3 ∨ j = 4 ∨ j = 5 ∨ j = 6 ∨ j = 7 ∨ j = 8 ∨ j = 9 ∨ j = 10 by omega) with rfl | rfl | rfl | rfl | rfl | rfl | rfl | rfl | rfl | rfl | rfl <;> rfl) (Nat.le_of_ble_eq_true rfl) (Nat.le_of_ble_eq_true rfl) dX6_init_16 (fun q_16 => ?_)
  refine sw_ws [(_, .inr (6, [.ref _, .null, .null, .null, .null])), (_, .inr (4, [.int _, .int _, .int _, .ref _, .ref _, .ref _, .int _, .int _, .int _, .ref _, .ref _])), (_, .inl (_, _, .inl _)), (_, .inr (2, [.int _, .ref _])), (_, .inl (_, _, .inl _)), (_, .inr (0, [.int _, .ref _])), (_, .inl (_, _, .inl _)), (_, .inl (_, _, .inl _)), (_, .inl (_, _, .inl _)), (_, .inr (4, [.int _, .int _, .int _, .null, .null, .null, .int _, .int _, .int _, .null, .null]))] rfl ?_
  refine sw_dup 19 C dX6_init_19 rfl ?_
  refine sw_callIN 20 [9] 0 C XN dX6_init_20 (ct_X4_init l) wK_X4_init (List.mem_of_getElem? (i := 0) rfl) wN_X4_init wI_X4 rfl hd_X4_init rfl ⟨rfl, rfl⟩ ⟨Nat.le_of_ble_eq_true rfl, Nat.le_of_ble_eq_true rfl⟩ rfl rfl rfl (fun _ => rfl) rfl (fun f_20 _ => ?_)
  refine sw_ws [(_, .inr (6, [.ref _, .null, .null, .null, .null])), (_, .inr (4, [.int _, .int _, .int _, .ref _, .ref _, .ref _, .int _, .int _, .int _, .ref _, .ref _])), (_, .inl (_, _, .inl _)), (_, .inr (2, [.int _, .ref _])), (_, .inl (_, _, .inl _)), (_, .inr (0, [.int _, .ref _])), (_, .inl (_, _, .inl _)), (_, .inl (_, _, .inl _)), (_, .inl (_, _, .inl _)), (_, .inr (4, [.int _, .int _, .int _, .ref _, .ref _, .ref _, .int _, .int _, .int _, .ref _, .ref _])), (_, .inl (_, _, .inl _)), (_, .inr (2, [.int _, .ref _])), (_, .inl (_, _, .inl _)), (_, .inr (0, [.int _, .ref _])), (_, .inl (_, _, .inl _)), (_, .inl (_, _, .inl _)), (_, .inl (_, _, .inl _))] rfl ?_
  refine sw_putF 23 0 1 tyX6 C dX6_init_23 rfl rfl (inA lwX6) tyX6_ok nmX6 (C.w wF_X6_16) rfl rfl rfl rfl RC.2.2 rfl rfl rfl rfl ?_
  refine sw_ws [(_, .inr (6, [.ref _, .ref _, .null, .null, .null])), (_, .inr (4, [.int _, .int _, .int _, .ref _, .ref _, .ref _, .int _, .int _, .int _, .ref _, .ref _])), (_, .inl (_, _, .inl _)), (_, .inr (2, [.int _, .ref _])), (_, .inl (_, _, .inl _)), (_, .inr (0, [.int _, .ref _])), (_, .inl (_, _, .inl _)), (_, .inl (_, _, .inl _)), (_, .inl (_, _, .inl _)), (_, .inr (4, [.int _, .int _, .int _, .ref _, .ref _, .ref _, .int _, .int _, .int _, .ref _, .ref _])), (_, .inl (_, _, .inl _)), (_, .inr (2, [.int _, .ref _])), (_, .inl (_, _, .inl _)), (_, .inr (0, [.int _, .ref _])), (_, .inl (_, _, .inl _)), (_, .inl (_, _, .inl _)), (_, .inl (_, _, .inl _))] rfl ?_
  refine sw_aload_n 26 0 C dX6_init_26 rfl rfl ?_
  refine sw_new 27 tyX3 [.int 0, .int 0, .null] C (inA lwX3) tyX3_ok (C.w wC_X6_19) (C.w wZ_X3) (C.w wI_X3) (ci := 3) rfl (fun j hj => by rcases (show j = 0 ∨ j = 1 ∨ j = 2 by omega) with rfl | rfl | rfl <;> rfl) (Nat.le_of_ble_eq_true rfl) (Nat.le_of_ble_eq_true rfl) dX6_init_27 (fun q_27 => ?_)
  refine sw_ws [(_, .inr (6, [.ref _, .ref _, .null, .null, .null])), (_, .inr (4, [.int _, .int _, .int _, .ref _, .ref _, .ref _, .int _, .int _, .int _, .ref _, .ref _])), (_, .inl (_, _, .inl _)), (_, .inr (2, [.int _, .ref _])), (_, .inl (_, _, .inl _)), (_, .inr (0, [.int _, .ref _])), (_, .inl (_, _, .inl _)), (_, .inl (_, _, .inl _)), (_, .inl (_, _, .inl _)), (_, .inr (4, [.int _, .int _, .int _, .ref _, .ref _, .ref _, .int _, .int _, .int _, .ref _, .ref _])), (_, .inl (_, _, .inl _)), (_, .inr (2, [.int _, .ref _])), (_, .inl (_, _, .inl _)), (_, .inr (0, [.int _, .ref _])), (_, .inl (_, _, .inl _)), (_, .inl (_, _, .inl _)), (_, .inl (_, _, .inl _)), (_, .inr (3, [.int _, .int _, .null]))] rfl ?_
  refine sw_dup 30 C dX6_init_30 rfl ?_
  refine sw_callIL 31 [17] 0 C XN dX6_init_31 (ct_X3_init l) wK_X3_init wM_X6_21 wN_X3_init wI_X3 rfl hd_X3_init rfl ⟨rfl, rfl⟩ ⟨Nat.le_of_ble_eq_true rfl, Nat.le_of_ble_eq_true rfl⟩ rfl rfl rfl (fun _ => rfl) rfl (fun f_31 _ => ?_)
  refine sw_ws ((_, .inr (6, [.ref _, .ref _, .null, .null, .null])) :: (_, .inr (4, [.int _, .int _, .int _, .ref _, .ref _, .ref _, .int _, .int _, .int _, .ref _, .ref _])) :: (_, .inl (_, _, .inl _)) :: (_, .inr (2, [.int _, .ref _])) :: (_, .inl (_, _, .inl _)) :: (_, .inr (0, [.int _, .ref _])) :: (_, .inl (_, _, .inl _)) :: (_, .inl (_, _, .inl _)) :: (_, .inl (_, _, .inl _)) :: (_, .inr (4, [.int _, .int _, .int _, .ref _, .ref _, .ref _, .int _, .int _, .int _, .ref _, .ref _])) :: (_, .inl (_, _, .inl _)) :: (_, .inr (2, [.int _, .ref _])) :: (_, .inl (_, _, .inl _)) :: (_, .inr (0, [.int _, .ref _])) :: (_, .inl (_, _, .inl _)) :: (_, .inl (_, _, .inl _)) :: (_, .inl (_, _, .inl _)) :: (_, .inr (3, [.int _, .int _, .ref _])) :: (_, .inl (_, _, .inr (.inr (.inr (.inr _))))) :: (_, .inr (4, [.int _, .int _, .int _, .ref _, .ref _, .ref _, .int _, .int _, .int _, .ref _, .ref _])) :: (_, .inl (_, _, .inl _)) :: (_, .inr (2, [.int _, .ref _])) :: (_, .inl (_, _, .inl _)) :: (_, .inr (0, [.int _, .ref _])) :: (_, .inl (_, _, .inl _)) :: (_, .inl (_, _, .inl _)) :: (_, .inl (_, _, .inl _)) :: (_, .inr (4, [.int _, .int _, .int _, .ref _, .ref _, .ref _, .int _, .int _, .int _, .ref _, .ref _])) :: (_, .inl (_, _, .inl _)) :: (_, .inr (2, [.int _, .ref _])) :: (_, .inl (_, _, .inl _)) :: (_, .inr (0, [.int _, .ref _])) :: (_, .inl (_, _, .inl _)) :: (_, .inl (_, _, .inl _)) :: (_, .inl (_, _, .inl _)) :: (_, .inr (4, [.int _, .int _, .int _, .ref _, .ref _, .ref _, .int _, .int _, .int _, .ref _, .ref _])) :: (_, .inl (_, _, .inl _)) :: (_, .inr (2, [.int _, .ref _])) :: (_, .inl (_, _, .inl _)) :: (_, .inr (0, [.int _, .ref _])) :: (_, .inl (_, _, .inl _)) :: (_, .inl (_, _, .inl _)) :: (_, .inl (_, _, .inl _)) :: (_, .inr (4, [.int _, .int _, .int _, .ref _, .ref _, .ref _, .int _, .int _, .int _, .ref _, .ref _])) :: (_, .inl (_, _, .inl _)) :: (_, .inr (2, [.int _, .ref _])) :: (_, .inl (_, _, .inl _)) :: (_, .inr (0, [.int _, .ref _])) :: (_, .inl (_, _, .inl _)) :: (_, .inl (_, _, .inl _)) :: (_, .inl (_, _, .inl _)) :: []) rfl ?_
  refine sw_putF 34 0 2 tyX6 C dX6_init_34 rfl rfl (inA lwX6) tyX6_ok nmX6 (C.w wF_X6_22) rfl rfl rfl rfl RC.2.2 rfl rfl rfl rfl ?_
  refine sw_ws ((_, .inr (6, [.ref _, .ref _, .ref _, .null, .null])) :: (_, .inr (4, [.int _, .int _, .int _, .ref _, .ref _, .ref _, .int _, .int _, .int _, .ref _, .ref _])) :: (_, .inl (_, _, .inl _)) :: (_, .inr (2, [.int _, .ref _])) :: (_, .inl (_, _, .inl _)) :: (_, .inr (0, [.int _, .ref _])) :: (_, .inl (_, _, .inl _)) :: (_, .inl (_, _, .inl _)) :: (_, .inl (_, _, .inl _)) :: (_, .inr (4, [.int _, .int _, .int _, .ref _, .ref _, .ref _, .int _, .int _, .int _, .ref _, .ref _])) :: (_, .inl (_, _, .inl _)) :: (_, .inr (2, [.int _, .ref _])) :: (_, .inl (_, _, .inl _)) :: (_, .inr (0, [.int _, .ref _])) :: (_, .inl (_, _, .inl _)) :: (_, .inl (_, _, .inl _)) :: (_, .inl (_, _, .inl _)) :: (_, .inr (3, [.int _, .int _, .ref _])) :: (_, .inl (_, _, .inr (.inr (.inr (.inr _))))) :: (_, .inr (4, [.int _, .int _, .int _, .ref _, .ref _, .ref _, .int _, .int _, .int _, .ref _, .ref _])) :: (_, .inl (_, _, .inl _)) :: (_, .inr (2, [.int _, .ref _])) :: (_, .inl (_, _, .inl _)) :: (_, .inr (0, [.int _, .ref _])) :: (_, .inl (_, _, .inl _)) :: (_, .inl (_, _, .inl _)) :: (_, .inl (_, _, .inl _)) :: (_, .inr (4, [.int _, .int _, .int _, .ref _, .ref _, .ref _, .int _, .int _, .int _, .ref _, .ref _])) :: (_, .inl (_, _, .inl _)) :: (_, .inr (2, [.int _, .ref _])) :: (_, .inl (_, _, .inl _)) :: (_, .inr (0, [.int _, .ref _])) :: (_, .inl (_, _, .inl _)) :: (_, .inl (_, _, .inl _)) :: (_, .inl (_, _, .inl _)) :: (_, .inr (4, [.int _, .int _, .int _, .ref _, .ref _, .ref _, .int _, .int _, .int _, .ref _, .ref _])) :: (_, .inl (_, _, .inl _)) :: (_, .inr (2, [.int _, .ref _])) :: (_, .inl (_, _, .inl _)) :: (_, .inr (0, [.int _, .ref _])) :: (_, .inl (_, _, .inl _)) :: (_, .inl (_, _, .inl _)) :: (_, .inl (_, _, .inl _)) :: (_, .inr (4, [.int _, .int _, .int _, .ref _, .ref _, .ref _, .int _, .int _, .int _, .ref _, .ref _])) :: (_, .inl (_, _, .inl _)) :: (_, .inr (2, [.int _, .ref _])) :: (_, .inl (_, _, .inl _)) :: (_, .inr (0, [.int _, .ref _])) :: (_, .inl (_, _, .inl _)) :: (_, .inl (_, _, .inl _)) :: (_, .inl (_, _, .inl _)) :: []) rfl ?_
  refine sw_aload_n 37 0 C dX6_init_37 rfl rfl ?_
  refine sw_new 38 tyX1 [.null, .int 0, .int 0, .int 0, .int 0, .int 0, .int 0, .int 0, .int 0] C (inA lwX1) tyX1_ok (C.w wC_X6_26) (C.w wZ_X1) (C.w wI_X1) (ci := 1) rfl (fun j hj => by rcases (show j = 0 ∨ j = 1 ∨ j = 2 ∨ j = 3 ∨ j = 4 ∨ j = 5 ∨ j = 6 ∨ j = 7 ∨ j = 8 by omega) with rfl | rfl | rfl | rfl | rfl | rfl | rfl | rfl | rfl <;> rfl) (Nat.le_of_ble_eq_true rfl) (Nat.le_of_ble_eq_true rfl) dX6_init_38 (fun q_38 => ?_)
  refine sw_ws ((_, .inr (6, [.ref _, .ref _, .ref _, .null, .null])) :: (_, .inr (4, [.int _, .int _, .int _, .ref _, .ref _, .ref _, .int _, .int _, .int _, .ref _, .ref _])) :: (_, .inl (_, _, .inl _)) :: (_, .inr (2, [.int _, .ref _])) :: (_, .inl (_, _, .inl _)) :: (_, .inr (0, [.int _, .ref _])) :: (_, .inl (_, _, .inl _)) :: (_, .inl (_, _, .inl _)) :: (_, .inl (_, _, .inl _)) :: (_, .inr (4, [.int _, .int _, .int _, .ref _, .ref _, .ref _, .int _, .int _, .int _, .ref _, .ref _])) :: (_, .inl (_, _, .inl _)) :: (_, .inr (2, [.int _, .ref _])) :: (_, .inl (_, _, .inl _)) :: (_, .inr (0, [.int _, .ref _])) :: (_, .inl (_, _, .inl _)) :: (_, .inl (_, _, .inl _)) :: (_, .inl (_, _, .inl _)) :: (_, .inr (3, [.int _, .int _, .ref _])) :: (_, .inl (_, _, .inr (.inr (.inr (.inr _))))) :: (_, .inr (4, [.int _, .int _, .int _, .ref _, .ref _, .ref _, .int _, .int _, .int _, .ref _, .ref _])) :: (_, .inl (_, _, .inl _)) :: (_, .inr (2, [.int _, .ref _])) :: (_, .inl (_, _, .inl _)) :: (_, .inr (0, [.int _, .ref _])) :: (_, .inl (_, _, .inl _)) :: (_, .inl (_, _, .inl _)) :: (_, .inl (_, _, .inl _)) :: (_, .inr (4, [.int _, .int _, .int _, .ref _, .ref _, .ref _, .int _, .int _, .int _, .ref _, .ref _])) :: (_, .inl (_, _, .inl _)) :: (_, .inr (2, [.int _, .ref _])) :: (_, .inl (_, _, .inl _)) :: (_, .inr (0, [.int _, .ref _])) :: (_, .inl (_, _, .inl _)) :: (_, .inl (_, _, .inl _)) :: (_, .inl (_, _, .inl _)) :: (_, .inr (4, [.int _, .int _, .int _, .ref _, .ref _, .ref _, .int _, .int _, .int _, .ref _, .ref _])) :: (_, .inl (_, _, .inl _)) :: (_, .inr (2, [.int _, .ref _])) :: (_, .inl (_, _, .inl _)) :: (_, .inr (0, [.int _, .ref _])) :: (_, .inl (_, _, .inl _)) :: (_, .inl (_, _, .inl _)) :: (_, .inl (_, _, .inl _)) :: (_, .inr (4, [.int _, .int _, .int _, .ref _, .ref _, .ref _, .int _, .int _, .int _, .ref _, .ref _])) :: (_, .inl (_, _, .inl _)) :: (_, .inr (2, [.int _, .ref _])) :: (_, .inl (_, _, .inl _)) :: (_, .inr (0, [.int _, .ref _])) :: (_, .inl (_, _, .inl _)) :: (_, .inl (_, _, .inl _)) :: (_, .inl (_, _, .inl _)) :: (_, .inr (1, [.null, .int _, .int _, .int _, .int _, .int _, .int _, .int _, .int _])) :: []) rfl ?_
  refine sw_dup 41 C dX6_init_41 rfl ?_
  refine sw_callIN 42 [51] 0 C XN dX6_init_42 (ct_X1_init l) wK_X1_init (List.mem_of_getElem? (i := 4) rfl) wN_X1_init wI_X1 rfl hd_X1_init rfl ⟨rfl, rfl⟩ ⟨Nat.le_of_ble_eq_true rfl, Nat.le_of_ble_eq_true rfl⟩ rfl rfl rfl (fun _ => rfl) rfl (fun f_42 _ => ?_)
  refine sw_ws ((_, .inr (6, [.ref _, .ref _, .ref _, .null, .null])) :: (_, .inr (4, [.int _, .int _, .int _, .ref _, .ref _, .ref _, .int _, .int _, .int _, .ref _, .ref _])) :: (_, .inl (_, _, .inl _)) :: (_, .inr (2, [.int _, .ref _])) :: (_, .inl (_, _, .inl _)) :: (_, .inr (0, [.int _, .ref _])) :: (_, .inl (_, _, .inl _)) :: (_, .inl (_, _, .inl _)) :: (_, .inl (_, _, .inl _)) :: (_, .inr (4, [.int _, .int _, .int _, .ref _, .ref _, .ref _, .int _, .int _, .int _, .ref _, .ref _])) :: (_, .inl (_, _, .inl _)) :: (_, .inr (2, [.int _, .ref _])) :: (_, .inl (_, _, .inl _)) :: (_, .inr (0, [.int _, .ref _])) :: (_, .inl (_, _, .inl _)) :: (_, .inl (_, _, .inl _)) :: (_, .inl (_, _, .inl _)) :: (_, .inr (3, [.int _, .int _, .ref _])) :: (_, .inl (_, _, .inr (.inr (.inr (.inr _))))) :: (_, .inr (4, [.int _, .int _, .int _, .ref _, .ref _, .ref _, .int _, .int _, .int _, .ref _, .ref _])) :: (_, .inl (_, _, .inl _)) :: (_, .inr (2, [.int _, .ref _])) :: (_, .inl (_, _, .inl _)) :: (_, .inr (0, [.int _, .ref _])) :: (_, .inl (_, _, .inl _)) :: (_, .inl (_, _, .inl _)) :: (_, .inl (_, _, .inl _)) :: (_, .inr (4, [.int _, .int _, .int _, .ref _, .ref _, .ref _, .int _, .int _, .int _, .ref _, .ref _])) :: (_, .inl (_, _, .inl _)) :: (_, .inr (2, [.int _, .ref _])) :: (_, .inl (_, _, .inl _)) :: (_, .inr (0, [.int _, .ref _])) :: (_, .inl (_, _, .inl _)) :: (_, .inl (_, _, .inl _)) :: (_, .inl (_, _, .inl _)) :: (_, .inr (4, [.int _, .int _, .int _, .ref _, .ref _, .ref _, .int _, .int _, .int _, .ref _, .ref _])) :: (_, .inl (_, _, .inl _)) :: (_, .inr (2, [.int _, .ref _])) :: (_, .inl (_, _, .inl _)) :: (_, .inr (0, [.int _, .ref _])) :: (_, .inl (_, _, .inl _)) :: (_, .inl (_, _, .inl _)) :: (_, .inl (_, _, .inl _)) :: (_, .inr (4, [.int _, .int _, .int _, .ref _, .ref _, .ref _, .int _, .int _, .int _, .ref _, .ref _])) :: (_, .inl (_, _, .inl _)) :: (_, .inr (2, [.int _, .ref _])) :: (_, .inl (_, _, .inl _)) :: (_, .inr (0, [.int _, .ref _])) :: (_, .inl (_, _, .inl _)) :: (_, .inl (_, _, .inl _)) :: (_, .inl (_, _, .inl _)) :: (_, .inr (1, [.ref _, .int _, .int _, .int _, .int _, .int _, .int _, .int _, .int _])) :: (_, .inr (5, [.int _, .ref _])) :: (_, .inl (_, _, .inl _)) :: []) rfl ?_
  refine sw_putF 45 0 3 tyX6 C dX6_init_45 rfl rfl (inA lwX6) tyX6_ok nmX6 (C.w wF_X6_29) rfl rfl rfl rfl RC.2.2 rfl rfl rfl rfl ?_
  refine sw_ws ((_, .inr (6, [.ref _, .ref _, .ref _, .ref _, .null])) :: (_, .inr (4, [.int _, .int _, .int _, .ref _, .ref _, .ref _, .int _, .int _, .int _, .ref _, .ref _])) :: (_, .inl (_, _, .inl _)) :: (_, .inr (2, [.int _, .ref _])) :: (_, .inl (_, _, .inl _)) :: (_, .inr (0, [.int _, .ref _])) :: (_, .inl (_, _, .inl _)) :: (_, .inl (_, _, .inl _)) :: (_, .inl (_, _, .inl _)) :: (_, .inr (4, [.int _, .int _, .int _, .ref _, .ref _, .ref _, .int _, .int _, .int _, .ref _, .ref _])) :: (_, .inl (_, _, .inl _)) :: (_, .inr (2, [.int _, .ref _])) :: (_, .inl (_, _, .inl _)) :: (_, .inr (0, [.int _, .ref _])) :: (_, .inl (_, _, .inl _)) :: (_, .inl (_, _, .inl _)) :: (_, .inl (_, _, .inl _)) :: (_, .inr (3, [.int _, .int _, .ref _])) :: (_, .inl (_, _, .inr (.inr (.inr (.inr _))))) :: (_, .inr (4, [.int _, .int _, .int _, .ref _, .ref _, .ref _, .int _, .int _, .int _, .ref _, .ref _])) :: (_, .inl (_, _, .inl _)) :: (_, .inr (2, [.int _, .ref _])) :: (_, .inl (_, _, .inl _)) :: (_, .inr (0, [.int _, .ref _])) :: (_, .inl (_, _, .inl _)) :: (_, .inl (_, _, .inl _)) :: (_, .inl (_, _, .inl _)) :: (_, .inr (4, [.int _, .int _, .int _, .ref _, .ref _, .ref _, .int _, .int _, .int _, .ref _, .ref _])) :: (_, .inl (_, _, .inl _)) :: (_, .inr (2, [.int _, .ref _])) :: (_, .inl (_, _, .inl _)) :: (_, .inr (0, [.int _, .ref _])) :: (_, .inl (_, _, .inl _)) :: (_, .inl (_, _, .inl _)) :: (_, .inl (_, _, .inl _)) :: (_, .inr (4, [.int _, .int _, .int _, .ref _, .ref _, .ref _, .int _, .int _, .int _, .ref _, .ref _])) :: (_, .inl (_, _, .inl _)) :: (_, .inr (2, [.int _, .ref _])) :: (_, .inl (_, _, .inl _)) :: (_, .inr (0, [.int _, .ref _])) :: (_, .inl (_, _, .inl _)) :: (_, .inl (_, _, .inl _)) :: (_, .inl (_, _, .inl _)) :: (_, .inr (4, [.int _, .int _, .int _, .ref _, .ref _, .ref _, .int _, .int _, .int _, .ref _, .ref _])) :: (_, .inl (_, _, .inl _)) :: (_, .inr (2, [.int _, .ref _])) :: (_, .inl (_, _, .inl _)) :: (_, .inr (0, [.int _, .ref _])) :: (_, .inl (_, _, .inl _)) :: (_, .inl (_, _, .inl _)) :: (_, .inl (_, _, .inl _)) :: (_, .inr (1, [.ref _, .int _, .int _, .int _, .int _, .int _, .int _, .int _, .int _])) :: (_, .inr (5, [.int _, .ref _])) :: (_, .inl (_, _, .inl _)) :: []) rfl ?_
  refine sw_aload_n 48 0 C dX6_init_48 rfl rfl ?_
  refine sw_bipush 49 C dX6_init_49 40 (by decide) ?_
  refine sw_newI 51 0 C 40 (C.w wA_int) rfl (by decide) rfl (by decide) (Nat.le_of_ble_eq_true rfl) (Nat.le_of_ble_eq_true rfl) dX6_init_51 (fun q_51 => ?_)
  refine sw_ws ((_, .inr (6, [.ref _, .ref _, .ref _, .ref _, .null])) :: (_, .inr (4, [.int _, .int _, .int _, .ref _, .ref _, .ref _, .int _, .int _, .int _, .ref _, .ref _])) :: (_, .inl (_, _, .inl _)) :: (_, .inr (2, [.int _, .ref _])) :: (_, .inl (_, _, .inl _)) :: (_, .inr (0, [.int _, .ref _])) :: (_, .inl (_, _, .inl _)) :: (_, .inl (_, _, .inl _)) :: (_, .inl (_, _, .inl _)) :: (_, .inr (4, [.int _, .int _, .int _, .ref _, .ref _, .ref _, .int _, .int _, .int _, .ref _, .ref _])) :: (_, .inl (_, _, .inl _)) :: (_, .inr (2, [.int _, .ref _])) :: (_, .inl (_, _, .inl _)) :: (_, .inr (0, [.int _, .ref _])) :: (_, .inl (_, _, .inl _)) :: (_, .inl (_, _, .inl _)) :: (_, .inl (_, _, .inl _)) :: (_, .inr (3, [.int _, .int _, .ref _])) :: (_, .inl (_, _, .inr (.inr (.inr (.inr _))))) :: (_, .inr (4, [.int _, .int _, .int _, .ref _, .ref _, .ref _, .int _, .int _, .int _, .ref _, .ref _])) :: (_, .inl (_, _, .inl _)) :: (_, .inr (2, [.int _, .ref _])) :: (_, .inl (_, _, .inl _)) :: (_, .inr (0, [.int _, .ref _])) :: (_, .inl (_, _, .inl _)) :: (_, .inl (_, _, .inl _)) :: (_, .inl (_, _, .inl _)) :: (_, .inr (4, [.int _, .int _, .int _, .ref _, .ref _, .ref _, .int _, .int _, .int _, .ref _, .ref _])) :: (_, .inl (_, _, .inl _)) :: (_, .inr (2, [.int _, .ref _])) :: (_, .inl (_, _, .inl _)) :: (_, .inr (0, [.int _, .ref _])) :: (_, .inl (_, _, .inl _)) :: (_, .inl (_, _, .inl _)) :: (_, .inl (_, _, .inl _)) :: (_, .inr (4, [.int _, .int _, .int _, .ref _, .ref _, .ref _, .int _, .int _, .int _, .ref _, .ref _])) :: (_, .inl (_, _, .inl _)) :: (_, .inr (2, [.int _, .ref _])) :: (_, .inl (_, _, .inl _)) :: (_, .inr (0, [.int _, .ref _])) :: (_, .inl (_, _, .inl _)) :: (_, .inl (_, _, .inl _)) :: (_, .inl (_, _, .inl _)) :: (_, .inr (4, [.int _, .int _, .int _, .ref _, .ref _, .ref _, .int _, .int _, .int _, .ref _, .ref _])) :: (_, .inl (_, _, .inl _)) :: (_, .inr (2, [.int _, .ref _])) :: (_, .inl (_, _, .inl _)) :: (_, .inr (0, [.int _, .ref _])) :: (_, .inl (_, _, .inl _)) :: (_, .inl (_, _, .inl _)) :: (_, .inl (_, _, .inl _)) :: (_, .inr (1, [.ref _, .int _, .int _, .int _, .int _, .int _, .int _, .int _, .int _])) :: (_, .inr (5, [.int _, .ref _])) :: (_, .inl (_, _, .inl _)) :: (_, .inl (_, _, .inl _)) :: []) rfl ?_
  refine sw_putF 53 0 4 tyX6 C dX6_init_53 rfl rfl (inA lwX6) tyX6_ok nmX6 (C.w wF_X6_33) rfl rfl rfl rfl RC.2.2 rfl rfl rfl rfl ?_
  refine sw_ws ((_, .inr (6, [.ref _, .ref _, .ref _, .ref _, .ref _])) :: (_, .inr (4, [.int _, .int _, .int _, .ref _, .ref _, .ref _, .int _, .int _, .int _, .ref _, .ref _])) :: (_, .inl (_, _, .inl _)) :: (_, .inr (2, [.int _, .ref _])) :: (_, .inl (_, _, .inl _)) :: (_, .inr (0, [.int _, .ref _])) :: (_, .inl (_, _, .inl _)) :: (_, .inl (_, _, .inl _)) :: (_, .inl (_, _, .inl _)) :: (_, .inr (4, [.int _, .int _, .int _, .ref _, .ref _, .ref _, .int _, .int _, .int _, .ref _, .ref _])) :: (_, .inl (_, _, .inl _)) :: (_, .inr (2, [.int _, .ref _])) :: (_, .inl (_, _, .inl _)) :: (_, .inr (0, [.int _, .ref _])) :: (_, .inl (_, _, .inl _)) :: (_, .inl (_, _, .inl _)) :: (_, .inl (_, _, .inl _)) :: (_, .inr (3, [.int _, .int _, .ref _])) :: (_, .inl (_, _, .inr (.inr (.inr (.inr _))))) :: (_, .inr (4, [.int _, .int _, .int _, .ref _, .ref _, .ref _, .int _, .int _, .int _, .ref _, .ref _])) :: (_, .inl (_, _, .inl _)) :: (_, .inr (2, [.int _, .ref _])) :: (_, .inl (_, _, .inl _)) :: (_, .inr (0, [.int _, .ref _])) :: (_, .inl (_, _, .inl _)) :: (_, .inl (_, _, .inl _)) :: (_, .inl (_, _, .inl _)) :: (_, .inr (4, [.int _, .int _, .int _, .ref _, .ref _, .ref _, .int _, .int _, .int _, .ref _, .ref _])) :: (_, .inl (_, _, .inl _)) :: (_, .inr (2, [.int _, .ref _])) :: (_, .inl (_, _, .inl _)) :: (_, .inr (0, [.int _, .ref _])) :: (_, .inl (_, _, .inl _)) :: (_, .inl (_, _, .inl _)) :: (_, .inl (_, _, .inl _)) :: (_, .inr (4, [.int _, .int _, .int _, .ref _, .ref _, .ref _, .int _, .int _, .int _, .ref _, .ref _])) :: (_, .inl (_, _, .inl _)) :: (_, .inr (2, [.int _, .ref _])) :: (_, .inl (_, _, .inl _)) :: (_, .inr (0, [.int _, .ref _])) :: (_, .inl (_, _, .inl _)) :: (_, .inl (_, _, .inl _)) :: (_, .inl (_, _, .inl _)) :: (_, .inr (4, [.int _, .int _, .int _, .ref _, .ref _, .ref _, .int _, .int _, .int _, .ref _, .ref _])) :: (_, .inl (_, _, .inl _)) :: (_, .inr (2, [.int _, .ref _])) :: (_, .inl (_, _, .inl _)) :: (_, .inr (0, [.int _, .ref _])) :: (_, .inl (_, _, .inl _)) :: (_, .inl (_, _, .inl _)) :: (_, .inl (_, _, .inl _)) :: (_, .inr (1, [.ref _, .int _, .int _, .int _, .int _, .int _, .int _, .int _, .int _])) :: (_, .inr (5, [.int _, .ref _])) :: (_, .inl (_, _, .inl _)) :: (_, .inl (_, _, .inl _)) :: []) rfl ?_
  refine sw_vret 56 C RC dX6_init_56 ?_
  exact ⟨rfl, (fun i => ([q_5, f_9 0, f_9 1, f_9 2, f_9 3, f_9 4, f_9 5, f_9 6, q_16, f_20 0, f_20 1, f_20 2, f_20 3, f_20 4, f_20 5, f_20 6, q_27, f_31 0, f_31 1, f_31 2, f_31 3, f_31 4, f_31 5, f_31 6, f_31 7, f_31 8, f_31 9, f_31 10, f_31 11, f_31 12, f_31 13, f_31 14, f_31 15, f_31 16, f_31 17, f_31 18, f_31 19, f_31 20, f_31 21, f_31 22, f_31 23, f_31 24, f_31 25, f_31 26, f_31 27, f_31 28, f_31 29, f_31 30, f_31 31, f_31 32, q_38, f_42 0, f_42 1, q_51] : List Nat).getD i 0), trivial, rfl⟩
