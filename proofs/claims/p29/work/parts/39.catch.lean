theorem hd_L_cell : yL_cell.cls ≠ "java/lang/invoke/MethodHandle" ∧ yL_cell.cls ≠ "java/lang/invoke/VarHandle" ∧ (parseMethodDescriptor yL_cell.desc).map (fun d => d.parameters.length) = some 2 := by decide +kernel
theorem hd_L_low : yL_low.cls ≠ "java/lang/invoke/MethodHandle" ∧ yL_low.cls ≠ "java/lang/invoke/VarHandle" ∧ (parseMethodDescriptor yL_low.desc).map (fun d => d.parameters.length) = some 2 := by decide +kernel
theorem hd_L_patience : yL_patience.cls ≠ "java/lang/invoke/MethodHandle" ∧ yL_patience.cls ≠ "java/lang/invoke/VarHandle" ∧ (parseMethodDescriptor yL_patience.desc).map (fun d => d.parameters.length) = some 3 := by decide +kernel
theorem hd_L_quota : yL_quota.cls ≠ "java/lang/invoke/MethodHandle" ∧ yL_quota.cls ≠ "java/lang/invoke/VarHandle" ∧ (parseMethodDescriptor yL_quota.desc).map (fun d => d.parameters.length) = some 2 := by decide +kernel
theorem hd_L_grace : yL_grace.cls ≠ "java/lang/invoke/MethodHandle" ∧ yL_grace.cls ≠ "java/lang/invoke/VarHandle" ∧ (parseMethodDescriptor yL_grace.desc).map (fun d => d.parameters.length) = some 2 := by decide +kernel
theorem hd_L_sends : yL_sends.cls ≠ "java/lang/invoke/MethodHandle" ∧ yL_sends.cls ≠ "java/lang/invoke/VarHandle" ∧ (parseMethodDescriptor yL_sends.desc).map (fun d => d.parameters.length) = some 4 := by decide +kernel
theorem hd_L_bribes : yL_bribes.cls ≠ "java/lang/invoke/MethodHandle" ∧ yL_bribes.cls ≠ "java/lang/invoke/VarHandle" ∧ (parseMethodDescriptor yL_bribes.desc).map (fun d => d.parameters.length) = some 5 := by decide +kernel
theorem hd_L_joint : yL_joint.cls ≠ "java/lang/invoke/MethodHandle" ∧ yL_joint.cls ≠ "java/lang/invoke/VarHandle" ∧ (parseMethodDescriptor yL_joint.desc).map (fun d => d.parameters.length) = some 5 := by decide +kernel
theorem hd_L_takes : yL_takes.cls ≠ "java/lang/invoke/MethodHandle" ∧ yL_takes.cls ≠ "java/lang/invoke/VarHandle" ∧ (parseMethodDescriptor yL_takes.desc).map (fun d => d.parameters.length) = some 2 := by decide +kernel
theorem hd_L_serves : yL_serves.cls ≠ "java/lang/invoke/MethodHandle" ∧ yL_serves.cls ≠ "java/lang/invoke/VarHandle" ∧ (parseMethodDescriptor yL_serves.desc).map (fun d => d.parameters.length) = some 1 := by decide +kernel
theorem hd_L_passes : yL_passes.cls ≠ "java/lang/invoke/MethodHandle" ∧ yL_passes.cls ≠ "java/lang/invoke/VarHandle" ∧ (parseMethodDescriptor yL_passes.desc).map (fun d => d.parameters.length) = some 2 := by decide +kernel
theorem hd_L_one : yL_one.cls ≠ "java/lang/invoke/MethodHandle" ∧ yL_one.cls ≠ "java/lang/invoke/VarHandle" ∧ (parseMethodDescriptor yL_one.desc).map (fun d => d.parameters.length) = some 3 := by decide +kernel
theorem hd_L_peek : yL_peek.cls ≠ "java/lang/invoke/MethodHandle" ∧ yL_peek.cls ≠ "java/lang/invoke/VarHandle" ∧ (parseMethodDescriptor yL_peek.desc).map (fun d => d.parameters.length) = some 2 := by decide +kernel
theorem hd_L_sent : yL_sent.cls ≠ "java/lang/invoke/MethodHandle" ∧ yL_sent.cls ≠ "java/lang/invoke/VarHandle" ∧ (parseMethodDescriptor yL_sent.desc).map (fun d => d.parameters.length) = some 2 := by decide +kernel
theorem hd_L_given : yL_given.cls ≠ "java/lang/invoke/MethodHandle" ∧ yL_given.cls ≠ "java/lang/invoke/VarHandle" ∧ (parseMethodDescriptor yL_given.desc).map (fun d => d.parameters.length) = some 2 := by decide +kernel
theorem hd_L_entry : yL_entry.cls ≠ "java/lang/invoke/MethodHandle" ∧ yL_entry.cls ≠ "java/lang/invoke/VarHandle" ∧ (parseMethodDescriptor yL_entry.desc).map (fun d => d.parameters.length) = some 3 := by decide +kernel
theorem hd_L_value : yL_value.cls ≠ "java/lang/invoke/MethodHandle" ∧ yL_value.cls ≠ "java/lang/invoke/VarHandle" ∧ (parseMethodDescriptor yL_value.desc).map (fun d => d.parameters.length) = some 2 := by decide +kernel
theorem hd_L_rank : yL_rank.cls ≠ "java/lang/invoke/MethodHandle" ∧ yL_rank.cls ≠ "java/lang/invoke/VarHandle" ∧ (parseMethodDescriptor yL_rank.desc).map (fun d => d.parameters.length) = some 2 := by decide +kernel
theorem hd_L_later : yL_later.cls ≠ "java/lang/invoke/MethodHandle" ∧ yL_later.cls ≠ "java/lang/invoke/VarHandle" ∧ (parseMethodDescriptor yL_later.desc).map (fun d => d.parameters.length) = some 3 := by decide +kernel
theorem hd_L_served : yL_served.cls ≠ "java/lang/invoke/MethodHandle" ∧ yL_served.cls ≠ "java/lang/invoke/VarHandle" ∧ (parseMethodDescriptor yL_served.desc).map (fun d => d.parameters.length) = some 2 := by decide +kernel
theorem hd_L_leads : yL_leads.cls ≠ "java/lang/invoke/MethodHandle" ∧ yL_leads.cls ≠ "java/lang/invoke/VarHandle" ∧ (parseMethodDescriptor yL_leads.desc).map (fun d => d.parameters.length) = some 2 := by decide +kernel
theorem hd_L_types : yL_types.cls ≠ "java/lang/invoke/MethodHandle" ∧ yL_types.cls ≠ "java/lang/invoke/VarHandle" ∧ (parseMethodDescriptor yL_types.desc).map (fun d => d.parameters.length) = some 2 := by decide +kernel
theorem hd_L_back : yL_back.cls ≠ "java/lang/invoke/MethodHandle" ∧ yL_back.cls ≠ "java/lang/invoke/VarHandle" ∧ (parseMethodDescriptor yL_back.desc).map (fun d => d.parameters.length) = some 1 := by decide +kernel
theorem hd_L_sum : yL_sum.cls ≠ "java/lang/invoke/MethodHandle" ∧ yL_sum.cls ≠ "java/lang/invoke/VarHandle" ∧ (parseMethodDescriptor yL_sum.desc).map (fun d => d.parameters.length) = some 1 := by decide +kernel
theorem hd_L_refused : yL_refused.cls ≠ "java/lang/invoke/MethodHandle" ∧ yL_refused.cls ≠ "java/lang/invoke/VarHandle" ∧ (parseMethodDescriptor yL_refused.desc).map (fun d => d.parameters.length) = some 1 := by decide +kernel
theorem hd_L_isOne : yL_isOne.cls ≠ "java/lang/invoke/MethodHandle" ∧ yL_isOne.cls ≠ "java/lang/invoke/VarHandle" ∧ (parseMethodDescriptor yL_isOne.desc).map (fun d => d.parameters.length) = some 3 := by decide +kernel
theorem hd_L_fits : yL_fits.cls ≠ "java/lang/invoke/MethodHandle" ∧ yL_fits.cls ≠ "java/lang/invoke/VarHandle" ∧ (parseMethodDescriptor yL_fits.desc).map (fun d => d.parameters.length) = some 1 := by decide +kernel
theorem hd_L_comesTrue : yL_comesTrue.cls ≠ "java/lang/invoke/MethodHandle" ∧ yL_comesTrue.cls ≠ "java/lang/invoke/VarHandle" ∧ (parseMethodDescriptor yL_comesTrue.desc).map (fun d => d.parameters.length) = some 2 := by decide +kernel
theorem hd_L_isLead : yL_isLead.cls ≠ "java/lang/invoke/MethodHandle" ∧ yL_isLead.cls ≠ "java/lang/invoke/VarHandle" ∧ (parseMethodDescriptor yL_isLead.desc).map (fun d => d.parameters.length) = some 3 := by decide +kernel
theorem hd_L_puts : yL_puts.cls ≠ "java/lang/invoke/MethodHandle" ∧ yL_puts.cls ≠ "java/lang/invoke/VarHandle" ∧ (parseMethodDescriptor yL_puts.desc).map (fun d => d.parameters.length) = some 3 := by decide +kernel
theorem hd_L_acts : yL_acts.cls ≠ "java/lang/invoke/MethodHandle" ∧ yL_acts.cls ≠ "java/lang/invoke/VarHandle" ∧ (parseMethodDescriptor yL_acts.desc).map (fun d => d.parameters.length) = some 4 := by decide +kernel
/-! the law's methods that catch -/
section LSW
def xC (U : State) : Prop := va_Nc "java/lang/IllegalArgumentException" "java/lang/IndexOutOfBoundsException" U ∧ va_Nc "java/lang/IllegalStateException" "java/lang/IllegalArgumentException" U
theorem xC.moved {u U : State} (h : u.vm.Alike U.vm) (z : xC u) : xC U := ⟨va_Nc.moved h z.1, va_Nc.moved h z.2⟩
def lP (D : va_G) (tys : List (ClassId × FieldType)) (As : List Value) (wc : va_W) (sz : Nat) : Array Value → State → Prop := va_Pc As (fun U => U.heap.size = sz ∧ va_P D vwCl wc U.heap ∧ va_K D vwCl tys U ∧ va_D (fun _ => True) wc ∧ xZ (va_A wc sz) U ∧ xC U)
def LCt (l : Launch) (y : MethodName) (cw : Cond) (fr lo mc ms : Nat) (D : va_G) (tys : List (ClassId × FieldType)) (As : List Value) (wc : va_W) (post : Option Value → va_W → Prop) : Prop :=
  ∀ sz : Nat, Met l y (cw :: lw_all) ({ frames := fr, cells := mc, slots := ms, locals := lo } : Room) (lP D tys As wc sz) (ctQ D tys (va_A wc sz) post) mc ms (va_A wc sz)
theorem lP_blind {D : va_G} {tys : List (ClassId × FieldType)} {As : List Value} {wc : va_W} {sz : Nat} : FrameBlind (lP D tys As wc sz) := fun a U g mk q => by
  obtain ⟨q0, q1, qP, qK, qD, ⟨z1, z2, z3, z4⟩, qC⟩ := q
  exact ⟨q0, q1, qP, va_K.moved (u := U) (U := U.calling g mk a) (Vm.Alike.refl U.vm) qK, qD, ⟨z1.moved (u := U) (U := U.calling g mk a) (Vm.Alike.refl U.vm), z2.moved (u := U) (U := U.calling g mk a) (Vm.Alike.refl U.vm), fun q hq => by
    obtain ⟨sa, h⟩ := z3 q hq
    exact ⟨sa, vk_R.same (u := U) rfl h⟩, xW.same (u := U) rfl z4⟩, qC.moved (u := U) (U := U.calling g mk a) (Vm.Alike.refl U.vm)⟩
variable {p : Program} {l : Launch} {e : Env} {R : Room} {s : State} {m : MethodId} {args : Array Value} {below : List Frame} {meth : Method} {c : Code} {D : va_G} {tys : List (ClassId × FieldType)} {A : Nat → Prop} {H0 : Heap} {nL k n : Nat} {Q : State → Prop} {segs : List va_W} {L : List (Nat × Value)} {st : List Value} {cc : ByteArray} {own : String} {Ts : List Cond} {x0 : Cond}
theorem LCt.of {y : MethodName} {cc : ByteArray} {maxL : Nat} {ret : Option FieldType} {hh : List (Nat × Nat × Nat × Nat)} {fr lo mc ms : Nat} {As : List Value} {wc : va_W} {post : Option Value → va_W → Prop} (own : String) (hy : plainName y.cls = true) (ho : y.cls = own) (hL : (lg_sl As).length ≤ maxL)
    (body : ∀ (p : Program) (e : Env) (s : State) (m : MethodId) (below : List Frame) (meth : Method) (c : Code) (A : Nat → Prop), CC p s m As.toArray c cc maxL own (Cond.codeWith y cc maxL ret hh :: lw_all) D tys A s.heap → (meth.sig.returnType = ret ∧ meth.locks = false ∧ meth.name = y.name) → c.exceptionTable.toList = tableOf hh → xZ A s → xC s →
      sw p l e ({ frames := fr, cells := mc, slots := ms, locals := lo } : Room) s m As.toArray below meth c D A s.heap maxL 0 0 (MQ below (ctQ D tys A post) As.toArray s mc ms A) wc 0 (lv_args 0 As) []) : LCt l y (Cond.codeWith y cc maxL ret hh) fr lo mc ms D tys As wc post := by
  intro sz
  refine va_MetW (cc := cc) (maxL := maxL) (ret := ret) (hh := hh) hy rfl ?_
  intro p e s m args below meth c s₁ B hml hv
  obtain ⟨rfl, hsz, hP, hK, hD0, hz, hC⟩ := hv
  subst hsz
  have hD := hD0.self (sz := s.heap.size)
  have hA : ∀ q : Nat, s.heap.size ≤ q → va_A wc s.heap.size q := fun q h => Or.inr h
  have hl := lv_entry As (n := maxL) hL
  rw [lg_entry_eq]
  exact body p e s m below meth c (va_A wc s.heap.size) ⟨⟨B.exec, B.bytes, hml, ho ▸ findClass_of_methodNamed B.named, atoms_spec B.pre⟩, hK, hA⟩ ⟨B.returns, B.notSynchronized, (name_of_methodNamed B.named B.method).1⟩ (vx_table (x := y) B (atoms_spec B.pre _ List.mem_cons_self)) hz hC s.heap [] _ hP hD va_S.rf hl
theorem xl_catV (pc hpc : Nat) (is : List Nat) (na rq : Nat) {fr lo mc ms maxL index b ci : Nat} {y : MethodName} {bytes : ByteArray} {ret : Option FieldType} {wc : va_W} {As : List Value} {pE : String → Prop} {Cn : String} {T : u_T} {N : Nat} {fs : List Value} (E0 : String) {pre suf : List ExceptionTableEntry} {x : ExceptionTableEntry} (C : CC p s m args c cc nL own (x0 :: lw_all) D tys A s.heap) (hz : xZ A s) (hsplit : c.exceptionTable.toList = pre ++ x :: suf)
    (hpass : ∀ z ∈ pre, covers z pc = false ∨ (z.catchType ≠ 0 ∧ ∃ nm : String, (Cond.classLink own z.catchType nm).before args s = true ∧ va_Nc E0 nm s)) (hx : covers x pc = true) (h0 : x.catchType ≠ 0) (hlink : Cond.classLink own x.catchType E0 ∈ lw_all) (hcast : E0 ∈ xcas) (hh : x.handlerPc = hpc)
    (d : decode cc pc = .ok (.invokevirtual index, 3)) (hM : XCt l y (Cond.code y bytes maxL ret) fr lo mc ms D tys (.ref b :: As) wc (fun _ _ => False) pE) (hpE : ∀ E, pE E → E = E0) (g0 : Cond.code y bytes maxL ret ∈ lw_all) (g1 : Cond.methodLink own index y ∈ lw_all) (g2 : Cond.instanceMethod y ∈ lw_all) (g3 : Cond.selects Cn y y ∈ lw_all) (g4 : Cond.initialized Cn ∈ lw_all)
    (hd : y.cls = Cn ∧ y.cls ≠ "java/lang/invoke/MethodHandle" ∧ y.cls ≠ "java/lang/invoke/VarHandle" ∧ (parseMethodDescriptor y.desc).map (fun d => d.parameters.length) = some na) (hna : As.length = na) (hrv : wc[rq]? = some (b, .inr (ci, fs))) (hc : vwCl[ci]? = some (Cn, T, N))
    (hR : Nat.ble (fr + 1) R.frames = true ∧ Nat.ble (8 + (maxL + 11) + lo) R.locals = true) (hf : k + mc ≤ R.cells ∧ n + ms ≤ R.slots) (hst : Nat.ble (st.map fun v => v.category).sum 8 = true) (hn : wnd is = true) (hw : wall segs.length is = true) (hp : flatS (spick segs is) = wc)
    (kk : ∀ q : Nat, sw p l e R s m args below meth c D A s.heap nL (k + mc) (n + ms) Q (flatS segs) hpc L [.ref q]) : sw p l e R s m args below meth c D A s.heap nL k n Q (flatS segs) pc L (As.reverse ++ .ref b :: st) := by
  have hw' := wall_lt hw
  have hn' := wnd_nd hn
  have hper := (flatS_perm (segs_perm is segs hn' hw')).trans (by rw [flatS_app])
  subst hp
  intro H locs ls hP hD hS hl
  have hPp := va_P_perm hper hP
  have hDp := va_D_perm hper hD
  have hPc := va_P_l hPp
  have hDc := va_D_l hDp
  have hFc := free_of hDp hS C.hA
  have hK := C.hK
  refine xx_callg (vx_runV (As := As) (rest := st) (C := Cn) C.1 (hM H.size) (cwV na C.hts (goodV g0 g1 g2 g3 g4) rfl rfl rfl hd ⟨Nat.le_of_ble_eq_true hR.1, Nat.le_of_ble_eq_true hR.2⟩) ⟨xP_blind, va_recv (q := (Cn, T, N)) hK hPc hc hrv, fun U hU hW => ⟨rfl, by rw [hU], by rw [hU]; exact hPc, va_K.moved hW.alike hK, hDc.weaken (fun _ _ _ _ => trivial), xZ_sub hz hS hU hW hFc⟩⟩ rfl hna hl.1 rfl (lv_room (Nat.le_of_ble_eq_true hst)) d hf) hS (fun q _ h => hFc q h) hFc (fun E ce q9 H1 locs1 hE hP1 hz1 hk1 hS1 hce hv hcl => ?_) (fun v w1 H1 locs1 hpost hP1 hD1 hz1 hk1 hS1 => hpost.elim)
  obtain rfl := hpE E hE
  refine vx_catch C.hown pre x suf hsplit hpass hx h0 (C.w hlink) (va_Nw.use rfl (hz.2.2.2.2 _ hcast)) hce hv hcl ?_
  rw [hh]
  refine kk q9 H1 locs1 ls (va_P_perm hper.symm (va_P_iff.mpr (fun q hq => ?_))) hD hS1 hl
  rcases List.mem_append.mp hq with h | h
  · exact va_P_iff.mp hP1 q h
  · have hq1 := va_P_iff.mp hPp q (List.mem_append_right _ h)
    refine hq1.kept (hk1 q.1 hq1.lt (fun h2 => ?_))
    rcases va_A_mem.mp h2 with ⟨e2, he⟩ | h2
    · obtain ⟨d1, -⟩ := va_D_iff.mp hDp
      rw [List.map_append, List.nodup_append] at d1
      exact d1.2.2 q.1 (List.mem_map.mpr ⟨(q.1, e2), he, rfl⟩) q.1 (List.mem_map.mpr ⟨q, h, rfl⟩) rfl
    · have := hq1.lt
      omega
theorem xZ_sub0 {A0 A1 : Nat → Prop} {U : State} {H : Heap} {locs : List Loc} {H0 : Heap} (hH : H0 = s.heap) (z : xZ A0 s) (hS : va_S A0 H0 H locs) (hU : U.heap = H) (hW : s.WarmedH U.vm) (hF : ∀ q, A1 q → A0 q) : xZ A1 U := xZ_sub z (hH ▸ hS) hU hW hF
theorem xl_callSI (pc : Nat) (is : List Nat) (na : Nat) (news : List va_W) {fr lo mc ms maxL index : Nat} {y : MethodName} {bytes : ByteArray} {ret : Option FieldType} {hh : List (Nat × Nat × Nat × Nat)} {wc : va_W} {As : List Value} {w0 : va_W} {r : Int32} (C : CC p s m args c cc nL own (x0 :: lw_all) D tys A s.heap) (hz : xZ A s) (hC : xC s)
    (d : decode cc pc = .ok (.invokestatic index, 3)) (hM : LCt l y (Cond.codeWith y bytes maxL ret hh) fr lo mc ms D tys As wc (pstI r w0)) (g0 : Cond.codeWith y bytes maxL ret hh ∈ lw_all) (g1 : Cond.methodLink own index y ∈ lw_all) (g2 : Cond.static y ∈ lw_all) (g4 : Cond.initialized y.cls ∈ lw_all)
    (hd : y.cls ≠ "java/lang/invoke/MethodHandle" ∧ y.cls ≠ "java/lang/invoke/VarHandle" ∧ (parseMethodDescriptor y.desc).map (fun d => d.parameters.length) = some na) (hna : As.length = na) (hR : Nat.ble (fr + 1) R.frames = true ∧ Nat.ble (8 + (maxL + 11) + lo) R.locals = true) (hf : k + mc ≤ R.cells ∧ n + ms ≤ R.slots) (hst : Nat.ble (st.map fun v => v.category).sum 8 = true) (hn : wnd is = true) (hw : wall segs.length is = true) (hln : Nat.beq news.length is.length = true) (hp : flatS (spick segs is) = wc) (hnew : flatS news = w0)
    (kk : sw p l e R s m args below meth c D A s.heap nL (k + mc) (n + ms) Q (flatS (sput segs is news)) (pc + 3) L (.int r :: st)) : sw p l e R s m args below meth c D A s.heap nL k n Q (flatS segs) pc L (As.reverse ++ st) := by
  have hw' := wall_lt hw
  have hn' := wnd_nd hn
  have hper := (flatS_perm (segs_perm is segs hn' hw')).trans (by rw [flatS_app])
  subst hp
  intro H locs ls hP hD hS hl
  have hPp := va_P_perm hper hP
  have hDp := va_D_perm hper hD
  have hPc := va_P_l hPp
  have hDc := va_D_l hDp
  have hFc := free_of hDp hS C.hA
  have hK := C.hK
  refine va_callg (vx_runSW (As := As) (rest := st) C.1 (hM H.size) (vx_cwSW na C.hts (fun w hw => by
    unfold va_wsS at hw
    simp only [List.cons_append, List.nil_append, List.mem_cons] at hw
    rcases hw with rfl | rfl | rfl | rfl | hw
    · exact goodAll _ g1
    · exact goodAll _ g2
    · exact goodAll _ g4
    · exact goodAll _ g0
    · exact goodAll _ hw) rfl rfl rfl hd ⟨Nat.le_of_ble_eq_true hR.1, Nat.le_of_ble_eq_true hR.2⟩) ⟨lP_blind, fun U hU hW => ⟨rfl, by rw [hU], by rw [hU]; exact hPc, va_K.moved hW.alike hK, hDc.weaken (fun _ _ _ _ => trivial), xZ_sub hz hS hU hW hFc, hC.moved hW.alike⟩⟩ rfl hna hl.1 rfl (lv_room (Nat.le_of_ble_eq_true hst)) d hf) hS (fun q _ h => hFc q h) hFc (fun v w1 H1 locs1 hpost hP1 hD1 hz1 hk1 hS1 => ?_)
  obtain ⟨hv1, hw1⟩ := hpost
  subst hv1
  rw [hw1, ← hnew] at hP1 hD1
  obtain ⟨hP2, hD2⟩ := seg_ok hPp hDp hk1 hFc hP1 hD1
  have hper2 := (flatS_perm (sput_perm is news segs hn' hw' (by rw [Nat.eq_of_beq_eq_true hln]))).trans (by rw [flatS_app])
  exact kk H1 locs1 ls (va_P_perm hper2.symm hP2) (va_D_perm hper2.symm hD2) hS1 hl
end LSW
set_option maxHeartbeats 4000000 in
set_option maxRecDepth 100000 in
theorem ct_L_patience (l : Launch) (hfl : l.stackTraces = false) {D : va_G} {cI cJ cQ : ClassId} {x0a a0 a1 a2 a3 a4 a5 a6 a7 tr0 s0 s1 r0 w0 ra0 ra1 ra2 ra3 ra4 ra5 ra6 ra7 rb0 rb1 rb2 rb3 rb4 rb5 rb6 rb7 rc0 rc1 rc2 rc3 rc4 rc5 rc6 rc7 rd0 rd1 rd2 rd3 rd4 rd5 rd6 rd7 : Nat} {h : Nat → Option Nat} {S : StT} {R : Nat → StT} {cn od : Nat} {x1 x2 : Int32} (hS : SI S) (hcn : cn ≤ 4) (hod : od < 4) (hh0 : h 0 = some ra0) (hh1 : h 1 = some rb0) (hh2 : h 2 = some rc0) (hh3 : h 3 = some rd0) (r : Nat) (h1 : x1 = nI r) (hr : r < 4) (hx : inR x2 1 50 = true) : LCt l yL_patience (Cond.codeWith yL_patience cL_patience 4 (some .int) [(0, 6, 7, 15), (0, 6, 11, 18)]) 9 165 0 0 D (tyz cI cJ cQ) [.ref x0a, .int x1, .int x2] (flatS [[(x0a, .inr (6, [.ref a0, .ref tr0, .ref s0, .ref r0, .ref w0]))], (wSt a0 a1 a2 a3 a4 a5 a6 a7 cI (S)), [(s0, .inr (3, [.int (nI (cn)), .int (nI (od)), .ref s1])), (s1, .inl (cQ, 4, .inr (.inr (.inr (.inr h)))))], (wSt ra0 ra1 ra2 ra3 ra4 ra5 ra6 ra7 cI ((R) 0)), (wSt rb0 rb1 rb2 rb3 rb4 rb5 rb6 rb7 cI ((R) 1)), (wSt rc0 rc1 rc2 rc3 rc4 rc5 rc6 rc7 cI ((R) 2)), (wSt rd0 rd1 rd2 rd3 rd4 rd5 rd6 rd7 cI ((R) 3))]) (pstI (zpat S r) (flatS [[(x0a, .inr (6, [.ref a0, .ref tr0, .ref s0, .ref r0, .ref w0]))], (wSt a0 a1 a2 a3 a4 a5 a6 a7 cI (zpat_ S r x2)), [(s0, .inr (3, [.int (nI (svC cn)), .int (nI (svO cn od)), .ref s1])), (s1, .inl (cQ, 4, .inr (.inr (.inr (.inr h)))))], (wSt ra0 ra1 ra2 ra3 ra4 ra5 ra6 ra7 cI ((va_up R (svI cn od) S) 0)), (wSt rb0 rb1 rb2 rb3 rb4 rb5 rb6 rb7 cI ((va_up R (svI cn od) S) 1)), (wSt rc0 rc1 rc2 rc3 rc4 rc5 rc6 rc7 cI ((va_up R (svI cn od) S) 2)), (wSt rd0 rd1 rd2 rd3 rd4 rd5 rd6 rd7 cI ((va_up R (svI cn od) S) 3))])) := by
  refine LCt.of RL (by decide) rfl (Nat.le_of_ble_eq_true rfl) ?_
  intro p e s m below meth c A C RC XT hz hC
  refine sw_aload_n 0 0 C dL_patience_0 rfl rfl ?_
  refine sw_iload_n 1 1 C dL_patience_1 rfl rfl ?_
  refine sw_iload_n 2 2 C dL_patience_2 rfl rfl ?_
  refine sg_callVI 3 [0, 1, 2, 3, 4, 5, 6] 2 0 [_, _, _, _, _, _, _] C dL_patience_3 (ct_X6_setPatience l hS hcn hod hh0 hh1 hh2 hh3 r h1 hr hx) wK_X6_setPatience wM_L_9 wN_X6_setPatience wS_X6_X6_setPatience wI_X6 hd_X6_setPatience rfl rfl rfl ⟨rfl, rfl⟩ ⟨Nat.le_of_ble_eq_true rfl, Nat.le_of_ble_eq_true rfl⟩ rfl rfl rfl rfl rfl rfl ?_
  refine sg_segs [_, _, _, _, _, _, _] rfl ?_
  refine sw_iret 6 C RC dL_patience_6 ?_
  exact ⟨rfl, rfl⟩
set_option maxHeartbeats 4000000 in
set_option maxRecDepth 100000 in
theorem ct_L_patience_2 (l : Launch) (hfl : l.stackTraces = false) {D : va_G} {cI cJ cQ : ClassId} {x0a a0 a1 a2 a3 a4 a5 a6 a7 tr0 s0 r0 w0 : Nat} {S : StT} {x1 x2 : Int32} (h : inR x1 0 3 = false) : LCt l yL_patience (Cond.codeWith yL_patience cL_patience 4 (some .int) [(0, 6, 7, 15), (0, 6, 11, 18)]) 9 165 1 6 D (tyz cI cJ cQ) [.ref x0a, .int x1, .int x2] (flatS [[(x0a, .inr (6, [.ref a0, .ref tr0, .ref s0, .ref r0, .ref w0]))], (wSt a0 a1 a2 a3 a4 a5 a6 a7 cI (S))]) (pstI (-900000003) (flatS [[(x0a, .inr (6, [.ref a0, .ref tr0, .ref s0, .ref r0, .ref w0]))], (wSt a0 a1 a2 a3 a4 a5 a6 a7 cI (S))])) := by
  refine LCt.of RL (by decide) rfl (Nat.le_of_ble_eq_true rfl) ?_
  intro p e s m below meth c A C RC XT hz hC
  refine sw_aload_n 0 0 C dL_patience_0 rfl rfl ?_
  refine sw_iload_n 1 1 C dL_patience_1 rfl rfl ?_
  refine sw_iload_n 2 2 C dL_patience_2 rfl rfl ?_
  refine xl_catV 3 7 [0, 1] 2 0 "java/lang/IndexOutOfBoundsException" (pre := []) (x := ⟨0, 6, 7, 15⟩) (suf := [⟨0, 6, 11, 18⟩]) C hz XT (fun z hz9 => nomatch hz9) (by decide) (by decide) wC_L_15 (by decide) rfl dL_patience_3 (xt_X6_setPatience l hfl h) (fun _ h => h) wK_X6_setPatience wM_L_9 wN_X6_setPatience wS_X6_X6_setPatience wI_X6 hd_X6_setPatience rfl rfl rfl ⟨rfl, rfl⟩ ⟨(Nat.le_of_ble_eq_true rfl), (Nat.le_of_ble_eq_true rfl)⟩ rfl rfl rfl rfl (fun q9 => ?_)
  refine sw_astore_n 7 3 C dL_patience_7 rfl rfl ?_
  refine sw_ldc 8 C dL_patience_8 (C.w wQ_L_17) ?_
  refine sw_iret 10 C RC dL_patience_10 ?_
  exact ⟨rfl, rfl⟩
set_option maxHeartbeats 4000000 in
set_option maxRecDepth 100000 in
theorem ct_L_patience_3 (l : Launch) (hfl : l.stackTraces = false) {D : va_G} {cI cJ cQ : ClassId} {x0a a0 a1 a2 a3 a4 a5 a6 a7 tr0 s0 r0 w0 : Nat} {S : StT} {x1 x2 : Int32} (r : Nat) (h1 : x1 = nI r) (hr : r < 4) (h : inR x2 1 50 = false) : LCt l yL_patience (Cond.codeWith yL_patience cL_patience 4 (some .int) [(0, 6, 7, 15), (0, 6, 11, 18)]) 9 165 1 6 D (tyz cI cJ cQ) [.ref x0a, .int x1, .int x2] (flatS [[(x0a, .inr (6, [.ref a0, .ref tr0, .ref s0, .ref r0, .ref w0]))], (wSt a0 a1 a2 a3 a4 a5 a6 a7 cI (S))]) (pstI (-900000001) (flatS [[(x0a, .inr (6, [.ref a0, .ref tr0, .ref s0, .ref r0, .ref w0]))], (wSt a0 a1 a2 a3 a4 a5 a6 a7 cI (S))])) := by
  refine LCt.of RL (by decide) rfl (Nat.le_of_ble_eq_true rfl) ?_
  intro p e s m below meth c A C RC XT hz hC
  refine sw_aload_n 0 0 C dL_patience_0 rfl rfl ?_
  refine sw_iload_n 1 1 C dL_patience_1 rfl rfl ?_
  refine sw_iload_n 2 2 C dL_patience_2 rfl rfl ?_
  refine xl_catV 3 11 [0, 1] 2 0 "java/lang/IllegalArgumentException" (pre := [⟨0, 6, 7, 15⟩]) (x := ⟨0, 6, 11, 18⟩) (suf := []) C hz XT (fun z hz9 => by cases List.mem_singleton.mp hz9; exact Or.inr ⟨by decide, "java/lang/IndexOutOfBoundsException", C.w wC_L_15, hC.1⟩) (by decide) (by decide) wC_L_18 (by decide) rfl dL_patience_3 (xt_X6_setPatience_2 l hfl r h1 hr h) (fun _ h => h) wK_X6_setPatience wM_L_9 wN_X6_setPatience wS_X6_X6_setPatience wI_X6 hd_X6_setPatience rfl rfl rfl ⟨rfl, rfl⟩ ⟨(Nat.le_of_ble_eq_true rfl), (Nat.le_of_ble_eq_true rfl)⟩ rfl rfl rfl rfl (fun q9 => ?_)
  refine sw_astore_n 11 3 C dL_patience_11 rfl rfl ?_
  refine sw_ldc 12 C dL_patience_12 (C.w wQ_L_20) ?_
  refine sw_iret 14 C RC dL_patience_14 ?_
  exact ⟨rfl, rfl⟩
set_option maxHeartbeats 4000000 in
set_option maxRecDepth 100000 in
theorem ct_L_quota (l : Launch) (hfl : l.stackTraces = false) {D : va_G} {cI cJ cQ : ClassId} {x0a a0 a1 a2 a3 a4 a5 a6 a7 tr0 s0 s1 r0 w0 ra0 ra1 ra2 ra3 ra4 ra5 ra6 ra7 rb0 rb1 rb2 rb3 rb4 rb5 rb6 rb7 rc0 rc1 rc2 rc3 rc4 rc5 rc6 rc7 rd0 rd1 rd2 rd3 rd4 rd5 rd6 rd7 : Nat} {h : Nat → Option Nat} {S : StT} {R : Nat → StT} {cn od : Nat} {x1 : Int32} (hS : SI S) (hcn : cn ≤ 4) (hod : od < 4) (hh0 : h 0 = some ra0) (hh1 : h 1 = some rb0) (hh2 : h 2 = some rc0) (hh3 : h 3 = some rd0) (hx : inR x1 0 10 = true) : LCt l yL_quota (Cond.codeWith yL_quota cL_quota 3 (some .int) [(0, 5, 6, 18)]) 9 164 0 0 D (tyz cI cJ cQ) [.ref x0a, .int x1] (flatS [[(x0a, .inr (6, [.ref a0, .ref tr0, .ref s0, .ref r0, .ref w0]))], (wSt a0 a1 a2 a3 a4 a5 a6 a7 cI (S)), [(s0, .inr (3, [.int (nI (cn)), .int (nI (od)), .ref s1])), (s1, .inl (cQ, 4, .inr (.inr (.inr (.inr h)))))], (wSt ra0 ra1 ra2 ra3 ra4 ra5 ra6 ra7 cI ((R) 0)), (wSt rb0 rb1 rb2 rb3 rb4 rb5 rb6 rb7 cI ((R) 1)), (wSt rc0 rc1 rc2 rc3 rc4 rc5 rc6 rc7 cI ((R) 2)), (wSt rd0 rd1 rd2 rd3 rd4 rd5 rd6 rd7 cI ((R) 3))]) (pstI (zq S) (flatS [[(x0a, .inr (6, [.ref a0, .ref tr0, .ref s0, .ref r0, .ref w0]))], (wSt a0 a1 a2 a3 a4 a5 a6 a7 cI (zq_ S x1)), [(s0, .inr (3, [.int (nI (svC cn)), .int (nI (svO cn od)), .ref s1])), (s1, .inl (cQ, 4, .inr (.inr (.inr (.inr h)))))], (wSt ra0 ra1 ra2 ra3 ra4 ra5 ra6 ra7 cI ((va_up R (svI cn od) S) 0)), (wSt rb0 rb1 rb2 rb3 rb4 rb5 rb6 rb7 cI ((va_up R (svI cn od) S) 1)), (wSt rc0 rc1 rc2 rc3 rc4 rc5 rc6 rc7 cI ((va_up R (svI cn od) S) 2)), (wSt rd0 rd1 rd2 rd3 rd4 rd5 rd6 rd7 cI ((va_up R (svI cn od) S) 3))])) := by
  refine LCt.of RL (by decide) rfl (Nat.le_of_ble_eq_true rfl) ?_
  intro p e s m below meth c A C RC XT hz hC
  refine sw_aload_n 0 0 C dL_quota_0 rfl rfl ?_
  refine sw_iload_n 1 1 C dL_quota_1 rfl rfl ?_
  refine sg_callVI 2 [0, 1, 2, 3, 4, 5, 6] 1 0 [_, _, _, _, _, _, _] C dL_quota_2 (ct_X6_setQuota l hS hcn hod hh0 hh1 hh2 hh3 hx) wK_X6_setQuota wM_L_21 wN_X6_setQuota wS_X6_X6_setQuota wI_X6 hd_X6_setQuota rfl rfl rfl ⟨rfl, rfl⟩ ⟨Nat.le_of_ble_eq_true rfl, Nat.le_of_ble_eq_true rfl⟩ rfl rfl rfl rfl rfl rfl ?_
  refine sg_segs [_, _, _, _, _, _, _] rfl ?_
  refine sw_iret 5 C RC dL_quota_5 ?_
  exact ⟨rfl, rfl⟩
set_option maxHeartbeats 4000000 in
set_option maxRecDepth 100000 in
theorem ct_L_quota_2 (l : Launch) (hfl : l.stackTraces = false) {D : va_G} {cI cJ cQ : ClassId} {x0a a0 a1 a2 a3 a4 a5 a6 a7 tr0 s0 r0 w0 : Nat} {S : StT} {x1 : Int32} (hx : inR x1 0 10 = false) : LCt l yL_quota (Cond.codeWith yL_quota cL_quota 3 (some .int) [(0, 5, 6, 18)]) 9 164 1 6 D (tyz cI cJ cQ) [.ref x0a, .int x1] (flatS [[(x0a, .inr (6, [.ref a0, .ref tr0, .ref s0, .ref r0, .ref w0]))], (wSt a0 a1 a2 a3 a4 a5 a6 a7 cI (S))]) (pstI (-900000001) (flatS [[(x0a, .inr (6, [.ref a0, .ref tr0, .ref s0, .ref r0, .ref w0]))], (wSt a0 a1 a2 a3 a4 a5 a6 a7 cI (S))])) := by
  refine LCt.of RL (by decide) rfl (Nat.le_of_ble_eq_true rfl) ?_
  intro p e s m below meth c A C RC XT hz hC
  refine sw_aload_n 0 0 C dL_quota_0 rfl rfl ?_
  refine sw_iload_n 1 1 C dL_quota_1 rfl rfl ?_
  refine xl_catV 2 6 [0, 1] 1 0 "java/lang/IllegalArgumentException" (pre := []) (x := ⟨0, 5, 6, 18⟩) (suf := []) C hz XT (fun z hz9 => nomatch hz9) (by decide) (by decide) wC_L_18 (by decide) rfl dL_quota_2 (xt_X6_setQuota l hfl hx) (fun _ h => h) wK_X6_setQuota wM_L_21 wN_X6_setQuota wS_X6_X6_setQuota wI_X6 hd_X6_setQuota rfl rfl rfl ⟨rfl, rfl⟩ ⟨(Nat.le_of_ble_eq_true rfl), (Nat.le_of_ble_eq_true rfl)⟩ rfl rfl rfl rfl (fun q9 => ?_)
  refine sw_astore_n 6 2 C dL_quota_6 rfl rfl ?_
  refine sw_ldc 7 C dL_quota_7 (C.w wQ_L_20) ?_
  refine sw_iret 9 C RC dL_quota_9 ?_
  exact ⟨rfl, rfl⟩
set_option maxHeartbeats 4000000 in
set_option maxRecDepth 100000 in
theorem ct_L_grace (l : Launch) (hfl : l.stackTraces = false) {D : va_G} {cI cJ cQ : ClassId} {x0a a0 a1 a2 a3 a4 a5 a6 a7 tr0 s0 s1 r0 w0 ra0 ra1 ra2 ra3 ra4 ra5 ra6 ra7 rb0 rb1 rb2 rb3 rb4 rb5 rb6 rb7 rc0 rc1 rc2 rc3 rc4 rc5 rc6 rc7 rd0 rd1 rd2 rd3 rd4 rd5 rd6 rd7 : Nat} {h : Nat → Option Nat} {S : StT} {R : Nat → StT} {cn od : Nat} {x1 : Int32} (hS : SI S) (hcn : cn ≤ 4) (hod : od < 4) (hh0 : h 0 = some ra0) (hh1 : h 1 = some rb0) (hh2 : h 2 = some rc0) (hh3 : h 3 = some rd0) (hx : inR x1 0 200 = true) : LCt l yL_grace (Cond.codeWith yL_grace cL_grace 3 (some .int) [(0, 5, 6, 18)]) 9 164 0 0 D (tyz cI cJ cQ) [.ref x0a, .int x1] (flatS [[(x0a, .inr (6, [.ref a0, .ref tr0, .ref s0, .ref r0, .ref w0]))], (wSt a0 a1 a2 a3 a4 a5 a6 a7 cI (S)), [(s0, .inr (3, [.int (nI (cn)), .int (nI (od)), .ref s1])), (s1, .inl (cQ, 4, .inr (.inr (.inr (.inr h)))))], (wSt ra0 ra1 ra2 ra3 ra4 ra5 ra6 ra7 cI ((R) 0)), (wSt rb0 rb1 rb2 rb3 rb4 rb5 rb6 rb7 cI ((R) 1)), (wSt rc0 rc1 rc2 rc3 rc4 rc5 rc6 rc7 cI ((R) 2)), (wSt rd0 rd1 rd2 rd3 rd4 rd5 rd6 rd7 cI ((R) 3))]) (pstI (zg S) (flatS [[(x0a, .inr (6, [.ref a0, .ref tr0, .ref s0, .ref r0, .ref w0]))], (wSt a0 a1 a2 a3 a4 a5 a6 a7 cI (zg_ S x1)), [(s0, .inr (3, [.int (nI (svC cn)), .int (nI (svO cn od)), .ref s1])), (s1, .inl (cQ, 4, .inr (.inr (.inr (.inr h)))))], (wSt ra0 ra1 ra2 ra3 ra4 ra5 ra6 ra7 cI ((va_up R (svI cn od) S) 0)), (wSt rb0 rb1 rb2 rb3 rb4 rb5 rb6 rb7 cI ((va_up R (svI cn od) S) 1)), (wSt rc0 rc1 rc2 rc3 rc4 rc5 rc6 rc7 cI ((va_up R (svI cn od) S) 2)), (wSt rd0 rd1 rd2 rd3 rd4 rd5 rd6 rd7 cI ((va_up R (svI cn od) S) 3))])) := by
  refine LCt.of RL (by decide) rfl (Nat.le_of_ble_eq_true rfl) ?_
  intro p e s m below meth c A C RC XT hz hC
  refine sw_aload_n 0 0 C dL_grace_0 rfl rfl ?_
  refine sw_iload_n 1 1 C dL_grace_1 rfl rfl ?_
  refine sg_callVI 2 [0, 1, 2, 3, 4, 5, 6] 1 0 [_, _, _, _, _, _, _] C dL_grace_2 (ct_X6_setGrace l hS hcn hod hh0 hh1 hh2 hh3 hx) wK_X6_setGrace wM_L_25 wN_X6_setGrace wS_X6_X6_setGrace wI_X6 hd_X6_setGrace rfl rfl rfl ⟨rfl, rfl⟩ ⟨Nat.le_of_ble_eq_true rfl, Nat.le_of_ble_eq_true rfl⟩ rfl rfl rfl rfl rfl rfl ?_
  refine sg_segs [_, _, _, _, _, _, _] rfl ?_
  refine sw_iret 5 C RC dL_grace_5 ?_
  exact ⟨rfl, rfl⟩
set_option maxHeartbeats 4000000 in
set_option maxRecDepth 100000 in
theorem ct_L_grace_2 (l : Launch) (hfl : l.stackTraces = false) {D : va_G} {cI cJ cQ : ClassId} {x0a a0 a1 a2 a3 a4 a5 a6 a7 tr0 s0 r0 w0 : Nat} {S : StT} {x1 : Int32} (hx : inR x1 0 200 = false) : LCt l yL_grace (Cond.codeWith yL_grace cL_grace 3 (some .int) [(0, 5, 6, 18)]) 9 164 1 6 D (tyz cI cJ cQ) [.ref x0a, .int x1] (flatS [[(x0a, .inr (6, [.ref a0, .ref tr0, .ref s0, .ref r0, .ref w0]))], (wSt a0 a1 a2 a3 a4 a5 a6 a7 cI (S))]) (pstI (-900000001) (flatS [[(x0a, .inr (6, [.ref a0, .ref tr0, .ref s0, .ref r0, .ref w0]))], (wSt a0 a1 a2 a3 a4 a5 a6 a7 cI (S))])) := by
  refine LCt.of RL (by decide) rfl (Nat.le_of_ble_eq_true rfl) ?_
  intro p e s m below meth c A C RC XT hz hC
  refine sw_aload_n 0 0 C dL_grace_0 rfl rfl ?_
  refine sw_iload_n 1 1 C dL_grace_1 rfl rfl ?_
  refine xl_catV 2 6 [0, 1] 1 0 "java/lang/IllegalArgumentException" (pre := []) (x := ⟨0, 5, 6, 18⟩) (suf := []) C hz XT (fun z hz9 => nomatch hz9) (by decide) (by decide) wC_L_18 (by decide) rfl dL_grace_2 (xt_X6_setGrace l hfl hx) (fun _ h => h) wK_X6_setGrace wM_L_25 wN_X6_setGrace wS_X6_X6_setGrace wI_X6 hd_X6_setGrace rfl rfl rfl ⟨rfl, rfl⟩ ⟨(Nat.le_of_ble_eq_true rfl), (Nat.le_of_ble_eq_true rfl)⟩ rfl rfl rfl rfl (fun q9 => ?_)
  refine sw_astore_n 6 2 C dL_grace_6 rfl rfl ?_
  refine sw_ldc 7 C dL_grace_7 (C.w wQ_L_20) ?_
  refine sw_iret 9 C RC dL_grace_9 ?_
  exact ⟨rfl, rfl⟩
set_option maxHeartbeats 4000000 in
set_option maxRecDepth 100000 in
theorem ct_L_sends (l : Launch) (hfl : l.stackTraces = false) {D : va_G} {cI cJ cQ : ClassId} {x0a a0 a1 a2 a3 a4 a5 a6 a7 tr0 s0 s1 r0 w0 ra0 ra1 ra2 ra3 ra4 ra5 ra6 ra7 rb0 rb1 rb2 rb3 rb4 rb5 rb6 rb7 rc0 rc1 rc2 rc3 rc4 rc5 rc6 rc7 rd0 rd1 rd2 rd3 rd4 rd5 rd6 rd7 : Nat} {h : Nat → Option Nat} {S : StT} {R : Nat → StT} {cn od : Nat} {x1 x2 x3 : Int32} (hS : SI S) (hcn : cn ≤ 4) (hod : od < 4) (hh0 : h 0 = some ra0) (hh1 : h 1 = some rb0) (hh2 : h 2 = some rc0) (hh3 : h 3 = some rd0) (ho : okSn x1 x2 x3 = true) (hm : hrf (zf S) (zn S) (zq S) x1 (-1) = true) : LCt l yL_sends (Cond.codeWith yL_sends cL_sends 5 (some .int) [(0, 7, 8, 18), (0, 7, 13, 32)]) 10 187 0 0 D (tyz cI cJ cQ) [.ref x0a, .int x1, .int x2, .int x3] (flatS [[(x0a, .inr (6, [.ref a0, .ref tr0, .ref s0, .ref r0, .ref w0]))], (wSt a0 a1 a2 a3 a4 a5 a6 a7 cI (S)), [(s0, .inr (3, [.int (nI (cn)), .int (nI (od)), .ref s1])), (s1, .inl (cQ, 4, .inr (.inr (.inr (.inr h)))))], (wSt ra0 ra1 ra2 ra3 ra4 ra5 ra6 ra7 cI ((R) 0)), (wSt rb0 rb1 rb2 rb3 rb4 rb5 rb6 rb7 cI ((R) 1)), (wSt rc0 rc1 rc2 rc3 rc4 rc5 rc6 rc7 cI ((R) 2)), (wSt rd0 rd1 rd2 rd3 rd4 rd5 rd6 rd7 cI ((R) 3))]) (pstI (zp S) (flatS [[(x0a, .inr (6, [.ref a0, .ref tr0, .ref s0, .ref r0, .ref w0]))], (wSt a0 a1 a2 a3 a4 a5 a6 a7 cI (pinS S x1 (-1) x2 x3 0)), [(s0, .inr (3, [.int (nI (svC cn)), .int (nI (svO cn od)), .ref s1])), (s1, .inl (cQ, 4, .inr (.inr (.inr (.inr h)))))], (wSt ra0 ra1 ra2 ra3 ra4 ra5 ra6 ra7 cI ((va_up R (svI cn od) S) 0)), (wSt rb0 rb1 rb2 rb3 rb4 rb5 rb6 rb7 cI ((va_up R (svI cn od) S) 1)), (wSt rc0 rc1 rc2 rc3 rc4 rc5 rc6 rc7 cI ((va_up R (svI cn od) S) 2)), (wSt rd0 rd1 rd2 rd3 rd4 rd5 rd6 rd7 cI ((va_up R (svI cn od) S) 3))])) := by
  refine LCt.of RL (by decide) rfl (Nat.le_of_ble_eq_true rfl) ?_
  intro p e s m below meth c A C RC XT hz hC
  refine sw_aload_n 0 0 C dL_sends_0 rfl rfl ?_
  refine sw_iload_n 1 1 C dL_sends_1 rfl rfl ?_
  refine sw_iload_n 2 2 C dL_sends_2 rfl rfl ?_
  refine sw_iload_n 3 3 C dL_sends_3 rfl rfl ?_
  refine sg_callVI 4 [0, 1, 2, 3, 4, 5, 6] 3 0 [_, _, _, _, _, _, _] C dL_sends_4 (ct_X6_send l hS hcn hod hh0 hh1 hh2 hh3 ho hm) wK_X6_send wM_L_28 wN_X6_send wS_X6_X6_send wI_X6 hd_X6_send rfl rfl rfl ⟨rfl, rfl⟩ ⟨Nat.le_of_ble_eq_true rfl, Nat.le_of_ble_eq_true rfl⟩ rfl rfl rfl rfl rfl rfl ?_
  refine sg_segs [_, _, _, _, _, _, _] rfl ?_
  refine sw_iret 7 C RC dL_sends_7 ?_
  exact ⟨rfl, rfl⟩
set_option maxHeartbeats 4000000 in
set_option maxRecDepth 100000 in
theorem ct_L_sends_2 (l : Launch) (hfl : l.stackTraces = false) {D : va_G} {cI cJ cQ : ClassId} {x0a a0 a1 a2 a3 a4 a5 a6 a7 tr0 s0 r0 w0 : Nat} {S : StT} {x1 x2 x3 : Int32} (ho : okSn x1 x2 x3 = false) : LCt l yL_sends (Cond.codeWith yL_sends cL_sends 5 (some .int) [(0, 7, 8, 18), (0, 7, 13, 32)]) 10 187 1 6 D (tyz cI cJ cQ) [.ref x0a, .int x1, .int x2, .int x3] (flatS [[(x0a, .inr (6, [.ref a0, .ref tr0, .ref s0, .ref r0, .ref w0]))], (wSt a0 a1 a2 a3 a4 a5 a6 a7 cI (S))]) (pstI (-900000001) (flatS [[(x0a, .inr (6, [.ref a0, .ref tr0, .ref s0, .ref r0, .ref w0]))], (wSt a0 a1 a2 a3 a4 a5 a6 a7 cI (S))])) := by
  refine LCt.of RL (by decide) rfl (Nat.le_of_ble_eq_true rfl) ?_
  intro p e s m below meth c A C RC XT hz hC
  refine sw_aload_n 0 0 C dL_sends_0 rfl rfl ?_
  refine sw_iload_n 1 1 C dL_sends_1 rfl rfl ?_
  refine sw_iload_n 2 2 C dL_sends_2 rfl rfl ?_
  refine sw_iload_n 3 3 C dL_sends_3 rfl rfl ?_
  refine xl_catV 4 8 [0, 1] 3 0 "java/lang/IllegalArgumentException" (pre := []) (x := ⟨0, 7, 8, 18⟩) (suf := [⟨0, 7, 13, 32⟩]) C hz XT (fun z hz9 => nomatch hz9) (by decide) (by decide) wC_L_18 (by decide) rfl dL_sends_4 (xt_X6_send l hfl ho) (fun _ h => h) wK_X6_send wM_L_28 wN_X6_send wS_X6_X6_send wI_X6 hd_X6_send rfl rfl rfl ⟨rfl, rfl⟩ ⟨(Nat.le_of_ble_eq_true rfl), (Nat.le_of_ble_eq_true rfl)⟩ rfl rfl rfl rfl (fun q9 => ?_)
  refine sw_astore 8 C dL_sends_8 rfl ?_
  refine sw_ldc 10 C dL_sends_10 (C.w wQ_L_20) ?_
  refine sw_iret 12 C RC dL_sends_12 ?_
  exact ⟨rfl, rfl⟩
set_option maxHeartbeats 4000000 in
set_option maxRecDepth 100000 in
theorem ct_L_sends_3 (l : Launch) (hfl : l.stackTraces = false) {D : va_G} {cI cJ cQ : ClassId} {x0a a0 a1 a2 a3 a4 a5 a6 a7 tr0 s0 r0 w0 : Nat} {S : StT} {x1 x2 x3 : Int32} (hS : SI S) (ho : okSn x1 x2 x3 = true) (hm : hrf (zf S) (zn S) (zq S) x1 (-1) = false) : LCt l yL_sends (Cond.codeWith yL_sends cL_sends 5 (some .int) [(0, 7, 8, 18), (0, 7, 13, 32)]) 10 187 1 6 D (tyz cI cJ cQ) [.ref x0a, .int x1, .int x2, .int x3] (flatS [[(x0a, .inr (6, [.ref a0, .ref tr0, .ref s0, .ref r0, .ref w0]))], (wSt a0 a1 a2 a3 a4 a5 a6 a7 cI (S))]) (pstI (-900000002) (flatS [[(x0a, .inr (6, [.ref a0, .ref tr0, .ref s0, .ref r0, .ref w0]))], (wSt a0 a1 a2 a3 a4 a5 a6 a7 cI (S))])) := by
  refine LCt.of RL (by decide) rfl (Nat.le_of_ble_eq_true rfl) ?_
  intro p e s m below meth c A C RC XT hz hC
  refine sw_aload_n 0 0 C dL_sends_0 rfl rfl ?_
  refine sw_iload_n 1 1 C dL_sends_1 rfl rfl ?_
  refine sw_iload_n 2 2 C dL_sends_2 rfl rfl ?_
  refine sw_iload_n 3 3 C dL_sends_3 rfl rfl ?_
  refine xl_catV 4 13 [0, 1] 3 0 "java/lang/IllegalStateException" (pre := [⟨0, 7, 8, 18⟩]) (x := ⟨0, 7, 13, 32⟩) (suf := []) C hz XT (fun z hz9 => by cases List.mem_singleton.mp hz9; exact Or.inr ⟨by decide, "java/lang/IllegalArgumentException", C.w wC_L_18, hC.2⟩) (by decide) (by decide) wC_L_32 (by decide) rfl dL_sends_4 (xt_X6_send_2 l hfl hS ho hm) (fun _ h => h) wK_X6_send wM_L_28 wN_X6_send wS_X6_X6_send wI_X6 hd_X6_send rfl rfl rfl ⟨rfl, rfl⟩ ⟨(Nat.le_of_ble_eq_true rfl), (Nat.le_of_ble_eq_true rfl)⟩ rfl rfl rfl rfl (fun q9 => ?_)
  refine sw_astore 13 C dL_sends_13 rfl ?_
  refine sw_ldc 15 C dL_sends_15 (C.w wQ_L_34) ?_
  refine sw_iret 17 C RC dL_sends_17 ?_
  exact ⟨rfl, rfl⟩
set_option maxHeartbeats 4000000 in
set_option maxRecDepth 100000 in
theorem ct_L_bribes (l : Launch) (hfl : l.stackTraces = false) {D : va_G} {cI cJ cQ : ClassId} {x0a a0 a1 a2 a3 a4 a5 a6 a7 tr0 s0 s1 r0 w0 ra0 ra1 ra2 ra3 ra4 ra5 ra6 ra7 rb0 rb1 rb2 rb3 rb4 rb5 rb6 rb7 rc0 rc1 rc2 rc3 rc4 rc5 rc6 rc7 rd0 rd1 rd2 rd3 rd4 rd5 rd6 rd7 : Nat} {h : Nat → Option Nat} {S : StT} {R : Nat → StT} {cn od : Nat} {x1 x2 x3 x4 : Int32} (hS : SI S) (hcn : cn ≤ 4) (hod : od < 4) (hh0 : h 0 = some ra0) (hh1 : h 1 = some rb0) (hh2 : h 2 = some rc0) (hh3 : h 3 = some rd0) (ho : okSn x1 x2 x3 = true) (hb : inR x4 1 100 = true) (hm : hrf (zf S) (zn S) (zq S) x1 (-1) = true) : LCt l yL_bribes (Cond.codeWith yL_bribes cL_bribes 6 (some .int) [(0, 9, 10, 18), (0, 9, 15, 32)]) 10 188 0 0 D (tyz cI cJ cQ) [.ref x0a, .int x1, .int x2, .int x3, .int x4] (flatS [[(x0a, .inr (6, [.ref a0, .ref tr0, .ref s0, .ref r0, .ref w0]))], (wSt a0 a1 a2 a3 a4 a5 a6 a7 cI (S)), [(s0, .inr (3, [.int (nI (cn)), .int (nI (od)), .ref s1])), (s1, .inl (cQ, 4, .inr (.inr (.inr (.inr h)))))], (wSt ra0 ra1 ra2 ra3 ra4 ra5 ra6 ra7 cI ((R) 0)), (wSt rb0 rb1 rb2 rb3 rb4 rb5 rb6 rb7 cI ((R) 1)), (wSt rc0 rc1 rc2 rc3 rc4 rc5 rc6 rc7 cI ((R) 2)), (wSt rd0 rd1 rd2 rd3 rd4 rd5 rd6 rd7 cI ((R) 3))]) (pstI (zp S) (flatS [[(x0a, .inr (6, [.ref a0, .ref tr0, .ref s0, .ref r0, .ref w0]))], (wSt a0 a1 a2 a3 a4 a5 a6 a7 cI (pinS S x1 (-1) x2 x3 x4)), [(s0, .inr (3, [.int (nI (svC cn)), .int (nI (svO cn od)), .ref s1])), (s1, .inl (cQ, 4, .inr (.inr (.inr (.inr h)))))], (wSt ra0 ra1 ra2 ra3 ra4 ra5 ra6 ra7 cI ((va_up R (svI cn od) S) 0)), (wSt rb0 rb1 rb2 rb3 rb4 rb5 rb6 rb7 cI ((va_up R (svI cn od) S) 1)), (wSt rc0 rc1 rc2 rc3 rc4 rc5 rc6 rc7 cI ((va_up R (svI cn od) S) 2)), (wSt rd0 rd1 rd2 rd3 rd4 rd5 rd6 rd7 cI ((va_up R (svI cn od) S) 3))])) := by
  refine LCt.of RL (by decide) rfl (Nat.le_of_ble_eq_true rfl) ?_
  intro p e s m below meth c A C RC XT hz hC
  refine sw_aload_n 0 0 C dL_bribes_0 rfl rfl ?_
  refine sw_iload_n 1 1 C dL_bribes_1 rfl rfl ?_
  refine sw_iload_n 2 2 C dL_bribes_2 rfl rfl ?_
  refine sw_iload_n 3 3 C dL_bribes_3 rfl rfl ?_
  refine sw_iload 4 C dL_bribes_4 rfl ?_
  refine sg_callVI 6 [0, 1, 2, 3, 4, 5, 6] 4 0 [_, _, _, _, _, _, _] C dL_bribes_6 (ct_X6_sendBribed l hS hcn hod hh0 hh1 hh2 hh3 ho hb hm) wK_X6_sendBribed wM_L_35 wN_X6_sendBribed wS_X6_X6_sendBribed wI_X6 hd_X6_sendBribed rfl rfl rfl ⟨rfl, rfl⟩ ⟨Nat.le_of_ble_eq_true rfl, Nat.le_of_ble_eq_true rfl⟩ rfl rfl rfl rfl rfl rfl ?_
  refine sg_segs [_, _, _, _, _, _, _] rfl ?_
  refine sw_iret 9 C RC dL_bribes_9 ?_
  exact ⟨rfl, rfl⟩
set_option maxHeartbeats 4000000 in
set_option maxRecDepth 100000 in
theorem ct_L_bribes_2 (l : Launch) (hfl : l.stackTraces = false) {D : va_G} {cI cJ cQ : ClassId} {x0a a0 a1 a2 a3 a4 a5 a6 a7 tr0 s0 r0 w0 : Nat} {S : StT} {x1 x2 x3 x4 : Int32} (ho : okSn x1 x2 x3 = false) : LCt l yL_bribes (Cond.codeWith yL_bribes cL_bribes 6 (some .int) [(0, 9, 10, 18), (0, 9, 15, 32)]) 10 188 1 6 D (tyz cI cJ cQ) [.ref x0a, .int x1, .int x2, .int x3, .int x4] (flatS [[(x0a, .inr (6, [.ref a0, .ref tr0, .ref s0, .ref r0, .ref w0]))], (wSt a0 a1 a2 a3 a4 a5 a6 a7 cI (S))]) (pstI (-900000001) (flatS [[(x0a, .inr (6, [.ref a0, .ref tr0, .ref s0, .ref r0, .ref w0]))], (wSt a0 a1 a2 a3 a4 a5 a6 a7 cI (S))])) := by
  refine LCt.of RL (by decide) rfl (Nat.le_of_ble_eq_true rfl) ?_
  intro p e s m below meth c A C RC XT hz hC
  refine sw_aload_n 0 0 C dL_bribes_0 rfl rfl ?_
  refine sw_iload_n 1 1 C dL_bribes_1 rfl rfl ?_
  refine sw_iload_n 2 2 C dL_bribes_2 rfl rfl ?_
  refine sw_iload_n 3 3 C dL_bribes_3 rfl rfl ?_
  refine sw_iload 4 C dL_bribes_4 rfl ?_
  refine xl_catV 6 10 [0, 1] 4 0 "java/lang/IllegalArgumentException" (pre := []) (x := ⟨0, 9, 10, 18⟩) (suf := [⟨0, 9, 15, 32⟩]) C hz XT (fun z hz9 => nomatch hz9) (by decide) (by decide) wC_L_18 (by decide) rfl dL_bribes_6 (xt_X6_sendBribed l hfl ho) (fun _ h => h) wK_X6_sendBribed wM_L_35 wN_X6_sendBribed wS_X6_X6_sendBribed wI_X6 hd_X6_sendBribed rfl rfl rfl ⟨rfl, rfl⟩ ⟨(Nat.le_of_ble_eq_true rfl), (Nat.le_of_ble_eq_true rfl)⟩ rfl rfl rfl rfl (fun q9 => ?_)
  refine sw_astore 10 C dL_bribes_10 rfl ?_
  refine sw_ldc 12 C dL_bribes_12 (C.w wQ_L_20) ?_
  refine sw_iret 14 C RC dL_bribes_14 ?_
  exact ⟨rfl, rfl⟩
set_option maxHeartbeats 4000000 in
set_option maxRecDepth 100000 in
theorem ct_L_bribes_3 (l : Launch) (hfl : l.stackTraces = false) {D : va_G} {cI cJ cQ : ClassId} {x0a a0 a1 a2 a3 a4 a5 a6 a7 tr0 s0 r0 w0 : Nat} {S : StT} {x1 x2 x3 x4 : Int32} (ho : okSn x1 x2 x3 = true) (hb : inR x4 1 100 = false) : LCt l yL_bribes (Cond.codeWith yL_bribes cL_bribes 6 (some .int) [(0, 9, 10, 18), (0, 9, 15, 32)]) 10 188 1 6 D (tyz cI cJ cQ) [.ref x0a, .int x1, .int x2, .int x3, .int x4] (flatS [[(x0a, .inr (6, [.ref a0, .ref tr0, .ref s0, .ref r0, .ref w0]))], (wSt a0 a1 a2 a3 a4 a5 a6 a7 cI (S))]) (pstI (-900000001) (flatS [[(x0a, .inr (6, [.ref a0, .ref tr0, .ref s0, .ref r0, .ref w0]))], (wSt a0 a1 a2 a3 a4 a5 a6 a7 cI (S))])) := by
  refine LCt.of RL (by decide) rfl (Nat.le_of_ble_eq_true rfl) ?_
  intro p e s m below meth c A C RC XT hz hC
  refine sw_aload_n 0 0 C dL_bribes_0 rfl rfl ?_
  refine sw_iload_n 1 1 C dL_bribes_1 rfl rfl ?_
  refine sw_iload_n 2 2 C dL_bribes_2 rfl rfl ?_
  refine sw_iload_n 3 3 C dL_bribes_3 rfl rfl ?_
  refine sw_iload 4 C dL_bribes_4 rfl ?_
  refine xl_catV 6 10 [0, 1] 4 0 "java/lang/IllegalArgumentException" (pre := []) (x := ⟨0, 9, 10, 18⟩) (suf := [⟨0, 9, 15, 32⟩]) C hz XT (fun z hz9 => nomatch hz9) (by decide) (by decide) wC_L_18 (by decide) rfl dL_bribes_6 (xt_X6_sendBribed_2 l hfl ho hb) (fun _ h => h) wK_X6_sendBribed wM_L_35 wN_X6_sendBribed wS_X6_X6_sendBribed wI_X6 hd_X6_sendBribed rfl rfl rfl ⟨rfl, rfl⟩ ⟨(Nat.le_of_ble_eq_true rfl), (Nat.le_of_ble_eq_true rfl)⟩ rfl rfl rfl rfl (fun q9 => ?_)
  refine sw_astore 10 C dL_bribes_10 rfl ?_
  refine sw_ldc 12 C dL_bribes_12 (C.w wQ_L_20) ?_
  refine sw_iret 14 C RC dL_bribes_14 ?_
  exact ⟨rfl, rfl⟩
set_option maxHeartbeats 4000000 in
set_option maxRecDepth 100000 in
theorem ct_L_bribes_4 (l : Launch) (hfl : l.stackTraces = false) {D : va_G} {cI cJ cQ : ClassId} {x0a a0 a1 a2 a3 a4 a5 a6 a7 tr0 s0 r0 w0 : Nat} {S : StT} {x1 x2 x3 x4 : Int32} (hS : SI S) (ho : okSn x1 x2 x3 = true) (hb : inR x4 1 100 = true) (hm : hrf (zf S) (zn S) (zq S) x1 (-1) = false) : LCt l yL_bribes (Cond.codeWith yL_bribes cL_bribes 6 (some .int) [(0, 9, 10, 18), (0, 9, 15, 32)]) 10 188 1 6 D (tyz cI cJ cQ) [.ref x0a, .int x1, .int x2, .int x3, .int x4] (flatS [[(x0a, .inr (6, [.ref a0, .ref tr0, .ref s0, .ref r0, .ref w0]))], (wSt a0 a1 a2 a3 a4 a5 a6 a7 cI (S))]) (pstI (-900000002) (flatS [[(x0a, .inr (6, [.ref a0, .ref tr0, .ref s0, .ref r0, .ref w0]))], (wSt a0 a1 a2 a3 a4 a5 a6 a7 cI (S))])) := by
  refine LCt.of RL (by decide) rfl (Nat.le_of_ble_eq_true rfl) ?_
  intro p e s m below meth c A C RC XT hz hC
  refine sw_aload_n 0 0 C dL_bribes_0 rfl rfl ?_
  refine sw_iload_n 1 1 C dL_bribes_1 rfl rfl ?_
  refine sw_iload_n 2 2 C dL_bribes_2 rfl rfl ?_
  refine sw_iload_n 3 3 C dL_bribes_3 rfl rfl ?_
  refine sw_iload 4 C dL_bribes_4 rfl ?_
  refine xl_catV 6 15 [0, 1] 4 0 "java/lang/IllegalStateException" (pre := [⟨0, 9, 10, 18⟩]) (x := ⟨0, 9, 15, 32⟩) (suf := []) C hz XT (fun z hz9 => by cases List.mem_singleton.mp hz9; exact Or.inr ⟨by decide, "java/lang/IllegalArgumentException", C.w wC_L_18, hC.2⟩) (by decide) (by decide) wC_L_32 (by decide) rfl dL_bribes_6 (xt_X6_sendBribed_3 l hfl hS ho hb hm) (fun _ h => h) wK_X6_sendBribed wM_L_35 wN_X6_sendBribed wS_X6_X6_sendBribed wI_X6 hd_X6_sendBribed rfl rfl rfl ⟨rfl, rfl⟩ ⟨(Nat.le_of_ble_eq_true rfl), (Nat.le_of_ble_eq_true rfl)⟩ rfl rfl rfl rfl (fun q9 => ?_)
  refine sw_astore 15 C dL_bribes_15 rfl ?_
  refine sw_ldc 17 C dL_bribes_17 (C.w wQ_L_34) ?_
  refine sw_iret 19 C RC dL_bribes_19 ?_
  exact ⟨rfl, rfl⟩
set_option maxHeartbeats 4000000 in
set_option maxRecDepth 100000 in
theorem ct_L_joint (l : Launch) (hfl : l.stackTraces = false) {D : va_G} {cI cJ cQ : ClassId} {x0a a0 a1 a2 a3 a4 a5 a6 a7 tr0 s0 s1 r0 w0 ra0 ra1 ra2 ra3 ra4 ra5 ra6 ra7 rb0 rb1 rb2 rb3 rb4 rb5 rb6 rb7 rc0 rc1 rc2 rc3 rc4 rc5 rc6 rc7 rd0 rd1 rd2 rd3 rd4 rd5 rd6 rd7 : Nat} {h : Nat → Option Nat} {S : StT} {R : Nat → StT} {cn od : Nat} {x1 x2 x3 x4 : Int32} (hS : SI S) (hcn : cn ≤ 4) (hod : od < 4) (hh0 : h 0 = some ra0) (hh1 : h 1 = some rb0) (hh2 : h 2 = some rc0) (hh3 : h 3 = some rd0) (ho : okSn x1 x3 x4 = true) (hb : inR x2 0 7 = true) (hne : ¬ x2 = x1) (hm : hrf (zf S) (zn S) (zq S) x1 (x2) = true) : LCt l yL_joint (Cond.codeWith yL_joint cL_joint 6 (some .int) [(0, 9, 10, 18), (0, 9, 15, 32)]) 10 188 0 0 D (tyz cI cJ cQ) [.ref x0a, .int x1, .int x2, .int x3, .int x4] (flatS [[(x0a, .inr (6, [.ref a0, .ref tr0, .ref s0, .ref r0, .ref w0]))], (wSt a0 a1 a2 a3 a4 a5 a6 a7 cI (S)), [(s0, .inr (3, [.int (nI (cn)), .int (nI (od)), .ref s1])), (s1, .inl (cQ, 4, .inr (.inr (.inr (.inr h)))))], (wSt ra0 ra1 ra2 ra3 ra4 ra5 ra6 ra7 cI ((R) 0)), (wSt rb0 rb1 rb2 rb3 rb4 rb5 rb6 rb7 cI ((R) 1)), (wSt rc0 rc1 rc2 rc3 rc4 rc5 rc6 rc7 cI ((R) 2)), (wSt rd0 rd1 rd2 rd3 rd4 rd5 rd6 rd7 cI ((R) 3))]) (pstI (zp S) (flatS [[(x0a, .inr (6, [.ref a0, .ref tr0, .ref s0, .ref r0, .ref w0]))], (wSt a0 a1 a2 a3 a4 a5 a6 a7 cI (pinS S x1 x2 x3 x4 0)), [(s0, .inr (3, [.int (nI (svC cn)), .int (nI (svO cn od)), .ref s1])), (s1, .inl (cQ, 4, .inr (.inr (.inr (.inr h)))))], (wSt ra0 ra1 ra2 ra3 ra4 ra5 ra6 ra7 cI ((va_up R (svI cn od) S) 0)), (wSt rb0 rb1 rb2 rb3 rb4 rb5 rb6 rb7 cI ((va_up R (svI cn od) S) 1)), (wSt rc0 rc1 rc2 rc3 rc4 rc5 rc6 rc7 cI ((va_up R (svI cn od) S) 2)), (wSt rd0 rd1 rd2 rd3 rd4 rd5 rd6 rd7 cI ((va_up R (svI cn od) S) 3))])) := by
  refine LCt.of RL (by decide) rfl (Nat.le_of_ble_eq_true rfl) ?_
  intro p e s m below meth c A C RC XT hz hC
  refine sw_aload_n 0 0 C dL_joint_0 rfl rfl ?_
  refine sw_iload_n 1 1 C dL_joint_1 rfl rfl ?_
  refine sw_iload_n 2 2 C dL_joint_2 rfl rfl ?_
  refine sw_iload_n 3 3 C dL_joint_3 rfl rfl ?_
  refine sw_iload 4 C dL_joint_4 rfl ?_
  refine sg_callVI 6 [0, 1, 2, 3, 4, 5, 6] 4 0 [_, _, _, _, _, _, _] C dL_joint_6 (ct_X6_sendJoint l hS hcn hod hh0 hh1 hh2 hh3 ho hb hne hm) wK_X6_sendJoint wM_L_39 wN_X6_sendJoint wS_X6_X6_sendJoint wI_X6 hd_X6_sendJoint rfl rfl rfl ⟨rfl, rfl⟩ ⟨Nat.le_of_ble_eq_true rfl, Nat.le_of_ble_eq_true rfl⟩ rfl rfl rfl rfl rfl rfl ?_
  refine sg_segs [_, _, _, _, _, _, _] rfl ?_
  refine sw_iret 9 C RC dL_joint_9 ?_
  exact ⟨rfl, rfl⟩
set_option maxHeartbeats 4000000 in
set_option maxRecDepth 100000 in
theorem ct_L_joint_2 (l : Launch) (hfl : l.stackTraces = false) {D : va_G} {cI cJ cQ : ClassId} {x0a a0 a1 a2 a3 a4 a5 a6 a7 tr0 s0 r0 w0 : Nat} {S : StT} {x1 x2 x3 x4 : Int32} (ho : okSn x1 x3 x4 = false) : LCt l yL_joint (Cond.codeWith yL_joint cL_joint 6 (some .int) [(0, 9, 10, 18), (0, 9, 15, 32)]) 10 188 1 6 D (tyz cI cJ cQ) [.ref x0a, .int x1, .int x2, .int x3, .int x4] (flatS [[(x0a, .inr (6, [.ref a0, .ref tr0, .ref s0, .ref r0, .ref w0]))], (wSt a0 a1 a2 a3 a4 a5 a6 a7 cI (S))]) (pstI (-900000001) (flatS [[(x0a, .inr (6, [.ref a0, .ref tr0, .ref s0, .ref r0, .ref w0]))], (wSt a0 a1 a2 a3 a4 a5 a6 a7 cI (S))])) := by
  refine LCt.of RL (by decide) rfl (Nat.le_of_ble_eq_true rfl) ?_
  intro p e s m below meth c A C RC XT hz hC
  refine sw_aload_n 0 0 C dL_joint_0 rfl rfl ?_
  refine sw_iload_n 1 1 C dL_joint_1 rfl rfl ?_
  refine sw_iload_n 2 2 C dL_joint_2 rfl rfl ?_
  refine sw_iload_n 3 3 C dL_joint_3 rfl rfl ?_
  refine sw_iload 4 C dL_joint_4 rfl ?_
  refine xl_catV 6 10 [0, 1] 4 0 "java/lang/IllegalArgumentException" (pre := []) (x := ⟨0, 9, 10, 18⟩) (suf := [⟨0, 9, 15, 32⟩]) C hz XT (fun z hz9 => nomatch hz9) (by decide) (by decide) wC_L_18 (by decide) rfl dL_joint_6 (xt_X6_sendJoint l hfl ho) (fun _ h => h) wK_X6_sendJoint wM_L_39 wN_X6_sendJoint wS_X6_X6_sendJoint wI_X6 hd_X6_sendJoint rfl rfl rfl ⟨rfl, rfl⟩ ⟨(Nat.le_of_ble_eq_true rfl), (Nat.le_of_ble_eq_true rfl)⟩ rfl rfl rfl rfl (fun q9 => ?_)
  refine sw_astore 10 C dL_joint_10 rfl ?_
  refine sw_ldc 12 C dL_joint_12 (C.w wQ_L_20) ?_
  refine sw_iret 14 C RC dL_joint_14 ?_
  exact ⟨rfl, rfl⟩
set_option maxHeartbeats 4000000 in
set_option maxRecDepth 100000 in
theorem ct_L_joint_3 (l : Launch) (hfl : l.stackTraces = false) {D : va_G} {cI cJ cQ : ClassId} {x0a a0 a1 a2 a3 a4 a5 a6 a7 tr0 s0 r0 w0 : Nat} {S : StT} {x1 x2 x3 x4 : Int32} (ho : okSn x1 x3 x4 = true) (hb : inR x2 0 7 = false) : LCt l yL_joint (Cond.codeWith yL_joint cL_joint 6 (some .int) [(0, 9, 10, 18), (0, 9, 15, 32)]) 10 188 1 6 D (tyz cI cJ cQ) [.ref x0a, .int x1, .int x2, .int x3, .int x4] (flatS [[(x0a, .inr (6, [.ref a0, .ref tr0, .ref s0, .ref r0, .ref w0]))], (wSt a0 a1 a2 a3 a4 a5 a6 a7 cI (S))]) (pstI (-900000001) (flatS [[(x0a, .inr (6, [.ref a0, .ref tr0, .ref s0, .ref r0, .ref w0]))], (wSt a0 a1 a2 a3 a4 a5 a6 a7 cI (S))])) := by
  refine LCt.of RL (by decide) rfl (Nat.le_of_ble_eq_true rfl) ?_
  intro p e s m below meth c A C RC XT hz hC
  refine sw_aload_n 0 0 C dL_joint_0 rfl rfl ?_
  refine sw_iload_n 1 1 C dL_joint_1 rfl rfl ?_
  refine sw_iload_n 2 2 C dL_joint_2 rfl rfl ?_
  refine sw_iload_n 3 3 C dL_joint_3 rfl rfl ?_
  refine sw_iload 4 C dL_joint_4 rfl ?_
  refine xl_catV 6 10 [0, 1] 4 0 "java/lang/IllegalArgumentException" (pre := []) (x := ⟨0, 9, 10, 18⟩) (suf := [⟨0, 9, 15, 32⟩]) C hz XT (fun z hz9 => nomatch hz9) (by decide) (by decide) wC_L_18 (by decide) rfl dL_joint_6 (xt_X6_sendJoint_2 l hfl ho hb) (fun _ h => h) wK_X6_sendJoint wM_L_39 wN_X6_sendJoint wS_X6_X6_sendJoint wI_X6 hd_X6_sendJoint rfl rfl rfl ⟨rfl, rfl⟩ ⟨(Nat.le_of_ble_eq_true rfl), (Nat.le_of_ble_eq_true rfl)⟩ rfl rfl rfl rfl (fun q9 => ?_)
  refine sw_astore 10 C dL_joint_10 rfl ?_
  refine sw_ldc 12 C dL_joint_12 (C.w wQ_L_20) ?_
  refine sw_iret 14 C RC dL_joint_14 ?_
  exact ⟨rfl, rfl⟩
set_option maxHeartbeats 4000000 in
set_option maxRecDepth 100000 in
theorem ct_L_joint_4 (l : Launch) (hfl : l.stackTraces = false) {D : va_G} {cI cJ cQ : ClassId} {x0a a0 a1 a2 a3 a4 a5 a6 a7 tr0 s0 r0 w0 : Nat} {S : StT} {x1 x2 x3 x4 : Int32} (ho : okSn x1 x3 x4 = true) (hb : inR x2 0 7 = true) (hne : x2 = x1) : LCt l yL_joint (Cond.codeWith yL_joint cL_joint 6 (some .int) [(0, 9, 10, 18), (0, 9, 15, 32)]) 10 188 1 6 D (tyz cI cJ cQ) [.ref x0a, .int x1, .int x2, .int x3, .int x4] (flatS [[(x0a, .inr (6, [.ref a0, .ref tr0, .ref s0, .ref r0, .ref w0]))], (wSt a0 a1 a2 a3 a4 a5 a6 a7 cI (S))]) (pstI (-900000001) (flatS [[(x0a, .inr (6, [.ref a0, .ref tr0, .ref s0, .ref r0, .ref w0]))], (wSt a0 a1 a2 a3 a4 a5 a6 a7 cI (S))])) := by
  refine LCt.of RL (by decide) rfl (Nat.le_of_ble_eq_true rfl) ?_
  intro p e s m below meth c A C RC XT hz hC
  refine sw_aload_n 0 0 C dL_joint_0 rfl rfl ?_
  refine sw_iload_n 1 1 C dL_joint_1 rfl rfl ?_
  refine sw_iload_n 2 2 C dL_joint_2 rfl rfl ?_
  refine sw_iload_n 3 3 C dL_joint_3 rfl rfl ?_
  refine sw_iload 4 C dL_joint_4 rfl ?_
  refine xl_catV 6 10 [0, 1] 4 0 "java/lang/IllegalArgumentException" (pre := []) (x := ⟨0, 9, 10, 18⟩) (suf := [⟨0, 9, 15, 32⟩]) C hz XT (fun z hz9 => nomatch hz9) (by decide) (by decide) wC_L_18 (by decide) rfl dL_joint_6 (xt_X6_sendJoint_3 l hfl ho hb hne) (fun _ h => h) wK_X6_sendJoint wM_L_39 wN_X6_sendJoint wS_X6_X6_sendJoint wI_X6 hd_X6_sendJoint rfl rfl rfl ⟨rfl, rfl⟩ ⟨(Nat.le_of_ble_eq_true rfl), (Nat.le_of_ble_eq_true rfl)⟩ rfl rfl rfl rfl (fun q9 => ?_)
  refine sw_astore 10 C dL_joint_10 rfl ?_
  refine sw_ldc 12 C dL_joint_12 (C.w wQ_L_20) ?_
  refine sw_iret 14 C RC dL_joint_14 ?_
  exact ⟨rfl, rfl⟩
set_option maxHeartbeats 4000000 in
set_option maxRecDepth 100000 in
theorem ct_L_joint_5 (l : Launch) (hfl : l.stackTraces = false) {D : va_G} {cI cJ cQ : ClassId} {x0a a0 a1 a2 a3 a4 a5 a6 a7 tr0 s0 r0 w0 : Nat} {S : StT} {x1 x2 x3 x4 : Int32} (hS : SI S) (ho : okSn x1 x3 x4 = true) (hb : inR x2 0 7 = true) (hne : ¬ x2 = x1) (hm : hrf (zf S) (zn S) (zq S) x1 (x2) = false) : LCt l yL_joint (Cond.codeWith yL_joint cL_joint 6 (some .int) [(0, 9, 10, 18), (0, 9, 15, 32)]) 10 188 1 6 D (tyz cI cJ cQ) [.ref x0a, .int x1, .int x2, .int x3, .int x4] (flatS [[(x0a, .inr (6, [.ref a0, .ref tr0, .ref s0, .ref r0, .ref w0]))], (wSt a0 a1 a2 a3 a4 a5 a6 a7 cI (S))]) (pstI (-900000002) (flatS [[(x0a, .inr (6, [.ref a0, .ref tr0, .ref s0, .ref r0, .ref w0]))], (wSt a0 a1 a2 a3 a4 a5 a6 a7 cI (S))])) := by
  refine LCt.of RL (by decide) rfl (Nat.le_of_ble_eq_true rfl) ?_
  intro p e s m below meth c A C RC XT hz hC
  refine sw_aload_n 0 0 C dL_joint_0 rfl rfl ?_
  refine sw_iload_n 1 1 C dL_joint_1 rfl rfl ?_
  refine sw_iload_n 2 2 C dL_joint_2 rfl rfl ?_
  refine sw_iload_n 3 3 C dL_joint_3 rfl rfl ?_
  refine sw_iload 4 C dL_joint_4 rfl ?_
  refine xl_catV 6 15 [0, 1] 4 0 "java/lang/IllegalStateException" (pre := [⟨0, 9, 10, 18⟩]) (x := ⟨0, 9, 15, 32⟩) (suf := []) C hz XT (fun z hz9 => by cases List.mem_singleton.mp hz9; exact Or.inr ⟨by decide, "java/lang/IllegalArgumentException", C.w wC_L_18, hC.2⟩) (by decide) (by decide) wC_L_32 (by decide) rfl dL_joint_6 (xt_X6_sendJoint_4 l hfl hS ho hb hne hm) (fun _ h => h) wK_X6_sendJoint wM_L_39 wN_X6_sendJoint wS_X6_X6_sendJoint wI_X6 hd_X6_sendJoint rfl rfl rfl ⟨rfl, rfl⟩ ⟨(Nat.le_of_ble_eq_true rfl), (Nat.le_of_ble_eq_true rfl)⟩ rfl rfl rfl rfl (fun q9 => ?_)
  refine sw_astore 15 C dL_joint_15 rfl ?_
  refine sw_ldc 17 C dL_joint_17 (C.w wQ_L_34) ?_
  refine sw_iret 19 C RC dL_joint_19 ?_
  exact ⟨rfl, rfl⟩
set_option maxHeartbeats 4000000 in
set_option maxRecDepth 100000 in
theorem ct_L_takes (l : Launch) (hfl : l.stackTraces = false) {D : va_G} {cI cJ cQ : ClassId} {x0a a0 a1 a2 a3 a4 a5 a6 a7 tr0 s0 s1 r0 w0 ra0 ra1 ra2 ra3 ra4 ra5 ra6 ra7 rb0 rb1 rb2 rb3 rb4 rb5 rb6 rb7 rc0 rc1 rc2 rc3 rc4 rc5 rc6 rc7 rd0 rd1 rd2 rd3 rd4 rd5 rd6 rd7 : Nat} {h : Nat → Option Nat} {S : StT} {R : Nat → StT} {cn od : Nat} {x1 : Int32} (hS : SI S) (hcn : cn ≤ 4) (hod : od < 4) (hh0 : h 0 = some ra0) (hh1 : h 1 = some rb0) (hh2 : h 2 = some rc0) (hh3 : h 3 = some rd0) (i : Nat) (hi : fnd (zf S) x1 (zn S) = some i) : LCt l yL_takes (Cond.codeWith yL_takes cL_takes 3 (some .int) [(0, 5, 6, 15)]) 9 164 0 0 D (tyz cI cJ cQ) [.ref x0a, .int x1] (flatS [[(x0a, .inr (6, [.ref a0, .ref tr0, .ref s0, .ref r0, .ref w0]))], (wSt a0 a1 a2 a3 a4 a5 a6 a7 cI (S)), [(s0, .inr (3, [.int (nI (cn)), .int (nI (od)), .ref s1])), (s1, .inl (cQ, 4, .inr (.inr (.inr (.inr h)))))], (wSt ra0 ra1 ra2 ra3 ra4 ra5 ra6 ra7 cI ((R) 0)), (wSt rb0 rb1 rb2 rb3 rb4 rb5 rb6 rb7 cI ((R) 1)), (wSt rc0 rc1 rc2 rc3 rc4 rc5 rc6 rc7 cI ((R) 2)), (wSt rd0 rd1 rd2 rd3 rd4 rd5 rd6 rd7 cI ((R) 3))]) (pstI (gbk (zf S) (zg S) i 2) (flatS [[(x0a, .inr (6, [.ref a0, .ref tr0, .ref s0, .ref r0, .ref w0]))], (wSt a0 a1 a2 a3 a4 a5 a6 a7 cI (leaveS S i 2)), [(s0, .inr (3, [.int (nI (svC cn)), .int (nI (svO cn od)), .ref s1])), (s1, .inl (cQ, 4, .inr (.inr (.inr (.inr h)))))], (wSt ra0 ra1 ra2 ra3 ra4 ra5 ra6 ra7 cI ((va_up R (svI cn od) S) 0)), (wSt rb0 rb1 rb2 rb3 rb4 rb5 rb6 rb7 cI ((va_up R (svI cn od) S) 1)), (wSt rc0 rc1 rc2 rc3 rc4 rc5 rc6 rc7 cI ((va_up R (svI cn od) S) 2)), (wSt rd0 rd1 rd2 rd3 rd4 rd5 rd6 rd7 cI ((va_up R (svI cn od) S) 3))])) := by
  refine LCt.of RL (by decide) rfl (Nat.le_of_ble_eq_true rfl) ?_
  intro p e s m below meth c A C RC XT hz hC
  refine sw_aload_n 0 0 C dL_takes_0 rfl rfl ?_
  refine sw_iload_n 1 1 C dL_takes_1 rfl rfl ?_
  refine sg_callVI 2 [0, 1, 2, 3, 4, 5, 6] 1 0 [_, _, _, _, _, _, _] C dL_takes_2 (ct_X6_withdraw l hS hcn hod hh0 hh1 hh2 hh3 i hi) wK_X6_withdraw wM_L_42 wN_X6_withdraw wS_X6_X6_withdraw wI_X6 hd_X6_withdraw rfl rfl rfl ⟨rfl, rfl⟩ ⟨Nat.le_of_ble_eq_true rfl, Nat.le_of_ble_eq_true rfl⟩ rfl rfl rfl rfl rfl rfl ?_
  refine sg_segs [_, _, _, _, _, _, _] rfl ?_
  refine sw_iret 5 C RC dL_takes_5 ?_
  exact ⟨rfl, rfl⟩
set_option maxHeartbeats 4000000 in
set_option maxRecDepth 100000 in
theorem ct_L_takes_2 (l : Launch) (hfl : l.stackTraces = false) {D : va_G} {cI cJ cQ : ClassId} {x0a a0 a1 a2 a3 a4 a5 a6 a7 tr0 s0 r0 w0 : Nat} {S : StT} {x1 : Int32} (hS : SI S) (hi : fnd (zf S) x1 (zn S) = none) : LCt l yL_takes (Cond.codeWith yL_takes cL_takes 3 (some .int) [(0, 5, 6, 15)]) 9 164 1 6 D (tyz cI cJ cQ) [.ref x0a, .int x1] (flatS [[(x0a, .inr (6, [.ref a0, .ref tr0, .ref s0, .ref r0, .ref w0]))], (wSt a0 a1 a2 a3 a4 a5 a6 a7 cI (S))]) (pstI (-900000003) (flatS [[(x0a, .inr (6, [.ref a0, .ref tr0, .ref s0, .ref r0, .ref w0]))], (wSt a0 a1 a2 a3 a4 a5 a6 a7 cI (S))])) := by
  refine LCt.of RL (by decide) rfl (Nat.le_of_ble_eq_true rfl) ?_
  intro p e s m below meth c A C RC XT hz hC
  refine sw_aload_n 0 0 C dL_takes_0 rfl rfl ?_
  refine sw_iload_n 1 1 C dL_takes_1 rfl rfl ?_
  refine xl_catV 2 6 [0, 1] 1 0 "java/lang/IndexOutOfBoundsException" (pre := []) (x := ⟨0, 5, 6, 15⟩) (suf := []) C hz XT (fun z hz9 => nomatch hz9) (by decide) (by decide) wC_L_15 (by decide) rfl dL_takes_2 (xt_X6_withdraw l hfl hS hi) (fun _ h => h) wK_X6_withdraw wM_L_42 wN_X6_withdraw wS_X6_X6_withdraw wI_X6 hd_X6_withdraw rfl rfl rfl ⟨rfl, rfl⟩ ⟨(Nat.le_of_ble_eq_true rfl), (Nat.le_of_ble_eq_true rfl)⟩ rfl rfl rfl rfl (fun q9 => ?_)
  refine sw_astore_n 6 2 C dL_takes_6 rfl rfl ?_
  refine sw_ldc 7 C dL_takes_7 (C.w wQ_L_17) ?_
  refine sw_iret 9 C RC dL_takes_9 ?_
  exact ⟨rfl, rfl⟩
set_option maxHeartbeats 4000000 in
set_option maxRecDepth 100000 in
theorem ct_L_serves (l : Launch) (hfl : l.stackTraces = false) {D : va_G} {cI cJ cQ : ClassId} {x0a a0 a1 a2 a3 a4 a5 a6 a7 tr0 s0 s1 r0 w0 ra0 ra1 ra2 ra3 ra4 ra5 ra6 ra7 rb0 rb1 rb2 rb3 rb4 rb5 rb6 rb7 rc0 rc1 rc2 rc3 rc4 rc5 rc6 rc7 rd0 rd1 rd2 rd3 rd4 rd5 rd6 rd7 : Nat} {h : Nat → Option Nat} {S : StT} {R : Nat → StT} {cn od : Nat} (hS : SI S) (hcn : cn ≤ 4) (hod : od < 4) (hh0 : h 0 = some ra0) (hh1 : h 1 = some rb0) (hh2 : h 2 = some rc0) (hh3 : h 3 = some rd0) (h0 : 0 < zn S) : LCt l yL_serves (Cond.codeWith yL_serves cL_serves 2 (some .int) [(0, 4, 5, 49)]) 8 140 0 0 D (tyz cI cJ cQ) [.ref x0a] (flatS [[(x0a, .inr (6, [.ref a0, .ref tr0, .ref s0, .ref r0, .ref w0]))], (wSt a0 a1 a2 a3 a4 a5 a6 a7 cI (S)), [(s0, .inr (3, [.int (nI (cn)), .int (nI (od)), .ref s1])), (s1, .inl (cQ, 4, .inr (.inr (.inr (.inr h)))))], (wSt ra0 ra1 ra2 ra3 ra4 ra5 ra6 ra7 cI ((R) 0)), (wSt rb0 rb1 rb2 rb3 rb4 rb5 rb6 rb7 cI ((R) 1)), (wSt rc0 rc1 rc2 rc3 rc4 rc5 rc6 rc7 cI ((R) 2)), (wSt rd0 rd1 rd2 rd3 rd4 rd5 rd6 rd7 cI ((R) 3))]) (pstI ((srv S).1) (flatS [[(x0a, .inr (6, [.ref a0, .ref tr0, .ref s0, .ref r0, .ref w0]))], (wSt a0 a1 a2 a3 a4 a5 a6 a7 cI ((srv S).2)), [(s0, .inr (3, [.int (nI (svC cn)), .int (nI (svO cn od)), .ref s1])), (s1, .inl (cQ, 4, .inr (.inr (.inr (.inr h)))))], (wSt ra0 ra1 ra2 ra3 ra4 ra5 ra6 ra7 cI ((va_up R (svI cn od) S) 0)), (wSt rb0 rb1 rb2 rb3 rb4 rb5 rb6 rb7 cI ((va_up R (svI cn od) S) 1)), (wSt rc0 rc1 rc2 rc3 rc4 rc5 rc6 rc7 cI ((va_up R (svI cn od) S) 2)), (wSt rd0 rd1 rd2 rd3 rd4 rd5 rd6 rd7 cI ((va_up R (svI cn od) S) 3))])) := by
  refine LCt.of RL (by decide) rfl (Nat.le_of_ble_eq_true rfl) ?_
  intro p e s m below meth c A C RC XT hz hC
  refine sw_aload_n 0 0 C dL_serves_0 rfl rfl ?_
  refine sg_callVI 1 [0, 1, 2, 3, 4, 5, 6] 0 0 [_, _, _, _, _, _, _] C dL_serves_1 (ct_X6_serve l hS hcn hod hh0 hh1 hh2 hh3 h0) wK_X6_serve wM_L_45 wN_X6_serve wS_X6_X6_serve wI_X6 hd_X6_serve rfl rfl rfl ⟨rfl, rfl⟩ ⟨Nat.le_of_ble_eq_true rfl, Nat.le_of_ble_eq_true rfl⟩ rfl rfl rfl rfl rfl rfl ?_
  refine sg_segs [_, _, _, _, _, _, _] rfl ?_
  refine sw_iret 4 C RC dL_serves_4 ?_
  exact ⟨rfl, rfl⟩
set_option maxHeartbeats 4000000 in
set_option maxRecDepth 100000 in
theorem ct_L_serves_2 (l : Launch) (hfl : l.stackTraces = false) {D : va_G} {cI cJ cQ : ClassId} {x0a a0 a1 a2 a3 a4 a5 a6 a7 tr0 s0 r0 w0 : Nat} {S : StT} (h0 : zn S = 0) : LCt l yL_serves (Cond.codeWith yL_serves cL_serves 2 (some .int) [(0, 4, 5, 49)]) 8 140 1 6 D (tyz cI cJ cQ) [.ref x0a] (flatS [[(x0a, .inr (6, [.ref a0, .ref tr0, .ref s0, .ref r0, .ref w0]))], (wSt a0 a1 a2 a3 a4 a5 a6 a7 cI (S))]) (pstI (-900000004) (flatS [[(x0a, .inr (6, [.ref a0, .ref tr0, .ref s0, .ref r0, .ref w0]))], (wSt a0 a1 a2 a3 a4 a5 a6 a7 cI (S))])) := by
  refine LCt.of RL (by decide) rfl (Nat.le_of_ble_eq_true rfl) ?_
  intro p e s m below meth c A C RC XT hz hC
  refine sw_aload_n 0 0 C dL_serves_0 rfl rfl ?_
  refine xl_catV 1 5 [0, 1] 0 0 "java/util/NoSuchElementException" (pre := []) (x := ⟨0, 4, 5, 49⟩) (suf := []) C hz XT (fun z hz9 => nomatch hz9) (by decide) (by decide) wC_L_49 (by decide) rfl dL_serves_1 (xt_X6_serve l hfl h0) (fun _ h => h) wK_X6_serve wM_L_45 wN_X6_serve wS_X6_X6_serve wI_X6 hd_X6_serve rfl rfl rfl ⟨rfl, rfl⟩ ⟨(Nat.le_of_ble_eq_true rfl), (Nat.le_of_ble_eq_true rfl)⟩ rfl rfl rfl rfl (fun q9 => ?_)
  refine sw_astore_n 5 1 C dL_serves_5 rfl rfl ?_
  refine sw_ldc 6 C dL_serves_6 (C.w wQ_L_51) ?_
  refine sw_iret 8 C RC dL_serves_8 ?_
  exact ⟨rfl, rfl⟩
set_option maxHeartbeats 4000000 in
set_option maxRecDepth 100000 in
theorem ct_L_passes (l : Launch) (hfl : l.stackTraces = false) {D : va_G} {cI cJ cQ : ClassId} {x0a a0 a1 a2 a3 a4 a5 a6 a7 tr0 s0 s1 r0 w0 ra0 ra1 ra2 ra3 ra4 ra5 ra6 ra7 rb0 rb1 rb2 rb3 rb4 rb5 rb6 rb7 rc0 rc1 rc2 rc3 rc4 rc5 rc6 rc7 rd0 rd1 rd2 rd3 rd4 rd5 rd6 rd7 : Nat} {h : Nat → Option Nat} {S : StT} {R : Nat → StT} {cn od : Nat} {x1 : Int32} (hS : SI S) (hcn : cn ≤ 4) (hod : od < 4) (hh0 : h 0 = some ra0) (hh1 : h 1 = some rb0) (hh2 : h 2 = some rc0) (hh3 : h 3 = some rd0) (k : Nat) (h1 : x1 = nI k) (hk0 : 1 ≤ k) (hk : k ≤ 200) (ht : x1 ≤ 100000 - zt S) : LCt l yL_passes (Cond.codeWith yL_passes cL_passes 3 (some .int) [(0, 5, 6, 18), (0, 5, 10, 32)]) 9 163 0 0 D (tyz cI cJ cQ) [.ref x0a, .int x1] (flatS [[(x0a, .inr (6, [.ref a0, .ref tr0, .ref s0, .ref r0, .ref w0]))], (wSt a0 a1 a2 a3 a4 a5 a6 a7 cI (S)), [(s0, .inr (3, [.int (nI (cn)), .int (nI (od)), .ref s1])), (s1, .inl (cQ, 4, .inr (.inr (.inr (.inr h)))))], (wSt ra0 ra1 ra2 ra3 ra4 ra5 ra6 ra7 cI ((R) 0)), (wSt rb0 rb1 rb2 rb3 rb4 rb5 rb6 rb7 cI ((R) 1)), (wSt rc0 rc1 rc2 rc3 rc4 rc5 rc6 rc7 cI ((R) 2)), (wSt rd0 rd1 rd2 rd3 rd4 rd5 rd6 rd7 cI ((R) 3))]) (pstI (nI (tps k S).1) (flatS [[(x0a, .inr (6, [.ref a0, .ref tr0, .ref s0, .ref r0, .ref w0]))], (wSt a0 a1 a2 a3 a4 a5 a6 a7 cI ((tps k S).2)), [(s0, .inr (3, [.int (nI (svC cn)), .int (nI (svO cn od)), .ref s1])), (s1, .inl (cQ, 4, .inr (.inr (.inr (.inr h)))))], (wSt ra0 ra1 ra2 ra3 ra4 ra5 ra6 ra7 cI ((va_up R (svI cn od) S) 0)), (wSt rb0 rb1 rb2 rb3 rb4 rb5 rb6 rb7 cI ((va_up R (svI cn od) S) 1)), (wSt rc0 rc1 rc2 rc3 rc4 rc5 rc6 rc7 cI ((va_up R (svI cn od) S) 2)), (wSt rd0 rd1 rd2 rd3 rd4 rd5 rd6 rd7 cI ((va_up R (svI cn od) S) 3))])) := by
  refine LCt.of RL (by decide) rfl (Nat.le_of_ble_eq_true rfl) ?_
  intro p e s m below meth c A C RC XT hz hC
  refine sw_aload_n 0 0 C dL_passes_0 rfl rfl ?_
  refine sw_iload_n 1 1 C dL_passes_1 rfl rfl ?_
  refine sg_callVI 2 [0, 1, 2, 3, 4, 5, 6] 1 0 [_, _, _, _, _, _, _] C dL_passes_2 (ct_X6_pass l hS hcn hod hh0 hh1 hh2 hh3 k h1 hk0 hk ht) wK_X6_pass wM_L_52 wN_X6_pass wS_X6_X6_pass wI_X6 hd_X6_pass rfl rfl rfl ⟨rfl, rfl⟩ ⟨Nat.le_of_ble_eq_true rfl, Nat.le_of_ble_eq_true rfl⟩ rfl rfl rfl rfl rfl rfl ?_
  refine sg_segs [_, _, _, _, _, _, _] rfl ?_
  refine sw_iret 5 C RC dL_passes_5 ?_
  exact ⟨rfl, rfl⟩
set_option maxHeartbeats 4000000 in
set_option maxRecDepth 100000 in
theorem ct_L_passes_2 (l : Launch) (hfl : l.stackTraces = false) {D : va_G} {cI cJ cQ : ClassId} {x0a a0 a1 a2 a3 a4 a5 a6 a7 tr0 s0 r0 w0 : Nat} {S : StT} {x1 : Int32} (hx : inR x1 1 200 = false) : LCt l yL_passes (Cond.codeWith yL_passes cL_passes 3 (some .int) [(0, 5, 6, 18), (0, 5, 10, 32)]) 9 163 1 6 D (tyz cI cJ cQ) [.ref x0a, .int x1] (flatS [[(x0a, .inr (6, [.ref a0, .ref tr0, .ref s0, .ref r0, .ref w0]))], (wSt a0 a1 a2 a3 a4 a5 a6 a7 cI (S))]) (pstI (-900000001) (flatS [[(x0a, .inr (6, [.ref a0, .ref tr0, .ref s0, .ref r0, .ref w0]))], (wSt a0 a1 a2 a3 a4 a5 a6 a7 cI (S))])) := by
  refine LCt.of RL (by decide) rfl (Nat.le_of_ble_eq_true rfl) ?_
  intro p e s m below meth c A C RC XT hz hC
  refine sw_aload_n 0 0 C dL_passes_0 rfl rfl ?_
  refine sw_iload_n 1 1 C dL_passes_1 rfl rfl ?_
  refine xl_catV 2 6 [0, 1] 1 0 "java/lang/IllegalArgumentException" (pre := []) (x := ⟨0, 5, 6, 18⟩) (suf := [⟨0, 5, 10, 32⟩]) C hz XT (fun z hz9 => nomatch hz9) (by decide) (by decide) wC_L_18 (by decide) rfl dL_passes_2 (xt_X6_pass l hfl hx) (fun _ h => h) wK_X6_pass wM_L_52 wN_X6_pass wS_X6_X6_pass wI_X6 hd_X6_pass rfl rfl rfl ⟨rfl, rfl⟩ ⟨(Nat.le_of_ble_eq_true rfl), (Nat.le_of_ble_eq_true rfl)⟩ rfl rfl rfl rfl (fun q9 => ?_)
  refine sw_astore_n 6 2 C dL_passes_6 rfl rfl ?_
  refine sw_ldc 7 C dL_passes_7 (C.w wQ_L_20) ?_
  refine sw_iret 9 C RC dL_passes_9 ?_
  exact ⟨rfl, rfl⟩
set_option maxHeartbeats 4000000 in
set_option maxRecDepth 100000 in
theorem ct_L_passes_3 (l : Launch) (hfl : l.stackTraces = false) {D : va_G} {cI cJ cQ : ClassId} {x0a a0 a1 a2 a3 a4 a5 a6 a7 tr0 s0 r0 w0 : Nat} {S : StT} {x1 : Int32} (hx : inR x1 1 200 = true) (ht : ¬ x1 ≤ 100000 - zt S) : LCt l yL_passes (Cond.codeWith yL_passes cL_passes 3 (some .int) [(0, 5, 6, 18), (0, 5, 10, 32)]) 9 163 1 6 D (tyz cI cJ cQ) [.ref x0a, .int x1] (flatS [[(x0a, .inr (6, [.ref a0, .ref tr0, .ref s0, .ref r0, .ref w0]))], (wSt a0 a1 a2 a3 a4 a5 a6 a7 cI (S))]) (pstI (-900000002) (flatS [[(x0a, .inr (6, [.ref a0, .ref tr0, .ref s0, .ref r0, .ref w0]))], (wSt a0 a1 a2 a3 a4 a5 a6 a7 cI (S))])) := by
  refine LCt.of RL (by decide) rfl (Nat.le_of_ble_eq_true rfl) ?_
  intro p e s m below meth c A C RC XT hz hC
  refine sw_aload_n 0 0 C dL_passes_0 rfl rfl ?_
  refine sw_iload_n 1 1 C dL_passes_1 rfl rfl ?_
  refine xl_catV 2 10 [0, 1] 1 0 "java/lang/IllegalStateException" (pre := [⟨0, 5, 6, 18⟩]) (x := ⟨0, 5, 10, 32⟩) (suf := []) C hz XT (fun z hz9 => by cases List.mem_singleton.mp hz9; exact Or.inr ⟨by decide, "java/lang/IllegalArgumentException", C.w wC_L_18, hC.2⟩) (by decide) (by decide) wC_L_32 (by decide) rfl dL_passes_2 (xt_X6_pass_2 l hfl hx ht) (fun _ h => h) wK_X6_pass wM_L_52 wN_X6_pass wS_X6_X6_pass wI_X6 hd_X6_pass rfl rfl rfl ⟨rfl, rfl⟩ ⟨(Nat.le_of_ble_eq_true rfl), (Nat.le_of_ble_eq_true rfl)⟩ rfl rfl rfl rfl (fun q9 => ?_)
  refine sw_astore_n 10 2 C dL_passes_10 rfl rfl ?_
  refine sw_ldc 11 C dL_passes_11 (C.w wQ_L_34) ?_
  refine sw_iret 13 C RC dL_passes_13 ?_
  exact ⟨rfl, rfl⟩
set_option maxHeartbeats 4000000 in
set_option maxRecDepth 100000 in
theorem ct_L_back (l : Launch) (hfl : l.stackTraces = false) {D : va_G} {cI cJ cQ : ClassId} {x0a a0 a1 a2 a3 a4 a5 a6 a7 tr0 s0 s1 r0 w0 ra0 ra1 ra2 ra3 ra4 ra5 ra6 ra7 rb0 rb1 rb2 rb3 rb4 rb5 rb6 rb7 rc0 rc1 rc2 rc3 rc4 rc5 rc6 rc7 rd0 rd1 rd2 rd3 rd4 rd5 rd6 rd7 : Nat} {h : Nat → Option Nat} {S : StT} {R : Nat → StT} {cn od : Nat} (hS : SI S) (hcn : cn ≤ 4) (hod : od < 4) (hh0 : h 0 = some ra0) (hh1 : h 1 = some rb0) (hh2 : h 2 = some rc0) (hh3 : h 3 = some rd0) (h0 : 0 < cn) : LCt l yL_back (Cond.codeWith yL_back cL_back 2 (some .int) [(0, 4, 5, 32)]) 8 140 0 0 D (tyz cI cJ cQ) [.ref x0a] (flatS [[(x0a, .inr (6, [.ref a0, .ref tr0, .ref s0, .ref r0, .ref w0]))], (wSt a0 a1 a2 a3 a4 a5 a6 a7 cI (S)), [(s0, .inr (3, [.int (nI (cn)), .int (nI (od)), .ref s1])), (s1, .inl (cQ, 4, .inr (.inr (.inr (.inr h)))))], (wSt ra0 ra1 ra2 ra3 ra4 ra5 ra6 ra7 cI ((R) 0)), (wSt rb0 rb1 rb2 rb3 rb4 rb5 rb6 rb7 cI ((R) 1)), (wSt rc0 rc1 rc2 rc3 rc4 rc5 rc6 rc7 cI ((R) 2)), (wSt rd0 rd1 rd2 rd3 rd4 rd5 rd6 rd7 cI ((R) 3))]) (pstI (nI (cn - 1)) (flatS [[(x0a, .inr (6, [.ref a0, .ref tr0, .ref s0, .ref r0, .ref w0]))], (wSt a0 a1 a2 a3 a4 a5 a6 a7 cI (R ((od + (cn - 1)) % 4))), [(s0, .inr (3, [.int (nI (cn - 1)), .int (nI (od)), .ref s1])), (s1, .inl (cQ, 4, .inr (.inr (.inr (.inr h)))))], (wSt ra0 ra1 ra2 ra3 ra4 ra5 ra6 ra7 cI ((R) 0)), (wSt rb0 rb1 rb2 rb3 rb4 rb5 rb6 rb7 cI ((R) 1)), (wSt rc0 rc1 rc2 rc3 rc4 rc5 rc6 rc7 cI ((R) 2)), (wSt rd0 rd1 rd2 rd3 rd4 rd5 rd6 rd7 cI ((R) 3))])) := by
  refine LCt.of RL (by decide) rfl (Nat.le_of_ble_eq_true rfl) ?_
  intro p e s m below meth c A C RC XT hz hC
  refine sw_aload_n 0 0 C dL_back_0 rfl rfl ?_
  refine sg_callVI 1 [0, 1, 2, 3, 4, 5, 6] 0 0 [_, _, _, _, _, _, _] C dL_back_1 (ct_X6_undo l hS hcn hod hh0 hh1 hh2 hh3 h0) wK_X6_undo wM_L_88 wN_X6_undo wS_X6_X6_undo wI_X6 hd_X6_undo rfl rfl rfl ⟨rfl, rfl⟩ ⟨Nat.le_of_ble_eq_true rfl, Nat.le_of_ble_eq_true rfl⟩ rfl rfl rfl rfl rfl rfl ?_
  refine sg_segs [_, _, _, _, _, _, _] rfl ?_
  refine sw_iret 4 C RC dL_back_4 ?_
  exact ⟨rfl, rfl⟩
set_option maxHeartbeats 4000000 in
set_option maxRecDepth 100000 in
theorem ct_L_back_2 (l : Launch) (hfl : l.stackTraces = false) {D : va_G} {cI cJ cQ : ClassId} {x0a a0 a1 a2 a3 a4 a5 a6 a7 tr0 s0 s1 r0 w0 : Nat} {S : StT} {h : Nat → Option Nat} {cn od : Nat} (h0 : cn = 0) : LCt l yL_back (Cond.codeWith yL_back cL_back 2 (some .int) [(0, 4, 5, 32)]) 8 140 1 6 D (tyz cI cJ cQ) [.ref x0a] (flatS [[(x0a, .inr (6, [.ref a0, .ref tr0, .ref s0, .ref r0, .ref w0]))], (wSt a0 a1 a2 a3 a4 a5 a6 a7 cI (S)), [(s0, .inr (3, [.int (nI (cn)), .int (nI (od)), .ref s1])), (s1, .inl (cQ, 4, .inr (.inr (.inr (.inr h)))))]]) (pstI (-900000002) (flatS [[(x0a, .inr (6, [.ref a0, .ref tr0, .ref s0, .ref r0, .ref w0]))], (wSt a0 a1 a2 a3 a4 a5 a6 a7 cI (S)), [(s0, .inr (3, [.int (nI (cn)), .int (nI (od)), .ref s1])), (s1, .inl (cQ, 4, .inr (.inr (.inr (.inr h)))))]])) := by
  refine LCt.of RL (by decide) rfl (Nat.le_of_ble_eq_true rfl) ?_
  intro p e s m below meth c A C RC XT hz hC
  refine sw_aload_n 0 0 C dL_back_0 rfl rfl ?_
  refine xl_catV 1 5 [0, 1, 2] 0 0 "java/lang/IllegalStateException" (pre := []) (x := ⟨0, 4, 5, 32⟩) (suf := []) C hz XT (fun z hz9 => nomatch hz9) (by decide) (by decide) wC_L_32 (by decide) rfl dL_back_1 (xt_X6_undo l hfl h0) (fun _ h => h) wK_X6_undo wM_L_88 wN_X6_undo wS_X6_X6_undo wI_X6 hd_X6_undo rfl rfl rfl ⟨rfl, rfl⟩ ⟨(Nat.le_of_ble_eq_true rfl), (Nat.le_of_ble_eq_true rfl)⟩ rfl rfl rfl rfl (fun q9 => ?_)
  refine sw_astore_n 5 1 C dL_back_5 rfl rfl ?_
  refine sw_ldc 6 C dL_back_6 (C.w wQ_L_34) ?_
  refine sw_iret 8 C RC dL_back_8 ?_
  exact ⟨rfl, rfl⟩
set_option maxHeartbeats 4000000 in
set_option maxRecDepth 100000 in
theorem ct_L_one (l : Launch) (hfl : l.stackTraces = false) {D : va_G} {cI cJ cQ : ClassId} {x0a a0 a1 a2 a3 a4 a5 a6 a7 tr0 s0 r0 w0 : Nat} {S : StT} {x1 x2 : Int32} (hS : SI S) (i : Nat) (hi : fnd (zf S) x1 (zn S) = some i) (w : Nat) (h2 : x2 = nI w) (hw : w ≤ 9) : LCt l yL_one (Cond.codeWith yL_one cL_one 4 (some .int) [(0, 6, 7, 15), (0, 6, 11, 18)]) 9 165 0 0 D (tyz cI cJ cQ) [.ref x0a, .int x1, .int x2] (flatS [[(x0a, .inr (6, [.ref a0, .ref tr0, .ref s0, .ref r0, .ref w0]))], (wSt a0 a1 a2 a3 a4 a5 a6 a7 cI (S))]) (pstI (tel (zf S) (zn S) i w) (flatS [[(x0a, .inr (6, [.ref a0, .ref tr0, .ref s0, .ref r0, .ref w0]))], (wSt a0 a1 a2 a3 a4 a5 a6 a7 cI (S))])) := by
  refine LCt.of RL (by decide) rfl (Nat.le_of_ble_eq_true rfl) ?_
  intro p e s m below meth c A C RC XT hz hC
  refine sw_aload_n 0 0 C dL_one_0 rfl rfl ?_
  refine sw_iload_n 1 1 C dL_one_1 rfl rfl ?_
  refine sw_iload_n 2 2 C dL_one_2 rfl rfl ?_
  refine sg_callVI 3 [0, 1] 2 0 [_, _] C dL_one_3 (ct_X6_petition l hS i hi w h2 hw) wK_X6_petition wM_L_55 wN_X6_petition wS_X6_X6_petition wI_X6 hd_X6_petition rfl rfl rfl ⟨rfl, rfl⟩ ⟨Nat.le_of_ble_eq_true rfl, Nat.le_of_ble_eq_true rfl⟩ rfl rfl rfl rfl rfl rfl ?_
  refine sg_segs [_, _] rfl ?_
  refine sw_iret 6 C RC dL_one_6 ?_
  exact ⟨rfl, rfl⟩
set_option maxHeartbeats 4000000 in
set_option maxRecDepth 100000 in
theorem ct_L_one_2 (l : Launch) (hfl : l.stackTraces = false) {D : va_G} {cI cJ cQ : ClassId} {x0a a0 a1 a2 a3 a4 a5 a6 a7 tr0 s0 r0 w0 : Nat} {S : StT} {x1 x2 : Int32} (hS : SI S) (hi : fnd (zf S) x1 (zn S) = none) : LCt l yL_one (Cond.codeWith yL_one cL_one 4 (some .int) [(0, 6, 7, 15), (0, 6, 11, 18)]) 9 165 1 6 D (tyz cI cJ cQ) [.ref x0a, .int x1, .int x2] (flatS [[(x0a, .inr (6, [.ref a0, .ref tr0, .ref s0, .ref r0, .ref w0]))], (wSt a0 a1 a2 a3 a4 a5 a6 a7 cI (S))]) (pstI (-900000003) (flatS [[(x0a, .inr (6, [.ref a0, .ref tr0, .ref s0, .ref r0, .ref w0]))], (wSt a0 a1 a2 a3 a4 a5 a6 a7 cI (S))])) := by
  refine LCt.of RL (by decide) rfl (Nat.le_of_ble_eq_true rfl) ?_
  intro p e s m below meth c A C RC XT hz hC
  refine sw_aload_n 0 0 C dL_one_0 rfl rfl ?_
  refine sw_iload_n 1 1 C dL_one_1 rfl rfl ?_
  refine sw_iload_n 2 2 C dL_one_2 rfl rfl ?_
  refine xl_catV 3 7 [0, 1] 2 0 "java/lang/IndexOutOfBoundsException" (pre := []) (x := ⟨0, 6, 7, 15⟩) (suf := [⟨0, 6, 11, 18⟩]) C hz XT (fun z hz9 => nomatch hz9) (by decide) (by decide) wC_L_15 (by decide) rfl dL_one_3 (xt_X6_petition l hfl hS hi) (fun _ h => h) wK_X6_petition wM_L_55 wN_X6_petition wS_X6_X6_petition wI_X6 hd_X6_petition rfl rfl rfl ⟨rfl, rfl⟩ ⟨(Nat.le_of_ble_eq_true rfl), (Nat.le_of_ble_eq_true rfl)⟩ rfl rfl rfl rfl (fun q9 => ?_)
  refine sw_astore_n 7 3 C dL_one_7 rfl rfl ?_
  refine sw_ldc 8 C dL_one_8 (C.w wQ_L_17) ?_
  refine sw_iret 10 C RC dL_one_10 ?_
  exact ⟨rfl, rfl⟩
set_option maxHeartbeats 4000000 in
set_option maxRecDepth 100000 in
theorem ct_L_one_3 (l : Launch) (hfl : l.stackTraces = false) {D : va_G} {cI cJ cQ : ClassId} {x0a a0 a1 a2 a3 a4 a5 a6 a7 tr0 s0 r0 w0 : Nat} {S : StT} {x1 x2 : Int32} (hS : SI S) (i : Nat) (hi : fnd (zf S) x1 (zn S) = some i) (hx : inR x2 0 9 = false) : LCt l yL_one (Cond.codeWith yL_one cL_one 4 (some .int) [(0, 6, 7, 15), (0, 6, 11, 18)]) 9 165 1 6 D (tyz cI cJ cQ) [.ref x0a, .int x1, .int x2] (flatS [[(x0a, .inr (6, [.ref a0, .ref tr0, .ref s0, .ref r0, .ref w0]))], (wSt a0 a1 a2 a3 a4 a5 a6 a7 cI (S))]) (pstI (-900000001) (flatS [[(x0a, .inr (6, [.ref a0, .ref tr0, .ref s0, .ref r0, .ref w0]))], (wSt a0 a1 a2 a3 a4 a5 a6 a7 cI (S))])) := by
  refine LCt.of RL (by decide) rfl (Nat.le_of_ble_eq_true rfl) ?_
  intro p e s m below meth c A C RC XT hz hC
  refine sw_aload_n 0 0 C dL_one_0 rfl rfl ?_
  refine sw_iload_n 1 1 C dL_one_1 rfl rfl ?_
  refine sw_iload_n 2 2 C dL_one_2 rfl rfl ?_
  refine xl_catV 3 11 [0, 1] 2 0 "java/lang/IllegalArgumentException" (pre := [⟨0, 6, 7, 15⟩]) (x := ⟨0, 6, 11, 18⟩) (suf := []) C hz XT (fun z hz9 => by cases List.mem_singleton.mp hz9; exact Or.inr ⟨by decide, "java/lang/IndexOutOfBoundsException", C.w wC_L_15, hC.1⟩) (by decide) (by decide) wC_L_18 (by decide) rfl dL_one_3 (xt_X6_petition_2 l hfl hS i hi hx) (fun _ h => h) wK_X6_petition wM_L_55 wN_X6_petition wS_X6_X6_petition wI_X6 hd_X6_petition rfl rfl rfl ⟨rfl, rfl⟩ ⟨(Nat.le_of_ble_eq_true rfl), (Nat.le_of_ble_eq_true rfl)⟩ rfl rfl rfl rfl (fun q9 => ?_)
  refine sw_astore_n 11 3 C dL_one_11 rfl rfl ?_
  refine sw_ldc 12 C dL_one_12 (C.w wQ_L_20) ?_
  refine sw_iret 14 C RC dL_one_14 ?_
  exact ⟨rfl, rfl⟩
set_option maxHeartbeats 4000000 in
set_option maxRecDepth 100000 in
theorem ct_L_sent (l : Launch) (hfl : l.stackTraces = false) {D : va_G} {cI cJ cQ : ClassId} {x0a a0 a1 a2 a3 a4 a5 a6 a7 tr0 s0 r0 w0 : Nat} {S : StT} {x1 : Int32} (hS : SI S) (hx : inR x1 0 7 = true) : LCt l yL_sent (Cond.codeWith yL_sent cL_sent 3 (some .int) [(0, 5, 6, 18)]) 9 163 0 0 D (tyz cI cJ cQ) [.ref x0a, .int x1] (flatS [[(x0a, .inr (6, [.ref a0, .ref tr0, .ref s0, .ref r0, .ref w0]))], (wSt a0 a1 a2 a3 a4 a5 a6 a7 cI (S))]) (pstI (nI (ct (isOf (zf S) x1) (zn S))) (flatS [[(x0a, .inr (6, [.ref a0, .ref tr0, .ref s0, .ref r0, .ref w0]))], (wSt a0 a1 a2 a3 a4 a5 a6 a7 cI (S))])) := by
  refine LCt.of RL (by decide) rfl (Nat.le_of_ble_eq_true rfl) ?_
  intro p e s m below meth c A C RC XT hz hC
  refine sw_aload_n 0 0 C dL_sent_0 rfl rfl ?_
  refine sw_iload_n 1 1 C dL_sent_1 rfl rfl ?_
  refine sg_callVI 2 [0, 1] 1 0 [_, _] C dL_sent_2 (ct_X6_sentBy l hS hx) wK_X6_sentBy wM_L_61 wN_X6_sentBy wS_X6_X6_sentBy wI_X6 hd_X6_sentBy rfl rfl rfl ⟨rfl, rfl⟩ ⟨Nat.le_of_ble_eq_true rfl, Nat.le_of_ble_eq_true rfl⟩ rfl rfl rfl rfl rfl rfl ?_
  refine sg_segs [_, _] rfl ?_
  refine sw_iret 5 C RC dL_sent_5 ?_
  exact ⟨rfl, rfl⟩
set_option maxHeartbeats 4000000 in
set_option maxRecDepth 100000 in
theorem ct_L_sent_2 (l : Launch) (hfl : l.stackTraces = false) {D : va_G} {cI cJ cQ : ClassId} {x0a a0 a1 a2 a3 a4 a5 a6 a7 tr0 s0 r0 w0 : Nat} {S : StT} {x1 : Int32} (hx : inR x1 0 7 = false) : LCt l yL_sent (Cond.codeWith yL_sent cL_sent 3 (some .int) [(0, 5, 6, 18)]) 9 163 1 6 D (tyz cI cJ cQ) [.ref x0a, .int x1] (flatS [[(x0a, .inr (6, [.ref a0, .ref tr0, .ref s0, .ref r0, .ref w0]))], (wSt a0 a1 a2 a3 a4 a5 a6 a7 cI (S))]) (pstI (-900000001) (flatS [[(x0a, .inr (6, [.ref a0, .ref tr0, .ref s0, .ref r0, .ref w0]))], (wSt a0 a1 a2 a3 a4 a5 a6 a7 cI (S))])) := by
  refine LCt.of RL (by decide) rfl (Nat.le_of_ble_eq_true rfl) ?_
  intro p e s m below meth c A C RC XT hz hC
  refine sw_aload_n 0 0 C dL_sent_0 rfl rfl ?_
  refine sw_iload_n 1 1 C dL_sent_1 rfl rfl ?_
  refine xl_catV 2 6 [0, 1] 1 0 "java/lang/IllegalArgumentException" (pre := []) (x := ⟨0, 5, 6, 18⟩) (suf := []) C hz XT (fun z hz9 => nomatch hz9) (by decide) (by decide) wC_L_18 (by decide) rfl dL_sent_2 (xt_X6_sentBy l hfl hx) (fun _ h => h) wK_X6_sentBy wM_L_61 wN_X6_sentBy wS_X6_X6_sentBy wI_X6 hd_X6_sentBy rfl rfl rfl ⟨rfl, rfl⟩ ⟨(Nat.le_of_ble_eq_true rfl), (Nat.le_of_ble_eq_true rfl)⟩ rfl rfl rfl rfl (fun q9 => ?_)
  refine sw_astore_n 6 2 C dL_sent_6 rfl rfl ?_
  refine sw_ldc 7 C dL_sent_7 (C.w wQ_L_20) ?_
  refine sw_iret 9 C RC dL_sent_9 ?_
  exact ⟨rfl, rfl⟩
set_option maxHeartbeats 4000000 in
set_option maxRecDepth 100000 in
theorem ct_L_rank (l : Launch) (hfl : l.stackTraces = false) {D : va_G} {cI cJ cQ : ClassId} {x0a a0 a1 a2 a3 a4 a5 a6 a7 tr0 s0 r0 w0 : Nat} {S : StT} {x1 : Int32} (hS : SI S) (hx : inR x1 0 4 = true) : LCt l yL_rank (Cond.codeWith yL_rank cL_rank 3 (some .int) [(0, 5, 6, 18)]) 9 163 0 0 D (tyz cI cJ cQ) [.ref x0a, .int x1] (flatS [[(x0a, .inr (6, [.ref a0, .ref tr0, .ref s0, .ref r0, .ref w0]))], (wSt a0 a1 a2 a3 a4 a5 a6 a7 cI (S))]) (pstI (nI (ct (isRk (zf S) x1) (zn S))) (flatS [[(x0a, .inr (6, [.ref a0, .ref tr0, .ref s0, .ref r0, .ref w0]))], (wSt a0 a1 a2 a3 a4 a5 a6 a7 cI (S))])) := by
  refine LCt.of RL (by decide) rfl (Nat.le_of_ble_eq_true rfl) ?_
  intro p e s m below meth c A C RC XT hz hC
  refine sw_aload_n 0 0 C dL_rank_0 rfl rfl ?_
  refine sw_iload_n 1 1 C dL_rank_1 rfl rfl ?_
  refine sg_callVI 2 [0, 1] 1 0 [_, _] C dL_rank_2 (ct_X6_ofRank l hS hx) wK_X6_ofRank wM_L_73 wN_X6_ofRank wS_X6_X6_ofRank wI_X6 hd_X6_ofRank rfl rfl rfl ⟨rfl, rfl⟩ ⟨Nat.le_of_ble_eq_true rfl, Nat.le_of_ble_eq_true rfl⟩ rfl rfl rfl rfl rfl rfl ?_
  refine sg_segs [_, _] rfl ?_
  refine sw_iret 5 C RC dL_rank_5 ?_
  exact ⟨rfl, rfl⟩
set_option maxHeartbeats 4000000 in
set_option maxRecDepth 100000 in
theorem ct_L_rank_2 (l : Launch) (hfl : l.stackTraces = false) {D : va_G} {cI cJ cQ : ClassId} {x0a a0 a1 a2 a3 a4 a5 a6 a7 tr0 s0 r0 w0 : Nat} {S : StT} {x1 : Int32} (hx : inR x1 0 4 = false) : LCt l yL_rank (Cond.codeWith yL_rank cL_rank 3 (some .int) [(0, 5, 6, 18)]) 9 163 1 6 D (tyz cI cJ cQ) [.ref x0a, .int x1] (flatS [[(x0a, .inr (6, [.ref a0, .ref tr0, .ref s0, .ref r0, .ref w0]))], (wSt a0 a1 a2 a3 a4 a5 a6 a7 cI (S))]) (pstI (-900000001) (flatS [[(x0a, .inr (6, [.ref a0, .ref tr0, .ref s0, .ref r0, .ref w0]))], (wSt a0 a1 a2 a3 a4 a5 a6 a7 cI (S))])) := by
  refine LCt.of RL (by decide) rfl (Nat.le_of_ble_eq_true rfl) ?_
  intro p e s m below meth c A C RC XT hz hC
  refine sw_aload_n 0 0 C dL_rank_0 rfl rfl ?_
  refine sw_iload_n 1 1 C dL_rank_1 rfl rfl ?_
  refine xl_catV 2 6 [0, 1] 1 0 "java/lang/IllegalArgumentException" (pre := []) (x := ⟨0, 5, 6, 18⟩) (suf := []) C hz XT (fun z hz9 => nomatch hz9) (by decide) (by decide) wC_L_18 (by decide) rfl dL_rank_2 (xt_X6_ofRank l hfl hx) (fun _ h => h) wK_X6_ofRank wM_L_73 wN_X6_ofRank wS_X6_X6_ofRank wI_X6 hd_X6_ofRank rfl rfl rfl ⟨rfl, rfl⟩ ⟨(Nat.le_of_ble_eq_true rfl), (Nat.le_of_ble_eq_true rfl)⟩ rfl rfl rfl rfl (fun q9 => ?_)
  refine sw_astore_n 6 2 C dL_rank_6 rfl rfl ?_
  refine sw_ldc 7 C dL_rank_7 (C.w wQ_L_20) ?_
  refine sw_iret 9 C RC dL_rank_9 ?_
  exact ⟨rfl, rfl⟩
set_option maxHeartbeats 4000000 in
set_option maxRecDepth 100000 in
theorem ct_L_given (l : Launch) (hfl : l.stackTraces = false) {D : va_G} {cI cJ cQ : ClassId} {x0a a0 a1 a2 a3 a4 a5 a6 a7 tr0 s0 r0 w0 : Nat} {S : StT} {x1 : Int32} (i : Nat) (h1 : x1 = nI i) (hi : i < 8) : LCt l yL_given (Cond.codeWith yL_given cL_given 3 (some .int) [(0, 5, 6, 18)]) 9 163 0 0 D (tyz cI cJ cQ) [.ref x0a, .int x1] (flatS [[(x0a, .inr (6, [.ref a0, .ref tr0, .ref s0, .ref r0, .ref w0]))], (wSt a0 a1 a2 a3 a4 a5 a6 a7 cI (S))]) (pstI (zbk S i) (flatS [[(x0a, .inr (6, [.ref a0, .ref tr0, .ref s0, .ref r0, .ref w0]))], (wSt a0 a1 a2 a3 a4 a5 a6 a7 cI (S))])) := by
  refine LCt.of RL (by decide) rfl (Nat.le_of_ble_eq_true rfl) ?_
  intro p e s m below meth c A C RC XT hz hC
  refine sw_aload_n 0 0 C dL_given_0 rfl rfl ?_
  refine sw_iload_n 1 1 C dL_given_1 rfl rfl ?_
  refine sg_callVI 2 [0, 1] 1 0 [_, _] C dL_given_2 (ct_X6_returned l i h1 hi) wK_X6_returned wM_L_64 wN_X6_returned wS_X6_X6_returned wI_X6 hd_X6_returned rfl rfl rfl ⟨rfl, rfl⟩ ⟨Nat.le_of_ble_eq_true rfl, Nat.le_of_ble_eq_true rfl⟩ rfl rfl rfl rfl rfl rfl ?_
  refine sg_segs [_, _] rfl ?_
  refine sw_iret 5 C RC dL_given_5 ?_
  exact ⟨rfl, rfl⟩
set_option maxHeartbeats 4000000 in
set_option maxRecDepth 100000 in
theorem ct_L_given_2 (l : Launch) (hfl : l.stackTraces = false) {D : va_G} {cI cJ cQ : ClassId} {x0a a0 a1 a2 a3 a4 a5 a6 a7 tr0 s0 r0 w0 : Nat} {S : StT} {x1 : Int32} (hx : inR x1 0 7 = false) : LCt l yL_given (Cond.codeWith yL_given cL_given 3 (some .int) [(0, 5, 6, 18)]) 9 163 1 6 D (tyz cI cJ cQ) [.ref x0a, .int x1] (flatS [[(x0a, .inr (6, [.ref a0, .ref tr0, .ref s0, .ref r0, .ref w0]))], (wSt a0 a1 a2 a3 a4 a5 a6 a7 cI (S))]) (pstI (-900000001) (flatS [[(x0a, .inr (6, [.ref a0, .ref tr0, .ref s0, .ref r0, .ref w0]))], (wSt a0 a1 a2 a3 a4 a5 a6 a7 cI (S))])) := by
  refine LCt.of RL (by decide) rfl (Nat.le_of_ble_eq_true rfl) ?_
  intro p e s m below meth c A C RC XT hz hC
  refine sw_aload_n 0 0 C dL_given_0 rfl rfl ?_
  refine sw_iload_n 1 1 C dL_given_1 rfl rfl ?_
  refine xl_catV 2 6 [0, 1] 1 0 "java/lang/IllegalArgumentException" (pre := []) (x := ⟨0, 5, 6, 18⟩) (suf := []) C hz XT (fun z hz9 => nomatch hz9) (by decide) (by decide) wC_L_18 (by decide) rfl dL_given_2 (xt_X6_returned l hfl hx) (fun _ h => h) wK_X6_returned wM_L_64 wN_X6_returned wS_X6_X6_returned wI_X6 hd_X6_returned rfl rfl rfl ⟨rfl, rfl⟩ ⟨(Nat.le_of_ble_eq_true rfl), (Nat.le_of_ble_eq_true rfl)⟩ rfl rfl rfl rfl (fun q9 => ?_)
  refine sw_astore_n 6 2 C dL_given_6 rfl rfl ?_
  refine sw_ldc 7 C dL_given_7 (C.w wQ_L_20) ?_
  refine sw_iret 9 C RC dL_given_9 ?_
  exact ⟨rfl, rfl⟩
set_option maxHeartbeats 4000000 in
set_option maxRecDepth 100000 in
theorem ct_L_value (l : Launch) (hfl : l.stackTraces = false) {D : va_G} {cI cJ cQ : ClassId} {x0a a0 a1 a2 a3 a4 a5 a6 a7 tr0 s0 r0 w0 : Nat} {S : StT} {x1 : Int32} (hS : SI S) (w : Nat) (h1 : x1 = nI w) (hw : w ≤ 13) : LCt l yL_value (Cond.codeWith yL_value cL_value 3 (some .int) [(0, 5, 6, 18)]) 9 163 0 0 D (tyz cI cJ cQ) [.ref x0a, .int x1] (flatS [[(x0a, .inr (6, [.ref a0, .ref tr0, .ref s0, .ref r0, .ref w0]))], (wSt a0 a1 a2 a3 a4 a5 a6 a7 cI (S))]) (pstI (fig (zq S) (zg S) (zv S) (zt S) (zp S) (zk S) (zn S) (zl S) (zf S) (zlv S) (zbk S) w) (flatS [[(x0a, .inr (6, [.ref a0, .ref tr0, .ref s0, .ref r0, .ref w0]))], (wSt a0 a1 a2 a3 a4 a5 a6 a7 cI (S))])) := by
  refine LCt.of RL (by decide) rfl (Nat.le_of_ble_eq_true rfl) ?_
  intro p e s m below meth c A C RC XT hz hC
  refine sw_aload_n 0 0 C dL_value_0 rfl rfl ?_
  refine sw_iload_n 1 1 C dL_value_1 rfl rfl ?_
  refine sg_callVI 2 [0, 1] 1 0 [_, _] C dL_value_2 (ct_X6_value l hS w h1 hw) wK_X6_value wM_L_70 wN_X6_value wS_X6_X6_value wI_X6 hd_X6_value rfl rfl rfl ⟨rfl, rfl⟩ ⟨Nat.le_of_ble_eq_true rfl, Nat.le_of_ble_eq_true rfl⟩ rfl rfl rfl rfl rfl rfl ?_
  refine sg_segs [_, _] rfl ?_
  refine sw_iret 5 C RC dL_value_5 ?_
  exact ⟨rfl, rfl⟩
set_option maxHeartbeats 4000000 in
set_option maxRecDepth 100000 in
theorem ct_L_value_2 (l : Launch) (hfl : l.stackTraces = false) {D : va_G} {cI cJ cQ : ClassId} {x0a a0 a1 a2 a3 a4 a5 a6 a7 tr0 s0 r0 w0 : Nat} {S : StT} {x1 : Int32} (hx : inR x1 0 13 = false) : LCt l yL_value (Cond.codeWith yL_value cL_value 3 (some .int) [(0, 5, 6, 18)]) 9 163 1 6 D (tyz cI cJ cQ) [.ref x0a, .int x1] (flatS [[(x0a, .inr (6, [.ref a0, .ref tr0, .ref s0, .ref r0, .ref w0]))], (wSt a0 a1 a2 a3 a4 a5 a6 a7 cI (S))]) (pstI (-900000001) (flatS [[(x0a, .inr (6, [.ref a0, .ref tr0, .ref s0, .ref r0, .ref w0]))], (wSt a0 a1 a2 a3 a4 a5 a6 a7 cI (S))])) := by
  refine LCt.of RL (by decide) rfl (Nat.le_of_ble_eq_true rfl) ?_
  intro p e s m below meth c A C RC XT hz hC
  refine sw_aload_n 0 0 C dL_value_0 rfl rfl ?_
  refine sw_iload_n 1 1 C dL_value_1 rfl rfl ?_
  refine xl_catV 2 6 [0, 1] 1 0 "java/lang/IllegalArgumentException" (pre := []) (x := ⟨0, 5, 6, 18⟩) (suf := []) C hz XT (fun z hz9 => nomatch hz9) (by decide) (by decide) wC_L_18 (by decide) rfl dL_value_2 (xt_X6_value l hfl hx) (fun _ h => h) wK_X6_value wM_L_70 wN_X6_value wS_X6_X6_value wI_X6 hd_X6_value rfl rfl rfl ⟨rfl, rfl⟩ ⟨(Nat.le_of_ble_eq_true rfl), (Nat.le_of_ble_eq_true rfl)⟩ rfl rfl rfl rfl (fun q9 => ?_)
  refine sw_astore_n 6 2 C dL_value_6 rfl rfl ?_
  refine sw_ldc 7 C dL_value_7 (C.w wQ_L_20) ?_
  refine sw_iret 9 C RC dL_value_9 ?_
  exact ⟨rfl, rfl⟩
set_option maxHeartbeats 4000000 in
set_option maxRecDepth 100000 in
theorem ct_L_entry (l : Launch) (hfl : l.stackTraces = false) {D : va_G} {cI cJ cQ : ClassId} {x0a a0 a1 a2 a3 a4 a5 a6 a7 tr0 s0 r0 w0 : Nat} {S : StT} {x1 x2 : Int32} (hS : SI S) (i w : Nat) (h1 : x1 = nI i) (hi : i < zl S) (h2 : x2 = nI w) (hw : w < 5) : LCt l yL_entry (Cond.codeWith yL_entry cL_entry 4 (some .int) [(0, 6, 7, 15), (0, 6, 11, 18)]) 9 164 0 0 D (tyz cI cJ cQ) [.ref x0a, .int x1, .int x2] (flatS [[(x0a, .inr (6, [.ref a0, .ref tr0, .ref s0, .ref r0, .ref w0]))], (wSt a0 a1 a2 a3 a4 a5 a6 a7 cI (S))]) (pstI (zlg S (i * 5 + w)) (flatS [[(x0a, .inr (6, [.ref a0, .ref tr0, .ref s0, .ref r0, .ref w0]))], (wSt a0 a1 a2 a3 a4 a5 a6 a7 cI (S))])) := by
  refine LCt.of RL (by decide) rfl (Nat.le_of_ble_eq_true rfl) ?_
  intro p e s m below meth c A C RC XT hz hC
  refine sw_aload_n 0 0 C dL_entry_0 rfl rfl ?_
  refine sw_iload_n 1 1 C dL_entry_1 rfl rfl ?_
  refine sw_iload_n 2 2 C dL_entry_2 rfl rfl ?_
  refine sg_callVI 3 [0, 1] 2 0 [_, _] C dL_entry_3 (ct_X6_entry l hS i w h1 hi h2 hw) wK_X6_entry wM_L_67 wN_X6_entry wS_X6_X6_entry wI_X6 hd_X6_entry rfl rfl rfl ⟨rfl, rfl⟩ ⟨Nat.le_of_ble_eq_true rfl, Nat.le_of_ble_eq_true rfl⟩ rfl rfl rfl rfl rfl rfl ?_
  refine sg_segs [_, _] rfl ?_
  refine sw_iret 6 C RC dL_entry_6 ?_
  exact ⟨rfl, rfl⟩
set_option maxHeartbeats 4000000 in
set_option maxRecDepth 100000 in
theorem ct_L_entry_2 (l : Launch) (hfl : l.stackTraces = false) {D : va_G} {cI cJ cQ : ClassId} {x0a a0 a1 a2 a3 a4 a5 a6 a7 tr0 s0 r0 w0 : Nat} {S : StT} {x1 x2 : Int32} (h : x1 < 0 ∨ nI (zl S) ≤ x1) : LCt l yL_entry (Cond.codeWith yL_entry cL_entry 4 (some .int) [(0, 6, 7, 15), (0, 6, 11, 18)]) 9 164 1 6 D (tyz cI cJ cQ) [.ref x0a, .int x1, .int x2] (flatS [[(x0a, .inr (6, [.ref a0, .ref tr0, .ref s0, .ref r0, .ref w0]))], (wSt a0 a1 a2 a3 a4 a5 a6 a7 cI (S))]) (pstI (-900000003) (flatS [[(x0a, .inr (6, [.ref a0, .ref tr0, .ref s0, .ref r0, .ref w0]))], (wSt a0 a1 a2 a3 a4 a5 a6 a7 cI (S))])) := by
  refine LCt.of RL (by decide) rfl (Nat.le_of_ble_eq_true rfl) ?_
  intro p e s m below meth c A C RC XT hz hC
  refine sw_aload_n 0 0 C dL_entry_0 rfl rfl ?_
  refine sw_iload_n 1 1 C dL_entry_1 rfl rfl ?_
  refine sw_iload_n 2 2 C dL_entry_2 rfl rfl ?_
  refine xl_catV 3 7 [0, 1] 2 0 "java/lang/IndexOutOfBoundsException" (pre := []) (x := ⟨0, 6, 7, 15⟩) (suf := [⟨0, 6, 11, 18⟩]) C hz XT (fun z hz9 => nomatch hz9) (by decide) (by decide) wC_L_15 (by decide) rfl dL_entry_3 (xt_X6_entry l hfl h) (fun _ h => h) wK_X6_entry wM_L_67 wN_X6_entry wS_X6_X6_entry wI_X6 hd_X6_entry rfl rfl rfl ⟨rfl, rfl⟩ ⟨(Nat.le_of_ble_eq_true rfl), (Nat.le_of_ble_eq_true rfl)⟩ rfl rfl rfl rfl (fun q9 => ?_)
  refine sw_astore_n 7 3 C dL_entry_7 rfl rfl ?_
  refine sw_ldc 8 C dL_entry_8 (C.w wQ_L_17) ?_
  refine sw_iret 10 C RC dL_entry_10 ?_
  exact ⟨rfl, rfl⟩
set_option maxHeartbeats 4000000 in
set_option maxRecDepth 100000 in
theorem ct_L_entry_3 (l : Launch) (hfl : l.stackTraces = false) {D : va_G} {cI cJ cQ : ClassId} {x0a a0 a1 a2 a3 a4 a5 a6 a7 tr0 s0 r0 w0 : Nat} {S : StT} {x1 x2 : Int32} (hS : SI S) (i : Nat) (h1 : x1 = nI i) (hi : i < zl S) (hx : inR x2 0 4 = false) : LCt l yL_entry (Cond.codeWith yL_entry cL_entry 4 (some .int) [(0, 6, 7, 15), (0, 6, 11, 18)]) 9 164 1 6 D (tyz cI cJ cQ) [.ref x0a, .int x1, .int x2] (flatS [[(x0a, .inr (6, [.ref a0, .ref tr0, .ref s0, .ref r0, .ref w0]))], (wSt a0 a1 a2 a3 a4 a5 a6 a7 cI (S))]) (pstI (-900000001) (flatS [[(x0a, .inr (6, [.ref a0, .ref tr0, .ref s0, .ref r0, .ref w0]))], (wSt a0 a1 a2 a3 a4 a5 a6 a7 cI (S))])) := by
  refine LCt.of RL (by decide) rfl (Nat.le_of_ble_eq_true rfl) ?_
  intro p e s m below meth c A C RC XT hz hC
  refine sw_aload_n 0 0 C dL_entry_0 rfl rfl ?_
  refine sw_iload_n 1 1 C dL_entry_1 rfl rfl ?_
  refine sw_iload_n 2 2 C dL_entry_2 rfl rfl ?_
  refine xl_catV 3 11 [0, 1] 2 0 "java/lang/IllegalArgumentException" (pre := [⟨0, 6, 7, 15⟩]) (x := ⟨0, 6, 11, 18⟩) (suf := []) C hz XT (fun z hz9 => by cases List.mem_singleton.mp hz9; exact Or.inr ⟨by decide, "java/lang/IndexOutOfBoundsException", C.w wC_L_15, hC.1⟩) (by decide) (by decide) wC_L_18 (by decide) rfl dL_entry_3 (xt_X6_entry_2 l hfl hS i h1 hi hx) (fun _ h => h) wK_X6_entry wM_L_67 wN_X6_entry wS_X6_X6_entry wI_X6 hd_X6_entry rfl rfl rfl ⟨rfl, rfl⟩ ⟨(Nat.le_of_ble_eq_true rfl), (Nat.le_of_ble_eq_true rfl)⟩ rfl rfl rfl rfl (fun q9 => ?_)
  refine sw_astore_n 11 3 C dL_entry_11 rfl rfl ?_
  refine sw_ldc 12 C dL_entry_12 (C.w wQ_L_20) ?_
  refine sw_iret 14 C RC dL_entry_14 ?_
  exact ⟨rfl, rfl⟩
set_option maxHeartbeats 4000000 in
set_option maxRecDepth 100000 in
theorem ct_L_leads (l : Launch) (hfl : l.stackTraces = false) {D : va_G} {cI cJ cQ : ClassId} {x0a a0 a1 a2 a3 a4 a5 a6 a7 tr0 s0 r0 w0 : Nat} {S : StT} {x1 : Int32} (hS : SI S) (hx : inR x1 0 4 = true) : LCt l yL_leads (Cond.codeWith yL_leads cL_leads 3 (some .int) [(0, 5, 6, 18)]) 9 164 0 0 D (tyz cI cJ cQ) [.ref x0a, .int x1] (flatS [[(x0a, .inr (6, [.ref a0, .ref tr0, .ref s0, .ref r0, .ref w0]))], (wSt a0 a1 a2 a3 a4 a5 a6 a7 cI (S))]) (pstI (brl (ldr (zf S) (zn S) + 1) x1) (flatS [[(x0a, .inr (6, [.ref a0, .ref tr0, .ref s0, .ref r0, .ref w0]))], (wSt a0 a1 a2 a3 a4 a5 a6 a7 cI (S))])) := by
  refine LCt.of RL (by decide) rfl (Nat.le_of_ble_eq_true rfl) ?_
  intro p e s m below meth c A C RC XT hz hC
  refine sw_aload_n 0 0 C dL_leads_0 rfl rfl ?_
  refine sw_iload_n 1 1 C dL_leads_1 rfl rfl ?_
  refine sg_callVI 2 [0, 1] 1 0 [_, _] C dL_leads_2 (ct_X6_bribeToLead l hS hx) wK_X6_bribeToLead wM_L_82 wN_X6_bribeToLead wS_X6_X6_bribeToLead wI_X6 hd_X6_bribeToLead rfl rfl rfl ⟨rfl, rfl⟩ ⟨Nat.le_of_ble_eq_true rfl, Nat.le_of_ble_eq_true rfl⟩ rfl rfl rfl rfl rfl rfl ?_
  refine sg_segs [_, _] rfl ?_
  refine sw_iret 5 C RC dL_leads_5 ?_
  exact ⟨rfl, rfl⟩
set_option maxHeartbeats 4000000 in
set_option maxRecDepth 100000 in
theorem ct_L_leads_2 (l : Launch) (hfl : l.stackTraces = false) {D : va_G} {cI cJ cQ : ClassId} {x0a a0 a1 a2 a3 a4 a5 a6 a7 tr0 s0 r0 w0 : Nat} {S : StT} {x1 : Int32} (hx : inR x1 0 4 = false) : LCt l yL_leads (Cond.codeWith yL_leads cL_leads 3 (some .int) [(0, 5, 6, 18)]) 9 164 1 6 D (tyz cI cJ cQ) [.ref x0a, .int x1] (flatS [[(x0a, .inr (6, [.ref a0, .ref tr0, .ref s0, .ref r0, .ref w0]))], (wSt a0 a1 a2 a3 a4 a5 a6 a7 cI (S))]) (pstI (-900000001) (flatS [[(x0a, .inr (6, [.ref a0, .ref tr0, .ref s0, .ref r0, .ref w0]))], (wSt a0 a1 a2 a3 a4 a5 a6 a7 cI (S))])) := by
  refine LCt.of RL (by decide) rfl (Nat.le_of_ble_eq_true rfl) ?_
  intro p e s m below meth c A C RC XT hz hC
  refine sw_aload_n 0 0 C dL_leads_0 rfl rfl ?_
  refine sw_iload_n 1 1 C dL_leads_1 rfl rfl ?_
  refine xl_catV 2 6 [0, 1] 1 0 "java/lang/IllegalArgumentException" (pre := []) (x := ⟨0, 5, 6, 18⟩) (suf := []) C hz XT (fun z hz9 => nomatch hz9) (by decide) (by decide) wC_L_18 (by decide) rfl dL_leads_2 (xt_X6_bribeToLead l hfl hx) (fun _ h => h) wK_X6_bribeToLead wM_L_82 wN_X6_bribeToLead wS_X6_X6_bribeToLead wI_X6 hd_X6_bribeToLead rfl rfl rfl ⟨rfl, rfl⟩ ⟨(Nat.le_of_ble_eq_true rfl), (Nat.le_of_ble_eq_true rfl)⟩ rfl rfl rfl rfl (fun q9 => ?_)
  refine sw_astore_n 6 2 C dL_leads_6 rfl rfl ?_
  refine sw_ldc 7 C dL_leads_7 (C.w wQ_L_20) ?_
  refine sw_iret 9 C RC dL_leads_9 ?_
  exact ⟨rfl, rfl⟩
set_option maxHeartbeats 4000000 in
set_option maxRecDepth 100000 in
theorem ct_L_peek (l : Launch) (hfl : l.stackTraces = false) {D : va_G} {cI cJ cQ : ClassId} {x0a a0 a1 a2 a3 a4 a5 a6 a7 tr0 s0 r0 w0 : Nat} {S : StT} {g : Nat → Int32} {x1 : Int32} (hS : SI S) (k i : Nat) (h1 : x1 = nI k) (hk : k < zn S) (hi : i < zn S) (hg : arrg (zf S) (zn S) g (zn S) k = nI i) : LCt l yL_peek (Cond.codeWith yL_peek cL_peek 3 (some .int) [(0, 5, 6, 15)]) 8 141 0 0 D (tyz cI cJ cQ) [.ref x0a, .int x1] (flatS [[(x0a, .inr (6, [.ref a0, .ref tr0, .ref s0, .ref r0, .ref w0]))], (wSt a0 a1 a2 a3 a4 a5 a6 a7 cI (S)), [(w0, .inl (cI, 40, .inl (g)))]]) (pstI (zf S (i * 8 + 7)) (flatS [[(x0a, .inr (6, [.ref a0, .ref tr0, .ref s0, .ref r0, .ref w0]))], (wSt a0 a1 a2 a3 a4 a5 a6 a7 cI (S)), [(w0, .inl (cI, 40, .inl (arrg (zf S) (zn S) g (zn S))))]])) := by
  refine LCt.of RL (by decide) rfl (Nat.le_of_ble_eq_true rfl) ?_
  intro p e s m below meth c A C RC XT hz hC
  refine sw_aload_n 0 0 C dL_peek_0 rfl rfl ?_
  refine sw_iload_n 1 1 C dL_peek_1 rfl rfl ?_
  refine sg_callVI 2 [0, 1, 2] 1 0 [_, _, _] C dL_peek_2 (ct_X6_peek l hS k i h1 hk hi hg) wK_X6_peek wM_L_58 wN_X6_peek wS_X6_X6_peek wI_X6 hd_X6_peek rfl rfl rfl ⟨rfl, rfl⟩ ⟨Nat.le_of_ble_eq_true rfl, Nat.le_of_ble_eq_true rfl⟩ rfl rfl rfl rfl rfl rfl ?_
  refine sg_segs [_, _, _] rfl ?_
  refine sw_iret 5 C RC dL_peek_5 ?_
  exact ⟨rfl, rfl⟩
set_option maxHeartbeats 4000000 in
set_option maxRecDepth 100000 in
theorem ct_L_peek_2 (l : Launch) (hfl : l.stackTraces = false) {D : va_G} {cI cJ cQ : ClassId} {x0a a0 a1 a2 a3 a4 a5 a6 a7 tr0 s0 r0 w0 : Nat} {S : StT} {g : Nat → Int32} {x1 : Int32} (hS : SI S) (h : x1 < 0 ∨ nI (zn S) ≤ x1) : LCt l yL_peek (Cond.codeWith yL_peek cL_peek 3 (some .int) [(0, 5, 6, 15)]) 8 141 1 6 D (tyz cI cJ cQ) [.ref x0a, .int x1] (flatS [[(x0a, .inr (6, [.ref a0, .ref tr0, .ref s0, .ref r0, .ref w0]))], (wSt a0 a1 a2 a3 a4 a5 a6 a7 cI (S)), [(w0, .inl (cI, 40, .inl (g)))]]) (pstI (-900000003) (flatS [[(x0a, .inr (6, [.ref a0, .ref tr0, .ref s0, .ref r0, .ref w0]))], (wSt a0 a1 a2 a3 a4 a5 a6 a7 cI (S)), [(w0, .inl (cI, 40, .inl (g)))]])) := by
  refine LCt.of RL (by decide) rfl (Nat.le_of_ble_eq_true rfl) ?_
  intro p e s m below meth c A C RC XT hz hC
  refine sw_aload_n 0 0 C dL_peek_0 rfl rfl ?_
  refine sw_iload_n 1 1 C dL_peek_1 rfl rfl ?_
  refine xl_catV 2 6 [0, 1, 2] 1 0 "java/lang/IndexOutOfBoundsException" (pre := []) (x := ⟨0, 5, 6, 15⟩) (suf := []) C hz XT (fun z hz9 => nomatch hz9) (by decide) (by decide) wC_L_15 (by decide) rfl dL_peek_2 (xt_X6_peek l hfl hS h) (fun _ h => h) wK_X6_peek wM_L_58 wN_X6_peek wS_X6_X6_peek wI_X6 hd_X6_peek rfl rfl rfl ⟨rfl, rfl⟩ ⟨(Nat.le_of_ble_eq_true rfl), (Nat.le_of_ble_eq_true rfl)⟩ rfl rfl rfl rfl (fun q9 => ?_)
  refine sw_astore_n 6 2 C dL_peek_6 rfl rfl ?_
  refine sw_ldc 7 C dL_peek_7 (C.w wQ_L_17) ?_
  refine sw_iret 9 C RC dL_peek_9 ?_
  exact ⟨rfl, rfl⟩
set_option maxHeartbeats 4000000 in
set_option maxRecDepth 100000 in
theorem ct_L_later (l : Launch) (hfl : l.stackTraces = false) {D : va_G} {cI cJ cQ : ClassId} {x0a a0 a1 a2 a3 a4 a5 a6 a7 tr0 tr1 tr2 tr3 tr4 tr5 tr6 tr7 s0 r0 w0 : Nat} {S T : StT} {x1 x2 : Int32} (hS : SI S) (i : Nat) (hi : fnd (zf S) x1 (zn S) = some i) (k : Nat) (h2 : x2 = nI k) (hk : k ≤ 200) : LCt l yL_later (Cond.codeWith yL_later cL_later 4 (some .int) [(0, 6, 7, 15), (0, 6, 11, 18)]) 9 166 0 0 D (tyz cI cJ cQ) [.ref x0a, .int x1, .int x2] (flatS [[(x0a, .inr (6, [.ref a0, .ref tr0, .ref s0, .ref r0, .ref w0]))], (wSt a0 a1 a2 a3 a4 a5 a6 a7 cI (S)), (wSt tr0 tr1 tr2 tr3 tr4 tr5 tr6 tr7 cI (T))]) (pstI ((rkf i k S).1) (flatS [[(x0a, .inr (6, [.ref a0, .ref tr0, .ref s0, .ref r0, .ref w0]))], (wSt a0 a1 a2 a3 a4 a5 a6 a7 cI (S)), (wSt tr0 tr1 tr2 tr3 tr4 tr5 tr6 tr7 cI ((rkf i k S).2))])) := by
  refine LCt.of RL (by decide) rfl (Nat.le_of_ble_eq_true rfl) ?_
  intro p e s m below meth c A C RC XT hz hC
  refine sw_aload_n 0 0 C dL_later_0 rfl rfl ?_
  refine sw_iload_n 1 1 C dL_later_1 rfl rfl ?_
  refine sw_iload_n 2 2 C dL_later_2 rfl rfl ?_
  refine sg_callVI 3 [0, 1, 2] 2 0 [_, _, _] C dL_later_3 (ct_X6_rankIn l hS i hi k h2 hk) wK_X6_rankIn wM_L_76 wN_X6_rankIn wS_X6_X6_rankIn wI_X6 hd_X6_rankIn rfl rfl rfl ⟨rfl, rfl⟩ ⟨Nat.le_of_ble_eq_true rfl, Nat.le_of_ble_eq_true rfl⟩ rfl rfl rfl rfl rfl rfl ?_
  refine sg_segs [_, _, _] rfl ?_
  refine sw_iret 6 C RC dL_later_6 ?_
  exact ⟨rfl, rfl⟩
set_option maxHeartbeats 4000000 in
set_option maxRecDepth 100000 in
theorem ct_L_later_2 (l : Launch) (hfl : l.stackTraces = false) {D : va_G} {cI cJ cQ : ClassId} {x0a a0 a1 a2 a3 a4 a5 a6 a7 tr0 s0 r0 w0 : Nat} {S : StT} {x1 x2 : Int32} (hS : SI S) (hi : fnd (zf S) x1 (zn S) = none) : LCt l yL_later (Cond.codeWith yL_later cL_later 4 (some .int) [(0, 6, 7, 15), (0, 6, 11, 18)]) 9 166 1 6 D (tyz cI cJ cQ) [.ref x0a, .int x1, .int x2] (flatS [[(x0a, .inr (6, [.ref a0, .ref tr0, .ref s0, .ref r0, .ref w0]))], (wSt a0 a1 a2 a3 a4 a5 a6 a7 cI (S))]) (pstI (-900000003) (flatS [[(x0a, .inr (6, [.ref a0, .ref tr0, .ref s0, .ref r0, .ref w0]))], (wSt a0 a1 a2 a3 a4 a5 a6 a7 cI (S))])) := by
  refine LCt.of RL (by decide) rfl (Nat.le_of_ble_eq_true rfl) ?_
  intro p e s m below meth c A C RC XT hz hC
  refine sw_aload_n 0 0 C dL_later_0 rfl rfl ?_
  refine sw_iload_n 1 1 C dL_later_1 rfl rfl ?_
  refine sw_iload_n 2 2 C dL_later_2 rfl rfl ?_
  refine xl_catV 3 7 [0, 1] 2 0 "java/lang/IndexOutOfBoundsException" (pre := []) (x := ⟨0, 6, 7, 15⟩) (suf := [⟨0, 6, 11, 18⟩]) C hz XT (fun z hz9 => nomatch hz9) (by decide) (by decide) wC_L_15 (by decide) rfl dL_later_3 (xt_X6_rankIn l hfl hS hi) (fun _ h => h) wK_X6_rankIn wM_L_76 wN_X6_rankIn wS_X6_X6_rankIn wI_X6 hd_X6_rankIn rfl rfl rfl ⟨rfl, rfl⟩ ⟨(Nat.le_of_ble_eq_true rfl), (Nat.le_of_ble_eq_true rfl)⟩ rfl rfl rfl rfl (fun q9 => ?_)
  refine sw_astore_n 7 3 C dL_later_7 rfl rfl ?_
  refine sw_ldc 8 C dL_later_8 (C.w wQ_L_17) ?_
  refine sw_iret 10 C RC dL_later_10 ?_
  exact ⟨rfl, rfl⟩
set_option maxHeartbeats 4000000 in
set_option maxRecDepth 100000 in
theorem ct_L_later_3 (l : Launch) (hfl : l.stackTraces = false) {D : va_G} {cI cJ cQ : ClassId} {x0a a0 a1 a2 a3 a4 a5 a6 a7 tr0 s0 r0 w0 : Nat} {S : StT} {x1 x2 : Int32} (hS : SI S) (i : Nat) (hi : fnd (zf S) x1 (zn S) = some i) (hx : inR x2 0 200 = false) : LCt l yL_later (Cond.codeWith yL_later cL_later 4 (some .int) [(0, 6, 7, 15), (0, 6, 11, 18)]) 9 166 1 6 D (tyz cI cJ cQ) [.ref x0a, .int x1, .int x2] (flatS [[(x0a, .inr (6, [.ref a0, .ref tr0, .ref s0, .ref r0, .ref w0]))], (wSt a0 a1 a2 a3 a4 a5 a6 a7 cI (S))]) (pstI (-900000001) (flatS [[(x0a, .inr (6, [.ref a0, .ref tr0, .ref s0, .ref r0, .ref w0]))], (wSt a0 a1 a2 a3 a4 a5 a6 a7 cI (S))])) := by
  refine LCt.of RL (by decide) rfl (Nat.le_of_ble_eq_true rfl) ?_
  intro p e s m below meth c A C RC XT hz hC
  refine sw_aload_n 0 0 C dL_later_0 rfl rfl ?_
  refine sw_iload_n 1 1 C dL_later_1 rfl rfl ?_
  refine sw_iload_n 2 2 C dL_later_2 rfl rfl ?_
  refine xl_catV 3 11 [0, 1] 2 0 "java/lang/IllegalArgumentException" (pre := [⟨0, 6, 7, 15⟩]) (x := ⟨0, 6, 11, 18⟩) (suf := []) C hz XT (fun z hz9 => by cases List.mem_singleton.mp hz9; exact Or.inr ⟨by decide, "java/lang/IndexOutOfBoundsException", C.w wC_L_15, hC.1⟩) (by decide) (by decide) wC_L_18 (by decide) rfl dL_later_3 (xt_X6_rankIn_2 l hfl hS i hi hx) (fun _ h => h) wK_X6_rankIn wM_L_76 wN_X6_rankIn wS_X6_X6_rankIn wI_X6 hd_X6_rankIn rfl rfl rfl ⟨rfl, rfl⟩ ⟨(Nat.le_of_ble_eq_true rfl), (Nat.le_of_ble_eq_true rfl)⟩ rfl rfl rfl rfl (fun q9 => ?_)
  refine sw_astore_n 11 3 C dL_later_11 rfl rfl ?_
  refine sw_ldc 12 C dL_later_12 (C.w wQ_L_20) ?_
  refine sw_iret 14 C RC dL_later_14 ?_
  exact ⟨rfl, rfl⟩
set_option maxHeartbeats 4000000 in
set_option maxRecDepth 100000 in
theorem ct_L_served (l : Launch) (hfl : l.stackTraces = false) {D : va_G} {cI cJ cQ : ClassId} {x0a a0 a1 a2 a3 a4 a5 a6 a7 tr0 tr1 tr2 tr3 tr4 tr5 tr6 tr7 s0 r0 w0 : Nat} {S T : StT} {x1 : Int32} (hS : SI S) (i : Nat) (hi : fnd (zf S) x1 (zn S) = some i) : LCt l yL_served (Cond.codeWith yL_served cL_served 3 (some .int) [(0, 5, 6, 15)]) 9 164 0 0 D (tyz cI cJ cQ) [.ref x0a, .int x1] (flatS [[(x0a, .inr (6, [.ref a0, .ref tr0, .ref s0, .ref r0, .ref w0]))], (wSt a0 a1 a2 a3 a4 a5 a6 a7 cI (S)), (wSt tr0 tr1 tr2 tr3 tr4 tr5 tr6 tr7 cI (T))]) (pstI ((svf x1 40 0 S).1) (flatS [[(x0a, .inr (6, [.ref a0, .ref tr0, .ref s0, .ref r0, .ref w0]))], (wSt a0 a1 a2 a3 a4 a5 a6 a7 cI (S)), (wSt tr0 tr1 tr2 tr3 tr4 tr5 tr6 tr7 cI ((svf x1 40 0 S).2))])) := by
  refine LCt.of RL (by decide) rfl (Nat.le_of_ble_eq_true rfl) ?_
  intro p e s m below meth c A C RC XT hz hC
  refine sw_aload_n 0 0 C dL_served_0 rfl rfl ?_
  refine sw_iload_n 1 1 C dL_served_1 rfl rfl ?_
  refine sg_callVI 2 [0, 1, 2] 1 0 [_, _, _] C dL_served_2 (ct_X6_servedIn l hS i hi) wK_X6_servedIn wM_L_79 wN_X6_servedIn wS_X6_X6_servedIn wI_X6 hd_X6_servedIn rfl rfl rfl ⟨rfl, rfl⟩ ⟨Nat.le_of_ble_eq_true rfl, Nat.le_of_ble_eq_true rfl⟩ rfl rfl rfl rfl rfl rfl ?_
  refine sg_segs [_, _, _] rfl ?_
  refine sw_iret 5 C RC dL_served_5 ?_
  exact ⟨rfl, rfl⟩
set_option maxHeartbeats 4000000 in
set_option maxRecDepth 100000 in
theorem ct_L_served_2 (l : Launch) (hfl : l.stackTraces = false) {D : va_G} {cI cJ cQ : ClassId} {x0a a0 a1 a2 a3 a4 a5 a6 a7 tr0 s0 r0 w0 : Nat} {S : StT} {x1 : Int32} (hS : SI S) (hi : fnd (zf S) x1 (zn S) = none) : LCt l yL_served (Cond.codeWith yL_served cL_served 3 (some .int) [(0, 5, 6, 15)]) 9 164 1 6 D (tyz cI cJ cQ) [.ref x0a, .int x1] (flatS [[(x0a, .inr (6, [.ref a0, .ref tr0, .ref s0, .ref r0, .ref w0]))], (wSt a0 a1 a2 a3 a4 a5 a6 a7 cI (S))]) (pstI (-900000003) (flatS [[(x0a, .inr (6, [.ref a0, .ref tr0, .ref s0, .ref r0, .ref w0]))], (wSt a0 a1 a2 a3 a4 a5 a6 a7 cI (S))])) := by
  refine LCt.of RL (by decide) rfl (Nat.le_of_ble_eq_true rfl) ?_
  intro p e s m below meth c A C RC XT hz hC
  refine sw_aload_n 0 0 C dL_served_0 rfl rfl ?_
  refine sw_iload_n 1 1 C dL_served_1 rfl rfl ?_
  refine xl_catV 2 6 [0, 1] 1 0 "java/lang/IndexOutOfBoundsException" (pre := []) (x := ⟨0, 5, 6, 15⟩) (suf := []) C hz XT (fun z hz9 => nomatch hz9) (by decide) (by decide) wC_L_15 (by decide) rfl dL_served_2 (xt_X6_servedIn l hfl hS hi) (fun _ h => h) wK_X6_servedIn wM_L_79 wN_X6_servedIn wS_X6_X6_servedIn wI_X6 hd_X6_servedIn rfl rfl rfl ⟨rfl, rfl⟩ ⟨(Nat.le_of_ble_eq_true rfl), (Nat.le_of_ble_eq_true rfl)⟩ rfl rfl rfl rfl (fun q9 => ?_)
  refine sw_astore_n 6 2 C dL_served_6 rfl rfl ?_
  refine sw_ldc 7 C dL_served_7 (C.w wQ_L_17) ?_
  refine sw_iret 9 C RC dL_served_9 ?_
  exact ⟨rfl, rfl⟩
set_option maxHeartbeats 4000000 in
set_option maxRecDepth 100000 in
theorem ct_L_types (l : Launch) (hfl : l.stackTraces = false) {D : va_G} {cI cJ cQ : ClassId} {x0a a0 tr0 s0 r0 t0 t1 w0 ln : Nat} {by_ : Nat → Int32} {X : RS} {x1 : Int32} (hln : ln ≤ 100) (hx : inR x1 0 127 = true) (h : ln < 100) : LCt l yL_types (Cond.codeWith yL_types cL_types 3 (some .int) [(0, 5, 6, 18), (0, 5, 10, 32)]) 9 163 0 0 D (tyz cI cJ cQ) [.ref x0a, .int x1] (flatS [[(x0a, .inr (6, [.ref a0, .ref tr0, .ref s0, .ref r0, .ref w0]))], (wRd r0 t0 t1 cI (ln) (by_) X)]) (pstI (nI (txl ln)) (flatS [[(x0a, .inr (6, [.ref a0, .ref tr0, .ref s0, .ref r0, .ref w0]))], (wRd r0 t0 t1 cI (txl ln) (txb by_ ln x1) X)])) := by
  refine LCt.of RL (by decide) rfl (Nat.le_of_ble_eq_true rfl) ?_
  intro p e s m below meth c A C RC XT hz hC
  refine sw_aload_n 0 0 C dL_types_0 rfl rfl ?_
  refine sw_iload_n 1 1 C dL_types_1 rfl rfl ?_
  refine sg_callVI 2 [0, 1] 1 0 [_, _] C dL_types_2 (ct_X6_append l hln hx h) wK_X6_append wM_L_85 wN_X6_append wS_X6_X6_append wI_X6 hd_X6_append rfl rfl rfl ⟨rfl, rfl⟩ ⟨Nat.le_of_ble_eq_true rfl, Nat.le_of_ble_eq_true rfl⟩ rfl rfl rfl rfl rfl rfl ?_
  refine sg_segs [_, _] rfl ?_
  refine sw_iret 5 C RC dL_types_5 ?_
  exact ⟨rfl, rfl⟩
set_option maxHeartbeats 4000000 in
set_option maxRecDepth 100000 in
theorem ct_L_types_2 (l : Launch) (hfl : l.stackTraces = false) {D : va_G} {cI cJ cQ : ClassId} {x0a a0 tr0 s0 r0 t0 t1 w0 ln : Nat} {by_ : Nat → Int32} {X : RS} {x1 : Int32} (hx : inR x1 0 127 = false) : LCt l yL_types (Cond.codeWith yL_types cL_types 3 (some .int) [(0, 5, 6, 18), (0, 5, 10, 32)]) 9 163 1 6 D (tyz cI cJ cQ) [.ref x0a, .int x1] (flatS [[(x0a, .inr (6, [.ref a0, .ref tr0, .ref s0, .ref r0, .ref w0]))], (wRd r0 t0 t1 cI (ln) (by_) X)]) (pstI (-900000001) (flatS [[(x0a, .inr (6, [.ref a0, .ref tr0, .ref s0, .ref r0, .ref w0]))], (wRd r0 t0 t1 cI (ln) (by_) X)])) := by
  refine LCt.of RL (by decide) rfl (Nat.le_of_ble_eq_true rfl) ?_
  intro p e s m below meth c A C RC XT hz hC
  refine sw_aload_n 0 0 C dL_types_0 rfl rfl ?_
  refine sw_iload_n 1 1 C dL_types_1 rfl rfl ?_
  refine xl_catV 2 6 [0, 1] 1 0 "java/lang/IllegalArgumentException" (pre := []) (x := ⟨0, 5, 6, 18⟩) (suf := [⟨0, 5, 10, 32⟩]) C hz XT (fun z hz9 => nomatch hz9) (by decide) (by decide) wC_L_18 (by decide) rfl dL_types_2 (xt_X6_append l hfl hx) (fun _ h => h) wK_X6_append wM_L_85 wN_X6_append wS_X6_X6_append wI_X6 hd_X6_append rfl rfl rfl ⟨rfl, rfl⟩ ⟨(Nat.le_of_ble_eq_true rfl), (Nat.le_of_ble_eq_true rfl)⟩ rfl rfl rfl rfl (fun q9 => ?_)
  refine sw_astore_n 6 2 C dL_types_6 rfl rfl ?_
  refine sw_ldc 7 C dL_types_7 (C.w wQ_L_20) ?_
  refine sw_iret 9 C RC dL_types_9 ?_
  exact ⟨rfl, rfl⟩
set_option maxHeartbeats 4000000 in
set_option maxRecDepth 100000 in
theorem ct_L_types_3 (l : Launch) (hfl : l.stackTraces = false) {D : va_G} {cI cJ cQ : ClassId} {x0a a0 tr0 s0 r0 t0 t1 w0 ln : Nat} {by_ : Nat → Int32} {X : RS} {x1 : Int32} (hln : ln ≤ 100) (hx : inR x1 0 127 = true) (h : ¬ ln < 100) : LCt l yL_types (Cond.codeWith yL_types cL_types 3 (some .int) [(0, 5, 6, 18), (0, 5, 10, 32)]) 9 163 1 6 D (tyz cI cJ cQ) [.ref x0a, .int x1] (flatS [[(x0a, .inr (6, [.ref a0, .ref tr0, .ref s0, .ref r0, .ref w0]))], (wRd r0 t0 t1 cI (ln) (by_) X)]) (pstI (-900000002) (flatS [[(x0a, .inr (6, [.ref a0, .ref tr0, .ref s0, .ref r0, .ref w0]))], (wRd r0 t0 t1 cI (ln) (by_) X)])) := by
  refine LCt.of RL (by decide) rfl (Nat.le_of_ble_eq_true rfl) ?_
  intro p e s m below meth c A C RC XT hz hC
  refine sw_aload_n 0 0 C dL_types_0 rfl rfl ?_
  refine sw_iload_n 1 1 C dL_types_1 rfl rfl ?_
  refine xl_catV 2 10 [0, 1] 1 0 "java/lang/IllegalStateException" (pre := [⟨0, 5, 6, 18⟩]) (x := ⟨0, 5, 10, 32⟩) (suf := []) C hz XT (fun z hz9 => by cases List.mem_singleton.mp hz9; exact Or.inr ⟨by decide, "java/lang/IllegalArgumentException", C.w wC_L_18, hC.2⟩) (by decide) (by decide) wC_L_32 (by decide) rfl dL_types_2 (xt_X6_append_2 l hfl hln hx h) (fun _ h => h) wK_X6_append wM_L_85 wN_X6_append wS_X6_X6_append wI_X6 hd_X6_append rfl rfl rfl ⟨rfl, rfl⟩ ⟨(Nat.le_of_ble_eq_true rfl), (Nat.le_of_ble_eq_true rfl)⟩ rfl rfl rfl rfl (fun q9 => ?_)
  refine sw_astore_n 10 2 C dL_types_10 rfl rfl ?_
  refine sw_ldc 11 C dL_types_11 (C.w wQ_L_34) ?_
  refine sw_iret 13 C RC dL_types_13 ?_
  exact ⟨rfl, rfl⟩
