theorem hd_L_setPatience : yL_setPatience.cls ≠ "java/lang/invoke/MethodHandle" ∧ yL_setPatience.cls ≠ "java/lang/invoke/VarHandle" ∧ (parseMethodDescriptor yL_setPatience.desc).map (fun d => d.parameters.length) = some 4 := by decide +kernel
theorem hd_L_setQuota : yL_setQuota.cls ≠ "java/lang/invoke/MethodHandle" ∧ yL_setQuota.cls ≠ "java/lang/invoke/VarHandle" ∧ (parseMethodDescriptor yL_setQuota.desc).map (fun d => d.parameters.length) = some 3 := by decide +kernel
theorem hd_L_setGrace : yL_setGrace.cls ≠ "java/lang/invoke/MethodHandle" ∧ yL_setGrace.cls ≠ "java/lang/invoke/VarHandle" ∧ (parseMethodDescriptor yL_setGrace.desc).map (fun d => d.parameters.length) = some 3 := by decide +kernel
theorem hd_L_send : yL_send.cls ≠ "java/lang/invoke/MethodHandle" ∧ yL_send.cls ≠ "java/lang/invoke/VarHandle" ∧ (parseMethodDescriptor yL_send.desc).map (fun d => d.parameters.length) = some 5 := by decide +kernel
theorem hd_L_sendBribed : yL_sendBribed.cls ≠ "java/lang/invoke/MethodHandle" ∧ yL_sendBribed.cls ≠ "java/lang/invoke/VarHandle" ∧ (parseMethodDescriptor yL_sendBribed.desc).map (fun d => d.parameters.length) = some 6 := by decide +kernel
theorem hd_L_sendJoint : yL_sendJoint.cls ≠ "java/lang/invoke/MethodHandle" ∧ yL_sendJoint.cls ≠ "java/lang/invoke/VarHandle" ∧ (parseMethodDescriptor yL_sendJoint.desc).map (fun d => d.parameters.length) = some 6 := by decide +kernel
theorem hd_L_withdraw : yL_withdraw.cls ≠ "java/lang/invoke/MethodHandle" ∧ yL_withdraw.cls ≠ "java/lang/invoke/VarHandle" ∧ (parseMethodDescriptor yL_withdraw.desc).map (fun d => d.parameters.length) = some 3 := by decide +kernel
theorem hd_L_serve : yL_serve.cls ≠ "java/lang/invoke/MethodHandle" ∧ yL_serve.cls ≠ "java/lang/invoke/VarHandle" ∧ (parseMethodDescriptor yL_serve.desc).map (fun d => d.parameters.length) = some 2 := by decide +kernel
theorem hd_L_pass : yL_pass.cls ≠ "java/lang/invoke/MethodHandle" ∧ yL_pass.cls ≠ "java/lang/invoke/VarHandle" ∧ (parseMethodDescriptor yL_pass.desc).map (fun d => d.parameters.length) = some 3 := by decide +kernel
theorem hd_L_petition : yL_petition.cls ≠ "java/lang/invoke/MethodHandle" ∧ yL_petition.cls ≠ "java/lang/invoke/VarHandle" ∧ (parseMethodDescriptor yL_petition.desc).map (fun d => d.parameters.length) = some 4 := by decide +kernel
theorem hd_L_peek : yL_peek.cls ≠ "java/lang/invoke/MethodHandle" ∧ yL_peek.cls ≠ "java/lang/invoke/VarHandle" ∧ (parseMethodDescriptor yL_peek.desc).map (fun d => d.parameters.length) = some 3 := by decide +kernel
theorem hd_L_sentBy : yL_sentBy.cls ≠ "java/lang/invoke/MethodHandle" ∧ yL_sentBy.cls ≠ "java/lang/invoke/VarHandle" ∧ (parseMethodDescriptor yL_sentBy.desc).map (fun d => d.parameters.length) = some 3 := by decide +kernel
theorem hd_L_returned : yL_returned.cls ≠ "java/lang/invoke/MethodHandle" ∧ yL_returned.cls ≠ "java/lang/invoke/VarHandle" ∧ (parseMethodDescriptor yL_returned.desc).map (fun d => d.parameters.length) = some 3 := by decide +kernel
theorem hd_L_entry : yL_entry.cls ≠ "java/lang/invoke/MethodHandle" ∧ yL_entry.cls ≠ "java/lang/invoke/VarHandle" ∧ (parseMethodDescriptor yL_entry.desc).map (fun d => d.parameters.length) = some 4 := by decide +kernel
theorem hd_L_value : yL_value.cls ≠ "java/lang/invoke/MethodHandle" ∧ yL_value.cls ≠ "java/lang/invoke/VarHandle" ∧ (parseMethodDescriptor yL_value.desc).map (fun d => d.parameters.length) = some 3 := by decide +kernel
theorem hd_L_ofRank : yL_ofRank.cls ≠ "java/lang/invoke/MethodHandle" ∧ yL_ofRank.cls ≠ "java/lang/invoke/VarHandle" ∧ (parseMethodDescriptor yL_ofRank.desc).map (fun d => d.parameters.length) = some 3 := by decide +kernel
theorem hd_L_rankIn : yL_rankIn.cls ≠ "java/lang/invoke/MethodHandle" ∧ yL_rankIn.cls ≠ "java/lang/invoke/VarHandle" ∧ (parseMethodDescriptor yL_rankIn.desc).map (fun d => d.parameters.length) = some 4 := by decide +kernel
theorem hd_L_servedIn : yL_servedIn.cls ≠ "java/lang/invoke/MethodHandle" ∧ yL_servedIn.cls ≠ "java/lang/invoke/VarHandle" ∧ (parseMethodDescriptor yL_servedIn.desc).map (fun d => d.parameters.length) = some 3 := by decide +kernel
theorem hd_L_bribeToLead : yL_bribeToLead.cls ≠ "java/lang/invoke/MethodHandle" ∧ yL_bribeToLead.cls ≠ "java/lang/invoke/VarHandle" ∧ (parseMethodDescriptor yL_bribeToLead.desc).map (fun d => d.parameters.length) = some 3 := by decide +kernel
theorem hd_L_append : yL_append.cls ≠ "java/lang/invoke/MethodHandle" ∧ yL_append.cls ≠ "java/lang/invoke/VarHandle" ∧ (parseMethodDescriptor yL_append.desc).map (fun d => d.parameters.length) = some 3 := by decide +kernel
theorem hd_L_undo : yL_undo.cls ≠ "java/lang/invoke/MethodHandle" ∧ yL_undo.cls ≠ "java/lang/invoke/VarHandle" ∧ (parseMethodDescriptor yL_undo.desc).map (fun d => d.parameters.length) = some 2 := by decide +kernel
/-! the law's methods that catch -/
section LSW
def xC (U : State) : Prop := va_Nc "java/lang/IllegalArgumentException" "java/lang/IndexOutOfBoundsException" U ∧ va_Nc "java/lang/IllegalStateException" "java/lang/IllegalArgumentException" U
theorem xC.moved {u U : State} (h : u.vm.Alike U.vm) (z : xC u) : xC U := ⟨va_Nc.moved h z.1, va_Nc.moved h z.2⟩
def lP (D : va_G) (tys : List (ClassId × FieldType)) (As : List Value) (wc : va_W) (sz : Nat) : Array Value → State → Prop := va_Pc As (fun U => U.heap.size = sz ∧ va_P D vwCl wc U.heap ∧ va_K D vwCl tys U ∧ va_D (fun _ => True) wc ∧ xZ (va_A wc sz) U ∧ xC U)
def LCt (l : Launch) (y : MethodName) (cw : Cond) (fr lo mc ms : Nat) (D : va_G) (tys : List (ClassId × FieldType)) (As : List Value) (wc : va_W) (post : Option Value → va_W → Prop) : Prop :=
  ∀ sz : Nat, Met l y (cw :: lw_all) ({ frames := fr, cells := mc, slots := ms, locals := lo } : Room) (lP D tys As wc sz) (ctQ D tys (va_A wc sz) post) mc ms (va_A wc sz)
theorem lP_blind {D : va_G} {tys : List (ClassId × FieldType)} {As : List Value} {wc : va_W} {sz : Nat} : FrameBlind (lP D tys As wc sz) := fun a U g mk q => by
  obtain ⟨q0, q1, qP, qK, qD, ⟨z1, z2, z3, z4⟩, qC⟩ := q
  exact ⟨q0, q1, qP, va_K.moved (u := U) (U := U.calling g mk a) (Vm.Alike.refl U.vm) qK, qD, ⟨z1.moved (u := U) (U := U.calling g mk a) (Vm.Alike.refl U.vm), z2.moved (u := U) (U := U.calling g mk a) (Vm.Alike.refl U.vm), fun q hq => by
    obtain ⟨sa, h⟩ := z3 q hq
    exact ⟨sa, vk_R.same (u := U) rfl h⟩, xW.same (u := U) rfl z4⟩, qC.moved (u := U) (U := U.calling g mk a) (Vm.Alike.refl U.vm)⟩
variable {p : Program} {l : Launch} {e : Env} {R : Room} {s : State} {m : MethodId} {args : Array Value} {below : List Frame} {meth : Method} {c : Code} {D : va_G} {tys : List (ClassId × FieldType)} {A : Nat → Prop} {H0 : Heap} {nL k n : Nat} {Q : State → Prop} {segs : List va_W} {L : List (Nat × Value)} {st : List Value} {cc : ByteArray} {own : String} {Ts : List Cond} {x0 : Cond}
theorem LCt.of {y : MethodName} {cc : ByteArray} {maxL : Nat} {ret : Option FieldType} {hh : List (Nat × Nat × Nat × Nat)} {fr lo mc ms : Nat} {As : List Value} {wc : va_W} {post : Option Value → va_W → Prop} (own : String) (hy : plainName y.cls = true) (ho : y.cls = own) (hL : (lg_sl As).length ≤ maxL)
    (body : ∀ (p : Program) (e : Env) (s : State) (m : MethodId) (below : List Frame) (meth : Method) (c : Code) (A : Nat → Prop), CC p s m As.toArray c cc maxL own (Cond.codeWith y cc maxL ret hh :: lw_all) D tys A s.heap → (meth.sig.returnType = ret ∧ meth.locks = false ∧ meth.name = y.name) → c.exceptionTable.toList = tableOf hh → xZ A s → xC s →
      sw p l e ({ frames := fr, cells := mc, slots := ms, locals := lo } : Room) s m As.toArray below meth c D A s.heap maxL 0 0 (MQ below (ctQ D tys A post) As.toArray s mc ms A) wc 0 (lv_args 0 As) []) : LCt l y (Cond.codeWith y cc maxL ret hh) fr lo mc ms D tys As wc post := by
  intro sz
  refine va_MetW (cc := cc) (maxL := maxL) (ret := ret) (hh := hh) hy rfl ?_
  intro p e s m args below meth c s₁ B hml hv
  obtain ⟨rfl, hsz, hP, hK, hD0, hz, hC⟩ := hv
  subst hsz
  have hD := hD0.self (sz := s.heap.size)
  have hA : ∀ q : Nat, s.heap.size ≤ q → va_A wc s.heap.size q := fun q h => Or.inr h
  have hl := lv_entry As (n := maxL) hL
  rw [lg_entry_eq]
  exact body p e s m below meth c (va_A wc s.heap.size) ⟨⟨B.exec, B.bytes, hml, ho ▸ findClass_of_methodNamed B.named, atoms_spec B.pre⟩, hK, hA⟩ ⟨B.returns, B.notSynchronized, (name_of_methodNamed B.named B.method).1⟩ (vx_table (x := y) B (atoms_spec B.pre _ List.mem_cons_self)) hz hC s.heap [] _ hP hD va_S.rf hl
theorem xl_catV (pc hpc : Nat) (is : List Nat) (na rq : Nat) {fr lo mc ms maxL index b ci : Nat} {y : MethodName} {bytes : ByteArray} {ret : Option FieldType} {wc : va_W} {As : List Value} {pE : String → Prop} {Cn : String} {T : u_T} {N : Nat} {fs : List Value} (E0 : String) {pre suf : List ExceptionTableEntry} {x : ExceptionTableEntry} (C : CC p s m args c cc nL own (x0 :: lw_all) D tys A s.heap) (hz : xZ A s) (hsplit : c.exceptionTable.toList = pre ++ x :: suf)
    (hpass : ∀ z ∈ pre, covers z pc = false ∨ (z.catchType ≠ 0 ∧ ∃ nm : String, (Cond.classLink own z.catchType nm).before args s = true ∧ va_Nc E0 nm s)) (hx : covers x pc = true) (h0 : x.catchType ≠ 0) (hlink : Cond.classLink own x.catchType E0 ∈ lw_all) (hcast : E0 ∈ xcas) (hh : x.handlerPc = hpc)
    (d : decode cc pc = .ok (.invokevirtual index, 3)) (hM : XCt l y (Cond.code y bytes maxL ret) fr lo mc ms D tys (.ref b :: As) wc (fun _ _ => False) pE) (hpE : ∀ E, pE E → E = E0) (g0 : Cond.code y bytes maxL ret ∈ lw_all) (g1 : Cond.methodLink own index y ∈ lw_all) (g2 : Cond.instanceMethod y ∈ lw_all) (g3 : Cond.selects Cn y y ∈ lw_all) (g4 : Cond.initialized Cn ∈ lw_all)
    (hd : y.cls = Cn ∧ y.cls ≠ "java/lang/invoke/MethodHandle" ∧ y.cls ≠ "java/lang/invoke/VarHandle" ∧ (parseMethodDescriptor y.desc).map (fun d => d.parameters.length) = some na) (hna : As.length = na) (hrv : wc[rq]? = some (b, .inr (ci, fs))) (hc : vwCl[ci]? = some (Cn, T, N))
    (hR : Nat.ble (fr + 1) R.frames = true ∧ Nat.ble (8 + (maxL + 11) + lo) R.locals = true) (hf : k + mc ≤ R.cells ∧ n + ms ≤ R.slots) (hst : Nat.ble (st.map fun v => v.category).sum 8 = true) (hn : wnd is = true) (hw : wall segs.length is = true) (hp : flatS (spick segs is) = wc)
    (kk : ∀ q : Nat, sw p l e R s m args below meth c D A s.heap nL (k + mc) (n + ms) Q (flatS segs) hpc L [.ref q]) : sw p l e R s m args below meth c D A s.heap nL k n Q (flatS segs) pc L (As.reverse ++ .ref b :: st) := by
  have hw' := wall_lt hw
  have hn' := wnd_nd hn
  have hper := (flatS_perm (segs_perm is segs hn' hw')).trans (by rw [flatS_app])
  subst hp
  intro H locs ls hP hD hS hl
  have hPp := va_P_perm hper hP
  have hDp := va_D_perm hper hD
  have hPc := va_P_l hPp
  have hDc := va_D_l hDp
  have hFc := free_of hDp hS C.hA
  have hK := C.hK
  refine xx_callg (vx_runV (As := As) (rest := st) (C := Cn) C.1 (hM H.size) (cwV na C.hts (goodV g0 g1 g2 g3 g4) rfl rfl rfl hd ⟨Nat.le_of_ble_eq_true hR.1, Nat.le_of_ble_eq_true hR.2⟩) ⟨xP_blind, va_recv (q := (Cn, T, N)) hK hPc hc hrv, fun U hU hW => ⟨rfl, by rw [hU], by rw [hU]; exact hPc, va_K.moved hW.alike hK, hDc.weaken (fun _ _ _ _ => trivial), xZ_sub hz hS hU hW hFc⟩⟩ rfl hna hl.1 rfl (lv_room (Nat.le_of_ble_eq_true hst)) d hf) hS (fun q _ h => hFc q h) hFc (fun E ce q9 H1 locs1 hE hP1 hz1 hk1 hS1 hce hv hcl => ?_) (fun v w1 H1 locs1 hpost hP1 hD1 hz1 hk1 hS1 => hpost.elim)
  obtain rfl := hpE E hE
  refine vx_catch C.hown pre x suf hsplit hpass hx h0 (C.w hlink) (va_Nw.use rfl (hz.2.2.2.2 _ hcast)) hce hv hcl ?_
  rw [hh]
  refine kk q9 H1 locs1 ls (va_P_perm hper.symm (va_P_iff.mpr (fun q hq => ?_))) hD hS1 hl
  rcases List.mem_append.mp hq with h | h
  · exact va_P_iff.mp hP1 q h
  · have hq1 := va_P_iff.mp hPp q (List.mem_append_right _ h)
    refine hq1.kept (hk1 q.1 hq1.lt (fun h2 => ?_))
    rcases va_A_mem.mp h2 with ⟨e2, he⟩ | h2
    · obtain ⟨d1, -⟩ := va_D_iff.mp hDp
      rw [List.map_append, List.nodup_append] at d1
      exact d1.2.2 q.1 (List.mem_map.mpr ⟨(q.1, e2), he, rfl⟩) q.1 (List.mem_map.mpr ⟨q, h, rfl⟩) rfl
    · have := hq1.lt
      omega
theorem xZ_sub0 {A0 A1 : Nat → Prop} {U : State} {H : Heap} {locs : List Loc} {H0 : Heap} (hH : H0 = s.heap) (z : xZ A0 s) (hS : va_S A0 H0 H locs) (hU : U.heap = H) (hW : s.WarmedH U.vm) (hF : ∀ q, A1 q → A0 q) : xZ A1 U := xZ_sub z (hH ▸ hS) hU hW hF
theorem xl_callSI (pc : Nat) (is : List Nat) (na : Nat) (news : List va_W) {fr lo mc ms maxL index : Nat} {y : MethodName} {bytes : ByteArray} {ret : Option FieldType} {hh : List (Nat × Nat × Nat × Nat)} {wc : va_W} {As : List Value} {w0 : va_W} {r : Int32} (C : CC p s m args c cc nL own (x0 :: lw_all) D tys A s.heap) (hz : xZ A s) (hC : xC s)
    (d : decode cc pc = .ok (.invokestatic index, 3)) (hM : LCt l y (Cond.codeWith y bytes maxL ret hh) fr lo mc ms D tys As wc (pstI r w0)) (g0 : Cond.codeWith y bytes maxL ret hh ∈ lw_all) (g1 : Cond.methodLink own index y ∈ lw_all) (g2 : Cond.static y ∈ lw_all) (g4 : Cond.initialized y.cls ∈ lw_all)
    (hd : y.cls ≠ "java/lang/invoke/MethodHandle" ∧ y.cls ≠ "java/lang/invoke/VarHandle" ∧ (parseMethodDescriptor y.desc).map (fun d => d.parameters.length) = some na) (hna : As.length = na) (hR : Nat.ble (fr + 1) R.frames = true ∧ Nat.ble (8 + (maxL + 11) + lo) R.locals = true) (hf : k + mc ≤ R.cells ∧ n + ms ≤ R.slots) (hst : Nat.ble (st.map fun v => v.category).sum 8 = true) (hn : wnd is = true) (hw : wall segs.length is = true) (hln : Nat.beq news.length is.length = true) (hp : flatS (spick segs is) = wc) (hnew : flatS news = w0)
    (kk : sw p l e R s m args below meth c D A s.heap nL (k + mc) (n + ms) Q (flatS (sput segs is news)) (pc + 3) L (.int r :: st)) : sw p l e R s m args below meth c D A s.heap nL k n Q (flatS segs) pc L (As.reverse ++ st) := by
  have hw' := wall_lt hw
  have hn' := wnd_nd hn
  have hper := (flatS_perm (segs_perm is segs hn' hw')).trans (by rw [flatS_app])
  subst hp
  intro H locs ls hP hD hS hl
  have hPp := va_P_perm hper hP
  have hDp := va_D_perm hper hD
  have hPc := va_P_l hPp
  have hDc := va_D_l hDp
  have hFc := free_of hDp hS C.hA
  have hK := C.hK
  refine va_callg (vx_runSW (As := As) (rest := st) C.1 (hM H.size) (vx_cwSW na C.hts (fun w hw => by
    unfold va_wsS at hw
    simp only [List.cons_append, List.nil_append, List.mem_cons] at hw
    rcases hw with rfl | rfl | rfl | rfl | hw
    · exact goodAll _ g1
    · exact goodAll _ g2
    · exact goodAll _ g4
    · exact goodAll _ g0
    · exact goodAll _ hw) rfl rfl rfl hd ⟨Nat.le_of_ble_eq_true hR.1, Nat.le_of_ble_eq_true hR.2⟩) ⟨lP_blind, fun U hU hW => ⟨rfl, by rw [hU], by rw [hU]; exact hPc, va_K.moved hW.alike hK, hDc.weaken (fun _ _ _ _ => trivial), xZ_sub hz hS hU hW hFc, hC.moved hW.alike⟩⟩ rfl hna hl.1 rfl (lv_room (Nat.le_of_ble_eq_true hst)) d hf) hS (fun q _ h => hFc q h) hFc (fun v w1 H1 locs1 hpost hP1 hD1 hz1 hk1 hS1 => ?_)
  obtain ⟨hv1, hw1⟩ := hpost
  subst hv1
  rw [hw1, ← hnew] at hP1 hD1
  obtain ⟨hP2, hD2⟩ := seg_ok hPp hDp hk1 hFc hP1 hD1
  have hper2 := (flatS_perm (sput_perm is news segs hn' hw' (by rw [Nat.eq_of_beq_eq_true hln]))).trans (by rw [flatS_app])
  exact kk H1 locs1 ls (va_P_perm hper2.symm hP2) (va_D_perm hper2.symm hD2) hS1 hl
end LSW
set_option maxHeartbeats 4000000 in
set_option maxRecDepth 100000 in
theorem ct_L_setPatience (l : Launch) (hfl : l.stackTraces = false) {D : va_G} {cI cJ cQ : ClassId} {x0a a0 a1 a2 a3 a4 a5 a6 a7 tr0 s0 s1 r0 w0 ra0 ra1 ra2 ra3 ra4 ra5 ra6 ra7 rb0 rb1 rb2 rb3 rb4 rb5 rb6 rb7 rc0 rc1 rc2 rc3 rc4 rc5 rc6 rc7 rd0 rd1 rd2 rd3 rd4 rd5 rd6 rd7 : Nat} {h : Nat → Option Nat} {S : StT} {R : Nat → StT} {cn od : Nat} {x1 x2 : Int32} (hS : SI S) (hcn : cn ≤ 4) (hod : od < 4) (hh0 : h 0 = some ra0) (hh1 : h 1 = some rb0) (hh2 : h 2 = some rc0) (hh3 : h 3 = some rd0) (r : Nat) (h1 : x1 = nI r) (hr : r < 4) (hx : inR x2 1 50 = true) {ao : Nat} {fo : Nat → Int64} : LCt l yL_setPatience (Cond.codeWith yL_setPatience cL_setPatience 5 (some .int) [(0, 10, 13, 13), (0, 10, 17, 15)]) 9 165 0 0 D (tyz cI cJ cQ) [.ref x0a, .int x1, .int x2, .ref ao] (flatS [[(x0a, .inr (6, [.ref a0, .ref tr0, .ref s0, .ref r0, .ref w0]))], (wSt a0 a1 a2 a3 a4 a5 a6 a7 cI (S)), [(s0, .inr (3, [.int (nI (cn)), .int (nI (od)), .ref s1])), (s1, .inl (cQ, 4, .inr (.inr (.inr (.inr h)))))], (wSt ra0 ra1 ra2 ra3 ra4 ra5 ra6 ra7 cI ((R) 0)), (wSt rb0 rb1 rb2 rb3 rb4 rb5 rb6 rb7 cI ((R) 1)), (wSt rc0 rc1 rc2 rc3 rc4 rc5 rc6 rc7 cI ((R) 2)), (wSt rd0 rd1 rd2 rd3 rd4 rd5 rd6 rd7 cI ((R) 3)), [(ao, .inl (cJ, 1, .inr (.inl (fo))))]]) (pstI 0 (flatS [[(x0a, .inr (6, [.ref a0, .ref tr0, .ref s0, .ref r0, .ref w0]))], (wSt a0 a1 a2 a3 a4 a5 a6 a7 cI (zpat_ S r x2)), [(s0, .inr (3, [.int (nI (svC cn)), .int (nI (svO cn od)), .ref s1])), (s1, .inl (cQ, 4, .inr (.inr (.inr (.inr h)))))], (wSt ra0 ra1 ra2 ra3 ra4 ra5 ra6 ra7 cI ((va_up R (svI cn od) S) 0)), (wSt rb0 rb1 rb2 rb3 rb4 rb5 rb6 rb7 cI ((va_up R (svI cn od) S) 1)), (wSt rc0 rc1 rc2 rc3 rc4 rc5 rc6 rc7 cI ((va_up R (svI cn od) S) 2)), (wSt rd0 rd1 rd2 rd3 rd4 rd5 rd6 rd7 cI ((va_up R (svI cn od) S) 3)), [(ao, .inl (cJ, 1, .inr (.inl (vp_updL fo 0 (zpat S r).toInt64))))]])) := by
  refine LCt.of RL (by decide) rfl (Nat.le_of_ble_eq_true rfl) ?_
  intro p e s m below meth c A C RC XT hz hC
  refine sw_aload_n 0 3 C dL_setPatience_0 rfl rfl ?_
  refine sw_iconst 1 C dL_setPatience_1 0 (by decide) ?_
  refine sw_aload_n 2 0 C dL_setPatience_2 rfl rfl ?_
  refine sw_iload_n 3 1 C dL_setPatience_3 rfl rfl ?_
  refine sw_iload_n 4 2 C dL_setPatience_4 rfl rfl ?_
  refine sg_callVI 5 [0, 1, 2, 3, 4, 5, 6] 2 0 [_, _, _, _, _, _, _] C dL_setPatience_5 (ct_X6_setPatience l hS hcn hod hh0 hh1 hh2 hh3 r h1 hr hx) wK_X6_setPatience wM_L_7 wN_X6_setPatience wS_X6_X6_setPatience wI_X6 hd_X6_setPatience rfl rfl rfl ⟨rfl, rfl⟩ ⟨Nat.le_of_ble_eq_true rfl, Nat.le_of_ble_eq_true rfl⟩ rfl rfl rfl rfl rfl rfl ?_
  refine sg_segs [_, _, _, _, _, _, _, _] rfl ?_
  refine sw_i2l 8 C dL_setPatience_8 ?_
  refine sg_lastN 9 7 0 1 (0) C dL_setPatience_9 rfl (by decide) rfl rfl rfl rfl ?_
  refine sg_segs [_, _, _, _, _, _, _, [(_, .inl (_, _, .inr (.inl _)))]] rfl ?_
  refine sw_goto 10 21 C dL_setPatience_10 (by decide) ?_
  refine sw_iconst 21 C dL_setPatience_21 0 (by decide) ?_
  refine sw_iret 22 C RC dL_setPatience_22 ?_
  exact ⟨rfl, rfl⟩
set_option maxHeartbeats 4000000 in
set_option maxRecDepth 100000 in
theorem ct_L_setPatience_2 (l : Launch) (hfl : l.stackTraces = false) {D : va_G} {cI cJ cQ : ClassId} {x0a a0 a1 a2 a3 a4 a5 a6 a7 tr0 s0 r0 w0 : Nat} {S : StT} {x1 x2 : Int32} (h : inR x1 0 3 = false) {ao : Nat} {fo : Nat → Int64} : LCt l yL_setPatience (Cond.codeWith yL_setPatience cL_setPatience 5 (some .int) [(0, 10, 13, 13), (0, 10, 17, 15)]) 9 165 1 6 D (tyz cI cJ cQ) [.ref x0a, .int x1, .int x2, .ref ao] (flatS [[(x0a, .inr (6, [.ref a0, .ref tr0, .ref s0, .ref r0, .ref w0]))], (wSt a0 a1 a2 a3 a4 a5 a6 a7 cI (S)), [(ao, .inl (cJ, 1, .inr (.inl (fo))))]]) (pstI 1 (flatS [[(x0a, .inr (6, [.ref a0, .ref tr0, .ref s0, .ref r0, .ref w0]))], (wSt a0 a1 a2 a3 a4 a5 a6 a7 cI (S)), [(ao, .inl (cJ, 1, .inr (.inl (fo))))]])) := by
  refine LCt.of RL (by decide) rfl (Nat.le_of_ble_eq_true rfl) ?_
  intro p e s m below meth c A C RC XT hz hC
  refine sw_aload_n 0 3 C dL_setPatience_0 rfl rfl ?_
  refine sw_iconst 1 C dL_setPatience_1 0 (by decide) ?_
  refine sw_aload_n 2 0 C dL_setPatience_2 rfl rfl ?_
  refine sw_iload_n 3 1 C dL_setPatience_3 rfl rfl ?_
  refine sw_iload_n 4 2 C dL_setPatience_4 rfl rfl ?_
  refine xl_catV 5 13 [0, 1] 2 0 "java/lang/IndexOutOfBoundsException" (pre := []) (x := ⟨0, 10, 13, 13⟩) (suf := [⟨0, 10, 17, 15⟩]) C hz XT (fun z hz9 => nomatch hz9) (by decide) (by decide) wC_L_13 (by decide) rfl dL_setPatience_5 (xt_X6_setPatience l hfl h) (fun _ h => h) wK_X6_setPatience wM_L_7 wN_X6_setPatience wS_X6_X6_setPatience wI_X6 hd_X6_setPatience rfl rfl rfl ⟨rfl, rfl⟩ ⟨(Nat.le_of_ble_eq_true rfl), (Nat.le_of_ble_eq_true rfl)⟩ rfl rfl rfl rfl (fun q9 => ?_)
  refine sw_astore 13 C dL_setPatience_13 rfl ?_
  refine sw_iconst 15 C dL_setPatience_15 1 (by decide) ?_
  refine sw_iret 16 C RC dL_setPatience_16 ?_
  exact ⟨rfl, rfl⟩
set_option maxHeartbeats 4000000 in
set_option maxRecDepth 100000 in
theorem ct_L_setPatience_3 (l : Launch) (hfl : l.stackTraces = false) {D : va_G} {cI cJ cQ : ClassId} {x0a a0 a1 a2 a3 a4 a5 a6 a7 tr0 s0 r0 w0 : Nat} {S : StT} {x1 x2 : Int32} (r : Nat) (h1 : x1 = nI r) (hr : r < 4) (h : inR x2 1 50 = false) {ao : Nat} {fo : Nat → Int64} : LCt l yL_setPatience (Cond.codeWith yL_setPatience cL_setPatience 5 (some .int) [(0, 10, 13, 13), (0, 10, 17, 15)]) 9 165 1 6 D (tyz cI cJ cQ) [.ref x0a, .int x1, .int x2, .ref ao] (flatS [[(x0a, .inr (6, [.ref a0, .ref tr0, .ref s0, .ref r0, .ref w0]))], (wSt a0 a1 a2 a3 a4 a5 a6 a7 cI (S)), [(ao, .inl (cJ, 1, .inr (.inl (fo))))]]) (pstI 2 (flatS [[(x0a, .inr (6, [.ref a0, .ref tr0, .ref s0, .ref r0, .ref w0]))], (wSt a0 a1 a2 a3 a4 a5 a6 a7 cI (S)), [(ao, .inl (cJ, 1, .inr (.inl (fo))))]])) := by
  refine LCt.of RL (by decide) rfl (Nat.le_of_ble_eq_true rfl) ?_
  intro p e s m below meth c A C RC XT hz hC
  refine sw_aload_n 0 3 C dL_setPatience_0 rfl rfl ?_
  refine sw_iconst 1 C dL_setPatience_1 0 (by decide) ?_
  refine sw_aload_n 2 0 C dL_setPatience_2 rfl rfl ?_
  refine sw_iload_n 3 1 C dL_setPatience_3 rfl rfl ?_
  refine sw_iload_n 4 2 C dL_setPatience_4 rfl rfl ?_
  refine xl_catV 5 17 [0, 1] 2 0 "java/lang/IllegalArgumentException" (pre := [⟨0, 10, 13, 13⟩]) (x := ⟨0, 10, 17, 15⟩) (suf := []) C hz XT (fun z hz9 => by cases List.mem_singleton.mp hz9; exact Or.inr ⟨by decide, "java/lang/IndexOutOfBoundsException", C.w wC_L_13, hC.1⟩) (by decide) (by decide) wC_L_15 (by decide) rfl dL_setPatience_5 (xt_X6_setPatience_2 l hfl r h1 hr h) (fun _ h => h) wK_X6_setPatience wM_L_7 wN_X6_setPatience wS_X6_X6_setPatience wI_X6 hd_X6_setPatience rfl rfl rfl ⟨rfl, rfl⟩ ⟨(Nat.le_of_ble_eq_true rfl), (Nat.le_of_ble_eq_true rfl)⟩ rfl rfl rfl rfl (fun q9 => ?_)
  refine sw_astore 17 C dL_setPatience_17 rfl ?_
  refine sw_iconst 19 C dL_setPatience_19 2 (by decide) ?_
  refine sw_iret 20 C RC dL_setPatience_20 ?_
  exact ⟨rfl, rfl⟩
set_option maxHeartbeats 4000000 in
set_option maxRecDepth 100000 in
theorem ct_L_setQuota (l : Launch) (hfl : l.stackTraces = false) {D : va_G} {cI cJ cQ : ClassId} {x0a a0 a1 a2 a3 a4 a5 a6 a7 tr0 s0 s1 r0 w0 ra0 ra1 ra2 ra3 ra4 ra5 ra6 ra7 rb0 rb1 rb2 rb3 rb4 rb5 rb6 rb7 rc0 rc1 rc2 rc3 rc4 rc5 rc6 rc7 rd0 rd1 rd2 rd3 rd4 rd5 rd6 rd7 : Nat} {h : Nat → Option Nat} {S : StT} {R : Nat → StT} {cn od : Nat} {x1 : Int32} (hS : SI S) (hcn : cn ≤ 4) (hod : od < 4) (hh0 : h 0 = some ra0) (hh1 : h 1 = some rb0) (hh2 : h 2 = some rc0) (hh3 : h 3 = some rd0) (hx : inR x1 0 10 = true) {ao : Nat} {fo : Nat → Int64} : LCt l yL_setQuota (Cond.codeWith yL_setQuota cL_setQuota 4 (some .int) [(0, 9, 12, 15)]) 9 164 0 0 D (tyz cI cJ cQ) [.ref x0a, .int x1, .ref ao] (flatS [[(x0a, .inr (6, [.ref a0, .ref tr0, .ref s0, .ref r0, .ref w0]))], (wSt a0 a1 a2 a3 a4 a5 a6 a7 cI (S)), [(s0, .inr (3, [.int (nI (cn)), .int (nI (od)), .ref s1])), (s1, .inl (cQ, 4, .inr (.inr (.inr (.inr h)))))], (wSt ra0 ra1 ra2 ra3 ra4 ra5 ra6 ra7 cI ((R) 0)), (wSt rb0 rb1 rb2 rb3 rb4 rb5 rb6 rb7 cI ((R) 1)), (wSt rc0 rc1 rc2 rc3 rc4 rc5 rc6 rc7 cI ((R) 2)), (wSt rd0 rd1 rd2 rd3 rd4 rd5 rd6 rd7 cI ((R) 3)), [(ao, .inl (cJ, 1, .inr (.inl (fo))))]]) (pstI 0 (flatS [[(x0a, .inr (6, [.ref a0, .ref tr0, .ref s0, .ref r0, .ref w0]))], (wSt a0 a1 a2 a3 a4 a5 a6 a7 cI (zq_ S x1)), [(s0, .inr (3, [.int (nI (svC cn)), .int (nI (svO cn od)), .ref s1])), (s1, .inl (cQ, 4, .inr (.inr (.inr (.inr h)))))], (wSt ra0 ra1 ra2 ra3 ra4 ra5 ra6 ra7 cI ((va_up R (svI cn od) S) 0)), (wSt rb0 rb1 rb2 rb3 rb4 rb5 rb6 rb7 cI ((va_up R (svI cn od) S) 1)), (wSt rc0 rc1 rc2 rc3 rc4 rc5 rc6 rc7 cI ((va_up R (svI cn od) S) 2)), (wSt rd0 rd1 rd2 rd3 rd4 rd5 rd6 rd7 cI ((va_up R (svI cn od) S) 3)), [(ao, .inl (cJ, 1, .inr (.inl (vp_updL fo 0 (zq S).toInt64))))]])) := by
  refine LCt.of RL (by decide) rfl (Nat.le_of_ble_eq_true rfl) ?_
  intro p e s m below meth c A C RC XT hz hC
  refine sw_aload_n 0 2 C dL_setQuota_0 rfl rfl ?_
  refine sw_iconst 1 C dL_setQuota_1 0 (by decide) ?_
  refine sw_aload_n 2 0 C dL_setQuota_2 rfl rfl ?_
  refine sw_iload_n 3 1 C dL_setQuota_3 rfl rfl ?_
  refine sg_callVI 4 [0, 1, 2, 3, 4, 5, 6] 1 0 [_, _, _, _, _, _, _] C dL_setQuota_4 (ct_X6_setQuota l hS hcn hod hh0 hh1 hh2 hh3 hx) wK_X6_setQuota wM_L_17 wN_X6_setQuota wS_X6_X6_setQuota wI_X6 hd_X6_setQuota rfl rfl rfl ⟨rfl, rfl⟩ ⟨Nat.le_of_ble_eq_true rfl, Nat.le_of_ble_eq_true rfl⟩ rfl rfl rfl rfl rfl rfl ?_
  refine sg_segs [_, _, _, _, _, _, _, _] rfl ?_
  refine sw_i2l 7 C dL_setQuota_7 ?_
  refine sg_lastN 8 7 0 1 (0) C dL_setQuota_8 rfl (by decide) rfl rfl rfl rfl ?_
  refine sg_segs [_, _, _, _, _, _, _, [(_, .inl (_, _, .inr (.inl _)))]] rfl ?_
  refine sw_goto 9 15 C dL_setQuota_9 (by decide) ?_
  refine sw_iconst 15 C dL_setQuota_15 0 (by decide) ?_
  refine sw_iret 16 C RC dL_setQuota_16 ?_
  exact ⟨rfl, rfl⟩
set_option maxHeartbeats 4000000 in
set_option maxRecDepth 100000 in
theorem ct_L_setQuota_2 (l : Launch) (hfl : l.stackTraces = false) {D : va_G} {cI cJ cQ : ClassId} {x0a a0 a1 a2 a3 a4 a5 a6 a7 tr0 s0 r0 w0 : Nat} {S : StT} {x1 : Int32} (hx : inR x1 0 10 = false) {ao : Nat} {fo : Nat → Int64} : LCt l yL_setQuota (Cond.codeWith yL_setQuota cL_setQuota 4 (some .int) [(0, 9, 12, 15)]) 9 164 1 6 D (tyz cI cJ cQ) [.ref x0a, .int x1, .ref ao] (flatS [[(x0a, .inr (6, [.ref a0, .ref tr0, .ref s0, .ref r0, .ref w0]))], (wSt a0 a1 a2 a3 a4 a5 a6 a7 cI (S)), [(ao, .inl (cJ, 1, .inr (.inl (fo))))]]) (pstI 1 (flatS [[(x0a, .inr (6, [.ref a0, .ref tr0, .ref s0, .ref r0, .ref w0]))], (wSt a0 a1 a2 a3 a4 a5 a6 a7 cI (S)), [(ao, .inl (cJ, 1, .inr (.inl (fo))))]])) := by
  refine LCt.of RL (by decide) rfl (Nat.le_of_ble_eq_true rfl) ?_
  intro p e s m below meth c A C RC XT hz hC
  refine sw_aload_n 0 2 C dL_setQuota_0 rfl rfl ?_
  refine sw_iconst 1 C dL_setQuota_1 0 (by decide) ?_
  refine sw_aload_n 2 0 C dL_setQuota_2 rfl rfl ?_
  refine sw_iload_n 3 1 C dL_setQuota_3 rfl rfl ?_
  refine xl_catV 4 12 [0, 1] 1 0 "java/lang/IllegalArgumentException" (pre := []) (x := ⟨0, 9, 12, 15⟩) (suf := []) C hz XT (fun z hz9 => nomatch hz9) (by decide) (by decide) wC_L_15 (by decide) rfl dL_setQuota_4 (xt_X6_setQuota l hfl hx) (fun _ h => h) wK_X6_setQuota wM_L_17 wN_X6_setQuota wS_X6_X6_setQuota wI_X6 hd_X6_setQuota rfl rfl rfl ⟨rfl, rfl⟩ ⟨(Nat.le_of_ble_eq_true rfl), (Nat.le_of_ble_eq_true rfl)⟩ rfl rfl rfl rfl (fun q9 => ?_)
  refine sw_astore_n 12 3 C dL_setQuota_12 rfl rfl ?_
  refine sw_iconst 13 C dL_setQuota_13 1 (by decide) ?_
  refine sw_iret 14 C RC dL_setQuota_14 ?_
  exact ⟨rfl, rfl⟩
set_option maxHeartbeats 4000000 in
set_option maxRecDepth 100000 in
theorem ct_L_setGrace (l : Launch) (hfl : l.stackTraces = false) {D : va_G} {cI cJ cQ : ClassId} {x0a a0 a1 a2 a3 a4 a5 a6 a7 tr0 s0 s1 r0 w0 ra0 ra1 ra2 ra3 ra4 ra5 ra6 ra7 rb0 rb1 rb2 rb3 rb4 rb5 rb6 rb7 rc0 rc1 rc2 rc3 rc4 rc5 rc6 rc7 rd0 rd1 rd2 rd3 rd4 rd5 rd6 rd7 : Nat} {h : Nat → Option Nat} {S : StT} {R : Nat → StT} {cn od : Nat} {x1 : Int32} (hS : SI S) (hcn : cn ≤ 4) (hod : od < 4) (hh0 : h 0 = some ra0) (hh1 : h 1 = some rb0) (hh2 : h 2 = some rc0) (hh3 : h 3 = some rd0) (hx : inR x1 0 200 = true) {ao : Nat} {fo : Nat → Int64} : LCt l yL_setGrace (Cond.codeWith yL_setGrace cL_setGrace 4 (some .int) [(0, 9, 12, 15)]) 9 164 0 0 D (tyz cI cJ cQ) [.ref x0a, .int x1, .ref ao] (flatS [[(x0a, .inr (6, [.ref a0, .ref tr0, .ref s0, .ref r0, .ref w0]))], (wSt a0 a1 a2 a3 a4 a5 a6 a7 cI (S)), [(s0, .inr (3, [.int (nI (cn)), .int (nI (od)), .ref s1])), (s1, .inl (cQ, 4, .inr (.inr (.inr (.inr h)))))], (wSt ra0 ra1 ra2 ra3 ra4 ra5 ra6 ra7 cI ((R) 0)), (wSt rb0 rb1 rb2 rb3 rb4 rb5 rb6 rb7 cI ((R) 1)), (wSt rc0 rc1 rc2 rc3 rc4 rc5 rc6 rc7 cI ((R) 2)), (wSt rd0 rd1 rd2 rd3 rd4 rd5 rd6 rd7 cI ((R) 3)), [(ao, .inl (cJ, 1, .inr (.inl (fo))))]]) (pstI 0 (flatS [[(x0a, .inr (6, [.ref a0, .ref tr0, .ref s0, .ref r0, .ref w0]))], (wSt a0 a1 a2 a3 a4 a5 a6 a7 cI (zg_ S x1)), [(s0, .inr (3, [.int (nI (svC cn)), .int (nI (svO cn od)), .ref s1])), (s1, .inl (cQ, 4, .inr (.inr (.inr (.inr h)))))], (wSt ra0 ra1 ra2 ra3 ra4 ra5 ra6 ra7 cI ((va_up R (svI cn od) S) 0)), (wSt rb0 rb1 rb2 rb3 rb4 rb5 rb6 rb7 cI ((va_up R (svI cn od) S) 1)), (wSt rc0 rc1 rc2 rc3 rc4 rc5 rc6 rc7 cI ((va_up R (svI cn od) S) 2)), (wSt rd0 rd1 rd2 rd3 rd4 rd5 rd6 rd7 cI ((va_up R (svI cn od) S) 3)), [(ao, .inl (cJ, 1, .inr (.inl (vp_updL fo 0 (zg S).toInt64))))]])) := by
  refine LCt.of RL (by decide) rfl (Nat.le_of_ble_eq_true rfl) ?_
  intro p e s m below meth c A C RC XT hz hC
  refine sw_aload_n 0 2 C dL_setGrace_0 rfl rfl ?_
  refine sw_iconst 1 C dL_setGrace_1 0 (by decide) ?_
  refine sw_aload_n 2 0 C dL_setGrace_2 rfl rfl ?_
  refine sw_iload_n 3 1 C dL_setGrace_3 rfl rfl ?_
  refine sg_callVI 4 [0, 1, 2, 3, 4, 5, 6] 1 0 [_, _, _, _, _, _, _] C dL_setGrace_4 (ct_X6_setGrace l hS hcn hod hh0 hh1 hh2 hh3 hx) wK_X6_setGrace wM_L_21 wN_X6_setGrace wS_X6_X6_setGrace wI_X6 hd_X6_setGrace rfl rfl rfl ⟨rfl, rfl⟩ ⟨Nat.le_of_ble_eq_true rfl, Nat.le_of_ble_eq_true rfl⟩ rfl rfl rfl rfl rfl rfl ?_
  refine sg_segs [_, _, _, _, _, _, _, _] rfl ?_
  refine sw_i2l 7 C dL_setGrace_7 ?_
  refine sg_lastN 8 7 0 1 (0) C dL_setGrace_8 rfl (by decide) rfl rfl rfl rfl ?_
  refine sg_segs [_, _, _, _, _, _, _, [(_, .inl (_, _, .inr (.inl _)))]] rfl ?_
  refine sw_goto 9 15 C dL_setGrace_9 (by decide) ?_
  refine sw_iconst 15 C dL_setGrace_15 0 (by decide) ?_
  refine sw_iret 16 C RC dL_setGrace_16 ?_
  exact ⟨rfl, rfl⟩
set_option maxHeartbeats 4000000 in
set_option maxRecDepth 100000 in
theorem ct_L_setGrace_2 (l : Launch) (hfl : l.stackTraces = false) {D : va_G} {cI cJ cQ : ClassId} {x0a a0 a1 a2 a3 a4 a5 a6 a7 tr0 s0 r0 w0 : Nat} {S : StT} {x1 : Int32} (hx : inR x1 0 200 = false) {ao : Nat} {fo : Nat → Int64} : LCt l yL_setGrace (Cond.codeWith yL_setGrace cL_setGrace 4 (some .int) [(0, 9, 12, 15)]) 9 164 1 6 D (tyz cI cJ cQ) [.ref x0a, .int x1, .ref ao] (flatS [[(x0a, .inr (6, [.ref a0, .ref tr0, .ref s0, .ref r0, .ref w0]))], (wSt a0 a1 a2 a3 a4 a5 a6 a7 cI (S)), [(ao, .inl (cJ, 1, .inr (.inl (fo))))]]) (pstI 1 (flatS [[(x0a, .inr (6, [.ref a0, .ref tr0, .ref s0, .ref r0, .ref w0]))], (wSt a0 a1 a2 a3 a4 a5 a6 a7 cI (S)), [(ao, .inl (cJ, 1, .inr (.inl (fo))))]])) := by
  refine LCt.of RL (by decide) rfl (Nat.le_of_ble_eq_true rfl) ?_
  intro p e s m below meth c A C RC XT hz hC
  refine sw_aload_n 0 2 C dL_setGrace_0 rfl rfl ?_
  refine sw_iconst 1 C dL_setGrace_1 0 (by decide) ?_
  refine sw_aload_n 2 0 C dL_setGrace_2 rfl rfl ?_
  refine sw_iload_n 3 1 C dL_setGrace_3 rfl rfl ?_
  refine xl_catV 4 12 [0, 1] 1 0 "java/lang/IllegalArgumentException" (pre := []) (x := ⟨0, 9, 12, 15⟩) (suf := []) C hz XT (fun z hz9 => nomatch hz9) (by decide) (by decide) wC_L_15 (by decide) rfl dL_setGrace_4 (xt_X6_setGrace l hfl hx) (fun _ h => h) wK_X6_setGrace wM_L_21 wN_X6_setGrace wS_X6_X6_setGrace wI_X6 hd_X6_setGrace rfl rfl rfl ⟨rfl, rfl⟩ ⟨(Nat.le_of_ble_eq_true rfl), (Nat.le_of_ble_eq_true rfl)⟩ rfl rfl rfl rfl (fun q9 => ?_)
  refine sw_astore_n 12 3 C dL_setGrace_12 rfl rfl ?_
  refine sw_iconst 13 C dL_setGrace_13 1 (by decide) ?_
  refine sw_iret 14 C RC dL_setGrace_14 ?_
  exact ⟨rfl, rfl⟩
set_option maxHeartbeats 4000000 in
set_option maxRecDepth 100000 in
theorem ct_L_send (l : Launch) (hfl : l.stackTraces = false) {D : va_G} {cI cJ cQ : ClassId} {x0a a0 a1 a2 a3 a4 a5 a6 a7 tr0 s0 s1 r0 w0 ra0 ra1 ra2 ra3 ra4 ra5 ra6 ra7 rb0 rb1 rb2 rb3 rb4 rb5 rb6 rb7 rc0 rc1 rc2 rc3 rc4 rc5 rc6 rc7 rd0 rd1 rd2 rd3 rd4 rd5 rd6 rd7 : Nat} {h : Nat → Option Nat} {S : StT} {R : Nat → StT} {cn od : Nat} {x1 x2 x3 : Int32} (hS : SI S) (hcn : cn ≤ 4) (hod : od < 4) (hh0 : h 0 = some ra0) (hh1 : h 1 = some rb0) (hh2 : h 2 = some rc0) (hh3 : h 3 = some rd0) (ho : okSn x1 x2 x3 = true) (hm : hrf (zf S) (zn S) (zq S) x1 (-1) = true) {ao : Nat} {fo : Nat → Int64} : LCt l yL_send (Cond.codeWith yL_send cL_send 6 (some .int) [(0, 12, 15, 15), (0, 12, 19, 28)]) 10 187 0 0 D (tyz cI cJ cQ) [.ref x0a, .int x1, .int x2, .int x3, .ref ao] (flatS [[(x0a, .inr (6, [.ref a0, .ref tr0, .ref s0, .ref r0, .ref w0]))], (wSt a0 a1 a2 a3 a4 a5 a6 a7 cI (S)), [(s0, .inr (3, [.int (nI (cn)), .int (nI (od)), .ref s1])), (s1, .inl (cQ, 4, .inr (.inr (.inr (.inr h)))))], (wSt ra0 ra1 ra2 ra3 ra4 ra5 ra6 ra7 cI ((R) 0)), (wSt rb0 rb1 rb2 rb3 rb4 rb5 rb6 rb7 cI ((R) 1)), (wSt rc0 rc1 rc2 rc3 rc4 rc5 rc6 rc7 cI ((R) 2)), (wSt rd0 rd1 rd2 rd3 rd4 rd5 rd6 rd7 cI ((R) 3)), [(ao, .inl (cJ, 1, .inr (.inl (fo))))]]) (pstI 0 (flatS [[(x0a, .inr (6, [.ref a0, .ref tr0, .ref s0, .ref r0, .ref w0]))], (wSt a0 a1 a2 a3 a4 a5 a6 a7 cI (pinS S x1 (-1) x2 x3 0)), [(s0, .inr (3, [.int (nI (svC cn)), .int (nI (svO cn od)), .ref s1])), (s1, .inl (cQ, 4, .inr (.inr (.inr (.inr h)))))], (wSt ra0 ra1 ra2 ra3 ra4 ra5 ra6 ra7 cI ((va_up R (svI cn od) S) 0)), (wSt rb0 rb1 rb2 rb3 rb4 rb5 rb6 rb7 cI ((va_up R (svI cn od) S) 1)), (wSt rc0 rc1 rc2 rc3 rc4 rc5 rc6 rc7 cI ((va_up R (svI cn od) S) 2)), (wSt rd0 rd1 rd2 rd3 rd4 rd5 rd6 rd7 cI ((va_up R (svI cn od) S) 3)), [(ao, .inl (cJ, 1, .inr (.inl (vp_updL fo 0 (zp S).toInt64))))]])) := by
  refine LCt.of RL (by decide) rfl (Nat.le_of_ble_eq_true rfl) ?_
  intro p e s m below meth c A C RC XT hz hC
  refine sw_aload 0 C dL_send_0 rfl ?_
  refine sw_iconst 2 C dL_send_2 0 (by decide) ?_
  refine sw_aload_n 3 0 C dL_send_3 rfl rfl ?_
  refine sw_iload_n 4 1 C dL_send_4 rfl rfl ?_
  refine sw_iload_n 5 2 C dL_send_5 rfl rfl ?_
  refine sw_iload_n 6 3 C dL_send_6 rfl rfl ?_
  refine sg_callVI 7 [0, 1, 2, 3, 4, 5, 6] 3 0 [_, _, _, _, _, _, _] C dL_send_7 (ct_X6_send l hS hcn hod hh0 hh1 hh2 hh3 ho hm) wK_X6_send wM_L_24 wN_X6_send wS_X6_X6_send wI_X6 hd_X6_send rfl rfl rfl ⟨rfl, rfl⟩ ⟨Nat.le_of_ble_eq_true rfl, Nat.le_of_ble_eq_true rfl⟩ rfl rfl rfl rfl rfl rfl ?_
  refine sg_segs [_, _, _, _, _, _, _, _] rfl ?_
  refine sw_i2l 10 C dL_send_10 ?_
  refine sg_lastN 11 7 0 1 (0) C dL_send_11 rfl (by decide) rfl rfl rfl rfl ?_
  refine sg_segs [_, _, _, _, _, _, _, [(_, .inl (_, _, .inr (.inl _)))]] rfl ?_
  refine sw_goto 12 23 C dL_send_12 (by decide) ?_
  refine sw_iconst 23 C dL_send_23 0 (by decide) ?_
  refine sw_iret 24 C RC dL_send_24 ?_
  exact ⟨rfl, rfl⟩
set_option maxHeartbeats 4000000 in
set_option maxRecDepth 100000 in
theorem ct_L_send_2 (l : Launch) (hfl : l.stackTraces = false) {D : va_G} {cI cJ cQ : ClassId} {x0a a0 a1 a2 a3 a4 a5 a6 a7 tr0 s0 r0 w0 : Nat} {S : StT} {x1 x2 x3 : Int32} (ho : okSn x1 x2 x3 = false) {ao : Nat} {fo : Nat → Int64} : LCt l yL_send (Cond.codeWith yL_send cL_send 6 (some .int) [(0, 12, 15, 15), (0, 12, 19, 28)]) 10 187 1 6 D (tyz cI cJ cQ) [.ref x0a, .int x1, .int x2, .int x3, .ref ao] (flatS [[(x0a, .inr (6, [.ref a0, .ref tr0, .ref s0, .ref r0, .ref w0]))], (wSt a0 a1 a2 a3 a4 a5 a6 a7 cI (S)), [(ao, .inl (cJ, 1, .inr (.inl (fo))))]]) (pstI 1 (flatS [[(x0a, .inr (6, [.ref a0, .ref tr0, .ref s0, .ref r0, .ref w0]))], (wSt a0 a1 a2 a3 a4 a5 a6 a7 cI (S)), [(ao, .inl (cJ, 1, .inr (.inl (fo))))]])) := by
  refine LCt.of RL (by decide) rfl (Nat.le_of_ble_eq_true rfl) ?_
  intro p e s m below meth c A C RC XT hz hC
  refine sw_aload 0 C dL_send_0 rfl ?_
  refine sw_iconst 2 C dL_send_2 0 (by decide) ?_
  refine sw_aload_n 3 0 C dL_send_3 rfl rfl ?_
  refine sw_iload_n 4 1 C dL_send_4 rfl rfl ?_
  refine sw_iload_n 5 2 C dL_send_5 rfl rfl ?_
  refine sw_iload_n 6 3 C dL_send_6 rfl rfl ?_
  refine xl_catV 7 15 [0, 1] 3 0 "java/lang/IllegalArgumentException" (pre := []) (x := ⟨0, 12, 15, 15⟩) (suf := [⟨0, 12, 19, 28⟩]) C hz XT (fun z hz9 => nomatch hz9) (by decide) (by decide) wC_L_15 (by decide) rfl dL_send_7 (xt_X6_send l hfl ho) (fun _ h => h) wK_X6_send wM_L_24 wN_X6_send wS_X6_X6_send wI_X6 hd_X6_send rfl rfl rfl ⟨rfl, rfl⟩ ⟨(Nat.le_of_ble_eq_true rfl), (Nat.le_of_ble_eq_true rfl)⟩ rfl rfl rfl rfl (fun q9 => ?_)
  refine sw_astore 15 C dL_send_15 rfl ?_
  refine sw_iconst 17 C dL_send_17 1 (by decide) ?_
  refine sw_iret 18 C RC dL_send_18 ?_
  exact ⟨rfl, rfl⟩
set_option maxHeartbeats 4000000 in
set_option maxRecDepth 100000 in
theorem ct_L_send_3 (l : Launch) (hfl : l.stackTraces = false) {D : va_G} {cI cJ cQ : ClassId} {x0a a0 a1 a2 a3 a4 a5 a6 a7 tr0 s0 r0 w0 : Nat} {S : StT} {x1 x2 x3 : Int32} (hS : SI S) (ho : okSn x1 x2 x3 = true) (hm : hrf (zf S) (zn S) (zq S) x1 (-1) = false) {ao : Nat} {fo : Nat → Int64} : LCt l yL_send (Cond.codeWith yL_send cL_send 6 (some .int) [(0, 12, 15, 15), (0, 12, 19, 28)]) 10 187 1 6 D (tyz cI cJ cQ) [.ref x0a, .int x1, .int x2, .int x3, .ref ao] (flatS [[(x0a, .inr (6, [.ref a0, .ref tr0, .ref s0, .ref r0, .ref w0]))], (wSt a0 a1 a2 a3 a4 a5 a6 a7 cI (S)), [(ao, .inl (cJ, 1, .inr (.inl (fo))))]]) (pstI 2 (flatS [[(x0a, .inr (6, [.ref a0, .ref tr0, .ref s0, .ref r0, .ref w0]))], (wSt a0 a1 a2 a3 a4 a5 a6 a7 cI (S)), [(ao, .inl (cJ, 1, .inr (.inl (fo))))]])) := by
  refine LCt.of RL (by decide) rfl (Nat.le_of_ble_eq_true rfl) ?_
  intro p e s m below meth c A C RC XT hz hC
  refine sw_aload 0 C dL_send_0 rfl ?_
  refine sw_iconst 2 C dL_send_2 0 (by decide) ?_
  refine sw_aload_n 3 0 C dL_send_3 rfl rfl ?_
  refine sw_iload_n 4 1 C dL_send_4 rfl rfl ?_
  refine sw_iload_n 5 2 C dL_send_5 rfl rfl ?_
  refine sw_iload_n 6 3 C dL_send_6 rfl rfl ?_
  refine xl_catV 7 19 [0, 1] 3 0 "java/lang/IllegalStateException" (pre := [⟨0, 12, 15, 15⟩]) (x := ⟨0, 12, 19, 28⟩) (suf := []) C hz XT (fun z hz9 => by cases List.mem_singleton.mp hz9; exact Or.inr ⟨by decide, "java/lang/IllegalArgumentException", C.w wC_L_15, hC.2⟩) (by decide) (by decide) wC_L_28 (by decide) rfl dL_send_7 (xt_X6_send_2 l hfl hS ho hm) (fun _ h => h) wK_X6_send wM_L_24 wN_X6_send wS_X6_X6_send wI_X6 hd_X6_send rfl rfl rfl ⟨rfl, rfl⟩ ⟨(Nat.le_of_ble_eq_true rfl), (Nat.le_of_ble_eq_true rfl)⟩ rfl rfl rfl rfl (fun q9 => ?_)
  refine sw_astore 19 C dL_send_19 rfl ?_
  refine sw_iconst 21 C dL_send_21 2 (by decide) ?_
  refine sw_iret 22 C RC dL_send_22 ?_
  exact ⟨rfl, rfl⟩
set_option maxHeartbeats 4000000 in
set_option maxRecDepth 100000 in
theorem ct_L_sendBribed (l : Launch) (hfl : l.stackTraces = false) {D : va_G} {cI cJ cQ : ClassId} {x0a a0 a1 a2 a3 a4 a5 a6 a7 tr0 s0 s1 r0 w0 ra0 ra1 ra2 ra3 ra4 ra5 ra6 ra7 rb0 rb1 rb2 rb3 rb4 rb5 rb6 rb7 rc0 rc1 rc2 rc3 rc4 rc5 rc6 rc7 rd0 rd1 rd2 rd3 rd4 rd5 rd6 rd7 : Nat} {h : Nat → Option Nat} {S : StT} {R : Nat → StT} {cn od : Nat} {x1 x2 x3 x4 : Int32} (hS : SI S) (hcn : cn ≤ 4) (hod : od < 4) (hh0 : h 0 = some ra0) (hh1 : h 1 = some rb0) (hh2 : h 2 = some rc0) (hh3 : h 3 = some rd0) (ho : okSn x1 x2 x3 = true) (hb : inR x4 1 100 = true) (hm : hrf (zf S) (zn S) (zq S) x1 (-1) = true) {ao : Nat} {fo : Nat → Int64} : LCt l yL_sendBribed (Cond.codeWith yL_sendBribed cL_sendBribed 7 (some .int) [(0, 14, 17, 15), (0, 14, 21, 28)]) 10 188 0 0 D (tyz cI cJ cQ) [.ref x0a, .int x1, .int x2, .int x3, .int x4, .ref ao] (flatS [[(x0a, .inr (6, [.ref a0, .ref tr0, .ref s0, .ref r0, .ref w0]))], (wSt a0 a1 a2 a3 a4 a5 a6 a7 cI (S)), [(s0, .inr (3, [.int (nI (cn)), .int (nI (od)), .ref s1])), (s1, .inl (cQ, 4, .inr (.inr (.inr (.inr h)))))], (wSt ra0 ra1 ra2 ra3 ra4 ra5 ra6 ra7 cI ((R) 0)), (wSt rb0 rb1 rb2 rb3 rb4 rb5 rb6 rb7 cI ((R) 1)), (wSt rc0 rc1 rc2 rc3 rc4 rc5 rc6 rc7 cI ((R) 2)), (wSt rd0 rd1 rd2 rd3 rd4 rd5 rd6 rd7 cI ((R) 3)), [(ao, .inl (cJ, 1, .inr (.inl (fo))))]]) (pstI 0 (flatS [[(x0a, .inr (6, [.ref a0, .ref tr0, .ref s0, .ref r0, .ref w0]))], (wSt a0 a1 a2 a3 a4 a5 a6 a7 cI (pinS S x1 (-1) x2 x3 x4)), [(s0, .inr (3, [.int (nI (svC cn)), .int (nI (svO cn od)), .ref s1])), (s1, .inl (cQ, 4, .inr (.inr (.inr (.inr h)))))], (wSt ra0 ra1 ra2 ra3 ra4 ra5 ra6 ra7 cI ((va_up R (svI cn od) S) 0)), (wSt rb0 rb1 rb2 rb3 rb4 rb5 rb6 rb7 cI ((va_up R (svI cn od) S) 1)), (wSt rc0 rc1 rc2 rc3 rc4 rc5 rc6 rc7 cI ((va_up R (svI cn od) S) 2)), (wSt rd0 rd1 rd2 rd3 rd4 rd5 rd6 rd7 cI ((va_up R (svI cn od) S) 3)), [(ao, .inl (cJ, 1, .inr (.inl (vp_updL fo 0 (zp S).toInt64))))]])) := by
  refine LCt.of RL (by decide) rfl (Nat.le_of_ble_eq_true rfl) ?_
  intro p e s m below meth c A C RC XT hz hC
  refine sw_aload 0 C dL_sendBribed_0 rfl ?_
  refine sw_iconst 2 C dL_sendBribed_2 0 (by decide) ?_
  refine sw_aload_n 3 0 C dL_sendBribed_3 rfl rfl ?_
  refine sw_iload_n 4 1 C dL_sendBribed_4 rfl rfl ?_
  refine sw_iload_n 5 2 C dL_sendBribed_5 rfl rfl ?_
  refine sw_iload_n 6 3 C dL_sendBribed_6 rfl rfl ?_
  refine sw_iload 7 C dL_sendBribed_7 rfl ?_
  refine sg_callVI 9 [0, 1, 2, 3, 4, 5, 6] 4 0 [_, _, _, _, _, _, _] C dL_sendBribed_9 (ct_X6_sendBribed l hS hcn hod hh0 hh1 hh2 hh3 ho hb hm) wK_X6_sendBribed wM_L_30 wN_X6_sendBribed wS_X6_X6_sendBribed wI_X6 hd_X6_sendBribed rfl rfl rfl ⟨rfl, rfl⟩ ⟨Nat.le_of_ble_eq_true rfl, Nat.le_of_ble_eq_true rfl⟩ rfl rfl rfl rfl rfl rfl ?_
  refine sg_segs [_, _, _, _, _, _, _, _] rfl ?_
  refine sw_i2l 12 C dL_sendBribed_12 ?_
  refine sg_lastN 13 7 0 1 (0) C dL_sendBribed_13 rfl (by decide) rfl rfl rfl rfl ?_
  refine sg_segs [_, _, _, _, _, _, _, [(_, .inl (_, _, .inr (.inl _)))]] rfl ?_
  refine sw_goto 14 25 C dL_sendBribed_14 (by decide) ?_
  refine sw_iconst 25 C dL_sendBribed_25 0 (by decide) ?_
  refine sw_iret 26 C RC dL_sendBribed_26 ?_
  exact ⟨rfl, rfl⟩
set_option maxHeartbeats 4000000 in
set_option maxRecDepth 100000 in
theorem ct_L_sendBribed_2 (l : Launch) (hfl : l.stackTraces = false) {D : va_G} {cI cJ cQ : ClassId} {x0a a0 a1 a2 a3 a4 a5 a6 a7 tr0 s0 r0 w0 : Nat} {S : StT} {x1 x2 x3 x4 : Int32} (ho : okSn x1 x2 x3 = false) {ao : Nat} {fo : Nat → Int64} : LCt l yL_sendBribed (Cond.codeWith yL_sendBribed cL_sendBribed 7 (some .int) [(0, 14, 17, 15), (0, 14, 21, 28)]) 10 188 1 6 D (tyz cI cJ cQ) [.ref x0a, .int x1, .int x2, .int x3, .int x4, .ref ao] (flatS [[(x0a, .inr (6, [.ref a0, .ref tr0, .ref s0, .ref r0, .ref w0]))], (wSt a0 a1 a2 a3 a4 a5 a6 a7 cI (S)), [(ao, .inl (cJ, 1, .inr (.inl (fo))))]]) (pstI 1 (flatS [[(x0a, .inr (6, [.ref a0, .ref tr0, .ref s0, .ref r0, .ref w0]))], (wSt a0 a1 a2 a3 a4 a5 a6 a7 cI (S)), [(ao, .inl (cJ, 1, .inr (.inl (fo))))]])) := by
  refine LCt.of RL (by decide) rfl (Nat.le_of_ble_eq_true rfl) ?_
  intro p e s m below meth c A C RC XT hz hC
  refine sw_aload 0 C dL_sendBribed_0 rfl ?_
  refine sw_iconst 2 C dL_sendBribed_2 0 (by decide) ?_
  refine sw_aload_n 3 0 C dL_sendBribed_3 rfl rfl ?_
  refine sw_iload_n 4 1 C dL_sendBribed_4 rfl rfl ?_
  refine sw_iload_n 5 2 C dL_sendBribed_5 rfl rfl ?_
  refine sw_iload_n 6 3 C dL_sendBribed_6 rfl rfl ?_
  refine sw_iload 7 C dL_sendBribed_7 rfl ?_
  refine xl_catV 9 17 [0, 1] 4 0 "java/lang/IllegalArgumentException" (pre := []) (x := ⟨0, 14, 17, 15⟩) (suf := [⟨0, 14, 21, 28⟩]) C hz XT (fun z hz9 => nomatch hz9) (by decide) (by decide) wC_L_15 (by decide) rfl dL_sendBribed_9 (xt_X6_sendBribed l hfl ho) (fun _ h => h) wK_X6_sendBribed wM_L_30 wN_X6_sendBribed wS_X6_X6_sendBribed wI_X6 hd_X6_sendBribed rfl rfl rfl ⟨rfl, rfl⟩ ⟨(Nat.le_of_ble_eq_true rfl), (Nat.le_of_ble_eq_true rfl)⟩ rfl rfl rfl rfl (fun q9 => ?_)
  refine sw_astore 17 C dL_sendBribed_17 rfl ?_
  refine sw_iconst 19 C dL_sendBribed_19 1 (by decide) ?_
  refine sw_iret 20 C RC dL_sendBribed_20 ?_
  exact ⟨rfl, rfl⟩
set_option maxHeartbeats 4000000 in
set_option maxRecDepth 100000 in
theorem ct_L_sendBribed_3 (l : Launch) (hfl : l.stackTraces = false) {D : va_G} {cI cJ cQ : ClassId} {x0a a0 a1 a2 a3 a4 a5 a6 a7 tr0 s0 r0 w0 : Nat} {S : StT} {x1 x2 x3 x4 : Int32} (ho : okSn x1 x2 x3 = true) (hb : inR x4 1 100 = false) {ao : Nat} {fo : Nat → Int64} : LCt l yL_sendBribed (Cond.codeWith yL_sendBribed cL_sendBribed 7 (some .int) [(0, 14, 17, 15), (0, 14, 21, 28)]) 10 188 1 6 D (tyz cI cJ cQ) [.ref x0a, .int x1, .int x2, .int x3, .int x4, .ref ao] (flatS [[(x0a, .inr (6, [.ref a0, .ref tr0, .ref s0, .ref r0, .ref w0]))], (wSt a0 a1 a2 a3 a4 a5 a6 a7 cI (S)), [(ao, .inl (cJ, 1, .inr (.inl (fo))))]]) (pstI 1 (flatS [[(x0a, .inr (6, [.ref a0, .ref tr0, .ref s0, .ref r0, .ref w0]))], (wSt a0 a1 a2 a3 a4 a5 a6 a7 cI (S)), [(ao, .inl (cJ, 1, .inr (.inl (fo))))]])) := by
  refine LCt.of RL (by decide) rfl (Nat.le_of_ble_eq_true rfl) ?_
  intro p e s m below meth c A C RC XT hz hC
  refine sw_aload 0 C dL_sendBribed_0 rfl ?_
  refine sw_iconst 2 C dL_sendBribed_2 0 (by decide) ?_
  refine sw_aload_n 3 0 C dL_sendBribed_3 rfl rfl ?_
  refine sw_iload_n 4 1 C dL_sendBribed_4 rfl rfl ?_
  refine sw_iload_n 5 2 C dL_sendBribed_5 rfl rfl ?_
  refine sw_iload_n 6 3 C dL_sendBribed_6 rfl rfl ?_
  refine sw_iload 7 C dL_sendBribed_7 rfl ?_
  refine xl_catV 9 17 [0, 1] 4 0 "java/lang/IllegalArgumentException" (pre := []) (x := ⟨0, 14, 17, 15⟩) (suf := [⟨0, 14, 21, 28⟩]) C hz XT (fun z hz9 => nomatch hz9) (by decide) (by decide) wC_L_15 (by decide) rfl dL_sendBribed_9 (xt_X6_sendBribed_2 l hfl ho hb) (fun _ h => h) wK_X6_sendBribed wM_L_30 wN_X6_sendBribed wS_X6_X6_sendBribed wI_X6 hd_X6_sendBribed rfl rfl rfl ⟨rfl, rfl⟩ ⟨(Nat.le_of_ble_eq_true rfl), (Nat.le_of_ble_eq_true rfl)⟩ rfl rfl rfl rfl (fun q9 => ?_)
  refine sw_astore 17 C dL_sendBribed_17 rfl ?_
  refine sw_iconst 19 C dL_sendBribed_19 1 (by decide) ?_
  refine sw_iret 20 C RC dL_sendBribed_20 ?_
  exact ⟨rfl, rfl⟩
set_option maxHeartbeats 4000000 in
set_option maxRecDepth 100000 in
theorem ct_L_sendBribed_4 (l : Launch) (hfl : l.stackTraces = false) {D : va_G} {cI cJ cQ : ClassId} {x0a a0 a1 a2 a3 a4 a5 a6 a7 tr0 s0 r0 w0 : Nat} {S : StT} {x1 x2 x3 x4 : Int32} (hS : SI S) (ho : okSn x1 x2 x3 = true) (hb : inR x4 1 100 = true) (hm : hrf (zf S) (zn S) (zq S) x1 (-1) = false) {ao : Nat} {fo : Nat → Int64} : LCt l yL_sendBribed (Cond.codeWith yL_sendBribed cL_sendBribed 7 (some .int) [(0, 14, 17, 15), (0, 14, 21, 28)]) 10 188 1 6 D (tyz cI cJ cQ) [.ref x0a, .int x1, .int x2, .int x3, .int x4, .ref ao] (flatS [[(x0a, .inr (6, [.ref a0, .ref tr0, .ref s0, .ref r0, .ref w0]))], (wSt a0 a1 a2 a3 a4 a5 a6 a7 cI (S)), [(ao, .inl (cJ, 1, .inr (.inl (fo))))]]) (pstI 2 (flatS [[(x0a, .inr (6, [.ref a0, .ref tr0, .ref s0, .ref r0, .ref w0]))], (wSt a0 a1 a2 a3 a4 a5 a6 a7 cI (S)), [(ao, .inl (cJ, 1, .inr (.inl (fo))))]])) := by
  refine LCt.of RL (by decide) rfl (Nat.le_of_ble_eq_true rfl) ?_
  intro p e s m below meth c A C RC XT hz hC
  refine sw_aload 0 C dL_sendBribed_0 rfl ?_
  refine sw_iconst 2 C dL_sendBribed_2 0 (by decide) ?_
  refine sw_aload_n 3 0 C dL_sendBribed_3 rfl rfl ?_
  refine sw_iload_n 4 1 C dL_sendBribed_4 rfl rfl ?_
  refine sw_iload_n 5 2 C dL_sendBribed_5 rfl rfl ?_
  refine sw_iload_n 6 3 C dL_sendBribed_6 rfl rfl ?_
  refine sw_iload 7 C dL_sendBribed_7 rfl ?_
  refine xl_catV 9 21 [0, 1] 4 0 "java/lang/IllegalStateException" (pre := [⟨0, 14, 17, 15⟩]) (x := ⟨0, 14, 21, 28⟩) (suf := []) C hz XT (fun z hz9 => by cases List.mem_singleton.mp hz9; exact Or.inr ⟨by decide, "java/lang/IllegalArgumentException", C.w wC_L_15, hC.2⟩) (by decide) (by decide) wC_L_28 (by decide) rfl dL_sendBribed_9 (xt_X6_sendBribed_3 l hfl hS ho hb hm) (fun _ h => h) wK_X6_sendBribed wM_L_30 wN_X6_sendBribed wS_X6_X6_sendBribed wI_X6 hd_X6_sendBribed rfl rfl rfl ⟨rfl, rfl⟩ ⟨(Nat.le_of_ble_eq_true rfl), (Nat.le_of_ble_eq_true rfl)⟩ rfl rfl rfl rfl (fun q9 => ?_)
  refine sw_astore 21 C dL_sendBribed_21 rfl ?_
  refine sw_iconst 23 C dL_sendBribed_23 2 (by decide) ?_
  refine sw_iret 24 C RC dL_sendBribed_24 ?_
  exact ⟨rfl, rfl⟩
set_option maxHeartbeats 4000000 in
set_option maxRecDepth 100000 in
theorem ct_L_sendJoint (l : Launch) (hfl : l.stackTraces = false) {D : va_G} {cI cJ cQ : ClassId} {x0a a0 a1 a2 a3 a4 a5 a6 a7 tr0 s0 s1 r0 w0 ra0 ra1 ra2 ra3 ra4 ra5 ra6 ra7 rb0 rb1 rb2 rb3 rb4 rb5 rb6 rb7 rc0 rc1 rc2 rc3 rc4 rc5 rc6 rc7 rd0 rd1 rd2 rd3 rd4 rd5 rd6 rd7 : Nat} {h : Nat → Option Nat} {S : StT} {R : Nat → StT} {cn od : Nat} {x1 x2 x3 x4 : Int32} (hS : SI S) (hcn : cn ≤ 4) (hod : od < 4) (hh0 : h 0 = some ra0) (hh1 : h 1 = some rb0) (hh2 : h 2 = some rc0) (hh3 : h 3 = some rd0) (ho : okSn x1 x3 x4 = true) (hb : inR x2 0 7 = true) (hne : ¬ x2 = x1) (hm : hrf (zf S) (zn S) (zq S) x1 (x2) = true) {ao : Nat} {fo : Nat → Int64} : LCt l yL_sendJoint (Cond.codeWith yL_sendJoint cL_sendJoint 7 (some .int) [(0, 14, 17, 15), (0, 14, 21, 28)]) 10 188 0 0 D (tyz cI cJ cQ) [.ref x0a, .int x1, .int x2, .int x3, .int x4, .ref ao] (flatS [[(x0a, .inr (6, [.ref a0, .ref tr0, .ref s0, .ref r0, .ref w0]))], (wSt a0 a1 a2 a3 a4 a5 a6 a7 cI (S)), [(s0, .inr (3, [.int (nI (cn)), .int (nI (od)), .ref s1])), (s1, .inl (cQ, 4, .inr (.inr (.inr (.inr h)))))], (wSt ra0 ra1 ra2 ra3 ra4 ra5 ra6 ra7 cI ((R) 0)), (wSt rb0 rb1 rb2 rb3 rb4 rb5 rb6 rb7 cI ((R) 1)), (wSt rc0 rc1 rc2 rc3 rc4 rc5 rc6 rc7 cI ((R) 2)), (wSt rd0 rd1 rd2 rd3 rd4 rd5 rd6 rd7 cI ((R) 3)), [(ao, .inl (cJ, 1, .inr (.inl (fo))))]]) (pstI 0 (flatS [[(x0a, .inr (6, [.ref a0, .ref tr0, .ref s0, .ref r0, .ref w0]))], (wSt a0 a1 a2 a3 a4 a5 a6 a7 cI (pinS S x1 x2 x3 x4 0)), [(s0, .inr (3, [.int (nI (svC cn)), .int (nI (svO cn od)), .ref s1])), (s1, .inl (cQ, 4, .inr (.inr (.inr (.inr h)))))], (wSt ra0 ra1 ra2 ra3 ra4 ra5 ra6 ra7 cI ((va_up R (svI cn od) S) 0)), (wSt rb0 rb1 rb2 rb3 rb4 rb5 rb6 rb7 cI ((va_up R (svI cn od) S) 1)), (wSt rc0 rc1 rc2 rc3 rc4 rc5 rc6 rc7 cI ((va_up R (svI cn od) S) 2)), (wSt rd0 rd1 rd2 rd3 rd4 rd5 rd6 rd7 cI ((va_up R (svI cn od) S) 3)), [(ao, .inl (cJ, 1, .inr (.inl (vp_updL fo 0 (zp S).toInt64))))]])) := by
  refine LCt.of RL (by decide) rfl (Nat.le_of_ble_eq_true rfl) ?_
  intro p e s m below meth c A C RC XT hz hC
  refine sw_aload 0 C dL_sendJoint_0 rfl ?_
  refine sw_iconst 2 C dL_sendJoint_2 0 (by decide) ?_
  refine sw_aload_n 3 0 C dL_sendJoint_3 rfl rfl ?_
  refine sw_iload_n 4 1 C dL_sendJoint_4 rfl rfl ?_
  refine sw_iload_n 5 2 C dL_sendJoint_5 rfl rfl ?_
  refine sw_iload_n 6 3 C dL_sendJoint_6 rfl rfl ?_
  refine sw_iload 7 C dL_sendJoint_7 rfl ?_
  refine sg_callVI 9 [0, 1, 2, 3, 4, 5, 6] 4 0 [_, _, _, _, _, _, _] C dL_sendJoint_9 (ct_X6_sendJoint l hS hcn hod hh0 hh1 hh2 hh3 ho hb hne hm) wK_X6_sendJoint wM_L_34 wN_X6_sendJoint wS_X6_X6_sendJoint wI_X6 hd_X6_sendJoint rfl rfl rfl ⟨rfl, rfl⟩ ⟨Nat.le_of_ble_eq_true rfl, Nat.le_of_ble_eq_true rfl⟩ rfl rfl rfl rfl rfl rfl ?_
  refine sg_segs [_, _, _, _, _, _, _, _] rfl ?_
  refine sw_i2l 12 C dL_sendJoint_12 ?_
  refine sg_lastN 13 7 0 1 (0) C dL_sendJoint_13 rfl (by decide) rfl rfl rfl rfl ?_
  refine sg_segs [_, _, _, _, _, _, _, [(_, .inl (_, _, .inr (.inl _)))]] rfl ?_
  refine sw_goto 14 25 C dL_sendJoint_14 (by decide) ?_
  refine sw_iconst 25 C dL_sendJoint_25 0 (by decide) ?_
  refine sw_iret 26 C RC dL_sendJoint_26 ?_
  exact ⟨rfl, rfl⟩
set_option maxHeartbeats 4000000 in
set_option maxRecDepth 100000 in
theorem ct_L_sendJoint_2 (l : Launch) (hfl : l.stackTraces = false) {D : va_G} {cI cJ cQ : ClassId} {x0a a0 a1 a2 a3 a4 a5 a6 a7 tr0 s0 r0 w0 : Nat} {S : StT} {x1 x2 x3 x4 : Int32} (ho : okSn x1 x3 x4 = false) {ao : Nat} {fo : Nat → Int64} : LCt l yL_sendJoint (Cond.codeWith yL_sendJoint cL_sendJoint 7 (some .int) [(0, 14, 17, 15), (0, 14, 21, 28)]) 10 188 1 6 D (tyz cI cJ cQ) [.ref x0a, .int x1, .int x2, .int x3, .int x4, .ref ao] (flatS [[(x0a, .inr (6, [.ref a0, .ref tr0, .ref s0, .ref r0, .ref w0]))], (wSt a0 a1 a2 a3 a4 a5 a6 a7 cI (S)), [(ao, .inl (cJ, 1, .inr (.inl (fo))))]]) (pstI 1 (flatS [[(x0a, .inr (6, [.ref a0, .ref tr0, .ref s0, .ref r0, .ref w0]))], (wSt a0 a1 a2 a3 a4 a5 a6 a7 cI (S)), [(ao, .inl (cJ, 1, .inr (.inl (fo))))]])) := by
  refine LCt.of RL (by decide) rfl (Nat.le_of_ble_eq_true rfl) ?_
  intro p e s m below meth c A C RC XT hz hC
  refine sw_aload 0 C dL_sendJoint_0 rfl ?_
  refine sw_iconst 2 C dL_sendJoint_2 0 (by decide) ?_
  refine sw_aload_n 3 0 C dL_sendJoint_3 rfl rfl ?_
  refine sw_iload_n 4 1 C dL_sendJoint_4 rfl rfl ?_
  refine sw_iload_n 5 2 C dL_sendJoint_5 rfl rfl ?_
  refine sw_iload_n 6 3 C dL_sendJoint_6 rfl rfl ?_
  refine sw_iload 7 C dL_sendJoint_7 rfl ?_
  refine xl_catV 9 17 [0, 1] 4 0 "java/lang/IllegalArgumentException" (pre := []) (x := ⟨0, 14, 17, 15⟩) (suf := [⟨0, 14, 21, 28⟩]) C hz XT (fun z hz9 => nomatch hz9) (by decide) (by decide) wC_L_15 (by decide) rfl dL_sendJoint_9 (xt_X6_sendJoint l hfl ho) (fun _ h => h) wK_X6_sendJoint wM_L_34 wN_X6_sendJoint wS_X6_X6_sendJoint wI_X6 hd_X6_sendJoint rfl rfl rfl ⟨rfl, rfl⟩ ⟨(Nat.le_of_ble_eq_true rfl), (Nat.le_of_ble_eq_true rfl)⟩ rfl rfl rfl rfl (fun q9 => ?_)
  refine sw_astore 17 C dL_sendJoint_17 rfl ?_
  refine sw_iconst 19 C dL_sendJoint_19 1 (by decide) ?_
  refine sw_iret 20 C RC dL_sendJoint_20 ?_
  exact ⟨rfl, rfl⟩
set_option maxHeartbeats 4000000 in
set_option maxRecDepth 100000 in
theorem ct_L_sendJoint_3 (l : Launch) (hfl : l.stackTraces = false) {D : va_G} {cI cJ cQ : ClassId} {x0a a0 a1 a2 a3 a4 a5 a6 a7 tr0 s0 r0 w0 : Nat} {S : StT} {x1 x2 x3 x4 : Int32} (ho : okSn x1 x3 x4 = true) (hb : inR x2 0 7 = false) {ao : Nat} {fo : Nat → Int64} : LCt l yL_sendJoint (Cond.codeWith yL_sendJoint cL_sendJoint 7 (some .int) [(0, 14, 17, 15), (0, 14, 21, 28)]) 10 188 1 6 D (tyz cI cJ cQ) [.ref x0a, .int x1, .int x2, .int x3, .int x4, .ref ao] (flatS [[(x0a, .inr (6, [.ref a0, .ref tr0, .ref s0, .ref r0, .ref w0]))], (wSt a0 a1 a2 a3 a4 a5 a6 a7 cI (S)), [(ao, .inl (cJ, 1, .inr (.inl (fo))))]]) (pstI 1 (flatS [[(x0a, .inr (6, [.ref a0, .ref tr0, .ref s0, .ref r0, .ref w0]))], (wSt a0 a1 a2 a3 a4 a5 a6 a7 cI (S)), [(ao, .inl (cJ, 1, .inr (.inl (fo))))]])) := by
  refine LCt.of RL (by decide) rfl (Nat.le_of_ble_eq_true rfl) ?_
  intro p e s m below meth c A C RC XT hz hC
  refine sw_aload 0 C dL_sendJoint_0 rfl ?_
  refine sw_iconst 2 C dL_sendJoint_2 0 (by decide) ?_
  refine sw_aload_n 3 0 C dL_sendJoint_3 rfl rfl ?_
  refine sw_iload_n 4 1 C dL_sendJoint_4 rfl rfl ?_
  refine sw_iload_n 5 2 C dL_sendJoint_5 rfl rfl ?_
  refine sw_iload_n 6 3 C dL_sendJoint_6 rfl rfl ?_
  refine sw_iload 7 C dL_sendJoint_7 rfl ?_
  refine xl_catV 9 17 [0, 1] 4 0 "java/lang/IllegalArgumentException" (pre := []) (x := ⟨0, 14, 17, 15⟩) (suf := [⟨0, 14, 21, 28⟩]) C hz XT (fun z hz9 => nomatch hz9) (by decide) (by decide) wC_L_15 (by decide) rfl dL_sendJoint_9 (xt_X6_sendJoint_2 l hfl ho hb) (fun _ h => h) wK_X6_sendJoint wM_L_34 wN_X6_sendJoint wS_X6_X6_sendJoint wI_X6 hd_X6_sendJoint rfl rfl rfl ⟨rfl, rfl⟩ ⟨(Nat.le_of_ble_eq_true rfl), (Nat.le_of_ble_eq_true rfl)⟩ rfl rfl rfl rfl (fun q9 => ?_)
  refine sw_astore 17 C dL_sendJoint_17 rfl ?_
  refine sw_iconst 19 C dL_sendJoint_19 1 (by decide) ?_
  refine sw_iret 20 C RC dL_sendJoint_20 ?_
  exact ⟨rfl, rfl⟩
set_option maxHeartbeats 4000000 in
set_option maxRecDepth 100000 in
theorem ct_L_sendJoint_4 (l : Launch) (hfl : l.stackTraces = false) {D : va_G} {cI cJ cQ : ClassId} {x0a a0 a1 a2 a3 a4 a5 a6 a7 tr0 s0 r0 w0 : Nat} {S : StT} {x1 x2 x3 x4 : Int32} (ho : okSn x1 x3 x4 = true) (hb : inR x2 0 7 = true) (hne : x2 = x1) {ao : Nat} {fo : Nat → Int64} : LCt l yL_sendJoint (Cond.codeWith yL_sendJoint cL_sendJoint 7 (some .int) [(0, 14, 17, 15), (0, 14, 21, 28)]) 10 188 1 6 D (tyz cI cJ cQ) [.ref x0a, .int x1, .int x2, .int x3, .int x4, .ref ao] (flatS [[(x0a, .inr (6, [.ref a0, .ref tr0, .ref s0, .ref r0, .ref w0]))], (wSt a0 a1 a2 a3 a4 a5 a6 a7 cI (S)), [(ao, .inl (cJ, 1, .inr (.inl (fo))))]]) (pstI 1 (flatS [[(x0a, .inr (6, [.ref a0, .ref tr0, .ref s0, .ref r0, .ref w0]))], (wSt a0 a1 a2 a3 a4 a5 a6 a7 cI (S)), [(ao, .inl (cJ, 1, .inr (.inl (fo))))]])) := by
  refine LCt.of RL (by decide) rfl (Nat.le_of_ble_eq_true rfl) ?_
  intro p e s m below meth c A C RC XT hz hC
  refine sw_aload 0 C dL_sendJoint_0 rfl ?_
  refine sw_iconst 2 C dL_sendJoint_2 0 (by decide) ?_
  refine sw_aload_n 3 0 C dL_sendJoint_3 rfl rfl ?_
  refine sw_iload_n 4 1 C dL_sendJoint_4 rfl rfl ?_
  refine sw_iload_n 5 2 C dL_sendJoint_5 rfl rfl ?_
  refine sw_iload_n 6 3 C dL_sendJoint_6 rfl rfl ?_
  refine sw_iload 7 C dL_sendJoint_7 rfl ?_
  refine xl_catV 9 17 [0, 1] 4 0 "java/lang/IllegalArgumentException" (pre := []) (x := ⟨0, 14, 17, 15⟩) (suf := [⟨0, 14, 21, 28⟩]) C hz XT (fun z hz9 => nomatch hz9) (by decide) (by decide) wC_L_15 (by decide) rfl dL_sendJoint_9 (xt_X6_sendJoint_3 l hfl ho hb hne) (fun _ h => h) wK_X6_sendJoint wM_L_34 wN_X6_sendJoint wS_X6_X6_sendJoint wI_X6 hd_X6_sendJoint rfl rfl rfl ⟨rfl, rfl⟩ ⟨(Nat.le_of_ble_eq_true rfl), (Nat.le_of_ble_eq_true rfl)⟩ rfl rfl rfl rfl (fun q9 => ?_)
  refine sw_astore 17 C dL_sendJoint_17 rfl ?_
  refine sw_iconst 19 C dL_sendJoint_19 1 (by decide) ?_
  refine sw_iret 20 C RC dL_sendJoint_20 ?_
  exact ⟨rfl, rfl⟩
set_option maxHeartbeats 4000000 in
set_option maxRecDepth 100000 in
theorem ct_L_sendJoint_5 (l : Launch) (hfl : l.stackTraces = false) {D : va_G} {cI cJ cQ : ClassId} {x0a a0 a1 a2 a3 a4 a5 a6 a7 tr0 s0 r0 w0 : Nat} {S : StT} {x1 x2 x3 x4 : Int32} (hS : SI S) (ho : okSn x1 x3 x4 = true) (hb : inR x2 0 7 = true) (hne : ¬ x2 = x1) (hm : hrf (zf S) (zn S) (zq S) x1 (x2) = false) {ao : Nat} {fo : Nat → Int64} : LCt l yL_sendJoint (Cond.codeWith yL_sendJoint cL_sendJoint 7 (some .int) [(0, 14, 17, 15), (0, 14, 21, 28)]) 10 188 1 6 D (tyz cI cJ cQ) [.ref x0a, .int x1, .int x2, .int x3, .int x4, .ref ao] (flatS [[(x0a, .inr (6, [.ref a0, .ref tr0, .ref s0, .ref r0, .ref w0]))], (wSt a0 a1 a2 a3 a4 a5 a6 a7 cI (S)), [(ao, .inl (cJ, 1, .inr (.inl (fo))))]]) (pstI 2 (flatS [[(x0a, .inr (6, [.ref a0, .ref tr0, .ref s0, .ref r0, .ref w0]))], (wSt a0 a1 a2 a3 a4 a5 a6 a7 cI (S)), [(ao, .inl (cJ, 1, .inr (.inl (fo))))]])) := by
  refine LCt.of RL (by decide) rfl (Nat.le_of_ble_eq_true rfl) ?_
  intro p e s m below meth c A C RC XT hz hC
  refine sw_aload 0 C dL_sendJoint_0 rfl ?_
  refine sw_iconst 2 C dL_sendJoint_2 0 (by decide) ?_
  refine sw_aload_n 3 0 C dL_sendJoint_3 rfl rfl ?_
  refine sw_iload_n 4 1 C dL_sendJoint_4 rfl rfl ?_
  refine sw_iload_n 5 2 C dL_sendJoint_5 rfl rfl ?_
  refine sw_iload_n 6 3 C dL_sendJoint_6 rfl rfl ?_
  refine sw_iload 7 C dL_sendJoint_7 rfl ?_
  refine xl_catV 9 21 [0, 1] 4 0 "java/lang/IllegalStateException" (pre := [⟨0, 14, 17, 15⟩]) (x := ⟨0, 14, 21, 28⟩) (suf := []) C hz XT (fun z hz9 => by cases List.mem_singleton.mp hz9; exact Or.inr ⟨by decide, "java/lang/IllegalArgumentException", C.w wC_L_15, hC.2⟩) (by decide) (by decide) wC_L_28 (by decide) rfl dL_sendJoint_9 (xt_X6_sendJoint_4 l hfl hS ho hb hne hm) (fun _ h => h) wK_X6_sendJoint wM_L_34 wN_X6_sendJoint wS_X6_X6_sendJoint wI_X6 hd_X6_sendJoint rfl rfl rfl ⟨rfl, rfl⟩ ⟨(Nat.le_of_ble_eq_true rfl), (Nat.le_of_ble_eq_true rfl)⟩ rfl rfl rfl rfl (fun q9 => ?_)
  refine sw_astore 21 C dL_sendJoint_21 rfl ?_
  refine sw_iconst 23 C dL_sendJoint_23 2 (by decide) ?_
  refine sw_iret 24 C RC dL_sendJoint_24 ?_
  exact ⟨rfl, rfl⟩
set_option maxHeartbeats 4000000 in
set_option maxRecDepth 100000 in
theorem ct_L_withdraw (l : Launch) (hfl : l.stackTraces = false) {D : va_G} {cI cJ cQ : ClassId} {x0a a0 a1 a2 a3 a4 a5 a6 a7 tr0 s0 s1 r0 w0 ra0 ra1 ra2 ra3 ra4 ra5 ra6 ra7 rb0 rb1 rb2 rb3 rb4 rb5 rb6 rb7 rc0 rc1 rc2 rc3 rc4 rc5 rc6 rc7 rd0 rd1 rd2 rd3 rd4 rd5 rd6 rd7 : Nat} {h : Nat → Option Nat} {S : StT} {R : Nat → StT} {cn od : Nat} {x1 : Int32} (hS : SI S) (hcn : cn ≤ 4) (hod : od < 4) (hh0 : h 0 = some ra0) (hh1 : h 1 = some rb0) (hh2 : h 2 = some rc0) (hh3 : h 3 = some rd0) (i : Nat) (hi : fnd (zf S) x1 (zn S) = some i) {ao : Nat} {fo : Nat → Int64} : LCt l yL_withdraw (Cond.codeWith yL_withdraw cL_withdraw 4 (some .int) [(0, 9, 12, 13)]) 9 164 0 0 D (tyz cI cJ cQ) [.ref x0a, .int x1, .ref ao] (flatS [[(x0a, .inr (6, [.ref a0, .ref tr0, .ref s0, .ref r0, .ref w0]))], (wSt a0 a1 a2 a3 a4 a5 a6 a7 cI (S)), [(s0, .inr (3, [.int (nI (cn)), .int (nI (od)), .ref s1])), (s1, .inl (cQ, 4, .inr (.inr (.inr (.inr h)))))], (wSt ra0 ra1 ra2 ra3 ra4 ra5 ra6 ra7 cI ((R) 0)), (wSt rb0 rb1 rb2 rb3 rb4 rb5 rb6 rb7 cI ((R) 1)), (wSt rc0 rc1 rc2 rc3 rc4 rc5 rc6 rc7 cI ((R) 2)), (wSt rd0 rd1 rd2 rd3 rd4 rd5 rd6 rd7 cI ((R) 3)), [(ao, .inl (cJ, 1, .inr (.inl (fo))))]]) (pstI 0 (flatS [[(x0a, .inr (6, [.ref a0, .ref tr0, .ref s0, .ref r0, .ref w0]))], (wSt a0 a1 a2 a3 a4 a5 a6 a7 cI (leaveS S i 2)), [(s0, .inr (3, [.int (nI (svC cn)), .int (nI (svO cn od)), .ref s1])), (s1, .inl (cQ, 4, .inr (.inr (.inr (.inr h)))))], (wSt ra0 ra1 ra2 ra3 ra4 ra5 ra6 ra7 cI ((va_up R (svI cn od) S) 0)), (wSt rb0 rb1 rb2 rb3 rb4 rb5 rb6 rb7 cI ((va_up R (svI cn od) S) 1)), (wSt rc0 rc1 rc2 rc3 rc4 rc5 rc6 rc7 cI ((va_up R (svI cn od) S) 2)), (wSt rd0 rd1 rd2 rd3 rd4 rd5 rd6 rd7 cI ((va_up R (svI cn od) S) 3)), [(ao, .inl (cJ, 1, .inr (.inl (vp_updL fo 0 (gbk (zf S) (zg S) i 2).toInt64))))]])) := by
  refine LCt.of RL (by decide) rfl (Nat.le_of_ble_eq_true rfl) ?_
  intro p e s m below meth c A C RC XT hz hC
  refine sw_aload_n 0 2 C dL_withdraw_0 rfl rfl ?_
  refine sw_iconst 1 C dL_withdraw_1 0 (by decide) ?_
  refine sw_aload_n 2 0 C dL_withdraw_2 rfl rfl ?_
  refine sw_iload_n 3 1 C dL_withdraw_3 rfl rfl ?_
  refine sg_callVI 4 [0, 1, 2, 3, 4, 5, 6] 1 0 [_, _, _, _, _, _, _] C dL_withdraw_4 (ct_X6_withdraw l hS hcn hod hh0 hh1 hh2 hh3 i hi) wK_X6_withdraw wM_L_37 wN_X6_withdraw wS_X6_X6_withdraw wI_X6 hd_X6_withdraw rfl rfl rfl ⟨rfl, rfl⟩ ⟨Nat.le_of_ble_eq_true rfl, Nat.le_of_ble_eq_true rfl⟩ rfl rfl rfl rfl rfl rfl ?_
  refine sg_segs [_, _, _, _, _, _, _, _] rfl ?_
  refine sw_i2l 7 C dL_withdraw_7 ?_
  refine sg_lastN 8 7 0 1 (0) C dL_withdraw_8 rfl (by decide) rfl rfl rfl rfl ?_
  refine sg_segs [_, _, _, _, _, _, _, [(_, .inl (_, _, .inr (.inl _)))]] rfl ?_
  refine sw_goto 9 15 C dL_withdraw_9 (by decide) ?_
  refine sw_iconst 15 C dL_withdraw_15 0 (by decide) ?_
  refine sw_iret 16 C RC dL_withdraw_16 ?_
  exact ⟨rfl, rfl⟩
set_option maxHeartbeats 4000000 in
set_option maxRecDepth 100000 in
theorem ct_L_withdraw_2 (l : Launch) (hfl : l.stackTraces = false) {D : va_G} {cI cJ cQ : ClassId} {x0a a0 a1 a2 a3 a4 a5 a6 a7 tr0 s0 r0 w0 : Nat} {S : StT} {x1 : Int32} (hS : SI S) (hi : fnd (zf S) x1 (zn S) = none) {ao : Nat} {fo : Nat → Int64} : LCt l yL_withdraw (Cond.codeWith yL_withdraw cL_withdraw 4 (some .int) [(0, 9, 12, 13)]) 9 164 1 6 D (tyz cI cJ cQ) [.ref x0a, .int x1, .ref ao] (flatS [[(x0a, .inr (6, [.ref a0, .ref tr0, .ref s0, .ref r0, .ref w0]))], (wSt a0 a1 a2 a3 a4 a5 a6 a7 cI (S)), [(ao, .inl (cJ, 1, .inr (.inl (fo))))]]) (pstI 1 (flatS [[(x0a, .inr (6, [.ref a0, .ref tr0, .ref s0, .ref r0, .ref w0]))], (wSt a0 a1 a2 a3 a4 a5 a6 a7 cI (S)), [(ao, .inl (cJ, 1, .inr (.inl (fo))))]])) := by
  refine LCt.of RL (by decide) rfl (Nat.le_of_ble_eq_true rfl) ?_
  intro p e s m below meth c A C RC XT hz hC
  refine sw_aload_n 0 2 C dL_withdraw_0 rfl rfl ?_
  refine sw_iconst 1 C dL_withdraw_1 0 (by decide) ?_
  refine sw_aload_n 2 0 C dL_withdraw_2 rfl rfl ?_
  refine sw_iload_n 3 1 C dL_withdraw_3 rfl rfl ?_
  refine xl_catV 4 12 [0, 1] 1 0 "java/lang/IndexOutOfBoundsException" (pre := []) (x := ⟨0, 9, 12, 13⟩) (suf := []) C hz XT (fun z hz9 => nomatch hz9) (by decide) (by decide) wC_L_13 (by decide) rfl dL_withdraw_4 (xt_X6_withdraw l hfl hS hi) (fun _ h => h) wK_X6_withdraw wM_L_37 wN_X6_withdraw wS_X6_X6_withdraw wI_X6 hd_X6_withdraw rfl rfl rfl ⟨rfl, rfl⟩ ⟨(Nat.le_of_ble_eq_true rfl), (Nat.le_of_ble_eq_true rfl)⟩ rfl rfl rfl rfl (fun q9 => ?_)
  refine sw_astore_n 12 3 C dL_withdraw_12 rfl rfl ?_
  refine sw_iconst 13 C dL_withdraw_13 1 (by decide) ?_
  refine sw_iret 14 C RC dL_withdraw_14 ?_
  exact ⟨rfl, rfl⟩
set_option maxHeartbeats 4000000 in
set_option maxRecDepth 100000 in
theorem ct_L_serve (l : Launch) (hfl : l.stackTraces = false) {D : va_G} {cI cJ cQ : ClassId} {x0a a0 a1 a2 a3 a4 a5 a6 a7 tr0 s0 s1 r0 w0 ra0 ra1 ra2 ra3 ra4 ra5 ra6 ra7 rb0 rb1 rb2 rb3 rb4 rb5 rb6 rb7 rc0 rc1 rc2 rc3 rc4 rc5 rc6 rc7 rd0 rd1 rd2 rd3 rd4 rd5 rd6 rd7 : Nat} {h : Nat → Option Nat} {S : StT} {R : Nat → StT} {cn od : Nat} (hS : SI S) (hcn : cn ≤ 4) (hod : od < 4) (hh0 : h 0 = some ra0) (hh1 : h 1 = some rb0) (hh2 : h 2 = some rc0) (hh3 : h 3 = some rd0) (h0 : 0 < zn S) {ao : Nat} {fo : Nat → Int64} : LCt l yL_serve (Cond.codeWith yL_serve cL_serve 3 (some .int) [(0, 8, 11, 44)]) 8 140 0 0 D (tyz cI cJ cQ) [.ref x0a, .ref ao] (flatS [[(x0a, .inr (6, [.ref a0, .ref tr0, .ref s0, .ref r0, .ref w0]))], (wSt a0 a1 a2 a3 a4 a5 a6 a7 cI (S)), [(s0, .inr (3, [.int (nI (cn)), .int (nI (od)), .ref s1])), (s1, .inl (cQ, 4, .inr (.inr (.inr (.inr h)))))], (wSt ra0 ra1 ra2 ra3 ra4 ra5 ra6 ra7 cI ((R) 0)), (wSt rb0 rb1 rb2 rb3 rb4 rb5 rb6 rb7 cI ((R) 1)), (wSt rc0 rc1 rc2 rc3 rc4 rc5 rc6 rc7 cI ((R) 2)), (wSt rd0 rd1 rd2 rd3 rd4 rd5 rd6 rd7 cI ((R) 3)), [(ao, .inl (cJ, 1, .inr (.inl (fo))))]]) (pstI 0 (flatS [[(x0a, .inr (6, [.ref a0, .ref tr0, .ref s0, .ref r0, .ref w0]))], (wSt a0 a1 a2 a3 a4 a5 a6 a7 cI ((srv S).2)), [(s0, .inr (3, [.int (nI (svC cn)), .int (nI (svO cn od)), .ref s1])), (s1, .inl (cQ, 4, .inr (.inr (.inr (.inr h)))))], (wSt ra0 ra1 ra2 ra3 ra4 ra5 ra6 ra7 cI ((va_up R (svI cn od) S) 0)), (wSt rb0 rb1 rb2 rb3 rb4 rb5 rb6 rb7 cI ((va_up R (svI cn od) S) 1)), (wSt rc0 rc1 rc2 rc3 rc4 rc5 rc6 rc7 cI ((va_up R (svI cn od) S) 2)), (wSt rd0 rd1 rd2 rd3 rd4 rd5 rd6 rd7 cI ((va_up R (svI cn od) S) 3)), [(ao, .inl (cJ, 1, .inr (.inl (vp_updL fo 0 ((srv S).1).toInt64))))]])) := by
  refine LCt.of RL (by decide) rfl (Nat.le_of_ble_eq_true rfl) ?_
  intro p e s m below meth c A C RC XT hz hC
  refine sw_aload_n 0 1 C dL_serve_0 rfl rfl ?_
  refine sw_iconst 1 C dL_serve_1 0 (by decide) ?_
  refine sw_aload_n 2 0 C dL_serve_2 rfl rfl ?_
  refine sg_callVI 3 [0, 1, 2, 3, 4, 5, 6] 0 0 [_, _, _, _, _, _, _] C dL_serve_3 (ct_X6_serve l hS hcn hod hh0 hh1 hh2 hh3 h0) wK_X6_serve wM_L_40 wN_X6_serve wS_X6_X6_serve wI_X6 hd_X6_serve rfl rfl rfl ⟨rfl, rfl⟩ ⟨Nat.le_of_ble_eq_true rfl, Nat.le_of_ble_eq_true rfl⟩ rfl rfl rfl rfl rfl rfl ?_
  refine sg_segs [_, _, _, _, _, _, _, _] rfl ?_
  refine sw_i2l 6 C dL_serve_6 ?_
  refine sg_lastN 7 7 0 1 (0) C dL_serve_7 rfl (by decide) rfl rfl rfl rfl ?_
  refine sg_segs [_, _, _, _, _, _, _, [(_, .inl (_, _, .inr (.inl _)))]] rfl ?_
  refine sw_goto 8 14 C dL_serve_8 (by decide) ?_
  refine sw_iconst 14 C dL_serve_14 0 (by decide) ?_
  refine sw_iret 15 C RC dL_serve_15 ?_
  exact ⟨rfl, rfl⟩
set_option maxHeartbeats 4000000 in
set_option maxRecDepth 100000 in
theorem ct_L_serve_2 (l : Launch) (hfl : l.stackTraces = false) {D : va_G} {cI cJ cQ : ClassId} {x0a a0 a1 a2 a3 a4 a5 a6 a7 tr0 s0 r0 w0 : Nat} {S : StT} (h0 : zn S = 0) {ao : Nat} {fo : Nat → Int64} : LCt l yL_serve (Cond.codeWith yL_serve cL_serve 3 (some .int) [(0, 8, 11, 44)]) 8 140 1 6 D (tyz cI cJ cQ) [.ref x0a, .ref ao] (flatS [[(x0a, .inr (6, [.ref a0, .ref tr0, .ref s0, .ref r0, .ref w0]))], (wSt a0 a1 a2 a3 a4 a5 a6 a7 cI (S)), [(ao, .inl (cJ, 1, .inr (.inl (fo))))]]) (pstI 1 (flatS [[(x0a, .inr (6, [.ref a0, .ref tr0, .ref s0, .ref r0, .ref w0]))], (wSt a0 a1 a2 a3 a4 a5 a6 a7 cI (S)), [(ao, .inl (cJ, 1, .inr (.inl (fo))))]])) := by
  refine LCt.of RL (by decide) rfl (Nat.le_of_ble_eq_true rfl) ?_
  intro p e s m below meth c A C RC XT hz hC
  refine sw_aload_n 0 1 C dL_serve_0 rfl rfl ?_
  refine sw_iconst 1 C dL_serve_1 0 (by decide) ?_
  refine sw_aload_n 2 0 C dL_serve_2 rfl rfl ?_
  refine xl_catV 3 11 [0, 1] 0 0 "java/util/NoSuchElementException" (pre := []) (x := ⟨0, 8, 11, 44⟩) (suf := []) C hz XT (fun z hz9 => nomatch hz9) (by decide) (by decide) wC_L_44 (by decide) rfl dL_serve_3 (xt_X6_serve l hfl h0) (fun _ h => h) wK_X6_serve wM_L_40 wN_X6_serve wS_X6_X6_serve wI_X6 hd_X6_serve rfl rfl rfl ⟨rfl, rfl⟩ ⟨(Nat.le_of_ble_eq_true rfl), (Nat.le_of_ble_eq_true rfl)⟩ rfl rfl rfl rfl (fun q9 => ?_)
  refine sw_astore_n 11 2 C dL_serve_11 rfl rfl ?_
  refine sw_iconst 12 C dL_serve_12 1 (by decide) ?_
  refine sw_iret 13 C RC dL_serve_13 ?_
  exact ⟨rfl, rfl⟩
set_option maxHeartbeats 4000000 in
set_option maxRecDepth 100000 in
theorem ct_L_pass (l : Launch) (hfl : l.stackTraces = false) {D : va_G} {cI cJ cQ : ClassId} {x0a a0 a1 a2 a3 a4 a5 a6 a7 tr0 s0 s1 r0 w0 ra0 ra1 ra2 ra3 ra4 ra5 ra6 ra7 rb0 rb1 rb2 rb3 rb4 rb5 rb6 rb7 rc0 rc1 rc2 rc3 rc4 rc5 rc6 rc7 rd0 rd1 rd2 rd3 rd4 rd5 rd6 rd7 : Nat} {h : Nat → Option Nat} {S : StT} {R : Nat → StT} {cn od : Nat} {x1 : Int32} (hS : SI S) (hcn : cn ≤ 4) (hod : od < 4) (hh0 : h 0 = some ra0) (hh1 : h 1 = some rb0) (hh2 : h 2 = some rc0) (hh3 : h 3 = some rd0) (k : Nat) (h1 : x1 = nI k) (hk0 : 1 ≤ k) (hk : k ≤ 200) (ht : x1 ≤ 100000 - zt S) {ao : Nat} {fo : Nat → Int64} : LCt l yL_pass (Cond.codeWith yL_pass cL_pass 4 (some .int) [(0, 9, 12, 15), (0, 9, 15, 28)]) 9 163 0 0 D (tyz cI cJ cQ) [.ref x0a, .int x1, .ref ao] (flatS [[(x0a, .inr (6, [.ref a0, .ref tr0, .ref s0, .ref r0, .ref w0]))], (wSt a0 a1 a2 a3 a4 a5 a6 a7 cI (S)), [(s0, .inr (3, [.int (nI (cn)), .int (nI (od)), .ref s1])), (s1, .inl (cQ, 4, .inr (.inr (.inr (.inr h)))))], (wSt ra0 ra1 ra2 ra3 ra4 ra5 ra6 ra7 cI ((R) 0)), (wSt rb0 rb1 rb2 rb3 rb4 rb5 rb6 rb7 cI ((R) 1)), (wSt rc0 rc1 rc2 rc3 rc4 rc5 rc6 rc7 cI ((R) 2)), (wSt rd0 rd1 rd2 rd3 rd4 rd5 rd6 rd7 cI ((R) 3)), [(ao, .inl (cJ, 1, .inr (.inl (fo))))]]) (pstI 0 (flatS [[(x0a, .inr (6, [.ref a0, .ref tr0, .ref s0, .ref r0, .ref w0]))], (wSt a0 a1 a2 a3 a4 a5 a6 a7 cI ((tps k S).2)), [(s0, .inr (3, [.int (nI (svC cn)), .int (nI (svO cn od)), .ref s1])), (s1, .inl (cQ, 4, .inr (.inr (.inr (.inr h)))))], (wSt ra0 ra1 ra2 ra3 ra4 ra5 ra6 ra7 cI ((va_up R (svI cn od) S) 0)), (wSt rb0 rb1 rb2 rb3 rb4 rb5 rb6 rb7 cI ((va_up R (svI cn od) S) 1)), (wSt rc0 rc1 rc2 rc3 rc4 rc5 rc6 rc7 cI ((va_up R (svI cn od) S) 2)), (wSt rd0 rd1 rd2 rd3 rd4 rd5 rd6 rd7 cI ((va_up R (svI cn od) S) 3)), [(ao, .inl (cJ, 1, .inr (.inl (vp_updL fo 0 (nI (tps k S).1).toInt64))))]])) := by
  refine LCt.of RL (by decide) rfl (Nat.le_of_ble_eq_true rfl) ?_
  intro p e s m below meth c A C RC XT hz hC
  refine sw_aload_n 0 2 C dL_pass_0 rfl rfl ?_
  refine sw_iconst 1 C dL_pass_1 0 (by decide) ?_
  refine sw_aload_n 2 0 C dL_pass_2 rfl rfl ?_
  refine sw_iload_n 3 1 C dL_pass_3 rfl rfl ?_
  refine sg_callVI 4 [0, 1, 2, 3, 4, 5, 6] 1 0 [_, _, _, _, _, _, _] C dL_pass_4 (ct_X6_pass l hS hcn hod hh0 hh1 hh2 hh3 k h1 hk0 hk ht) wK_X6_pass wM_L_46 wN_X6_pass wS_X6_X6_pass wI_X6 hd_X6_pass rfl rfl rfl ⟨rfl, rfl⟩ ⟨Nat.le_of_ble_eq_true rfl, Nat.le_of_ble_eq_true rfl⟩ rfl rfl rfl rfl rfl rfl ?_
  refine sg_segs [_, _, _, _, _, _, _, _] rfl ?_
  refine sw_i2l 7 C dL_pass_7 ?_
  refine sg_lastN 8 7 0 1 (0) C dL_pass_8 rfl (by decide) rfl rfl rfl rfl ?_
  refine sg_segs [_, _, _, _, _, _, _, [(_, .inl (_, _, .inr (.inl _)))]] rfl ?_
  refine sw_goto 9 18 C dL_pass_9 (by decide) ?_
  refine sw_iconst 18 C dL_pass_18 0 (by decide) ?_
  refine sw_iret 19 C RC dL_pass_19 ?_
  exact ⟨rfl, rfl⟩
set_option maxHeartbeats 4000000 in
set_option maxRecDepth 100000 in
theorem ct_L_pass_2 (l : Launch) (hfl : l.stackTraces = false) {D : va_G} {cI cJ cQ : ClassId} {x0a a0 a1 a2 a3 a4 a5 a6 a7 tr0 s0 r0 w0 : Nat} {S : StT} {x1 : Int32} (hx : inR x1 1 200 = false) {ao : Nat} {fo : Nat → Int64} : LCt l yL_pass (Cond.codeWith yL_pass cL_pass 4 (some .int) [(0, 9, 12, 15), (0, 9, 15, 28)]) 9 163 1 6 D (tyz cI cJ cQ) [.ref x0a, .int x1, .ref ao] (flatS [[(x0a, .inr (6, [.ref a0, .ref tr0, .ref s0, .ref r0, .ref w0]))], (wSt a0 a1 a2 a3 a4 a5 a6 a7 cI (S)), [(ao, .inl (cJ, 1, .inr (.inl (fo))))]]) (pstI 1 (flatS [[(x0a, .inr (6, [.ref a0, .ref tr0, .ref s0, .ref r0, .ref w0]))], (wSt a0 a1 a2 a3 a4 a5 a6 a7 cI (S)), [(ao, .inl (cJ, 1, .inr (.inl (fo))))]])) := by
  refine LCt.of RL (by decide) rfl (Nat.le_of_ble_eq_true rfl) ?_
  intro p e s m below meth c A C RC XT hz hC
  refine sw_aload_n 0 2 C dL_pass_0 rfl rfl ?_
  refine sw_iconst 1 C dL_pass_1 0 (by decide) ?_
  refine sw_aload_n 2 0 C dL_pass_2 rfl rfl ?_
  refine sw_iload_n 3 1 C dL_pass_3 rfl rfl ?_
  refine xl_catV 4 12 [0, 1] 1 0 "java/lang/IllegalArgumentException" (pre := []) (x := ⟨0, 9, 12, 15⟩) (suf := [⟨0, 9, 15, 28⟩]) C hz XT (fun z hz9 => nomatch hz9) (by decide) (by decide) wC_L_15 (by decide) rfl dL_pass_4 (xt_X6_pass l hfl hx) (fun _ h => h) wK_X6_pass wM_L_46 wN_X6_pass wS_X6_X6_pass wI_X6 hd_X6_pass rfl rfl rfl ⟨rfl, rfl⟩ ⟨(Nat.le_of_ble_eq_true rfl), (Nat.le_of_ble_eq_true rfl)⟩ rfl rfl rfl rfl (fun q9 => ?_)
  refine sw_astore_n 12 3 C dL_pass_12 rfl rfl ?_
  refine sw_iconst 13 C dL_pass_13 1 (by decide) ?_
  refine sw_iret 14 C RC dL_pass_14 ?_
  exact ⟨rfl, rfl⟩
set_option maxHeartbeats 4000000 in
set_option maxRecDepth 100000 in
theorem ct_L_pass_3 (l : Launch) (hfl : l.stackTraces = false) {D : va_G} {cI cJ cQ : ClassId} {x0a a0 a1 a2 a3 a4 a5 a6 a7 tr0 s0 r0 w0 : Nat} {S : StT} {x1 : Int32} (hx : inR x1 1 200 = true) (ht : ¬ x1 ≤ 100000 - zt S) {ao : Nat} {fo : Nat → Int64} : LCt l yL_pass (Cond.codeWith yL_pass cL_pass 4 (some .int) [(0, 9, 12, 15), (0, 9, 15, 28)]) 9 163 1 6 D (tyz cI cJ cQ) [.ref x0a, .int x1, .ref ao] (flatS [[(x0a, .inr (6, [.ref a0, .ref tr0, .ref s0, .ref r0, .ref w0]))], (wSt a0 a1 a2 a3 a4 a5 a6 a7 cI (S)), [(ao, .inl (cJ, 1, .inr (.inl (fo))))]]) (pstI 2 (flatS [[(x0a, .inr (6, [.ref a0, .ref tr0, .ref s0, .ref r0, .ref w0]))], (wSt a0 a1 a2 a3 a4 a5 a6 a7 cI (S)), [(ao, .inl (cJ, 1, .inr (.inl (fo))))]])) := by
  refine LCt.of RL (by decide) rfl (Nat.le_of_ble_eq_true rfl) ?_
  intro p e s m below meth c A C RC XT hz hC
  refine sw_aload_n 0 2 C dL_pass_0 rfl rfl ?_
  refine sw_iconst 1 C dL_pass_1 0 (by decide) ?_
  refine sw_aload_n 2 0 C dL_pass_2 rfl rfl ?_
  refine sw_iload_n 3 1 C dL_pass_3 rfl rfl ?_
  refine xl_catV 4 15 [0, 1] 1 0 "java/lang/IllegalStateException" (pre := [⟨0, 9, 12, 15⟩]) (x := ⟨0, 9, 15, 28⟩) (suf := []) C hz XT (fun z hz9 => by cases List.mem_singleton.mp hz9; exact Or.inr ⟨by decide, "java/lang/IllegalArgumentException", C.w wC_L_15, hC.2⟩) (by decide) (by decide) wC_L_28 (by decide) rfl dL_pass_4 (xt_X6_pass_2 l hfl hx ht) (fun _ h => h) wK_X6_pass wM_L_46 wN_X6_pass wS_X6_X6_pass wI_X6 hd_X6_pass rfl rfl rfl ⟨rfl, rfl⟩ ⟨(Nat.le_of_ble_eq_true rfl), (Nat.le_of_ble_eq_true rfl)⟩ rfl rfl rfl rfl (fun q9 => ?_)
  refine sw_astore_n 15 3 C dL_pass_15 rfl rfl ?_
  refine sw_iconst 16 C dL_pass_16 2 (by decide) ?_
  refine sw_iret 17 C RC dL_pass_17 ?_
  exact ⟨rfl, rfl⟩
set_option maxHeartbeats 4000000 in
set_option maxRecDepth 100000 in
theorem ct_L_undo (l : Launch) (hfl : l.stackTraces = false) {D : va_G} {cI cJ cQ : ClassId} {x0a a0 a1 a2 a3 a4 a5 a6 a7 tr0 s0 s1 r0 w0 ra0 ra1 ra2 ra3 ra4 ra5 ra6 ra7 rb0 rb1 rb2 rb3 rb4 rb5 rb6 rb7 rc0 rc1 rc2 rc3 rc4 rc5 rc6 rc7 rd0 rd1 rd2 rd3 rd4 rd5 rd6 rd7 : Nat} {h : Nat → Option Nat} {S : StT} {R : Nat → StT} {cn od : Nat} (hS : SI S) (hcn : cn ≤ 4) (hod : od < 4) (hh0 : h 0 = some ra0) (hh1 : h 1 = some rb0) (hh2 : h 2 = some rc0) (hh3 : h 3 = some rd0) (h0 : 0 < cn) {ao : Nat} {fo : Nat → Int64} : LCt l yL_undo (Cond.codeWith yL_undo cL_undo 3 (some .int) [(0, 8, 11, 28)]) 8 140 0 0 D (tyz cI cJ cQ) [.ref x0a, .ref ao] (flatS [[(x0a, .inr (6, [.ref a0, .ref tr0, .ref s0, .ref r0, .ref w0]))], (wSt a0 a1 a2 a3 a4 a5 a6 a7 cI (S)), [(s0, .inr (3, [.int (nI (cn)), .int (nI (od)), .ref s1])), (s1, .inl (cQ, 4, .inr (.inr (.inr (.inr h)))))], (wSt ra0 ra1 ra2 ra3 ra4 ra5 ra6 ra7 cI ((R) 0)), (wSt rb0 rb1 rb2 rb3 rb4 rb5 rb6 rb7 cI ((R) 1)), (wSt rc0 rc1 rc2 rc3 rc4 rc5 rc6 rc7 cI ((R) 2)), (wSt rd0 rd1 rd2 rd3 rd4 rd5 rd6 rd7 cI ((R) 3)), [(ao, .inl (cJ, 1, .inr (.inl (fo))))]]) (pstI 0 (flatS [[(x0a, .inr (6, [.ref a0, .ref tr0, .ref s0, .ref r0, .ref w0]))], (wSt a0 a1 a2 a3 a4 a5 a6 a7 cI (R ((od + (cn - 1)) % 4))), [(s0, .inr (3, [.int (nI (cn - 1)), .int (nI (od)), .ref s1])), (s1, .inl (cQ, 4, .inr (.inr (.inr (.inr h)))))], (wSt ra0 ra1 ra2 ra3 ra4 ra5 ra6 ra7 cI ((R) 0)), (wSt rb0 rb1 rb2 rb3 rb4 rb5 rb6 rb7 cI ((R) 1)), (wSt rc0 rc1 rc2 rc3 rc4 rc5 rc6 rc7 cI ((R) 2)), (wSt rd0 rd1 rd2 rd3 rd4 rd5 rd6 rd7 cI ((R) 3)), [(ao, .inl (cJ, 1, .inr (.inl (vp_updL fo 0 (nI (cn - 1)).toInt64))))]])) := by
  refine LCt.of RL (by decide) rfl (Nat.le_of_ble_eq_true rfl) ?_
  intro p e s m below meth c A C RC XT hz hC
  refine sw_aload_n 0 1 C dL_undo_0 rfl rfl ?_
  refine sw_iconst 1 C dL_undo_1 0 (by decide) ?_
  refine sw_aload_n 2 0 C dL_undo_2 rfl rfl ?_
  refine sg_callVI 3 [0, 1, 2, 3, 4, 5, 6] 0 0 [_, _, _, _, _, _, _] C dL_undo_3 (ct_X6_undo l hS hcn hod hh0 hh1 hh2 hh3 h0) wK_X6_undo wM_L_82 wN_X6_undo wS_X6_X6_undo wI_X6 hd_X6_undo rfl rfl rfl ⟨rfl, rfl⟩ ⟨Nat.le_of_ble_eq_true rfl, Nat.le_of_ble_eq_true rfl⟩ rfl rfl rfl rfl rfl rfl ?_
  refine sg_segs [_, _, _, _, _, _, _, _] rfl ?_
  refine sw_i2l 6 C dL_undo_6 ?_
  refine sg_lastN 7 7 0 1 (0) C dL_undo_7 rfl (by decide) rfl rfl rfl rfl ?_
  refine sg_segs [_, _, _, _, _, _, _, [(_, .inl (_, _, .inr (.inl _)))]] rfl ?_
  refine sw_goto 8 14 C dL_undo_8 (by decide) ?_
  refine sw_iconst 14 C dL_undo_14 0 (by decide) ?_
  refine sw_iret 15 C RC dL_undo_15 ?_
  exact ⟨rfl, rfl⟩
set_option maxHeartbeats 4000000 in
set_option maxRecDepth 100000 in
theorem ct_L_undo_2 (l : Launch) (hfl : l.stackTraces = false) {D : va_G} {cI cJ cQ : ClassId} {x0a a0 a1 a2 a3 a4 a5 a6 a7 tr0 s0 s1 r0 w0 : Nat} {S : StT} {h : Nat → Option Nat} {cn od : Nat} (h0 : cn = 0) {ao : Nat} {fo : Nat → Int64} : LCt l yL_undo (Cond.codeWith yL_undo cL_undo 3 (some .int) [(0, 8, 11, 28)]) 8 140 1 6 D (tyz cI cJ cQ) [.ref x0a, .ref ao] (flatS [[(x0a, .inr (6, [.ref a0, .ref tr0, .ref s0, .ref r0, .ref w0]))], (wSt a0 a1 a2 a3 a4 a5 a6 a7 cI (S)), [(s0, .inr (3, [.int (nI (cn)), .int (nI (od)), .ref s1])), (s1, .inl (cQ, 4, .inr (.inr (.inr (.inr h)))))], [(ao, .inl (cJ, 1, .inr (.inl (fo))))]]) (pstI 1 (flatS [[(x0a, .inr (6, [.ref a0, .ref tr0, .ref s0, .ref r0, .ref w0]))], (wSt a0 a1 a2 a3 a4 a5 a6 a7 cI (S)), [(s0, .inr (3, [.int (nI (cn)), .int (nI (od)), .ref s1])), (s1, .inl (cQ, 4, .inr (.inr (.inr (.inr h)))))], [(ao, .inl (cJ, 1, .inr (.inl (fo))))]])) := by
  refine LCt.of RL (by decide) rfl (Nat.le_of_ble_eq_true rfl) ?_
  intro p e s m below meth c A C RC XT hz hC
  refine sw_aload_n 0 1 C dL_undo_0 rfl rfl ?_
  refine sw_iconst 1 C dL_undo_1 0 (by decide) ?_
  refine sw_aload_n 2 0 C dL_undo_2 rfl rfl ?_
  refine xl_catV 3 11 [0, 1, 2] 0 0 "java/lang/IllegalStateException" (pre := []) (x := ⟨0, 8, 11, 28⟩) (suf := []) C hz XT (fun z hz9 => nomatch hz9) (by decide) (by decide) wC_L_28 (by decide) rfl dL_undo_3 (xt_X6_undo l hfl h0) (fun _ h => h) wK_X6_undo wM_L_82 wN_X6_undo wS_X6_X6_undo wI_X6 hd_X6_undo rfl rfl rfl ⟨rfl, rfl⟩ ⟨(Nat.le_of_ble_eq_true rfl), (Nat.le_of_ble_eq_true rfl)⟩ rfl rfl rfl rfl (fun q9 => ?_)
  refine sw_astore_n 11 2 C dL_undo_11 rfl rfl ?_
  refine sw_iconst 12 C dL_undo_12 1 (by decide) ?_
  refine sw_iret 13 C RC dL_undo_13 ?_
  exact ⟨rfl, rfl⟩
set_option maxHeartbeats 4000000 in
set_option maxRecDepth 100000 in
theorem ct_L_petition (l : Launch) (hfl : l.stackTraces = false) {D : va_G} {cI cJ cQ : ClassId} {x0a a0 a1 a2 a3 a4 a5 a6 a7 tr0 s0 r0 w0 : Nat} {S : StT} {x1 x2 : Int32} (hS : SI S) (i : Nat) (hi : fnd (zf S) x1 (zn S) = some i) (w : Nat) (h2 : x2 = nI w) (hw : w ≤ 9) {ao : Nat} {fo : Nat → Int64} : LCt l yL_petition (Cond.codeWith yL_petition cL_petition 5 (some .int) [(0, 10, 13, 13), (0, 10, 17, 15)]) 9 165 0 0 D (tyz cI cJ cQ) [.ref x0a, .int x1, .int x2, .ref ao] (flatS [[(x0a, .inr (6, [.ref a0, .ref tr0, .ref s0, .ref r0, .ref w0]))], (wSt a0 a1 a2 a3 a4 a5 a6 a7 cI (S)), [(ao, .inl (cJ, 1, .inr (.inl (fo))))]]) (pstI 0 (flatS [[(x0a, .inr (6, [.ref a0, .ref tr0, .ref s0, .ref r0, .ref w0]))], (wSt a0 a1 a2 a3 a4 a5 a6 a7 cI (S)), [(ao, .inl (cJ, 1, .inr (.inl (vp_updL fo 0 (tel (zf S) (zn S) i w).toInt64))))]])) := by
  refine LCt.of RL (by decide) rfl (Nat.le_of_ble_eq_true rfl) ?_
  intro p e s m below meth c A C RC XT hz hC
  refine sw_aload_n 0 3 C dL_petition_0 rfl rfl ?_
  refine sw_iconst 1 C dL_petition_1 0 (by decide) ?_
  refine sw_aload_n 2 0 C dL_petition_2 rfl rfl ?_
  refine sw_iload_n 3 1 C dL_petition_3 rfl rfl ?_
  refine sw_iload_n 4 2 C dL_petition_4 rfl rfl ?_
  refine sg_callVI 5 [0, 1] 2 0 [_, _] C dL_petition_5 (ct_X6_petition l hS i hi w h2 hw) wK_X6_petition wM_L_49 wN_X6_petition wS_X6_X6_petition wI_X6 hd_X6_petition rfl rfl rfl ⟨rfl, rfl⟩ ⟨Nat.le_of_ble_eq_true rfl, Nat.le_of_ble_eq_true rfl⟩ rfl rfl rfl rfl rfl rfl ?_
  refine sg_segs [_, _, _] rfl ?_
  refine sw_i2l 8 C dL_petition_8 ?_
  refine sg_lastN 9 2 0 1 (0) C dL_petition_9 rfl (by decide) rfl rfl rfl rfl ?_
  refine sg_segs [_, _, [(_, .inl (_, _, .inr (.inl _)))]] rfl ?_
  refine sw_goto 10 21 C dL_petition_10 (by decide) ?_
  refine sw_iconst 21 C dL_petition_21 0 (by decide) ?_
  refine sw_iret 22 C RC dL_petition_22 ?_
  exact ⟨rfl, rfl⟩
set_option maxHeartbeats 4000000 in
set_option maxRecDepth 100000 in
theorem ct_L_petition_2 (l : Launch) (hfl : l.stackTraces = false) {D : va_G} {cI cJ cQ : ClassId} {x0a a0 a1 a2 a3 a4 a5 a6 a7 tr0 s0 r0 w0 : Nat} {S : StT} {x1 x2 : Int32} (hS : SI S) (hi : fnd (zf S) x1 (zn S) = none) {ao : Nat} {fo : Nat → Int64} : LCt l yL_petition (Cond.codeWith yL_petition cL_petition 5 (some .int) [(0, 10, 13, 13), (0, 10, 17, 15)]) 9 165 1 6 D (tyz cI cJ cQ) [.ref x0a, .int x1, .int x2, .ref ao] (flatS [[(x0a, .inr (6, [.ref a0, .ref tr0, .ref s0, .ref r0, .ref w0]))], (wSt a0 a1 a2 a3 a4 a5 a6 a7 cI (S)), [(ao, .inl (cJ, 1, .inr (.inl (fo))))]]) (pstI 1 (flatS [[(x0a, .inr (6, [.ref a0, .ref tr0, .ref s0, .ref r0, .ref w0]))], (wSt a0 a1 a2 a3 a4 a5 a6 a7 cI (S)), [(ao, .inl (cJ, 1, .inr (.inl (fo))))]])) := by
  refine LCt.of RL (by decide) rfl (Nat.le_of_ble_eq_true rfl) ?_
  intro p e s m below meth c A C RC XT hz hC
  refine sw_aload_n 0 3 C dL_petition_0 rfl rfl ?_
  refine sw_iconst 1 C dL_petition_1 0 (by decide) ?_
  refine sw_aload_n 2 0 C dL_petition_2 rfl rfl ?_
  refine sw_iload_n 3 1 C dL_petition_3 rfl rfl ?_
  refine sw_iload_n 4 2 C dL_petition_4 rfl rfl ?_
  refine xl_catV 5 13 [0, 1] 2 0 "java/lang/IndexOutOfBoundsException" (pre := []) (x := ⟨0, 10, 13, 13⟩) (suf := [⟨0, 10, 17, 15⟩]) C hz XT (fun z hz9 => nomatch hz9) (by decide) (by decide) wC_L_13 (by decide) rfl dL_petition_5 (xt_X6_petition l hfl hS hi) (fun _ h => h) wK_X6_petition wM_L_49 wN_X6_petition wS_X6_X6_petition wI_X6 hd_X6_petition rfl rfl rfl ⟨rfl, rfl⟩ ⟨(Nat.le_of_ble_eq_true rfl), (Nat.le_of_ble_eq_true rfl)⟩ rfl rfl rfl rfl (fun q9 => ?_)
  refine sw_astore 13 C dL_petition_13 rfl ?_
  refine sw_iconst 15 C dL_petition_15 1 (by decide) ?_
  refine sw_iret 16 C RC dL_petition_16 ?_
  exact ⟨rfl, rfl⟩
set_option maxHeartbeats 4000000 in
set_option maxRecDepth 100000 in
theorem ct_L_petition_3 (l : Launch) (hfl : l.stackTraces = false) {D : va_G} {cI cJ cQ : ClassId} {x0a a0 a1 a2 a3 a4 a5 a6 a7 tr0 s0 r0 w0 : Nat} {S : StT} {x1 x2 : Int32} (hS : SI S) (i : Nat) (hi : fnd (zf S) x1 (zn S) = some i) (hx : inR x2 0 9 = false) {ao : Nat} {fo : Nat → Int64} : LCt l yL_petition (Cond.codeWith yL_petition cL_petition 5 (some .int) [(0, 10, 13, 13), (0, 10, 17, 15)]) 9 165 1 6 D (tyz cI cJ cQ) [.ref x0a, .int x1, .int x2, .ref ao] (flatS [[(x0a, .inr (6, [.ref a0, .ref tr0, .ref s0, .ref r0, .ref w0]))], (wSt a0 a1 a2 a3 a4 a5 a6 a7 cI (S)), [(ao, .inl (cJ, 1, .inr (.inl (fo))))]]) (pstI 2 (flatS [[(x0a, .inr (6, [.ref a0, .ref tr0, .ref s0, .ref r0, .ref w0]))], (wSt a0 a1 a2 a3 a4 a5 a6 a7 cI (S)), [(ao, .inl (cJ, 1, .inr (.inl (fo))))]])) := by
  refine LCt.of RL (by decide) rfl (Nat.le_of_ble_eq_true rfl) ?_
  intro p e s m below meth c A C RC XT hz hC
  refine sw_aload_n 0 3 C dL_petition_0 rfl rfl ?_
  refine sw_iconst 1 C dL_petition_1 0 (by decide) ?_
  refine sw_aload_n 2 0 C dL_petition_2 rfl rfl ?_
  refine sw_iload_n 3 1 C dL_petition_3 rfl rfl ?_
  refine sw_iload_n 4 2 C dL_petition_4 rfl rfl ?_
  refine xl_catV 5 17 [0, 1] 2 0 "java/lang/IllegalArgumentException" (pre := [⟨0, 10, 13, 13⟩]) (x := ⟨0, 10, 17, 15⟩) (suf := []) C hz XT (fun z hz9 => by cases List.mem_singleton.mp hz9; exact Or.inr ⟨by decide, "java/lang/IndexOutOfBoundsException", C.w wC_L_13, hC.1⟩) (by decide) (by decide) wC_L_15 (by decide) rfl dL_petition_5 (xt_X6_petition_2 l hfl hS i hi hx) (fun _ h => h) wK_X6_petition wM_L_49 wN_X6_petition wS_X6_X6_petition wI_X6 hd_X6_petition rfl rfl rfl ⟨rfl, rfl⟩ ⟨(Nat.le_of_ble_eq_true rfl), (Nat.le_of_ble_eq_true rfl)⟩ rfl rfl rfl rfl (fun q9 => ?_)
  refine sw_astore 17 C dL_petition_17 rfl ?_
  refine sw_iconst 19 C dL_petition_19 2 (by decide) ?_
  refine sw_iret 20 C RC dL_petition_20 ?_
  exact ⟨rfl, rfl⟩
set_option maxHeartbeats 4000000 in
set_option maxRecDepth 100000 in
theorem ct_L_sentBy (l : Launch) (hfl : l.stackTraces = false) {D : va_G} {cI cJ cQ : ClassId} {x0a a0 a1 a2 a3 a4 a5 a6 a7 tr0 s0 r0 w0 : Nat} {S : StT} {x1 : Int32} (hS : SI S) (hx : inR x1 0 7 = true) {ao : Nat} {fo : Nat → Int64} : LCt l yL_sentBy (Cond.codeWith yL_sentBy cL_sentBy 4 (some .int) [(0, 9, 12, 15)]) 9 163 0 0 D (tyz cI cJ cQ) [.ref x0a, .int x1, .ref ao] (flatS [[(x0a, .inr (6, [.ref a0, .ref tr0, .ref s0, .ref r0, .ref w0]))], (wSt a0 a1 a2 a3 a4 a5 a6 a7 cI (S)), [(ao, .inl (cJ, 1, .inr (.inl (fo))))]]) (pstI 0 (flatS [[(x0a, .inr (6, [.ref a0, .ref tr0, .ref s0, .ref r0, .ref w0]))], (wSt a0 a1 a2 a3 a4 a5 a6 a7 cI (S)), [(ao, .inl (cJ, 1, .inr (.inl (vp_updL fo 0 (nI (ct (isOf (zf S) x1) (zn S))).toInt64))))]])) := by
  refine LCt.of RL (by decide) rfl (Nat.le_of_ble_eq_true rfl) ?_
  intro p e s m below meth c A C RC XT hz hC
  refine sw_aload_n 0 2 C dL_sentBy_0 rfl rfl ?_
  refine sw_iconst 1 C dL_sentBy_1 0 (by decide) ?_
  refine sw_aload_n 2 0 C dL_sentBy_2 rfl rfl ?_
  refine sw_iload_n 3 1 C dL_sentBy_3 rfl rfl ?_
  refine sg_callVI 4 [0, 1] 1 0 [_, _] C dL_sentBy_4 (ct_X6_sentBy l hS hx) wK_X6_sentBy wM_L_55 wN_X6_sentBy wS_X6_X6_sentBy wI_X6 hd_X6_sentBy rfl rfl rfl ⟨rfl, rfl⟩ ⟨Nat.le_of_ble_eq_true rfl, Nat.le_of_ble_eq_true rfl⟩ rfl rfl rfl rfl rfl rfl ?_
  refine sg_segs [_, _, _] rfl ?_
  refine sw_i2l 7 C dL_sentBy_7 ?_
  refine sg_lastN 8 2 0 1 (0) C dL_sentBy_8 rfl (by decide) rfl rfl rfl rfl ?_
  refine sg_segs [_, _, [(_, .inl (_, _, .inr (.inl _)))]] rfl ?_
  refine sw_goto 9 15 C dL_sentBy_9 (by decide) ?_
  refine sw_iconst 15 C dL_sentBy_15 0 (by decide) ?_
  refine sw_iret 16 C RC dL_sentBy_16 ?_
  exact ⟨rfl, rfl⟩
set_option maxHeartbeats 4000000 in
set_option maxRecDepth 100000 in
theorem ct_L_sentBy_2 (l : Launch) (hfl : l.stackTraces = false) {D : va_G} {cI cJ cQ : ClassId} {x0a a0 a1 a2 a3 a4 a5 a6 a7 tr0 s0 r0 w0 : Nat} {S : StT} {x1 : Int32} (hx : inR x1 0 7 = false) {ao : Nat} {fo : Nat → Int64} : LCt l yL_sentBy (Cond.codeWith yL_sentBy cL_sentBy 4 (some .int) [(0, 9, 12, 15)]) 9 163 1 6 D (tyz cI cJ cQ) [.ref x0a, .int x1, .ref ao] (flatS [[(x0a, .inr (6, [.ref a0, .ref tr0, .ref s0, .ref r0, .ref w0]))], (wSt a0 a1 a2 a3 a4 a5 a6 a7 cI (S)), [(ao, .inl (cJ, 1, .inr (.inl (fo))))]]) (pstI 1 (flatS [[(x0a, .inr (6, [.ref a0, .ref tr0, .ref s0, .ref r0, .ref w0]))], (wSt a0 a1 a2 a3 a4 a5 a6 a7 cI (S)), [(ao, .inl (cJ, 1, .inr (.inl (fo))))]])) := by
  refine LCt.of RL (by decide) rfl (Nat.le_of_ble_eq_true rfl) ?_
  intro p e s m below meth c A C RC XT hz hC
  refine sw_aload_n 0 2 C dL_sentBy_0 rfl rfl ?_
  refine sw_iconst 1 C dL_sentBy_1 0 (by decide) ?_
  refine sw_aload_n 2 0 C dL_sentBy_2 rfl rfl ?_
  refine sw_iload_n 3 1 C dL_sentBy_3 rfl rfl ?_
  refine xl_catV 4 12 [0, 1] 1 0 "java/lang/IllegalArgumentException" (pre := []) (x := ⟨0, 9, 12, 15⟩) (suf := []) C hz XT (fun z hz9 => nomatch hz9) (by decide) (by decide) wC_L_15 (by decide) rfl dL_sentBy_4 (xt_X6_sentBy l hfl hx) (fun _ h => h) wK_X6_sentBy wM_L_55 wN_X6_sentBy wS_X6_X6_sentBy wI_X6 hd_X6_sentBy rfl rfl rfl ⟨rfl, rfl⟩ ⟨(Nat.le_of_ble_eq_true rfl), (Nat.le_of_ble_eq_true rfl)⟩ rfl rfl rfl rfl (fun q9 => ?_)
  refine sw_astore_n 12 3 C dL_sentBy_12 rfl rfl ?_
  refine sw_iconst 13 C dL_sentBy_13 1 (by decide) ?_
  refine sw_iret 14 C RC dL_sentBy_14 ?_
  exact ⟨rfl, rfl⟩
set_option maxHeartbeats 4000000 in
set_option maxRecDepth 100000 in
theorem ct_L_ofRank (l : Launch) (hfl : l.stackTraces = false) {D : va_G} {cI cJ cQ : ClassId} {x0a a0 a1 a2 a3 a4 a5 a6 a7 tr0 s0 r0 w0 : Nat} {S : StT} {x1 : Int32} (hS : SI S) (hx : inR x1 0 4 = true) {ao : Nat} {fo : Nat → Int64} : LCt l yL_ofRank (Cond.codeWith yL_ofRank cL_ofRank 4 (some .int) [(0, 9, 12, 15)]) 9 163 0 0 D (tyz cI cJ cQ) [.ref x0a, .int x1, .ref ao] (flatS [[(x0a, .inr (6, [.ref a0, .ref tr0, .ref s0, .ref r0, .ref w0]))], (wSt a0 a1 a2 a3 a4 a5 a6 a7 cI (S)), [(ao, .inl (cJ, 1, .inr (.inl (fo))))]]) (pstI 0 (flatS [[(x0a, .inr (6, [.ref a0, .ref tr0, .ref s0, .ref r0, .ref w0]))], (wSt a0 a1 a2 a3 a4 a5 a6 a7 cI (S)), [(ao, .inl (cJ, 1, .inr (.inl (vp_updL fo 0 (nI (ct (isRk (zf S) x1) (zn S))).toInt64))))]])) := by
  refine LCt.of RL (by decide) rfl (Nat.le_of_ble_eq_true rfl) ?_
  intro p e s m below meth c A C RC XT hz hC
  refine sw_aload_n 0 2 C dL_ofRank_0 rfl rfl ?_
  refine sw_iconst 1 C dL_ofRank_1 0 (by decide) ?_
  refine sw_aload_n 2 0 C dL_ofRank_2 rfl rfl ?_
  refine sw_iload_n 3 1 C dL_ofRank_3 rfl rfl ?_
  refine sg_callVI 4 [0, 1] 1 0 [_, _] C dL_ofRank_4 (ct_X6_ofRank l hS hx) wK_X6_ofRank wM_L_67 wN_X6_ofRank wS_X6_X6_ofRank wI_X6 hd_X6_ofRank rfl rfl rfl ⟨rfl, rfl⟩ ⟨Nat.le_of_ble_eq_true rfl, Nat.le_of_ble_eq_true rfl⟩ rfl rfl rfl rfl rfl rfl ?_
  refine sg_segs [_, _, _] rfl ?_
  refine sw_i2l 7 C dL_ofRank_7 ?_
  refine sg_lastN 8 2 0 1 (0) C dL_ofRank_8 rfl (by decide) rfl rfl rfl rfl ?_
  refine sg_segs [_, _, [(_, .inl (_, _, .inr (.inl _)))]] rfl ?_
  refine sw_goto 9 15 C dL_ofRank_9 (by decide) ?_
  refine sw_iconst 15 C dL_ofRank_15 0 (by decide) ?_
  refine sw_iret 16 C RC dL_ofRank_16 ?_
  exact ⟨rfl, rfl⟩
set_option maxHeartbeats 4000000 in
set_option maxRecDepth 100000 in
theorem ct_L_ofRank_2 (l : Launch) (hfl : l.stackTraces = false) {D : va_G} {cI cJ cQ : ClassId} {x0a a0 a1 a2 a3 a4 a5 a6 a7 tr0 s0 r0 w0 : Nat} {S : StT} {x1 : Int32} (hx : inR x1 0 4 = false) {ao : Nat} {fo : Nat → Int64} : LCt l yL_ofRank (Cond.codeWith yL_ofRank cL_ofRank 4 (some .int) [(0, 9, 12, 15)]) 9 163 1 6 D (tyz cI cJ cQ) [.ref x0a, .int x1, .ref ao] (flatS [[(x0a, .inr (6, [.ref a0, .ref tr0, .ref s0, .ref r0, .ref w0]))], (wSt a0 a1 a2 a3 a4 a5 a6 a7 cI (S)), [(ao, .inl (cJ, 1, .inr (.inl (fo))))]]) (pstI 1 (flatS [[(x0a, .inr (6, [.ref a0, .ref tr0, .ref s0, .ref r0, .ref w0]))], (wSt a0 a1 a2 a3 a4 a5 a6 a7 cI (S)), [(ao, .inl (cJ, 1, .inr (.inl (fo))))]])) := by
  refine LCt.of RL (by decide) rfl (Nat.le_of_ble_eq_true rfl) ?_
  intro p e s m below meth c A C RC XT hz hC
  refine sw_aload_n 0 2 C dL_ofRank_0 rfl rfl ?_
  refine sw_iconst 1 C dL_ofRank_1 0 (by decide) ?_
  refine sw_aload_n 2 0 C dL_ofRank_2 rfl rfl ?_
  refine sw_iload_n 3 1 C dL_ofRank_3 rfl rfl ?_
  refine xl_catV 4 12 [0, 1] 1 0 "java/lang/IllegalArgumentException" (pre := []) (x := ⟨0, 9, 12, 15⟩) (suf := []) C hz XT (fun z hz9 => nomatch hz9) (by decide) (by decide) wC_L_15 (by decide) rfl dL_ofRank_4 (xt_X6_ofRank l hfl hx) (fun _ h => h) wK_X6_ofRank wM_L_67 wN_X6_ofRank wS_X6_X6_ofRank wI_X6 hd_X6_ofRank rfl rfl rfl ⟨rfl, rfl⟩ ⟨(Nat.le_of_ble_eq_true rfl), (Nat.le_of_ble_eq_true rfl)⟩ rfl rfl rfl rfl (fun q9 => ?_)
  refine sw_astore_n 12 3 C dL_ofRank_12 rfl rfl ?_
  refine sw_iconst 13 C dL_ofRank_13 1 (by decide) ?_
  refine sw_iret 14 C RC dL_ofRank_14 ?_
  exact ⟨rfl, rfl⟩
set_option maxHeartbeats 4000000 in
set_option maxRecDepth 100000 in
theorem ct_L_returned (l : Launch) (hfl : l.stackTraces = false) {D : va_G} {cI cJ cQ : ClassId} {x0a a0 a1 a2 a3 a4 a5 a6 a7 tr0 s0 r0 w0 : Nat} {S : StT} {x1 : Int32} (i : Nat) (h1 : x1 = nI i) (hi : i < 8) {ao : Nat} {fo : Nat → Int64} : LCt l yL_returned (Cond.codeWith yL_returned cL_returned 4 (some .int) [(0, 9, 12, 15)]) 9 163 0 0 D (tyz cI cJ cQ) [.ref x0a, .int x1, .ref ao] (flatS [[(x0a, .inr (6, [.ref a0, .ref tr0, .ref s0, .ref r0, .ref w0]))], (wSt a0 a1 a2 a3 a4 a5 a6 a7 cI (S)), [(ao, .inl (cJ, 1, .inr (.inl (fo))))]]) (pstI 0 (flatS [[(x0a, .inr (6, [.ref a0, .ref tr0, .ref s0, .ref r0, .ref w0]))], (wSt a0 a1 a2 a3 a4 a5 a6 a7 cI (S)), [(ao, .inl (cJ, 1, .inr (.inl (vp_updL fo 0 (zbk S i).toInt64))))]])) := by
  refine LCt.of RL (by decide) rfl (Nat.le_of_ble_eq_true rfl) ?_
  intro p e s m below meth c A C RC XT hz hC
  refine sw_aload_n 0 2 C dL_returned_0 rfl rfl ?_
  refine sw_iconst 1 C dL_returned_1 0 (by decide) ?_
  refine sw_aload_n 2 0 C dL_returned_2 rfl rfl ?_
  refine sw_iload_n 3 1 C dL_returned_3 rfl rfl ?_
  refine sg_callVI 4 [0, 1] 1 0 [_, _] C dL_returned_4 (ct_X6_returned l i h1 hi) wK_X6_returned wM_L_58 wN_X6_returned wS_X6_X6_returned wI_X6 hd_X6_returned rfl rfl rfl ⟨rfl, rfl⟩ ⟨Nat.le_of_ble_eq_true rfl, Nat.le_of_ble_eq_true rfl⟩ rfl rfl rfl rfl rfl rfl ?_
  refine sg_segs [_, _, _] rfl ?_
  refine sw_i2l 7 C dL_returned_7 ?_
  refine sg_lastN 8 2 0 1 (0) C dL_returned_8 rfl (by decide) rfl rfl rfl rfl ?_
  refine sg_segs [_, _, [(_, .inl (_, _, .inr (.inl _)))]] rfl ?_
  refine sw_goto 9 15 C dL_returned_9 (by decide) ?_
  refine sw_iconst 15 C dL_returned_15 0 (by decide) ?_
  refine sw_iret 16 C RC dL_returned_16 ?_
  exact ⟨rfl, rfl⟩
set_option maxHeartbeats 4000000 in
set_option maxRecDepth 100000 in
theorem ct_L_returned_2 (l : Launch) (hfl : l.stackTraces = false) {D : va_G} {cI cJ cQ : ClassId} {x0a a0 a1 a2 a3 a4 a5 a6 a7 tr0 s0 r0 w0 : Nat} {S : StT} {x1 : Int32} (hx : inR x1 0 7 = false) {ao : Nat} {fo : Nat → Int64} : LCt l yL_returned (Cond.codeWith yL_returned cL_returned 4 (some .int) [(0, 9, 12, 15)]) 9 163 1 6 D (tyz cI cJ cQ) [.ref x0a, .int x1, .ref ao] (flatS [[(x0a, .inr (6, [.ref a0, .ref tr0, .ref s0, .ref r0, .ref w0]))], (wSt a0 a1 a2 a3 a4 a5 a6 a7 cI (S)), [(ao, .inl (cJ, 1, .inr (.inl (fo))))]]) (pstI 1 (flatS [[(x0a, .inr (6, [.ref a0, .ref tr0, .ref s0, .ref r0, .ref w0]))], (wSt a0 a1 a2 a3 a4 a5 a6 a7 cI (S)), [(ao, .inl (cJ, 1, .inr (.inl (fo))))]])) := by
  refine LCt.of RL (by decide) rfl (Nat.le_of_ble_eq_true rfl) ?_
  intro p e s m below meth c A C RC XT hz hC
  refine sw_aload_n 0 2 C dL_returned_0 rfl rfl ?_
  refine sw_iconst 1 C dL_returned_1 0 (by decide) ?_
  refine sw_aload_n 2 0 C dL_returned_2 rfl rfl ?_
  refine sw_iload_n 3 1 C dL_returned_3 rfl rfl ?_
  refine xl_catV 4 12 [0, 1] 1 0 "java/lang/IllegalArgumentException" (pre := []) (x := ⟨0, 9, 12, 15⟩) (suf := []) C hz XT (fun z hz9 => nomatch hz9) (by decide) (by decide) wC_L_15 (by decide) rfl dL_returned_4 (xt_X6_returned l hfl hx) (fun _ h => h) wK_X6_returned wM_L_58 wN_X6_returned wS_X6_X6_returned wI_X6 hd_X6_returned rfl rfl rfl ⟨rfl, rfl⟩ ⟨(Nat.le_of_ble_eq_true rfl), (Nat.le_of_ble_eq_true rfl)⟩ rfl rfl rfl rfl (fun q9 => ?_)
  refine sw_astore_n 12 3 C dL_returned_12 rfl rfl ?_
  refine sw_iconst 13 C dL_returned_13 1 (by decide) ?_
  refine sw_iret 14 C RC dL_returned_14 ?_
  exact ⟨rfl, rfl⟩
set_option maxHeartbeats 4000000 in
set_option maxRecDepth 100000 in
theorem ct_L_value (l : Launch) (hfl : l.stackTraces = false) {D : va_G} {cI cJ cQ : ClassId} {x0a a0 a1 a2 a3 a4 a5 a6 a7 tr0 s0 r0 w0 : Nat} {S : StT} {x1 : Int32} (hS : SI S) (w : Nat) (h1 : x1 = nI w) (hw : w ≤ 13) {ao : Nat} {fo : Nat → Int64} : LCt l yL_value (Cond.codeWith yL_value cL_value 4 (some .int) [(0, 9, 12, 15)]) 9 163 0 0 D (tyz cI cJ cQ) [.ref x0a, .int x1, .ref ao] (flatS [[(x0a, .inr (6, [.ref a0, .ref tr0, .ref s0, .ref r0, .ref w0]))], (wSt a0 a1 a2 a3 a4 a5 a6 a7 cI (S)), [(ao, .inl (cJ, 1, .inr (.inl (fo))))]]) (pstI 0 (flatS [[(x0a, .inr (6, [.ref a0, .ref tr0, .ref s0, .ref r0, .ref w0]))], (wSt a0 a1 a2 a3 a4 a5 a6 a7 cI (S)), [(ao, .inl (cJ, 1, .inr (.inl (vp_updL fo 0 (fig (zq S) (zg S) (zv S) (zt S) (zp S) (zk S) (zn S) (zl S) (zf S) (zlv S) (zbk S) w).toInt64))))]])) := by
  refine LCt.of RL (by decide) rfl (Nat.le_of_ble_eq_true rfl) ?_
  intro p e s m below meth c A C RC XT hz hC
  refine sw_aload_n 0 2 C dL_value_0 rfl rfl ?_
  refine sw_iconst 1 C dL_value_1 0 (by decide) ?_
  refine sw_aload_n 2 0 C dL_value_2 rfl rfl ?_
  refine sw_iload_n 3 1 C dL_value_3 rfl rfl ?_
  refine sg_callVI 4 [0, 1] 1 0 [_, _] C dL_value_4 (ct_X6_value l hS w h1 hw) wK_X6_value wM_L_64 wN_X6_value wS_X6_X6_value wI_X6 hd_X6_value rfl rfl rfl ⟨rfl, rfl⟩ ⟨Nat.le_of_ble_eq_true rfl, Nat.le_of_ble_eq_true rfl⟩ rfl rfl rfl rfl rfl rfl ?_
  refine sg_segs [_, _, _] rfl ?_
  refine sw_i2l 7 C dL_value_7 ?_
  refine sg_lastN 8 2 0 1 (0) C dL_value_8 rfl (by decide) rfl rfl rfl rfl ?_
  refine sg_segs [_, _, [(_, .inl (_, _, .inr (.inl _)))]] rfl ?_
  refine sw_goto 9 15 C dL_value_9 (by decide) ?_
  refine sw_iconst 15 C dL_value_15 0 (by decide) ?_
  refine sw_iret 16 C RC dL_value_16 ?_
  exact ⟨rfl, rfl⟩
set_option maxHeartbeats 4000000 in
set_option maxRecDepth 100000 in
theorem ct_L_value_2 (l : Launch) (hfl : l.stackTraces = false) {D : va_G} {cI cJ cQ : ClassId} {x0a a0 a1 a2 a3 a4 a5 a6 a7 tr0 s0 r0 w0 : Nat} {S : StT} {x1 : Int32} (hx : inR x1 0 13 = false) {ao : Nat} {fo : Nat → Int64} : LCt l yL_value (Cond.codeWith yL_value cL_value 4 (some .int) [(0, 9, 12, 15)]) 9 163 1 6 D (tyz cI cJ cQ) [.ref x0a, .int x1, .ref ao] (flatS [[(x0a, .inr (6, [.ref a0, .ref tr0, .ref s0, .ref r0, .ref w0]))], (wSt a0 a1 a2 a3 a4 a5 a6 a7 cI (S)), [(ao, .inl (cJ, 1, .inr (.inl (fo))))]]) (pstI 1 (flatS [[(x0a, .inr (6, [.ref a0, .ref tr0, .ref s0, .ref r0, .ref w0]))], (wSt a0 a1 a2 a3 a4 a5 a6 a7 cI (S)), [(ao, .inl (cJ, 1, .inr (.inl (fo))))]])) := by
  refine LCt.of RL (by decide) rfl (Nat.le_of_ble_eq_true rfl) ?_
  intro p e s m below meth c A C RC XT hz hC
  refine sw_aload_n 0 2 C dL_value_0 rfl rfl ?_
  refine sw_iconst 1 C dL_value_1 0 (by decide) ?_
  refine sw_aload_n 2 0 C dL_value_2 rfl rfl ?_
  refine sw_iload_n 3 1 C dL_value_3 rfl rfl ?_
  refine xl_catV 4 12 [0, 1] 1 0 "java/lang/IllegalArgumentException" (pre := []) (x := ⟨0, 9, 12, 15⟩) (suf := []) C hz XT (fun z hz9 => nomatch hz9) (by decide) (by decide) wC_L_15 (by decide) rfl dL_value_4 (xt_X6_value l hfl hx) (fun _ h => h) wK_X6_value wM_L_64 wN_X6_value wS_X6_X6_value wI_X6 hd_X6_value rfl rfl rfl ⟨rfl, rfl⟩ ⟨(Nat.le_of_ble_eq_true rfl), (Nat.le_of_ble_eq_true rfl)⟩ rfl rfl rfl rfl (fun q9 => ?_)
  refine sw_astore_n 12 3 C dL_value_12 rfl rfl ?_
  refine sw_iconst 13 C dL_value_13 1 (by decide) ?_
  refine sw_iret 14 C RC dL_value_14 ?_
  exact ⟨rfl, rfl⟩
set_option maxHeartbeats 4000000 in
set_option maxRecDepth 100000 in
theorem ct_L_entry (l : Launch) (hfl : l.stackTraces = false) {D : va_G} {cI cJ cQ : ClassId} {x0a a0 a1 a2 a3 a4 a5 a6 a7 tr0 s0 r0 w0 : Nat} {S : StT} {x1 x2 : Int32} (hS : SI S) (i w : Nat) (h1 : x1 = nI i) (hi : i < zl S) (h2 : x2 = nI w) (hw : w < 5) {ao : Nat} {fo : Nat → Int64} : LCt l yL_entry (Cond.codeWith yL_entry cL_entry 5 (some .int) [(0, 10, 13, 13), (0, 10, 17, 15)]) 9 164 0 0 D (tyz cI cJ cQ) [.ref x0a, .int x1, .int x2, .ref ao] (flatS [[(x0a, .inr (6, [.ref a0, .ref tr0, .ref s0, .ref r0, .ref w0]))], (wSt a0 a1 a2 a3 a4 a5 a6 a7 cI (S)), [(ao, .inl (cJ, 1, .inr (.inl (fo))))]]) (pstI 0 (flatS [[(x0a, .inr (6, [.ref a0, .ref tr0, .ref s0, .ref r0, .ref w0]))], (wSt a0 a1 a2 a3 a4 a5 a6 a7 cI (S)), [(ao, .inl (cJ, 1, .inr (.inl (vp_updL fo 0 (zlg S (i * 5 + w)).toInt64))))]])) := by
  refine LCt.of RL (by decide) rfl (Nat.le_of_ble_eq_true rfl) ?_
  intro p e s m below meth c A C RC XT hz hC
  refine sw_aload_n 0 3 C dL_entry_0 rfl rfl ?_
  refine sw_iconst 1 C dL_entry_1 0 (by decide) ?_
  refine sw_aload_n 2 0 C dL_entry_2 rfl rfl ?_
  refine sw_iload_n 3 1 C dL_entry_3 rfl rfl ?_
  refine sw_iload_n 4 2 C dL_entry_4 rfl rfl ?_
  refine sg_callVI 5 [0, 1] 2 0 [_, _] C dL_entry_5 (ct_X6_entry l hS i w h1 hi h2 hw) wK_X6_entry wM_L_61 wN_X6_entry wS_X6_X6_entry wI_X6 hd_X6_entry rfl rfl rfl ⟨rfl, rfl⟩ ⟨Nat.le_of_ble_eq_true rfl, Nat.le_of_ble_eq_true rfl⟩ rfl rfl rfl rfl rfl rfl ?_
  refine sg_segs [_, _, _] rfl ?_
  refine sw_i2l 8 C dL_entry_8 ?_
  refine sg_lastN 9 2 0 1 (0) C dL_entry_9 rfl (by decide) rfl rfl rfl rfl ?_
  refine sg_segs [_, _, [(_, .inl (_, _, .inr (.inl _)))]] rfl ?_
  refine sw_goto 10 21 C dL_entry_10 (by decide) ?_
  refine sw_iconst 21 C dL_entry_21 0 (by decide) ?_
  refine sw_iret 22 C RC dL_entry_22 ?_
  exact ⟨rfl, rfl⟩
set_option maxHeartbeats 4000000 in
set_option maxRecDepth 100000 in
theorem ct_L_entry_2 (l : Launch) (hfl : l.stackTraces = false) {D : va_G} {cI cJ cQ : ClassId} {x0a a0 a1 a2 a3 a4 a5 a6 a7 tr0 s0 r0 w0 : Nat} {S : StT} {x1 x2 : Int32} (h : x1 < 0 ∨ nI (zl S) ≤ x1) {ao : Nat} {fo : Nat → Int64} : LCt l yL_entry (Cond.codeWith yL_entry cL_entry 5 (some .int) [(0, 10, 13, 13), (0, 10, 17, 15)]) 9 164 1 6 D (tyz cI cJ cQ) [.ref x0a, .int x1, .int x2, .ref ao] (flatS [[(x0a, .inr (6, [.ref a0, .ref tr0, .ref s0, .ref r0, .ref w0]))], (wSt a0 a1 a2 a3 a4 a5 a6 a7 cI (S)), [(ao, .inl (cJ, 1, .inr (.inl (fo))))]]) (pstI 1 (flatS [[(x0a, .inr (6, [.ref a0, .ref tr0, .ref s0, .ref r0, .ref w0]))], (wSt a0 a1 a2 a3 a4 a5 a6 a7 cI (S)), [(ao, .inl (cJ, 1, .inr (.inl (fo))))]])) := by
  refine LCt.of RL (by decide) rfl (Nat.le_of_ble_eq_true rfl) ?_
  intro p e s m below meth c A C RC XT hz hC
  refine sw_aload_n 0 3 C dL_entry_0 rfl rfl ?_
  refine sw_iconst 1 C dL_entry_1 0 (by decide) ?_
  refine sw_aload_n 2 0 C dL_entry_2 rfl rfl ?_
  refine sw_iload_n 3 1 C dL_entry_3 rfl rfl ?_
  refine sw_iload_n 4 2 C dL_entry_4 rfl rfl ?_
  refine xl_catV 5 13 [0, 1] 2 0 "java/lang/IndexOutOfBoundsException" (pre := []) (x := ⟨0, 10, 13, 13⟩) (suf := [⟨0, 10, 17, 15⟩]) C hz XT (fun z hz9 => nomatch hz9) (by decide) (by decide) wC_L_13 (by decide) rfl dL_entry_5 (xt_X6_entry l hfl h) (fun _ h => h) wK_X6_entry wM_L_61 wN_X6_entry wS_X6_X6_entry wI_X6 hd_X6_entry rfl rfl rfl ⟨rfl, rfl⟩ ⟨(Nat.le_of_ble_eq_true rfl), (Nat.le_of_ble_eq_true rfl)⟩ rfl rfl rfl rfl (fun q9 => ?_)
  refine sw_astore 13 C dL_entry_13 rfl ?_
  refine sw_iconst 15 C dL_entry_15 1 (by decide) ?_
  refine sw_iret 16 C RC dL_entry_16 ?_
  exact ⟨rfl, rfl⟩
set_option maxHeartbeats 4000000 in
set_option maxRecDepth 100000 in
theorem ct_L_entry_3 (l : Launch) (hfl : l.stackTraces = false) {D : va_G} {cI cJ cQ : ClassId} {x0a a0 a1 a2 a3 a4 a5 a6 a7 tr0 s0 r0 w0 : Nat} {S : StT} {x1 x2 : Int32} (hS : SI S) (i : Nat) (h1 : x1 = nI i) (hi : i < zl S) (hx : inR x2 0 4 = false) {ao : Nat} {fo : Nat → Int64} : LCt l yL_entry (Cond.codeWith yL_entry cL_entry 5 (some .int) [(0, 10, 13, 13), (0, 10, 17, 15)]) 9 164 1 6 D (tyz cI cJ cQ) [.ref x0a, .int x1, .int x2, .ref ao] (flatS [[(x0a, .inr (6, [.ref a0, .ref tr0, .ref s0, .ref r0, .ref w0]))], (wSt a0 a1 a2 a3 a4 a5 a6 a7 cI (S)), [(ao, .inl (cJ, 1, .inr (.inl (fo))))]]) (pstI 2 (flatS [[(x0a, .inr (6, [.ref a0, .ref tr0, .ref s0, .ref r0, .ref w0]))], (wSt a0 a1 a2 a3 a4 a5 a6 a7 cI (S)), [(ao, .inl (cJ, 1, .inr (.inl (fo))))]])) := by
  refine LCt.of RL (by decide) rfl (Nat.le_of_ble_eq_true rfl) ?_
  intro p e s m below meth c A C RC XT hz hC
  refine sw_aload_n 0 3 C dL_entry_0 rfl rfl ?_
  refine sw_iconst 1 C dL_entry_1 0 (by decide) ?_
  refine sw_aload_n 2 0 C dL_entry_2 rfl rfl ?_
  refine sw_iload_n 3 1 C dL_entry_3 rfl rfl ?_
  refine sw_iload_n 4 2 C dL_entry_4 rfl rfl ?_
  refine xl_catV 5 17 [0, 1] 2 0 "java/lang/IllegalArgumentException" (pre := [⟨0, 10, 13, 13⟩]) (x := ⟨0, 10, 17, 15⟩) (suf := []) C hz XT (fun z hz9 => by cases List.mem_singleton.mp hz9; exact Or.inr ⟨by decide, "java/lang/IndexOutOfBoundsException", C.w wC_L_13, hC.1⟩) (by decide) (by decide) wC_L_15 (by decide) rfl dL_entry_5 (xt_X6_entry_2 l hfl hS i h1 hi hx) (fun _ h => h) wK_X6_entry wM_L_61 wN_X6_entry wS_X6_X6_entry wI_X6 hd_X6_entry rfl rfl rfl ⟨rfl, rfl⟩ ⟨(Nat.le_of_ble_eq_true rfl), (Nat.le_of_ble_eq_true rfl)⟩ rfl rfl rfl rfl (fun q9 => ?_)
  refine sw_astore 17 C dL_entry_17 rfl ?_
  refine sw_iconst 19 C dL_entry_19 2 (by decide) ?_
  refine sw_iret 20 C RC dL_entry_20 ?_
  exact ⟨rfl, rfl⟩
set_option maxHeartbeats 4000000 in
set_option maxRecDepth 100000 in
theorem ct_L_bribeToLead (l : Launch) (hfl : l.stackTraces = false) {D : va_G} {cI cJ cQ : ClassId} {x0a a0 a1 a2 a3 a4 a5 a6 a7 tr0 s0 r0 w0 : Nat} {S : StT} {x1 : Int32} (hS : SI S) (hx : inR x1 0 4 = true) {ao : Nat} {fo : Nat → Int64} : LCt l yL_bribeToLead (Cond.codeWith yL_bribeToLead cL_bribeToLead 4 (some .int) [(0, 9, 12, 15)]) 9 164 0 0 D (tyz cI cJ cQ) [.ref x0a, .int x1, .ref ao] (flatS [[(x0a, .inr (6, [.ref a0, .ref tr0, .ref s0, .ref r0, .ref w0]))], (wSt a0 a1 a2 a3 a4 a5 a6 a7 cI (S)), [(ao, .inl (cJ, 1, .inr (.inl (fo))))]]) (pstI 0 (flatS [[(x0a, .inr (6, [.ref a0, .ref tr0, .ref s0, .ref r0, .ref w0]))], (wSt a0 a1 a2 a3 a4 a5 a6 a7 cI (S)), [(ao, .inl (cJ, 1, .inr (.inl (vp_updL fo 0 (brl (ldr (zf S) (zn S) + 1) x1).toInt64))))]])) := by
  refine LCt.of RL (by decide) rfl (Nat.le_of_ble_eq_true rfl) ?_
  intro p e s m below meth c A C RC XT hz hC
  refine sw_aload_n 0 2 C dL_bribeToLead_0 rfl rfl ?_
  refine sw_iconst 1 C dL_bribeToLead_1 0 (by decide) ?_
  refine sw_aload_n 2 0 C dL_bribeToLead_2 rfl rfl ?_
  refine sw_iload_n 3 1 C dL_bribeToLead_3 rfl rfl ?_
  refine sg_callVI 4 [0, 1] 1 0 [_, _] C dL_bribeToLead_4 (ct_X6_bribeToLead l hS hx) wK_X6_bribeToLead wM_L_76 wN_X6_bribeToLead wS_X6_X6_bribeToLead wI_X6 hd_X6_bribeToLead rfl rfl rfl ⟨rfl, rfl⟩ ⟨Nat.le_of_ble_eq_true rfl, Nat.le_of_ble_eq_true rfl⟩ rfl rfl rfl rfl rfl rfl ?_
  refine sg_segs [_, _, _] rfl ?_
  refine sw_i2l 7 C dL_bribeToLead_7 ?_
  refine sg_lastN 8 2 0 1 (0) C dL_bribeToLead_8 rfl (by decide) rfl rfl rfl rfl ?_
  refine sg_segs [_, _, [(_, .inl (_, _, .inr (.inl _)))]] rfl ?_
  refine sw_goto 9 15 C dL_bribeToLead_9 (by decide) ?_
  refine sw_iconst 15 C dL_bribeToLead_15 0 (by decide) ?_
  refine sw_iret 16 C RC dL_bribeToLead_16 ?_
  exact ⟨rfl, rfl⟩
set_option maxHeartbeats 4000000 in
set_option maxRecDepth 100000 in
theorem ct_L_bribeToLead_2 (l : Launch) (hfl : l.stackTraces = false) {D : va_G} {cI cJ cQ : ClassId} {x0a a0 a1 a2 a3 a4 a5 a6 a7 tr0 s0 r0 w0 : Nat} {S : StT} {x1 : Int32} (hx : inR x1 0 4 = false) {ao : Nat} {fo : Nat → Int64} : LCt l yL_bribeToLead (Cond.codeWith yL_bribeToLead cL_bribeToLead 4 (some .int) [(0, 9, 12, 15)]) 9 164 1 6 D (tyz cI cJ cQ) [.ref x0a, .int x1, .ref ao] (flatS [[(x0a, .inr (6, [.ref a0, .ref tr0, .ref s0, .ref r0, .ref w0]))], (wSt a0 a1 a2 a3 a4 a5 a6 a7 cI (S)), [(ao, .inl (cJ, 1, .inr (.inl (fo))))]]) (pstI 1 (flatS [[(x0a, .inr (6, [.ref a0, .ref tr0, .ref s0, .ref r0, .ref w0]))], (wSt a0 a1 a2 a3 a4 a5 a6 a7 cI (S)), [(ao, .inl (cJ, 1, .inr (.inl (fo))))]])) := by
  refine LCt.of RL (by decide) rfl (Nat.le_of_ble_eq_true rfl) ?_
  intro p e s m below meth c A C RC XT hz hC
  refine sw_aload_n 0 2 C dL_bribeToLead_0 rfl rfl ?_
  refine sw_iconst 1 C dL_bribeToLead_1 0 (by decide) ?_
  refine sw_aload_n 2 0 C dL_bribeToLead_2 rfl rfl ?_
  refine sw_iload_n 3 1 C dL_bribeToLead_3 rfl rfl ?_
  refine xl_catV 4 12 [0, 1] 1 0 "java/lang/IllegalArgumentException" (pre := []) (x := ⟨0, 9, 12, 15⟩) (suf := []) C hz XT (fun z hz9 => nomatch hz9) (by decide) (by decide) wC_L_15 (by decide) rfl dL_bribeToLead_4 (xt_X6_bribeToLead l hfl hx) (fun _ h => h) wK_X6_bribeToLead wM_L_76 wN_X6_bribeToLead wS_X6_X6_bribeToLead wI_X6 hd_X6_bribeToLead rfl rfl rfl ⟨rfl, rfl⟩ ⟨(Nat.le_of_ble_eq_true rfl), (Nat.le_of_ble_eq_true rfl)⟩ rfl rfl rfl rfl (fun q9 => ?_)
  refine sw_astore_n 12 3 C dL_bribeToLead_12 rfl rfl ?_
  refine sw_iconst 13 C dL_bribeToLead_13 1 (by decide) ?_
  refine sw_iret 14 C RC dL_bribeToLead_14 ?_
  exact ⟨rfl, rfl⟩
set_option maxHeartbeats 4000000 in
set_option maxRecDepth 100000 in
theorem ct_L_peek (l : Launch) (hfl : l.stackTraces = false) {D : va_G} {cI cJ cQ : ClassId} {x0a a0 a1 a2 a3 a4 a5 a6 a7 tr0 s0 r0 w0 : Nat} {S : StT} {g : Nat → Int32} {x1 : Int32} (hS : SI S) (k i : Nat) (h1 : x1 = nI k) (hk : k < zn S) (hi : i < zn S) (hg : arrg (zf S) (zn S) g (zn S) k = nI i) {ao : Nat} {fo : Nat → Int64} : LCt l yL_peek (Cond.codeWith yL_peek cL_peek 4 (some .int) [(0, 9, 12, 13)]) 8 141 0 0 D (tyz cI cJ cQ) [.ref x0a, .int x1, .ref ao] (flatS [[(x0a, .inr (6, [.ref a0, .ref tr0, .ref s0, .ref r0, .ref w0]))], (wSt a0 a1 a2 a3 a4 a5 a6 a7 cI (S)), [(w0, .inl (cI, 40, .inl (g)))], [(ao, .inl (cJ, 1, .inr (.inl (fo))))]]) (pstI 0 (flatS [[(x0a, .inr (6, [.ref a0, .ref tr0, .ref s0, .ref r0, .ref w0]))], (wSt a0 a1 a2 a3 a4 a5 a6 a7 cI (S)), [(w0, .inl (cI, 40, .inl (arrg (zf S) (zn S) g (zn S))))], [(ao, .inl (cJ, 1, .inr (.inl (vp_updL fo 0 (zf S (i * 8 + 7)).toInt64))))]])) := by
  refine LCt.of RL (by decide) rfl (Nat.le_of_ble_eq_true rfl) ?_
  intro p e s m below meth c A C RC XT hz hC
  refine sw_aload_n 0 2 C dL_peek_0 rfl rfl ?_
  refine sw_iconst 1 C dL_peek_1 0 (by decide) ?_
  refine sw_aload_n 2 0 C dL_peek_2 rfl rfl ?_
  refine sw_iload_n 3 1 C dL_peek_3 rfl rfl ?_
  refine sg_callVI 4 [0, 1, 2] 1 0 [_, _, _] C dL_peek_4 (ct_X6_peek l hS k i h1 hk hi hg) wK_X6_peek wM_L_52 wN_X6_peek wS_X6_X6_peek wI_X6 hd_X6_peek rfl rfl rfl ⟨rfl, rfl⟩ ⟨Nat.le_of_ble_eq_true rfl, Nat.le_of_ble_eq_true rfl⟩ rfl rfl rfl rfl rfl rfl ?_
  refine sg_segs [_, _, _, _] rfl ?_
  refine sw_i2l 7 C dL_peek_7 ?_
  refine sg_lastN 8 3 0 1 (0) C dL_peek_8 rfl (by decide) rfl rfl rfl rfl ?_
  refine sg_segs [_, _, _, [(_, .inl (_, _, .inr (.inl _)))]] rfl ?_
  refine sw_goto 9 15 C dL_peek_9 (by decide) ?_
  refine sw_iconst 15 C dL_peek_15 0 (by decide) ?_
  refine sw_iret 16 C RC dL_peek_16 ?_
  exact ⟨rfl, rfl⟩
set_option maxHeartbeats 4000000 in
set_option maxRecDepth 100000 in
theorem ct_L_peek_2 (l : Launch) (hfl : l.stackTraces = false) {D : va_G} {cI cJ cQ : ClassId} {x0a a0 a1 a2 a3 a4 a5 a6 a7 tr0 s0 r0 w0 : Nat} {S : StT} {g : Nat → Int32} {x1 : Int32} (hS : SI S) (h : x1 < 0 ∨ nI (zn S) ≤ x1) {ao : Nat} {fo : Nat → Int64} : LCt l yL_peek (Cond.codeWith yL_peek cL_peek 4 (some .int) [(0, 9, 12, 13)]) 8 141 1 6 D (tyz cI cJ cQ) [.ref x0a, .int x1, .ref ao] (flatS [[(x0a, .inr (6, [.ref a0, .ref tr0, .ref s0, .ref r0, .ref w0]))], (wSt a0 a1 a2 a3 a4 a5 a6 a7 cI (S)), [(w0, .inl (cI, 40, .inl (g)))], [(ao, .inl (cJ, 1, .inr (.inl (fo))))]]) (pstI 1 (flatS [[(x0a, .inr (6, [.ref a0, .ref tr0, .ref s0, .ref r0, .ref w0]))], (wSt a0 a1 a2 a3 a4 a5 a6 a7 cI (S)), [(w0, .inl (cI, 40, .inl (g)))], [(ao, .inl (cJ, 1, .inr (.inl (fo))))]])) := by
  refine LCt.of RL (by decide) rfl (Nat.le_of_ble_eq_true rfl) ?_
  intro p e s m below meth c A C RC XT hz hC
  refine sw_aload_n 0 2 C dL_peek_0 rfl rfl ?_
  refine sw_iconst 1 C dL_peek_1 0 (by decide) ?_
  refine sw_aload_n 2 0 C dL_peek_2 rfl rfl ?_
  refine sw_iload_n 3 1 C dL_peek_3 rfl rfl ?_
  refine xl_catV 4 12 [0, 1, 2] 1 0 "java/lang/IndexOutOfBoundsException" (pre := []) (x := ⟨0, 9, 12, 13⟩) (suf := []) C hz XT (fun z hz9 => nomatch hz9) (by decide) (by decide) wC_L_13 (by decide) rfl dL_peek_4 (xt_X6_peek l hfl hS h) (fun _ h => h) wK_X6_peek wM_L_52 wN_X6_peek wS_X6_X6_peek wI_X6 hd_X6_peek rfl rfl rfl ⟨rfl, rfl⟩ ⟨(Nat.le_of_ble_eq_true rfl), (Nat.le_of_ble_eq_true rfl)⟩ rfl rfl rfl rfl (fun q9 => ?_)
  refine sw_astore_n 12 3 C dL_peek_12 rfl rfl ?_
  refine sw_iconst 13 C dL_peek_13 1 (by decide) ?_
  refine sw_iret 14 C RC dL_peek_14 ?_
  exact ⟨rfl, rfl⟩
set_option maxHeartbeats 4000000 in
set_option maxRecDepth 100000 in
theorem ct_L_rankIn (l : Launch) (hfl : l.stackTraces = false) {D : va_G} {cI cJ cQ : ClassId} {x0a a0 a1 a2 a3 a4 a5 a6 a7 tr0 tr1 tr2 tr3 tr4 tr5 tr6 tr7 s0 r0 w0 : Nat} {S T : StT} {x1 x2 : Int32} (hS : SI S) (i : Nat) (hi : fnd (zf S) x1 (zn S) = some i) (k : Nat) (h2 : x2 = nI k) (hk : k ≤ 200) {ao : Nat} {fo : Nat → Int64} : LCt l yL_rankIn (Cond.codeWith yL_rankIn cL_rankIn 5 (some .int) [(0, 10, 13, 13), (0, 10, 17, 15)]) 9 166 0 0 D (tyz cI cJ cQ) [.ref x0a, .int x1, .int x2, .ref ao] (flatS [[(x0a, .inr (6, [.ref a0, .ref tr0, .ref s0, .ref r0, .ref w0]))], (wSt a0 a1 a2 a3 a4 a5 a6 a7 cI (S)), (wSt tr0 tr1 tr2 tr3 tr4 tr5 tr6 tr7 cI (T)), [(ao, .inl (cJ, 1, .inr (.inl (fo))))]]) (pstI 0 (flatS [[(x0a, .inr (6, [.ref a0, .ref tr0, .ref s0, .ref r0, .ref w0]))], (wSt a0 a1 a2 a3 a4 a5 a6 a7 cI (S)), (wSt tr0 tr1 tr2 tr3 tr4 tr5 tr6 tr7 cI ((rkf i k S).2)), [(ao, .inl (cJ, 1, .inr (.inl (vp_updL fo 0 ((rkf i k S).1).toInt64))))]])) := by
  refine LCt.of RL (by decide) rfl (Nat.le_of_ble_eq_true rfl) ?_
  intro p e s m below meth c A C RC XT hz hC
  refine sw_aload_n 0 3 C dL_rankIn_0 rfl rfl ?_
  refine sw_iconst 1 C dL_rankIn_1 0 (by decide) ?_
  refine sw_aload_n 2 0 C dL_rankIn_2 rfl rfl ?_
  refine sw_iload_n 3 1 C dL_rankIn_3 rfl rfl ?_
  refine sw_iload_n 4 2 C dL_rankIn_4 rfl rfl ?_
  refine sg_callVI 5 [0, 1, 2] 2 0 [_, _, _] C dL_rankIn_5 (ct_X6_rankIn l hS i hi k h2 hk) wK_X6_rankIn wM_L_70 wN_X6_rankIn wS_X6_X6_rankIn wI_X6 hd_X6_rankIn rfl rfl rfl ⟨rfl, rfl⟩ ⟨Nat.le_of_ble_eq_true rfl, Nat.le_of_ble_eq_true rfl⟩ rfl rfl rfl rfl rfl rfl ?_
  refine sg_segs [_, _, _, _] rfl ?_
  refine sw_i2l 8 C dL_rankIn_8 ?_
  refine sg_lastN 9 3 0 1 (0) C dL_rankIn_9 rfl (by decide) rfl rfl rfl rfl ?_
  refine sg_segs [_, _, _, [(_, .inl (_, _, .inr (.inl _)))]] rfl ?_
  refine sw_goto 10 21 C dL_rankIn_10 (by decide) ?_
  refine sw_iconst 21 C dL_rankIn_21 0 (by decide) ?_
  refine sw_iret 22 C RC dL_rankIn_22 ?_
  exact ⟨rfl, rfl⟩
set_option maxHeartbeats 4000000 in
set_option maxRecDepth 100000 in
theorem ct_L_rankIn_2 (l : Launch) (hfl : l.stackTraces = false) {D : va_G} {cI cJ cQ : ClassId} {x0a a0 a1 a2 a3 a4 a5 a6 a7 tr0 s0 r0 w0 : Nat} {S : StT} {x1 x2 : Int32} (hS : SI S) (hi : fnd (zf S) x1 (zn S) = none) {ao : Nat} {fo : Nat → Int64} : LCt l yL_rankIn (Cond.codeWith yL_rankIn cL_rankIn 5 (some .int) [(0, 10, 13, 13), (0, 10, 17, 15)]) 9 166 1 6 D (tyz cI cJ cQ) [.ref x0a, .int x1, .int x2, .ref ao] (flatS [[(x0a, .inr (6, [.ref a0, .ref tr0, .ref s0, .ref r0, .ref w0]))], (wSt a0 a1 a2 a3 a4 a5 a6 a7 cI (S)), [(ao, .inl (cJ, 1, .inr (.inl (fo))))]]) (pstI 1 (flatS [[(x0a, .inr (6, [.ref a0, .ref tr0, .ref s0, .ref r0, .ref w0]))], (wSt a0 a1 a2 a3 a4 a5 a6 a7 cI (S)), [(ao, .inl (cJ, 1, .inr (.inl (fo))))]])) := by
  refine LCt.of RL (by decide) rfl (Nat.le_of_ble_eq_true rfl) ?_
  intro p e s m below meth c A C RC XT hz hC
  refine sw_aload_n 0 3 C dL_rankIn_0 rfl rfl ?_
  refine sw_iconst 1 C dL_rankIn_1 0 (by decide) ?_
  refine sw_aload_n 2 0 C dL_rankIn_2 rfl rfl ?_
  refine sw_iload_n 3 1 C dL_rankIn_3 rfl rfl ?_
  refine sw_iload_n 4 2 C dL_rankIn_4 rfl rfl ?_
  refine xl_catV 5 13 [0, 1] 2 0 "java/lang/IndexOutOfBoundsException" (pre := []) (x := ⟨0, 10, 13, 13⟩) (suf := [⟨0, 10, 17, 15⟩]) C hz XT (fun z hz9 => nomatch hz9) (by decide) (by decide) wC_L_13 (by decide) rfl dL_rankIn_5 (xt_X6_rankIn l hfl hS hi) (fun _ h => h) wK_X6_rankIn wM_L_70 wN_X6_rankIn wS_X6_X6_rankIn wI_X6 hd_X6_rankIn rfl rfl rfl ⟨rfl, rfl⟩ ⟨(Nat.le_of_ble_eq_true rfl), (Nat.le_of_ble_eq_true rfl)⟩ rfl rfl rfl rfl (fun q9 => ?_)
  refine sw_astore 13 C dL_rankIn_13 rfl ?_
  refine sw_iconst 15 C dL_rankIn_15 1 (by decide) ?_
  refine sw_iret 16 C RC dL_rankIn_16 ?_
  exact ⟨rfl, rfl⟩
set_option maxHeartbeats 4000000 in
set_option maxRecDepth 100000 in
theorem ct_L_rankIn_3 (l : Launch) (hfl : l.stackTraces = false) {D : va_G} {cI cJ cQ : ClassId} {x0a a0 a1 a2 a3 a4 a5 a6 a7 tr0 s0 r0 w0 : Nat} {S : StT} {x1 x2 : Int32} (hS : SI S) (i : Nat) (hi : fnd (zf S) x1 (zn S) = some i) (hx : inR x2 0 200 = false) {ao : Nat} {fo : Nat → Int64} : LCt l yL_rankIn (Cond.codeWith yL_rankIn cL_rankIn 5 (some .int) [(0, 10, 13, 13), (0, 10, 17, 15)]) 9 166 1 6 D (tyz cI cJ cQ) [.ref x0a, .int x1, .int x2, .ref ao] (flatS [[(x0a, .inr (6, [.ref a0, .ref tr0, .ref s0, .ref r0, .ref w0]))], (wSt a0 a1 a2 a3 a4 a5 a6 a7 cI (S)), [(ao, .inl (cJ, 1, .inr (.inl (fo))))]]) (pstI 2 (flatS [[(x0a, .inr (6, [.ref a0, .ref tr0, .ref s0, .ref r0, .ref w0]))], (wSt a0 a1 a2 a3 a4 a5 a6 a7 cI (S)), [(ao, .inl (cJ, 1, .inr (.inl (fo))))]])) := by
  refine LCt.of RL (by decide) rfl (Nat.le_of_ble_eq_true rfl) ?_
  intro p e s m below meth c A C RC XT hz hC
  refine sw_aload_n 0 3 C dL_rankIn_0 rfl rfl ?_
  refine sw_iconst 1 C dL_rankIn_1 0 (by decide) ?_
  refine sw_aload_n 2 0 C dL_rankIn_2 rfl rfl ?_
  refine sw_iload_n 3 1 C dL_rankIn_3 rfl rfl ?_
  refine sw_iload_n 4 2 C dL_rankIn_4 rfl rfl ?_
  refine xl_catV 5 17 [0, 1] 2 0 "java/lang/IllegalArgumentException" (pre := [⟨0, 10, 13, 13⟩]) (x := ⟨0, 10, 17, 15⟩) (suf := []) C hz XT (fun z hz9 => by cases List.mem_singleton.mp hz9; exact Or.inr ⟨by decide, "java/lang/IndexOutOfBoundsException", C.w wC_L_13, hC.1⟩) (by decide) (by decide) wC_L_15 (by decide) rfl dL_rankIn_5 (xt_X6_rankIn_2 l hfl hS i hi hx) (fun _ h => h) wK_X6_rankIn wM_L_70 wN_X6_rankIn wS_X6_X6_rankIn wI_X6 hd_X6_rankIn rfl rfl rfl ⟨rfl, rfl⟩ ⟨(Nat.le_of_ble_eq_true rfl), (Nat.le_of_ble_eq_true rfl)⟩ rfl rfl rfl rfl (fun q9 => ?_)
  refine sw_astore 17 C dL_rankIn_17 rfl ?_
  refine sw_iconst 19 C dL_rankIn_19 2 (by decide) ?_
  refine sw_iret 20 C RC dL_rankIn_20 ?_
  exact ⟨rfl, rfl⟩
set_option maxHeartbeats 4000000 in
set_option maxRecDepth 100000 in
theorem ct_L_servedIn (l : Launch) (hfl : l.stackTraces = false) {D : va_G} {cI cJ cQ : ClassId} {x0a a0 a1 a2 a3 a4 a5 a6 a7 tr0 tr1 tr2 tr3 tr4 tr5 tr6 tr7 s0 r0 w0 : Nat} {S T : StT} {x1 : Int32} (hS : SI S) (i : Nat) (hi : fnd (zf S) x1 (zn S) = some i) {ao : Nat} {fo : Nat → Int64} : LCt l yL_servedIn (Cond.codeWith yL_servedIn cL_servedIn 4 (some .int) [(0, 9, 12, 13)]) 9 164 0 0 D (tyz cI cJ cQ) [.ref x0a, .int x1, .ref ao] (flatS [[(x0a, .inr (6, [.ref a0, .ref tr0, .ref s0, .ref r0, .ref w0]))], (wSt a0 a1 a2 a3 a4 a5 a6 a7 cI (S)), (wSt tr0 tr1 tr2 tr3 tr4 tr5 tr6 tr7 cI (T)), [(ao, .inl (cJ, 1, .inr (.inl (fo))))]]) (pstI 0 (flatS [[(x0a, .inr (6, [.ref a0, .ref tr0, .ref s0, .ref r0, .ref w0]))], (wSt a0 a1 a2 a3 a4 a5 a6 a7 cI (S)), (wSt tr0 tr1 tr2 tr3 tr4 tr5 tr6 tr7 cI ((svf x1 40 0 S).2)), [(ao, .inl (cJ, 1, .inr (.inl (vp_updL fo 0 ((svf x1 40 0 S).1).toInt64))))]])) := by
  refine LCt.of RL (by decide) rfl (Nat.le_of_ble_eq_true rfl) ?_
  intro p e s m below meth c A C RC XT hz hC
  refine sw_aload_n 0 2 C dL_servedIn_0 rfl rfl ?_
  refine sw_iconst 1 C dL_servedIn_1 0 (by decide) ?_
  refine sw_aload_n 2 0 C dL_servedIn_2 rfl rfl ?_
  refine sw_iload_n 3 1 C dL_servedIn_3 rfl rfl ?_
  refine sg_callVI 4 [0, 1, 2] 1 0 [_, _, _] C dL_servedIn_4 (ct_X6_servedIn l hS i hi) wK_X6_servedIn wM_L_73 wN_X6_servedIn wS_X6_X6_servedIn wI_X6 hd_X6_servedIn rfl rfl rfl ⟨rfl, rfl⟩ ⟨Nat.le_of_ble_eq_true rfl, Nat.le_of_ble_eq_true rfl⟩ rfl rfl rfl rfl rfl rfl ?_
  refine sg_segs [_, _, _, _] rfl ?_
  refine sw_i2l 7 C dL_servedIn_7 ?_
  refine sg_lastN 8 3 0 1 (0) C dL_servedIn_8 rfl (by decide) rfl rfl rfl rfl ?_
  refine sg_segs [_, _, _, [(_, .inl (_, _, .inr (.inl _)))]] rfl ?_
  refine sw_goto 9 15 C dL_servedIn_9 (by decide) ?_
  refine sw_iconst 15 C dL_servedIn_15 0 (by decide) ?_
  refine sw_iret 16 C RC dL_servedIn_16 ?_
  exact ⟨rfl, rfl⟩
set_option maxHeartbeats 4000000 in
set_option maxRecDepth 100000 in
theorem ct_L_servedIn_2 (l : Launch) (hfl : l.stackTraces = false) {D : va_G} {cI cJ cQ : ClassId} {x0a a0 a1 a2 a3 a4 a5 a6 a7 tr0 s0 r0 w0 : Nat} {S : StT} {x1 : Int32} (hS : SI S) (hi : fnd (zf S) x1 (zn S) = none) {ao : Nat} {fo : Nat → Int64} : LCt l yL_servedIn (Cond.codeWith yL_servedIn cL_servedIn 4 (some .int) [(0, 9, 12, 13)]) 9 164 1 6 D (tyz cI cJ cQ) [.ref x0a, .int x1, .ref ao] (flatS [[(x0a, .inr (6, [.ref a0, .ref tr0, .ref s0, .ref r0, .ref w0]))], (wSt a0 a1 a2 a3 a4 a5 a6 a7 cI (S)), [(ao, .inl (cJ, 1, .inr (.inl (fo))))]]) (pstI 1 (flatS [[(x0a, .inr (6, [.ref a0, .ref tr0, .ref s0, .ref r0, .ref w0]))], (wSt a0 a1 a2 a3 a4 a5 a6 a7 cI (S)), [(ao, .inl (cJ, 1, .inr (.inl (fo))))]])) := by
  refine LCt.of RL (by decide) rfl (Nat.le_of_ble_eq_true rfl) ?_
  intro p e s m below meth c A C RC XT hz hC
  refine sw_aload_n 0 2 C dL_servedIn_0 rfl rfl ?_
  refine sw_iconst 1 C dL_servedIn_1 0 (by decide) ?_
  refine sw_aload_n 2 0 C dL_servedIn_2 rfl rfl ?_
  refine sw_iload_n 3 1 C dL_servedIn_3 rfl rfl ?_
  refine xl_catV 4 12 [0, 1] 1 0 "java/lang/IndexOutOfBoundsException" (pre := []) (x := ⟨0, 9, 12, 13⟩) (suf := []) C hz XT (fun z hz9 => nomatch hz9) (by decide) (by decide) wC_L_13 (by decide) rfl dL_servedIn_4 (xt_X6_servedIn l hfl hS hi) (fun _ h => h) wK_X6_servedIn wM_L_73 wN_X6_servedIn wS_X6_X6_servedIn wI_X6 hd_X6_servedIn rfl rfl rfl ⟨rfl, rfl⟩ ⟨(Nat.le_of_ble_eq_true rfl), (Nat.le_of_ble_eq_true rfl)⟩ rfl rfl rfl rfl (fun q9 => ?_)
  refine sw_astore_n 12 3 C dL_servedIn_12 rfl rfl ?_
  refine sw_iconst 13 C dL_servedIn_13 1 (by decide) ?_
  refine sw_iret 14 C RC dL_servedIn_14 ?_
  exact ⟨rfl, rfl⟩
set_option maxHeartbeats 4000000 in
set_option maxRecDepth 100000 in
theorem ct_L_append (l : Launch) (hfl : l.stackTraces = false) {D : va_G} {cI cJ cQ : ClassId} {x0a a0 tr0 s0 r0 t0 t1 w0 ln : Nat} {by_ : Nat → Int32} {X : RS} {x1 : Int32} (hln : ln ≤ 100) (hx : inR x1 0 127 = true) (h : ln < 100) {ao : Nat} {fo : Nat → Int64} : LCt l yL_append (Cond.codeWith yL_append cL_append 4 (some .int) [(0, 9, 12, 15), (0, 9, 15, 28)]) 9 163 0 0 D (tyz cI cJ cQ) [.ref x0a, .int x1, .ref ao] (flatS [[(x0a, .inr (6, [.ref a0, .ref tr0, .ref s0, .ref r0, .ref w0]))], (wRd r0 t0 t1 cI (ln) (by_) X), [(ao, .inl (cJ, 1, .inr (.inl (fo))))]]) (pstI 0 (flatS [[(x0a, .inr (6, [.ref a0, .ref tr0, .ref s0, .ref r0, .ref w0]))], (wRd r0 t0 t1 cI (txl ln) (txb by_ ln x1) X), [(ao, .inl (cJ, 1, .inr (.inl (vp_updL fo 0 (nI (txl ln)).toInt64))))]])) := by
  refine LCt.of RL (by decide) rfl (Nat.le_of_ble_eq_true rfl) ?_
  intro p e s m below meth c A C RC XT hz hC
  refine sw_aload_n 0 2 C dL_append_0 rfl rfl ?_
  refine sw_iconst 1 C dL_append_1 0 (by decide) ?_
  refine sw_aload_n 2 0 C dL_append_2 rfl rfl ?_
  refine sw_iload_n 3 1 C dL_append_3 rfl rfl ?_
  refine sg_callVI 4 [0, 1] 1 0 [_, _] C dL_append_4 (ct_X6_append l hln hx h) wK_X6_append wM_L_79 wN_X6_append wS_X6_X6_append wI_X6 hd_X6_append rfl rfl rfl ⟨rfl, rfl⟩ ⟨Nat.le_of_ble_eq_true rfl, Nat.le_of_ble_eq_true rfl⟩ rfl rfl rfl rfl rfl rfl ?_
  refine sg_segs [_, _, _] rfl ?_
  refine sw_i2l 7 C dL_append_7 ?_
  refine sg_lastN 8 2 0 1 (0) C dL_append_8 rfl (by decide) rfl rfl rfl rfl ?_
  refine sg_segs [_, _, [(_, .inl (_, _, .inr (.inl _)))]] rfl ?_
  refine sw_goto 9 18 C dL_append_9 (by decide) ?_
  refine sw_iconst 18 C dL_append_18 0 (by decide) ?_
  refine sw_iret 19 C RC dL_append_19 ?_
  exact ⟨rfl, rfl⟩
set_option maxHeartbeats 4000000 in
set_option maxRecDepth 100000 in
theorem ct_L_append_2 (l : Launch) (hfl : l.stackTraces = false) {D : va_G} {cI cJ cQ : ClassId} {x0a a0 tr0 s0 r0 t0 t1 w0 ln : Nat} {by_ : Nat → Int32} {X : RS} {x1 : Int32} (hx : inR x1 0 127 = false) {ao : Nat} {fo : Nat → Int64} : LCt l yL_append (Cond.codeWith yL_append cL_append 4 (some .int) [(0, 9, 12, 15), (0, 9, 15, 28)]) 9 163 1 6 D (tyz cI cJ cQ) [.ref x0a, .int x1, .ref ao] (flatS [[(x0a, .inr (6, [.ref a0, .ref tr0, .ref s0, .ref r0, .ref w0]))], (wRd r0 t0 t1 cI (ln) (by_) X), [(ao, .inl (cJ, 1, .inr (.inl (fo))))]]) (pstI 1 (flatS [[(x0a, .inr (6, [.ref a0, .ref tr0, .ref s0, .ref r0, .ref w0]))], (wRd r0 t0 t1 cI (ln) (by_) X), [(ao, .inl (cJ, 1, .inr (.inl (fo))))]])) := by
  refine LCt.of RL (by decide) rfl (Nat.le_of_ble_eq_true rfl) ?_
  intro p e s m below meth c A C RC XT hz hC
  refine sw_aload_n 0 2 C dL_append_0 rfl rfl ?_
  refine sw_iconst 1 C dL_append_1 0 (by decide) ?_
  refine sw_aload_n 2 0 C dL_append_2 rfl rfl ?_
  refine sw_iload_n 3 1 C dL_append_3 rfl rfl ?_
  refine xl_catV 4 12 [0, 1] 1 0 "java/lang/IllegalArgumentException" (pre := []) (x := ⟨0, 9, 12, 15⟩) (suf := [⟨0, 9, 15, 28⟩]) C hz XT (fun z hz9 => nomatch hz9) (by decide) (by decide) wC_L_15 (by decide) rfl dL_append_4 (xt_X6_append l hfl hx) (fun _ h => h) wK_X6_append wM_L_79 wN_X6_append wS_X6_X6_append wI_X6 hd_X6_append rfl rfl rfl ⟨rfl, rfl⟩ ⟨(Nat.le_of_ble_eq_true rfl), (Nat.le_of_ble_eq_true rfl)⟩ rfl rfl rfl rfl (fun q9 => ?_)
  refine sw_astore_n 12 3 C dL_append_12 rfl rfl ?_
  refine sw_iconst 13 C dL_append_13 1 (by decide) ?_
  refine sw_iret 14 C RC dL_append_14 ?_
  exact ⟨rfl, rfl⟩
set_option maxHeartbeats 4000000 in
set_option maxRecDepth 100000 in
theorem ct_L_append_3 (l : Launch) (hfl : l.stackTraces = false) {D : va_G} {cI cJ cQ : ClassId} {x0a a0 tr0 s0 r0 t0 t1 w0 ln : Nat} {by_ : Nat → Int32} {X : RS} {x1 : Int32} (hln : ln ≤ 100) (hx : inR x1 0 127 = true) (h : ¬ ln < 100) {ao : Nat} {fo : Nat → Int64} : LCt l yL_append (Cond.codeWith yL_append cL_append 4 (some .int) [(0, 9, 12, 15), (0, 9, 15, 28)]) 9 163 1 6 D (tyz cI cJ cQ) [.ref x0a, .int x1, .ref ao] (flatS [[(x0a, .inr (6, [.ref a0, .ref tr0, .ref s0, .ref r0, .ref w0]))], (wRd r0 t0 t1 cI (ln) (by_) X), [(ao, .inl (cJ, 1, .inr (.inl (fo))))]]) (pstI 2 (flatS [[(x0a, .inr (6, [.ref a0, .ref tr0, .ref s0, .ref r0, .ref w0]))], (wRd r0 t0 t1 cI (ln) (by_) X), [(ao, .inl (cJ, 1, .inr (.inl (fo))))]])) := by
  refine LCt.of RL (by decide) rfl (Nat.le_of_ble_eq_true rfl) ?_
  intro p e s m below meth c A C RC XT hz hC
  refine sw_aload_n 0 2 C dL_append_0 rfl rfl ?_
  refine sw_iconst 1 C dL_append_1 0 (by decide) ?_
  refine sw_aload_n 2 0 C dL_append_2 rfl rfl ?_
  refine sw_iload_n 3 1 C dL_append_3 rfl rfl ?_
  refine xl_catV 4 15 [0, 1] 1 0 "java/lang/IllegalStateException" (pre := [⟨0, 9, 12, 15⟩]) (x := ⟨0, 9, 15, 28⟩) (suf := []) C hz XT (fun z hz9 => by cases List.mem_singleton.mp hz9; exact Or.inr ⟨by decide, "java/lang/IllegalArgumentException", C.w wC_L_15, hC.2⟩) (by decide) (by decide) wC_L_28 (by decide) rfl dL_append_4 (xt_X6_append_2 l hfl hln hx h) (fun _ h => h) wK_X6_append wM_L_79 wN_X6_append wS_X6_X6_append wI_X6 hd_X6_append rfl rfl rfl ⟨rfl, rfl⟩ ⟨(Nat.le_of_ble_eq_true rfl), (Nat.le_of_ble_eq_true rfl)⟩ rfl rfl rfl rfl (fun q9 => ?_)
  refine sw_astore_n 15 3 C dL_append_15 rfl rfl ?_
  refine sw_iconst 16 C dL_append_16 2 (by decide) ?_
  refine sw_iret 17 C RC dL_append_17 ?_
  exact ⟨rfl, rfl⟩
