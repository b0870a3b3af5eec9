/-! the Model: rules of joins, calls that answer by what there is -/
section MSW
variable {p : Program} {l : Launch} {e : Env} {R : Room} {s : State} {m : MethodId} {args : Array Value} {below : List Frame} {meth : Method} {c : Code} {D : va_G} {tys : List (ClassId × FieldType)} {A : Nat → Prop} {H0 : Heap} {nL k n : Nat} {Q : State → Prop} {ws : va_W} {L : List (Nat × Value)} {st : List Value} {cc : ByteArray} {own : String} {Ts : List Cond} {x0 : Cond}
theorem sw_jn1 {pc : Nat} (pcm : Nat) (v : Int32) {a : Value} (hk : sw p l e R s m args below meth c D A H0 nL k n Q ws pcm L (.int v :: st) → sw p l e R s m args below meth c D A H0 nL k n Q ws pc L (a :: st)) (kk : sw p l e R s m args below meth c D A H0 nL k n Q ws pcm L (.int v :: st)) : sw p l e R s m args below meth c D A H0 nL k n Q ws pc L (a :: st) := hk kk
theorem sw_jn2 {pc : Nat} (pcm : Nat) (v : Int32) {a b : Value} (hk : sw p l e R s m args below meth c D A H0 nL k n Q ws pcm L (.int v :: st) → sw p l e R s m args below meth c D A H0 nL k n Q ws pc L (a :: b :: st)) (kk : sw p l e R s m args below meth c D A H0 nL k n Q ws pcm L (.int v :: st)) : sw p l e R s m args below meth c D A H0 nL k n Q ws pc L (a :: b :: st) := hk kk
def pstE (r : Int32) {α : Type} (P : α → Prop) (Wf : α → va_W) : Option Value → va_W → Prop := fun v w1 => v = some (.int r) ∧ ∃ f, P f ∧ w1 = Wf f
theorem sw_callVE (pc : Nat) (isC : List Nat) (na : Nat) {fr lo mc ms maxL index b ci : Nat} {y : MethodName} {bytes : ByteArray} {ret : Option FieldType} {wc : va_W} {As : List Value} {α : Type} {P : α → Prop} {Wf : α → va_W} {r : Int32} {Cn : String} {T : u_T} {N : Nat} {fs : List Value} (C : CC p s m args c cc nL own (x0 :: lw_all) D tys A H0) (d : decode cc pc = .ok (.invokevirtual index, 3)) (hM : Ct l y (Cond.code y bytes maxL ret) fr lo mc ms D tys (.ref b :: As) wc (pstE r P Wf)) (g0 : Cond.code y bytes maxL ret ∈ lw_all) (g1 : Cond.methodLink own index y ∈ lw_all) (g2 : Cond.instanceMethod y ∈ lw_all) (g3 : Cond.selects Cn y y ∈ lw_all) (g4 : Cond.initialized Cn ∈ lw_all)
    (hd : y.cls = Cn ∧ y.cls ≠ "java/lang/invoke/MethodHandle" ∧ y.cls ≠ "java/lang/invoke/VarHandle" ∧ (parseMethodDescriptor y.desc).map (fun d => d.parameters.length) = some na) (hna : As.length = na) (hrv : wc[0]? = some (b, .inr (ci, fs))) (hc : vwCl[ci]? = some (Cn, T, N)) (hR : Nat.ble (fr + 1) R.frames = true ∧ Nat.ble (8 + (maxL + 11) + lo) R.locals = true) (hf : k + mc ≤ R.cells ∧ n + ms ≤ R.slots) (hst : Nat.ble (st.map fun v => v.category).sum 8 = true) (hn : wnd isC = true) (hw : wall ws.length isC = true) (hlw : ∀ f, Nat.ble isC.length (Wf f).length = true) (hp : wpick ws isC = wc)
    (kk : ∀ f, P f → sw p l e R s m args below meth c D A H0 nL (k + mc) (n + ms) Q (wput ws isC (Wf f)) (pc + 3) L (.int r :: st)) : sw p l e R s m args below meth c D A H0 nL k n Q ws pc L (As.reverse ++ .ref b :: st) :=
  sw_callV pc isC na C hM g0 g1 g2 g3 g4 hd d hna hc hR hf hst hp hn hw (fun v w1 h => by
    obtain ⟨_, f, _, rfl⟩ := h
    exact Nat.le_of_ble_eq_true (hlw f)) hrv (fun v w1 h => by
    obtain ⟨rfl, f, hf2, rfl⟩ := h
    exact kk f hf2)
def pstEV {α : Type} (P : α → Prop) (Wf : α → va_W) : Option Value → va_W → Prop := fun v w1 => v = none ∧ ∃ f, P f ∧ w1 = Wf f
theorem sw_callVEV (pc : Nat) (isC : List Nat) (na : Nat) {fr lo mc ms maxL index b ci : Nat} {y : MethodName} {bytes : ByteArray} {ret : Option FieldType} {wc : va_W} {As : List Value} {α : Type} {P : α → Prop} {Wf : α → va_W} {Cn : String} {T : u_T} {N : Nat} {fs : List Value} (C : CC p s m args c cc nL own (x0 :: lw_all) D tys A H0) (d : decode cc pc = .ok (.invokevirtual index, 3)) (hM : Ct l y (Cond.code y bytes maxL ret) fr lo mc ms D tys (.ref b :: As) wc (pstEV P Wf)) (g0 : Cond.code y bytes maxL ret ∈ lw_all) (g1 : Cond.methodLink own index y ∈ lw_all) (g2 : Cond.instanceMethod y ∈ lw_all) (g3 : Cond.selects Cn y y ∈ lw_all) (g4 : Cond.initialized Cn ∈ lw_all)
    (hd : y.cls = Cn ∧ y.cls ≠ "java/lang/invoke/MethodHandle" ∧ y.cls ≠ "java/lang/invoke/VarHandle" ∧ (parseMethodDescriptor y.desc).map (fun d => d.parameters.length) = some na) (hna : As.length = na) (hrv : wc[0]? = some (b, .inr (ci, fs))) (hc : vwCl[ci]? = some (Cn, T, N)) (hR : Nat.ble (fr + 1) R.frames = true ∧ Nat.ble (8 + (maxL + 11) + lo) R.locals = true) (hf : k + mc ≤ R.cells ∧ n + ms ≤ R.slots) (hst : Nat.ble (st.map fun v => v.category).sum 8 = true) (hn : wnd isC = true) (hw : wall ws.length isC = true) (hlw : ∀ f, Nat.ble isC.length (Wf f).length = true) (hp : wpick ws isC = wc)
    (kk : ∀ f, P f → sw p l e R s m args below meth c D A H0 nL (k + mc) (n + ms) Q (wput ws isC (Wf f)) (pc + 3) L st) : sw p l e R s m args below meth c D A H0 nL k n Q ws pc L (As.reverse ++ .ref b :: st) :=
  sw_callV pc isC na C hM g0 g1 g2 g3 g4 hd d hna hc hR hf hst hp hn hw (fun v w1 h => by
    obtain ⟨_, f, _, rfl⟩ := h
    exact Nat.le_of_ble_eq_true (hlw f)) hrv (fun v w1 h => by
    obtain ⟨rfl, f, hf2, rfl⟩ := h
    exact kk f hf2)
def pstEL (r : Int64) {α : Type} (P : α → Prop) (Wf : α → va_W) : Option Value → va_W → Prop := fun v w1 => v = some (.long r) ∧ ∃ f, P f ∧ w1 = Wf f
theorem sw_callVEL (pc : Nat) (isC : List Nat) (na : Nat) {fr lo mc ms maxL index b ci : Nat} {y : MethodName} {bytes : ByteArray} {ret : Option FieldType} {wc : va_W} {As : List Value} {α : Type} {P : α → Prop} {Wf : α → va_W} {r : Int64} {Cn : String} {T : u_T} {N : Nat} {fs : List Value} (C : CC p s m args c cc nL own (x0 :: lw_all) D tys A H0) (d : decode cc pc = .ok (.invokevirtual index, 3)) (hM : Ct l y (Cond.code y bytes maxL ret) fr lo mc ms D tys (.ref b :: As) wc (pstEL r P Wf)) (g0 : Cond.code y bytes maxL ret ∈ lw_all) (g1 : Cond.methodLink own index y ∈ lw_all) (g2 : Cond.instanceMethod y ∈ lw_all) (g3 : Cond.selects Cn y y ∈ lw_all) (g4 : Cond.initialized Cn ∈ lw_all)
    (hd : y.cls = Cn ∧ y.cls ≠ "java/lang/invoke/MethodHandle" ∧ y.cls ≠ "java/lang/invoke/VarHandle" ∧ (parseMethodDescriptor y.desc).map (fun d => d.parameters.length) = some na) (hna : As.length = na) (hrv : wc[0]? = some (b, .inr (ci, fs))) (hc : vwCl[ci]? = some (Cn, T, N)) (hR : Nat.ble (fr + 1) R.frames = true ∧ Nat.ble (8 + (maxL + 11) + lo) R.locals = true) (hf : k + mc ≤ R.cells ∧ n + ms ≤ R.slots) (hst : Nat.ble (st.map fun v => v.category).sum 8 = true) (hn : wnd isC = true) (hw : wall ws.length isC = true) (hlw : ∀ f, Nat.ble isC.length (Wf f).length = true) (hp : wpick ws isC = wc)
    (kk : ∀ f, P f → sw p l e R s m args below meth c D A H0 nL (k + mc) (n + ms) Q (wput ws isC (Wf f)) (pc + 3) L (.long r :: st)) : sw p l e R s m args below meth c D A H0 nL k n Q ws pc L (As.reverse ++ .ref b :: st) :=
  sw_callV pc isC na C hM g0 g1 g2 g3 g4 hd d hna hc hR hf hst hp hn hw (fun v w1 h => by
    obtain ⟨_, f, _, rfl⟩ := h
    exact Nat.le_of_ble_eq_true (hlw f)) hrv (fun v w1 h => by
    obtain ⟨rfl, f, hf2, rfl⟩ := h
    exact kk f hf2)
end MSW
abbrev wMd (b0 b1 b2 b3 b4 b5 : Nat) (cI : ClassId) (sa pa ad tx nb : Nat → Int32) (kp th ty ap : Int32) (hh : Int64) : va_W := [(b0, .inr (7, [.ref b1, .ref b2, .ref b3, .int (kp), .int (th), .ref b4, .int (ty), .int (ap), .ref b5, .long (hh)])), (b1, .inl (cI, 424, .inl (sa))), (b2, .inl (cI, 1696, .inl (pa))), (b3, .inl (cI, 424, .inl (ad))), (b4, .inl (cI, 100, .inl (tx))), (b5, .inl (cI, 4, .inl (nb)))]
theorem hd_X7_thrown : yX7_thrown.cls = RX7 ∧ yX7_thrown.cls ≠ "java/lang/invoke/MethodHandle" ∧ yX7_thrown.cls ≠ "java/lang/invoke/VarHandle" ∧ (parseMethodDescriptor yX7_thrown.desc).map (fun d => d.parameters.length) = some 0 := by decide +kernel
theorem hd_X7_in : yX7_in.cls ≠ "java/lang/invoke/MethodHandle" ∧ yX7_in.cls ≠ "java/lang/invoke/VarHandle" ∧ (parseMethodDescriptor yX7_in.desc).map (fun d => d.parameters.length) = some 3 := by decide +kernel
theorem hd_X7_fails : yX7_fails.cls = RX7 ∧ yX7_fails.cls ≠ "java/lang/invoke/MethodHandle" ∧ yX7_fails.cls ≠ "java/lang/invoke/VarHandle" ∧ (parseMethodDescriptor yX7_fails.desc).map (fun d => d.parameters.length) = some 1 := by decide +kernel
theorem hd_X7_tells : yX7_tells.cls = RX7 ∧ yX7_tells.cls ≠ "java/lang/invoke/MethodHandle" ∧ yX7_tells.cls ≠ "java/lang/invoke/VarHandle" ∧ (parseMethodDescriptor yX7_tells.desc).map (fun d => d.parameters.length) = some 1 := by decide +kernel
theorem hd_X7_laysAside : yX7_laysAside.cls = RX7 ∧ yX7_laysAside.cls ≠ "java/lang/invoke/MethodHandle" ∧ yX7_laysAside.cls ≠ "java/lang/invoke/VarHandle" ∧ (parseMethodDescriptor yX7_laysAside.desc).map (fun d => d.parameters.length) = some 0 := by decide +kernel
theorem hd_X7_bringsBack : yX7_bringsBack.cls = RX7 ∧ yX7_bringsBack.cls ≠ "java/lang/invoke/MethodHandle" ∧ yX7_bringsBack.cls ≠ "java/lang/invoke/VarHandle" ∧ (parseMethodDescriptor yX7_bringsBack.desc).map (fun d => d.parameters.length) = some 0 := by decide +kernel
theorem hd_X7_keeps : yX7_keeps.cls = RX7 ∧ yX7_keeps.cls ≠ "java/lang/invoke/MethodHandle" ∧ yX7_keeps.cls ≠ "java/lang/invoke/VarHandle" ∧ (parseMethodDescriptor yX7_keeps.desc).map (fun d => d.parameters.length) = some 0 := by decide +kernel
theorem hd_X7_of : yX7_of.cls = RX7 ∧ yX7_of.cls ≠ "java/lang/invoke/MethodHandle" ∧ yX7_of.cls ≠ "java/lang/invoke/VarHandle" ∧ (parseMethodDescriptor yX7_of.desc).map (fun d => d.parameters.length) = some 2 := by decide +kernel
theorem hd_X7_put : yX7_put.cls = RX7 ∧ yX7_put.cls ≠ "java/lang/invoke/MethodHandle" ∧ yX7_put.cls ≠ "java/lang/invoke/VarHandle" ∧ (parseMethodDescriptor yX7_put.desc).map (fun d => d.parameters.length) = some 3 := by decide +kernel
theorem hd_X7_find : yX7_find.cls = RX7 ∧ yX7_find.cls ≠ "java/lang/invoke/MethodHandle" ∧ yX7_find.cls ≠ "java/lang/invoke/VarHandle" ∧ (parseMethodDescriptor yX7_find.desc).map (fun d => d.parameters.length) = some 1 := by decide +kernel
theorem hd_X7_isAhead : yX7_isAhead.cls = RX7 ∧ yX7_isAhead.cls ≠ "java/lang/invoke/MethodHandle" ∧ yX7_isAhead.cls ≠ "java/lang/invoke/VarHandle" ∧ (parseMethodDescriptor yX7_isAhead.desc).map (fun d => d.parameters.length) = some 2 := by decide +kernel
theorem hd_X7_placeOf : yX7_placeOf.cls = RX7 ∧ yX7_placeOf.cls ≠ "java/lang/invoke/MethodHandle" ∧ yX7_placeOf.cls ≠ "java/lang/invoke/VarHandle" ∧ (parseMethodDescriptor yX7_placeOf.desc).map (fun d => d.parameters.length) = some 1 := by decide +kernel
theorem hd_X7_atPlace : yX7_atPlace.cls = RX7 ∧ yX7_atPlace.cls ≠ "java/lang/invoke/MethodHandle" ∧ yX7_atPlace.cls ≠ "java/lang/invoke/VarHandle" ∧ (parseMethodDescriptor yX7_atPlace.desc).map (fun d => d.parameters.length) = some 1 := by decide +kernel
theorem hd_X7_sentOf : yX7_sentOf.cls = RX7 ∧ yX7_sentOf.cls ≠ "java/lang/invoke/MethodHandle" ∧ yX7_sentOf.cls ≠ "java/lang/invoke/VarHandle" ∧ (parseMethodDescriptor yX7_sentOf.desc).map (fun d => d.parameters.length) = some 1 := by decide +kernel
theorem hd_X7_isRoom : yX7_isRoom.cls = RX7 ∧ yX7_isRoom.cls ≠ "java/lang/invoke/MethodHandle" ∧ yX7_isRoom.cls ≠ "java/lang/invoke/VarHandle" ∧ (parseMethodDescriptor yX7_isRoom.desc).map (fun d => d.parameters.length) = some 2 := by decide +kernel
theorem hd_X7_louder : yX7_louder.cls ≠ "java/lang/invoke/MethodHandle" ∧ yX7_louder.cls ≠ "java/lang/invoke/VarHandle" ∧ (parseMethodDescriptor yX7_louder.desc).map (fun d => d.parameters.length) = some 2 := by decide +kernel
theorem hd_X7_comes : yX7_comes.cls = RX7 ∧ yX7_comes.cls ≠ "java/lang/invoke/MethodHandle" ∧ yX7_comes.cls ≠ "java/lang/invoke/VarHandle" ∧ (parseMethodDescriptor yX7_comes.desc).map (fun d => d.parameters.length) = some 5 := by decide +kernel
theorem hd_X7_backOf : yX7_backOf.cls = RX7 ∧ yX7_backOf.cls ≠ "java/lang/invoke/MethodHandle" ∧ yX7_backOf.cls ≠ "java/lang/invoke/VarHandle" ∧ (parseMethodDescriptor yX7_backOf.desc).map (fun d => d.parameters.length) = some 2 := by decide +kernel
theorem hd_X7_leaves : yX7_leaves.cls = RX7 ∧ yX7_leaves.cls ≠ "java/lang/invoke/MethodHandle" ∧ yX7_leaves.cls ≠ "java/lang/invoke/VarHandle" ∧ (parseMethodDescriptor yX7_leaves.desc).map (fun d => d.parameters.length) = some 2 := by decide +kernel
theorem hd_X7_servesFirst : yX7_servesFirst.cls = RX7 ∧ yX7_servesFirst.cls ≠ "java/lang/invoke/MethodHandle" ∧ yX7_servesFirst.cls ≠ "java/lang/invoke/VarHandle" ∧ (parseMethodDescriptor yX7_servesFirst.desc).map (fun d => d.parameters.length) = some 0 := by decide +kernel
theorem hd_X7_tick : yX7_tick.cls = RX7 ∧ yX7_tick.cls ≠ "java/lang/invoke/MethodHandle" ∧ yX7_tick.cls ≠ "java/lang/invoke/VarHandle" ∧ (parseMethodDescriptor yX7_tick.desc).map (fun d => d.parameters.length) = some 0 := by decide +kernel
theorem hd_X7_ticks : yX7_ticks.cls = RX7 ∧ yX7_ticks.cls ≠ "java/lang/invoke/MethodHandle" ∧ yX7_ticks.cls ≠ "java/lang/invoke/VarHandle" ∧ (parseMethodDescriptor yX7_ticks.desc).map (fun d => d.parameters.length) = some 1 := by decide +kernel
theorem hd_X7_sets : yX7_sets.cls = RX7 ∧ yX7_sets.cls ≠ "java/lang/invoke/MethodHandle" ∧ yX7_sets.cls ≠ "java/lang/invoke/VarHandle" ∧ (parseMethodDescriptor yX7_sets.desc).map (fun d => d.parameters.length) = some 2 := by decide +kernel
theorem hd_X7_setPatience : yX7_setPatience.cls = RX7 ∧ yX7_setPatience.cls ≠ "java/lang/invoke/MethodHandle" ∧ yX7_setPatience.cls ≠ "java/lang/invoke/VarHandle" ∧ (parseMethodDescriptor yX7_setPatience.desc).map (fun d => d.parameters.length) = some 2 := by decide +kernel
theorem hd_X7_setQuota : yX7_setQuota.cls = RX7 ∧ yX7_setQuota.cls ≠ "java/lang/invoke/MethodHandle" ∧ yX7_setQuota.cls ≠ "java/lang/invoke/VarHandle" ∧ (parseMethodDescriptor yX7_setQuota.desc).map (fun d => d.parameters.length) = some 1 := by decide +kernel
theorem hd_X7_setGrace : yX7_setGrace.cls = RX7 ∧ yX7_setGrace.cls ≠ "java/lang/invoke/MethodHandle" ∧ yX7_setGrace.cls ≠ "java/lang/invoke/VarHandle" ∧ (parseMethodDescriptor yX7_setGrace.desc).map (fun d => d.parameters.length) = some 1 := by decide +kernel
theorem hd_X7_isSender : yX7_isSender.cls ≠ "java/lang/invoke/MethodHandle" ∧ yX7_isSender.cls ≠ "java/lang/invoke/VarHandle" ∧ (parseMethodDescriptor yX7_isSender.desc).map (fun d => d.parameters.length) = some 1 := by decide +kernel
theorem hd_X7_isPetition : yX7_isPetition.cls ≠ "java/lang/invoke/MethodHandle" ∧ yX7_isPetition.cls ≠ "java/lang/invoke/VarHandle" ∧ (parseMethodDescriptor yX7_isPetition.desc).map (fun d => d.parameters.length) = some 3 := by decide +kernel
theorem hd_X7_puts : yX7_puts.cls = RX7 ∧ yX7_puts.cls ≠ "java/lang/invoke/MethodHandle" ∧ yX7_puts.cls ≠ "java/lang/invoke/VarHandle" ∧ (parseMethodDescriptor yX7_puts.desc).map (fun d => d.parameters.length) = some 5 := by decide +kernel
theorem hd_X7_send : yX7_send.cls = RX7 ∧ yX7_send.cls ≠ "java/lang/invoke/MethodHandle" ∧ yX7_send.cls ≠ "java/lang/invoke/VarHandle" ∧ (parseMethodDescriptor yX7_send.desc).map (fun d => d.parameters.length) = some 3 := by decide +kernel
theorem hd_X7_sendBribed : yX7_sendBribed.cls = RX7 ∧ yX7_sendBribed.cls ≠ "java/lang/invoke/MethodHandle" ∧ yX7_sendBribed.cls ≠ "java/lang/invoke/VarHandle" ∧ (parseMethodDescriptor yX7_sendBribed.desc).map (fun d => d.parameters.length) = some 4 := by decide +kernel
theorem hd_X7_sendJoint : yX7_sendJoint.cls = RX7 ∧ yX7_sendJoint.cls ≠ "java/lang/invoke/MethodHandle" ∧ yX7_sendJoint.cls ≠ "java/lang/invoke/VarHandle" ∧ (parseMethodDescriptor yX7_sendJoint.desc).map (fun d => d.parameters.length) = some 4 := by decide +kernel
theorem hd_X7_withdraw : yX7_withdraw.cls = RX7 ∧ yX7_withdraw.cls ≠ "java/lang/invoke/MethodHandle" ∧ yX7_withdraw.cls ≠ "java/lang/invoke/VarHandle" ∧ (parseMethodDescriptor yX7_withdraw.desc).map (fun d => d.parameters.length) = some 1 := by decide +kernel
theorem hd_X7_serve : yX7_serve.cls = RX7 ∧ yX7_serve.cls ≠ "java/lang/invoke/MethodHandle" ∧ yX7_serve.cls ≠ "java/lang/invoke/VarHandle" ∧ (parseMethodDescriptor yX7_serve.desc).map (fun d => d.parameters.length) = some 0 := by decide +kernel
theorem hd_X7_pass : yX7_pass.cls = RX7 ∧ yX7_pass.cls ≠ "java/lang/invoke/MethodHandle" ∧ yX7_pass.cls ≠ "java/lang/invoke/VarHandle" ∧ (parseMethodDescriptor yX7_pass.desc).map (fun d => d.parameters.length) = some 1 := by decide +kernel
theorem hd_X7_told : yX7_told.cls = RX7 ∧ yX7_told.cls ≠ "java/lang/invoke/MethodHandle" ∧ yX7_told.cls ≠ "java/lang/invoke/VarHandle" ∧ (parseMethodDescriptor yX7_told.desc).map (fun d => d.parameters.length) = some 2 := by decide +kernel
theorem hd_X7_petition : yX7_petition.cls = RX7 ∧ yX7_petition.cls ≠ "java/lang/invoke/MethodHandle" ∧ yX7_petition.cls ≠ "java/lang/invoke/VarHandle" ∧ (parseMethodDescriptor yX7_petition.desc).map (fun d => d.parameters.length) = some 2 := by decide +kernel
theorem hd_X7_peek : yX7_peek.cls = RX7 ∧ yX7_peek.cls ≠ "java/lang/invoke/MethodHandle" ∧ yX7_peek.cls ≠ "java/lang/invoke/VarHandle" ∧ (parseMethodDescriptor yX7_peek.desc).map (fun d => d.parameters.length) = some 1 := by decide +kernel
theorem hd_X7_sentBy : yX7_sentBy.cls = RX7 ∧ yX7_sentBy.cls ≠ "java/lang/invoke/MethodHandle" ∧ yX7_sentBy.cls ≠ "java/lang/invoke/VarHandle" ∧ (parseMethodDescriptor yX7_sentBy.desc).map (fun d => d.parameters.length) = some 1 := by decide +kernel
theorem hd_X7_returned : yX7_returned.cls = RX7 ∧ yX7_returned.cls ≠ "java/lang/invoke/MethodHandle" ∧ yX7_returned.cls ≠ "java/lang/invoke/VarHandle" ∧ (parseMethodDescriptor yX7_returned.desc).map (fun d => d.parameters.length) = some 1 := by decide +kernel
theorem hd_X7_entry : yX7_entry.cls = RX7 ∧ yX7_entry.cls ≠ "java/lang/invoke/MethodHandle" ∧ yX7_entry.cls ≠ "java/lang/invoke/VarHandle" ∧ (parseMethodDescriptor yX7_entry.desc).map (fun d => d.parameters.length) = some 2 := by decide +kernel
theorem hd_X7_loudest : yX7_loudest.cls = RX7 ∧ yX7_loudest.cls ≠ "java/lang/invoke/MethodHandle" ∧ yX7_loudest.cls ≠ "java/lang/invoke/VarHandle" ∧ (parseMethodDescriptor yX7_loudest.desc).map (fun d => d.parameters.length) = some 0 := by decide +kernel
theorem hd_X7_bribes : yX7_bribes.cls = RX7 ∧ yX7_bribes.cls ≠ "java/lang/invoke/MethodHandle" ∧ yX7_bribes.cls ≠ "java/lang/invoke/VarHandle" ∧ (parseMethodDescriptor yX7_bribes.desc).map (fun d => d.parameters.length) = some 0 := by decide +kernel
theorem hd_X7_valueTold : yX7_valueTold.cls = RX7 ∧ yX7_valueTold.cls ≠ "java/lang/invoke/MethodHandle" ∧ yX7_valueTold.cls ≠ "java/lang/invoke/VarHandle" ∧ (parseMethodDescriptor yX7_valueTold.desc).map (fun d => d.parameters.length) = some 1 := by decide +kernel
theorem hd_X7_value : yX7_value.cls = RX7 ∧ yX7_value.cls ≠ "java/lang/invoke/MethodHandle" ∧ yX7_value.cls ≠ "java/lang/invoke/VarHandle" ∧ (parseMethodDescriptor yX7_value.desc).map (fun d => d.parameters.length) = some 1 := by decide +kernel
theorem hd_X7_ofRank : yX7_ofRank.cls = RX7 ∧ yX7_ofRank.cls ≠ "java/lang/invoke/MethodHandle" ∧ yX7_ofRank.cls ≠ "java/lang/invoke/VarHandle" ∧ (parseMethodDescriptor yX7_ofRank.desc).map (fun d => d.parameters.length) = some 1 := by decide +kernel
theorem hd_X7_rankIn : yX7_rankIn.cls = RX7 ∧ yX7_rankIn.cls ≠ "java/lang/invoke/MethodHandle" ∧ yX7_rankIn.cls ≠ "java/lang/invoke/VarHandle" ∧ (parseMethodDescriptor yX7_rankIn.desc).map (fun d => d.parameters.length) = some 2 := by decide +kernel
theorem hd_X7_firstToExpire : yX7_firstToExpire.cls = RX7 ∧ yX7_firstToExpire.cls ≠ "java/lang/invoke/MethodHandle" ∧ yX7_firstToExpire.cls ≠ "java/lang/invoke/VarHandle" ∧ (parseMethodDescriptor yX7_firstToExpire.desc).map (fun d => d.parameters.length) = some 0 := by decide +kernel
theorem hd_X7_servedIn : yX7_servedIn.cls = RX7 ∧ yX7_servedIn.cls ≠ "java/lang/invoke/MethodHandle" ∧ yX7_servedIn.cls ≠ "java/lang/invoke/VarHandle" ∧ (parseMethodDescriptor yX7_servedIn.desc).map (fun d => d.parameters.length) = some 1 := by decide +kernel
theorem hd_X7_bribeToLead : yX7_bribeToLead.cls = RX7 ∧ yX7_bribeToLead.cls ≠ "java/lang/invoke/MethodHandle" ∧ yX7_bribeToLead.cls ≠ "java/lang/invoke/VarHandle" ∧ (parseMethodDescriptor yX7_bribeToLead.desc).map (fun d => d.parameters.length) = some 1 := by decide +kernel
theorem hd_X7_meanWait : yX7_meanWait.cls = RX7 ∧ yX7_meanWait.cls ≠ "java/lang/invoke/MethodHandle" ∧ yX7_meanWait.cls ≠ "java/lang/invoke/VarHandle" ∧ (parseMethodDescriptor yX7_meanWait.desc).map (fun d => d.parameters.length) = some 0 := by decide +kernel
theorem hd_X7_append : yX7_append.cls = RX7 ∧ yX7_append.cls ≠ "java/lang/invoke/MethodHandle" ∧ yX7_append.cls ≠ "java/lang/invoke/VarHandle" ∧ (parseMethodDescriptor yX7_append.desc).map (fun d => d.parameters.length) = some 1 := by decide +kernel
theorem hd_X7_clearText : yX7_clearText.cls = RX7 ∧ yX7_clearText.cls ≠ "java/lang/invoke/MethodHandle" ∧ yX7_clearText.cls ≠ "java/lang/invoke/VarHandle" ∧ (parseMethodDescriptor yX7_clearText.desc).map (fun d => d.parameters.length) = some 0 := by decide +kernel
theorem hd_X7_isAt : yX7_isAt.cls = RX7 ∧ yX7_isAt.cls ≠ "java/lang/invoke/MethodHandle" ∧ yX7_isAt.cls ≠ "java/lang/invoke/VarHandle" ∧ (parseMethodDescriptor yX7_isAt.desc).map (fun d => d.parameters.length) = some 2 := by decide +kernel
theorem hd_X7_takes : yX7_takes.cls = RX7 ∧ yX7_takes.cls ≠ "java/lang/invoke/MethodHandle" ∧ yX7_takes.cls ≠ "java/lang/invoke/VarHandle" ∧ (parseMethodDescriptor yX7_takes.desc).map (fun d => d.parameters.length) = some 1 := by decide +kernel
theorem hd_X7_takesDigit : yX7_takesDigit.cls = RX7 ∧ yX7_takesDigit.cls ≠ "java/lang/invoke/MethodHandle" ∧ yX7_takesDigit.cls ≠ "java/lang/invoke/VarHandle" ∧ (parseMethodDescriptor yX7_takesDigit.desc).map (fun d => d.parameters.length) = some 2 := by decide +kernel
theorem hd_X7_takesNumber : yX7_takesNumber.cls = RX7 ∧ yX7_takesNumber.cls ≠ "java/lang/invoke/MethodHandle" ∧ yX7_takesNumber.cls ≠ "java/lang/invoke/VarHandle" ∧ (parseMethodDescriptor yX7_takesNumber.desc).map (fun d => d.parameters.length) = some 3 := by decide +kernel
theorem hd_X7_takesOrder : yX7_takesOrder.cls = RX7 ∧ yX7_takesOrder.cls ≠ "java/lang/invoke/MethodHandle" ∧ yX7_takesOrder.cls ≠ "java/lang/invoke/VarHandle" ∧ (parseMethodDescriptor yX7_takesOrder.desc).map (fun d => d.parameters.length) = some 0 := by decide +kernel
theorem hd_X7_does : yX7_does.cls = RX7 ∧ yX7_does.cls ≠ "java/lang/invoke/MethodHandle" ∧ yX7_does.cls ≠ "java/lang/invoke/VarHandle" ∧ (parseMethodDescriptor yX7_does.desc).map (fun d => d.parameters.length) = some 1 := by decide +kernel
theorem hd_X7_carryOut : yX7_carryOut.cls = RX7 ∧ yX7_carryOut.cls ≠ "java/lang/invoke/MethodHandle" ∧ yX7_carryOut.cls ≠ "java/lang/invoke/VarHandle" ∧ (parseMethodDescriptor yX7_carryOut.desc).map (fun d => d.parameters.length) = some 0 := by decide +kernel
theorem hd_X7_undo : yX7_undo.cls = RX7 ∧ yX7_undo.cls ≠ "java/lang/invoke/MethodHandle" ∧ yX7_undo.cls ≠ "java/lang/invoke/VarHandle" ∧ (parseMethodDescriptor yX7_undo.desc).map (fun d => d.parameters.length) = some 0 := by decide +kernel
theorem hd_X7_mix : yX7_mix.cls = RX7 ∧ yX7_mix.cls ≠ "java/lang/invoke/MethodHandle" ∧ yX7_mix.cls ≠ "java/lang/invoke/VarHandle" ∧ (parseMethodDescriptor yX7_mix.desc).map (fun d => d.parameters.length) = some 1 := by decide +kernel
theorem hd_X7_digest : yX7_digest.cls = RX7 ∧ yX7_digest.cls ≠ "java/lang/invoke/MethodHandle" ∧ yX7_digest.cls ≠ "java/lang/invoke/VarHandle" ∧ (parseMethodDescriptor yX7_digest.desc).map (fun d => d.parameters.length) = some 0 := by decide +kernel
set_option maxHeartbeats 4000000 in
set_option maxRecDepth 100000 in
theorem ct_X7_in (l : Launch) {D : va_G} {cI cJ cQ : ClassId} {x a b : Int32} : Ct l yX7_in (Cond.code yX7_in cX7_in 3 (some .boolean)) 0 0 0 0 D (tyz cI cJ cQ) [.int x, .int a, .int b] [] (pstI (bI (inR x a b)) []) := by
  refine Ct.of RX7 (by decide) rfl (Nat.le_of_ble_eq_true rfl) ?_
  intro p e s m below meth c A C RC
  refine sw_iload_n 0 0 C dX7_in_0 rfl rfl ?_
  refine sw_iload_n 1 1 C dX7_in_1 rfl rfl ?_
  refine sw_icmp_lt 2 14 C dX7_in_2 (by decide) (fun c_2 => ?_) (fun c_2 => ?_)
  · refine sw_iconst 14 C dX7_in_14 0 (by decide) ?_
    refine sw_zret 15 C RC rfl dX7_in_15 ?_
    exact ⟨by unfold inR; rw [decide_eq_false (Int32.not_le.mpr c_2)]; rfl, rfl⟩
  · refine sw_iload_n 5 0 C dX7_in_5 rfl rfl ?_
    refine sw_iload_n 6 2 C dX7_in_6 rfl rfl ?_
    refine sw_icmp_gt 7 14 C dX7_in_7 (by decide) (fun c_7 => ?_) (fun c_7 => ?_)
    · refine sw_iconst 14 C dX7_in_14 0 (by decide) ?_
      refine sw_zret 15 C RC rfl dX7_in_15 ?_
      exact ⟨by unfold inR; rw [decide_eq_false (p := x ≤ b) (Int32.not_le.mpr c_7), Bool.and_false]; rfl, rfl⟩
    · refine sw_iconst 10 C dX7_in_10 1 (by decide) ?_
      refine sw_goto 11 15 C dX7_in_11 (by decide) ?_
      refine sw_zret 15 C RC rfl dX7_in_15 ?_
      exact ⟨by unfold inR; rw [decide_eq_true (Int32.not_lt.mp c_2), decide_eq_true (p := x ≤ b) (Int32.not_lt.mp c_7)]; rfl, rfl⟩
set_option maxHeartbeats 4000000 in
set_option maxRecDepth 100000 in
theorem ct_X7_isSender (l : Launch) {D : va_G} {cI cJ cQ : ClassId} {x : Int32} : Ct l yX7_isSender (Cond.code yX7_isSender cX7_isSender 1 (some .boolean)) 1 22 0 0 D (tyz cI cJ cQ) [.int x] (flatS []) (pstI (bI (inR x 0 7)) (flatS [])) := by
  refine Ct.of RX7 (by decide) rfl (Nat.le_of_ble_eq_true rfl) ?_
  intro p e s m below meth c A C RC
  refine sw_iload_n 0 0 C dX7_isSender_0 rfl rfl ?_
  refine sw_iconst 1 C dX7_isSender_1 0 (by decide) ?_
  refine sw_bipush 2 C dX7_isSender_2 7 (by decide) ?_
  refine sg_callSIP 4 [] 3 C dX7_isSender_4 (ct_X7_in l) wK_X7_in wM_X7_73 wT_X7_in wI_X7 hd_X7_in rfl ⟨rfl, rfl⟩ ⟨Nat.le_of_ble_eq_true rfl, Nat.le_of_ble_eq_true rfl⟩ rfl rfl rfl rfl ?_
  refine sw_zret 7 C RC (bI_nar _) dX7_isSender_7 ?_
  exact ⟨rfl, rfl⟩
set_option maxHeartbeats 4000000 in
set_option maxRecDepth 100000 in
theorem ct_X7_isPetition (l : Launch) {D : va_G} {cI cJ cQ : ClassId} {x1 x2 x3 : Int32} : Ct l yX7_isPetition (Cond.code yX7_isPetition cX7_isPetition 3 (some .boolean)) 2 42 0 0 D (tyz cI cJ cQ) [.int x1, .int x2, .int x3] (flatS []) (pstI (bI (okSn x1 x2 x3)) (flatS [])) := by
  refine Ct.of RX7 (by decide) rfl (Nat.le_of_ble_eq_true rfl) ?_
  intro p e s m below meth c A C RC
  refine sw_iload_n 0 0 C dX7_isPetition_0 rfl rfl ?_
  refine sg_callSIP 1 [] 1 C dX7_isPetition_1 (ct_X7_isSender l) wK_X7_isSender wM_X7_83 wT_X7_isSender wI_X7 hd_X7_isSender rfl ⟨rfl, rfl⟩ ⟨Nat.le_of_ble_eq_true rfl, Nat.le_of_ble_eq_true rfl⟩ rfl rfl rfl rfl ?_
  refine sw_if_eq 4 31 C dX7_isPetition_4 (by decide) (fun c_4 => ?_) (fun c_4 => ?_)
  · refine sw_iconst 31 C dX7_isPetition_31 0 (by decide) ?_
    refine sw_zret 32 C RC rfl dX7_isPetition_32 ?_
    exact ⟨by unfold okSn; rw [bI_f c_4]; rfl, rfl⟩
  · refine sw_iload_n 7 1 C dX7_isPetition_7 rfl rfl ?_
    refine sw_iconst 8 C dX7_isPetition_8 0 (by decide) ?_
    refine sw_iconst 9 C dX7_isPetition_9 4 (by decide) ?_
    refine sg_callSIP 10 [] 3 C dX7_isPetition_10 (ct_X7_in l) wK_X7_in wM_X7_73 wT_X7_in wI_X7 hd_X7_in rfl ⟨rfl, rfl⟩ ⟨Nat.le_of_ble_eq_true rfl, Nat.le_of_ble_eq_true rfl⟩ rfl rfl rfl rfl ?_
    refine sw_if_eq 13 31 C dX7_isPetition_13 (by decide) (fun c_13 => ?_) (fun c_13 => ?_)
    · refine sw_iconst 31 C dX7_isPetition_31 0 (by decide) ?_
      refine sw_zret 32 C RC rfl dX7_isPetition_32 ?_
      exact ⟨by unfold okSn; rw [bI_f c_13, Bool.false_and, Bool.and_false]; rfl, rfl⟩
    · refine sw_iload_n 16 2 C dX7_isPetition_16 rfl rfl ?_
      refine sw_iconst 17 C dX7_isPetition_17 1 (by decide) ?_
      refine sw_sipush 18 C dX7_isPetition_18 200 (by decide) ?_
      refine sg_callSIP 21 [] 3 C dX7_isPetition_21 (ct_X7_in l) wK_X7_in wM_X7_73 wT_X7_in wI_X7 hd_X7_in rfl ⟨rfl, rfl⟩ ⟨Nat.le_of_ble_eq_true rfl, Nat.le_of_ble_eq_true rfl⟩ rfl rfl rfl rfl ?_
      refine sw_if_eq 24 31 C dX7_isPetition_24 (by decide) (fun c_24 => ?_) (fun c_24 => ?_)
      · refine sw_iconst 31 C dX7_isPetition_31 0 (by decide) ?_
        refine sw_zret 32 C RC rfl dX7_isPetition_32 ?_
        exact ⟨by unfold okSn; rw [bI_f c_24, Bool.and_false, Bool.and_false]; rfl, rfl⟩
      · refine sw_iconst 27 C dX7_isPetition_27 1 (by decide) ?_
        refine sw_goto 28 32 C dX7_isPetition_28 (by decide) ?_
        refine sw_zret 32 C RC rfl dX7_isPetition_32 ?_
        exact ⟨by unfold okSn; rw [bI_t c_4, bI_t c_13, bI_t c_24]; rfl, rfl⟩
theorem lou_le {v : Int32} (h : v ≤ 4) : v = if v < 4 then v else 4 := by
  split
  · rfl
  · rename_i q
    exact Int32.le_antisymm h (Int32.not_lt.mp q)
theorem lou_gt {v : Int32} (h : ¬ v ≤ 4) : (4 : Int32) = if v < 4 then v else 4 := (if_neg (fun q => h (Int32.le_of_lt q))).symm
set_option maxHeartbeats 4000000 in
set_option maxRecDepth 100000 in
theorem ct_X7_louder (l : Launch) {D : va_G} {cI cJ cQ : ClassId} {x y : Int32} : Ct l yX7_louder (Cond.code yX7_louder cX7_louder 3 (some .int)) 0 0 0 0 D (tyz cI cJ cQ) [.int x, .int y] [] (pstI (if x + y / 25 < 4 then x + y / 25 else 4) []) := by
  refine Ct.of RX7 (by decide) rfl (Nat.le_of_ble_eq_true rfl) ?_
  intro p e s m below meth c A C RC
  refine sw_iload_n 0 0 C dX7_louder_0 rfl rfl ?_
  refine sw_iload_n 1 1 C dX7_louder_1 rfl rfl ?_
  refine sw_bipush 2 C dX7_louder_2 25 (by decide) ?_
  refine sw_idiv 4 C dX7_louder_4 (by decide) ?_
  refine sw_iadd 5 C dX7_louder_5 ?_
  refine sw_istore_n 6 2 C dX7_louder_6 rfl rfl ?_
  refine sw_iload_n 7 2 C dX7_louder_7 rfl rfl ?_
  refine sw_iconst 8 C dX7_louder_8 4 (by decide) ?_
  refine sw_icmp_le 9 16 C dX7_louder_9 (by decide) (fun c_9 => ?_) (fun c_9 => ?_)
  · refine sw_iload_n 16 2 C dX7_louder_16 rfl rfl ?_
    refine sw_iret 17 C RC dX7_louder_17 ?_
    exact ⟨by rw [← lou_le c_9], rfl⟩
  · refine sw_iconst 12 C dX7_louder_12 4 (by decide) ?_
    refine sw_goto 13 17 C dX7_louder_13 (by decide) ?_
    refine sw_iret 17 C RC dX7_louder_17 ?_
    exact ⟨by rw [← lou_gt c_9], rfl⟩
set_option maxHeartbeats 4000000 in
set_option maxRecDepth 100000 in
theorem ct_X7_thrown (l : Launch) {D : va_G} {cI cJ cQ : ClassId} {b0 b1 b2 b3 b4 b5 : Nat} {sa pa ad tx nb : Nat → Int32} {kp th ty ap : Int32} {hh : Int64} : Ct l yX7_thrown (Cond.code yX7_thrown cX7_thrown 1 (some .int)) 0 0 0 0 D (tyz cI cJ cQ) [.ref b0] [(b0, .inr (7, [.ref b1, .ref b2, .ref b3, .int (kp), .int (th), .ref b4, .int (ty), .int (ap), .ref b5, .long (hh)])), (b1, .inl (cI, 424, .inl (sa))), (b2, .inl (cI, 1696, .inl (pa))), (b3, .inl (cI, 424, .inl (ad))), (b4, .inl (cI, 100, .inl (tx))), (b5, .inl (cI, 4, .inl (nb)))] (pstI th [(b0, .inr (7, [.ref b1, .ref b2, .ref b3, .int (kp), .int (th), .ref b4, .int (ty), .int (ap), .ref b5, .long (hh)])), (b1, .inl (cI, 424, .inl (sa))), (b2, .inl (cI, 1696, .inl (pa))), (b3, .inl (cI, 424, .inl (ad))), (b4, .inl (cI, 100, .inl (tx))), (b5, .inl (cI, 4, .inl (nb)))]) := by
  refine Ct.of RX7 (by decide) rfl (Nat.le_of_ble_eq_true rfl) ?_
  intro p e s m below meth c A C RC
  refine sw_aload_n 0 0 C dX7_thrown_0 rfl rfl ?_
  refine sw_get 1 0 4 C dX7_thrown_1 rfl rfl (inA lwX7) (C.w wF_X7_25) rfl rfl rfl ?_
  refine sw_iret 4 C RC dX7_thrown_4 ?_
  exact ⟨rfl, rfl⟩
set_option maxHeartbeats 4000000 in
set_option maxRecDepth 100000 in
theorem ct_X7_fails (l : Launch) {D : va_G} {cI cJ cQ : ClassId} {b0 b1 b2 b3 b4 b5 : Nat} {sa pa ad tx nb : Nat → Int32} {kp th ty ap : Int32} {hh : Int64} {x : Int32} : Ct l yX7_fails (Cond.code yX7_fails cX7_fails 2 (some .int)) 0 0 0 0 D (tyz cI cJ cQ) [.ref b0, .int x] [(b0, .inr (7, [.ref b1, .ref b2, .ref b3, .int (kp), .int (th), .ref b4, .int (ty), .int (ap), .ref b5, .long (hh)])), (b1, .inl (cI, 424, .inl (sa))), (b2, .inl (cI, 1696, .inl (pa))), (b3, .inl (cI, 424, .inl (ad))), (b4, .inl (cI, 100, .inl (tx))), (b5, .inl (cI, 4, .inl (nb)))] (pstI 0 [(b0, .inr (7, [.ref b1, .ref b2, .ref b3, .int (kp), .int (x), .ref b4, .int (ty), .int (ap), .ref b5, .long (hh)])), (b1, .inl (cI, 424, .inl (sa))), (b2, .inl (cI, 1696, .inl (pa))), (b3, .inl (cI, 424, .inl (ad))), (b4, .inl (cI, 100, .inl (tx))), (b5, .inl (cI, 4, .inl (nb)))]) := by
  refine Ct.of RX7 (by decide) rfl (Nat.le_of_ble_eq_true rfl) ?_
  intro p e s m below meth c A C RC
  refine sw_aload_n 0 0 C dX7_fails_0 rfl rfl ?_
  refine sw_iload_n 1 1 C dX7_fails_1 rfl rfl ?_
  refine sw_put 2 0 4 tyX7 C dX7_fails_2 rfl rfl (inA lwX7) tyX7_ok nmX7 (C.w wF_X7_25) rfl rfl rfl rfl rfl rfl rfl ?_
  refine sw_ws [(_, .inr (7, [.ref _, .ref _, .ref _, .int _, .int _, .ref _, .int _, .int _, .ref _, .long _])), (_, .inl (_, _, .inl _)), (_, .inl (_, _, .inl _)), (_, .inl (_, _, .inl _)), (_, .inl (_, _, .inl _)), (_, .inl (_, _, .inl _))] rfl ?_
  refine sw_iconst 5 C dX7_fails_5 0 (by decide) ?_
  refine sw_iret 6 C RC dX7_fails_6 ?_
  exact ⟨rfl, rfl⟩
set_option maxHeartbeats 4000000 in
set_option maxRecDepth 100000 in
theorem ct_X7_tells (l : Launch) {D : va_G} {cI cJ cQ : ClassId} {b0 b1 b2 b3 b4 b5 : Nat} {sa pa ad tx nb : Nat → Int32} {kp th ty ap : Int32} {hh : Int64} {x : Int32} : Ct l yX7_tells (Cond.code yX7_tells cX7_tells 2 (some .int)) 0 0 0 0 D (tyz cI cJ cQ) [.ref b0, .int x] [(b0, .inr (7, [.ref b1, .ref b2, .ref b3, .int (kp), .int (th), .ref b4, .int (ty), .int (ap), .ref b5, .long (hh)])), (b1, .inl (cI, 424, .inl (sa))), (b2, .inl (cI, 1696, .inl (pa))), (b3, .inl (cI, 424, .inl (ad))), (b4, .inl (cI, 100, .inl (tx))), (b5, .inl (cI, 4, .inl (nb)))] (pstI x [(b0, .inr (7, [.ref b1, .ref b2, .ref b3, .int (kp), .int (0), .ref b4, .int (ty), .int (ap), .ref b5, .long (hh)])), (b1, .inl (cI, 424, .inl (sa))), (b2, .inl (cI, 1696, .inl (pa))), (b3, .inl (cI, 424, .inl (ad))), (b4, .inl (cI, 100, .inl (tx))), (b5, .inl (cI, 4, .inl (nb)))]) := by
  refine Ct.of RX7 (by decide) rfl (Nat.le_of_ble_eq_true rfl) ?_
  intro p e s m below meth c A C RC
  refine sw_aload_n 0 0 C dX7_tells_0 rfl rfl ?_
  refine sw_iconst 1 C dX7_tells_1 0 (by decide) ?_
  refine sw_put 2 0 4 tyX7 C dX7_tells_2 rfl rfl (inA lwX7) tyX7_ok nmX7 (C.w wF_X7_25) rfl rfl rfl rfl rfl rfl rfl ?_
  refine sw_ws [(_, .inr (7, [.ref _, .ref _, .ref _, .int _, .int _, .ref _, .int _, .int _, .ref _, .long _])), (_, .inl (_, _, .inl _)), (_, .inl (_, _, .inl _)), (_, .inl (_, _, .inl _)), (_, .inl (_, _, .inl _)), (_, .inl (_, _, .inl _))] rfl ?_
  refine sw_iload_n 5 1 C dX7_tells_5 rfl rfl ?_
  refine sw_iret 6 C RC dX7_tells_6 ?_
  exact ⟨rfl, rfl⟩
set_option maxHeartbeats 4000000 in
set_option maxRecDepth 100000 in
theorem ct_X7_mix (l : Launch) {D : va_G} {cI cJ cQ : ClassId} {b0 b1 b2 b3 b4 b5 : Nat} {sa pa ad tx nb : Nat → Int32} {kp th ty ap : Int32} {hh : Int64} {x : Int32} : Ct l yX7_mix (Cond.code yX7_mix cX7_mix 2 none) 0 0 0 0 D (tyz cI cJ cQ) [.ref b0, .int x] [(b0, .inr (7, [.ref b1, .ref b2, .ref b3, .int (kp), .int (th), .ref b4, .int (ty), .int (ap), .ref b5, .long (hh)])), (b1, .inl (cI, 424, .inl (sa))), (b2, .inl (cI, 1696, .inl (pa))), (b3, .inl (cI, 424, .inl (ad))), (b4, .inl (cI, 100, .inl (tx))), (b5, .inl (cI, 4, .inl (nb)))] (pstV [(b0, .inr (7, [.ref b1, .ref b2, .ref b3, .int (kp), .int (th), .ref b4, .int (ty), .int (ap), .ref b5, .long (31 * hh + x.toInt64)])), (b1, .inl (cI, 424, .inl (sa))), (b2, .inl (cI, 1696, .inl (pa))), (b3, .inl (cI, 424, .inl (ad))), (b4, .inl (cI, 100, .inl (tx))), (b5, .inl (cI, 4, .inl (nb)))]) := by
  refine Ct.of RX7 (by decide) rfl (Nat.le_of_ble_eq_true rfl) ?_
  intro p e s m below meth c A C RC
  refine sw_aload_n 0 0 C dX7_mix_0 rfl rfl ?_
  refine sw_ldc2 1 C dX7_mix_1 (C.w wQ_X7_153) ?_
  refine sw_aload_n 4 0 C dX7_mix_4 rfl rfl ?_
  refine sw_get 5 0 9 C dX7_mix_5 rfl rfl (inA lwX7) (C.w wF_X7_155) rfl rfl rfl ?_
  refine sw_lmul 8 C dX7_mix_8 ?_
  refine sw_iload_n 9 1 C dX7_mix_9 rfl rfl ?_
  refine sw_i2l 10 C dX7_mix_10 ?_
  refine sw_ladd 11 C dX7_mix_11 ?_
  refine sw_put 12 0 9 tyX7 C dX7_mix_12 rfl rfl (inA lwX7) tyX7_ok nmX7 (C.w wF_X7_155) rfl rfl rfl rfl rfl rfl rfl ?_
  refine sw_ws [(_, .inr (7, [.ref _, .ref _, .ref _, .int _, .int _, .ref _, .int _, .int _, .ref _, .long _])), (_, .inl (_, _, .inl _)), (_, .inl (_, _, .inl _)), (_, .inl (_, _, .inl _)), (_, .inl (_, _, .inl _)), (_, .inl (_, _, .inl _))] rfl ?_
  refine sw_vret 15 C RC dX7_mix_15 ?_
  exact ⟨rfl, rfl⟩
set_option maxHeartbeats 4000000 in
set_option maxRecDepth 100000 in
theorem ct_X7_of (l : Launch) {D : va_G} {cI cJ cQ : ClassId} {b0 b1 b2 b3 b4 b5 : Nat} {sa pa ad tx nb : Nat → Int32} {kp th ty ap : Int32} {hh : Int64} {x1 x2 : Int32} (i k : Nat) (h1 : x1 = nI i) (h2 : x2 = nI k) (hi : i < 40) (hk : k < 8) : Ct l yX7_of (Cond.code yX7_of cX7_of 3 (some .int)) 0 0 0 0 D (tyz cI cJ cQ) [.ref b0, .int x1, .int x2] [(b0, .inr (7, [.ref b1, .ref b2, .ref b3, .int (kp), .int (th), .ref b4, .int (ty), .int (ap), .ref b5, .long (hh)])), (b1, .inl (cI, 424, .inl (sa))), (b2, .inl (cI, 1696, .inl (pa))), (b3, .inl (cI, 424, .inl (ad))), (b4, .inl (cI, 100, .inl (tx))), (b5, .inl (cI, 4, .inl (nb)))] (pstI (sa (104 + i * 8 + k)) [(b0, .inr (7, [.ref b1, .ref b2, .ref b3, .int (kp), .int (th), .ref b4, .int (ty), .int (ap), .ref b5, .long (hh)])), (b1, .inl (cI, 424, .inl (sa))), (b2, .inl (cI, 1696, .inl (pa))), (b3, .inl (cI, 424, .inl (ad))), (b4, .inl (cI, 100, .inl (tx))), (b5, .inl (cI, 4, .inl (nb)))]) := by
  refine Ct.of RX7 (by decide) rfl (Nat.le_of_ble_eq_true rfl) ?_
  intro p e s m below meth c A C RC
  subst h1 h2
  refine sw_aload_n 0 0 C dX7_of_0 rfl rfl ?_
  refine sw_get 1 0 0 C dX7_of_1 rfl rfl (inA lwX7) (C.w wF_X7_7) rfl rfl rfl ?_
  refine sw_bipush 4 C dX7_of_4 104 (by decide) ?_
  refine sw_bipush 6 C dX7_of_6 8 (by decide) ?_
  refine sw_iload_n 8 1 C dX7_of_8 rfl rfl ?_
  refine sw_imul 9 C dX7_of_9 ?_
  refine sw_iadd 10 C dX7_of_10 ?_
  refine sw_iload_n 11 2 C dX7_of_11 rfl rfl ?_
  refine sw_iadd 12 C dX7_of_12 ?_
  refine sw_ialdN 13 1 0 (104 + i * 8 + k) C dX7_of_13 (by rw [show (104 : Int32) = nI 104 from rfl, show (8 : Int32) = nI 8 from rfl, pk_mul, nI_add, nI_add, Nat.mul_comm 8 i]) (by omega) rfl rfl rfl ?_
  refine sw_iret 14 C RC dX7_of_14 ?_
  exact ⟨rfl, rfl⟩
set_option maxHeartbeats 4000000 in
set_option maxRecDepth 100000 in
theorem ct_X7_put (l : Launch) {D : va_G} {cI cJ cQ : ClassId} {b0 b1 b2 b3 b4 b5 : Nat} {sa pa ad tx nb : Nat → Int32} {kp th ty ap : Int32} {hh : Int64} {x1 x2 x3 : Int32} (i k : Nat) (h1 : x1 = nI i) (h2 : x2 = nI k) (hi : i < 40) (hk : k < 8) : Ct l yX7_put (Cond.code yX7_put cX7_put 4 none) 0 0 0 0 D (tyz cI cJ cQ) [.ref b0, .int x1, .int x2, .int x3] [(b0, .inr (7, [.ref b1, .ref b2, .ref b3, .int (kp), .int (th), .ref b4, .int (ty), .int (ap), .ref b5, .long (hh)])), (b1, .inl (cI, 424, .inl (sa))), (b2, .inl (cI, 1696, .inl (pa))), (b3, .inl (cI, 424, .inl (ad))), (b4, .inl (cI, 100, .inl (tx))), (b5, .inl (cI, 4, .inl (nb)))] (pstV [(b0, .inr (7, [.ref b1, .ref b2, .ref b3, .int (kp), .int (th), .ref b4, .int (ty), .int (ap), .ref b5, .long (hh)])), (b1, .inl (cI, 424, .inl (upd sa (104 + i * 8 + k) x3))), (b2, .inl (cI, 1696, .inl (pa))), (b3, .inl (cI, 424, .inl (ad))), (b4, .inl (cI, 100, .inl (tx))), (b5, .inl (cI, 4, .inl (nb)))]) := by
  refine Ct.of RX7 (by decide) rfl (Nat.le_of_ble_eq_true rfl) ?_
  intro p e s m below meth c A C RC
  subst h1 h2
  refine sw_aload_n 0 0 C dX7_put_0 rfl rfl ?_
  refine sw_get 1 0 0 C dX7_put_1 rfl rfl (inA lwX7) (C.w wF_X7_7) rfl rfl rfl ?_
  refine sw_bipush 4 C dX7_put_4 104 (by decide) ?_
  refine sw_bipush 6 C dX7_put_6 8 (by decide) ?_
  refine sw_iload_n 8 1 C dX7_put_8 rfl rfl ?_
  refine sw_imul 9 C dX7_put_9 ?_
  refine sw_iadd 10 C dX7_put_10 ?_
  refine sw_iload_n 11 2 C dX7_put_11 rfl rfl ?_
  refine sw_iadd 12 C dX7_put_12 ?_
  refine sw_iload_n 13 3 C dX7_put_13 rfl rfl ?_
  refine sw_iastN 14 1 0 (104 + i * 8 + k) C dX7_put_14 (by rw [show (104 : Int32) = nI 104 from rfl, show (8 : Int32) = nI 8 from rfl, pk_mul, nI_add, nI_add, Nat.mul_comm 8 i]) (by omega) rfl rfl rfl ?_
  refine sw_ws [(_, .inr (7, [.ref _, .ref _, .ref _, .int _, .int _, .ref _, .int _, .int _, .ref _, .long _])), (_, .inl (_, _, .inl _)), (_, .inl (_, _, .inl _)), (_, .inl (_, _, .inl _)), (_, .inl (_, _, .inl _)), (_, .inl (_, _, .inl _))] rfl ?_
  refine sw_vret 15 C RC dX7_put_15 ?_
  exact ⟨rfl, rfl⟩
theorem ct_X7_ofE (l : Launch) {D : va_G} {cI cJ cQ : ClassId} {b0 b1 b2 b3 b4 b5 : Nat} {sa pa ad tx nb : Nat → Int32} {kp th ty ap : Int32} {hh : Int64} {S : StT} (hE : mE S sa) {x1 x2 : Int32} (i k : Nat) (h1 : x1 = nI i) (h2 : x2 = nI (cM k)) (hi : i < zn S) (hk : k < 8) (hn : zn S ≤ 40) : Ct l yX7_of (Cond.code yX7_of cX7_of 3 (some .int)) 0 0 0 0 D (tyz cI cJ cQ) [.ref b0, .int x1, .int x2] [(b0, .inr (7, [.ref b1, .ref b2, .ref b3, .int (kp), .int (th), .ref b4, .int (ty), .int (ap), .ref b5, .long (hh)])), (b1, .inl (cI, 424, .inl (sa))), (b2, .inl (cI, 1696, .inl (pa))), (b3, .inl (cI, 424, .inl (ad))), (b4, .inl (cI, 100, .inl (tx))), (b5, .inl (cI, 4, .inl (nb)))] (pstI (zf S (i * 8 + k)) [(b0, .inr (7, [.ref b1, .ref b2, .ref b3, .int (kp), .int (th), .ref b4, .int (ty), .int (ap), .ref b5, .long (hh)])), (b1, .inl (cI, 424, .inl (sa))), (b2, .inl (cI, 1696, .inl (pa))), (b3, .inl (cI, 424, .inl (ad))), (b4, .inl (cI, 100, .inl (tx))), (b5, .inl (cI, 4, .inl (nb)))]) := (hE.row i k hi hk) ▸ ct_X7_of l i (cM k) h1 h2 (by omega) cM_lt
def cpi (f g : Nat → Int32) (i : Nat) : Nat → Int32 := fun k => if k < i then f k else g k
theorem cpi_0 (f g : Nat → Int32) : cpi f g 0 = g := by
  funext k
  exact if_neg (Nat.not_lt_zero _)
theorem cpi_s (f g : Nat → Int32) (i : Nat) : upd (cpi f g i) i (f i) = cpi f g (i + 1) := by
  funext k
  unfold upd cpi
  by_cases h : k = i
  · subst h
    rw [if_pos rfl, if_pos (Nat.lt_succ_self _)]
  · rw [if_neg h]
    by_cases h2 : k < i
    · rw [if_pos h2, if_pos (by omega)]
    · rw [if_neg h2, if_neg (by omega)]
theorem cpi_all {f g : Nat → Int32} {n j : Nat} (h : j < n) : cpi f g n j = f j := if_pos h
set_option maxHeartbeats 4000000 in
set_option maxRecDepth 100000 in
theorem lp_X7_laysAside {l : Launch} {p : Program} {e : Env} {s : State} {m : MethodId} {args : Array Value} {below : List Frame} {meth : Method} {c : Code} {A : Nat → Prop} {D : va_G} {cI cJ cQ : ClassId} {b0 b1 b2 b3 b4 b5 : Nat} {sa pa ad tx nb : Nat → Int32} {kp th ty ap : Int32} {hh : Int64} (C : CC p s m args c cX7_laysAside 2 RX7 (Cond.code yX7_laysAside cX7_laysAside 2 none :: lw_all) D (tyz cI cJ cQ) A s.heap) (RC : meth.sig.returnType = none ∧ meth.locks = false ∧ meth.name = yX7_laysAside.name) : ∀ (fu i : Nat), i ≤ 424 → 424 + 1 ≤ i + fu →  ∀ (xi : Int32), (xi = nI i) →  sw p l e ({ frames := 0, cells := 0, slots := 0, locals := 0 } : Room) s m args below meth c D A s.heap 2 0 0 (MQ below (ctQ D (tyz cI cJ cQ) A (pstV [(b0, .inr (7, [.ref b1, .ref b2, .ref b3, .int (kp), .int (th), .ref b4, .int (ty), .int (ap), .ref b5, .long (hh)])), (b1, .inl (cI, 424, .inl (sa))), (b2, .inl (cI, 1696, .inl (pa))), (b3, .inl (cI, 424, .inl (sa))), (b4, .inl (cI, 100, .inl (tx))), (b5, .inl (cI, 4, .inl (nb)))])) args s 0 0 A) [(b0, .inr (7, [.ref b1, .ref b2, .ref b3, .int (kp), .int (th), .ref b4, .int (ty), .int (ap), .ref b5, .long (hh)])), (b1, .inl (cI, 424, .inl (sa))), (b2, .inl (cI, 1696, .inl (pa))), (b3, .inl (cI, 424, .inl (cpi sa ad i))), (b4, .inl (cI, 100, .inl (tx))), (b5, .inl (cI, 4, .inl (nb)))] 2 [(0, .ref b0), (1, .int xi)] [] := by
  intro fu
  induction fu with
  | zero => intro i h1 h2; exact absurd h2 (by omega)
  | succ fu ih =>
    intro i hi hf  xi exi
    subst exi
    refine sw_iload_n 2 1 C dX7_laysAside_2 rfl rfl ?_
    refine sw_sipush 3 C dX7_laysAside_3 424 (by decide) ?_
    refine sw_icmp_ge 6 27 C dX7_laysAside_6 (by decide) (fun c_6 => ?_) (fun c_6 => ?_)
    · obtain rfl : i = 424 := by
        have c : nI 424 ≤ nI i := c_6
        have := nI_ge' (by omega) c (by omega)
        omega
      refine sw_arrEq 3 sa rfl (fun j hj => cpi_all hj) ?_
      refine sw_vret 27 C RC dX7_laysAside_27 ?_
      exact ⟨rfl, rfl⟩
    · have hlt : i < 424 := by
        rcases Nat.lt_or_ge i 424 with q | q
        · exact q
        · exact absurd (show (424 : Int32) ≤ nI i from nI_le (a := 424) q (by omega)) c_6
      refine sw_aload_n 9 0 C dX7_laysAside_9 rfl rfl ?_
      refine sw_get 10 0 2 C dX7_laysAside_10 rfl rfl (inA lwX7) (C.w wF_X7_16) rfl rfl rfl ?_
      refine sw_iload_n 13 1 C dX7_laysAside_13 rfl rfl ?_
      refine sw_aload_n 14 0 C dX7_laysAside_14 rfl rfl ?_
      refine sw_get 15 0 0 C dX7_laysAside_15 rfl rfl (inA lwX7) (C.w wF_X7_7) rfl rfl rfl ?_
      refine sw_iload_n 18 1 C dX7_laysAside_18 rfl rfl ?_
      refine sw_ialdN 19 1 0 (i) C dX7_laysAside_19 rfl hlt rfl rfl rfl ?_
      refine sw_iastN 20 3 0 (i) C dX7_laysAside_20 rfl hlt rfl rfl rfl ?_
      refine sw_ws [(_, .inr (7, [.ref _, .ref _, .ref _, .int _, .int _, .ref _, .int _, .int _, .ref _, .long _])), (_, .inl (_, _, .inl _)), (_, .inl (_, _, .inl _)), (_, .inl (_, _, .inl _)), (_, .inl (_, _, .inl _)), (_, .inl (_, _, .inl _))] rfl ?_
      refine sw_iinc 21 C 1 dX7_laysAside_21 (by decide) rfl rfl ?_
      refine sw_goto 24 2 C dX7_laysAside_24 (by decide) ?_
      refine sw_ws [(b0, .inr (7, [.ref b1, .ref b2, .ref b3, .int (kp), .int (th), .ref b4, .int (ty), .int (ap), .ref b5, .long (hh)])), (b1, .inl (cI, 424, .inl (sa))), (b2, .inl (cI, 1696, .inl (pa))), (b3, .inl (cI, 424, .inl (cpi sa ad (i + 1)))), (b4, .inl (cI, 100, .inl (tx))), (b5, .inl (cI, 4, .inl (nb)))] (by rw [← cpi_s]) ?_
      exact sw_loc (ih (i + 1) (by omega) (by omega) _ (nI_1 i)) rfl
set_option maxHeartbeats 4000000 in
set_option maxRecDepth 100000 in
theorem ct_X7_laysAside (l : Launch) {D : va_G} {cI cJ cQ : ClassId} {b0 b1 b2 b3 b4 b5 : Nat} {sa pa ad tx nb : Nat → Int32} {kp th ty ap : Int32} {hh : Int64} : Ct l yX7_laysAside (Cond.code yX7_laysAside cX7_laysAside 2 none) 0 0 0 0 D (tyz cI cJ cQ) [.ref b0] [(b0, .inr (7, [.ref b1, .ref b2, .ref b3, .int (kp), .int (th), .ref b4, .int (ty), .int (ap), .ref b5, .long (hh)])), (b1, .inl (cI, 424, .inl (sa))), (b2, .inl (cI, 1696, .inl (pa))), (b3, .inl (cI, 424, .inl (ad))), (b4, .inl (cI, 100, .inl (tx))), (b5, .inl (cI, 4, .inl (nb)))] (pstV [(b0, .inr (7, [.ref b1, .ref b2, .ref b3, .int (kp), .int (th), .ref b4, .int (ty), .int (ap), .ref b5, .long (hh)])), (b1, .inl (cI, 424, .inl (sa))), (b2, .inl (cI, 1696, .inl (pa))), (b3, .inl (cI, 424, .inl (sa))), (b4, .inl (cI, 100, .inl (tx))), (b5, .inl (cI, 4, .inl (nb)))]) := by
  refine Ct.of RX7 (by decide) rfl (Nat.le_of_ble_eq_true rfl) ?_
  intro p e s m below meth c A C RC
  refine sw_iconst 0 C dX7_laysAside_0 0 (by decide) ?_
  refine sw_istore_n 1 1 C dX7_laysAside_1 rfl rfl ?_
  refine sw_ws [(b0, .inr (7, [.ref b1, .ref b2, .ref b3, .int (kp), .int (th), .ref b4, .int (ty), .int (ap), .ref b5, .long (hh)])), (b1, .inl (cI, 424, .inl (sa))), (b2, .inl (cI, 1696, .inl (pa))), (b3, .inl (cI, 424, .inl (cpi sa ad 0))), (b4, .inl (cI, 100, .inl (tx))), (b5, .inl (cI, 4, .inl (nb)))] (by rw [cpi_0]) ?_
  exact lp_X7_laysAside C RC 425 0 (Nat.zero_le _) (by omega) _ rfl
set_option maxHeartbeats 4000000 in
set_option maxRecDepth 100000 in
theorem lp_X7_bringsBack {l : Launch} {p : Program} {e : Env} {s : State} {m : MethodId} {args : Array Value} {below : List Frame} {meth : Method} {c : Code} {A : Nat → Prop} {D : va_G} {cI cJ cQ : ClassId} {b0 b1 b2 b3 b4 b5 : Nat} {sa pa ad tx nb : Nat → Int32} {kp th ty ap : Int32} {hh : Int64} (C : CC p s m args c cX7_bringsBack 2 RX7 (Cond.code yX7_bringsBack cX7_bringsBack 2 none :: lw_all) D (tyz cI cJ cQ) A s.heap) (RC : meth.sig.returnType = none ∧ meth.locks = false ∧ meth.name = yX7_bringsBack.name) : ∀ (fu i : Nat), i ≤ 424 → 424 + 1 ≤ i + fu →  ∀ (xi : Int32), (xi = nI i) →  sw p l e ({ frames := 0, cells := 0, slots := 0, locals := 0 } : Room) s m args below meth c D A s.heap 2 0 0 (MQ below (ctQ D (tyz cI cJ cQ) A (pstV [(b0, .inr (7, [.ref b1, .ref b2, .ref b3, .int (kp), .int (th), .ref b4, .int (ty), .int (ap), .ref b5, .long (hh)])), (b1, .inl (cI, 424, .inl (ad))), (b2, .inl (cI, 1696, .inl (pa))), (b3, .inl (cI, 424, .inl (ad))), (b4, .inl (cI, 100, .inl (tx))), (b5, .inl (cI, 4, .inl (nb)))])) args s 0 0 A) [(b0, .inr (7, [.ref b1, .ref b2, .ref b3, .int (kp), .int (th), .ref b4, .int (ty), .int (ap), .ref b5, .long (hh)])), (b1, .inl (cI, 424, .inl (cpi ad sa i))), (b2, .inl (cI, 1696, .inl (pa))), (b3, .inl (cI, 424, .inl (ad))), (b4, .inl (cI, 100, .inl (tx))), (b5, .inl (cI, 4, .inl (nb)))] 2 [(0, .ref b0), (1, .int xi)] [] := by
  intro fu
  induction fu with
  | zero => intro i h1 h2; exact absurd h2 (by omega)
  | succ fu ih =>
    intro i hi hf  xi exi
    subst exi
    refine sw_iload_n 2 1 C dX7_bringsBack_2 rfl rfl ?_
    refine sw_sipush 3 C dX7_bringsBack_3 424 (by decide) ?_
    refine sw_icmp_ge 6 27 C dX7_bringsBack_6 (by decide) (fun c_6 => ?_) (fun c_6 => ?_)
    · obtain rfl : i = 424 := by
        have c : nI 424 ≤ nI i := c_6
        have := nI_ge' (by omega) c (by omega)
        omega
      refine sw_arrEq 1 ad rfl (fun j hj => cpi_all hj) ?_
      refine sw_vret 27 C RC dX7_bringsBack_27 ?_
      exact ⟨rfl, rfl⟩
    · have hlt : i < 424 := by
        rcases Nat.lt_or_ge i 424 with q | q
        · exact q
        · exact absurd (show (424 : Int32) ≤ nI i from nI_le (a := 424) q (by omega)) c_6
      refine sw_aload_n 9 0 C dX7_bringsBack_9 rfl rfl ?_
      refine sw_get 10 0 0 C dX7_bringsBack_10 rfl rfl (inA lwX7) (C.w wF_X7_7) rfl rfl rfl ?_
      refine sw_iload_n 13 1 C dX7_bringsBack_13 rfl rfl ?_
      refine sw_aload_n 14 0 C dX7_bringsBack_14 rfl rfl ?_
      refine sw_get 15 0 2 C dX7_bringsBack_15 rfl rfl (inA lwX7) (C.w wF_X7_16) rfl rfl rfl ?_
      refine sw_iload_n 18 1 C dX7_bringsBack_18 rfl rfl ?_
      refine sw_ialdN 19 3 0 (i) C dX7_bringsBack_19 rfl hlt rfl rfl rfl ?_
      refine sw_iastN 20 1 0 (i) C dX7_bringsBack_20 rfl hlt rfl rfl rfl ?_
      refine sw_ws [(_, .inr (7, [.ref _, .ref _, .ref _, .int _, .int _, .ref _, .int _, .int _, .ref _, .long _])), (_, .inl (_, _, .inl _)), (_, .inl (_, _, .inl _)), (_, .inl (_, _, .inl _)), (_, .inl (_, _, .inl _)), (_, .inl (_, _, .inl _))] rfl ?_
      refine sw_iinc 21 C 1 dX7_bringsBack_21 (by decide) rfl rfl ?_
      refine sw_goto 24 2 C dX7_bringsBack_24 (by decide) ?_
      refine sw_ws [(b0, .inr (7, [.ref b1, .ref b2, .ref b3, .int (kp), .int (th), .ref b4, .int (ty), .int (ap), .ref b5, .long (hh)])), (b1, .inl (cI, 424, .inl (cpi ad sa (i + 1)))), (b2, .inl (cI, 1696, .inl (pa))), (b3, .inl (cI, 424, .inl (ad))), (b4, .inl (cI, 100, .inl (tx))), (b5, .inl (cI, 4, .inl (nb)))] (by rw [← cpi_s]) ?_
      exact sw_loc (ih (i + 1) (by omega) (by omega) _ (nI_1 i)) rfl
set_option maxHeartbeats 4000000 in
set_option maxRecDepth 100000 in
theorem ct_X7_bringsBack (l : Launch) {D : va_G} {cI cJ cQ : ClassId} {b0 b1 b2 b3 b4 b5 : Nat} {sa pa ad tx nb : Nat → Int32} {kp th ty ap : Int32} {hh : Int64} : Ct l yX7_bringsBack (Cond.code yX7_bringsBack cX7_bringsBack 2 none) 0 0 0 0 D (tyz cI cJ cQ) [.ref b0] [(b0, .inr (7, [.ref b1, .ref b2, .ref b3, .int (kp), .int (th), .ref b4, .int (ty), .int (ap), .ref b5, .long (hh)])), (b1, .inl (cI, 424, .inl (sa))), (b2, .inl (cI, 1696, .inl (pa))), (b3, .inl (cI, 424, .inl (ad))), (b4, .inl (cI, 100, .inl (tx))), (b5, .inl (cI, 4, .inl (nb)))] (pstV [(b0, .inr (7, [.ref b1, .ref b2, .ref b3, .int (kp), .int (th), .ref b4, .int (ty), .int (ap), .ref b5, .long (hh)])), (b1, .inl (cI, 424, .inl (ad))), (b2, .inl (cI, 1696, .inl (pa))), (b3, .inl (cI, 424, .inl (ad))), (b4, .inl (cI, 100, .inl (tx))), (b5, .inl (cI, 4, .inl (nb)))]) := by
  refine Ct.of RX7 (by decide) rfl (Nat.le_of_ble_eq_true rfl) ?_
  intro p e s m below meth c A C RC
  refine sw_iconst 0 C dX7_bringsBack_0 0 (by decide) ?_
  refine sw_istore_n 1 1 C dX7_bringsBack_1 rfl rfl ?_
  refine sw_ws [(b0, .inr (7, [.ref b1, .ref b2, .ref b3, .int (kp), .int (th), .ref b4, .int (ty), .int (ap), .ref b5, .long (hh)])), (b1, .inl (cI, 424, .inl (cpi ad sa 0))), (b2, .inl (cI, 1696, .inl (pa))), (b3, .inl (cI, 424, .inl (ad))), (b4, .inl (cI, 100, .inl (tx))), (b5, .inl (cI, 4, .inl (nb)))] (by rw [cpi_0]) ?_
  exact lp_X7_bringsBack C RC 425 0 (Nat.zero_le _) (by omega) _ rfl
