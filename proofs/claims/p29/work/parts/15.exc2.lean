/-! methods that may throw; where they throw, their world is as it was -/
def xstrs : List (Nat × String) := [(42, "no such rank with a patience"), (75, "both senders are the same"), (97, "the box is empty"), (110, "the time would be too great"), (119, "there are not so many petitions"), (141, "not so many entries are kept"), (176, "the text is full"), (198, "there is no saved state"), (216, "an argument is out of range"), (222, "the quota or the box allows no more petitions"), (224, "no such petition is in the box")]
abbrev xnm : List String := ["java/lang/RuntimeException", "java/lang/Exception"]
theorem xat_iae : ∀ w ∈ (vx_atS RX6 77 "java/lang/IllegalArgumentException" xnm).filter goodWord, w ∈ lw_all := fun w h => List.mem_filter.mpr ⟨(show ∀ w ∈ (vx_atS RX6 77 "java/lang/IllegalArgumentException" xnm).filter goodWord, w ∈ lw_tbl by decide +kernel) w h, (List.mem_filter.mp h).2⟩
theorem xat_ioe : ∀ w ∈ (vx_atS RX6 44 "java/lang/IndexOutOfBoundsException" xnm).filter goodWord, w ∈ lw_all := fun w h => List.mem_filter.mpr ⟨(show ∀ w ∈ (vx_atS RX6 44 "java/lang/IndexOutOfBoundsException" xnm).filter goodWord, w ∈ lw_tbl by decide +kernel) w h, (List.mem_filter.mp h).2⟩
theorem xat_ise : ∀ w ∈ (vx_atS RX6 112 "java/lang/IllegalStateException" xnm).filter goodWord, w ∈ lw_all := fun w h => List.mem_filter.mpr ⟨(show ∀ w ∈ (vx_atS RX6 112 "java/lang/IllegalStateException" xnm).filter goodWord, w ∈ lw_tbl by decide +kernel) w h, (List.mem_filter.mp h).2⟩
def xdec : List MethodName := [⟨"java/lang/RuntimeException", "<init>", "(Ljava/lang/String;)V"⟩, ⟨"java/lang/Exception", "<init>", "(Ljava/lang/String;)V"⟩, ⟨"java/lang/Throwable", "<init>", "(Ljava/lang/String;)V"⟩]
def xcas : List String := ["java/lang/IndexOutOfBoundsException", "java/lang/IllegalArgumentException", "java/lang/IllegalStateException", "java/util/NoSuchElementException"]
def xbad : List Cond := xdec.map Cond.declares ++ xcas.map (fun E => Cond.castable E E)
theorem xno_iae : ∀ w ∈ (vx_atS RX6 77 "java/lang/IllegalArgumentException" xnm).filter (fun w => !goodWord w), w ∈ xbad := by decide +kernel
theorem xno_ioe : ∀ w ∈ (vx_atS RX6 44 "java/lang/IndexOutOfBoundsException" xnm).filter (fun w => !goodWord w), w ∈ xbad := by decide +kernel
theorem xno_ise : ∀ w ∈ (vx_atS RX6 112 "java/lang/IllegalStateException" xnm).filter (fun w => !goodWord w), w ∈ xbad := by decide +kernel
theorem xot_iae : ∀ w ∈ Cond.classLink RX6 73 "java/lang/IllegalArgumentException" :: Cond.initialized "java/lang/IllegalArgumentException" :: vx_atS RX6 77 "java/lang/IllegalArgumentException" xnm, vx_ot w = true := by decide +kernel
theorem xot_ioe : ∀ w ∈ Cond.classLink RX6 40 "java/lang/IndexOutOfBoundsException" :: Cond.initialized "java/lang/IndexOutOfBoundsException" :: vx_atS RX6 44 "java/lang/IndexOutOfBoundsException" xnm, vx_ot w = true := by decide +kernel
theorem xot_ise : ∀ w ∈ Cond.classLink RX6 108 "java/lang/IllegalStateException" :: Cond.initialized "java/lang/IllegalStateException" :: vx_atS RX6 112 "java/lang/IllegalStateException" xnm, vx_ot w = true := by decide +kernel
/-- the words that a callee isn't handed by its list -/
def xW (U : State) : Prop := (∀ y ∈ xdec, va_Nw (.declares y) U) ∧ ∀ E ∈ xcas, va_Nw (.castable E E) U
theorem xW.warm {s U : State} (hW : s.WarmedH U.vm) (h : xW s) : xW U := ⟨fun y hy => va_Nw.warmD hW (h.1 y hy), fun E hE => va_Nw.warmC hW (h.2 E hE)⟩
theorem xW.same {u U : State} (hv : u.vm = U.vm) (h : xW u) : xW U := ⟨fun y hy => va_Nw.same rfl hv (h.1 y hy), fun E hE => va_Nw.same rfl hv (h.2 E hE)⟩
theorem xW.use {U : State} {args : Array Value} (h : xW U) : ∀ w ∈ xbad, w.before args U = true := fun w hw => by
  rcases List.mem_append.mp hw with hw | hw
  · obtain ⟨y, hy, rfl⟩ := List.mem_map.mp hw
    exact va_Nw.use rfl (h.1 y hy)
  · obtain ⟨E, hE, rfl⟩ := List.mem_map.mp hw
    exact va_Nw.use rfl (h.2 E hE)
section XCT
/-- what a throw needs of the start: two statics of Throwable, the texts -/
def xZ (A : Nat → Prop) (U : State) : Prop := vx_Zq Bundle.tN "UNASSIGNED_STACK" Bundle.steD A U U.heap ∧ vx_Zq Bundle.tN "SUPPRESSED_SENTINEL" Bundle.listD A U U.heap ∧ (∀ q ∈ xstrs, ∃ sa : Nat, vk_R RX6 q.1 q.2 sa U) ∧ xW U
def xP (D : va_G) (tys : List (ClassId × FieldType)) (As : List Value) (wc : va_W) (sz : Nat) : Array Value → State → Prop := va_Pc As (fun U => U.heap.size = sz ∧ va_P D vwCl wc U.heap ∧ va_K D vwCl tys U ∧ va_D (fun _ => True) wc ∧ xZ (va_A wc sz) U)
def xQ (D : va_G) (tys : List (ClassId × FieldType)) (wc : va_W) (A : Nat → Prop) (pX : String → Prop) : String → State → State → Prop := fun E st t => pX E ∧ va_P D vwCl wc t.heap ∧ va_K D vwCl tys t ∧ va_F A st t
def XCt (l : Launch) (y : MethodName) (cw : Cond) (fr lo mc ms : Nat) (D : va_G) (tys : List (ClassId × FieldType)) (As : List Value) (wc : va_W) (post : Option Value → va_W → Prop) (pX : String → Prop) : Prop :=
  ∀ sz : Nat, vx_Met l y (cw :: lw_all) ({ frames := fr, cells := mc, slots := ms, locals := lo } : Room) (xP D tys As wc sz) (ctQ D tys (va_A wc sz) post) (xQ D tys wc (va_A wc sz) pX) mc ms (va_A wc sz)
theorem xP_blind {D : va_G} {tys : List (ClassId × FieldType)} {As : List Value} {wc : va_W} {sz : Nat} : FrameBlind (xP D tys As wc sz) := fun a U g mk q => by
  obtain ⟨q0, q1, qP, qK, qD, z1, z2, z3, z4⟩ := q
  exact ⟨q0, q1, qP, va_K.moved (u := U) (U := U.calling g mk a) (Vm.Alike.refl U.vm) qK, qD, z1.moved (u := U) (U := U.calling g mk a) (Vm.Alike.refl U.vm), z2.moved (u := U) (U := U.calling g mk a) (Vm.Alike.refl U.vm), fun q hq => by
    obtain ⟨sa, h⟩ := z3 q hq
    exact ⟨sa, vk_R.same (u := U) rfl h⟩, xW.same (u := U) rfl z4⟩
variable {p : Program} {l : Launch} {e : Env} {R : Room} {s : State} {m : MethodId} {args : Array Value} {below : List Frame} {meth : Method} {c : Code} {D : va_G} {tys : List (ClassId × FieldType)} {A : Nat → Prop} {H0 : Heap} {nL k n : Nat} {Q : State → Prop} {ws : va_W} {segs : List va_W} {L : List (Nat × Value)} {st : List Value} {cc : ByteArray} {own : String} {Ts : List Cond} {x0 : Cond} {mcM msM : Nat} {post : Option Value → va_W → Prop} {pX : String → Prop} {w0c : va_W} {nm : String} {retT : Option FieldType}
theorem XCt.of {y : MethodName} {cc : ByteArray} {maxL : Nat} {ret : Option FieldType} {fr lo mc ms : Nat} {As : List Value} {wc : va_W} (own : String) (hy : plainName y.cls = true) (ho : y.cls = own) (hL : (lg_sl As).length ≤ maxL)
    (body : ∀ (p : Program) (e : Env) (s : State) (m : MethodId) (below : List Frame) (meth : Method) (c : Code) (A : Nat → Prop), CC p s m As.toArray c cc maxL own (Cond.code y cc maxL ret :: lw_all) D tys A s.heap → (meth.sig.returnType = ret ∧ meth.locks = false ∧ meth.name = y.name) → ((∀ x ∈ c.exceptionTable.toList, False) ∧ xZ A s) →
      sw p l e ({ frames := fr, cells := mc, slots := ms, locals := lo } : Room) s m As.toArray below meth c D A s.heap maxL 0 0 (vx_MQ below (ctQ D tys A post) (xQ D tys wc A pX) As.toArray s mc ms A) wc 0 (lv_args 0 As) []) : XCt l y (Cond.code y cc maxL ret) fr lo mc ms D tys As wc post pX := by
  intro sz
  refine vx_ofW (cc := cc) (maxL := maxL) (ret := ret) hy rfl ?_
  intro p e s m args below meth c s₁ B hml hxt hv
  obtain ⟨rfl, hsz, hP, hK, hD0, hz⟩ := hv
  subst hsz
  have hD := hD0.self (sz := s.heap.size)
  have hA : ∀ q : Nat, s.heap.size ≤ q → va_A wc s.heap.size q := fun q h => Or.inr h
  have hl := lv_entry As (n := maxL) hL
  rw [lg_entry_eq]
  exact body p e s m below meth c (va_A wc s.heap.size) ⟨⟨B.exec, B.bytes, hml, ho ▸ findClass_of_methodNamed B.named, atoms_spec B.pre⟩, hK, hA⟩ ⟨B.returns, B.notSynchronized, (name_of_methodNamed B.named B.method).1⟩ ⟨hxt, hz⟩ s.heap [] _ hP hD va_S.rf hl
/-- a contract without throws is one with -/
theorem Ct.x {y : MethodName} {cw : Cond} {fr lo mc ms : Nat} {As : List Value} {wc : va_W} (h : Ct l y cw fr lo mc ms D tys As wc post) (pX : String → Prop) : XCt l y cw fr lo mc ms D tys As wc post pX := by
  intro sz
  refine MetFree.mono (h sz) ?_ (fun _ _ _ _ _ z => z) (fun a s o t _ hq => Or.inl hq)
  rintro a U ⟨h1, h2, h3, h4, h5, -⟩
  exact ⟨h1, h2, h3, h4, h5⟩
/-- an end without a throw: the rules for ends stand over MQ -/
theorem xw_ret {pc : Nat} (hk : k ≤ mcM) (hn : n ≤ msM) (kk : sw p l e R s m args below meth c D A H0 nL mcM msM (MQ below (ctQ D tys A post) args s mcM msM A) ws pc L st) : sw p l e R s m args below meth c D A H0 nL k n (vx_MQ below (ctQ D tys A post) (xQ D tys w0c A pX) args s mcM msM A) ws pc L st :=
  fun H locs ls hP hD hS hl => W.widen hk hn (vx_ret (kk H locs ls hP hD hS hl))
/-- 'throw new E("text")' in PetitionBox, its world unchanged -/
theorem xw_throw (pc ik is ic : Nat) {cls text : String} (C : CC p s m args c cc nL RX6 (x0 :: lw_all) D tys A s.heap) (RC : meth.sig.returnType = retT ∧ meth.locks = false ∧ meth.name = nm) (XT : (∀ x ∈ c.exceptionTable.toList, False) ∧ xZ A s) (hfl : l.stackTraces = false)
    (d0 : decode cc pc = .ok (.new ik, 3)) (d3 : decode cc (pc + 3) = .ok (.dup, 1)) (d4 : decode cc (pc + 4) = .ok (.ldc is, 2)) (d6 : decode cc (pc + 6) = .ok (.invokespecial ic, 3)) (d9 : decode cc (pc + 9) = .ok (.athrow, 1))
    (hcls : Bundle.fit cls = true) (hk : Cond.classLink RX6 ik cls ∈ lw_all) (hini : Cond.initialized cls ∈ lw_all) (hat : ∀ w ∈ (vx_atS RX6 ic cls xnm).filter goodWord, w ∈ lw_all) (hno : ∀ w ∈ (vx_atS RX6 ic cls xnm).filter (fun w => !goodWord w), w ∈ xbad) (hgood : ∀ w ∈ Cond.classLink RX6 ik cls :: Cond.initialized cls :: vx_atS RX6 ic cls xnm, vx_ot w = true) (hs : (is, text) ∈ xstrs)
    (hfr : Nat.ble 6 R.frames = true) (hlo : Nat.ble ((st.map fun v => v.category).sum + 82) R.locals = true) (hRc : k + 1 ≤ R.cells) (hRs : n + 6 ≤ R.slots) (hc : k + 1 ≤ mcM) (hms : n + 6 ≤ msM) (hpX : pX cls) :
    sw p l e R s m args below meth c D A s.heap nL k n (vx_MQ below (ctQ D tys A post) (xQ D tys ws A pX) args s mcM msM A) ws pc L st := by
  intro H locs ls hP hD hS hl
  obtain ⟨hxt, z1, z2, z3, z4⟩ := XT
  obtain ⟨sa, hstr⟩ := z3 _ hs
  refine vx_throwS (names := xnm) C.hx C.hb hfl C.hown hcls (by decide +kernel) (C.w hk) (C.w hini) hstr (vx_hat (fun w hw => C.w (hat w hw)) (B := xbad) hno z4.use) hgood z1 z2 hS (by rw [C.hml]; exact hl.1) d0 d3 d4 d6 d9 (fun x hx => (hxt x hx).elim) (Nat.le_of_ble_eq_true hfr) (Nat.le_of_ble_eq_true hlo) hRc hRs RC.2.1 (fun t hal hz ho => ⟨hpX, ?_, va_K.moved hal C.hK, Nat.le_trans hS.1 hz, fun q h1 h2 => (ho q (Nat.lt_of_lt_of_le h1 hS.1)).trans (hS.2.1 q h1 h2)⟩) hS.2.2 hc hms
  exact hP.kept (fun k9 q hq => ho q.1 (hP k9 q hq).lt)

theorem xZ_sub {A0 A1 : Nat → Prop} {U : State} {H : Heap} {locs : List Loc} (z : xZ A0 s) (hS : va_S A0 s.heap H locs) (hU : U.heap = H) (hW : s.WarmedH U.vm) (hF : ∀ q, A1 q → A0 q) : xZ A1 U := by
  obtain ⟨z1, z2, z3, z4⟩ := z
  refine ⟨?_, ?_, fun q hq => ?_, z4.warm hW⟩
  · rw [hU]
    exact ((z1.kept hS.2.1).narrow hF).moved hW.alike
  · rw [hU]
    exact ((z2.kept hS.2.1).narrow hF).moved hW.alike
  · obtain ⟨sa, h⟩ := z3 q hq
    exact ⟨sa, h.warm hW⟩
theorem xx_callg {pc : Nat} {ls : Array Slot} {rest st0 : List Value} {a : Array Value} {A0 A1 : Nat → Prop} {H : Heap} {locs : List Loc} {mc ms : Nat} {free : Addr → Prop} {post : Option Value → va_W → Prop} {pE : String → Prop} {wc : va_W} (hr : vx_Run p l e R s m args below meth c H locs k n mc ms (F0 m pc ls st0) rest (ctQ D tys A1 post a) (xQ D tys wc A1 pE) free) (hS : va_S A0 H0 H locs) (hA : ∀ q, q < H.size → A1 q → A0 q) (hf : ∀ q, free q → A0 q)
    (kx : ∀ (E : String) (ce : Cell) (q9 : Addr) (H1 : Heap) (locs1 : List Loc), pE E → va_P D vwCl wc H1 → H.size ≤ H1.size → (∀ q : Nat, q < H.size → ¬ A1 q → H1[q]? = H[q]?) → va_S A0 H0 H1 locs1 → H1[q9]? = some ce → ce.vm = .none → s.vm.findClass E = some ce.cls → vx_W p l e R s m args below meth c H1 locs1 (k + mc) (n + ms) Q (F0 m pc ls rest) q9)
    (kk : ∀ (v : Option Value) (w1 : va_W) (H1 : Heap) (locs1 : List Loc), post v w1 → va_P D vwCl w1 H1 → va_D A1 w1 → H.size ≤ H1.size → (∀ q : Nat, q < H.size → ¬ A1 q → H1[q]? = H[q]?) → va_S A0 H0 H1 locs1 → W p l e R s m args below meth c H1 locs1 (k + mc) (n + ms) Q (F0 m (pc + 3) ls (v.toList ++ rest))) : W p l e R s m args below meth c H locs k n Q (F0 m pc ls st0) := by
  intro T hT X
  rcases hr T hT X with ⟨v, st₀, t, T', L, h0, X', hL, e1, e2, ⟨⟨v', w1, hv, hp, hP1, -, hD1⟩, hF⟩, st⟩ | ⟨q, st₀, t, T', L, E, ce, h0, X', hL, e1, e2, ⟨hp, hP1, -, hF⟩, hce, hcv, hcl, st⟩
  · cases hv
    obtain ⟨k1, k2, k3⟩ := vx_keep h0 e1 hS hA hf hL hF
    obtain ⟨t2, a1, b1⟩ := kk v w1 T'.heap (locs ++ L) hp (by rw [e1]; exact hP1) hD1 k1 k2 k3 T' rfl X'
    exact ⟨t2, st t2 a1, b1⟩
  · obtain ⟨k1, k2, k3⟩ := vx_keep h0 e1 hS hA hf hL hF
    obtain ⟨t2, a1, b1⟩ := kx E ce q T'.heap (locs ++ L) hp (by rw [e1]; exact hP1) k1 k2 k3 (by rw [e1]; exact hce) hcv hcl T' rfl X'
    exact ⟨t2, st.trans a1, b1⟩
/-- where a callee has thrown and this body hasn't changed its world: out to the caller -/
theorem xx_out {pc : Nat} {E : String} {ce : Cell} {q9 : Addr} {H1 : Heap} {locs1 : List Loc} {ls : Array Slot} {rest : List Value} (C : CC p s m args c cc nL own Ts D tys A s.heap) (hlk : meth.locks = false) (hxt : ∀ x ∈ c.exceptionTable.toList, False) (hE : pX E) (hP : va_P D vwCl ws H1) (hS : va_S A s.heap H1 locs1) (hce : H1[q9]? = some ce) (hv : ce.vm = .none) (hcl : s.vm.findClass E = some ce.cls) (hc : k ≤ mcM) (hms : n ≤ msM) :
    vx_W p l e R s m args below meth c H1 locs1 k n (vx_MQ below (ctQ D tys A post) (xQ D tys ws A pX) args s mcM msM A) (F0 m pc ls rest) q9 :=
  vx_out (fun x hx => (hxt x hx).elim) hlk hce hv hcl (fun t ht hal => ⟨hE, by rw [ht]; exact hP, va_K.moved hal C.hK, hS.F ht⟩) hS.2.2 hc hms
theorem xg_callVI (pc : Nat) (is : List Nat) (na rq : Nat) (news : List va_W) {fr lo mc ms maxL index b ci : Nat} {y : MethodName} {bytes : ByteArray} {ret : Option FieldType} {wc : va_W} {As : List Value} {pE : String → Prop} {w0 : va_W} {r : Int32} {Cn : String} {T : u_T} {N : Nat} {fs : List Value} (C : CC p s m args c cc nL own (x0 :: lw_all) D tys A s.heap) (RC : meth.sig.returnType = retT ∧ meth.locks = false ∧ meth.name = nm) (XT : (∀ x ∈ c.exceptionTable.toList, False) ∧ xZ A s) (d : decode cc pc = .ok (.invokevirtual index, 3)) (hM : XCt l y (Cond.code y bytes maxL ret) fr lo mc ms D tys (.ref b :: As) wc (pstI r w0) pE) (hpE : ∀ E, pE E → pX E) (g0 : Cond.code y bytes maxL ret ∈ lw_all) (g1 : Cond.methodLink own index y ∈ lw_all) (g2 : Cond.instanceMethod y ∈ lw_all) (g3 : Cond.selects Cn y y ∈ lw_all) (g4 : Cond.initialized Cn ∈ lw_all)
    (hd : y.cls = Cn ∧ y.cls ≠ "java/lang/invoke/MethodHandle" ∧ y.cls ≠ "java/lang/invoke/VarHandle" ∧ (parseMethodDescriptor y.desc).map (fun d => d.parameters.length) = some na) (hna : As.length = na) (hrv : wc[rq]? = some (b, .inr (ci, fs))) (hc : vwCl[ci]? = some (Cn, T, N)) (hR : Nat.ble (fr + 1) R.frames = true ∧ Nat.ble (8 + (maxL + 11) + lo) R.locals = true) (hf : k + mc ≤ R.cells ∧ n + ms ≤ R.slots) (hst : Nat.ble (st.map fun v => v.category).sum 8 = true) (hcm : k + mc ≤ mcM ∧ n + ms ≤ msM) (hn : wnd is = true) (hw : wall segs.length is = true) (hln : Nat.beq news.length is.length = true) (hp : flatS (spick segs is) = wc) (hnew : flatS news = w0)
    (kk : sw p l e R s m args below meth c D A s.heap nL (k + mc) (n + ms) (vx_MQ below (ctQ D tys A post) (xQ D tys (flatS segs) A pX) args s mcM msM A) (flatS (sput segs is news)) (pc + 3) L (.int r :: st)) : sw p l e R s m args below meth c D A s.heap nL k n (vx_MQ below (ctQ D tys A post) (xQ D tys (flatS segs) A pX) args s mcM msM A) (flatS segs) pc L (As.reverse ++ .ref b :: st) := by
  have hw' := wall_lt hw
  have hn' := wnd_nd hn
  have hper := (flatS_perm (segs_perm is segs hn' hw')).trans (by rw [flatS_app])
  subst hp
  intro H locs ls hP hD hS hl
  have hPp := va_P_perm hper hP
  have hDp := va_D_perm hper hD
  have hPc := va_P_l hPp
  have hDc := va_D_l hDp
  have hFc := free_of hDp hS C.hA
  have hK := C.hK
  obtain ⟨hxt, hz⟩ := XT
  refine xx_callg (vx_runV (As := As) (rest := st) (C := Cn) C.1 (hM H.size) (cwV na C.hts (goodV g0 g1 g2 g3 g4) rfl rfl rfl hd ⟨Nat.le_of_ble_eq_true hR.1, Nat.le_of_ble_eq_true hR.2⟩) ⟨xP_blind, va_recv (q := (Cn, T, N)) hK hPc hc hrv, fun U hU hW => ⟨rfl, by rw [hU], by rw [hU]; exact hPc, va_K.moved hW.alike hK, hDc.weaken (fun _ _ _ _ => trivial), xZ_sub hz hS hU hW hFc⟩⟩ rfl hna hl.1 rfl (lv_room (Nat.le_of_ble_eq_true hst)) d hf) hS (fun q _ h => hFc q h) hFc (fun E ce q9 H1 locs1 hE hP1 hz1 hk1 hS1 hce hv hcl => xx_out C RC.2.1 hxt (hpE E hE) (va_P_perm hper.symm (va_P_iff.mpr (fun q hq => ?_))) hS1 hce hv hcl hcm.1 hcm.2) (fun v w1 H1 locs1 hpost hP1 hD1 hz1 hk1 hS1 => ?_)
  · rcases List.mem_append.mp hq with h | h
    · exact va_P_iff.mp hP1 q h
    · have hq1 := va_P_iff.mp hPp q (List.mem_append_right _ h)
      refine hq1.kept (hk1 q.1 hq1.lt (fun h2 => ?_))
      rcases va_A_mem.mp h2 with ⟨e2, he⟩ | h2
      · obtain ⟨d1, -⟩ := va_D_iff.mp hDp
        rw [List.map_append, List.nodup_append] at d1
        exact d1.2.2 q.1 (List.mem_map.mpr ⟨(q.1, e2), he, rfl⟩) q.1 (List.mem_map.mpr ⟨q, h, rfl⟩) rfl
      · have := hq1.lt
        omega
  · obtain ⟨hv1, hw1⟩ := hpost
    subst hv1
    rw [hw1, ← hnew] at hP1 hD1
    obtain ⟨hP2, hD2⟩ := seg_ok hPp hDp hk1 hFc hP1 hD1
    have hper2 := (flatS_perm (sput_perm is news segs hn' hw' (by rw [Nat.eq_of_beq_eq_true hln]))).trans (by rw [flatS_app])
    exact kk H1 locs1 ls (va_P_perm hper2.symm hP2) (va_D_perm hper2.symm hD2) hS1 hl
theorem xg_callSI (pc : Nat) (is : List Nat) (na : Nat) (news : List va_W) {fr lo mc ms maxL index : Nat} {y : MethodName} {bytes : ByteArray} {ret : Option FieldType} {wc : va_W} {As : List Value} {pE : String → Prop} {w0 : va_W} {r : Int32} (C : CC p s m args c cc nL own (x0 :: lw_all) D tys A s.heap) (RC : meth.sig.returnType = retT ∧ meth.locks = false ∧ meth.name = nm) (XT : (∀ x ∈ c.exceptionTable.toList, False) ∧ xZ A s) (d : decode cc pc = .ok (.invokestatic index, 3)) (hM : XCt l y (Cond.code y bytes maxL ret) fr lo mc ms D tys As wc (pstI r w0) pE) (hpE : ∀ E, pE E → pX E) (g0 : Cond.code y bytes maxL ret ∈ lw_all) (g1 : Cond.methodLink own index y ∈ lw_all) (g2 : Cond.static y ∈ lw_all) (g4 : Cond.initialized y.cls ∈ lw_all)
    (hd : y.cls ≠ "java/lang/invoke/MethodHandle" ∧ y.cls ≠ "java/lang/invoke/VarHandle" ∧ (parseMethodDescriptor y.desc).map (fun d => d.parameters.length) = some na) (hna : As.length = na) (hR : Nat.ble (fr + 1) R.frames = true ∧ Nat.ble (8 + (maxL + 11) + lo) R.locals = true) (hf : k + mc ≤ R.cells ∧ n + ms ≤ R.slots) (hst : Nat.ble (st.map fun v => v.category).sum 8 = true) (hcm : k + mc ≤ mcM ∧ n + ms ≤ msM) (hn : wnd is = true) (hw : wall segs.length is = true) (hln : Nat.beq news.length is.length = true) (hp : flatS (spick segs is) = wc) (hnew : flatS news = w0)
    (kk : sw p l e R s m args below meth c D A s.heap nL (k + mc) (n + ms) (vx_MQ below (ctQ D tys A post) (xQ D tys (flatS segs) A pX) args s mcM msM A) (flatS (sput segs is news)) (pc + 3) L (.int r :: st)) : sw p l e R s m args below meth c D A s.heap nL k n (vx_MQ below (ctQ D tys A post) (xQ D tys (flatS segs) A pX) args s mcM msM A) (flatS segs) pc L (As.reverse ++ st) := by
  have hw' := wall_lt hw
  have hn' := wnd_nd hn
  have hper := (flatS_perm (segs_perm is segs hn' hw')).trans (by rw [flatS_app])
  subst hp
  intro H locs ls hP hD hS hl
  have hPp := va_P_perm hper hP
  have hDp := va_D_perm hper hD
  have hPc := va_P_l hPp
  have hDc := va_D_l hDp
  have hFc := free_of hDp hS C.hA
  have hK := C.hK
  obtain ⟨hxt, hz⟩ := XT
  refine xx_callg (vx_runS (As := As) (rest := st) C.1 (hM H.size) (va_cwS na C.hts (goodS g0 g1 g2 g4) rfl rfl rfl hd ⟨Nat.le_of_ble_eq_true hR.1, Nat.le_of_ble_eq_true hR.2⟩) ⟨xP_blind, fun U hU hW => ⟨rfl, by rw [hU], by rw [hU]; exact hPc, va_K.moved hW.alike hK, hDc.weaken (fun _ _ _ _ => trivial), xZ_sub hz hS hU hW hFc⟩⟩ rfl hna hl.1 rfl (lv_room (Nat.le_of_ble_eq_true hst)) d hf) hS (fun q _ h => hFc q h) hFc (fun E ce q9 H1 locs1 hE hP1 hz1 hk1 hS1 hce hv hcl => xx_out C RC.2.1 hxt (hpE E hE) (va_P_perm hper.symm (va_P_iff.mpr (fun q hq => ?_))) hS1 hce hv hcl hcm.1 hcm.2) (fun v w1 H1 locs1 hpost hP1 hD1 hz1 hk1 hS1 => ?_)
  · rcases List.mem_append.mp hq with h | h
    · exact va_P_iff.mp hP1 q h
    · have hq1 := va_P_iff.mp hPp q (List.mem_append_right _ h)
      refine hq1.kept (hk1 q.1 hq1.lt (fun h2 => ?_))
      rcases va_A_mem.mp h2 with ⟨e2, he⟩ | h2
      · obtain ⟨d1, -⟩ := va_D_iff.mp hDp
        rw [List.map_append, List.nodup_append] at d1
        exact d1.2.2 q.1 (List.mem_map.mpr ⟨(q.1, e2), he, rfl⟩) q.1 (List.mem_map.mpr ⟨q, h, rfl⟩) rfl
      · have := hq1.lt
        omega
  · obtain ⟨hv1, hw1⟩ := hpost
    subst hv1
    rw [hw1, ← hnew] at hP1 hD1
    obtain ⟨hP2, hD2⟩ := seg_ok hPp hDp hk1 hFc hP1 hD1
    have hper2 := (flatS_perm (sput_perm is news segs hn' hw' (by rw [Nat.eq_of_beq_eq_true hln]))).trans (by rw [flatS_app])
    exact kk H1 locs1 ls (va_P_perm hper2.symm hP2) (va_D_perm hper2.symm hD2) hS1 hl
theorem xg_callVV (pc : Nat) (is : List Nat) (na rq : Nat) (news : List va_W) {fr lo mc ms maxL index b ci : Nat} {y : MethodName} {bytes : ByteArray} {ret : Option FieldType} {wc : va_W} {As : List Value} {pE : String → Prop} {w0 : va_W} {Cn : String} {T : u_T} {N : Nat} {fs : List Value} (C : CC p s m args c cc nL own (x0 :: lw_all) D tys A s.heap) (RC : meth.sig.returnType = retT ∧ meth.locks = false ∧ meth.name = nm) (XT : (∀ x ∈ c.exceptionTable.toList, False) ∧ xZ A s) (d : decode cc pc = .ok (.invokevirtual index, 3)) (hM : XCt l y (Cond.code y bytes maxL ret) fr lo mc ms D tys (.ref b :: As) wc (pstV w0) pE) (hpE : ∀ E, pE E → pX E) (g0 : Cond.code y bytes maxL ret ∈ lw_all) (g1 : Cond.methodLink own index y ∈ lw_all) (g2 : Cond.instanceMethod y ∈ lw_all) (g3 : Cond.selects Cn y y ∈ lw_all) (g4 : Cond.initialized Cn ∈ lw_all)
    (hd : y.cls = Cn ∧ y.cls ≠ "java/lang/invoke/MethodHandle" ∧ y.cls ≠ "java/lang/invoke/VarHandle" ∧ (parseMethodDescriptor y.desc).map (fun d => d.parameters.length) = some na) (hna : As.length = na) (hrv : wc[rq]? = some (b, .inr (ci, fs))) (hc : vwCl[ci]? = some (Cn, T, N)) (hR : Nat.ble (fr + 1) R.frames = true ∧ Nat.ble (8 + (maxL + 11) + lo) R.locals = true) (hf : k + mc ≤ R.cells ∧ n + ms ≤ R.slots) (hst : Nat.ble (st.map fun v => v.category).sum 8 = true) (hcm : k + mc ≤ mcM ∧ n + ms ≤ msM) (hn : wnd is = true) (hw : wall segs.length is = true) (hln : Nat.beq news.length is.length = true) (hp : flatS (spick segs is) = wc) (hnew : flatS news = w0)
    (kk : sw p l e R s m args below meth c D A s.heap nL (k + mc) (n + ms) (vx_MQ below (ctQ D tys A post) (xQ D tys (flatS segs) A pX) args s mcM msM A) (flatS (sput segs is news)) (pc + 3) L st) : sw p l e R s m args below meth c D A s.heap nL k n (vx_MQ below (ctQ D tys A post) (xQ D tys (flatS segs) A pX) args s mcM msM A) (flatS segs) pc L (As.reverse ++ .ref b :: st) := by
  have hw' := wall_lt hw
  have hn' := wnd_nd hn
  have hper := (flatS_perm (segs_perm is segs hn' hw')).trans (by rw [flatS_app])
  subst hp
  intro H locs ls hP hD hS hl
  have hPp := va_P_perm hper hP
  have hDp := va_D_perm hper hD
  have hPc := va_P_l hPp
  have hDc := va_D_l hDp
  have hFc := free_of hDp hS C.hA
  have hK := C.hK
  obtain ⟨hxt, hz⟩ := XT
  refine xx_callg (vx_runV (As := As) (rest := st) (C := Cn) C.1 (hM H.size) (cwV na C.hts (goodV g0 g1 g2 g3 g4) rfl rfl rfl hd ⟨Nat.le_of_ble_eq_true hR.1, Nat.le_of_ble_eq_true hR.2⟩) ⟨xP_blind, va_recv (q := (Cn, T, N)) hK hPc hc hrv, fun U hU hW => ⟨rfl, by rw [hU], by rw [hU]; exact hPc, va_K.moved hW.alike hK, hDc.weaken (fun _ _ _ _ => trivial), xZ_sub hz hS hU hW hFc⟩⟩ rfl hna hl.1 rfl (lv_room (Nat.le_of_ble_eq_true hst)) d hf) hS (fun q _ h => hFc q h) hFc (fun E ce q9 H1 locs1 hE hP1 hz1 hk1 hS1 hce hv hcl => xx_out C RC.2.1 hxt (hpE E hE) (va_P_perm hper.symm (va_P_iff.mpr (fun q hq => ?_))) hS1 hce hv hcl hcm.1 hcm.2) (fun v w1 H1 locs1 hpost hP1 hD1 hz1 hk1 hS1 => ?_)
  · rcases List.mem_append.mp hq with h | h
    · exact va_P_iff.mp hP1 q h
    · have hq1 := va_P_iff.mp hPp q (List.mem_append_right _ h)
      refine hq1.kept (hk1 q.1 hq1.lt (fun h2 => ?_))
      rcases va_A_mem.mp h2 with ⟨e2, he⟩ | h2
      · obtain ⟨d1, -⟩ := va_D_iff.mp hDp
        rw [List.map_append, List.nodup_append] at d1
        exact d1.2.2 q.1 (List.mem_map.mpr ⟨(q.1, e2), he, rfl⟩) q.1 (List.mem_map.mpr ⟨q, h, rfl⟩) rfl
      · have := hq1.lt
        omega
  · obtain ⟨hv1, hw1⟩ := hpost
    subst hv1
    rw [hw1, ← hnew] at hP1 hD1
    obtain ⟨hP2, hD2⟩ := seg_ok hPp hDp hk1 hFc hP1 hD1
    have hper2 := (flatS_perm (sput_perm is news segs hn' hw' (by rw [Nat.eq_of_beq_eq_true hln]))).trans (by rw [flatS_app])
    exact kk H1 locs1 ls (va_P_perm hper2.symm hP2) (va_D_perm hper2.symm hD2) hS1 hl
theorem xg_callSV (pc : Nat) (is : List Nat) (na : Nat) (news : List va_W) {fr lo mc ms maxL index : Nat} {y : MethodName} {bytes : ByteArray} {ret : Option FieldType} {wc : va_W} {As : List Value} {pE : String → Prop} {w0 : va_W} (C : CC p s m args c cc nL own (x0 :: lw_all) D tys A s.heap) (RC : meth.sig.returnType = retT ∧ meth.locks = false ∧ meth.name = nm) (XT : (∀ x ∈ c.exceptionTable.toList, False) ∧ xZ A s) (d : decode cc pc = .ok (.invokestatic index, 3)) (hM : XCt l y (Cond.code y bytes maxL ret) fr lo mc ms D tys As wc (pstV w0) pE) (hpE : ∀ E, pE E → pX E) (g0 : Cond.code y bytes maxL ret ∈ lw_all) (g1 : Cond.methodLink own index y ∈ lw_all) (g2 : Cond.static y ∈ lw_all) (g4 : Cond.initialized y.cls ∈ lw_all)
    (hd : y.cls ≠ "java/lang/invoke/MethodHandle" ∧ y.cls ≠ "java/lang/invoke/VarHandle" ∧ (parseMethodDescriptor y.desc).map (fun d => d.parameters.length) = some na) (hna : As.length = na) (hR : Nat.ble (fr + 1) R.frames = true ∧ Nat.ble (8 + (maxL + 11) + lo) R.locals = true) (hf : k + mc ≤ R.cells ∧ n + ms ≤ R.slots) (hst : Nat.ble (st.map fun v => v.category).sum 8 = true) (hcm : k + mc ≤ mcM ∧ n + ms ≤ msM) (hn : wnd is = true) (hw : wall segs.length is = true) (hln : Nat.beq news.length is.length = true) (hp : flatS (spick segs is) = wc) (hnew : flatS news = w0)
    (kk : sw p l e R s m args below meth c D A s.heap nL (k + mc) (n + ms) (vx_MQ below (ctQ D tys A post) (xQ D tys (flatS segs) A pX) args s mcM msM A) (flatS (sput segs is news)) (pc + 3) L st) : sw p l e R s m args below meth c D A s.heap nL k n (vx_MQ below (ctQ D tys A post) (xQ D tys (flatS segs) A pX) args s mcM msM A) (flatS segs) pc L (As.reverse ++ st) := by
  have hw' := wall_lt hw
  have hn' := wnd_nd hn
  have hper := (flatS_perm (segs_perm is segs hn' hw')).trans (by rw [flatS_app])
  subst hp
  intro H locs ls hP hD hS hl
  have hPp := va_P_perm hper hP
  have hDp := va_D_perm hper hD
  have hPc := va_P_l hPp
  have hDc := va_D_l hDp
  have hFc := free_of hDp hS C.hA
  have hK := C.hK
  obtain ⟨hxt, hz⟩ := XT
  refine xx_callg (vx_runS (As := As) (rest := st) C.1 (hM H.size) (va_cwS na C.hts (goodS g0 g1 g2 g4) rfl rfl rfl hd ⟨Nat.le_of_ble_eq_true hR.1, Nat.le_of_ble_eq_true hR.2⟩) ⟨xP_blind, fun U hU hW => ⟨rfl, by rw [hU], by rw [hU]; exact hPc, va_K.moved hW.alike hK, hDc.weaken (fun _ _ _ _ => trivial), xZ_sub hz hS hU hW hFc⟩⟩ rfl hna hl.1 rfl (lv_room (Nat.le_of_ble_eq_true hst)) d hf) hS (fun q _ h => hFc q h) hFc (fun E ce q9 H1 locs1 hE hP1 hz1 hk1 hS1 hce hv hcl => xx_out C RC.2.1 hxt (hpE E hE) (va_P_perm hper.symm (va_P_iff.mpr (fun q hq => ?_))) hS1 hce hv hcl hcm.1 hcm.2) (fun v w1 H1 locs1 hpost hP1 hD1 hz1 hk1 hS1 => ?_)
  · rcases List.mem_append.mp hq with h | h
    · exact va_P_iff.mp hP1 q h
    · have hq1 := va_P_iff.mp hPp q (List.mem_append_right _ h)
      refine hq1.kept (hk1 q.1 hq1.lt (fun h2 => ?_))
      rcases va_A_mem.mp h2 with ⟨e2, he⟩ | h2
      · obtain ⟨d1, -⟩ := va_D_iff.mp hDp
        rw [List.map_append, List.nodup_append] at d1
        exact d1.2.2 q.1 (List.mem_map.mpr ⟨(q.1, e2), he, rfl⟩) q.1 (List.mem_map.mpr ⟨q, h, rfl⟩) rfl
      · have := hq1.lt
        omega
  · obtain ⟨hv1, hw1⟩ := hpost
    subst hv1
    rw [hw1, ← hnew] at hP1 hD1
    obtain ⟨hP2, hD2⟩ := seg_ok hPp hDp hk1 hFc hP1 hD1
    have hper2 := (flatS_perm (sput_perm is news segs hn' hw' (by rw [Nat.eq_of_beq_eq_true hln]))).trans (by rw [flatS_app])
    exact kk H1 locs1 ls (va_P_perm hper2.symm hP2) (va_D_perm hper2.symm hD2) hS1 hl
theorem xg_thrV (pc : Nat) (is : List Nat) (na rq : Nat) {fr lo mc ms maxL index b ci : Nat} {y : MethodName} {bytes : ByteArray} {ret : Option FieldType} {wc : va_W} {As : List Value} {pE : String → Prop} {Cn : String} {T : u_T} {N : Nat} {fs : List Value} (C : CC p s m args c cc nL own (x0 :: lw_all) D tys A s.heap) (RC : meth.sig.returnType = retT ∧ meth.locks = false ∧ meth.name = nm) (XT : (∀ x ∈ c.exceptionTable.toList, False) ∧ xZ A s) (d : decode cc pc = .ok (.invokevirtual index, 3)) (hM : XCt l y (Cond.code y bytes maxL ret) fr lo mc ms D tys (.ref b :: As) wc (fun _ _ => False) pE) (hpE : ∀ E, pE E → pX E) (g0 : Cond.code y bytes maxL ret ∈ lw_all) (g1 : Cond.methodLink own index y ∈ lw_all) (g2 : Cond.instanceMethod y ∈ lw_all) (g3 : Cond.selects Cn y y ∈ lw_all) (g4 : Cond.initialized Cn ∈ lw_all)
    (hd : y.cls = Cn ∧ y.cls ≠ "java/lang/invoke/MethodHandle" ∧ y.cls ≠ "java/lang/invoke/VarHandle" ∧ (parseMethodDescriptor y.desc).map (fun d => d.parameters.length) = some na) (hna : As.length = na) (hrv : wc[rq]? = some (b, .inr (ci, fs))) (hc : vwCl[ci]? = some (Cn, T, N)) (hR : Nat.ble (fr + 1) R.frames = true ∧ Nat.ble (8 + (maxL + 11) + lo) R.locals = true) (hf : k + mc ≤ R.cells ∧ n + ms ≤ R.slots) (hst : Nat.ble (st.map fun v => v.category).sum 8 = true) (hcm : k + mc ≤ mcM ∧ n + ms ≤ msM) (hn : wnd is = true) (hw : wall segs.length is = true) (hp : flatS (spick segs is) = wc) : sw p l e R s m args below meth c D A s.heap nL k n (vx_MQ below (ctQ D tys A post) (xQ D tys (flatS segs) A pX) args s mcM msM A) (flatS segs) pc L (As.reverse ++ .ref b :: st) := by
  have hw' := wall_lt hw
  have hn' := wnd_nd hn
  have hper := (flatS_perm (segs_perm is segs hn' hw')).trans (by rw [flatS_app])
  subst hp
  intro H locs ls hP hD hS hl
  have hPp := va_P_perm hper hP
  have hDp := va_D_perm hper hD
  have hPc := va_P_l hPp
  have hDc := va_D_l hDp
  have hFc := free_of hDp hS C.hA
  have hK := C.hK
  obtain ⟨hxt, hz⟩ := XT
  refine xx_callg (vx_runV (As := As) (rest := st) (C := Cn) C.1 (hM H.size) (cwV na C.hts (goodV g0 g1 g2 g3 g4) rfl rfl rfl hd ⟨Nat.le_of_ble_eq_true hR.1, Nat.le_of_ble_eq_true hR.2⟩) ⟨xP_blind, va_recv (q := (Cn, T, N)) hK hPc hc hrv, fun U hU hW => ⟨rfl, by rw [hU], by rw [hU]; exact hPc, va_K.moved hW.alike hK, hDc.weaken (fun _ _ _ _ => trivial), xZ_sub hz hS hU hW hFc⟩⟩ rfl hna hl.1 rfl (lv_room (Nat.le_of_ble_eq_true hst)) d hf) hS (fun q _ h => hFc q h) hFc (fun E ce q9 H1 locs1 hE hP1 hz1 hk1 hS1 hce hv hcl => xx_out C RC.2.1 hxt (hpE E hE) (va_P_perm hper.symm (va_P_iff.mpr (fun q hq => ?_))) hS1 hce hv hcl hcm.1 hcm.2) (fun v w1 H1 locs1 hpost hP1 hD1 hz1 hk1 hS1 => hpost.elim)
  rcases List.mem_append.mp hq with h | h
  · exact va_P_iff.mp hP1 q h
  · have hq1 := va_P_iff.mp hPp q (List.mem_append_right _ h)
    refine hq1.kept (hk1 q.1 hq1.lt (fun h2 => ?_))
    rcases va_A_mem.mp h2 with ⟨e2, he⟩ | h2
    · obtain ⟨d1, -⟩ := va_D_iff.mp hDp
      rw [List.map_append, List.nodup_append] at d1
      exact d1.2.2 q.1 (List.mem_map.mpr ⟨(q.1, e2), he, rfl⟩) q.1 (List.mem_map.mpr ⟨q, h, rfl⟩) rfl
    · have := hq1.lt
      omega
theorem xg_thrS (pc : Nat) (is : List Nat) (na : Nat) {fr lo mc ms maxL index : Nat} {y : MethodName} {bytes : ByteArray} {ret : Option FieldType} {wc : va_W} {As : List Value} {pE : String → Prop} (C : CC p s m args c cc nL own (x0 :: lw_all) D tys A s.heap) (RC : meth.sig.returnType = retT ∧ meth.locks = false ∧ meth.name = nm) (XT : (∀ x ∈ c.exceptionTable.toList, False) ∧ xZ A s) (d : decode cc pc = .ok (.invokestatic index, 3)) (hM : XCt l y (Cond.code y bytes maxL ret) fr lo mc ms D tys As wc (fun _ _ => False) pE) (hpE : ∀ E, pE E → pX E) (g0 : Cond.code y bytes maxL ret ∈ lw_all) (g1 : Cond.methodLink own index y ∈ lw_all) (g2 : Cond.static y ∈ lw_all) (g4 : Cond.initialized y.cls ∈ lw_all)
    (hd : y.cls ≠ "java/lang/invoke/MethodHandle" ∧ y.cls ≠ "java/lang/invoke/VarHandle" ∧ (parseMethodDescriptor y.desc).map (fun d => d.parameters.length) = some na) (hna : As.length = na) (hR : Nat.ble (fr + 1) R.frames = true ∧ Nat.ble (8 + (maxL + 11) + lo) R.locals = true) (hf : k + mc ≤ R.cells ∧ n + ms ≤ R.slots) (hst : Nat.ble (st.map fun v => v.category).sum 8 = true) (hcm : k + mc ≤ mcM ∧ n + ms ≤ msM) (hn : wnd is = true) (hw : wall segs.length is = true) (hp : flatS (spick segs is) = wc) : sw p l e R s m args below meth c D A s.heap nL k n (vx_MQ below (ctQ D tys A post) (xQ D tys (flatS segs) A pX) args s mcM msM A) (flatS segs) pc L (As.reverse ++ st) := by
  have hw' := wall_lt hw
  have hn' := wnd_nd hn
  have hper := (flatS_perm (segs_perm is segs hn' hw')).trans (by rw [flatS_app])
  subst hp
  intro H locs ls hP hD hS hl
  have hPp := va_P_perm hper hP
  have hDp := va_D_perm hper hD
  have hPc := va_P_l hPp
  have hDc := va_D_l hDp
  have hFc := free_of hDp hS C.hA
  have hK := C.hK
  obtain ⟨hxt, hz⟩ := XT
  refine xx_callg (vx_runS (As := As) (rest := st) C.1 (hM H.size) (va_cwS na C.hts (goodS g0 g1 g2 g4) rfl rfl rfl hd ⟨Nat.le_of_ble_eq_true hR.1, Nat.le_of_ble_eq_true hR.2⟩) ⟨xP_blind, fun U hU hW => ⟨rfl, by rw [hU], by rw [hU]; exact hPc, va_K.moved hW.alike hK, hDc.weaken (fun _ _ _ _ => trivial), xZ_sub hz hS hU hW hFc⟩⟩ rfl hna hl.1 rfl (lv_room (Nat.le_of_ble_eq_true hst)) d hf) hS (fun q _ h => hFc q h) hFc (fun E ce q9 H1 locs1 hE hP1 hz1 hk1 hS1 hce hv hcl => xx_out C RC.2.1 hxt (hpE E hE) (va_P_perm hper.symm (va_P_iff.mpr (fun q hq => ?_))) hS1 hce hv hcl hcm.1 hcm.2) (fun v w1 H1 locs1 hpost hP1 hD1 hz1 hk1 hS1 => hpost.elim)
  rcases List.mem_append.mp hq with h | h
  · exact va_P_iff.mp hP1 q h
  · have hq1 := va_P_iff.mp hPp q (List.mem_append_right _ h)
    refine hq1.kept (hk1 q.1 hq1.lt (fun h2 => ?_))
    rcases va_A_mem.mp h2 with ⟨e2, he⟩ | h2
    · obtain ⟨d1, -⟩ := va_D_iff.mp hDp
      rw [List.map_append, List.nodup_append] at d1
      exact d1.2.2 q.1 (List.mem_map.mpr ⟨(q.1, e2), he, rfl⟩) q.1 (List.mem_map.mpr ⟨q, h, rfl⟩) rfl
    · have := hq1.lt
      omega
end XCT
