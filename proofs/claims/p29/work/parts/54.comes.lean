/-! what is told ahead comes true -/
abbrev ScT : Type := StT × (Nat → Int32) × (Nat → StT) × (Nat × Nat × Nat) × (Nat → Int32) × RS
def ZP (z : ScT) : Prop := z.2.2.2.1.1 ≤ 4 ∧ z.2.2.2.1.2.1 < 4 ∧ z.2.2.2.1.2.2 ≤ 100
theorem svC_le {cn : Nat} (h : cn ≤ 4) : svC cn ≤ 4 := by
  unfold svC
  split <;> omega
theorem svC_pos {cn : Nat} : 0 < svC cn := by
  unfold svC
  split <;> omega
theorem svO_lt {cn od : Nat} (h : od < 4) : svO cn od < 4 := by
  unfold svO
  split
  · exact Nat.mod_lt _ (by decide)
  · exact h
theorem sv_ix {cn od : Nat} : (svO cn od + (svC cn - 1)) % 4 = svI cn od := by
  unfold svO svC svI
  split
  · rfl
  · rw [Nat.add_sub_cancel]
theorem sv_top {R : Nat → StT} {S : StT} {cn od : Nat} : va_up R (svI cn od) S ((svO cn od + (svC cn - 1)) % 4) = S := by
  rw [sv_ix]
  unfold va_up
  rw [if_pos rfl]
theorem pass_time {B U k : Nat} {S : StT} (h : mO B U S) (hk : U + k ≤ 100000) : nI k ≤ 100000 - zt S := by
  obtain ⟨t, t1, t2⟩ := h.t
  rw [t2, show (100000 : Int32) = nI 100000 from rfl, pk_sub (by omega)]
  exact nI_le (by omega) (by omega)
theorem ch_in (k : Nat) : inR (chN k) 0 127 = true := by
  unfold chN
  split
  · decide
  · split
    · decide
    · split <;> decide
theorem isT_up {by_ : Nat → Int32} {i : Nat} (h : isT by_ i) : isT (upd by_ i (chN i)) (i + 1) := fun k hk => by
  by_cases e : k = i
  · rw [upd_at e, e]
  · rw [upd_ne e]
    exact h k (by omega)
theorem ct_L_types_ok (l : Launch) (hfl : l.stackTraces = false) {D : va_G} {cI cJ cQ : ClassId} {x0a a0 tr0 s0 r0 t0 t1 w0 ln : Nat} {by_ : Nat → Int32} {X : RS} {x1 : Int32} (hln : ln ≤ 100) (hx : inR x1 0 127 = true) (h : ln < 100) : LCt l yL_types (Cond.codeWith yL_types cL_types 3 (some .int) [(0, 5, 6, 18), (0, 5, 10, 32)]) 9 163 0 0 D (tyz cI cJ cQ) [.ref x0a, .int x1] (flatS [[(x0a, .inr (6, [.ref a0, .ref tr0, .ref s0, .ref r0, .ref w0]))], (wRd r0 t0 t1 cI (ln) (by_) X)]) (pstI (nI (ln + 1)) (flatS [[(x0a, .inr (6, [.ref a0, .ref tr0, .ref s0, .ref r0, .ref w0]))], (wRd r0 t0 t1 cI (ln + 1) (upd by_ ln x1) X)])) := by
  have q := ct_L_types (x0a := x0a) (a0 := a0) (tr0 := tr0) (s0 := s0) (r0 := r0) (t0 := t0) (t1 := t1) (w0 := w0) (by_ := by_) (X := X) (D := D) (cI := cI) (cJ := cJ) (cQ := cQ) l hfl hln hx h
  rw [show txl ln = ln + 1 from if_pos h, show txb by_ ln x1 = upd by_ ln x1 from if_pos h] at q
  exact q
set_option maxHeartbeats 8000000 in
set_option maxRecDepth 100000 in
theorem tl_comes9 {l : Launch} {p : Program} {e : Env} {s : State} {m : MethodId} {args : Array Value} {below : List Frame} {meth : Method} {c : Code} {A : Nat → Prop} {D : va_G} {cI cJ cQ : ClassId} {x0a a0 a1 a2 a3 a4 a5 a6 a7 tr0 tr1 tr2 tr3 tr4 tr5 tr6 tr7 s0 s1 ra0 ra1 ra2 ra3 ra4 ra5 ra6 ra7 rb0 rb1 rb2 rb3 rb4 rb5 rb6 rb7 rc0 rc1 rc2 rc3 rc4 rc5 rc6 rc7 rd0 rd1 rd2 rd3 rd4 rd5 rd6 rd7 r0 t0 t1 w0 : Nat} {h : Nat → Option Nat} {S T : StT} {R : Nat → StT} {cn od ln : Nat} {by_ g : Nat → Int32} {X : RS} {B U : Nat} {x1 : Int32} (hJ : JI B U S) (hh0 : h 0 = some ra0) (hh1 : h 1 = some rb0) (hh2 : h 2 = some rc0) (hh3 : h 3 = some rd0) (hcn : cn ≤ 4) (hod : od < 4) (hln : ln ≤ 100) (hfl : l.stackTraces = false) (hz : xZ A s) (hC : xC s) (C : CC p s m args c cL_comesTrue 13 RL (Cond.code yL_comesTrue cL_comesTrue 13 (some .boolean) :: lw_all) D (tyz cI cJ cQ) A s.heap) (RC : meth.sig.returnType = (some .boolean) ∧ meth.locks = false ∧ meth.name = yL_comesTrue.name) : sw p l e ({ frames := 11, cells := 1, slots := 6, locals := 214 } : Room) s m args below meth c D A s.heap 13 1 6 (MQ below (ctQ D (tyz cI cJ cQ) A (pstE 1 ZP (fun z : ScT => (flatS [[(x0a, .inr (6, [.ref a0, .ref tr0, .ref s0, .ref r0, .ref w0]))], (wSt a0 a1 a2 a3 a4 a5 a6 a7 cI (S)), [(s0, .inr (3, [.int (nI (z.2.2.2.1.1)), .int (nI (z.2.2.2.1.2.1)), .ref s1])), (s1, .inl (cQ, 4, .inr (.inr (.inr (.inr h)))))], (wSt ra0 ra1 ra2 ra3 ra4 ra5 ra6 ra7 cI ((z.2.2.1) 0)), (wSt rb0 rb1 rb2 rb3 rb4 rb5 rb6 rb7 cI ((z.2.2.1) 1)), (wSt rc0 rc1 rc2 rc3 rc4 rc5 rc6 rc7 cI ((z.2.2.1) 2)), (wSt rd0 rd1 rd2 rd3 rd4 rd5 rd6 rd7 cI ((z.2.2.1) 3)), (wSt tr0 tr1 tr2 tr3 tr4 tr5 tr6 tr7 cI (z.1)), (wRd r0 t0 t1 cI (z.2.2.2.1.2.2) (z.2.2.2.2.1) (z.2.2.2.2.2)), [(w0, .inl (cI, 40, .inl (z.2.1)))]])))) args s 1 6 A) (flatS [[(x0a, .inr (6, [.ref a0, .ref tr0, .ref s0, .ref r0, .ref w0]))], (wSt a0 a1 a2 a3 a4 a5 a6 a7 cI (S)), [(s0, .inr (3, [.int (nI (cn)), .int (nI (od)), .ref s1])), (s1, .inl (cQ, 4, .inr (.inr (.inr (.inr h)))))], (wSt ra0 ra1 ra2 ra3 ra4 ra5 ra6 ra7 cI ((R) 0)), (wSt rb0 rb1 rb2 rb3 rb4 rb5 rb6 rb7 cI ((R) 1)), (wSt rc0 rc1 rc2 rc3 rc4 rc5 rc6 rc7 cI ((R) 2)), (wSt rd0 rd1 rd2 rd3 rd4 rd5 rd6 rd7 cI ((R) 3)), (wSt tr0 tr1 tr2 tr3 tr4 tr5 tr6 tr7 cI (T)), (wRd r0 t0 t1 cI (ln) (by_) (X)), [(w0, .inl (cI, 40, .inl (g)))]]) 299 [(0, .ref x0a), (1, .int x1), (2, .long (sumF S)), (8, .int 1)] [] := by
  refine sw_iload 299 C dL_comesTrue_299 rfl ?_
  refine sw_if_eq 301 317 C dL_comesTrue_301 (by decide) (fun c_301 => ?_) (fun c_301 => ?_)
  · exact by first | exact absurd c_301 (by decide) | exact absurd (by decide) c_301
  refine sw_aload_n 304 0 C dL_comesTrue_304 rfl rfl ?_
  refine xl_callH 305 [0, 1, 2, 3, 4, 5, 6, 7, 8, 9] 1 C hz hC dL_comesTrue_305 (ct_L_sum l hfl hJ) wK_L_sum wM_L_117 wT_L_sum wI_L hd_L_sum rfl ⟨rfl, rfl⟩ ⟨Nat.le_of_ble_eq_true rfl, Nat.le_of_ble_eq_true rfl⟩ rfl rfl rfl rfl (fun v_305 w_305 h_305 => ?_)
  obtain ⟨rfl, z9, hz9, rfl⟩ := h_305
  refine ⟨[_, _, _, _, _, _, _, _, _, _], rfl, rfl, ?_⟩
  refine sw_st (_ :: _) rfl ?_
  refine sg_segs [_, _, _, _, _, _, _, _, _, _] rfl ?_
  refine sw_lload_n 308 2 C dL_comesTrue_308 rfl rfl ?_
  refine sw_lcmp 309 C dL_comesTrue_309 ?_
  refine sw_if_ne 310 317 C dL_comesTrue_310 (by decide) (fun c_310 => ?_) (fun c_310 => ?_)
  · exact by first | exact absurd c_310 (fun q => q (lcmp_self _)) | exact absurd (fun q => q (lcmp_self _)) c_310
  refine sw_iconst 313 C dL_comesTrue_313 1 (by decide) ?_
  refine sw_goto 314 318 C dL_comesTrue_314 (by decide) ?_
  refine sw_zret 318 C RC rfl dL_comesTrue_318 ?_
  refine ⟨rfl, (_, _, _, (_, _, _), _, _), ?_, rfl⟩
  exact ⟨hcn, hod, hln⟩
set_option maxHeartbeats 4000000 in
set_option maxRecDepth 100000 in
theorem lp_L_comes {l : Launch} {p : Program} {e : Env} {s : State} {m : MethodId} {args : Array Value} {below : List Frame} {meth : Method} {c : Code} {A : Nat → Prop} {D : va_G} {cI cJ cQ : ClassId} {x0a a0 a1 a2 a3 a4 a5 a6 a7 tr0 tr1 tr2 tr3 tr4 tr5 tr6 tr7 s0 s1 ra0 ra1 ra2 ra3 ra4 ra5 ra6 ra7 rb0 rb1 rb2 rb3 rb4 rb5 rb6 rb7 rc0 rc1 rc2 rc3 rc4 rc5 rc6 rc7 rd0 rd1 rd2 rd3 rd4 rd5 rd6 rd7 r0 t0 t1 w0 : Nat} {h : Nat → Option Nat} {S T : StT} {R : Nat → StT} {cn od : Nat} {g : Nat → Int32} {X : RS} {B U : Nat} {x1 : Int32} (hJ : JI B U S) (hh0 : h 0 = some ra0) (hh1 : h 1 = some rb0) (hh2 : h 2 = some rc0) (hh3 : h 3 = some rd0) (hcn : cn ≤ 4) (hod : od < 4) (hfl : l.stackTraces = false) (hz : xZ A s) (hC : xC s) {k : Nat} (hk : k < zn S) (hU : U + 200 ≤ 100000) {m9 : Nat} (hm : m9 < 19) (hin : (svf (zf S ((plc (zf S) (zn S) k) * 8 + 7)) 40 0 S).1 = nI m9) (hm3 : ∀ t, t ≤ m9 → ¬ fnd (zf (itr t S)) (zf S ((plc (zf S) (zn S) k) * 8 + 7)) (zn (itr t S)) = none) (hm4 : (srv (itr m9 S)).1 = zf S ((plc (zf S) (zn S) k) * 8 + 7)) (C : CC p s m args c cL_comesTrue 13 RL (Cond.code yL_comesTrue cL_comesTrue 13 (some .boolean) :: lw_all) D (tyz cI cJ cQ) A s.heap) (RC : meth.sig.returnType = (some .boolean) ∧ meth.locks = false ∧ meth.name = yL_comesTrue.name) : ∀ (fu i : Nat), i ≤ 5 * m9 + 2 → 5 * m9 + 2 + 1 ≤ i + fu → ∀ (by_ : Nat → Int32), isT by_ i → ∀ (xi : Int32), (xi = nI i) →  sw p l e ({ frames := 11, cells := 1, slots := 6, locals := 214 } : Room) s m args below meth c D A s.heap 13 1 6 (MQ below (ctQ D (tyz cI cJ cQ) A (pstE 1 ZP (fun z : ScT => (flatS [[(x0a, .inr (6, [.ref a0, .ref tr0, .ref s0, .ref r0, .ref w0]))], (wSt a0 a1 a2 a3 a4 a5 a6 a7 cI (S)), [(s0, .inr (3, [.int (nI (z.2.2.2.1.1)), .int (nI (z.2.2.2.1.2.1)), .ref s1])), (s1, .inl (cQ, 4, .inr (.inr (.inr (.inr h)))))], (wSt ra0 ra1 ra2 ra3 ra4 ra5 ra6 ra7 cI ((z.2.2.1) 0)), (wSt rb0 rb1 rb2 rb3 rb4 rb5 rb6 rb7 cI ((z.2.2.1) 1)), (wSt rc0 rc1 rc2 rc3 rc4 rc5 rc6 rc7 cI ((z.2.2.1) 2)), (wSt rd0 rd1 rd2 rd3 rd4 rd5 rd6 rd7 cI ((z.2.2.1) 3)), (wSt tr0 tr1 tr2 tr3 tr4 tr5 tr6 tr7 cI (z.1)), (wRd r0 t0 t1 cI (z.2.2.2.1.2.2) (z.2.2.2.2.1) (z.2.2.2.2.2)), [(w0, .inl (cI, 40, .inl (z.2.1)))]])))) args s 1 6 A) (flatS [[(x0a, .inr (6, [.ref a0, .ref tr0, .ref s0, .ref r0, .ref w0]))], (wSt a0 a1 a2 a3 a4 a5 a6 a7 cI (S)), [(s0, .inr (3, [.int (nI (cn)), .int (nI (od)), .ref s1])), (s1, .inl (cQ, 4, .inr (.inr (.inr (.inr h)))))], (wSt ra0 ra1 ra2 ra3 ra4 ra5 ra6 ra7 cI ((R) 0)), (wSt rb0 rb1 rb2 rb3 rb4 rb5 rb6 rb7 cI ((R) 1)), (wSt rc0 rc1 rc2 rc3 rc4 rc5 rc6 rc7 cI ((R) 2)), (wSt rd0 rd1 rd2 rd3 rd4 rd5 rd6 rd7 cI ((R) 3)), (wSt tr0 tr1 tr2 tr3 tr4 tr5 tr6 tr7 cI (T)), (wRd r0 t0 t1 cI (i) (by_) (X)), [(w0, .inl (cI, 40, .inl (g)))]]) 167 [(0, .ref x0a), (1, .int x1), (2, .long (sumF S)), (4, .int (zf S ((plc (zf S) (zn S) k) * 8 + 7))), (8, .int 1), (9, .int (svf (zf S ((plc (zf S) (zn S) k) * 8 + 7)) 40 0 S).1), (11, .int xi)] [] := by
  have hS := hJ.si
  have hn := hJ.o.n
  have hlc := hJ.si.2.1
  have hnum := hJ.o.num
  have hrow := hJ.o.row
  intro fu
  induction fu with
  | zero => intro i h1 h2; exact absurd h2 (by omega)
  | succ fu ih =>
    intro i hi hf by_ hT9 xi exi
    subst exi
    refine sw_iload 167 C dL_comesTrue_167 rfl ?_
    refine sw_iconst 169 C dL_comesTrue_169 5 (by decide) ?_
    refine sw_iload 170 C dL_comesTrue_170 rfl ?_
    refine sw_imul 172 C dL_comesTrue_172 ?_
    refine sw_iconst 173 C dL_comesTrue_173 2 (by decide) ?_
    refine sw_iadd 174 C dL_comesTrue_174 ?_
    refine sw_top (show 5 * (svf (zf S ((plc (zf S) (zn S) k) * 8 + 7)) 40 0 S).1 + 2 = nI (5 * m9 + 2) by rw [hin, show (5 : Int32) = nI 5 from rfl, show (2 : Int32) = nI 2 from rfl, pk_mul, nI_add]) ?_
    refine sw_icmp_ge 175 247 C dL_comesTrue_175 (by decide) (fun c_175 => ?_) (fun c_175 => ?_)
    · obtain rfl : i = 5 * m9 + 2 := by have := nI_ge' (by omega) c_175 (by omega); omega
      obtain ⟨he, X2, hcr⟩ := carry_ok hJ.o (by omega) hT9 rfl hm hm3 X.1
      have hS2 : SI (cru by_ (5 * m9 + 2) 100 0 ((fEr by_ (5 * m9 + 2) 100 (X.1, 0, -1)).1, 0, -1) S).2.1 := by rw [hcr]; exact SI_srv (mO_itr m9 hJ.o).si
      have hlog : zlg (cru by_ (5 * m9 + 2) 100 0 ((fEr by_ (5 * m9 + 2) 100 (X.1, 0, -1)).1, 0, -1) S).2.1 (0 * 5 + 0) = zf S ((plc (zf S) (zn S) k) * 8 + 7) ∧ zlg (cru by_ (5 * m9 + 2) 100 0 ((fEr by_ (5 * m9 + 2) 100 (X.1, 0, -1)).1, 0, -1) S).2.1 (0 * 5 + 1) = 0 ∧ 0 < zl (cru by_ (5 * m9 + 2) 100 0 ((fEr by_ (5 * m9 + 2) 100 (X.1, 0, -1)).1, 0, -1) S).2.1 := by
        rw [hcr, ← hm4]
        exact srv_log (srv_some (mO_itr m9 hJ.o) (hm3 m9 (Nat.le_refl _)))
      have hc2 := svC_le hcn
      have ho2 := svO_lt (cn := cn) hod
      have hi100 : 5 * m9 + 2 ≤ 100 := by omega
      refine sw_iload 247 C dL_comesTrue_247 rfl ?_
      refine sw_if_eq 249 296 C dL_comesTrue_249 (by decide) (fun c_249 => ?_) (fun c_249 => ?_)
      · exact by first | exact absurd c_249 (by decide) | exact absurd (by decide) c_249
      refine sw_aload_n 252 0 C dL_comesTrue_252 rfl rfl ?_
      refine sg_callVI 253 [0, 1, 2, 3, 4, 5, 6, 8] 0 0 [_, _, _, _, _, _, _, _] C dL_comesTrue_253 (ct_X6_carryOut l hS hcn hod hh0 hh1 hh2 hh3 hi100 SI_cdo he (tkO_of hi100 100 (X.1, 0, -1) he)) wK_X6_carryOut wM_L_183 wN_X6_carryOut wS_X6_X6_carryOut wI_X6 hd_X6_carryOut rfl rfl rfl ⟨rfl, rfl⟩ ⟨Nat.le_of_ble_eq_true rfl, Nat.le_of_ble_eq_true rfl⟩ rfl rfl rfl rfl rfl rfl ?_
      refine sg_segs [_, _, _, _, _, _, _, _, _, _] rfl ?_
      refine sw_top (congrArg Prod.fst hcr) ?_
      refine sw_iconst 256 C dL_comesTrue_256 2 (by decide) ?_
      refine sw_iload 257 C dL_comesTrue_257 rfl ?_
      refine sw_imul 259 C dL_comesTrue_259 ?_
      refine sw_iconst 260 C dL_comesTrue_260 1 (by decide) ?_
      refine sw_iadd 261 C dL_comesTrue_261 ?_
      refine sw_top (show 2 * (svf (zf S ((plc (zf S) (zn S) k) * 8 + 7)) 40 0 S).1 + 1 = nI (2 * m9 + 1) by rw [hin, show (2 : Int32) = nI 2 from rfl, show (1 : Int32) = nI 1 from rfl, pk_mul, nI_add]) ?_
      refine sw_icmp_ne 262 296 C dL_comesTrue_262 (by decide) (fun c_262 => ?_) (fun c_262 => ?_)
      · exact by first | exact absurd c_262 (rfl) | exact absurd (rfl) c_262
      refine sw_aload_n 265 0 C dL_comesTrue_265 rfl rfl ?_
      refine sw_iconst 266 C dL_comesTrue_266 0 (by decide) ?_
      refine sw_iconst 267 C dL_comesTrue_267 0 (by decide) ?_
      refine xl_callSI 268 [0, 1] 3 [_, _] C hz hC dL_comesTrue_268 (ct_L_entry l hfl hS2 0 0 rfl hlog.2.2 rfl (by decide)) wK_L_entry wM_L_115 wT_L_entry wI_L hd_L_entry rfl ⟨rfl, rfl⟩ ⟨Nat.le_of_ble_eq_true rfl, Nat.le_of_ble_eq_true rfl⟩ rfl rfl rfl rfl rfl rfl ?_
      refine sg_segs [_, _, _, _, _, _, _, _, _, _] rfl ?_
      refine sw_top hlog.1 ?_
      refine sw_iload 271 C dL_comesTrue_271 rfl ?_
      refine sw_icmp_ne 273 296 C dL_comesTrue_273 (by decide) (fun c_273 => ?_) (fun c_273 => ?_)
      · exact by first | exact absurd c_273 (rfl) | exact absurd (rfl) c_273
      refine sw_aload_n 276 0 C dL_comesTrue_276 rfl rfl ?_
      refine sw_iconst 277 C dL_comesTrue_277 0 (by decide) ?_
      refine sw_iconst 278 C dL_comesTrue_278 1 (by decide) ?_
      refine xl_callSI 279 [0, 1] 3 [_, _] C hz hC dL_comesTrue_279 (ct_L_entry l hfl hS2 0 1 rfl hlog.2.2 rfl (by decide)) wK_L_entry wM_L_115 wT_L_entry wI_L hd_L_entry rfl ⟨rfl, rfl⟩ ⟨Nat.le_of_ble_eq_true rfl, Nat.le_of_ble_eq_true rfl⟩ rfl rfl rfl rfl rfl rfl ?_
      refine sg_segs [_, _, _, _, _, _, _, _, _, _] rfl ?_
      refine sw_top hlog.2.1 ?_
      refine sw_if_ne 282 296 C dL_comesTrue_282 (by decide) (fun c_282 => ?_) (fun c_282 => ?_)
      · exact by first | exact absurd c_282 (rfl) | exact absurd (rfl) c_282
      refine sw_aload_n 285 0 C dL_comesTrue_285 rfl rfl ?_
      refine xl_callSI 286 [0, 1, 2, 3, 4, 5, 6] 1 [_, _, _, _, _, _, _] C hz hC dL_comesTrue_286 (ct_L_back l hfl hS2 hc2 ho2 hh0 hh1 hh2 hh3 svC_pos) wK_L_back wM_L_177 wT_L_back wI_L hd_L_back rfl ⟨rfl, rfl⟩ ⟨Nat.le_of_ble_eq_true rfl, Nat.le_of_ble_eq_true rfl⟩ rfl rfl rfl rfl rfl rfl ?_
      refine sg_segs [_, _, _, _, _, _, _, _, _, _] rfl ?_
      rw [sv_top]
      refine sw_if_lt 289 296 C dL_comesTrue_289 (by decide) (fun c_289 => ?_) (fun c_289 => ?_)
      · exact by first | exact absurd c_289 (nI_pos (by omega)) | exact absurd (nI_pos (by omega)) c_289
      refine sw_iconst 292 C dL_comesTrue_292 1 (by decide) ?_
      refine sw_goto 293 297 C dL_comesTrue_293 (by decide) ?_
      refine sw_istore 297 C dL_comesTrue_297 rfl ?_
      exact sw_loc (tl_comes9 hJ hh0 hh1 hh2 hh3 (show svC cn - 1 ≤ 4 by omega) ho2 hi100 hfl hz hC C RC) rfl
    · have hlt : i < 5 * m9 + 2 := by
        rcases Nat.lt_or_ge i (5 * m9 + 2) with q | q
        · exact q
        · exact absurd (nI_le (b := i) q (by omega)) c_175
      refine sw_iload 178 C dL_comesTrue_178 rfl ?_
      refine sw_iconst 180 C dL_comesTrue_180 5 (by decide) ?_
      refine sw_irem 181 C dL_comesTrue_181 (by decide) ?_
      refine sw_top (pk_rem (a := i) (d := 5) (by omega) (by decide) (by decide)) ?_
      refine sw_istore 182 C dL_comesTrue_182 rfl ?_
      refine sw_iload 184 C dL_comesTrue_184 rfl ?_
      refine sw_if_eq 186 238 C dL_comesTrue_186 (by decide) (fun c_186 => ?_) (fun c_186 => ?_)
      · exact by first | exact absurd c_186 (by decide) | exact absurd (by decide) c_186
      refine sw_aload_n 189 0 C dL_comesTrue_189 rfl rfl ?_
      refine sw_iload 190 C dL_comesTrue_190 rfl ?_
      refine sw_jn1 224 (chN i) (fun hj_192 => ?_) ?_
      · refine sw_if_ne 192 200 C dL_comesTrue_192 (by decide) (fun c_192 => ?_) (fun c_192 => ?_)
        · refine sw_iload 200 C dL_comesTrue_200 rfl ?_
          refine sw_iconst 202 C dL_comesTrue_202 2 (by decide) ?_
          refine sw_icmp_ne 203 211 C dL_comesTrue_203 (by decide) (fun c_203 => ?_) (fun c_203 => ?_)
          · refine sw_iload 211 C dL_comesTrue_211 rfl ?_
            refine sw_iconst 213 C dL_comesTrue_213 3 (by decide) ?_
            refine sw_icmp_ne 214 222 C dL_comesTrue_214 (by decide) (fun c_214 => ?_) (fun c_214 => ?_)
            · refine sw_bipush 222 C dL_comesTrue_222 59 (by decide) ?_
              exact sw_top (by unfold chN; rw [if_neg (fun q => c_192 (by rw [q]; rfl)), if_neg (fun q => c_203 (by rw [q]; rfl)), if_neg (fun q => c_214 (by rw [q]; rfl))]) hj_192
            · refine sw_bipush 217 C dL_comesTrue_217 49 (by decide) ?_
              refine sw_goto 219 224 C dL_comesTrue_219 (by decide) ?_
              exact sw_top (by unfold chN; rw [if_neg (fun q => c_192 (by rw [q]; rfl)), if_neg (fun q => c_203 (by rw [q]; rfl)), if_pos (nI_inj (by omega) (by decide) c_214)]) hj_192
          · refine sw_bipush 206 C dL_comesTrue_206 116 (by decide) ?_
            refine sw_goto 208 224 C dL_comesTrue_208 (by decide) ?_
            exact sw_top (by unfold chN; rw [if_neg (fun q => c_192 (by rw [q]; rfl)), if_pos (nI_inj (by omega) (by decide) c_203)]) hj_192
        · refine sw_bipush 195 C dL_comesTrue_195 115 (by decide) ?_
          refine sw_goto 197 224 C dL_comesTrue_197 (by decide) ?_
          exact sw_top (by unfold chN; rw [if_pos (nI_inj (by omega) (by decide) c_192)]) hj_192
      refine xl_callSI 224 [0, 8] 2 [_, _] C hz hC dL_comesTrue_224 (ct_L_types_ok l hfl (by omega) (ch_in i) (by omega)) wK_L_types wM_L_156 wT_L_types wI_L hd_L_types rfl ⟨rfl, rfl⟩ ⟨Nat.le_of_ble_eq_true rfl, Nat.le_of_ble_eq_true rfl⟩ rfl rfl rfl rfl rfl rfl ?_
      refine sg_segs [_, _, _, _, _, _, _, _, _, _] rfl ?_
      refine sw_iload 227 C dL_comesTrue_227 rfl ?_
      refine sw_iconst 229 C dL_comesTrue_229 1 (by decide) ?_
      refine sw_iadd 230 C dL_comesTrue_230 ?_
      refine sw_top (nI_1 i) ?_
      refine sw_icmp_ne 231 238 C dL_comesTrue_231 (by decide) (fun c_231 => ?_) (fun c_231 => ?_)
      · exact by first | exact absurd c_231 (rfl) | exact absurd (rfl) c_231
      refine sw_iconst 234 C dL_comesTrue_234 1 (by decide) ?_
      refine sw_goto 235 239 C dL_comesTrue_235 (by decide) ?_
      refine sw_istore 239 C dL_comesTrue_239 rfl ?_
      refine sw_loc (L1 := [(0, .ref _), (1, .int _), (2, .long _), (4, .int _), (8, .int _), (9, .int _), (11, .int _), (12, .int _)]) ?_ rfl
      refine sw_iinc 241 C 1 dL_comesTrue_241 (by decide) rfl rfl ?_
      refine sw_goto 244 167 C dL_comesTrue_244 (by decide) ?_
      exact sw_loc (ih (i + 1) (by omega) (by omega) (upd by_ i (chN i)) (isT_up hT9) _ (nI_1 i)) rfl
set_option maxHeartbeats 8000000 in
set_option maxRecDepth 100000 in
theorem tl_comes1 {l : Launch} {p : Program} {e : Env} {s : State} {m : MethodId} {args : Array Value} {below : List Frame} {meth : Method} {c : Code} {A : Nat → Prop} {D : va_G} {cI cJ cQ : ClassId} {x0a a0 a1 a2 a3 a4 a5 a6 a7 tr0 tr1 tr2 tr3 tr4 tr5 tr6 tr7 s0 s1 ra0 ra1 ra2 ra3 ra4 ra5 ra6 ra7 rb0 rb1 rb2 rb3 rb4 rb5 rb6 rb7 rc0 rc1 rc2 rc3 rc4 rc5 rc6 rc7 rd0 rd1 rd2 rd3 rd4 rd5 rd6 rd7 r0 t0 t1 w0 : Nat} {h : Nat → Option Nat} {S T : StT} {R : Nat → StT} {cn od ln : Nat} {by_ g : Nat → Int32} {X : RS} {B U : Nat} {x1 : Int32} (hJ : JI B U S) (hh0 : h 0 = some ra0) (hh1 : h 1 = some rb0) (hh2 : h 2 = some rc0) (hh3 : h 3 = some rd0) (hcn : cn ≤ 4) (hod : od < 4) (hln : ln ≤ 100) (hfl : l.stackTraces = false) (hz : xZ A s) (hC : xC s) {k : Nat} (hk : k < zn S) (hU : U + 200 ≤ 100000) {tk : Nat} {y6 y7 : Int32} (C : CC p s m args c cL_comesTrue 13 RL (Cond.code yL_comesTrue cL_comesTrue 13 (some .boolean) :: lw_all) D (tyz cI cJ cQ) A s.heap) (RC : meth.sig.returnType = (some .boolean) ∧ meth.locks = false ∧ meth.name = yL_comesTrue.name) : sw p l e ({ frames := 11, cells := 1, slots := 6, locals := 214 } : Room) s m args below meth c D A s.heap 13 1 6 (MQ below (ctQ D (tyz cI cJ cQ) A (pstE 1 ZP (fun z : ScT => (flatS [[(x0a, .inr (6, [.ref a0, .ref tr0, .ref s0, .ref r0, .ref w0]))], (wSt a0 a1 a2 a3 a4 a5 a6 a7 cI (S)), [(s0, .inr (3, [.int (nI (z.2.2.2.1.1)), .int (nI (z.2.2.2.1.2.1)), .ref s1])), (s1, .inl (cQ, 4, .inr (.inr (.inr (.inr h)))))], (wSt ra0 ra1 ra2 ra3 ra4 ra5 ra6 ra7 cI ((z.2.2.1) 0)), (wSt rb0 rb1 rb2 rb3 rb4 rb5 rb6 rb7 cI ((z.2.2.1) 1)), (wSt rc0 rc1 rc2 rc3 rc4 rc5 rc6 rc7 cI ((z.2.2.1) 2)), (wSt rd0 rd1 rd2 rd3 rd4 rd5 rd6 rd7 cI ((z.2.2.1) 3)), (wSt tr0 tr1 tr2 tr3 tr4 tr5 tr6 tr7 cI (z.1)), (wRd r0 t0 t1 cI (z.2.2.2.1.2.2) (z.2.2.2.2.1) (z.2.2.2.2.2)), [(w0, .inl (cI, 40, .inl (z.2.1)))]])))) args s 1 6 A) (flatS [[(x0a, .inr (6, [.ref a0, .ref tr0, .ref s0, .ref r0, .ref w0]))], (wSt a0 a1 a2 a3 a4 a5 a6 a7 cI ((tps tk S).2)), [(s0, .inr (3, [.int (nI (svC cn)), .int (nI (svO cn od)), .ref s1])), (s1, .inl (cQ, 4, .inr (.inr (.inr (.inr h)))))], (wSt ra0 ra1 ra2 ra3 ra4 ra5 ra6 ra7 cI ((va_up R (svI cn od) S) 0)), (wSt rb0 rb1 rb2 rb3 rb4 rb5 rb6 rb7 cI ((va_up R (svI cn od) S) 1)), (wSt rc0 rc1 rc2 rc3 rc4 rc5 rc6 rc7 cI ((va_up R (svI cn od) S) 2)), (wSt rd0 rd1 rd2 rd3 rd4 rd5 rd6 rd7 cI ((va_up R (svI cn od) S) 3)), (wSt tr0 tr1 tr2 tr3 tr4 tr5 tr6 tr7 cI (T)), (wRd r0 t0 t1 cI (ln) (by_) (X)), [(w0, .inl (cI, 40, .inl (g)))]]) 106 [(0, .ref x0a), (1, .int x1), (2, .long (sumF S)), (4, .int (zf S ((plc (zf S) (zn S) k) * 8 + 7))), (5, .int (nI tk)), (6, .int y6), (7, .int y7)] [] := by
  have hS := hJ.si
  have hn := hJ.o.n
  have hlc := hJ.si.2.1
  have hnum := hJ.o.num
  have hrow := hJ.o.row
  have hf := fnd_num hnum (plc_ok hnum hrow hn hk).1
  have hc2 := svC_le hcn
  have ho2 := svO_lt (cn := cn) hod
  refine sw_aload_n 106 0 C dL_comesTrue_106 rfl rfl ?_
  refine xl_callSI 107 [0, 1, 2, 3, 4, 5, 6] 1 [_, _, _, _, _, _, _] C hz hC dL_comesTrue_107 (ct_L_back l hfl (SI_tps hS tk) hc2 ho2 hh0 hh1 hh2 hh3 svC_pos) wK_L_back wM_L_177 wT_L_back wI_L hd_L_back rfl ⟨rfl, rfl⟩ ⟨Nat.le_of_ble_eq_true rfl, Nat.le_of_ble_eq_true rfl⟩ rfl rfl rfl rfl rfl rfl ?_
  refine sg_segs [_, _, _, _, _, _, _, _, _, _] rfl ?_
  rw [sv_top]
  refine sw_if_lt 110 117 C dL_comesTrue_110 (by decide) (fun c_110 => ?_) (fun c_110 => ?_)
  · exact by first | exact absurd c_110 (nI_pos (by omega)) | exact absurd (nI_pos (by omega)) c_110
  refine sw_iconst 113 C dL_comesTrue_113 1 (by decide) ?_
  refine sw_goto 114 118 C dL_comesTrue_114 (by decide) ?_
  refine sw_istore 118 C dL_comesTrue_118 rfl ?_
  refine sw_aload_n 120 0 C dL_comesTrue_120 rfl rfl ?_
  refine sw_iload 121 C dL_comesTrue_121 rfl ?_
  refine xl_callSI 123 [0, 1, 7] 2 [_, _, _] C hz hC dL_comesTrue_123 (ct_L_served l hfl hS (plc (zf S) (zn S) k) hf) wK_L_served wM_L_150 wT_L_served wI_L hd_L_served rfl ⟨rfl, rfl⟩ ⟨Nat.le_of_ble_eq_true rfl, Nat.le_of_ble_eq_true rfl⟩ rfl rfl rfl rfl rfl rfl ?_
  refine sg_segs [_, _, _, _, _, _, _, _, _, _] rfl ?_
  refine sw_istore 126 C dL_comesTrue_126 rfl ?_
  refine sw_loc (L1 := [(0, .ref _), (1, .int _), (2, .long _), (4, .int _), (5, .int _), (6, .int _), (7, .int _), (8, .int _), (9, .int _)]) ?_ rfl
  refine sw_iload 128 C dL_comesTrue_128 rfl ?_
  refine sw_if_eq 130 299 C dL_comesTrue_130 (by decide) (fun c_130 => ?_) (fun c_130 => ?_)
  · exact by first | exact absurd c_130 (by decide) | exact absurd (by decide) c_130
  refine sw_iload 133 C dL_comesTrue_133 rfl ?_
  refine sw_iconst 135 C dL_comesTrue_135 (-1) (by decide) ?_
  refine sw_icmp_eq 136 299 C dL_comesTrue_136 (by decide) (fun c_136 => ?_) (fun c_136 => ?_)
  · exact sw_loc (tl_comes9 hJ hh0 hh1 hh2 hh3 (show svC cn - 1 ≤ 4 by omega) ho2 hln hfl hz hC C RC) rfl
  · refine sw_iload 139 C dL_comesTrue_139 rfl ?_
    refine sw_bipush 141 C dL_comesTrue_141 19 (by decide) ?_
    refine sw_icmp_ge 143 299 C dL_comesTrue_143 (by decide) (fun c_143 => ?_) (fun c_143 => ?_)
    · exact sw_loc (tl_comes9 hJ hh0 hh1 hh2 hh3 (show svC cn - 1 ≤ 4 by omega) ho2 hln hfl hz hC C RC) rfl
    · obtain ⟨m9, m1, m2, m3, m4⟩ := svf_tells 40 0 S c_136 (by rw [hf]; exact fun q => nomatch q)
      rw [Nat.zero_add] at m2
      have hm : m9 < 19 := by
        rcases Nat.lt_or_ge m9 19 with q | q
        · exact q
        · exact absurd (show (19 : Int32) ≤ (svf (zf S ((plc (zf S) (zn S) k) * 8 + 7)) 40 0 S).1 by rw [m2]; exact nI_le (a := 19) q (by omega)) c_143
      refine sw_aload_n 146 0 C dL_comesTrue_146 rfl rfl ?_
      refine sg_callVI 147 [0, 8] 0 0 [_, _] C dL_comesTrue_147 (ct_X6_clearText l) wK_X6_clearText wM_L_180 wN_X6_clearText wS_X6_X6_clearText wI_X6 hd_X6_clearText rfl rfl rfl ⟨rfl, rfl⟩ ⟨Nat.le_of_ble_eq_true rfl, Nat.le_of_ble_eq_true rfl⟩ rfl rfl rfl rfl rfl rfl ?_
      refine sg_segs [_, _, _, _, _, _, _, _, _, _] rfl ?_
      refine sw_istore 150 C dL_comesTrue_150 rfl ?_
      refine sw_iload 152 C dL_comesTrue_152 rfl ?_
      refine sw_if_lt 154 161 C dL_comesTrue_154 (by decide) (fun c_154 => ?_) (fun c_154 => ?_)
      · exact by first | exact absurd c_154 (nI_pos (by omega)) | exact absurd (nI_pos (by omega)) c_154
      refine sw_iconst 157 C dL_comesTrue_157 1 (by decide) ?_
      refine sw_goto 158 162 C dL_comesTrue_158 (by decide) ?_
      refine sw_istore 162 C dL_comesTrue_162 rfl ?_
      refine sw_loc (L1 := [(0, .ref _), (1, .int _), (2, .long _), (4, .int _), (5, .int _), (6, .int _), (7, .int _), (8, .int _), (9, .int _), (10, .int _)]) ?_ rfl
      refine sw_iconst 164 C dL_comesTrue_164 0 (by decide) ?_
      refine sw_istore 165 C dL_comesTrue_165 rfl ?_
      exact sw_loc (lp_L_comes hJ hh0 hh1 hh2 hh3 (show svC cn - 1 ≤ 4 by omega) ho2 hfl hz hC hk hU hm m2 m3 m4 C RC (5 * m9 + 3) 0 (Nat.zero_le _) (by omega) by_ (fun k hk => absurd hk (Nat.not_lt_zero _)) _ rfl) rfl
set_option maxHeartbeats 8000000 in
set_option maxRecDepth 100000 in
theorem ct_L_comesTrue (l : Launch) (hfl : l.stackTraces = false) {D : va_G} {cI cJ cQ : ClassId} {x0a a0 a1 a2 a3 a4 a5 a6 a7 tr0 tr1 tr2 tr3 tr4 tr5 tr6 tr7 s0 s1 ra0 ra1 ra2 ra3 ra4 ra5 ra6 ra7 rb0 rb1 rb2 rb3 rb4 rb5 rb6 rb7 rc0 rc1 rc2 rc3 rc4 rc5 rc6 rc7 rd0 rd1 rd2 rd3 rd4 rd5 rd6 rd7 r0 t0 t1 w0 : Nat} {h : Nat → Option Nat} {S T : StT} {R : Nat → StT} {cn od ln : Nat} {by_ g : Nat → Int32} {X : RS} {B U : Nat} {x1 : Int32} (hJ : JI B U S) (hh0 : h 0 = some ra0) (hh1 : h 1 = some rb0) (hh2 : h 2 = some rc0) (hh3 : h 3 = some rd0) (hcn : cn ≤ 4) (hod : od < 4) (hln : ln ≤ 100) (hn0 : 0 < zn S) (hU : U + 200 ≤ 100000) : LCt l yL_comesTrue (Cond.code yL_comesTrue cL_comesTrue 13 (some .boolean)) 11 214 1 6 D (tyz cI cJ cQ) [.ref x0a, .int x1] (flatS [[(x0a, .inr (6, [.ref a0, .ref tr0, .ref s0, .ref r0, .ref w0]))], (wSt a0 a1 a2 a3 a4 a5 a6 a7 cI (S)), [(s0, .inr (3, [.int (nI (cn)), .int (nI (od)), .ref s1])), (s1, .inl (cQ, 4, .inr (.inr (.inr (.inr h)))))], (wSt ra0 ra1 ra2 ra3 ra4 ra5 ra6 ra7 cI ((R) 0)), (wSt rb0 rb1 rb2 rb3 rb4 rb5 rb6 rb7 cI ((R) 1)), (wSt rc0 rc1 rc2 rc3 rc4 rc5 rc6 rc7 cI ((R) 2)), (wSt rd0 rd1 rd2 rd3 rd4 rd5 rd6 rd7 cI ((R) 3)), (wSt tr0 tr1 tr2 tr3 tr4 tr5 tr6 tr7 cI (T)), (wRd r0 t0 t1 cI (ln) (by_) (X)), [(w0, .inl (cI, 40, .inl (g)))]]) (pstE 1 ZP (fun z : ScT => (flatS [[(x0a, .inr (6, [.ref a0, .ref tr0, .ref s0, .ref r0, .ref w0]))], (wSt a0 a1 a2 a3 a4 a5 a6 a7 cI (S)), [(s0, .inr (3, [.int (nI (z.2.2.2.1.1)), .int (nI (z.2.2.2.1.2.1)), .ref s1])), (s1, .inl (cQ, 4, .inr (.inr (.inr (.inr h)))))], (wSt ra0 ra1 ra2 ra3 ra4 ra5 ra6 ra7 cI ((z.2.2.1) 0)), (wSt rb0 rb1 rb2 rb3 rb4 rb5 rb6 rb7 cI ((z.2.2.1) 1)), (wSt rc0 rc1 rc2 rc3 rc4 rc5 rc6 rc7 cI ((z.2.2.1) 2)), (wSt rd0 rd1 rd2 rd3 rd4 rd5 rd6 rd7 cI ((z.2.2.1) 3)), (wSt tr0 tr1 tr2 tr3 tr4 tr5 tr6 tr7 cI (z.1)), (wRd r0 t0 t1 cI (z.2.2.2.1.2.2) (z.2.2.2.2.1) (z.2.2.2.2.2)), [(w0, .inl (cI, 40, .inl (z.2.1)))]]))) := by
  refine LCt.ofC RL (by decide) rfl (Nat.le_of_ble_eq_true rfl) ?_
  intro p e s m below meth c A C RC hz hC
  have hS := hJ.si
  have hn := hJ.o.n
  have hlc := hJ.si.2.1
  have hnum := hJ.o.num
  have hrow := hJ.o.row
  obtain ⟨k, hk, ek⟩ : ∃ k : Nat, k < zn S ∧ lowN x1 (zn S) = k := ⟨_, lowN_lt _ hn0, rfl⟩
  obtain ⟨t, ht, et⟩ : ∃ t : Nat, t < 30 ∧ lowN (x1 >>> ((6 : Int32) &&& 31)) 30 = t := ⟨_, lowN_lt _ (by decide), rfl⟩
  have hpl := plc_ok hnum hrow hn hk
  have hf := fnd_num hnum hpl.1
  have htl := tps_le hS (1 + t)
  have hS1 := SI_tps hS (1 + t)
  refine sw_aload_n 0 0 C dL_comesTrue_0 rfl rfl ?_
  refine xl_callH 1 [0, 1, 2, 3, 4, 5, 6, 7, 8, 9] 1 C hz hC dL_comesTrue_1 (ct_L_sum l hfl hJ) wK_L_sum wM_L_117 wT_L_sum wI_L hd_L_sum rfl ⟨rfl, rfl⟩ ⟨Nat.le_of_ble_eq_true rfl, Nat.le_of_ble_eq_true rfl⟩ rfl rfl rfl rfl (fun v_1 w_1 h_1 => ?_)
  obtain ⟨rfl, z9, hz9, rfl⟩ := h_1
  refine ⟨[_, _, _, _, _, _, _, _, _, _], rfl, rfl, ?_⟩
  refine sw_st (_ :: _) rfl ?_
  refine sg_segs [_, _, _, _, _, _, _, _, _, _] rfl ?_
  refine sw_lstore_n 4 2 C dL_comesTrue_4 rfl rfl ?_
  refine sw_aload_n 5 0 C dL_comesTrue_5 rfl rfl ?_
  refine sw_iload_n 6 1 C dL_comesTrue_6 rfl rfl ?_
  refine sw_aload_n 7 0 C dL_comesTrue_7 rfl rfl ?_
  refine sw_iconst 8 C dL_comesTrue_8 0 (by decide) ?_
  refine xl_callSI 9 [0, 1] 2 [_, _] C hz hC dL_comesTrue_9 (ct_L_value l hfl hS 0 rfl (by decide)) wK_L_value wM_L_95 wT_L_value wI_L hd_L_value rfl ⟨rfl, rfl⟩ ⟨Nat.le_of_ble_eq_true rfl, Nat.le_of_ble_eq_true rfl⟩ rfl rfl rfl rfl rfl rfl ?_
  refine sg_segs [_, _, _, _, _, _, _, _, _, _] rfl ?_
  refine sw_top (show _ = nI (zn S) from rfl) ?_
  refine sg_callSIP 12 [] 2 C dL_comesTrue_12 (ct_L_low l (zn S) rfl hn0 (by omega)) wK_L_low wM_L_174 wT_L_low wI_L hd_L_low rfl ⟨rfl, rfl⟩ ⟨Nat.le_of_ble_eq_true rfl, Nat.le_of_ble_eq_true rfl⟩ rfl rfl rfl rfl ?_
  refine sw_top (congrArg nI ek) ?_
  refine xl_callSI 15 [0, 1, 9] 2 [_, _, _] C hz hC dL_comesTrue_15 (ct_L_peek l hfl hS k (plc (zf S) (zn S) k) rfl hk hpl.1 (plc_arr hnum hrow hn _ hk)) wK_L_peek wM_L_106 wT_L_peek wI_L hd_L_peek rfl ⟨rfl, rfl⟩ ⟨Nat.le_of_ble_eq_true rfl, Nat.le_of_ble_eq_true rfl⟩ rfl rfl rfl rfl rfl rfl ?_
  refine sg_segs [_, _, _, _, _, _, _, _, _, _] rfl ?_
  refine sw_istore 18 C dL_comesTrue_18 rfl ?_
  refine sw_loc (L1 := [(0, .ref _), (1, .int _), (2, .long _), (4, .int _)]) ?_ rfl
  refine sw_iconst 20 C dL_comesTrue_20 1 (by decide) ?_
  refine sw_iload_n 21 1 C dL_comesTrue_21 rfl rfl ?_
  refine sw_bipush 22 C dL_comesTrue_22 6 (by decide) ?_
  refine sw_ishr 24 C dL_comesTrue_24 ?_
  refine sw_bipush 25 C dL_comesTrue_25 30 (by decide) ?_
  refine sg_callSIP 27 [] 2 C dL_comesTrue_27 (ct_L_low l 30 rfl (by decide) (by decide)) wK_L_low wM_L_174 wT_L_low wI_L hd_L_low rfl ⟨rfl, rfl⟩ ⟨Nat.le_of_ble_eq_true rfl, Nat.le_of_ble_eq_true rfl⟩ rfl rfl rfl rfl ?_
  refine sw_top (congrArg nI et) ?_
  refine sw_iadd 30 C dL_comesTrue_30 ?_
  refine sw_top (show (1 : Int32) + nI t = nI (1 + t) from nI_add 1 t) ?_
  refine sw_istore 31 C dL_comesTrue_31 rfl ?_
  refine sw_aload_n 33 0 C dL_comesTrue_33 rfl rfl ?_
  refine sw_iload 34 C dL_comesTrue_34 rfl ?_
  refine sw_iload 36 C dL_comesTrue_36 rfl ?_
  refine xl_callSI 38 [0, 1, 7] 3 [_, _, _] C hz hC dL_comesTrue_38 (ct_L_later l hfl hS (plc (zf S) (zn S) k) hf (1 + t) rfl (by omega)) wK_L_later wM_L_112 wT_L_later wI_L hd_L_later rfl ⟨rfl, rfl⟩ ⟨Nat.le_of_ble_eq_true rfl, Nat.le_of_ble_eq_true rfl⟩ rfl rfl rfl rfl rfl rfl ?_
  refine sg_segs [_, _, _, _, _, _, _, _, _, _] rfl ?_
  refine sw_istore 41 C dL_comesTrue_41 rfl ?_
  refine sw_loc (L1 := [(0, .ref _), (1, .int _), (2, .long _), (4, .int _), (5, .int _), (6, .int _)]) ?_ rfl
  refine sw_aload_n 43 0 C dL_comesTrue_43 rfl rfl ?_
  refine sw_iload 44 C dL_comesTrue_44 rfl ?_
  refine sw_iconst 46 C dL_comesTrue_46 0 (by decide) ?_
  refine xl_callSI 47 [0, 1] 3 [_, _] C hz hC dL_comesTrue_47 (ct_L_one l hfl hS (plc (zf S) (zn S) k) hf 0 rfl (by decide)) wK_L_one wM_L_108 wT_L_one wI_L hd_L_one rfl ⟨rfl, rfl⟩ ⟨Nat.le_of_ble_eq_true rfl, Nat.le_of_ble_eq_true rfl⟩ rfl rfl rfl rfl rfl rfl ?_
  refine sg_segs [_, _, _, _, _, _, _, _, _, _] rfl ?_
  refine sw_top (show _ = zf S ((plc (zf S) (zn S) k) * 8 + 0) from rfl) ?_
  refine sw_istore 50 C dL_comesTrue_50 rfl ?_
  refine sw_aload_n 52 0 C dL_comesTrue_52 rfl rfl ?_
  refine sw_iload 53 C dL_comesTrue_53 rfl ?_
  refine xl_callSI 55 [0, 1, 2, 3, 4, 5, 6] 2 [_, _, _, _, _, _, _] C hz hC dL_comesTrue_55 (ct_L_passes l hfl hS hcn hod hh0 hh1 hh2 hh3 (1 + t) rfl (by omega) (by omega) (pass_time hJ.o (by omega))) wK_L_passes wM_L_144 wT_L_passes wI_L hd_L_passes rfl ⟨rfl, rfl⟩ ⟨Nat.le_of_ble_eq_true rfl, Nat.le_of_ble_eq_true rfl⟩ rfl rfl rfl rfl rfl rfl ?_
  refine sg_segs [_, _, _, _, _, _, _, _, _, _] rfl ?_
  refine sw_if_lt 58 117 C dL_comesTrue_58 (by decide) (fun c_58 => ?_) (fun c_58 => ?_)
  · exact by first | exact absurd c_58 (nI_pos (by omega)) | exact absurd (nI_pos (by omega)) c_58
  rcases pass_tells hJ.o hpl.1 (1 + t) with ⟨p1, p2⟩ | ⟨p1, j, p2, p3, p4⟩
  · refine sw_iload 61 C dL_comesTrue_61 rfl ?_
    refine sw_iconst 63 C dL_comesTrue_63 (-1) (by decide) ?_
    refine sw_icmp_ne 64 82 C dL_comesTrue_64 (by decide) (fun c_64 => ?_) (fun c_64 => ?_)
    · exact by first | exact absurd c_64 (p1) | exact absurd (p1) c_64
    refine sw_aload_n 67 0 C dL_comesTrue_67 rfl rfl ?_
    refine sw_iload 68 C dL_comesTrue_68 rfl ?_
    refine sw_iconst 70 C dL_comesTrue_70 0 (by decide) ?_
    refine xl_callSI 71 [0, 1] 3 [_, _] C hz hC dL_comesTrue_71 (ct_L_one_2 l hfl hS1 p2) wK_L_one wM_L_108 wT_L_one wI_L hd_L_one rfl ⟨rfl, rfl⟩ ⟨Nat.le_of_ble_eq_true rfl, Nat.le_of_ble_eq_true rfl⟩ rfl rfl rfl rfl rfl rfl ?_
    refine sg_segs [_, _, _, _, _, _, _, _, _, _] rfl ?_
    refine sw_ldc 74 C dL_comesTrue_74 (C.w wQ_L_17) ?_
    refine sw_icmp_ne 76 117 C dL_comesTrue_76 (by decide) (fun c_76 => ?_) (fun c_76 => ?_)
    · exact by first | exact absurd c_76 (rfl) | exact absurd (rfl) c_76
    refine sw_goto 79 106 C dL_comesTrue_79 (by decide) ?_
    exact sw_loc (sw_widen (k' := 1) (n' := 6) (by decide) (by decide) (tl_comes1 hJ hh0 hh1 hh2 hh3 hcn hod hln hfl hz hC hk hU C RC)) rfl
  · refine sw_iload 61 C dL_comesTrue_61 rfl ?_
    refine sw_iconst 63 C dL_comesTrue_63 (-1) (by decide) ?_
    refine sw_icmp_ne 64 82 C dL_comesTrue_64 (by decide) (fun c_64 => ?_) (fun c_64 => ?_)
    rotate_left
    · exact by first | exact absurd c_64 (p1) | exact absurd (p1) c_64
    refine sw_aload_n 82 0 C dL_comesTrue_82 rfl rfl ?_
    refine sw_iload 83 C dL_comesTrue_83 rfl ?_
    refine sw_iconst 85 C dL_comesTrue_85 2 (by decide) ?_
    refine xl_callSI 86 [0, 1] 3 [_, _] C hz hC dL_comesTrue_86 (ct_L_one l hfl hS1 j p2 2 rfl (by decide)) wK_L_one wM_L_108 wT_L_one wI_L hd_L_one rfl ⟨rfl, rfl⟩ ⟨Nat.le_of_ble_eq_true rfl, Nat.le_of_ble_eq_true rfl⟩ rfl rfl rfl rfl rfl rfl ?_
    refine sg_segs [_, _, _, _, _, _, _, _, _, _] rfl ?_
    refine sw_top (show _ = (rkf (plc (zf S) (zn S) k) (1 + t) S).1 from p3) ?_
    refine sw_iload 89 C dL_comesTrue_89 rfl ?_
    refine sw_icmp_ne 91 117 C dL_comesTrue_91 (by decide) (fun c_91 => ?_) (fun c_91 => ?_)
    · exact by first | exact absurd c_91 (rfl) | exact absurd (rfl) c_91
    refine sw_aload_n 94 0 C dL_comesTrue_94 rfl rfl ?_
    refine sw_iload 95 C dL_comesTrue_95 rfl ?_
    refine sw_iconst 97 C dL_comesTrue_97 0 (by decide) ?_
    refine xl_callSI 98 [0, 1] 3 [_, _] C hz hC dL_comesTrue_98 (ct_L_one l hfl hS1 j p2 0 rfl (by decide)) wK_L_one wM_L_108 wT_L_one wI_L hd_L_one rfl ⟨rfl, rfl⟩ ⟨Nat.le_of_ble_eq_true rfl, Nat.le_of_ble_eq_true rfl⟩ rfl rfl rfl rfl rfl rfl ?_
    refine sg_segs [_, _, _, _, _, _, _, _, _, _] rfl ?_
    refine sw_top (show _ = zf S ((plc (zf S) (zn S) k) * 8 + 0) from p4) ?_
    refine sw_iload 101 C dL_comesTrue_101 rfl ?_
    refine sw_icmp_ne 103 117 C dL_comesTrue_103 (by decide) (fun c_103 => ?_) (fun c_103 => ?_)
    · exact by first | exact absurd c_103 (rfl) | exact absurd (rfl) c_103
    exact sw_loc (sw_widen (k' := 1) (n' := 6) (by decide) (by decide) (tl_comes1 hJ hh0 hh1 hh2 hh3 hcn hod hln hfl hz hC hk hU C RC)) rfl
