/-! the law -/
section LAWB
variable {p : Program} {l : Launch} {e : Env} {R : Room} {s : State} {m : MethodId} {args : Array Value} {below : List Frame} {meth : Method} {c : Code} {D : va_G} {tys : List (ClassId × FieldType)} {A : Nat → Prop} {nL k n : Nat} {Q : State → Prop} {ws : va_W} {L : List (Nat × Value)} {st : List Value} {cc : ByteArray} {own : String} {x0 : Cond}
theorem xl_cell (pc : Nat) {index b LL : Nat} {xs : Nat → Int32} {x1 : Int32} (C : CC p s m args c cc nL own (x0 :: lw_all) D tys A s.heap) (hX : va_X b LL xs s s.heap) (hbl : b < s.heap.size) (hbA : ¬ A b) (hLL : LL ≤ 260) (d : decode cc pc = .ok (.invokestatic index, 3)) (g1 : Cond.methodLink own index yL_cell ∈ lw_all) (h0 : ¬ x1 < 0) (hR1 : Nat.ble (0 + 1) R.frames = true) (hR2 : Nat.ble (8 + (3 + 11) + 0) R.locals = true) (hf : k + 0 ≤ R.cells ∧ n + 0 ≤ R.slots) (hst : Nat.ble (st.map fun v => v.category).sum 8 = true)
    (kk : ∀ r : Int32, sw p l e R s m args below meth c D A s.heap nL k n Q ws (pc + 3) L (.int r :: st)) : sw p l e R s m args below meth c D A s.heap nL k n Q ws pc L (.int x1 :: .ref b :: st) := by
  intro H locs ls hP hD hS hl
  have hK := C.hK
  have hXH : va_X b LL xs s H := hX.kept (hS.2.1 b hbl hbA)
  have hno : ∀ q, q < H.size → ¬ va_A [] H.size q := fun q hq h => by
    rcases va_A_mem.mp h with ⟨e9, he⟩ | h
    · exact absurd he List.not_mem_nil
    · omega
  refine va_callg (va_runS (As := [.ref b, .int x1]) (rest := st) C.1 (ct_L_cell l hLL h0 H.size) (va_cwS 2 C.hts (goodS wK_L_cell g1 wT_L_cell wI_L) rfl rfl rfl hd_L_cell ⟨Nat.le_of_ble_eq_true hR1, Nat.le_of_ble_eq_true hR2⟩) ⟨cP_blind, fun U hU hW => ⟨rfl, by rw [hU], va_K.moved hW.alike hK, by rw [hU]; exact hXH.moved hW.alike, by rw [hU]; exact Nat.lt_of_lt_of_le hbl hS.1⟩⟩ rfl rfl hl.1 rfl (lv_room (Nat.le_of_ble_eq_true hst)) d hf) hS (fun q h1 h2 => absurd h2 (hno q h1)) (fun q h => by
    rcases va_A_mem.mp h with ⟨e9, he⟩ | h
    · exact absurd he List.not_mem_nil
    · exact C.hA q (Nat.le_trans hS.1 h)) (fun v w1 H1 locs1 hpost hP1 hD1 hz1 hk1 hS1 => ?_)
  obtain ⟨r, rfl, -⟩ := hpost
  exact kk r H1 locs1 ls (hP.kept (fun k9 q hq => hk1 q.1 (hP k9 q hq).lt (hno q.1 (hP k9 q hq).lt))) hD hS1 hl
end LAWB
theorem sv_fin2 : ∀ (c : Fin 5) (o : Fin 4), (svO (svC c.1) (svO c.1 o.1) + (svC (svC c.1) - 1 - 1)) % 4 = svI c.1 o.1 ∧ svI c.1 o.1 ≠ svI (svC c.1) (svO c.1 o.1) := by decide
theorem sv_fin3 : ∀ (c : Fin 5) (o : Fin 4), (svO (svC (svC c.1)) (svO (svC c.1) (svO c.1 o.1)) + (svC (svC (svC c.1)) - 1 - 1 - 1)) % 4 = svI c.1 o.1 ∧ svI c.1 o.1 ≠ svI (svC c.1) (svO c.1 o.1) ∧ svI c.1 o.1 ≠ svI (svC (svC c.1)) (svO (svC c.1) (svO c.1 o.1)) := by decide
theorem sv_2 {R : Nat → StT} {S1 S2 : StT} {c o : Nat} (hc : c ≤ 4) (ho : o < 4) : va_up (va_up R (svI c o) S1) (svI (svC c) (svO c o)) S2 ((svO (svC c) (svO c o) + (svC (svC c) - 1 - 1)) % 4) = S1 := by
  obtain ⟨h1, h2⟩ := sv_fin2 ⟨c, by omega⟩ ⟨o, ho⟩
  have h1 : (svO (svC c) (svO c o) + (svC (svC c) - 1 - 1)) % 4 = svI c o := h1
  rw [h1, va_up_ne _ _ h2, va_up_self]
theorem sv_3 {R : Nat → StT} {S1 S2 S3 : StT} {c o : Nat} (hc : c ≤ 4) (ho : o < 4) : va_up (va_up (va_up R (svI c o) S1) (svI (svC c) (svO c o)) S2) (svI (svC (svC c)) (svO (svC c) (svO c o))) S3 ((svO (svC (svC c)) (svO (svC c) (svO c o)) + (svC (svC (svC c)) - 1 - 1 - 1)) % 4) = S1 := by
  obtain ⟨h1, h2, h3⟩ := sv_fin3 ⟨c, by omega⟩ ⟨o, ho⟩
  have h1 : (svO (svC (svC c)) (svO (svC c) (svO c o)) + (svC (svC (svC c)) - 1 - 1 - 1)) % 4 = svI c o := h1
  rw [h1, va_up_ne _ _ h3, va_up_ne _ _ h2, va_up_self]
theorem svC_2 (c : Nat) : 2 ≤ svC (svC c) := by
  have := @svC_pos c
  generalize svC c = d at this
  unfold svC
  split <;> omega
theorem svC_3 (c : Nat) : 3 ≤ svC (svC (svC c)) := by
  have := svC_2 c
  generalize svC (svC c) = d at this
  unfold svC
  split <;> omega
set_option maxHeartbeats 8000000 in
set_option maxRecDepth 100000 in
theorem lb3_law {l : Launch} (hfl : l.stackTraces = false) {p : Program} {e : Env} {s : State} {m : MethodId} {below : List Frame} {meth : Method} {c : Code} {A : Nat → Prop} {D : va_G} {cI cJ cQ : ClassId} {Q : State → Prop} {b LL : Nat} {xs : Nat → Int32} (C : CC p s m #[.ref b] c cL_law 8 RL (Cond.initialized RL :: lw_all) D (tyz cI cJ cQ) A s.heap) (hz : xZ A s) (hC : xC s) (hX : va_X b LL xs s s.heap) (hbl : b < s.heap.size) (hbA : ¬ A b) (hLL : LL ≤ 260) {x0a a0 a1 a2 a3 a4 a5 a6 a7 tr0 tr1 tr2 tr3 tr4 tr5 tr6 tr7 s0 s1 ra0 ra1 ra2 ra3 ra4 ra5 ra6 ra7 rb0 rb1 rb2 rb3 rb4 rb5 rb6 rb7 rc0 rc1 rc2 rc3 rc4 rc5 rc6 rc7 rd0 rd1 rd2 rd3 rd4 rd5 rd6 rd7 r0 t0 t1 w0 : Nat} {h : Nat → Option Nat} (hh0 : h 0 = some ra0) (hh1 : h 1 = some rb0) (hh2 : h 2 = some rc0) (hh3 : h 3 = some rd0) {S T : StT} {R : Nat → StT} {cn od ln : Nat} {by_ g : Nat → Int32} {X : RS} {t k n : Nat} {x4 x5 : Int32} (ht : t < 40) (hJ : JI (t + 1) (7 * t + 7) S) (hcn : cn ≤ 4) (hod : od < 4) (hln : ln ≤ 100) (hkR : k ≤ 1000 + 30 * t + 23) (hnR : n ≤ 10000 + 200 * t + 138) (hk : ∀ (T : StT) (R : Nat → StT) (cn od ln : Nat) (by_ g : Nat → Int32) (X : RS) (k n : Nat), cn ≤ 4 → od < 4 → ln ≤ 100 → k ≤ 1000 + 30 * t + 23 → n ≤ 10000 + 200 * t + 138 → sw p l e room_1 s m #[.ref b] below meth c D A s.heap 8 k n Q (flatS [[(x0a, .inr (6, [.ref a0, .ref tr0, .ref s0, .ref r0, .ref w0]))], (wSt a0 a1 a2 a3 a4 a5 a6 a7 cI (S)), [(s0, .inr (3, [.int (nI (cn)), .int (nI (od)), .ref s1])), (s1, .inl (cQ, 4, .inr (.inr (.inr (.inr h)))))], (wSt ra0 ra1 ra2 ra3 ra4 ra5 ra6 ra7 cI ((R) 0)), (wSt rb0 rb1 rb2 rb3 rb4 rb5 rb6 rb7 cI ((R) 1)), (wSt rc0 rc1 rc2 rc3 rc4 rc5 rc6 rc7 cI ((R) 2)), (wSt rd0 rd1 rd2 rd3 rd4 rd5 rd6 rd7 cI ((R) 3)), (wSt tr0 tr1 tr2 tr3 tr4 tr5 tr6 tr7 cI (T)), (wRd r0 t0 t1 cI (ln) (by_) (X)), [(w0, .inl (cI, 40, .inl (g)))]]) 278 [(0, .ref b), (1, .ref x0a), (2, .int 1), (3, .int (nI t))] []) : sw p l e room_1 s m #[.ref b] below meth c D A s.heap 8 k n Q (flatS [[(x0a, .inr (6, [.ref a0, .ref tr0, .ref s0, .ref r0, .ref w0]))], (wSt a0 a1 a2 a3 a4 a5 a6 a7 cI (S)), [(s0, .inr (3, [.int (nI (cn)), .int (nI (od)), .ref s1])), (s1, .inl (cQ, 4, .inr (.inr (.inr (.inr h)))))], (wSt ra0 ra1 ra2 ra3 ra4 ra5 ra6 ra7 cI ((R) 0)), (wSt rb0 rb1 rb2 rb3 rb4 rb5 rb6 rb7 cI ((R) 1)), (wSt rc0 rc1 rc2 rc3 rc4 rc5 rc6 rc7 cI ((R) 2)), (wSt rd0 rd1 rd2 rd3 rd4 rd5 rd6 rd7 cI ((R) 3)), (wSt tr0 tr1 tr2 tr3 tr4 tr5 tr6 tr7 cI (T)), (wRd r0 t0 t1 cI (ln) (by_) (X)), [(w0, .inl (cI, 40, .inl (g)))]]) 149 [(0, .ref b), (1, .ref x0a), (2, .int 1), (3, .int (nI t)), (4, .int x4), (5, .int x5)] [] := by
  have hS := hJ.si
  have hn := hJ.o.n
  have hlc := hJ.si.2.1
  have hnum := hJ.o.num
  have hrow := hJ.o.row
  obtain ⟨r9, hr9, er9⟩ : ∃ z : Nat, z < 5 ∧ lowN (x4 >>> ((4 : Int32) &&& 31)) 5 = z := ⟨_, lowN_lt _ (by decide), rfl⟩
  obtain ⟨s9, hs9, es9⟩ : ∃ z : Nat, z < 8 ∧ lowN (x5 >>> ((4 : Int32) &&& 31)) 8 = z := ⟨_, lowN_lt _ (by decide), rfl⟩
  refine sw_aload_n 149 1 C dL_law_149 rfl rfl ?_
  refine sw_iload 150 C dL_law_150 rfl ?_
  refine sw_iconst 152 C dL_law_152 4 (by decide) ?_
  refine sw_ishr 153 C dL_law_153 ?_
  refine sw_iconst 154 C dL_law_154 5 (by decide) ?_
  refine sg_callSIP 155 [] 2 C dL_law_155 (ct_L_low l 5 rfl (by decide) (by decide)) wK_L_low wM_L_174 wT_L_low wI_L hd_L_low rfl ⟨rfl, rfl⟩ ⟨by show _ ≤ 623349; omega, by show _ ≤ 7231578; omega⟩ rfl rfl rfl rfl ?_
  refine sw_top (congrArg nI er9) ?_
  refine sw_iload 158 C dL_law_158 rfl ?_
  refine sw_iconst 160 C dL_law_160 4 (by decide) ?_
  refine sw_ishr 161 C dL_law_161 ?_
  refine sw_bipush 162 C dL_law_162 8 (by decide) ?_
  refine sg_callSIP 164 [] 2 C dL_law_164 (ct_L_low l 8 rfl (by decide) (by decide)) wK_L_low wM_L_174 wT_L_low wI_L hd_L_low rfl ⟨rfl, rfl⟩ ⟨by show _ ≤ 623349; omega, by show _ ≤ 7231578; omega⟩ rfl rfl rfl rfl ?_
  refine sw_top (congrArg nI es9) ?_
  refine xl_callH 167 [0, 1, 2, 3, 4, 5, 6, 7, 8, 9] 3 C hz hC dL_law_167 (ct_L_isLead l hfl hJ (by omega) hh0 hh1 hh2 hh3 hcn hod hln r9 rfl hr9 s9 rfl hs9) wK_L_isLead wM_L_209 wT_L_isLead wI_L hd_L_isLead rfl ⟨rfl, rfl⟩ ⟨by show _ ≤ 623349; omega, by show _ ≤ 7231578; omega⟩ rfl rfl rfl rfl (fun v_167 w_167 h_167 => ?_)
  obtain ⟨rfl, z7, hz7, rfl⟩ := h_167
  refine ⟨[_, _, _, _, _, _, _, _, _, _], rfl, rfl, ?_⟩
  refine sw_st (_ :: _) rfl ?_
  refine sg_segs [_, _, _, _, _, _, _, _, _, _] rfl ?_
  refine sw_if_eq 170 177 C dL_law_170 (by decide) (fun c_170 => ?_) (fun c_170 => ?_)
  · exact by first | exact absurd c_170 (by decide) | exact absurd (by decide) c_170
  refine sw_iconst 173 C dL_law_173 1 (by decide) ?_
  refine sw_goto 174 178 C dL_law_174 (by decide) ?_
  refine sw_istore_n 178 2 C dL_law_178 rfl rfl ?_
  refine sw_iload_n 179 2 C dL_law_179 rfl rfl ?_
  refine sw_if_eq 180 278 C dL_law_180 (by decide) (fun c_180 => ?_) (fun c_180 => ?_)
  · exact by first | exact absurd c_180 (by decide) | exact absurd (by decide) c_180
  refine sw_iload_n 183 3 C dL_law_183 rfl rfl ?_
  refine sw_iconst 184 C dL_law_184 5 (by decide) ?_
  refine sw_irem 185 C dL_law_185 (by decide) ?_
  refine sw_top (pk_rem (a := t) (d := 5) (by omega) (by decide) (by decide)) ?_
  refine sw_iconst 186 C dL_law_186 4 (by decide) ?_
  refine sw_icmp_ne 187 278 C dL_law_187 (by decide) (fun c_187 => ?_) (fun c_187 => ?_)
  · exact sw_loc (hk _ _ _ _ _ _ _ _ _ _ hz7.1 hz7.2.1 hz7.2.2 (by omega) (by omega)) rfl
  · obtain ⟨g0, hg0, eg0⟩ : ∃ z : Nat, z < 201 ∧ lowN x4 201 = z := ⟨_, lowN_lt _ (by decide), rfl⟩
    obtain ⟨p0, hp0, ep0⟩ : ∃ z : Nat, z < 90 ∧ lowN x5 90 = z := ⟨_, lowN_lt _ (by decide), rfl⟩
    obtain ⟨q0, hq0, eq0⟩ : ∃ z : Nat, z < 11 ∧ lowN x4 11 = z := ⟨_, lowN_lt _ (by decide), rfl⟩
    have hc2 := svC_le hz7.1
    have ho2 := svO_lt (cn := z7.2.2.2.1.1) hz7.2.1
    have hc3 := svC_le hc2
    have ho3 := svO_lt (cn := svC z7.2.2.2.1.1) ho2
    have hc4 := svC_le hc3
    have ho4 := svO_lt (cn := svC (svC z7.2.2.2.1.1)) ho3
    have hc9 := svC_3 z7.2.2.2.1.1
    have hJ1 : JI (t + 1) (7 * t + 7) (zg_ S (nI g0)) := JI_g hJ ⟨g0, by omega, rfl⟩
    have hJ2 := JI_tps hJ1 (1 + p0)
    have htl := tps_le hJ1.si (1 + p0)
    refine sw_aload_n 190 1 C dL_law_190 rfl rfl ?_
    refine xl_callH 191 [0, 1, 2, 3, 4, 5, 6, 7, 8, 9] 1 C hz hC dL_law_191 (ct_L_sum l hfl hJ) wK_L_sum wM_L_117 wT_L_sum wI_L hd_L_sum rfl ⟨rfl, rfl⟩ ⟨by show _ ≤ 623349; omega, by show _ ≤ 7231578; omega⟩ rfl rfl rfl rfl (fun v_191 w_191 h_191 => ?_)
    obtain ⟨rfl, z6, hz6, rfl⟩ := h_191
    refine ⟨[_, _, _, _, _, _, _, _, _, _], rfl, rfl, ?_⟩
    refine sw_st (_ :: _) rfl ?_
    refine sg_segs [_, _, _, _, _, _, _, _, _, _] rfl ?_
    refine sw_lstore 194 C dL_law_194 rfl ?_
    refine sw_aload_n 196 1 C dL_law_196 rfl rfl ?_
    refine sw_iload 197 C dL_law_197 rfl ?_
    refine sw_sipush 199 C dL_law_199 201 (by decide) ?_
    refine sg_callSIP 202 [] 2 C dL_law_202 (ct_L_low l 201 rfl (by decide) (by decide)) wK_L_low wM_L_174 wT_L_low wI_L hd_L_low rfl ⟨rfl, rfl⟩ ⟨by show _ ≤ 623349; omega, by show _ ≤ 7231578; omega⟩ rfl rfl rfl rfl ?_
    refine sw_top (congrArg nI eg0) ?_
    refine xl_callSI 205 [0, 1, 2, 3, 4, 5, 6] 2 [_, _, _, _, _, _, _] C hz hC dL_law_205 (ct_L_grace l hfl hS hz7.1 hz7.2.1 hh0 hh1 hh2 hh3 (inR_nI 0 200 (by omega) (by omega) (by decide))) wK_L_grace wM_L_127 wT_L_grace wI_L hd_L_grace rfl ⟨rfl, rfl⟩ ⟨by show _ ≤ 623349; omega, by show _ ≤ 7231578; omega⟩ rfl rfl rfl rfl rfl rfl ?_
    refine sg_segs [_, _, _, _, _, _, _, _, _, _] rfl ?_
    refine sw_if_lt 208 276 C dL_law_208 (by decide) (fun c_208 => ?_) (fun c_208 => ?_)
    · exact by first | exact absurd c_208 (isN_ge hJ.s.2.2 (by decide)) | exact absurd (isN_ge hJ.s.2.2 (by decide)) c_208
    refine sw_aload_n 211 1 C dL_law_211 rfl rfl ?_
    refine sw_iconst 212 C dL_law_212 1 (by decide) ?_
    refine sw_iload 213 C dL_law_213 rfl ?_
    refine sw_bipush 215 C dL_law_215 90 (by decide) ?_
    refine sg_callSIP 217 [] 2 C dL_law_217 (ct_L_low l 90 rfl (by decide) (by decide)) wK_L_low wM_L_174 wT_L_low wI_L hd_L_low rfl ⟨rfl, rfl⟩ ⟨by show _ ≤ 623349; omega, by show _ ≤ 7231578; omega⟩ rfl rfl rfl rfl ?_
    refine sw_top (congrArg nI ep0) ?_
    refine sw_iadd 220 C dL_law_220 ?_
    refine sw_top (show (1 : Int32) + nI p0 = nI (1 + p0) from nI_add 1 p0) ?_
    refine xl_callSI 221 [0, 1, 2, 3, 4, 5, 6] 2 [_, _, _, _, _, _, _] C hz hC dL_law_221 (ct_L_passes l hfl hJ1.si hc2 ho2 hh0 hh1 hh2 hh3 (1 + p0) rfl (by omega) (by omega) (pass_time hJ1.o (by omega))) wK_L_passes wM_L_144 wT_L_passes wI_L hd_L_passes rfl ⟨rfl, rfl⟩ ⟨by show _ ≤ 623349; omega, by show _ ≤ 7231578; omega⟩ rfl rfl rfl rfl rfl rfl ?_
    refine sg_segs [_, _, _, _, _, _, _, _, _, _] rfl ?_
    refine sw_if_lt 224 276 C dL_law_224 (by decide) (fun c_224 => ?_) (fun c_224 => ?_)
    · exact by first | exact absurd c_224 (nI_pos (by omega)) | exact absurd (nI_pos (by omega)) c_224
    refine sw_aload_n 227 1 C dL_law_227 rfl rfl ?_
    refine sw_iload 228 C dL_law_228 rfl ?_
    refine sw_bipush 230 C dL_law_230 11 (by decide) ?_
    refine sg_callSIP 232 [] 2 C dL_law_232 (ct_L_low l 11 rfl (by decide) (by decide)) wK_L_low wM_L_174 wT_L_low wI_L hd_L_low rfl ⟨rfl, rfl⟩ ⟨by show _ ≤ 623349; omega, by show _ ≤ 7231578; omega⟩ rfl rfl rfl rfl ?_
    refine sw_top (congrArg nI eq0) ?_
    refine xl_callSI 235 [0, 1, 2, 3, 4, 5, 6] 2 [_, _, _, _, _, _, _] C hz hC dL_law_235 (ct_L_quota l hfl hJ2.si hc3 ho3 hh0 hh1 hh2 hh3 (inR_nI 0 10 (by omega) (by omega) (by decide))) wK_L_quota wM_L_124 wT_L_quota wI_L hd_L_quota rfl ⟨rfl, rfl⟩ ⟨by show _ ≤ 623349; omega, by show _ ≤ 7231578; omega⟩ rfl rfl rfl rfl rfl rfl ?_
    refine sg_segs [_, _, _, _, _, _, _, _, _, _] rfl ?_
    refine sw_if_lt 238 276 C dL_law_238 (by decide) (fun c_238 => ?_) (fun c_238 => ?_)
    · exact by first | exact absurd c_238 (isN_ge hJ2.s.2.1 (by decide)) | exact absurd (isN_ge hJ2.s.2.1 (by decide)) c_238
    refine sw_aload_n 241 1 C dL_law_241 rfl rfl ?_
    refine xl_callSI 242 [0, 1, 2, 3, 4, 5, 6] 1 [_, _, _, _, _, _, _] C hz hC dL_law_242 (ct_L_back l hfl (S := zq_ (tps (1 + p0) (zg_ S (nI g0))).2 (nI q0)) hJ2.si hc4 ho4 hh0 hh1 hh2 hh3 svC_pos) wK_L_back wM_L_177 wT_L_back wI_L hd_L_back rfl ⟨rfl, rfl⟩ ⟨by show _ ≤ 623349; omega, by show _ ≤ 7231578; omega⟩ rfl rfl rfl rfl rfl rfl ?_
    refine sg_segs [_, _, _, _, _, _, _, _, _, _] rfl ?_
    rw [sv_top]
    refine sw_if_lt 245 276 C dL_law_245 (by decide) (fun c_245 => ?_) (fun c_245 => ?_)
    · exact by first | exact absurd c_245 (nI_pos (by omega)) | exact absurd (nI_pos (by omega)) c_245
    refine sw_aload_n 248 1 C dL_law_248 rfl rfl ?_
    refine xl_callSI 249 [0, 1, 2, 3, 4, 5, 6] 1 [_, _, _, _, _, _, _] C hz hC dL_law_249 (ct_L_back l hfl hJ2.si (Nat.le_trans (Nat.sub_le _ _) hc4) ho4 hh0 hh1 hh2 hh3 (by omega)) wK_L_back wM_L_177 wT_L_back wI_L hd_L_back rfl ⟨rfl, rfl⟩ ⟨by show _ ≤ 623349; omega, by show _ ≤ 7231578; omega⟩ rfl rfl rfl rfl rfl rfl ?_
    refine sg_segs [_, _, _, _, _, _, _, _, _, _] rfl ?_
    rw [sv_2 hc2 ho2]
    refine sw_if_lt 252 276 C dL_law_252 (by decide) (fun c_252 => ?_) (fun c_252 => ?_)
    · exact by first | exact absurd c_252 (nI_pos (by omega)) | exact absurd (nI_pos (by omega)) c_252
    refine sw_aload_n 255 1 C dL_law_255 rfl rfl ?_
    refine xl_callSI 256 [0, 1, 2, 3, 4, 5, 6] 1 [_, _, _, _, _, _, _] C hz hC dL_law_256 (ct_L_back l hfl hJ1.si (Nat.le_trans (Nat.sub_le _ _) (Nat.le_trans (Nat.sub_le _ _) hc4)) ho4 hh0 hh1 hh2 hh3 (by omega)) wK_L_back wM_L_177 wT_L_back wI_L hd_L_back rfl ⟨rfl, rfl⟩ ⟨by show _ ≤ 623349; omega, by show _ ≤ 7231578; omega⟩ rfl rfl rfl rfl rfl rfl ?_
    refine sg_segs [_, _, _, _, _, _, _, _, _, _] rfl ?_
    rw [sv_3 hz7.1 hz7.2.1]
    refine sw_if_lt 259 276 C dL_law_259 (by decide) (fun c_259 => ?_) (fun c_259 => ?_)
    · exact by first | exact absurd c_259 (nI_pos (by omega)) | exact absurd (nI_pos (by omega)) c_259
    refine sw_aload_n 262 1 C dL_law_262 rfl rfl ?_
    refine xl_callH 263 [0, 1, 2, 3, 4, 5, 6, 7, 8, 9] 1 C hz hC dL_law_263 (ct_L_sum l hfl hJ) wK_L_sum wM_L_117 wT_L_sum wI_L hd_L_sum rfl ⟨rfl, rfl⟩ ⟨by show _ ≤ 623349; omega, by show _ ≤ 7231578; omega⟩ rfl rfl rfl rfl (fun v_263 w_263 h_263 => ?_)
    obtain ⟨rfl, z5, hz5, rfl⟩ := h_263
    refine ⟨[_, _, _, _, _, _, _, _, _, _], rfl, rfl, ?_⟩
    refine sw_st (_ :: _) rfl ?_
    refine sg_segs [_, _, _, _, _, _, _, _, _, _] rfl ?_
    refine sw_lload 266 C dL_law_266 rfl ?_
    refine sw_lcmp 268 C dL_law_268 ?_
    refine sw_if_ne 269 276 C dL_law_269 (by decide) (fun c_269 => ?_) (fun c_269 => ?_)
    · exact by first | exact absurd c_269 (fun q => q (lcmp_self _)) | exact absurd (fun q => q (lcmp_self _)) c_269
    refine sw_iconst 272 C dL_law_272 1 (by decide) ?_
    refine sw_goto 273 277 C dL_law_273 (by decide) ?_
    refine sw_istore_n 277 2 C dL_law_277 rfl rfl ?_
    exact sw_loc (hk _ _ _ _ _ _ _ _ _ _ (Nat.le_trans (Nat.sub_le _ _) (Nat.le_trans (Nat.sub_le _ _) (Nat.le_trans (Nat.sub_le _ _) hc4))) ho4 hz7.2.2 (by omega) (by omega)) rfl
set_option maxHeartbeats 8000000 in
set_option maxRecDepth 100000 in
theorem lb2_law {l : Launch} (hfl : l.stackTraces = false) {p : Program} {e : Env} {s : State} {m : MethodId} {below : List Frame} {meth : Method} {c : Code} {A : Nat → Prop} {D : va_G} {cI cJ cQ : ClassId} {Q : State → Prop} {b LL : Nat} {xs : Nat → Int32} (C : CC p s m #[.ref b] c cL_law 8 RL (Cond.initialized RL :: lw_all) D (tyz cI cJ cQ) A s.heap) (hz : xZ A s) (hC : xC s) (hX : va_X b LL xs s s.heap) (hbl : b < s.heap.size) (hbA : ¬ A b) (hLL : LL ≤ 260) {x0a a0 a1 a2 a3 a4 a5 a6 a7 tr0 tr1 tr2 tr3 tr4 tr5 tr6 tr7 s0 s1 ra0 ra1 ra2 ra3 ra4 ra5 ra6 ra7 rb0 rb1 rb2 rb3 rb4 rb5 rb6 rb7 rc0 rc1 rc2 rc3 rc4 rc5 rc6 rc7 rd0 rd1 rd2 rd3 rd4 rd5 rd6 rd7 r0 t0 t1 w0 : Nat} {h : Nat → Option Nat} (hh0 : h 0 = some ra0) (hh1 : h 1 = some rb0) (hh2 : h 2 = some rc0) (hh3 : h 3 = some rd0) {S T : StT} {R : Nat → StT} {cn od ln : Nat} {by_ g : Nat → Int32} {X : RS} {t k n : Nat} {x4 x5 : Int32} (ht : t < 40) (hJ : JI (t + 1) (7 * t + 7) S) (hcn : cn ≤ 4) (hod : od < 4) (hln : ln ≤ 100) (hkR : k ≤ 1000 + 30 * t + 22) (hnR : n ≤ 10000 + 200 * t + 132) (hk : ∀ (T : StT) (R : Nat → StT) (cn od ln : Nat) (by_ g : Nat → Int32) (X : RS) (k n : Nat), cn ≤ 4 → od < 4 → ln ≤ 100 → k ≤ 1000 + 30 * t + 23 → n ≤ 10000 + 200 * t + 138 → sw p l e room_1 s m #[.ref b] below meth c D A s.heap 8 k n Q (flatS [[(x0a, .inr (6, [.ref a0, .ref tr0, .ref s0, .ref r0, .ref w0]))], (wSt a0 a1 a2 a3 a4 a5 a6 a7 cI (S)), [(s0, .inr (3, [.int (nI (cn)), .int (nI (od)), .ref s1])), (s1, .inl (cQ, 4, .inr (.inr (.inr (.inr h)))))], (wSt ra0 ra1 ra2 ra3 ra4 ra5 ra6 ra7 cI ((R) 0)), (wSt rb0 rb1 rb2 rb3 rb4 rb5 rb6 rb7 cI ((R) 1)), (wSt rc0 rc1 rc2 rc3 rc4 rc5 rc6 rc7 cI ((R) 2)), (wSt rd0 rd1 rd2 rd3 rd4 rd5 rd6 rd7 cI ((R) 3)), (wSt tr0 tr1 tr2 tr3 tr4 tr5 tr6 tr7 cI (T)), (wRd r0 t0 t1 cI (ln) (by_) (X)), [(w0, .inl (cI, 40, .inl (g)))]]) 278 [(0, .ref b), (1, .ref x0a), (2, .int 1), (3, .int (nI t))] []) : sw p l e room_1 s m #[.ref b] below meth c D A s.heap 8 k n Q (flatS [[(x0a, .inr (6, [.ref a0, .ref tr0, .ref s0, .ref r0, .ref w0]))], (wSt a0 a1 a2 a3 a4 a5 a6 a7 cI (S)), [(s0, .inr (3, [.int (nI (cn)), .int (nI (od)), .ref s1])), (s1, .inl (cQ, 4, .inr (.inr (.inr (.inr h)))))], (wSt ra0 ra1 ra2 ra3 ra4 ra5 ra6 ra7 cI ((R) 0)), (wSt rb0 rb1 rb2 rb3 rb4 rb5 rb6 rb7 cI ((R) 1)), (wSt rc0 rc1 rc2 rc3 rc4 rc5 rc6 rc7 cI ((R) 2)), (wSt rd0 rd1 rd2 rd3 rd4 rd5 rd6 rd7 cI ((R) 3)), (wSt tr0 tr1 tr2 tr3 tr4 tr5 tr6 tr7 cI (T)), (wRd r0 t0 t1 cI (ln) (by_) (X)), [(w0, .inl (cI, 40, .inl (g)))]]) 123 [(0, .ref b), (1, .ref x0a), (2, .int 1), (3, .int (nI t)), (4, .int x4), (5, .int x5)] [] := by
  have hS := hJ.si
  have hn := hJ.o.n
  have hlc := hJ.si.2.1
  have hnum := hJ.o.num
  have hrow := hJ.o.row
  refine sw_iload_n 123 3 C dL_law_123 rfl rfl ?_
  refine sw_iconst 124 C dL_law_124 3 (by decide) ?_
  refine sw_irem 125 C dL_law_125 (by decide) ?_
  refine sw_top (pk_rem (a := t) (d := 3) (by omega) (by decide) (by decide)) ?_
  refine sw_iconst 126 C dL_law_126 1 (by decide) ?_
  refine sw_icmp_ne 127 149 C dL_law_127 (by decide) (fun c_127 => ?_) (fun c_127 => ?_)
  · exact sw_loc (lb3_law hfl C hz hC hX hbl hbA hLL hh0 hh1 hh2 hh3 ht hJ hcn hod hln (by omega) (by omega) hk) rfl
  · refine sw_aload_n 130 1 C dL_law_130 rfl rfl ?_
    refine sw_iconst 131 C dL_law_131 0 (by decide) ?_
    refine xl_callSI 132 [0, 1] 2 [_, _] C hz hC dL_law_132 (ct_L_value l hfl hS 0 rfl (by decide)) wK_L_value wM_L_95 wT_L_value wI_L hd_L_value rfl ⟨rfl, rfl⟩ ⟨by show _ ≤ 623349; omega, by show _ ≤ 7231578; omega⟩ rfl rfl rfl rfl rfl rfl ?_
    refine sg_segs [_, _, _, _, _, _, _, _, _, _] rfl ?_
    refine sw_top (show _ = nI (zn S) from rfl) ?_
    refine sw_if_eq 135 149 C dL_law_135 (by decide) (fun c_135 => ?_) (fun c_135 => ?_)
    · exact sw_loc (lb3_law hfl C hz hC hX hbl hbA hLL hh0 hh1 hh2 hh3 ht hJ hcn hod hln (by omega) (by omega) hk) rfl
    · have hn0 : 0 < zn S := by
        rcases Nat.eq_zero_or_pos (zn S) with q | q
        · exact absurd (show nI (zn S) = 0 by rw [q]; rfl) c_135
        · exact q
      refine sw_aload_n 138 1 C dL_law_138 rfl rfl ?_
      refine sw_iload 139 C dL_law_139 rfl ?_
      refine sw_iconst 141 C dL_law_141 3 (by decide) ?_
      refine sw_ishr 142 C dL_law_142 ?_
      refine xl_callH 143 [0, 1, 2, 3, 4, 5, 6, 7, 8, 9] 2 C hz hC dL_law_143 (ct_L_comesTrue l hfl hJ hh0 hh1 hh2 hh3 hcn hod hln hn0 (by omega)) wK_L_comesTrue wM_L_205 wT_L_comesTrue wI_L hd_L_comesTrue rfl ⟨rfl, rfl⟩ ⟨by show _ ≤ 623349; omega, by show _ ≤ 7231578; omega⟩ rfl rfl rfl rfl (fun v_143 w_143 h_143 => ?_)
      obtain ⟨rfl, z7, hz7, rfl⟩ := h_143
      refine ⟨[_, _, _, _, _, _, _, _, _, _], rfl, rfl, ?_⟩
      refine sw_st (_ :: _) rfl ?_
      refine sg_segs [_, _, _, _, _, _, _, _, _, _] rfl ?_
      refine sw_if_eq 146 177 C dL_law_146 (by decide) (fun c_146 => ?_) (fun c_146 => ?_)
      · exact by first | exact absurd c_146 (by decide) | exact absurd (by decide) c_146
      exact sw_loc (lb3_law hfl C hz hC hX hbl hbA hLL hh0 hh1 hh2 hh3 ht hJ hz7.1 hz7.2.1 hz7.2.2 (by omega) (by omega) hk) rfl
set_option maxHeartbeats 8000000 in
set_option maxRecDepth 100000 in
theorem lb1_law {l : Launch} (hfl : l.stackTraces = false) {p : Program} {e : Env} {s : State} {m : MethodId} {below : List Frame} {meth : Method} {c : Code} {A : Nat → Prop} {D : va_G} {cI cJ cQ : ClassId} {Q : State → Prop} {b LL : Nat} {xs : Nat → Int32} (C : CC p s m #[.ref b] c cL_law 8 RL (Cond.initialized RL :: lw_all) D (tyz cI cJ cQ) A s.heap) (hz : xZ A s) (hC : xC s) (hX : va_X b LL xs s s.heap) (hbl : b < s.heap.size) (hbA : ¬ A b) (hLL : LL ≤ 260) {x0a a0 a1 a2 a3 a4 a5 a6 a7 tr0 tr1 tr2 tr3 tr4 tr5 tr6 tr7 s0 s1 ra0 ra1 ra2 ra3 ra4 ra5 ra6 ra7 rb0 rb1 rb2 rb3 rb4 rb5 rb6 rb7 rc0 rc1 rc2 rc3 rc4 rc5 rc6 rc7 rd0 rd1 rd2 rd3 rd4 rd5 rd6 rd7 r0 t0 t1 w0 : Nat} {h : Nat → Option Nat} (hh0 : h 0 = some ra0) (hh1 : h 1 = some rb0) (hh2 : h 2 = some rc0) (hh3 : h 3 = some rd0) {S T : StT} {R : Nat → StT} {cn od ln : Nat} {by_ g : Nat → Int32} {X : RS} {t k n : Nat} (ht : t < 40) (hJ : JI t (7 * t) S) (hcn : cn ≤ 4) (hod : od < 4) (hln : ln ≤ 100) (hkR : k ≤ 1000 + 30 * t) (hnR : n ≤ 10000 + 200 * t) (hk : ∀ (S : StT) (T : StT) (R : Nat → StT) (cn od ln : Nat) (by_ g : Nat → Int32) (X : RS) (k n : Nat), JI (t + 1) (7 * t + 7) S → cn ≤ 4 → od < 4 → ln ≤ 100 → k ≤ 1000 + 30 * t + 23 → n ≤ 10000 + 200 * t + 138 → sw p l e room_1 s m #[.ref b] below meth c D A s.heap 8 k n Q (flatS [[(x0a, .inr (6, [.ref a0, .ref tr0, .ref s0, .ref r0, .ref w0]))], (wSt a0 a1 a2 a3 a4 a5 a6 a7 cI (S)), [(s0, .inr (3, [.int (nI (cn)), .int (nI (od)), .ref s1])), (s1, .inl (cQ, 4, .inr (.inr (.inr (.inr h)))))], (wSt ra0 ra1 ra2 ra3 ra4 ra5 ra6 ra7 cI ((R) 0)), (wSt rb0 rb1 rb2 rb3 rb4 rb5 rb6 rb7 cI ((R) 1)), (wSt rc0 rc1 rc2 rc3 rc4 rc5 rc6 rc7 cI ((R) 2)), (wSt rd0 rd1 rd2 rd3 rd4 rd5 rd6 rd7 cI ((R) 3)), (wSt tr0 tr1 tr2 tr3 tr4 tr5 tr6 tr7 cI (T)), (wRd r0 t0 t1 cI (ln) (by_) (X)), [(w0, .inl (cI, 40, .inl (g)))]]) 278 [(0, .ref b), (1, .ref x0a), (2, .int 1), (3, .int (nI t))] []) : sw p l e room_1 s m #[.ref b] below meth c D A s.heap 8 k n Q (flatS [[(x0a, .inr (6, [.ref a0, .ref tr0, .ref s0, .ref r0, .ref w0]))], (wSt a0 a1 a2 a3 a4 a5 a6 a7 cI (S)), [(s0, .inr (3, [.int (nI (cn)), .int (nI (od)), .ref s1])), (s1, .inl (cQ, 4, .inr (.inr (.inr (.inr h)))))], (wSt ra0 ra1 ra2 ra3 ra4 ra5 ra6 ra7 cI ((R) 0)), (wSt rb0 rb1 rb2 rb3 rb4 rb5 rb6 rb7 cI ((R) 1)), (wSt rc0 rc1 rc2 rc3 rc4 rc5 rc6 rc7 cI ((R) 2)), (wSt rd0 rd1 rd2 rd3 rd4 rd5 rd6 rd7 cI ((R) 3)), (wSt tr0 tr1 tr2 tr3 tr4 tr5 tr6 tr7 cI (T)), (wRd r0 t0 t1 cI (ln) (by_) (X)), [(w0, .inl (cI, 40, .inl (g)))]]) 49 [(0, .ref b), (1, .ref x0a), (2, .int 1), (3, .int (nI t))] [] := by
  have hS := hJ.si
  have hn := hJ.o.n
  have hlc := hJ.si.2.1
  have hnum := hJ.o.num
  have hrow := hJ.o.row
  refine sw_aload_n 49 0 C dL_law_49 rfl rfl ?_
  refine sw_iconst 50 C dL_law_50 2 (by decide) ?_
  refine sw_iload_n 51 3 C dL_law_51 rfl rfl ?_
  refine sw_imul 52 C dL_law_52 ?_
  refine sw_top (show (2 : Int32) * nI t = nI (2 * t) from pk_mul 2 t) ?_
  refine xl_cell 53 C hX hbl hbA hLL dL_law_53 wM_L_197 (nI_pos (by omega)) rfl rfl ⟨by show _ ≤ 623349; omega, by show _ ≤ 7231578; omega⟩ rfl (fun r_53 => ?_)
  refine sw_istore 56 C dL_law_56 rfl ?_
  refine sw_aload_n 58 0 C dL_law_58 rfl rfl ?_
  refine sw_iconst 59 C dL_law_59 2 (by decide) ?_
  refine sw_iload_n 60 3 C dL_law_60 rfl rfl ?_
  refine sw_imul 61 C dL_law_61 ?_
  refine sw_top (show (2 : Int32) * nI t = nI (2 * t) from pk_mul 2 t) ?_
  refine sw_iconst 62 C dL_law_62 1 (by decide) ?_
  refine sw_iadd 63 C dL_law_63 ?_
  refine sw_top (nI_1 (2 * t)) ?_
  refine xl_cell 64 C hX hbl hbA hLL dL_law_64 wM_L_197 (nI_pos (by omega)) rfl rfl ⟨by show _ ≤ 623349; omega, by show _ ≤ 7231578; omega⟩ rfl (fun r_64 => ?_)
  refine sw_istore 67 C dL_law_67 rfl ?_
  refine sw_loc (L1 := [(0, .ref _), (1, .ref _), (2, .int _), (3, .int _), (4, .int _), (5, .int _)]) ?_ rfl
  obtain ⟨kd, hkd, ek⟩ : ∃ kd : Nat, kd ≤ 10 ∧ kd = (if t < 5 then 0 else lowN (r_64 >>> ((2 : Int32) &&& 31)) 11) := ⟨_, by
    split
    · omega
    · have := lowN_lt (r_64 >>> ((2 : Int32) &&& 31)) (k := 11) (by decide)
      omega, rfl⟩
  refine sw_aload_n 69 1 C dL_law_69 rfl rfl ?_
  refine sw_iload_n 70 3 C dL_law_70 rfl rfl ?_
  refine sw_iconst 71 C dL_law_71 5 (by decide) ?_
  refine sw_jn2 88 (nI kd) (fun hj_72 => ?_) ?_
  · refine sw_icmp_ge 72 79 C dL_law_72 (by decide) (fun c_72 => ?_) (fun c_72 => ?_)
    · refine sw_iload 79 C dL_law_79 rfl ?_
      refine sw_iconst 81 C dL_law_81 2 (by decide) ?_
      refine sw_ishr 82 C dL_law_82 ?_
      refine sw_bipush 83 C dL_law_83 11 (by decide) ?_
      refine sg_callSIP 85 [] 2 C dL_law_85 (ct_L_low l 11 rfl (by decide) (by decide)) wK_L_low wM_L_174 wT_L_low wI_L hd_L_low rfl ⟨rfl, rfl⟩ ⟨by show _ ≤ 623349; omega, by show _ ≤ 7231578; omega⟩ rfl rfl rfl rfl ?_
      exact sw_top (by rw [ek, if_neg (fun q => nI_ge (b := 5) q (by decide) c_72)]) hj_72
    · refine sw_iconst 75 C dL_law_75 0 (by decide) ?_
      refine sw_goto 76 88 C dL_law_76 (by decide) ?_
      exact sw_top (by rw [ek, if_pos ((nI_ltI (b := 5) (by omega) (by decide)).mp (Int32.not_le.mp c_72))]; rfl) hj_72
  refine sw_iload 88 C dL_law_88 rfl ?_
  refine sw_iload 90 C dL_law_90 rfl ?_
  refine sw_bipush 92 C dL_law_92 6 (by decide) ?_
  refine sw_ishr 94 C dL_law_94 ?_
  refine xl_callH 95 [0, 1, 2, 3, 4, 5, 6, 7, 8, 9] 4 C hz hC dL_law_95 (ct_L_acts l hfl hJ (by omega) hh0 hh1 hh2 hh3 hcn hod hln (by omega) kd rfl hkd) wK_L_acts wM_L_201 wT_L_acts wI_L hd_L_acts rfl ⟨rfl, rfl⟩ ⟨by show _ ≤ 623349; omega, by show _ ≤ 7231578; omega⟩ rfl rfl rfl rfl (fun v_95 w_95 h_95 => ?_)
  obtain ⟨rfl, z9, hz9, rfl⟩ := h_95
  refine ⟨[_, _, _, _, _, _, _, _, _, _], rfl, rfl, ?_⟩
  refine sw_st (_ :: _) rfl ?_
  refine sg_segs [_, _, _, _, _, _, _, _, _, _] rfl ?_
  refine sw_if_eq 98 177 C dL_law_98 (by decide) (fun c_98 => ?_) (fun c_98 => ?_)
  · exact by first | exact absurd c_98 (by decide) | exact absurd (by decide) c_98
  refine sw_aload_n 101 1 C dL_law_101 rfl rfl ?_
  refine xl_callH 102 [0, 1, 2, 3, 4, 5, 6, 7, 8, 9] 1 C hz hC dL_law_102 (ct_L_fits l hfl hz9.1 (by omega)) wK_L_fits wM_L_194 wT_L_fits wI_L hd_L_fits rfl ⟨rfl, rfl⟩ ⟨by show _ ≤ 623349; omega, by show _ ≤ 7231578; omega⟩ rfl rfl rfl rfl (fun v_102 w_102 h_102 => ?_)
  obtain ⟨rfl, z8, hz8, rfl⟩ := h_102
  refine ⟨[_, _, _, _, _, _, _, _, _, _], rfl, rfl, ?_⟩
  refine sw_st (_ :: _) rfl ?_
  refine sg_segs [_, _, _, _, _, _, _, _, _, _] rfl ?_
  refine sw_if_eq 105 177 C dL_law_105 (by decide) (fun c_105 => ?_) (fun c_105 => ?_)
  · exact by first | exact absurd c_105 (by decide) | exact absurd (by decide) c_105
  refine sw_iload_n 108 3 C dL_law_108 rfl rfl ?_
  refine sw_bipush 109 C dL_law_109 7 (by decide) ?_
  refine sw_irem 111 C dL_law_111 (by decide) ?_
  refine sw_top (pk_rem (a := t) (d := 7) (by omega) (by decide) (by decide)) ?_
  refine sw_iconst 112 C dL_law_112 5 (by decide) ?_
  refine sw_icmp_ne 113 123 C dL_law_113 (by decide) (fun c_113 => ?_) (fun c_113 => ?_)
  · exact sw_loc (lb2_law hfl C hz hC hX hbl hbA hLL hh0 hh1 hh2 hh3 ht hz9.1 hz9.2.1 hz9.2.2.1 hz9.2.2.2 (by omega) (by omega) (fun T R cn od ln by_ g X k n => hk z9.1 T R cn od ln by_ g X k n hz9.1)) rfl
  · refine sw_aload_n 116 1 C dL_law_116 rfl rfl ?_
    refine xl_callH 117 [0, 1, 2, 3, 4, 5, 6, 7, 8, 9] 1 C hz hC dL_law_117 (ct_L_refused l hfl hz9.1) wK_L_refused wM_L_190 wT_L_refused wI_L hd_L_refused rfl ⟨rfl, rfl⟩ ⟨by show _ ≤ 623349; omega, by show _ ≤ 7231578; omega⟩ rfl rfl rfl rfl (fun v_117 w_117 h_117 => ?_)
    obtain ⟨rfl, z6, hz6, rfl⟩ := h_117
    refine ⟨[_, _, _, _, _, _, _, _, _, _], rfl, rfl, ?_⟩
    refine sw_st (_ :: _) rfl ?_
    refine sg_segs [_, _, _, _, _, _, _, _, _, _] rfl ?_
    refine sw_if_eq 120 177 C dL_law_120 (by decide) (fun c_120 => ?_) (fun c_120 => ?_)
    · exact by first | exact absurd c_120 (by decide) | exact absurd (by decide) c_120
    exact sw_loc (lb2_law hfl C hz hC hX hbl hbA hLL hh0 hh1 hh2 hh3 ht hz9.1 hz9.2.1 hz9.2.2.1 hz9.2.2.2 (by omega) (by omega) (fun T R cn od ln by_ g X k n => hk z9.1 T R cn od ln by_ g X k n hz9.1)) rfl
set_option maxHeartbeats 8000000 in
set_option maxRecDepth 100000 in
theorem lp_law {l : Launch} (hfl : l.stackTraces = false) {p : Program} {e : Env} {s : State} {m : MethodId} {below : List Frame} {meth : Method} {c : Code} {A : Nat → Prop} {D : va_G} {cI cJ cQ : ClassId} {Q : State → Prop} {b LL : Nat} {xs : Nat → Int32} (C : CC p s m #[.ref b] c cL_law 8 RL (Cond.initialized RL :: lw_all) D (tyz cI cJ cQ) A s.heap) (hz : xZ A s) (hC : xC s) (hX : va_X b LL xs s s.heap) (hbl : b < s.heap.size) (hbA : ¬ A b) (hLL : LL ≤ 260) {x0a a0 a1 a2 a3 a4 a5 a6 a7 tr0 tr1 tr2 tr3 tr4 tr5 tr6 tr7 s0 s1 ra0 ra1 ra2 ra3 ra4 ra5 ra6 ra7 rb0 rb1 rb2 rb3 rb4 rb5 rb6 rb7 rc0 rc1 rc2 rc3 rc4 rc5 rc6 rc7 rd0 rd1 rd2 rd3 rd4 rd5 rd6 rd7 r0 t0 t1 w0 : Nat} {h : Nat → Option Nat} (hh0 : h 0 = some ra0) (hh1 : h 1 = some rb0) (hh2 : h 2 = some rc0) (hh3 : h 3 = some rd0) (hEx : ∀ (k n : Nat) (ws : va_W) (L : List (Nat × Value)), k ≤ 623349 → n ≤ 7231578 → sw p l e room_1 s m #[.ref b] below meth c D A s.heap 8 k n Q ws 300 L [.int 1]) : ∀ (u t : Nat) (S : StT) (T : StT) (R : Nat → StT) (cn od ln : Nat) (by_ g : Nat → Int32) (X : RS) (k n : Nat), t + u = 40 → JI t (7 * t) S → cn ≤ 4 → od < 4 → ln ≤ 100 → k ≤ 1000 + 30 * t → n ≤ 10000 + 200 * t → sw p l e room_1 s m #[.ref b] below meth c D A s.heap 8 k n Q (flatS [[(x0a, .inr (6, [.ref a0, .ref tr0, .ref s0, .ref r0, .ref w0]))], (wSt a0 a1 a2 a3 a4 a5 a6 a7 cI (S)), [(s0, .inr (3, [.int (nI (cn)), .int (nI (od)), .ref s1])), (s1, .inl (cQ, 4, .inr (.inr (.inr (.inr h)))))], (wSt ra0 ra1 ra2 ra3 ra4 ra5 ra6 ra7 cI ((R) 0)), (wSt rb0 rb1 rb2 rb3 rb4 rb5 rb6 rb7 cI ((R) 1)), (wSt rc0 rc1 rc2 rc3 rc4 rc5 rc6 rc7 cI ((R) 2)), (wSt rd0 rd1 rd2 rd3 rd4 rd5 rd6 rd7 cI ((R) 3)), (wSt tr0 tr1 tr2 tr3 tr4 tr5 tr6 tr7 cI (T)), (wRd r0 t0 t1 cI (ln) (by_) (X)), [(w0, .inl (cI, 40, .inl (g)))]]) 39 [(0, .ref b), (1, .ref x0a), (2, .int 1), (3, .int (nI t))] [] := by
  intro u
  induction u with
  | zero =>
    intro t S T R cn od ln by_ g X k n hu hJ hcn hod hln hkR hnR
    obtain rfl : t = 40 := by omega
    have hS := hJ.si
    have hn := hJ.o.n
    have hlc := hJ.si.2.1
    have hnum := hJ.o.num
    have hrow := hJ.o.row
    refine sw_iload_n 39 3 C dL_law_39 rfl rfl ?_
    refine sw_bipush 40 C dL_law_40 40 (by decide) ?_
    refine sw_icmp_ge 42 284 C dL_law_42 (by decide) (fun c_42 => ?_) (fun c_42 => ?_)
    rotate_left
    · exact by first | exact absurd c_42 (Int32.le_refl _) | exact absurd (Int32.le_refl _) c_42
    refine sw_iload_n 284 2 C dL_law_284 rfl rfl ?_
    refine sw_if_eq 285 299 C dL_law_285 (by decide) (fun c_285 => ?_) (fun c_285 => ?_)
    · exact by first | exact absurd c_285 (by decide) | exact absurd (by decide) c_285
    refine sw_aload_n 288 1 C dL_law_288 rfl rfl ?_
    refine xl_callH 289 [0, 1, 2, 3, 4, 5, 6, 7, 8, 9] 1 C hz hC dL_law_289 (ct_L_refused l hfl hJ) wK_L_refused wM_L_190 wT_L_refused wI_L hd_L_refused rfl ⟨rfl, rfl⟩ ⟨by show _ ≤ 623349; omega, by show _ ≤ 7231578; omega⟩ rfl rfl rfl rfl (fun v_289 w_289 h_289 => ?_)
    obtain ⟨rfl, z6, hz6, rfl⟩ := h_289
    refine ⟨[_, _, _, _, _, _, _, _, _, _], rfl, rfl, ?_⟩
    refine sw_st (_ :: _) rfl ?_
    refine sg_segs [_, _, _, _, _, _, _, _, _, _] rfl ?_
    refine sw_if_eq 292 299 C dL_law_292 (by decide) (fun c_292 => ?_) (fun c_292 => ?_)
    · exact by first | exact absurd c_292 (by decide) | exact absurd (by decide) c_292
    refine sw_iconst 295 C dL_law_295 1 (by decide) ?_
    refine sw_goto 296 300 C dL_law_296 (by decide) ?_
    exact hEx _ _ _ _ (by omega) (by omega)
  | succ u ih =>
    intro t S T R cn od ln by_ g X k n hu hJ hcn hod hln hkR hnR
    have ht : t < 40 := by omega
    have hk : ∀ (S : StT) (T : StT) (R : Nat → StT) (cn od ln : Nat) (by_ g : Nat → Int32) (X : RS) (k n : Nat), JI (t + 1) (7 * t + 7) S → cn ≤ 4 → od < 4 → ln ≤ 100 → k ≤ 1000 + 30 * t + 23 → n ≤ 10000 + 200 * t + 138 → sw p l e room_1 s m #[.ref b] below meth c D A s.heap 8 k n Q (flatS [[(x0a, .inr (6, [.ref a0, .ref tr0, .ref s0, .ref r0, .ref w0]))], (wSt a0 a1 a2 a3 a4 a5 a6 a7 cI (S)), [(s0, .inr (3, [.int (nI (cn)), .int (nI (od)), .ref s1])), (s1, .inl (cQ, 4, .inr (.inr (.inr (.inr h)))))], (wSt ra0 ra1 ra2 ra3 ra4 ra5 ra6 ra7 cI ((R) 0)), (wSt rb0 rb1 rb2 rb3 rb4 rb5 rb6 rb7 cI ((R) 1)), (wSt rc0 rc1 rc2 rc3 rc4 rc5 rc6 rc7 cI ((R) 2)), (wSt rd0 rd1 rd2 rd3 rd4 rd5 rd6 rd7 cI ((R) 3)), (wSt tr0 tr1 tr2 tr3 tr4 tr5 tr6 tr7 cI (T)), (wRd r0 t0 t1 cI (ln) (by_) (X)), [(w0, .inl (cI, 40, .inl (g)))]]) 278 [(0, .ref b), (1, .ref x0a), (2, .int 1), (3, .int (nI t))] [] := by
      intro S T R cn od ln by_ g X k n hJ hcn hod hln hkR hnR
      refine sw_iinc 278 C 1 dL_law_278 (by decide) rfl rfl ?_
      refine sw_goto 281 39 C dL_law_281 (by decide) ?_
      exact sw_loc (ih (t + 1) S T R cn od ln by_ g X k n (by omega) (hJ.mono (Nat.le_refl _) (by omega)) hcn hod hln (by omega) (by omega)) (by rw [← nI_1]; rfl)
    refine sw_iload_n 39 3 C dL_law_39 rfl rfl ?_
    refine sw_bipush 40 C dL_law_40 40 (by decide) ?_
    refine sw_icmp_ge 42 284 C dL_law_42 (by decide) (fun c_42 => ?_) (fun c_42 => ?_)
    · exact by first | exact absurd c_42 (nI_ge (b := 40) ht (by decide)) | exact absurd (nI_ge (b := 40) ht (by decide)) c_42
    refine sw_iload_n 45 2 C dL_law_45 rfl rfl ?_
    refine sw_if_eq 46 284 C dL_law_46 (by decide) (fun c_46 => ?_) (fun c_46 => ?_)
    · exact by first | exact absurd c_46 (by decide) | exact absurd (by decide) c_46
    exact lb1_law hfl C hz hC hX hbl hbA hLL hh0 hh1 hh2 hh3 ht hJ hcn hod hln (by omega) (by omega) hk
set_option maxHeartbeats 8000000 in
set_option maxRecDepth 100000 in
theorem lq_law {l : Launch} (hfl : l.stackTraces = false) {p : Program} {e : Env} {s : State} {m : MethodId} {below : List Frame} {meth : Method} {c : Code} {A : Nat → Prop} {D : va_G} {cI cJ cQ : ClassId} {Q : State → Prop} {b LL : Nat} {xs : Nat → Int32} (C : CC p s m #[.ref b] c cL_law 8 RL (Cond.initialized RL :: lw_all) D (tyz cI cJ cQ) A s.heap) (hz : xZ A s) (hC : xC s) (hX : va_X b LL xs s s.heap) (hbl : b < s.heap.size) (hbA : ¬ A b) (hLL : LL ≤ 260) {x0a a0 a1 a2 a3 a4 a5 a6 a7 tr0 tr1 tr2 tr3 tr4 tr5 tr6 tr7 s0 s1 ra0 ra1 ra2 ra3 ra4 ra5 ra6 ra7 rb0 rb1 rb2 rb3 rb4 rb5 rb6 rb7 rc0 rc1 rc2 rc3 rc4 rc5 rc6 rc7 rd0 rd1 rd2 rd3 rd4 rd5 rd6 rd7 r0 t0 t1 w0 : Nat} {h : Nat → Option Nat} (hh0 : h 0 = some ra0) (hh1 : h 1 = some rb0) (hh2 : h 2 = some rc0) (hh3 : h 3 = some rd0) {T : StT} {R : Nat → StT} {od : Nat} {by_ g : Nat → Int32} {X : RS} {k n : Nat} (hod : od < 4) (hkR : k ≤ 900) (hnR : n ≤ 9000) (hEx : ∀ (k n : Nat) (ws : va_W) (L : List (Nat × Value)), k ≤ 623349 → n ≤ 7231578 → sw p l e room_1 s m #[.ref b] below meth c D A s.heap 8 k n Q ws 300 L [.int 1]) : sw p l e room_1 s m #[.ref b] below meth c D A s.heap 8 k n Q (flatS [[(x0a, .inr (6, [.ref a0, .ref tr0, .ref s0, .ref r0, .ref w0]))], (wSt a0 a1 a2 a3 a4 a5 a6 a7 cI (S00)), [(s0, .inr (3, [.int (nI (0)), .int (nI (od)), .ref s1])), (s1, .inl (cQ, 4, .inr (.inr (.inr (.inr h)))))], (wSt ra0 ra1 ra2 ra3 ra4 ra5 ra6 ra7 cI ((R) 0)), (wSt rb0 rb1 rb2 rb3 rb4 rb5 rb6 rb7 cI ((R) 1)), (wSt rc0 rc1 rc2 rc3 rc4 rc5 rc6 rc7 cI ((R) 2)), (wSt rd0 rd1 rd2 rd3 rd4 rd5 rd6 rd7 cI ((R) 3)), (wSt tr0 tr1 tr2 tr3 tr4 tr5 tr6 tr7 cI (T)), (wRd r0 t0 t1 cI (0) (by_) (X)), [(w0, .inl (cI, 40, .inl (g)))]]) 8 [(0, .ref b), (1, .ref x0a)] [] := by
  refine sw_aload_n 8 1 C dL_law_8 rfl rfl ?_
  refine xl_callSI 9 [0, 1, 2] 1 [_, _, _] C hz hC dL_law_9 (ct_L_back_2 l hfl rfl) wK_L_back wM_L_177 wT_L_back wI_L hd_L_back rfl ⟨rfl, rfl⟩ ⟨by show _ ≤ 623349; omega, by show _ ≤ 7231578; omega⟩ rfl rfl rfl rfl rfl rfl ?_
  refine sg_segs [_, _, _, _, _, _, _, _, _, _] rfl ?_
  refine sw_ldc 12 C dL_law_12 (C.w wQ_L_34) ?_
  refine sw_icmp_ne 14 35 C dL_law_14 (by decide) (fun c_14 => ?_) (fun c_14 => ?_)
  · exact by first | exact absurd c_14 (rfl) | exact absurd (rfl) c_14
  refine sw_aload_n 17 1 C dL_law_17 rfl rfl ?_
  refine xl_callH 18 [0, 1, 2, 3, 4, 5, 6, 7, 8, 9] 1 C hz hC dL_law_18 (ct_L_refused l hfl JI_0) wK_L_refused wM_L_190 wT_L_refused wI_L hd_L_refused rfl ⟨rfl, rfl⟩ ⟨by show _ ≤ 623349; omega, by show _ ≤ 7231578; omega⟩ rfl rfl rfl rfl (fun v_18 w_18 h_18 => ?_)
  obtain ⟨rfl, z9, hz9, rfl⟩ := h_18
  refine ⟨[_, _, _, _, _, _, _, _, _, _], rfl, rfl, ?_⟩
  refine sw_st (_ :: _) rfl ?_
  refine sg_segs [_, _, _, _, _, _, _, _, _, _] rfl ?_
  refine sw_if_eq 21 35 C dL_law_21 (by decide) (fun c_21 => ?_) (fun c_21 => ?_)
  · exact by first | exact absurd c_21 (by decide) | exact absurd (by decide) c_21
  refine sw_aload_n 24 1 C dL_law_24 rfl rfl ?_
  refine xl_callH 25 [0, 1, 2, 3, 4, 5, 6, 7, 8, 9] 1 C hz hC dL_law_25 (ct_L_fits l hfl JI_0 (by decide)) wK_L_fits wM_L_194 wT_L_fits wI_L hd_L_fits rfl ⟨rfl, rfl⟩ ⟨by show _ ≤ 623349; omega, by show _ ≤ 7231578; omega⟩ rfl rfl rfl rfl (fun v_25 w_25 h_25 => ?_)
  obtain ⟨rfl, z8, hz8, rfl⟩ := h_25
  refine ⟨[_, _, _, _, _, _, _, _, _, _], rfl, rfl, ?_⟩
  refine sw_st (_ :: _) rfl ?_
  refine sg_segs [_, _, _, _, _, _, _, _, _, _] rfl ?_
  refine sw_if_eq 28 35 C dL_law_28 (by decide) (fun c_28 => ?_) (fun c_28 => ?_)
  · exact by first | exact absurd c_28 (by decide) | exact absurd (by decide) c_28
  refine sw_iconst 31 C dL_law_31 1 (by decide) ?_
  refine sw_goto 32 36 C dL_law_32 (by decide) ?_
  refine sw_istore_n 36 2 C dL_law_36 rfl rfl ?_
  refine sw_iconst 37 C dL_law_37 0 (by decide) ?_
  refine sw_istore_n 38 3 C dL_law_38 rfl rfl ?_
  exact sw_loc (lp_law hfl C hz hC hX hbl hbA hLL hh0 hh1 hh2 hh3 hEx 40 0 S00 _ _ _ _ _ _ _ _ _ _ rfl JI_0 (Nat.zero_le _) hod (Nat.zero_le _) (by omega) (by omega)) rfl
