set_option maxHeartbeats 8000000 in
set_option maxRecDepth 100000 in
theorem lo_setPatience {l : Launch} (hfl : l.stackTraces = false) {p : Program} {e : Env} {s : State} {m : MethodId} {below : List Frame} {meth : Method} {c : Code} {A : Nat → Prop} {D : va_G} {cI cJ cQ : ClassId} {Q : State → Prop} {b LL : Nat} {xs : Nat → Int32} (C : CC p s m #[.ref b] c cL_law 9 RL (Cond.initialized RL :: lw_all) D (tyz cI cJ cQ) A s.heap) (hz : xZ A s) (hC : xC s) (hX : va_X b LL xs s s.heap) (hbl : b < s.heap.size) (hbA : ¬ A b) (hLL : LL ≤ 2560) {x0a a0 a1 a2 a3 a4 a5 a6 a7 tr0 tr1 tr2 tr3 tr4 tr5 tr6 tr7 s0 s1 ra0 ra1 ra2 ra3 ra4 ra5 ra6 ra7 rb0 rb1 rb2 rb3 rb4 rb5 rb6 rb7 rc0 rc1 rc2 rc3 rc4 rc5 rc6 rc7 rd0 rd1 rd2 rd3 rd4 rd5 rd6 rd7 r0 t0 t1 w0 b0 b1 b2 b3 b4 b5 ao : Nat} {h : Nat → Option Nat} (hh0 : h 0 = some ra0) (hh1 : h 1 = some rb0) (hh2 : h 2 = some rc0) (hh3 : h 3 = some rd0) {S T : StT} {R : Nat → StT} {cn od ln : Nat} {by_ g sa pa ad tx nb : Nat → Int32} {X : RS} {th ap : Int32} {hh : Int64} {fo : Nat → Int64} {B j k n : Nat} (hB : B < 100000) (hj : 5 * j + 5 ≤ LL) (hkR : k + 1 ≤ 601024) (hnR : n + 6 ≤ 7293034) (hLI : LI B S R cn od ln by_ sa pa tx) (hk : ∀ (S T : StT) (R : Nat → StT) (cn od ln : Nat) (by_ g sa pa ad tx nb : Nat → Int32) (X : RS) (th ap : Int32) (hh : Int64) (fo : Nat → Int64), LI (B + 100) S R cn od ln by_ sa pa tx → sw p l e room_1 s m #[.ref b] below meth c D A s.heap 9 (k + 1) (n + 6) Q (flatS [[(x0a, .inr (6, [.ref a0, .ref tr0, .ref s0, .ref r0, .ref w0]))], (wSt a0 a1 a2 a3 a4 a5 a6 a7 cI (S)), [(s0, .inr (3, [.int (nI (cn)), .int (nI (od)), .ref s1])), (s1, .inl (cQ, 4, .inr (.inr (.inr (.inr h)))))], (wSt ra0 ra1 ra2 ra3 ra4 ra5 ra6 ra7 cI ((R) 0)), (wSt rb0 rb1 rb2 rb3 rb4 rb5 rb6 rb7 cI ((R) 1)), (wSt rc0 rc1 rc2 rc3 rc4 rc5 rc6 rc7 cI ((R) 2)), (wSt rd0 rd1 rd2 rd3 rd4 rd5 rd6 rd7 cI ((R) 3)), (wSt tr0 tr1 tr2 tr3 tr4 tr5 tr6 tr7 cI (T)), (wRd r0 t0 t1 cI (ln) (by_) (X)), [(w0, .inl (cI, 40, .inl (g)))], [(b0, .inr (7, [.ref b1, .ref b2, .ref b3, .int (nI (cn)), .int (th), .ref b4, .int (nI (ln)), .int (ap), .ref b5, .long (hh)])), (b1, .inl (cI, 424, .inl (sa))), (b2, .inl (cI, 1696, .inl (pa))), (b3, .inl (cI, 424, .inl (ad))), (b4, .inl (cI, 100, .inl (tx))), (b5, .inl (cI, 4, .inl (nb)))], [(ao, .inl (cJ, 1, .inr (.inl (fo))))]]) 1546 [(0, .ref b), (1, .ref x0a), (2, .ref b0), (3, .ref ao), (4, .int (nI (5 * j)))] []) : sw p l e room_1 s m #[.ref b] below meth c D A s.heap 9 k n Q (flatS [[(x0a, .inr (6, [.ref a0, .ref tr0, .ref s0, .ref r0, .ref w0]))], (wSt a0 a1 a2 a3 a4 a5 a6 a7 cI (S)), [(s0, .inr (3, [.int (nI (cn)), .int (nI (od)), .ref s1])), (s1, .inl (cQ, 4, .inr (.inr (.inr (.inr h)))))], (wSt ra0 ra1 ra2 ra3 ra4 ra5 ra6 ra7 cI ((R) 0)), (wSt rb0 rb1 rb2 rb3 rb4 rb5 rb6 rb7 cI ((R) 1)), (wSt rc0 rc1 rc2 rc3 rc4 rc5 rc6 rc7 cI ((R) 2)), (wSt rd0 rd1 rd2 rd3 rd4 rd5 rd6 rd7 cI ((R) 3)), (wSt tr0 tr1 tr2 tr3 tr4 tr5 tr6 tr7 cI (T)), (wRd r0 t0 t1 cI (ln) (by_) (X)), [(w0, .inl (cI, 40, .inl (g)))], [(b0, .inr (7, [.ref b1, .ref b2, .ref b3, .int (nI (cn)), .int (th), .ref b4, .int (nI (ln)), .int (ap), .ref b5, .long (hh)])), (b1, .inl (cI, 424, .inl (sa))), (b2, .inl (cI, 1696, .inl (pa))), (b3, .inl (cI, 424, .inl (ad))), (b4, .inl (cI, 100, .inl (tx))), (b5, .inl (cI, 4, .inl (nb)))], [(ao, .inl (cJ, 1, .inr (.inl (fo))))]]) 156 [(0, .ref b), (1, .ref x0a), (2, .ref b0), (3, .ref ao), (4, .int (nI (5 * j)))] [] := by
  obtain ⟨hO, hE, hK, hcn, hod, hln, hT⟩ := hLI
  have hS := hO.si
  have hB2 : B < 2 ^ 29 := by omega
  obtain ⟨x1, hx1⟩ : ∃ x, x = xs (5 * j + 1) := ⟨_, rfl⟩
  obtain ⟨x2, hx2⟩ : ∃ x, x = xs (5 * j + 2) := ⟨_, rfl⟩
  rcases bool3 (inR x1 0 3) (inR x2 1 50) with hc | hc | hc
  · refine sw_aload_n 156 1 C dL_law_156 rfl rfl ?_
    refine sw_aload_n 157 0 C dL_law_157 rfl rfl ?_
    refine sw_iload 158 C dL_law_158 rfl ?_
    refine sw_iconst 160 C dL_law_160 1 (by decide) ?_
    refine sw_iadd 161 C dL_law_161 ?_
    refine sw_sld 162 (5 * j + 1) C hX hbl hbA dL_law_162 (nI_add (5 * j) 1) (by omega) (by omega) ?_
    refine sw_top hx1.symm ?_
    refine sw_aload_n 163 0 C dL_law_163 rfl rfl ?_
    refine sw_iload 164 C dL_law_164 rfl ?_
    refine sw_iconst 166 C dL_law_166 2 (by decide) ?_
    refine sw_iadd 167 C dL_law_167 ?_
    refine sw_sld 168 (5 * j + 2) C hX hbl hbA dL_law_168 (nI_add (5 * j) 2) (by omega) (by omega) ?_
    refine sw_top hx2.symm ?_
    refine sw_aload_n 169 3 C dL_law_169 rfl rfl ?_
    refine xl_callSI 170 [0, 1, 11] 4 [_, _, _] C hz hC dL_law_170 (ct_L_setPatience_2 l hfl hc) wK_L_setPatience wM_L_89 wT_L_setPatience wI_L hd_L_setPatience rfl ⟨rfl, rfl⟩ ⟨by show _ ≤ 601024; omega, by show _ ≤ 7293034; omega⟩ rfl rfl rfl rfl rfl rfl ?_
    refine sg_segs [_, _, _, _, _, _, _, _, _, _, _, _] rfl ?_
    refine sw_istore 173 C dL_law_173 rfl ?_
    refine sw_aload_n 175 2 C dL_law_175 rfl rfl ?_
    refine sw_aload_n 176 0 C dL_law_176 rfl rfl ?_
    refine sw_iload 177 C dL_law_177 rfl ?_
    refine sw_iconst 179 C dL_law_179 1 (by decide) ?_
    refine sw_iadd 180 C dL_law_180 ?_
    refine sw_sld 181 (5 * j + 1) C hX hbl hbA dL_law_181 (nI_add (5 * j) 1) (by omega) (by omega) ?_
    refine sw_top hx1.symm ?_
    refine sw_aload_n 182 0 C dL_law_182 rfl rfl ?_
    refine sw_iload 183 C dL_law_183 rfl ?_
    refine sw_iconst 185 C dL_law_185 2 (by decide) ?_
    refine sw_iadd 186 C dL_law_186 ?_
    refine sw_sld 187 (5 * j + 2) C hX hbl hbA dL_law_187 (nI_add (5 * j) 2) (by omega) (by omega) ?_
    refine sw_top hx2.symm ?_
    refine sg_callVI 188 [10] 2 0 [_] C dL_law_188 (ct_X7_setPatience_2 l hc) wK_X7_setPatience wM_L_94 wN_X7_setPatience wS_X7_X7_setPatience wI_X7 hd_X7_setPatience rfl rfl rfl ⟨rfl, rfl⟩ ⟨by show _ ≤ 601024; omega, by show _ ≤ 7293034; omega⟩ rfl rfl rfl rfl rfl rfl ?_
    refine sg_segs [_, _, _, _, _, _, _, _, _, _, _, _] rfl ?_
    refine sw_istore 191 C dL_law_191 rfl ?_
    refine sw_loc (L1 := [(0, .ref _), (1, .ref _), (2, .ref _), (3, .ref _), (4, .int _), (5, .int _), (6, .int _)]) ?_ rfl
    refine sw_aload_n 193 2 C dL_law_193 rfl rfl ?_
    refine sg_callVIP 194 [10] 0 0 C dL_law_194 (ct_X7_thrown l) wK_X7_thrown wM_L_95 wN_X7_thrown wS_X7_X7_thrown wI_X7 hd_X7_thrown rfl rfl rfl ⟨rfl, rfl⟩ ⟨by show _ ≤ 601024; omega, by show _ ≤ 7293034; omega⟩ rfl rfl rfl rfl ?_
    refine sw_iload 197 C dL_law_197 rfl ?_
    refine sw_icmp_eq 199 204 C dL_law_199 (by decide) (fun c_199 => ?_) (fun c_199 => ?_)
    rotate_left
    · exact by first | exact absurd c_199 (rfl) | exact absurd (rfl) c_199
    refine sw_iload 204 C dL_law_204 rfl ?_
    refine sw_if_ne 206 221 C dL_law_206 (by decide) (fun c_206 => ?_) (fun c_206 => ?_)
    rotate_left
    · exact by first | exact absurd c_206 (by decide) | exact absurd (by decide) c_206
    refine sw_goto 221 1546 C dL_law_221 (by decide) ?_
    exact sw_loc (sw_widen (by omega) (by omega) (hk (S) (T) (R) (cn) (od) (ln) (by_) (g) (sa) (pa) (ad) (tx) (nb) (X) (1) (ap) (hh) (fo) (LI.up ⟨hO, hE, hK, hcn, hod, hln, hT⟩))) rfl
  · obtain ⟨r, hr0, h1⟩ := inR_ex (b := 3) (by decide) hc.1
    have hr : r < 4 := by omega
    refine sw_aload_n 156 1 C dL_law_156 rfl rfl ?_
    refine sw_aload_n 157 0 C dL_law_157 rfl rfl ?_
    refine sw_iload 158 C dL_law_158 rfl ?_
    refine sw_iconst 160 C dL_law_160 1 (by decide) ?_
    refine sw_iadd 161 C dL_law_161 ?_
    refine sw_sld 162 (5 * j + 1) C hX hbl hbA dL_law_162 (nI_add (5 * j) 1) (by omega) (by omega) ?_
    refine sw_top hx1.symm ?_
    refine sw_aload_n 163 0 C dL_law_163 rfl rfl ?_
    refine sw_iload 164 C dL_law_164 rfl ?_
    refine sw_iconst 166 C dL_law_166 2 (by decide) ?_
    refine sw_iadd 167 C dL_law_167 ?_
    refine sw_sld 168 (5 * j + 2) C hX hbl hbA dL_law_168 (nI_add (5 * j) 2) (by omega) (by omega) ?_
    refine sw_top hx2.symm ?_
    refine sw_aload_n 169 3 C dL_law_169 rfl rfl ?_
    refine xl_callSI 170 [0, 1, 11] 4 [_, _, _] C hz hC dL_law_170 (ct_L_setPatience_3 l hfl r h1 hr hc.2) wK_L_setPatience wM_L_89 wT_L_setPatience wI_L hd_L_setPatience rfl ⟨rfl, rfl⟩ ⟨by show _ ≤ 601024; omega, by show _ ≤ 7293034; omega⟩ rfl rfl rfl rfl rfl rfl ?_
    refine sg_segs [_, _, _, _, _, _, _, _, _, _, _, _] rfl ?_
    refine sw_istore 173 C dL_law_173 rfl ?_
    refine sw_aload_n 175 2 C dL_law_175 rfl rfl ?_
    refine sw_aload_n 176 0 C dL_law_176 rfl rfl ?_
    refine sw_iload 177 C dL_law_177 rfl ?_
    refine sw_iconst 179 C dL_law_179 1 (by decide) ?_
    refine sw_iadd 180 C dL_law_180 ?_
    refine sw_sld 181 (5 * j + 1) C hX hbl hbA dL_law_181 (nI_add (5 * j) 1) (by omega) (by omega) ?_
    refine sw_top hx1.symm ?_
    refine sw_aload_n 182 0 C dL_law_182 rfl rfl ?_
    refine sw_iload 183 C dL_law_183 rfl ?_
    refine sw_iconst 185 C dL_law_185 2 (by decide) ?_
    refine sw_iadd 186 C dL_law_186 ?_
    refine sw_sld 187 (5 * j + 2) C hX hbl hbA dL_law_187 (nI_add (5 * j) 2) (by omega) (by omega) ?_
    refine sw_top hx2.symm ?_
    refine sg_callVI 188 [10] 2 0 [_] C dL_law_188 (ct_X7_setPatience_3 l hc.1 hc.2) wK_X7_setPatience wM_L_94 wN_X7_setPatience wS_X7_X7_setPatience wI_X7 hd_X7_setPatience rfl rfl rfl ⟨rfl, rfl⟩ ⟨by show _ ≤ 601024; omega, by show _ ≤ 7293034; omega⟩ rfl rfl rfl rfl rfl rfl ?_
    refine sg_segs [_, _, _, _, _, _, _, _, _, _, _, _] rfl ?_
    refine sw_istore 191 C dL_law_191 rfl ?_
    refine sw_loc (L1 := [(0, .ref _), (1, .ref _), (2, .ref _), (3, .ref _), (4, .int _), (5, .int _), (6, .int _)]) ?_ rfl
    refine sw_aload_n 193 2 C dL_law_193 rfl rfl ?_
    refine sg_callVIP 194 [10] 0 0 C dL_law_194 (ct_X7_thrown l) wK_X7_thrown wM_L_95 wN_X7_thrown wS_X7_X7_thrown wI_X7 hd_X7_thrown rfl rfl rfl ⟨rfl, rfl⟩ ⟨by show _ ≤ 601024; omega, by show _ ≤ 7293034; omega⟩ rfl rfl rfl rfl ?_
    refine sw_iload 197 C dL_law_197 rfl ?_
    refine sw_icmp_eq 199 204 C dL_law_199 (by decide) (fun c_199 => ?_) (fun c_199 => ?_)
    rotate_left
    · exact by first | exact absurd c_199 (rfl) | exact absurd (rfl) c_199
    refine sw_iload 204 C dL_law_204 rfl ?_
    refine sw_if_ne 206 221 C dL_law_206 (by decide) (fun c_206 => ?_) (fun c_206 => ?_)
    rotate_left
    · exact by first | exact absurd c_206 (by decide) | exact absurd (by decide) c_206
    refine sw_goto 221 1546 C dL_law_221 (by decide) ?_
    exact sw_loc (sw_widen (by omega) (by omega) (hk (S) (T) (R) (cn) (od) (ln) (by_) (g) (sa) (pa) (ad) (tx) (nb) (X) (2) (ap) (hh) (fo) (LI.up ⟨hO, hE, hK, hcn, hod, hln, hT⟩))) rfl
  · obtain ⟨r, hr0, h1⟩ := inR_ex (b := 3) (by decide) hc.1
    have hr : r < 4 := by omega
    refine sw_aload_n 156 1 C dL_law_156 rfl rfl ?_
    refine sw_aload_n 157 0 C dL_law_157 rfl rfl ?_
    refine sw_iload 158 C dL_law_158 rfl ?_
    refine sw_iconst 160 C dL_law_160 1 (by decide) ?_
    refine sw_iadd 161 C dL_law_161 ?_
    refine sw_sld 162 (5 * j + 1) C hX hbl hbA dL_law_162 (nI_add (5 * j) 1) (by omega) (by omega) ?_
    refine sw_top hx1.symm ?_
    refine sw_aload_n 163 0 C dL_law_163 rfl rfl ?_
    refine sw_iload 164 C dL_law_164 rfl ?_
    refine sw_iconst 166 C dL_law_166 2 (by decide) ?_
    refine sw_iadd 167 C dL_law_167 ?_
    refine sw_sld 168 (5 * j + 2) C hX hbl hbA dL_law_168 (nI_add (5 * j) 2) (by omega) (by omega) ?_
    refine sw_top hx2.symm ?_
    refine sw_aload_n 169 3 C dL_law_169 rfl rfl ?_
    refine xl_callSI 170 [0, 1, 2, 3, 4, 5, 6, 11] 4 [_, _, _, _, _, _, _, _] C hz hC dL_law_170 (ct_L_setPatience l hfl hS hcn hod hh0 hh1 hh2 hh3 r h1 hr hc.2) wK_L_setPatience wM_L_89 wT_L_setPatience wI_L hd_L_setPatience rfl ⟨rfl, rfl⟩ ⟨by show _ ≤ 601024; omega, by show _ ≤ 7293034; omega⟩ rfl rfl rfl rfl rfl rfl ?_
    refine sg_segs [_, _, _, _, _, _, _, _, _, _, _, _] rfl ?_
    refine sw_istore 173 C dL_law_173 rfl ?_
    refine sw_aload_n 175 2 C dL_law_175 rfl rfl ?_
    refine sw_aload_n 176 0 C dL_law_176 rfl rfl ?_
    refine sw_iload 177 C dL_law_177 rfl ?_
    refine sw_iconst 179 C dL_law_179 1 (by decide) ?_
    refine sw_iadd 180 C dL_law_180 ?_
    refine sw_sld 181 (5 * j + 1) C hX hbl hbA dL_law_181 (nI_add (5 * j) 1) (by omega) (by omega) ?_
    refine sw_top hx1.symm ?_
    refine sw_aload_n 182 0 C dL_law_182 rfl rfl ?_
    refine sw_iload 183 C dL_law_183 rfl ?_
    refine sw_iconst 185 C dL_law_185 2 (by decide) ?_
    refine sw_iadd 186 C dL_law_186 ?_
    refine sw_sld 187 (5 * j + 2) C hX hbl hbA dL_law_187 (nI_add (5 * j) 2) (by omega) (by omega) ?_
    refine sw_top hx2.symm ?_
    refine xg_callG 188 [10] 2 0 C dL_law_188 (ct_X7_setPatience l hE hO hK hcn hod r h1 hr hc.2) wK_X7_setPatience wM_L_94 wN_X7_setPatience wS_X7_X7_setPatience wI_X7 hd_X7_setPatience rfl rfl rfl ⟨rfl, rfl⟩ ⟨by show _ ≤ 601024; omega, by show _ ≤ 7293034; omega⟩ rfl rfl rfl rfl (fun v_188 w_188 h_188 => ?_)
    obtain ⟨rfl, f1, h1, rfl⟩ := h_188
    refine ⟨[_], rfl, rfl, ?_⟩
    refine sw_st (_ :: _) rfl ?_
    refine sg_segs [_, _, _, _, _, _, _, _, _, _, _, _] rfl ?_
    refine sw_istore 191 C dL_law_191 rfl ?_
    refine sw_loc (L1 := [(0, .ref _), (1, .ref _), (2, .ref _), (3, .ref _), (4, .int _), (5, .int _), (6, .int _)]) ?_ rfl
    refine sw_aload_n 193 2 C dL_law_193 rfl rfl ?_
    refine sg_callVIP 194 [10] 0 0 C dL_law_194 (ct_X7_thrown l) wK_X7_thrown wM_L_95 wN_X7_thrown wS_X7_X7_thrown wI_X7 hd_X7_thrown rfl rfl rfl ⟨rfl, rfl⟩ ⟨by show _ ≤ 601024; omega, by show _ ≤ 7293034; omega⟩ rfl rfl rfl rfl ?_
    refine sw_iload 197 C dL_law_197 rfl ?_
    refine sw_icmp_eq 199 204 C dL_law_199 (by decide) (fun c_199 => ?_) (fun c_199 => ?_)
    rotate_left
    · exact by first | exact absurd c_199 (rfl) | exact absurd (rfl) c_199
    refine sw_iload 204 C dL_law_204 rfl ?_
    refine sw_if_ne 206 221 C dL_law_206 (by decide) (fun c_206 => ?_) (fun c_206 => ?_)
    · exact by first | exact absurd c_206 (fun q => q rfl) | exact absurd (fun q => q rfl) c_206
    refine sw_aload_n 209 3 C dL_law_209 rfl rfl ?_
    refine sw_iconst 210 C dL_law_210 0 (by decide) ?_
    refine sg_laldN 211 11 0 1 (0) C dL_law_211 rfl (by decide) rfl rfl rfl rfl ?_
    refine sw_topL (show vp_updL fo 0 _ 0 = _ from pk_uLs) ?_
    refine sw_iload 212 C dL_law_212 rfl ?_
    refine sw_i2l 214 C dL_law_214 ?_
    refine sw_lcmp 215 C dL_law_215 ?_
    refine sw_if_eq 216 221 C dL_law_216 (by decide) (fun c_216 => ?_) (fun c_216 => ?_)
    rotate_left
    · exact by first | exact absurd c_216 (lcmp_self _) | exact absurd (lcmp_self _) c_216
    refine sw_goto 221 1546 C dL_law_221 (by decide) ?_
    exact sw_loc (sw_widen (by omega) (by omega) (hk (zpat_ S r x2) (T) (va_up R (svI cn od) S) (svC cn) (svO cn od) (ln) (by_) (g) (f1.1) (f1.2) (ad) (tx) (nb) (X) (0) (ap) (hh) (vp_updL fo 0 (zpat S r).toInt64) (LI.mut ⟨hO, hE, hK, hcn, hod, hln, hT⟩ (show mO (B + 100) 100000 (zpat_ S r x2) from hO.mono (by omega) (Nat.le_refl _)) h1))) rfl
set_option maxHeartbeats 8000000 in
set_option maxRecDepth 100000 in
theorem lo_setQuota {l : Launch} (hfl : l.stackTraces = false) {p : Program} {e : Env} {s : State} {m : MethodId} {below : List Frame} {meth : Method} {c : Code} {A : Nat → Prop} {D : va_G} {cI cJ cQ : ClassId} {Q : State → Prop} {b LL : Nat} {xs : Nat → Int32} (C : CC p s m #[.ref b] c cL_law 9 RL (Cond.initialized RL :: lw_all) D (tyz cI cJ cQ) A s.heap) (hz : xZ A s) (hC : xC s) (hX : va_X b LL xs s s.heap) (hbl : b < s.heap.size) (hbA : ¬ A b) (hLL : LL ≤ 2560) {x0a a0 a1 a2 a3 a4 a5 a6 a7 tr0 tr1 tr2 tr3 tr4 tr5 tr6 tr7 s0 s1 ra0 ra1 ra2 ra3 ra4 ra5 ra6 ra7 rb0 rb1 rb2 rb3 rb4 rb5 rb6 rb7 rc0 rc1 rc2 rc3 rc4 rc5 rc6 rc7 rd0 rd1 rd2 rd3 rd4 rd5 rd6 rd7 r0 t0 t1 w0 b0 b1 b2 b3 b4 b5 ao : Nat} {h : Nat → Option Nat} (hh0 : h 0 = some ra0) (hh1 : h 1 = some rb0) (hh2 : h 2 = some rc0) (hh3 : h 3 = some rd0) {S T : StT} {R : Nat → StT} {cn od ln : Nat} {by_ g sa pa ad tx nb : Nat → Int32} {X : RS} {th ap : Int32} {hh : Int64} {fo : Nat → Int64} {B j k n : Nat} (hB : B < 100000) (hj : 5 * j + 5 ≤ LL) (hkR : k + 1 ≤ 601024) (hnR : n + 6 ≤ 7293034) (hLI : LI B S R cn od ln by_ sa pa tx) (hk : ∀ (S T : StT) (R : Nat → StT) (cn od ln : Nat) (by_ g sa pa ad tx nb : Nat → Int32) (X : RS) (th ap : Int32) (hh : Int64) (fo : Nat → Int64), LI (B + 100) S R cn od ln by_ sa pa tx → sw p l e room_1 s m #[.ref b] below meth c D A s.heap 9 (k + 1) (n + 6) Q (flatS [[(x0a, .inr (6, [.ref a0, .ref tr0, .ref s0, .ref r0, .ref w0]))], (wSt a0 a1 a2 a3 a4 a5 a6 a7 cI (S)), [(s0, .inr (3, [.int (nI (cn)), .int (nI (od)), .ref s1])), (s1, .inl (cQ, 4, .inr (.inr (.inr (.inr h)))))], (wSt ra0 ra1 ra2 ra3 ra4 ra5 ra6 ra7 cI ((R) 0)), (wSt rb0 rb1 rb2 rb3 rb4 rb5 rb6 rb7 cI ((R) 1)), (wSt rc0 rc1 rc2 rc3 rc4 rc5 rc6 rc7 cI ((R) 2)), (wSt rd0 rd1 rd2 rd3 rd4 rd5 rd6 rd7 cI ((R) 3)), (wSt tr0 tr1 tr2 tr3 tr4 tr5 tr6 tr7 cI (T)), (wRd r0 t0 t1 cI (ln) (by_) (X)), [(w0, .inl (cI, 40, .inl (g)))], [(b0, .inr (7, [.ref b1, .ref b2, .ref b3, .int (nI (cn)), .int (th), .ref b4, .int (nI (ln)), .int (ap), .ref b5, .long (hh)])), (b1, .inl (cI, 424, .inl (sa))), (b2, .inl (cI, 1696, .inl (pa))), (b3, .inl (cI, 424, .inl (ad))), (b4, .inl (cI, 100, .inl (tx))), (b5, .inl (cI, 4, .inl (nb)))], [(ao, .inl (cJ, 1, .inr (.inl (fo))))]]) 1546 [(0, .ref b), (1, .ref x0a), (2, .ref b0), (3, .ref ao), (4, .int (nI (5 * j)))] []) : sw p l e room_1 s m #[.ref b] below meth c D A s.heap 9 k n Q (flatS [[(x0a, .inr (6, [.ref a0, .ref tr0, .ref s0, .ref r0, .ref w0]))], (wSt a0 a1 a2 a3 a4 a5 a6 a7 cI (S)), [(s0, .inr (3, [.int (nI (cn)), .int (nI (od)), .ref s1])), (s1, .inl (cQ, 4, .inr (.inr (.inr (.inr h)))))], (wSt ra0 ra1 ra2 ra3 ra4 ra5 ra6 ra7 cI ((R) 0)), (wSt rb0 rb1 rb2 rb3 rb4 rb5 rb6 rb7 cI ((R) 1)), (wSt rc0 rc1 rc2 rc3 rc4 rc5 rc6 rc7 cI ((R) 2)), (wSt rd0 rd1 rd2 rd3 rd4 rd5 rd6 rd7 cI ((R) 3)), (wSt tr0 tr1 tr2 tr3 tr4 tr5 tr6 tr7 cI (T)), (wRd r0 t0 t1 cI (ln) (by_) (X)), [(w0, .inl (cI, 40, .inl (g)))], [(b0, .inr (7, [.ref b1, .ref b2, .ref b3, .int (nI (cn)), .int (th), .ref b4, .int (nI (ln)), .int (ap), .ref b5, .long (hh)])), (b1, .inl (cI, 424, .inl (sa))), (b2, .inl (cI, 1696, .inl (pa))), (b3, .inl (cI, 424, .inl (ad))), (b4, .inl (cI, 100, .inl (tx))), (b5, .inl (cI, 4, .inl (nb)))], [(ao, .inl (cJ, 1, .inr (.inl (fo))))]]) 224 [(0, .ref b), (1, .ref x0a), (2, .ref b0), (3, .ref ao), (4, .int (nI (5 * j)))] [] := by
  obtain ⟨hO, hE, hK, hcn, hod, hln, hT⟩ := hLI
  have hS := hO.si
  have hB2 : B < 2 ^ 29 := by omega
  obtain ⟨x1, hx1⟩ : ∃ x, x = xs (5 * j + 1) := ⟨_, rfl⟩
  rcases bool2 (inR x1 0 10) with hc | hc
  · refine sw_aload_n 224 1 C dL_law_224 rfl rfl ?_
    refine sw_aload_n 225 0 C dL_law_225 rfl rfl ?_
    refine sw_iload 226 C dL_law_226 rfl ?_
    refine sw_iconst 228 C dL_law_228 1 (by decide) ?_
    refine sw_iadd 229 C dL_law_229 ?_
    refine sw_sld 230 (5 * j + 1) C hX hbl hbA dL_law_230 (nI_add (5 * j) 1) (by omega) (by omega) ?_
    refine sw_top hx1.symm ?_
    refine sw_aload_n 231 3 C dL_law_231 rfl rfl ?_
    refine xl_callSI 232 [0, 1, 11] 3 [_, _, _] C hz hC dL_law_232 (ct_L_setQuota_2 l hfl hc) wK_L_setQuota wM_L_98 wT_L_setQuota wI_L hd_L_setQuota rfl ⟨rfl, rfl⟩ ⟨by show _ ≤ 601024; omega, by show _ ≤ 7293034; omega⟩ rfl rfl rfl rfl rfl rfl ?_
    refine sg_segs [_, _, _, _, _, _, _, _, _, _, _, _] rfl ?_
    refine sw_istore 235 C dL_law_235 rfl ?_
    refine sw_aload_n 237 2 C dL_law_237 rfl rfl ?_
    refine sw_aload_n 238 0 C dL_law_238 rfl rfl ?_
    refine sw_iload 239 C dL_law_239 rfl ?_
    refine sw_iconst 241 C dL_law_241 1 (by decide) ?_
    refine sw_iadd 242 C dL_law_242 ?_
    refine sw_sld 243 (5 * j + 1) C hX hbl hbA dL_law_243 (nI_add (5 * j) 1) (by omega) (by omega) ?_
    refine sw_top hx1.symm ?_
    refine sg_callVI 244 [10] 1 0 [_] C dL_law_244 (ct_X7_setQuota_2 l hc) wK_X7_setQuota wM_L_101 wN_X7_setQuota wS_X7_X7_setQuota wI_X7 hd_X7_setQuota rfl rfl rfl ⟨rfl, rfl⟩ ⟨by show _ ≤ 601024; omega, by show _ ≤ 7293034; omega⟩ rfl rfl rfl rfl rfl rfl ?_
    refine sg_segs [_, _, _, _, _, _, _, _, _, _, _, _] rfl ?_
    refine sw_istore 247 C dL_law_247 rfl ?_
    refine sw_loc (L1 := [(0, .ref _), (1, .ref _), (2, .ref _), (3, .ref _), (4, .int _), (5, .int _), (6, .int _)]) ?_ rfl
    refine sw_aload_n 249 2 C dL_law_249 rfl rfl ?_
    refine sg_callVIP 250 [10] 0 0 C dL_law_250 (ct_X7_thrown l) wK_X7_thrown wM_L_95 wN_X7_thrown wS_X7_X7_thrown wI_X7 hd_X7_thrown rfl rfl rfl ⟨rfl, rfl⟩ ⟨by show _ ≤ 601024; omega, by show _ ≤ 7293034; omega⟩ rfl rfl rfl rfl ?_
    refine sw_iload 253 C dL_law_253 rfl ?_
    refine sw_icmp_eq 255 260 C dL_law_255 (by decide) (fun c_255 => ?_) (fun c_255 => ?_)
    rotate_left
    · exact by first | exact absurd c_255 (rfl) | exact absurd (rfl) c_255
    refine sw_iload 260 C dL_law_260 rfl ?_
    refine sw_if_ne 262 277 C dL_law_262 (by decide) (fun c_262 => ?_) (fun c_262 => ?_)
    rotate_left
    · exact by first | exact absurd c_262 (by decide) | exact absurd (by decide) c_262
    refine sw_goto 277 1546 C dL_law_277 (by decide) ?_
    exact sw_loc (sw_widen (by omega) (by omega) (hk (S) (T) (R) (cn) (od) (ln) (by_) (g) (sa) (pa) (ad) (tx) (nb) (X) (1) (ap) (hh) (fo) (LI.up ⟨hO, hE, hK, hcn, hod, hln, hT⟩))) rfl
  · refine sw_aload_n 224 1 C dL_law_224 rfl rfl ?_
    refine sw_aload_n 225 0 C dL_law_225 rfl rfl ?_
    refine sw_iload 226 C dL_law_226 rfl ?_
    refine sw_iconst 228 C dL_law_228 1 (by decide) ?_
    refine sw_iadd 229 C dL_law_229 ?_
    refine sw_sld 230 (5 * j + 1) C hX hbl hbA dL_law_230 (nI_add (5 * j) 1) (by omega) (by omega) ?_
    refine sw_top hx1.symm ?_
    refine sw_aload_n 231 3 C dL_law_231 rfl rfl ?_
    refine xl_callSI 232 [0, 1, 2, 3, 4, 5, 6, 11] 3 [_, _, _, _, _, _, _, _] C hz hC dL_law_232 (ct_L_setQuota l hfl hS hcn hod hh0 hh1 hh2 hh3 hc) wK_L_setQuota wM_L_98 wT_L_setQuota wI_L hd_L_setQuota rfl ⟨rfl, rfl⟩ ⟨by show _ ≤ 601024; omega, by show _ ≤ 7293034; omega⟩ rfl rfl rfl rfl rfl rfl ?_
    refine sg_segs [_, _, _, _, _, _, _, _, _, _, _, _] rfl ?_
    refine sw_istore 235 C dL_law_235 rfl ?_
    refine sw_aload_n 237 2 C dL_law_237 rfl rfl ?_
    refine sw_aload_n 238 0 C dL_law_238 rfl rfl ?_
    refine sw_iload 239 C dL_law_239 rfl ?_
    refine sw_iconst 241 C dL_law_241 1 (by decide) ?_
    refine sw_iadd 242 C dL_law_242 ?_
    refine sw_sld 243 (5 * j + 1) C hX hbl hbA dL_law_243 (nI_add (5 * j) 1) (by omega) (by omega) ?_
    refine sw_top hx1.symm ?_
    refine xg_callG 244 [10] 1 0 C dL_law_244 (ct_X7_setQuota l hE hO hK hcn hod hc) wK_X7_setQuota wM_L_101 wN_X7_setQuota wS_X7_X7_setQuota wI_X7 hd_X7_setQuota rfl rfl rfl ⟨rfl, rfl⟩ ⟨by show _ ≤ 601024; omega, by show _ ≤ 7293034; omega⟩ rfl rfl rfl rfl (fun v_244 w_244 h_244 => ?_)
    obtain ⟨rfl, f1, h1, rfl⟩ := h_244
    refine ⟨[_], rfl, rfl, ?_⟩
    refine sw_st (_ :: _) rfl ?_
    refine sg_segs [_, _, _, _, _, _, _, _, _, _, _, _] rfl ?_
    refine sw_istore 247 C dL_law_247 rfl ?_
    refine sw_loc (L1 := [(0, .ref _), (1, .ref _), (2, .ref _), (3, .ref _), (4, .int _), (5, .int _), (6, .int _)]) ?_ rfl
    refine sw_aload_n 249 2 C dL_law_249 rfl rfl ?_
    refine sg_callVIP 250 [10] 0 0 C dL_law_250 (ct_X7_thrown l) wK_X7_thrown wM_L_95 wN_X7_thrown wS_X7_X7_thrown wI_X7 hd_X7_thrown rfl rfl rfl ⟨rfl, rfl⟩ ⟨by show _ ≤ 601024; omega, by show _ ≤ 7293034; omega⟩ rfl rfl rfl rfl ?_
    refine sw_iload 253 C dL_law_253 rfl ?_
    refine sw_icmp_eq 255 260 C dL_law_255 (by decide) (fun c_255 => ?_) (fun c_255 => ?_)
    rotate_left
    · exact by first | exact absurd c_255 (rfl) | exact absurd (rfl) c_255
    refine sw_iload 260 C dL_law_260 rfl ?_
    refine sw_if_ne 262 277 C dL_law_262 (by decide) (fun c_262 => ?_) (fun c_262 => ?_)
    · exact by first | exact absurd c_262 (fun q => q rfl) | exact absurd (fun q => q rfl) c_262
    refine sw_aload_n 265 3 C dL_law_265 rfl rfl ?_
    refine sw_iconst 266 C dL_law_266 0 (by decide) ?_
    refine sg_laldN 267 11 0 1 (0) C dL_law_267 rfl (by decide) rfl rfl rfl rfl ?_
    refine sw_topL (show vp_updL fo 0 _ 0 = _ from pk_uLs) ?_
    refine sw_iload 268 C dL_law_268 rfl ?_
    refine sw_i2l 270 C dL_law_270 ?_
    refine sw_lcmp 271 C dL_law_271 ?_
    refine sw_if_eq 272 277 C dL_law_272 (by decide) (fun c_272 => ?_) (fun c_272 => ?_)
    rotate_left
    · exact by first | exact absurd c_272 (lcmp_self _) | exact absurd (lcmp_self _) c_272
    refine sw_goto 277 1546 C dL_law_277 (by decide) ?_
    exact sw_loc (sw_widen (by omega) (by omega) (hk (zq_ S x1) (T) (va_up R (svI cn od) S) (svC cn) (svO cn od) (ln) (by_) (g) (f1.1) (f1.2) (ad) (tx) (nb) (X) (0) (ap) (hh) (vp_updL fo 0 (zq S).toInt64) (LI.mut ⟨hO, hE, hK, hcn, hod, hln, hT⟩ (show mO (B + 100) 100000 (zq_ S x1) from hO.mono (by omega) (Nat.le_refl _)) h1))) rfl
set_option maxHeartbeats 8000000 in
set_option maxRecDepth 100000 in
theorem lo_setGrace {l : Launch} (hfl : l.stackTraces = false) {p : Program} {e : Env} {s : State} {m : MethodId} {below : List Frame} {meth : Method} {c : Code} {A : Nat → Prop} {D : va_G} {cI cJ cQ : ClassId} {Q : State → Prop} {b LL : Nat} {xs : Nat → Int32} (C : CC p s m #[.ref b] c cL_law 9 RL (Cond.initialized RL :: lw_all) D (tyz cI cJ cQ) A s.heap) (hz : xZ A s) (hC : xC s) (hX : va_X b LL xs s s.heap) (hbl : b < s.heap.size) (hbA : ¬ A b) (hLL : LL ≤ 2560) {x0a a0 a1 a2 a3 a4 a5 a6 a7 tr0 tr1 tr2 tr3 tr4 tr5 tr6 tr7 s0 s1 ra0 ra1 ra2 ra3 ra4 ra5 ra6 ra7 rb0 rb1 rb2 rb3 rb4 rb5 rb6 rb7 rc0 rc1 rc2 rc3 rc4 rc5 rc6 rc7 rd0 rd1 rd2 rd3 rd4 rd5 rd6 rd7 r0 t0 t1 w0 b0 b1 b2 b3 b4 b5 ao : Nat} {h : Nat → Option Nat} (hh0 : h 0 = some ra0) (hh1 : h 1 = some rb0) (hh2 : h 2 = some rc0) (hh3 : h 3 = some rd0) {S T : StT} {R : Nat → StT} {cn od ln : Nat} {by_ g sa pa ad tx nb : Nat → Int32} {X : RS} {th ap : Int32} {hh : Int64} {fo : Nat → Int64} {B j k n : Nat} (hB : B < 100000) (hj : 5 * j + 5 ≤ LL) (hkR : k + 1 ≤ 601024) (hnR : n + 6 ≤ 7293034) (hLI : LI B S R cn od ln by_ sa pa tx) (hk : ∀ (S T : StT) (R : Nat → StT) (cn od ln : Nat) (by_ g sa pa ad tx nb : Nat → Int32) (X : RS) (th ap : Int32) (hh : Int64) (fo : Nat → Int64), LI (B + 100) S R cn od ln by_ sa pa tx → sw p l e room_1 s m #[.ref b] below meth c D A s.heap 9 (k + 1) (n + 6) Q (flatS [[(x0a, .inr (6, [.ref a0, .ref tr0, .ref s0, .ref r0, .ref w0]))], (wSt a0 a1 a2 a3 a4 a5 a6 a7 cI (S)), [(s0, .inr (3, [.int (nI (cn)), .int (nI (od)), .ref s1])), (s1, .inl (cQ, 4, .inr (.inr (.inr (.inr h)))))], (wSt ra0 ra1 ra2 ra3 ra4 ra5 ra6 ra7 cI ((R) 0)), (wSt rb0 rb1 rb2 rb3 rb4 rb5 rb6 rb7 cI ((R) 1)), (wSt rc0 rc1 rc2 rc3 rc4 rc5 rc6 rc7 cI ((R) 2)), (wSt rd0 rd1 rd2 rd3 rd4 rd5 rd6 rd7 cI ((R) 3)), (wSt tr0 tr1 tr2 tr3 tr4 tr5 tr6 tr7 cI (T)), (wRd r0 t0 t1 cI (ln) (by_) (X)), [(w0, .inl (cI, 40, .inl (g)))], [(b0, .inr (7, [.ref b1, .ref b2, .ref b3, .int (nI (cn)), .int (th), .ref b4, .int (nI (ln)), .int (ap), .ref b5, .long (hh)])), (b1, .inl (cI, 424, .inl (sa))), (b2, .inl (cI, 1696, .inl (pa))), (b3, .inl (cI, 424, .inl (ad))), (b4, .inl (cI, 100, .inl (tx))), (b5, .inl (cI, 4, .inl (nb)))], [(ao, .inl (cJ, 1, .inr (.inl (fo))))]]) 1546 [(0, .ref b), (1, .ref x0a), (2, .ref b0), (3, .ref ao), (4, .int (nI (5 * j)))] []) : sw p l e room_1 s m #[.ref b] below meth c D A s.heap 9 k n Q (flatS [[(x0a, .inr (6, [.ref a0, .ref tr0, .ref s0, .ref r0, .ref w0]))], (wSt a0 a1 a2 a3 a4 a5 a6 a7 cI (S)), [(s0, .inr (3, [.int (nI (cn)), .int (nI (od)), .ref s1])), (s1, .inl (cQ, 4, .inr (.inr (.inr (.inr h)))))], (wSt ra0 ra1 ra2 ra3 ra4 ra5 ra6 ra7 cI ((R) 0)), (wSt rb0 rb1 rb2 rb3 rb4 rb5 rb6 rb7 cI ((R) 1)), (wSt rc0 rc1 rc2 rc3 rc4 rc5 rc6 rc7 cI ((R) 2)), (wSt rd0 rd1 rd2 rd3 rd4 rd5 rd6 rd7 cI ((R) 3)), (wSt tr0 tr1 tr2 tr3 tr4 tr5 tr6 tr7 cI (T)), (wRd r0 t0 t1 cI (ln) (by_) (X)), [(w0, .inl (cI, 40, .inl (g)))], [(b0, .inr (7, [.ref b1, .ref b2, .ref b3, .int (nI (cn)), .int (th), .ref b4, .int (nI (ln)), .int (ap), .ref b5, .long (hh)])), (b1, .inl (cI, 424, .inl (sa))), (b2, .inl (cI, 1696, .inl (pa))), (b3, .inl (cI, 424, .inl (ad))), (b4, .inl (cI, 100, .inl (tx))), (b5, .inl (cI, 4, .inl (nb)))], [(ao, .inl (cJ, 1, .inr (.inl (fo))))]]) 280 [(0, .ref b), (1, .ref x0a), (2, .ref b0), (3, .ref ao), (4, .int (nI (5 * j)))] [] := by
  obtain ⟨hO, hE, hK, hcn, hod, hln, hT⟩ := hLI
  have hS := hO.si
  have hB2 : B < 2 ^ 29 := by omega
  obtain ⟨x1, hx1⟩ : ∃ x, x = xs (5 * j + 1) := ⟨_, rfl⟩
  rcases bool2 (inR x1 0 200) with hc | hc
  · refine sw_aload_n 280 1 C dL_law_280 rfl rfl ?_
    refine sw_aload_n 281 0 C dL_law_281 rfl rfl ?_
    refine sw_iload 282 C dL_law_282 rfl ?_
    refine sw_iconst 284 C dL_law_284 1 (by decide) ?_
    refine sw_iadd 285 C dL_law_285 ?_
    refine sw_sld 286 (5 * j + 1) C hX hbl hbA dL_law_286 (nI_add (5 * j) 1) (by omega) (by omega) ?_
    refine sw_top hx1.symm ?_
    refine sw_aload_n 287 3 C dL_law_287 rfl rfl ?_
    refine xl_callSI 288 [0, 1, 11] 3 [_, _, _] C hz hC dL_law_288 (ct_L_setGrace_2 l hfl hc) wK_L_setGrace wM_L_102 wT_L_setGrace wI_L hd_L_setGrace rfl ⟨rfl, rfl⟩ ⟨by show _ ≤ 601024; omega, by show _ ≤ 7293034; omega⟩ rfl rfl rfl rfl rfl rfl ?_
    refine sg_segs [_, _, _, _, _, _, _, _, _, _, _, _] rfl ?_
    refine sw_istore 291 C dL_law_291 rfl ?_
    refine sw_aload_n 293 2 C dL_law_293 rfl rfl ?_
    refine sw_aload_n 294 0 C dL_law_294 rfl rfl ?_
    refine sw_iload 295 C dL_law_295 rfl ?_
    refine sw_iconst 297 C dL_law_297 1 (by decide) ?_
    refine sw_iadd 298 C dL_law_298 ?_
    refine sw_sld 299 (5 * j + 1) C hX hbl hbA dL_law_299 (nI_add (5 * j) 1) (by omega) (by omega) ?_
    refine sw_top hx1.symm ?_
    refine sg_callVI 300 [10] 1 0 [_] C dL_law_300 (ct_X7_setGrace_2 l hc) wK_X7_setGrace wM_L_104 wN_X7_setGrace wS_X7_X7_setGrace wI_X7 hd_X7_setGrace rfl rfl rfl ⟨rfl, rfl⟩ ⟨by show _ ≤ 601024; omega, by show _ ≤ 7293034; omega⟩ rfl rfl rfl rfl rfl rfl ?_
    refine sg_segs [_, _, _, _, _, _, _, _, _, _, _, _] rfl ?_
    refine sw_istore 303 C dL_law_303 rfl ?_
    refine sw_loc (L1 := [(0, .ref _), (1, .ref _), (2, .ref _), (3, .ref _), (4, .int _), (5, .int _), (6, .int _)]) ?_ rfl
    refine sw_aload_n 305 2 C dL_law_305 rfl rfl ?_
    refine sg_callVIP 306 [10] 0 0 C dL_law_306 (ct_X7_thrown l) wK_X7_thrown wM_L_95 wN_X7_thrown wS_X7_X7_thrown wI_X7 hd_X7_thrown rfl rfl rfl ⟨rfl, rfl⟩ ⟨by show _ ≤ 601024; omega, by show _ ≤ 7293034; omega⟩ rfl rfl rfl rfl ?_
    refine sw_iload 309 C dL_law_309 rfl ?_
    refine sw_icmp_eq 311 316 C dL_law_311 (by decide) (fun c_311 => ?_) (fun c_311 => ?_)
    rotate_left
    · exact by first | exact absurd c_311 (rfl) | exact absurd (rfl) c_311
    refine sw_iload 316 C dL_law_316 rfl ?_
    refine sw_if_ne 318 333 C dL_law_318 (by decide) (fun c_318 => ?_) (fun c_318 => ?_)
    rotate_left
    · exact by first | exact absurd c_318 (by decide) | exact absurd (by decide) c_318
    refine sw_goto 333 1546 C dL_law_333 (by decide) ?_
    exact sw_loc (sw_widen (by omega) (by omega) (hk (S) (T) (R) (cn) (od) (ln) (by_) (g) (sa) (pa) (ad) (tx) (nb) (X) (1) (ap) (hh) (fo) (LI.up ⟨hO, hE, hK, hcn, hod, hln, hT⟩))) rfl
  · refine sw_aload_n 280 1 C dL_law_280 rfl rfl ?_
    refine sw_aload_n 281 0 C dL_law_281 rfl rfl ?_
    refine sw_iload 282 C dL_law_282 rfl ?_
    refine sw_iconst 284 C dL_law_284 1 (by decide) ?_
    refine sw_iadd 285 C dL_law_285 ?_
    refine sw_sld 286 (5 * j + 1) C hX hbl hbA dL_law_286 (nI_add (5 * j) 1) (by omega) (by omega) ?_
    refine sw_top hx1.symm ?_
    refine sw_aload_n 287 3 C dL_law_287 rfl rfl ?_
    refine xl_callSI 288 [0, 1, 2, 3, 4, 5, 6, 11] 3 [_, _, _, _, _, _, _, _] C hz hC dL_law_288 (ct_L_setGrace l hfl hS hcn hod hh0 hh1 hh2 hh3 hc) wK_L_setGrace wM_L_102 wT_L_setGrace wI_L hd_L_setGrace rfl ⟨rfl, rfl⟩ ⟨by show _ ≤ 601024; omega, by show _ ≤ 7293034; omega⟩ rfl rfl rfl rfl rfl rfl ?_
    refine sg_segs [_, _, _, _, _, _, _, _, _, _, _, _] rfl ?_
    refine sw_istore 291 C dL_law_291 rfl ?_
    refine sw_aload_n 293 2 C dL_law_293 rfl rfl ?_
    refine sw_aload_n 294 0 C dL_law_294 rfl rfl ?_
    refine sw_iload 295 C dL_law_295 rfl ?_
    refine sw_iconst 297 C dL_law_297 1 (by decide) ?_
    refine sw_iadd 298 C dL_law_298 ?_
    refine sw_sld 299 (5 * j + 1) C hX hbl hbA dL_law_299 (nI_add (5 * j) 1) (by omega) (by omega) ?_
    refine sw_top hx1.symm ?_
    refine xg_callG 300 [10] 1 0 C dL_law_300 (ct_X7_setGrace l hE hO hK hcn hod hc) wK_X7_setGrace wM_L_104 wN_X7_setGrace wS_X7_X7_setGrace wI_X7 hd_X7_setGrace rfl rfl rfl ⟨rfl, rfl⟩ ⟨by show _ ≤ 601024; omega, by show _ ≤ 7293034; omega⟩ rfl rfl rfl rfl (fun v_300 w_300 h_300 => ?_)
    obtain ⟨rfl, f1, h1, rfl⟩ := h_300
    refine ⟨[_], rfl, rfl, ?_⟩
    refine sw_st (_ :: _) rfl ?_
    refine sg_segs [_, _, _, _, _, _, _, _, _, _, _, _] rfl ?_
    refine sw_istore 303 C dL_law_303 rfl ?_
    refine sw_loc (L1 := [(0, .ref _), (1, .ref _), (2, .ref _), (3, .ref _), (4, .int _), (5, .int _), (6, .int _)]) ?_ rfl
    refine sw_aload_n 305 2 C dL_law_305 rfl rfl ?_
    refine sg_callVIP 306 [10] 0 0 C dL_law_306 (ct_X7_thrown l) wK_X7_thrown wM_L_95 wN_X7_thrown wS_X7_X7_thrown wI_X7 hd_X7_thrown rfl rfl rfl ⟨rfl, rfl⟩ ⟨by show _ ≤ 601024; omega, by show _ ≤ 7293034; omega⟩ rfl rfl rfl rfl ?_
    refine sw_iload 309 C dL_law_309 rfl ?_
    refine sw_icmp_eq 311 316 C dL_law_311 (by decide) (fun c_311 => ?_) (fun c_311 => ?_)
    rotate_left
    · exact by first | exact absurd c_311 (rfl) | exact absurd (rfl) c_311
    refine sw_iload 316 C dL_law_316 rfl ?_
    refine sw_if_ne 318 333 C dL_law_318 (by decide) (fun c_318 => ?_) (fun c_318 => ?_)
    · exact by first | exact absurd c_318 (fun q => q rfl) | exact absurd (fun q => q rfl) c_318
    refine sw_aload_n 321 3 C dL_law_321 rfl rfl ?_
    refine sw_iconst 322 C dL_law_322 0 (by decide) ?_
    refine sg_laldN 323 11 0 1 (0) C dL_law_323 rfl (by decide) rfl rfl rfl rfl ?_
    refine sw_topL (show vp_updL fo 0 _ 0 = _ from pk_uLs) ?_
    refine sw_iload 324 C dL_law_324 rfl ?_
    refine sw_i2l 326 C dL_law_326 ?_
    refine sw_lcmp 327 C dL_law_327 ?_
    refine sw_if_eq 328 333 C dL_law_328 (by decide) (fun c_328 => ?_) (fun c_328 => ?_)
    rotate_left
    · exact by first | exact absurd c_328 (lcmp_self _) | exact absurd (lcmp_self _) c_328
    refine sw_goto 333 1546 C dL_law_333 (by decide) ?_
    exact sw_loc (sw_widen (by omega) (by omega) (hk (zg_ S x1) (T) (va_up R (svI cn od) S) (svC cn) (svO cn od) (ln) (by_) (g) (f1.1) (f1.2) (ad) (tx) (nb) (X) (0) (ap) (hh) (vp_updL fo 0 (zg S).toInt64) (LI.mut ⟨hO, hE, hK, hcn, hod, hln, hT⟩ (show mO (B + 100) 100000 (zg_ S x1) from hO.mono (by omega) (Nat.le_refl _)) h1))) rfl
theorem bool5 (a b : Bool) (p : Prop) (c : Bool) : a = false ∨ (a = true ∧ b = false) ∨ (a = true ∧ b = true ∧ p) ∨ (a = true ∧ b = true ∧ ¬ p ∧ c = false) ∨ (a = true ∧ b = true ∧ ¬ p ∧ c = true) := by
  by_cases h : p <;> cases a <;> cases b <;> cases c <;> simp [h]
theorem pass_or (x : Int32) {S : StT} (ht : isN (zt S) 100000) : inR x 1 200 = false ∨ (∃ q t : Nat, x = nI q ∧ 1 ≤ q ∧ q ≤ 200 ∧ zt S = nI t ∧ t ≤ 100000 ∧ ¬ t + q ≤ 100000 ∧ inR x 1 200 = true ∧ ¬ x ≤ 100000 - zt S) ∨ (∃ q t : Nat, x = nI q ∧ 1 ≤ q ∧ q ≤ 200 ∧ zt S = nI t ∧ t ≤ 100000 ∧ t + q ≤ 100000 ∧ x ≤ 100000 - zt S) := by
  rcases bool2 (inR x 1 200) with hc | hc
  · exact Or.inl hc
  · obtain ⟨q, q1, q2, e⟩ := inR_1 (b := 200) (by decide) hc
    obtain ⟨t, t1, t2⟩ := ht
    have hi := tm_iff t1 q2
    by_cases h : t + q ≤ 100000
    · refine Or.inr (Or.inr ⟨q, t, e, q1, q2, t2, t1, h, ?_⟩)
      rw [e, t2]
      exact hi.mpr h
    · refine Or.inr (Or.inl ⟨q, t, e, q1, q2, t2, t1, h, hc, ?_⟩)
      rw [e, t2]
      exact fun z => h (hi.mp z)
theorem app_or (x : Int32) (ln : Nat) : inR x 0 127 = false ∨ (inR x 0 127 = true ∧ ¬ ln < 100) ∨ (inR x 0 127 = true ∧ ln < 100) := by
  rcases bool2 (inR x 0 127) with h | h
  · exact Or.inl h
  · by_cases q : ln < 100
    · exact Or.inr (Or.inr ⟨h, q⟩)
    · exact Or.inr (Or.inl ⟨h, q⟩)
theorem fnd_b (f : Nat → Int32) (x : Int32) (n : Nat) (b : Bool) : fnd f x n = none ∨ (∃ i, fnd f x n = some i ∧ b = false) ∨ (∃ i, fnd f x n = some i ∧ b = true) := by
  rcases fnd_or f x n with h | ⟨i, h⟩
  · exact Or.inl h
  · cases b
    · exact Or.inr (Or.inl ⟨i, h, rfl⟩)
    · exact Or.inr (Or.inr ⟨i, h, rfl⟩)
theorem ix_b (x : Int32) {n : Nat} (hn : n < 2 ^ 31) (b : Bool) : (x < 0 ∨ nI n ≤ x) ∨ (∃ k : Nat, k < n ∧ x = nI k ∧ b = false) ∨ (∃ k : Nat, k < n ∧ x = nI k ∧ b = true) := by
  rcases ix_or x hn with h | ⟨k, h1, h2⟩
  · exact Or.inl h
  · cases b
    · exact Or.inr (Or.inl ⟨k, h1, h2, rfl⟩)
    · exact Or.inr (Or.inr ⟨k, h1, h2, rfl⟩)
theorem ct_L_append_ok (l : Launch) (hfl : l.stackTraces = false) {D : va_G} {cI cJ cQ : ClassId} {x0a a0 tr0 s0 r0 t0 t1 w0 ln : Nat} {by_ : Nat → Int32} {X : RS} {x1 : Int32} (hln : ln ≤ 100) (hx : inR x1 0 127 = true) (h : ln < 100) {ao : Nat} {fo : Nat → Int64} : LCt l yL_append (Cond.codeWith yL_append cL_append 4 (some .int) [(0, 9, 12, 15), (0, 9, 15, 28)]) 9 163 0 0 D (tyz cI cJ cQ) [.ref x0a, .int x1, .ref ao] (flatS [[(x0a, .inr (6, [.ref a0, .ref tr0, .ref s0, .ref r0, .ref w0]))], (wRd r0 t0 t1 cI (ln) (by_) X), [(ao, .inl (cJ, 1, .inr (.inl (fo))))]]) (pstI 0 (flatS [[(x0a, .inr (6, [.ref a0, .ref tr0, .ref s0, .ref r0, .ref w0]))], (wRd r0 t0 t1 cI (ln + 1) (upd by_ ln x1) X), [(ao, .inl (cJ, 1, .inr (.inl (vp_updL fo 0 (nI (ln + 1)).toInt64))))]])) := by
  have q := ct_L_append (x0a := x0a) (a0 := a0) (tr0 := tr0) (s0 := s0) (r0 := r0) (t0 := t0) (t1 := t1) (w0 := w0) (by_ := by_) (X := X) (ao := ao) (fo := fo) (D := D) (cI := cI) (cJ := cJ) (cQ := cQ) l hfl hln hx h
  rw [show txl ln = ln + 1 from if_pos h, show txb by_ ln x1 = upd by_ ln x1 from if_pos h] at q
  exact q
set_option maxHeartbeats 8000000 in
set_option maxRecDepth 100000 in
theorem lo_send {l : Launch} (hfl : l.stackTraces = false) {p : Program} {e : Env} {s : State} {m : MethodId} {below : List Frame} {meth : Method} {c : Code} {A : Nat → Prop} {D : va_G} {cI cJ cQ : ClassId} {Q : State → Prop} {b LL : Nat} {xs : Nat → Int32} (C : CC p s m #[.ref b] c cL_law 9 RL (Cond.initialized RL :: lw_all) D (tyz cI cJ cQ) A s.heap) (hz : xZ A s) (hC : xC s) (hX : va_X b LL xs s s.heap) (hbl : b < s.heap.size) (hbA : ¬ A b) (hLL : LL ≤ 2560) {x0a a0 a1 a2 a3 a4 a5 a6 a7 tr0 tr1 tr2 tr3 tr4 tr5 tr6 tr7 s0 s1 ra0 ra1 ra2 ra3 ra4 ra5 ra6 ra7 rb0 rb1 rb2 rb3 rb4 rb5 rb6 rb7 rc0 rc1 rc2 rc3 rc4 rc5 rc6 rc7 rd0 rd1 rd2 rd3 rd4 rd5 rd6 rd7 r0 t0 t1 w0 b0 b1 b2 b3 b4 b5 ao : Nat} {h : Nat → Option Nat} (hh0 : h 0 = some ra0) (hh1 : h 1 = some rb0) (hh2 : h 2 = some rc0) (hh3 : h 3 = some rd0) {S T : StT} {R : Nat → StT} {cn od ln : Nat} {by_ g sa pa ad tx nb : Nat → Int32} {X : RS} {th ap : Int32} {hh : Int64} {fo : Nat → Int64} {B j k n : Nat} (hB : B < 100000) (hj : 5 * j + 5 ≤ LL) (hkR : k + 1 ≤ 601024) (hnR : n + 6 ≤ 7293034) (hLI : LI B S R cn od ln by_ sa pa tx) (hk : ∀ (S T : StT) (R : Nat → StT) (cn od ln : Nat) (by_ g sa pa ad tx nb : Nat → Int32) (X : RS) (th ap : Int32) (hh : Int64) (fo : Nat → Int64), LI (B + 100) S R cn od ln by_ sa pa tx → sw p l e room_1 s m #[.ref b] below meth c D A s.heap 9 (k + 1) (n + 6) Q (flatS [[(x0a, .inr (6, [.ref a0, .ref tr0, .ref s0, .ref r0, .ref w0]))], (wSt a0 a1 a2 a3 a4 a5 a6 a7 cI (S)), [(s0, .inr (3, [.int (nI (cn)), .int (nI (od)), .ref s1])), (s1, .inl (cQ, 4, .inr (.inr (.inr (.inr h)))))], (wSt ra0 ra1 ra2 ra3 ra4 ra5 ra6 ra7 cI ((R) 0)), (wSt rb0 rb1 rb2 rb3 rb4 rb5 rb6 rb7 cI ((R) 1)), (wSt rc0 rc1 rc2 rc3 rc4 rc5 rc6 rc7 cI ((R) 2)), (wSt rd0 rd1 rd2 rd3 rd4 rd5 rd6 rd7 cI ((R) 3)), (wSt tr0 tr1 tr2 tr3 tr4 tr5 tr6 tr7 cI (T)), (wRd r0 t0 t1 cI (ln) (by_) (X)), [(w0, .inl (cI, 40, .inl (g)))], [(b0, .inr (7, [.ref b1, .ref b2, .ref b3, .int (nI (cn)), .int (th), .ref b4, .int (nI (ln)), .int (ap), .ref b5, .long (hh)])), (b1, .inl (cI, 424, .inl (sa))), (b2, .inl (cI, 1696, .inl (pa))), (b3, .inl (cI, 424, .inl (ad))), (b4, .inl (cI, 100, .inl (tx))), (b5, .inl (cI, 4, .inl (nb)))], [(ao, .inl (cJ, 1, .inr (.inl (fo))))]]) 1546 [(0, .ref b), (1, .ref x0a), (2, .ref b0), (3, .ref ao), (4, .int (nI (5 * j)))] []) : sw p l e room_1 s m #[.ref b] below meth c D A s.heap 9 k n Q (flatS [[(x0a, .inr (6, [.ref a0, .ref tr0, .ref s0, .ref r0, .ref w0]))], (wSt a0 a1 a2 a3 a4 a5 a6 a7 cI (S)), [(s0, .inr (3, [.int (nI (cn)), .int (nI (od)), .ref s1])), (s1, .inl (cQ, 4, .inr (.inr (.inr (.inr h)))))], (wSt ra0 ra1 ra2 ra3 ra4 ra5 ra6 ra7 cI ((R) 0)), (wSt rb0 rb1 rb2 rb3 rb4 rb5 rb6 rb7 cI ((R) 1)), (wSt rc0 rc1 rc2 rc3 rc4 rc5 rc6 rc7 cI ((R) 2)), (wSt rd0 rd1 rd2 rd3 rd4 rd5 rd6 rd7 cI ((R) 3)), (wSt tr0 tr1 tr2 tr3 tr4 tr5 tr6 tr7 cI (T)), (wRd r0 t0 t1 cI (ln) (by_) (X)), [(w0, .inl (cI, 40, .inl (g)))], [(b0, .inr (7, [.ref b1, .ref b2, .ref b3, .int (nI (cn)), .int (th), .ref b4, .int (nI (ln)), .int (ap), .ref b5, .long (hh)])), (b1, .inl (cI, 424, .inl (sa))), (b2, .inl (cI, 1696, .inl (pa))), (b3, .inl (cI, 424, .inl (ad))), (b4, .inl (cI, 100, .inl (tx))), (b5, .inl (cI, 4, .inl (nb)))], [(ao, .inl (cJ, 1, .inr (.inl (fo))))]]) 336 [(0, .ref b), (1, .ref x0a), (2, .ref b0), (3, .ref ao), (4, .int (nI (5 * j)))] [] := by
  obtain ⟨hO, hE, hK, hcn, hod, hln, hT⟩ := hLI
  have hS := hO.si
  have hB2 : B < 2 ^ 29 := by omega
  obtain ⟨x1, hx1⟩ : ∃ x, x = xs (5 * j + 1) := ⟨_, rfl⟩
  obtain ⟨x2, hx2⟩ : ∃ x, x = xs (5 * j + 2) := ⟨_, rfl⟩
  obtain ⟨x3, hx3⟩ : ∃ x, x = xs (5 * j + 3) := ⟨_, rfl⟩
  rcases bool3 (okSn x1 x2 x3) (hrf (zf S) (zn S) (zq S) x1 (-1)) with hc | hc | hc
  · refine sw_aload_n 336 1 C dL_law_336 rfl rfl ?_
    refine sw_aload_n 337 0 C dL_law_337 rfl rfl ?_
    refine sw_iload 338 C dL_law_338 rfl ?_
    refine sw_iconst 340 C dL_law_340 1 (by decide) ?_
    refine sw_iadd 341 C dL_law_341 ?_
    refine sw_sld 342 (5 * j + 1) C hX hbl hbA dL_law_342 (nI_add (5 * j) 1) (by omega) (by omega) ?_
    refine sw_top hx1.symm ?_
    refine sw_aload_n 343 0 C dL_law_343 rfl rfl ?_
    refine sw_iload 344 C dL_law_344 rfl ?_
    refine sw_iconst 346 C dL_law_346 2 (by decide) ?_
    refine sw_iadd 347 C dL_law_347 ?_
    refine sw_sld 348 (5 * j + 2) C hX hbl hbA dL_law_348 (nI_add (5 * j) 2) (by omega) (by omega) ?_
    refine sw_top hx2.symm ?_
    refine sw_aload_n 349 0 C dL_law_349 rfl rfl ?_
    refine sw_iload 350 C dL_law_350 rfl ?_
    refine sw_iconst 352 C dL_law_352 3 (by decide) ?_
    refine sw_iadd 353 C dL_law_353 ?_
    refine sw_sld 354 (5 * j + 3) C hX hbl hbA dL_law_354 (nI_add (5 * j) 3) (by omega) (by omega) ?_
    refine sw_top hx3.symm ?_
    refine sw_aload_n 355 3 C dL_law_355 rfl rfl ?_
    refine xl_callSI 356 [0, 1, 11] 5 [_, _, _] C hz hC dL_law_356 (ct_L_send_2 l hfl hc) wK_L_send wM_L_105 wT_L_send wI_L hd_L_send rfl ⟨rfl, rfl⟩ ⟨by show _ ≤ 601024; omega, by show _ ≤ 7293034; omega⟩ rfl rfl rfl rfl rfl rfl ?_
    refine sg_segs [_, _, _, _, _, _, _, _, _, _, _, _] rfl ?_
    refine sw_istore 359 C dL_law_359 rfl ?_
    refine sw_aload_n 361 2 C dL_law_361 rfl rfl ?_
    refine sw_aload_n 362 0 C dL_law_362 rfl rfl ?_
    refine sw_iload 363 C dL_law_363 rfl ?_
    refine sw_iconst 365 C dL_law_365 1 (by decide) ?_
    refine sw_iadd 366 C dL_law_366 ?_
    refine sw_sld 367 (5 * j + 1) C hX hbl hbA dL_law_367 (nI_add (5 * j) 1) (by omega) (by omega) ?_
    refine sw_top hx1.symm ?_
    refine sw_aload_n 368 0 C dL_law_368 rfl rfl ?_
    refine sw_iload 369 C dL_law_369 rfl ?_
    refine sw_iconst 371 C dL_law_371 2 (by decide) ?_
    refine sw_iadd 372 C dL_law_372 ?_
    refine sw_sld 373 (5 * j + 2) C hX hbl hbA dL_law_373 (nI_add (5 * j) 2) (by omega) (by omega) ?_
    refine sw_top hx2.symm ?_
    refine sw_aload_n 374 0 C dL_law_374 rfl rfl ?_
    refine sw_iload 375 C dL_law_375 rfl ?_
    refine sw_iconst 377 C dL_law_377 3 (by decide) ?_
    refine sw_iadd 378 C dL_law_378 ?_
    refine sw_sld 379 (5 * j + 3) C hX hbl hbA dL_law_379 (nI_add (5 * j) 3) (by omega) (by omega) ?_
    refine sw_top hx3.symm ?_
    refine sg_callVI 380 [10] 3 0 [_] C dL_law_380 (ct_X7_send_3 l hc) wK_X7_send wM_L_108 wN_X7_send wS_X7_X7_send wI_X7 hd_X7_send rfl rfl rfl ⟨rfl, rfl⟩ ⟨by show _ ≤ 601024; omega, by show _ ≤ 7293034; omega⟩ rfl rfl rfl rfl rfl rfl ?_
    refine sg_segs [_, _, _, _, _, _, _, _, _, _, _, _] rfl ?_
    refine sw_istore 383 C dL_law_383 rfl ?_
    refine sw_loc (L1 := [(0, .ref _), (1, .ref _), (2, .ref _), (3, .ref _), (4, .int _), (5, .int _), (6, .int _)]) ?_ rfl
    refine sw_aload_n 385 2 C dL_law_385 rfl rfl ?_
    refine sg_callVIP 386 [10] 0 0 C dL_law_386 (ct_X7_thrown l) wK_X7_thrown wM_L_95 wN_X7_thrown wS_X7_X7_thrown wI_X7 hd_X7_thrown rfl rfl rfl ⟨rfl, rfl⟩ ⟨by show _ ≤ 601024; omega, by show _ ≤ 7293034; omega⟩ rfl rfl rfl rfl ?_
    refine sw_iload 389 C dL_law_389 rfl ?_
    refine sw_icmp_eq 391 396 C dL_law_391 (by decide) (fun c_391 => ?_) (fun c_391 => ?_)
    rotate_left
    · exact by first | exact absurd c_391 (rfl) | exact absurd (rfl) c_391
    refine sw_iload 396 C dL_law_396 rfl ?_
    refine sw_if_ne 398 413 C dL_law_398 (by decide) (fun c_398 => ?_) (fun c_398 => ?_)
    rotate_left
    · exact by first | exact absurd c_398 (by decide) | exact absurd (by decide) c_398
    refine sw_goto 413 1546 C dL_law_413 (by decide) ?_
    exact sw_loc (sw_widen (by omega) (by omega) (hk (S) (T) (R) (cn) (od) (ln) (by_) (g) (sa) (pa) (ad) (tx) (nb) (X) (1) (ap) (hh) (fo) (LI.up ⟨hO, hE, hK, hcn, hod, hln, hT⟩))) rfl
  · refine sw_aload_n 336 1 C dL_law_336 rfl rfl ?_
    refine sw_aload_n 337 0 C dL_law_337 rfl rfl ?_
    refine sw_iload 338 C dL_law_338 rfl ?_
    refine sw_iconst 340 C dL_law_340 1 (by decide) ?_
    refine sw_iadd 341 C dL_law_341 ?_
    refine sw_sld 342 (5 * j + 1) C hX hbl hbA dL_law_342 (nI_add (5 * j) 1) (by omega) (by omega) ?_
    refine sw_top hx1.symm ?_
    refine sw_aload_n 343 0 C dL_law_343 rfl rfl ?_
    refine sw_iload 344 C dL_law_344 rfl ?_
    refine sw_iconst 346 C dL_law_346 2 (by decide) ?_
    refine sw_iadd 347 C dL_law_347 ?_
    refine sw_sld 348 (5 * j + 2) C hX hbl hbA dL_law_348 (nI_add (5 * j) 2) (by omega) (by omega) ?_
    refine sw_top hx2.symm ?_
    refine sw_aload_n 349 0 C dL_law_349 rfl rfl ?_
    refine sw_iload 350 C dL_law_350 rfl ?_
    refine sw_iconst 352 C dL_law_352 3 (by decide) ?_
    refine sw_iadd 353 C dL_law_353 ?_
    refine sw_sld 354 (5 * j + 3) C hX hbl hbA dL_law_354 (nI_add (5 * j) 3) (by omega) (by omega) ?_
    refine sw_top hx3.symm ?_
    refine sw_aload_n 355 3 C dL_law_355 rfl rfl ?_
    refine xl_callSI 356 [0, 1, 11] 5 [_, _, _] C hz hC dL_law_356 (ct_L_send_3 l hfl hS hc.1 hc.2) wK_L_send wM_L_105 wT_L_send wI_L hd_L_send rfl ⟨rfl, rfl⟩ ⟨by show _ ≤ 601024; omega, by show _ ≤ 7293034; omega⟩ rfl rfl rfl rfl rfl rfl ?_
    refine sg_segs [_, _, _, _, _, _, _, _, _, _, _, _] rfl ?_
    refine sw_istore 359 C dL_law_359 rfl ?_
    refine sw_aload_n 361 2 C dL_law_361 rfl rfl ?_
    refine sw_aload_n 362 0 C dL_law_362 rfl rfl ?_
    refine sw_iload 363 C dL_law_363 rfl ?_
    refine sw_iconst 365 C dL_law_365 1 (by decide) ?_
    refine sw_iadd 366 C dL_law_366 ?_
    refine sw_sld 367 (5 * j + 1) C hX hbl hbA dL_law_367 (nI_add (5 * j) 1) (by omega) (by omega) ?_
    refine sw_top hx1.symm ?_
    refine sw_aload_n 368 0 C dL_law_368 rfl rfl ?_
    refine sw_iload 369 C dL_law_369 rfl ?_
    refine sw_iconst 371 C dL_law_371 2 (by decide) ?_
    refine sw_iadd 372 C dL_law_372 ?_
    refine sw_sld 373 (5 * j + 2) C hX hbl hbA dL_law_373 (nI_add (5 * j) 2) (by omega) (by omega) ?_
    refine sw_top hx2.symm ?_
    refine sw_aload_n 374 0 C dL_law_374 rfl rfl ?_
    refine sw_iload 375 C dL_law_375 rfl ?_
    refine sw_iconst 377 C dL_law_377 3 (by decide) ?_
    refine sw_iadd 378 C dL_law_378 ?_
    refine sw_sld 379 (5 * j + 3) C hX hbl hbA dL_law_379 (nI_add (5 * j) 3) (by omega) (by omega) ?_
    refine sw_top hx3.symm ?_
    refine sg_callVI 380 [10] 3 0 [_] C dL_law_380 (ct_X7_send_2 l hE hO hc.1 hc.2) wK_X7_send wM_L_108 wN_X7_send wS_X7_X7_send wI_X7 hd_X7_send rfl rfl rfl ⟨rfl, rfl⟩ ⟨by show _ ≤ 601024; omega, by show _ ≤ 7293034; omega⟩ rfl rfl rfl rfl rfl rfl ?_
    refine sg_segs [_, _, _, _, _, _, _, _, _, _, _, _] rfl ?_
    refine sw_istore 383 C dL_law_383 rfl ?_
    refine sw_loc (L1 := [(0, .ref _), (1, .ref _), (2, .ref _), (3, .ref _), (4, .int _), (5, .int _), (6, .int _)]) ?_ rfl
    refine sw_aload_n 385 2 C dL_law_385 rfl rfl ?_
    refine sg_callVIP 386 [10] 0 0 C dL_law_386 (ct_X7_thrown l) wK_X7_thrown wM_L_95 wN_X7_thrown wS_X7_X7_thrown wI_X7 hd_X7_thrown rfl rfl rfl ⟨rfl, rfl⟩ ⟨by show _ ≤ 601024; omega, by show _ ≤ 7293034; omega⟩ rfl rfl rfl rfl ?_
    refine sw_iload 389 C dL_law_389 rfl ?_
    refine sw_icmp_eq 391 396 C dL_law_391 (by decide) (fun c_391 => ?_) (fun c_391 => ?_)
    rotate_left
    · exact by first | exact absurd c_391 (rfl) | exact absurd (rfl) c_391
    refine sw_iload 396 C dL_law_396 rfl ?_
    refine sw_if_ne 398 413 C dL_law_398 (by decide) (fun c_398 => ?_) (fun c_398 => ?_)
    rotate_left
    · exact by first | exact absurd c_398 (by decide) | exact absurd (by decide) c_398
    refine sw_goto 413 1546 C dL_law_413 (by decide) ?_
    exact sw_loc (sw_widen (by omega) (by omega) (hk (S) (T) (R) (cn) (od) (ln) (by_) (g) (sa) (pa) (ad) (tx) (nb) (X) (2) (ap) (hh) (fo) (LI.up ⟨hO, hE, hK, hcn, hod, hln, hT⟩))) rfl
  · refine sw_aload_n 336 1 C dL_law_336 rfl rfl ?_
    refine sw_aload_n 337 0 C dL_law_337 rfl rfl ?_
    refine sw_iload 338 C dL_law_338 rfl ?_
    refine sw_iconst 340 C dL_law_340 1 (by decide) ?_
    refine sw_iadd 341 C dL_law_341 ?_
    refine sw_sld 342 (5 * j + 1) C hX hbl hbA dL_law_342 (nI_add (5 * j) 1) (by omega) (by omega) ?_
    refine sw_top hx1.symm ?_
    refine sw_aload_n 343 0 C dL_law_343 rfl rfl ?_
    refine sw_iload 344 C dL_law_344 rfl ?_
    refine sw_iconst 346 C dL_law_346 2 (by decide) ?_
    refine sw_iadd 347 C dL_law_347 ?_
    refine sw_sld 348 (5 * j + 2) C hX hbl hbA dL_law_348 (nI_add (5 * j) 2) (by omega) (by omega) ?_
    refine sw_top hx2.symm ?_
    refine sw_aload_n 349 0 C dL_law_349 rfl rfl ?_
    refine sw_iload 350 C dL_law_350 rfl ?_
    refine sw_iconst 352 C dL_law_352 3 (by decide) ?_
    refine sw_iadd 353 C dL_law_353 ?_
    refine sw_sld 354 (5 * j + 3) C hX hbl hbA dL_law_354 (nI_add (5 * j) 3) (by omega) (by omega) ?_
    refine sw_top hx3.symm ?_
    refine sw_aload_n 355 3 C dL_law_355 rfl rfl ?_
    refine xl_callSI 356 [0, 1, 2, 3, 4, 5, 6, 11] 5 [_, _, _, _, _, _, _, _] C hz hC dL_law_356 (ct_L_send l hfl hS hcn hod hh0 hh1 hh2 hh3 hc.1 hc.2) wK_L_send wM_L_105 wT_L_send wI_L hd_L_send rfl ⟨rfl, rfl⟩ ⟨by show _ ≤ 601024; omega, by show _ ≤ 7293034; omega⟩ rfl rfl rfl rfl rfl rfl ?_
    refine sg_segs [_, _, _, _, _, _, _, _, _, _, _, _] rfl ?_
    refine sw_istore 359 C dL_law_359 rfl ?_
    refine sw_aload_n 361 2 C dL_law_361 rfl rfl ?_
    refine sw_aload_n 362 0 C dL_law_362 rfl rfl ?_
    refine sw_iload 363 C dL_law_363 rfl ?_
    refine sw_iconst 365 C dL_law_365 1 (by decide) ?_
    refine sw_iadd 366 C dL_law_366 ?_
    refine sw_sld 367 (5 * j + 1) C hX hbl hbA dL_law_367 (nI_add (5 * j) 1) (by omega) (by omega) ?_
    refine sw_top hx1.symm ?_
    refine sw_aload_n 368 0 C dL_law_368 rfl rfl ?_
    refine sw_iload 369 C dL_law_369 rfl ?_
    refine sw_iconst 371 C dL_law_371 2 (by decide) ?_
    refine sw_iadd 372 C dL_law_372 ?_
    refine sw_sld 373 (5 * j + 2) C hX hbl hbA dL_law_373 (nI_add (5 * j) 2) (by omega) (by omega) ?_
    refine sw_top hx2.symm ?_
    refine sw_aload_n 374 0 C dL_law_374 rfl rfl ?_
    refine sw_iload 375 C dL_law_375 rfl ?_
    refine sw_iconst 377 C dL_law_377 3 (by decide) ?_
    refine sw_iadd 378 C dL_law_378 ?_
    refine sw_sld 379 (5 * j + 3) C hX hbl hbA dL_law_379 (nI_add (5 * j) 3) (by omega) (by omega) ?_
    refine sw_top hx3.symm ?_
    refine xg_callG 380 [10] 3 0 C dL_law_380 (ct_X7_send l hE hO hK hcn hod hc.1 hc.2) wK_X7_send wM_L_108 wN_X7_send wS_X7_X7_send wI_X7 hd_X7_send rfl rfl rfl ⟨rfl, rfl⟩ ⟨by show _ ≤ 601024; omega, by show _ ≤ 7293034; omega⟩ rfl rfl rfl rfl (fun v_380 w_380 h_380 => ?_)
    obtain ⟨rfl, f1, h1, rfl⟩ := h_380
    refine ⟨[_], rfl, rfl, ?_⟩
    refine sw_st (_ :: _) rfl ?_
    refine sg_segs [_, _, _, _, _, _, _, _, _, _, _, _] rfl ?_
    refine sw_istore 383 C dL_law_383 rfl ?_
    refine sw_loc (L1 := [(0, .ref _), (1, .ref _), (2, .ref _), (3, .ref _), (4, .int _), (5, .int _), (6, .int _)]) ?_ rfl
    refine sw_aload_n 385 2 C dL_law_385 rfl rfl ?_
    refine sg_callVIP 386 [10] 0 0 C dL_law_386 (ct_X7_thrown l) wK_X7_thrown wM_L_95 wN_X7_thrown wS_X7_X7_thrown wI_X7 hd_X7_thrown rfl rfl rfl ⟨rfl, rfl⟩ ⟨by show _ ≤ 601024; omega, by show _ ≤ 7293034; omega⟩ rfl rfl rfl rfl ?_
    refine sw_iload 389 C dL_law_389 rfl ?_
    refine sw_icmp_eq 391 396 C dL_law_391 (by decide) (fun c_391 => ?_) (fun c_391 => ?_)
    rotate_left
    · exact by first | exact absurd c_391 (rfl) | exact absurd (rfl) c_391
    refine sw_iload 396 C dL_law_396 rfl ?_
    refine sw_if_ne 398 413 C dL_law_398 (by decide) (fun c_398 => ?_) (fun c_398 => ?_)
    · exact by first | exact absurd c_398 (fun q => q rfl) | exact absurd (fun q => q rfl) c_398
    refine sw_aload_n 401 3 C dL_law_401 rfl rfl ?_
    refine sw_iconst 402 C dL_law_402 0 (by decide) ?_
    refine sg_laldN 403 11 0 1 (0) C dL_law_403 rfl (by decide) rfl rfl rfl rfl ?_
    refine sw_topL (show vp_updL fo 0 _ 0 = _ from pk_uLs) ?_
    refine sw_iload 404 C dL_law_404 rfl ?_
    refine sw_i2l 406 C dL_law_406 ?_
    refine sw_lcmp 407 C dL_law_407 ?_
    refine sw_if_eq 408 413 C dL_law_408 (by decide) (fun c_408 => ?_) (fun c_408 => ?_)
    rotate_left
    · exact by first | exact absurd c_408 (lcmp_self _) | exact absurd (lcmp_self _) c_408
    refine sw_goto 413 1546 C dL_law_413 (by decide) ?_
    exact sw_loc (sw_widen (by omega) (by omega) (hk (pinS S x1 (-1) x2 x3 0) (T) (va_up R (svI cn od) S) (svC cn) (svO cn od) (ln) (by_) (g) (f1.1) (f1.2) (ad) (tx) (nb) (X) (0) (ap) (hh) (vp_updL fo 0 (zp S).toInt64) (LI.mut ⟨hO, hE, hK, hcn, hod, hln, hT⟩ (mO_send hO hB2 hc.1 (Or.inl rfl) isN_0 hc.2) h1))) rfl
set_option maxHeartbeats 8000000 in
set_option maxRecDepth 100000 in
theorem lo_sendBribed {l : Launch} (hfl : l.stackTraces = false) {p : Program} {e : Env} {s : State} {m : MethodId} {below : List Frame} {meth : Method} {c : Code} {A : Nat → Prop} {D : va_G} {cI cJ cQ : ClassId} {Q : State → Prop} {b LL : Nat} {xs : Nat → Int32} (C : CC p s m #[.ref b] c cL_law 9 RL (Cond.initialized RL :: lw_all) D (tyz cI cJ cQ) A s.heap) (hz : xZ A s) (hC : xC s) (hX : va_X b LL xs s s.heap) (hbl : b < s.heap.size) (hbA : ¬ A b) (hLL : LL ≤ 2560) {x0a a0 a1 a2 a3 a4 a5 a6 a7 tr0 tr1 tr2 tr3 tr4 tr5 tr6 tr7 s0 s1 ra0 ra1 ra2 ra3 ra4 ra5 ra6 ra7 rb0 rb1 rb2 rb3 rb4 rb5 rb6 rb7 rc0 rc1 rc2 rc3 rc4 rc5 rc6 rc7 rd0 rd1 rd2 rd3 rd4 rd5 rd6 rd7 r0 t0 t1 w0 b0 b1 b2 b3 b4 b5 ao : Nat} {h : Nat → Option Nat} (hh0 : h 0 = some ra0) (hh1 : h 1 = some rb0) (hh2 : h 2 = some rc0) (hh3 : h 3 = some rd0) {S T : StT} {R : Nat → StT} {cn od ln : Nat} {by_ g sa pa ad tx nb : Nat → Int32} {X : RS} {th ap : Int32} {hh : Int64} {fo : Nat → Int64} {B j k n : Nat} (hB : B < 100000) (hj : 5 * j + 5 ≤ LL) (hkR : k + 1 ≤ 601024) (hnR : n + 6 ≤ 7293034) (hLI : LI B S R cn od ln by_ sa pa tx) (hk : ∀ (S T : StT) (R : Nat → StT) (cn od ln : Nat) (by_ g sa pa ad tx nb : Nat → Int32) (X : RS) (th ap : Int32) (hh : Int64) (fo : Nat → Int64), LI (B + 100) S R cn od ln by_ sa pa tx → sw p l e room_1 s m #[.ref b] below meth c D A s.heap 9 (k + 1) (n + 6) Q (flatS [[(x0a, .inr (6, [.ref a0, .ref tr0, .ref s0, .ref r0, .ref w0]))], (wSt a0 a1 a2 a3 a4 a5 a6 a7 cI (S)), [(s0, .inr (3, [.int (nI (cn)), .int (nI (od)), .ref s1])), (s1, .inl (cQ, 4, .inr (.inr (.inr (.inr h)))))], (wSt ra0 ra1 ra2 ra3 ra4 ra5 ra6 ra7 cI ((R) 0)), (wSt rb0 rb1 rb2 rb3 rb4 rb5 rb6 rb7 cI ((R) 1)), (wSt rc0 rc1 rc2 rc3 rc4 rc5 rc6 rc7 cI ((R) 2)), (wSt rd0 rd1 rd2 rd3 rd4 rd5 rd6 rd7 cI ((R) 3)), (wSt tr0 tr1 tr2 tr3 tr4 tr5 tr6 tr7 cI (T)), (wRd r0 t0 t1 cI (ln) (by_) (X)), [(w0, .inl (cI, 40, .inl (g)))], [(b0, .inr (7, [.ref b1, .ref b2, .ref b3, .int (nI (cn)), .int (th), .ref b4, .int (nI (ln)), .int (ap), .ref b5, .long (hh)])), (b1, .inl (cI, 424, .inl (sa))), (b2, .inl (cI, 1696, .inl (pa))), (b3, .inl (cI, 424, .inl (ad))), (b4, .inl (cI, 100, .inl (tx))), (b5, .inl (cI, 4, .inl (nb)))], [(ao, .inl (cJ, 1, .inr (.inl (fo))))]]) 1546 [(0, .ref b), (1, .ref x0a), (2, .ref b0), (3, .ref ao), (4, .int (nI (5 * j)))] []) : sw p l e room_1 s m #[.ref b] below meth c D A s.heap 9 k n Q (flatS [[(x0a, .inr (6, [.ref a0, .ref tr0, .ref s0, .ref r0, .ref w0]))], (wSt a0 a1 a2 a3 a4 a5 a6 a7 cI (S)), [(s0, .inr (3, [.int (nI (cn)), .int (nI (od)), .ref s1])), (s1, .inl (cQ, 4, .inr (.inr (.inr (.inr h)))))], (wSt ra0 ra1 ra2 ra3 ra4 ra5 ra6 ra7 cI ((R) 0)), (wSt rb0 rb1 rb2 rb3 rb4 rb5 rb6 rb7 cI ((R) 1)), (wSt rc0 rc1 rc2 rc3 rc4 rc5 rc6 rc7 cI ((R) 2)), (wSt rd0 rd1 rd2 rd3 rd4 rd5 rd6 rd7 cI ((R) 3)), (wSt tr0 tr1 tr2 tr3 tr4 tr5 tr6 tr7 cI (T)), (wRd r0 t0 t1 cI (ln) (by_) (X)), [(w0, .inl (cI, 40, .inl (g)))], [(b0, .inr (7, [.ref b1, .ref b2, .ref b3, .int (nI (cn)), .int (th), .ref b4, .int (nI (ln)), .int (ap), .ref b5, .long (hh)])), (b1, .inl (cI, 424, .inl (sa))), (b2, .inl (cI, 1696, .inl (pa))), (b3, .inl (cI, 424, .inl (ad))), (b4, .inl (cI, 100, .inl (tx))), (b5, .inl (cI, 4, .inl (nb)))], [(ao, .inl (cJ, 1, .inr (.inl (fo))))]]) 416 [(0, .ref b), (1, .ref x0a), (2, .ref b0), (3, .ref ao), (4, .int (nI (5 * j)))] [] := by
  obtain ⟨hO, hE, hK, hcn, hod, hln, hT⟩ := hLI
  have hS := hO.si
  have hB2 : B < 2 ^ 29 := by omega
  obtain ⟨x1, hx1⟩ : ∃ x, x = xs (5 * j + 1) := ⟨_, rfl⟩
  obtain ⟨x2, hx2⟩ : ∃ x, x = xs (5 * j + 2) := ⟨_, rfl⟩
  obtain ⟨x3, hx3⟩ : ∃ x, x = xs (5 * j + 3) := ⟨_, rfl⟩
  obtain ⟨x4, hx4⟩ : ∃ x, x = xs (5 * j + 4) := ⟨_, rfl⟩
  rcases bool4 (okSn x1 x2 x3) (inR x4 1 100) (hrf (zf S) (zn S) (zq S) x1 (-1)) with hc | hc | hc | hc
  · refine sw_aload_n 416 1 C dL_law_416 rfl rfl ?_
    refine sw_aload_n 417 0 C dL_law_417 rfl rfl ?_
    refine sw_iload 418 C dL_law_418 rfl ?_
    refine sw_iconst 420 C dL_law_420 1 (by decide) ?_
    refine sw_iadd 421 C dL_law_421 ?_
    refine sw_sld 422 (5 * j + 1) C hX hbl hbA dL_law_422 (nI_add (5 * j) 1) (by omega) (by omega) ?_
    refine sw_top hx1.symm ?_
    refine sw_aload_n 423 0 C dL_law_423 rfl rfl ?_
    refine sw_iload 424 C dL_law_424 rfl ?_
    refine sw_iconst 426 C dL_law_426 2 (by decide) ?_
    refine sw_iadd 427 C dL_law_427 ?_
    refine sw_sld 428 (5 * j + 2) C hX hbl hbA dL_law_428 (nI_add (5 * j) 2) (by omega) (by omega) ?_
    refine sw_top hx2.symm ?_
    refine sw_aload_n 429 0 C dL_law_429 rfl rfl ?_
    refine sw_iload 430 C dL_law_430 rfl ?_
    refine sw_iconst 432 C dL_law_432 3 (by decide) ?_
    refine sw_iadd 433 C dL_law_433 ?_
    refine sw_sld 434 (5 * j + 3) C hX hbl hbA dL_law_434 (nI_add (5 * j) 3) (by omega) (by omega) ?_
    refine sw_top hx3.symm ?_
    refine sw_aload_n 435 0 C dL_law_435 rfl rfl ?_
    refine sw_iload 436 C dL_law_436 rfl ?_
    refine sw_iconst 438 C dL_law_438 4 (by decide) ?_
    refine sw_iadd 439 C dL_law_439 ?_
    refine sw_sld 440 (5 * j + 4) C hX hbl hbA dL_law_440 (nI_add (5 * j) 4) (by omega) (by omega) ?_
    refine sw_top hx4.symm ?_
    refine sw_aload_n 441 3 C dL_law_441 rfl rfl ?_
    refine xl_callSI 442 [0, 1, 11] 6 [_, _, _] C hz hC dL_law_442 (ct_L_sendBribed_2 l hfl hc) wK_L_sendBribed wM_L_109 wT_L_sendBribed wI_L hd_L_sendBribed rfl ⟨rfl, rfl⟩ ⟨by show _ ≤ 601024; omega, by show _ ≤ 7293034; omega⟩ rfl rfl rfl rfl rfl rfl ?_
    refine sg_segs [_, _, _, _, _, _, _, _, _, _, _, _] rfl ?_
    refine sw_istore 445 C dL_law_445 rfl ?_
    refine sw_aload_n 447 2 C dL_law_447 rfl rfl ?_
    refine sw_aload_n 448 0 C dL_law_448 rfl rfl ?_
    refine sw_iload 449 C dL_law_449 rfl ?_
    refine sw_iconst 451 C dL_law_451 1 (by decide) ?_
    refine sw_iadd 452 C dL_law_452 ?_
    refine sw_sld 453 (5 * j + 1) C hX hbl hbA dL_law_453 (nI_add (5 * j) 1) (by omega) (by omega) ?_
    refine sw_top hx1.symm ?_
    refine sw_aload_n 454 0 C dL_law_454 rfl rfl ?_
    refine sw_iload 455 C dL_law_455 rfl ?_
    refine sw_iconst 457 C dL_law_457 2 (by decide) ?_
    refine sw_iadd 458 C dL_law_458 ?_
    refine sw_sld 459 (5 * j + 2) C hX hbl hbA dL_law_459 (nI_add (5 * j) 2) (by omega) (by omega) ?_
    refine sw_top hx2.symm ?_
    refine sw_aload_n 460 0 C dL_law_460 rfl rfl ?_
    refine sw_iload 461 C dL_law_461 rfl ?_
    refine sw_iconst 463 C dL_law_463 3 (by decide) ?_
    refine sw_iadd 464 C dL_law_464 ?_
    refine sw_sld 465 (5 * j + 3) C hX hbl hbA dL_law_465 (nI_add (5 * j) 3) (by omega) (by omega) ?_
    refine sw_top hx3.symm ?_
    refine sw_aload_n 466 0 C dL_law_466 rfl rfl ?_
    refine sw_iload 467 C dL_law_467 rfl ?_
    refine sw_iconst 469 C dL_law_469 4 (by decide) ?_
    refine sw_iadd 470 C dL_law_470 ?_
    refine sw_sld 471 (5 * j + 4) C hX hbl hbA dL_law_471 (nI_add (5 * j) 4) (by omega) (by omega) ?_
    refine sw_top hx4.symm ?_
    refine sg_callVI 472 [10] 4 0 [_] C dL_law_472 (ct_X7_sendBribed_3 l hc) wK_X7_sendBribed wM_L_112 wN_X7_sendBribed wS_X7_X7_sendBribed wI_X7 hd_X7_sendBribed rfl rfl rfl ⟨rfl, rfl⟩ ⟨by show _ ≤ 601024; omega, by show _ ≤ 7293034; omega⟩ rfl rfl rfl rfl rfl rfl ?_
    refine sg_segs [_, _, _, _, _, _, _, _, _, _, _, _] rfl ?_
    refine sw_istore 475 C dL_law_475 rfl ?_
    refine sw_loc (L1 := [(0, .ref _), (1, .ref _), (2, .ref _), (3, .ref _), (4, .int _), (5, .int _), (6, .int _)]) ?_ rfl
    refine sw_aload_n 477 2 C dL_law_477 rfl rfl ?_
    refine sg_callVIP 478 [10] 0 0 C dL_law_478 (ct_X7_thrown l) wK_X7_thrown wM_L_95 wN_X7_thrown wS_X7_X7_thrown wI_X7 hd_X7_thrown rfl rfl rfl ⟨rfl, rfl⟩ ⟨by show _ ≤ 601024; omega, by show _ ≤ 7293034; omega⟩ rfl rfl rfl rfl ?_
    refine sw_iload 481 C dL_law_481 rfl ?_
    refine sw_icmp_eq 483 488 C dL_law_483 (by decide) (fun c_483 => ?_) (fun c_483 => ?_)
    rotate_left
    · exact by first | exact absurd c_483 (rfl) | exact absurd (rfl) c_483
    refine sw_iload 488 C dL_law_488 rfl ?_
    refine sw_if_ne 490 505 C dL_law_490 (by decide) (fun c_490 => ?_) (fun c_490 => ?_)
    rotate_left
    · exact by first | exact absurd c_490 (by decide) | exact absurd (by decide) c_490
    refine sw_goto 505 1546 C dL_law_505 (by decide) ?_
    exact sw_loc (sw_widen (by omega) (by omega) (hk (S) (T) (R) (cn) (od) (ln) (by_) (g) (sa) (pa) (ad) (tx) (nb) (X) (1) (ap) (hh) (fo) (LI.up ⟨hO, hE, hK, hcn, hod, hln, hT⟩))) rfl
  · refine sw_aload_n 416 1 C dL_law_416 rfl rfl ?_
    refine sw_aload_n 417 0 C dL_law_417 rfl rfl ?_
    refine sw_iload 418 C dL_law_418 rfl ?_
    refine sw_iconst 420 C dL_law_420 1 (by decide) ?_
    refine sw_iadd 421 C dL_law_421 ?_
    refine sw_sld 422 (5 * j + 1) C hX hbl hbA dL_law_422 (nI_add (5 * j) 1) (by omega) (by omega) ?_
    refine sw_top hx1.symm ?_
    refine sw_aload_n 423 0 C dL_law_423 rfl rfl ?_
    refine sw_iload 424 C dL_law_424 rfl ?_
    refine sw_iconst 426 C dL_law_426 2 (by decide) ?_
    refine sw_iadd 427 C dL_law_427 ?_
    refine sw_sld 428 (5 * j + 2) C hX hbl hbA dL_law_428 (nI_add (5 * j) 2) (by omega) (by omega) ?_
    refine sw_top hx2.symm ?_
    refine sw_aload_n 429 0 C dL_law_429 rfl rfl ?_
    refine sw_iload 430 C dL_law_430 rfl ?_
    refine sw_iconst 432 C dL_law_432 3 (by decide) ?_
    refine sw_iadd 433 C dL_law_433 ?_
    refine sw_sld 434 (5 * j + 3) C hX hbl hbA dL_law_434 (nI_add (5 * j) 3) (by omega) (by omega) ?_
    refine sw_top hx3.symm ?_
    refine sw_aload_n 435 0 C dL_law_435 rfl rfl ?_
    refine sw_iload 436 C dL_law_436 rfl ?_
    refine sw_iconst 438 C dL_law_438 4 (by decide) ?_
    refine sw_iadd 439 C dL_law_439 ?_
    refine sw_sld 440 (5 * j + 4) C hX hbl hbA dL_law_440 (nI_add (5 * j) 4) (by omega) (by omega) ?_
    refine sw_top hx4.symm ?_
    refine sw_aload_n 441 3 C dL_law_441 rfl rfl ?_
    refine xl_callSI 442 [0, 1, 11] 6 [_, _, _] C hz hC dL_law_442 (ct_L_sendBribed_3 l hfl hc.1 hc.2) wK_L_sendBribed wM_L_109 wT_L_sendBribed wI_L hd_L_sendBribed rfl ⟨rfl, rfl⟩ ⟨by show _ ≤ 601024; omega, by show _ ≤ 7293034; omega⟩ rfl rfl rfl rfl rfl rfl ?_
    refine sg_segs [_, _, _, _, _, _, _, _, _, _, _, _] rfl ?_
    refine sw_istore 445 C dL_law_445 rfl ?_
    refine sw_aload_n 447 2 C dL_law_447 rfl rfl ?_
    refine sw_aload_n 448 0 C dL_law_448 rfl rfl ?_
    refine sw_iload 449 C dL_law_449 rfl ?_
    refine sw_iconst 451 C dL_law_451 1 (by decide) ?_
    refine sw_iadd 452 C dL_law_452 ?_
    refine sw_sld 453 (5 * j + 1) C hX hbl hbA dL_law_453 (nI_add (5 * j) 1) (by omega) (by omega) ?_
    refine sw_top hx1.symm ?_
    refine sw_aload_n 454 0 C dL_law_454 rfl rfl ?_
    refine sw_iload 455 C dL_law_455 rfl ?_
    refine sw_iconst 457 C dL_law_457 2 (by decide) ?_
    refine sw_iadd 458 C dL_law_458 ?_
    refine sw_sld 459 (5 * j + 2) C hX hbl hbA dL_law_459 (nI_add (5 * j) 2) (by omega) (by omega) ?_
    refine sw_top hx2.symm ?_
    refine sw_aload_n 460 0 C dL_law_460 rfl rfl ?_
    refine sw_iload 461 C dL_law_461 rfl ?_
    refine sw_iconst 463 C dL_law_463 3 (by decide) ?_
    refine sw_iadd 464 C dL_law_464 ?_
    refine sw_sld 465 (5 * j + 3) C hX hbl hbA dL_law_465 (nI_add (5 * j) 3) (by omega) (by omega) ?_
    refine sw_top hx3.symm ?_
    refine sw_aload_n 466 0 C dL_law_466 rfl rfl ?_
    refine sw_iload 467 C dL_law_467 rfl ?_
    refine sw_iconst 469 C dL_law_469 4 (by decide) ?_
    refine sw_iadd 470 C dL_law_470 ?_
    refine sw_sld 471 (5 * j + 4) C hX hbl hbA dL_law_471 (nI_add (5 * j) 4) (by omega) (by omega) ?_
    refine sw_top hx4.symm ?_
    refine sg_callVI 472 [10] 4 0 [_] C dL_law_472 (ct_X7_sendBribed_4 l hc.1 hc.2) wK_X7_sendBribed wM_L_112 wN_X7_sendBribed wS_X7_X7_sendBribed wI_X7 hd_X7_sendBribed rfl rfl rfl ⟨rfl, rfl⟩ ⟨by show _ ≤ 601024; omega, by show _ ≤ 7293034; omega⟩ rfl rfl rfl rfl rfl rfl ?_
    refine sg_segs [_, _, _, _, _, _, _, _, _, _, _, _] rfl ?_
    refine sw_istore 475 C dL_law_475 rfl ?_
    refine sw_loc (L1 := [(0, .ref _), (1, .ref _), (2, .ref _), (3, .ref _), (4, .int _), (5, .int _), (6, .int _)]) ?_ rfl
    refine sw_aload_n 477 2 C dL_law_477 rfl rfl ?_
    refine sg_callVIP 478 [10] 0 0 C dL_law_478 (ct_X7_thrown l) wK_X7_thrown wM_L_95 wN_X7_thrown wS_X7_X7_thrown wI_X7 hd_X7_thrown rfl rfl rfl ⟨rfl, rfl⟩ ⟨by show _ ≤ 601024; omega, by show _ ≤ 7293034; omega⟩ rfl rfl rfl rfl ?_
    refine sw_iload 481 C dL_law_481 rfl ?_
    refine sw_icmp_eq 483 488 C dL_law_483 (by decide) (fun c_483 => ?_) (fun c_483 => ?_)
    rotate_left
    · exact by first | exact absurd c_483 (rfl) | exact absurd (rfl) c_483
    refine sw_iload 488 C dL_law_488 rfl ?_
    refine sw_if_ne 490 505 C dL_law_490 (by decide) (fun c_490 => ?_) (fun c_490 => ?_)
    rotate_left
    · exact by first | exact absurd c_490 (by decide) | exact absurd (by decide) c_490
    refine sw_goto 505 1546 C dL_law_505 (by decide) ?_
    exact sw_loc (sw_widen (by omega) (by omega) (hk (S) (T) (R) (cn) (od) (ln) (by_) (g) (sa) (pa) (ad) (tx) (nb) (X) (1) (ap) (hh) (fo) (LI.up ⟨hO, hE, hK, hcn, hod, hln, hT⟩))) rfl
  · refine sw_aload_n 416 1 C dL_law_416 rfl rfl ?_
    refine sw_aload_n 417 0 C dL_law_417 rfl rfl ?_
    refine sw_iload 418 C dL_law_418 rfl ?_
    refine sw_iconst 420 C dL_law_420 1 (by decide) ?_
    refine sw_iadd 421 C dL_law_421 ?_
    refine sw_sld 422 (5 * j + 1) C hX hbl hbA dL_law_422 (nI_add (5 * j) 1) (by omega) (by omega) ?_
    refine sw_top hx1.symm ?_
    refine sw_aload_n 423 0 C dL_law_423 rfl rfl ?_
    refine sw_iload 424 C dL_law_424 rfl ?_
    refine sw_iconst 426 C dL_law_426 2 (by decide) ?_
    refine sw_iadd 427 C dL_law_427 ?_
    refine sw_sld 428 (5 * j + 2) C hX hbl hbA dL_law_428 (nI_add (5 * j) 2) (by omega) (by omega) ?_
    refine sw_top hx2.symm ?_
    refine sw_aload_n 429 0 C dL_law_429 rfl rfl ?_
    refine sw_iload 430 C dL_law_430 rfl ?_
    refine sw_iconst 432 C dL_law_432 3 (by decide) ?_
    refine sw_iadd 433 C dL_law_433 ?_
    refine sw_sld 434 (5 * j + 3) C hX hbl hbA dL_law_434 (nI_add (5 * j) 3) (by omega) (by omega) ?_
    refine sw_top hx3.symm ?_
    refine sw_aload_n 435 0 C dL_law_435 rfl rfl ?_
    refine sw_iload 436 C dL_law_436 rfl ?_
    refine sw_iconst 438 C dL_law_438 4 (by decide) ?_
    refine sw_iadd 439 C dL_law_439 ?_
    refine sw_sld 440 (5 * j + 4) C hX hbl hbA dL_law_440 (nI_add (5 * j) 4) (by omega) (by omega) ?_
    refine sw_top hx4.symm ?_
    refine sw_aload_n 441 3 C dL_law_441 rfl rfl ?_
    refine xl_callSI 442 [0, 1, 11] 6 [_, _, _] C hz hC dL_law_442 (ct_L_sendBribed_4 l hfl hS hc.1 hc.2.1 hc.2.2) wK_L_sendBribed wM_L_109 wT_L_sendBribed wI_L hd_L_sendBribed rfl ⟨rfl, rfl⟩ ⟨by show _ ≤ 601024; omega, by show _ ≤ 7293034; omega⟩ rfl rfl rfl rfl rfl rfl ?_
    refine sg_segs [_, _, _, _, _, _, _, _, _, _, _, _] rfl ?_
    refine sw_istore 445 C dL_law_445 rfl ?_
    refine sw_aload_n 447 2 C dL_law_447 rfl rfl ?_
    refine sw_aload_n 448 0 C dL_law_448 rfl rfl ?_
    refine sw_iload 449 C dL_law_449 rfl ?_
    refine sw_iconst 451 C dL_law_451 1 (by decide) ?_
    refine sw_iadd 452 C dL_law_452 ?_
    refine sw_sld 453 (5 * j + 1) C hX hbl hbA dL_law_453 (nI_add (5 * j) 1) (by omega) (by omega) ?_
    refine sw_top hx1.symm ?_
    refine sw_aload_n 454 0 C dL_law_454 rfl rfl ?_
    refine sw_iload 455 C dL_law_455 rfl ?_
    refine sw_iconst 457 C dL_law_457 2 (by decide) ?_
    refine sw_iadd 458 C dL_law_458 ?_
    refine sw_sld 459 (5 * j + 2) C hX hbl hbA dL_law_459 (nI_add (5 * j) 2) (by omega) (by omega) ?_
    refine sw_top hx2.symm ?_
    refine sw_aload_n 460 0 C dL_law_460 rfl rfl ?_
    refine sw_iload 461 C dL_law_461 rfl ?_
    refine sw_iconst 463 C dL_law_463 3 (by decide) ?_
    refine sw_iadd 464 C dL_law_464 ?_
    refine sw_sld 465 (5 * j + 3) C hX hbl hbA dL_law_465 (nI_add (5 * j) 3) (by omega) (by omega) ?_
    refine sw_top hx3.symm ?_
    refine sw_aload_n 466 0 C dL_law_466 rfl rfl ?_
    refine sw_iload 467 C dL_law_467 rfl ?_
    refine sw_iconst 469 C dL_law_469 4 (by decide) ?_
    refine sw_iadd 470 C dL_law_470 ?_
    refine sw_sld 471 (5 * j + 4) C hX hbl hbA dL_law_471 (nI_add (5 * j) 4) (by omega) (by omega) ?_
    refine sw_top hx4.symm ?_
    refine sg_callVI 472 [10] 4 0 [_] C dL_law_472 (ct_X7_sendBribed_2 l hE hO hc.1 hc.2.1 hc.2.2) wK_X7_sendBribed wM_L_112 wN_X7_sendBribed wS_X7_X7_sendBribed wI_X7 hd_X7_sendBribed rfl rfl rfl ⟨rfl, rfl⟩ ⟨by show _ ≤ 601024; omega, by show _ ≤ 7293034; omega⟩ rfl rfl rfl rfl rfl rfl ?_
    refine sg_segs [_, _, _, _, _, _, _, _, _, _, _, _] rfl ?_
    refine sw_istore 475 C dL_law_475 rfl ?_
    refine sw_loc (L1 := [(0, .ref _), (1, .ref _), (2, .ref _), (3, .ref _), (4, .int _), (5, .int _), (6, .int _)]) ?_ rfl
    refine sw_aload_n 477 2 C dL_law_477 rfl rfl ?_
    refine sg_callVIP 478 [10] 0 0 C dL_law_478 (ct_X7_thrown l) wK_X7_thrown wM_L_95 wN_X7_thrown wS_X7_X7_thrown wI_X7 hd_X7_thrown rfl rfl rfl ⟨rfl, rfl⟩ ⟨by show _ ≤ 601024; omega, by show _ ≤ 7293034; omega⟩ rfl rfl rfl rfl ?_
    refine sw_iload 481 C dL_law_481 rfl ?_
    refine sw_icmp_eq 483 488 C dL_law_483 (by decide) (fun c_483 => ?_) (fun c_483 => ?_)
    rotate_left
    · exact by first | exact absurd c_483 (rfl) | exact absurd (rfl) c_483
    refine sw_iload 488 C dL_law_488 rfl ?_
    refine sw_if_ne 490 505 C dL_law_490 (by decide) (fun c_490 => ?_) (fun c_490 => ?_)
    rotate_left
    · exact by first | exact absurd c_490 (by decide) | exact absurd (by decide) c_490
    refine sw_goto 505 1546 C dL_law_505 (by decide) ?_
    exact sw_loc (sw_widen (by omega) (by omega) (hk (S) (T) (R) (cn) (od) (ln) (by_) (g) (sa) (pa) (ad) (tx) (nb) (X) (2) (ap) (hh) (fo) (LI.up ⟨hO, hE, hK, hcn, hod, hln, hT⟩))) rfl
  · refine sw_aload_n 416 1 C dL_law_416 rfl rfl ?_
    refine sw_aload_n 417 0 C dL_law_417 rfl rfl ?_
    refine sw_iload 418 C dL_law_418 rfl ?_
    refine sw_iconst 420 C dL_law_420 1 (by decide) ?_
    refine sw_iadd 421 C dL_law_421 ?_
    refine sw_sld 422 (5 * j + 1) C hX hbl hbA dL_law_422 (nI_add (5 * j) 1) (by omega) (by omega) ?_
    refine sw_top hx1.symm ?_
    refine sw_aload_n 423 0 C dL_law_423 rfl rfl ?_
    refine sw_iload 424 C dL_law_424 rfl ?_
    refine sw_iconst 426 C dL_law_426 2 (by decide) ?_
    refine sw_iadd 427 C dL_law_427 ?_
    refine sw_sld 428 (5 * j + 2) C hX hbl hbA dL_law_428 (nI_add (5 * j) 2) (by omega) (by omega) ?_
    refine sw_top hx2.symm ?_
    refine sw_aload_n 429 0 C dL_law_429 rfl rfl ?_
    refine sw_iload 430 C dL_law_430 rfl ?_
    refine sw_iconst 432 C dL_law_432 3 (by decide) ?_
    refine sw_iadd 433 C dL_law_433 ?_
    refine sw_sld 434 (5 * j + 3) C hX hbl hbA dL_law_434 (nI_add (5 * j) 3) (by omega) (by omega) ?_
    refine sw_top hx3.symm ?_
    refine sw_aload_n 435 0 C dL_law_435 rfl rfl ?_
    refine sw_iload 436 C dL_law_436 rfl ?_
    refine sw_iconst 438 C dL_law_438 4 (by decide) ?_
    refine sw_iadd 439 C dL_law_439 ?_
    refine sw_sld 440 (5 * j + 4) C hX hbl hbA dL_law_440 (nI_add (5 * j) 4) (by omega) (by omega) ?_
    refine sw_top hx4.symm ?_
    refine sw_aload_n 441 3 C dL_law_441 rfl rfl ?_
    refine xl_callSI 442 [0, 1, 2, 3, 4, 5, 6, 11] 6 [_, _, _, _, _, _, _, _] C hz hC dL_law_442 (ct_L_sendBribed l hfl hS hcn hod hh0 hh1 hh2 hh3 hc.1 hc.2.1 hc.2.2) wK_L_sendBribed wM_L_109 wT_L_sendBribed wI_L hd_L_sendBribed rfl ⟨rfl, rfl⟩ ⟨by show _ ≤ 601024; omega, by show _ ≤ 7293034; omega⟩ rfl rfl rfl rfl rfl rfl ?_
    refine sg_segs [_, _, _, _, _, _, _, _, _, _, _, _] rfl ?_
    refine sw_istore 445 C dL_law_445 rfl ?_
    refine sw_aload_n 447 2 C dL_law_447 rfl rfl ?_
    refine sw_aload_n 448 0 C dL_law_448 rfl rfl ?_
    refine sw_iload 449 C dL_law_449 rfl ?_
    refine sw_iconst 451 C dL_law_451 1 (by decide) ?_
    refine sw_iadd 452 C dL_law_452 ?_
    refine sw_sld 453 (5 * j + 1) C hX hbl hbA dL_law_453 (nI_add (5 * j) 1) (by omega) (by omega) ?_
    refine sw_top hx1.symm ?_
    refine sw_aload_n 454 0 C dL_law_454 rfl rfl ?_
    refine sw_iload 455 C dL_law_455 rfl ?_
    refine sw_iconst 457 C dL_law_457 2 (by decide) ?_
    refine sw_iadd 458 C dL_law_458 ?_
    refine sw_sld 459 (5 * j + 2) C hX hbl hbA dL_law_459 (nI_add (5 * j) 2) (by omega) (by omega) ?_
    refine sw_top hx2.symm ?_
    refine sw_aload_n 460 0 C dL_law_460 rfl rfl ?_
    refine sw_iload 461 C dL_law_461 rfl ?_
    refine sw_iconst 463 C dL_law_463 3 (by decide) ?_
    refine sw_iadd 464 C dL_law_464 ?_
    refine sw_sld 465 (5 * j + 3) C hX hbl hbA dL_law_465 (nI_add (5 * j) 3) (by omega) (by omega) ?_
    refine sw_top hx3.symm ?_
    refine sw_aload_n 466 0 C dL_law_466 rfl rfl ?_
    refine sw_iload 467 C dL_law_467 rfl ?_
    refine sw_iconst 469 C dL_law_469 4 (by decide) ?_
    refine sw_iadd 470 C dL_law_470 ?_
    refine sw_sld 471 (5 * j + 4) C hX hbl hbA dL_law_471 (nI_add (5 * j) 4) (by omega) (by omega) ?_
    refine sw_top hx4.symm ?_
    refine xg_callG 472 [10] 4 0 C dL_law_472 (ct_X7_sendBribed l hE hO hK hcn hod hc.1 hc.2.1 hc.2.2) wK_X7_sendBribed wM_L_112 wN_X7_sendBribed wS_X7_X7_sendBribed wI_X7 hd_X7_sendBribed rfl rfl rfl ⟨rfl, rfl⟩ ⟨by show _ ≤ 601024; omega, by show _ ≤ 7293034; omega⟩ rfl rfl rfl rfl (fun v_472 w_472 h_472 => ?_)
    obtain ⟨rfl, f1, h1, rfl⟩ := h_472
    refine ⟨[_], rfl, rfl, ?_⟩
    refine sw_st (_ :: _) rfl ?_
    refine sg_segs [_, _, _, _, _, _, _, _, _, _, _, _] rfl ?_
    refine sw_istore 475 C dL_law_475 rfl ?_
    refine sw_loc (L1 := [(0, .ref _), (1, .ref _), (2, .ref _), (3, .ref _), (4, .int _), (5, .int _), (6, .int _)]) ?_ rfl
    refine sw_aload_n 477 2 C dL_law_477 rfl rfl ?_
    refine sg_callVIP 478 [10] 0 0 C dL_law_478 (ct_X7_thrown l) wK_X7_thrown wM_L_95 wN_X7_thrown wS_X7_X7_thrown wI_X7 hd_X7_thrown rfl rfl rfl ⟨rfl, rfl⟩ ⟨by show _ ≤ 601024; omega, by show _ ≤ 7293034; omega⟩ rfl rfl rfl rfl ?_
    refine sw_iload 481 C dL_law_481 rfl ?_
    refine sw_icmp_eq 483 488 C dL_law_483 (by decide) (fun c_483 => ?_) (fun c_483 => ?_)
    rotate_left
    · exact by first | exact absurd c_483 (rfl) | exact absurd (rfl) c_483
    refine sw_iload 488 C dL_law_488 rfl ?_
    refine sw_if_ne 490 505 C dL_law_490 (by decide) (fun c_490 => ?_) (fun c_490 => ?_)
    · exact by first | exact absurd c_490 (fun q => q rfl) | exact absurd (fun q => q rfl) c_490
    refine sw_aload_n 493 3 C dL_law_493 rfl rfl ?_
    refine sw_iconst 494 C dL_law_494 0 (by decide) ?_
    refine sg_laldN 495 11 0 1 (0) C dL_law_495 rfl (by decide) rfl rfl rfl rfl ?_
    refine sw_topL (show vp_updL fo 0 _ 0 = _ from pk_uLs) ?_
    refine sw_iload 496 C dL_law_496 rfl ?_
    refine sw_i2l 498 C dL_law_498 ?_
    refine sw_lcmp 499 C dL_law_499 ?_
    refine sw_if_eq 500 505 C dL_law_500 (by decide) (fun c_500 => ?_) (fun c_500 => ?_)
    rotate_left
    · exact by first | exact absurd c_500 (lcmp_self _) | exact absurd (lcmp_self _) c_500
    refine sw_goto 505 1546 C dL_law_505 (by decide) ?_
    exact sw_loc (sw_widen (by omega) (by omega) (hk (pinS S x1 (-1) x2 x3 x4) (T) (va_up R (svI cn od) S) (svC cn) (svO cn od) (ln) (by_) (g) (f1.1) (f1.2) (ad) (tx) (nb) (X) (0) (ap) (hh) (vp_updL fo 0 (zp S).toInt64) (LI.mut ⟨hO, hE, hK, hcn, hod, hln, hT⟩ (mO_send hO hB2 hc.1 (Or.inl rfl) (isN_b hc.2.1) hc.2.2) h1))) rfl
set_option maxHeartbeats 8000000 in
set_option maxRecDepth 100000 in
theorem lo_sendJoint {l : Launch} (hfl : l.stackTraces = false) {p : Program} {e : Env} {s : State} {m : MethodId} {below : List Frame} {meth : Method} {c : Code} {A : Nat → Prop} {D : va_G} {cI cJ cQ : ClassId} {Q : State → Prop} {b LL : Nat} {xs : Nat → Int32} (C : CC p s m #[.ref b] c cL_law 9 RL (Cond.initialized RL :: lw_all) D (tyz cI cJ cQ) A s.heap) (hz : xZ A s) (hC : xC s) (hX : va_X b LL xs s s.heap) (hbl : b < s.heap.size) (hbA : ¬ A b) (hLL : LL ≤ 2560) {x0a a0 a1 a2 a3 a4 a5 a6 a7 tr0 tr1 tr2 tr3 tr4 tr5 tr6 tr7 s0 s1 ra0 ra1 ra2 ra3 ra4 ra5 ra6 ra7 rb0 rb1 rb2 rb3 rb4 rb5 rb6 rb7 rc0 rc1 rc2 rc3 rc4 rc5 rc6 rc7 rd0 rd1 rd2 rd3 rd4 rd5 rd6 rd7 r0 t0 t1 w0 b0 b1 b2 b3 b4 b5 ao : Nat} {h : Nat → Option Nat} (hh0 : h 0 = some ra0) (hh1 : h 1 = some rb0) (hh2 : h 2 = some rc0) (hh3 : h 3 = some rd0) {S T : StT} {R : Nat → StT} {cn od ln : Nat} {by_ g sa pa ad tx nb : Nat → Int32} {X : RS} {th ap : Int32} {hh : Int64} {fo : Nat → Int64} {B j k n : Nat} (hB : B < 100000) (hj : 5 * j + 5 ≤ LL) (hkR : k + 1 ≤ 601024) (hnR : n + 6 ≤ 7293034) (hLI : LI B S R cn od ln by_ sa pa tx) (hk : ∀ (S T : StT) (R : Nat → StT) (cn od ln : Nat) (by_ g sa pa ad tx nb : Nat → Int32) (X : RS) (th ap : Int32) (hh : Int64) (fo : Nat → Int64), LI (B + 100) S R cn od ln by_ sa pa tx → sw p l e room_1 s m #[.ref b] below meth c D A s.heap 9 (k + 1) (n + 6) Q (flatS [[(x0a, .inr (6, [.ref a0, .ref tr0, .ref s0, .ref r0, .ref w0]))], (wSt a0 a1 a2 a3 a4 a5 a6 a7 cI (S)), [(s0, .inr (3, [.int (nI (cn)), .int (nI (od)), .ref s1])), (s1, .inl (cQ, 4, .inr (.inr (.inr (.inr h)))))], (wSt ra0 ra1 ra2 ra3 ra4 ra5 ra6 ra7 cI ((R) 0)), (wSt rb0 rb1 rb2 rb3 rb4 rb5 rb6 rb7 cI ((R) 1)), (wSt rc0 rc1 rc2 rc3 rc4 rc5 rc6 rc7 cI ((R) 2)), (wSt rd0 rd1 rd2 rd3 rd4 rd5 rd6 rd7 cI ((R) 3)), (wSt tr0 tr1 tr2 tr3 tr4 tr5 tr6 tr7 cI (T)), (wRd r0 t0 t1 cI (ln) (by_) (X)), [(w0, .inl (cI, 40, .inl (g)))], [(b0, .inr (7, [.ref b1, .ref b2, .ref b3, .int (nI (cn)), .int (th), .ref b4, .int (nI (ln)), .int (ap), .ref b5, .long (hh)])), (b1, .inl (cI, 424, .inl (sa))), (b2, .inl (cI, 1696, .inl (pa))), (b3, .inl (cI, 424, .inl (ad))), (b4, .inl (cI, 100, .inl (tx))), (b5, .inl (cI, 4, .inl (nb)))], [(ao, .inl (cJ, 1, .inr (.inl (fo))))]]) 1546 [(0, .ref b), (1, .ref x0a), (2, .ref b0), (3, .ref ao), (4, .int (nI (5 * j)))] []) : sw p l e room_1 s m #[.ref b] below meth c D A s.heap 9 k n Q (flatS [[(x0a, .inr (6, [.ref a0, .ref tr0, .ref s0, .ref r0, .ref w0]))], (wSt a0 a1 a2 a3 a4 a5 a6 a7 cI (S)), [(s0, .inr (3, [.int (nI (cn)), .int (nI (od)), .ref s1])), (s1, .inl (cQ, 4, .inr (.inr (.inr (.inr h)))))], (wSt ra0 ra1 ra2 ra3 ra4 ra5 ra6 ra7 cI ((R) 0)), (wSt rb0 rb1 rb2 rb3 rb4 rb5 rb6 rb7 cI ((R) 1)), (wSt rc0 rc1 rc2 rc3 rc4 rc5 rc6 rc7 cI ((R) 2)), (wSt rd0 rd1 rd2 rd3 rd4 rd5 rd6 rd7 cI ((R) 3)), (wSt tr0 tr1 tr2 tr3 tr4 tr5 tr6 tr7 cI (T)), (wRd r0 t0 t1 cI (ln) (by_) (X)), [(w0, .inl (cI, 40, .inl (g)))], [(b0, .inr (7, [.ref b1, .ref b2, .ref b3, .int (nI (cn)), .int (th), .ref b4, .int (nI (ln)), .int (ap), .ref b5, .long (hh)])), (b1, .inl (cI, 424, .inl (sa))), (b2, .inl (cI, 1696, .inl (pa))), (b3, .inl (cI, 424, .inl (ad))), (b4, .inl (cI, 100, .inl (tx))), (b5, .inl (cI, 4, .inl (nb)))], [(ao, .inl (cJ, 1, .inr (.inl (fo))))]]) 508 [(0, .ref b), (1, .ref x0a), (2, .ref b0), (3, .ref ao), (4, .int (nI (5 * j)))] [] := by
  obtain ⟨hO, hE, hK, hcn, hod, hln, hT⟩ := hLI
  have hS := hO.si
  have hB2 : B < 2 ^ 29 := by omega
  obtain ⟨x1, hx1⟩ : ∃ x, x = xs (5 * j + 1) := ⟨_, rfl⟩
  obtain ⟨x2, hx2⟩ : ∃ x, x = xs (5 * j + 2) := ⟨_, rfl⟩
  obtain ⟨x3, hx3⟩ : ∃ x, x = xs (5 * j + 3) := ⟨_, rfl⟩
  obtain ⟨x4, hx4⟩ : ∃ x, x = xs (5 * j + 4) := ⟨_, rfl⟩
  rcases bool5 (okSn x1 x3 x4) (inR x2 0 7) (x2 = x1) (hrf (zf S) (zn S) (zq S) x1 (x2)) with hc | hc | hc | hc | hc
  · refine sw_aload_n 508 1 C dL_law_508 rfl rfl ?_
    refine sw_aload_n 509 0 C dL_law_509 rfl rfl ?_
    refine sw_iload 510 C dL_law_510 rfl ?_
    refine sw_iconst 512 C dL_law_512 1 (by decide) ?_
    refine sw_iadd 513 C dL_law_513 ?_
    refine sw_sld 514 (5 * j + 1) C hX hbl hbA dL_law_514 (nI_add (5 * j) 1) (by omega) (by omega) ?_
    refine sw_top hx1.symm ?_
    refine sw_aload_n 515 0 C dL_law_515 rfl rfl ?_
    refine sw_iload 516 C dL_law_516 rfl ?_
    refine sw_iconst 518 C dL_law_518 2 (by decide) ?_
    refine sw_iadd 519 C dL_law_519 ?_
    refine sw_sld 520 (5 * j + 2) C hX hbl hbA dL_law_520 (nI_add (5 * j) 2) (by omega) (by omega) ?_
    refine sw_top hx2.symm ?_
    refine sw_aload_n 521 0 C dL_law_521 rfl rfl ?_
    refine sw_iload 522 C dL_law_522 rfl ?_
    refine sw_iconst 524 C dL_law_524 3 (by decide) ?_
    refine sw_iadd 525 C dL_law_525 ?_
    refine sw_sld 526 (5 * j + 3) C hX hbl hbA dL_law_526 (nI_add (5 * j) 3) (by omega) (by omega) ?_
    refine sw_top hx3.symm ?_
    refine sw_aload_n 527 0 C dL_law_527 rfl rfl ?_
    refine sw_iload 528 C dL_law_528 rfl ?_
    refine sw_iconst 530 C dL_law_530 4 (by decide) ?_
    refine sw_iadd 531 C dL_law_531 ?_
    refine sw_sld 532 (5 * j + 4) C hX hbl hbA dL_law_532 (nI_add (5 * j) 4) (by omega) (by omega) ?_
    refine sw_top hx4.symm ?_
    refine sw_aload_n 533 3 C dL_law_533 rfl rfl ?_
    refine xl_callSI 534 [0, 1, 11] 6 [_, _, _] C hz hC dL_law_534 (ct_L_sendJoint_2 l hfl hc) wK_L_sendJoint wM_L_113 wT_L_sendJoint wI_L hd_L_sendJoint rfl ⟨rfl, rfl⟩ ⟨by show _ ≤ 601024; omega, by show _ ≤ 7293034; omega⟩ rfl rfl rfl rfl rfl rfl ?_
    refine sg_segs [_, _, _, _, _, _, _, _, _, _, _, _] rfl ?_
    refine sw_istore 537 C dL_law_537 rfl ?_
    refine sw_aload_n 539 2 C dL_law_539 rfl rfl ?_
    refine sw_aload_n 540 0 C dL_law_540 rfl rfl ?_
    refine sw_iload 541 C dL_law_541 rfl ?_
    refine sw_iconst 543 C dL_law_543 1 (by decide) ?_
    refine sw_iadd 544 C dL_law_544 ?_
    refine sw_sld 545 (5 * j + 1) C hX hbl hbA dL_law_545 (nI_add (5 * j) 1) (by omega) (by omega) ?_
    refine sw_top hx1.symm ?_
    refine sw_aload_n 546 0 C dL_law_546 rfl rfl ?_
    refine sw_iload 547 C dL_law_547 rfl ?_
    refine sw_iconst 549 C dL_law_549 2 (by decide) ?_
    refine sw_iadd 550 C dL_law_550 ?_
    refine sw_sld 551 (5 * j + 2) C hX hbl hbA dL_law_551 (nI_add (5 * j) 2) (by omega) (by omega) ?_
    refine sw_top hx2.symm ?_
    refine sw_aload_n 552 0 C dL_law_552 rfl rfl ?_
    refine sw_iload 553 C dL_law_553 rfl ?_
    refine sw_iconst 555 C dL_law_555 3 (by decide) ?_
    refine sw_iadd 556 C dL_law_556 ?_
    refine sw_sld 557 (5 * j + 3) C hX hbl hbA dL_law_557 (nI_add (5 * j) 3) (by omega) (by omega) ?_
    refine sw_top hx3.symm ?_
    refine sw_aload_n 558 0 C dL_law_558 rfl rfl ?_
    refine sw_iload 559 C dL_law_559 rfl ?_
    refine sw_iconst 561 C dL_law_561 4 (by decide) ?_
    refine sw_iadd 562 C dL_law_562 ?_
    refine sw_sld 563 (5 * j + 4) C hX hbl hbA dL_law_563 (nI_add (5 * j) 4) (by omega) (by omega) ?_
    refine sw_top hx4.symm ?_
    refine sg_callVI 564 [10] 4 0 [_] C dL_law_564 (ct_X7_sendJoint_3 l hc) wK_X7_sendJoint wM_L_115 wN_X7_sendJoint wS_X7_X7_sendJoint wI_X7 hd_X7_sendJoint rfl rfl rfl ⟨rfl, rfl⟩ ⟨by show _ ≤ 601024; omega, by show _ ≤ 7293034; omega⟩ rfl rfl rfl rfl rfl rfl ?_
    refine sg_segs [_, _, _, _, _, _, _, _, _, _, _, _] rfl ?_
    refine sw_istore 567 C dL_law_567 rfl ?_
    refine sw_loc (L1 := [(0, .ref _), (1, .ref _), (2, .ref _), (3, .ref _), (4, .int _), (5, .int _), (6, .int _)]) ?_ rfl
    refine sw_aload_n 569 2 C dL_law_569 rfl rfl ?_
    refine sg_callVIP 570 [10] 0 0 C dL_law_570 (ct_X7_thrown l) wK_X7_thrown wM_L_95 wN_X7_thrown wS_X7_X7_thrown wI_X7 hd_X7_thrown rfl rfl rfl ⟨rfl, rfl⟩ ⟨by show _ ≤ 601024; omega, by show _ ≤ 7293034; omega⟩ rfl rfl rfl rfl ?_
    refine sw_iload 573 C dL_law_573 rfl ?_
    refine sw_icmp_eq 575 580 C dL_law_575 (by decide) (fun c_575 => ?_) (fun c_575 => ?_)
    rotate_left
    · exact by first | exact absurd c_575 (rfl) | exact absurd (rfl) c_575
    refine sw_iload 580 C dL_law_580 rfl ?_
    refine sw_if_ne 582 597 C dL_law_582 (by decide) (fun c_582 => ?_) (fun c_582 => ?_)
    rotate_left
    · exact by first | exact absurd c_582 (by decide) | exact absurd (by decide) c_582
    refine sw_goto 597 1546 C dL_law_597 (by decide) ?_
    exact sw_loc (sw_widen (by omega) (by omega) (hk (S) (T) (R) (cn) (od) (ln) (by_) (g) (sa) (pa) (ad) (tx) (nb) (X) (1) (ap) (hh) (fo) (LI.up ⟨hO, hE, hK, hcn, hod, hln, hT⟩))) rfl
  · refine sw_aload_n 508 1 C dL_law_508 rfl rfl ?_
    refine sw_aload_n 509 0 C dL_law_509 rfl rfl ?_
    refine sw_iload 510 C dL_law_510 rfl ?_
    refine sw_iconst 512 C dL_law_512 1 (by decide) ?_
    refine sw_iadd 513 C dL_law_513 ?_
    refine sw_sld 514 (5 * j + 1) C hX hbl hbA dL_law_514 (nI_add (5 * j) 1) (by omega) (by omega) ?_
    refine sw_top hx1.symm ?_
    refine sw_aload_n 515 0 C dL_law_515 rfl rfl ?_
    refine sw_iload 516 C dL_law_516 rfl ?_
    refine sw_iconst 518 C dL_law_518 2 (by decide) ?_
    refine sw_iadd 519 C dL_law_519 ?_
    refine sw_sld 520 (5 * j + 2) C hX hbl hbA dL_law_520 (nI_add (5 * j) 2) (by omega) (by omega) ?_
    refine sw_top hx2.symm ?_
    refine sw_aload_n 521 0 C dL_law_521 rfl rfl ?_
    refine sw_iload 522 C dL_law_522 rfl ?_
    refine sw_iconst 524 C dL_law_524 3 (by decide) ?_
    refine sw_iadd 525 C dL_law_525 ?_
    refine sw_sld 526 (5 * j + 3) C hX hbl hbA dL_law_526 (nI_add (5 * j) 3) (by omega) (by omega) ?_
    refine sw_top hx3.symm ?_
    refine sw_aload_n 527 0 C dL_law_527 rfl rfl ?_
    refine sw_iload 528 C dL_law_528 rfl ?_
    refine sw_iconst 530 C dL_law_530 4 (by decide) ?_
    refine sw_iadd 531 C dL_law_531 ?_
    refine sw_sld 532 (5 * j + 4) C hX hbl hbA dL_law_532 (nI_add (5 * j) 4) (by omega) (by omega) ?_
    refine sw_top hx4.symm ?_
    refine sw_aload_n 533 3 C dL_law_533 rfl rfl ?_
    refine xl_callSI 534 [0, 1, 11] 6 [_, _, _] C hz hC dL_law_534 (ct_L_sendJoint_3 l hfl hc.1 hc.2) wK_L_sendJoint wM_L_113 wT_L_sendJoint wI_L hd_L_sendJoint rfl ⟨rfl, rfl⟩ ⟨by show _ ≤ 601024; omega, by show _ ≤ 7293034; omega⟩ rfl rfl rfl rfl rfl rfl ?_
    refine sg_segs [_, _, _, _, _, _, _, _, _, _, _, _] rfl ?_
    refine sw_istore 537 C dL_law_537 rfl ?_
    refine sw_aload_n 539 2 C dL_law_539 rfl rfl ?_
    refine sw_aload_n 540 0 C dL_law_540 rfl rfl ?_
    refine sw_iload 541 C dL_law_541 rfl ?_
    refine sw_iconst 543 C dL_law_543 1 (by decide) ?_
    refine sw_iadd 544 C dL_law_544 ?_
    refine sw_sld 545 (5 * j + 1) C hX hbl hbA dL_law_545 (nI_add (5 * j) 1) (by omega) (by omega) ?_
    refine sw_top hx1.symm ?_
    refine sw_aload_n 546 0 C dL_law_546 rfl rfl ?_
    refine sw_iload 547 C dL_law_547 rfl ?_
    refine sw_iconst 549 C dL_law_549 2 (by decide) ?_
    refine sw_iadd 550 C dL_law_550 ?_
    refine sw_sld 551 (5 * j + 2) C hX hbl hbA dL_law_551 (nI_add (5 * j) 2) (by omega) (by omega) ?_
    refine sw_top hx2.symm ?_
    refine sw_aload_n 552 0 C dL_law_552 rfl rfl ?_
    refine sw_iload 553 C dL_law_553 rfl ?_
    refine sw_iconst 555 C dL_law_555 3 (by decide) ?_
    refine sw_iadd 556 C dL_law_556 ?_
    refine sw_sld 557 (5 * j + 3) C hX hbl hbA dL_law_557 (nI_add (5 * j) 3) (by omega) (by omega) ?_
    refine sw_top hx3.symm ?_
    refine sw_aload_n 558 0 C dL_law_558 rfl rfl ?_
    refine sw_iload 559 C dL_law_559 rfl ?_
    refine sw_iconst 561 C dL_law_561 4 (by decide) ?_
    refine sw_iadd 562 C dL_law_562 ?_
    refine sw_sld 563 (5 * j + 4) C hX hbl hbA dL_law_563 (nI_add (5 * j) 4) (by omega) (by omega) ?_
    refine sw_top hx4.symm ?_
    refine sg_callVI 564 [10] 4 0 [_] C dL_law_564 (ct_X7_sendJoint_4 l hc.1 hc.2) wK_X7_sendJoint wM_L_115 wN_X7_sendJoint wS_X7_X7_sendJoint wI_X7 hd_X7_sendJoint rfl rfl rfl ⟨rfl, rfl⟩ ⟨by show _ ≤ 601024; omega, by show _ ≤ 7293034; omega⟩ rfl rfl rfl rfl rfl rfl ?_
    refine sg_segs [_, _, _, _, _, _, _, _, _, _, _, _] rfl ?_
    refine sw_istore 567 C dL_law_567 rfl ?_
    refine sw_loc (L1 := [(0, .ref _), (1, .ref _), (2, .ref _), (3, .ref _), (4, .int _), (5, .int _), (6, .int _)]) ?_ rfl
    refine sw_aload_n 569 2 C dL_law_569 rfl rfl ?_
    refine sg_callVIP 570 [10] 0 0 C dL_law_570 (ct_X7_thrown l) wK_X7_thrown wM_L_95 wN_X7_thrown wS_X7_X7_thrown wI_X7 hd_X7_thrown rfl rfl rfl ⟨rfl, rfl⟩ ⟨by show _ ≤ 601024; omega, by show _ ≤ 7293034; omega⟩ rfl rfl rfl rfl ?_
    refine sw_iload 573 C dL_law_573 rfl ?_
    refine sw_icmp_eq 575 580 C dL_law_575 (by decide) (fun c_575 => ?_) (fun c_575 => ?_)
    rotate_left
    · exact by first | exact absurd c_575 (rfl) | exact absurd (rfl) c_575
    refine sw_iload 580 C dL_law_580 rfl ?_
    refine sw_if_ne 582 597 C dL_law_582 (by decide) (fun c_582 => ?_) (fun c_582 => ?_)
    rotate_left
    · exact by first | exact absurd c_582 (by decide) | exact absurd (by decide) c_582
    refine sw_goto 597 1546 C dL_law_597 (by decide) ?_
    exact sw_loc (sw_widen (by omega) (by omega) (hk (S) (T) (R) (cn) (od) (ln) (by_) (g) (sa) (pa) (ad) (tx) (nb) (X) (1) (ap) (hh) (fo) (LI.up ⟨hO, hE, hK, hcn, hod, hln, hT⟩))) rfl
  · refine sw_aload_n 508 1 C dL_law_508 rfl rfl ?_
    refine sw_aload_n 509 0 C dL_law_509 rfl rfl ?_
    refine sw_iload 510 C dL_law_510 rfl ?_
    refine sw_iconst 512 C dL_law_512 1 (by decide) ?_
    refine sw_iadd 513 C dL_law_513 ?_
    refine sw_sld 514 (5 * j + 1) C hX hbl hbA dL_law_514 (nI_add (5 * j) 1) (by omega) (by omega) ?_
    refine sw_top hx1.symm ?_
    refine sw_aload_n 515 0 C dL_law_515 rfl rfl ?_
    refine sw_iload 516 C dL_law_516 rfl ?_
    refine sw_iconst 518 C dL_law_518 2 (by decide) ?_
    refine sw_iadd 519 C dL_law_519 ?_
    refine sw_sld 520 (5 * j + 2) C hX hbl hbA dL_law_520 (nI_add (5 * j) 2) (by omega) (by omega) ?_
    refine sw_top hx2.symm ?_
    refine sw_aload_n 521 0 C dL_law_521 rfl rfl ?_
    refine sw_iload 522 C dL_law_522 rfl ?_
    refine sw_iconst 524 C dL_law_524 3 (by decide) ?_
    refine sw_iadd 525 C dL_law_525 ?_
    refine sw_sld 526 (5 * j + 3) C hX hbl hbA dL_law_526 (nI_add (5 * j) 3) (by omega) (by omega) ?_
    refine sw_top hx3.symm ?_
    refine sw_aload_n 527 0 C dL_law_527 rfl rfl ?_
    refine sw_iload 528 C dL_law_528 rfl ?_
    refine sw_iconst 530 C dL_law_530 4 (by decide) ?_
    refine sw_iadd 531 C dL_law_531 ?_
    refine sw_sld 532 (5 * j + 4) C hX hbl hbA dL_law_532 (nI_add (5 * j) 4) (by omega) (by omega) ?_
    refine sw_top hx4.symm ?_
    refine sw_aload_n 533 3 C dL_law_533 rfl rfl ?_
    refine xl_callSI 534 [0, 1, 11] 6 [_, _, _] C hz hC dL_law_534 (ct_L_sendJoint_4 l hfl hc.1 hc.2.1 hc.2.2) wK_L_sendJoint wM_L_113 wT_L_sendJoint wI_L hd_L_sendJoint rfl ⟨rfl, rfl⟩ ⟨by show _ ≤ 601024; omega, by show _ ≤ 7293034; omega⟩ rfl rfl rfl rfl rfl rfl ?_
    refine sg_segs [_, _, _, _, _, _, _, _, _, _, _, _] rfl ?_
    refine sw_istore 537 C dL_law_537 rfl ?_
    refine sw_aload_n 539 2 C dL_law_539 rfl rfl ?_
    refine sw_aload_n 540 0 C dL_law_540 rfl rfl ?_
    refine sw_iload 541 C dL_law_541 rfl ?_
    refine sw_iconst 543 C dL_law_543 1 (by decide) ?_
    refine sw_iadd 544 C dL_law_544 ?_
    refine sw_sld 545 (5 * j + 1) C hX hbl hbA dL_law_545 (nI_add (5 * j) 1) (by omega) (by omega) ?_
    refine sw_top hx1.symm ?_
    refine sw_aload_n 546 0 C dL_law_546 rfl rfl ?_
    refine sw_iload 547 C dL_law_547 rfl ?_
    refine sw_iconst 549 C dL_law_549 2 (by decide) ?_
    refine sw_iadd 550 C dL_law_550 ?_
    refine sw_sld 551 (5 * j + 2) C hX hbl hbA dL_law_551 (nI_add (5 * j) 2) (by omega) (by omega) ?_
    refine sw_top hx2.symm ?_
    refine sw_aload_n 552 0 C dL_law_552 rfl rfl ?_
    refine sw_iload 553 C dL_law_553 rfl ?_
    refine sw_iconst 555 C dL_law_555 3 (by decide) ?_
    refine sw_iadd 556 C dL_law_556 ?_
    refine sw_sld 557 (5 * j + 3) C hX hbl hbA dL_law_557 (nI_add (5 * j) 3) (by omega) (by omega) ?_
    refine sw_top hx3.symm ?_
    refine sw_aload_n 558 0 C dL_law_558 rfl rfl ?_
    refine sw_iload 559 C dL_law_559 rfl ?_
    refine sw_iconst 561 C dL_law_561 4 (by decide) ?_
    refine sw_iadd 562 C dL_law_562 ?_
    refine sw_sld 563 (5 * j + 4) C hX hbl hbA dL_law_563 (nI_add (5 * j) 4) (by omega) (by omega) ?_
    refine sw_top hx4.symm ?_
    refine sg_callVI 564 [10] 4 0 [_] C dL_law_564 (ct_X7_sendJoint_5 l hc.1 hc.2.1 hc.2.2.symm) wK_X7_sendJoint wM_L_115 wN_X7_sendJoint wS_X7_X7_sendJoint wI_X7 hd_X7_sendJoint rfl rfl rfl ⟨rfl, rfl⟩ ⟨by show _ ≤ 601024; omega, by show _ ≤ 7293034; omega⟩ rfl rfl rfl rfl rfl rfl ?_
    refine sg_segs [_, _, _, _, _, _, _, _, _, _, _, _] rfl ?_
    refine sw_istore 567 C dL_law_567 rfl ?_
    refine sw_loc (L1 := [(0, .ref _), (1, .ref _), (2, .ref _), (3, .ref _), (4, .int _), (5, .int _), (6, .int _)]) ?_ rfl
    refine sw_aload_n 569 2 C dL_law_569 rfl rfl ?_
    refine sg_callVIP 570 [10] 0 0 C dL_law_570 (ct_X7_thrown l) wK_X7_thrown wM_L_95 wN_X7_thrown wS_X7_X7_thrown wI_X7 hd_X7_thrown rfl rfl rfl ⟨rfl, rfl⟩ ⟨by show _ ≤ 601024; omega, by show _ ≤ 7293034; omega⟩ rfl rfl rfl rfl ?_
    refine sw_iload 573 C dL_law_573 rfl ?_
    refine sw_icmp_eq 575 580 C dL_law_575 (by decide) (fun c_575 => ?_) (fun c_575 => ?_)
    rotate_left
    · exact by first | exact absurd c_575 (rfl) | exact absurd (rfl) c_575
    refine sw_iload 580 C dL_law_580 rfl ?_
    refine sw_if_ne 582 597 C dL_law_582 (by decide) (fun c_582 => ?_) (fun c_582 => ?_)
    rotate_left
    · exact by first | exact absurd c_582 (by decide) | exact absurd (by decide) c_582
    refine sw_goto 597 1546 C dL_law_597 (by decide) ?_
    exact sw_loc (sw_widen (by omega) (by omega) (hk (S) (T) (R) (cn) (od) (ln) (by_) (g) (sa) (pa) (ad) (tx) (nb) (X) (1) (ap) (hh) (fo) (LI.up ⟨hO, hE, hK, hcn, hod, hln, hT⟩))) rfl
  · refine sw_aload_n 508 1 C dL_law_508 rfl rfl ?_
    refine sw_aload_n 509 0 C dL_law_509 rfl rfl ?_
    refine sw_iload 510 C dL_law_510 rfl ?_
    refine sw_iconst 512 C dL_law_512 1 (by decide) ?_
    refine sw_iadd 513 C dL_law_513 ?_
    refine sw_sld 514 (5 * j + 1) C hX hbl hbA dL_law_514 (nI_add (5 * j) 1) (by omega) (by omega) ?_
    refine sw_top hx1.symm ?_
    refine sw_aload_n 515 0 C dL_law_515 rfl rfl ?_
    refine sw_iload 516 C dL_law_516 rfl ?_
    refine sw_iconst 518 C dL_law_518 2 (by decide) ?_
    refine sw_iadd 519 C dL_law_519 ?_
    refine sw_sld 520 (5 * j + 2) C hX hbl hbA dL_law_520 (nI_add (5 * j) 2) (by omega) (by omega) ?_
    refine sw_top hx2.symm ?_
    refine sw_aload_n 521 0 C dL_law_521 rfl rfl ?_
    refine sw_iload 522 C dL_law_522 rfl ?_
    refine sw_iconst 524 C dL_law_524 3 (by decide) ?_
    refine sw_iadd 525 C dL_law_525 ?_
    refine sw_sld 526 (5 * j + 3) C hX hbl hbA dL_law_526 (nI_add (5 * j) 3) (by omega) (by omega) ?_
    refine sw_top hx3.symm ?_
    refine sw_aload_n 527 0 C dL_law_527 rfl rfl ?_
    refine sw_iload 528 C dL_law_528 rfl ?_
    refine sw_iconst 530 C dL_law_530 4 (by decide) ?_
    refine sw_iadd 531 C dL_law_531 ?_
    refine sw_sld 532 (5 * j + 4) C hX hbl hbA dL_law_532 (nI_add (5 * j) 4) (by omega) (by omega) ?_
    refine sw_top hx4.symm ?_
    refine sw_aload_n 533 3 C dL_law_533 rfl rfl ?_
    refine xl_callSI 534 [0, 1, 11] 6 [_, _, _] C hz hC dL_law_534 (ct_L_sendJoint_5 l hfl hS hc.1 hc.2.1 hc.2.2.1 hc.2.2.2) wK_L_sendJoint wM_L_113 wT_L_sendJoint wI_L hd_L_sendJoint rfl ⟨rfl, rfl⟩ ⟨by show _ ≤ 601024; omega, by show _ ≤ 7293034; omega⟩ rfl rfl rfl rfl rfl rfl ?_
    refine sg_segs [_, _, _, _, _, _, _, _, _, _, _, _] rfl ?_
    refine sw_istore 537 C dL_law_537 rfl ?_
    refine sw_aload_n 539 2 C dL_law_539 rfl rfl ?_
    refine sw_aload_n 540 0 C dL_law_540 rfl rfl ?_
    refine sw_iload 541 C dL_law_541 rfl ?_
    refine sw_iconst 543 C dL_law_543 1 (by decide) ?_
    refine sw_iadd 544 C dL_law_544 ?_
    refine sw_sld 545 (5 * j + 1) C hX hbl hbA dL_law_545 (nI_add (5 * j) 1) (by omega) (by omega) ?_
    refine sw_top hx1.symm ?_
    refine sw_aload_n 546 0 C dL_law_546 rfl rfl ?_
    refine sw_iload 547 C dL_law_547 rfl ?_
    refine sw_iconst 549 C dL_law_549 2 (by decide) ?_
    refine sw_iadd 550 C dL_law_550 ?_
    refine sw_sld 551 (5 * j + 2) C hX hbl hbA dL_law_551 (nI_add (5 * j) 2) (by omega) (by omega) ?_
    refine sw_top hx2.symm ?_
    refine sw_aload_n 552 0 C dL_law_552 rfl rfl ?_
    refine sw_iload 553 C dL_law_553 rfl ?_
    refine sw_iconst 555 C dL_law_555 3 (by decide) ?_
    refine sw_iadd 556 C dL_law_556 ?_
    refine sw_sld 557 (5 * j + 3) C hX hbl hbA dL_law_557 (nI_add (5 * j) 3) (by omega) (by omega) ?_
    refine sw_top hx3.symm ?_
    refine sw_aload_n 558 0 C dL_law_558 rfl rfl ?_
    refine sw_iload 559 C dL_law_559 rfl ?_
    refine sw_iconst 561 C dL_law_561 4 (by decide) ?_
    refine sw_iadd 562 C dL_law_562 ?_
    refine sw_sld 563 (5 * j + 4) C hX hbl hbA dL_law_563 (nI_add (5 * j) 4) (by omega) (by omega) ?_
    refine sw_top hx4.symm ?_
    refine sg_callVI 564 [10] 4 0 [_] C dL_law_564 (ct_X7_sendJoint_2 l hE hO hc.1 hc.2.1 (fun z => hc.2.2.1 z.symm) hc.2.2.2) wK_X7_sendJoint wM_L_115 wN_X7_sendJoint wS_X7_X7_sendJoint wI_X7 hd_X7_sendJoint rfl rfl rfl ⟨rfl, rfl⟩ ⟨by show _ ≤ 601024; omega, by show _ ≤ 7293034; omega⟩ rfl rfl rfl rfl rfl rfl ?_
    refine sg_segs [_, _, _, _, _, _, _, _, _, _, _, _] rfl ?_
    refine sw_istore 567 C dL_law_567 rfl ?_
    refine sw_loc (L1 := [(0, .ref _), (1, .ref _), (2, .ref _), (3, .ref _), (4, .int _), (5, .int _), (6, .int _)]) ?_ rfl
    refine sw_aload_n 569 2 C dL_law_569 rfl rfl ?_
    refine sg_callVIP 570 [10] 0 0 C dL_law_570 (ct_X7_thrown l) wK_X7_thrown wM_L_95 wN_X7_thrown wS_X7_X7_thrown wI_X7 hd_X7_thrown rfl rfl rfl ⟨rfl, rfl⟩ ⟨by show _ ≤ 601024; omega, by show _ ≤ 7293034; omega⟩ rfl rfl rfl rfl ?_
    refine sw_iload 573 C dL_law_573 rfl ?_
    refine sw_icmp_eq 575 580 C dL_law_575 (by decide) (fun c_575 => ?_) (fun c_575 => ?_)
    rotate_left
    · exact by first | exact absurd c_575 (rfl) | exact absurd (rfl) c_575
    refine sw_iload 580 C dL_law_580 rfl ?_
    refine sw_if_ne 582 597 C dL_law_582 (by decide) (fun c_582 => ?_) (fun c_582 => ?_)
    rotate_left
    · exact by first | exact absurd c_582 (by decide) | exact absurd (by decide) c_582
    refine sw_goto 597 1546 C dL_law_597 (by decide) ?_
    exact sw_loc (sw_widen (by omega) (by omega) (hk (S) (T) (R) (cn) (od) (ln) (by_) (g) (sa) (pa) (ad) (tx) (nb) (X) (2) (ap) (hh) (fo) (LI.up ⟨hO, hE, hK, hcn, hod, hln, hT⟩))) rfl
  · refine sw_aload_n 508 1 C dL_law_508 rfl rfl ?_
    refine sw_aload_n 509 0 C dL_law_509 rfl rfl ?_
    refine sw_iload 510 C dL_law_510 rfl ?_
    refine sw_iconst 512 C dL_law_512 1 (by decide) ?_
    refine sw_iadd 513 C dL_law_513 ?_
    refine sw_sld 514 (5 * j + 1) C hX hbl hbA dL_law_514 (nI_add (5 * j) 1) (by omega) (by omega) ?_
    refine sw_top hx1.symm ?_
    refine sw_aload_n 515 0 C dL_law_515 rfl rfl ?_
    refine sw_iload 516 C dL_law_516 rfl ?_
    refine sw_iconst 518 C dL_law_518 2 (by decide) ?_
    refine sw_iadd 519 C dL_law_519 ?_
    refine sw_sld 520 (5 * j + 2) C hX hbl hbA dL_law_520 (nI_add (5 * j) 2) (by omega) (by omega) ?_
    refine sw_top hx2.symm ?_
    refine sw_aload_n 521 0 C dL_law_521 rfl rfl ?_
    refine sw_iload 522 C dL_law_522 rfl ?_
    refine sw_iconst 524 C dL_law_524 3 (by decide) ?_
    refine sw_iadd 525 C dL_law_525 ?_
    refine sw_sld 526 (5 * j + 3) C hX hbl hbA dL_law_526 (nI_add (5 * j) 3) (by omega) (by omega) ?_
    refine sw_top hx3.symm ?_
    refine sw_aload_n 527 0 C dL_law_527 rfl rfl ?_
    refine sw_iload 528 C dL_law_528 rfl ?_
    refine sw_iconst 530 C dL_law_530 4 (by decide) ?_
    refine sw_iadd 531 C dL_law_531 ?_
    refine sw_sld 532 (5 * j + 4) C hX hbl hbA dL_law_532 (nI_add (5 * j) 4) (by omega) (by omega) ?_
    refine sw_top hx4.symm ?_
    refine sw_aload_n 533 3 C dL_law_533 rfl rfl ?_
    refine xl_callSI 534 [0, 1, 2, 3, 4, 5, 6, 11] 6 [_, _, _, _, _, _, _, _] C hz hC dL_law_534 (ct_L_sendJoint l hfl hS hcn hod hh0 hh1 hh2 hh3 hc.1 hc.2.1 hc.2.2.1 hc.2.2.2) wK_L_sendJoint wM_L_113 wT_L_sendJoint wI_L hd_L_sendJoint rfl ⟨rfl, rfl⟩ ⟨by show _ ≤ 601024; omega, by show _ ≤ 7293034; omega⟩ rfl rfl rfl rfl rfl rfl ?_
    refine sg_segs [_, _, _, _, _, _, _, _, _, _, _, _] rfl ?_
    refine sw_istore 537 C dL_law_537 rfl ?_
    refine sw_aload_n 539 2 C dL_law_539 rfl rfl ?_
    refine sw_aload_n 540 0 C dL_law_540 rfl rfl ?_
    refine sw_iload 541 C dL_law_541 rfl ?_
    refine sw_iconst 543 C dL_law_543 1 (by decide) ?_
    refine sw_iadd 544 C dL_law_544 ?_
    refine sw_sld 545 (5 * j + 1) C hX hbl hbA dL_law_545 (nI_add (5 * j) 1) (by omega) (by omega) ?_
    refine sw_top hx1.symm ?_
    refine sw_aload_n 546 0 C dL_law_546 rfl rfl ?_
    refine sw_iload 547 C dL_law_547 rfl ?_
    refine sw_iconst 549 C dL_law_549 2 (by decide) ?_
    refine sw_iadd 550 C dL_law_550 ?_
    refine sw_sld 551 (5 * j + 2) C hX hbl hbA dL_law_551 (nI_add (5 * j) 2) (by omega) (by omega) ?_
    refine sw_top hx2.symm ?_
    refine sw_aload_n 552 0 C dL_law_552 rfl rfl ?_
    refine sw_iload 553 C dL_law_553 rfl ?_
    refine sw_iconst 555 C dL_law_555 3 (by decide) ?_
    refine sw_iadd 556 C dL_law_556 ?_
    refine sw_sld 557 (5 * j + 3) C hX hbl hbA dL_law_557 (nI_add (5 * j) 3) (by omega) (by omega) ?_
    refine sw_top hx3.symm ?_
    refine sw_aload_n 558 0 C dL_law_558 rfl rfl ?_
    refine sw_iload 559 C dL_law_559 rfl ?_
    refine sw_iconst 561 C dL_law_561 4 (by decide) ?_
    refine sw_iadd 562 C dL_law_562 ?_
    refine sw_sld 563 (5 * j + 4) C hX hbl hbA dL_law_563 (nI_add (5 * j) 4) (by omega) (by omega) ?_
    refine sw_top hx4.symm ?_
    refine xg_callG 564 [10] 4 0 C dL_law_564 (ct_X7_sendJoint l hE hO hK hcn hod hc.1 hc.2.1 (fun z => hc.2.2.1 z.symm) hc.2.2.2) wK_X7_sendJoint wM_L_115 wN_X7_sendJoint wS_X7_X7_sendJoint wI_X7 hd_X7_sendJoint rfl rfl rfl ⟨rfl, rfl⟩ ⟨by show _ ≤ 601024; omega, by show _ ≤ 7293034; omega⟩ rfl rfl rfl rfl (fun v_564 w_564 h_564 => ?_)
    obtain ⟨rfl, f1, h1, rfl⟩ := h_564
    refine ⟨[_], rfl, rfl, ?_⟩
    refine sw_st (_ :: _) rfl ?_
    refine sg_segs [_, _, _, _, _, _, _, _, _, _, _, _] rfl ?_
    refine sw_istore 567 C dL_law_567 rfl ?_
    refine sw_loc (L1 := [(0, .ref _), (1, .ref _), (2, .ref _), (3, .ref _), (4, .int _), (5, .int _), (6, .int _)]) ?_ rfl
    refine sw_aload_n 569 2 C dL_law_569 rfl rfl ?_
    refine sg_callVIP 570 [10] 0 0 C dL_law_570 (ct_X7_thrown l) wK_X7_thrown wM_L_95 wN_X7_thrown wS_X7_X7_thrown wI_X7 hd_X7_thrown rfl rfl rfl ⟨rfl, rfl⟩ ⟨by show _ ≤ 601024; omega, by show _ ≤ 7293034; omega⟩ rfl rfl rfl rfl ?_
    refine sw_iload 573 C dL_law_573 rfl ?_
    refine sw_icmp_eq 575 580 C dL_law_575 (by decide) (fun c_575 => ?_) (fun c_575 => ?_)
    rotate_left
    · exact by first | exact absurd c_575 (rfl) | exact absurd (rfl) c_575
    refine sw_iload 580 C dL_law_580 rfl ?_
    refine sw_if_ne 582 597 C dL_law_582 (by decide) (fun c_582 => ?_) (fun c_582 => ?_)
    · exact by first | exact absurd c_582 (fun q => q rfl) | exact absurd (fun q => q rfl) c_582
    refine sw_aload_n 585 3 C dL_law_585 rfl rfl ?_
    refine sw_iconst 586 C dL_law_586 0 (by decide) ?_
    refine sg_laldN 587 11 0 1 (0) C dL_law_587 rfl (by decide) rfl rfl rfl rfl ?_
    refine sw_topL (show vp_updL fo 0 _ 0 = _ from pk_uLs) ?_
    refine sw_iload 588 C dL_law_588 rfl ?_
    refine sw_i2l 590 C dL_law_590 ?_
    refine sw_lcmp 591 C dL_law_591 ?_
    refine sw_if_eq 592 597 C dL_law_592 (by decide) (fun c_592 => ?_) (fun c_592 => ?_)
    rotate_left
    · exact by first | exact absurd c_592 (lcmp_self _) | exact absurd (lcmp_self _) c_592
    refine sw_goto 597 1546 C dL_law_597 (by decide) ?_
    exact sw_loc (sw_widen (by omega) (by omega) (hk (pinS S x1 x2 x3 x4 0) (T) (va_up R (svI cn od) S) (svC cn) (svO cn od) (ln) (by_) (g) (f1.1) (f1.2) (ad) (tx) (nb) (X) (0) (ap) (hh) (vp_updL fo 0 (zp S).toInt64) (LI.mut ⟨hO, hE, hK, hcn, hod, hln, hT⟩ (mO_send hO hB2 hc.1 (Or.inr rfl) isN_0 hc.2.2.2) h1))) rfl
set_option maxHeartbeats 8000000 in
set_option maxRecDepth 100000 in
theorem lo_withdraw {l : Launch} (hfl : l.stackTraces = false) {p : Program} {e : Env} {s : State} {m : MethodId} {below : List Frame} {meth : Method} {c : Code} {A : Nat → Prop} {D : va_G} {cI cJ cQ : ClassId} {Q : State → Prop} {b LL : Nat} {xs : Nat → Int32} (C : CC p s m #[.ref b] c cL_law 9 RL (Cond.initialized RL :: lw_all) D (tyz cI cJ cQ) A s.heap) (hz : xZ A s) (hC : xC s) (hX : va_X b LL xs s s.heap) (hbl : b < s.heap.size) (hbA : ¬ A b) (hLL : LL ≤ 2560) {x0a a0 a1 a2 a3 a4 a5 a6 a7 tr0 tr1 tr2 tr3 tr4 tr5 tr6 tr7 s0 s1 ra0 ra1 ra2 ra3 ra4 ra5 ra6 ra7 rb0 rb1 rb2 rb3 rb4 rb5 rb6 rb7 rc0 rc1 rc2 rc3 rc4 rc5 rc6 rc7 rd0 rd1 rd2 rd3 rd4 rd5 rd6 rd7 r0 t0 t1 w0 b0 b1 b2 b3 b4 b5 ao : Nat} {h : Nat → Option Nat} (hh0 : h 0 = some ra0) (hh1 : h 1 = some rb0) (hh2 : h 2 = some rc0) (hh3 : h 3 = some rd0) {S T : StT} {R : Nat → StT} {cn od ln : Nat} {by_ g sa pa ad tx nb : Nat → Int32} {X : RS} {th ap : Int32} {hh : Int64} {fo : Nat → Int64} {B j k n : Nat} (hB : B < 100000) (hj : 5 * j + 5 ≤ LL) (hkR : k + 1 ≤ 601024) (hnR : n + 6 ≤ 7293034) (hLI : LI B S R cn od ln by_ sa pa tx) (hk : ∀ (S T : StT) (R : Nat → StT) (cn od ln : Nat) (by_ g sa pa ad tx nb : Nat → Int32) (X : RS) (th ap : Int32) (hh : Int64) (fo : Nat → Int64), LI (B + 100) S R cn od ln by_ sa pa tx → sw p l e room_1 s m #[.ref b] below meth c D A s.heap 9 (k + 1) (n + 6) Q (flatS [[(x0a, .inr (6, [.ref a0, .ref tr0, .ref s0, .ref r0, .ref w0]))], (wSt a0 a1 a2 a3 a4 a5 a6 a7 cI (S)), [(s0, .inr (3, [.int (nI (cn)), .int (nI (od)), .ref s1])), (s1, .inl (cQ, 4, .inr (.inr (.inr (.inr h)))))], (wSt ra0 ra1 ra2 ra3 ra4 ra5 ra6 ra7 cI ((R) 0)), (wSt rb0 rb1 rb2 rb3 rb4 rb5 rb6 rb7 cI ((R) 1)), (wSt rc0 rc1 rc2 rc3 rc4 rc5 rc6 rc7 cI ((R) 2)), (wSt rd0 rd1 rd2 rd3 rd4 rd5 rd6 rd7 cI ((R) 3)), (wSt tr0 tr1 tr2 tr3 tr4 tr5 tr6 tr7 cI (T)), (wRd r0 t0 t1 cI (ln) (by_) (X)), [(w0, .inl (cI, 40, .inl (g)))], [(b0, .inr (7, [.ref b1, .ref b2, .ref b3, .int (nI (cn)), .int (th), .ref b4, .int (nI (ln)), .int (ap), .ref b5, .long (hh)])), (b1, .inl (cI, 424, .inl (sa))), (b2, .inl (cI, 1696, .inl (pa))), (b3, .inl (cI, 424, .inl (ad))), (b4, .inl (cI, 100, .inl (tx))), (b5, .inl (cI, 4, .inl (nb)))], [(ao, .inl (cJ, 1, .inr (.inl (fo))))]]) 1546 [(0, .ref b), (1, .ref x0a), (2, .ref b0), (3, .ref ao), (4, .int (nI (5 * j)))] []) : sw p l e room_1 s m #[.ref b] below meth c D A s.heap 9 k n Q (flatS [[(x0a, .inr (6, [.ref a0, .ref tr0, .ref s0, .ref r0, .ref w0]))], (wSt a0 a1 a2 a3 a4 a5 a6 a7 cI (S)), [(s0, .inr (3, [.int (nI (cn)), .int (nI (od)), .ref s1])), (s1, .inl (cQ, 4, .inr (.inr (.inr (.inr h)))))], (wSt ra0 ra1 ra2 ra3 ra4 ra5 ra6 ra7 cI ((R) 0)), (wSt rb0 rb1 rb2 rb3 rb4 rb5 rb6 rb7 cI ((R) 1)), (wSt rc0 rc1 rc2 rc3 rc4 rc5 rc6 rc7 cI ((R) 2)), (wSt rd0 rd1 rd2 rd3 rd4 rd5 rd6 rd7 cI ((R) 3)), (wSt tr0 tr1 tr2 tr3 tr4 tr5 tr6 tr7 cI (T)), (wRd r0 t0 t1 cI (ln) (by_) (X)), [(w0, .inl (cI, 40, .inl (g)))], [(b0, .inr (7, [.ref b1, .ref b2, .ref b3, .int (nI (cn)), .int (th), .ref b4, .int (nI (ln)), .int (ap), .ref b5, .long (hh)])), (b1, .inl (cI, 424, .inl (sa))), (b2, .inl (cI, 1696, .inl (pa))), (b3, .inl (cI, 424, .inl (ad))), (b4, .inl (cI, 100, .inl (tx))), (b5, .inl (cI, 4, .inl (nb)))], [(ao, .inl (cJ, 1, .inr (.inl (fo))))]]) 600 [(0, .ref b), (1, .ref x0a), (2, .ref b0), (3, .ref ao), (4, .int (nI (5 * j)))] [] := by
  obtain ⟨hO, hE, hK, hcn, hod, hln, hT⟩ := hLI
  have hS := hO.si
  have hB2 : B < 2 ^ 29 := by omega
  obtain ⟨x1, hx1⟩ : ∃ x, x = xs (5 * j + 1) := ⟨_, rfl⟩
  rcases fnd_or (zf S) x1 (zn S) with hc | hc
  · refine sw_aload_n 600 1 C dL_law_600 rfl rfl ?_
    refine sw_aload_n 601 0 C dL_law_601 rfl rfl ?_
    refine sw_iload 602 C dL_law_602 rfl ?_
    refine sw_iconst 604 C dL_law_604 1 (by decide) ?_
    refine sw_iadd 605 C dL_law_605 ?_
    refine sw_sld 606 (5 * j + 1) C hX hbl hbA dL_law_606 (nI_add (5 * j) 1) (by omega) (by omega) ?_
    refine sw_top hx1.symm ?_
    refine sw_aload_n 607 3 C dL_law_607 rfl rfl ?_
    refine xl_callSI 608 [0, 1, 11] 3 [_, _, _] C hz hC dL_law_608 (ct_L_withdraw_2 l hfl hS hc) wK_L_withdraw wM_L_116 wT_L_withdraw wI_L hd_L_withdraw rfl ⟨rfl, rfl⟩ ⟨by show _ ≤ 601024; omega, by show _ ≤ 7293034; omega⟩ rfl rfl rfl rfl rfl rfl ?_
    refine sg_segs [_, _, _, _, _, _, _, _, _, _, _, _] rfl ?_
    refine sw_istore 611 C dL_law_611 rfl ?_
    refine sw_aload_n 613 2 C dL_law_613 rfl rfl ?_
    refine sw_aload_n 614 0 C dL_law_614 rfl rfl ?_
    refine sw_iload 615 C dL_law_615 rfl ?_
    refine sw_iconst 617 C dL_law_617 1 (by decide) ?_
    refine sw_iadd 618 C dL_law_618 ?_
    refine sw_sld 619 (5 * j + 1) C hX hbl hbA dL_law_619 (nI_add (5 * j) 1) (by omega) (by omega) ?_
    refine sw_top hx1.symm ?_
    refine sg_callVI 620 [10] 1 0 [_] C dL_law_620 (ct_X7_withdraw_2 l hE hO hc) wK_X7_withdraw wM_L_118 wN_X7_withdraw wS_X7_X7_withdraw wI_X7 hd_X7_withdraw rfl rfl rfl ⟨rfl, rfl⟩ ⟨by show _ ≤ 601024; omega, by show _ ≤ 7293034; omega⟩ rfl rfl rfl rfl rfl rfl ?_
    refine sg_segs [_, _, _, _, _, _, _, _, _, _, _, _] rfl ?_
    refine sw_istore 623 C dL_law_623 rfl ?_
    refine sw_loc (L1 := [(0, .ref _), (1, .ref _), (2, .ref _), (3, .ref _), (4, .int _), (5, .int _), (6, .int _)]) ?_ rfl
    refine sw_aload_n 625 2 C dL_law_625 rfl rfl ?_
    refine sg_callVIP 626 [10] 0 0 C dL_law_626 (ct_X7_thrown l) wK_X7_thrown wM_L_95 wN_X7_thrown wS_X7_X7_thrown wI_X7 hd_X7_thrown rfl rfl rfl ⟨rfl, rfl⟩ ⟨by show _ ≤ 601024; omega, by show _ ≤ 7293034; omega⟩ rfl rfl rfl rfl ?_
    refine sw_iload 629 C dL_law_629 rfl ?_
    refine sw_icmp_eq 631 636 C dL_law_631 (by decide) (fun c_631 => ?_) (fun c_631 => ?_)
    rotate_left
    · exact by first | exact absurd c_631 (rfl) | exact absurd (rfl) c_631
    refine sw_iload 636 C dL_law_636 rfl ?_
    refine sw_if_ne 638 653 C dL_law_638 (by decide) (fun c_638 => ?_) (fun c_638 => ?_)
    rotate_left
    · exact by first | exact absurd c_638 (by decide) | exact absurd (by decide) c_638
    refine sw_goto 653 1546 C dL_law_653 (by decide) ?_
    exact sw_loc (sw_widen (by omega) (by omega) (hk (S) (T) (R) (cn) (od) (ln) (by_) (g) (sa) (pa) (ad) (tx) (nb) (X) (1) (ap) (hh) (fo) (LI.up ⟨hO, hE, hK, hcn, hod, hln, hT⟩))) rfl
  · obtain ⟨i, hi⟩ := hc
    refine sw_aload_n 600 1 C dL_law_600 rfl rfl ?_
    refine sw_aload_n 601 0 C dL_law_601 rfl rfl ?_
    refine sw_iload 602 C dL_law_602 rfl ?_
    refine sw_iconst 604 C dL_law_604 1 (by decide) ?_
    refine sw_iadd 605 C dL_law_605 ?_
    refine sw_sld 606 (5 * j + 1) C hX hbl hbA dL_law_606 (nI_add (5 * j) 1) (by omega) (by omega) ?_
    refine sw_top hx1.symm ?_
    refine sw_aload_n 607 3 C dL_law_607 rfl rfl ?_
    refine xl_callSI 608 [0, 1, 2, 3, 4, 5, 6, 11] 3 [_, _, _, _, _, _, _, _] C hz hC dL_law_608 (ct_L_withdraw l hfl hS hcn hod hh0 hh1 hh2 hh3 i hi) wK_L_withdraw wM_L_116 wT_L_withdraw wI_L hd_L_withdraw rfl ⟨rfl, rfl⟩ ⟨by show _ ≤ 601024; omega, by show _ ≤ 7293034; omega⟩ rfl rfl rfl rfl rfl rfl ?_
    refine sg_segs [_, _, _, _, _, _, _, _, _, _, _, _] rfl ?_
    refine sw_istore 611 C dL_law_611 rfl ?_
    refine sw_aload_n 613 2 C dL_law_613 rfl rfl ?_
    refine sw_aload_n 614 0 C dL_law_614 rfl rfl ?_
    refine sw_iload 615 C dL_law_615 rfl ?_
    refine sw_iconst 617 C dL_law_617 1 (by decide) ?_
    refine sw_iadd 618 C dL_law_618 ?_
    refine sw_sld 619 (5 * j + 1) C hX hbl hbA dL_law_619 (nI_add (5 * j) 1) (by omega) (by omega) ?_
    refine sw_top hx1.symm ?_
    refine xg_callG 620 [10] 1 0 C dL_law_620 (ct_X7_withdraw l hE hO hK hcn hod i hi) wK_X7_withdraw wM_L_118 wN_X7_withdraw wS_X7_X7_withdraw wI_X7 hd_X7_withdraw rfl rfl rfl ⟨rfl, rfl⟩ ⟨by show _ ≤ 601024; omega, by show _ ≤ 7293034; omega⟩ rfl rfl rfl rfl (fun v_620 w_620 h_620 => ?_)
    obtain ⟨rfl, f1, h1, rfl⟩ := h_620
    refine ⟨[_], rfl, rfl, ?_⟩
    refine sw_st (_ :: _) rfl ?_
    refine sg_segs [_, _, _, _, _, _, _, _, _, _, _, _] rfl ?_
    refine sw_istore 623 C dL_law_623 rfl ?_
    refine sw_loc (L1 := [(0, .ref _), (1, .ref _), (2, .ref _), (3, .ref _), (4, .int _), (5, .int _), (6, .int _)]) ?_ rfl
    refine sw_aload_n 625 2 C dL_law_625 rfl rfl ?_
    refine sg_callVIP 626 [10] 0 0 C dL_law_626 (ct_X7_thrown l) wK_X7_thrown wM_L_95 wN_X7_thrown wS_X7_X7_thrown wI_X7 hd_X7_thrown rfl rfl rfl ⟨rfl, rfl⟩ ⟨by show _ ≤ 601024; omega, by show _ ≤ 7293034; omega⟩ rfl rfl rfl rfl ?_
    refine sw_iload 629 C dL_law_629 rfl ?_
    refine sw_icmp_eq 631 636 C dL_law_631 (by decide) (fun c_631 => ?_) (fun c_631 => ?_)
    rotate_left
    · exact by first | exact absurd c_631 (rfl) | exact absurd (rfl) c_631
    refine sw_iload 636 C dL_law_636 rfl ?_
    refine sw_if_ne 638 653 C dL_law_638 (by decide) (fun c_638 => ?_) (fun c_638 => ?_)
    · exact by first | exact absurd c_638 (fun q => q rfl) | exact absurd (fun q => q rfl) c_638
    refine sw_aload_n 641 3 C dL_law_641 rfl rfl ?_
    refine sw_iconst 642 C dL_law_642 0 (by decide) ?_
    refine sg_laldN 643 11 0 1 (0) C dL_law_643 rfl (by decide) rfl rfl rfl rfl ?_
    refine sw_topL (show vp_updL fo 0 _ 0 = _ from pk_uLs) ?_
    refine sw_iload 644 C dL_law_644 rfl ?_
    refine sw_i2l 646 C dL_law_646 ?_
    refine sw_lcmp 647 C dL_law_647 ?_
    refine sw_if_eq 648 653 C dL_law_648 (by decide) (fun c_648 => ?_) (fun c_648 => ?_)
    rotate_left
    · exact by first | exact absurd c_648 (lcmp_self _) | exact absurd (lcmp_self _) c_648
    refine sw_goto 653 1546 C dL_law_653 (by decide) ?_
    exact sw_loc (sw_widen (by omega) (by omega) (hk (leaveS S i 2) (T) (va_up R (svI cn od) S) (svC cn) (svO cn od) (ln) (by_) (g) (f1.1) (f1.2) (ad) (tx) (nb) (X) (0) (ap) (hh) (vp_updL fo 0 (gbk (zf S) (zg S) i 2).toInt64) (LI.mut ⟨hO, hE, hK, hcn, hod, hln, hT⟩ (show mO (B + 100) 100000 (leaveS S i 2) from (lvS_x S i (w := 2) (by decide) ▸ mO_leave (w := 2) hO (fnd_lt _ _ hi)).mono (by omega) (Nat.le_refl _)) h1))) rfl
set_option maxHeartbeats 8000000 in
set_option maxRecDepth 100000 in
theorem lo_serve {l : Launch} (hfl : l.stackTraces = false) {p : Program} {e : Env} {s : State} {m : MethodId} {below : List Frame} {meth : Method} {c : Code} {A : Nat → Prop} {D : va_G} {cI cJ cQ : ClassId} {Q : State → Prop} {b LL : Nat} {xs : Nat → Int32} (C : CC p s m #[.ref b] c cL_law 9 RL (Cond.initialized RL :: lw_all) D (tyz cI cJ cQ) A s.heap) (hz : xZ A s) (hC : xC s) (hX : va_X b LL xs s s.heap) (hbl : b < s.heap.size) (hbA : ¬ A b) (hLL : LL ≤ 2560) {x0a a0 a1 a2 a3 a4 a5 a6 a7 tr0 tr1 tr2 tr3 tr4 tr5 tr6 tr7 s0 s1 ra0 ra1 ra2 ra3 ra4 ra5 ra6 ra7 rb0 rb1 rb2 rb3 rb4 rb5 rb6 rb7 rc0 rc1 rc2 rc3 rc4 rc5 rc6 rc7 rd0 rd1 rd2 rd3 rd4 rd5 rd6 rd7 r0 t0 t1 w0 b0 b1 b2 b3 b4 b5 ao : Nat} {h : Nat → Option Nat} (hh0 : h 0 = some ra0) (hh1 : h 1 = some rb0) (hh2 : h 2 = some rc0) (hh3 : h 3 = some rd0) {S T : StT} {R : Nat → StT} {cn od ln : Nat} {by_ g sa pa ad tx nb : Nat → Int32} {X : RS} {th ap : Int32} {hh : Int64} {fo : Nat → Int64} {B j k n : Nat} (hB : B < 100000) (hj : 5 * j + 5 ≤ LL) (hkR : k + 1 ≤ 601024) (hnR : n + 6 ≤ 7293034) (hLI : LI B S R cn od ln by_ sa pa tx) (hk : ∀ (S T : StT) (R : Nat → StT) (cn od ln : Nat) (by_ g sa pa ad tx nb : Nat → Int32) (X : RS) (th ap : Int32) (hh : Int64) (fo : Nat → Int64), LI (B + 100) S R cn od ln by_ sa pa tx → sw p l e room_1 s m #[.ref b] below meth c D A s.heap 9 (k + 1) (n + 6) Q (flatS [[(x0a, .inr (6, [.ref a0, .ref tr0, .ref s0, .ref r0, .ref w0]))], (wSt a0 a1 a2 a3 a4 a5 a6 a7 cI (S)), [(s0, .inr (3, [.int (nI (cn)), .int (nI (od)), .ref s1])), (s1, .inl (cQ, 4, .inr (.inr (.inr (.inr h)))))], (wSt ra0 ra1 ra2 ra3 ra4 ra5 ra6 ra7 cI ((R) 0)), (wSt rb0 rb1 rb2 rb3 rb4 rb5 rb6 rb7 cI ((R) 1)), (wSt rc0 rc1 rc2 rc3 rc4 rc5 rc6 rc7 cI ((R) 2)), (wSt rd0 rd1 rd2 rd3 rd4 rd5 rd6 rd7 cI ((R) 3)), (wSt tr0 tr1 tr2 tr3 tr4 tr5 tr6 tr7 cI (T)), (wRd r0 t0 t1 cI (ln) (by_) (X)), [(w0, .inl (cI, 40, .inl (g)))], [(b0, .inr (7, [.ref b1, .ref b2, .ref b3, .int (nI (cn)), .int (th), .ref b4, .int (nI (ln)), .int (ap), .ref b5, .long (hh)])), (b1, .inl (cI, 424, .inl (sa))), (b2, .inl (cI, 1696, .inl (pa))), (b3, .inl (cI, 424, .inl (ad))), (b4, .inl (cI, 100, .inl (tx))), (b5, .inl (cI, 4, .inl (nb)))], [(ao, .inl (cJ, 1, .inr (.inl (fo))))]]) 1546 [(0, .ref b), (1, .ref x0a), (2, .ref b0), (3, .ref ao), (4, .int (nI (5 * j)))] []) : sw p l e room_1 s m #[.ref b] below meth c D A s.heap 9 k n Q (flatS [[(x0a, .inr (6, [.ref a0, .ref tr0, .ref s0, .ref r0, .ref w0]))], (wSt a0 a1 a2 a3 a4 a5 a6 a7 cI (S)), [(s0, .inr (3, [.int (nI (cn)), .int (nI (od)), .ref s1])), (s1, .inl (cQ, 4, .inr (.inr (.inr (.inr h)))))], (wSt ra0 ra1 ra2 ra3 ra4 ra5 ra6 ra7 cI ((R) 0)), (wSt rb0 rb1 rb2 rb3 rb4 rb5 rb6 rb7 cI ((R) 1)), (wSt rc0 rc1 rc2 rc3 rc4 rc5 rc6 rc7 cI ((R) 2)), (wSt rd0 rd1 rd2 rd3 rd4 rd5 rd6 rd7 cI ((R) 3)), (wSt tr0 tr1 tr2 tr3 tr4 tr5 tr6 tr7 cI (T)), (wRd r0 t0 t1 cI (ln) (by_) (X)), [(w0, .inl (cI, 40, .inl (g)))], [(b0, .inr (7, [.ref b1, .ref b2, .ref b3, .int (nI (cn)), .int (th), .ref b4, .int (nI (ln)), .int (ap), .ref b5, .long (hh)])), (b1, .inl (cI, 424, .inl (sa))), (b2, .inl (cI, 1696, .inl (pa))), (b3, .inl (cI, 424, .inl (ad))), (b4, .inl (cI, 100, .inl (tx))), (b5, .inl (cI, 4, .inl (nb)))], [(ao, .inl (cJ, 1, .inr (.inl (fo))))]]) 656 [(0, .ref b), (1, .ref x0a), (2, .ref b0), (3, .ref ao), (4, .int (nI (5 * j)))] [] := by
  obtain ⟨hO, hE, hK, hcn, hod, hln, hT⟩ := hLI
  have hS := hO.si
  have hB2 : B < 2 ^ 29 := by omega
  rcases Nat.eq_zero_or_pos (zn S) with hc | hc
  · refine sw_aload_n 656 1 C dL_law_656 rfl rfl ?_
    refine sw_aload_n 657 3 C dL_law_657 rfl rfl ?_
    refine xl_callSI 658 [0, 1, 11] 2 [_, _, _] C hz hC dL_law_658 (ct_L_serve_2 l hfl hc) wK_L_serve wM_L_119 wT_L_serve wI_L hd_L_serve rfl ⟨rfl, rfl⟩ ⟨by show _ ≤ 601024; omega, by show _ ≤ 7293034; omega⟩ rfl rfl rfl rfl rfl rfl ?_
    refine sg_segs [_, _, _, _, _, _, _, _, _, _, _, _] rfl ?_
    refine sw_istore 661 C dL_law_661 rfl ?_
    refine sw_aload_n 663 2 C dL_law_663 rfl rfl ?_
    refine sg_callVI 664 [10] 0 0 [_] C dL_law_664 (ct_X7_serve_2 l hE hO hc) wK_X7_serve wM_L_122 wN_X7_serve wS_X7_X7_serve wI_X7 hd_X7_serve rfl rfl rfl ⟨rfl, rfl⟩ ⟨by show _ ≤ 601024; omega, by show _ ≤ 7293034; omega⟩ rfl rfl rfl rfl rfl rfl ?_
    refine sg_segs [_, _, _, _, _, _, _, _, _, _, _, _] rfl ?_
    refine sw_istore 667 C dL_law_667 rfl ?_
    refine sw_loc (L1 := [(0, .ref _), (1, .ref _), (2, .ref _), (3, .ref _), (4, .int _), (5, .int _), (6, .int _)]) ?_ rfl
    refine sw_aload_n 669 2 C dL_law_669 rfl rfl ?_
    refine sg_callVIP 670 [10] 0 0 C dL_law_670 (ct_X7_thrown l) wK_X7_thrown wM_L_95 wN_X7_thrown wS_X7_X7_thrown wI_X7 hd_X7_thrown rfl rfl rfl ⟨rfl, rfl⟩ ⟨by show _ ≤ 601024; omega, by show _ ≤ 7293034; omega⟩ rfl rfl rfl rfl ?_
    refine sw_iload 673 C dL_law_673 rfl ?_
    refine sw_icmp_eq 675 680 C dL_law_675 (by decide) (fun c_675 => ?_) (fun c_675 => ?_)
    rotate_left
    · exact by first | exact absurd c_675 (rfl) | exact absurd (rfl) c_675
    refine sw_iload 680 C dL_law_680 rfl ?_
    refine sw_if_ne 682 697 C dL_law_682 (by decide) (fun c_682 => ?_) (fun c_682 => ?_)
    rotate_left
    · exact by first | exact absurd c_682 (by decide) | exact absurd (by decide) c_682
    refine sw_goto 697 1546 C dL_law_697 (by decide) ?_
    exact sw_loc (sw_widen (by omega) (by omega) (hk (S) (T) (R) (cn) (od) (ln) (by_) (g) (sa) (pa) (ad) (tx) (nb) (X) (1) (ap) (hh) (fo) (LI.up ⟨hO, hE, hK, hcn, hod, hln, hT⟩))) rfl
  · refine sw_aload_n 656 1 C dL_law_656 rfl rfl ?_
    refine sw_aload_n 657 3 C dL_law_657 rfl rfl ?_
    refine xl_callSI 658 [0, 1, 2, 3, 4, 5, 6, 11] 2 [_, _, _, _, _, _, _, _] C hz hC dL_law_658 (ct_L_serve l hfl hS hcn hod hh0 hh1 hh2 hh3 hc) wK_L_serve wM_L_119 wT_L_serve wI_L hd_L_serve rfl ⟨rfl, rfl⟩ ⟨by show _ ≤ 601024; omega, by show _ ≤ 7293034; omega⟩ rfl rfl rfl rfl rfl rfl ?_
    refine sg_segs [_, _, _, _, _, _, _, _, _, _, _, _] rfl ?_
    refine sw_istore 661 C dL_law_661 rfl ?_
    refine sw_aload_n 663 2 C dL_law_663 rfl rfl ?_
    refine xg_callG 664 [10] 0 0 C dL_law_664 (ct_X7_serve l hE hO hK hcn hod hc) wK_X7_serve wM_L_122 wN_X7_serve wS_X7_X7_serve wI_X7 hd_X7_serve rfl rfl rfl ⟨rfl, rfl⟩ ⟨by show _ ≤ 601024; omega, by show _ ≤ 7293034; omega⟩ rfl rfl rfl rfl (fun v_664 w_664 h_664 => ?_)
    obtain ⟨rfl, f1, h1, rfl⟩ := h_664
    refine ⟨[_], rfl, rfl, ?_⟩
    refine sw_st (_ :: _) rfl ?_
    refine sg_segs [_, _, _, _, _, _, _, _, _, _, _, _] rfl ?_
    refine sw_istore 667 C dL_law_667 rfl ?_
    refine sw_loc (L1 := [(0, .ref _), (1, .ref _), (2, .ref _), (3, .ref _), (4, .int _), (5, .int _), (6, .int _)]) ?_ rfl
    refine sw_aload_n 669 2 C dL_law_669 rfl rfl ?_
    refine sg_callVIP 670 [10] 0 0 C dL_law_670 (ct_X7_thrown l) wK_X7_thrown wM_L_95 wN_X7_thrown wS_X7_X7_thrown wI_X7 hd_X7_thrown rfl rfl rfl ⟨rfl, rfl⟩ ⟨by show _ ≤ 601024; omega, by show _ ≤ 7293034; omega⟩ rfl rfl rfl rfl ?_
    refine sw_iload 673 C dL_law_673 rfl ?_
    refine sw_icmp_eq 675 680 C dL_law_675 (by decide) (fun c_675 => ?_) (fun c_675 => ?_)
    rotate_left
    · exact by first | exact absurd c_675 (rfl) | exact absurd (rfl) c_675
    refine sw_iload 680 C dL_law_680 rfl ?_
    refine sw_if_ne 682 697 C dL_law_682 (by decide) (fun c_682 => ?_) (fun c_682 => ?_)
    · exact by first | exact absurd c_682 (fun q => q rfl) | exact absurd (fun q => q rfl) c_682
    refine sw_aload_n 685 3 C dL_law_685 rfl rfl ?_
    refine sw_iconst 686 C dL_law_686 0 (by decide) ?_
    refine sg_laldN 687 11 0 1 (0) C dL_law_687 rfl (by decide) rfl rfl rfl rfl ?_
    refine sw_topL (show vp_updL fo 0 _ 0 = _ from pk_uLs) ?_
    refine sw_iload 688 C dL_law_688 rfl ?_
    refine sw_i2l 690 C dL_law_690 ?_
    refine sw_lcmp 691 C dL_law_691 ?_
    refine sw_if_eq 692 697 C dL_law_692 (by decide) (fun c_692 => ?_) (fun c_692 => ?_)
    rotate_left
    · exact by first | exact absurd c_692 (lcmp_self _) | exact absurd (lcmp_self _) c_692
    refine sw_goto 697 1546 C dL_law_697 (by decide) ?_
    exact sw_loc (sw_widen (by omega) (by omega) (hk ((srv S).2) (T) (va_up R (svI cn od) S) (svC cn) (svO cn od) (ln) (by_) (g) (f1.1) (f1.2) (ad) (tx) (nb) (X) (0) (ap) (hh) (vp_updL fo 0 ((srv S).1).toInt64) (LI.mut ⟨hO, hE, hK, hcn, hod, hln, hT⟩ ((mO_srv hO).mono (by omega) (Nat.le_refl _)) h1))) rfl
set_option maxHeartbeats 8000000 in
set_option maxRecDepth 100000 in
theorem lo_pass {l : Launch} (hfl : l.stackTraces = false) {p : Program} {e : Env} {s : State} {m : MethodId} {below : List Frame} {meth : Method} {c : Code} {A : Nat → Prop} {D : va_G} {cI cJ cQ : ClassId} {Q : State → Prop} {b LL : Nat} {xs : Nat → Int32} (C : CC p s m #[.ref b] c cL_law 9 RL (Cond.initialized RL :: lw_all) D (tyz cI cJ cQ) A s.heap) (hz : xZ A s) (hC : xC s) (hX : va_X b LL xs s s.heap) (hbl : b < s.heap.size) (hbA : ¬ A b) (hLL : LL ≤ 2560) {x0a a0 a1 a2 a3 a4 a5 a6 a7 tr0 tr1 tr2 tr3 tr4 tr5 tr6 tr7 s0 s1 ra0 ra1 ra2 ra3 ra4 ra5 ra6 ra7 rb0 rb1 rb2 rb3 rb4 rb5 rb6 rb7 rc0 rc1 rc2 rc3 rc4 rc5 rc6 rc7 rd0 rd1 rd2 rd3 rd4 rd5 rd6 rd7 r0 t0 t1 w0 b0 b1 b2 b3 b4 b5 ao : Nat} {h : Nat → Option Nat} (hh0 : h 0 = some ra0) (hh1 : h 1 = some rb0) (hh2 : h 2 = some rc0) (hh3 : h 3 = some rd0) {S T : StT} {R : Nat → StT} {cn od ln : Nat} {by_ g sa pa ad tx nb : Nat → Int32} {X : RS} {th ap : Int32} {hh : Int64} {fo : Nat → Int64} {B j k n : Nat} (hB : B < 100000) (hj : 5 * j + 5 ≤ LL) (hkR : k + 1 ≤ 601024) (hnR : n + 6 ≤ 7293034) (hLI : LI B S R cn od ln by_ sa pa tx) (hk : ∀ (S T : StT) (R : Nat → StT) (cn od ln : Nat) (by_ g sa pa ad tx nb : Nat → Int32) (X : RS) (th ap : Int32) (hh : Int64) (fo : Nat → Int64), LI (B + 100) S R cn od ln by_ sa pa tx → sw p l e room_1 s m #[.ref b] below meth c D A s.heap 9 (k + 1) (n + 6) Q (flatS [[(x0a, .inr (6, [.ref a0, .ref tr0, .ref s0, .ref r0, .ref w0]))], (wSt a0 a1 a2 a3 a4 a5 a6 a7 cI (S)), [(s0, .inr (3, [.int (nI (cn)), .int (nI (od)), .ref s1])), (s1, .inl (cQ, 4, .inr (.inr (.inr (.inr h)))))], (wSt ra0 ra1 ra2 ra3 ra4 ra5 ra6 ra7 cI ((R) 0)), (wSt rb0 rb1 rb2 rb3 rb4 rb5 rb6 rb7 cI ((R) 1)), (wSt rc0 rc1 rc2 rc3 rc4 rc5 rc6 rc7 cI ((R) 2)), (wSt rd0 rd1 rd2 rd3 rd4 rd5 rd6 rd7 cI ((R) 3)), (wSt tr0 tr1 tr2 tr3 tr4 tr5 tr6 tr7 cI (T)), (wRd r0 t0 t1 cI (ln) (by_) (X)), [(w0, .inl (cI, 40, .inl (g)))], [(b0, .inr (7, [.ref b1, .ref b2, .ref b3, .int (nI (cn)), .int (th), .ref b4, .int (nI (ln)), .int (ap), .ref b5, .long (hh)])), (b1, .inl (cI, 424, .inl (sa))), (b2, .inl (cI, 1696, .inl (pa))), (b3, .inl (cI, 424, .inl (ad))), (b4, .inl (cI, 100, .inl (tx))), (b5, .inl (cI, 4, .inl (nb)))], [(ao, .inl (cJ, 1, .inr (.inl (fo))))]]) 1546 [(0, .ref b), (1, .ref x0a), (2, .ref b0), (3, .ref ao), (4, .int (nI (5 * j)))] []) : sw p l e room_1 s m #[.ref b] below meth c D A s.heap 9 k n Q (flatS [[(x0a, .inr (6, [.ref a0, .ref tr0, .ref s0, .ref r0, .ref w0]))], (wSt a0 a1 a2 a3 a4 a5 a6 a7 cI (S)), [(s0, .inr (3, [.int (nI (cn)), .int (nI (od)), .ref s1])), (s1, .inl (cQ, 4, .inr (.inr (.inr (.inr h)))))], (wSt ra0 ra1 ra2 ra3 ra4 ra5 ra6 ra7 cI ((R) 0)), (wSt rb0 rb1 rb2 rb3 rb4 rb5 rb6 rb7 cI ((R) 1)), (wSt rc0 rc1 rc2 rc3 rc4 rc5 rc6 rc7 cI ((R) 2)), (wSt rd0 rd1 rd2 rd3 rd4 rd5 rd6 rd7 cI ((R) 3)), (wSt tr0 tr1 tr2 tr3 tr4 tr5 tr6 tr7 cI (T)), (wRd r0 t0 t1 cI (ln) (by_) (X)), [(w0, .inl (cI, 40, .inl (g)))], [(b0, .inr (7, [.ref b1, .ref b2, .ref b3, .int (nI (cn)), .int (th), .ref b4, .int (nI (ln)), .int (ap), .ref b5, .long (hh)])), (b1, .inl (cI, 424, .inl (sa))), (b2, .inl (cI, 1696, .inl (pa))), (b3, .inl (cI, 424, .inl (ad))), (b4, .inl (cI, 100, .inl (tx))), (b5, .inl (cI, 4, .inl (nb)))], [(ao, .inl (cJ, 1, .inr (.inl (fo))))]]) 700 [(0, .ref b), (1, .ref x0a), (2, .ref b0), (3, .ref ao), (4, .int (nI (5 * j)))] [] := by
  obtain ⟨hO, hE, hK, hcn, hod, hln, hT⟩ := hLI
  have hS := hO.si
  have hB2 : B < 2 ^ 29 := by omega
  obtain ⟨x1, hx1⟩ : ∃ x, x = xs (5 * j + 1) := ⟨_, rfl⟩
  rcases pass_or x1 hO.t with hc | hc | hc
  · refine sw_aload_n 700 1 C dL_law_700 rfl rfl ?_
    refine sw_aload_n 701 0 C dL_law_701 rfl rfl ?_
    refine sw_iload 702 C dL_law_702 rfl ?_
    refine sw_iconst 704 C dL_law_704 1 (by decide) ?_
    refine sw_iadd 705 C dL_law_705 ?_
    refine sw_sld 706 (5 * j + 1) C hX hbl hbA dL_law_706 (nI_add (5 * j) 1) (by omega) (by omega) ?_
    refine sw_top hx1.symm ?_
    refine sw_aload_n 707 3 C dL_law_707 rfl rfl ?_
    refine xl_callSI 708 [0, 1, 11] 3 [_, _, _] C hz hC dL_law_708 (ct_L_pass_2 l hfl hc) wK_L_pass wM_L_123 wT_L_pass wI_L hd_L_pass rfl ⟨rfl, rfl⟩ ⟨by show _ ≤ 601024; omega, by show _ ≤ 7293034; omega⟩ rfl rfl rfl rfl rfl rfl ?_
    refine sg_segs [_, _, _, _, _, _, _, _, _, _, _, _] rfl ?_
    refine sw_istore 711 C dL_law_711 rfl ?_
    refine sw_aload_n 713 2 C dL_law_713 rfl rfl ?_
    refine sw_aload_n 714 0 C dL_law_714 rfl rfl ?_
    refine sw_iload 715 C dL_law_715 rfl ?_
    refine sw_iconst 717 C dL_law_717 1 (by decide) ?_
    refine sw_iadd 718 C dL_law_718 ?_
    refine sw_sld 719 (5 * j + 1) C hX hbl hbA dL_law_719 (nI_add (5 * j) 1) (by omega) (by omega) ?_
    refine sw_top hx1.symm ?_
    refine sg_callVI 720 [10] 1 0 [_] C dL_law_720 (ct_X7_pass_3 l hc) wK_X7_pass wM_L_125 wN_X7_pass wS_X7_X7_pass wI_X7 hd_X7_pass rfl rfl rfl ⟨rfl, rfl⟩ ⟨by show _ ≤ 601024; omega, by show _ ≤ 7293034; omega⟩ rfl rfl rfl rfl rfl rfl ?_
    refine sg_segs [_, _, _, _, _, _, _, _, _, _, _, _] rfl ?_
    refine sw_istore 723 C dL_law_723 rfl ?_
    refine sw_loc (L1 := [(0, .ref _), (1, .ref _), (2, .ref _), (3, .ref _), (4, .int _), (5, .int _), (6, .int _)]) ?_ rfl
    refine sw_aload_n 725 2 C dL_law_725 rfl rfl ?_
    refine sg_callVIP 726 [10] 0 0 C dL_law_726 (ct_X7_thrown l) wK_X7_thrown wM_L_95 wN_X7_thrown wS_X7_X7_thrown wI_X7 hd_X7_thrown rfl rfl rfl ⟨rfl, rfl⟩ ⟨by show _ ≤ 601024; omega, by show _ ≤ 7293034; omega⟩ rfl rfl rfl rfl ?_
    refine sw_iload 729 C dL_law_729 rfl ?_
    refine sw_icmp_eq 731 736 C dL_law_731 (by decide) (fun c_731 => ?_) (fun c_731 => ?_)
    rotate_left
    · exact by first | exact absurd c_731 (rfl) | exact absurd (rfl) c_731
    refine sw_iload 736 C dL_law_736 rfl ?_
    refine sw_if_ne 738 753 C dL_law_738 (by decide) (fun c_738 => ?_) (fun c_738 => ?_)
    rotate_left
    · exact by first | exact absurd c_738 (by decide) | exact absurd (by decide) c_738
    refine sw_goto 753 1546 C dL_law_753 (by decide) ?_
    exact sw_loc (sw_widen (by omega) (by omega) (hk (S) (T) (R) (cn) (od) (ln) (by_) (g) (sa) (pa) (ad) (tx) (nb) (X) (1) (ap) (hh) (fo) (LI.up ⟨hO, hE, hK, hcn, hod, hln, hT⟩))) rfl
  · obtain ⟨q, t, h1, hq0, hq, h0, htT, ht, hz9⟩ := hc
    refine sw_aload_n 700 1 C dL_law_700 rfl rfl ?_
    refine sw_aload_n 701 0 C dL_law_701 rfl rfl ?_
    refine sw_iload 702 C dL_law_702 rfl ?_
    refine sw_iconst 704 C dL_law_704 1 (by decide) ?_
    refine sw_iadd 705 C dL_law_705 ?_
    refine sw_sld 706 (5 * j + 1) C hX hbl hbA dL_law_706 (nI_add (5 * j) 1) (by omega) (by omega) ?_
    refine sw_top hx1.symm ?_
    refine sw_aload_n 707 3 C dL_law_707 rfl rfl ?_
    refine xl_callSI 708 [0, 1, 11] 3 [_, _, _] C hz hC dL_law_708 (ct_L_pass_3 l hfl hz9.1 hz9.2) wK_L_pass wM_L_123 wT_L_pass wI_L hd_L_pass rfl ⟨rfl, rfl⟩ ⟨by show _ ≤ 601024; omega, by show _ ≤ 7293034; omega⟩ rfl rfl rfl rfl rfl rfl ?_
    refine sg_segs [_, _, _, _, _, _, _, _, _, _, _, _] rfl ?_
    refine sw_istore 711 C dL_law_711 rfl ?_
    refine sw_aload_n 713 2 C dL_law_713 rfl rfl ?_
    refine sw_aload_n 714 0 C dL_law_714 rfl rfl ?_
    refine sw_iload 715 C dL_law_715 rfl ?_
    refine sw_iconst 717 C dL_law_717 1 (by decide) ?_
    refine sw_iadd 718 C dL_law_718 ?_
    refine sw_sld 719 (5 * j + 1) C hX hbl hbA dL_law_719 (nI_add (5 * j) 1) (by omega) (by omega) ?_
    refine sw_top hx1.symm ?_
    refine sg_callVI 720 [10] 1 0 [_] C dL_law_720 (ct_X7_pass_2 l hE hO q h1 hq0 hq t h0 htT ht) wK_X7_pass wM_L_125 wN_X7_pass wS_X7_X7_pass wI_X7 hd_X7_pass rfl rfl rfl ⟨rfl, rfl⟩ ⟨by show _ ≤ 601024; omega, by show _ ≤ 7293034; omega⟩ rfl rfl rfl rfl rfl rfl ?_
    refine sg_segs [_, _, _, _, _, _, _, _, _, _, _, _] rfl ?_
    refine sw_istore 723 C dL_law_723 rfl ?_
    refine sw_loc (L1 := [(0, .ref _), (1, .ref _), (2, .ref _), (3, .ref _), (4, .int _), (5, .int _), (6, .int _)]) ?_ rfl
    refine sw_aload_n 725 2 C dL_law_725 rfl rfl ?_
    refine sg_callVIP 726 [10] 0 0 C dL_law_726 (ct_X7_thrown l) wK_X7_thrown wM_L_95 wN_X7_thrown wS_X7_X7_thrown wI_X7 hd_X7_thrown rfl rfl rfl ⟨rfl, rfl⟩ ⟨by show _ ≤ 601024; omega, by show _ ≤ 7293034; omega⟩ rfl rfl rfl rfl ?_
    refine sw_iload 729 C dL_law_729 rfl ?_
    refine sw_icmp_eq 731 736 C dL_law_731 (by decide) (fun c_731 => ?_) (fun c_731 => ?_)
    rotate_left
    · exact by first | exact absurd c_731 (rfl) | exact absurd (rfl) c_731
    refine sw_iload 736 C dL_law_736 rfl ?_
    refine sw_if_ne 738 753 C dL_law_738 (by decide) (fun c_738 => ?_) (fun c_738 => ?_)
    rotate_left
    · exact by first | exact absurd c_738 (by decide) | exact absurd (by decide) c_738
    refine sw_goto 753 1546 C dL_law_753 (by decide) ?_
    exact sw_loc (sw_widen (by omega) (by omega) (hk (S) (T) (R) (cn) (od) (ln) (by_) (g) (sa) (pa) (ad) (tx) (nb) (X) (2) (ap) (hh) (fo) (LI.up ⟨hO, hE, hK, hcn, hod, hln, hT⟩))) rfl
  · obtain ⟨q, t, h1, hq0, hq, h0, htT, ht, hz9⟩ := hc
    refine sw_aload_n 700 1 C dL_law_700 rfl rfl ?_
    refine sw_aload_n 701 0 C dL_law_701 rfl rfl ?_
    refine sw_iload 702 C dL_law_702 rfl ?_
    refine sw_iconst 704 C dL_law_704 1 (by decide) ?_
    refine sw_iadd 705 C dL_law_705 ?_
    refine sw_sld 706 (5 * j + 1) C hX hbl hbA dL_law_706 (nI_add (5 * j) 1) (by omega) (by omega) ?_
    refine sw_top hx1.symm ?_
    refine sw_aload_n 707 3 C dL_law_707 rfl rfl ?_
    refine xl_callSI 708 [0, 1, 2, 3, 4, 5, 6, 11] 3 [_, _, _, _, _, _, _, _] C hz hC dL_law_708 (ct_L_pass l hfl hS hcn hod hh0 hh1 hh2 hh3 q h1 hq0 hq hz9) wK_L_pass wM_L_123 wT_L_pass wI_L hd_L_pass rfl ⟨rfl, rfl⟩ ⟨by show _ ≤ 601024; omega, by show _ ≤ 7293034; omega⟩ rfl rfl rfl rfl rfl rfl ?_
    refine sg_segs [_, _, _, _, _, _, _, _, _, _, _, _] rfl ?_
    refine sw_istore 711 C dL_law_711 rfl ?_
    refine sw_aload_n 713 2 C dL_law_713 rfl rfl ?_
    refine sw_aload_n 714 0 C dL_law_714 rfl rfl ?_
    refine sw_iload 715 C dL_law_715 rfl ?_
    refine sw_iconst 717 C dL_law_717 1 (by decide) ?_
    refine sw_iadd 718 C dL_law_718 ?_
    refine sw_sld 719 (5 * j + 1) C hX hbl hbA dL_law_719 (nI_add (5 * j) 1) (by omega) (by omega) ?_
    refine sw_top hx1.symm ?_
    refine xg_callG 720 [10] 1 0 C dL_law_720 (ct_X7_pass l hE hO hK hcn hod q h1 hq0 hq t h0 htT ht) wK_X7_pass wM_L_125 wN_X7_pass wS_X7_X7_pass wI_X7 hd_X7_pass rfl rfl rfl ⟨rfl, rfl⟩ ⟨by show _ ≤ 601024; omega, by show _ ≤ 7293034; omega⟩ rfl rfl rfl rfl (fun v_720 w_720 h_720 => ?_)
    obtain ⟨rfl, f1, h1, rfl⟩ := h_720
    refine ⟨[_], rfl, rfl, ?_⟩
    refine sw_st (_ :: _) rfl ?_
    refine sg_segs [_, _, _, _, _, _, _, _, _, _, _, _] rfl ?_
    refine sw_istore 723 C dL_law_723 rfl ?_
    refine sw_loc (L1 := [(0, .ref _), (1, .ref _), (2, .ref _), (3, .ref _), (4, .int _), (5, .int _), (6, .int _)]) ?_ rfl
    refine sw_aload_n 725 2 C dL_law_725 rfl rfl ?_
    refine sg_callVIP 726 [10] 0 0 C dL_law_726 (ct_X7_thrown l) wK_X7_thrown wM_L_95 wN_X7_thrown wS_X7_X7_thrown wI_X7 hd_X7_thrown rfl rfl rfl ⟨rfl, rfl⟩ ⟨by show _ ≤ 601024; omega, by show _ ≤ 7293034; omega⟩ rfl rfl rfl rfl ?_
    refine sw_iload 729 C dL_law_729 rfl ?_
    refine sw_icmp_eq 731 736 C dL_law_731 (by decide) (fun c_731 => ?_) (fun c_731 => ?_)
    rotate_left
    · exact by first | exact absurd c_731 (rfl) | exact absurd (rfl) c_731
    refine sw_iload 736 C dL_law_736 rfl ?_
    refine sw_if_ne 738 753 C dL_law_738 (by decide) (fun c_738 => ?_) (fun c_738 => ?_)
    · exact by first | exact absurd c_738 (fun q => q rfl) | exact absurd (fun q => q rfl) c_738
    refine sw_aload_n 741 3 C dL_law_741 rfl rfl ?_
    refine sw_iconst 742 C dL_law_742 0 (by decide) ?_
    refine sg_laldN 743 11 0 1 (0) C dL_law_743 rfl (by decide) rfl rfl rfl rfl ?_
    refine sw_topL (show vp_updL fo 0 _ 0 = _ from pk_uLs) ?_
    refine sw_iload 744 C dL_law_744 rfl ?_
    refine sw_i2l 746 C dL_law_746 ?_
    refine sw_lcmp 747 C dL_law_747 ?_
    refine sw_if_eq 748 753 C dL_law_748 (by decide) (fun c_748 => ?_) (fun c_748 => ?_)
    rotate_left
    · exact by first | exact absurd c_748 (lcmp_self _) | exact absurd (lcmp_self _) c_748
    refine sw_goto 753 1546 C dL_law_753 (by decide) ?_
    exact sw_loc (sw_widen (by omega) (by omega) (hk ((tps q S).2) (T) (va_up R (svI cn od) S) (svC cn) (svO cn od) (ln) (by_) (g) (f1.1) (f1.2) (ad) (tx) (nb) (X) (0) (ap) (hh) (vp_updL fo 0 (nI (tps q S).1).toInt64) (LI.mut ⟨hO, hE, hK, hcn, hod, hln, hT⟩ (mO_pass hO h0 ht) h1))) rfl
set_option maxHeartbeats 8000000 in
set_option maxRecDepth 100000 in
theorem lo_petition {l : Launch} (hfl : l.stackTraces = false) {p : Program} {e : Env} {s : State} {m : MethodId} {below : List Frame} {meth : Method} {c : Code} {A : Nat → Prop} {D : va_G} {cI cJ cQ : ClassId} {Q : State → Prop} {b LL : Nat} {xs : Nat → Int32} (C : CC p s m #[.ref b] c cL_law 9 RL (Cond.initialized RL :: lw_all) D (tyz cI cJ cQ) A s.heap) (hz : xZ A s) (hC : xC s) (hX : va_X b LL xs s s.heap) (hbl : b < s.heap.size) (hbA : ¬ A b) (hLL : LL ≤ 2560) {x0a a0 a1 a2 a3 a4 a5 a6 a7 tr0 tr1 tr2 tr3 tr4 tr5 tr6 tr7 s0 s1 ra0 ra1 ra2 ra3 ra4 ra5 ra6 ra7 rb0 rb1 rb2 rb3 rb4 rb5 rb6 rb7 rc0 rc1 rc2 rc3 rc4 rc5 rc6 rc7 rd0 rd1 rd2 rd3 rd4 rd5 rd6 rd7 r0 t0 t1 w0 b0 b1 b2 b3 b4 b5 ao : Nat} {h : Nat → Option Nat} (hh0 : h 0 = some ra0) (hh1 : h 1 = some rb0) (hh2 : h 2 = some rc0) (hh3 : h 3 = some rd0) {S T : StT} {R : Nat → StT} {cn od ln : Nat} {by_ g sa pa ad tx nb : Nat → Int32} {X : RS} {th ap : Int32} {hh : Int64} {fo : Nat → Int64} {B j k n : Nat} (hB : B < 100000) (hj : 5 * j + 5 ≤ LL) (hkR : k + 1 ≤ 601024) (hnR : n + 6 ≤ 7293034) (hLI : LI B S R cn od ln by_ sa pa tx) (hk : ∀ (S T : StT) (R : Nat → StT) (cn od ln : Nat) (by_ g sa pa ad tx nb : Nat → Int32) (X : RS) (th ap : Int32) (hh : Int64) (fo : Nat → Int64), LI (B + 100) S R cn od ln by_ sa pa tx → sw p l e room_1 s m #[.ref b] below meth c D A s.heap 9 (k + 1) (n + 6) Q (flatS [[(x0a, .inr (6, [.ref a0, .ref tr0, .ref s0, .ref r0, .ref w0]))], (wSt a0 a1 a2 a3 a4 a5 a6 a7 cI (S)), [(s0, .inr (3, [.int (nI (cn)), .int (nI (od)), .ref s1])), (s1, .inl (cQ, 4, .inr (.inr (.inr (.inr h)))))], (wSt ra0 ra1 ra2 ra3 ra4 ra5 ra6 ra7 cI ((R) 0)), (wSt rb0 rb1 rb2 rb3 rb4 rb5 rb6 rb7 cI ((R) 1)), (wSt rc0 rc1 rc2 rc3 rc4 rc5 rc6 rc7 cI ((R) 2)), (wSt rd0 rd1 rd2 rd3 rd4 rd5 rd6 rd7 cI ((R) 3)), (wSt tr0 tr1 tr2 tr3 tr4 tr5 tr6 tr7 cI (T)), (wRd r0 t0 t1 cI (ln) (by_) (X)), [(w0, .inl (cI, 40, .inl (g)))], [(b0, .inr (7, [.ref b1, .ref b2, .ref b3, .int (nI (cn)), .int (th), .ref b4, .int (nI (ln)), .int (ap), .ref b5, .long (hh)])), (b1, .inl (cI, 424, .inl (sa))), (b2, .inl (cI, 1696, .inl (pa))), (b3, .inl (cI, 424, .inl (ad))), (b4, .inl (cI, 100, .inl (tx))), (b5, .inl (cI, 4, .inl (nb)))], [(ao, .inl (cJ, 1, .inr (.inl (fo))))]]) 1546 [(0, .ref b), (1, .ref x0a), (2, .ref b0), (3, .ref ao), (4, .int (nI (5 * j)))] []) : sw p l e room_1 s m #[.ref b] below meth c D A s.heap 9 k n Q (flatS [[(x0a, .inr (6, [.ref a0, .ref tr0, .ref s0, .ref r0, .ref w0]))], (wSt a0 a1 a2 a3 a4 a5 a6 a7 cI (S)), [(s0, .inr (3, [.int (nI (cn)), .int (nI (od)), .ref s1])), (s1, .inl (cQ, 4, .inr (.inr (.inr (.inr h)))))], (wSt ra0 ra1 ra2 ra3 ra4 ra5 ra6 ra7 cI ((R) 0)), (wSt rb0 rb1 rb2 rb3 rb4 rb5 rb6 rb7 cI ((R) 1)), (wSt rc0 rc1 rc2 rc3 rc4 rc5 rc6 rc7 cI ((R) 2)), (wSt rd0 rd1 rd2 rd3 rd4 rd5 rd6 rd7 cI ((R) 3)), (wSt tr0 tr1 tr2 tr3 tr4 tr5 tr6 tr7 cI (T)), (wRd r0 t0 t1 cI (ln) (by_) (X)), [(w0, .inl (cI, 40, .inl (g)))], [(b0, .inr (7, [.ref b1, .ref b2, .ref b3, .int (nI (cn)), .int (th), .ref b4, .int (nI (ln)), .int (ap), .ref b5, .long (hh)])), (b1, .inl (cI, 424, .inl (sa))), (b2, .inl (cI, 1696, .inl (pa))), (b3, .inl (cI, 424, .inl (ad))), (b4, .inl (cI, 100, .inl (tx))), (b5, .inl (cI, 4, .inl (nb)))], [(ao, .inl (cJ, 1, .inr (.inl (fo))))]]) 756 [(0, .ref b), (1, .ref x0a), (2, .ref b0), (3, .ref ao), (4, .int (nI (5 * j)))] [] := by
  obtain ⟨hO, hE, hK, hcn, hod, hln, hT⟩ := hLI
  have hS := hO.si
  have hB2 : B < 2 ^ 29 := by omega
  obtain ⟨x1, hx1⟩ : ∃ x, x = xs (5 * j + 1) := ⟨_, rfl⟩
  obtain ⟨x2, hx2⟩ : ∃ x, x = xs (5 * j + 2) := ⟨_, rfl⟩
  rcases fnd_b (zf S) x1 (zn S) (inR x2 0 9) with hc | hc | hc
  · refine sw_aload_n 756 1 C dL_law_756 rfl rfl ?_
    refine sw_aload_n 757 0 C dL_law_757 rfl rfl ?_
    refine sw_iload 758 C dL_law_758 rfl ?_
    refine sw_iconst 760 C dL_law_760 1 (by decide) ?_
    refine sw_iadd 761 C dL_law_761 ?_
    refine sw_sld 762 (5 * j + 1) C hX hbl hbA dL_law_762 (nI_add (5 * j) 1) (by omega) (by omega) ?_
    refine sw_top hx1.symm ?_
    refine sw_aload_n 763 0 C dL_law_763 rfl rfl ?_
    refine sw_iload 764 C dL_law_764 rfl ?_
    refine sw_iconst 766 C dL_law_766 2 (by decide) ?_
    refine sw_iadd 767 C dL_law_767 ?_
    refine sw_sld 768 (5 * j + 2) C hX hbl hbA dL_law_768 (nI_add (5 * j) 2) (by omega) (by omega) ?_
    refine sw_top hx2.symm ?_
    refine sw_aload_n 769 3 C dL_law_769 rfl rfl ?_
    refine xl_callSI 770 [0, 1, 11] 4 [_, _, _] C hz hC dL_law_770 (ct_L_petition_2 l hfl hS hc) wK_L_petition wM_L_126 wT_L_petition wI_L hd_L_petition rfl ⟨rfl, rfl⟩ ⟨by show _ ≤ 601024; omega, by show _ ≤ 7293034; omega⟩ rfl rfl rfl rfl rfl rfl ?_
    refine sg_segs [_, _, _, _, _, _, _, _, _, _, _, _] rfl ?_
    refine sw_istore 773 C dL_law_773 rfl ?_
    refine sw_aload_n 775 2 C dL_law_775 rfl rfl ?_
    refine sw_aload_n 776 0 C dL_law_776 rfl rfl ?_
    refine sw_iload 777 C dL_law_777 rfl ?_
    refine sw_iconst 779 C dL_law_779 1 (by decide) ?_
    refine sw_iadd 780 C dL_law_780 ?_
    refine sw_sld 781 (5 * j + 1) C hX hbl hbA dL_law_781 (nI_add (5 * j) 1) (by omega) (by omega) ?_
    refine sw_top hx1.symm ?_
    refine sw_aload_n 782 0 C dL_law_782 rfl rfl ?_
    refine sw_iload 783 C dL_law_783 rfl ?_
    refine sw_iconst 785 C dL_law_785 2 (by decide) ?_
    refine sw_iadd 786 C dL_law_786 ?_
    refine sw_sld 787 (5 * j + 2) C hX hbl hbA dL_law_787 (nI_add (5 * j) 2) (by omega) (by omega) ?_
    refine sw_top hx2.symm ?_
    refine sg_callVI 788 [10] 2 0 [_] C dL_law_788 (ct_X7_petition_2 l hE hO hc) wK_X7_petition wM_L_128 wN_X7_petition wS_X7_X7_petition wI_X7 hd_X7_petition rfl rfl rfl ⟨rfl, rfl⟩ ⟨by show _ ≤ 601024; omega, by show _ ≤ 7293034; omega⟩ rfl rfl rfl rfl rfl rfl ?_
    refine sg_segs [_, _, _, _, _, _, _, _, _, _, _, _] rfl ?_
    refine sw_istore 791 C dL_law_791 rfl ?_
    refine sw_loc (L1 := [(0, .ref _), (1, .ref _), (2, .ref _), (3, .ref _), (4, .int _), (5, .int _), (6, .int _)]) ?_ rfl
    refine sw_aload_n 793 2 C dL_law_793 rfl rfl ?_
    refine sg_callVIP 794 [10] 0 0 C dL_law_794 (ct_X7_thrown l) wK_X7_thrown wM_L_95 wN_X7_thrown wS_X7_X7_thrown wI_X7 hd_X7_thrown rfl rfl rfl ⟨rfl, rfl⟩ ⟨by show _ ≤ 601024; omega, by show _ ≤ 7293034; omega⟩ rfl rfl rfl rfl ?_
    refine sw_iload 797 C dL_law_797 rfl ?_
    refine sw_icmp_eq 799 804 C dL_law_799 (by decide) (fun c_799 => ?_) (fun c_799 => ?_)
    rotate_left
    · exact by first | exact absurd c_799 (rfl) | exact absurd (rfl) c_799
    refine sw_iload 804 C dL_law_804 rfl ?_
    refine sw_if_ne 806 821 C dL_law_806 (by decide) (fun c_806 => ?_) (fun c_806 => ?_)
    rotate_left
    · exact by first | exact absurd c_806 (by decide) | exact absurd (by decide) c_806
    refine sw_goto 821 1546 C dL_law_821 (by decide) ?_
    exact sw_loc (sw_widen (by omega) (by omega) (hk (S) (T) (R) (cn) (od) (ln) (by_) (g) (sa) (pa) (ad) (tx) (nb) (X) (1) (ap) (hh) (fo) (LI.up ⟨hO, hE, hK, hcn, hod, hln, hT⟩))) rfl
  · obtain ⟨i, hi, hx⟩ := hc
    refine sw_aload_n 756 1 C dL_law_756 rfl rfl ?_
    refine sw_aload_n 757 0 C dL_law_757 rfl rfl ?_
    refine sw_iload 758 C dL_law_758 rfl ?_
    refine sw_iconst 760 C dL_law_760 1 (by decide) ?_
    refine sw_iadd 761 C dL_law_761 ?_
    refine sw_sld 762 (5 * j + 1) C hX hbl hbA dL_law_762 (nI_add (5 * j) 1) (by omega) (by omega) ?_
    refine sw_top hx1.symm ?_
    refine sw_aload_n 763 0 C dL_law_763 rfl rfl ?_
    refine sw_iload 764 C dL_law_764 rfl ?_
    refine sw_iconst 766 C dL_law_766 2 (by decide) ?_
    refine sw_iadd 767 C dL_law_767 ?_
    refine sw_sld 768 (5 * j + 2) C hX hbl hbA dL_law_768 (nI_add (5 * j) 2) (by omega) (by omega) ?_
    refine sw_top hx2.symm ?_
    refine sw_aload_n 769 3 C dL_law_769 rfl rfl ?_
    refine xl_callSI 770 [0, 1, 11] 4 [_, _, _] C hz hC dL_law_770 (ct_L_petition_3 l hfl hS i hi hx) wK_L_petition wM_L_126 wT_L_petition wI_L hd_L_petition rfl ⟨rfl, rfl⟩ ⟨by show _ ≤ 601024; omega, by show _ ≤ 7293034; omega⟩ rfl rfl rfl rfl rfl rfl ?_
    refine sg_segs [_, _, _, _, _, _, _, _, _, _, _, _] rfl ?_
    refine sw_istore 773 C dL_law_773 rfl ?_
    refine sw_aload_n 775 2 C dL_law_775 rfl rfl ?_
    refine sw_aload_n 776 0 C dL_law_776 rfl rfl ?_
    refine sw_iload 777 C dL_law_777 rfl ?_
    refine sw_iconst 779 C dL_law_779 1 (by decide) ?_
    refine sw_iadd 780 C dL_law_780 ?_
    refine sw_sld 781 (5 * j + 1) C hX hbl hbA dL_law_781 (nI_add (5 * j) 1) (by omega) (by omega) ?_
    refine sw_top hx1.symm ?_
    refine sw_aload_n 782 0 C dL_law_782 rfl rfl ?_
    refine sw_iload 783 C dL_law_783 rfl ?_
    refine sw_iconst 785 C dL_law_785 2 (by decide) ?_
    refine sw_iadd 786 C dL_law_786 ?_
    refine sw_sld 787 (5 * j + 2) C hX hbl hbA dL_law_787 (nI_add (5 * j) 2) (by omega) (by omega) ?_
    refine sw_top hx2.symm ?_
    refine sg_callVI 788 [10] 2 0 [_] C dL_law_788 (ct_X7_petition_3 l hE hO i hi hx) wK_X7_petition wM_L_128 wN_X7_petition wS_X7_X7_petition wI_X7 hd_X7_petition rfl rfl rfl ⟨rfl, rfl⟩ ⟨by show _ ≤ 601024; omega, by show _ ≤ 7293034; omega⟩ rfl rfl rfl rfl rfl rfl ?_
    refine sg_segs [_, _, _, _, _, _, _, _, _, _, _, _] rfl ?_
    refine sw_istore 791 C dL_law_791 rfl ?_
    refine sw_loc (L1 := [(0, .ref _), (1, .ref _), (2, .ref _), (3, .ref _), (4, .int _), (5, .int _), (6, .int _)]) ?_ rfl
    refine sw_aload_n 793 2 C dL_law_793 rfl rfl ?_
    refine sg_callVIP 794 [10] 0 0 C dL_law_794 (ct_X7_thrown l) wK_X7_thrown wM_L_95 wN_X7_thrown wS_X7_X7_thrown wI_X7 hd_X7_thrown rfl rfl rfl ⟨rfl, rfl⟩ ⟨by show _ ≤ 601024; omega, by show _ ≤ 7293034; omega⟩ rfl rfl rfl rfl ?_
    refine sw_iload 797 C dL_law_797 rfl ?_
    refine sw_icmp_eq 799 804 C dL_law_799 (by decide) (fun c_799 => ?_) (fun c_799 => ?_)
    rotate_left
    · exact by first | exact absurd c_799 (rfl) | exact absurd (rfl) c_799
    refine sw_iload 804 C dL_law_804 rfl ?_
    refine sw_if_ne 806 821 C dL_law_806 (by decide) (fun c_806 => ?_) (fun c_806 => ?_)
    rotate_left
    · exact by first | exact absurd c_806 (by decide) | exact absurd (by decide) c_806
    refine sw_goto 821 1546 C dL_law_821 (by decide) ?_
    exact sw_loc (sw_widen (by omega) (by omega) (hk (S) (T) (R) (cn) (od) (ln) (by_) (g) (sa) (pa) (ad) (tx) (nb) (X) (2) (ap) (hh) (fo) (LI.up ⟨hO, hE, hK, hcn, hod, hln, hT⟩))) rfl
  · obtain ⟨i, hi, hx⟩ := hc
    obtain ⟨w, hw, hw2⟩ := inR_ex (b := 9) (by decide) hx
    refine sw_aload_n 756 1 C dL_law_756 rfl rfl ?_
    refine sw_aload_n 757 0 C dL_law_757 rfl rfl ?_
    refine sw_iload 758 C dL_law_758 rfl ?_
    refine sw_iconst 760 C dL_law_760 1 (by decide) ?_
    refine sw_iadd 761 C dL_law_761 ?_
    refine sw_sld 762 (5 * j + 1) C hX hbl hbA dL_law_762 (nI_add (5 * j) 1) (by omega) (by omega) ?_
    refine sw_top hx1.symm ?_
    refine sw_aload_n 763 0 C dL_law_763 rfl rfl ?_
    refine sw_iload 764 C dL_law_764 rfl ?_
    refine sw_iconst 766 C dL_law_766 2 (by decide) ?_
    refine sw_iadd 767 C dL_law_767 ?_
    refine sw_sld 768 (5 * j + 2) C hX hbl hbA dL_law_768 (nI_add (5 * j) 2) (by omega) (by omega) ?_
    refine sw_top hx2.symm ?_
    refine sw_aload_n 769 3 C dL_law_769 rfl rfl ?_
    refine xl_callSI 770 [0, 1, 11] 4 [_, _, _] C hz hC dL_law_770 (ct_L_petition l hfl hS i hi w hw2 hw) wK_L_petition wM_L_126 wT_L_petition wI_L hd_L_petition rfl ⟨rfl, rfl⟩ ⟨by show _ ≤ 601024; omega, by show _ ≤ 7293034; omega⟩ rfl rfl rfl rfl rfl rfl ?_
    refine sg_segs [_, _, _, _, _, _, _, _, _, _, _, _] rfl ?_
    refine sw_istore 773 C dL_law_773 rfl ?_
    refine sw_aload_n 775 2 C dL_law_775 rfl rfl ?_
    refine sw_aload_n 776 0 C dL_law_776 rfl rfl ?_
    refine sw_iload 777 C dL_law_777 rfl ?_
    refine sw_iconst 779 C dL_law_779 1 (by decide) ?_
    refine sw_iadd 780 C dL_law_780 ?_
    refine sw_sld 781 (5 * j + 1) C hX hbl hbA dL_law_781 (nI_add (5 * j) 1) (by omega) (by omega) ?_
    refine sw_top hx1.symm ?_
    refine sw_aload_n 782 0 C dL_law_782 rfl rfl ?_
    refine sw_iload 783 C dL_law_783 rfl ?_
    refine sw_iconst 785 C dL_law_785 2 (by decide) ?_
    refine sw_iadd 786 C dL_law_786 ?_
    refine sw_sld 787 (5 * j + 2) C hX hbl hbA dL_law_787 (nI_add (5 * j) 2) (by omega) (by omega) ?_
    refine sw_top hx2.symm ?_
    refine sg_callVI 788 [10] 2 0 [_] C dL_law_788 (ct_X7_petition l hE hO i hi w hw2 hw) wK_X7_petition wM_L_128 wN_X7_petition wS_X7_X7_petition wI_X7 hd_X7_petition rfl rfl rfl ⟨rfl, rfl⟩ ⟨by show _ ≤ 601024; omega, by show _ ≤ 7293034; omega⟩ rfl rfl rfl rfl rfl rfl ?_
    refine sg_segs [_, _, _, _, _, _, _, _, _, _, _, _] rfl ?_
    refine sw_istore 791 C dL_law_791 rfl ?_
    refine sw_loc (L1 := [(0, .ref _), (1, .ref _), (2, .ref _), (3, .ref _), (4, .int _), (5, .int _), (6, .int _)]) ?_ rfl
    refine sw_aload_n 793 2 C dL_law_793 rfl rfl ?_
    refine sg_callVIP 794 [10] 0 0 C dL_law_794 (ct_X7_thrown l) wK_X7_thrown wM_L_95 wN_X7_thrown wS_X7_X7_thrown wI_X7 hd_X7_thrown rfl rfl rfl ⟨rfl, rfl⟩ ⟨by show _ ≤ 601024; omega, by show _ ≤ 7293034; omega⟩ rfl rfl rfl rfl ?_
    refine sw_iload 797 C dL_law_797 rfl ?_
    refine sw_icmp_eq 799 804 C dL_law_799 (by decide) (fun c_799 => ?_) (fun c_799 => ?_)
    rotate_left
    · exact by first | exact absurd c_799 (rfl) | exact absurd (rfl) c_799
    refine sw_iload 804 C dL_law_804 rfl ?_
    refine sw_if_ne 806 821 C dL_law_806 (by decide) (fun c_806 => ?_) (fun c_806 => ?_)
    · exact by first | exact absurd c_806 (fun q => q rfl) | exact absurd (fun q => q rfl) c_806
    refine sw_aload_n 809 3 C dL_law_809 rfl rfl ?_
    refine sw_iconst 810 C dL_law_810 0 (by decide) ?_
    refine sg_laldN 811 11 0 1 (0) C dL_law_811 rfl (by decide) rfl rfl rfl rfl ?_
    refine sw_topL (show vp_updL fo 0 _ 0 = _ from pk_uLs) ?_
    refine sw_iload 812 C dL_law_812 rfl ?_
    refine sw_i2l 814 C dL_law_814 ?_
    refine sw_lcmp 815 C dL_law_815 ?_
    refine sw_if_eq 816 821 C dL_law_816 (by decide) (fun c_816 => ?_) (fun c_816 => ?_)
    rotate_left
    · exact by first | exact absurd c_816 (lcmp_self _) | exact absurd (lcmp_self _) c_816
    refine sw_goto 821 1546 C dL_law_821 (by decide) ?_
    exact sw_loc (sw_widen (by omega) (by omega) (hk (S) (T) (R) (cn) (od) (ln) (by_) (g) (sa) (pa) (ad) (tx) (nb) (X) (0) (ap) (hh) (vp_updL fo 0 (tel (zf S) (zn S) i w).toInt64) (LI.up ⟨hO, hE, hK, hcn, hod, hln, hT⟩))) rfl
set_option maxHeartbeats 8000000 in
set_option maxRecDepth 100000 in
theorem lo_peek {l : Launch} (hfl : l.stackTraces = false) {p : Program} {e : Env} {s : State} {m : MethodId} {below : List Frame} {meth : Method} {c : Code} {A : Nat → Prop} {D : va_G} {cI cJ cQ : ClassId} {Q : State → Prop} {b LL : Nat} {xs : Nat → Int32} (C : CC p s m #[.ref b] c cL_law 9 RL (Cond.initialized RL :: lw_all) D (tyz cI cJ cQ) A s.heap) (hz : xZ A s) (hC : xC s) (hX : va_X b LL xs s s.heap) (hbl : b < s.heap.size) (hbA : ¬ A b) (hLL : LL ≤ 2560) {x0a a0 a1 a2 a3 a4 a5 a6 a7 tr0 tr1 tr2 tr3 tr4 tr5 tr6 tr7 s0 s1 ra0 ra1 ra2 ra3 ra4 ra5 ra6 ra7 rb0 rb1 rb2 rb3 rb4 rb5 rb6 rb7 rc0 rc1 rc2 rc3 rc4 rc5 rc6 rc7 rd0 rd1 rd2 rd3 rd4 rd5 rd6 rd7 r0 t0 t1 w0 b0 b1 b2 b3 b4 b5 ao : Nat} {h : Nat → Option Nat} (hh0 : h 0 = some ra0) (hh1 : h 1 = some rb0) (hh2 : h 2 = some rc0) (hh3 : h 3 = some rd0) {S T : StT} {R : Nat → StT} {cn od ln : Nat} {by_ g sa pa ad tx nb : Nat → Int32} {X : RS} {th ap : Int32} {hh : Int64} {fo : Nat → Int64} {B j k n : Nat} (hB : B < 100000) (hj : 5 * j + 5 ≤ LL) (hkR : k + 1 ≤ 601024) (hnR : n + 6 ≤ 7293034) (hLI : LI B S R cn od ln by_ sa pa tx) (hk : ∀ (S T : StT) (R : Nat → StT) (cn od ln : Nat) (by_ g sa pa ad tx nb : Nat → Int32) (X : RS) (th ap : Int32) (hh : Int64) (fo : Nat → Int64), LI (B + 100) S R cn od ln by_ sa pa tx → sw p l e room_1 s m #[.ref b] below meth c D A s.heap 9 (k + 1) (n + 6) Q (flatS [[(x0a, .inr (6, [.ref a0, .ref tr0, .ref s0, .ref r0, .ref w0]))], (wSt a0 a1 a2 a3 a4 a5 a6 a7 cI (S)), [(s0, .inr (3, [.int (nI (cn)), .int (nI (od)), .ref s1])), (s1, .inl (cQ, 4, .inr (.inr (.inr (.inr h)))))], (wSt ra0 ra1 ra2 ra3 ra4 ra5 ra6 ra7 cI ((R) 0)), (wSt rb0 rb1 rb2 rb3 rb4 rb5 rb6 rb7 cI ((R) 1)), (wSt rc0 rc1 rc2 rc3 rc4 rc5 rc6 rc7 cI ((R) 2)), (wSt rd0 rd1 rd2 rd3 rd4 rd5 rd6 rd7 cI ((R) 3)), (wSt tr0 tr1 tr2 tr3 tr4 tr5 tr6 tr7 cI (T)), (wRd r0 t0 t1 cI (ln) (by_) (X)), [(w0, .inl (cI, 40, .inl (g)))], [(b0, .inr (7, [.ref b1, .ref b2, .ref b3, .int (nI (cn)), .int (th), .ref b4, .int (nI (ln)), .int (ap), .ref b5, .long (hh)])), (b1, .inl (cI, 424, .inl (sa))), (b2, .inl (cI, 1696, .inl (pa))), (b3, .inl (cI, 424, .inl (ad))), (b4, .inl (cI, 100, .inl (tx))), (b5, .inl (cI, 4, .inl (nb)))], [(ao, .inl (cJ, 1, .inr (.inl (fo))))]]) 1546 [(0, .ref b), (1, .ref x0a), (2, .ref b0), (3, .ref ao), (4, .int (nI (5 * j)))] []) : sw p l e room_1 s m #[.ref b] below meth c D A s.heap 9 k n Q (flatS [[(x0a, .inr (6, [.ref a0, .ref tr0, .ref s0, .ref r0, .ref w0]))], (wSt a0 a1 a2 a3 a4 a5 a6 a7 cI (S)), [(s0, .inr (3, [.int (nI (cn)), .int (nI (od)), .ref s1])), (s1, .inl (cQ, 4, .inr (.inr (.inr (.inr h)))))], (wSt ra0 ra1 ra2 ra3 ra4 ra5 ra6 ra7 cI ((R) 0)), (wSt rb0 rb1 rb2 rb3 rb4 rb5 rb6 rb7 cI ((R) 1)), (wSt rc0 rc1 rc2 rc3 rc4 rc5 rc6 rc7 cI ((R) 2)), (wSt rd0 rd1 rd2 rd3 rd4 rd5 rd6 rd7 cI ((R) 3)), (wSt tr0 tr1 tr2 tr3 tr4 tr5 tr6 tr7 cI (T)), (wRd r0 t0 t1 cI (ln) (by_) (X)), [(w0, .inl (cI, 40, .inl (g)))], [(b0, .inr (7, [.ref b1, .ref b2, .ref b3, .int (nI (cn)), .int (th), .ref b4, .int (nI (ln)), .int (ap), .ref b5, .long (hh)])), (b1, .inl (cI, 424, .inl (sa))), (b2, .inl (cI, 1696, .inl (pa))), (b3, .inl (cI, 424, .inl (ad))), (b4, .inl (cI, 100, .inl (tx))), (b5, .inl (cI, 4, .inl (nb)))], [(ao, .inl (cJ, 1, .inr (.inl (fo))))]]) 824 [(0, .ref b), (1, .ref x0a), (2, .ref b0), (3, .ref ao), (4, .int (nI (5 * j)))] [] := by
  obtain ⟨hO, hE, hK, hcn, hod, hln, hT⟩ := hLI
  have hS := hO.si
  have hB2 : B < 2 ^ 29 := by omega
  obtain ⟨x1, hx1⟩ : ∃ x, x = xs (5 * j + 1) := ⟨_, rfl⟩
  rcases ix_or x1 (n := zn S) (by have := hS.1; omega) with hc | hc
  · refine sw_aload_n 824 1 C dL_law_824 rfl rfl ?_
    refine sw_aload_n 825 0 C dL_law_825 rfl rfl ?_
    refine sw_iload 826 C dL_law_826 rfl ?_
    refine sw_iconst 828 C dL_law_828 1 (by decide) ?_
    refine sw_iadd 829 C dL_law_829 ?_
    refine sw_sld 830 (5 * j + 1) C hX hbl hbA dL_law_830 (nI_add (5 * j) 1) (by omega) (by omega) ?_
    refine sw_top hx1.symm ?_
    refine sw_aload_n 831 3 C dL_law_831 rfl rfl ?_
    refine xl_callSI 832 [0, 1, 9, 11] 3 [_, _, _, _] C hz hC dL_law_832 (ct_L_peek_2 l hfl hS hc) wK_L_peek wM_L_129 wT_L_peek wI_L hd_L_peek rfl ⟨rfl, rfl⟩ ⟨by show _ ≤ 601024; omega, by show _ ≤ 7293034; omega⟩ rfl rfl rfl rfl rfl rfl ?_
    refine sg_segs [_, _, _, _, _, _, _, _, _, _, _, _] rfl ?_
    refine sw_istore 835 C dL_law_835 rfl ?_
    refine sw_aload_n 837 2 C dL_law_837 rfl rfl ?_
    refine sw_aload_n 838 0 C dL_law_838 rfl rfl ?_
    refine sw_iload 839 C dL_law_839 rfl ?_
    refine sw_iconst 841 C dL_law_841 1 (by decide) ?_
    refine sw_iadd 842 C dL_law_842 ?_
    refine sw_sld 843 (5 * j + 1) C hX hbl hbA dL_law_843 (nI_add (5 * j) 1) (by omega) (by omega) ?_
    refine sw_top hx1.symm ?_
    refine sg_callVI 844 [10] 1 0 [_] C dL_law_844 (ct_X7_peek_2 l hE hO hc) wK_X7_peek wM_L_131 wN_X7_peek wS_X7_X7_peek wI_X7 hd_X7_peek rfl rfl rfl ⟨rfl, rfl⟩ ⟨by show _ ≤ 601024; omega, by show _ ≤ 7293034; omega⟩ rfl rfl rfl rfl rfl rfl ?_
    refine sg_segs [_, _, _, _, _, _, _, _, _, _, _, _] rfl ?_
    refine sw_istore 847 C dL_law_847 rfl ?_
    refine sw_loc (L1 := [(0, .ref _), (1, .ref _), (2, .ref _), (3, .ref _), (4, .int _), (5, .int _), (6, .int _)]) ?_ rfl
    refine sw_aload_n 849 2 C dL_law_849 rfl rfl ?_
    refine sg_callVIP 850 [10] 0 0 C dL_law_850 (ct_X7_thrown l) wK_X7_thrown wM_L_95 wN_X7_thrown wS_X7_X7_thrown wI_X7 hd_X7_thrown rfl rfl rfl ⟨rfl, rfl⟩ ⟨by show _ ≤ 601024; omega, by show _ ≤ 7293034; omega⟩ rfl rfl rfl rfl ?_
    refine sw_iload 853 C dL_law_853 rfl ?_
    refine sw_icmp_eq 855 860 C dL_law_855 (by decide) (fun c_855 => ?_) (fun c_855 => ?_)
    rotate_left
    · exact by first | exact absurd c_855 (rfl) | exact absurd (rfl) c_855
    refine sw_iload 860 C dL_law_860 rfl ?_
    refine sw_if_ne 862 877 C dL_law_862 (by decide) (fun c_862 => ?_) (fun c_862 => ?_)
    rotate_left
    · exact by first | exact absurd c_862 (by decide) | exact absurd (by decide) c_862
    refine sw_goto 877 1546 C dL_law_877 (by decide) ?_
    exact sw_loc (sw_widen (by omega) (by omega) (hk (S) (T) (R) (cn) (od) (ln) (by_) (g) (sa) (pa) (ad) (tx) (nb) (X) (1) (ap) (hh) (fo) (LI.up ⟨hO, hE, hK, hcn, hod, hln, hT⟩))) rfl
  · obtain ⟨q, hq, h1⟩ := hc
    obtain ⟨i, hi, hcb⟩ := cbf_sur hO.num hO.row hq
    have hg := arr_at hO.num hO.row g (zn S) (Nat.le_refl _) i hi
    rw [hcb] at hg
    refine sw_aload_n 824 1 C dL_law_824 rfl rfl ?_
    refine sw_aload_n 825 0 C dL_law_825 rfl rfl ?_
    refine sw_iload 826 C dL_law_826 rfl ?_
    refine sw_iconst 828 C dL_law_828 1 (by decide) ?_
    refine sw_iadd 829 C dL_law_829 ?_
    refine sw_sld 830 (5 * j + 1) C hX hbl hbA dL_law_830 (nI_add (5 * j) 1) (by omega) (by omega) ?_
    refine sw_top hx1.symm ?_
    refine sw_aload_n 831 3 C dL_law_831 rfl rfl ?_
    refine xl_callSI 832 [0, 1, 9, 11] 3 [_, _, _, _] C hz hC dL_law_832 (ct_L_peek l hfl hS q i h1 hq hi hg) wK_L_peek wM_L_129 wT_L_peek wI_L hd_L_peek rfl ⟨rfl, rfl⟩ ⟨by show _ ≤ 601024; omega, by show _ ≤ 7293034; omega⟩ rfl rfl rfl rfl rfl rfl ?_
    refine sg_segs [_, _, _, _, _, _, _, _, _, _, _, _] rfl ?_
    refine sw_istore 835 C dL_law_835 rfl ?_
    refine sw_aload_n 837 2 C dL_law_837 rfl rfl ?_
    refine sw_aload_n 838 0 C dL_law_838 rfl rfl ?_
    refine sw_iload 839 C dL_law_839 rfl ?_
    refine sw_iconst 841 C dL_law_841 1 (by decide) ?_
    refine sw_iadd 842 C dL_law_842 ?_
    refine sw_sld 843 (5 * j + 1) C hX hbl hbA dL_law_843 (nI_add (5 * j) 1) (by omega) (by omega) ?_
    refine sw_top hx1.symm ?_
    refine sg_callVI 844 [10] 1 0 [_] C dL_law_844 (ct_X7_peek l hE hO q i h1 hq hi hcb) wK_X7_peek wM_L_131 wN_X7_peek wS_X7_X7_peek wI_X7 hd_X7_peek rfl rfl rfl ⟨rfl, rfl⟩ ⟨by show _ ≤ 601024; omega, by show _ ≤ 7293034; omega⟩ rfl rfl rfl rfl rfl rfl ?_
    refine sg_segs [_, _, _, _, _, _, _, _, _, _, _, _] rfl ?_
    refine sw_istore 847 C dL_law_847 rfl ?_
    refine sw_loc (L1 := [(0, .ref _), (1, .ref _), (2, .ref _), (3, .ref _), (4, .int _), (5, .int _), (6, .int _)]) ?_ rfl
    refine sw_aload_n 849 2 C dL_law_849 rfl rfl ?_
    refine sg_callVIP 850 [10] 0 0 C dL_law_850 (ct_X7_thrown l) wK_X7_thrown wM_L_95 wN_X7_thrown wS_X7_X7_thrown wI_X7 hd_X7_thrown rfl rfl rfl ⟨rfl, rfl⟩ ⟨by show _ ≤ 601024; omega, by show _ ≤ 7293034; omega⟩ rfl rfl rfl rfl ?_
    refine sw_iload 853 C dL_law_853 rfl ?_
    refine sw_icmp_eq 855 860 C dL_law_855 (by decide) (fun c_855 => ?_) (fun c_855 => ?_)
    rotate_left
    · exact by first | exact absurd c_855 (rfl) | exact absurd (rfl) c_855
    refine sw_iload 860 C dL_law_860 rfl ?_
    refine sw_if_ne 862 877 C dL_law_862 (by decide) (fun c_862 => ?_) (fun c_862 => ?_)
    · exact by first | exact absurd c_862 (fun q => q rfl) | exact absurd (fun q => q rfl) c_862
    refine sw_aload_n 865 3 C dL_law_865 rfl rfl ?_
    refine sw_iconst 866 C dL_law_866 0 (by decide) ?_
    refine sg_laldN 867 11 0 1 (0) C dL_law_867 rfl (by decide) rfl rfl rfl rfl ?_
    refine sw_topL (show vp_updL fo 0 _ 0 = _ from pk_uLs) ?_
    refine sw_iload 868 C dL_law_868 rfl ?_
    refine sw_i2l 870 C dL_law_870 ?_
    refine sw_lcmp 871 C dL_law_871 ?_
    refine sw_if_eq 872 877 C dL_law_872 (by decide) (fun c_872 => ?_) (fun c_872 => ?_)
    rotate_left
    · exact by first | exact absurd c_872 (lcmp_self _) | exact absurd (lcmp_self _) c_872
    refine sw_goto 877 1546 C dL_law_877 (by decide) ?_
    exact sw_loc (sw_widen (by omega) (by omega) (hk (S) (T) (R) (cn) (od) (ln) (by_) (arrg (zf S) (zn S) g (zn S)) (sa) (pa) (ad) (tx) (nb) (X) (0) (ap) (hh) (vp_updL fo 0 (zf S (i * 8 + 7)).toInt64) (LI.up ⟨hO, hE, hK, hcn, hod, hln, hT⟩))) rfl
set_option maxHeartbeats 8000000 in
set_option maxRecDepth 100000 in
theorem lo_sentBy {l : Launch} (hfl : l.stackTraces = false) {p : Program} {e : Env} {s : State} {m : MethodId} {below : List Frame} {meth : Method} {c : Code} {A : Nat → Prop} {D : va_G} {cI cJ cQ : ClassId} {Q : State → Prop} {b LL : Nat} {xs : Nat → Int32} (C : CC p s m #[.ref b] c cL_law 9 RL (Cond.initialized RL :: lw_all) D (tyz cI cJ cQ) A s.heap) (hz : xZ A s) (hC : xC s) (hX : va_X b LL xs s s.heap) (hbl : b < s.heap.size) (hbA : ¬ A b) (hLL : LL ≤ 2560) {x0a a0 a1 a2 a3 a4 a5 a6 a7 tr0 tr1 tr2 tr3 tr4 tr5 tr6 tr7 s0 s1 ra0 ra1 ra2 ra3 ra4 ra5 ra6 ra7 rb0 rb1 rb2 rb3 rb4 rb5 rb6 rb7 rc0 rc1 rc2 rc3 rc4 rc5 rc6 rc7 rd0 rd1 rd2 rd3 rd4 rd5 rd6 rd7 r0 t0 t1 w0 b0 b1 b2 b3 b4 b5 ao : Nat} {h : Nat → Option Nat} (hh0 : h 0 = some ra0) (hh1 : h 1 = some rb0) (hh2 : h 2 = some rc0) (hh3 : h 3 = some rd0) {S T : StT} {R : Nat → StT} {cn od ln : Nat} {by_ g sa pa ad tx nb : Nat → Int32} {X : RS} {th ap : Int32} {hh : Int64} {fo : Nat → Int64} {B j k n : Nat} (hB : B < 100000) (hj : 5 * j + 5 ≤ LL) (hkR : k + 1 ≤ 601024) (hnR : n + 6 ≤ 7293034) (hLI : LI B S R cn od ln by_ sa pa tx) (hk : ∀ (S T : StT) (R : Nat → StT) (cn od ln : Nat) (by_ g sa pa ad tx nb : Nat → Int32) (X : RS) (th ap : Int32) (hh : Int64) (fo : Nat → Int64), LI (B + 100) S R cn od ln by_ sa pa tx → sw p l e room_1 s m #[.ref b] below meth c D A s.heap 9 (k + 1) (n + 6) Q (flatS [[(x0a, .inr (6, [.ref a0, .ref tr0, .ref s0, .ref r0, .ref w0]))], (wSt a0 a1 a2 a3 a4 a5 a6 a7 cI (S)), [(s0, .inr (3, [.int (nI (cn)), .int (nI (od)), .ref s1])), (s1, .inl (cQ, 4, .inr (.inr (.inr (.inr h)))))], (wSt ra0 ra1 ra2 ra3 ra4 ra5 ra6 ra7 cI ((R) 0)), (wSt rb0 rb1 rb2 rb3 rb4 rb5 rb6 rb7 cI ((R) 1)), (wSt rc0 rc1 rc2 rc3 rc4 rc5 rc6 rc7 cI ((R) 2)), (wSt rd0 rd1 rd2 rd3 rd4 rd5 rd6 rd7 cI ((R) 3)), (wSt tr0 tr1 tr2 tr3 tr4 tr5 tr6 tr7 cI (T)), (wRd r0 t0 t1 cI (ln) (by_) (X)), [(w0, .inl (cI, 40, .inl (g)))], [(b0, .inr (7, [.ref b1, .ref b2, .ref b3, .int (nI (cn)), .int (th), .ref b4, .int (nI (ln)), .int (ap), .ref b5, .long (hh)])), (b1, .inl (cI, 424, .inl (sa))), (b2, .inl (cI, 1696, .inl (pa))), (b3, .inl (cI, 424, .inl (ad))), (b4, .inl (cI, 100, .inl (tx))), (b5, .inl (cI, 4, .inl (nb)))], [(ao, .inl (cJ, 1, .inr (.inl (fo))))]]) 1546 [(0, .ref b), (1, .ref x0a), (2, .ref b0), (3, .ref ao), (4, .int (nI (5 * j)))] []) : sw p l e room_1 s m #[.ref b] below meth c D A s.heap 9 k n Q (flatS [[(x0a, .inr (6, [.ref a0, .ref tr0, .ref s0, .ref r0, .ref w0]))], (wSt a0 a1 a2 a3 a4 a5 a6 a7 cI (S)), [(s0, .inr (3, [.int (nI (cn)), .int (nI (od)), .ref s1])), (s1, .inl (cQ, 4, .inr (.inr (.inr (.inr h)))))], (wSt ra0 ra1 ra2 ra3 ra4 ra5 ra6 ra7 cI ((R) 0)), (wSt rb0 rb1 rb2 rb3 rb4 rb5 rb6 rb7 cI ((R) 1)), (wSt rc0 rc1 rc2 rc3 rc4 rc5 rc6 rc7 cI ((R) 2)), (wSt rd0 rd1 rd2 rd3 rd4 rd5 rd6 rd7 cI ((R) 3)), (wSt tr0 tr1 tr2 tr3 tr4 tr5 tr6 tr7 cI (T)), (wRd r0 t0 t1 cI (ln) (by_) (X)), [(w0, .inl (cI, 40, .inl (g)))], [(b0, .inr (7, [.ref b1, .ref b2, .ref b3, .int (nI (cn)), .int (th), .ref b4, .int (nI (ln)), .int (ap), .ref b5, .long (hh)])), (b1, .inl (cI, 424, .inl (sa))), (b2, .inl (cI, 1696, .inl (pa))), (b3, .inl (cI, 424, .inl (ad))), (b4, .inl (cI, 100, .inl (tx))), (b5, .inl (cI, 4, .inl (nb)))], [(ao, .inl (cJ, 1, .inr (.inl (fo))))]]) 880 [(0, .ref b), (1, .ref x0a), (2, .ref b0), (3, .ref ao), (4, .int (nI (5 * j)))] [] := by
  obtain ⟨hO, hE, hK, hcn, hod, hln, hT⟩ := hLI
  have hS := hO.si
  have hB2 : B < 2 ^ 29 := by omega
  obtain ⟨x1, hx1⟩ : ∃ x, x = xs (5 * j + 1) := ⟨_, rfl⟩
  rcases bool2 (inR x1 0 7) with hc | hc
  · refine sw_aload_n 880 1 C dL_law_880 rfl rfl ?_
    refine sw_aload_n 881 0 C dL_law_881 rfl rfl ?_
    refine sw_iload 882 C dL_law_882 rfl ?_
    refine sw_iconst 884 C dL_law_884 1 (by decide) ?_
    refine sw_iadd 885 C dL_law_885 ?_
    refine sw_sld 886 (5 * j + 1) C hX hbl hbA dL_law_886 (nI_add (5 * j) 1) (by omega) (by omega) ?_
    refine sw_top hx1.symm ?_
    refine sw_aload_n 887 3 C dL_law_887 rfl rfl ?_
    refine xl_callSI 888 [0, 1, 11] 3 [_, _, _] C hz hC dL_law_888 (ct_L_sentBy_2 l hfl hc) wK_L_sentBy wM_L_132 wT_L_sentBy wI_L hd_L_sentBy rfl ⟨rfl, rfl⟩ ⟨by show _ ≤ 601024; omega, by show _ ≤ 7293034; omega⟩ rfl rfl rfl rfl rfl rfl ?_
    refine sg_segs [_, _, _, _, _, _, _, _, _, _, _, _] rfl ?_
    refine sw_istore 891 C dL_law_891 rfl ?_
    refine sw_aload_n 893 2 C dL_law_893 rfl rfl ?_
    refine sw_aload_n 894 0 C dL_law_894 rfl rfl ?_
    refine sw_iload 895 C dL_law_895 rfl ?_
    refine sw_iconst 897 C dL_law_897 1 (by decide) ?_
    refine sw_iadd 898 C dL_law_898 ?_
    refine sw_sld 899 (5 * j + 1) C hX hbl hbA dL_law_899 (nI_add (5 * j) 1) (by omega) (by omega) ?_
    refine sw_top hx1.symm ?_
    refine sg_callVI 900 [10] 1 0 [_] C dL_law_900 (ct_X7_sentBy_2 l hc) wK_X7_sentBy wM_L_134 wN_X7_sentBy wS_X7_X7_sentBy wI_X7 hd_X7_sentBy rfl rfl rfl ⟨rfl, rfl⟩ ⟨by show _ ≤ 601024; omega, by show _ ≤ 7293034; omega⟩ rfl rfl rfl rfl rfl rfl ?_
    refine sg_segs [_, _, _, _, _, _, _, _, _, _, _, _] rfl ?_
    refine sw_istore 903 C dL_law_903 rfl ?_
    refine sw_loc (L1 := [(0, .ref _), (1, .ref _), (2, .ref _), (3, .ref _), (4, .int _), (5, .int _), (6, .int _)]) ?_ rfl
    refine sw_aload_n 905 2 C dL_law_905 rfl rfl ?_
    refine sg_callVIP 906 [10] 0 0 C dL_law_906 (ct_X7_thrown l) wK_X7_thrown wM_L_95 wN_X7_thrown wS_X7_X7_thrown wI_X7 hd_X7_thrown rfl rfl rfl ⟨rfl, rfl⟩ ⟨by show _ ≤ 601024; omega, by show _ ≤ 7293034; omega⟩ rfl rfl rfl rfl ?_
    refine sw_iload 909 C dL_law_909 rfl ?_
    refine sw_icmp_eq 911 916 C dL_law_911 (by decide) (fun c_911 => ?_) (fun c_911 => ?_)
    rotate_left
    · exact by first | exact absurd c_911 (rfl) | exact absurd (rfl) c_911
    refine sw_iload 916 C dL_law_916 rfl ?_
    refine sw_if_ne 918 933 C dL_law_918 (by decide) (fun c_918 => ?_) (fun c_918 => ?_)
    rotate_left
    · exact by first | exact absurd c_918 (by decide) | exact absurd (by decide) c_918
    refine sw_goto 933 1546 C dL_law_933 (by decide) ?_
    exact sw_loc (sw_widen (by omega) (by omega) (hk (S) (T) (R) (cn) (od) (ln) (by_) (g) (sa) (pa) (ad) (tx) (nb) (X) (1) (ap) (hh) (fo) (LI.up ⟨hO, hE, hK, hcn, hod, hln, hT⟩))) rfl
  · refine sw_aload_n 880 1 C dL_law_880 rfl rfl ?_
    refine sw_aload_n 881 0 C dL_law_881 rfl rfl ?_
    refine sw_iload 882 C dL_law_882 rfl ?_
    refine sw_iconst 884 C dL_law_884 1 (by decide) ?_
    refine sw_iadd 885 C dL_law_885 ?_
    refine sw_sld 886 (5 * j + 1) C hX hbl hbA dL_law_886 (nI_add (5 * j) 1) (by omega) (by omega) ?_
    refine sw_top hx1.symm ?_
    refine sw_aload_n 887 3 C dL_law_887 rfl rfl ?_
    refine xl_callSI 888 [0, 1, 11] 3 [_, _, _] C hz hC dL_law_888 (ct_L_sentBy l hfl hS hc) wK_L_sentBy wM_L_132 wT_L_sentBy wI_L hd_L_sentBy rfl ⟨rfl, rfl⟩ ⟨by show _ ≤ 601024; omega, by show _ ≤ 7293034; omega⟩ rfl rfl rfl rfl rfl rfl ?_
    refine sg_segs [_, _, _, _, _, _, _, _, _, _, _, _] rfl ?_
    refine sw_istore 891 C dL_law_891 rfl ?_
    refine sw_aload_n 893 2 C dL_law_893 rfl rfl ?_
    refine sw_aload_n 894 0 C dL_law_894 rfl rfl ?_
    refine sw_iload 895 C dL_law_895 rfl ?_
    refine sw_iconst 897 C dL_law_897 1 (by decide) ?_
    refine sw_iadd 898 C dL_law_898 ?_
    refine sw_sld 899 (5 * j + 1) C hX hbl hbA dL_law_899 (nI_add (5 * j) 1) (by omega) (by omega) ?_
    refine sw_top hx1.symm ?_
    refine sg_callVI 900 [10] 1 0 [_] C dL_law_900 (ct_X7_sentBy l hE hO hc) wK_X7_sentBy wM_L_134 wN_X7_sentBy wS_X7_X7_sentBy wI_X7 hd_X7_sentBy rfl rfl rfl ⟨rfl, rfl⟩ ⟨by show _ ≤ 601024; omega, by show _ ≤ 7293034; omega⟩ rfl rfl rfl rfl rfl rfl ?_
    refine sg_segs [_, _, _, _, _, _, _, _, _, _, _, _] rfl ?_
    refine sw_istore 903 C dL_law_903 rfl ?_
    refine sw_loc (L1 := [(0, .ref _), (1, .ref _), (2, .ref _), (3, .ref _), (4, .int _), (5, .int _), (6, .int _)]) ?_ rfl
    refine sw_aload_n 905 2 C dL_law_905 rfl rfl ?_
    refine sg_callVIP 906 [10] 0 0 C dL_law_906 (ct_X7_thrown l) wK_X7_thrown wM_L_95 wN_X7_thrown wS_X7_X7_thrown wI_X7 hd_X7_thrown rfl rfl rfl ⟨rfl, rfl⟩ ⟨by show _ ≤ 601024; omega, by show _ ≤ 7293034; omega⟩ rfl rfl rfl rfl ?_
    refine sw_iload 909 C dL_law_909 rfl ?_
    refine sw_icmp_eq 911 916 C dL_law_911 (by decide) (fun c_911 => ?_) (fun c_911 => ?_)
    rotate_left
    · exact by first | exact absurd c_911 (rfl) | exact absurd (rfl) c_911
    refine sw_iload 916 C dL_law_916 rfl ?_
    refine sw_if_ne 918 933 C dL_law_918 (by decide) (fun c_918 => ?_) (fun c_918 => ?_)
    · exact by first | exact absurd c_918 (fun q => q rfl) | exact absurd (fun q => q rfl) c_918
    refine sw_aload_n 921 3 C dL_law_921 rfl rfl ?_
    refine sw_iconst 922 C dL_law_922 0 (by decide) ?_
    refine sg_laldN 923 11 0 1 (0) C dL_law_923 rfl (by decide) rfl rfl rfl rfl ?_
    refine sw_topL (show vp_updL fo 0 _ 0 = _ from pk_uLs) ?_
    refine sw_iload 924 C dL_law_924 rfl ?_
    refine sw_i2l 926 C dL_law_926 ?_
    refine sw_lcmp 927 C dL_law_927 ?_
    refine sw_if_eq 928 933 C dL_law_928 (by decide) (fun c_928 => ?_) (fun c_928 => ?_)
    rotate_left
    · exact by first | exact absurd c_928 (lcmp_self _) | exact absurd (lcmp_self _) c_928
    refine sw_goto 933 1546 C dL_law_933 (by decide) ?_
    exact sw_loc (sw_widen (by omega) (by omega) (hk (S) (T) (R) (cn) (od) (ln) (by_) (g) (sa) (pa) (ad) (tx) (nb) (X) (0) (ap) (hh) (vp_updL fo 0 (nI (ct (isOf (zf S) x1) (zn S))).toInt64) (LI.up ⟨hO, hE, hK, hcn, hod, hln, hT⟩))) rfl
set_option maxHeartbeats 8000000 in
set_option maxRecDepth 100000 in
theorem lo_returned {l : Launch} (hfl : l.stackTraces = false) {p : Program} {e : Env} {s : State} {m : MethodId} {below : List Frame} {meth : Method} {c : Code} {A : Nat → Prop} {D : va_G} {cI cJ cQ : ClassId} {Q : State → Prop} {b LL : Nat} {xs : Nat → Int32} (C : CC p s m #[.ref b] c cL_law 9 RL (Cond.initialized RL :: lw_all) D (tyz cI cJ cQ) A s.heap) (hz : xZ A s) (hC : xC s) (hX : va_X b LL xs s s.heap) (hbl : b < s.heap.size) (hbA : ¬ A b) (hLL : LL ≤ 2560) {x0a a0 a1 a2 a3 a4 a5 a6 a7 tr0 tr1 tr2 tr3 tr4 tr5 tr6 tr7 s0 s1 ra0 ra1 ra2 ra3 ra4 ra5 ra6 ra7 rb0 rb1 rb2 rb3 rb4 rb5 rb6 rb7 rc0 rc1 rc2 rc3 rc4 rc5 rc6 rc7 rd0 rd1 rd2 rd3 rd4 rd5 rd6 rd7 r0 t0 t1 w0 b0 b1 b2 b3 b4 b5 ao : Nat} {h : Nat → Option Nat} (hh0 : h 0 = some ra0) (hh1 : h 1 = some rb0) (hh2 : h 2 = some rc0) (hh3 : h 3 = some rd0) {S T : StT} {R : Nat → StT} {cn od ln : Nat} {by_ g sa pa ad tx nb : Nat → Int32} {X : RS} {th ap : Int32} {hh : Int64} {fo : Nat → Int64} {B j k n : Nat} (hB : B < 100000) (hj : 5 * j + 5 ≤ LL) (hkR : k + 1 ≤ 601024) (hnR : n + 6 ≤ 7293034) (hLI : LI B S R cn od ln by_ sa pa tx) (hk : ∀ (S T : StT) (R : Nat → StT) (cn od ln : Nat) (by_ g sa pa ad tx nb : Nat → Int32) (X : RS) (th ap : Int32) (hh : Int64) (fo : Nat → Int64), LI (B + 100) S R cn od ln by_ sa pa tx → sw p l e room_1 s m #[.ref b] below meth c D A s.heap 9 (k + 1) (n + 6) Q (flatS [[(x0a, .inr (6, [.ref a0, .ref tr0, .ref s0, .ref r0, .ref w0]))], (wSt a0 a1 a2 a3 a4 a5 a6 a7 cI (S)), [(s0, .inr (3, [.int (nI (cn)), .int (nI (od)), .ref s1])), (s1, .inl (cQ, 4, .inr (.inr (.inr (.inr h)))))], (wSt ra0 ra1 ra2 ra3 ra4 ra5 ra6 ra7 cI ((R) 0)), (wSt rb0 rb1 rb2 rb3 rb4 rb5 rb6 rb7 cI ((R) 1)), (wSt rc0 rc1 rc2 rc3 rc4 rc5 rc6 rc7 cI ((R) 2)), (wSt rd0 rd1 rd2 rd3 rd4 rd5 rd6 rd7 cI ((R) 3)), (wSt tr0 tr1 tr2 tr3 tr4 tr5 tr6 tr7 cI (T)), (wRd r0 t0 t1 cI (ln) (by_) (X)), [(w0, .inl (cI, 40, .inl (g)))], [(b0, .inr (7, [.ref b1, .ref b2, .ref b3, .int (nI (cn)), .int (th), .ref b4, .int (nI (ln)), .int (ap), .ref b5, .long (hh)])), (b1, .inl (cI, 424, .inl (sa))), (b2, .inl (cI, 1696, .inl (pa))), (b3, .inl (cI, 424, .inl (ad))), (b4, .inl (cI, 100, .inl (tx))), (b5, .inl (cI, 4, .inl (nb)))], [(ao, .inl (cJ, 1, .inr (.inl (fo))))]]) 1546 [(0, .ref b), (1, .ref x0a), (2, .ref b0), (3, .ref ao), (4, .int (nI (5 * j)))] []) : sw p l e room_1 s m #[.ref b] below meth c D A s.heap 9 k n Q (flatS [[(x0a, .inr (6, [.ref a0, .ref tr0, .ref s0, .ref r0, .ref w0]))], (wSt a0 a1 a2 a3 a4 a5 a6 a7 cI (S)), [(s0, .inr (3, [.int (nI (cn)), .int (nI (od)), .ref s1])), (s1, .inl (cQ, 4, .inr (.inr (.inr (.inr h)))))], (wSt ra0 ra1 ra2 ra3 ra4 ra5 ra6 ra7 cI ((R) 0)), (wSt rb0 rb1 rb2 rb3 rb4 rb5 rb6 rb7 cI ((R) 1)), (wSt rc0 rc1 rc2 rc3 rc4 rc5 rc6 rc7 cI ((R) 2)), (wSt rd0 rd1 rd2 rd3 rd4 rd5 rd6 rd7 cI ((R) 3)), (wSt tr0 tr1 tr2 tr3 tr4 tr5 tr6 tr7 cI (T)), (wRd r0 t0 t1 cI (ln) (by_) (X)), [(w0, .inl (cI, 40, .inl (g)))], [(b0, .inr (7, [.ref b1, .ref b2, .ref b3, .int (nI (cn)), .int (th), .ref b4, .int (nI (ln)), .int (ap), .ref b5, .long (hh)])), (b1, .inl (cI, 424, .inl (sa))), (b2, .inl (cI, 1696, .inl (pa))), (b3, .inl (cI, 424, .inl (ad))), (b4, .inl (cI, 100, .inl (tx))), (b5, .inl (cI, 4, .inl (nb)))], [(ao, .inl (cJ, 1, .inr (.inl (fo))))]]) 936 [(0, .ref b), (1, .ref x0a), (2, .ref b0), (3, .ref ao), (4, .int (nI (5 * j)))] [] := by
  obtain ⟨hO, hE, hK, hcn, hod, hln, hT⟩ := hLI
  have hS := hO.si
  have hB2 : B < 2 ^ 29 := by omega
  obtain ⟨x1, hx1⟩ : ∃ x, x = xs (5 * j + 1) := ⟨_, rfl⟩
  rcases bool2 (inR x1 0 7) with hc | hc
  · refine sw_aload_n 936 1 C dL_law_936 rfl rfl ?_
    refine sw_aload_n 937 0 C dL_law_937 rfl rfl ?_
    refine sw_iload 938 C dL_law_938 rfl ?_
    refine sw_iconst 940 C dL_law_940 1 (by decide) ?_
    refine sw_iadd 941 C dL_law_941 ?_
    refine sw_sld 942 (5 * j + 1) C hX hbl hbA dL_law_942 (nI_add (5 * j) 1) (by omega) (by omega) ?_
    refine sw_top hx1.symm ?_
    refine sw_aload_n 943 3 C dL_law_943 rfl rfl ?_
    refine xl_callSI 944 [0, 1, 11] 3 [_, _, _] C hz hC dL_law_944 (ct_L_returned_2 l hfl hc) wK_L_returned wM_L_135 wT_L_returned wI_L hd_L_returned rfl ⟨rfl, rfl⟩ ⟨by show _ ≤ 601024; omega, by show _ ≤ 7293034; omega⟩ rfl rfl rfl rfl rfl rfl ?_
    refine sg_segs [_, _, _, _, _, _, _, _, _, _, _, _] rfl ?_
    refine sw_istore 947 C dL_law_947 rfl ?_
    refine sw_aload_n 949 2 C dL_law_949 rfl rfl ?_
    refine sw_aload_n 950 0 C dL_law_950 rfl rfl ?_
    refine sw_iload 951 C dL_law_951 rfl ?_
    refine sw_iconst 953 C dL_law_953 1 (by decide) ?_
    refine sw_iadd 954 C dL_law_954 ?_
    refine sw_sld 955 (5 * j + 1) C hX hbl hbA dL_law_955 (nI_add (5 * j) 1) (by omega) (by omega) ?_
    refine sw_top hx1.symm ?_
    refine sg_callVI 956 [10] 1 0 [_] C dL_law_956 (ct_X7_returned_2 l hc) wK_X7_returned wM_L_137 wN_X7_returned wS_X7_X7_returned wI_X7 hd_X7_returned rfl rfl rfl ⟨rfl, rfl⟩ ⟨by show _ ≤ 601024; omega, by show _ ≤ 7293034; omega⟩ rfl rfl rfl rfl rfl rfl ?_
    refine sg_segs [_, _, _, _, _, _, _, _, _, _, _, _] rfl ?_
    refine sw_istore 959 C dL_law_959 rfl ?_
    refine sw_loc (L1 := [(0, .ref _), (1, .ref _), (2, .ref _), (3, .ref _), (4, .int _), (5, .int _), (6, .int _)]) ?_ rfl
    refine sw_aload_n 961 2 C dL_law_961 rfl rfl ?_
    refine sg_callVIP 962 [10] 0 0 C dL_law_962 (ct_X7_thrown l) wK_X7_thrown wM_L_95 wN_X7_thrown wS_X7_X7_thrown wI_X7 hd_X7_thrown rfl rfl rfl ⟨rfl, rfl⟩ ⟨by show _ ≤ 601024; omega, by show _ ≤ 7293034; omega⟩ rfl rfl rfl rfl ?_
    refine sw_iload 965 C dL_law_965 rfl ?_
    refine sw_icmp_eq 967 972 C dL_law_967 (by decide) (fun c_967 => ?_) (fun c_967 => ?_)
    rotate_left
    · exact by first | exact absurd c_967 (rfl) | exact absurd (rfl) c_967
    refine sw_iload 972 C dL_law_972 rfl ?_
    refine sw_if_ne 974 989 C dL_law_974 (by decide) (fun c_974 => ?_) (fun c_974 => ?_)
    rotate_left
    · exact by first | exact absurd c_974 (by decide) | exact absurd (by decide) c_974
    refine sw_goto 989 1546 C dL_law_989 (by decide) ?_
    exact sw_loc (sw_widen (by omega) (by omega) (hk (S) (T) (R) (cn) (od) (ln) (by_) (g) (sa) (pa) (ad) (tx) (nb) (X) (1) (ap) (hh) (fo) (LI.up ⟨hO, hE, hK, hcn, hod, hln, hT⟩))) rfl
  · obtain ⟨i, hi, h1⟩ := inR_ex (b := 7) (by decide) hc
    refine sw_aload_n 936 1 C dL_law_936 rfl rfl ?_
    refine sw_aload_n 937 0 C dL_law_937 rfl rfl ?_
    refine sw_iload 938 C dL_law_938 rfl ?_
    refine sw_iconst 940 C dL_law_940 1 (by decide) ?_
    refine sw_iadd 941 C dL_law_941 ?_
    refine sw_sld 942 (5 * j + 1) C hX hbl hbA dL_law_942 (nI_add (5 * j) 1) (by omega) (by omega) ?_
    refine sw_top hx1.symm ?_
    refine sw_aload_n 943 3 C dL_law_943 rfl rfl ?_
    refine xl_callSI 944 [0, 1, 11] 3 [_, _, _] C hz hC dL_law_944 (ct_L_returned l hfl i h1 (by omega)) wK_L_returned wM_L_135 wT_L_returned wI_L hd_L_returned rfl ⟨rfl, rfl⟩ ⟨by show _ ≤ 601024; omega, by show _ ≤ 7293034; omega⟩ rfl rfl rfl rfl rfl rfl ?_
    refine sg_segs [_, _, _, _, _, _, _, _, _, _, _, _] rfl ?_
    refine sw_istore 947 C dL_law_947 rfl ?_
    refine sw_aload_n 949 2 C dL_law_949 rfl rfl ?_
    refine sw_aload_n 950 0 C dL_law_950 rfl rfl ?_
    refine sw_iload 951 C dL_law_951 rfl ?_
    refine sw_iconst 953 C dL_law_953 1 (by decide) ?_
    refine sw_iadd 954 C dL_law_954 ?_
    refine sw_sld 955 (5 * j + 1) C hX hbl hbA dL_law_955 (nI_add (5 * j) 1) (by omega) (by omega) ?_
    refine sw_top hx1.symm ?_
    refine sg_callVI 956 [10] 1 0 [_] C dL_law_956 (ct_X7_returned l hE hO i h1 (by omega)) wK_X7_returned wM_L_137 wN_X7_returned wS_X7_X7_returned wI_X7 hd_X7_returned rfl rfl rfl ⟨rfl, rfl⟩ ⟨by show _ ≤ 601024; omega, by show _ ≤ 7293034; omega⟩ rfl rfl rfl rfl rfl rfl ?_
    refine sg_segs [_, _, _, _, _, _, _, _, _, _, _, _] rfl ?_
    refine sw_istore 959 C dL_law_959 rfl ?_
    refine sw_loc (L1 := [(0, .ref _), (1, .ref _), (2, .ref _), (3, .ref _), (4, .int _), (5, .int _), (6, .int _)]) ?_ rfl
    refine sw_aload_n 961 2 C dL_law_961 rfl rfl ?_
    refine sg_callVIP 962 [10] 0 0 C dL_law_962 (ct_X7_thrown l) wK_X7_thrown wM_L_95 wN_X7_thrown wS_X7_X7_thrown wI_X7 hd_X7_thrown rfl rfl rfl ⟨rfl, rfl⟩ ⟨by show _ ≤ 601024; omega, by show _ ≤ 7293034; omega⟩ rfl rfl rfl rfl ?_
    refine sw_iload 965 C dL_law_965 rfl ?_
    refine sw_icmp_eq 967 972 C dL_law_967 (by decide) (fun c_967 => ?_) (fun c_967 => ?_)
    rotate_left
    · exact by first | exact absurd c_967 (rfl) | exact absurd (rfl) c_967
    refine sw_iload 972 C dL_law_972 rfl ?_
    refine sw_if_ne 974 989 C dL_law_974 (by decide) (fun c_974 => ?_) (fun c_974 => ?_)
    · exact by first | exact absurd c_974 (fun q => q rfl) | exact absurd (fun q => q rfl) c_974
    refine sw_aload_n 977 3 C dL_law_977 rfl rfl ?_
    refine sw_iconst 978 C dL_law_978 0 (by decide) ?_
    refine sg_laldN 979 11 0 1 (0) C dL_law_979 rfl (by decide) rfl rfl rfl rfl ?_
    refine sw_topL (show vp_updL fo 0 _ 0 = _ from pk_uLs) ?_
    refine sw_iload 980 C dL_law_980 rfl ?_
    refine sw_i2l 982 C dL_law_982 ?_
    refine sw_lcmp 983 C dL_law_983 ?_
    refine sw_if_eq 984 989 C dL_law_984 (by decide) (fun c_984 => ?_) (fun c_984 => ?_)
    rotate_left
    · exact by first | exact absurd c_984 (lcmp_self _) | exact absurd (lcmp_self _) c_984
    refine sw_goto 989 1546 C dL_law_989 (by decide) ?_
    exact sw_loc (sw_widen (by omega) (by omega) (hk (S) (T) (R) (cn) (od) (ln) (by_) (g) (sa) (pa) (ad) (tx) (nb) (X) (0) (ap) (hh) (vp_updL fo 0 (zbk S i).toInt64) (LI.up ⟨hO, hE, hK, hcn, hod, hln, hT⟩))) rfl
set_option maxHeartbeats 8000000 in
set_option maxRecDepth 100000 in
theorem lo_entry {l : Launch} (hfl : l.stackTraces = false) {p : Program} {e : Env} {s : State} {m : MethodId} {below : List Frame} {meth : Method} {c : Code} {A : Nat → Prop} {D : va_G} {cI cJ cQ : ClassId} {Q : State → Prop} {b LL : Nat} {xs : Nat → Int32} (C : CC p s m #[.ref b] c cL_law 9 RL (Cond.initialized RL :: lw_all) D (tyz cI cJ cQ) A s.heap) (hz : xZ A s) (hC : xC s) (hX : va_X b LL xs s s.heap) (hbl : b < s.heap.size) (hbA : ¬ A b) (hLL : LL ≤ 2560) {x0a a0 a1 a2 a3 a4 a5 a6 a7 tr0 tr1 tr2 tr3 tr4 tr5 tr6 tr7 s0 s1 ra0 ra1 ra2 ra3 ra4 ra5 ra6 ra7 rb0 rb1 rb2 rb3 rb4 rb5 rb6 rb7 rc0 rc1 rc2 rc3 rc4 rc5 rc6 rc7 rd0 rd1 rd2 rd3 rd4 rd5 rd6 rd7 r0 t0 t1 w0 b0 b1 b2 b3 b4 b5 ao : Nat} {h : Nat → Option Nat} (hh0 : h 0 = some ra0) (hh1 : h 1 = some rb0) (hh2 : h 2 = some rc0) (hh3 : h 3 = some rd0) {S T : StT} {R : Nat → StT} {cn od ln : Nat} {by_ g sa pa ad tx nb : Nat → Int32} {X : RS} {th ap : Int32} {hh : Int64} {fo : Nat → Int64} {B j k n : Nat} (hB : B < 100000) (hj : 5 * j + 5 ≤ LL) (hkR : k + 1 ≤ 601024) (hnR : n + 6 ≤ 7293034) (hLI : LI B S R cn od ln by_ sa pa tx) (hk : ∀ (S T : StT) (R : Nat → StT) (cn od ln : Nat) (by_ g sa pa ad tx nb : Nat → Int32) (X : RS) (th ap : Int32) (hh : Int64) (fo : Nat → Int64), LI (B + 100) S R cn od ln by_ sa pa tx → sw p l e room_1 s m #[.ref b] below meth c D A s.heap 9 (k + 1) (n + 6) Q (flatS [[(x0a, .inr (6, [.ref a0, .ref tr0, .ref s0, .ref r0, .ref w0]))], (wSt a0 a1 a2 a3 a4 a5 a6 a7 cI (S)), [(s0, .inr (3, [.int (nI (cn)), .int (nI (od)), .ref s1])), (s1, .inl (cQ, 4, .inr (.inr (.inr (.inr h)))))], (wSt ra0 ra1 ra2 ra3 ra4 ra5 ra6 ra7 cI ((R) 0)), (wSt rb0 rb1 rb2 rb3 rb4 rb5 rb6 rb7 cI ((R) 1)), (wSt rc0 rc1 rc2 rc3 rc4 rc5 rc6 rc7 cI ((R) 2)), (wSt rd0 rd1 rd2 rd3 rd4 rd5 rd6 rd7 cI ((R) 3)), (wSt tr0 tr1 tr2 tr3 tr4 tr5 tr6 tr7 cI (T)), (wRd r0 t0 t1 cI (ln) (by_) (X)), [(w0, .inl (cI, 40, .inl (g)))], [(b0, .inr (7, [.ref b1, .ref b2, .ref b3, .int (nI (cn)), .int (th), .ref b4, .int (nI (ln)), .int (ap), .ref b5, .long (hh)])), (b1, .inl (cI, 424, .inl (sa))), (b2, .inl (cI, 1696, .inl (pa))), (b3, .inl (cI, 424, .inl (ad))), (b4, .inl (cI, 100, .inl (tx))), (b5, .inl (cI, 4, .inl (nb)))], [(ao, .inl (cJ, 1, .inr (.inl (fo))))]]) 1546 [(0, .ref b), (1, .ref x0a), (2, .ref b0), (3, .ref ao), (4, .int (nI (5 * j)))] []) : sw p l e room_1 s m #[.ref b] below meth c D A s.heap 9 k n Q (flatS [[(x0a, .inr (6, [.ref a0, .ref tr0, .ref s0, .ref r0, .ref w0]))], (wSt a0 a1 a2 a3 a4 a5 a6 a7 cI (S)), [(s0, .inr (3, [.int (nI (cn)), .int (nI (od)), .ref s1])), (s1, .inl (cQ, 4, .inr (.inr (.inr (.inr h)))))], (wSt ra0 ra1 ra2 ra3 ra4 ra5 ra6 ra7 cI ((R) 0)), (wSt rb0 rb1 rb2 rb3 rb4 rb5 rb6 rb7 cI ((R) 1)), (wSt rc0 rc1 rc2 rc3 rc4 rc5 rc6 rc7 cI ((R) 2)), (wSt rd0 rd1 rd2 rd3 rd4 rd5 rd6 rd7 cI ((R) 3)), (wSt tr0 tr1 tr2 tr3 tr4 tr5 tr6 tr7 cI (T)), (wRd r0 t0 t1 cI (ln) (by_) (X)), [(w0, .inl (cI, 40, .inl (g)))], [(b0, .inr (7, [.ref b1, .ref b2, .ref b3, .int (nI (cn)), .int (th), .ref b4, .int (nI (ln)), .int (ap), .ref b5, .long (hh)])), (b1, .inl (cI, 424, .inl (sa))), (b2, .inl (cI, 1696, .inl (pa))), (b3, .inl (cI, 424, .inl (ad))), (b4, .inl (cI, 100, .inl (tx))), (b5, .inl (cI, 4, .inl (nb)))], [(ao, .inl (cJ, 1, .inr (.inl (fo))))]]) 992 [(0, .ref b), (1, .ref x0a), (2, .ref b0), (3, .ref ao), (4, .int (nI (5 * j)))] [] := by
  obtain ⟨hO, hE, hK, hcn, hod, hln, hT⟩ := hLI
  have hS := hO.si
  have hB2 : B < 2 ^ 29 := by omega
  obtain ⟨x1, hx1⟩ : ∃ x, x = xs (5 * j + 1) := ⟨_, rfl⟩
  obtain ⟨x2, hx2⟩ : ∃ x, x = xs (5 * j + 2) := ⟨_, rfl⟩
  rcases ix_b x1 (n := zl S) (by have := hS.2.1; omega) (inR x2 0 4) with hc | hc | hc
  · refine sw_aload_n 992 1 C dL_law_992 rfl rfl ?_
    refine sw_aload_n 993 0 C dL_law_993 rfl rfl ?_
    refine sw_iload 994 C dL_law_994 rfl ?_
    refine sw_iconst 996 C dL_law_996 1 (by decide) ?_
    refine sw_iadd 997 C dL_law_997 ?_
    refine sw_sld 998 (5 * j + 1) C hX hbl hbA dL_law_998 (nI_add (5 * j) 1) (by omega) (by omega) ?_
    refine sw_top hx1.symm ?_
    refine sw_aload_n 999 0 C dL_law_999 rfl rfl ?_
    refine sw_iload 1000 C dL_law_1000 rfl ?_
    refine sw_iconst 1002 C dL_law_1002 2 (by decide) ?_
    refine sw_iadd 1003 C dL_law_1003 ?_
    refine sw_sld 1004 (5 * j + 2) C hX hbl hbA dL_law_1004 (nI_add (5 * j) 2) (by omega) (by omega) ?_
    refine sw_top hx2.symm ?_
    refine sw_aload_n 1005 3 C dL_law_1005 rfl rfl ?_
    refine xl_callSI 1006 [0, 1, 11] 4 [_, _, _] C hz hC dL_law_1006 (ct_L_entry_2 l hfl hc) wK_L_entry wM_L_138 wT_L_entry wI_L hd_L_entry rfl ⟨rfl, rfl⟩ ⟨by show _ ≤ 601024; omega, by show _ ≤ 7293034; omega⟩ rfl rfl rfl rfl rfl rfl ?_
    refine sg_segs [_, _, _, _, _, _, _, _, _, _, _, _] rfl ?_
    refine sw_istore 1009 C dL_law_1009 rfl ?_
    refine sw_aload_n 1011 2 C dL_law_1011 rfl rfl ?_
    refine sw_aload_n 1012 0 C dL_law_1012 rfl rfl ?_
    refine sw_iload 1013 C dL_law_1013 rfl ?_
    refine sw_iconst 1015 C dL_law_1015 1 (by decide) ?_
    refine sw_iadd 1016 C dL_law_1016 ?_
    refine sw_sld 1017 (5 * j + 1) C hX hbl hbA dL_law_1017 (nI_add (5 * j) 1) (by omega) (by omega) ?_
    refine sw_top hx1.symm ?_
    refine sw_aload_n 1018 0 C dL_law_1018 rfl rfl ?_
    refine sw_iload 1019 C dL_law_1019 rfl ?_
    refine sw_iconst 1021 C dL_law_1021 2 (by decide) ?_
    refine sw_iadd 1022 C dL_law_1022 ?_
    refine sw_sld 1023 (5 * j + 2) C hX hbl hbA dL_law_1023 (nI_add (5 * j) 2) (by omega) (by omega) ?_
    refine sw_top hx2.symm ?_
    refine sg_callVI 1024 [10] 2 0 [_] C dL_law_1024 (ct_X7_entry_2 l hE hO hc) wK_X7_entry wM_L_140 wN_X7_entry wS_X7_X7_entry wI_X7 hd_X7_entry rfl rfl rfl ⟨rfl, rfl⟩ ⟨by show _ ≤ 601024; omega, by show _ ≤ 7293034; omega⟩ rfl rfl rfl rfl rfl rfl ?_
    refine sg_segs [_, _, _, _, _, _, _, _, _, _, _, _] rfl ?_
    refine sw_istore 1027 C dL_law_1027 rfl ?_
    refine sw_loc (L1 := [(0, .ref _), (1, .ref _), (2, .ref _), (3, .ref _), (4, .int _), (5, .int _), (6, .int _)]) ?_ rfl
    refine sw_aload_n 1029 2 C dL_law_1029 rfl rfl ?_
    refine sg_callVIP 1030 [10] 0 0 C dL_law_1030 (ct_X7_thrown l) wK_X7_thrown wM_L_95 wN_X7_thrown wS_X7_X7_thrown wI_X7 hd_X7_thrown rfl rfl rfl ⟨rfl, rfl⟩ ⟨by show _ ≤ 601024; omega, by show _ ≤ 7293034; omega⟩ rfl rfl rfl rfl ?_
    refine sw_iload 1033 C dL_law_1033 rfl ?_
    refine sw_icmp_eq 1035 1040 C dL_law_1035 (by decide) (fun c_1035 => ?_) (fun c_1035 => ?_)
    rotate_left
    · exact by first | exact absurd c_1035 (rfl) | exact absurd (rfl) c_1035
    refine sw_iload 1040 C dL_law_1040 rfl ?_
    refine sw_if_ne 1042 1057 C dL_law_1042 (by decide) (fun c_1042 => ?_) (fun c_1042 => ?_)
    rotate_left
    · exact by first | exact absurd c_1042 (by decide) | exact absurd (by decide) c_1042
    refine sw_goto 1057 1546 C dL_law_1057 (by decide) ?_
    exact sw_loc (sw_widen (by omega) (by omega) (hk (S) (T) (R) (cn) (od) (ln) (by_) (g) (sa) (pa) (ad) (tx) (nb) (X) (1) (ap) (hh) (fo) (LI.up ⟨hO, hE, hK, hcn, hod, hln, hT⟩))) rfl
  · obtain ⟨i, hi, h1, hx⟩ := hc
    refine sw_aload_n 992 1 C dL_law_992 rfl rfl ?_
    refine sw_aload_n 993 0 C dL_law_993 rfl rfl ?_
    refine sw_iload 994 C dL_law_994 rfl ?_
    refine sw_iconst 996 C dL_law_996 1 (by decide) ?_
    refine sw_iadd 997 C dL_law_997 ?_
    refine sw_sld 998 (5 * j + 1) C hX hbl hbA dL_law_998 (nI_add (5 * j) 1) (by omega) (by omega) ?_
    refine sw_top hx1.symm ?_
    refine sw_aload_n 999 0 C dL_law_999 rfl rfl ?_
    refine sw_iload 1000 C dL_law_1000 rfl ?_
    refine sw_iconst 1002 C dL_law_1002 2 (by decide) ?_
    refine sw_iadd 1003 C dL_law_1003 ?_
    refine sw_sld 1004 (5 * j + 2) C hX hbl hbA dL_law_1004 (nI_add (5 * j) 2) (by omega) (by omega) ?_
    refine sw_top hx2.symm ?_
    refine sw_aload_n 1005 3 C dL_law_1005 rfl rfl ?_
    refine xl_callSI 1006 [0, 1, 11] 4 [_, _, _] C hz hC dL_law_1006 (ct_L_entry_3 l hfl hS i h1 hi hx) wK_L_entry wM_L_138 wT_L_entry wI_L hd_L_entry rfl ⟨rfl, rfl⟩ ⟨by show _ ≤ 601024; omega, by show _ ≤ 7293034; omega⟩ rfl rfl rfl rfl rfl rfl ?_
    refine sg_segs [_, _, _, _, _, _, _, _, _, _, _, _] rfl ?_
    refine sw_istore 1009 C dL_law_1009 rfl ?_
    refine sw_aload_n 1011 2 C dL_law_1011 rfl rfl ?_
    refine sw_aload_n 1012 0 C dL_law_1012 rfl rfl ?_
    refine sw_iload 1013 C dL_law_1013 rfl ?_
    refine sw_iconst 1015 C dL_law_1015 1 (by decide) ?_
    refine sw_iadd 1016 C dL_law_1016 ?_
    refine sw_sld 1017 (5 * j + 1) C hX hbl hbA dL_law_1017 (nI_add (5 * j) 1) (by omega) (by omega) ?_
    refine sw_top hx1.symm ?_
    refine sw_aload_n 1018 0 C dL_law_1018 rfl rfl ?_
    refine sw_iload 1019 C dL_law_1019 rfl ?_
    refine sw_iconst 1021 C dL_law_1021 2 (by decide) ?_
    refine sw_iadd 1022 C dL_law_1022 ?_
    refine sw_sld 1023 (5 * j + 2) C hX hbl hbA dL_law_1023 (nI_add (5 * j) 2) (by omega) (by omega) ?_
    refine sw_top hx2.symm ?_
    refine sg_callVI 1024 [10] 2 0 [_] C dL_law_1024 (ct_X7_entry_3 l hE hO i h1 hi hx) wK_X7_entry wM_L_140 wN_X7_entry wS_X7_X7_entry wI_X7 hd_X7_entry rfl rfl rfl ⟨rfl, rfl⟩ ⟨by show _ ≤ 601024; omega, by show _ ≤ 7293034; omega⟩ rfl rfl rfl rfl rfl rfl ?_
    refine sg_segs [_, _, _, _, _, _, _, _, _, _, _, _] rfl ?_
    refine sw_istore 1027 C dL_law_1027 rfl ?_
    refine sw_loc (L1 := [(0, .ref _), (1, .ref _), (2, .ref _), (3, .ref _), (4, .int _), (5, .int _), (6, .int _)]) ?_ rfl
    refine sw_aload_n 1029 2 C dL_law_1029 rfl rfl ?_
    refine sg_callVIP 1030 [10] 0 0 C dL_law_1030 (ct_X7_thrown l) wK_X7_thrown wM_L_95 wN_X7_thrown wS_X7_X7_thrown wI_X7 hd_X7_thrown rfl rfl rfl ⟨rfl, rfl⟩ ⟨by show _ ≤ 601024; omega, by show _ ≤ 7293034; omega⟩ rfl rfl rfl rfl ?_
    refine sw_iload 1033 C dL_law_1033 rfl ?_
    refine sw_icmp_eq 1035 1040 C dL_law_1035 (by decide) (fun c_1035 => ?_) (fun c_1035 => ?_)
    rotate_left
    · exact by first | exact absurd c_1035 (rfl) | exact absurd (rfl) c_1035
    refine sw_iload 1040 C dL_law_1040 rfl ?_
    refine sw_if_ne 1042 1057 C dL_law_1042 (by decide) (fun c_1042 => ?_) (fun c_1042 => ?_)
    rotate_left
    · exact by first | exact absurd c_1042 (by decide) | exact absurd (by decide) c_1042
    refine sw_goto 1057 1546 C dL_law_1057 (by decide) ?_
    exact sw_loc (sw_widen (by omega) (by omega) (hk (S) (T) (R) (cn) (od) (ln) (by_) (g) (sa) (pa) (ad) (tx) (nb) (X) (2) (ap) (hh) (fo) (LI.up ⟨hO, hE, hK, hcn, hod, hln, hT⟩))) rfl
  · obtain ⟨i, hi, h1, hx⟩ := hc
    obtain ⟨w, hw, hw2⟩ := inR_ex (b := 4) (by decide) hx
    refine sw_aload_n 992 1 C dL_law_992 rfl rfl ?_
    refine sw_aload_n 993 0 C dL_law_993 rfl rfl ?_
    refine sw_iload 994 C dL_law_994 rfl ?_
    refine sw_iconst 996 C dL_law_996 1 (by decide) ?_
    refine sw_iadd 997 C dL_law_997 ?_
    refine sw_sld 998 (5 * j + 1) C hX hbl hbA dL_law_998 (nI_add (5 * j) 1) (by omega) (by omega) ?_
    refine sw_top hx1.symm ?_
    refine sw_aload_n 999 0 C dL_law_999 rfl rfl ?_
    refine sw_iload 1000 C dL_law_1000 rfl ?_
    refine sw_iconst 1002 C dL_law_1002 2 (by decide) ?_
    refine sw_iadd 1003 C dL_law_1003 ?_
    refine sw_sld 1004 (5 * j + 2) C hX hbl hbA dL_law_1004 (nI_add (5 * j) 2) (by omega) (by omega) ?_
    refine sw_top hx2.symm ?_
    refine sw_aload_n 1005 3 C dL_law_1005 rfl rfl ?_
    refine xl_callSI 1006 [0, 1, 11] 4 [_, _, _] C hz hC dL_law_1006 (ct_L_entry l hfl hS i w h1 hi hw2 (by omega)) wK_L_entry wM_L_138 wT_L_entry wI_L hd_L_entry rfl ⟨rfl, rfl⟩ ⟨by show _ ≤ 601024; omega, by show _ ≤ 7293034; omega⟩ rfl rfl rfl rfl rfl rfl ?_
    refine sg_segs [_, _, _, _, _, _, _, _, _, _, _, _] rfl ?_
    refine sw_istore 1009 C dL_law_1009 rfl ?_
    refine sw_aload_n 1011 2 C dL_law_1011 rfl rfl ?_
    refine sw_aload_n 1012 0 C dL_law_1012 rfl rfl ?_
    refine sw_iload 1013 C dL_law_1013 rfl ?_
    refine sw_iconst 1015 C dL_law_1015 1 (by decide) ?_
    refine sw_iadd 1016 C dL_law_1016 ?_
    refine sw_sld 1017 (5 * j + 1) C hX hbl hbA dL_law_1017 (nI_add (5 * j) 1) (by omega) (by omega) ?_
    refine sw_top hx1.symm ?_
    refine sw_aload_n 1018 0 C dL_law_1018 rfl rfl ?_
    refine sw_iload 1019 C dL_law_1019 rfl ?_
    refine sw_iconst 1021 C dL_law_1021 2 (by decide) ?_
    refine sw_iadd 1022 C dL_law_1022 ?_
    refine sw_sld 1023 (5 * j + 2) C hX hbl hbA dL_law_1023 (nI_add (5 * j) 2) (by omega) (by omega) ?_
    refine sw_top hx2.symm ?_
    refine sg_callVI 1024 [10] 2 0 [_] C dL_law_1024 (ct_X7_entry l hE hO i w h1 hi hw2 (by omega)) wK_X7_entry wM_L_140 wN_X7_entry wS_X7_X7_entry wI_X7 hd_X7_entry rfl rfl rfl ⟨rfl, rfl⟩ ⟨by show _ ≤ 601024; omega, by show _ ≤ 7293034; omega⟩ rfl rfl rfl rfl rfl rfl ?_
    refine sg_segs [_, _, _, _, _, _, _, _, _, _, _, _] rfl ?_
    refine sw_istore 1027 C dL_law_1027 rfl ?_
    refine sw_loc (L1 := [(0, .ref _), (1, .ref _), (2, .ref _), (3, .ref _), (4, .int _), (5, .int _), (6, .int _)]) ?_ rfl
    refine sw_aload_n 1029 2 C dL_law_1029 rfl rfl ?_
    refine sg_callVIP 1030 [10] 0 0 C dL_law_1030 (ct_X7_thrown l) wK_X7_thrown wM_L_95 wN_X7_thrown wS_X7_X7_thrown wI_X7 hd_X7_thrown rfl rfl rfl ⟨rfl, rfl⟩ ⟨by show _ ≤ 601024; omega, by show _ ≤ 7293034; omega⟩ rfl rfl rfl rfl ?_
    refine sw_iload 1033 C dL_law_1033 rfl ?_
    refine sw_icmp_eq 1035 1040 C dL_law_1035 (by decide) (fun c_1035 => ?_) (fun c_1035 => ?_)
    rotate_left
    · exact by first | exact absurd c_1035 (rfl) | exact absurd (rfl) c_1035
    refine sw_iload 1040 C dL_law_1040 rfl ?_
    refine sw_if_ne 1042 1057 C dL_law_1042 (by decide) (fun c_1042 => ?_) (fun c_1042 => ?_)
    · exact by first | exact absurd c_1042 (fun q => q rfl) | exact absurd (fun q => q rfl) c_1042
    refine sw_aload_n 1045 3 C dL_law_1045 rfl rfl ?_
    refine sw_iconst 1046 C dL_law_1046 0 (by decide) ?_
    refine sg_laldN 1047 11 0 1 (0) C dL_law_1047 rfl (by decide) rfl rfl rfl rfl ?_
    refine sw_topL (show vp_updL fo 0 _ 0 = _ from pk_uLs) ?_
    refine sw_iload 1048 C dL_law_1048 rfl ?_
    refine sw_i2l 1050 C dL_law_1050 ?_
    refine sw_lcmp 1051 C dL_law_1051 ?_
    refine sw_if_eq 1052 1057 C dL_law_1052 (by decide) (fun c_1052 => ?_) (fun c_1052 => ?_)
    rotate_left
    · exact by first | exact absurd c_1052 (lcmp_self _) | exact absurd (lcmp_self _) c_1052
    refine sw_goto 1057 1546 C dL_law_1057 (by decide) ?_
    exact sw_loc (sw_widen (by omega) (by omega) (hk (S) (T) (R) (cn) (od) (ln) (by_) (g) (sa) (pa) (ad) (tx) (nb) (X) (0) (ap) (hh) (vp_updL fo 0 (zlg S (i * 5 + w)).toInt64) (LI.up ⟨hO, hE, hK, hcn, hod, hln, hT⟩))) rfl
set_option maxHeartbeats 8000000 in
set_option maxRecDepth 100000 in
theorem lo_value {l : Launch} (hfl : l.stackTraces = false) {p : Program} {e : Env} {s : State} {m : MethodId} {below : List Frame} {meth : Method} {c : Code} {A : Nat → Prop} {D : va_G} {cI cJ cQ : ClassId} {Q : State → Prop} {b LL : Nat} {xs : Nat → Int32} (C : CC p s m #[.ref b] c cL_law 9 RL (Cond.initialized RL :: lw_all) D (tyz cI cJ cQ) A s.heap) (hz : xZ A s) (hC : xC s) (hX : va_X b LL xs s s.heap) (hbl : b < s.heap.size) (hbA : ¬ A b) (hLL : LL ≤ 2560) {x0a a0 a1 a2 a3 a4 a5 a6 a7 tr0 tr1 tr2 tr3 tr4 tr5 tr6 tr7 s0 s1 ra0 ra1 ra2 ra3 ra4 ra5 ra6 ra7 rb0 rb1 rb2 rb3 rb4 rb5 rb6 rb7 rc0 rc1 rc2 rc3 rc4 rc5 rc6 rc7 rd0 rd1 rd2 rd3 rd4 rd5 rd6 rd7 r0 t0 t1 w0 b0 b1 b2 b3 b4 b5 ao : Nat} {h : Nat → Option Nat} (hh0 : h 0 = some ra0) (hh1 : h 1 = some rb0) (hh2 : h 2 = some rc0) (hh3 : h 3 = some rd0) {S T : StT} {R : Nat → StT} {cn od ln : Nat} {by_ g sa pa ad tx nb : Nat → Int32} {X : RS} {th ap : Int32} {hh : Int64} {fo : Nat → Int64} {B j k n : Nat} (hB : B < 100000) (hj : 5 * j + 5 ≤ LL) (hkR : k + 1 ≤ 601024) (hnR : n + 6 ≤ 7293034) (hLI : LI B S R cn od ln by_ sa pa tx) (hk : ∀ (S T : StT) (R : Nat → StT) (cn od ln : Nat) (by_ g sa pa ad tx nb : Nat → Int32) (X : RS) (th ap : Int32) (hh : Int64) (fo : Nat → Int64), LI (B + 100) S R cn od ln by_ sa pa tx → sw p l e room_1 s m #[.ref b] below meth c D A s.heap 9 (k + 1) (n + 6) Q (flatS [[(x0a, .inr (6, [.ref a0, .ref tr0, .ref s0, .ref r0, .ref w0]))], (wSt a0 a1 a2 a3 a4 a5 a6 a7 cI (S)), [(s0, .inr (3, [.int (nI (cn)), .int (nI (od)), .ref s1])), (s1, .inl (cQ, 4, .inr (.inr (.inr (.inr h)))))], (wSt ra0 ra1 ra2 ra3 ra4 ra5 ra6 ra7 cI ((R) 0)), (wSt rb0 rb1 rb2 rb3 rb4 rb5 rb6 rb7 cI ((R) 1)), (wSt rc0 rc1 rc2 rc3 rc4 rc5 rc6 rc7 cI ((R) 2)), (wSt rd0 rd1 rd2 rd3 rd4 rd5 rd6 rd7 cI ((R) 3)), (wSt tr0 tr1 tr2 tr3 tr4 tr5 tr6 tr7 cI (T)), (wRd r0 t0 t1 cI (ln) (by_) (X)), [(w0, .inl (cI, 40, .inl (g)))], [(b0, .inr (7, [.ref b1, .ref b2, .ref b3, .int (nI (cn)), .int (th), .ref b4, .int (nI (ln)), .int (ap), .ref b5, .long (hh)])), (b1, .inl (cI, 424, .inl (sa))), (b2, .inl (cI, 1696, .inl (pa))), (b3, .inl (cI, 424, .inl (ad))), (b4, .inl (cI, 100, .inl (tx))), (b5, .inl (cI, 4, .inl (nb)))], [(ao, .inl (cJ, 1, .inr (.inl (fo))))]]) 1546 [(0, .ref b), (1, .ref x0a), (2, .ref b0), (3, .ref ao), (4, .int (nI (5 * j)))] []) : sw p l e room_1 s m #[.ref b] below meth c D A s.heap 9 k n Q (flatS [[(x0a, .inr (6, [.ref a0, .ref tr0, .ref s0, .ref r0, .ref w0]))], (wSt a0 a1 a2 a3 a4 a5 a6 a7 cI (S)), [(s0, .inr (3, [.int (nI (cn)), .int (nI (od)), .ref s1])), (s1, .inl (cQ, 4, .inr (.inr (.inr (.inr h)))))], (wSt ra0 ra1 ra2 ra3 ra4 ra5 ra6 ra7 cI ((R) 0)), (wSt rb0 rb1 rb2 rb3 rb4 rb5 rb6 rb7 cI ((R) 1)), (wSt rc0 rc1 rc2 rc3 rc4 rc5 rc6 rc7 cI ((R) 2)), (wSt rd0 rd1 rd2 rd3 rd4 rd5 rd6 rd7 cI ((R) 3)), (wSt tr0 tr1 tr2 tr3 tr4 tr5 tr6 tr7 cI (T)), (wRd r0 t0 t1 cI (ln) (by_) (X)), [(w0, .inl (cI, 40, .inl (g)))], [(b0, .inr (7, [.ref b1, .ref b2, .ref b3, .int (nI (cn)), .int (th), .ref b4, .int (nI (ln)), .int (ap), .ref b5, .long (hh)])), (b1, .inl (cI, 424, .inl (sa))), (b2, .inl (cI, 1696, .inl (pa))), (b3, .inl (cI, 424, .inl (ad))), (b4, .inl (cI, 100, .inl (tx))), (b5, .inl (cI, 4, .inl (nb)))], [(ao, .inl (cJ, 1, .inr (.inl (fo))))]]) 1060 [(0, .ref b), (1, .ref x0a), (2, .ref b0), (3, .ref ao), (4, .int (nI (5 * j)))] [] := by
  obtain ⟨hO, hE, hK, hcn, hod, hln, hT⟩ := hLI
  have hS := hO.si
  have hB2 : B < 2 ^ 29 := by omega
  obtain ⟨x1, hx1⟩ : ∃ x, x = xs (5 * j + 1) := ⟨_, rfl⟩
  rcases bool2 (inR x1 0 13) with hc | hc
  · refine sw_aload_n 1060 1 C dL_law_1060 rfl rfl ?_
    refine sw_aload_n 1061 0 C dL_law_1061 rfl rfl ?_
    refine sw_iload 1062 C dL_law_1062 rfl ?_
    refine sw_iconst 1064 C dL_law_1064 1 (by decide) ?_
    refine sw_iadd 1065 C dL_law_1065 ?_
    refine sw_sld 1066 (5 * j + 1) C hX hbl hbA dL_law_1066 (nI_add (5 * j) 1) (by omega) (by omega) ?_
    refine sw_top hx1.symm ?_
    refine sw_aload_n 1067 3 C dL_law_1067 rfl rfl ?_
    refine xl_callSI 1068 [0, 1, 11] 3 [_, _, _] C hz hC dL_law_1068 (ct_L_value_2 l hfl hc) wK_L_value wM_L_141 wT_L_value wI_L hd_L_value rfl ⟨rfl, rfl⟩ ⟨by show _ ≤ 601024; omega, by show _ ≤ 7293034; omega⟩ rfl rfl rfl rfl rfl rfl ?_
    refine sg_segs [_, _, _, _, _, _, _, _, _, _, _, _] rfl ?_
    refine sw_istore 1071 C dL_law_1071 rfl ?_
    refine sw_aload_n 1073 2 C dL_law_1073 rfl rfl ?_
    refine sw_aload_n 1074 0 C dL_law_1074 rfl rfl ?_
    refine sw_iload 1075 C dL_law_1075 rfl ?_
    refine sw_iconst 1077 C dL_law_1077 1 (by decide) ?_
    refine sw_iadd 1078 C dL_law_1078 ?_
    refine sw_sld 1079 (5 * j + 1) C hX hbl hbA dL_law_1079 (nI_add (5 * j) 1) (by omega) (by omega) ?_
    refine sw_top hx1.symm ?_
    refine sg_callVI 1080 [10] 1 0 [_] C dL_law_1080 (ct_X7_value_2 l hc) wK_X7_value wM_L_143 wN_X7_value wS_X7_X7_value wI_X7 hd_X7_value rfl rfl rfl ⟨rfl, rfl⟩ ⟨by show _ ≤ 601024; omega, by show _ ≤ 7293034; omega⟩ rfl rfl rfl rfl rfl rfl ?_
    refine sg_segs [_, _, _, _, _, _, _, _, _, _, _, _] rfl ?_
    refine sw_istore 1083 C dL_law_1083 rfl ?_
    refine sw_loc (L1 := [(0, .ref _), (1, .ref _), (2, .ref _), (3, .ref _), (4, .int _), (5, .int _), (6, .int _)]) ?_ rfl
    refine sw_aload_n 1085 2 C dL_law_1085 rfl rfl ?_
    refine sg_callVIP 1086 [10] 0 0 C dL_law_1086 (ct_X7_thrown l) wK_X7_thrown wM_L_95 wN_X7_thrown wS_X7_X7_thrown wI_X7 hd_X7_thrown rfl rfl rfl ⟨rfl, rfl⟩ ⟨by show _ ≤ 601024; omega, by show _ ≤ 7293034; omega⟩ rfl rfl rfl rfl ?_
    refine sw_iload 1089 C dL_law_1089 rfl ?_
    refine sw_icmp_eq 1091 1096 C dL_law_1091 (by decide) (fun c_1091 => ?_) (fun c_1091 => ?_)
    rotate_left
    · exact by first | exact absurd c_1091 (rfl) | exact absurd (rfl) c_1091
    refine sw_iload 1096 C dL_law_1096 rfl ?_
    refine sw_if_ne 1098 1113 C dL_law_1098 (by decide) (fun c_1098 => ?_) (fun c_1098 => ?_)
    rotate_left
    · exact by first | exact absurd c_1098 (by decide) | exact absurd (by decide) c_1098
    refine sw_goto 1113 1546 C dL_law_1113 (by decide) ?_
    exact sw_loc (sw_widen (by omega) (by omega) (hk (S) (T) (R) (cn) (od) (ln) (by_) (g) (sa) (pa) (ad) (tx) (nb) (X) (1) (ap) (hh) (fo) (LI.up ⟨hO, hE, hK, hcn, hod, hln, hT⟩))) rfl
  · obtain ⟨i, hi, h1⟩ := inR_ex (b := 13) (by decide) hc
    refine sw_aload_n 1060 1 C dL_law_1060 rfl rfl ?_
    refine sw_aload_n 1061 0 C dL_law_1061 rfl rfl ?_
    refine sw_iload 1062 C dL_law_1062 rfl ?_
    refine sw_iconst 1064 C dL_law_1064 1 (by decide) ?_
    refine sw_iadd 1065 C dL_law_1065 ?_
    refine sw_sld 1066 (5 * j + 1) C hX hbl hbA dL_law_1066 (nI_add (5 * j) 1) (by omega) (by omega) ?_
    refine sw_top hx1.symm ?_
    refine sw_aload_n 1067 3 C dL_law_1067 rfl rfl ?_
    refine xl_callSI 1068 [0, 1, 11] 3 [_, _, _] C hz hC dL_law_1068 (ct_L_value l hfl hS i h1 hi) wK_L_value wM_L_141 wT_L_value wI_L hd_L_value rfl ⟨rfl, rfl⟩ ⟨by show _ ≤ 601024; omega, by show _ ≤ 7293034; omega⟩ rfl rfl rfl rfl rfl rfl ?_
    refine sg_segs [_, _, _, _, _, _, _, _, _, _, _, _] rfl ?_
    refine sw_istore 1071 C dL_law_1071 rfl ?_
    refine sw_aload_n 1073 2 C dL_law_1073 rfl rfl ?_
    refine sw_aload_n 1074 0 C dL_law_1074 rfl rfl ?_
    refine sw_iload 1075 C dL_law_1075 rfl ?_
    refine sw_iconst 1077 C dL_law_1077 1 (by decide) ?_
    refine sw_iadd 1078 C dL_law_1078 ?_
    refine sw_sld 1079 (5 * j + 1) C hX hbl hbA dL_law_1079 (nI_add (5 * j) 1) (by omega) (by omega) ?_
    refine sw_top hx1.symm ?_
    refine sg_callVI 1080 [10] 1 0 [_] C dL_law_1080 (ct_X7_value l hE hO i h1 hi) wK_X7_value wM_L_143 wN_X7_value wS_X7_X7_value wI_X7 hd_X7_value rfl rfl rfl ⟨rfl, rfl⟩ ⟨by show _ ≤ 601024; omega, by show _ ≤ 7293034; omega⟩ rfl rfl rfl rfl rfl rfl ?_
    refine sg_segs [_, _, _, _, _, _, _, _, _, _, _, _] rfl ?_
    refine sw_istore 1083 C dL_law_1083 rfl ?_
    refine sw_loc (L1 := [(0, .ref _), (1, .ref _), (2, .ref _), (3, .ref _), (4, .int _), (5, .int _), (6, .int _)]) ?_ rfl
    refine sw_aload_n 1085 2 C dL_law_1085 rfl rfl ?_
    refine sg_callVIP 1086 [10] 0 0 C dL_law_1086 (ct_X7_thrown l) wK_X7_thrown wM_L_95 wN_X7_thrown wS_X7_X7_thrown wI_X7 hd_X7_thrown rfl rfl rfl ⟨rfl, rfl⟩ ⟨by show _ ≤ 601024; omega, by show _ ≤ 7293034; omega⟩ rfl rfl rfl rfl ?_
    refine sw_iload 1089 C dL_law_1089 rfl ?_
    refine sw_icmp_eq 1091 1096 C dL_law_1091 (by decide) (fun c_1091 => ?_) (fun c_1091 => ?_)
    rotate_left
    · exact by first | exact absurd c_1091 (rfl) | exact absurd (rfl) c_1091
    refine sw_iload 1096 C dL_law_1096 rfl ?_
    refine sw_if_ne 1098 1113 C dL_law_1098 (by decide) (fun c_1098 => ?_) (fun c_1098 => ?_)
    · exact by first | exact absurd c_1098 (fun q => q rfl) | exact absurd (fun q => q rfl) c_1098
    refine sw_aload_n 1101 3 C dL_law_1101 rfl rfl ?_
    refine sw_iconst 1102 C dL_law_1102 0 (by decide) ?_
    refine sg_laldN 1103 11 0 1 (0) C dL_law_1103 rfl (by decide) rfl rfl rfl rfl ?_
    refine sw_topL (show vp_updL fo 0 _ 0 = _ from pk_uLs) ?_
    refine sw_iload 1104 C dL_law_1104 rfl ?_
    refine sw_i2l 1106 C dL_law_1106 ?_
    refine sw_lcmp 1107 C dL_law_1107 ?_
    refine sw_if_eq 1108 1113 C dL_law_1108 (by decide) (fun c_1108 => ?_) (fun c_1108 => ?_)
    rotate_left
    · exact by first | exact absurd c_1108 (lcmp_self _) | exact absurd (lcmp_self _) c_1108
    refine sw_goto 1113 1546 C dL_law_1113 (by decide) ?_
    exact sw_loc (sw_widen (by omega) (by omega) (hk (S) (T) (R) (cn) (od) (ln) (by_) (g) (sa) (pa) (ad) (tx) (nb) (X) (0) (ap) (hh) (vp_updL fo 0 (fig (zq S) (zg S) (zv S) (zt S) (zp S) (zk S) (zn S) (zl S) (zf S) (zlv S) (zbk S) i).toInt64) (LI.up ⟨hO, hE, hK, hcn, hod, hln, hT⟩))) rfl
set_option maxHeartbeats 8000000 in
set_option maxRecDepth 100000 in
theorem lo_ofRank {l : Launch} (hfl : l.stackTraces = false) {p : Program} {e : Env} {s : State} {m : MethodId} {below : List Frame} {meth : Method} {c : Code} {A : Nat → Prop} {D : va_G} {cI cJ cQ : ClassId} {Q : State → Prop} {b LL : Nat} {xs : Nat → Int32} (C : CC p s m #[.ref b] c cL_law 9 RL (Cond.initialized RL :: lw_all) D (tyz cI cJ cQ) A s.heap) (hz : xZ A s) (hC : xC s) (hX : va_X b LL xs s s.heap) (hbl : b < s.heap.size) (hbA : ¬ A b) (hLL : LL ≤ 2560) {x0a a0 a1 a2 a3 a4 a5 a6 a7 tr0 tr1 tr2 tr3 tr4 tr5 tr6 tr7 s0 s1 ra0 ra1 ra2 ra3 ra4 ra5 ra6 ra7 rb0 rb1 rb2 rb3 rb4 rb5 rb6 rb7 rc0 rc1 rc2 rc3 rc4 rc5 rc6 rc7 rd0 rd1 rd2 rd3 rd4 rd5 rd6 rd7 r0 t0 t1 w0 b0 b1 b2 b3 b4 b5 ao : Nat} {h : Nat → Option Nat} (hh0 : h 0 = some ra0) (hh1 : h 1 = some rb0) (hh2 : h 2 = some rc0) (hh3 : h 3 = some rd0) {S T : StT} {R : Nat → StT} {cn od ln : Nat} {by_ g sa pa ad tx nb : Nat → Int32} {X : RS} {th ap : Int32} {hh : Int64} {fo : Nat → Int64} {B j k n : Nat} (hB : B < 100000) (hj : 5 * j + 5 ≤ LL) (hkR : k + 1 ≤ 601024) (hnR : n + 6 ≤ 7293034) (hLI : LI B S R cn od ln by_ sa pa tx) (hk : ∀ (S T : StT) (R : Nat → StT) (cn od ln : Nat) (by_ g sa pa ad tx nb : Nat → Int32) (X : RS) (th ap : Int32) (hh : Int64) (fo : Nat → Int64), LI (B + 100) S R cn od ln by_ sa pa tx → sw p l e room_1 s m #[.ref b] below meth c D A s.heap 9 (k + 1) (n + 6) Q (flatS [[(x0a, .inr (6, [.ref a0, .ref tr0, .ref s0, .ref r0, .ref w0]))], (wSt a0 a1 a2 a3 a4 a5 a6 a7 cI (S)), [(s0, .inr (3, [.int (nI (cn)), .int (nI (od)), .ref s1])), (s1, .inl (cQ, 4, .inr (.inr (.inr (.inr h)))))], (wSt ra0 ra1 ra2 ra3 ra4 ra5 ra6 ra7 cI ((R) 0)), (wSt rb0 rb1 rb2 rb3 rb4 rb5 rb6 rb7 cI ((R) 1)), (wSt rc0 rc1 rc2 rc3 rc4 rc5 rc6 rc7 cI ((R) 2)), (wSt rd0 rd1 rd2 rd3 rd4 rd5 rd6 rd7 cI ((R) 3)), (wSt tr0 tr1 tr2 tr3 tr4 tr5 tr6 tr7 cI (T)), (wRd r0 t0 t1 cI (ln) (by_) (X)), [(w0, .inl (cI, 40, .inl (g)))], [(b0, .inr (7, [.ref b1, .ref b2, .ref b3, .int (nI (cn)), .int (th), .ref b4, .int (nI (ln)), .int (ap), .ref b5, .long (hh)])), (b1, .inl (cI, 424, .inl (sa))), (b2, .inl (cI, 1696, .inl (pa))), (b3, .inl (cI, 424, .inl (ad))), (b4, .inl (cI, 100, .inl (tx))), (b5, .inl (cI, 4, .inl (nb)))], [(ao, .inl (cJ, 1, .inr (.inl (fo))))]]) 1546 [(0, .ref b), (1, .ref x0a), (2, .ref b0), (3, .ref ao), (4, .int (nI (5 * j)))] []) : sw p l e room_1 s m #[.ref b] below meth c D A s.heap 9 k n Q (flatS [[(x0a, .inr (6, [.ref a0, .ref tr0, .ref s0, .ref r0, .ref w0]))], (wSt a0 a1 a2 a3 a4 a5 a6 a7 cI (S)), [(s0, .inr (3, [.int (nI (cn)), .int (nI (od)), .ref s1])), (s1, .inl (cQ, 4, .inr (.inr (.inr (.inr h)))))], (wSt ra0 ra1 ra2 ra3 ra4 ra5 ra6 ra7 cI ((R) 0)), (wSt rb0 rb1 rb2 rb3 rb4 rb5 rb6 rb7 cI ((R) 1)), (wSt rc0 rc1 rc2 rc3 rc4 rc5 rc6 rc7 cI ((R) 2)), (wSt rd0 rd1 rd2 rd3 rd4 rd5 rd6 rd7 cI ((R) 3)), (wSt tr0 tr1 tr2 tr3 tr4 tr5 tr6 tr7 cI (T)), (wRd r0 t0 t1 cI (ln) (by_) (X)), [(w0, .inl (cI, 40, .inl (g)))], [(b0, .inr (7, [.ref b1, .ref b2, .ref b3, .int (nI (cn)), .int (th), .ref b4, .int (nI (ln)), .int (ap), .ref b5, .long (hh)])), (b1, .inl (cI, 424, .inl (sa))), (b2, .inl (cI, 1696, .inl (pa))), (b3, .inl (cI, 424, .inl (ad))), (b4, .inl (cI, 100, .inl (tx))), (b5, .inl (cI, 4, .inl (nb)))], [(ao, .inl (cJ, 1, .inr (.inl (fo))))]]) 1116 [(0, .ref b), (1, .ref x0a), (2, .ref b0), (3, .ref ao), (4, .int (nI (5 * j)))] [] := by
  obtain ⟨hO, hE, hK, hcn, hod, hln, hT⟩ := hLI
  have hS := hO.si
  have hB2 : B < 2 ^ 29 := by omega
  obtain ⟨x1, hx1⟩ : ∃ x, x = xs (5 * j + 1) := ⟨_, rfl⟩
  rcases bool2 (inR x1 0 4) with hc | hc
  · refine sw_aload_n 1116 1 C dL_law_1116 rfl rfl ?_
    refine sw_aload_n 1117 0 C dL_law_1117 rfl rfl ?_
    refine sw_iload 1118 C dL_law_1118 rfl ?_
    refine sw_iconst 1120 C dL_law_1120 1 (by decide) ?_
    refine sw_iadd 1121 C dL_law_1121 ?_
    refine sw_sld 1122 (5 * j + 1) C hX hbl hbA dL_law_1122 (nI_add (5 * j) 1) (by omega) (by omega) ?_
    refine sw_top hx1.symm ?_
    refine sw_aload_n 1123 3 C dL_law_1123 rfl rfl ?_
    refine xl_callSI 1124 [0, 1, 11] 3 [_, _, _] C hz hC dL_law_1124 (ct_L_ofRank_2 l hfl hc) wK_L_ofRank wM_L_144 wT_L_ofRank wI_L hd_L_ofRank rfl ⟨rfl, rfl⟩ ⟨by show _ ≤ 601024; omega, by show _ ≤ 7293034; omega⟩ rfl rfl rfl rfl rfl rfl ?_
    refine sg_segs [_, _, _, _, _, _, _, _, _, _, _, _] rfl ?_
    refine sw_istore 1127 C dL_law_1127 rfl ?_
    refine sw_aload_n 1129 2 C dL_law_1129 rfl rfl ?_
    refine sw_aload_n 1130 0 C dL_law_1130 rfl rfl ?_
    refine sw_iload 1131 C dL_law_1131 rfl ?_
    refine sw_iconst 1133 C dL_law_1133 1 (by decide) ?_
    refine sw_iadd 1134 C dL_law_1134 ?_
    refine sw_sld 1135 (5 * j + 1) C hX hbl hbA dL_law_1135 (nI_add (5 * j) 1) (by omega) (by omega) ?_
    refine sw_top hx1.symm ?_
    refine sg_callVI 1136 [10] 1 0 [_] C dL_law_1136 (ct_X7_ofRank_2 l hc) wK_X7_ofRank wM_L_146 wN_X7_ofRank wS_X7_X7_ofRank wI_X7 hd_X7_ofRank rfl rfl rfl ⟨rfl, rfl⟩ ⟨by show _ ≤ 601024; omega, by show _ ≤ 7293034; omega⟩ rfl rfl rfl rfl rfl rfl ?_
    refine sg_segs [_, _, _, _, _, _, _, _, _, _, _, _] rfl ?_
    refine sw_istore 1139 C dL_law_1139 rfl ?_
    refine sw_loc (L1 := [(0, .ref _), (1, .ref _), (2, .ref _), (3, .ref _), (4, .int _), (5, .int _), (6, .int _)]) ?_ rfl
    refine sw_aload_n 1141 2 C dL_law_1141 rfl rfl ?_
    refine sg_callVIP 1142 [10] 0 0 C dL_law_1142 (ct_X7_thrown l) wK_X7_thrown wM_L_95 wN_X7_thrown wS_X7_X7_thrown wI_X7 hd_X7_thrown rfl rfl rfl ⟨rfl, rfl⟩ ⟨by show _ ≤ 601024; omega, by show _ ≤ 7293034; omega⟩ rfl rfl rfl rfl ?_
    refine sw_iload 1145 C dL_law_1145 rfl ?_
    refine sw_icmp_eq 1147 1152 C dL_law_1147 (by decide) (fun c_1147 => ?_) (fun c_1147 => ?_)
    rotate_left
    · exact by first | exact absurd c_1147 (rfl) | exact absurd (rfl) c_1147
    refine sw_iload 1152 C dL_law_1152 rfl ?_
    refine sw_if_ne 1154 1169 C dL_law_1154 (by decide) (fun c_1154 => ?_) (fun c_1154 => ?_)
    rotate_left
    · exact by first | exact absurd c_1154 (by decide) | exact absurd (by decide) c_1154
    refine sw_goto 1169 1546 C dL_law_1169 (by decide) ?_
    exact sw_loc (sw_widen (by omega) (by omega) (hk (S) (T) (R) (cn) (od) (ln) (by_) (g) (sa) (pa) (ad) (tx) (nb) (X) (1) (ap) (hh) (fo) (LI.up ⟨hO, hE, hK, hcn, hod, hln, hT⟩))) rfl
  · refine sw_aload_n 1116 1 C dL_law_1116 rfl rfl ?_
    refine sw_aload_n 1117 0 C dL_law_1117 rfl rfl ?_
    refine sw_iload 1118 C dL_law_1118 rfl ?_
    refine sw_iconst 1120 C dL_law_1120 1 (by decide) ?_
    refine sw_iadd 1121 C dL_law_1121 ?_
    refine sw_sld 1122 (5 * j + 1) C hX hbl hbA dL_law_1122 (nI_add (5 * j) 1) (by omega) (by omega) ?_
    refine sw_top hx1.symm ?_
    refine sw_aload_n 1123 3 C dL_law_1123 rfl rfl ?_
    refine xl_callSI 1124 [0, 1, 11] 3 [_, _, _] C hz hC dL_law_1124 (ct_L_ofRank l hfl hS hc) wK_L_ofRank wM_L_144 wT_L_ofRank wI_L hd_L_ofRank rfl ⟨rfl, rfl⟩ ⟨by show _ ≤ 601024; omega, by show _ ≤ 7293034; omega⟩ rfl rfl rfl rfl rfl rfl ?_
    refine sg_segs [_, _, _, _, _, _, _, _, _, _, _, _] rfl ?_
    refine sw_istore 1127 C dL_law_1127 rfl ?_
    refine sw_aload_n 1129 2 C dL_law_1129 rfl rfl ?_
    refine sw_aload_n 1130 0 C dL_law_1130 rfl rfl ?_
    refine sw_iload 1131 C dL_law_1131 rfl ?_
    refine sw_iconst 1133 C dL_law_1133 1 (by decide) ?_
    refine sw_iadd 1134 C dL_law_1134 ?_
    refine sw_sld 1135 (5 * j + 1) C hX hbl hbA dL_law_1135 (nI_add (5 * j) 1) (by omega) (by omega) ?_
    refine sw_top hx1.symm ?_
    refine sg_callVI 1136 [10] 1 0 [_] C dL_law_1136 (ct_X7_ofRank l hE hO hc) wK_X7_ofRank wM_L_146 wN_X7_ofRank wS_X7_X7_ofRank wI_X7 hd_X7_ofRank rfl rfl rfl ⟨rfl, rfl⟩ ⟨by show _ ≤ 601024; omega, by show _ ≤ 7293034; omega⟩ rfl rfl rfl rfl rfl rfl ?_
    refine sg_segs [_, _, _, _, _, _, _, _, _, _, _, _] rfl ?_
    refine sw_istore 1139 C dL_law_1139 rfl ?_
    refine sw_loc (L1 := [(0, .ref _), (1, .ref _), (2, .ref _), (3, .ref _), (4, .int _), (5, .int _), (6, .int _)]) ?_ rfl
    refine sw_aload_n 1141 2 C dL_law_1141 rfl rfl ?_
    refine sg_callVIP 1142 [10] 0 0 C dL_law_1142 (ct_X7_thrown l) wK_X7_thrown wM_L_95 wN_X7_thrown wS_X7_X7_thrown wI_X7 hd_X7_thrown rfl rfl rfl ⟨rfl, rfl⟩ ⟨by show _ ≤ 601024; omega, by show _ ≤ 7293034; omega⟩ rfl rfl rfl rfl ?_
    refine sw_iload 1145 C dL_law_1145 rfl ?_
    refine sw_icmp_eq 1147 1152 C dL_law_1147 (by decide) (fun c_1147 => ?_) (fun c_1147 => ?_)
    rotate_left
    · exact by first | exact absurd c_1147 (rfl) | exact absurd (rfl) c_1147
    refine sw_iload 1152 C dL_law_1152 rfl ?_
    refine sw_if_ne 1154 1169 C dL_law_1154 (by decide) (fun c_1154 => ?_) (fun c_1154 => ?_)
    · exact by first | exact absurd c_1154 (fun q => q rfl) | exact absurd (fun q => q rfl) c_1154
    refine sw_aload_n 1157 3 C dL_law_1157 rfl rfl ?_
    refine sw_iconst 1158 C dL_law_1158 0 (by decide) ?_
    refine sg_laldN 1159 11 0 1 (0) C dL_law_1159 rfl (by decide) rfl rfl rfl rfl ?_
    refine sw_topL (show vp_updL fo 0 _ 0 = _ from pk_uLs) ?_
    refine sw_iload 1160 C dL_law_1160 rfl ?_
    refine sw_i2l 1162 C dL_law_1162 ?_
    refine sw_lcmp 1163 C dL_law_1163 ?_
    refine sw_if_eq 1164 1169 C dL_law_1164 (by decide) (fun c_1164 => ?_) (fun c_1164 => ?_)
    rotate_left
    · exact by first | exact absurd c_1164 (lcmp_self _) | exact absurd (lcmp_self _) c_1164
    refine sw_goto 1169 1546 C dL_law_1169 (by decide) ?_
    exact sw_loc (sw_widen (by omega) (by omega) (hk (S) (T) (R) (cn) (od) (ln) (by_) (g) (sa) (pa) (ad) (tx) (nb) (X) (0) (ap) (hh) (vp_updL fo 0 (nI (ct (isRk (zf S) x1) (zn S))).toInt64) (LI.up ⟨hO, hE, hK, hcn, hod, hln, hT⟩))) rfl
set_option maxHeartbeats 8000000 in
set_option maxRecDepth 100000 in
theorem lo_rankIn {l : Launch} (hfl : l.stackTraces = false) {p : Program} {e : Env} {s : State} {m : MethodId} {below : List Frame} {meth : Method} {c : Code} {A : Nat → Prop} {D : va_G} {cI cJ cQ : ClassId} {Q : State → Prop} {b LL : Nat} {xs : Nat → Int32} (C : CC p s m #[.ref b] c cL_law 9 RL (Cond.initialized RL :: lw_all) D (tyz cI cJ cQ) A s.heap) (hz : xZ A s) (hC : xC s) (hX : va_X b LL xs s s.heap) (hbl : b < s.heap.size) (hbA : ¬ A b) (hLL : LL ≤ 2560) {x0a a0 a1 a2 a3 a4 a5 a6 a7 tr0 tr1 tr2 tr3 tr4 tr5 tr6 tr7 s0 s1 ra0 ra1 ra2 ra3 ra4 ra5 ra6 ra7 rb0 rb1 rb2 rb3 rb4 rb5 rb6 rb7 rc0 rc1 rc2 rc3 rc4 rc5 rc6 rc7 rd0 rd1 rd2 rd3 rd4 rd5 rd6 rd7 r0 t0 t1 w0 b0 b1 b2 b3 b4 b5 ao : Nat} {h : Nat → Option Nat} (hh0 : h 0 = some ra0) (hh1 : h 1 = some rb0) (hh2 : h 2 = some rc0) (hh3 : h 3 = some rd0) {S T : StT} {R : Nat → StT} {cn od ln : Nat} {by_ g sa pa ad tx nb : Nat → Int32} {X : RS} {th ap : Int32} {hh : Int64} {fo : Nat → Int64} {B j k n : Nat} (hB : B < 100000) (hj : 5 * j + 5 ≤ LL) (hkR : k + 1 ≤ 601024) (hnR : n + 6 ≤ 7293034) (hLI : LI B S R cn od ln by_ sa pa tx) (hk : ∀ (S T : StT) (R : Nat → StT) (cn od ln : Nat) (by_ g sa pa ad tx nb : Nat → Int32) (X : RS) (th ap : Int32) (hh : Int64) (fo : Nat → Int64), LI (B + 100) S R cn od ln by_ sa pa tx → sw p l e room_1 s m #[.ref b] below meth c D A s.heap 9 (k + 1) (n + 6) Q (flatS [[(x0a, .inr (6, [.ref a0, .ref tr0, .ref s0, .ref r0, .ref w0]))], (wSt a0 a1 a2 a3 a4 a5 a6 a7 cI (S)), [(s0, .inr (3, [.int (nI (cn)), .int (nI (od)), .ref s1])), (s1, .inl (cQ, 4, .inr (.inr (.inr (.inr h)))))], (wSt ra0 ra1 ra2 ra3 ra4 ra5 ra6 ra7 cI ((R) 0)), (wSt rb0 rb1 rb2 rb3 rb4 rb5 rb6 rb7 cI ((R) 1)), (wSt rc0 rc1 rc2 rc3 rc4 rc5 rc6 rc7 cI ((R) 2)), (wSt rd0 rd1 rd2 rd3 rd4 rd5 rd6 rd7 cI ((R) 3)), (wSt tr0 tr1 tr2 tr3 tr4 tr5 tr6 tr7 cI (T)), (wRd r0 t0 t1 cI (ln) (by_) (X)), [(w0, .inl (cI, 40, .inl (g)))], [(b0, .inr (7, [.ref b1, .ref b2, .ref b3, .int (nI (cn)), .int (th), .ref b4, .int (nI (ln)), .int (ap), .ref b5, .long (hh)])), (b1, .inl (cI, 424, .inl (sa))), (b2, .inl (cI, 1696, .inl (pa))), (b3, .inl (cI, 424, .inl (ad))), (b4, .inl (cI, 100, .inl (tx))), (b5, .inl (cI, 4, .inl (nb)))], [(ao, .inl (cJ, 1, .inr (.inl (fo))))]]) 1546 [(0, .ref b), (1, .ref x0a), (2, .ref b0), (3, .ref ao), (4, .int (nI (5 * j)))] []) : sw p l e room_1 s m #[.ref b] below meth c D A s.heap 9 k n Q (flatS [[(x0a, .inr (6, [.ref a0, .ref tr0, .ref s0, .ref r0, .ref w0]))], (wSt a0 a1 a2 a3 a4 a5 a6 a7 cI (S)), [(s0, .inr (3, [.int (nI (cn)), .int (nI (od)), .ref s1])), (s1, .inl (cQ, 4, .inr (.inr (.inr (.inr h)))))], (wSt ra0 ra1 ra2 ra3 ra4 ra5 ra6 ra7 cI ((R) 0)), (wSt rb0 rb1 rb2 rb3 rb4 rb5 rb6 rb7 cI ((R) 1)), (wSt rc0 rc1 rc2 rc3 rc4 rc5 rc6 rc7 cI ((R) 2)), (wSt rd0 rd1 rd2 rd3 rd4 rd5 rd6 rd7 cI ((R) 3)), (wSt tr0 tr1 tr2 tr3 tr4 tr5 tr6 tr7 cI (T)), (wRd r0 t0 t1 cI (ln) (by_) (X)), [(w0, .inl (cI, 40, .inl (g)))], [(b0, .inr (7, [.ref b1, .ref b2, .ref b3, .int (nI (cn)), .int (th), .ref b4, .int (nI (ln)), .int (ap), .ref b5, .long (hh)])), (b1, .inl (cI, 424, .inl (sa))), (b2, .inl (cI, 1696, .inl (pa))), (b3, .inl (cI, 424, .inl (ad))), (b4, .inl (cI, 100, .inl (tx))), (b5, .inl (cI, 4, .inl (nb)))], [(ao, .inl (cJ, 1, .inr (.inl (fo))))]]) 1172 [(0, .ref b), (1, .ref x0a), (2, .ref b0), (3, .ref ao), (4, .int (nI (5 * j)))] [] := by
  obtain ⟨hO, hE, hK, hcn, hod, hln, hT⟩ := hLI
  have hS := hO.si
  have hB2 : B < 2 ^ 29 := by omega
  obtain ⟨x1, hx1⟩ : ∃ x, x = xs (5 * j + 1) := ⟨_, rfl⟩
  obtain ⟨x2, hx2⟩ : ∃ x, x = xs (5 * j + 2) := ⟨_, rfl⟩
  rcases fnd_b (zf S) x1 (zn S) (inR x2 0 200) with hc | hc | hc
  · refine sw_aload_n 1172 1 C dL_law_1172 rfl rfl ?_
    refine sw_aload_n 1173 0 C dL_law_1173 rfl rfl ?_
    refine sw_iload 1174 C dL_law_1174 rfl ?_
    refine sw_iconst 1176 C dL_law_1176 1 (by decide) ?_
    refine sw_iadd 1177 C dL_law_1177 ?_
    refine sw_sld 1178 (5 * j + 1) C hX hbl hbA dL_law_1178 (nI_add (5 * j) 1) (by omega) (by omega) ?_
    refine sw_top hx1.symm ?_
    refine sw_aload_n 1179 0 C dL_law_1179 rfl rfl ?_
    refine sw_iload 1180 C dL_law_1180 rfl ?_
    refine sw_iconst 1182 C dL_law_1182 2 (by decide) ?_
    refine sw_iadd 1183 C dL_law_1183 ?_
    refine sw_sld 1184 (5 * j + 2) C hX hbl hbA dL_law_1184 (nI_add (5 * j) 2) (by omega) (by omega) ?_
    refine sw_top hx2.symm ?_
    refine sw_aload_n 1185 3 C dL_law_1185 rfl rfl ?_
    refine xl_callSI 1186 [0, 1, 11] 4 [_, _, _] C hz hC dL_law_1186 (ct_L_rankIn_2 l hfl hS hc) wK_L_rankIn wM_L_147 wT_L_rankIn wI_L hd_L_rankIn rfl ⟨rfl, rfl⟩ ⟨by show _ ≤ 601024; omega, by show _ ≤ 7293034; omega⟩ rfl rfl rfl rfl rfl rfl ?_
    refine sg_segs [_, _, _, _, _, _, _, _, _, _, _, _] rfl ?_
    refine sw_istore 1189 C dL_law_1189 rfl ?_
    refine sw_aload_n 1191 2 C dL_law_1191 rfl rfl ?_
    refine sw_aload_n 1192 0 C dL_law_1192 rfl rfl ?_
    refine sw_iload 1193 C dL_law_1193 rfl ?_
    refine sw_iconst 1195 C dL_law_1195 1 (by decide) ?_
    refine sw_iadd 1196 C dL_law_1196 ?_
    refine sw_sld 1197 (5 * j + 1) C hX hbl hbA dL_law_1197 (nI_add (5 * j) 1) (by omega) (by omega) ?_
    refine sw_top hx1.symm ?_
    refine sw_aload_n 1198 0 C dL_law_1198 rfl rfl ?_
    refine sw_iload 1199 C dL_law_1199 rfl ?_
    refine sw_iconst 1201 C dL_law_1201 2 (by decide) ?_
    refine sw_iadd 1202 C dL_law_1202 ?_
    refine sw_sld 1203 (5 * j + 2) C hX hbl hbA dL_law_1203 (nI_add (5 * j) 2) (by omega) (by omega) ?_
    refine sw_top hx2.symm ?_
    refine sg_callVI 1204 [10] 2 0 [_] C dL_law_1204 (ct_X7_rankIn_2 l hE hO hc) wK_X7_rankIn wM_L_149 wN_X7_rankIn wS_X7_X7_rankIn wI_X7 hd_X7_rankIn rfl rfl rfl ⟨rfl, rfl⟩ ⟨by show _ ≤ 601024; omega, by show _ ≤ 7293034; omega⟩ rfl rfl rfl rfl rfl rfl ?_
    refine sg_segs [_, _, _, _, _, _, _, _, _, _, _, _] rfl ?_
    refine sw_istore 1207 C dL_law_1207 rfl ?_
    refine sw_loc (L1 := [(0, .ref _), (1, .ref _), (2, .ref _), (3, .ref _), (4, .int _), (5, .int _), (6, .int _)]) ?_ rfl
    refine sw_aload_n 1209 2 C dL_law_1209 rfl rfl ?_
    refine sg_callVIP 1210 [10] 0 0 C dL_law_1210 (ct_X7_thrown l) wK_X7_thrown wM_L_95 wN_X7_thrown wS_X7_X7_thrown wI_X7 hd_X7_thrown rfl rfl rfl ⟨rfl, rfl⟩ ⟨by show _ ≤ 601024; omega, by show _ ≤ 7293034; omega⟩ rfl rfl rfl rfl ?_
    refine sw_iload 1213 C dL_law_1213 rfl ?_
    refine sw_icmp_eq 1215 1220 C dL_law_1215 (by decide) (fun c_1215 => ?_) (fun c_1215 => ?_)
    rotate_left
    · exact by first | exact absurd c_1215 (rfl) | exact absurd (rfl) c_1215
    refine sw_iload 1220 C dL_law_1220 rfl ?_
    refine sw_if_ne 1222 1237 C dL_law_1222 (by decide) (fun c_1222 => ?_) (fun c_1222 => ?_)
    rotate_left
    · exact by first | exact absurd c_1222 (by decide) | exact absurd (by decide) c_1222
    refine sw_goto 1237 1546 C dL_law_1237 (by decide) ?_
    exact sw_loc (sw_widen (by omega) (by omega) (hk (S) (T) (R) (cn) (od) (ln) (by_) (g) (sa) (pa) (ad) (tx) (nb) (X) (1) (ap) (hh) (fo) (LI.up ⟨hO, hE, hK, hcn, hod, hln, hT⟩))) rfl
  · obtain ⟨i, hi, hx⟩ := hc
    refine sw_aload_n 1172 1 C dL_law_1172 rfl rfl ?_
    refine sw_aload_n 1173 0 C dL_law_1173 rfl rfl ?_
    refine sw_iload 1174 C dL_law_1174 rfl ?_
    refine sw_iconst 1176 C dL_law_1176 1 (by decide) ?_
    refine sw_iadd 1177 C dL_law_1177 ?_
    refine sw_sld 1178 (5 * j + 1) C hX hbl hbA dL_law_1178 (nI_add (5 * j) 1) (by omega) (by omega) ?_
    refine sw_top hx1.symm ?_
    refine sw_aload_n 1179 0 C dL_law_1179 rfl rfl ?_
    refine sw_iload 1180 C dL_law_1180 rfl ?_
    refine sw_iconst 1182 C dL_law_1182 2 (by decide) ?_
    refine sw_iadd 1183 C dL_law_1183 ?_
    refine sw_sld 1184 (5 * j + 2) C hX hbl hbA dL_law_1184 (nI_add (5 * j) 2) (by omega) (by omega) ?_
    refine sw_top hx2.symm ?_
    refine sw_aload_n 1185 3 C dL_law_1185 rfl rfl ?_
    refine xl_callSI 1186 [0, 1, 11] 4 [_, _, _] C hz hC dL_law_1186 (ct_L_rankIn_3 l hfl hS i hi hx) wK_L_rankIn wM_L_147 wT_L_rankIn wI_L hd_L_rankIn rfl ⟨rfl, rfl⟩ ⟨by show _ ≤ 601024; omega, by show _ ≤ 7293034; omega⟩ rfl rfl rfl rfl rfl rfl ?_
    refine sg_segs [_, _, _, _, _, _, _, _, _, _, _, _] rfl ?_
    refine sw_istore 1189 C dL_law_1189 rfl ?_
    refine sw_aload_n 1191 2 C dL_law_1191 rfl rfl ?_
    refine sw_aload_n 1192 0 C dL_law_1192 rfl rfl ?_
    refine sw_iload 1193 C dL_law_1193 rfl ?_
    refine sw_iconst 1195 C dL_law_1195 1 (by decide) ?_
    refine sw_iadd 1196 C dL_law_1196 ?_
    refine sw_sld 1197 (5 * j + 1) C hX hbl hbA dL_law_1197 (nI_add (5 * j) 1) (by omega) (by omega) ?_
    refine sw_top hx1.symm ?_
    refine sw_aload_n 1198 0 C dL_law_1198 rfl rfl ?_
    refine sw_iload 1199 C dL_law_1199 rfl ?_
    refine sw_iconst 1201 C dL_law_1201 2 (by decide) ?_
    refine sw_iadd 1202 C dL_law_1202 ?_
    refine sw_sld 1203 (5 * j + 2) C hX hbl hbA dL_law_1203 (nI_add (5 * j) 2) (by omega) (by omega) ?_
    refine sw_top hx2.symm ?_
    refine sg_callVI 1204 [10] 2 0 [_] C dL_law_1204 (ct_X7_rankIn_3 l hE hO i hi hx) wK_X7_rankIn wM_L_149 wN_X7_rankIn wS_X7_X7_rankIn wI_X7 hd_X7_rankIn rfl rfl rfl ⟨rfl, rfl⟩ ⟨by show _ ≤ 601024; omega, by show _ ≤ 7293034; omega⟩ rfl rfl rfl rfl rfl rfl ?_
    refine sg_segs [_, _, _, _, _, _, _, _, _, _, _, _] rfl ?_
    refine sw_istore 1207 C dL_law_1207 rfl ?_
    refine sw_loc (L1 := [(0, .ref _), (1, .ref _), (2, .ref _), (3, .ref _), (4, .int _), (5, .int _), (6, .int _)]) ?_ rfl
    refine sw_aload_n 1209 2 C dL_law_1209 rfl rfl ?_
    refine sg_callVIP 1210 [10] 0 0 C dL_law_1210 (ct_X7_thrown l) wK_X7_thrown wM_L_95 wN_X7_thrown wS_X7_X7_thrown wI_X7 hd_X7_thrown rfl rfl rfl ⟨rfl, rfl⟩ ⟨by show _ ≤ 601024; omega, by show _ ≤ 7293034; omega⟩ rfl rfl rfl rfl ?_
    refine sw_iload 1213 C dL_law_1213 rfl ?_
    refine sw_icmp_eq 1215 1220 C dL_law_1215 (by decide) (fun c_1215 => ?_) (fun c_1215 => ?_)
    rotate_left
    · exact by first | exact absurd c_1215 (rfl) | exact absurd (rfl) c_1215
    refine sw_iload 1220 C dL_law_1220 rfl ?_
    refine sw_if_ne 1222 1237 C dL_law_1222 (by decide) (fun c_1222 => ?_) (fun c_1222 => ?_)
    rotate_left
    · exact by first | exact absurd c_1222 (by decide) | exact absurd (by decide) c_1222
    refine sw_goto 1237 1546 C dL_law_1237 (by decide) ?_
    exact sw_loc (sw_widen (by omega) (by omega) (hk (S) (T) (R) (cn) (od) (ln) (by_) (g) (sa) (pa) (ad) (tx) (nb) (X) (2) (ap) (hh) (fo) (LI.up ⟨hO, hE, hK, hcn, hod, hln, hT⟩))) rfl
  · obtain ⟨i, hi, hx⟩ := hc
    obtain ⟨w, hw, hw2⟩ := inR_ex (b := 200) (by decide) hx
    refine sw_aload_n 1172 1 C dL_law_1172 rfl rfl ?_
    refine sw_aload_n 1173 0 C dL_law_1173 rfl rfl ?_
    refine sw_iload 1174 C dL_law_1174 rfl ?_
    refine sw_iconst 1176 C dL_law_1176 1 (by decide) ?_
    refine sw_iadd 1177 C dL_law_1177 ?_
    refine sw_sld 1178 (5 * j + 1) C hX hbl hbA dL_law_1178 (nI_add (5 * j) 1) (by omega) (by omega) ?_
    refine sw_top hx1.symm ?_
    refine sw_aload_n 1179 0 C dL_law_1179 rfl rfl ?_
    refine sw_iload 1180 C dL_law_1180 rfl ?_
    refine sw_iconst 1182 C dL_law_1182 2 (by decide) ?_
    refine sw_iadd 1183 C dL_law_1183 ?_
    refine sw_sld 1184 (5 * j + 2) C hX hbl hbA dL_law_1184 (nI_add (5 * j) 2) (by omega) (by omega) ?_
    refine sw_top hx2.symm ?_
    refine sw_aload_n 1185 3 C dL_law_1185 rfl rfl ?_
    refine xl_callSI 1186 [0, 1, 7, 11] 4 [_, _, _, _] C hz hC dL_law_1186 (ct_L_rankIn l hfl hS i hi w hw2 hw) wK_L_rankIn wM_L_147 wT_L_rankIn wI_L hd_L_rankIn rfl ⟨rfl, rfl⟩ ⟨by show _ ≤ 601024; omega, by show _ ≤ 7293034; omega⟩ rfl rfl rfl rfl rfl rfl ?_
    refine sg_segs [_, _, _, _, _, _, _, _, _, _, _, _] rfl ?_
    refine sw_istore 1189 C dL_law_1189 rfl ?_
    refine sw_aload_n 1191 2 C dL_law_1191 rfl rfl ?_
    refine sw_aload_n 1192 0 C dL_law_1192 rfl rfl ?_
    refine sw_iload 1193 C dL_law_1193 rfl ?_
    refine sw_iconst 1195 C dL_law_1195 1 (by decide) ?_
    refine sw_iadd 1196 C dL_law_1196 ?_
    refine sw_sld 1197 (5 * j + 1) C hX hbl hbA dL_law_1197 (nI_add (5 * j) 1) (by omega) (by omega) ?_
    refine sw_top hx1.symm ?_
    refine sw_aload_n 1198 0 C dL_law_1198 rfl rfl ?_
    refine sw_iload 1199 C dL_law_1199 rfl ?_
    refine sw_iconst 1201 C dL_law_1201 2 (by decide) ?_
    refine sw_iadd 1202 C dL_law_1202 ?_
    refine sw_sld 1203 (5 * j + 2) C hX hbl hbA dL_law_1203 (nI_add (5 * j) 2) (by omega) (by omega) ?_
    refine sw_top hx2.symm ?_
    refine sg_callVI 1204 [10] 2 0 [_] C dL_law_1204 (ct_X7_rankIn l hE hO i hi w hw2 hw) wK_X7_rankIn wM_L_149 wN_X7_rankIn wS_X7_X7_rankIn wI_X7 hd_X7_rankIn rfl rfl rfl ⟨rfl, rfl⟩ ⟨by show _ ≤ 601024; omega, by show _ ≤ 7293034; omega⟩ rfl rfl rfl rfl rfl rfl ?_
    refine sg_segs [_, _, _, _, _, _, _, _, _, _, _, _] rfl ?_
    refine sw_istore 1207 C dL_law_1207 rfl ?_
    refine sw_loc (L1 := [(0, .ref _), (1, .ref _), (2, .ref _), (3, .ref _), (4, .int _), (5, .int _), (6, .int _)]) ?_ rfl
    refine sw_aload_n 1209 2 C dL_law_1209 rfl rfl ?_
    refine sg_callVIP 1210 [10] 0 0 C dL_law_1210 (ct_X7_thrown l) wK_X7_thrown wM_L_95 wN_X7_thrown wS_X7_X7_thrown wI_X7 hd_X7_thrown rfl rfl rfl ⟨rfl, rfl⟩ ⟨by show _ ≤ 601024; omega, by show _ ≤ 7293034; omega⟩ rfl rfl rfl rfl ?_
    refine sw_iload 1213 C dL_law_1213 rfl ?_
    refine sw_icmp_eq 1215 1220 C dL_law_1215 (by decide) (fun c_1215 => ?_) (fun c_1215 => ?_)
    rotate_left
    · exact by first | exact absurd c_1215 (rfl) | exact absurd (rfl) c_1215
    refine sw_iload 1220 C dL_law_1220 rfl ?_
    refine sw_if_ne 1222 1237 C dL_law_1222 (by decide) (fun c_1222 => ?_) (fun c_1222 => ?_)
    · exact by first | exact absurd c_1222 (fun q => q rfl) | exact absurd (fun q => q rfl) c_1222
    refine sw_aload_n 1225 3 C dL_law_1225 rfl rfl ?_
    refine sw_iconst 1226 C dL_law_1226 0 (by decide) ?_
    refine sg_laldN 1227 11 0 1 (0) C dL_law_1227 rfl (by decide) rfl rfl rfl rfl ?_
    refine sw_topL (show vp_updL fo 0 _ 0 = _ from pk_uLs) ?_
    refine sw_iload 1228 C dL_law_1228 rfl ?_
    refine sw_i2l 1230 C dL_law_1230 ?_
    refine sw_lcmp 1231 C dL_law_1231 ?_
    refine sw_if_eq 1232 1237 C dL_law_1232 (by decide) (fun c_1232 => ?_) (fun c_1232 => ?_)
    rotate_left
    · exact by first | exact absurd c_1232 (lcmp_self _) | exact absurd (lcmp_self _) c_1232
    refine sw_goto 1237 1546 C dL_law_1237 (by decide) ?_
    exact sw_loc (sw_widen (by omega) (by omega) (hk (S) ((rkf i w S).2) (R) (cn) (od) (ln) (by_) (g) (sa) (pa) (ad) (tx) (nb) (X) (0) (ap) (hh) (vp_updL fo 0 ((rkf i w S).1).toInt64) (LI.up ⟨hO, hE, hK, hcn, hod, hln, hT⟩))) rfl
set_option maxHeartbeats 8000000 in
set_option maxRecDepth 100000 in
theorem lo_servedIn {l : Launch} (hfl : l.stackTraces = false) {p : Program} {e : Env} {s : State} {m : MethodId} {below : List Frame} {meth : Method} {c : Code} {A : Nat → Prop} {D : va_G} {cI cJ cQ : ClassId} {Q : State → Prop} {b LL : Nat} {xs : Nat → Int32} (C : CC p s m #[.ref b] c cL_law 9 RL (Cond.initialized RL :: lw_all) D (tyz cI cJ cQ) A s.heap) (hz : xZ A s) (hC : xC s) (hX : va_X b LL xs s s.heap) (hbl : b < s.heap.size) (hbA : ¬ A b) (hLL : LL ≤ 2560) {x0a a0 a1 a2 a3 a4 a5 a6 a7 tr0 tr1 tr2 tr3 tr4 tr5 tr6 tr7 s0 s1 ra0 ra1 ra2 ra3 ra4 ra5 ra6 ra7 rb0 rb1 rb2 rb3 rb4 rb5 rb6 rb7 rc0 rc1 rc2 rc3 rc4 rc5 rc6 rc7 rd0 rd1 rd2 rd3 rd4 rd5 rd6 rd7 r0 t0 t1 w0 b0 b1 b2 b3 b4 b5 ao : Nat} {h : Nat → Option Nat} (hh0 : h 0 = some ra0) (hh1 : h 1 = some rb0) (hh2 : h 2 = some rc0) (hh3 : h 3 = some rd0) {S T : StT} {R : Nat → StT} {cn od ln : Nat} {by_ g sa pa ad tx nb : Nat → Int32} {X : RS} {th ap : Int32} {hh : Int64} {fo : Nat → Int64} {B j k n : Nat} (hB : B < 100000) (hj : 5 * j + 5 ≤ LL) (hkR : k + 1 ≤ 601024) (hnR : n + 6 ≤ 7293034) (hLI : LI B S R cn od ln by_ sa pa tx) (hk : ∀ (S T : StT) (R : Nat → StT) (cn od ln : Nat) (by_ g sa pa ad tx nb : Nat → Int32) (X : RS) (th ap : Int32) (hh : Int64) (fo : Nat → Int64), LI (B + 100) S R cn od ln by_ sa pa tx → sw p l e room_1 s m #[.ref b] below meth c D A s.heap 9 (k + 1) (n + 6) Q (flatS [[(x0a, .inr (6, [.ref a0, .ref tr0, .ref s0, .ref r0, .ref w0]))], (wSt a0 a1 a2 a3 a4 a5 a6 a7 cI (S)), [(s0, .inr (3, [.int (nI (cn)), .int (nI (od)), .ref s1])), (s1, .inl (cQ, 4, .inr (.inr (.inr (.inr h)))))], (wSt ra0 ra1 ra2 ra3 ra4 ra5 ra6 ra7 cI ((R) 0)), (wSt rb0 rb1 rb2 rb3 rb4 rb5 rb6 rb7 cI ((R) 1)), (wSt rc0 rc1 rc2 rc3 rc4 rc5 rc6 rc7 cI ((R) 2)), (wSt rd0 rd1 rd2 rd3 rd4 rd5 rd6 rd7 cI ((R) 3)), (wSt tr0 tr1 tr2 tr3 tr4 tr5 tr6 tr7 cI (T)), (wRd r0 t0 t1 cI (ln) (by_) (X)), [(w0, .inl (cI, 40, .inl (g)))], [(b0, .inr (7, [.ref b1, .ref b2, .ref b3, .int (nI (cn)), .int (th), .ref b4, .int (nI (ln)), .int (ap), .ref b5, .long (hh)])), (b1, .inl (cI, 424, .inl (sa))), (b2, .inl (cI, 1696, .inl (pa))), (b3, .inl (cI, 424, .inl (ad))), (b4, .inl (cI, 100, .inl (tx))), (b5, .inl (cI, 4, .inl (nb)))], [(ao, .inl (cJ, 1, .inr (.inl (fo))))]]) 1546 [(0, .ref b), (1, .ref x0a), (2, .ref b0), (3, .ref ao), (4, .int (nI (5 * j)))] []) : sw p l e room_1 s m #[.ref b] below meth c D A s.heap 9 k n Q (flatS [[(x0a, .inr (6, [.ref a0, .ref tr0, .ref s0, .ref r0, .ref w0]))], (wSt a0 a1 a2 a3 a4 a5 a6 a7 cI (S)), [(s0, .inr (3, [.int (nI (cn)), .int (nI (od)), .ref s1])), (s1, .inl (cQ, 4, .inr (.inr (.inr (.inr h)))))], (wSt ra0 ra1 ra2 ra3 ra4 ra5 ra6 ra7 cI ((R) 0)), (wSt rb0 rb1 rb2 rb3 rb4 rb5 rb6 rb7 cI ((R) 1)), (wSt rc0 rc1 rc2 rc3 rc4 rc5 rc6 rc7 cI ((R) 2)), (wSt rd0 rd1 rd2 rd3 rd4 rd5 rd6 rd7 cI ((R) 3)), (wSt tr0 tr1 tr2 tr3 tr4 tr5 tr6 tr7 cI (T)), (wRd r0 t0 t1 cI (ln) (by_) (X)), [(w0, .inl (cI, 40, .inl (g)))], [(b0, .inr (7, [.ref b1, .ref b2, .ref b3, .int (nI (cn)), .int (th), .ref b4, .int (nI (ln)), .int (ap), .ref b5, .long (hh)])), (b1, .inl (cI, 424, .inl (sa))), (b2, .inl (cI, 1696, .inl (pa))), (b3, .inl (cI, 424, .inl (ad))), (b4, .inl (cI, 100, .inl (tx))), (b5, .inl (cI, 4, .inl (nb)))], [(ao, .inl (cJ, 1, .inr (.inl (fo))))]]) 1253 [(0, .ref b), (1, .ref x0a), (2, .ref b0), (3, .ref ao), (4, .int (nI (5 * j)))] [] := by
  obtain ⟨hO, hE, hK, hcn, hod, hln, hT⟩ := hLI
  have hS := hO.si
  have hB2 : B < 2 ^ 29 := by omega
  obtain ⟨x1, hx1⟩ : ∃ x, x = xs (5 * j + 1) := ⟨_, rfl⟩
  rcases fnd_or (zf S) x1 (zn S) with hc | hc
  · refine sw_aload_n 1253 1 C dL_law_1253 rfl rfl ?_
    refine sw_aload_n 1254 0 C dL_law_1254 rfl rfl ?_
    refine sw_iload 1255 C dL_law_1255 rfl ?_
    refine sw_iconst 1257 C dL_law_1257 1 (by decide) ?_
    refine sw_iadd 1258 C dL_law_1258 ?_
    refine sw_sld 1259 (5 * j + 1) C hX hbl hbA dL_law_1259 (nI_add (5 * j) 1) (by omega) (by omega) ?_
    refine sw_top hx1.symm ?_
    refine sw_aload_n 1260 3 C dL_law_1260 rfl rfl ?_
    refine xl_callSI 1261 [0, 1, 11] 3 [_, _, _] C hz hC dL_law_1261 (ct_L_servedIn_2 l hfl hS hc) wK_L_servedIn wM_L_154 wT_L_servedIn wI_L hd_L_servedIn rfl ⟨rfl, rfl⟩ ⟨by show _ ≤ 601024; omega, by show _ ≤ 7293034; omega⟩ rfl rfl rfl rfl rfl rfl ?_
    refine sg_segs [_, _, _, _, _, _, _, _, _, _, _, _] rfl ?_
    refine sw_istore 1264 C dL_law_1264 rfl ?_
    refine sw_aload_n 1266 2 C dL_law_1266 rfl rfl ?_
    refine sw_aload_n 1267 0 C dL_law_1267 rfl rfl ?_
    refine sw_iload 1268 C dL_law_1268 rfl ?_
    refine sw_iconst 1270 C dL_law_1270 1 (by decide) ?_
    refine sw_iadd 1271 C dL_law_1271 ?_
    refine sw_sld 1272 (5 * j + 1) C hX hbl hbA dL_law_1272 (nI_add (5 * j) 1) (by omega) (by omega) ?_
    refine sw_top hx1.symm ?_
    refine sg_callVI 1273 [10] 1 0 [_] C dL_law_1273 (ct_X7_servedIn_2 l hE hO hc) wK_X7_servedIn wM_L_156 wN_X7_servedIn wS_X7_X7_servedIn wI_X7 hd_X7_servedIn rfl rfl rfl ⟨rfl, rfl⟩ ⟨by show _ ≤ 601024; omega, by show _ ≤ 7293034; omega⟩ rfl rfl rfl rfl rfl rfl ?_
    refine sg_segs [_, _, _, _, _, _, _, _, _, _, _, _] rfl ?_
    refine sw_istore 1276 C dL_law_1276 rfl ?_
    refine sw_loc (L1 := [(0, .ref _), (1, .ref _), (2, .ref _), (3, .ref _), (4, .int _), (5, .int _), (6, .int _)]) ?_ rfl
    refine sw_aload_n 1278 2 C dL_law_1278 rfl rfl ?_
    refine sg_callVIP 1279 [10] 0 0 C dL_law_1279 (ct_X7_thrown l) wK_X7_thrown wM_L_95 wN_X7_thrown wS_X7_X7_thrown wI_X7 hd_X7_thrown rfl rfl rfl ⟨rfl, rfl⟩ ⟨by show _ ≤ 601024; omega, by show _ ≤ 7293034; omega⟩ rfl rfl rfl rfl ?_
    refine sw_iload 1282 C dL_law_1282 rfl ?_
    refine sw_icmp_eq 1284 1289 C dL_law_1284 (by decide) (fun c_1284 => ?_) (fun c_1284 => ?_)
    rotate_left
    · exact by first | exact absurd c_1284 (rfl) | exact absurd (rfl) c_1284
    refine sw_iload 1289 C dL_law_1289 rfl ?_
    refine sw_if_ne 1291 1306 C dL_law_1291 (by decide) (fun c_1291 => ?_) (fun c_1291 => ?_)
    rotate_left
    · exact by first | exact absurd c_1291 (by decide) | exact absurd (by decide) c_1291
    refine sw_goto 1306 1546 C dL_law_1306 (by decide) ?_
    exact sw_loc (sw_widen (by omega) (by omega) (hk (S) (T) (R) (cn) (od) (ln) (by_) (g) (sa) (pa) (ad) (tx) (nb) (X) (1) (ap) (hh) (fo) (LI.up ⟨hO, hE, hK, hcn, hod, hln, hT⟩))) rfl
  · obtain ⟨i, hi⟩ := hc
    refine sw_aload_n 1253 1 C dL_law_1253 rfl rfl ?_
    refine sw_aload_n 1254 0 C dL_law_1254 rfl rfl ?_
    refine sw_iload 1255 C dL_law_1255 rfl ?_
    refine sw_iconst 1257 C dL_law_1257 1 (by decide) ?_
    refine sw_iadd 1258 C dL_law_1258 ?_
    refine sw_sld 1259 (5 * j + 1) C hX hbl hbA dL_law_1259 (nI_add (5 * j) 1) (by omega) (by omega) ?_
    refine sw_top hx1.symm ?_
    refine sw_aload_n 1260 3 C dL_law_1260 rfl rfl ?_
    refine xl_callSI 1261 [0, 1, 7, 11] 3 [_, _, _, _] C hz hC dL_law_1261 (ct_L_servedIn l hfl hS i hi) wK_L_servedIn wM_L_154 wT_L_servedIn wI_L hd_L_servedIn rfl ⟨rfl, rfl⟩ ⟨by show _ ≤ 601024; omega, by show _ ≤ 7293034; omega⟩ rfl rfl rfl rfl rfl rfl ?_
    refine sg_segs [_, _, _, _, _, _, _, _, _, _, _, _] rfl ?_
    refine sw_istore 1264 C dL_law_1264 rfl ?_
    refine sw_aload_n 1266 2 C dL_law_1266 rfl rfl ?_
    refine sw_aload_n 1267 0 C dL_law_1267 rfl rfl ?_
    refine sw_iload 1268 C dL_law_1268 rfl ?_
    refine sw_iconst 1270 C dL_law_1270 1 (by decide) ?_
    refine sw_iadd 1271 C dL_law_1271 ?_
    refine sw_sld 1272 (5 * j + 1) C hX hbl hbA dL_law_1272 (nI_add (5 * j) 1) (by omega) (by omega) ?_
    refine sw_top hx1.symm ?_
    refine sg_callVI 1273 [10] 1 0 [_] C dL_law_1273 (ct_X7_servedIn l hE hO i hi) wK_X7_servedIn wM_L_156 wN_X7_servedIn wS_X7_X7_servedIn wI_X7 hd_X7_servedIn rfl rfl rfl ⟨rfl, rfl⟩ ⟨by show _ ≤ 601024; omega, by show _ ≤ 7293034; omega⟩ rfl rfl rfl rfl rfl rfl ?_
    refine sg_segs [_, _, _, _, _, _, _, _, _, _, _, _] rfl ?_
    refine sw_istore 1276 C dL_law_1276 rfl ?_
    refine sw_loc (L1 := [(0, .ref _), (1, .ref _), (2, .ref _), (3, .ref _), (4, .int _), (5, .int _), (6, .int _)]) ?_ rfl
    refine sw_aload_n 1278 2 C dL_law_1278 rfl rfl ?_
    refine sg_callVIP 1279 [10] 0 0 C dL_law_1279 (ct_X7_thrown l) wK_X7_thrown wM_L_95 wN_X7_thrown wS_X7_X7_thrown wI_X7 hd_X7_thrown rfl rfl rfl ⟨rfl, rfl⟩ ⟨by show _ ≤ 601024; omega, by show _ ≤ 7293034; omega⟩ rfl rfl rfl rfl ?_
    refine sw_iload 1282 C dL_law_1282 rfl ?_
    refine sw_icmp_eq 1284 1289 C dL_law_1284 (by decide) (fun c_1284 => ?_) (fun c_1284 => ?_)
    rotate_left
    · exact by first | exact absurd c_1284 (rfl) | exact absurd (rfl) c_1284
    refine sw_iload 1289 C dL_law_1289 rfl ?_
    refine sw_if_ne 1291 1306 C dL_law_1291 (by decide) (fun c_1291 => ?_) (fun c_1291 => ?_)
    · exact by first | exact absurd c_1291 (fun q => q rfl) | exact absurd (fun q => q rfl) c_1291
    refine sw_aload_n 1294 3 C dL_law_1294 rfl rfl ?_
    refine sw_iconst 1295 C dL_law_1295 0 (by decide) ?_
    refine sg_laldN 1296 11 0 1 (0) C dL_law_1296 rfl (by decide) rfl rfl rfl rfl ?_
    refine sw_topL (show vp_updL fo 0 _ 0 = _ from pk_uLs) ?_
    refine sw_iload 1297 C dL_law_1297 rfl ?_
    refine sw_i2l 1299 C dL_law_1299 ?_
    refine sw_lcmp 1300 C dL_law_1300 ?_
    refine sw_if_eq 1301 1306 C dL_law_1301 (by decide) (fun c_1301 => ?_) (fun c_1301 => ?_)
    rotate_left
    · exact by first | exact absurd c_1301 (lcmp_self _) | exact absurd (lcmp_self _) c_1301
    refine sw_goto 1306 1546 C dL_law_1306 (by decide) ?_
    exact sw_loc (sw_widen (by omega) (by omega) (hk (S) ((svf x1 40 0 S).2) (R) (cn) (od) (ln) (by_) (g) (sa) (pa) (sa) (tx) (nb) (X) (0) (ap) (hh) (vp_updL fo 0 ((svf x1 40 0 S).1).toInt64) (LI.up ⟨hO, hE, hK, hcn, hod, hln, hT⟩))) rfl
set_option maxHeartbeats 8000000 in
set_option maxRecDepth 100000 in
theorem lo_bribeToLead {l : Launch} (hfl : l.stackTraces = false) {p : Program} {e : Env} {s : State} {m : MethodId} {below : List Frame} {meth : Method} {c : Code} {A : Nat → Prop} {D : va_G} {cI cJ cQ : ClassId} {Q : State → Prop} {b LL : Nat} {xs : Nat → Int32} (C : CC p s m #[.ref b] c cL_law 9 RL (Cond.initialized RL :: lw_all) D (tyz cI cJ cQ) A s.heap) (hz : xZ A s) (hC : xC s) (hX : va_X b LL xs s s.heap) (hbl : b < s.heap.size) (hbA : ¬ A b) (hLL : LL ≤ 2560) {x0a a0 a1 a2 a3 a4 a5 a6 a7 tr0 tr1 tr2 tr3 tr4 tr5 tr6 tr7 s0 s1 ra0 ra1 ra2 ra3 ra4 ra5 ra6 ra7 rb0 rb1 rb2 rb3 rb4 rb5 rb6 rb7 rc0 rc1 rc2 rc3 rc4 rc5 rc6 rc7 rd0 rd1 rd2 rd3 rd4 rd5 rd6 rd7 r0 t0 t1 w0 b0 b1 b2 b3 b4 b5 ao : Nat} {h : Nat → Option Nat} (hh0 : h 0 = some ra0) (hh1 : h 1 = some rb0) (hh2 : h 2 = some rc0) (hh3 : h 3 = some rd0) {S T : StT} {R : Nat → StT} {cn od ln : Nat} {by_ g sa pa ad tx nb : Nat → Int32} {X : RS} {th ap : Int32} {hh : Int64} {fo : Nat → Int64} {B j k n : Nat} (hB : B < 100000) (hj : 5 * j + 5 ≤ LL) (hkR : k + 1 ≤ 601024) (hnR : n + 6 ≤ 7293034) (hLI : LI B S R cn od ln by_ sa pa tx) (hk : ∀ (S T : StT) (R : Nat → StT) (cn od ln : Nat) (by_ g sa pa ad tx nb : Nat → Int32) (X : RS) (th ap : Int32) (hh : Int64) (fo : Nat → Int64), LI (B + 100) S R cn od ln by_ sa pa tx → sw p l e room_1 s m #[.ref b] below meth c D A s.heap 9 (k + 1) (n + 6) Q (flatS [[(x0a, .inr (6, [.ref a0, .ref tr0, .ref s0, .ref r0, .ref w0]))], (wSt a0 a1 a2 a3 a4 a5 a6 a7 cI (S)), [(s0, .inr (3, [.int (nI (cn)), .int (nI (od)), .ref s1])), (s1, .inl (cQ, 4, .inr (.inr (.inr (.inr h)))))], (wSt ra0 ra1 ra2 ra3 ra4 ra5 ra6 ra7 cI ((R) 0)), (wSt rb0 rb1 rb2 rb3 rb4 rb5 rb6 rb7 cI ((R) 1)), (wSt rc0 rc1 rc2 rc3 rc4 rc5 rc6 rc7 cI ((R) 2)), (wSt rd0 rd1 rd2 rd3 rd4 rd5 rd6 rd7 cI ((R) 3)), (wSt tr0 tr1 tr2 tr3 tr4 tr5 tr6 tr7 cI (T)), (wRd r0 t0 t1 cI (ln) (by_) (X)), [(w0, .inl (cI, 40, .inl (g)))], [(b0, .inr (7, [.ref b1, .ref b2, .ref b3, .int (nI (cn)), .int (th), .ref b4, .int (nI (ln)), .int (ap), .ref b5, .long (hh)])), (b1, .inl (cI, 424, .inl (sa))), (b2, .inl (cI, 1696, .inl (pa))), (b3, .inl (cI, 424, .inl (ad))), (b4, .inl (cI, 100, .inl (tx))), (b5, .inl (cI, 4, .inl (nb)))], [(ao, .inl (cJ, 1, .inr (.inl (fo))))]]) 1546 [(0, .ref b), (1, .ref x0a), (2, .ref b0), (3, .ref ao), (4, .int (nI (5 * j)))] []) : sw p l e room_1 s m #[.ref b] below meth c D A s.heap 9 k n Q (flatS [[(x0a, .inr (6, [.ref a0, .ref tr0, .ref s0, .ref r0, .ref w0]))], (wSt a0 a1 a2 a3 a4 a5 a6 a7 cI (S)), [(s0, .inr (3, [.int (nI (cn)), .int (nI (od)), .ref s1])), (s1, .inl (cQ, 4, .inr (.inr (.inr (.inr h)))))], (wSt ra0 ra1 ra2 ra3 ra4 ra5 ra6 ra7 cI ((R) 0)), (wSt rb0 rb1 rb2 rb3 rb4 rb5 rb6 rb7 cI ((R) 1)), (wSt rc0 rc1 rc2 rc3 rc4 rc5 rc6 rc7 cI ((R) 2)), (wSt rd0 rd1 rd2 rd3 rd4 rd5 rd6 rd7 cI ((R) 3)), (wSt tr0 tr1 tr2 tr3 tr4 tr5 tr6 tr7 cI (T)), (wRd r0 t0 t1 cI (ln) (by_) (X)), [(w0, .inl (cI, 40, .inl (g)))], [(b0, .inr (7, [.ref b1, .ref b2, .ref b3, .int (nI (cn)), .int (th), .ref b4, .int (nI (ln)), .int (ap), .ref b5, .long (hh)])), (b1, .inl (cI, 424, .inl (sa))), (b2, .inl (cI, 1696, .inl (pa))), (b3, .inl (cI, 424, .inl (ad))), (b4, .inl (cI, 100, .inl (tx))), (b5, .inl (cI, 4, .inl (nb)))], [(ao, .inl (cJ, 1, .inr (.inl (fo))))]]) 1309 [(0, .ref b), (1, .ref x0a), (2, .ref b0), (3, .ref ao), (4, .int (nI (5 * j)))] [] := by
  obtain ⟨hO, hE, hK, hcn, hod, hln, hT⟩ := hLI
  have hS := hO.si
  have hB2 : B < 2 ^ 29 := by omega
  obtain ⟨x1, hx1⟩ : ∃ x, x = xs (5 * j + 1) := ⟨_, rfl⟩
  rcases bool2 (inR x1 0 4) with hc | hc
  · refine sw_aload_n 1309 1 C dL_law_1309 rfl rfl ?_
    refine sw_aload_n 1310 0 C dL_law_1310 rfl rfl ?_
    refine sw_iload 1311 C dL_law_1311 rfl ?_
    refine sw_iconst 1313 C dL_law_1313 1 (by decide) ?_
    refine sw_iadd 1314 C dL_law_1314 ?_
    refine sw_sld 1315 (5 * j + 1) C hX hbl hbA dL_law_1315 (nI_add (5 * j) 1) (by omega) (by omega) ?_
    refine sw_top hx1.symm ?_
    refine sw_aload_n 1316 3 C dL_law_1316 rfl rfl ?_
    refine xl_callSI 1317 [0, 1, 11] 3 [_, _, _] C hz hC dL_law_1317 (ct_L_bribeToLead_2 l hfl hc) wK_L_bribeToLead wM_L_157 wT_L_bribeToLead wI_L hd_L_bribeToLead rfl ⟨rfl, rfl⟩ ⟨by show _ ≤ 601024; omega, by show _ ≤ 7293034; omega⟩ rfl rfl rfl rfl rfl rfl ?_
    refine sg_segs [_, _, _, _, _, _, _, _, _, _, _, _] rfl ?_
    refine sw_istore 1320 C dL_law_1320 rfl ?_
    refine sw_aload_n 1322 2 C dL_law_1322 rfl rfl ?_
    refine sw_aload_n 1323 0 C dL_law_1323 rfl rfl ?_
    refine sw_iload 1324 C dL_law_1324 rfl ?_
    refine sw_iconst 1326 C dL_law_1326 1 (by decide) ?_
    refine sw_iadd 1327 C dL_law_1327 ?_
    refine sw_sld 1328 (5 * j + 1) C hX hbl hbA dL_law_1328 (nI_add (5 * j) 1) (by omega) (by omega) ?_
    refine sw_top hx1.symm ?_
    refine sg_callVI 1329 [10] 1 0 [_] C dL_law_1329 (ct_X7_bribeToLead_2 l hc) wK_X7_bribeToLead wM_L_159 wN_X7_bribeToLead wS_X7_X7_bribeToLead wI_X7 hd_X7_bribeToLead rfl rfl rfl ⟨rfl, rfl⟩ ⟨by show _ ≤ 601024; omega, by show _ ≤ 7293034; omega⟩ rfl rfl rfl rfl rfl rfl ?_
    refine sg_segs [_, _, _, _, _, _, _, _, _, _, _, _] rfl ?_
    refine sw_istore 1332 C dL_law_1332 rfl ?_
    refine sw_loc (L1 := [(0, .ref _), (1, .ref _), (2, .ref _), (3, .ref _), (4, .int _), (5, .int _), (6, .int _)]) ?_ rfl
    refine sw_aload_n 1334 2 C dL_law_1334 rfl rfl ?_
    refine sg_callVIP 1335 [10] 0 0 C dL_law_1335 (ct_X7_thrown l) wK_X7_thrown wM_L_95 wN_X7_thrown wS_X7_X7_thrown wI_X7 hd_X7_thrown rfl rfl rfl ⟨rfl, rfl⟩ ⟨by show _ ≤ 601024; omega, by show _ ≤ 7293034; omega⟩ rfl rfl rfl rfl ?_
    refine sw_iload 1338 C dL_law_1338 rfl ?_
    refine sw_icmp_eq 1340 1345 C dL_law_1340 (by decide) (fun c_1340 => ?_) (fun c_1340 => ?_)
    rotate_left
    · exact by first | exact absurd c_1340 (rfl) | exact absurd (rfl) c_1340
    refine sw_iload 1345 C dL_law_1345 rfl ?_
    refine sw_if_ne 1347 1362 C dL_law_1347 (by decide) (fun c_1347 => ?_) (fun c_1347 => ?_)
    rotate_left
    · exact by first | exact absurd c_1347 (by decide) | exact absurd (by decide) c_1347
    refine sw_goto 1362 1546 C dL_law_1362 (by decide) ?_
    exact sw_loc (sw_widen (by omega) (by omega) (hk (S) (T) (R) (cn) (od) (ln) (by_) (g) (sa) (pa) (ad) (tx) (nb) (X) (1) (ap) (hh) (fo) (LI.up ⟨hO, hE, hK, hcn, hod, hln, hT⟩))) rfl
  · refine sw_aload_n 1309 1 C dL_law_1309 rfl rfl ?_
    refine sw_aload_n 1310 0 C dL_law_1310 rfl rfl ?_
    refine sw_iload 1311 C dL_law_1311 rfl ?_
    refine sw_iconst 1313 C dL_law_1313 1 (by decide) ?_
    refine sw_iadd 1314 C dL_law_1314 ?_
    refine sw_sld 1315 (5 * j + 1) C hX hbl hbA dL_law_1315 (nI_add (5 * j) 1) (by omega) (by omega) ?_
    refine sw_top hx1.symm ?_
    refine sw_aload_n 1316 3 C dL_law_1316 rfl rfl ?_
    refine xl_callSI 1317 [0, 1, 11] 3 [_, _, _] C hz hC dL_law_1317 (ct_L_bribeToLead l hfl hS hc) wK_L_bribeToLead wM_L_157 wT_L_bribeToLead wI_L hd_L_bribeToLead rfl ⟨rfl, rfl⟩ ⟨by show _ ≤ 601024; omega, by show _ ≤ 7293034; omega⟩ rfl rfl rfl rfl rfl rfl ?_
    refine sg_segs [_, _, _, _, _, _, _, _, _, _, _, _] rfl ?_
    refine sw_istore 1320 C dL_law_1320 rfl ?_
    refine sw_aload_n 1322 2 C dL_law_1322 rfl rfl ?_
    refine sw_aload_n 1323 0 C dL_law_1323 rfl rfl ?_
    refine sw_iload 1324 C dL_law_1324 rfl ?_
    refine sw_iconst 1326 C dL_law_1326 1 (by decide) ?_
    refine sw_iadd 1327 C dL_law_1327 ?_
    refine sw_sld 1328 (5 * j + 1) C hX hbl hbA dL_law_1328 (nI_add (5 * j) 1) (by omega) (by omega) ?_
    refine sw_top hx1.symm ?_
    refine sg_callVI 1329 [10] 1 0 [_] C dL_law_1329 (ct_X7_bribeToLead l hE hO hc) wK_X7_bribeToLead wM_L_159 wN_X7_bribeToLead wS_X7_X7_bribeToLead wI_X7 hd_X7_bribeToLead rfl rfl rfl ⟨rfl, rfl⟩ ⟨by show _ ≤ 601024; omega, by show _ ≤ 7293034; omega⟩ rfl rfl rfl rfl rfl rfl ?_
    refine sg_segs [_, _, _, _, _, _, _, _, _, _, _, _] rfl ?_
    refine sw_istore 1332 C dL_law_1332 rfl ?_
    refine sw_loc (L1 := [(0, .ref _), (1, .ref _), (2, .ref _), (3, .ref _), (4, .int _), (5, .int _), (6, .int _)]) ?_ rfl
    refine sw_aload_n 1334 2 C dL_law_1334 rfl rfl ?_
    refine sg_callVIP 1335 [10] 0 0 C dL_law_1335 (ct_X7_thrown l) wK_X7_thrown wM_L_95 wN_X7_thrown wS_X7_X7_thrown wI_X7 hd_X7_thrown rfl rfl rfl ⟨rfl, rfl⟩ ⟨by show _ ≤ 601024; omega, by show _ ≤ 7293034; omega⟩ rfl rfl rfl rfl ?_
    refine sw_iload 1338 C dL_law_1338 rfl ?_
    refine sw_icmp_eq 1340 1345 C dL_law_1340 (by decide) (fun c_1340 => ?_) (fun c_1340 => ?_)
    rotate_left
    · exact by first | exact absurd c_1340 (rfl) | exact absurd (rfl) c_1340
    refine sw_iload 1345 C dL_law_1345 rfl ?_
    refine sw_if_ne 1347 1362 C dL_law_1347 (by decide) (fun c_1347 => ?_) (fun c_1347 => ?_)
    · exact by first | exact absurd c_1347 (fun q => q rfl) | exact absurd (fun q => q rfl) c_1347
    refine sw_aload_n 1350 3 C dL_law_1350 rfl rfl ?_
    refine sw_iconst 1351 C dL_law_1351 0 (by decide) ?_
    refine sg_laldN 1352 11 0 1 (0) C dL_law_1352 rfl (by decide) rfl rfl rfl rfl ?_
    refine sw_topL (show vp_updL fo 0 _ 0 = _ from pk_uLs) ?_
    refine sw_iload 1353 C dL_law_1353 rfl ?_
    refine sw_i2l 1355 C dL_law_1355 ?_
    refine sw_lcmp 1356 C dL_law_1356 ?_
    refine sw_if_eq 1357 1362 C dL_law_1357 (by decide) (fun c_1357 => ?_) (fun c_1357 => ?_)
    rotate_left
    · exact by first | exact absurd c_1357 (lcmp_self _) | exact absurd (lcmp_self _) c_1357
    refine sw_goto 1362 1546 C dL_law_1362 (by decide) ?_
    exact sw_loc (sw_widen (by omega) (by omega) (hk (S) (T) (R) (cn) (od) (ln) (by_) (g) (sa) (pa) (ad) (tx) (nb) (X) (0) (ap) (hh) (vp_updL fo 0 (brl (ldr (zf S) (zn S) + 1) x1).toInt64) (LI.up ⟨hO, hE, hK, hcn, hod, hln, hT⟩))) rfl
set_option maxHeartbeats 8000000 in
set_option maxRecDepth 100000 in
theorem lo_append {l : Launch} (hfl : l.stackTraces = false) {p : Program} {e : Env} {s : State} {m : MethodId} {below : List Frame} {meth : Method} {c : Code} {A : Nat → Prop} {D : va_G} {cI cJ cQ : ClassId} {Q : State → Prop} {b LL : Nat} {xs : Nat → Int32} (C : CC p s m #[.ref b] c cL_law 9 RL (Cond.initialized RL :: lw_all) D (tyz cI cJ cQ) A s.heap) (hz : xZ A s) (hC : xC s) (hX : va_X b LL xs s s.heap) (hbl : b < s.heap.size) (hbA : ¬ A b) (hLL : LL ≤ 2560) {x0a a0 a1 a2 a3 a4 a5 a6 a7 tr0 tr1 tr2 tr3 tr4 tr5 tr6 tr7 s0 s1 ra0 ra1 ra2 ra3 ra4 ra5 ra6 ra7 rb0 rb1 rb2 rb3 rb4 rb5 rb6 rb7 rc0 rc1 rc2 rc3 rc4 rc5 rc6 rc7 rd0 rd1 rd2 rd3 rd4 rd5 rd6 rd7 r0 t0 t1 w0 b0 b1 b2 b3 b4 b5 ao : Nat} {h : Nat → Option Nat} (hh0 : h 0 = some ra0) (hh1 : h 1 = some rb0) (hh2 : h 2 = some rc0) (hh3 : h 3 = some rd0) {S T : StT} {R : Nat → StT} {cn od ln : Nat} {by_ g sa pa ad tx nb : Nat → Int32} {X : RS} {th ap : Int32} {hh : Int64} {fo : Nat → Int64} {B j k n : Nat} (hB : B < 100000) (hj : 5 * j + 5 ≤ LL) (hkR : k + 1 ≤ 601024) (hnR : n + 6 ≤ 7293034) (hLI : LI B S R cn od ln by_ sa pa tx) (hk : ∀ (S T : StT) (R : Nat → StT) (cn od ln : Nat) (by_ g sa pa ad tx nb : Nat → Int32) (X : RS) (th ap : Int32) (hh : Int64) (fo : Nat → Int64), LI (B + 100) S R cn od ln by_ sa pa tx → sw p l e room_1 s m #[.ref b] below meth c D A s.heap 9 (k + 1) (n + 6) Q (flatS [[(x0a, .inr (6, [.ref a0, .ref tr0, .ref s0, .ref r0, .ref w0]))], (wSt a0 a1 a2 a3 a4 a5 a6 a7 cI (S)), [(s0, .inr (3, [.int (nI (cn)), .int (nI (od)), .ref s1])), (s1, .inl (cQ, 4, .inr (.inr (.inr (.inr h)))))], (wSt ra0 ra1 ra2 ra3 ra4 ra5 ra6 ra7 cI ((R) 0)), (wSt rb0 rb1 rb2 rb3 rb4 rb5 rb6 rb7 cI ((R) 1)), (wSt rc0 rc1 rc2 rc3 rc4 rc5 rc6 rc7 cI ((R) 2)), (wSt rd0 rd1 rd2 rd3 rd4 rd5 rd6 rd7 cI ((R) 3)), (wSt tr0 tr1 tr2 tr3 tr4 tr5 tr6 tr7 cI (T)), (wRd r0 t0 t1 cI (ln) (by_) (X)), [(w0, .inl (cI, 40, .inl (g)))], [(b0, .inr (7, [.ref b1, .ref b2, .ref b3, .int (nI (cn)), .int (th), .ref b4, .int (nI (ln)), .int (ap), .ref b5, .long (hh)])), (b1, .inl (cI, 424, .inl (sa))), (b2, .inl (cI, 1696, .inl (pa))), (b3, .inl (cI, 424, .inl (ad))), (b4, .inl (cI, 100, .inl (tx))), (b5, .inl (cI, 4, .inl (nb)))], [(ao, .inl (cJ, 1, .inr (.inl (fo))))]]) 1546 [(0, .ref b), (1, .ref x0a), (2, .ref b0), (3, .ref ao), (4, .int (nI (5 * j)))] []) : sw p l e room_1 s m #[.ref b] below meth c D A s.heap 9 k n Q (flatS [[(x0a, .inr (6, [.ref a0, .ref tr0, .ref s0, .ref r0, .ref w0]))], (wSt a0 a1 a2 a3 a4 a5 a6 a7 cI (S)), [(s0, .inr (3, [.int (nI (cn)), .int (nI (od)), .ref s1])), (s1, .inl (cQ, 4, .inr (.inr (.inr (.inr h)))))], (wSt ra0 ra1 ra2 ra3 ra4 ra5 ra6 ra7 cI ((R) 0)), (wSt rb0 rb1 rb2 rb3 rb4 rb5 rb6 rb7 cI ((R) 1)), (wSt rc0 rc1 rc2 rc3 rc4 rc5 rc6 rc7 cI ((R) 2)), (wSt rd0 rd1 rd2 rd3 rd4 rd5 rd6 rd7 cI ((R) 3)), (wSt tr0 tr1 tr2 tr3 tr4 tr5 tr6 tr7 cI (T)), (wRd r0 t0 t1 cI (ln) (by_) (X)), [(w0, .inl (cI, 40, .inl (g)))], [(b0, .inr (7, [.ref b1, .ref b2, .ref b3, .int (nI (cn)), .int (th), .ref b4, .int (nI (ln)), .int (ap), .ref b5, .long (hh)])), (b1, .inl (cI, 424, .inl (sa))), (b2, .inl (cI, 1696, .inl (pa))), (b3, .inl (cI, 424, .inl (ad))), (b4, .inl (cI, 100, .inl (tx))), (b5, .inl (cI, 4, .inl (nb)))], [(ao, .inl (cJ, 1, .inr (.inl (fo))))]]) 1406 [(0, .ref b), (1, .ref x0a), (2, .ref b0), (3, .ref ao), (4, .int (nI (5 * j)))] [] := by
  obtain ⟨hO, hE, hK, hcn, hod, hln, hT⟩ := hLI
  have hS := hO.si
  have hB2 : B < 2 ^ 29 := by omega
  obtain ⟨x1, hx1⟩ : ∃ x, x = xs (5 * j + 1) := ⟨_, rfl⟩
  rcases app_or x1 ln with hc | hc | hc
  · refine sw_aload_n 1406 1 C dL_law_1406 rfl rfl ?_
    refine sw_aload_n 1407 0 C dL_law_1407 rfl rfl ?_
    refine sw_iload 1408 C dL_law_1408 rfl ?_
    refine sw_iconst 1410 C dL_law_1410 1 (by decide) ?_
    refine sw_iadd 1411 C dL_law_1411 ?_
    refine sw_sld 1412 (5 * j + 1) C hX hbl hbA dL_law_1412 (nI_add (5 * j) 1) (by omega) (by omega) ?_
    refine sw_top hx1.symm ?_
    refine sw_aload_n 1413 3 C dL_law_1413 rfl rfl ?_
    refine xl_callSI 1414 [0, 8, 11] 3 [_, _, _] C hz hC dL_law_1414 (ct_L_append_2 l hfl hc) wK_L_append wM_L_165 wT_L_append wI_L hd_L_append rfl ⟨rfl, rfl⟩ ⟨by show _ ≤ 601024; omega, by show _ ≤ 7293034; omega⟩ rfl rfl rfl rfl rfl rfl ?_
    refine sg_segs [_, _, _, _, _, _, _, _, _, _, _, _] rfl ?_
    refine sw_istore 1417 C dL_law_1417 rfl ?_
    refine sw_aload_n 1419 2 C dL_law_1419 rfl rfl ?_
    refine sw_aload_n 1420 0 C dL_law_1420 rfl rfl ?_
    refine sw_iload 1421 C dL_law_1421 rfl ?_
    refine sw_iconst 1423 C dL_law_1423 1 (by decide) ?_
    refine sw_iadd 1424 C dL_law_1424 ?_
    refine sw_sld 1425 (5 * j + 1) C hX hbl hbA dL_law_1425 (nI_add (5 * j) 1) (by omega) (by omega) ?_
    refine sw_top hx1.symm ?_
    refine sg_callVI 1426 [10] 1 0 [_] C dL_law_1426 (ct_X7_append_3 l hc) wK_X7_append wM_L_167 wN_X7_append wS_X7_X7_append wI_X7 hd_X7_append rfl rfl rfl ⟨rfl, rfl⟩ ⟨by show _ ≤ 601024; omega, by show _ ≤ 7293034; omega⟩ rfl rfl rfl rfl rfl rfl ?_
    refine sg_segs [_, _, _, _, _, _, _, _, _, _, _, _] rfl ?_
    refine sw_istore 1429 C dL_law_1429 rfl ?_
    refine sw_loc (L1 := [(0, .ref _), (1, .ref _), (2, .ref _), (3, .ref _), (4, .int _), (5, .int _), (6, .int _)]) ?_ rfl
    refine sw_aload_n 1431 2 C dL_law_1431 rfl rfl ?_
    refine sg_callVIP 1432 [10] 0 0 C dL_law_1432 (ct_X7_thrown l) wK_X7_thrown wM_L_95 wN_X7_thrown wS_X7_X7_thrown wI_X7 hd_X7_thrown rfl rfl rfl ⟨rfl, rfl⟩ ⟨by show _ ≤ 601024; omega, by show _ ≤ 7293034; omega⟩ rfl rfl rfl rfl ?_
    refine sw_iload 1435 C dL_law_1435 rfl ?_
    refine sw_icmp_eq 1437 1442 C dL_law_1437 (by decide) (fun c_1437 => ?_) (fun c_1437 => ?_)
    rotate_left
    · exact by first | exact absurd c_1437 (rfl) | exact absurd (rfl) c_1437
    refine sw_iload 1442 C dL_law_1442 rfl ?_
    refine sw_if_ne 1444 1459 C dL_law_1444 (by decide) (fun c_1444 => ?_) (fun c_1444 => ?_)
    rotate_left
    · exact by first | exact absurd c_1444 (by decide) | exact absurd (by decide) c_1444
    refine sw_goto 1459 1546 C dL_law_1459 (by decide) ?_
    exact sw_loc (sw_widen (by omega) (by omega) (hk (S) (T) (R) (cn) (od) (ln) (by_) (g) (sa) (pa) (ad) (tx) (nb) (X) (1) (ap) (hh) (fo) (LI.up ⟨hO, hE, hK, hcn, hod, hln, hT⟩))) rfl
  · obtain rfl : ln = 100 := by omega
    refine sw_aload_n 1406 1 C dL_law_1406 rfl rfl ?_
    refine sw_aload_n 1407 0 C dL_law_1407 rfl rfl ?_
    refine sw_iload 1408 C dL_law_1408 rfl ?_
    refine sw_iconst 1410 C dL_law_1410 1 (by decide) ?_
    refine sw_iadd 1411 C dL_law_1411 ?_
    refine sw_sld 1412 (5 * j + 1) C hX hbl hbA dL_law_1412 (nI_add (5 * j) 1) (by omega) (by omega) ?_
    refine sw_top hx1.symm ?_
    refine sw_aload_n 1413 3 C dL_law_1413 rfl rfl ?_
    refine xl_callSI 1414 [0, 8, 11] 3 [_, _, _] C hz hC dL_law_1414 (ct_L_append_3 l hfl hln hc.1 hc.2) wK_L_append wM_L_165 wT_L_append wI_L hd_L_append rfl ⟨rfl, rfl⟩ ⟨by show _ ≤ 601024; omega, by show _ ≤ 7293034; omega⟩ rfl rfl rfl rfl rfl rfl ?_
    refine sg_segs [_, _, _, _, _, _, _, _, _, _, _, _] rfl ?_
    refine sw_istore 1417 C dL_law_1417 rfl ?_
    refine sw_aload_n 1419 2 C dL_law_1419 rfl rfl ?_
    refine sw_aload_n 1420 0 C dL_law_1420 rfl rfl ?_
    refine sw_iload 1421 C dL_law_1421 rfl ?_
    refine sw_iconst 1423 C dL_law_1423 1 (by decide) ?_
    refine sw_iadd 1424 C dL_law_1424 ?_
    refine sw_sld 1425 (5 * j + 1) C hX hbl hbA dL_law_1425 (nI_add (5 * j) 1) (by omega) (by omega) ?_
    refine sw_top hx1.symm ?_
    refine sg_callVI 1426 [10] 1 0 [_] C dL_law_1426 (ct_X7_append_2 l hc.1) wK_X7_append wM_L_167 wN_X7_append wS_X7_X7_append wI_X7 hd_X7_append rfl rfl rfl ⟨rfl, rfl⟩ ⟨by show _ ≤ 601024; omega, by show _ ≤ 7293034; omega⟩ rfl rfl rfl rfl rfl rfl ?_
    refine sg_segs [_, _, _, _, _, _, _, _, _, _, _, _] rfl ?_
    refine sw_istore 1429 C dL_law_1429 rfl ?_
    refine sw_loc (L1 := [(0, .ref _), (1, .ref _), (2, .ref _), (3, .ref _), (4, .int _), (5, .int _), (6, .int _)]) ?_ rfl
    refine sw_aload_n 1431 2 C dL_law_1431 rfl rfl ?_
    refine sg_callVIP 1432 [10] 0 0 C dL_law_1432 (ct_X7_thrown l) wK_X7_thrown wM_L_95 wN_X7_thrown wS_X7_X7_thrown wI_X7 hd_X7_thrown rfl rfl rfl ⟨rfl, rfl⟩ ⟨by show _ ≤ 601024; omega, by show _ ≤ 7293034; omega⟩ rfl rfl rfl rfl ?_
    refine sw_iload 1435 C dL_law_1435 rfl ?_
    refine sw_icmp_eq 1437 1442 C dL_law_1437 (by decide) (fun c_1437 => ?_) (fun c_1437 => ?_)
    rotate_left
    · exact by first | exact absurd c_1437 (rfl) | exact absurd (rfl) c_1437
    refine sw_iload 1442 C dL_law_1442 rfl ?_
    refine sw_if_ne 1444 1459 C dL_law_1444 (by decide) (fun c_1444 => ?_) (fun c_1444 => ?_)
    rotate_left
    · exact by first | exact absurd c_1444 (by decide) | exact absurd (by decide) c_1444
    refine sw_goto 1459 1546 C dL_law_1459 (by decide) ?_
    exact sw_loc (sw_widen (by omega) (by omega) (hk (S) (T) (R) (cn) (od) (100) (by_) (g) (sa) (pa) (ad) (tx) (nb) (X) (2) (ap) (hh) (fo) (LI.up ⟨hO, hE, hK, hcn, hod, hln, hT⟩))) rfl
  · refine sw_aload_n 1406 1 C dL_law_1406 rfl rfl ?_
    refine sw_aload_n 1407 0 C dL_law_1407 rfl rfl ?_
    refine sw_iload 1408 C dL_law_1408 rfl ?_
    refine sw_iconst 1410 C dL_law_1410 1 (by decide) ?_
    refine sw_iadd 1411 C dL_law_1411 ?_
    refine sw_sld 1412 (5 * j + 1) C hX hbl hbA dL_law_1412 (nI_add (5 * j) 1) (by omega) (by omega) ?_
    refine sw_top hx1.symm ?_
    refine sw_aload_n 1413 3 C dL_law_1413 rfl rfl ?_
    refine xl_callSI 1414 [0, 8, 11] 3 [_, _, _] C hz hC dL_law_1414 (ct_L_append_ok l hfl hln hc.1 hc.2) wK_L_append wM_L_165 wT_L_append wI_L hd_L_append rfl ⟨rfl, rfl⟩ ⟨by show _ ≤ 601024; omega, by show _ ≤ 7293034; omega⟩ rfl rfl rfl rfl rfl rfl ?_
    refine sg_segs [_, _, _, _, _, _, _, _, _, _, _, _] rfl ?_
    refine sw_istore 1417 C dL_law_1417 rfl ?_
    refine sw_aload_n 1419 2 C dL_law_1419 rfl rfl ?_
    refine sw_aload_n 1420 0 C dL_law_1420 rfl rfl ?_
    refine sw_iload 1421 C dL_law_1421 rfl ?_
    refine sw_iconst 1423 C dL_law_1423 1 (by decide) ?_
    refine sw_iadd 1424 C dL_law_1424 ?_
    refine sw_sld 1425 (5 * j + 1) C hX hbl hbA dL_law_1425 (nI_add (5 * j) 1) (by omega) (by omega) ?_
    refine sw_top hx1.symm ?_
    refine sg_callVI 1426 [10] 1 0 [_] C dL_law_1426 (ct_X7_append l hc.1 hc.2) wK_X7_append wM_L_167 wN_X7_append wS_X7_X7_append wI_X7 hd_X7_append rfl rfl rfl ⟨rfl, rfl⟩ ⟨by show _ ≤ 601024; omega, by show _ ≤ 7293034; omega⟩ rfl rfl rfl rfl rfl rfl ?_
    refine sg_segs [_, _, _, _, _, _, _, _, _, _, _, _] rfl ?_
    refine sw_istore 1429 C dL_law_1429 rfl ?_
    refine sw_loc (L1 := [(0, .ref _), (1, .ref _), (2, .ref _), (3, .ref _), (4, .int _), (5, .int _), (6, .int _)]) ?_ rfl
    refine sw_aload_n 1431 2 C dL_law_1431 rfl rfl ?_
    refine sg_callVIP 1432 [10] 0 0 C dL_law_1432 (ct_X7_thrown l) wK_X7_thrown wM_L_95 wN_X7_thrown wS_X7_X7_thrown wI_X7 hd_X7_thrown rfl rfl rfl ⟨rfl, rfl⟩ ⟨by show _ ≤ 601024; omega, by show _ ≤ 7293034; omega⟩ rfl rfl rfl rfl ?_
    refine sw_iload 1435 C dL_law_1435 rfl ?_
    refine sw_icmp_eq 1437 1442 C dL_law_1437 (by decide) (fun c_1437 => ?_) (fun c_1437 => ?_)
    rotate_left
    · exact by first | exact absurd c_1437 (rfl) | exact absurd (rfl) c_1437
    refine sw_iload 1442 C dL_law_1442 rfl ?_
    refine sw_if_ne 1444 1459 C dL_law_1444 (by decide) (fun c_1444 => ?_) (fun c_1444 => ?_)
    · exact by first | exact absurd c_1444 (fun q => q rfl) | exact absurd (fun q => q rfl) c_1444
    refine sw_aload_n 1447 3 C dL_law_1447 rfl rfl ?_
    refine sw_iconst 1448 C dL_law_1448 0 (by decide) ?_
    refine sg_laldN 1449 11 0 1 (0) C dL_law_1449 rfl (by decide) rfl rfl rfl rfl ?_
    refine sw_topL (show vp_updL fo 0 _ 0 = _ from pk_uLs) ?_
    refine sw_iload 1450 C dL_law_1450 rfl ?_
    refine sw_i2l 1452 C dL_law_1452 ?_
    refine sw_lcmp 1453 C dL_law_1453 ?_
    refine sw_if_eq 1454 1459 C dL_law_1454 (by decide) (fun c_1454 => ?_) (fun c_1454 => ?_)
    rotate_left
    · exact by first | exact absurd c_1454 (lcmp_self _) | exact absurd (lcmp_self _) c_1454
    refine sw_goto 1459 1546 C dL_law_1459 (by decide) ?_
    exact sw_loc (sw_widen (by omega) (by omega) (hk (S) (T) (R) (cn) (od) (ln + 1) (upd by_ ln x1) (g) (sa) (pa) (ad) (upd tx ln x1) (nb) (X) (0) (ap) (hh) (vp_updL fo 0 (nI (ln + 1)).toInt64) (LI.app ⟨hO, hE, hK, hcn, hod, hln, hT⟩ hc.1 hc.2))) rfl
set_option maxHeartbeats 8000000 in
set_option maxRecDepth 100000 in
theorem lo_undo {l : Launch} (hfl : l.stackTraces = false) {p : Program} {e : Env} {s : State} {m : MethodId} {below : List Frame} {meth : Method} {c : Code} {A : Nat → Prop} {D : va_G} {cI cJ cQ : ClassId} {Q : State → Prop} {b LL : Nat} {xs : Nat → Int32} (C : CC p s m #[.ref b] c cL_law 9 RL (Cond.initialized RL :: lw_all) D (tyz cI cJ cQ) A s.heap) (hz : xZ A s) (hC : xC s) (hX : va_X b LL xs s s.heap) (hbl : b < s.heap.size) (hbA : ¬ A b) (hLL : LL ≤ 2560) {x0a a0 a1 a2 a3 a4 a5 a6 a7 tr0 tr1 tr2 tr3 tr4 tr5 tr6 tr7 s0 s1 ra0 ra1 ra2 ra3 ra4 ra5 ra6 ra7 rb0 rb1 rb2 rb3 rb4 rb5 rb6 rb7 rc0 rc1 rc2 rc3 rc4 rc5 rc6 rc7 rd0 rd1 rd2 rd3 rd4 rd5 rd6 rd7 r0 t0 t1 w0 b0 b1 b2 b3 b4 b5 ao : Nat} {h : Nat → Option Nat} (hh0 : h 0 = some ra0) (hh1 : h 1 = some rb0) (hh2 : h 2 = some rc0) (hh3 : h 3 = some rd0) {S T : StT} {R : Nat → StT} {cn od ln : Nat} {by_ g sa pa ad tx nb : Nat → Int32} {X : RS} {th ap : Int32} {hh : Int64} {fo : Nat → Int64} {B j k n : Nat} (hB : B < 100000) (hj : 5 * j + 5 ≤ LL) (hkR : k + 1 ≤ 601024) (hnR : n + 6 ≤ 7293034) (hLI : LI B S R cn od ln by_ sa pa tx) (hk : ∀ (S T : StT) (R : Nat → StT) (cn od ln : Nat) (by_ g sa pa ad tx nb : Nat → Int32) (X : RS) (th ap : Int32) (hh : Int64) (fo : Nat → Int64), LI (B + 100) S R cn od ln by_ sa pa tx → sw p l e room_1 s m #[.ref b] below meth c D A s.heap 9 (k + 1) (n + 6) Q (flatS [[(x0a, .inr (6, [.ref a0, .ref tr0, .ref s0, .ref r0, .ref w0]))], (wSt a0 a1 a2 a3 a4 a5 a6 a7 cI (S)), [(s0, .inr (3, [.int (nI (cn)), .int (nI (od)), .ref s1])), (s1, .inl (cQ, 4, .inr (.inr (.inr (.inr h)))))], (wSt ra0 ra1 ra2 ra3 ra4 ra5 ra6 ra7 cI ((R) 0)), (wSt rb0 rb1 rb2 rb3 rb4 rb5 rb6 rb7 cI ((R) 1)), (wSt rc0 rc1 rc2 rc3 rc4 rc5 rc6 rc7 cI ((R) 2)), (wSt rd0 rd1 rd2 rd3 rd4 rd5 rd6 rd7 cI ((R) 3)), (wSt tr0 tr1 tr2 tr3 tr4 tr5 tr6 tr7 cI (T)), (wRd r0 t0 t1 cI (ln) (by_) (X)), [(w0, .inl (cI, 40, .inl (g)))], [(b0, .inr (7, [.ref b1, .ref b2, .ref b3, .int (nI (cn)), .int (th), .ref b4, .int (nI (ln)), .int (ap), .ref b5, .long (hh)])), (b1, .inl (cI, 424, .inl (sa))), (b2, .inl (cI, 1696, .inl (pa))), (b3, .inl (cI, 424, .inl (ad))), (b4, .inl (cI, 100, .inl (tx))), (b5, .inl (cI, 4, .inl (nb)))], [(ao, .inl (cJ, 1, .inr (.inl (fo))))]]) 1546 [(0, .ref b), (1, .ref x0a), (2, .ref b0), (3, .ref ao), (4, .int (nI (5 * j)))] []) : sw p l e room_1 s m #[.ref b] below meth c D A s.heap 9 k n Q (flatS [[(x0a, .inr (6, [.ref a0, .ref tr0, .ref s0, .ref r0, .ref w0]))], (wSt a0 a1 a2 a3 a4 a5 a6 a7 cI (S)), [(s0, .inr (3, [.int (nI (cn)), .int (nI (od)), .ref s1])), (s1, .inl (cQ, 4, .inr (.inr (.inr (.inr h)))))], (wSt ra0 ra1 ra2 ra3 ra4 ra5 ra6 ra7 cI ((R) 0)), (wSt rb0 rb1 rb2 rb3 rb4 rb5 rb6 rb7 cI ((R) 1)), (wSt rc0 rc1 rc2 rc3 rc4 rc5 rc6 rc7 cI ((R) 2)), (wSt rd0 rd1 rd2 rd3 rd4 rd5 rd6 rd7 cI ((R) 3)), (wSt tr0 tr1 tr2 tr3 tr4 tr5 tr6 tr7 cI (T)), (wRd r0 t0 t1 cI (ln) (by_) (X)), [(w0, .inl (cI, 40, .inl (g)))], [(b0, .inr (7, [.ref b1, .ref b2, .ref b3, .int (nI (cn)), .int (th), .ref b4, .int (nI (ln)), .int (ap), .ref b5, .long (hh)])), (b1, .inl (cI, 424, .inl (sa))), (b2, .inl (cI, 1696, .inl (pa))), (b3, .inl (cI, 424, .inl (ad))), (b4, .inl (cI, 100, .inl (tx))), (b5, .inl (cI, 4, .inl (nb)))], [(ao, .inl (cJ, 1, .inr (.inl (fo))))]]) 1488 [(0, .ref b), (1, .ref x0a), (2, .ref b0), (3, .ref ao), (4, .int (nI (5 * j)))] [] := by
  obtain ⟨hO, hE, hK, hcn, hod, hln, hT⟩ := hLI
  have hS := hO.si
  have hB2 : B < 2 ^ 29 := by omega
  rcases Nat.eq_zero_or_pos cn with hc | hc
  · subst hc
    refine sw_aload_n 1488 1 C dL_law_1488 rfl rfl ?_
    refine sw_aload_n 1489 3 C dL_law_1489 rfl rfl ?_
    refine xl_callSI 1490 [0, 1, 2, 11] 2 [_, _, _, _] C hz hC dL_law_1490 (ct_L_undo_2 l hfl rfl) wK_L_undo wM_L_176 wT_L_undo wI_L hd_L_undo rfl ⟨rfl, rfl⟩ ⟨by show _ ≤ 601024; omega, by show _ ≤ 7293034; omega⟩ rfl rfl rfl rfl rfl rfl ?_
    refine sg_segs [_, _, _, _, _, _, _, _, _, _, _, _] rfl ?_
    refine sw_istore 1493 C dL_law_1493 rfl ?_
    refine sw_aload_n 1495 2 C dL_law_1495 rfl rfl ?_
    refine sg_callVI 1496 [10] 0 0 [_] C dL_law_1496 (ct_X7_undo_2 l) wK_X7_undo wM_L_178 wN_X7_undo wS_X7_X7_undo wI_X7 hd_X7_undo rfl rfl rfl ⟨rfl, rfl⟩ ⟨by show _ ≤ 601024; omega, by show _ ≤ 7293034; omega⟩ rfl rfl rfl rfl rfl rfl ?_
    refine sg_segs [_, _, _, _, _, _, _, _, _, _, _, _] rfl ?_
    refine sw_istore 1499 C dL_law_1499 rfl ?_
    refine sw_loc (L1 := [(0, .ref _), (1, .ref _), (2, .ref _), (3, .ref _), (4, .int _), (5, .int _), (6, .int _)]) ?_ rfl
    refine sw_aload_n 1501 2 C dL_law_1501 rfl rfl ?_
    refine sg_callVIP 1502 [10] 0 0 C dL_law_1502 (ct_X7_thrown l) wK_X7_thrown wM_L_95 wN_X7_thrown wS_X7_X7_thrown wI_X7 hd_X7_thrown rfl rfl rfl ⟨rfl, rfl⟩ ⟨by show _ ≤ 601024; omega, by show _ ≤ 7293034; omega⟩ rfl rfl rfl rfl ?_
    refine sw_iload 1505 C dL_law_1505 rfl ?_
    refine sw_icmp_eq 1507 1512 C dL_law_1507 (by decide) (fun c_1507 => ?_) (fun c_1507 => ?_)
    rotate_left
    · exact by first | exact absurd c_1507 (rfl) | exact absurd (rfl) c_1507
    refine sw_iload 1512 C dL_law_1512 rfl ?_
    refine sw_if_ne 1514 1529 C dL_law_1514 (by decide) (fun c_1514 => ?_) (fun c_1514 => ?_)
    rotate_left
    · exact by first | exact absurd c_1514 (by decide) | exact absurd (by decide) c_1514
    refine sw_goto 1529 1546 C dL_law_1529 (by decide) ?_
    exact sw_loc (sw_widen (by omega) (by omega) (hk (S) (T) (R) (0) (od) (ln) (by_) (g) (sa) (pa) (ad) (tx) (nb) (X) (1) (ap) (hh) (fo) (LI.up ⟨hO, hE, hK, hcn, hod, hln, hT⟩))) rfl
  · refine sw_aload_n 1488 1 C dL_law_1488 rfl rfl ?_
    refine sw_aload_n 1489 3 C dL_law_1489 rfl rfl ?_
    refine xl_callSI 1490 [0, 1, 2, 3, 4, 5, 6, 11] 2 [_, _, _, _, _, _, _, _] C hz hC dL_law_1490 (ct_L_undo l hfl hS hcn hod hh0 hh1 hh2 hh3 hc) wK_L_undo wM_L_176 wT_L_undo wI_L hd_L_undo rfl ⟨rfl, rfl⟩ ⟨by show _ ≤ 601024; omega, by show _ ≤ 7293034; omega⟩ rfl rfl rfl rfl rfl rfl ?_
    refine sg_segs [_, _, _, _, _, _, _, _, _, _, _, _] rfl ?_
    refine sw_istore 1493 C dL_law_1493 rfl ?_
    refine sw_aload_n 1495 2 C dL_law_1495 rfl rfl ?_
    refine sg_callVI 1496 [10] 0 0 [_] C dL_law_1496 (ct_X7_undo l hc hcn) wK_X7_undo wM_L_178 wN_X7_undo wS_X7_X7_undo wI_X7 hd_X7_undo rfl rfl rfl ⟨rfl, rfl⟩ ⟨by show _ ≤ 601024; omega, by show _ ≤ 7293034; omega⟩ rfl rfl rfl rfl rfl rfl ?_
    refine sg_segs [_, _, _, _, _, _, _, _, _, _, _, _] rfl ?_
    refine sw_istore 1499 C dL_law_1499 rfl ?_
    refine sw_loc (L1 := [(0, .ref _), (1, .ref _), (2, .ref _), (3, .ref _), (4, .int _), (5, .int _), (6, .int _)]) ?_ rfl
    refine sw_aload_n 1501 2 C dL_law_1501 rfl rfl ?_
    refine sg_callVIP 1502 [10] 0 0 C dL_law_1502 (ct_X7_thrown l) wK_X7_thrown wM_L_95 wN_X7_thrown wS_X7_X7_thrown wI_X7 hd_X7_thrown rfl rfl rfl ⟨rfl, rfl⟩ ⟨by show _ ≤ 601024; omega, by show _ ≤ 7293034; omega⟩ rfl rfl rfl rfl ?_
    refine sw_iload 1505 C dL_law_1505 rfl ?_
    refine sw_icmp_eq 1507 1512 C dL_law_1507 (by decide) (fun c_1507 => ?_) (fun c_1507 => ?_)
    rotate_left
    · exact by first | exact absurd c_1507 (rfl) | exact absurd (rfl) c_1507
    refine sw_iload 1512 C dL_law_1512 rfl ?_
    refine sw_if_ne 1514 1529 C dL_law_1514 (by decide) (fun c_1514 => ?_) (fun c_1514 => ?_)
    · exact by first | exact absurd c_1514 (fun q => q rfl) | exact absurd (fun q => q rfl) c_1514
    refine sw_aload_n 1517 3 C dL_law_1517 rfl rfl ?_
    refine sw_iconst 1518 C dL_law_1518 0 (by decide) ?_
    refine sg_laldN 1519 11 0 1 (0) C dL_law_1519 rfl (by decide) rfl rfl rfl rfl ?_
    refine sw_topL (show vp_updL fo 0 _ 0 = _ from pk_uLs) ?_
    refine sw_iload 1520 C dL_law_1520 rfl ?_
    refine sw_i2l 1522 C dL_law_1522 ?_
    refine sw_lcmp 1523 C dL_law_1523 ?_
    refine sw_if_eq 1524 1529 C dL_law_1524 (by decide) (fun c_1524 => ?_) (fun c_1524 => ?_)
    rotate_left
    · exact by first | exact absurd c_1524 (lcmp_self _) | exact absurd (lcmp_self _) c_1524
    refine sw_goto 1529 1546 C dL_law_1529 (by decide) ?_
    exact sw_loc (sw_widen (by omega) (by omega) (hk (R ((od + (cn - 1)) % 4)) (T) (R) (cn - 1) (od) (ln) (by_) (g) ((fun k => pa (424 * (cn - 1) + k))) (pa) (ad) (tx) (nb) (X) (0) (ap) (hh) (vp_updL fo 0 (nI (cn - 1)).toInt64) (LI.undo ⟨hO, hE, hK, hcn, hod, hln, hT⟩ hc))) rfl
set_option maxHeartbeats 8000000 in
set_option maxRecDepth 100000 in
theorem lo_firstToExpire {l : Launch} (hfl : l.stackTraces = false) {p : Program} {e : Env} {s : State} {m : MethodId} {below : List Frame} {meth : Method} {c : Code} {A : Nat → Prop} {D : va_G} {cI cJ cQ : ClassId} {Q : State → Prop} {b LL : Nat} {xs : Nat → Int32} (C : CC p s m #[.ref b] c cL_law 9 RL (Cond.initialized RL :: lw_all) D (tyz cI cJ cQ) A s.heap) (hz : xZ A s) (hC : xC s) (hX : va_X b LL xs s s.heap) (hbl : b < s.heap.size) (hbA : ¬ A b) (hLL : LL ≤ 2560) {x0a a0 a1 a2 a3 a4 a5 a6 a7 tr0 tr1 tr2 tr3 tr4 tr5 tr6 tr7 s0 s1 ra0 ra1 ra2 ra3 ra4 ra5 ra6 ra7 rb0 rb1 rb2 rb3 rb4 rb5 rb6 rb7 rc0 rc1 rc2 rc3 rc4 rc5 rc6 rc7 rd0 rd1 rd2 rd3 rd4 rd5 rd6 rd7 r0 t0 t1 w0 b0 b1 b2 b3 b4 b5 ao : Nat} {h : Nat → Option Nat} (hh0 : h 0 = some ra0) (hh1 : h 1 = some rb0) (hh2 : h 2 = some rc0) (hh3 : h 3 = some rd0) {S T : StT} {R : Nat → StT} {cn od ln : Nat} {by_ g sa pa ad tx nb : Nat → Int32} {X : RS} {th ap : Int32} {hh : Int64} {fo : Nat → Int64} {B j k n : Nat} (hB : B < 100000) (hj : 5 * j + 5 ≤ LL) (hkR : k + 1 ≤ 601024) (hnR : n + 6 ≤ 7293034) (hLI : LI B S R cn od ln by_ sa pa tx) (hk : ∀ (S T : StT) (R : Nat → StT) (cn od ln : Nat) (by_ g sa pa ad tx nb : Nat → Int32) (X : RS) (th ap : Int32) (hh : Int64) (fo : Nat → Int64), LI (B + 100) S R cn od ln by_ sa pa tx → sw p l e room_1 s m #[.ref b] below meth c D A s.heap 9 (k + 1) (n + 6) Q (flatS [[(x0a, .inr (6, [.ref a0, .ref tr0, .ref s0, .ref r0, .ref w0]))], (wSt a0 a1 a2 a3 a4 a5 a6 a7 cI (S)), [(s0, .inr (3, [.int (nI (cn)), .int (nI (od)), .ref s1])), (s1, .inl (cQ, 4, .inr (.inr (.inr (.inr h)))))], (wSt ra0 ra1 ra2 ra3 ra4 ra5 ra6 ra7 cI ((R) 0)), (wSt rb0 rb1 rb2 rb3 rb4 rb5 rb6 rb7 cI ((R) 1)), (wSt rc0 rc1 rc2 rc3 rc4 rc5 rc6 rc7 cI ((R) 2)), (wSt rd0 rd1 rd2 rd3 rd4 rd5 rd6 rd7 cI ((R) 3)), (wSt tr0 tr1 tr2 tr3 tr4 tr5 tr6 tr7 cI (T)), (wRd r0 t0 t1 cI (ln) (by_) (X)), [(w0, .inl (cI, 40, .inl (g)))], [(b0, .inr (7, [.ref b1, .ref b2, .ref b3, .int (nI (cn)), .int (th), .ref b4, .int (nI (ln)), .int (ap), .ref b5, .long (hh)])), (b1, .inl (cI, 424, .inl (sa))), (b2, .inl (cI, 1696, .inl (pa))), (b3, .inl (cI, 424, .inl (ad))), (b4, .inl (cI, 100, .inl (tx))), (b5, .inl (cI, 4, .inl (nb)))], [(ao, .inl (cJ, 1, .inr (.inl (fo))))]]) 1546 [(0, .ref b), (1, .ref x0a), (2, .ref b0), (3, .ref ao), (4, .int (nI (5 * j)))] []) : sw p l e room_1 s m #[.ref b] below meth c D A s.heap 9 k n Q (flatS [[(x0a, .inr (6, [.ref a0, .ref tr0, .ref s0, .ref r0, .ref w0]))], (wSt a0 a1 a2 a3 a4 a5 a6 a7 cI (S)), [(s0, .inr (3, [.int (nI (cn)), .int (nI (od)), .ref s1])), (s1, .inl (cQ, 4, .inr (.inr (.inr (.inr h)))))], (wSt ra0 ra1 ra2 ra3 ra4 ra5 ra6 ra7 cI ((R) 0)), (wSt rb0 rb1 rb2 rb3 rb4 rb5 rb6 rb7 cI ((R) 1)), (wSt rc0 rc1 rc2 rc3 rc4 rc5 rc6 rc7 cI ((R) 2)), (wSt rd0 rd1 rd2 rd3 rd4 rd5 rd6 rd7 cI ((R) 3)), (wSt tr0 tr1 tr2 tr3 tr4 tr5 tr6 tr7 cI (T)), (wRd r0 t0 t1 cI (ln) (by_) (X)), [(w0, .inl (cI, 40, .inl (g)))], [(b0, .inr (7, [.ref b1, .ref b2, .ref b3, .int (nI (cn)), .int (th), .ref b4, .int (nI (ln)), .int (ap), .ref b5, .long (hh)])), (b1, .inl (cI, 424, .inl (sa))), (b2, .inl (cI, 1696, .inl (pa))), (b3, .inl (cI, 424, .inl (ad))), (b4, .inl (cI, 100, .inl (tx))), (b5, .inl (cI, 4, .inl (nb)))], [(ao, .inl (cJ, 1, .inr (.inl (fo))))]]) 1240 [(0, .ref b), (1, .ref x0a), (2, .ref b0), (3, .ref ao), (4, .int (nI (5 * j)))] [] := by
  obtain ⟨hO, hE, hK, hcn, hod, hln, hT⟩ := hLI
  have hS := hO.si
  have hB2 : B < 2 ^ 29 := by omega
  refine sw_aload_n 1240 1 C dL_law_1240 rfl rfl ?_
  refine sg_callVI 1241 [0, 1] 0 0 [_, _] C dL_law_1241 (ct_X6_firstToExpire l hS) wK_X6_firstToExpire wM_L_150 wN_X6_firstToExpire wS_X6_X6_firstToExpire wI_X6 hd_X6_firstToExpire rfl rfl rfl ⟨rfl, rfl⟩ ⟨by show _ ≤ 601024; omega, by show _ ≤ 7293034; omega⟩ rfl rfl rfl rfl rfl rfl ?_
  refine sg_segs [_, _, _, _, _, _, _, _, _, _, _, _] rfl ?_
  refine sw_aload_n 1244 2 C dL_law_1244 rfl rfl ?_
  refine sg_callVI 1245 [10] 0 0 [_] C dL_law_1245 (ct_X7_firstToExpire l hE hO) wK_X7_firstToExpire wM_L_153 wN_X7_firstToExpire wS_X7_X7_firstToExpire wI_X7 hd_X7_firstToExpire rfl rfl rfl ⟨rfl, rfl⟩ ⟨by show _ ≤ 601024; omega, by show _ ≤ 7293034; omega⟩ rfl rfl rfl rfl rfl rfl ?_
  refine sg_segs [_, _, _, _, _, _, _, _, _, _, _, _] rfl ?_
  refine sw_icmp_eq 1248 1546 C dL_law_1248 (by decide) (fun c_1248 => ?_) (fun c_1248 => ?_)
  rotate_left
  · exact by first | exact absurd c_1248 (rfl) | exact absurd (rfl) c_1248
  exact sw_loc (sw_widen (by omega) (by omega) (hk (S) (T) (R) (cn) (od) (ln) (by_) (g) (sa) (pa) (ad) (tx) (nb) (X) (0) (ap) (hh) (fo) (LI.up ⟨hO, hE, hK, hcn, hod, hln, hT⟩))) rfl
set_option maxHeartbeats 8000000 in
set_option maxRecDepth 100000 in
theorem lo_clearText {l : Launch} (hfl : l.stackTraces = false) {p : Program} {e : Env} {s : State} {m : MethodId} {below : List Frame} {meth : Method} {c : Code} {A : Nat → Prop} {D : va_G} {cI cJ cQ : ClassId} {Q : State → Prop} {b LL : Nat} {xs : Nat → Int32} (C : CC p s m #[.ref b] c cL_law 9 RL (Cond.initialized RL :: lw_all) D (tyz cI cJ cQ) A s.heap) (hz : xZ A s) (hC : xC s) (hX : va_X b LL xs s s.heap) (hbl : b < s.heap.size) (hbA : ¬ A b) (hLL : LL ≤ 2560) {x0a a0 a1 a2 a3 a4 a5 a6 a7 tr0 tr1 tr2 tr3 tr4 tr5 tr6 tr7 s0 s1 ra0 ra1 ra2 ra3 ra4 ra5 ra6 ra7 rb0 rb1 rb2 rb3 rb4 rb5 rb6 rb7 rc0 rc1 rc2 rc3 rc4 rc5 rc6 rc7 rd0 rd1 rd2 rd3 rd4 rd5 rd6 rd7 r0 t0 t1 w0 b0 b1 b2 b3 b4 b5 ao : Nat} {h : Nat → Option Nat} (hh0 : h 0 = some ra0) (hh1 : h 1 = some rb0) (hh2 : h 2 = some rc0) (hh3 : h 3 = some rd0) {S T : StT} {R : Nat → StT} {cn od ln : Nat} {by_ g sa pa ad tx nb : Nat → Int32} {X : RS} {th ap : Int32} {hh : Int64} {fo : Nat → Int64} {B j k n : Nat} (hB : B < 100000) (hj : 5 * j + 5 ≤ LL) (hkR : k + 1 ≤ 601024) (hnR : n + 6 ≤ 7293034) (hLI : LI B S R cn od ln by_ sa pa tx) (hk : ∀ (S T : StT) (R : Nat → StT) (cn od ln : Nat) (by_ g sa pa ad tx nb : Nat → Int32) (X : RS) (th ap : Int32) (hh : Int64) (fo : Nat → Int64), LI (B + 100) S R cn od ln by_ sa pa tx → sw p l e room_1 s m #[.ref b] below meth c D A s.heap 9 (k + 1) (n + 6) Q (flatS [[(x0a, .inr (6, [.ref a0, .ref tr0, .ref s0, .ref r0, .ref w0]))], (wSt a0 a1 a2 a3 a4 a5 a6 a7 cI (S)), [(s0, .inr (3, [.int (nI (cn)), .int (nI (od)), .ref s1])), (s1, .inl (cQ, 4, .inr (.inr (.inr (.inr h)))))], (wSt ra0 ra1 ra2 ra3 ra4 ra5 ra6 ra7 cI ((R) 0)), (wSt rb0 rb1 rb2 rb3 rb4 rb5 rb6 rb7 cI ((R) 1)), (wSt rc0 rc1 rc2 rc3 rc4 rc5 rc6 rc7 cI ((R) 2)), (wSt rd0 rd1 rd2 rd3 rd4 rd5 rd6 rd7 cI ((R) 3)), (wSt tr0 tr1 tr2 tr3 tr4 tr5 tr6 tr7 cI (T)), (wRd r0 t0 t1 cI (ln) (by_) (X)), [(w0, .inl (cI, 40, .inl (g)))], [(b0, .inr (7, [.ref b1, .ref b2, .ref b3, .int (nI (cn)), .int (th), .ref b4, .int (nI (ln)), .int (ap), .ref b5, .long (hh)])), (b1, .inl (cI, 424, .inl (sa))), (b2, .inl (cI, 1696, .inl (pa))), (b3, .inl (cI, 424, .inl (ad))), (b4, .inl (cI, 100, .inl (tx))), (b5, .inl (cI, 4, .inl (nb)))], [(ao, .inl (cJ, 1, .inr (.inl (fo))))]]) 1546 [(0, .ref b), (1, .ref x0a), (2, .ref b0), (3, .ref ao), (4, .int (nI (5 * j)))] []) : sw p l e room_1 s m #[.ref b] below meth c D A s.heap 9 k n Q (flatS [[(x0a, .inr (6, [.ref a0, .ref tr0, .ref s0, .ref r0, .ref w0]))], (wSt a0 a1 a2 a3 a4 a5 a6 a7 cI (S)), [(s0, .inr (3, [.int (nI (cn)), .int (nI (od)), .ref s1])), (s1, .inl (cQ, 4, .inr (.inr (.inr (.inr h)))))], (wSt ra0 ra1 ra2 ra3 ra4 ra5 ra6 ra7 cI ((R) 0)), (wSt rb0 rb1 rb2 rb3 rb4 rb5 rb6 rb7 cI ((R) 1)), (wSt rc0 rc1 rc2 rc3 rc4 rc5 rc6 rc7 cI ((R) 2)), (wSt rd0 rd1 rd2 rd3 rd4 rd5 rd6 rd7 cI ((R) 3)), (wSt tr0 tr1 tr2 tr3 tr4 tr5 tr6 tr7 cI (T)), (wRd r0 t0 t1 cI (ln) (by_) (X)), [(w0, .inl (cI, 40, .inl (g)))], [(b0, .inr (7, [.ref b1, .ref b2, .ref b3, .int (nI (cn)), .int (th), .ref b4, .int (nI (ln)), .int (ap), .ref b5, .long (hh)])), (b1, .inl (cI, 424, .inl (sa))), (b2, .inl (cI, 1696, .inl (pa))), (b3, .inl (cI, 424, .inl (ad))), (b4, .inl (cI, 100, .inl (tx))), (b5, .inl (cI, 4, .inl (nb)))], [(ao, .inl (cJ, 1, .inr (.inl (fo))))]]) 1462 [(0, .ref b), (1, .ref x0a), (2, .ref b0), (3, .ref ao), (4, .int (nI (5 * j)))] [] := by
  obtain ⟨hO, hE, hK, hcn, hod, hln, hT⟩ := hLI
  have hS := hO.si
  have hB2 : B < 2 ^ 29 := by omega
  refine sw_aload_n 1462 1 C dL_law_1462 rfl rfl ?_
  refine sg_callVI 1463 [0, 8] 0 0 [_, _] C dL_law_1463 (ct_X6_clearText l) wK_X6_clearText wM_L_168 wN_X6_clearText wS_X6_X6_clearText wI_X6 hd_X6_clearText rfl rfl rfl ⟨rfl, rfl⟩ ⟨by show _ ≤ 601024; omega, by show _ ≤ 7293034; omega⟩ rfl rfl rfl rfl rfl rfl ?_
  refine sg_segs [_, _, _, _, _, _, _, _, _, _, _, _] rfl ?_
  refine sw_aload_n 1466 2 C dL_law_1466 rfl rfl ?_
  refine sg_callVI 1467 [10] 0 0 [_] C dL_law_1467 (ct_X7_clearText l) wK_X7_clearText wM_L_171 wN_X7_clearText wS_X7_X7_clearText wI_X7 hd_X7_clearText rfl rfl rfl ⟨rfl, rfl⟩ ⟨by show _ ≤ 601024; omega, by show _ ≤ 7293034; omega⟩ rfl rfl rfl rfl rfl rfl ?_
  refine sg_segs [_, _, _, _, _, _, _, _, _, _, _, _] rfl ?_
  refine sw_icmp_eq 1470 1546 C dL_law_1470 (by decide) (fun c_1470 => ?_) (fun c_1470 => ?_)
  rotate_left
  · exact by first | exact absurd c_1470 (rfl) | exact absurd (rfl) c_1470
  exact sw_loc (sw_widen (by omega) (by omega) (hk (S) (T) (R) (cn) (od) (0) (by_) (g) (sa) (pa) (ad) (tx) (nb) (X) (0) (ap) (hh) (fo) (LI.clr ⟨hO, hE, hK, hcn, hod, hln, hT⟩))) rfl
theorem fEr_re {by_ : Nat → Int32} {ln : Nat} {X Y : RS} (he : xe (fEr by_ ln 100 (X.1, 0, -1)) = -1) : xe (fEr by_ ln 100 (Y.1, 0, -1)) = -1 := by
  rw [fEr_fst 100 (X := (Y.1, 0, -1)) (Y := (X.1, 0, -1)) rfl]
  exact he
set_option maxHeartbeats 8000000 in
set_option maxRecDepth 100000 in
theorem lo_carryOut {l : Launch} (hfl : l.stackTraces = false) {p : Program} {e : Env} {s : State} {m : MethodId} {below : List Frame} {meth : Method} {c : Code} {A : Nat → Prop} {D : va_G} {cI cJ cQ : ClassId} {Q : State → Prop} {b LL : Nat} {xs : Nat → Int32} (C : CC p s m #[.ref b] c cL_law 9 RL (Cond.initialized RL :: lw_all) D (tyz cI cJ cQ) A s.heap) (hz : xZ A s) (hC : xC s) (hX : va_X b LL xs s s.heap) (hbl : b < s.heap.size) (hbA : ¬ A b) (hLL : LL ≤ 2560) {x0a a0 a1 a2 a3 a4 a5 a6 a7 tr0 tr1 tr2 tr3 tr4 tr5 tr6 tr7 s0 s1 ra0 ra1 ra2 ra3 ra4 ra5 ra6 ra7 rb0 rb1 rb2 rb3 rb4 rb5 rb6 rb7 rc0 rc1 rc2 rc3 rc4 rc5 rc6 rc7 rd0 rd1 rd2 rd3 rd4 rd5 rd6 rd7 r0 t0 t1 w0 b0 b1 b2 b3 b4 b5 ao : Nat} {h : Nat → Option Nat} (hh0 : h 0 = some ra0) (hh1 : h 1 = some rb0) (hh2 : h 2 = some rc0) (hh3 : h 3 = some rd0) {S T : StT} {R : Nat → StT} {cn od ln : Nat} {by_ g sa pa ad tx nb : Nat → Int32} {X : RS} {th ap : Int32} {hh : Int64} {fo : Nat → Int64} {B j k n : Nat} (hB : B < 100000) (hj : 5 * j + 5 ≤ LL) (hkR : k + 1 ≤ 601024) (hnR : n + 6 ≤ 7293034) (hLI : LI B S R cn od ln by_ sa pa tx) (hk : ∀ (S T : StT) (R : Nat → StT) (cn od ln : Nat) (by_ g sa pa ad tx nb : Nat → Int32) (X : RS) (th ap : Int32) (hh : Int64) (fo : Nat → Int64), LI (B + 100) S R cn od ln by_ sa pa tx → sw p l e room_1 s m #[.ref b] below meth c D A s.heap 9 (k + 1) (n + 6) Q (flatS [[(x0a, .inr (6, [.ref a0, .ref tr0, .ref s0, .ref r0, .ref w0]))], (wSt a0 a1 a2 a3 a4 a5 a6 a7 cI (S)), [(s0, .inr (3, [.int (nI (cn)), .int (nI (od)), .ref s1])), (s1, .inl (cQ, 4, .inr (.inr (.inr (.inr h)))))], (wSt ra0 ra1 ra2 ra3 ra4 ra5 ra6 ra7 cI ((R) 0)), (wSt rb0 rb1 rb2 rb3 rb4 rb5 rb6 rb7 cI ((R) 1)), (wSt rc0 rc1 rc2 rc3 rc4 rc5 rc6 rc7 cI ((R) 2)), (wSt rd0 rd1 rd2 rd3 rd4 rd5 rd6 rd7 cI ((R) 3)), (wSt tr0 tr1 tr2 tr3 tr4 tr5 tr6 tr7 cI (T)), (wRd r0 t0 t1 cI (ln) (by_) (X)), [(w0, .inl (cI, 40, .inl (g)))], [(b0, .inr (7, [.ref b1, .ref b2, .ref b3, .int (nI (cn)), .int (th), .ref b4, .int (nI (ln)), .int (ap), .ref b5, .long (hh)])), (b1, .inl (cI, 424, .inl (sa))), (b2, .inl (cI, 1696, .inl (pa))), (b3, .inl (cI, 424, .inl (ad))), (b4, .inl (cI, 100, .inl (tx))), (b5, .inl (cI, 4, .inl (nb)))], [(ao, .inl (cJ, 1, .inr (.inl (fo))))]]) 1546 [(0, .ref b), (1, .ref x0a), (2, .ref b0), (3, .ref ao), (4, .int (nI (5 * j)))] []) : sw p l e room_1 s m #[.ref b] below meth c D A s.heap 9 k n Q (flatS [[(x0a, .inr (6, [.ref a0, .ref tr0, .ref s0, .ref r0, .ref w0]))], (wSt a0 a1 a2 a3 a4 a5 a6 a7 cI (S)), [(s0, .inr (3, [.int (nI (cn)), .int (nI (od)), .ref s1])), (s1, .inl (cQ, 4, .inr (.inr (.inr (.inr h)))))], (wSt ra0 ra1 ra2 ra3 ra4 ra5 ra6 ra7 cI ((R) 0)), (wSt rb0 rb1 rb2 rb3 rb4 rb5 rb6 rb7 cI ((R) 1)), (wSt rc0 rc1 rc2 rc3 rc4 rc5 rc6 rc7 cI ((R) 2)), (wSt rd0 rd1 rd2 rd3 rd4 rd5 rd6 rd7 cI ((R) 3)), (wSt tr0 tr1 tr2 tr3 tr4 tr5 tr6 tr7 cI (T)), (wRd r0 t0 t1 cI (ln) (by_) (X)), [(w0, .inl (cI, 40, .inl (g)))], [(b0, .inr (7, [.ref b1, .ref b2, .ref b3, .int (nI (cn)), .int (th), .ref b4, .int (nI (ln)), .int (ap), .ref b5, .long (hh)])), (b1, .inl (cI, 424, .inl (sa))), (b2, .inl (cI, 1696, .inl (pa))), (b3, .inl (cI, 424, .inl (ad))), (b4, .inl (cI, 100, .inl (tx))), (b5, .inl (cI, 4, .inl (nb)))], [(ao, .inl (cJ, 1, .inr (.inl (fo))))]]) 1475 [(0, .ref b), (1, .ref x0a), (2, .ref b0), (3, .ref ao), (4, .int (nI (5 * j)))] [] := by
  obtain ⟨hO, hE, hK, hcn, hod, hln, hT⟩ := hLI
  have hS := hO.si
  have hB2 : B < 2 ^ 29 := by omega
  by_cases he : xe (fEr by_ ln 100 (X.1, 0, -1)) = -1
  · refine sw_aload_n 1475 1 C dL_law_1475 rfl rfl ?_
    refine sg_callVI 1476 [0, 1, 2, 3, 4, 5, 6, 8] 0 0 [_, _, _, _, _, _, _, _] C dL_law_1476 (ct_X6_carryOut l hS hcn hod hh0 hh1 hh2 hh3 hln (fun Y S h1 h2 => SI_cdo Y S h1 h2) he (tkO_of hln 100 (X.1, 0, -1) he)) wK_X6_carryOut wM_L_172 wN_X6_carryOut wS_X6_X6_carryOut wI_X6 hd_X6_carryOut rfl rfl rfl ⟨rfl, rfl⟩ ⟨by show _ ≤ 601024; omega, by show _ ≤ 7293034; omega⟩ rfl rfl rfl rfl rfl rfl ?_
    refine sg_segs [_, _, _, _, _, _, _, _, _, _, _, _] rfl ?_
    refine sw_aload_n 1479 2 C dL_law_1479 rfl rfl ?_
    refine xg_callG 1480 [10] 0 0 C dL_law_1480 (ct_X7_carryOut l hE hO hK hcn hod hB2 hT hln he) wK_X7_carryOut wM_L_175 wN_X7_carryOut wS_X7_X7_carryOut wI_X7 hd_X7_carryOut rfl rfl rfl ⟨rfl, rfl⟩ ⟨by show _ ≤ 601024; omega, by show _ ≤ 7293034; omega⟩ rfl rfl rfl rfl (fun v_1480 w_1480 h_1480 => ?_)
    obtain ⟨rfl, f1, h1, rfl⟩ := h_1480
    refine ⟨[_], rfl, rfl, ?_⟩
    refine sw_st (_ :: _) rfl ?_
    refine sg_segs [_, _, _, _, _, _, _, _, _, _, _, _] rfl ?_
    refine sw_icmp_eq 1483 1546 C dL_law_1483 (by decide) (fun c_1483 => ?_) (fun c_1483 => ?_)
    rotate_left
    · exact by first | exact absurd c_1483 (rfl) | exact absurd (rfl) c_1483
    exact sw_loc (sw_widen (by omega) (by omega) (hk ((cru by_ ln 100 0 ((fEr by_ ln 100 (X.1, 0, -1)).1, 0, -1) S).2.1) (T) (va_up R (svI cn od) S) (svC cn) (svO cn od) (ln) (by_) (g) (f1.1) (f1.2.1) (ad) (tx) (f1.2.2.1) ((cru by_ ln 100 0 ((fEr by_ ln 100 (X.1, 0, -1)).1, 0, -1) S).2.2) (0) (f1.2.2.2) (hh) (fo) (LI.mut ⟨hO, hE, hK, hcn, hod, hln, hT⟩ (mO_cru hln 100 0 B _ S (fEr_re he) hO (by omega)) h1))) rfl
  · refine sw_aload_n 1475 1 C dL_law_1475 rfl rfl ?_
    refine sg_callVI 1476 [0, 1, 2, 3, 4, 5, 6, 8] 0 0 [_, _, _, _, _, _, _, _] C dL_law_1476 (ct_X6_carryOut_2 l hS hcn hod hh0 hh1 hh2 hh3 hln he) wK_X6_carryOut wM_L_172 wN_X6_carryOut wS_X6_X6_carryOut wI_X6 hd_X6_carryOut rfl rfl rfl ⟨rfl, rfl⟩ ⟨by show _ ≤ 601024; omega, by show _ ≤ 7293034; omega⟩ rfl rfl rfl rfl rfl rfl ?_
    refine sg_segs [_, _, _, _, _, _, _, _, _, _, _, _] rfl ?_
    refine sw_aload_n 1479 2 C dL_law_1479 rfl rfl ?_
    refine xg_callG 1480 [10] 0 0 C dL_law_1480 (ct_X7_carryOut_2 l hT hln he) wK_X7_carryOut wM_L_175 wN_X7_carryOut wS_X7_X7_carryOut wI_X7 hd_X7_carryOut rfl rfl rfl ⟨rfl, rfl⟩ ⟨by show _ ≤ 601024; omega, by show _ ≤ 7293034; omega⟩ rfl rfl rfl rfl (fun v_1480 w_1480 h_1480 => ?_)
    obtain ⟨rfl, f1, h1, rfl⟩ := h_1480
    refine ⟨[_], rfl, rfl, ?_⟩
    refine sw_st (_ :: _) rfl ?_
    refine sg_segs [_, _, _, _, _, _, _, _, _, _, _, _] rfl ?_
    refine sw_icmp_eq 1483 1546 C dL_law_1483 (by decide) (fun c_1483 => ?_) (fun c_1483 => ?_)
    rotate_left
    · exact by first | exact absurd c_1483 (rfl) | exact absurd (rfl) c_1483
    exact sw_loc (sw_widen (by omega) (by omega) (hk (S) (T) (R) (cn) (od) (ln) (by_) (g) (sa) (pa) (ad) (tx) (f1.1) (fEr by_ ln 100 (X.1, 0, -1)) (0) (f1.2) (hh) (fo) (LI.up ⟨hO, hE, hK, hcn, hod, hln, hT⟩))) rfl
theorem lcmp_eq {x y : Int64} (h : x = y) : lg_cmp x y = 0 := by
  rw [h]
  exact lcmp_self y
set_option maxHeartbeats 8000000 in
set_option maxRecDepth 100000 in
theorem lo_digest {l : Launch} (hfl : l.stackTraces = false) {p : Program} {e : Env} {s : State} {m : MethodId} {below : List Frame} {meth : Method} {c : Code} {A : Nat → Prop} {D : va_G} {cI cJ cQ : ClassId} {Q : State → Prop} {b LL : Nat} {xs : Nat → Int32} (C : CC p s m #[.ref b] c cL_law 9 RL (Cond.initialized RL :: lw_all) D (tyz cI cJ cQ) A s.heap) (hz : xZ A s) (hC : xC s) (hX : va_X b LL xs s s.heap) (hbl : b < s.heap.size) (hbA : ¬ A b) (hLL : LL ≤ 2560) {x0a a0 a1 a2 a3 a4 a5 a6 a7 tr0 tr1 tr2 tr3 tr4 tr5 tr6 tr7 s0 s1 ra0 ra1 ra2 ra3 ra4 ra5 ra6 ra7 rb0 rb1 rb2 rb3 rb4 rb5 rb6 rb7 rc0 rc1 rc2 rc3 rc4 rc5 rc6 rc7 rd0 rd1 rd2 rd3 rd4 rd5 rd6 rd7 r0 t0 t1 w0 b0 b1 b2 b3 b4 b5 ao : Nat} {h : Nat → Option Nat} (hh0 : h 0 = some ra0) (hh1 : h 1 = some rb0) (hh2 : h 2 = some rc0) (hh3 : h 3 = some rd0) {S T : StT} {R : Nat → StT} {cn od ln : Nat} {by_ g sa pa ad tx nb : Nat → Int32} {X : RS} {th ap : Int32} {hh : Int64} {fo : Nat → Int64} {B j k n : Nat} (hB : B < 100000) (hj : 5 * j + 5 ≤ LL) (hkR : k + 1 ≤ 601024) (hnR : n + 6 ≤ 7293034) (hLI : LI B S R cn od ln by_ sa pa tx) (hk : ∀ (S T : StT) (R : Nat → StT) (cn od ln : Nat) (by_ g sa pa ad tx nb : Nat → Int32) (X : RS) (th ap : Int32) (hh : Int64) (fo : Nat → Int64), LI (B + 100) S R cn od ln by_ sa pa tx → sw p l e room_1 s m #[.ref b] below meth c D A s.heap 9 (k + 1) (n + 6) Q (flatS [[(x0a, .inr (6, [.ref a0, .ref tr0, .ref s0, .ref r0, .ref w0]))], (wSt a0 a1 a2 a3 a4 a5 a6 a7 cI (S)), [(s0, .inr (3, [.int (nI (cn)), .int (nI (od)), .ref s1])), (s1, .inl (cQ, 4, .inr (.inr (.inr (.inr h)))))], (wSt ra0 ra1 ra2 ra3 ra4 ra5 ra6 ra7 cI ((R) 0)), (wSt rb0 rb1 rb2 rb3 rb4 rb5 rb6 rb7 cI ((R) 1)), (wSt rc0 rc1 rc2 rc3 rc4 rc5 rc6 rc7 cI ((R) 2)), (wSt rd0 rd1 rd2 rd3 rd4 rd5 rd6 rd7 cI ((R) 3)), (wSt tr0 tr1 tr2 tr3 tr4 tr5 tr6 tr7 cI (T)), (wRd r0 t0 t1 cI (ln) (by_) (X)), [(w0, .inl (cI, 40, .inl (g)))], [(b0, .inr (7, [.ref b1, .ref b2, .ref b3, .int (nI (cn)), .int (th), .ref b4, .int (nI (ln)), .int (ap), .ref b5, .long (hh)])), (b1, .inl (cI, 424, .inl (sa))), (b2, .inl (cI, 1696, .inl (pa))), (b3, .inl (cI, 424, .inl (ad))), (b4, .inl (cI, 100, .inl (tx))), (b5, .inl (cI, 4, .inl (nb)))], [(ao, .inl (cJ, 1, .inr (.inl (fo))))]]) 1546 [(0, .ref b), (1, .ref x0a), (2, .ref b0), (3, .ref ao), (4, .int (nI (5 * j)))] []) : sw p l e room_1 s m #[.ref b] below meth c D A s.heap 9 k n Q (flatS [[(x0a, .inr (6, [.ref a0, .ref tr0, .ref s0, .ref r0, .ref w0]))], (wSt a0 a1 a2 a3 a4 a5 a6 a7 cI (S)), [(s0, .inr (3, [.int (nI (cn)), .int (nI (od)), .ref s1])), (s1, .inl (cQ, 4, .inr (.inr (.inr (.inr h)))))], (wSt ra0 ra1 ra2 ra3 ra4 ra5 ra6 ra7 cI ((R) 0)), (wSt rb0 rb1 rb2 rb3 rb4 rb5 rb6 rb7 cI ((R) 1)), (wSt rc0 rc1 rc2 rc3 rc4 rc5 rc6 rc7 cI ((R) 2)), (wSt rd0 rd1 rd2 rd3 rd4 rd5 rd6 rd7 cI ((R) 3)), (wSt tr0 tr1 tr2 tr3 tr4 tr5 tr6 tr7 cI (T)), (wRd r0 t0 t1 cI (ln) (by_) (X)), [(w0, .inl (cI, 40, .inl (g)))], [(b0, .inr (7, [.ref b1, .ref b2, .ref b3, .int (nI (cn)), .int (th), .ref b4, .int (nI (ln)), .int (ap), .ref b5, .long (hh)])), (b1, .inl (cI, 424, .inl (sa))), (b2, .inl (cI, 1696, .inl (pa))), (b3, .inl (cI, 424, .inl (ad))), (b4, .inl (cI, 100, .inl (tx))), (b5, .inl (cI, 4, .inl (nb)))], [(ao, .inl (cJ, 1, .inr (.inl (fo))))]]) 1532 [(0, .ref b), (1, .ref x0a), (2, .ref b0), (3, .ref ao), (4, .int (nI (5 * j)))] [] := by
  obtain ⟨hO, hE, hK, hcn, hod, hln, hT⟩ := hLI
  have hS := hO.si
  have hB2 : B < 2 ^ 29 := by omega
  refine sw_aload_n 1532 1 C dL_law_1532 rfl rfl ?_
  refine sg_callVL 1533 [0, 1, 9, 2, 8] 0 0 [_, _, _, _, _] C dL_law_1533 (ct_X6_digest l (orf := odF (zf S) (zn S) g) hS (fun i hi => ⟨(odF_ok hO.num hO.row hS.1 g i hi).1, (odF_ok hO.num hO.row hS.1 g i hi).2.1⟩)) wK_X6_digest wM_L_179 wN_X6_digest wS_X6_X6_digest wI_X6 hd_X6_digest rfl rfl rfl ⟨rfl, rfl⟩ ⟨by show _ ≤ 601024; omega, by show _ ≤ 7293034; omega⟩ rfl rfl rfl rfl rfl rfl ?_
  refine sg_segs [_, _, _, _, _, _, _, _, _, _, _, _] rfl ?_
  refine sw_aload_n 1536 2 C dL_law_1536 rfl rfl ?_
  refine sg_callVL 1537 [10] 0 0 [_] C dL_law_1537 (ct_X7_digest l hE hO (od := odF (zf S) (zn S) g) (fun i hi => (odF_ok hO.num hO.row hS.1 g i hi).2)) wK_X7_digest wM_L_183 wN_X7_digest wS_X7_X7_digest wI_X7 hd_X7_digest rfl rfl rfl ⟨rfl, rfl⟩ ⟨by show _ ≤ 601024; omega, by show _ ≤ 7293034; omega⟩ rfl rfl rfl rfl rfl rfl ?_
  refine sg_segs [_, _, _, _, _, _, _, _, _, _, _, _] rfl ?_
  refine sw_lcmp 1540 C dL_law_1540 ?_
  refine sw_if_eq 1541 1546 C dL_law_1541 (by decide) (fun c_1541 => ?_) (fun c_1541 => ?_)
  rotate_left
  · exact by first | exact absurd c_1541 (lcmp_eq (congrArg (fun z => 31 * z + (nI cn).toInt64) (dgL_flat _))) | exact absurd (lcmp_eq (congrArg (fun z => 31 * z + (nI cn).toInt64) (dgL_flat _))) c_1541
  exact sw_loc (sw_widen (by omega) (by omega) (hk (S) (T) (R) (cn) (od) (ln) (by_) (arrg (zf S) (zn S) g (zn S)) (sa) (pa) (ad) (tx) (nb) (X) (0) (ap) ((31 * dgF (zlg S) (dgP (zf S) (zn S) (odF (zf S) (zn S) g) (dgF (zbk S) (dgF (zpat S) (dgF (fig (zq S) (zg S) (zv S) (zt S) (zp S) (zk S) (zn S) (zl S) (zf S) (zlv S) (zbk S)) (31 * 3659 + (nI ln).toInt64) 14) 4) 8) (zn S)) (zl S * 5) + (nI cn).toInt64)) (fo) (LI.up ⟨hO, hE, hK, hcn, hod, hln, hT⟩))) rfl
set_option maxHeartbeats 8000000 in
set_option maxRecDepth 100000 in
theorem lo_meanWait {l : Launch} (hfl : l.stackTraces = false) {p : Program} {e : Env} {s : State} {m : MethodId} {below : List Frame} {meth : Method} {c : Code} {A : Nat → Prop} {D : va_G} {cI cJ cQ : ClassId} {Q : State → Prop} {b LL : Nat} {xs : Nat → Int32} (C : CC p s m #[.ref b] c cL_law 9 RL (Cond.initialized RL :: lw_all) D (tyz cI cJ cQ) A s.heap) (hz : xZ A s) (hC : xC s) (hX : va_X b LL xs s s.heap) (hbl : b < s.heap.size) (hbA : ¬ A b) (hLL : LL ≤ 2560) {x0a a0 a1 a2 a3 a4 a5 a6 a7 tr0 tr1 tr2 tr3 tr4 tr5 tr6 tr7 s0 s1 ra0 ra1 ra2 ra3 ra4 ra5 ra6 ra7 rb0 rb1 rb2 rb3 rb4 rb5 rb6 rb7 rc0 rc1 rc2 rc3 rc4 rc5 rc6 rc7 rd0 rd1 rd2 rd3 rd4 rd5 rd6 rd7 r0 t0 t1 w0 b0 b1 b2 b3 b4 b5 ao : Nat} {h : Nat → Option Nat} (hh0 : h 0 = some ra0) (hh1 : h 1 = some rb0) (hh2 : h 2 = some rc0) (hh3 : h 3 = some rd0) {S T : StT} {R : Nat → StT} {cn od ln : Nat} {by_ g sa pa ad tx nb : Nat → Int32} {X : RS} {th ap : Int32} {hh : Int64} {fo : Nat → Int64} {B j k n : Nat} (hB : B < 100000) (hj : 5 * j + 5 ≤ LL) (hkR : k + 1 ≤ 601024) (hnR : n + 6 ≤ 7293034) (hLI : LI B S R cn od ln by_ sa pa tx) (hk : ∀ (S T : StT) (R : Nat → StT) (cn od ln : Nat) (by_ g sa pa ad tx nb : Nat → Int32) (X : RS) (th ap : Int32) (hh : Int64) (fo : Nat → Int64), LI (B + 100) S R cn od ln by_ sa pa tx → sw p l e room_1 s m #[.ref b] below meth c D A s.heap 9 (k + 1) (n + 6) Q (flatS [[(x0a, .inr (6, [.ref a0, .ref tr0, .ref s0, .ref r0, .ref w0]))], (wSt a0 a1 a2 a3 a4 a5 a6 a7 cI (S)), [(s0, .inr (3, [.int (nI (cn)), .int (nI (od)), .ref s1])), (s1, .inl (cQ, 4, .inr (.inr (.inr (.inr h)))))], (wSt ra0 ra1 ra2 ra3 ra4 ra5 ra6 ra7 cI ((R) 0)), (wSt rb0 rb1 rb2 rb3 rb4 rb5 rb6 rb7 cI ((R) 1)), (wSt rc0 rc1 rc2 rc3 rc4 rc5 rc6 rc7 cI ((R) 2)), (wSt rd0 rd1 rd2 rd3 rd4 rd5 rd6 rd7 cI ((R) 3)), (wSt tr0 tr1 tr2 tr3 tr4 tr5 tr6 tr7 cI (T)), (wRd r0 t0 t1 cI (ln) (by_) (X)), [(w0, .inl (cI, 40, .inl (g)))], [(b0, .inr (7, [.ref b1, .ref b2, .ref b3, .int (nI (cn)), .int (th), .ref b4, .int (nI (ln)), .int (ap), .ref b5, .long (hh)])), (b1, .inl (cI, 424, .inl (sa))), (b2, .inl (cI, 1696, .inl (pa))), (b3, .inl (cI, 424, .inl (ad))), (b4, .inl (cI, 100, .inl (tx))), (b5, .inl (cI, 4, .inl (nb)))], [(ao, .inl (cJ, 1, .inr (.inl (fo))))]]) 1546 [(0, .ref b), (1, .ref x0a), (2, .ref b0), (3, .ref ao), (4, .int (nI (5 * j)))] []) : sw p l e room_1 s m #[.ref b] below meth c D A s.heap 9 k n Q (flatS [[(x0a, .inr (6, [.ref a0, .ref tr0, .ref s0, .ref r0, .ref w0]))], (wSt a0 a1 a2 a3 a4 a5 a6 a7 cI (S)), [(s0, .inr (3, [.int (nI (cn)), .int (nI (od)), .ref s1])), (s1, .inl (cQ, 4, .inr (.inr (.inr (.inr h)))))], (wSt ra0 ra1 ra2 ra3 ra4 ra5 ra6 ra7 cI ((R) 0)), (wSt rb0 rb1 rb2 rb3 rb4 rb5 rb6 rb7 cI ((R) 1)), (wSt rc0 rc1 rc2 rc3 rc4 rc5 rc6 rc7 cI ((R) 2)), (wSt rd0 rd1 rd2 rd3 rd4 rd5 rd6 rd7 cI ((R) 3)), (wSt tr0 tr1 tr2 tr3 tr4 tr5 tr6 tr7 cI (T)), (wRd r0 t0 t1 cI (ln) (by_) (X)), [(w0, .inl (cI, 40, .inl (g)))], [(b0, .inr (7, [.ref b1, .ref b2, .ref b3, .int (nI (cn)), .int (th), .ref b4, .int (nI (ln)), .int (ap), .ref b5, .long (hh)])), (b1, .inl (cI, 424, .inl (sa))), (b2, .inl (cI, 1696, .inl (pa))), (b3, .inl (cI, 424, .inl (ad))), (b4, .inl (cI, 100, .inl (tx))), (b5, .inl (cI, 4, .inl (nb)))], [(ao, .inl (cJ, 1, .inr (.inl (fo))))]]) 1365 [(0, .ref b), (1, .ref x0a), (2, .ref b0), (3, .ref ao), (4, .int (nI (5 * j)))] [] := by
  obtain ⟨hO, hE, hK, hcn, hod, hln, hT⟩ := hLI
  have hS := hO.si
  have hB2 : B < 2 ^ 29 := by omega
  refine sw_aload_n 1365 1 C dL_law_1365 rfl rfl ?_
  refine xg_callG 1366 [0, 1] 0 0 C dL_law_1366 (ct_X6_meanWait l) wK_X6_meanWait wM_L_160 wN_X6_meanWait wS_X6_X6_meanWait wI_X6 hd_X6_meanWait rfl rfl rfl ⟨rfl, rfl⟩ ⟨by show _ ≤ 601024; omega, by show _ ≤ 7293034; omega⟩ rfl rfl rfl rfl (fun v_1366 w_1366 h_1366 => ?_)
  obtain ⟨rfl, rfl⟩ := h_1366
  refine ⟨[_, _], rfl, rfl, ?_⟩
  refine sw_st (_ :: _) rfl ?_
  refine sg_segs [_, _, _, _, _, _, _, _, _, _, _, _] rfl ?_
  refine sw_dstore 1369 C dL_law_1369 rfl ?_
  refine sw_aload_n 1371 2 C dL_law_1371 rfl rfl ?_
  refine xg_callG 1372 [10] 0 0 C dL_law_1372 (ct_X7_meanWait l hE hS) wK_X7_meanWait wM_L_164 wN_X7_meanWait wS_X7_X7_meanWait wI_X7 hd_X7_meanWait rfl rfl rfl ⟨rfl, rfl⟩ ⟨by show _ ≤ 601024; omega, by show _ ≤ 7293034; omega⟩ rfl rfl rfl rfl (fun v_1372 w_1372 h_1372 => ?_)
  obtain ⟨rfl, rfl⟩ := h_1372
  refine ⟨[_], rfl, rfl, ?_⟩
  refine sw_st (_ :: _) rfl ?_
  refine sg_segs [_, _, _, _, _, _, _, _, _, _, _, _] rfl ?_
  refine sw_dstore 1375 C dL_law_1375 rfl ?_
  refine sw_loc (L1 := [(0, .ref _), (1, .ref _), (2, .ref _), (3, .ref _), (4, .int _), (5, .double _), (7, .double _)]) ?_ rfl
  refine sw_dload 1377 C dL_law_1377 rfl ?_
  refine sw_dload 1379 C dL_law_1379 rfl ?_
  refine sw_dcmp 1381 C dL_law_1381 ?_
  refine sw_if_eq 1382 1403 C dL_law_1382 (by decide) (fun c_1382 => ?_) (fun c_1382 => ?_)
  rotate_left
  · exact by first | exact absurd c_1382 (dcv_eq (mwS_eq S)) | exact absurd (dcv_eq (mwS_eq S)) c_1382
  refine sw_goto 1403 1546 C dL_law_1403 (by decide) ?_
  exact sw_loc (sw_widen (by omega) (by omega) (hk (S) (T) (R) (cn) (od) (ln) (by_) (g) (sa) (pa) (ad) (tx) (nb) (X) (0) (ap) (hh) (fo) (LI.up ⟨hO, hE, hK, hcn, hod, hln, hT⟩))) rfl
