set_option maxHeartbeats 8000000 in
set_option maxRecDepth 100000 in
theorem lo_setPatience {l : Launch} (hfl : l.stackTraces = false) {p : Program} {e : Env} {s : State} {m : MethodId} {below : List Frame} {meth : Method} {c : Code} {A : Nat → Prop} {D : va_G} {cI cJ cQ : ClassId} {Q : State → Prop} {b LL : Nat} {xs : Nat → Int32} (C : CC p s m #[.ref b] c cL_law 9 RL (Cond.initialized RL :: lw_all) D (tyz cI cJ cQ) A s.heap) (hz : xZ A s) (hC : xC s) (hX : va_X b LL xs s s.heap) (hbl : b < s.heap.size) (hbA : ¬ A b) (hLL : LL ≤ 2560) {x0a a0 a1 a2 a3 a4 a5 a6 a7 tr0 tr1 tr2 tr3 tr4 tr5 tr6 tr7 s0 s1 ra0 ra1 ra2 ra3 ra4 ra5 ra6 ra7 rb0 rb1 rb2 rb3 rb4 rb5 rb6 rb7 rc0 rc1 rc2 rc3 rc4 rc5 rc6 rc7 rd0 rd1 rd2 rd3 rd4 rd5 rd6 rd7 r0 t0 t1 w0 b0 b1 b2 b3 b4 b5 ao : Nat} {h : Nat → Option Nat} (hh0 : h 0 = some ra0) (hh1 : h 1 = some rb0) (hh2 : h 2 = some rc0) (hh3 : h 3 = some rd0) {S T : StT} {R : Nat → StT} {cn od ln : Nat} {by_ g sa pa ad tx nb : Nat → Int32} {X : RS} {th ap : Int32} {hh : Int64} {fo : Nat → Int64} {B j k n : Nat} (hB : B < 100000) (hj : 5 * j + 5 ≤ LL) (hkR : k + 1 ≤ 601024) (hnR : n + 6 ≤ 7293034) (hLI : LI B S R cn od ln by_ sa pa tx) (hk : ∀ (S T : StT) (R : Nat → StT) (cn od ln : Nat) (by_ g sa pa ad tx nb : Nat → Int32) (X : RS) (th ap : Int32) (hh : Int64) (fo : Nat → Int64), LI (B + 100) S R cn od ln by_ sa pa tx → sw p l e room_1 s m #[.ref b] below meth c D A s.heap 9 (k + 1) (n + 6) Q (flatS [[(x0a, .inr (6, [.ref a0, .ref tr0, .ref s0, .ref r0, .ref w0]))], (wSt a0 a1 a2 a3 a4 a5 a6 a7 cI (S)), [(s0, .inr (3, [.int (nI (cn)), .int (nI (od)), .ref s1])), (s1, .inl (cQ, 4, .inr (.inr (.inr (.inr h)))))], (wSt ra0 ra1 ra2 ra3 ra4 ra5 ra6 ra7 cI ((R) 0)), (wSt rb0 rb1 rb2 rb3 rb4 rb5 rb6 rb7 cI ((R) 1)), (wSt rc0 rc1 rc2 rc3 rc4 rc5 rc6 rc7 cI ((R) 2)), (wSt rd0 rd1 rd2 rd3 rd4 rd5 rd6 rd7 cI ((R) 3)), (wSt tr0 tr1 tr2 tr3 tr4 tr5 tr6 tr7 cI (T)), (wRd r0 t0 t1 cI (ln) (by_) (X)), [(w0, .inl (cI, 40, .inl (g)))], [(b0, .inr (7, [.ref b1, .ref b2, .ref b3, .int (nI (cn)), .int (th), .ref b4, .int (nI (ln)), .int (ap), .ref b5, .long (hh)])), (b1, .inl (cI, 424, .inl (sa))), (b2, .inl (cI, 1696, .inl (pa))), (b3, .inl (cI, 424, .inl (ad))), (b4, .inl (cI, 100, .inl (tx))), (b5, .inl (cI, 4, .inl (nb)))], [(ao, .inl (cJ, 1, .inr (.inl (fo))))]]) 1546 [(0, .ref b), (1, .ref x0a), (2, .ref b0), (3, .ref ao), (4, .int (nI (5 * j)))] []) : sw p l e room_1 s m #[.ref b] below meth c D A s.heap 9 k n Q (flatS [[(x0a, .inr (6, [.ref a0, .ref tr0, .ref s0, .ref r0, .ref w0]))], (wSt a0 a1 a2 a3 a4 a5 a6 a7 cI (S)), [(s0, .inr (3, [.int (nI (cn)), .int (nI (od)), .ref s1])), (s1, .inl (cQ, 4, .inr (.inr (.inr (.inr h)))))], (wSt ra0 ra1 ra2 ra3 ra4 ra5 ra6 ra7 cI ((R) 0)), (wSt rb0 rb1 rb2 rb3 rb4 rb5 rb6 rb7 cI ((R) 1)), (wSt rc0 rc1 rc2 rc3 rc4 rc5 rc6 rc7 cI ((R) 2)), (wSt rd0 rd1 rd2 rd3 rd4 rd5 rd6 rd7 cI ((R) 3)), (wSt tr0 tr1 tr2 tr3 tr4 tr5 tr6 tr7 cI (T)), (wRd r0 t0 t1 cI (ln) (by_) (X)), [(w0, .inl (cI, 40, .inl (g)))], [(b0, .inr (7, [.ref b1, .ref b2, .ref b3, .int (nI (cn)), .int (th), .ref b4, .int (nI (ln)), .int (ap), .ref b5, .long (hh)])), (b1, .inl (cI, 424, .inl (sa))), (b2, .inl (cI, 1696, .inl (pa))), (b3, .inl (cI, 424, .inl (ad))), (b4, .inl (cI, 100, .inl (tx))), (b5, .inl (cI, 4, .inl (nb)))], [(ao, .inl (cJ, 1, .inr (.inl (fo))))]]) 156 [(0, .ref b), (1, .ref x0a), (2, .ref b0), (3, .ref ao), (4, .int (nI (5 * j)))] [] := by
  obtain ⟨hO, hE, hK, hcn, hod, hln, hT⟩ := hLI
  have hS := hO.si
  have hB2 : B < 2 ^ 29 := by omega
  obtain ⟨x1, hx1⟩ : ∃ x, x = xs (5 * j + 1) := ⟨_, rfl⟩
  obtain ⟨x2, hx2⟩ : ∃ x, x = xs (5 * j + 2) := ⟨_, rfl⟩
  rcases bool3 (inR x1 0 3) (inR x2 1 50) with hc | hc | hc
  · refine sw_aload_n 156 1 C dL_law_156 rfl rfl ?_
    refine sw_aload_n 157 0 C dL_law_157 rfl rfl ?_
    refine sw_iload 158 C dL_law_158 rfl ?_
    refine sw_iconst 160 C dL_law_160 1 (by decide) ?_
    refine sw_iadd 161 C dL_law_161 ?_
    refine sw_sld 162 (5 * j + 1) C hX hbl hbA dL_law_162 (nI_add (5 * j) 1) (by omega) (by omega) ?_
    refine sw_top hx1.symm ?_
    refine sw_aload_n 163 0 C dL_law_163 rfl rfl ?_
    refine sw_iload 164 C dL_law_164 rfl ?_
    refine sw_iconst 166 C dL_law_166 2 (by decide) ?_
    refine sw_iadd 167 C dL_law_167 ?_
    refine sw_sld 168 (5 * j + 2) C hX hbl hbA dL_law_168 (nI_add (5 * j) 2) (by omega) (by omega) ?_
    refine sw_top hx2.symm ?_
    refine sw_aload_n 169 3 C dL_law_169 rfl rfl ?_
    refine xl_callSI 170 [0, 1, 11] 4 [_, _, _] C hz hC dL_law_170 (ct_L_setPatience_2 l hfl hc) wK_L_setPatience wM_L_89 wT_L_setPatience wI_L hd_L_setPatience rfl ⟨rfl, rfl⟩ ⟨by show _ ≤ 601024; omega, by show _ ≤ 7293034; omega⟩ rfl rfl rfl rfl rfl rfl ?_
    refine sg_segs [_, _, _, _, _, _, _, _, _, _, _, _] rfl ?_
    refine sw_istore 173 C dL_law_173 rfl ?_
    refine sw_aload_n 175 2 C dL_law_175 rfl rfl ?_
    refine sw_aload_n 176 0 C dL_law_176 rfl rfl ?_
    refine sw_iload 177 C dL_law_177 rfl ?_
    refine sw_iconst 179 C dL_law_179 1 (by decide) ?_
    refine sw_iadd 180 C dL_law_180 ?_
    refine sw_sld 181 (5 * j + 1) C hX hbl hbA dL_law_181 (nI_add (5 * j) 1) (by omega) (by omega) ?_
    refine sw_top hx1.symm ?_
    refine sw_aload_n 182 0 C dL_law_182 rfl rfl ?_
    refine sw_iload 183 C dL_law_183 rfl ?_
    refine sw_iconst 185 C dL_law_185 2 (by decide) ?_
    refine sw_iadd 186 C dL_law_186 ?_
    refine sw_sld 187 (5 * j + 2) C hX hbl hbA dL_law_187 (nI_add (5 * j) 2) (by omega) (by omega) ?_
    refine sw_top hx2.symm ?_
    refine sg_callVI 188 [10] 2 0 [_] C dL_law_188 (ct_X7_setPatience_2 l hc) wK_X7_setPatience wM_L_94 wN_X7_setPatience wS_X7_X7_setPatience wI_X7 hd_X7_setPatience rfl rfl rfl ⟨rfl, rfl⟩ ⟨by show _ ≤ 601024; omega, by show _ ≤ 7293034; omega⟩ rfl rfl rfl rfl rfl rfl ?_
    refine sg_segs [_, _, _, _, _, _, _, _, _, _, _, _] rfl ?_
    refine sw_istore 191 C dL_law_191 rfl ?_
    refine sw_loc (L1 := [(0, .ref _), (1, .ref _), (2, .ref _), (3, .ref _), (4, .int _), (5, .int _), (6, .int _)]) ?_ rfl
    refine sw_aload_n 193 2 C dL_law_193 rfl rfl ?_
    refine sg_callVIP 194 [10] 0 0 C dL_law_194 (ct_X7_thrown l) wK_X7_thrown wM_L_95 wN_X7_thrown wS_X7_X7_thrown wI_X7 hd_X7_thrown rfl rfl rfl ⟨rfl, rfl⟩ ⟨by show _ ≤ 601024; omega, by show _ ≤ 7293034; omega⟩ rfl rfl rfl rfl ?_
    refine sw_iload 197 C dL_law_197 rfl ?_
    refine sw_icmp_eq 199 204 C dL_law_199 (by decide) (fun c_199 => ?_) (fun c_199 => ?_)
    rotate_left
    · exact by first | exact absurd c_199 (rfl) | exact absurd (rfl) c_199
    refine sw_iload 204 C dL_law_204 rfl ?_
    refine sw_if_ne 206 221 C dL_law_206 (by decide) (fun c_206 => ?_) (fun c_206 => ?_)
    rotate_left
    · exact by first | exact absurd c_206 (by decide) | exact absurd (by decide) c_206
    refine sw_goto 221 1546 C dL_law_221 (by decide) ?_
    exact sw_loc (sw_widen (by omega) (by omega) (hk (S) (T) (R) (cn) (od) (ln) (by_) (g) (sa) (pa) (ad) (tx) (nb) (X) (1) (ap) (hh) (fo) (LI.up ⟨hO, hE, hK, hcn, hod, hln, hT⟩))) rfl
  · obtain ⟨r, hr0, h1⟩ := inR_ex (b := 3) (by decide) hc.1
    have hr : r < 4 := by omega
    refine sw_aload_n 156 1 C dL_law_156 rfl rfl ?_
    refine sw_aload_n 157 0 C dL_law_157 rfl rfl ?_
    refine sw_iload 158 C dL_law_158 rfl ?_
    refine sw_iconst 160 C dL_law_160 1 (by decide) ?_
    refine sw_iadd 161 C dL_law_161 ?_
    refine sw_sld 162 (5 * j + 1) C hX hbl hbA dL_law_162 (nI_add (5 * j) 1) (by omega) (by omega) ?_
    refine sw_top hx1.symm ?_
    refine sw_aload_n 163 0 C dL_law_163 rfl rfl ?_
    refine sw_iload 164 C dL_law_164 rfl ?_
    refine sw_iconst 166 C dL_law_166 2 (by decide) ?_
    refine sw_iadd 167 C dL_law_167 ?_
    refine sw_sld 168 (5 * j + 2) C hX hbl hbA dL_law_168 (nI_add (5 * j) 2) (by omega) (by omega) ?_
    refine sw_top hx2.symm ?_
    refine sw_aload_n 169 3 C dL_law_169 rfl rfl ?_
    refine xl_callSI 170 [0, 1, 11] 4 [_, _, _] C hz hC dL_law_170 (ct_L_setPatience_3 l hfl r h1 hr hc.2) wK_L_setPatience wM_L_89 wT_L_setPatience wI_L hd_L_setPatience rfl ⟨rfl, rfl⟩ ⟨by show _ ≤ 601024; omega, by show _ ≤ 7293034; omega⟩ rfl rfl rfl rfl rfl rfl ?_
    refine sg_segs [_, _, _, _, _, _, _, _, _, _, _, _] rfl ?_
    refine sw_istore 173 C dL_law_173 rfl ?_
    refine sw_aload_n 175 2 C dL_law_175 rfl rfl ?_
    refine sw_aload_n 176 0 C dL_law_176 rfl rfl ?_
    refine sw_iload 177 C dL_law_177 rfl ?_
    refine sw_iconst 179 C dL_law_179 1 (by decide) ?_
    refine sw_iadd 180 C dL_law_180 ?_
    refine sw_sld 181 (5 * j + 1) C hX hbl hbA dL_law_181 (nI_add (5 * j) 1) (by omega) (by omega) ?_
    refine sw_top hx1.symm ?_
    refine sw_aload_n 182 0 C dL_law_182 rfl rfl ?_
    refine sw_iload 183 C dL_law_183 rfl ?_
    refine sw_iconst 185 C dL_law_185 2 (by decide) ?_
    refine sw_iadd 186 C dL_law_186 ?_
    refine sw_sld 187 (5 * j + 2) C hX hbl hbA dL_law_187 (nI_add (5 * j) 2) (by omega) (by omega) ?_
    refine sw_top hx2.symm ?_
    refine sg_callVI 188 [10] 2 0 [_] C dL_law_188 (ct_X7_setPatience_3 l hc.1 hc.2) wK_X7_setPatience wM_L_94 wN_X7_setPatience wS_X7_X7_setPatience wI_X7 hd_X7_setPatience rfl rfl rfl ⟨rfl, rfl⟩ ⟨by show _ ≤ 601024; omega, by show _ ≤ 7293034; omega⟩ rfl rfl rfl rfl rfl rfl ?_
    refine sg_segs [_, _, _, _, _, _, _, _, _, _, _, _] rfl ?_
    refine sw_istore 191 C dL_law_191 rfl ?_
    refine sw_loc (L1 := [(0, .ref _), (1, .ref _), (2, .ref _), (3, .ref _), (4, .int _), (5, .int _), (6, .int _)]) ?_ rfl
    refine sw_aload_n 193 2 C dL_law_193 rfl rfl ?_
    refine sg_callVIP 194 [10] 0 0 C dL_law_194 (ct_X7_thrown l) wK_X7_thrown wM_L_95 wN_X7_thrown wS_X7_X7_thrown wI_X7 hd_X7_thrown rfl rfl rfl ⟨rfl, rfl⟩ ⟨by show _ ≤ 601024; omega, by show _ ≤ 7293034; omega⟩ rfl rfl rfl rfl ?_
    refine sw_iload 197 C dL_law_197 rfl ?_
    refine sw_icmp_eq 199 204 C dL_law_199 (by decide) (fun c_199 => ?_) (fun c_199 => ?_)
    rotate_left
    · exact by first | exact absurd c_199 (rfl) | exact absurd (rfl) c_199
    refine sw_iload 204 C dL_law_204 rfl ?_
    refine sw_if_ne 206 221 C dL_law_206 (by decide) (fun c_206 => ?_) (fun c_206 => ?_)
    rotate_left
    · exact by first | exact absurd c_206 (by decide) | exact absurd (by decide) c_206
    refine sw_goto 221 1546 C dL_law_221 (by decide) ?_
    exact sw_loc (sw_widen (by omega) (by omega) (hk (S) (T) (R) (cn) (od) (ln) (by_) (g) (sa) (pa) (ad) (tx) (nb) (X) (2) (ap) (hh) (fo) (LI.up ⟨hO, hE, hK, hcn, hod, hln, hT⟩))) rfl
  · obtain ⟨r, hr0, h1⟩ := inR_ex (b := 3) (by decide) hc.1
    have hr : r < 4 := by omega
    refine sw_aload_n 156 1 C dL_law_156 rfl rfl ?_
    refine sw_aload_n 157 0 C dL_law_157 rfl rfl ?_
    refine sw_iload 158 C dL_law_158 rfl ?_
    refine sw_iconst 160 C dL_law_160 1 (by decide) ?_
    refine sw_iadd 161 C dL_law_161 ?_
    refine sw_sld 162 (5 * j + 1) C hX hbl hbA dL_law_162 (nI_add (5 * j) 1) (by omega) (by omega) ?_
    refine sw_top hx1.symm ?_
    refine sw_aload_n 163 0 C dL_law_163 rfl rfl ?_
    refine sw_iload 164 C dL_law_164 rfl ?_
    refine sw_iconst 166 C dL_law_166 2 (by decide) ?_
    refine sw_iadd 167 C dL_law_167 ?_
    refine sw_sld 168 (5 * j + 2) C hX hbl hbA dL_law_168 (nI_add (5 * j) 2) (by omega) (by omega) ?_
    refine sw_top hx2.symm ?_
    refine sw_aload_n 169 3 C dL_law_169 rfl rfl ?_
    refine xl_callSI 170 [0, 1, 2, 3, 4, 5, 6, 11] 4 [_, _, _, _, _, _, _, _] C hz hC dL_law_170 (ct_L_setPatience l hfl hS hcn hod hh0 hh1 hh2 hh3 r h1 hr hc.2) wK_L_setPatience wM_L_89 wT_L_setPatience wI_L hd_L_setPatience rfl ⟨rfl, rfl⟩ ⟨by show _ ≤ 601024; omega, by show _ ≤ 7293034; omega⟩ rfl rfl rfl rfl rfl rfl ?_
    refine sg_segs [_, _, _, _, _, _, _, _, _, _, _, _] rfl ?_
    refine sw_istore 173 C dL_law_173 rfl ?_
    refine sw_aload_n 175 2 C dL_law_175 rfl rfl ?_
    refine sw_aload_n 176 0 C dL_law_176 rfl rfl ?_
    refine sw_iload 177 C dL_law_177 rfl ?_
    refine sw_iconst 179 C dL_law_179 1 (by decide) ?_
    refine sw_iadd 180 C dL_law_180 ?_
    refine sw_sld 181 (5 * j + 1) C hX hbl hbA dL_law_181 (nI_add (5 * j) 1) (by omega) (by omega) ?_
    refine sw_top hx1.symm ?_
    refine sw_aload_n 182 0 C dL_law_182 rfl rfl ?_
    refine sw_iload 183 C dL_law_183 rfl ?_
    refine sw_iconst 185 C dL_law_185 2 (by decide) ?_
    refine sw_iadd 186 C dL_law_186 ?_
    refine sw_sld 187 (5 * j + 2) C hX hbl hbA dL_law_187 (nI_add (5 * j) 2) (by omega) (by omega) ?_
    refine sw_top hx2.symm ?_
    refine xg_callG 188 [10] 2 0 C dL_law_188 (ct_X7_setPatience l hE hO hK hcn hod r h1 hr hc.2) wK_X7_setPatience wM_L_94 wN_X7_setPatience wS_X7_X7_setPatience wI_X7 hd_X7_setPatience rfl rfl rfl ⟨rfl, rfl⟩ ⟨by show _ ≤ 601024; omega, by show _ ≤ 7293034; omega⟩ rfl rfl rfl rfl (fun v_188 w_188 h_188 => ?_)
    obtain ⟨rfl, f1, h1, rfl⟩ := h_188
    refine ⟨[_], rfl, rfl, ?_⟩
    refine sw_st (_ :: _) rfl ?_
    refine sg_segs [_, _, _, _, _, _, _, _, _, _, _, _] rfl ?_
    refine sw_istore 191 C dL_law_191 rfl ?_
    refine sw_loc (L1 := [(0, .ref _), (1, .ref _), (2, .ref _), (3, .ref _), (4, .int _), (5, .int _), (6, .int _)]) ?_ rfl
    refine sw_aload_n 193 2 C dL_law_193 rfl rfl ?_
    refine sg_callVIP 194 [10] 0 0 C dL_law_194 (ct_X7_thrown l) wK_X7_thrown wM_L_95 wN_X7_thrown wS_X7_X7_thrown wI_X7 hd_X7_thrown rfl rfl rfl ⟨rfl, rfl⟩ ⟨by show _ ≤ 601024; omega, by show _ ≤ 7293034; omega⟩ rfl rfl rfl rfl ?_
    refine sw_iload 197 C dL_law_197 rfl ?_
    refine sw_icmp_eq 199 204 C dL_law_199 (by decide) (fun c_199 => ?_) (fun c_199 => ?_)
    rotate_left
    · exact by first | exact absurd c_199 (rfl) | exact absurd (rfl) c_199
    refine sw_iload 204 C dL_law_204 rfl ?_
    refine sw_if_ne 206 221 C dL_law_206 (by decide) (fun c_206 => ?_) (fun c_206 => ?_)
    · exact by first | exact absurd c_206 (fun q => q rfl) | exact absurd (fun q => q rfl) c_206
    refine sw_aload_n 209 3 C dL_law_209 rfl rfl ?_
    refine sw_iconst 210 C dL_law_210 0 (by decide) ?_
    refine sg_laldN 211 11 0 1 (0) C dL_law_211 rfl (by decide) rfl rfl rfl rfl ?_
    refine sw_topL (show vp_updL fo 0 _ 0 = _ from pk_uLs) ?_
    refine sw_iload 212 C dL_law_212 rfl ?_
    refine sw_i2l 214 C dL_law_214 ?_
    refine sw_lcmp 215 C dL_law_215 ?_
    refine sw_if_eq 216 221 C dL_law_216 (by decide) (fun c_216 => ?_) (fun c_216 => ?_)
    rotate_left
    · exact by first | exact absurd c_216 (lcmp_self _) | exact absurd (lcmp_self _) c_216
    refine sw_goto 221 1546 C dL_law_221 (by decide) ?_
    exact sw_loc (sw_widen (by omega) (by omega) (hk (zpat_ S r x2) (T) (va_up R (svI cn od) S) (svC cn) (svO cn od) (ln) (by_) (g) (f1.1) (f1.2) (ad) (tx) (nb) (X) (0) (ap) (hh) (vp_updL fo 0 (zpat S r).toInt64) (LI.mut ⟨hO, hE, hK, hcn, hod, hln, hT⟩ (show mO (B + 100) 100000 (zpat_ S r x2) from hO.mono (by omega) (Nat.le_refl _)) h1))) rfl
set_option maxHeartbeats 8000000 in
set_option maxRecDepth 100000 in
theorem lo_setQuota {l : Launch} (hfl : l.stackTraces = false) {p : Program} {e : Env} {s : State} {m : MethodId} {below : List Frame} {meth : Method} {c : Code} {A : Nat → Prop} {D : va_G} {cI cJ cQ : ClassId} {Q : State → Prop} {b LL : Nat} {xs : Nat → Int32} (C : CC p s m #[.ref b] c cL_law 9 RL (Cond.initialized RL :: lw_all) D (tyz cI cJ cQ) A s.heap) (hz : xZ A s) (hC : xC s) (hX : va_X b LL xs s s.heap) (hbl : b < s.heap.size) (hbA : ¬ A b) (hLL : LL ≤ 2560) {x0a a0 a1 a2 a3 a4 a5 a6 a7 tr0 tr1 tr2 tr3 tr4 tr5 tr6 tr7 s0 s1 ra0 ra1 ra2 ra3 ra4 ra5 ra6 ra7 rb0 rb1 rb2 rb3 rb4 rb5 rb6 rb7 rc0 rc1 rc2 rc3 rc4 rc5 rc6 rc7 rd0 rd1 rd2 rd3 rd4 rd5 rd6 rd7 r0 t0 t1 w0 b0 b1 b2 b3 b4 b5 ao : Nat} {h : Nat → Option Nat} (hh0 : h 0 = some ra0) (hh1 : h 1 = some rb0) (hh2 : h 2 = some rc0) (hh3 : h 3 = some rd0) {S T : StT} {R : Nat → StT} {cn od ln : Nat} {by_ g sa pa ad tx nb : Nat → Int32} {X : RS} {th ap : Int32} {hh : Int64} {fo : Nat → Int64} {B j k n : Nat} (hB : B < 100000) (hj : 5 * j + 5 ≤ LL) (hkR : k + 1 ≤ 601024) (hnR : n + 6 ≤ 7293034) (hLI : LI B S R cn od ln by_ sa pa tx) (hk : ∀ (S T : StT) (R : Nat → StT) (cn od ln : Nat) (by_ g sa pa ad tx nb : Nat → Int32) (X : RS) (th ap : Int32) (hh : Int64) (fo : Nat → Int64), LI (B + 100) S R cn od ln by_ sa pa tx → sw p l e room_1 s m #[.ref b] below meth c D A s.heap 9 (k + 1) (n + 6) Q (flatS [[(x0a, .inr (6, [.ref a0, .ref tr0, .ref s0, .ref r0, .ref w0]))], (wSt a0 a1 a2 a3 a4 a5 a6 a7 cI (S)), [(s0, .inr (3, [.int (nI (cn)), .int (nI (od)), .ref s1])), (s1, .inl (cQ, 4, .inr (.inr (.inr (.inr h)))))], (wSt ra0 ra1 ra2 ra3 ra4 ra5 ra6 ra7 cI ((R) 0)), (wSt rb0 rb1 rb2 rb3 rb4 rb5 rb6 rb7 cI ((R) 1)), (wSt rc0 rc1 rc2 rc3 rc4 rc5 rc6 rc7 cI ((R) 2)), (wSt rd0 rd1 rd2 rd3 rd4 rd5 rd6 rd7 cI ((R) 3)), (wSt tr0 tr1 tr2 tr3 tr4 tr5 tr6 tr7 cI (T)), (wRd r0 t0 t1 cI (ln) (by_) (X)), [(w0, .inl (cI, 40, .inl (g)))], [(b0, .inr (7, [.ref b1, .ref b2, .ref b3, .int (nI (cn)), .int (th), .ref b4, .int (nI (ln)), .int (ap), .ref b5, .long (hh)])), (b1, .inl (cI, 424, .inl (sa))), (b2, .inl (cI, 1696, .inl (pa))), (b3, .inl (cI, 424, .inl (ad))), (b4, .inl (cI, 100, .inl (tx))), (b5, .inl (cI, 4, .inl (nb)))], [(ao, .inl (cJ, 1, .inr (.inl (fo))))]]) 1546 [(0, .ref b), (1, .ref x0a), (2, .ref b0), (3, .ref ao), (4, .int (nI (5 * j)))] []) : sw p l e room_1 s m #[.ref b] below meth c D A s.heap 9 k n Q (flatS [[(x0a, .inr (6, [.ref a0, .ref tr0, .ref s0, .ref r0, .ref w0]))], (wSt a0 a1 a2 a3 a4 a5 a6 a7 cI (S)), [(s0, .inr (3, [.int (nI (cn)), .int (nI (od)), .ref s1])), (s1, .inl (cQ, 4, .inr (.inr (.inr (.inr h)))))], (wSt ra0 ra1 ra2 ra3 ra4 ra5 ra6 ra7 cI ((R) 0)), (wSt rb0 rb1 rb2 rb3 rb4 rb5 rb6 rb7 cI ((R) 1)), (wSt rc0 rc1 rc2 rc3 rc4 rc5 rc6 rc7 cI ((R) 2)), (wSt rd0 rd1 rd2 rd3 rd4 rd5 rd6 rd7 cI ((R) 3)), (wSt tr0 tr1 tr2 tr3 tr4 tr5 tr6 tr7 cI (T)), (wRd r0 t0 t1 cI (ln) (by_) (X)), [(w0, .inl (cI, 40, .inl (g)))], [(b0, .inr (7, [.ref b1, .ref b2, .ref b3, .int (nI (cn)), .int (th), .ref b4, .int (nI (ln)), .int (ap), .ref b5, .long (hh)])), (b1, .inl (cI, 424, .inl (sa))), (b2, .inl (cI, 1696, .inl (pa))), (b3, .inl (cI, 424, .inl (ad))), (b4, .inl (cI, 100, .inl (tx))), (b5, .inl (cI, 4, .inl (nb)))], [(ao, .inl (cJ, 1, .inr (.inl (fo))))]]) 224 [(0, .ref b), (1, .ref x0a), (2, .ref b0), (3, .ref ao), (4, .int (nI (5 * j)))] [] := by
  obtain ⟨hO, hE, hK, hcn, hod, hln, hT⟩ := hLI
  have hS := hO.si
  have hB2 : B < 2 ^ 29 := by omega
  obtain ⟨x1, hx1⟩ : ∃ x, x = xs (5 * j + 1) := ⟨_, rfl⟩
  rcases bool2 (inR x1 0 10) with hc | hc
  · refine sw_aload_n 224 1 C dL_law_224 rfl rfl ?_
    refine sw_aload_n 225 0 C dL_law_225 rfl rfl ?_
    refine sw_iload 226 C dL_law_226 rfl ?_
    refine sw_iconst 228 C dL_law_228 1 (by decide) ?_
    refine sw_iadd 229 C dL_law_229 ?_
    refine sw_sld 230 (5 * j + 1) C hX hbl hbA dL_law_230 (nI_add (5 * j) 1) (by omega) (by omega) ?_
    refine sw_top hx1.symm ?_
    refine sw_aload_n 231 3 C dL_law_231 rfl rfl ?_
    refine xl_callSI 232 [0, 1, 11] 3 [_, _, _] C hz hC dL_law_232 (ct_L_setQuota_2 l hfl hc) wK_L_setQuota wM_L_98 wT_L_setQuota wI_L hd_L_setQuota rfl ⟨rfl, rfl⟩ ⟨by show _ ≤ 601024; omega, by show _ ≤ 7293034; omega⟩ rfl rfl rfl rfl rfl rfl ?_
    refine sg_segs [_, _, _, _, _, _, _, _, _, _, _, _] rfl ?_
    refine sw_istore 235 C dL_law_235 rfl ?_
    refine sw_aload_n 237 2 C dL_law_237 rfl rfl ?_
    refine sw_aload_n 238 0 C dL_law_238 rfl rfl ?_
    refine sw_iload 239 C dL_law_239 rfl ?_
    refine sw_iconst 241 C dL_law_241 1 (by decide) ?_
    refine sw_iadd 242 C dL_law_242 ?_
    refine sw_sld 243 (5 * j + 1) C hX hbl hbA dL_law_243 (nI_add (5 * j) 1) (by omega) (by omega) ?_
    refine sw_top hx1.symm ?_
    refine sg_callVI 244 [10] 1 0 [_] C dL_law_244 (ct_X7_setQuota_2 l hc) wK_X7_setQuota wM_L_101 wN_X7_setQuota wS_X7_X7_setQuota wI_X7 hd_X7_setQuota rfl rfl rfl ⟨rfl, rfl⟩ ⟨by show _ ≤ 601024; omega, by show _ ≤ 7293034; omega⟩ rfl rfl rfl rfl rfl rfl ?_
    refine sg_segs [_, _, _, _, _, _, _, _, _, _, _, _] rfl ?_
    refine sw_istore 247 C dL_law_247 rfl ?_
    refine sw_loc (L1 := [(0, .ref _), (1, .ref _), (2, .ref _), (3, .ref _), (4, .int _), (5, .int _), (6, .int _)]) ?_ rfl
    refine sw_aload_n 249 2 C dL_law_249 rfl rfl ?_
    refine sg_callVIP 250 [10] 0 0 C dL_law_250 (ct_X7_thrown l) wK_X7_thrown wM_L_95 wN_X7_thrown wS_X7_X7_thrown wI_X7 hd_X7_thrown rfl rfl rfl ⟨rfl, rfl⟩ ⟨by show _ ≤ 601024; omega, by show _ ≤ 7293034; omega⟩ rfl rfl rfl rfl ?_
    refine sw_iload 253 C dL_law_253 rfl ?_
    refine sw_icmp_eq 255 260 C dL_law_255 (by decide) (fun c_255 => ?_) (fun c_255 => ?_)
    rotate_left
    · exact by first | exact absurd c_255 (rfl) | exact absurd (rfl) c_255
    refine sw_iload 260 C dL_law_260 rfl ?_
    refine sw_if_ne 262 277 C dL_law_262 (by decide) (fun c_262 => ?_) (fun c_262 => ?_)
    rotate_left
    · exact by first | exact absurd c_262 (by decide) | exact absurd (by decide) c_262
    refine sw_goto 277 1546 C dL_law_277 (by decide) ?_
    exact sw_loc (sw_widen (by omega) (by omega) (hk (S) (T) (R) (cn) (od) (ln) (by_) (g) (sa) (pa) (ad) (tx) (nb) (X) (1) (ap) (hh) (fo) (LI.up ⟨hO, hE, hK, hcn, hod, hln, hT⟩))) rfl
  · refine sw_aload_n 224 1 C dL_law_224 rfl rfl ?_
    refine sw_aload_n 225 0 C dL_law_225 rfl rfl ?_
    refine sw_iload 226 C dL_law_226 rfl ?_
    refine sw_iconst 228 C dL_law_228 1 (by decide) ?_
    refine sw_iadd 229 C dL_law_229 ?_
    refine sw_sld 230 (5 * j + 1) C hX hbl hbA dL_law_230 (nI_add (5 * j) 1) (by omega) (by omega) ?_
    refine sw_top hx1.symm ?_
    refine sw_aload_n 231 3 C dL_law_231 rfl rfl ?_
    refine xl_callSI 232 [0, 1, 2, 3, 4, 5, 6, 11] 3 [_, _, _, _, _, _, _, _] C hz hC dL_law_232 (ct_L_setQuota l hfl hS hcn hod hh0 hh1 hh2 hh3 hc) wK_L_setQuota wM_L_98 wT_L_setQuota wI_L hd_L_setQuota rfl ⟨rfl, rfl⟩ ⟨by show _ ≤ 601024; omega, by show _ ≤ 7293034; omega⟩ rfl rfl rfl rfl rfl rfl ?_
    refine sg_segs [_, _, _, _, _, _, _, _, _, _, _, _] rfl ?_
    refine sw_istore 235 C dL_law_235 rfl ?_
    refine sw_aload_n 237 2 C dL_law_237 rfl rfl ?_
    refine sw_aload_n 238 0 C dL_law_238 rfl rfl ?_
    refine sw_iload 239 C dL_law_239 rfl ?_
    refine sw_iconst 241 C dL_law_241 1 (by decide) ?_
    refine sw_iadd 242 C dL_law_242 ?_
    refine sw_sld 243 (5 * j + 1) C hX hbl hbA dL_law_243 (nI_add (5 * j) 1) (by omega) (by omega) ?_
    refine sw_top hx1.symm ?_
    refine xg_callG 244 [10] 1 0 C dL_law_244 (ct_X7_setQuota l hE hO hK hcn hod hc) wK_X7_setQuota wM_L_101 wN_X7_setQuota wS_X7_X7_setQuota wI_X7 hd_X7_setQuota rfl rfl rfl ⟨rfl, rfl⟩ ⟨by show _ ≤ 601024; omega, by show _ ≤ 7293034; omega⟩ rfl rfl rfl rfl (fun v_244 w_244 h_244 => ?_)
    obtain ⟨rfl, f1, h1, rfl⟩ := h_244
    refine ⟨[_], rfl, rfl, ?_⟩
    refine sw_st (_ :: _) rfl ?_
    refine sg_segs [_, _, _, _, _, _, _, _, _, _, _, _] rfl ?_
    refine sw_istore 247 C dL_law_247 rfl ?_
    refine sw_loc (L1 := [(0, .ref _), (1, .ref _), (2, .ref _), (3, .ref _), (4, .int _), (5, .int _), (6, .int _)]) ?_ rfl
    refine sw_aload_n 249 2 C dL_law_249 rfl rfl ?_
    refine sg_callVIP 250 [10] 0 0 C dL_law_250 (ct_X7_thrown l) wK_X7_thrown wM_L_95 wN_X7_thrown wS_X7_X7_thrown wI_X7 hd_X7_thrown rfl rfl rfl ⟨rfl, rfl⟩ ⟨by show _ ≤ 601024; omega, by show _ ≤ 7293034; omega⟩ rfl rfl rfl rfl ?_
    refine sw_iload 253 C dL_law_253 rfl ?_
    refine sw_icmp_eq 255 260 C dL_law_255 (by decide) (fun c_255 => ?_) (fun c_255 => ?_)
    rotate_left
    · exact by first | exact absurd c_255 (rfl) | exact absurd (rfl) c_255
    refine sw_iload 260 C dL_law_260 rfl ?_
    refine sw_if_ne 262 277 C dL_law_262 (by decide) (fun c_262 => ?_) (fun c_262 => ?_)
    · exact by first | exact absurd c_262 (fun q => q rfl) | exact absurd (fun q => q rfl) c_262
    refine sw_aload_n 265 3 C dL_law_265 rfl rfl ?_
    refine sw_iconst 266 C dL_law_266 0 (by decide) ?_
    refine sg_laldN 267 11 0 1 (0) C dL_law_267 rfl (by decide) rfl rfl rfl rfl ?_
    refine sw_topL (show vp_updL fo 0 _ 0 = _ from pk_uLs) ?_
    refine sw_iload 268 C dL_law_268 rfl ?_
    refine sw_i2l 270 C dL_law_270 ?_
    refine sw_lcmp 271 C dL_law_271 ?_
    refine sw_if_eq 272 277 C dL_law_272 (by decide) (fun c_272 => ?_) (fun c_272 => ?_)
    rotate_left
    · exact by first | exact absurd c_272 (lcmp_self _) | exact absurd (lcmp_self _) c_272
    refine sw_goto 277 1546 C dL_law_277 (by decide) ?_
    exact sw_loc (sw_widen (by omega) (by omega) (hk (zq_ S x1) (T) (va_up R (svI cn od) S) (svC cn) (svO cn od) (ln) (by_) (g) (f1.1) (f1.2) (ad) (tx) (nb) (X) (0) (ap) (hh) (vp_updL fo 0 (zq S).toInt64) (LI.mut ⟨hO, hE, hK, hcn, hod, hln, hT⟩ (show mO (B + 100) 100000 (zq_ S x1) from hO.mono (by omega) (Nat.le_refl _)) h1))) rfl
set_option maxHeartbeats 8000000 in
set_option maxRecDepth 100000 in
theorem lo_setGrace {l : Launch} (hfl : l.stackTraces = false) {p : Program} {e : Env} {s : State} {m : MethodId} {below : List Frame} {meth : Method} {c : Code} {A : Nat → Prop} {D : va_G} {cI cJ cQ : ClassId} {Q : State → Prop} {b LL : Nat} {xs : Nat → Int32} (C : CC p s m #[.ref b] c cL_law 9 RL (Cond.initialized RL :: lw_all) D (tyz cI cJ cQ) A s.heap) (hz : xZ A s) (hC : xC s) (hX : va_X b LL xs s s.heap) (hbl : b < s.heap.size) (hbA : ¬ A b) (hLL : LL ≤ 2560) {x0a a0 a1 a2 a3 a4 a5 a6 a7 tr0 tr1 tr2 tr3 tr4 tr5 tr6 tr7 s0 s1 ra0 ra1 ra2 ra3 ra4 ra5 ra6 ra7 rb0 rb1 rb2 rb3 rb4 rb5 rb6 rb7 rc0 rc1 rc2 rc3 rc4 rc5 rc6 rc7 rd0 rd1 rd2 rd3 rd4 rd5 rd6 rd7 r0 t0 t1 w0 b0 b1 b2 b3 b4 b5 ao : Nat} {h : Nat → Option Nat} (hh0 : h 0 = some ra0) (hh1 : h 1 = some rb0) (hh2 : h 2 = some rc0) (hh3 : h 3 = some rd0) {S T : StT} {R : Nat → StT} {cn od ln : Nat} {by_ g sa pa ad tx nb : Nat → Int32} {X : RS} {th ap : Int32} {hh : Int64} {fo : Nat → Int64} {B j k n : Nat} (hB : B < 100000) (hj : 5 * j + 5 ≤ LL) (hkR : k + 1 ≤ 601024) (hnR : n + 6 ≤ 7293034) (hLI : LI B S R cn od ln by_ sa pa tx) (hk : ∀ (S T : StT) (R : Nat → StT) (cn od ln : Nat) (by_ g sa pa ad tx nb : Nat → Int32) (X : RS) (th ap : Int32) (hh : Int64) (fo : Nat → Int64), LI (B + 100) S R cn od ln by_ sa pa tx → sw p l e room_1 s m #[.ref b] below meth c D A s.heap 9 (k + 1) (n + 6) Q (flatS [[(x0a, .inr (6, [.ref a0, .ref tr0, .ref s0, .ref r0, .ref w0]))], (wSt a0 a1 a2 a3 a4 a5 a6 a7 cI (S)), [(s0, .inr (3, [.int (nI (cn)), .int (nI (od)), .ref s1])), (s1, .inl (cQ, 4, .inr (.inr (.inr (.inr h)))))], (wSt ra0 ra1 ra2 ra3 ra4 ra5 ra6 ra7 cI ((R) 0)), (wSt rb0 rb1 rb2 rb3 rb4 rb5 rb6 rb7 cI ((R) 1)), (wSt rc0 rc1 rc2 rc3 rc4 rc5 rc6 rc7 cI ((R) 2)), (wSt rd0 rd1 rd2 rd3 rd4 rd5 rd6 rd7 cI ((R) 3)), (wSt tr0 tr1 tr2 tr3 tr4 tr5 tr6 tr7 cI (T)), (wRd r0 t0 t1 cI (ln) (by_) (X)), [(w0, .inl (cI, 40, .inl (g)))], [(b0, .inr (7, [.ref b1, .ref b2, .ref b3, .int (nI (cn)), .int (th), .ref b4, .int (nI (ln)), .int (ap), .ref b5, .long (hh)])), (b1, .inl (cI, 424, .inl (sa))), (b2, .inl (cI, 1696, .inl (pa))), (b3, .inl (cI, 424, .inl (ad))), (b4, .inl (cI, 100, .inl (tx))), (b5, .inl (cI, 4, .inl (nb)))], [(ao, .inl (cJ, 1, .inr (.inl (fo))))]]) 1546 [(0, .ref b), (1, .ref x0a), (2, .ref b0), (3, .ref ao), (4, .int (nI (5 * j)))] []) : sw p l e room_1 s m #[.ref b] below meth c D A s.heap 9 k n Q (flatS [[(x0a, .inr (6, [.ref a0, .ref tr0, .ref s0, .ref r0, .ref w0]))], (wSt a0 a1 a2 a3 a4 a5 a6 a7 cI (S)), [(s0, .inr (3, [.int (nI (cn)), .int (nI (od)), .ref s1])), (s1, .inl (cQ, 4, .inr (.inr (.inr (.inr h)))))], (wSt ra0 ra1 ra2 ra3 ra4 ra5 ra6 ra7 cI ((R) 0)), (wSt rb0 rb1 rb2 rb3 rb4 rb5 rb6 rb7 cI ((R) 1)), (wSt rc0 rc1 rc2 rc3 rc4 rc5 rc6 rc7 cI ((R) 2)), (wSt rd0 rd1 rd2 rd3 rd4 rd5 rd6 rd7 cI ((R) 3)), (wSt tr0 tr1 tr2 tr3 tr4 tr5 tr6 tr7 cI (T)), (wRd r0 t0 t1 cI (ln) (by_) (X)), [(w0, .inl (cI, 40, .inl (g)))], [(b0, .inr (7, [.ref b1, .ref b2, .ref b3, .int (nI (cn)), .int (th), .ref b4, .int (nI (ln)), .int (ap), .ref b5, .long (hh)])), (b1, .inl (cI, 424, .inl (sa))), (b2, .inl (cI, 1696, .inl (pa))), (b3, .inl (cI, 424, .inl (ad))), (b4, .inl (cI, 100, .inl (tx))), (b5, .inl (cI, 4, .inl (nb)))], [(ao, .inl (cJ, 1, .inr (.inl (fo))))]]) 280 [(0, .ref b), (1, .ref x0a), (2, .ref b0), (3, .ref ao), (4, .int (nI (5 * j)))] [] := by
  obtain ⟨hO, hE, hK, hcn, hod, hln, hT⟩ := hLI
  have hS := hO.si
  have hB2 : B < 2 ^ 29 := by omega
  obtain ⟨x1, hx1⟩ : ∃ x, x = xs (5 * j + 1) := ⟨_, rfl⟩
  rcases bool2 (inR x1 0 200) with hc | hc
  · refine sw_aload_n 280 1 C dL_law_280 rfl rfl ?_
    refine sw_aload_n 281 0 C dL_law_281 rfl rfl ?_
    refine sw_iload 282 C dL_law_282 rfl ?_
    refine sw_iconst 284 C dL_law_284 1 (by decide) ?_
    refine sw_iadd 285 C dL_law_285 ?_
    refine sw_sld 286 (5 * j + 1) C hX hbl hbA dL_law_286 (nI_add (5 * j) 1) (by omega) (by omega) ?_
    refine sw_top hx1.symm ?_
    refine sw_aload_n 287 3 C dL_law_287 rfl rfl ?_
    refine xl_callSI 288 [0, 1, 11] 3 [_, _, _] C hz hC dL_law_288 (ct_L_setGrace_2 l hfl hc) wK_L_setGrace wM_L_102 wT_L_setGrace wI_L hd_L_setGrace rfl ⟨rfl, rfl⟩ ⟨by show _ ≤ 601024; omega, by show _ ≤ 7293034; omega⟩ rfl rfl rfl rfl rfl rfl ?_
    refine sg_segs [_, _, _, _, _, _, _, _, _, _, _, _] rfl ?_
    refine sw_istore 291 C dL_law_291 rfl ?_
    refine sw_aload_n 293 2 C dL_law_293 rfl rfl ?_
    refine sw_aload_n 294 0 C dL_law_294 rfl rfl ?_
    refine sw_iload 295 C dL_law_295 rfl ?_
    refine sw_iconst 297 C dL_law_297 1 (by decide) ?_
    refine sw_iadd 298 C dL_law_298 ?_
    refine sw_sld 299 (5 * j + 1) C hX hbl hbA dL_law_299 (nI_add (5 * j) 1) (by omega) (by omega) ?_
    refine sw_top hx1.symm ?_
    refine sg_callVI 300 [10] 1 0 [_] C dL_law_300 (ct_X7_setGrace_2 l hc) wK_X7_setGrace wM_L_104 wN_X7_setGrace wS_X7_X7_setGrace wI_X7 hd_X7_setGrace rfl rfl rfl ⟨rfl, rfl⟩ ⟨by show _ ≤ 601024; omega, by show _ ≤ 7293034; omega⟩ rfl rfl rfl rfl rfl rfl ?_
    refine sg_segs [_, _, _, _, _, _, _, _, _, _, _, _] rfl ?_
    refine sw_istore 303 C dL_law_303 rfl ?_
    refine sw_loc (L1 := [(0, .ref _), (1, .ref _), (2, .ref _), (3, .ref _), (4, .int _), (5, .int _), (6, .int _)]) ?_ rfl
    refine sw_aload_n 305 2 C dL_law_305 rfl rfl ?_
    refine sg_callVIP 306 [10] 0 0 C dL_law_306 (ct_X7_thrown l) wK_X7_thrown wM_L_95 wN_X7_thrown wS_X7_X7_thrown wI_X7 hd_X7_thrown rfl rfl rfl ⟨rfl, rfl⟩ ⟨by show _ ≤ 601024; omega, by show _ ≤ 7293034; omega⟩ rfl rfl rfl rfl ?_
    refine sw_iload 309 C dL_law_309 rfl ?_
    refine sw_icmp_eq 311 316 C dL_law_311 (by decide) (fun c_311 => ?_) (fun c_311 => ?_)
    rotate_left
    · exact by first | exact absurd c_311 (rfl) | exact absurd (rfl) c_311
    refine sw_iload 316 C dL_law_316 rfl ?_
    refine sw_if_ne 318 333 C dL_law_318 (by decide) (fun c_318 => ?_) (fun c_318 => ?_)
    rotate_left
    · exact by first | exact absurd c_318 (by decide) | exact absurd (by decide) c_318
    refine sw_goto 333 1546 C dL_law_333 (by decide) ?_
    exact sw_loc (sw_widen (by omega) (by omega) (hk (S) (T) (R) (cn) (od) (ln) (by_) (g) (sa) (pa) (ad) (tx) (nb) (X) (1) (ap) (hh) (fo) (LI.up ⟨hO, hE, hK, hcn, hod, hln, hT⟩))) rfl
  · refine sw_aload_n 280 1 C dL_law_280 rfl rfl ?_
    refine sw_aload_n 281 0 C dL_law_281 rfl rfl ?_
    refine sw_iload 282 C dL_law_282 rfl ?_
    refine sw_iconst 284 C dL_law_284 1 (by decide) ?_
    refine sw_iadd 285 C dL_law_285 ?_
    refine sw_sld 286 (5 * j + 1) C hX hbl hbA dL_law_286 (nI_add (5 * j) 1) (by omega) (by omega) ?_
    refine sw_top hx1.symm ?_
    refine sw_aload_n 287 3 C dL_law_287 rfl rfl ?_
    refine xl_callSI 288 [0, 1, 2, 3, 4, 5, 6, 11] 3 [_, _, _, _, _, _, _, _] C hz hC dL_law_288 (ct_L_setGrace l hfl hS hcn hod hh0 hh1 hh2 hh3 hc) wK_L_setGrace wM_L_102 wT_L_setGrace wI_L hd_L_setGrace rfl ⟨rfl, rfl⟩ ⟨by show _ ≤ 601024; omega, by show _ ≤ 7293034; omega⟩ rfl rfl rfl rfl rfl rfl ?_
    refine sg_segs [_, _, _, _, _, _, _, _, _, _, _, _] rfl ?_
    refine sw_istore 291 C dL_law_291 rfl ?_
    refine sw_aload_n 293 2 C dL_law_293 rfl rfl ?_
    refine sw_aload_n 294 0 C dL_law_294 rfl rfl ?_
    refine sw_iload 295 C dL_law_295 rfl ?_
    refine sw_iconst 297 C dL_law_297 1 (by decide) ?_
    refine sw_iadd 298 C dL_law_298 ?_
    refine sw_sld 299 (5 * j + 1) C hX hbl hbA dL_law_299 (nI_add (5 * j) 1) (by omega) (by omega) ?_
    refine sw_top hx1.symm ?_
    refine xg_callG 300 [10] 1 0 C dL_law_300 (ct_X7_setGrace l hE hO hK hcn hod hc) wK_X7_setGrace wM_L_104 wN_X7_setGrace wS_X7_X7_setGrace wI_X7 hd_X7_setGrace rfl rfl rfl ⟨rfl, rfl⟩ ⟨by show _ ≤ 601024; omega, by show _ ≤ 7293034; omega⟩ rfl rfl rfl rfl (fun v_300 w_300 h_300 => ?_)
    obtain ⟨rfl, f1, h1, rfl⟩ := h_300
    refine ⟨[_], rfl, rfl, ?_⟩
    refine sw_st (_ :: _) rfl ?_
    refine sg_segs [_, _, _, _, _, _, _, _, _, _, _, _] rfl ?_
    refine sw_istore 303 C dL_law_303 rfl ?_
    refine sw_loc (L1 := [(0, .ref _), (1, .ref _), (2, .ref _), (3, .ref _), (4, .int _), (5, .int _), (6, .int _)]) ?_ rfl
    refine sw_aload_n 305 2 C dL_law_305 rfl rfl ?_
    refine sg_callVIP 306 [10] 0 0 C dL_law_306 (ct_X7_thrown l) wK_X7_thrown wM_L_95 wN_X7_thrown wS_X7_X7_thrown wI_X7 hd_X7_thrown rfl rfl rfl ⟨rfl, rfl⟩ ⟨by show _ ≤ 601024; omega, by show _ ≤ 7293034; omega⟩ rfl rfl rfl rfl ?_
    refine sw_iload 309 C dL_law_309 rfl ?_
    refine sw_icmp_eq 311 316 C dL_law_311 (by decide) (fun c_311 => ?_) (fun c_311 => ?_)
    rotate_left
    · exact by first | exact absurd c_311 (rfl) | exact absurd (rfl) c_311
    refine sw_iload 316 C dL_law_316 rfl ?_
    refine sw_if_ne 318 333 C dL_law_318 (by decide) (fun c_318 => ?_) (fun c_318 => ?_)
    · exact by first | exact absurd c_318 (fun q => q rfl) | exact absurd (fun q => q rfl) c_318
    refine sw_aload_n 321 3 C dL_law_321 rfl rfl ?_
    refine sw_iconst 322 C dL_law_322 0 (by decide) ?_
    refine sg_laldN 323 11 0 1 (0) C dL_law_323 rfl (by decide) rfl rfl rfl rfl ?_
    refine sw_topL (show vp_updL fo 0 _ 0 = _ from pk_uLs) ?_
    refine sw_iload 324 C dL_law_324 rfl ?_
    refine sw_i2l 326 C dL_law_326 ?_
    refine sw_lcmp 327 C dL_law_327 ?_
    refine sw_if_eq 328 333 C dL_law_328 (by decide) (fun c_328 => ?_) (fun c_328 => ?_)
    rotate_left
    · exact by first | exact absurd c_328 (lcmp_self _) | exact absurd (lcmp_self _) c_328
    refine sw_goto 333 1546 C dL_law_333 (by decide) ?_
    exact sw_loc (sw_widen (by omega) (by omega) (hk (zg_ S x1) (T) (va_up R (svI cn od) S) (svC cn) (svO cn od) (ln) (by_) (g) (f1.1) (f1.2) (ad) (tx) (nb) (X) (0) (ap) (hh) (vp_updL fo 0 (zg S).toInt64) (LI.mut ⟨hO, hE, hK, hcn, hod, hln, hT⟩ (show mO (B + 100) 100000 (zg_ S x1) from hO.mono (by omega) (Nat.le_refl _)) h1))) rfl
