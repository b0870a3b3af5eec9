/-! what is refused changes nothing -/
set_option maxHeartbeats 8000000 in
set_option maxRecDepth 100000 in
theorem ct_L_refused (l : Launch) (hfl : l.stackTraces = false) {D : va_G} {cI cJ cQ : ClassId} {x0a a0 a1 a2 a3 a4 a5 a6 a7 tr0 tr1 tr2 tr3 tr4 tr5 tr6 tr7 s0 s1 ra0 ra1 ra2 ra3 ra4 ra5 ra6 ra7 rb0 rb1 rb2 rb3 rb4 rb5 rb6 rb7 rc0 rc1 rc2 rc3 rc4 rc5 rc6 rc7 rd0 rd1 rd2 rd3 rd4 rd5 rd6 rd7 r0 t0 t1 w0 : Nat} {h : Nat → Option Nat} {S T : StT} {R : Nat → StT} {cn od ln : Nat} {by_ g : Nat → Int32} {X : RS} {B U : Nat} (hJ : JI B U S) : LCt l yL_refused (Cond.code yL_refused cL_refused 4 (some .boolean)) 11 214 21 126 D (tyz cI cJ cQ) [.ref x0a] (flatS [[(x0a, .inr (6, [.ref a0, .ref tr0, .ref s0, .ref r0, .ref w0]))], (wSt a0 a1 a2 a3 a4 a5 a6 a7 cI (S)), [(s0, .inr (3, [.int (nI (cn)), .int (nI (od)), .ref s1])), (s1, .inl (cQ, 4, .inr (.inr (.inr (.inr h)))))], (wSt ra0 ra1 ra2 ra3 ra4 ra5 ra6 ra7 cI ((R) 0)), (wSt rb0 rb1 rb2 rb3 rb4 rb5 rb6 rb7 cI ((R) 1)), (wSt rc0 rc1 rc2 rc3 rc4 rc5 rc6 rc7 cI ((R) 2)), (wSt rd0 rd1 rd2 rd3 rd4 rd5 rd6 rd7 cI ((R) 3)), (wSt tr0 tr1 tr2 tr3 tr4 tr5 tr6 tr7 cI (T)), (wRd r0 t0 t1 cI (ln) (by_) (X)), [(w0, .inl (cI, 40, .inl (g)))]]) (pstE 1 (fun _ : StT × (Nat → Int32) => True) (fun z : StT × (Nat → Int32) => (flatS [[(x0a, .inr (6, [.ref a0, .ref tr0, .ref s0, .ref r0, .ref w0]))], (wSt a0 a1 a2 a3 a4 a5 a6 a7 cI (S)), [(s0, .inr (3, [.int (nI (cn)), .int (nI (od)), .ref s1])), (s1, .inl (cQ, 4, .inr (.inr (.inr (.inr h)))))], (wSt ra0 ra1 ra2 ra3 ra4 ra5 ra6 ra7 cI ((R) 0)), (wSt rb0 rb1 rb2 rb3 rb4 rb5 rb6 rb7 cI ((R) 1)), (wSt rc0 rc1 rc2 rc3 rc4 rc5 rc6 rc7 cI ((R) 2)), (wSt rd0 rd1 rd2 rd3 rd4 rd5 rd6 rd7 cI ((R) 3)), (wSt tr0 tr1 tr2 tr3 tr4 tr5 tr6 tr7 cI (z.1)), (wRd r0 t0 t1 cI (ln) (by_) (X)), [(w0, .inl (cI, 40, .inl (z.2)))]]))) := by
  refine LCt.ofC RL (by decide) rfl (Nat.le_of_ble_eq_true rfl) ?_
  intro p e s m below meth c A C RC hz hC
  have hS := hJ.si
  have hn := hJ.o.n
  have hlc := hJ.si.2.1
  have hnum := hJ.o.num
  have hrow := hJ.o.row
  refine sw_aload_n 0 0 C dL_refused_0 rfl rfl ?_
  refine xl_callH 1 [0, 1, 2, 3, 4, 5, 6, 7, 8, 9] 1 C hz hC dL_refused_1 (ct_L_sum l hfl hJ) wK_L_sum wM_L_117 wT_L_sum wI_L hd_L_sum rfl ⟨rfl, rfl⟩ ⟨Nat.le_of_ble_eq_true rfl, Nat.le_of_ble_eq_true rfl⟩ rfl rfl rfl rfl (fun v_1 w_1 h_1 => ?_)
  obtain ⟨rfl, z9, hz9, rfl⟩ := h_1
  refine ⟨[_, _, _, _, _, _, _, _, _, _], rfl, rfl, ?_⟩
  refine sw_st (_ :: _) rfl ?_
  refine sg_segs [_, _, _, _, _, _, _, _, _, _] rfl ?_
  refine sw_lstore_n 4 1 C dL_refused_4 rfl rfl ?_
  refine sw_aload_n 5 0 C dL_refused_5 rfl rfl ?_
  refine sw_iconst 6 C dL_refused_6 4 (by decide) ?_
  refine sw_iconst 7 C dL_refused_7 1 (by decide) ?_
  refine xl_callSI 8 [0, 1] 3 [_, _] C hz hC dL_refused_8 (ct_L_patience_2 l hfl (by decide)) wK_L_patience wM_L_121 wT_L_patience wI_L hd_L_patience rfl ⟨rfl, rfl⟩ ⟨Nat.le_of_ble_eq_true rfl, Nat.le_of_ble_eq_true rfl⟩ rfl rfl rfl rfl rfl rfl ?_
  refine sg_segs [_, _, _, _, _, _, _, _, _, _] rfl ?_
  refine sw_ldc 11 C dL_refused_11 (C.w wQ_L_17) ?_
  refine sw_icmp_ne 13 242 C dL_refused_13 (by decide) (fun c_13 => ?_) (fun c_13 => ?_)
  · exact by first | exact absurd c_13 (rfl) | exact absurd (rfl) c_13
  refine sw_aload_n 16 0 C dL_refused_16 rfl rfl ?_
  refine sw_iconst 17 C dL_refused_17 0 (by decide) ?_
  refine sw_iconst 18 C dL_refused_18 0 (by decide) ?_
  refine xl_callSI 19 [0, 1] 3 [_, _] C hz hC dL_refused_19 (ct_L_patience_3 l hfl 0 rfl (by decide) (by decide)) wK_L_patience wM_L_121 wT_L_patience wI_L hd_L_patience rfl ⟨rfl, rfl⟩ ⟨Nat.le_of_ble_eq_true rfl, Nat.le_of_ble_eq_true rfl⟩ rfl rfl rfl rfl rfl rfl ?_
  refine sg_segs [_, _, _, _, _, _, _, _, _, _] rfl ?_
  refine sw_ldc 22 C dL_refused_22 (C.w wQ_L_20) ?_
  refine sw_icmp_ne 24 242 C dL_refused_24 (by decide) (fun c_24 => ?_) (fun c_24 => ?_)
  · exact by first | exact absurd c_24 (rfl) | exact absurd (rfl) c_24
  refine sw_aload_n 27 0 C dL_refused_27 rfl rfl ?_
  refine sw_bipush 28 C dL_refused_28 11 (by decide) ?_
  refine xl_callSI 30 [0, 1] 2 [_, _] C hz hC dL_refused_30 (ct_L_quota_2 l hfl (by decide)) wK_L_quota wM_L_124 wT_L_quota wI_L hd_L_quota rfl ⟨rfl, rfl⟩ ⟨Nat.le_of_ble_eq_true rfl, Nat.le_of_ble_eq_true rfl⟩ rfl rfl rfl rfl rfl rfl ?_
  refine sg_segs [_, _, _, _, _, _, _, _, _, _] rfl ?_
  refine sw_ldc 33 C dL_refused_33 (C.w wQ_L_20) ?_
  refine sw_icmp_ne 35 242 C dL_refused_35 (by decide) (fun c_35 => ?_) (fun c_35 => ?_)
  · exact by first | exact absurd c_35 (rfl) | exact absurd (rfl) c_35
  refine sw_aload_n 38 0 C dL_refused_38 rfl rfl ?_
  refine sw_sipush 39 C dL_refused_39 201 (by decide) ?_
  refine xl_callSI 42 [0, 1] 2 [_, _] C hz hC dL_refused_42 (ct_L_grace_2 l hfl (by decide)) wK_L_grace wM_L_127 wT_L_grace wI_L hd_L_grace rfl ⟨rfl, rfl⟩ ⟨Nat.le_of_ble_eq_true rfl, Nat.le_of_ble_eq_true rfl⟩ rfl rfl rfl rfl rfl rfl ?_
  refine sg_segs [_, _, _, _, _, _, _, _, _, _] rfl ?_
  refine sw_ldc 45 C dL_refused_45 (C.w wQ_L_20) ?_
  refine sw_icmp_ne 47 242 C dL_refused_47 (by decide) (fun c_47 => ?_) (fun c_47 => ?_)
  · exact by first | exact absurd c_47 (rfl) | exact absurd (rfl) c_47
  refine sw_aload_n 50 0 C dL_refused_50 rfl rfl ?_
  refine sw_iconst 51 C dL_refused_51 0 (by decide) ?_
  refine sw_iconst 52 C dL_refused_52 0 (by decide) ?_
  refine sw_iconst 53 C dL_refused_53 0 (by decide) ?_
  refine xl_callSI 54 [0, 1] 4 [_, _] C hz hC dL_refused_54 (ct_L_sends_2 l hfl (by decide)) wK_L_sends wM_L_130 wT_L_sends wI_L hd_L_sends rfl ⟨rfl, rfl⟩ ⟨Nat.le_of_ble_eq_true rfl, Nat.le_of_ble_eq_true rfl⟩ rfl rfl rfl rfl rfl rfl ?_
  refine sg_segs [_, _, _, _, _, _, _, _, _, _] rfl ?_
  refine sw_ldc 57 C dL_refused_57 (C.w wQ_L_20) ?_
  refine sw_icmp_ne 59 242 C dL_refused_59 (by decide) (fun c_59 => ?_) (fun c_59 => ?_)
  · exact by first | exact absurd c_59 (rfl) | exact absurd (rfl) c_59
  refine sw_aload_n 62 0 C dL_refused_62 rfl rfl ?_
  refine sw_iconst 63 C dL_refused_63 0 (by decide) ?_
  refine sw_iconst 64 C dL_refused_64 0 (by decide) ?_
  refine sw_iconst 65 C dL_refused_65 1 (by decide) ?_
  refine sw_bipush 66 C dL_refused_66 101 (by decide) ?_
  refine xl_callSI 68 [0, 1] 5 [_, _] C hz hC dL_refused_68 (ct_L_bribes_3 l hfl (by decide) (by decide)) wK_L_bribes wM_L_134 wT_L_bribes wI_L hd_L_bribes rfl ⟨rfl, rfl⟩ ⟨Nat.le_of_ble_eq_true rfl, Nat.le_of_ble_eq_true rfl⟩ rfl rfl rfl rfl rfl rfl ?_
  refine sg_segs [_, _, _, _, _, _, _, _, _, _] rfl ?_
  refine sw_ldc 71 C dL_refused_71 (C.w wQ_L_20) ?_
  refine sw_icmp_ne 73 242 C dL_refused_73 (by decide) (fun c_73 => ?_) (fun c_73 => ?_)
  · exact by first | exact absurd c_73 (rfl) | exact absurd (rfl) c_73
  refine sw_aload_n 76 0 C dL_refused_76 rfl rfl ?_
  refine sw_iconst 77 C dL_refused_77 3 (by decide) ?_
  refine sw_iconst 78 C dL_refused_78 3 (by decide) ?_
  refine sw_iconst 79 C dL_refused_79 0 (by decide) ?_
  refine sw_iconst 80 C dL_refused_80 1 (by decide) ?_
  refine xl_callSI 81 [0, 1] 5 [_, _] C hz hC dL_refused_81 (ct_L_joint_4 l hfl (by decide) (by decide) rfl) wK_L_joint wM_L_138 wT_L_joint wI_L hd_L_joint rfl ⟨rfl, rfl⟩ ⟨Nat.le_of_ble_eq_true rfl, Nat.le_of_ble_eq_true rfl⟩ rfl rfl rfl rfl rfl rfl ?_
  refine sg_segs [_, _, _, _, _, _, _, _, _, _] rfl ?_
  refine sw_ldc 84 C dL_refused_84 (C.w wQ_L_20) ?_
  refine sw_icmp_ne 86 242 C dL_refused_86 (by decide) (fun c_86 => ?_) (fun c_86 => ?_)
  · exact by first | exact absurd c_86 (rfl) | exact absurd (rfl) c_86
  refine sw_aload_n 89 0 C dL_refused_89 rfl rfl ?_
  refine sw_aload_n 90 0 C dL_refused_90 rfl rfl ?_
  refine sw_iconst 91 C dL_refused_91 2 (by decide) ?_
  refine xl_callSI 92 [0, 1] 2 [_, _] C hz hC dL_refused_92 (ct_L_value l hfl hS 2 rfl (by decide)) wK_L_value wM_L_95 wT_L_value wI_L hd_L_value rfl ⟨rfl, rfl⟩ ⟨Nat.le_of_ble_eq_true rfl, Nat.le_of_ble_eq_true rfl⟩ rfl rfl rfl rfl rfl rfl ?_
  refine sg_segs [_, _, _, _, _, _, _, _, _, _] rfl ?_
  refine sw_top (show _ = zp S from rfl) ?_
  refine xl_callSI 95 [0, 1] 2 [_, _] C hz hC dL_refused_95 (ct_L_takes_2 l hfl hS (fnd_new hnum)) wK_L_takes wM_L_141 wT_L_takes wI_L hd_L_takes rfl ⟨rfl, rfl⟩ ⟨Nat.le_of_ble_eq_true rfl, Nat.le_of_ble_eq_true rfl⟩ rfl rfl rfl rfl rfl rfl ?_
  refine sg_segs [_, _, _, _, _, _, _, _, _, _] rfl ?_
  refine sw_ldc 98 C dL_refused_98 (C.w wQ_L_17) ?_
  refine sw_icmp_ne 100 242 C dL_refused_100 (by decide) (fun c_100 => ?_) (fun c_100 => ?_)
  · exact by first | exact absurd c_100 (rfl) | exact absurd (rfl) c_100
  refine sw_aload_n 103 0 C dL_refused_103 rfl rfl ?_
  refine sw_sipush 104 C dL_refused_104 201 (by decide) ?_
  refine xl_callSI 107 [0, 1] 2 [_, _] C hz hC dL_refused_107 (ct_L_passes_2 l hfl (by decide)) wK_L_passes wM_L_144 wT_L_passes wI_L hd_L_passes rfl ⟨rfl, rfl⟩ ⟨Nat.le_of_ble_eq_true rfl, Nat.le_of_ble_eq_true rfl⟩ rfl rfl rfl rfl rfl rfl ?_
  refine sg_segs [_, _, _, _, _, _, _, _, _, _] rfl ?_
  refine sw_ldc 110 C dL_refused_110 (C.w wQ_L_20) ?_
  refine sw_icmp_ne 112 242 C dL_refused_112 (by decide) (fun c_112 => ?_) (fun c_112 => ?_)
  · exact by first | exact absurd c_112 (rfl) | exact absurd (rfl) c_112
  refine sw_aload_n 115 0 C dL_refused_115 rfl rfl ?_
  refine sw_iconst 116 C dL_refused_116 (-1) (by decide) ?_
  refine sw_iconst 117 C dL_refused_117 0 (by decide) ?_
  refine xl_callSI 118 [0, 1] 3 [_, _] C hz hC dL_refused_118 (ct_L_one_2 l hfl hS (fnd_neg hnum)) wK_L_one wM_L_108 wT_L_one wI_L hd_L_one rfl ⟨rfl, rfl⟩ ⟨Nat.le_of_ble_eq_true rfl, Nat.le_of_ble_eq_true rfl⟩ rfl rfl rfl rfl rfl rfl ?_
  refine sg_segs [_, _, _, _, _, _, _, _, _, _] rfl ?_
  refine sw_ldc 121 C dL_refused_121 (C.w wQ_L_17) ?_
  refine sw_icmp_ne 123 242 C dL_refused_123 (by decide) (fun c_123 => ?_) (fun c_123 => ?_)
  · exact by first | exact absurd c_123 (rfl) | exact absurd (rfl) c_123
  refine sw_aload_n 126 0 C dL_refused_126 rfl rfl ?_
  refine sw_aload_n 127 0 C dL_refused_127 rfl rfl ?_
  refine sw_iconst 128 C dL_refused_128 0 (by decide) ?_
  refine xl_callSI 129 [0, 1] 2 [_, _] C hz hC dL_refused_129 (ct_L_value l hfl hS 0 rfl (by decide)) wK_L_value wM_L_95 wT_L_value wI_L hd_L_value rfl ⟨rfl, rfl⟩ ⟨Nat.le_of_ble_eq_true rfl, Nat.le_of_ble_eq_true rfl⟩ rfl rfl rfl rfl rfl rfl ?_
  refine sg_segs [_, _, _, _, _, _, _, _, _, _] rfl ?_
  refine sw_top (show _ = nI (zn S) from rfl) ?_
  refine xl_callSI 132 [0, 1, 9] 2 [_, _, _] C hz hC dL_refused_132 (ct_L_peek_2 l hfl hS (Or.inr (Int32.le_refl _))) wK_L_peek wM_L_106 wT_L_peek wI_L hd_L_peek rfl ⟨rfl, rfl⟩ ⟨Nat.le_of_ble_eq_true rfl, Nat.le_of_ble_eq_true rfl⟩ rfl rfl rfl rfl rfl rfl ?_
  refine sg_segs [_, _, _, _, _, _, _, _, _, _] rfl ?_
  refine sw_ldc 135 C dL_refused_135 (C.w wQ_L_17) ?_
  refine sw_icmp_ne 137 242 C dL_refused_137 (by decide) (fun c_137 => ?_) (fun c_137 => ?_)
  · exact by first | exact absurd c_137 (rfl) | exact absurd (rfl) c_137
  refine sw_aload_n 140 0 C dL_refused_140 rfl rfl ?_
  refine sw_iconst 141 C dL_refused_141 (-1) (by decide) ?_
  refine xl_callSI 142 [0, 1] 2 [_, _] C hz hC dL_refused_142 (ct_L_sent_2 l hfl (by decide)) wK_L_sent wM_L_100 wT_L_sent wI_L hd_L_sent rfl ⟨rfl, rfl⟩ ⟨Nat.le_of_ble_eq_true rfl, Nat.le_of_ble_eq_true rfl⟩ rfl rfl rfl rfl rfl rfl ?_
  refine sg_segs [_, _, _, _, _, _, _, _, _, _] rfl ?_
  refine sw_ldc 145 C dL_refused_145 (C.w wQ_L_20) ?_
  refine sw_icmp_ne 147 242 C dL_refused_147 (by decide) (fun c_147 => ?_) (fun c_147 => ?_)
  · exact by first | exact absurd c_147 (rfl) | exact absurd (rfl) c_147
  refine sw_aload_n 150 0 C dL_refused_150 rfl rfl ?_
  refine sw_bipush 151 C dL_refused_151 8 (by decide) ?_
  refine xl_callSI 153 [0, 1] 2 [_, _] C hz hC dL_refused_153 (ct_L_given_2 l hfl (by decide)) wK_L_given wM_L_103 wT_L_given wI_L hd_L_given rfl ⟨rfl, rfl⟩ ⟨Nat.le_of_ble_eq_true rfl, Nat.le_of_ble_eq_true rfl⟩ rfl rfl rfl rfl rfl rfl ?_
  refine sg_segs [_, _, _, _, _, _, _, _, _, _] rfl ?_
  refine sw_ldc 156 C dL_refused_156 (C.w wQ_L_20) ?_
  refine sw_icmp_ne 158 242 C dL_refused_158 (by decide) (fun c_158 => ?_) (fun c_158 => ?_)
  · exact by first | exact absurd c_158 (rfl) | exact absurd (rfl) c_158
  refine sw_aload_n 161 0 C dL_refused_161 rfl rfl ?_
  refine sw_bipush 162 C dL_refused_162 16 (by decide) ?_
  refine sw_iconst 164 C dL_refused_164 0 (by decide) ?_
  refine xl_callSI 165 [0, 1] 3 [_, _] C hz hC dL_refused_165 (ct_L_entry_2 l hfl (Or.inr (nI_le (b := 16) hlc (by decide)))) wK_L_entry wM_L_115 wT_L_entry wI_L hd_L_entry rfl ⟨rfl, rfl⟩ ⟨Nat.le_of_ble_eq_true rfl, Nat.le_of_ble_eq_true rfl⟩ rfl rfl rfl rfl rfl rfl ?_
  refine sg_segs [_, _, _, _, _, _, _, _, _, _] rfl ?_
  refine sw_ldc 168 C dL_refused_168 (C.w wQ_L_17) ?_
  refine sw_icmp_ne 170 242 C dL_refused_170 (by decide) (fun c_170 => ?_) (fun c_170 => ?_)
  · exact by first | exact absurd c_170 (rfl) | exact absurd (rfl) c_170
  refine sw_aload_n 173 0 C dL_refused_173 rfl rfl ?_
  refine sw_iconst 174 C dL_refused_174 (-1) (by decide) ?_
  refine xl_callSI 175 [0, 1] 2 [_, _] C hz hC dL_refused_175 (ct_L_value_2 l hfl (by decide)) wK_L_value wM_L_95 wT_L_value wI_L hd_L_value rfl ⟨rfl, rfl⟩ ⟨Nat.le_of_ble_eq_true rfl, Nat.le_of_ble_eq_true rfl⟩ rfl rfl rfl rfl rfl rfl ?_
  refine sg_segs [_, _, _, _, _, _, _, _, _, _] rfl ?_
  refine sw_ldc 178 C dL_refused_178 (C.w wQ_L_20) ?_
  refine sw_icmp_ne 180 242 C dL_refused_180 (by decide) (fun c_180 => ?_) (fun c_180 => ?_)
  · exact by first | exact absurd c_180 (rfl) | exact absurd (rfl) c_180
  refine sw_aload_n 183 0 C dL_refused_183 rfl rfl ?_
  refine sw_iconst 184 C dL_refused_184 (-1) (by decide) ?_
  refine xl_callSI 185 [0, 1] 2 [_, _] C hz hC dL_refused_185 (ct_L_rank_2 l hfl (by decide)) wK_L_rank wM_L_147 wT_L_rank wI_L hd_L_rank rfl ⟨rfl, rfl⟩ ⟨Nat.le_of_ble_eq_true rfl, Nat.le_of_ble_eq_true rfl⟩ rfl rfl rfl rfl rfl rfl ?_
  refine sg_segs [_, _, _, _, _, _, _, _, _, _] rfl ?_
  refine sw_ldc 188 C dL_refused_188 (C.w wQ_L_20) ?_
  refine sw_icmp_ne 190 242 C dL_refused_190 (by decide) (fun c_190 => ?_) (fun c_190 => ?_)
  · exact by first | exact absurd c_190 (rfl) | exact absurd (rfl) c_190
  refine sw_aload_n 193 0 C dL_refused_193 rfl rfl ?_
  refine sw_aload_n 194 0 C dL_refused_194 rfl rfl ?_
  refine sw_iconst 195 C dL_refused_195 2 (by decide) ?_
  refine xl_callSI 196 [0, 1] 2 [_, _] C hz hC dL_refused_196 (ct_L_value l hfl hS 2 rfl (by decide)) wK_L_value wM_L_95 wT_L_value wI_L hd_L_value rfl ⟨rfl, rfl⟩ ⟨Nat.le_of_ble_eq_true rfl, Nat.le_of_ble_eq_true rfl⟩ rfl rfl rfl rfl rfl rfl ?_
  refine sg_segs [_, _, _, _, _, _, _, _, _, _] rfl ?_
  refine sw_top (show _ = zp S from rfl) ?_
  refine sw_iconst 199 C dL_refused_199 0 (by decide) ?_
  refine xl_callSI 200 [0, 1] 3 [_, _] C hz hC dL_refused_200 (ct_L_later_2 l hfl hS (fnd_new hnum)) wK_L_later wM_L_112 wT_L_later wI_L hd_L_later rfl ⟨rfl, rfl⟩ ⟨Nat.le_of_ble_eq_true rfl, Nat.le_of_ble_eq_true rfl⟩ rfl rfl rfl rfl rfl rfl ?_
  refine sg_segs [_, _, _, _, _, _, _, _, _, _] rfl ?_
  refine sw_ldc 203 C dL_refused_203 (C.w wQ_L_17) ?_
  refine sw_icmp_ne 205 242 C dL_refused_205 (by decide) (fun c_205 => ?_) (fun c_205 => ?_)
  · exact by first | exact absurd c_205 (rfl) | exact absurd (rfl) c_205
  refine sw_aload_n 208 0 C dL_refused_208 rfl rfl ?_
  refine sw_iconst 209 C dL_refused_209 (-1) (by decide) ?_
  refine xl_callSI 210 [0, 1] 2 [_, _] C hz hC dL_refused_210 (ct_L_served_2 l hfl hS (fnd_neg hnum)) wK_L_served wM_L_150 wT_L_served wI_L hd_L_served rfl ⟨rfl, rfl⟩ ⟨Nat.le_of_ble_eq_true rfl, Nat.le_of_ble_eq_true rfl⟩ rfl rfl rfl rfl rfl rfl ?_
  refine sg_segs [_, _, _, _, _, _, _, _, _, _] rfl ?_
  refine sw_ldc 213 C dL_refused_213 (C.w wQ_L_17) ?_
  refine sw_icmp_ne 215 242 C dL_refused_215 (by decide) (fun c_215 => ?_) (fun c_215 => ?_)
  · exact by first | exact absurd c_215 (rfl) | exact absurd (rfl) c_215
  refine sw_aload_n 218 0 C dL_refused_218 rfl rfl ?_
  refine sw_iconst 219 C dL_refused_219 5 (by decide) ?_
  refine xl_callSI 220 [0, 1] 2 [_, _] C hz hC dL_refused_220 (ct_L_leads_2 l hfl (by decide)) wK_L_leads wM_L_153 wT_L_leads wI_L hd_L_leads rfl ⟨rfl, rfl⟩ ⟨Nat.le_of_ble_eq_true rfl, Nat.le_of_ble_eq_true rfl⟩ rfl rfl rfl rfl rfl rfl ?_
  refine sg_segs [_, _, _, _, _, _, _, _, _, _] rfl ?_
  refine sw_ldc 223 C dL_refused_223 (C.w wQ_L_20) ?_
  refine sw_icmp_ne 225 242 C dL_refused_225 (by decide) (fun c_225 => ?_) (fun c_225 => ?_)
  · exact by first | exact absurd c_225 (rfl) | exact absurd (rfl) c_225
  refine sw_aload_n 228 0 C dL_refused_228 rfl rfl ?_
  refine sw_iconst 229 C dL_refused_229 (-1) (by decide) ?_
  refine xl_callSI 230 [0, 8] 2 [_, _] C hz hC dL_refused_230 (ct_L_types_2 l hfl (by decide)) wK_L_types wM_L_156 wT_L_types wI_L hd_L_types rfl ⟨rfl, rfl⟩ ⟨Nat.le_of_ble_eq_true rfl, Nat.le_of_ble_eq_true rfl⟩ rfl rfl rfl rfl rfl rfl ?_
  refine sg_segs [_, _, _, _, _, _, _, _, _, _] rfl ?_
  refine sw_ldc 233 C dL_refused_233 (C.w wQ_L_20) ?_
  refine sw_icmp_ne 235 242 C dL_refused_235 (by decide) (fun c_235 => ?_) (fun c_235 => ?_)
  · exact by first | exact absurd c_235 (rfl) | exact absurd (rfl) c_235
  refine sw_iconst 238 C dL_refused_238 1 (by decide) ?_
  refine sw_goto 239 243 C dL_refused_239 (by decide) ?_
  refine sw_istore_n 243 3 C dL_refused_243 rfl rfl ?_
  refine sw_loc (L1 := [(0, .ref _), (1, .long _), (3, .int _)]) ?_ rfl
  refine sw_iload_n 244 3 C dL_refused_244 rfl rfl ?_
  refine sw_if_eq 245 269 C dL_refused_245 (by decide) (fun c_245 => ?_) (fun c_245 => ?_)
  · exact by first | exact absurd c_245 (by decide) | exact absurd (by decide) c_245
  refine sw_aload_n 248 0 C dL_refused_248 rfl rfl ?_
  refine sw_iconst 249 C dL_refused_249 0 (by decide) ?_
  refine xl_callSI 250 [0, 1] 2 [_, _] C hz hC dL_refused_250 (ct_L_value l hfl hS 0 rfl (by decide)) wK_L_value wM_L_95 wT_L_value wI_L hd_L_value rfl ⟨rfl, rfl⟩ ⟨Nat.le_of_ble_eq_true rfl, Nat.le_of_ble_eq_true rfl⟩ rfl rfl rfl rfl rfl rfl ?_
  refine sg_segs [_, _, _, _, _, _, _, _, _, _] rfl ?_
  refine sw_top (show _ = nI (zn S) from rfl) ?_
  refine sw_if_gt 253 265 C dL_refused_253 (by decide) (fun c_253 => ?_) (fun c_253 => ?_)
  · refine sw_widen (k' := 21) (n' := 126) (by decide) (by decide) ?_
    refine sw_iconst 265 C dL_refused_265 1 (by decide) ?_
    refine sw_goto 266 270 C dL_refused_266 (by decide) ?_
    refine sw_istore_n 270 3 C dL_refused_270 rfl rfl ?_
    refine sw_iload_n 271 3 C dL_refused_271 rfl rfl ?_
    refine sw_if_eq 272 288 C dL_refused_272 (by decide) (fun c_272 => ?_) (fun c_272 => ?_)
    · exact by first | exact absurd c_272 (by decide) | exact absurd (by decide) c_272
    refine sw_aload_n 275 0 C dL_refused_275 rfl rfl ?_
    refine xl_callH 276 [0, 1, 2, 3, 4, 5, 6, 7, 8, 9] 1 C hz hC dL_refused_276 (ct_L_sum l hfl hJ) wK_L_sum wM_L_117 wT_L_sum wI_L hd_L_sum rfl ⟨rfl, rfl⟩ ⟨Nat.le_of_ble_eq_true rfl, Nat.le_of_ble_eq_true rfl⟩ rfl rfl rfl rfl (fun v_276 w_276 h_276 => ?_)
    obtain ⟨rfl, z9, hz9, rfl⟩ := h_276
    refine ⟨[_, _, _, _, _, _, _, _, _, _], rfl, rfl, ?_⟩
    refine sw_st (_ :: _) rfl ?_
    refine sg_segs [_, _, _, _, _, _, _, _, _, _] rfl ?_
    refine sw_lload_n 279 1 C dL_refused_279 rfl rfl ?_
    refine sw_lcmp 280 C dL_refused_280 ?_
    refine sw_if_ne 281 288 C dL_refused_281 (by decide) (fun c_281 => ?_) (fun c_281 => ?_)
    · exact by first | exact absurd c_281 (fun q => q (lcmp_self _)) | exact absurd (fun q => q (lcmp_self _)) c_281
    refine sw_iconst 284 C dL_refused_284 1 (by decide) ?_
    refine sw_goto 285 289 C dL_refused_285 (by decide) ?_
    refine sw_zret 289 C RC rfl dL_refused_289 ?_
    exact ⟨rfl, (_, _), trivial, rfl⟩
  · have h0 : zn S = 0 := by
      rcases Nat.eq_zero_or_pos (zn S) with q | q
      · exact q
      · exact absurd (nI_lt (a := 0) q (by omega)) c_253
    refine sw_aload_n 256 0 C dL_refused_256 rfl rfl ?_
    refine xl_callSI 257 [0, 1] 1 [_, _] C hz hC dL_refused_257 (ct_L_serves_2 l hfl h0) wK_L_serves wM_L_159 wT_L_serves wI_L hd_L_serves rfl ⟨rfl, rfl⟩ ⟨Nat.le_of_ble_eq_true rfl, Nat.le_of_ble_eq_true rfl⟩ rfl rfl rfl rfl rfl rfl ?_
    refine sg_segs [_, _, _, _, _, _, _, _, _, _] rfl ?_
    refine sw_ldc 260 C dL_refused_260 (C.w wQ_L_51) ?_
    refine sw_icmp_ne 262 269 C dL_refused_262 (by decide) (fun c_262 => ?_) (fun c_262 => ?_)
    · exact by first | exact absurd c_262 (rfl) | exact absurd (rfl) c_262
    refine sw_widen (k' := 21) (n' := 126) (by decide) (by decide) ?_
    refine sw_iconst 265 C dL_refused_265 1 (by decide) ?_
    refine sw_goto 266 270 C dL_refused_266 (by decide) ?_
    refine sw_istore_n 270 3 C dL_refused_270 rfl rfl ?_
    refine sw_iload_n 271 3 C dL_refused_271 rfl rfl ?_
    refine sw_if_eq 272 288 C dL_refused_272 (by decide) (fun c_272 => ?_) (fun c_272 => ?_)
    · exact by first | exact absurd c_272 (by decide) | exact absurd (by decide) c_272
    refine sw_aload_n 275 0 C dL_refused_275 rfl rfl ?_
    refine xl_callH 276 [0, 1, 2, 3, 4, 5, 6, 7, 8, 9] 1 C hz hC dL_refused_276 (ct_L_sum l hfl hJ) wK_L_sum wM_L_117 wT_L_sum wI_L hd_L_sum rfl ⟨rfl, rfl⟩ ⟨Nat.le_of_ble_eq_true rfl, Nat.le_of_ble_eq_true rfl⟩ rfl rfl rfl rfl (fun v_276 w_276 h_276 => ?_)
    obtain ⟨rfl, z9, hz9, rfl⟩ := h_276
    refine ⟨[_, _, _, _, _, _, _, _, _, _], rfl, rfl, ?_⟩
    refine sw_st (_ :: _) rfl ?_
    refine sg_segs [_, _, _, _, _, _, _, _, _, _] rfl ?_
    refine sw_lload_n 279 1 C dL_refused_279 rfl rfl ?_
    refine sw_lcmp 280 C dL_refused_280 ?_
    refine sw_if_ne 281 288 C dL_refused_281 (by decide) (fun c_281 => ?_) (fun c_281 => ?_)
    · exact by first | exact absurd c_281 (fun q => q (lcmp_self _)) | exact absurd (fun q => q (lcmp_self _)) c_281
    refine sw_iconst 284 C dL_refused_284 1 (by decide) ?_
    refine sw_goto 285 289 C dL_refused_285 (by decide) ?_
    refine sw_zret 289 C RC rfl dL_refused_289 ?_
    exact ⟨rfl, (_, _), trivial, rfl⟩
