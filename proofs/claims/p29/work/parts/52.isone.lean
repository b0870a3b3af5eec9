/-! one petition, at its place -/
set_option maxHeartbeats 8000000 in
set_option maxRecDepth 100000 in
theorem ct_L_isOne (l : Launch) (hfl : l.stackTraces = false) {D : va_G} {cI cJ cQ : ClassId} {x0a a0 a1 a2 a3 a4 a5 a6 a7 tr0 tr1 tr2 tr3 tr4 tr5 tr6 tr7 s0 s1 ra0 ra1 ra2 ra3 ra4 ra5 ra6 ra7 rb0 rb1 rb2 rb3 rb4 rb5 rb6 rb7 rc0 rc1 rc2 rc3 rc4 rc5 rc6 rc7 rd0 rd1 rd2 rd3 rd4 rd5 rd6 rd7 r0 t0 t1 w0 : Nat} {h : Nat → Option Nat} {S T : StT} {R : Nat → StT} {cn od ln : Nat} {by_ g : Nat → Int32} {X : RS} {B U : Nat} (hJ : JI B U S) {x1 x2 : Int32} (k : Nat) (hk : k < zn S) (h1 : x1 = zf S ((plc (zf S) (zn S) k) * 8 + 7)) (h2 : x2 = nI k) : LCt l yL_isOne (Cond.code yL_isOne cL_isOne 9 (some .boolean)) 10 189 0 0 D (tyz cI cJ cQ) [.ref x0a, .int x1, .int x2] (flatS [[(x0a, .inr (6, [.ref a0, .ref tr0, .ref s0, .ref r0, .ref w0]))], (wSt a0 a1 a2 a3 a4 a5 a6 a7 cI (S)), [(s0, .inr (3, [.int (nI (cn)), .int (nI (od)), .ref s1])), (s1, .inl (cQ, 4, .inr (.inr (.inr (.inr h)))))], (wSt ra0 ra1 ra2 ra3 ra4 ra5 ra6 ra7 cI ((R) 0)), (wSt rb0 rb1 rb2 rb3 rb4 rb5 rb6 rb7 cI ((R) 1)), (wSt rc0 rc1 rc2 rc3 rc4 rc5 rc6 rc7 cI ((R) 2)), (wSt rd0 rd1 rd2 rd3 rd4 rd5 rd6 rd7 cI ((R) 3)), (wSt tr0 tr1 tr2 tr3 tr4 tr5 tr6 tr7 cI (T)), (wRd r0 t0 t1 cI (ln) (by_) (X)), [(w0, .inl (cI, 40, .inl (g)))]]) (pstE 1 (fun _ : StT × (Nat → Int32) => True) (fun z : StT × (Nat → Int32) => (flatS [[(x0a, .inr (6, [.ref a0, .ref tr0, .ref s0, .ref r0, .ref w0]))], (wSt a0 a1 a2 a3 a4 a5 a6 a7 cI (S)), [(s0, .inr (3, [.int (nI (cn)), .int (nI (od)), .ref s1])), (s1, .inl (cQ, 4, .inr (.inr (.inr (.inr h)))))], (wSt ra0 ra1 ra2 ra3 ra4 ra5 ra6 ra7 cI ((R) 0)), (wSt rb0 rb1 rb2 rb3 rb4 rb5 rb6 rb7 cI ((R) 1)), (wSt rc0 rc1 rc2 rc3 rc4 rc5 rc6 rc7 cI ((R) 2)), (wSt rd0 rd1 rd2 rd3 rd4 rd5 rd6 rd7 cI ((R) 3)), (wSt tr0 tr1 tr2 tr3 tr4 tr5 tr6 tr7 cI (z.1)), (wRd r0 t0 t1 cI (ln) (by_) (X)), [(w0, .inl (cI, 40, .inl (z.2)))]]))) := by
  refine LCt.ofC RL (by decide) rfl (Nat.le_of_ble_eq_true rfl) ?_
  intro p e s m below meth c A C RC hz hC
  subst h1 h2
  have hS := hJ.si
  have hn := hJ.o.n
  have hlc := hJ.si.2.1
  have hnum := hJ.o.num
  have hrow := hJ.o.row
  obtain ⟨hi, hcb⟩ := plc_ok hnum hrow hn hk
  have hf := fnd_num hnum hi
  obtain ⟨s9, r, w, b, q9, b1, b2, b3, b4, b5, e0, e2, e3, e4, e5⟩ := row_wb hJ hi
  have hr2 := (hJ.r (plc (zf S) (zn S) k) hi).2
  have hro := (hrow (plc (zf S) (zn S) k) hi).2.2.2
  have h7 : zf S ((plc (zf S) (zn S) k) * 8 + 5) - zf S ((plc (zf S) (zn S) k) * 8 + 3) = nI (b - w) := by rw [e5, e3, pk_sub (by omega)]
  obtain ⟨r2, q1, q2, q3⟩ := rkf_lo (i := (plc (zf S) (zn S) k)) (b - w - 1) S r w b e2 b2 e3 e5 b4 (by omega)
  have h98 : nI (b - w) = nI b - nI w := by rw [pk_sub (by omega)]
  have h137 : bI (decide (knd (zf S) (plc (zf S) (zn S) k) = 1)) = bI (decide (0 < zf S ((plc (zf S) (zn S) k) * 8 + 6))) := congrArg bI (decide_eq_decide.mpr (knd_1 hro))
  have h166 : bI (decide (knd (zf S) (plc (zf S) (zn S) k) = 2)) = bI (decide (¬ zf S ((plc (zf S) (zn S) k) * 8 + 1) = -1)) := congrArg bI (decide_eq_decide.mpr knd_2)
  have h181 : ¬ zf S ((plc (zf S) (zn S) k) * 8 + 0) = zf S ((plc (zf S) (zn S) k) * 8 + 1) := fun q => by
    rcases hr2 with z | ⟨-, z⟩
    · rw [z, e0] at q
      exact absurd q (i32_ne_m1 (by omega))
    · exact z q.symm
  have hx := rkf_hi (i := (plc (zf S) (zn S) k)) (b - w) S w b e3 e5 b4 b3 (by omega)
  refine sw_aload_n 0 0 C dL_isOne_0 rfl rfl ?_
  refine sw_iload_n 1 1 C dL_isOne_1 rfl rfl ?_
  refine sw_iconst 2 C dL_isOne_2 2 (by decide) ?_
  refine xl_callSI 3 [0, 1] 3 [_, _] C hz hC dL_isOne_3 (ct_L_one l hfl hS (plc (zf S) (zn S) k) hf 2 rfl (by decide)) wK_L_one wM_L_108 wT_L_one wI_L hd_L_one rfl ⟨rfl, rfl⟩ ⟨Nat.le_of_ble_eq_true rfl, Nat.le_of_ble_eq_true rfl⟩ rfl rfl rfl rfl rfl rfl ?_
  refine sg_segs [_, _, _, _, _, _, _, _, _, _] rfl ?_
  refine sw_top (show tel (zf S) (zn S) (plc (zf S) (zn S) k) 2 = nI r from e2) ?_
  refine sw_istore_n 6 3 C dL_isOne_6 rfl rfl ?_
  refine sw_aload_n 7 0 C dL_isOne_7 rfl rfl ?_
  refine sw_iload_n 8 1 C dL_isOne_8 rfl rfl ?_
  refine sw_iconst 9 C dL_isOne_9 3 (by decide) ?_
  refine xl_callSI 10 [0, 1] 3 [_, _] C hz hC dL_isOne_10 (ct_L_one l hfl hS (plc (zf S) (zn S) k) hf 3 rfl (by decide)) wK_L_one wM_L_108 wT_L_one wI_L hd_L_one rfl ⟨rfl, rfl⟩ ⟨Nat.le_of_ble_eq_true rfl, Nat.le_of_ble_eq_true rfl⟩ rfl rfl rfl rfl rfl rfl ?_
  refine sg_segs [_, _, _, _, _, _, _, _, _, _] rfl ?_
  refine sw_top (show tel (zf S) (zn S) (plc (zf S) (zn S) k) 3 = nI w from e3) ?_
  refine sw_istore 13 C dL_isOne_13 rfl ?_
  refine sw_loc (L1 := [(0, .ref _), (1, .int _), (2, .int _), (3, .int _), (4, .int _)]) ?_ rfl
  refine sw_aload_n 15 0 C dL_isOne_15 rfl rfl ?_
  refine sw_iload_n 16 1 C dL_isOne_16 rfl rfl ?_
  refine sw_bipush 17 C dL_isOne_17 9 (by decide) ?_
  refine xl_callSI 19 [0, 1] 3 [_, _] C hz hC dL_isOne_19 (ct_L_one l hfl hS (plc (zf S) (zn S) k) hf 9 rfl (by decide)) wK_L_one wM_L_108 wT_L_one wI_L hd_L_one rfl ⟨rfl, rfl⟩ ⟨Nat.le_of_ble_eq_true rfl, Nat.le_of_ble_eq_true rfl⟩ rfl rfl rfl rfl rfl rfl ?_
  refine sg_segs [_, _, _, _, _, _, _, _, _, _] rfl ?_
  refine sw_top (show tel (zf S) (zn S) (plc (zf S) (zn S) k) 9 = knd (zf S) (plc (zf S) (zn S) k) from rfl) ?_
  refine sw_istore 22 C dL_isOne_22 rfl ?_
  refine sw_iload_n 24 1 C dL_isOne_24 rfl rfl ?_
  refine sw_if_lt 25 188 C dL_isOne_25 (by decide) (fun c_25 => ?_) (fun c_25 => ?_)
  · exact by first | exact absurd c_25 (Int32.not_lt.mpr (hnum.1 (plc (zf S) (zn S) k) hi).1) | exact absurd (Int32.not_lt.mpr (hnum.1 (plc (zf S) (zn S) k) hi).1) c_25
  refine sw_iload_n 28 1 C dL_isOne_28 rfl rfl ?_
  refine sw_aload_n 29 0 C dL_isOne_29 rfl rfl ?_
  refine sw_iconst 30 C dL_isOne_30 2 (by decide) ?_
  refine xl_callSI 31 [0, 1] 2 [_, _] C hz hC dL_isOne_31 (ct_L_value l hfl hS 2 rfl (by decide)) wK_L_value wM_L_95 wT_L_value wI_L hd_L_value rfl ⟨rfl, rfl⟩ ⟨Nat.le_of_ble_eq_true rfl, Nat.le_of_ble_eq_true rfl⟩ rfl rfl rfl rfl rfl rfl ?_
  refine sg_segs [_, _, _, _, _, _, _, _, _, _] rfl ?_
  refine sw_top (show _ = zp S from rfl) ?_
  refine sw_icmp_ge 34 188 C dL_isOne_34 (by decide) (fun c_34 => ?_) (fun c_34 => ?_)
  · exact by first | exact absurd c_34 (Int32.not_le.mpr (hnum.1 (plc (zf S) (zn S) k) hi).2) | exact absurd (Int32.not_le.mpr (hnum.1 (plc (zf S) (zn S) k) hi).2) c_34
  refine sw_aload_n 37 0 C dL_isOne_37 rfl rfl ?_
  refine sw_iload_n 38 1 C dL_isOne_38 rfl rfl ?_
  refine sw_bipush 39 C dL_isOne_39 8 (by decide) ?_
  refine xl_callSI 41 [0, 1] 3 [_, _] C hz hC dL_isOne_41 (ct_L_one l hfl hS (plc (zf S) (zn S) k) hf 8 rfl (by decide)) wK_L_one wM_L_108 wT_L_one wI_L hd_L_one rfl ⟨rfl, rfl⟩ ⟨Nat.le_of_ble_eq_true rfl, Nat.le_of_ble_eq_true rfl⟩ rfl rfl rfl rfl rfl rfl ?_
  refine sg_segs [_, _, _, _, _, _, _, _, _, _] rfl ?_
  refine sw_top (show tel (zf S) (zn S) (plc (zf S) (zn S) k) 8 = nI k from congrArg nI hcb) ?_
  refine sw_iload_n 44 2 C dL_isOne_44 rfl rfl ?_
  refine sw_icmp_ne 45 188 C dL_isOne_45 (by decide) (fun c_45 => ?_) (fun c_45 => ?_)
  · exact by first | exact absurd c_45 (rfl) | exact absurd (rfl) c_45
  refine sw_iload_n 48 3 C dL_isOne_48 rfl rfl ?_
  refine sw_if_lt 49 188 C dL_isOne_49 (by decide) (fun c_49 => ?_) (fun c_49 => ?_)
  · exact by first | exact absurd c_49 (nI_pos (by omega)) | exact absurd (nI_pos (by omega)) c_49
  refine sw_iload_n 52 3 C dL_isOne_52 rfl rfl ?_
  refine sw_iconst 53 C dL_isOne_53 5 (by decide) ?_
  refine sw_icmp_ge 54 188 C dL_isOne_54 (by decide) (fun c_54 => ?_) (fun c_54 => ?_)
  · exact by first | exact absurd c_54 (nI_ge (show r < 5 by omega) (by decide)) | exact absurd (nI_ge (show r < 5 by omega) (by decide)) c_54
  refine sw_iload 57 C dL_isOne_57 rfl ?_
  refine sw_if_lt 59 188 C dL_isOne_59 (by decide) (fun c_59 => ?_) (fun c_59 => ?_)
  · exact by first | exact absurd c_59 (nI_pos (by omega)) | exact absurd (nI_pos (by omega)) c_59
  refine sw_aload_n 62 0 C dL_isOne_62 rfl rfl ?_
  refine sw_iload_n 63 1 C dL_isOne_63 rfl rfl ?_
  refine sw_iconst 64 C dL_isOne_64 4 (by decide) ?_
  refine xl_callSI 65 [0, 1] 3 [_, _] C hz hC dL_isOne_65 (ct_L_one l hfl hS (plc (zf S) (zn S) k) hf 4 rfl (by decide)) wK_L_one wM_L_108 wT_L_one wI_L hd_L_one rfl ⟨rfl, rfl⟩ ⟨Nat.le_of_ble_eq_true rfl, Nat.le_of_ble_eq_true rfl⟩ rfl rfl rfl rfl rfl rfl ?_
  refine sg_segs [_, _, _, _, _, _, _, _, _, _] rfl ?_
  refine sw_top (show tel (zf S) (zn S) (plc (zf S) (zn S) k) 4 = nI q9 from e4) ?_
  refine sw_if_lt 68 188 C dL_isOne_68 (by decide) (fun c_68 => ?_) (fun c_68 => ?_)
  · exact by first | exact absurd c_68 (nI_pos (by omega)) | exact absurd (nI_pos (by omega)) c_68
  refine sw_aload_n 71 0 C dL_isOne_71 rfl rfl ?_
  refine sw_iload_n 72 1 C dL_isOne_72 rfl rfl ?_
  refine sw_iconst 73 C dL_isOne_73 4 (by decide) ?_
  refine xl_callSI 74 [0, 1] 3 [_, _] C hz hC dL_isOne_74 (ct_L_one l hfl hS (plc (zf S) (zn S) k) hf 4 rfl (by decide)) wK_L_one wM_L_108 wT_L_one wI_L hd_L_one rfl ⟨rfl, rfl⟩ ⟨Nat.le_of_ble_eq_true rfl, Nat.le_of_ble_eq_true rfl⟩ rfl rfl rfl rfl rfl rfl ?_
  refine sg_segs [_, _, _, _, _, _, _, _, _, _] rfl ?_
  refine sw_top (show tel (zf S) (zn S) (plc (zf S) (zn S) k) 4 = nI q9 from e4) ?_
  refine sw_iload 77 C dL_isOne_77 rfl ?_
  refine sw_icmp_gt 79 188 C dL_isOne_79 (by decide) (fun c_79 => ?_) (fun c_79 => ?_)
  · exact by first | exact absurd c_79 (Int32.not_lt.mpr (nI_le b5 (by omega))) | exact absurd (Int32.not_lt.mpr (nI_le b5 (by omega))) c_79
  refine sw_aload_n 82 0 C dL_isOne_82 rfl rfl ?_
  refine sw_iload_n 83 1 C dL_isOne_83 rfl rfl ?_
  refine sw_bipush 84 C dL_isOne_84 7 (by decide) ?_
  refine xl_callSI 86 [0, 1] 3 [_, _] C hz hC dL_isOne_86 (ct_L_one l hfl hS (plc (zf S) (zn S) k) hf 7 rfl (by decide)) wK_L_one wM_L_108 wT_L_one wI_L hd_L_one rfl ⟨rfl, rfl⟩ ⟨Nat.le_of_ble_eq_true rfl, Nat.le_of_ble_eq_true rfl⟩ rfl rfl rfl rfl rfl rfl ?_
  refine sg_segs [_, _, _, _, _, _, _, _, _, _] rfl ?_
  refine sw_top (show tel (zf S) (zn S) (plc (zf S) (zn S) k) 7 = nI (b - w) from h7) ?_
  refine sw_aload_n 89 0 C dL_isOne_89 rfl rfl ?_
  refine sw_iload_n 90 1 C dL_isOne_90 rfl rfl ?_
  refine sw_iconst 91 C dL_isOne_91 5 (by decide) ?_
  refine xl_callSI 92 [0, 1] 3 [_, _] C hz hC dL_isOne_92 (ct_L_one l hfl hS (plc (zf S) (zn S) k) hf 5 rfl (by decide)) wK_L_one wM_L_108 wT_L_one wI_L hd_L_one rfl ⟨rfl, rfl⟩ ⟨Nat.le_of_ble_eq_true rfl, Nat.le_of_ble_eq_true rfl⟩ rfl rfl rfl rfl rfl rfl ?_
  refine sg_segs [_, _, _, _, _, _, _, _, _, _] rfl ?_
  refine sw_top (show tel (zf S) (zn S) (plc (zf S) (zn S) k) 5 = nI b from e5) ?_
  refine sw_iload 95 C dL_isOne_95 rfl ?_
  refine sw_isub 97 C dL_isOne_97 ?_
  refine sw_icmp_ne 98 188 C dL_isOne_98 (by decide) (fun c_98 => ?_) (fun c_98 => ?_)
  · exact by first | exact absurd c_98 (h98) | exact absurd (h98) c_98
  refine sw_aload_n 101 0 C dL_isOne_101 rfl rfl ?_
  refine sw_iload_n 102 1 C dL_isOne_102 rfl rfl ?_
  refine sw_bipush 103 C dL_isOne_103 7 (by decide) ?_
  refine xl_callSI 105 [0, 1] 3 [_, _] C hz hC dL_isOne_105 (ct_L_one l hfl hS (plc (zf S) (zn S) k) hf 7 rfl (by decide)) wK_L_one wM_L_108 wT_L_one wI_L hd_L_one rfl ⟨rfl, rfl⟩ ⟨Nat.le_of_ble_eq_true rfl, Nat.le_of_ble_eq_true rfl⟩ rfl rfl rfl rfl rfl rfl ?_
  refine sg_segs [_, _, _, _, _, _, _, _, _, _] rfl ?_
  refine sw_top (show tel (zf S) (zn S) (plc (zf S) (zn S) k) 7 = nI (b - w) from h7) ?_
  refine sw_if_le 108 188 C dL_isOne_108 (by decide) (fun c_108 => ?_) (fun c_108 => ?_)
  · exact by first | exact absurd c_108 (nI_ge (a := 0) (show 0 < b - w by omega) (by omega)) | exact absurd (nI_ge (a := 0) (show 0 < b - w by omega) (by omega)) c_108
  refine sw_iload 111 C dL_isOne_111 rfl ?_
  refine sw_iconst 113 C dL_isOne_113 1 (by decide) ?_
  refine sw_jn2 122 (bI (decide (knd (zf S) (plc (zf S) (zn S) k) = 1))) (fun hj_114 => ?_) ?_
  · refine sw_icmp_ne 114 121 C dL_isOne_114 (by decide) (fun c_114 => ?_) (fun c_114 => ?_)
    · refine sw_iconst 121 C dL_isOne_121 0 (by decide) ?_
      exact sw_top (by rw [decide_eq_false c_114]; rfl) hj_114
    · refine sw_iconst 117 C dL_isOne_117 1 (by decide) ?_
      refine sw_goto 118 122 C dL_isOne_118 (by decide) ?_
      exact sw_top (by rw [decide_eq_true c_114]; rfl) hj_114
  refine sw_aload_n 122 0 C dL_isOne_122 rfl rfl ?_
  refine sw_iload_n 123 1 C dL_isOne_123 rfl rfl ?_
  refine sw_bipush 124 C dL_isOne_124 6 (by decide) ?_
  refine xl_callSI 126 [0, 1] 3 [_, _] C hz hC dL_isOne_126 (ct_L_one l hfl hS (plc (zf S) (zn S) k) hf 6 rfl (by decide)) wK_L_one wM_L_108 wT_L_one wI_L hd_L_one rfl ⟨rfl, rfl⟩ ⟨Nat.le_of_ble_eq_true rfl, Nat.le_of_ble_eq_true rfl⟩ rfl rfl rfl rfl rfl rfl ?_
  refine sg_segs [_, _, _, _, _, _, _, _, _, _] rfl ?_
  refine sw_top (show tel (zf S) (zn S) (plc (zf S) (zn S) k) 6 = zf S ((plc (zf S) (zn S) k) * 8 + 6) from rfl) ?_
  refine sw_jn1 137 (bI (decide (0 < zf S ((plc (zf S) (zn S) k) * 8 + 6)))) (fun hj_129 => ?_) ?_
  · refine sw_if_le 129 136 C dL_isOne_129 (by decide) (fun c_129 => ?_) (fun c_129 => ?_)
    · refine sw_iconst 136 C dL_isOne_136 0 (by decide) ?_
      exact sw_top (by rw [decide_eq_false (Int32.not_lt.mpr c_129)]; rfl) hj_129
    · refine sw_iconst 132 C dL_isOne_132 1 (by decide) ?_
      refine sw_goto 133 137 C dL_isOne_133 (by decide) ?_
      exact sw_top (by rw [decide_eq_true (Int32.not_le.mp c_129)]; rfl) hj_129
  refine sw_icmp_ne 137 188 C dL_isOne_137 (by decide) (fun c_137 => ?_) (fun c_137 => ?_)
  · exact by first | exact absurd c_137 (h137) | exact absurd (h137) c_137
  refine sw_iload 140 C dL_isOne_140 rfl ?_
  refine sw_iconst 142 C dL_isOne_142 2 (by decide) ?_
  refine sw_jn2 151 (bI (decide (knd (zf S) (plc (zf S) (zn S) k) = 2))) (fun hj_143 => ?_) ?_
  · refine sw_icmp_ne 143 150 C dL_isOne_143 (by decide) (fun c_143 => ?_) (fun c_143 => ?_)
    · refine sw_iconst 150 C dL_isOne_150 0 (by decide) ?_
      exact sw_top (by rw [decide_eq_false c_143]; rfl) hj_143
    · refine sw_iconst 146 C dL_isOne_146 1 (by decide) ?_
      refine sw_goto 147 151 C dL_isOne_147 (by decide) ?_
      exact sw_top (by rw [decide_eq_true c_143]; rfl) hj_143
  refine sw_aload_n 151 0 C dL_isOne_151 rfl rfl ?_
  refine sw_iload_n 152 1 C dL_isOne_152 rfl rfl ?_
  refine sw_iconst 153 C dL_isOne_153 1 (by decide) ?_
  refine xl_callSI 154 [0, 1] 3 [_, _] C hz hC dL_isOne_154 (ct_L_one l hfl hS (plc (zf S) (zn S) k) hf 1 rfl (by decide)) wK_L_one wM_L_108 wT_L_one wI_L hd_L_one rfl ⟨rfl, rfl⟩ ⟨Nat.le_of_ble_eq_true rfl, Nat.le_of_ble_eq_true rfl⟩ rfl rfl rfl rfl rfl rfl ?_
  refine sg_segs [_, _, _, _, _, _, _, _, _, _] rfl ?_
  refine sw_top (show tel (zf S) (zn S) (plc (zf S) (zn S) k) 1 = zf S ((plc (zf S) (zn S) k) * 8 + 1) from rfl) ?_
  refine sw_iconst 157 C dL_isOne_157 (-1) (by decide) ?_
  refine sw_jn2 166 (bI (decide (¬ zf S ((plc (zf S) (zn S) k) * 8 + 1) = -1))) (fun hj_158 => ?_) ?_
  · refine sw_icmp_eq 158 165 C dL_isOne_158 (by decide) (fun c_158 => ?_) (fun c_158 => ?_)
    · refine sw_iconst 165 C dL_isOne_165 0 (by decide) ?_
      exact sw_top (by rw [decide_eq_false (fun q => q c_158)]; rfl) hj_158
    · refine sw_iconst 161 C dL_isOne_161 1 (by decide) ?_
      refine sw_goto 162 166 C dL_isOne_162 (by decide) ?_
      exact sw_top (by rw [decide_eq_true c_158]; rfl) hj_158
  refine sw_icmp_ne 166 188 C dL_isOne_166 (by decide) (fun c_166 => ?_) (fun c_166 => ?_)
  · exact by first | exact absurd c_166 (h166) | exact absurd (h166) c_166
  refine sw_aload_n 169 0 C dL_isOne_169 rfl rfl ?_
  refine sw_iload_n 170 1 C dL_isOne_170 rfl rfl ?_
  refine sw_iconst 171 C dL_isOne_171 0 (by decide) ?_
  refine xl_callSI 172 [0, 1] 3 [_, _] C hz hC dL_isOne_172 (ct_L_one l hfl hS (plc (zf S) (zn S) k) hf 0 rfl (by decide)) wK_L_one wM_L_108 wT_L_one wI_L hd_L_one rfl ⟨rfl, rfl⟩ ⟨Nat.le_of_ble_eq_true rfl, Nat.le_of_ble_eq_true rfl⟩ rfl rfl rfl rfl rfl rfl ?_
  refine sg_segs [_, _, _, _, _, _, _, _, _, _] rfl ?_
  refine sw_top (show tel (zf S) (zn S) (plc (zf S) (zn S) k) 0 = zf S ((plc (zf S) (zn S) k) * 8 + 0) from rfl) ?_
  refine sw_aload_n 175 0 C dL_isOne_175 rfl rfl ?_
  refine sw_iload_n 176 1 C dL_isOne_176 rfl rfl ?_
  refine sw_iconst 177 C dL_isOne_177 1 (by decide) ?_
  refine xl_callSI 178 [0, 1] 3 [_, _] C hz hC dL_isOne_178 (ct_L_one l hfl hS (plc (zf S) (zn S) k) hf 1 rfl (by decide)) wK_L_one wM_L_108 wT_L_one wI_L hd_L_one rfl ⟨rfl, rfl⟩ ⟨Nat.le_of_ble_eq_true rfl, Nat.le_of_ble_eq_true rfl⟩ rfl rfl rfl rfl rfl rfl ?_
  refine sg_segs [_, _, _, _, _, _, _, _, _, _] rfl ?_
  refine sw_top (show tel (zf S) (zn S) (plc (zf S) (zn S) k) 1 = zf S ((plc (zf S) (zn S) k) * 8 + 1) from rfl) ?_
  refine sw_icmp_eq 181 188 C dL_isOne_181 (by decide) (fun c_181 => ?_) (fun c_181 => ?_)
  · exact by first | exact absurd c_181 (h181) | exact absurd (h181) c_181
  refine sw_iconst 184 C dL_isOne_184 1 (by decide) ?_
  refine sw_goto 185 189 C dL_isOne_185 (by decide) ?_
  refine sw_istore 189 C dL_isOne_189 rfl ?_
  refine sw_loc (L1 := [(0, .ref _), (1, .int _), (2, .int _), (3, .int _), (4, .int _), (5, .int _), (6, .int _)]) ?_ rfl
  refine sw_iload 191 C dL_isOne_191 rfl ?_
  refine sw_if_eq 193 269 C dL_isOne_193 (by decide) (fun c_193 => ?_) (fun c_193 => ?_)
  · exact by first | exact absurd c_193 (by decide) | exact absurd (by decide) c_193
  refine sw_aload_n 196 0 C dL_isOne_196 rfl rfl ?_
  refine sw_iload_n 197 1 C dL_isOne_197 rfl rfl ?_
  refine sw_iconst 198 C dL_isOne_198 0 (by decide) ?_
  refine xl_callSI 199 [0, 1, 7] 3 [_, _, _] C hz hC dL_isOne_199 (ct_L_later l hfl hS (plc (zf S) (zn S) k) hf 0 rfl (by decide)) wK_L_later wM_L_112 wT_L_later wI_L hd_L_later rfl ⟨rfl, rfl⟩ ⟨Nat.le_of_ble_eq_true rfl, Nat.le_of_ble_eq_true rfl⟩ rfl rfl rfl rfl rfl rfl ?_
  refine sg_segs [_, _, _, _, _, _, _, _, _, _] rfl ?_
  refine sw_top (show (rkf (plc (zf S) (zn S) k) 0 S).1 = nI r from e2) ?_
  refine sw_iload_n 202 3 C dL_isOne_202 rfl rfl ?_
  refine sw_icmp_ne 203 269 C dL_isOne_203 (by decide) (fun c_203 => ?_) (fun c_203 => ?_)
  · exact by first | exact absurd c_203 (rfl) | exact absurd (rfl) c_203
  refine sw_aload_n 206 0 C dL_isOne_206 rfl rfl ?_
  refine sw_iload_n 207 1 C dL_isOne_207 rfl rfl ?_
  refine sw_aload_n 208 0 C dL_isOne_208 rfl rfl ?_
  refine sw_iload_n 209 1 C dL_isOne_209 rfl rfl ?_
  refine sw_bipush 210 C dL_isOne_210 7 (by decide) ?_
  refine xl_callSI 212 [0, 1] 3 [_, _] C hz hC dL_isOne_212 (ct_L_one l hfl hS (plc (zf S) (zn S) k) hf 7 rfl (by decide)) wK_L_one wM_L_108 wT_L_one wI_L hd_L_one rfl ⟨rfl, rfl⟩ ⟨Nat.le_of_ble_eq_true rfl, Nat.le_of_ble_eq_true rfl⟩ rfl rfl rfl rfl rfl rfl ?_
  refine sg_segs [_, _, _, _, _, _, _, _, _, _] rfl ?_
  refine sw_top (show tel (zf S) (zn S) (plc (zf S) (zn S) k) 7 = nI (b - w) from h7) ?_
  refine xl_callSI 215 [0, 1, 7] 3 [_, _, _] C hz hC dL_isOne_215 (ct_L_later l hfl hS (plc (zf S) (zn S) k) hf (b - w) rfl (by omega)) wK_L_later wM_L_112 wT_L_later wI_L hd_L_later rfl ⟨rfl, rfl⟩ ⟨Nat.le_of_ble_eq_true rfl, Nat.le_of_ble_eq_true rfl⟩ rfl rfl rfl rfl rfl rfl ?_
  refine sg_segs [_, _, _, _, _, _, _, _, _, _] rfl ?_
  refine sw_top hx ?_
  refine sw_iconst 218 C dL_isOne_218 (-1) (by decide) ?_
  refine sw_icmp_ne 219 269 C dL_isOne_219 (by decide) (fun c_219 => ?_) (fun c_219 => ?_)
  · exact by first | exact absurd c_219 (rfl) | exact absurd (rfl) c_219
  refine sw_aload_n 222 0 C dL_isOne_222 rfl rfl ?_
  refine sw_iload_n 223 1 C dL_isOne_223 rfl rfl ?_
  refine sw_aload_n 224 0 C dL_isOne_224 rfl rfl ?_
  refine sw_iload_n 225 1 C dL_isOne_225 rfl rfl ?_
  refine sw_bipush 226 C dL_isOne_226 7 (by decide) ?_
  refine xl_callSI 228 [0, 1] 3 [_, _] C hz hC dL_isOne_228 (ct_L_one l hfl hS (plc (zf S) (zn S) k) hf 7 rfl (by decide)) wK_L_one wM_L_108 wT_L_one wI_L hd_L_one rfl ⟨rfl, rfl⟩ ⟨Nat.le_of_ble_eq_true rfl, Nat.le_of_ble_eq_true rfl⟩ rfl rfl rfl rfl rfl rfl ?_
  refine sg_segs [_, _, _, _, _, _, _, _, _, _] rfl ?_
  refine sw_top (show tel (zf S) (zn S) (plc (zf S) (zn S) k) 7 = nI (b - w) from h7) ?_
  refine sw_iconst 231 C dL_isOne_231 1 (by decide) ?_
  refine sw_isub 232 C dL_isOne_232 ?_
  refine sw_top (show nI (b - w) - 1 = nI (b - w - 1) by rw [show (1 : Int32) = nI 1 from rfl, pk_sub (by omega)]) ?_
  refine xl_callSI 233 [0, 1, 7] 3 [_, _, _] C hz hC dL_isOne_233 (ct_L_later l hfl hS (plc (zf S) (zn S) k) hf (b - w - 1) rfl (by omega)) wK_L_later wM_L_112 wT_L_later wI_L hd_L_later rfl ⟨rfl, rfl⟩ ⟨Nat.le_of_ble_eq_true rfl, Nat.le_of_ble_eq_true rfl⟩ rfl rfl rfl rfl rfl rfl ?_
  refine sg_segs [_, _, _, _, _, _, _, _, _, _] rfl ?_
  refine sw_top q3 ?_
  refine sw_iload_n 236 3 C dL_isOne_236 rfl rfl ?_
  refine sw_icmp_lt 237 269 C dL_isOne_237 (by decide) (fun c_237 => ?_) (fun c_237 => ?_)
  · exact by first | exact absurd c_237 (Int32.not_lt.mpr (nI_le q1 (by omega))) | exact absurd (Int32.not_lt.mpr (nI_le q1 (by omega))) c_237
  refine sw_aload_n 240 0 C dL_isOne_240 rfl rfl ?_
  refine sw_iload_n 241 1 C dL_isOne_241 rfl rfl ?_
  refine xl_callSI 242 [0, 1, 7] 2 [_, _, _] C hz hC dL_isOne_242 (ct_L_served l hfl hS (plc (zf S) (zn S) k) hf) wK_L_served wM_L_150 wT_L_served wI_L hd_L_served rfl ⟨rfl, rfl⟩ ⟨Nat.le_of_ble_eq_true rfl, Nat.le_of_ble_eq_true rfl⟩ rfl rfl rfl rfl rfl rfl ?_
  refine sg_segs [_, _, _, _, _, _, _, _, _, _] rfl ?_
  refine sw_jn1 253 (bI (decide (k = 0))) (fun hj_245 => ?_) ?_
  · refine sw_if_ne 245 252 C dL_isOne_245 (by decide) (fun c_245 => ?_) (fun c_245 => ?_)
    · refine sw_iconst 252 C dL_isOne_252 0 (by decide) ?_
      exact sw_top (by rw [decide_eq_false (fun q => c_245 ((svf_0 hJ hi).mpr (hcb.trans q)))]; rfl) hj_245
    · refine sw_iconst 248 C dL_isOne_248 1 (by decide) ?_
      refine sw_goto 249 253 C dL_isOne_249 (by decide) ?_
      exact sw_top (by rw [decide_eq_true (hcb.symm.trans ((svf_0 hJ hi).mp c_245))]; rfl) hj_245
  refine sw_iload_n 253 2 C dL_isOne_253 rfl rfl ?_
  refine sw_jn1 262 (bI (decide (k = 0))) (fun hj_254 => ?_) ?_
  · refine sw_if_ne 254 261 C dL_isOne_254 (by decide) (fun c_254 => ?_) (fun c_254 => ?_)
    · refine sw_iconst 261 C dL_isOne_261 0 (by decide) ?_
      exact sw_top (by rw [decide_eq_false (fun q => c_254 (congrArg nI q))]; rfl) hj_254
    · refine sw_iconst 257 C dL_isOne_257 1 (by decide) ?_
      refine sw_goto 258 262 C dL_isOne_258 (by decide) ?_
      exact sw_top (by rw [decide_eq_true (nI_inj (by omega) (by decide) c_254)]; rfl) hj_254
  refine sw_icmp_ne 262 269 C dL_isOne_262 (by decide) (fun c_262 => ?_) (fun c_262 => ?_)
  · exact by first | exact absurd c_262 (rfl) | exact absurd (rfl) c_262
  refine sw_iconst 265 C dL_isOne_265 1 (by decide) ?_
  refine sw_goto 266 270 C dL_isOne_266 (by decide) ?_
  refine sw_istore 270 C dL_isOne_270 rfl ?_
  refine sw_iload_n 272 2 C dL_isOne_272 rfl rfl ?_
  refine sw_if_le 273 346 C dL_isOne_273 (by decide) (fun c_273 => ?_) (fun c_273 => ?_)
  · refine sw_iload 346 C dL_isOne_346 rfl ?_
    refine sw_zret 348 C RC rfl dL_isOne_348 ?_
    exact ⟨rfl, (_, _), trivial, rfl⟩
  · have hk0 : 0 < k := by
      rcases Nat.eq_zero_or_pos k with q | q
      · subst q
        exact absurd (Int32.le_refl _) c_273
      · exact q
    have ha := plc_ok hnum hrow hn (show k - 1 < zn S by omega)
    have hah := ahd_ok hnum hrow ha.1 hi (show cbf (zf S) (zn S) (plc (zf S) (zn S) (k - 1)) < cbf (zf S) (zn S) (plc (zf S) (zn S) k) by rw [ha.2, hcb]; omega)
    refine sw_aload_n 276 0 C dL_isOne_276 rfl rfl ?_
    refine sw_iload_n 277 2 C dL_isOne_277 rfl rfl ?_
    refine sw_iconst 278 C dL_isOne_278 1 (by decide) ?_
    refine sw_isub 279 C dL_isOne_279 ?_
    refine sw_top (show nI k - 1 = nI (k - 1) by rw [show (1 : Int32) = nI 1 from rfl, pk_sub (by omega)]) ?_
    refine xl_callSI 280 [0, 1, 9] 2 [_, _, _] C hz hC dL_isOne_280 (ct_L_peek l hfl hS (k - 1) (plc (zf S) (zn S) (k - 1)) rfl (by omega) ha.1 (plc_arr hnum hrow hn _ (by omega))) wK_L_peek wM_L_106 wT_L_peek wI_L hd_L_peek rfl ⟨rfl, rfl⟩ ⟨Nat.le_of_ble_eq_true rfl, Nat.le_of_ble_eq_true rfl⟩ rfl rfl rfl rfl rfl rfl ?_
    refine sg_segs [_, _, _, _, _, _, _, _, _, _] rfl ?_
    refine sw_istore 283 C dL_isOne_283 rfl ?_
    refine sw_aload_n 285 0 C dL_isOne_285 rfl rfl ?_
    refine sw_iload 286 C dL_isOne_286 rfl ?_
    refine sw_iconst 288 C dL_isOne_288 2 (by decide) ?_
    refine xl_callSI 289 [0, 1] 3 [_, _] C hz hC dL_isOne_289 (ct_L_one l hfl hS (plc (zf S) (zn S) (k - 1)) (fnd_num hnum ha.1) 2 rfl (by decide)) wK_L_one wM_L_108 wT_L_one wI_L hd_L_one rfl ⟨rfl, rfl⟩ ⟨Nat.le_of_ble_eq_true rfl, Nat.le_of_ble_eq_true rfl⟩ rfl rfl rfl rfl rfl rfl ?_
    refine sg_segs [_, _, _, _, _, _, _, _, _, _] rfl ?_
    refine sw_top (show tel (zf S) (zn S) (plc (zf S) (zn S) (k - 1)) 2 = zf S ((plc (zf S) (zn S) (k - 1)) * 8 + 2) from rfl) ?_
    refine sw_iload_n 292 3 C dL_isOne_292 rfl rfl ?_
    refine sw_isub 293 C dL_isOne_293 ?_
    refine sw_istore 294 C dL_isOne_294 rfl ?_
    refine sw_loc (L1 := [(0, .ref _), (1, .int _), (2, .int _), (3, .int _), (4, .int _), (5, .int _), (6, .int _), (7, .int _), (8, .int _)]) ?_ rfl
    refine sw_iload 296 C dL_isOne_296 rfl ?_
    refine sw_jn1 316 (ahd (zf S) (plc (zf S) (zn S) (k - 1)) (plc (zf S) (zn S) k)) (fun hj_298 => ?_) ?_
    · refine sw_if_ne 298 314 C dL_isOne_298 (by decide) (fun c_298 => ?_) (fun c_298 => ?_)
      · refine sw_iload 314 C dL_isOne_314 rfl ?_
        exact sw_top (by unfold ahd; rw [e2, if_neg c_298]) hj_298
      · refine sw_aload_n 301 0 C dL_isOne_301 rfl rfl ?_
        refine sw_iload 302 C dL_isOne_302 rfl ?_
        refine sw_iconst 304 C dL_isOne_304 3 (by decide) ?_
        refine xl_callSI 305 [0, 1] 3 [_, _] C hz hC dL_isOne_305 (ct_L_one l hfl hS (plc (zf S) (zn S) (k - 1)) (fnd_num hnum ha.1) 3 rfl (by decide)) wK_L_one wM_L_108 wT_L_one wI_L hd_L_one rfl ⟨rfl, rfl⟩ ⟨Nat.le_of_ble_eq_true rfl, Nat.le_of_ble_eq_true rfl⟩ rfl rfl rfl rfl rfl rfl ?_
        refine sg_segs [_, _, _, _, _, _, _, _, _, _] rfl ?_
        refine sw_top (show tel (zf S) (zn S) (plc (zf S) (zn S) (k - 1)) 3 = zf S ((plc (zf S) (zn S) (k - 1)) * 8 + 3) from rfl) ?_
        refine sw_iload 308 C dL_isOne_308 rfl ?_
        refine sw_isub 310 C dL_isOne_310 ?_
        refine sw_goto 311 316 C dL_isOne_311 (by decide) ?_
        exact sw_top (by unfold ahd; rw [e2, e3, if_pos c_298]) hj_298
    refine sw_istore 316 C dL_isOne_316 rfl ?_
    refine sw_iload 318 C dL_isOne_318 rfl ?_
    refine sw_if_eq 320 343 C dL_isOne_320 (by decide) (fun c_320 => ?_) (fun c_320 => ?_)
    · exact by first | exact absurd c_320 (by decide) | exact absurd (by decide) c_320
    refine sw_iload 323 C dL_isOne_323 rfl ?_
    refine sw_if_gt 325 339 C dL_isOne_325 (by decide) (fun c_325 => ?_) (fun c_325 => ?_)
    · refine sw_iconst 339 C dL_isOne_339 1 (by decide) ?_
      refine sw_goto 340 344 C dL_isOne_340 (by decide) ?_
      refine sw_istore 344 C dL_isOne_344 rfl ?_
      refine sw_iload 346 C dL_isOne_346 rfl ?_
      refine sw_zret 348 C RC rfl dL_isOne_348 ?_
      exact ⟨rfl, (_, _), trivial, rfl⟩
    · refine sw_iload 328 C dL_isOne_328 rfl ?_
      refine sw_if_ne 330 343 C dL_isOne_330 (by decide) (fun c_330 => ?_) (fun c_330 => ?_)
      · exact by first | exact absurd c_330 ((hah.resolve_left c_325).1) | exact absurd ((hah.resolve_left c_325).1) c_330
      refine sw_iload 333 C dL_isOne_333 rfl ?_
      refine sw_iload_n 335 1 C dL_isOne_335 rfl rfl ?_
      refine sw_icmp_ge 336 343 C dL_isOne_336 (by decide) (fun c_336 => ?_) (fun c_336 => ?_)
      · exact by first | exact absurd c_336 (Int32.not_le.mpr (hah.resolve_left c_325).2) | exact absurd (Int32.not_le.mpr (hah.resolve_left c_325).2) c_336
      refine sw_iconst 339 C dL_isOne_339 1 (by decide) ?_
      refine sw_goto 340 344 C dL_isOne_340 (by decide) ?_
      refine sw_istore 344 C dL_isOne_344 rfl ?_
      refine sw_iload 346 C dL_isOne_346 rfl ?_
      refine sw_zret 348 C RC rfl dL_isOne_348 ?_
      exact ⟨rfl, (_, _), trivial, rfl⟩
