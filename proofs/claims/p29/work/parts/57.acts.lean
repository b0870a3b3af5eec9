/-! one act -/
theorem leave_gone {S : StT} {i w : Nat} {p : Int32} (h : nOK (zf S) (zn S) p) (hi : i < zn S) : fnd (zf (leaveS S i w)) (zf S (i * 8 + 7)) (zn (leaveS S i w)) = none := fnd_none (fun j hj e => by
  have hj : j < zn S - 1 := hj
  have e : rmv (zf S) (zn S) i (j * 8 + 7) = zf S (i * 8 + 7) := e
  rw [rmv_sg hj (by decide)] at e
  have := num_eq h (by unfold sg_; split <;> omega) hi e
  unfold sg_ at this
  split at this <;> omega)
theorem leave_log {S : StT} {i w : Nat} : zlg (leaveS S i w) (0 * 5 + 0) = zf S (i * 8 + 7) ∧ zlg (leaveS S i w) (0 * 5 + 1) = nI w ∧ 0 < zl (leaveS S i w) := by
  refine ⟨?_, ?_, ?_⟩
  · show lga (zlg S) (zf S (i * 8 + 7)) (nI w) (zf S (i * 8 + 3)) (gbk (zf S) (zg S) i w) (zf S (i * 8 + 2)) 0 = zf S (i * 8 + 7)
    unfold lga
    repeat (first | rw [upd_ne (by omega)] | rw [upd_at (by omega)])
  · show lga (zlg S) (zf S (i * 8 + 7)) (nI w) (zf S (i * 8 + 3)) (gbk (zf S) (zg S) i w) (zf S (i * 8 + 2)) 1 = nI w
    unfold lga
    repeat (first | rw [upd_ne (by omega)] | rw [upd_at (by omega)])
  · show 0 < lgc (zl S)
    unfold lgc
    split <;> omega
theorem isN_ge {x : Int32} {b : Nat} (h : isN x b) (hb : b < 2 ^ 31) : ¬ x < 0 := by
  obtain ⟨k, h1, h2⟩ := h
  rw [h2]
  exact nI_pos (by omega)
set_option maxHeartbeats 8000000 in
set_option maxRecDepth 100000 in
theorem ct_L_acts (l : Launch) (hfl : l.stackTraces = false) {D : va_G} {cI cJ cQ : ClassId} {x0a a0 a1 a2 a3 a4 a5 a6 a7 tr0 tr1 tr2 tr3 tr4 tr5 tr6 tr7 s0 s1 ra0 ra1 ra2 ra3 ra4 ra5 ra6 ra7 rb0 rb1 rb2 rb3 rb4 rb5 rb6 rb7 rc0 rc1 rc2 rc3 rc4 rc5 rc6 rc7 rd0 rd1 rd2 rd3 rd4 rd5 rd6 rd7 r0 t0 t1 w0 : Nat} {h : Nat → Option Nat} {S T : StT} {R : Nat → StT} {cn od ln : Nat} {by_ g : Nat → Int32} {X : RS} {B U : Nat} {x1 x2 x3 : Int32} (hJ : JI B U S) (hB0 : B < 2 ^ 29) (hh0 : h 0 = some ra0) (hh1 : h 1 = some rb0) (hh2 : h 2 = some rc0) (hh3 : h 3 = some rd0) (hcn : cn ≤ 4) (hod : od < 4) (hln : ln ≤ 100) (hU : U + 200 ≤ 100000) (kd : Nat) (h1 : x1 = nI kd) (hkd : kd ≤ 10) : LCt l yL_acts (Cond.code yL_acts cL_acts 8 (some .boolean)) 12 246 1 6 D (tyz cI cJ cQ) [.ref x0a, .int x1, .int x2, .int x3] (flatS [[(x0a, .inr (6, [.ref a0, .ref tr0, .ref s0, .ref r0, .ref w0]))], (wSt a0 a1 a2 a3 a4 a5 a6 a7 cI (S)), [(s0, .inr (3, [.int (nI (cn)), .int (nI (od)), .ref s1])), (s1, .inl (cQ, 4, .inr (.inr (.inr (.inr h)))))], (wSt ra0 ra1 ra2 ra3 ra4 ra5 ra6 ra7 cI ((R) 0)), (wSt rb0 rb1 rb2 rb3 rb4 rb5 rb6 rb7 cI ((R) 1)), (wSt rc0 rc1 rc2 rc3 rc4 rc5 rc6 rc7 cI ((R) 2)), (wSt rd0 rd1 rd2 rd3 rd4 rd5 rd6 rd7 cI ((R) 3)), (wSt tr0 tr1 tr2 tr3 tr4 tr5 tr6 tr7 cI (T)), (wRd r0 t0 t1 cI (ln) (by_) (X)), [(w0, .inl (cI, 40, .inl (g)))]]) (pstE 1 (fun z : StT × ScT => JI (B + 1) (U + 7) z.1 ∧ ZP z.2) (fun z : StT × ScT => (flatS [[(x0a, .inr (6, [.ref a0, .ref tr0, .ref s0, .ref r0, .ref w0]))], (wSt a0 a1 a2 a3 a4 a5 a6 a7 cI (z.1)), [(s0, .inr (3, [.int (nI (z.2.2.2.2.1.1)), .int (nI (z.2.2.2.2.1.2.1)), .ref s1])), (s1, .inl (cQ, 4, .inr (.inr (.inr (.inr h)))))], (wSt ra0 ra1 ra2 ra3 ra4 ra5 ra6 ra7 cI ((z.2.2.2.1) 0)), (wSt rb0 rb1 rb2 rb3 rb4 rb5 rb6 rb7 cI ((z.2.2.2.1) 1)), (wSt rc0 rc1 rc2 rc3 rc4 rc5 rc6 rc7 cI ((z.2.2.2.1) 2)), (wSt rd0 rd1 rd2 rd3 rd4 rd5 rd6 rd7 cI ((z.2.2.2.1) 3)), (wSt tr0 tr1 tr2 tr3 tr4 tr5 tr6 tr7 cI (z.2.1)), (wRd r0 t0 t1 cI (z.2.2.2.2.1.2.2) (z.2.2.2.2.2.1) (z.2.2.2.2.2.2)), [(w0, .inl (cI, 40, .inl (z.2.2.1)))]]))) := by
  refine LCt.ofC RL (by decide) rfl (Nat.le_of_ble_eq_true rfl) ?_
  intro p e s m below meth c A C RC hz hC
  subst h1
  have hS := hJ.si
  have hn := hJ.o.n
  have hlc := hJ.si.2.1
  have hnum := hJ.o.num
  have hrow := hJ.o.row
  have hc2 := svC_le hcn
  have ho2 := svO_lt (cn := cn) hod
  refine sw_aload_n 0 0 C dL_acts_0 rfl rfl ?_
  refine sw_bipush 1 C dL_acts_1 6 (by decide) ?_
  refine xl_callSI 3 [0, 1] 2 [_, _] C hz hC dL_acts_3 (ct_L_value l hfl hS 6 rfl (by decide)) wK_L_value wM_L_95 wT_L_value wI_L hd_L_value rfl ⟨rfl, rfl⟩ ⟨Nat.le_of_ble_eq_true rfl, Nat.le_of_ble_eq_true rfl⟩ rfl rfl rfl rfl rfl rfl ?_
  refine sg_segs [_, _, _, _, _, _, _, _, _, _] rfl ?_
  refine sw_top (show _ = zk S from rfl) ?_
  refine sw_aload_n 6 0 C dL_acts_6 rfl rfl ?_
  refine sw_bipush 7 C dL_acts_7 7 (by decide) ?_
  refine xl_callSI 9 [0, 1] 2 [_, _] C hz hC dL_acts_9 (ct_L_value l hfl hS 7 rfl (by decide)) wK_L_value wM_L_95 wT_L_value wI_L hd_L_value rfl ⟨rfl, rfl⟩ ⟨Nat.le_of_ble_eq_true rfl, Nat.le_of_ble_eq_true rfl⟩ rfl rfl rfl rfl rfl rfl ?_
  refine sg_segs [_, _, _, _, _, _, _, _, _, _] rfl ?_
  refine sw_top (show _ = sgb (zbk S) 8 from rfl) ?_
  refine sw_iadd 12 C dL_acts_12 ?_
  refine sw_aload_n 13 0 C dL_acts_13 rfl rfl ?_
  refine sw_bipush 14 C dL_acts_14 8 (by decide) ?_
  refine xl_callSI 16 [0, 1] 2 [_, _] C hz hC dL_acts_16 (ct_L_value l hfl hS 8 rfl (by decide)) wK_L_value wM_L_95 wT_L_value wI_L hd_L_value rfl ⟨rfl, rfl⟩ ⟨Nat.le_of_ble_eq_true rfl, Nat.le_of_ble_eq_true rfl⟩ rfl rfl rfl rfl rfl rfl ?_
  refine sg_segs [_, _, _, _, _, _, _, _, _, _] rfl ?_
  refine sw_top (show _ = smb (zf S) (zn S) from rfl) ?_
  refine sw_iadd 19 C dL_acts_19 ?_
  refine sw_top (show zk S + sgb (zbk S) 8 + smb (zf S) (zn S) = coins S from rfl) ?_
  refine sw_istore 20 C dL_acts_20 rfl ?_
  refine sw_iload_n 22 1 C dL_acts_22 rfl rfl ?_
  by_cases e_23_0 : kd = 0
  · refine sw_tblIn 23 76 C 0 dL_acts_23 (by rw [e_23_0]; decide) (by decide) rfl (by decide) ?_
    refine sw_aload_n 76 0 C dL_acts_76 rfl rfl ?_
    refine sw_iload_n 77 2 C dL_acts_77 rfl rfl ?_
    refine sw_iload_n 78 3 C dL_acts_78 rfl rfl ?_
    refine xl_callH 79 [0, 1, 2, 3, 4, 5, 6, 7, 8, 9] 3 C hz hC dL_acts_79 (ct_L_puts l hfl hJ hB0 hh0 hh1 hh2 hh3 hcn hod hln) wK_L_puts wM_L_186 wT_L_puts wI_L hd_L_puts rfl ⟨rfl, rfl⟩ ⟨Nat.le_of_ble_eq_true rfl, Nat.le_of_ble_eq_true rfl⟩ rfl rfl rfl rfl (fun v_79 w_79 h_79 => ?_)
    obtain ⟨rfl, z9, hz9, rfl⟩ := h_79
    refine ⟨[_, _, _, _, _, _, _, _, _, _], rfl, rfl, ?_⟩
    refine sw_st (_ :: _) rfl ?_
    refine sg_segs [_, _, _, _, _, _, _, _, _, _] rfl ?_
    refine sw_zret 82 C RC rfl dL_acts_82 ?_
    exact ⟨rfl, z9, ⟨hz9.1.mono (Nat.le_refl _) (by omega), hz9.2⟩, rfl⟩
  by_cases e_23_1 : kd = 1
  · refine sw_tblIn 23 76 C 1 dL_acts_23 (by rw [e_23_1]; decide) (by decide) rfl (by decide) ?_
    refine sw_aload_n 76 0 C dL_acts_76 rfl rfl ?_
    refine sw_iload_n 77 2 C dL_acts_77 rfl rfl ?_
    refine sw_iload_n 78 3 C dL_acts_78 rfl rfl ?_
    refine xl_callH 79 [0, 1, 2, 3, 4, 5, 6, 7, 8, 9] 3 C hz hC dL_acts_79 (ct_L_puts l hfl hJ hB0 hh0 hh1 hh2 hh3 hcn hod hln) wK_L_puts wM_L_186 wT_L_puts wI_L hd_L_puts rfl ⟨rfl, rfl⟩ ⟨Nat.le_of_ble_eq_true rfl, Nat.le_of_ble_eq_true rfl⟩ rfl rfl rfl rfl (fun v_79 w_79 h_79 => ?_)
    obtain ⟨rfl, z9, hz9, rfl⟩ := h_79
    refine ⟨[_, _, _, _, _, _, _, _, _, _], rfl, rfl, ?_⟩
    refine sw_st (_ :: _) rfl ?_
    refine sg_segs [_, _, _, _, _, _, _, _, _, _] rfl ?_
    refine sw_zret 82 C RC rfl dL_acts_82 ?_
    exact ⟨rfl, z9, ⟨hz9.1.mono (Nat.le_refl _) (by omega), hz9.2⟩, rfl⟩
  by_cases e_23_2 : kd = 2
  · refine sw_tblIn 23 76 C 2 dL_acts_23 (by rw [e_23_2]; decide) (by decide) rfl (by decide) ?_
    refine sw_aload_n 76 0 C dL_acts_76 rfl rfl ?_
    refine sw_iload_n 77 2 C dL_acts_77 rfl rfl ?_
    refine sw_iload_n 78 3 C dL_acts_78 rfl rfl ?_
    refine xl_callH 79 [0, 1, 2, 3, 4, 5, 6, 7, 8, 9] 3 C hz hC dL_acts_79 (ct_L_puts l hfl hJ hB0 hh0 hh1 hh2 hh3 hcn hod hln) wK_L_puts wM_L_186 wT_L_puts wI_L hd_L_puts rfl ⟨rfl, rfl⟩ ⟨Nat.le_of_ble_eq_true rfl, Nat.le_of_ble_eq_true rfl⟩ rfl rfl rfl rfl (fun v_79 w_79 h_79 => ?_)
    obtain ⟨rfl, z9, hz9, rfl⟩ := h_79
    refine ⟨[_, _, _, _, _, _, _, _, _, _], rfl, rfl, ?_⟩
    refine sw_st (_ :: _) rfl ?_
    refine sg_segs [_, _, _, _, _, _, _, _, _, _] rfl ?_
    refine sw_zret 82 C RC rfl dL_acts_82 ?_
    exact ⟨rfl, z9, ⟨hz9.1.mono (Nat.le_refl _) (by omega), hz9.2⟩, rfl⟩
  by_cases e_23_3 : kd = 3
  · refine sw_tblIn 23 76 C 3 dL_acts_23 (by rw [e_23_3]; decide) (by decide) rfl (by decide) ?_
    refine sw_aload_n 76 0 C dL_acts_76 rfl rfl ?_
    refine sw_iload_n 77 2 C dL_acts_77 rfl rfl ?_
    refine sw_iload_n 78 3 C dL_acts_78 rfl rfl ?_
    refine xl_callH 79 [0, 1, 2, 3, 4, 5, 6, 7, 8, 9] 3 C hz hC dL_acts_79 (ct_L_puts l hfl hJ hB0 hh0 hh1 hh2 hh3 hcn hod hln) wK_L_puts wM_L_186 wT_L_puts wI_L hd_L_puts rfl ⟨rfl, rfl⟩ ⟨Nat.le_of_ble_eq_true rfl, Nat.le_of_ble_eq_true rfl⟩ rfl rfl rfl rfl (fun v_79 w_79 h_79 => ?_)
    obtain ⟨rfl, z9, hz9, rfl⟩ := h_79
    refine ⟨[_, _, _, _, _, _, _, _, _, _], rfl, rfl, ?_⟩
    refine sw_st (_ :: _) rfl ?_
    refine sg_segs [_, _, _, _, _, _, _, _, _, _] rfl ?_
    refine sw_zret 82 C RC rfl dL_acts_82 ?_
    exact ⟨rfl, z9, ⟨hz9.1.mono (Nat.le_refl _) (by omega), hz9.2⟩, rfl⟩
  by_cases e_23_4 : kd = 4
  · refine sw_tblIn 23 83 C 4 dL_acts_23 (by rw [e_23_4]; decide) (by decide) rfl (by decide) ?_
    rcases Nat.eq_zero_or_pos (zn S) with h0 | h0
    · refine sw_aload_n 83 0 C dL_acts_83 rfl rfl ?_
      have hn9 : nI (zn S) = 0 := by rw [h0]; rfl
      refine sw_iconst 84 C dL_acts_84 0 (by decide) ?_
      refine xl_callSI 85 [0, 1] 2 [_, _] C hz hC dL_acts_85 (ct_L_value l hfl hS 0 rfl (by decide)) wK_L_value wM_L_95 wT_L_value wI_L hd_L_value rfl ⟨rfl, rfl⟩ ⟨Nat.le_of_ble_eq_true rfl, Nat.le_of_ble_eq_true rfl⟩ rfl rfl rfl rfl rfl rfl ?_
      refine sg_segs [_, _, _, _, _, _, _, _, _, _] rfl ?_
      refine sw_top (show _ = nI (zn S) from rfl) ?_
      refine sw_if_ne 88 96 C dL_acts_88 (by decide) (fun c_88 => ?_) (fun c_88 => ?_)
      · exact by first | exact absurd c_88 (hn9) | exact absurd (hn9) c_88
      refine sw_ldc 91 C dL_acts_91 (C.w wQ_L_51) ?_
      refine sw_goto 93 101 C dL_acts_93 (by decide) ?_
      refine sw_istore 101 C dL_acts_101 rfl ?_
      refine sw_aload_n 103 0 C dL_acts_103 rfl rfl ?_
      refine xl_callSI 104 [0, 1] 1 [_, _] C hz hC dL_acts_104 (ct_L_serves_2 l hfl h0) wK_L_serves wM_L_159 wT_L_serves wI_L hd_L_serves rfl ⟨rfl, rfl⟩ ⟨Nat.le_of_ble_eq_true rfl, Nat.le_of_ble_eq_true rfl⟩ rfl rfl rfl rfl rfl rfl ?_
      refine sg_segs [_, _, _, _, _, _, _, _, _, _] rfl ?_
      refine sw_iload 107 C dL_acts_107 rfl ?_
      refine sw_icmp_ne 109 141 C dL_acts_109 (by decide) (fun c_109 => ?_) (fun c_109 => ?_)
      · exact by first | exact absurd c_109 (rfl) | exact absurd (rfl) c_109
      refine sw_iload 112 C dL_acts_112 rfl ?_
      refine sw_aload_n 114 0 C dL_acts_114 rfl rfl ?_
      refine sw_bipush 115 C dL_acts_115 6 (by decide) ?_
      refine xl_callSI 117 [0, 1] 2 [_, _] C hz hC dL_acts_117 (ct_L_value l hfl hS 6 rfl (by decide)) wK_L_value wM_L_95 wT_L_value wI_L hd_L_value rfl ⟨rfl, rfl⟩ ⟨Nat.le_of_ble_eq_true rfl, Nat.le_of_ble_eq_true rfl⟩ rfl rfl rfl rfl rfl rfl ?_
      refine sg_segs [_, _, _, _, _, _, _, _, _, _] rfl ?_
      refine sw_top (show _ = zk S from rfl) ?_
      refine sw_aload_n 120 0 C dL_acts_120 rfl rfl ?_
      refine sw_bipush 121 C dL_acts_121 7 (by decide) ?_
      refine xl_callSI 123 [0, 1] 2 [_, _] C hz hC dL_acts_123 (ct_L_value l hfl hS 7 rfl (by decide)) wK_L_value wM_L_95 wT_L_value wI_L hd_L_value rfl ⟨rfl, rfl⟩ ⟨Nat.le_of_ble_eq_true rfl, Nat.le_of_ble_eq_true rfl⟩ rfl rfl rfl rfl rfl rfl ?_
      refine sg_segs [_, _, _, _, _, _, _, _, _, _] rfl ?_
      refine sw_top (show _ = sgb (zbk S) 8 from rfl) ?_
      refine sw_iadd 126 C dL_acts_126 ?_
      refine sw_aload_n 127 0 C dL_acts_127 rfl rfl ?_
      refine sw_bipush 128 C dL_acts_128 8 (by decide) ?_
      refine xl_callSI 130 [0, 1] 2 [_, _] C hz hC dL_acts_130 (ct_L_value l hfl hS 8 rfl (by decide)) wK_L_value wM_L_95 wT_L_value wI_L hd_L_value rfl ⟨rfl, rfl⟩ ⟨Nat.le_of_ble_eq_true rfl, Nat.le_of_ble_eq_true rfl⟩ rfl rfl rfl rfl rfl rfl ?_
      refine sg_segs [_, _, _, _, _, _, _, _, _, _] rfl ?_
      refine sw_top (show _ = smb (zf S) (zn S) from rfl) ?_
      refine sw_iadd 133 C dL_acts_133 ?_
      refine sw_top (show zk S + sgb (zbk S) 8 + smb (zf S) (zn S) = coins S from rfl) ?_
      refine sw_icmp_ne 134 141 C dL_acts_134 (by decide) (fun c_134 => ?_) (fun c_134 => ?_)
      · exact by first | exact absurd c_134 (rfl) | exact absurd (rfl) c_134
      refine sw_iconst 137 C dL_acts_137 1 (by decide) ?_
      refine sw_goto 138 142 C dL_acts_138 (by decide) ?_
      refine sw_widen (k' := 1) (n' := 6) (by decide) (by decide) ?_
      refine sw_zret 142 C RC rfl dL_acts_142 ?_
      refine ⟨rfl, (_, _, _, _, (_, _, _), _, _), ?_, rfl⟩
      exact ⟨hJ.mono (by omega) (by omega), hcn, hod, hln⟩
    · refine sw_aload_n 83 0 C dL_acts_83 rfl rfl ?_
      have hS2 := SI_srv hS
      refine sw_iconst 84 C dL_acts_84 0 (by decide) ?_
      refine xl_callSI 85 [0, 1] 2 [_, _] C hz hC dL_acts_85 (ct_L_value l hfl hS 0 rfl (by decide)) wK_L_value wM_L_95 wT_L_value wI_L hd_L_value rfl ⟨rfl, rfl⟩ ⟨Nat.le_of_ble_eq_true rfl, Nat.le_of_ble_eq_true rfl⟩ rfl rfl rfl rfl rfl rfl ?_
      refine sg_segs [_, _, _, _, _, _, _, _, _, _] rfl ?_
      refine sw_top (show _ = nI (zn S) from rfl) ?_
      refine sw_if_ne 88 96 C dL_acts_88 (by decide) (fun c_88 => ?_) (fun c_88 => ?_)
      rotate_left
      · exact by first | exact absurd c_88 (nI_ne0 h0 (by omega)) | exact absurd (nI_ne0 h0 (by omega)) c_88
      refine sw_aload_n 96 0 C dL_acts_96 rfl rfl ?_
      refine sw_iconst 97 C dL_acts_97 0 (by decide) ?_
      refine xl_callSI 98 [0, 1, 9] 2 [_, _, _] C hz hC dL_acts_98 (ct_L_peek l hfl hS 0 (plc (zf S) (zn S) 0) rfl h0 (plc_ok hnum hrow hn h0).1 (plc_arr hnum hrow hn _ h0)) wK_L_peek wM_L_106 wT_L_peek wI_L hd_L_peek rfl ⟨rfl, rfl⟩ ⟨Nat.le_of_ble_eq_true rfl, Nat.le_of_ble_eq_true rfl⟩ rfl rfl rfl rfl rfl rfl ?_
      refine sg_segs [_, _, _, _, _, _, _, _, _, _] rfl ?_
      refine sw_istore 101 C dL_acts_101 rfl ?_
      refine sw_aload_n 103 0 C dL_acts_103 rfl rfl ?_
      refine xl_callSI 104 [0, 1, 2, 3, 4, 5, 6] 1 [_, _, _, _, _, _, _] C hz hC dL_acts_104 (ct_L_serves l hfl hS hcn hod hh0 hh1 hh2 hh3 h0) wK_L_serves wM_L_159 wT_L_serves wI_L hd_L_serves rfl ⟨rfl, rfl⟩ ⟨Nat.le_of_ble_eq_true rfl, Nat.le_of_ble_eq_true rfl⟩ rfl rfl rfl rfl rfl rfl ?_
      refine sg_segs [_, _, _, _, _, _, _, _, _, _] rfl ?_
      refine sw_top (srv_pos hJ h0) ?_
      refine sw_iload 107 C dL_acts_107 rfl ?_
      refine sw_icmp_ne 109 141 C dL_acts_109 (by decide) (fun c_109 => ?_) (fun c_109 => ?_)
      · exact by first | exact absurd c_109 (rfl) | exact absurd (rfl) c_109
      refine sw_iload 112 C dL_acts_112 rfl ?_
      refine sw_aload_n 114 0 C dL_acts_114 rfl rfl ?_
      refine sw_bipush 115 C dL_acts_115 6 (by decide) ?_
      refine xl_callSI 117 [0, 1] 2 [_, _] C hz hC dL_acts_117 (ct_L_value l hfl hS2 6 rfl (by decide)) wK_L_value wM_L_95 wT_L_value wI_L hd_L_value rfl ⟨rfl, rfl⟩ ⟨Nat.le_of_ble_eq_true rfl, Nat.le_of_ble_eq_true rfl⟩ rfl rfl rfl rfl rfl rfl ?_
      refine sg_segs [_, _, _, _, _, _, _, _, _, _] rfl ?_
      refine sw_top (show _ = zk (srv S).2 from rfl) ?_
      refine sw_aload_n 120 0 C dL_acts_120 rfl rfl ?_
      refine sw_bipush 121 C dL_acts_121 7 (by decide) ?_
      refine xl_callSI 123 [0, 1] 2 [_, _] C hz hC dL_acts_123 (ct_L_value l hfl hS2 7 rfl (by decide)) wK_L_value wM_L_95 wT_L_value wI_L hd_L_value rfl ⟨rfl, rfl⟩ ⟨Nat.le_of_ble_eq_true rfl, Nat.le_of_ble_eq_true rfl⟩ rfl rfl rfl rfl rfl rfl ?_
      refine sg_segs [_, _, _, _, _, _, _, _, _, _] rfl ?_
      refine sw_top (show _ = sgb (zbk (srv S).2) 8 from rfl) ?_
      refine sw_iadd 126 C dL_acts_126 ?_
      refine sw_aload_n 127 0 C dL_acts_127 rfl rfl ?_
      refine sw_bipush 128 C dL_acts_128 8 (by decide) ?_
      refine xl_callSI 130 [0, 1] 2 [_, _] C hz hC dL_acts_130 (ct_L_value l hfl hS2 8 rfl (by decide)) wK_L_value wM_L_95 wT_L_value wI_L hd_L_value rfl ⟨rfl, rfl⟩ ⟨Nat.le_of_ble_eq_true rfl, Nat.le_of_ble_eq_true rfl⟩ rfl rfl rfl rfl rfl rfl ?_
      refine sg_segs [_, _, _, _, _, _, _, _, _, _] rfl ?_
      refine sw_top (show _ = smb (zf (srv S).2) (zn (srv S).2) from rfl) ?_
      refine sw_iadd 133 C dL_acts_133 ?_
      refine sw_top (show zk (srv S).2 + sgb (zbk (srv S).2) 8 + smb (zf (srv S).2) (zn (srv S).2) = coins S from coins_srv hS) ?_
      refine sw_icmp_ne 134 141 C dL_acts_134 (by decide) (fun c_134 => ?_) (fun c_134 => ?_)
      · exact by first | exact absurd c_134 (rfl) | exact absurd (rfl) c_134
      refine sw_iconst 137 C dL_acts_137 1 (by decide) ?_
      refine sw_goto 138 142 C dL_acts_138 (by decide) ?_
      refine sw_widen (k' := 1) (n' := 6) (by decide) (by decide) ?_
      refine sw_zret 142 C RC rfl dL_acts_142 ?_
      refine ⟨rfl, (_, _, _, _, (_, _, _), _, _), ?_, rfl⟩
      exact ⟨(JI_srv hJ).mono (by omega) (by omega), hc2, ho2, hln⟩
  by_cases e_23_5 : kd = 5
  · refine sw_tblIn 23 83 C 5 dL_acts_23 (by rw [e_23_5]; decide) (by decide) rfl (by decide) ?_
    rcases Nat.eq_zero_or_pos (zn S) with h0 | h0
    · refine sw_aload_n 83 0 C dL_acts_83 rfl rfl ?_
      have hn9 : nI (zn S) = 0 := by rw [h0]; rfl
      refine sw_iconst 84 C dL_acts_84 0 (by decide) ?_
      refine xl_callSI 85 [0, 1] 2 [_, _] C hz hC dL_acts_85 (ct_L_value l hfl hS 0 rfl (by decide)) wK_L_value wM_L_95 wT_L_value wI_L hd_L_value rfl ⟨rfl, rfl⟩ ⟨Nat.le_of_ble_eq_true rfl, Nat.le_of_ble_eq_true rfl⟩ rfl rfl rfl rfl rfl rfl ?_
      refine sg_segs [_, _, _, _, _, _, _, _, _, _] rfl ?_
      refine sw_top (show _ = nI (zn S) from rfl) ?_
      refine sw_if_ne 88 96 C dL_acts_88 (by decide) (fun c_88 => ?_) (fun c_88 => ?_)
      · exact by first | exact absurd c_88 (hn9) | exact absurd (hn9) c_88
      refine sw_ldc 91 C dL_acts_91 (C.w wQ_L_51) ?_
      refine sw_goto 93 101 C dL_acts_93 (by decide) ?_
      refine sw_istore 101 C dL_acts_101 rfl ?_
      refine sw_aload_n 103 0 C dL_acts_103 rfl rfl ?_
      refine xl_callSI 104 [0, 1] 1 [_, _] C hz hC dL_acts_104 (ct_L_serves_2 l hfl h0) wK_L_serves wM_L_159 wT_L_serves wI_L hd_L_serves rfl ⟨rfl, rfl⟩ ⟨Nat.le_of_ble_eq_true rfl, Nat.le_of_ble_eq_true rfl⟩ rfl rfl rfl rfl rfl rfl ?_
      refine sg_segs [_, _, _, _, _, _, _, _, _, _] rfl ?_
      refine sw_iload 107 C dL_acts_107 rfl ?_
      refine sw_icmp_ne 109 141 C dL_acts_109 (by decide) (fun c_109 => ?_) (fun c_109 => ?_)
      · exact by first | exact absurd c_109 (rfl) | exact absurd (rfl) c_109
      refine sw_iload 112 C dL_acts_112 rfl ?_
      refine sw_aload_n 114 0 C dL_acts_114 rfl rfl ?_
      refine sw_bipush 115 C dL_acts_115 6 (by decide) ?_
      refine xl_callSI 117 [0, 1] 2 [_, _] C hz hC dL_acts_117 (ct_L_value l hfl hS 6 rfl (by decide)) wK_L_value wM_L_95 wT_L_value wI_L hd_L_value rfl ⟨rfl, rfl⟩ ⟨Nat.le_of_ble_eq_true rfl, Nat.le_of_ble_eq_true rfl⟩ rfl rfl rfl rfl rfl rfl ?_
      refine sg_segs [_, _, _, _, _, _, _, _, _, _] rfl ?_
      refine sw_top (show _ = zk S from rfl) ?_
      refine sw_aload_n 120 0 C dL_acts_120 rfl rfl ?_
      refine sw_bipush 121 C dL_acts_121 7 (by decide) ?_
      refine xl_callSI 123 [0, 1] 2 [_, _] C hz hC dL_acts_123 (ct_L_value l hfl hS 7 rfl (by decide)) wK_L_value wM_L_95 wT_L_value wI_L hd_L_value rfl ⟨rfl, rfl⟩ ⟨Nat.le_of_ble_eq_true rfl, Nat.le_of_ble_eq_true rfl⟩ rfl rfl rfl rfl rfl rfl ?_
      refine sg_segs [_, _, _, _, _, _, _, _, _, _] rfl ?_
      refine sw_top (show _ = sgb (zbk S) 8 from rfl) ?_
      refine sw_iadd 126 C dL_acts_126 ?_
      refine sw_aload_n 127 0 C dL_acts_127 rfl rfl ?_
      refine sw_bipush 128 C dL_acts_128 8 (by decide) ?_
      refine xl_callSI 130 [0, 1] 2 [_, _] C hz hC dL_acts_130 (ct_L_value l hfl hS 8 rfl (by decide)) wK_L_value wM_L_95 wT_L_value wI_L hd_L_value rfl ⟨rfl, rfl⟩ ⟨Nat.le_of_ble_eq_true rfl, Nat.le_of_ble_eq_true rfl⟩ rfl rfl rfl rfl rfl rfl ?_
      refine sg_segs [_, _, _, _, _, _, _, _, _, _] rfl ?_
      refine sw_top (show _ = smb (zf S) (zn S) from rfl) ?_
      refine sw_iadd 133 C dL_acts_133 ?_
      refine sw_top (show zk S + sgb (zbk S) 8 + smb (zf S) (zn S) = coins S from rfl) ?_
      refine sw_icmp_ne 134 141 C dL_acts_134 (by decide) (fun c_134 => ?_) (fun c_134 => ?_)
      · exact by first | exact absurd c_134 (rfl) | exact absurd (rfl) c_134
      refine sw_iconst 137 C dL_acts_137 1 (by decide) ?_
      refine sw_goto 138 142 C dL_acts_138 (by decide) ?_
      refine sw_widen (k' := 1) (n' := 6) (by decide) (by decide) ?_
      refine sw_zret 142 C RC rfl dL_acts_142 ?_
      refine ⟨rfl, (_, _, _, _, (_, _, _), _, _), ?_, rfl⟩
      exact ⟨hJ.mono (by omega) (by omega), hcn, hod, hln⟩
    · refine sw_aload_n 83 0 C dL_acts_83 rfl rfl ?_
      have hS2 := SI_srv hS
      refine sw_iconst 84 C dL_acts_84 0 (by decide) ?_
      refine xl_callSI 85 [0, 1] 2 [_, _] C hz hC dL_acts_85 (ct_L_value l hfl hS 0 rfl (by decide)) wK_L_value wM_L_95 wT_L_value wI_L hd_L_value rfl ⟨rfl, rfl⟩ ⟨Nat.le_of_ble_eq_true rfl, Nat.le_of_ble_eq_true rfl⟩ rfl rfl rfl rfl rfl rfl ?_
      refine sg_segs [_, _, _, _, _, _, _, _, _, _] rfl ?_
      refine sw_top (show _ = nI (zn S) from rfl) ?_
      refine sw_if_ne 88 96 C dL_acts_88 (by decide) (fun c_88 => ?_) (fun c_88 => ?_)
      rotate_left
      · exact by first | exact absurd c_88 (nI_ne0 h0 (by omega)) | exact absurd (nI_ne0 h0 (by omega)) c_88
      refine sw_aload_n 96 0 C dL_acts_96 rfl rfl ?_
      refine sw_iconst 97 C dL_acts_97 0 (by decide) ?_
      refine xl_callSI 98 [0, 1, 9] 2 [_, _, _] C hz hC dL_acts_98 (ct_L_peek l hfl hS 0 (plc (zf S) (zn S) 0) rfl h0 (plc_ok hnum hrow hn h0).1 (plc_arr hnum hrow hn _ h0)) wK_L_peek wM_L_106 wT_L_peek wI_L hd_L_peek rfl ⟨rfl, rfl⟩ ⟨Nat.le_of_ble_eq_true rfl, Nat.le_of_ble_eq_true rfl⟩ rfl rfl rfl rfl rfl rfl ?_
      refine sg_segs [_, _, _, _, _, _, _, _, _, _] rfl ?_
      refine sw_istore 101 C dL_acts_101 rfl ?_
      refine sw_aload_n 103 0 C dL_acts_103 rfl rfl ?_
      refine xl_callSI 104 [0, 1, 2, 3, 4, 5, 6] 1 [_, _, _, _, _, _, _] C hz hC dL_acts_104 (ct_L_serves l hfl hS hcn hod hh0 hh1 hh2 hh3 h0) wK_L_serves wM_L_159 wT_L_serves wI_L hd_L_serves rfl ⟨rfl, rfl⟩ ⟨Nat.le_of_ble_eq_true rfl, Nat.le_of_ble_eq_true rfl⟩ rfl rfl rfl rfl rfl rfl ?_
      refine sg_segs [_, _, _, _, _, _, _, _, _, _] rfl ?_
      refine sw_top (srv_pos hJ h0) ?_
      refine sw_iload 107 C dL_acts_107 rfl ?_
      refine sw_icmp_ne 109 141 C dL_acts_109 (by decide) (fun c_109 => ?_) (fun c_109 => ?_)
      · exact by first | exact absurd c_109 (rfl) | exact absurd (rfl) c_109
      refine sw_iload 112 C dL_acts_112 rfl ?_
      refine sw_aload_n 114 0 C dL_acts_114 rfl rfl ?_
      refine sw_bipush 115 C dL_acts_115 6 (by decide) ?_
      refine xl_callSI 117 [0, 1] 2 [_, _] C hz hC dL_acts_117 (ct_L_value l hfl hS2 6 rfl (by decide)) wK_L_value wM_L_95 wT_L_value wI_L hd_L_value rfl ⟨rfl, rfl⟩ ⟨Nat.le_of_ble_eq_true rfl, Nat.le_of_ble_eq_true rfl⟩ rfl rfl rfl rfl rfl rfl ?_
      refine sg_segs [_, _, _, _, _, _, _, _, _, _] rfl ?_
      refine sw_top (show _ = zk (srv S).2 from rfl) ?_
      refine sw_aload_n 120 0 C dL_acts_120 rfl rfl ?_
      refine sw_bipush 121 C dL_acts_121 7 (by decide) ?_
      refine xl_callSI 123 [0, 1] 2 [_, _] C hz hC dL_acts_123 (ct_L_value l hfl hS2 7 rfl (by decide)) wK_L_value wM_L_95 wT_L_value wI_L hd_L_value rfl ⟨rfl, rfl⟩ ⟨Nat.le_of_ble_eq_true rfl, Nat.le_of_ble_eq_true rfl⟩ rfl rfl rfl rfl rfl rfl ?_
      refine sg_segs [_, _, _, _, _, _, _, _, _, _] rfl ?_
      refine sw_top (show _ = sgb (zbk (srv S).2) 8 from rfl) ?_
      refine sw_iadd 126 C dL_acts_126 ?_
      refine sw_aload_n 127 0 C dL_acts_127 rfl rfl ?_
      refine sw_bipush 128 C dL_acts_128 8 (by decide) ?_
      refine xl_callSI 130 [0, 1] 2 [_, _] C hz hC dL_acts_130 (ct_L_value l hfl hS2 8 rfl (by decide)) wK_L_value wM_L_95 wT_L_value wI_L hd_L_value rfl ⟨rfl, rfl⟩ ⟨Nat.le_of_ble_eq_true rfl, Nat.le_of_ble_eq_true rfl⟩ rfl rfl rfl rfl rfl rfl ?_
      refine sg_segs [_, _, _, _, _, _, _, _, _, _] rfl ?_
      refine sw_top (show _ = smb (zf (srv S).2) (zn (srv S).2) from rfl) ?_
      refine sw_iadd 133 C dL_acts_133 ?_
      refine sw_top (show zk (srv S).2 + sgb (zbk (srv S).2) 8 + smb (zf (srv S).2) (zn (srv S).2) = coins S from coins_srv hS) ?_
      refine sw_icmp_ne 134 141 C dL_acts_134 (by decide) (fun c_134 => ?_) (fun c_134 => ?_)
      · exact by first | exact absurd c_134 (rfl) | exact absurd (rfl) c_134
      refine sw_iconst 137 C dL_acts_137 1 (by decide) ?_
      refine sw_goto 138 142 C dL_acts_138 (by decide) ?_
      refine sw_widen (k' := 1) (n' := 6) (by decide) (by decide) ?_
      refine sw_zret 142 C RC rfl dL_acts_142 ?_
      refine ⟨rfl, (_, _, _, _, (_, _, _), _, _), ?_, rfl⟩
      exact ⟨(JI_srv hJ).mono (by omega) (by omega), hc2, ho2, hln⟩
  by_cases e_23_6 : kd = 6
  · refine sw_tblIn 23 143 C 6 dL_acts_23 (by rw [e_23_6]; decide) (by decide) rfl (by decide) ?_
    obtain ⟨t, ht, et⟩ : ∃ z : Nat, z < 7 ∧ lowN x2 7 = z := ⟨_, lowN_lt _ (by decide), rfl⟩
    have htl := tps_le hS (1 + t)
    have hS2 := SI_tps hS (1 + t)
    refine sw_iconst 143 C dL_acts_143 1 (by decide) ?_
    refine sw_iload_n 144 2 C dL_acts_144 rfl rfl ?_
    refine sw_bipush 145 C dL_acts_145 7 (by decide) ?_
    refine sg_callSIP 147 [] 2 C dL_acts_147 (ct_L_low l 7 rfl (by decide) (by decide)) wK_L_low wM_L_174 wT_L_low wI_L hd_L_low rfl ⟨rfl, rfl⟩ ⟨Nat.le_of_ble_eq_true rfl, Nat.le_of_ble_eq_true rfl⟩ rfl rfl rfl rfl ?_
    refine sw_top (congrArg nI et) ?_
    refine sw_iadd 150 C dL_acts_150 ?_
    refine sw_top (show (1 : Int32) + nI t = nI (1 + t) from nI_add 1 t) ?_
    refine sw_istore 151 C dL_acts_151 rfl ?_
    refine sw_aload_n 153 0 C dL_acts_153 rfl rfl ?_
    refine sw_iconst 154 C dL_acts_154 4 (by decide) ?_
    refine xl_callSI 155 [0, 1] 2 [_, _] C hz hC dL_acts_155 (ct_L_value l hfl hS 4 rfl (by decide)) wK_L_value wM_L_95 wT_L_value wI_L hd_L_value rfl ⟨rfl, rfl⟩ ⟨Nat.le_of_ble_eq_true rfl, Nat.le_of_ble_eq_true rfl⟩ rfl rfl rfl rfl rfl rfl ?_
    refine sg_segs [_, _, _, _, _, _, _, _, _, _] rfl ?_
    refine sw_top (show _ = zlv S 1 from rfl) ?_
    refine sw_istore 158 C dL_acts_158 rfl ?_
    refine sw_loc (L1 := [(0, .ref _), (1, .int _), (2, .int _), (3, .int _), (4, .int _), (5, .int _), (6, .int _)]) ?_ rfl
    refine sw_aload_n 160 0 C dL_acts_160 rfl rfl ?_
    refine sw_iconst 161 C dL_acts_161 1 (by decide) ?_
    refine xl_callSI 162 [0, 1] 2 [_, _] C hz hC dL_acts_162 (ct_L_value l hfl hS 1 rfl (by decide)) wK_L_value wM_L_95 wT_L_value wI_L hd_L_value rfl ⟨rfl, rfl⟩ ⟨Nat.le_of_ble_eq_true rfl, Nat.le_of_ble_eq_true rfl⟩ rfl rfl rfl rfl rfl rfl ?_
    refine sg_segs [_, _, _, _, _, _, _, _, _, _] rfl ?_
    refine sw_top (show _ = zt S from rfl) ?_
    refine sw_istore 165 C dL_acts_165 rfl ?_
    refine sw_aload_n 167 0 C dL_acts_167 rfl rfl ?_
    refine sw_iload 168 C dL_acts_168 rfl ?_
    refine xl_callSI 170 [0, 1, 2, 3, 4, 5, 6] 2 [_, _, _, _, _, _, _] C hz hC dL_acts_170 (ct_L_passes l hfl hS hcn hod hh0 hh1 hh2 hh3 (1 + t) rfl (by omega) (by omega) (pass_time hJ.o (by omega))) wK_L_passes wM_L_144 wT_L_passes wI_L hd_L_passes rfl ⟨rfl, rfl⟩ ⟨Nat.le_of_ble_eq_true rfl, Nat.le_of_ble_eq_true rfl⟩ rfl rfl rfl rfl rfl rfl ?_
    refine sg_segs [_, _, _, _, _, _, _, _, _, _] rfl ?_
    refine sw_aload_n 173 0 C dL_acts_173 rfl rfl ?_
    refine sw_iconst 174 C dL_acts_174 4 (by decide) ?_
    refine xl_callSI 175 [0, 1] 2 [_, _] C hz hC dL_acts_175 (ct_L_value l hfl hS2 4 rfl (by decide)) wK_L_value wM_L_95 wT_L_value wI_L hd_L_value rfl ⟨rfl, rfl⟩ ⟨Nat.le_of_ble_eq_true rfl, Nat.le_of_ble_eq_true rfl⟩ rfl rfl rfl rfl rfl rfl ?_
    refine sg_segs [_, _, _, _, _, _, _, _, _, _] rfl ?_
    refine sw_top (show _ = zlv (tps (1 + t) S).2 1 from rfl) ?_
    refine sw_iload 178 C dL_acts_178 rfl ?_
    refine sw_isub 180 C dL_acts_180 ?_
    refine sw_top (show zlv (tps (1 + t) S).2 1 - zlv S 1 = nI (tps (1 + t) S).1 by rw [tps_lv1, Int32.add_comm, Int32.add_sub_cancel]) ?_
    refine sw_icmp_ne 181 226 C dL_acts_181 (by decide) (fun c_181 => ?_) (fun c_181 => ?_)
    · exact by first | exact absurd c_181 (rfl) | exact absurd (rfl) c_181
    refine sw_aload_n 184 0 C dL_acts_184 rfl rfl ?_
    refine sw_iconst 185 C dL_acts_185 1 (by decide) ?_
    refine xl_callSI 186 [0, 1] 2 [_, _] C hz hC dL_acts_186 (ct_L_value l hfl hS2 1 rfl (by decide)) wK_L_value wM_L_95 wT_L_value wI_L hd_L_value rfl ⟨rfl, rfl⟩ ⟨Nat.le_of_ble_eq_true rfl, Nat.le_of_ble_eq_true rfl⟩ rfl rfl rfl rfl rfl rfl ?_
    refine sg_segs [_, _, _, _, _, _, _, _, _, _] rfl ?_
    refine sw_top (show _ = zt (tps (1 + t) S).2 from rfl) ?_
    refine sw_iload 189 C dL_acts_189 rfl ?_
    refine sw_iload 191 C dL_acts_191 rfl ?_
    refine sw_iadd 193 C dL_acts_193 ?_
    refine sw_top (tps_zt S (1 + t)).symm ?_
    refine sw_icmp_ne 194 226 C dL_acts_194 (by decide) (fun c_194 => ?_) (fun c_194 => ?_)
    · exact by first | exact absurd c_194 (rfl) | exact absurd (rfl) c_194
    refine sw_iload 197 C dL_acts_197 rfl ?_
    refine sw_aload_n 199 0 C dL_acts_199 rfl rfl ?_
    refine sw_bipush 200 C dL_acts_200 6 (by decide) ?_
    refine xl_callSI 202 [0, 1] 2 [_, _] C hz hC dL_acts_202 (ct_L_value l hfl hS2 6 rfl (by decide)) wK_L_value wM_L_95 wT_L_value wI_L hd_L_value rfl ⟨rfl, rfl⟩ ⟨Nat.le_of_ble_eq_true rfl, Nat.le_of_ble_eq_true rfl⟩ rfl rfl rfl rfl rfl rfl ?_
    refine sg_segs [_, _, _, _, _, _, _, _, _, _] rfl ?_
    refine sw_top (show _ = zk (tps (1 + t) S).2 from rfl) ?_
    refine sw_aload_n 205 0 C dL_acts_205 rfl rfl ?_
    refine sw_bipush 206 C dL_acts_206 7 (by decide) ?_
    refine xl_callSI 208 [0, 1] 2 [_, _] C hz hC dL_acts_208 (ct_L_value l hfl hS2 7 rfl (by decide)) wK_L_value wM_L_95 wT_L_value wI_L hd_L_value rfl ⟨rfl, rfl⟩ ⟨Nat.le_of_ble_eq_true rfl, Nat.le_of_ble_eq_true rfl⟩ rfl rfl rfl rfl rfl rfl ?_
    refine sg_segs [_, _, _, _, _, _, _, _, _, _] rfl ?_
    refine sw_top (show _ = sgb (zbk (tps (1 + t) S).2) 8 from rfl) ?_
    refine sw_iadd 211 C dL_acts_211 ?_
    refine sw_aload_n 212 0 C dL_acts_212 rfl rfl ?_
    refine sw_bipush 213 C dL_acts_213 8 (by decide) ?_
    refine xl_callSI 215 [0, 1] 2 [_, _] C hz hC dL_acts_215 (ct_L_value l hfl hS2 8 rfl (by decide)) wK_L_value wM_L_95 wT_L_value wI_L hd_L_value rfl ⟨rfl, rfl⟩ ⟨Nat.le_of_ble_eq_true rfl, Nat.le_of_ble_eq_true rfl⟩ rfl rfl rfl rfl rfl rfl ?_
    refine sg_segs [_, _, _, _, _, _, _, _, _, _] rfl ?_
    refine sw_top (show _ = smb (zf (tps (1 + t) S).2) (zn (tps (1 + t) S).2) from rfl) ?_
    refine sw_iadd 218 C dL_acts_218 ?_
    refine sw_top (show zk (tps (1 + t) S).2 + sgb (zbk (tps (1 + t) S).2) 8 + smb (zf (tps (1 + t) S).2) (zn (tps (1 + t) S).2) = coins S from coins_tps hS (1 + t)) ?_
    refine sw_icmp_ne 219 226 C dL_acts_219 (by decide) (fun c_219 => ?_) (fun c_219 => ?_)
    · exact by first | exact absurd c_219 (rfl) | exact absurd (rfl) c_219
    refine sw_iconst 222 C dL_acts_222 1 (by decide) ?_
    refine sw_goto 223 227 C dL_acts_223 (by decide) ?_
    refine sw_widen (k' := 1) (n' := 6) (by decide) (by decide) ?_
    refine sw_zret 227 C RC rfl dL_acts_227 ?_
    refine ⟨rfl, (_, _, _, _, (_, _, _), _, _), ?_, rfl⟩
    exact ⟨(JI_tps hJ (1 + t)).mono (by omega) (by omega), hc2, ho2, hln⟩
  by_cases e_23_7 : kd = 7
  · refine sw_tblIn 23 143 C 7 dL_acts_23 (by rw [e_23_7]; decide) (by decide) rfl (by decide) ?_
    obtain ⟨t, ht, et⟩ : ∃ z : Nat, z < 7 ∧ lowN x2 7 = z := ⟨_, lowN_lt _ (by decide), rfl⟩
    have htl := tps_le hS (1 + t)
    have hS2 := SI_tps hS (1 + t)
    refine sw_iconst 143 C dL_acts_143 1 (by decide) ?_
    refine sw_iload_n 144 2 C dL_acts_144 rfl rfl ?_
    refine sw_bipush 145 C dL_acts_145 7 (by decide) ?_
    refine sg_callSIP 147 [] 2 C dL_acts_147 (ct_L_low l 7 rfl (by decide) (by decide)) wK_L_low wM_L_174 wT_L_low wI_L hd_L_low rfl ⟨rfl, rfl⟩ ⟨Nat.le_of_ble_eq_true rfl, Nat.le_of_ble_eq_true rfl⟩ rfl rfl rfl rfl ?_
    refine sw_top (congrArg nI et) ?_
    refine sw_iadd 150 C dL_acts_150 ?_
    refine sw_top (show (1 : Int32) + nI t = nI (1 + t) from nI_add 1 t) ?_
    refine sw_istore 151 C dL_acts_151 rfl ?_
    refine sw_aload_n 153 0 C dL_acts_153 rfl rfl ?_
    refine sw_iconst 154 C dL_acts_154 4 (by decide) ?_
    refine xl_callSI 155 [0, 1] 2 [_, _] C hz hC dL_acts_155 (ct_L_value l hfl hS 4 rfl (by decide)) wK_L_value wM_L_95 wT_L_value wI_L hd_L_value rfl ⟨rfl, rfl⟩ ⟨Nat.le_of_ble_eq_true rfl, Nat.le_of_ble_eq_true rfl⟩ rfl rfl rfl rfl rfl rfl ?_
    refine sg_segs [_, _, _, _, _, _, _, _, _, _] rfl ?_
    refine sw_top (show _ = zlv S 1 from rfl) ?_
    refine sw_istore 158 C dL_acts_158 rfl ?_
    refine sw_loc (L1 := [(0, .ref _), (1, .int _), (2, .int _), (3, .int _), (4, .int _), (5, .int _), (6, .int _)]) ?_ rfl
    refine sw_aload_n 160 0 C dL_acts_160 rfl rfl ?_
    refine sw_iconst 161 C dL_acts_161 1 (by decide) ?_
    refine xl_callSI 162 [0, 1] 2 [_, _] C hz hC dL_acts_162 (ct_L_value l hfl hS 1 rfl (by decide)) wK_L_value wM_L_95 wT_L_value wI_L hd_L_value rfl ⟨rfl, rfl⟩ ⟨Nat.le_of_ble_eq_true rfl, Nat.le_of_ble_eq_true rfl⟩ rfl rfl rfl rfl rfl rfl ?_
    refine sg_segs [_, _, _, _, _, _, _, _, _, _] rfl ?_
    refine sw_top (show _ = zt S from rfl) ?_
    refine sw_istore 165 C dL_acts_165 rfl ?_
    refine sw_aload_n 167 0 C dL_acts_167 rfl rfl ?_
    refine sw_iload 168 C dL_acts_168 rfl ?_
    refine xl_callSI 170 [0, 1, 2, 3, 4, 5, 6] 2 [_, _, _, _, _, _, _] C hz hC dL_acts_170 (ct_L_passes l hfl hS hcn hod hh0 hh1 hh2 hh3 (1 + t) rfl (by omega) (by omega) (pass_time hJ.o (by omega))) wK_L_passes wM_L_144 wT_L_passes wI_L hd_L_passes rfl ⟨rfl, rfl⟩ ⟨Nat.le_of_ble_eq_true rfl, Nat.le_of_ble_eq_true rfl⟩ rfl rfl rfl rfl rfl rfl ?_
    refine sg_segs [_, _, _, _, _, _, _, _, _, _] rfl ?_
    refine sw_aload_n 173 0 C dL_acts_173 rfl rfl ?_
    refine sw_iconst 174 C dL_acts_174 4 (by decide) ?_
    refine xl_callSI 175 [0, 1] 2 [_, _] C hz hC dL_acts_175 (ct_L_value l hfl hS2 4 rfl (by decide)) wK_L_value wM_L_95 wT_L_value wI_L hd_L_value rfl ⟨rfl, rfl⟩ ⟨Nat.le_of_ble_eq_true rfl, Nat.le_of_ble_eq_true rfl⟩ rfl rfl rfl rfl rfl rfl ?_
    refine sg_segs [_, _, _, _, _, _, _, _, _, _] rfl ?_
    refine sw_top (show _ = zlv (tps (1 + t) S).2 1 from rfl) ?_
    refine sw_iload 178 C dL_acts_178 rfl ?_
    refine sw_isub 180 C dL_acts_180 ?_
    refine sw_top (show zlv (tps (1 + t) S).2 1 - zlv S 1 = nI (tps (1 + t) S).1 by rw [tps_lv1, Int32.add_comm, Int32.add_sub_cancel]) ?_
    refine sw_icmp_ne 181 226 C dL_acts_181 (by decide) (fun c_181 => ?_) (fun c_181 => ?_)
    · exact by first | exact absurd c_181 (rfl) | exact absurd (rfl) c_181
    refine sw_aload_n 184 0 C dL_acts_184 rfl rfl ?_
    refine sw_iconst 185 C dL_acts_185 1 (by decide) ?_
    refine xl_callSI 186 [0, 1] 2 [_, _] C hz hC dL_acts_186 (ct_L_value l hfl hS2 1 rfl (by decide)) wK_L_value wM_L_95 wT_L_value wI_L hd_L_value rfl ⟨rfl, rfl⟩ ⟨Nat.le_of_ble_eq_true rfl, Nat.le_of_ble_eq_true rfl⟩ rfl rfl rfl rfl rfl rfl ?_
    refine sg_segs [_, _, _, _, _, _, _, _, _, _] rfl ?_
    refine sw_top (show _ = zt (tps (1 + t) S).2 from rfl) ?_
    refine sw_iload 189 C dL_acts_189 rfl ?_
    refine sw_iload 191 C dL_acts_191 rfl ?_
    refine sw_iadd 193 C dL_acts_193 ?_
    refine sw_top (tps_zt S (1 + t)).symm ?_
    refine sw_icmp_ne 194 226 C dL_acts_194 (by decide) (fun c_194 => ?_) (fun c_194 => ?_)
    · exact by first | exact absurd c_194 (rfl) | exact absurd (rfl) c_194
    refine sw_iload 197 C dL_acts_197 rfl ?_
    refine sw_aload_n 199 0 C dL_acts_199 rfl rfl ?_
    refine sw_bipush 200 C dL_acts_200 6 (by decide) ?_
    refine xl_callSI 202 [0, 1] 2 [_, _] C hz hC dL_acts_202 (ct_L_value l hfl hS2 6 rfl (by decide)) wK_L_value wM_L_95 wT_L_value wI_L hd_L_value rfl ⟨rfl, rfl⟩ ⟨Nat.le_of_ble_eq_true rfl, Nat.le_of_ble_eq_true rfl⟩ rfl rfl rfl rfl rfl rfl ?_
    refine sg_segs [_, _, _, _, _, _, _, _, _, _] rfl ?_
    refine sw_top (show _ = zk (tps (1 + t) S).2 from rfl) ?_
    refine sw_aload_n 205 0 C dL_acts_205 rfl rfl ?_
    refine sw_bipush 206 C dL_acts_206 7 (by decide) ?_
    refine xl_callSI 208 [0, 1] 2 [_, _] C hz hC dL_acts_208 (ct_L_value l hfl hS2 7 rfl (by decide)) wK_L_value wM_L_95 wT_L_value wI_L hd_L_value rfl ⟨rfl, rfl⟩ ⟨Nat.le_of_ble_eq_true rfl, Nat.le_of_ble_eq_true rfl⟩ rfl rfl rfl rfl rfl rfl ?_
    refine sg_segs [_, _, _, _, _, _, _, _, _, _] rfl ?_
    refine sw_top (show _ = sgb (zbk (tps (1 + t) S).2) 8 from rfl) ?_
    refine sw_iadd 211 C dL_acts_211 ?_
    refine sw_aload_n 212 0 C dL_acts_212 rfl rfl ?_
    refine sw_bipush 213 C dL_acts_213 8 (by decide) ?_
    refine xl_callSI 215 [0, 1] 2 [_, _] C hz hC dL_acts_215 (ct_L_value l hfl hS2 8 rfl (by decide)) wK_L_value wM_L_95 wT_L_value wI_L hd_L_value rfl ⟨rfl, rfl⟩ ⟨Nat.le_of_ble_eq_true rfl, Nat.le_of_ble_eq_true rfl⟩ rfl rfl rfl rfl rfl rfl ?_
    refine sg_segs [_, _, _, _, _, _, _, _, _, _] rfl ?_
    refine sw_top (show _ = smb (zf (tps (1 + t) S).2) (zn (tps (1 + t) S).2) from rfl) ?_
    refine sw_iadd 218 C dL_acts_218 ?_
    refine sw_top (show zk (tps (1 + t) S).2 + sgb (zbk (tps (1 + t) S).2) 8 + smb (zf (tps (1 + t) S).2) (zn (tps (1 + t) S).2) = coins S from coins_tps hS (1 + t)) ?_
    refine sw_icmp_ne 219 226 C dL_acts_219 (by decide) (fun c_219 => ?_) (fun c_219 => ?_)
    · exact by first | exact absurd c_219 (rfl) | exact absurd (rfl) c_219
    refine sw_iconst 222 C dL_acts_222 1 (by decide) ?_
    refine sw_goto 223 227 C dL_acts_223 (by decide) ?_
    refine sw_widen (k' := 1) (n' := 6) (by decide) (by decide) ?_
    refine sw_zret 227 C RC rfl dL_acts_227 ?_
    refine ⟨rfl, (_, _, _, _, (_, _, _), _, _), ?_, rfl⟩
    exact ⟨(JI_tps hJ (1 + t)).mono (by omega) (by omega), hc2, ho2, hln⟩
  by_cases e_23_8 : kd = 8
  · refine sw_tblIn 23 228 C 8 dL_acts_23 (by rw [e_23_8]; decide) (by decide) rfl (by decide) ?_
    rcases Nat.eq_zero_or_pos (zn S) with h0 | h0
    · refine sw_aload_n 228 0 C dL_acts_228 rfl rfl ?_
      have hn9 : nI (zn S) = 0 := by rw [h0]; rfl
      refine sw_iconst 229 C dL_acts_229 0 (by decide) ?_
      refine xl_callSI 230 [0, 1] 2 [_, _] C hz hC dL_acts_230 (ct_L_value l hfl hS 0 rfl (by decide)) wK_L_value wM_L_95 wT_L_value wI_L hd_L_value rfl ⟨rfl, rfl⟩ ⟨Nat.le_of_ble_eq_true rfl, Nat.le_of_ble_eq_true rfl⟩ rfl rfl rfl rfl rfl rfl ?_
      refine sg_segs [_, _, _, _, _, _, _, _, _, _] rfl ?_
      refine sw_top (show _ = nI (zn S) from rfl) ?_
      refine sw_if_ne 233 238 C dL_acts_233 (by decide) (fun c_233 => ?_) (fun c_233 => ?_)
      · exact by first | exact absurd c_233 (hn9) | exact absurd (hn9) c_233
      refine sw_iconst 236 C dL_acts_236 1 (by decide) ?_
      refine sw_widen (k' := 1) (n' := 6) (by decide) (by decide) ?_
      refine sw_zret 237 C RC rfl dL_acts_237 ?_
      refine ⟨rfl, (_, _, _, _, (_, _, _), _, _), ?_, rfl⟩
      exact ⟨hJ.mono (by omega) (by omega), hcn, hod, hln⟩
    · refine sw_aload_n 228 0 C dL_acts_228 rfl rfl ?_
      refine sw_iconst 229 C dL_acts_229 0 (by decide) ?_
      refine xl_callSI 230 [0, 1] 2 [_, _] C hz hC dL_acts_230 (ct_L_value l hfl hS 0 rfl (by decide)) wK_L_value wM_L_95 wT_L_value wI_L hd_L_value rfl ⟨rfl, rfl⟩ ⟨Nat.le_of_ble_eq_true rfl, Nat.le_of_ble_eq_true rfl⟩ rfl rfl rfl rfl rfl rfl ?_
      refine sg_segs [_, _, _, _, _, _, _, _, _, _] rfl ?_
      refine sw_top (show _ = nI (zn S) from rfl) ?_
      refine sw_if_ne 233 238 C dL_acts_233 (by decide) (fun c_233 => ?_) (fun c_233 => ?_)
      rotate_left
      · exact by first | exact absurd c_233 (nI_ne0 h0 (by omega)) | exact absurd (nI_ne0 h0 (by omega)) c_233
      obtain ⟨k, hk, ek⟩ : ∃ k : Nat, k < zn S ∧ lowN x2 (zn S) = k := ⟨_, lowN_lt _ h0, rfl⟩
      have hpl := plc_ok hnum hrow hn hk
      have hf := fnd_num hnum hpl.1
      have hS2 : SI (leaveS S (plc (zf S) (zn S) k) 2) := SI_leave hS
      have hlg := leave_log (S := S) (i := (plc (zf S) (zn S) k)) (w := 2)
      have hJ2 : JI B U (leaveS S (plc (zf S) (zn S) k) 2) := by
        have := JI_leave hJ hpl.1 (w := 2) (by decide)
        rwa [lvS_x S (plc (zf S) (zn S) k) (w := 2) (by decide)] at this
      refine sw_aload_n 238 0 C dL_acts_238 rfl rfl ?_
      refine sw_iload_n 239 2 C dL_acts_239 rfl rfl ?_
      refine sw_aload_n 240 0 C dL_acts_240 rfl rfl ?_
      refine sw_iconst 241 C dL_acts_241 0 (by decide) ?_
      refine xl_callSI 242 [0, 1] 2 [_, _] C hz hC dL_acts_242 (ct_L_value l hfl hS 0 rfl (by decide)) wK_L_value wM_L_95 wT_L_value wI_L hd_L_value rfl ⟨rfl, rfl⟩ ⟨Nat.le_of_ble_eq_true rfl, Nat.le_of_ble_eq_true rfl⟩ rfl rfl rfl rfl rfl rfl ?_
      refine sg_segs [_, _, _, _, _, _, _, _, _, _] rfl ?_
      refine sw_top (show _ = nI (zn S) from rfl) ?_
      refine sg_callSIP 245 [] 2 C dL_acts_245 (ct_L_low l (zn S) rfl h0 (by omega)) wK_L_low wM_L_174 wT_L_low wI_L hd_L_low rfl ⟨rfl, rfl⟩ ⟨Nat.le_of_ble_eq_true rfl, Nat.le_of_ble_eq_true rfl⟩ rfl rfl rfl rfl ?_
      refine sw_top (congrArg nI ek) ?_
      refine xl_callSI 248 [0, 1, 9] 2 [_, _, _] C hz hC dL_acts_248 (ct_L_peek l hfl hS k (plc (zf S) (zn S) k) rfl hk hpl.1 (plc_arr hnum hrow hn _ hk)) wK_L_peek wM_L_106 wT_L_peek wI_L hd_L_peek rfl ⟨rfl, rfl⟩ ⟨Nat.le_of_ble_eq_true rfl, Nat.le_of_ble_eq_true rfl⟩ rfl rfl rfl rfl rfl rfl ?_
      refine sg_segs [_, _, _, _, _, _, _, _, _, _] rfl ?_
      refine sw_istore 251 C dL_acts_251 rfl ?_
      refine sw_aload_n 253 0 C dL_acts_253 rfl rfl ?_
      refine sw_iload 254 C dL_acts_254 rfl ?_
      refine sw_bipush 256 C dL_acts_256 6 (by decide) ?_
      refine xl_callSI 258 [0, 1] 3 [_, _] C hz hC dL_acts_258 (ct_L_one l hfl hS (plc (zf S) (zn S) k) hf 6 rfl (by decide)) wK_L_one wM_L_108 wT_L_one wI_L hd_L_one rfl ⟨rfl, rfl⟩ ⟨Nat.le_of_ble_eq_true rfl, Nat.le_of_ble_eq_true rfl⟩ rfl rfl rfl rfl rfl rfl ?_
      refine sg_segs [_, _, _, _, _, _, _, _, _, _] rfl ?_
      refine sw_top (show _ = zf S ((plc (zf S) (zn S) k) * 8 + 6) from rfl) ?_
      refine sw_istore 261 C dL_acts_261 rfl ?_
      refine sw_loc (L1 := [(0, .ref _), (1, .int _), (2, .int _), (3, .int _), (4, .int _), (5, .int _), (6, .int _)]) ?_ rfl
      refine sw_aload_n 263 0 C dL_acts_263 rfl rfl ?_
      refine sw_iload 264 C dL_acts_264 rfl ?_
      refine xl_callSI 266 [0, 1, 2, 3, 4, 5, 6] 2 [_, _, _, _, _, _, _] C hz hC dL_acts_266 (ct_L_takes l hfl hS hcn hod hh0 hh1 hh2 hh3 (plc (zf S) (zn S) k) hf) wK_L_takes wM_L_141 wT_L_takes wI_L hd_L_takes rfl ⟨rfl, rfl⟩ ⟨Nat.le_of_ble_eq_true rfl, Nat.le_of_ble_eq_true rfl⟩ rfl rfl rfl rfl rfl rfl ?_
      refine sg_segs [_, _, _, _, _, _, _, _, _, _] rfl ?_
      refine sw_top (show gbk (zf S) (zg S) (plc (zf S) (zn S) k) 2 = zf S ((plc (zf S) (zn S) k) * 8 + 6) - zf S ((plc (zf S) (zn S) k) * 8 + 6) / 4 from rfl) ?_
      refine sw_iload 269 C dL_acts_269 rfl ?_
      refine sw_iload 271 C dL_acts_271 rfl ?_
      refine sw_iconst 273 C dL_acts_273 4 (by decide) ?_
      refine sw_idiv 274 C dL_acts_274 (by decide) ?_
      refine sw_isub 275 C dL_acts_275 ?_
      refine sw_icmp_ne 276 316 C dL_acts_276 (by decide) (fun c_276 => ?_) (fun c_276 => ?_)
      · exact by first | exact absurd c_276 (rfl) | exact absurd (rfl) c_276
      refine sw_aload_n 279 0 C dL_acts_279 rfl rfl ?_
      refine sw_iload 280 C dL_acts_280 rfl ?_
      refine sw_iconst 282 C dL_acts_282 0 (by decide) ?_
      refine xl_callSI 283 [0, 1] 3 [_, _] C hz hC dL_acts_283 (ct_L_one_2 l hfl hS2 (leave_gone hnum hpl.1)) wK_L_one wM_L_108 wT_L_one wI_L hd_L_one rfl ⟨rfl, rfl⟩ ⟨Nat.le_of_ble_eq_true rfl, Nat.le_of_ble_eq_true rfl⟩ rfl rfl rfl rfl rfl rfl ?_
      refine sg_segs [_, _, _, _, _, _, _, _, _, _] rfl ?_
      refine sw_ldc 286 C dL_acts_286 (C.w wQ_L_17) ?_
      refine sw_icmp_ne 288 316 C dL_acts_288 (by decide) (fun c_288 => ?_) (fun c_288 => ?_)
      · exact by first | exact absurd c_288 (rfl) | exact absurd (rfl) c_288
      refine sw_aload_n 291 0 C dL_acts_291 rfl rfl ?_
      refine sw_iconst 292 C dL_acts_292 0 (by decide) ?_
      refine sw_iconst 293 C dL_acts_293 1 (by decide) ?_
      refine xl_callSI 294 [0, 1] 3 [_, _] C hz hC dL_acts_294 (ct_L_entry l hfl hS2 0 1 rfl hlg.2.2 rfl (by decide)) wK_L_entry wM_L_115 wT_L_entry wI_L hd_L_entry rfl ⟨rfl, rfl⟩ ⟨Nat.le_of_ble_eq_true rfl, Nat.le_of_ble_eq_true rfl⟩ rfl rfl rfl rfl rfl rfl ?_
      refine sg_segs [_, _, _, _, _, _, _, _, _, _] rfl ?_
      refine sw_top hlg.2.1 ?_
      refine sw_iconst 297 C dL_acts_297 2 (by decide) ?_
      refine sw_icmp_ne 298 316 C dL_acts_298 (by decide) (fun c_298 => ?_) (fun c_298 => ?_)
      · exact by first | exact absurd c_298 (rfl) | exact absurd (rfl) c_298
      refine sw_aload_n 301 0 C dL_acts_301 rfl rfl ?_
      refine sw_iconst 302 C dL_acts_302 0 (by decide) ?_
      refine sw_iconst 303 C dL_acts_303 0 (by decide) ?_
      refine xl_callSI 304 [0, 1] 3 [_, _] C hz hC dL_acts_304 (ct_L_entry l hfl hS2 0 0 rfl hlg.2.2 rfl (by decide)) wK_L_entry wM_L_115 wT_L_entry wI_L hd_L_entry rfl ⟨rfl, rfl⟩ ⟨Nat.le_of_ble_eq_true rfl, Nat.le_of_ble_eq_true rfl⟩ rfl rfl rfl rfl rfl rfl ?_
      refine sg_segs [_, _, _, _, _, _, _, _, _, _] rfl ?_
      refine sw_top hlg.1 ?_
      refine sw_iload 307 C dL_acts_307 rfl ?_
      refine sw_icmp_ne 309 316 C dL_acts_309 (by decide) (fun c_309 => ?_) (fun c_309 => ?_)
      · exact by first | exact absurd c_309 (rfl) | exact absurd (rfl) c_309
      refine sw_iconst 312 C dL_acts_312 1 (by decide) ?_
      refine sw_goto 313 317 C dL_acts_313 (by decide) ?_
      refine sw_widen (k' := 1) (n' := 6) (by decide) (by decide) ?_
      refine sw_zret 317 C RC rfl dL_acts_317 ?_
      refine ⟨rfl, (_, _, _, _, (_, _, _), _, _), ?_, rfl⟩
      exact ⟨hJ2.mono (by omega) (by omega), hc2, ho2, hln⟩
  by_cases e_23_9 : kd = 9
  · refine sw_tblIn 23 318 C 9 dL_acts_23 (by rw [e_23_9]; decide) (by decide) rfl (by decide) ?_
    obtain ⟨r9, hr9, er9⟩ : ∃ z : Nat, z < 4 ∧ lowN x2 4 = z := ⟨_, lowN_lt _ (by decide), rfl⟩
    obtain ⟨p0, hp0, ep0⟩ : ∃ z : Nat, z < 12 ∧ lowN x3 12 = z := ⟨_, lowN_lt _ (by decide), rfl⟩
    obtain ⟨pp, hp1, hp2, hp3⟩ := hJ.s.1 r9 hr9
    refine sw_aload_n 318 0 C dL_acts_318 rfl rfl ?_
    refine sw_iload_n 319 2 C dL_acts_319 rfl rfl ?_
    refine sw_iconst 320 C dL_acts_320 4 (by decide) ?_
    refine sg_callSIP 321 [] 2 C dL_acts_321 (ct_L_low l 4 rfl (by decide) (by decide)) wK_L_low wM_L_174 wT_L_low wI_L hd_L_low rfl ⟨rfl, rfl⟩ ⟨Nat.le_of_ble_eq_true rfl, Nat.le_of_ble_eq_true rfl⟩ rfl rfl rfl rfl ?_
    refine sw_top (congrArg nI er9) ?_
    refine sw_iconst 324 C dL_acts_324 1 (by decide) ?_
    refine sw_iload_n 325 3 C dL_acts_325 rfl rfl ?_
    refine sw_bipush 326 C dL_acts_326 12 (by decide) ?_
    refine sg_callSIP 328 [] 2 C dL_acts_328 (ct_L_low l 12 rfl (by decide) (by decide)) wK_L_low wM_L_174 wT_L_low wI_L hd_L_low rfl ⟨rfl, rfl⟩ ⟨Nat.le_of_ble_eq_true rfl, Nat.le_of_ble_eq_true rfl⟩ rfl rfl rfl rfl ?_
    refine sw_top (congrArg nI ep0) ?_
    refine sw_iadd 331 C dL_acts_331 ?_
    refine sw_top (show (1 : Int32) + nI p0 = nI (1 + p0) from nI_add 1 p0) ?_
    refine xl_callSI 332 [0, 1, 2, 3, 4, 5, 6] 3 [_, _, _, _, _, _, _] C hz hC dL_acts_332 (ct_L_patience l hfl hS hcn hod hh0 hh1 hh2 hh3 r9 rfl hr9 (inR_nI 1 50 (by omega) (by omega) (by decide))) wK_L_patience wM_L_121 wT_L_patience wI_L hd_L_patience rfl ⟨rfl, rfl⟩ ⟨Nat.le_of_ble_eq_true rfl, Nat.le_of_ble_eq_true rfl⟩ rfl rfl rfl rfl rfl rfl ?_
    refine sg_segs [_, _, _, _, _, _, _, _, _, _] rfl ?_
    refine sw_top hp3 ?_
    refine sw_if_le 335 342 C dL_acts_335 (by decide) (fun c_335 => ?_) (fun c_335 => ?_)
    · exact by first | exact absurd c_335 (nI_ge (a := 0) hp1 (by omega)) | exact absurd (nI_ge (a := 0) hp1 (by omega)) c_335
    refine sw_iconst 338 C dL_acts_338 1 (by decide) ?_
    refine sw_goto 339 343 C dL_acts_339 (by decide) ?_
    refine sw_widen (k' := 1) (n' := 6) (by decide) (by decide) ?_
    refine sw_zret 343 C RC rfl dL_acts_343 ?_
    refine ⟨rfl, (_, _, _, _, (_, _, _), _, _), ?_, rfl⟩
    exact ⟨(JI_pat (r := r9) hJ (show 1 ≤ 1 + p0 by omega) (by omega) rfl).mono (by omega) (by omega), hc2, ho2, hln⟩
  refine sw_tblOut 23 344 C dL_acts_23 (by rw [nI_toInt (by omega)]; omega) (by decide) ?_
  obtain ⟨b0, hb0, eb0⟩ : ∃ z : Nat, z < 2 ∧ lowN x2 2 = z := ⟨_, lowN_lt _ (by decide), rfl⟩
  obtain ⟨q0, hq0, eq0⟩ : ∃ z : Nat, z < 10 ∧ lowN x3 10 = z := ⟨_, lowN_lt _ (by decide), rfl⟩
  obtain ⟨g0, hg0, eg0⟩ : ∃ z : Nat, z < 20 ∧ lowN x3 20 = z := ⟨_, lowN_lt _ (by decide), rfl⟩
  refine sw_iload_n 344 2 C dL_acts_344 rfl rfl ?_
  refine sw_iconst 345 C dL_acts_345 2 (by decide) ?_
  refine sg_callSIP 346 [] 2 C dL_acts_346 (ct_L_low l 2 rfl (by decide) (by decide)) wK_L_low wM_L_174 wT_L_low wI_L hd_L_low rfl ⟨rfl, rfl⟩ ⟨Nat.le_of_ble_eq_true rfl, Nat.le_of_ble_eq_true rfl⟩ rfl rfl rfl rfl ?_
  refine sw_top (congrArg nI eb0) ?_
  refine sw_if_ne 349 392 C dL_acts_349 (by decide) (fun c_349 => ?_) (fun c_349 => ?_)
  · refine sw_aload_n 392 0 C dL_acts_392 rfl rfl ?_
    refine sw_iload_n 393 3 C dL_acts_393 rfl rfl ?_
    refine sw_bipush 394 C dL_acts_394 20 (by decide) ?_
    refine sg_callSIP 396 [] 2 C dL_acts_396 (ct_L_low l 20 rfl (by decide) (by decide)) wK_L_low wM_L_174 wT_L_low wI_L hd_L_low rfl ⟨rfl, rfl⟩ ⟨Nat.le_of_ble_eq_true rfl, Nat.le_of_ble_eq_true rfl⟩ rfl rfl rfl rfl ?_
    refine sw_top (congrArg nI eg0) ?_
    refine xl_callSI 399 [0, 1, 2, 3, 4, 5, 6] 2 [_, _, _, _, _, _, _] C hz hC dL_acts_399 (ct_L_grace l hfl hS hcn hod hh0 hh1 hh2 hh3 (inR_nI 0 200 (by omega) (by omega) (by decide))) wK_L_grace wM_L_127 wT_L_grace wI_L hd_L_grace rfl ⟨rfl, rfl⟩ ⟨Nat.le_of_ble_eq_true rfl, Nat.le_of_ble_eq_true rfl⟩ rfl rfl rfl rfl rfl rfl ?_
    refine sg_segs [_, _, _, _, _, _, _, _, _, _] rfl ?_
    refine sw_if_lt 402 424 C dL_acts_402 (by decide) (fun c_402 => ?_) (fun c_402 => ?_)
    · exact by first | exact absurd c_402 (isN_ge hJ.s.2.2 (by decide)) | exact absurd (isN_ge hJ.s.2.2 (by decide)) c_402
    have hS2 : SI (zg_ S (nI g0)) := hS
    refine sw_aload_n 405 0 C dL_acts_405 rfl rfl ?_
    refine sw_bipush 406 C dL_acts_406 12 (by decide) ?_
    refine xl_callSI 408 [0, 1] 2 [_, _] C hz hC dL_acts_408 (ct_L_value l hfl hS2 12 rfl (by decide)) wK_L_value wM_L_95 wT_L_value wI_L hd_L_value rfl ⟨rfl, rfl⟩ ⟨Nat.le_of_ble_eq_true rfl, Nat.le_of_ble_eq_true rfl⟩ rfl rfl rfl rfl rfl rfl ?_
    refine sg_segs [_, _, _, _, _, _, _, _, _, _] rfl ?_
    refine sw_top (show _ = nI g0 from rfl) ?_
    refine sw_iload_n 411 3 C dL_acts_411 rfl rfl ?_
    refine sw_bipush 412 C dL_acts_412 20 (by decide) ?_
    refine sg_callSIP 414 [] 2 C dL_acts_414 (ct_L_low l 20 rfl (by decide) (by decide)) wK_L_low wM_L_174 wT_L_low wI_L hd_L_low rfl ⟨rfl, rfl⟩ ⟨Nat.le_of_ble_eq_true rfl, Nat.le_of_ble_eq_true rfl⟩ rfl rfl rfl rfl ?_
    refine sw_top (congrArg nI eg0) ?_
    refine sw_icmp_ne 417 424 C dL_acts_417 (by decide) (fun c_417 => ?_) (fun c_417 => ?_)
    · exact by first | exact absurd c_417 (rfl) | exact absurd (rfl) c_417
    refine sw_iconst 420 C dL_acts_420 1 (by decide) ?_
    refine sw_goto 421 425 C dL_acts_421 (by decide) ?_
    refine sw_widen (k' := 1) (n' := 6) (by decide) (by decide) ?_
    refine sw_zret 425 C RC rfl dL_acts_425 ?_
    refine ⟨rfl, (_, _, _, _, (_, _, _), _, _), ?_, rfl⟩
    exact ⟨(JI_g hJ ⟨g0, by omega, rfl⟩).mono (by omega) (by omega), hc2, ho2, hln⟩
  · refine sw_aload_n 352 0 C dL_acts_352 rfl rfl ?_
    refine sw_iconst 353 C dL_acts_353 1 (by decide) ?_
    refine sw_iload_n 354 3 C dL_acts_354 rfl rfl ?_
    refine sw_bipush 355 C dL_acts_355 10 (by decide) ?_
    refine sg_callSIP 357 [] 2 C dL_acts_357 (ct_L_low l 10 rfl (by decide) (by decide)) wK_L_low wM_L_174 wT_L_low wI_L hd_L_low rfl ⟨rfl, rfl⟩ ⟨Nat.le_of_ble_eq_true rfl, Nat.le_of_ble_eq_true rfl⟩ rfl rfl rfl rfl ?_
    refine sw_top (congrArg nI eq0) ?_
    refine sw_iadd 360 C dL_acts_360 ?_
    refine sw_top (show (1 : Int32) + nI q0 = nI (1 + q0) from nI_add 1 q0) ?_
    refine xl_callSI 361 [0, 1, 2, 3, 4, 5, 6] 2 [_, _, _, _, _, _, _] C hz hC dL_acts_361 (ct_L_quota l hfl hS hcn hod hh0 hh1 hh2 hh3 (inR_nI 0 10 (by omega) (by omega) (by decide))) wK_L_quota wM_L_124 wT_L_quota wI_L hd_L_quota rfl ⟨rfl, rfl⟩ ⟨Nat.le_of_ble_eq_true rfl, Nat.le_of_ble_eq_true rfl⟩ rfl rfl rfl rfl rfl rfl ?_
    refine sg_segs [_, _, _, _, _, _, _, _, _, _] rfl ?_
    refine sw_if_lt 364 388 C dL_acts_364 (by decide) (fun c_364 => ?_) (fun c_364 => ?_)
    · exact by first | exact absurd c_364 (isN_ge hJ.s.2.1 (by decide)) | exact absurd (isN_ge hJ.s.2.1 (by decide)) c_364
    have hS2 : SI (zq_ S (nI (1 + q0))) := hS
    refine sw_aload_n 367 0 C dL_acts_367 rfl rfl ?_
    refine sw_bipush 368 C dL_acts_368 11 (by decide) ?_
    refine xl_callSI 370 [0, 1] 2 [_, _] C hz hC dL_acts_370 (ct_L_value l hfl hS2 11 rfl (by decide)) wK_L_value wM_L_95 wT_L_value wI_L hd_L_value rfl ⟨rfl, rfl⟩ ⟨Nat.le_of_ble_eq_true rfl, Nat.le_of_ble_eq_true rfl⟩ rfl rfl rfl rfl rfl rfl ?_
    refine sg_segs [_, _, _, _, _, _, _, _, _, _] rfl ?_
    refine sw_top (show _ = nI (1 + q0) from rfl) ?_
    refine sw_iconst 373 C dL_acts_373 1 (by decide) ?_
    refine sw_iload_n 374 3 C dL_acts_374 rfl rfl ?_
    refine sw_bipush 375 C dL_acts_375 10 (by decide) ?_
    refine sg_callSIP 377 [] 2 C dL_acts_377 (ct_L_low l 10 rfl (by decide) (by decide)) wK_L_low wM_L_174 wT_L_low wI_L hd_L_low rfl ⟨rfl, rfl⟩ ⟨Nat.le_of_ble_eq_true rfl, Nat.le_of_ble_eq_true rfl⟩ rfl rfl rfl rfl ?_
    refine sw_top (congrArg nI eq0) ?_
    refine sw_iadd 380 C dL_acts_380 ?_
    refine sw_top (show (1 : Int32) + nI q0 = nI (1 + q0) from nI_add 1 q0) ?_
    refine sw_icmp_ne 381 388 C dL_acts_381 (by decide) (fun c_381 => ?_) (fun c_381 => ?_)
    · exact by first | exact absurd c_381 (rfl) | exact absurd (rfl) c_381
    refine sw_iconst 384 C dL_acts_384 1 (by decide) ?_
    refine sw_goto 385 425 C dL_acts_385 (by decide) ?_
    refine sw_widen (k' := 1) (n' := 6) (by decide) (by decide) ?_
    refine sw_zret 425 C RC rfl dL_acts_425 ?_
    refine ⟨rfl, (_, _, _, _, (_, _, _), _, _), ?_, rfl⟩
    exact ⟨(JI_q hJ ⟨1 + q0, by omega, rfl⟩).mono (by omega) (by omega), hc2, ho2, hln⟩
