/-! the bribe that leads -/
theorem bool_or {a b : Prop} : a ∨ b → a ∨ b := id
theorem hrf_y {f : Nat → Int32} {n : Nat} {q x : Int32} (h1 : n < 40) (h2 : ¬ q ≤ nI (ct (isOf f x) n)) : hrf f n q x (-1) = true := by
  unfold hrf qal
  rw [decide_eq_true h1, decide_eq_true (Int32.not_le.mp h2)]
  rfl
theorem num_pin {B U : Nat} {S : StT} {x1 x2 x3 x4 x5 : Int32} (h : JI B U (pinS S x1 x2 x3 x4 x5)) {a : Nat} (ha : a < zn S + 1) : zf (pinS S x1 x2 x3 x4 x5) (a * 8 + 7) = zp S ↔ a = zn S := by
  have e : zf (pinS S x1 x2 x3 x4 x5) (zn S * 8 + 7) = zp S := pin_7
  constructor
  · intro q
    exact num_eq h.o.num ha (show zn S < zn S + 1 by omega) (q.trans e.symm)
  · rintro rfl
    exact e
theorem lou_r {r b : Nat} (hr : r ≤ 4) (hb : b ≤ 100) : (if nI r + nI b / 25 < 4 then nI r + nI b / 25 else 4) = nI (if r + b / 25 < 4 then r + b / 25 else 4) := lou_eq hr hb
theorem inR_b {b : Nat} (h1 : 1 ≤ b) (h2 : b ≤ 100) : inR (nI b) 1 100 = true := inR_nI 1 100 h1 h2 (by decide)
theorem okSn_b {s r b : Nat} (hs : s < 8) (hr : r ≤ 4) (h1 : 1 ≤ b) (h2 : b ≤ 200) : okSn (nI s) (nI r) (nI b) = true := by
  unfold okSn
  rw [show inR (nI s) 0 7 = true from inR_nI 0 7 (Nat.zero_le _) (by omega) (by decide), show inR (nI r) 0 4 = true from inR_nI 0 4 (Nat.zero_le _) hr (by decide), show inR (nI b) 1 200 = true from inR_nI 1 200 h1 h2 (by decide)]
  rfl
theorem okSd_n {s : Nat} (h : s < 8) : okSd (nI s) := okSd_N ⟨s, by omega, rfl⟩
theorem JI_lead {B U : Nat} {S : StT} {s r b c : Nat} (h : JI B U S) (hB : B < 2 ^ 29) (hn : zn S < 40) (hs : s < 8) (hr : r ≤ 4) (h1 : 1 ≤ c) (h2 : c ≤ 200) (hb : b ≤ 100) : JI (B + 1) U (pinS S (nI s) (-1) (nI r) (nI c) (nI b)) :=
  JI_pin h (by omega) hn (okSd_n hs) (Or.inl rfl) (Or.inl rfl) ⟨r, hr, rfl⟩ ⟨c, h1, h2, rfl⟩ ⟨b, hb, rfl⟩
set_option maxHeartbeats 8000000 in
set_option maxRecDepth 100000 in
theorem ct_L_isLead (l : Launch) (hfl : l.stackTraces = false) {D : va_G} {cI cJ cQ : ClassId} {x0a a0 a1 a2 a3 a4 a5 a6 a7 tr0 tr1 tr2 tr3 tr4 tr5 tr6 tr7 s0 s1 ra0 ra1 ra2 ra3 ra4 ra5 ra6 ra7 rb0 rb1 rb2 rb3 rb4 rb5 rb6 rb7 rc0 rc1 rc2 rc3 rc4 rc5 rc6 rc7 rd0 rd1 rd2 rd3 rd4 rd5 rd6 rd7 r0 t0 t1 w0 : Nat} {h : Nat → Option Nat} {S T : StT} {R : Nat → StT} {cn od ln : Nat} {by_ g : Nat → Int32} {X : RS} {B U : Nat} {x1 x2 : Int32} (hJ : JI B U S) (hB0 : B < 2 ^ 29) (hh0 : h 0 = some ra0) (hh1 : h 1 = some rb0) (hh2 : h 2 = some rc0) (hh3 : h 3 = some rd0) (hcn : cn ≤ 4) (hod : od < 4) (hln : ln ≤ 100) (r : Nat) (h1 : x1 = nI r) (hr : r < 5) (s9 : Nat) (h2 : x2 = nI s9) (hs9 : s9 < 8) : LCt l yL_isLead (Cond.code yL_isLead cL_isLead 8 (some .boolean)) 11 214 0 0 D (tyz cI cJ cQ) [.ref x0a, .int x1, .int x2] (flatS [[(x0a, .inr (6, [.ref a0, .ref tr0, .ref s0, .ref r0, .ref w0]))], (wSt a0 a1 a2 a3 a4 a5 a6 a7 cI (S)), [(s0, .inr (3, [.int (nI (cn)), .int (nI (od)), .ref s1])), (s1, .inl (cQ, 4, .inr (.inr (.inr (.inr h)))))], (wSt ra0 ra1 ra2 ra3 ra4 ra5 ra6 ra7 cI ((R) 0)), (wSt rb0 rb1 rb2 rb3 rb4 rb5 rb6 rb7 cI ((R) 1)), (wSt rc0 rc1 rc2 rc3 rc4 rc5 rc6 rc7 cI ((R) 2)), (wSt rd0 rd1 rd2 rd3 rd4 rd5 rd6 rd7 cI ((R) 3)), (wSt tr0 tr1 tr2 tr3 tr4 tr5 tr6 tr7 cI (T)), (wRd r0 t0 t1 cI (ln) (by_) (X)), [(w0, .inl (cI, 40, .inl (g)))]]) (pstE 1 ZP (fun z : ScT => (flatS [[(x0a, .inr (6, [.ref a0, .ref tr0, .ref s0, .ref r0, .ref w0]))], (wSt a0 a1 a2 a3 a4 a5 a6 a7 cI (S)), [(s0, .inr (3, [.int (nI (z.2.2.2.1.1)), .int (nI (z.2.2.2.1.2.1)), .ref s1])), (s1, .inl (cQ, 4, .inr (.inr (.inr (.inr h)))))], (wSt ra0 ra1 ra2 ra3 ra4 ra5 ra6 ra7 cI ((z.2.2.1) 0)), (wSt rb0 rb1 rb2 rb3 rb4 rb5 rb6 rb7 cI ((z.2.2.1) 1)), (wSt rc0 rc1 rc2 rc3 rc4 rc5 rc6 rc7 cI ((z.2.2.1) 2)), (wSt rd0 rd1 rd2 rd3 rd4 rd5 rd6 rd7 cI ((z.2.2.1) 3)), (wSt tr0 tr1 tr2 tr3 tr4 tr5 tr6 tr7 cI (z.1)), (wRd r0 t0 t1 cI (z.2.2.2.1.2.2) (z.2.2.2.2.1) (z.2.2.2.2.2)), [(w0, .inl (cI, 40, .inl (z.2.1)))]]))) := by
  refine LCt.ofC RL (by decide) rfl (Nat.le_of_ble_eq_true rfl) ?_
  intro p e s m below meth c A C RC hz hC
  subst h1 h2
  have hS := hJ.si
  have hn := hJ.o.n
  have hlc := hJ.si.2.1
  have hnum := hJ.o.num
  have hrow := hJ.o.row
  obtain ⟨d, d1, d2, d3, d4⟩ := ldr_d hJ
  have hc2 := svC_le hcn
  have ho2 := svO_lt (cn := cn) hod
  have hL : ¬ brl (nI d) (nI r) < -1 ∧ ¬ 100 < brl (nI d) (nI r) := by
    rcases Nat.lt_or_ge r d with q | q
    · rcases Nat.lt_or_ge 4 d with q2 | q2
      · rw [brl_x q2 d1 (by omega)]
        decide
      · rw [brl_b q q2]
        exact ⟨fun z => absurd (Int32.lt_trans z (by decide : (-1 : Int32) < 0)) (nI_pos (by omega)), Int32.not_lt.mpr (nI_le (b := 100) (by omega) (by decide))⟩
    · rw [brl_0 q (by omega)]
      decide
  refine sw_aload_n 0 0 C dL_isLead_0 rfl rfl ?_
  refine xl_callH 1 [0, 1, 2, 3, 4, 5, 6, 7, 8, 9] 1 C hz hC dL_isLead_1 (ct_L_sum l hfl hJ) wK_L_sum wM_L_117 wT_L_sum wI_L hd_L_sum rfl ⟨rfl, rfl⟩ ⟨Nat.le_of_ble_eq_true rfl, Nat.le_of_ble_eq_true rfl⟩ rfl rfl rfl rfl (fun v_1 w_1 h_1 => ?_)
  obtain ⟨rfl, z9, hz9, rfl⟩ := h_1
  refine ⟨[_, _, _, _, _, _, _, _, _, _], rfl, rfl, ?_⟩
  refine sw_st (_ :: _) rfl ?_
  refine sg_segs [_, _, _, _, _, _, _, _, _, _] rfl ?_
  refine sw_lstore_n 4 3 C dL_isLead_4 rfl rfl ?_
  refine sw_aload_n 5 0 C dL_isLead_5 rfl rfl ?_
  refine sw_iload_n 6 1 C dL_isLead_6 rfl rfl ?_
  refine xl_callSI 7 [0, 1] 2 [_, _] C hz hC dL_isLead_7 (ct_L_leads l hfl hS (inR_nI 0 4 (Nat.zero_le _) (by omega) (by decide))) wK_L_leads wM_L_153 wT_L_leads wI_L hd_L_leads rfl ⟨rfl, rfl⟩ ⟨Nat.le_of_ble_eq_true rfl, Nat.le_of_ble_eq_true rfl⟩ rfl rfl rfl rfl rfl rfl ?_
  refine sg_segs [_, _, _, _, _, _, _, _, _, _] rfl ?_
  refine sw_top (show brl (ldr (zf S) (zn S) + 1) (nI r) = brl (nI d) (nI r) by rw [d2]) ?_
  refine sw_istore 10 C dL_isLead_10 rfl ?_
  refine sw_loc (L1 := [(0, .ref _), (1, .int _), (2, .int _), (3, .long _), (5, .int _)]) ?_ rfl
  refine sw_aload_n 12 0 C dL_isLead_12 rfl rfl ?_
  refine sw_iload_n 13 2 C dL_isLead_13 rfl rfl ?_
  refine xl_callSI 14 [0, 1] 2 [_, _] C hz hC dL_isLead_14 (ct_L_sent l hfl hS (inR_nI 0 7 (Nat.zero_le _) (by omega) (by decide))) wK_L_sent wM_L_100 wT_L_sent wI_L hd_L_sent rfl ⟨rfl, rfl⟩ ⟨Nat.le_of_ble_eq_true rfl, Nat.le_of_ble_eq_true rfl⟩ rfl rfl rfl rfl rfl rfl ?_
  refine sg_segs [_, _, _, _, _, _, _, _, _, _] rfl ?_
  refine sw_aload_n 17 0 C dL_isLead_17 rfl rfl ?_
  refine sw_bipush 18 C dL_isLead_18 11 (by decide) ?_
  refine xl_callSI 20 [0, 1] 2 [_, _] C hz hC dL_isLead_20 (ct_L_value l hfl hS 11 rfl (by decide)) wK_L_value wM_L_95 wT_L_value wI_L hd_L_value rfl ⟨rfl, rfl⟩ ⟨Nat.le_of_ble_eq_true rfl, Nat.le_of_ble_eq_true rfl⟩ rfl rfl rfl rfl rfl rfl ?_
  refine sg_segs [_, _, _, _, _, _, _, _, _, _] rfl ?_
  refine sw_top (show _ = zq S from rfl) ?_
  refine sw_icmp_ge 23 41 C dL_isLead_23 (by decide) (fun c_23 => ?_) (fun c_23 => ?_)
  · refine sw_iload 41 C dL_isLead_41 rfl ?_
    refine sw_iconst 43 C dL_isLead_43 (-1) (by decide) ?_
    refine sw_icmp_lt 44 58 C dL_isLead_44 (by decide) (fun c_44 => ?_) (fun c_44 => ?_)
    · exact by first | exact absurd c_44 (hL.1) | exact absurd (hL.1) c_44
    refine sw_iload 47 C dL_isLead_47 rfl ?_
    refine sw_bipush 49 C dL_isLead_49 100 (by decide) ?_
    refine sw_icmp_gt 51 58 C dL_isLead_51 (by decide) (fun c_51 => ?_) (fun c_51 => ?_)
    · exact by first | exact absurd c_51 (hL.2) | exact absurd (hL.2) c_51
    refine sw_iconst 54 C dL_isLead_54 1 (by decide) ?_
    refine sw_goto 55 59 C dL_isLead_55 (by decide) ?_
    refine sw_zret 59 C RC rfl dL_isLead_59 ?_
    refine ⟨rfl, (_, _, _, (_, _, _), _, _), ?_, rfl⟩
    exact ⟨hcn, hod, hln⟩
  · refine sw_aload_n 26 0 C dL_isLead_26 rfl rfl ?_
    refine sw_iconst 27 C dL_isLead_27 0 (by decide) ?_
    refine xl_callSI 28 [0, 1] 2 [_, _] C hz hC dL_isLead_28 (ct_L_value l hfl hS 0 rfl (by decide)) wK_L_value wM_L_95 wT_L_value wI_L hd_L_value rfl ⟨rfl, rfl⟩ ⟨Nat.le_of_ble_eq_true rfl, Nat.le_of_ble_eq_true rfl⟩ rfl rfl rfl rfl rfl rfl ?_
    refine sg_segs [_, _, _, _, _, _, _, _, _, _] rfl ?_
    refine sw_top (show _ = nI (zn S) from rfl) ?_
    refine sw_bipush 31 C dL_isLead_31 40 (by decide) ?_
    refine sw_icmp_eq 33 41 C dL_isLead_33 (by decide) (fun c_33 => ?_) (fun c_33 => ?_)
    · refine sw_iload 41 C dL_isLead_41 rfl ?_
      refine sw_iconst 43 C dL_isLead_43 (-1) (by decide) ?_
      refine sw_icmp_lt 44 58 C dL_isLead_44 (by decide) (fun c_44 => ?_) (fun c_44 => ?_)
      · exact by first | exact absurd c_44 (hL.1) | exact absurd (hL.1) c_44
      refine sw_iload 47 C dL_isLead_47 rfl ?_
      refine sw_bipush 49 C dL_isLead_49 100 (by decide) ?_
      refine sw_icmp_gt 51 58 C dL_isLead_51 (by decide) (fun c_51 => ?_) (fun c_51 => ?_)
      · exact by first | exact absurd c_51 (hL.2) | exact absurd (hL.2) c_51
      refine sw_iconst 54 C dL_isLead_54 1 (by decide) ?_
      refine sw_goto 55 59 C dL_isLead_55 (by decide) ?_
      refine sw_zret 59 C RC rfl dL_isLead_59 ?_
      refine ⟨rfl, (_, _, _, (_, _, _), _, _), ?_, rfl⟩
      exact ⟨hcn, hod, hln⟩
    · refine sw_iload 36 C dL_isLead_36 rfl ?_
      refine sw_if_ne 38 60 C dL_isLead_38 (by decide) (fun c_38 => ?_) (fun c_38 => ?_)
      · rcases (show 4 < d ∨ (r < d ∧ d ≤ 4) from by
          rcases Nat.lt_or_ge 4 d with q | q
          · exact Or.inl q
          · rcases Nat.lt_or_ge r d with z | z
            · exact Or.inr ⟨z, q⟩
            · exact absurd (brl_0 z (by omega)) c_38) with hd | ⟨hd, hd4⟩
        · have hLb := brl_x hd d1 (show r ≤ 4 by omega)
          have hm := (hrf_y (by have := hJ.o.n; rcases Nat.lt_or_ge (zn S) 40 with q | q; exact q; exact absurd (show nI (zn S) = 40 by rw [show zn S = 40 by omega]; rfl) c_33) c_23)
          have hn40 : zn S < 40 := hrf_lt hm
          refine sw_aload_n 60 0 C dL_isLead_60 rfl rfl ?_
          refine sw_iconst 61 C dL_isLead_61 2 (by decide) ?_
          refine xl_callSI 62 [0, 1] 2 [_, _] C hz hC dL_isLead_62 (ct_L_value l hfl hS 2 rfl (by decide)) wK_L_value wM_L_95 wT_L_value wI_L hd_L_value rfl ⟨rfl, rfl⟩ ⟨Nat.le_of_ble_eq_true rfl, Nat.le_of_ble_eq_true rfl⟩ rfl rfl rfl rfl rfl rfl ?_
          refine sg_segs [_, _, _, _, _, _, _, _, _, _] rfl ?_
          refine sw_top (show _ = zp S from rfl) ?_
          refine sw_istore 65 C dL_isLead_65 rfl ?_
          refine sw_aload_n 67 0 C dL_isLead_67 rfl rfl ?_
          refine sw_iload_n 68 2 C dL_isLead_68 rfl rfl ?_
          refine sw_iload_n 69 1 C dL_isLead_69 rfl rfl ?_
          refine sw_bipush 70 C dL_isLead_70 9 (by decide) ?_
          refine sw_iload 72 C dL_isLead_72 rfl ?_
          refine sw_iconst 74 C dL_isLead_74 (-1) (by decide) ?_
          refine sw_icmp_ne 75 83 C dL_isLead_75 (by decide) (fun c_75 => ?_) (fun c_75 => ?_)
          · exact by first | exact absurd c_75 (hLb) | exact absurd (hLb) c_75
          refine sw_bipush 78 C dL_isLead_78 100 (by decide) ?_
          refine sw_goto 80 85 C dL_isLead_80 (by decide) ?_
          have hS1 : JI (B + 1) U (pinS S (nI s9) (-1) (nI r) 9 (nI (100))) := JI_lead (c := 9) hJ hB0 hn40 hs9 (by omega) (by omega) (by omega) (by omega)
          have hpl1 : (plc (zf (pinS S (nI s9) (-1) (nI r) 9 (nI (100)))) (zn S + 1) 0) < zn S + 1 ∧ cbf (zf (pinS S (nI s9) (-1) (nI r) 9 (nI (100)))) (zn S + 1) (plc (zf (pinS S (nI s9) (-1) (nI r) 9 (nI (100)))) (zn S + 1) 0) = 0 := plc_ok hS1.o.num hS1.o.row hS1.o.n (show 0 < zn S + 1 by omega)
          have hv : ¬ zf (pinS S (nI s9) (-1) (nI r) 9 (nI (100))) ((plc (zf (pinS S (nI s9) (-1) (nI r) 9 (nI (100)))) (zn S + 1) 0) * 8 + 7) = zp S := fun q => by
            obtain ⟨i9, i1, i2⟩ := d4 (by omega)
            exact lead_F hS1 (lou_eq (r := r) (b := 100) (by omega) (by omega)) (by split <;> omega) i1 (show _ ≤ d - 1 by split <;> omega) (by omega) i2 ((num_pin hS1 hpl1.1).mp q)
          refine xl_callSI 85 [0, 1, 2, 3, 4, 5, 6] 5 [_, _, _, _, _, _, _] C hz hC dL_isLead_85 (ct_L_bribes l hfl hS hcn hod hh0 hh1 hh2 hh3 (okSn_b (b := 9) hs9 (by omega) (by omega) (by omega)) (inR_b (b := 100) (by omega) (by omega)) hm) wK_L_bribes wM_L_134 wT_L_bribes wI_L hd_L_bribes rfl ⟨rfl, rfl⟩ ⟨Nat.le_of_ble_eq_true rfl, Nat.le_of_ble_eq_true rfl⟩ rfl rfl rfl rfl rfl rfl ?_
          refine sg_segs [_, _, _, _, _, _, _, _, _, _] rfl ?_
          refine sw_iload 88 C dL_isLead_88 rfl ?_
          refine sw_icmp_ne 90 133 C dL_isLead_90 (by decide) (fun c_90 => ?_) (fun c_90 => ?_)
          · exact by first | exact absurd c_90 (rfl) | exact absurd (rfl) c_90
          refine sw_aload_n 93 0 C dL_isLead_93 rfl rfl ?_
          refine sw_iconst 94 C dL_isLead_94 0 (by decide) ?_
          refine xl_callSI 95 [0, 1, 9] 2 [_, _, _] C hz hC dL_isLead_95 (ct_L_peek l hfl hS1.si 0 (plc (zf (pinS S (nI s9) (-1) (nI r) 9 (nI (100)))) (zn S + 1) 0) rfl (show 0 < zn S + 1 by omega) (hpl1).1 (plc_arr hS1.o.num hS1.o.row hS1.o.n _ (show 0 < zn S + 1 by omega))) wK_L_peek wM_L_106 wT_L_peek wI_L hd_L_peek rfl ⟨rfl, rfl⟩ ⟨Nat.le_of_ble_eq_true rfl, Nat.le_of_ble_eq_true rfl⟩ rfl rfl rfl rfl rfl rfl ?_
          refine sg_segs [_, _, _, _, _, _, _, _, _, _] rfl ?_
          refine sw_iload 98 C dL_isLead_98 rfl ?_
          refine sw_icmp_ne 100 107 C dL_isLead_100 (by decide) (fun c_100 => ?_) (fun c_100 => ?_)
          rotate_left
          · exact by first | exact absurd c_100 (hv) | exact absurd (hv) c_100
          refine sw_iconst 107 C dL_isLead_107 0 (by decide) ?_
          refine sw_iload 108 C dL_isLead_108 rfl ?_
          refine sw_iconst 110 C dL_isLead_110 (-1) (by decide) ?_
          refine sw_icmp_eq 111 118 C dL_isLead_111 (by decide) (fun c_111 => ?_) (fun c_111 => ?_)
          rotate_left
          · exact by first | exact absurd c_111 (hLb) | exact absurd (hLb) c_111
          refine sw_iconst 118 C dL_isLead_118 0 (by decide) ?_
          refine sw_icmp_ne 119 133 C dL_isLead_119 (by decide) (fun c_119 => ?_) (fun c_119 => ?_)
          · exact by first | exact absurd c_119 (rfl) | exact absurd (rfl) c_119
          refine sw_aload_n 122 0 C dL_isLead_122 rfl rfl ?_
          refine xl_callSI 123 [0, 1, 2, 3, 4, 5, 6] 1 [_, _, _, _, _, _, _] C hz hC dL_isLead_123 (ct_L_back l hfl hS1.si hc2 ho2 hh0 hh1 hh2 hh3 svC_pos) wK_L_back wM_L_177 wT_L_back wI_L hd_L_back rfl ⟨rfl, rfl⟩ ⟨Nat.le_of_ble_eq_true rfl, Nat.le_of_ble_eq_true rfl⟩ rfl rfl rfl rfl rfl rfl ?_
          refine sg_segs [_, _, _, _, _, _, _, _, _, _] rfl ?_
          rw [sv_top]
          refine sw_if_lt 126 133 C dL_isLead_126 (by decide) (fun c_126 => ?_) (fun c_126 => ?_)
          · exact by first | exact absurd c_126 (nI_pos (by omega)) | exact absurd (nI_pos (by omega)) c_126
          refine sw_iconst 129 C dL_isLead_129 1 (by decide) ?_
          refine sw_goto 130 134 C dL_isLead_130 (by decide) ?_
          refine sw_istore 134 C dL_isLead_134 rfl ?_
          refine sw_loc (L1 := [(0, .ref _), (1, .int _), (2, .int _), (3, .long _), (5, .int _), (6, .int _), (7, .int _)]) ?_ rfl
          refine sw_iload 136 C dL_isLead_136 rfl ?_
          refine sw_if_eq 138 188 C dL_isLead_138 (by decide) (fun c_138 => ?_) (fun c_138 => ?_)
          · exact by first | exact absurd c_138 (by decide) | exact absurd (by decide) c_138
          refine sw_iload 141 C dL_isLead_141 rfl ?_
          refine sw_iconst 143 C dL_isLead_143 1 (by decide) ?_
          refine sw_icmp_le 144 188 C dL_isLead_144 (by decide) (fun c_144 => ?_) (fun c_144 => ?_)
          rotate_left
          · exact by first | exact absurd c_144 ((show brl (nI d) (nI r) ≤ 1 by rw [hLb]; decide)) | exact absurd ((show brl (nI d) (nI r) ≤ 1 by rw [hLb]; decide)) c_144
          refine sw_iload 188 C dL_isLead_188 rfl ?_
          refine sw_if_eq 190 206 C dL_isLead_190 (by decide) (fun c_190 => ?_) (fun c_190 => ?_)
          · exact by first | exact absurd c_190 (by decide) | exact absurd (by decide) c_190
          refine sw_aload_n 193 0 C dL_isLead_193 rfl rfl ?_
          refine xl_callH 194 [0, 1, 2, 3, 4, 5, 6, 7, 8, 9] 1 C hz hC dL_isLead_194 (ct_L_sum l hfl hJ) wK_L_sum wM_L_117 wT_L_sum wI_L hd_L_sum rfl ⟨rfl, rfl⟩ ⟨Nat.le_of_ble_eq_true rfl, Nat.le_of_ble_eq_true rfl⟩ rfl rfl rfl rfl (fun v_194 w_194 h_194 => ?_)
          obtain ⟨rfl, z9, hz9, rfl⟩ := h_194
          refine ⟨[_, _, _, _, _, _, _, _, _, _], rfl, rfl, ?_⟩
          refine sw_st (_ :: _) rfl ?_
          refine sg_segs [_, _, _, _, _, _, _, _, _, _] rfl ?_
          refine sw_lload_n 197 3 C dL_isLead_197 rfl rfl ?_
          refine sw_lcmp 198 C dL_isLead_198 ?_
          refine sw_if_ne 199 206 C dL_isLead_199 (by decide) (fun c_199 => ?_) (fun c_199 => ?_)
          · exact by first | exact absurd c_199 (fun q => q (lcmp_self _)) | exact absurd (fun q => q (lcmp_self _)) c_199
          refine sw_iconst 202 C dL_isLead_202 1 (by decide) ?_
          refine sw_goto 203 207 C dL_isLead_203 (by decide) ?_
          refine sw_zret 207 C RC rfl dL_isLead_207 ?_
          refine ⟨rfl, (_, _, _, (_, _, _), _, _), ?_, rfl⟩
          exact by first | exact ⟨Nat.le_trans (Nat.sub_le _ _) hc2, ho2, hln⟩ | exact ⟨Nat.le_trans (Nat.sub_le _ _) hc4, ho4, hln⟩
        · have hLb := brl_b hd hd4
          have hLc : ¬ brl (nI d) (nI r) = -1 := by rw [hLb]; exact i32_ne_m1 (by omega)
          have hLd : ¬ brl (nI d) (nI r) ≤ 1 := by rw [hLb]; exact nI_ge (a := 1) (by omega) (by omega)
          have hm := (hrf_y (by have := hJ.o.n; rcases Nat.lt_or_ge (zn S) 40 with q | q; exact q; exact absurd (show nI (zn S) = 40 by rw [show zn S = 40 by omega]; rfl) c_33) c_23)
          have hn40 : zn S < 40 := hrf_lt hm
          refine sw_aload_n 60 0 C dL_isLead_60 rfl rfl ?_
          refine sw_iconst 61 C dL_isLead_61 2 (by decide) ?_
          refine xl_callSI 62 [0, 1] 2 [_, _] C hz hC dL_isLead_62 (ct_L_value l hfl hS 2 rfl (by decide)) wK_L_value wM_L_95 wT_L_value wI_L hd_L_value rfl ⟨rfl, rfl⟩ ⟨Nat.le_of_ble_eq_true rfl, Nat.le_of_ble_eq_true rfl⟩ rfl rfl rfl rfl rfl rfl ?_
          refine sg_segs [_, _, _, _, _, _, _, _, _, _] rfl ?_
          refine sw_top (show _ = zp S from rfl) ?_
          refine sw_istore 65 C dL_isLead_65 rfl ?_
          refine sw_aload_n 67 0 C dL_isLead_67 rfl rfl ?_
          refine sw_iload_n 68 2 C dL_isLead_68 rfl rfl ?_
          refine sw_iload_n 69 1 C dL_isLead_69 rfl rfl ?_
          refine sw_bipush 70 C dL_isLead_70 9 (by decide) ?_
          refine sw_iload 72 C dL_isLead_72 rfl ?_
          refine sw_iconst 74 C dL_isLead_74 (-1) (by decide) ?_
          refine sw_icmp_ne 75 83 C dL_isLead_75 (by decide) (fun c_75 => ?_) (fun c_75 => ?_)
          rotate_left
          · exact by first | exact absurd c_75 (hLc) | exact absurd (hLc) c_75
          refine sw_iload 83 C dL_isLead_83 rfl ?_
          refine sw_top hLb ?_
          have hS1 : JI (B + 1) U (pinS S (nI s9) (-1) (nI r) 9 (nI ((d - r) * 25))) := JI_lead (c := 9) hJ hB0 hn40 hs9 (by omega) (by omega) (by omega) (by omega)
          have hpl1 : (plc (zf (pinS S (nI s9) (-1) (nI r) 9 (nI ((d - r) * 25)))) (zn S + 1) 0) < zn S + 1 ∧ cbf (zf (pinS S (nI s9) (-1) (nI r) 9 (nI ((d - r) * 25)))) (zn S + 1) (plc (zf (pinS S (nI s9) (-1) (nI r) 9 (nI ((d - r) * 25)))) (zn S + 1) 0) = 0 := plc_ok hS1.o.num hS1.o.row hS1.o.n (show 0 < zn S + 1 by omega)
          have hv : zf (pinS S (nI s9) (-1) (nI r) 9 (nI ((d - r) * 25))) ((plc (zf (pinS S (nI s9) (-1) (nI r) 9 (nI ((d - r) * 25)))) (zn S + 1) 0) * 8 + 7) = zp S := (num_pin hS1 hpl1.1).mpr (lead_T (e := d) hS1 (by rw [lou_eq (by omega) (by omega)]; exact congrArg nI (by split <;> omega)) (by omega) d3)
          refine xl_callSI 85 [0, 1, 2, 3, 4, 5, 6] 5 [_, _, _, _, _, _, _] C hz hC dL_isLead_85 (ct_L_bribes l hfl hS hcn hod hh0 hh1 hh2 hh3 (okSn_b (b := 9) hs9 (by omega) (by omega) (by omega)) (inR_b (by omega) (by omega)) hm) wK_L_bribes wM_L_134 wT_L_bribes wI_L hd_L_bribes rfl ⟨rfl, rfl⟩ ⟨Nat.le_of_ble_eq_true rfl, Nat.le_of_ble_eq_true rfl⟩ rfl rfl rfl rfl rfl rfl ?_
          refine sg_segs [_, _, _, _, _, _, _, _, _, _] rfl ?_
          refine sw_iload 88 C dL_isLead_88 rfl ?_
          refine sw_icmp_ne 90 133 C dL_isLead_90 (by decide) (fun c_90 => ?_) (fun c_90 => ?_)
          · exact by first | exact absurd c_90 (rfl) | exact absurd (rfl) c_90
          refine sw_aload_n 93 0 C dL_isLead_93 rfl rfl ?_
          refine sw_iconst 94 C dL_isLead_94 0 (by decide) ?_
          refine xl_callSI 95 [0, 1, 9] 2 [_, _, _] C hz hC dL_isLead_95 (ct_L_peek l hfl hS1.si 0 (plc (zf (pinS S (nI s9) (-1) (nI r) 9 (nI ((d - r) * 25)))) (zn S + 1) 0) rfl (show 0 < zn S + 1 by omega) (hpl1).1 (plc_arr hS1.o.num hS1.o.row hS1.o.n _ (show 0 < zn S + 1 by omega))) wK_L_peek wM_L_106 wT_L_peek wI_L hd_L_peek rfl ⟨rfl, rfl⟩ ⟨Nat.le_of_ble_eq_true rfl, Nat.le_of_ble_eq_true rfl⟩ rfl rfl rfl rfl rfl rfl ?_
          refine sg_segs [_, _, _, _, _, _, _, _, _, _] rfl ?_
          refine sw_iload 98 C dL_isLead_98 rfl ?_
          refine sw_icmp_ne 100 107 C dL_isLead_100 (by decide) (fun c_100 => ?_) (fun c_100 => ?_)
          · exact by first | exact absurd c_100 (hv) | exact absurd (hv) c_100
          refine sw_iconst 103 C dL_isLead_103 1 (by decide) ?_
          refine sw_goto 104 108 C dL_isLead_104 (by decide) ?_
          refine sw_iload 108 C dL_isLead_108 rfl ?_
          refine sw_iconst 110 C dL_isLead_110 (-1) (by decide) ?_
          refine sw_icmp_eq 111 118 C dL_isLead_111 (by decide) (fun c_111 => ?_) (fun c_111 => ?_)
          · exact by first | exact absurd c_111 (hLc) | exact absurd (hLc) c_111
          refine sw_iconst 114 C dL_isLead_114 1 (by decide) ?_
          refine sw_goto 115 119 C dL_isLead_115 (by decide) ?_
          refine sw_icmp_ne 119 133 C dL_isLead_119 (by decide) (fun c_119 => ?_) (fun c_119 => ?_)
          · exact by first | exact absurd c_119 (rfl) | exact absurd (rfl) c_119
          refine sw_aload_n 122 0 C dL_isLead_122 rfl rfl ?_
          refine xl_callSI 123 [0, 1, 2, 3, 4, 5, 6] 1 [_, _, _, _, _, _, _] C hz hC dL_isLead_123 (ct_L_back l hfl hS1.si hc2 ho2 hh0 hh1 hh2 hh3 svC_pos) wK_L_back wM_L_177 wT_L_back wI_L hd_L_back rfl ⟨rfl, rfl⟩ ⟨Nat.le_of_ble_eq_true rfl, Nat.le_of_ble_eq_true rfl⟩ rfl rfl rfl rfl rfl rfl ?_
          refine sg_segs [_, _, _, _, _, _, _, _, _, _] rfl ?_
          rw [sv_top]
          refine sw_if_lt 126 133 C dL_isLead_126 (by decide) (fun c_126 => ?_) (fun c_126 => ?_)
          · exact by first | exact absurd c_126 (nI_pos (by omega)) | exact absurd (nI_pos (by omega)) c_126
          refine sw_iconst 129 C dL_isLead_129 1 (by decide) ?_
          refine sw_goto 130 134 C dL_isLead_130 (by decide) ?_
          refine sw_istore 134 C dL_isLead_134 rfl ?_
          refine sw_loc (L1 := [(0, .ref _), (1, .int _), (2, .int _), (3, .long _), (5, .int _), (6, .int _), (7, .int _)]) ?_ rfl
          refine sw_iload 136 C dL_isLead_136 rfl ?_
          refine sw_if_eq 138 188 C dL_isLead_138 (by decide) (fun c_138 => ?_) (fun c_138 => ?_)
          · exact by first | exact absurd c_138 (by decide) | exact absurd (by decide) c_138
          refine sw_iload 141 C dL_isLead_141 rfl ?_
          refine sw_iconst 143 C dL_isLead_143 1 (by decide) ?_
          refine sw_icmp_le 144 188 C dL_isLead_144 (by decide) (fun c_144 => ?_) (fun c_144 => ?_)
          · exact by first | exact absurd c_144 (hLd) | exact absurd (hLd) c_144
          refine sw_aload_n 147 0 C dL_isLead_147 rfl rfl ?_
          refine sw_iload_n 148 2 C dL_isLead_148 rfl rfl ?_
          refine sw_iload_n 149 1 C dL_isLead_149 rfl rfl ?_
          refine sw_bipush 150 C dL_isLead_150 9 (by decide) ?_
          refine sw_iload 152 C dL_isLead_152 rfl ?_
          refine sw_iconst 154 C dL_isLead_154 1 (by decide) ?_
          refine sw_isub 155 C dL_isLead_155 ?_
          refine sw_top (show brl (nI d) (nI r) - 1 = nI ((d - r) * 25 - 1) by rw [hLb, show (1 : Int32) = nI 1 from rfl, pk_sub (by omega)]) ?_
          have hS2 : JI (B + 1) U (pinS S (nI s9) (-1) (nI r) 9 (nI ((d - r) * 25 - 1))) := JI_lead (c := 9) hJ hB0 hn40 hs9 (by omega) (by omega) (by omega) (by omega)
          have hpl2 : (plc (zf (pinS S (nI s9) (-1) (nI r) 9 (nI ((d - r) * 25 - 1)))) (zn S + 1) 0) < zn S + 1 ∧ cbf (zf (pinS S (nI s9) (-1) (nI r) 9 (nI ((d - r) * 25 - 1)))) (zn S + 1) (plc (zf (pinS S (nI s9) (-1) (nI r) 9 (nI ((d - r) * 25 - 1)))) (zn S + 1) 0) = 0 := plc_ok hS2.o.num hS2.o.row hS2.o.n (show 0 < zn S + 1 by omega)
          have hv2 : ¬ zf (pinS S (nI s9) (-1) (nI r) 9 (nI ((d - r) * 25 - 1))) ((plc (zf (pinS S (nI s9) (-1) (nI r) 9 (nI ((d - r) * 25 - 1)))) (zn S + 1) 0) * 8 + 7) = zp S := fun q => by
            obtain ⟨i9, i1, i2⟩ := d4 (by omega)
            exact lead_F (e := d - 1) hS2 (by rw [lou_eq (by omega) (by omega)]; exact congrArg nI (by split <;> omega)) (by omega) i1 (Nat.le_refl _) (by omega) i2 ((num_pin hS2 hpl2.1).mp q)
          have hc3 : svC cn - 1 ≤ 4 := by omega
          have hc4 := svC_le hc3
          have ho4 := svO_lt (cn := svC cn - 1) ho2
          refine xl_callSI 156 [0, 1, 2, 3, 4, 5, 6] 5 [_, _, _, _, _, _, _] C hz hC dL_isLead_156 (ct_L_bribes l hfl hS hc3 ho2 hh0 hh1 hh2 hh3 (okSn_b (b := 9) hs9 (by omega) (by omega) (by omega)) (inR_b (by omega) (by omega)) hm) wK_L_bribes wM_L_134 wT_L_bribes wI_L hd_L_bribes rfl ⟨rfl, rfl⟩ ⟨Nat.le_of_ble_eq_true rfl, Nat.le_of_ble_eq_true rfl⟩ rfl rfl rfl rfl rfl rfl ?_
          refine sg_segs [_, _, _, _, _, _, _, _, _, _] rfl ?_
          refine sw_iload 159 C dL_isLead_159 rfl ?_
          refine sw_icmp_ne 161 185 C dL_isLead_161 (by decide) (fun c_161 => ?_) (fun c_161 => ?_)
          · exact by first | exact absurd c_161 (rfl) | exact absurd (rfl) c_161
          refine sw_aload_n 164 0 C dL_isLead_164 rfl rfl ?_
          refine sw_iconst 165 C dL_isLead_165 0 (by decide) ?_
          refine xl_callSI 166 [0, 1, 9] 2 [_, _, _] C hz hC dL_isLead_166 (ct_L_peek l hfl hS2.si 0 (plc (zf (pinS S (nI s9) (-1) (nI r) 9 (nI ((d - r) * 25 - 1)))) (zn S + 1) 0) rfl (show 0 < zn S + 1 by omega) (hpl2).1 (plc_arr hS2.o.num hS2.o.row hS2.o.n _ (show 0 < zn S + 1 by omega))) wK_L_peek wM_L_106 wT_L_peek wI_L hd_L_peek rfl ⟨rfl, rfl⟩ ⟨Nat.le_of_ble_eq_true rfl, Nat.le_of_ble_eq_true rfl⟩ rfl rfl rfl rfl rfl rfl ?_
          refine sg_segs [_, _, _, _, _, _, _, _, _, _] rfl ?_
          refine sw_iload 169 C dL_isLead_169 rfl ?_
          refine sw_icmp_eq 171 185 C dL_isLead_171 (by decide) (fun c_171 => ?_) (fun c_171 => ?_)
          · exact by first | exact absurd c_171 (hv2) | exact absurd (hv2) c_171
          refine sw_aload_n 174 0 C dL_isLead_174 rfl rfl ?_
          refine xl_callSI 175 [0, 1, 2, 3, 4, 5, 6] 1 [_, _, _, _, _, _, _] C hz hC dL_isLead_175 (ct_L_back l hfl hS2.si hc4 ho4 hh0 hh1 hh2 hh3 svC_pos) wK_L_back wM_L_177 wT_L_back wI_L hd_L_back rfl ⟨rfl, rfl⟩ ⟨Nat.le_of_ble_eq_true rfl, Nat.le_of_ble_eq_true rfl⟩ rfl rfl rfl rfl rfl rfl ?_
          refine sg_segs [_, _, _, _, _, _, _, _, _, _] rfl ?_
          rw [sv_top]
          refine sw_if_lt 178 185 C dL_isLead_178 (by decide) (fun c_178 => ?_) (fun c_178 => ?_)
          · exact by first | exact absurd c_178 (nI_pos (by omega)) | exact absurd (nI_pos (by omega)) c_178
          refine sw_iconst 181 C dL_isLead_181 1 (by decide) ?_
          refine sw_goto 182 186 C dL_isLead_182 (by decide) ?_
          refine sw_istore 186 C dL_isLead_186 rfl ?_
          refine sw_iload 188 C dL_isLead_188 rfl ?_
          refine sw_if_eq 190 206 C dL_isLead_190 (by decide) (fun c_190 => ?_) (fun c_190 => ?_)
          · exact by first | exact absurd c_190 (by decide) | exact absurd (by decide) c_190
          refine sw_aload_n 193 0 C dL_isLead_193 rfl rfl ?_
          refine xl_callH 194 [0, 1, 2, 3, 4, 5, 6, 7, 8, 9] 1 C hz hC dL_isLead_194 (ct_L_sum l hfl hJ) wK_L_sum wM_L_117 wT_L_sum wI_L hd_L_sum rfl ⟨rfl, rfl⟩ ⟨Nat.le_of_ble_eq_true rfl, Nat.le_of_ble_eq_true rfl⟩ rfl rfl rfl rfl (fun v_194 w_194 h_194 => ?_)
          obtain ⟨rfl, z9, hz9, rfl⟩ := h_194
          refine ⟨[_, _, _, _, _, _, _, _, _, _], rfl, rfl, ?_⟩
          refine sw_st (_ :: _) rfl ?_
          refine sg_segs [_, _, _, _, _, _, _, _, _, _] rfl ?_
          refine sw_lload_n 197 3 C dL_isLead_197 rfl rfl ?_
          refine sw_lcmp 198 C dL_isLead_198 ?_
          refine sw_if_ne 199 206 C dL_isLead_199 (by decide) (fun c_199 => ?_) (fun c_199 => ?_)
          · exact by first | exact absurd c_199 (fun q => q (lcmp_self _)) | exact absurd (fun q => q (lcmp_self _)) c_199
          refine sw_iconst 202 C dL_isLead_202 1 (by decide) ?_
          refine sw_goto 203 207 C dL_isLead_203 (by decide) ?_
          refine sw_zret 207 C RC rfl dL_isLead_207 ?_
          refine ⟨rfl, (_, _, _, (_, _, _), _, _), ?_, rfl⟩
          exact by first | exact ⟨Nat.le_trans (Nat.sub_le _ _) hc2, ho2, hln⟩ | exact ⟨Nat.le_trans (Nat.sub_le _ _) hc4, ho4, hln⟩
      · refine sw_iload 41 C dL_isLead_41 rfl ?_
        refine sw_iconst 43 C dL_isLead_43 (-1) (by decide) ?_
        refine sw_icmp_lt 44 58 C dL_isLead_44 (by decide) (fun c_44 => ?_) (fun c_44 => ?_)
        · exact by first | exact absurd c_44 (hL.1) | exact absurd (hL.1) c_44
        refine sw_iload 47 C dL_isLead_47 rfl ?_
        refine sw_bipush 49 C dL_isLead_49 100 (by decide) ?_
        refine sw_icmp_gt 51 58 C dL_isLead_51 (by decide) (fun c_51 => ?_) (fun c_51 => ?_)
        · exact by first | exact absurd c_51 (hL.2) | exact absurd (hL.2) c_51
        refine sw_iconst 54 C dL_isLead_54 1 (by decide) ?_
        refine sw_goto 55 59 C dL_isLead_55 (by decide) ?_
        refine sw_zret 59 C RC rfl dL_isLead_59 ?_
        refine ⟨rfl, (_, _, _, (_, _, _), _, _), ?_, rfl⟩
        exact ⟨hcn, hod, hln⟩
