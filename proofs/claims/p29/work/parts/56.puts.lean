/-! petitions are put in -/
theorem hrf_n1 {f : Nat → Int32} {n : Nat} {q x y : Int32} (hn : n ≤ 40) (h : (40 : Int32) ≤ nI n) : hrf f n q x y = false := by
  unfold hrf
  rw [decide_eq_false (fun z : n < 40 => nI_ge (b := 40) z (by decide) h), Bool.false_and, Bool.false_and]
theorem hrf_n2 {f : Nat → Int32} {n : Nat} {q x y : Int32} (h : q ≤ nI (ct (isOf f x) n)) : hrf f n q x y = false := by
  unfold hrf
  rw [show qal f n q x = false from decide_eq_false (Int32.not_lt.mpr h), Bool.and_false, Bool.false_and]
theorem hrf_n3 {f : Nat → Int32} {n : Nat} {q x y : Int32} (hy : ¬ y = -1) (h : q ≤ nI (ct (isOf f y) n)) : hrf f n q x y = false := by
  unfold hrf
  rw [show qal f n q y = false from decide_eq_false (Int32.not_lt.mpr h), decide_eq_false hy, Bool.or_false, Bool.and_false]
theorem hrf_y1 {f : Nat → Int32} {n : Nat} {q x : Int32} (hn : n ≤ 40) (h1 : ¬ (40 : Int32) ≤ nI n) (h2 : ¬ q ≤ nI (ct (isOf f x) n)) : hrf f n q x (-1) = true :=
  hrf_y (by
    rcases Nat.lt_or_ge n 40 with z | z
    · exact z
    · exact absurd (nI_le (a := 40) z (by omega)) h1) h2
theorem hrf_y2 {f : Nat → Int32} {n : Nat} {q x y : Int32} (hn : n ≤ 40) (h1 : ¬ (40 : Int32) ≤ nI n) (h2 : ¬ q ≤ nI (ct (isOf f x) n)) (h3 : ¬ q ≤ nI (ct (isOf f y) n)) : hrf f n q x y = true := by
  have h0 : n < 40 := by
    rcases Nat.lt_or_ge n 40 with z | z
    · exact z
    · exact absurd (nI_le (a := 40) z (by omega)) h1
  unfold hrf
  rw [decide_eq_true h0, show qal f n q x = true from decide_eq_true (Int32.not_le.mp h2), show qal f n q y = true from decide_eq_true (Int32.not_le.mp h3), Bool.or_true]
  rfl
theorem bool2 (a : Bool) : a = false ∨ a = true := by cases a <;> simp
theorem knd_pin0 {f : Nat → Int32} {n : Nat} {ps x1 x3 x4 : Int32} : knd (pin f n ps x1 (-1) x3 x4 0) n = 0 := by
  unfold knd
  rw [pin_1, pin_6, if_pos rfl, if_neg (by decide)]
theorem knd_pin1 {f : Nat → Int32} {n b : Nat} {ps x1 x3 x4 : Int32} (h : 1 ≤ b) (h2 : b ≤ 100) : knd (pin f n ps x1 (-1) x3 x4 (nI b)) n = 1 := by
  unfold knd
  rw [pin_1, pin_6, if_pos rfl, if_pos (show 0 < nI b from nI_lt (a := 0) h (by omega))]
theorem knd_pin2 {f : Nat → Int32} {n t : Nat} {ps x1 x3 x4 : Int32} (h : t < 8) : knd (pin f n ps x1 (nI t) x3 x4 0) n = 2 := by
  unfold knd
  rw [pin_1, if_neg (i32_ne_m1 (by omega))]
set_option maxHeartbeats 8000000 in
set_option maxRecDepth 100000 in
theorem ct_L_puts (l : Launch) (hfl : l.stackTraces = false) {D : va_G} {cI cJ cQ : ClassId} {x0a a0 a1 a2 a3 a4 a5 a6 a7 tr0 tr1 tr2 tr3 tr4 tr5 tr6 tr7 s0 s1 ra0 ra1 ra2 ra3 ra4 ra5 ra6 ra7 rb0 rb1 rb2 rb3 rb4 rb5 rb6 rb7 rc0 rc1 rc2 rc3 rc4 rc5 rc6 rc7 rd0 rd1 rd2 rd3 rd4 rd5 rd6 rd7 r0 t0 t1 w0 : Nat} {h : Nat → Option Nat} {S T : StT} {R : Nat → StT} {cn od ln : Nat} {by_ g : Nat → Int32} {X : RS} {B U : Nat} {x1 x2 : Int32} (hJ : JI B U S) (hB0 : B < 2 ^ 29) (hh0 : h 0 = some ra0) (hh1 : h 1 = some rb0) (hh2 : h 2 = some rc0) (hh3 : h 3 = some rd0) (hcn : cn ≤ 4) (hod : od < 4) (hln : ln ≤ 100) : LCt l yL_puts (Cond.code yL_puts cL_puts 14 (some .boolean)) 11 213 1 6 D (tyz cI cJ cQ) [.ref x0a, .int x1, .int x2] (flatS [[(x0a, .inr (6, [.ref a0, .ref tr0, .ref s0, .ref r0, .ref w0]))], (wSt a0 a1 a2 a3 a4 a5 a6 a7 cI (S)), [(s0, .inr (3, [.int (nI (cn)), .int (nI (od)), .ref s1])), (s1, .inl (cQ, 4, .inr (.inr (.inr (.inr h)))))], (wSt ra0 ra1 ra2 ra3 ra4 ra5 ra6 ra7 cI ((R) 0)), (wSt rb0 rb1 rb2 rb3 rb4 rb5 rb6 rb7 cI ((R) 1)), (wSt rc0 rc1 rc2 rc3 rc4 rc5 rc6 rc7 cI ((R) 2)), (wSt rd0 rd1 rd2 rd3 rd4 rd5 rd6 rd7 cI ((R) 3)), (wSt tr0 tr1 tr2 tr3 tr4 tr5 tr6 tr7 cI (T)), (wRd r0 t0 t1 cI (ln) (by_) (X)), [(w0, .inl (cI, 40, .inl (g)))]]) (pstE 1 (fun z : StT × ScT => JI (B + 1) (U) z.1 ∧ ZP z.2) (fun z : StT × ScT => (flatS [[(x0a, .inr (6, [.ref a0, .ref tr0, .ref s0, .ref r0, .ref w0]))], (wSt a0 a1 a2 a3 a4 a5 a6 a7 cI (z.1)), [(s0, .inr (3, [.int (nI (z.2.2.2.2.1.1)), .int (nI (z.2.2.2.2.1.2.1)), .ref s1])), (s1, .inl (cQ, 4, .inr (.inr (.inr (.inr h)))))], (wSt ra0 ra1 ra2 ra3 ra4 ra5 ra6 ra7 cI ((z.2.2.2.1) 0)), (wSt rb0 rb1 rb2 rb3 rb4 rb5 rb6 rb7 cI ((z.2.2.2.1) 1)), (wSt rc0 rc1 rc2 rc3 rc4 rc5 rc6 rc7 cI ((z.2.2.2.1) 2)), (wSt rd0 rd1 rd2 rd3 rd4 rd5 rd6 rd7 cI ((z.2.2.2.1) 3)), (wSt tr0 tr1 tr2 tr3 tr4 tr5 tr6 tr7 cI (z.2.1)), (wRd r0 t0 t1 cI (z.2.2.2.2.1.2.2) (z.2.2.2.2.2.1) (z.2.2.2.2.2.2)), [(w0, .inl (cI, 40, .inl (z.2.2.1)))]]))) := by
  refine LCt.ofC RL (by decide) rfl (Nat.le_of_ble_eq_true rfl) ?_
  intro p e s m below meth c A C RC hz hC
  have hS := hJ.si
  have hn := hJ.o.n
  have hlc := hJ.si.2.1
  have hnum := hJ.o.num
  have hrow := hJ.o.row
  obtain ⟨s9, hs9, es9⟩ : ∃ z : Nat, z < 8 ∧ lowN x1 8 = z := ⟨_, lowN_lt _ (by decide), rfl⟩
  obtain ⟨t9, ht9, et9⟩ : ∃ z : Nat, z < 8 ∧ lowN (x1 >>> ((3 : Int32) &&& 31)) 8 = z := ⟨_, lowN_lt _ (by decide), rfl⟩
  obtain ⟨kd, hkd, ekd⟩ : ∃ z : Nat, z < 3 ∧ lowN (x1 >>> ((6 : Int32) &&& 31)) 3 = z := ⟨_, lowN_lt _ (by decide), rfl⟩
  obtain ⟨r9, hr9, er9⟩ : ∃ z : Nat, z < 5 ∧ lowN x2 5 = z := ⟨_, lowN_lt _ (by decide), rfl⟩
  obtain ⟨bd, hbd, ebd⟩ : ∃ z : Nat, z < 60 ∧ lowN (x2 >>> ((3 : Int32) &&& 31)) 60 = z := ⟨_, lowN_lt _ (by decide), rfl⟩
  obtain ⟨br, hbr, ebr⟩ : ∃ z : Nat, z < 100 ∧ lowN (x2 >>> ((9 : Int32) &&& 31)) 100 = z := ⟨_, lowN_lt _ (by decide), rfl⟩
  have hc2 := svC_le hcn
  have ho2 := svO_lt (cn := cn) hod
  have ho : okSn (nI s9) (nI r9) (nI (1 + bd)) = true := okSn_b hs9 (by omega) (by omega) (by omega)
  refine sw_iload_n 0 1 C dL_puts_0 rfl rfl ?_
  refine sw_bipush 1 C dL_puts_1 8 (by decide) ?_
  refine sg_callSIP 3 [] 2 C dL_puts_3 (ct_L_low l 8 rfl (by decide) (by decide)) wK_L_low wM_L_174 wT_L_low wI_L hd_L_low rfl ⟨rfl, rfl⟩ ⟨Nat.le_of_ble_eq_true rfl, Nat.le_of_ble_eq_true rfl⟩ rfl rfl rfl rfl ?_
  refine sw_top (congrArg nI es9) ?_
  refine sw_istore_n 6 3 C dL_puts_6 rfl rfl ?_
  refine sw_iload_n 7 1 C dL_puts_7 rfl rfl ?_
  refine sw_iconst 8 C dL_puts_8 3 (by decide) ?_
  refine sw_ishr 9 C dL_puts_9 ?_
  refine sw_bipush 10 C dL_puts_10 8 (by decide) ?_
  refine sg_callSIP 12 [] 2 C dL_puts_12 (ct_L_low l 8 rfl (by decide) (by decide)) wK_L_low wM_L_174 wT_L_low wI_L hd_L_low rfl ⟨rfl, rfl⟩ ⟨Nat.le_of_ble_eq_true rfl, Nat.le_of_ble_eq_true rfl⟩ rfl rfl rfl rfl ?_
  refine sw_top (congrArg nI et9) ?_
  refine sw_istore 15 C dL_puts_15 rfl ?_
  refine sw_loc (L1 := [(0, .ref _), (1, .int _), (2, .int _), (3, .int _), (4, .int _)]) ?_ rfl
  refine sw_iload_n 17 1 C dL_puts_17 rfl rfl ?_
  refine sw_bipush 18 C dL_puts_18 6 (by decide) ?_
  refine sw_ishr 20 C dL_puts_20 ?_
  refine sw_iconst 21 C dL_puts_21 3 (by decide) ?_
  refine sg_callSIP 22 [] 2 C dL_puts_22 (ct_L_low l 3 rfl (by decide) (by decide)) wK_L_low wM_L_174 wT_L_low wI_L hd_L_low rfl ⟨rfl, rfl⟩ ⟨Nat.le_of_ble_eq_true rfl, Nat.le_of_ble_eq_true rfl⟩ rfl rfl rfl rfl ?_
  refine sw_top (congrArg nI ekd) ?_
  refine sw_istore 25 C dL_puts_25 rfl ?_
  refine sw_iload_n 27 2 C dL_puts_27 rfl rfl ?_
  refine sw_iconst 28 C dL_puts_28 5 (by decide) ?_
  refine sg_callSIP 29 [] 2 C dL_puts_29 (ct_L_low l 5 rfl (by decide) (by decide)) wK_L_low wM_L_174 wT_L_low wI_L hd_L_low rfl ⟨rfl, rfl⟩ ⟨Nat.le_of_ble_eq_true rfl, Nat.le_of_ble_eq_true rfl⟩ rfl rfl rfl rfl ?_
  refine sw_top (congrArg nI er9) ?_
  refine sw_istore 32 C dL_puts_32 rfl ?_
  refine sw_loc (L1 := [(0, .ref _), (1, .int _), (2, .int _), (3, .int _), (4, .int _), (5, .int _), (6, .int _)]) ?_ rfl
  refine sw_iconst 34 C dL_puts_34 1 (by decide) ?_
  refine sw_iload_n 35 2 C dL_puts_35 rfl rfl ?_
  refine sw_iconst 36 C dL_puts_36 3 (by decide) ?_
  refine sw_ishr 37 C dL_puts_37 ?_
  refine sw_bipush 38 C dL_puts_38 60 (by decide) ?_
  refine sg_callSIP 40 [] 2 C dL_puts_40 (ct_L_low l 60 rfl (by decide) (by decide)) wK_L_low wM_L_174 wT_L_low wI_L hd_L_low rfl ⟨rfl, rfl⟩ ⟨Nat.le_of_ble_eq_true rfl, Nat.le_of_ble_eq_true rfl⟩ rfl rfl rfl rfl ?_
  refine sw_top (congrArg nI ebd) ?_
  refine sw_iadd 43 C dL_puts_43 ?_
  refine sw_top (show (1 : Int32) + nI bd = nI (1 + bd) from nI_add 1 bd) ?_
  refine sw_istore 44 C dL_puts_44 rfl ?_
  refine sw_iconst 46 C dL_puts_46 1 (by decide) ?_
  refine sw_iload_n 47 2 C dL_puts_47 rfl rfl ?_
  refine sw_bipush 48 C dL_puts_48 9 (by decide) ?_
  refine sw_ishr 50 C dL_puts_50 ?_
  refine sw_bipush 51 C dL_puts_51 100 (by decide) ?_
  refine sg_callSIP 53 [] 2 C dL_puts_53 (ct_L_low l 100 rfl (by decide) (by decide)) wK_L_low wM_L_174 wT_L_low wI_L hd_L_low rfl ⟨rfl, rfl⟩ ⟨Nat.le_of_ble_eq_true rfl, Nat.le_of_ble_eq_true rfl⟩ rfl rfl rfl rfl ?_
  refine sw_top (congrArg nI ebr) ?_
  refine sw_iadd 56 C dL_puts_56 ?_
  refine sw_top (show (1 : Int32) + nI br = nI (1 + br) from nI_add 1 br) ?_
  refine sw_istore 57 C dL_puts_57 rfl ?_
  refine sw_loc (L1 := [(0, .ref _), (1, .int _), (2, .int _), (3, .int _), (4, .int _), (5, .int _), (6, .int _), (7, .int _), (8, .int _)]) ?_ rfl
  refine sw_aload_n 59 0 C dL_puts_59 rfl rfl ?_
  refine sw_iconst 60 C dL_puts_60 2 (by decide) ?_
  refine xl_callSI 61 [0, 1] 2 [_, _] C hz hC dL_puts_61 (ct_L_value l hfl hS 2 rfl (by decide)) wK_L_value wM_L_95 wT_L_value wI_L hd_L_value rfl ⟨rfl, rfl⟩ ⟨Nat.le_of_ble_eq_true rfl, Nat.le_of_ble_eq_true rfl⟩ rfl rfl rfl rfl rfl rfl ?_
  refine sg_segs [_, _, _, _, _, _, _, _, _, _] rfl ?_
  refine sw_top (show _ = zp S from rfl) ?_
  refine sw_istore 64 C dL_puts_64 rfl ?_
  refine sw_aload_n 66 0 C dL_puts_66 rfl rfl ?_
  refine sw_bipush 67 C dL_puts_67 6 (by decide) ?_
  refine xl_callSI 69 [0, 1] 2 [_, _] C hz hC dL_puts_69 (ct_L_value l hfl hS 6 rfl (by decide)) wK_L_value wM_L_95 wT_L_value wI_L hd_L_value rfl ⟨rfl, rfl⟩ ⟨Nat.le_of_ble_eq_true rfl, Nat.le_of_ble_eq_true rfl⟩ rfl rfl rfl rfl rfl rfl ?_
  refine sg_segs [_, _, _, _, _, _, _, _, _, _] rfl ?_
  refine sw_top (show _ = zk S from rfl) ?_
  refine sw_aload_n 72 0 C dL_puts_72 rfl rfl ?_
  refine sw_bipush 73 C dL_puts_73 7 (by decide) ?_
  refine xl_callSI 75 [0, 1] 2 [_, _] C hz hC dL_puts_75 (ct_L_value l hfl hS 7 rfl (by decide)) wK_L_value wM_L_95 wT_L_value wI_L hd_L_value rfl ⟨rfl, rfl⟩ ⟨Nat.le_of_ble_eq_true rfl, Nat.le_of_ble_eq_true rfl⟩ rfl rfl rfl rfl rfl rfl ?_
  refine sg_segs [_, _, _, _, _, _, _, _, _, _] rfl ?_
  refine sw_top (show _ = sgb (zbk S) 8 from rfl) ?_
  refine sw_iadd 78 C dL_puts_78 ?_
  refine sw_aload_n 79 0 C dL_puts_79 rfl rfl ?_
  refine sw_bipush 80 C dL_puts_80 8 (by decide) ?_
  refine xl_callSI 82 [0, 1] 2 [_, _] C hz hC dL_puts_82 (ct_L_value l hfl hS 8 rfl (by decide)) wK_L_value wM_L_95 wT_L_value wI_L hd_L_value rfl ⟨rfl, rfl⟩ ⟨Nat.le_of_ble_eq_true rfl, Nat.le_of_ble_eq_true rfl⟩ rfl rfl rfl rfl rfl rfl ?_
  refine sg_segs [_, _, _, _, _, _, _, _, _, _] rfl ?_
  refine sw_top (show _ = smb (zf S) (zn S) from rfl) ?_
  refine sw_iadd 85 C dL_puts_85 ?_
  refine sw_top (show zk S + sgb (zbk S) 8 + smb (zf S) (zn S) = coins S from rfl) ?_
  refine sw_istore 86 C dL_puts_86 rfl ?_
  refine sw_loc (L1 := [(0, .ref _), (1, .int _), (2, .int _), (3, .int _), (4, .int _), (5, .int _), (6, .int _), (7, .int _), (8, .int _), (9, .int _), (10, .int _)]) ?_ rfl
  rcases (show kd = 0 ∨ kd = 1 ∨ kd = 2 by omega) with rfl | rfl | rfl
  · have hk1 : ¬ nI 0 = 1 := by decide
    have hk2 : ¬ nI 0 = 2 := by decide
    refine sw_aload_n 88 0 C dL_puts_88 rfl rfl ?_
    refine sw_iconst 89 C dL_puts_89 0 (by decide) ?_
    refine xl_callSI 90 [0, 1] 2 [_, _] C hz hC dL_puts_90 (ct_L_value l hfl hS 0 rfl (by decide)) wK_L_value wM_L_95 wT_L_value wI_L hd_L_value rfl ⟨rfl, rfl⟩ ⟨Nat.le_of_ble_eq_true rfl, Nat.le_of_ble_eq_true rfl⟩ rfl rfl rfl rfl rfl rfl ?_
    refine sg_segs [_, _, _, _, _, _, _, _, _, _] rfl ?_
    refine sw_top (show _ = nI (zn S) from rfl) ?_
    refine sw_bipush 93 C dL_puts_93 40 (by decide) ?_
    refine sw_jn2 138 (bI (hrf (zf S) (zn S) (zq S) (nI s9) (-1))) (fun hj_95 => ?_) ?_
    · refine sw_icmp_ge 95 137 C dL_puts_95 (by decide) (fun c_95 => ?_) (fun c_95 => ?_)
      · refine sw_iconst 137 C dL_puts_137 0 (by decide) ?_
        exact sw_top (by rw [hrf_n1 hn c_95]; rfl) hj_95
      · refine sw_aload_n 98 0 C dL_puts_98 rfl rfl ?_
        refine sw_iload_n 99 3 C dL_puts_99 rfl rfl ?_
        refine xl_callSI 100 [0, 1] 2 [_, _] C hz hC dL_puts_100 (ct_L_sent l hfl hS (inR_nI 0 7 (Nat.zero_le _) (by omega) (by decide))) wK_L_sent wM_L_100 wT_L_sent wI_L hd_L_sent rfl ⟨rfl, rfl⟩ ⟨Nat.le_of_ble_eq_true rfl, Nat.le_of_ble_eq_true rfl⟩ rfl rfl rfl rfl rfl rfl ?_
        refine sg_segs [_, _, _, _, _, _, _, _, _, _] rfl ?_
        refine sw_aload_n 103 0 C dL_puts_103 rfl rfl ?_
        refine sw_bipush 104 C dL_puts_104 11 (by decide) ?_
        refine xl_callSI 106 [0, 1] 2 [_, _] C hz hC dL_puts_106 (ct_L_value l hfl hS 11 rfl (by decide)) wK_L_value wM_L_95 wT_L_value wI_L hd_L_value rfl ⟨rfl, rfl⟩ ⟨Nat.le_of_ble_eq_true rfl, Nat.le_of_ble_eq_true rfl⟩ rfl rfl rfl rfl rfl rfl ?_
        refine sg_segs [_, _, _, _, _, _, _, _, _, _] rfl ?_
        refine sw_top (show _ = zq S from rfl) ?_
        refine sw_icmp_ge 109 137 C dL_puts_109 (by decide) (fun c_109 => ?_) (fun c_109 => ?_)
        · refine sw_iconst 137 C dL_puts_137 0 (by decide) ?_
          exact sw_top (by rw [hrf_n2 c_109]; rfl) hj_95
        · refine sw_iload 112 C dL_puts_112 rfl ?_
          refine sw_iconst 114 C dL_puts_114 2 (by decide) ?_
          refine sw_icmp_ne 115 133 C dL_puts_115 (by decide) (fun c_115 => ?_) (fun c_115 => ?_)
          rotate_left
          · exact by first | exact absurd c_115 (hk2) | exact absurd (hk2) c_115
          refine sw_iconst 133 C dL_puts_133 1 (by decide) ?_
          refine sw_goto 134 138 C dL_puts_134 (by decide) ?_
          exact sw_top (by rw [hrf_y1 hn c_95 c_109]; rfl) hj_95
    refine sw_istore 138 C dL_puts_138 rfl ?_
    rcases bool2 (hrf (zf S) (zn S) (zq S) (nI s9) (-1)) with hm | hm
    · have hb : bI (hrf (zf S) (zn S) (zq S) (nI s9) (-1)) = 0 := by rw [hm]; rfl
      refine sw_iload 140 C dL_puts_140 rfl ?_
      refine sw_if_ne 142 157 C dL_puts_142 (by decide) (fun c_142 => ?_) (fun c_142 => ?_)
      · exact by first | exact absurd c_142 (rfl) | exact absurd (rfl) c_142
      refine sw_aload_n 145 0 C dL_puts_145 rfl rfl ?_
      refine sw_iload_n 146 3 C dL_puts_146 rfl rfl ?_
      refine sw_iload 147 C dL_puts_147 rfl ?_
      refine sw_iload 149 C dL_puts_149 rfl ?_
      refine xl_callSI 151 [0, 1] 4 [_, _] C hz hC dL_puts_151 (ct_L_sends_3 l hfl hS ho hm) wK_L_sends wM_L_130 wT_L_sends wI_L hd_L_sends rfl ⟨rfl, rfl⟩ ⟨Nat.le_of_ble_eq_true rfl, Nat.le_of_ble_eq_true rfl⟩ rfl rfl rfl rfl rfl rfl ?_
      refine sg_segs [_, _, _, _, _, _, _, _, _, _] rfl ?_
      refine sw_goto 154 188 C dL_puts_154 (by decide) ?_
      refine sw_istore 188 C dL_puts_188 rfl ?_
      refine sw_iload 190 C dL_puts_190 rfl ?_
      refine sw_iconst 192 C dL_puts_192 2 (by decide) ?_
      refine sw_icmp_ne 193 215 C dL_puts_193 (by decide) (fun c_193 => ?_) (fun c_193 => ?_)
      rotate_left
      · exact by first | exact absurd c_193 (hk2) | exact absurd (hk2) c_193
      refine sw_iload 215 C dL_puts_215 rfl ?_
      refine sw_if_ne 217 233 C dL_puts_217 (by decide) (fun c_217 => ?_) (fun c_217 => ?_)
      · exact by first | exact absurd c_217 (hb) | exact absurd (hb) c_217
      refine sw_iload 220 C dL_puts_220 rfl ?_
      refine sw_ldc 222 C dL_puts_222 (C.w wQ_L_34) ?_
      refine sw_icmp_ne 224 231 C dL_puts_224 (by decide) (fun c_224 => ?_) (fun c_224 => ?_)
      · exact by first | exact absurd c_224 (rfl) | exact absurd (rfl) c_224
      refine sw_iconst 227 C dL_puts_227 1 (by decide) ?_
      refine sw_goto 228 232 C dL_puts_228 (by decide) ?_
      refine sw_widen (k' := 1) (n' := 6) (by decide) (by decide) ?_
      refine sw_zret 232 C RC rfl dL_puts_232 ?_
      refine ⟨rfl, (_, _, _, _, (_, _, _), _, _), ?_, rfl⟩
      exact ⟨hJ.mono (Nat.le_succ _) (Nat.le_refl _), hcn, hod, hln⟩
    · have hb : ¬ bI (hrf (zf S) (zn S) (zq S) (nI s9) (-1)) = 0 := by rw [hm]; decide
      have hn40 : zn S < 40 := hrf_lt hm
      have hS1 : JI (B + 1) U (pinS S (nI s9) (-1) (nI r9) (nI (1 + bd)) (0)) := JI_pin hJ (by omega) hn40 (okSd_n hs9) (Or.inl rfl) (Or.inl rfl) ⟨r9, by omega, rfl⟩ ⟨1 + bd, by omega, by omega, rfl⟩ ⟨0, by omega, rfl⟩
      have hfn : fnd (zf (pinS S (nI s9) (-1) (nI r9) (nI (1 + bd)) (0))) (zp S) (zn S + 1) = some (zn S) := by
        have := fnd_num hS1.o.num (show zn S < zn S + 1 by omega)
        rwa [show zf (pinS S (nI s9) (-1) (nI r9) (nI (1 + bd)) (0)) (zn S * 8 + 7) = zp S from pin_7] at this
      refine sw_iload 140 C dL_puts_140 rfl ?_
      refine sw_if_ne 142 157 C dL_puts_142 (by decide) (fun c_142 => ?_) (fun c_142 => ?_)
      · exact by first | exact absurd c_142 (rfl) | exact absurd (rfl) c_142
      refine sw_aload_n 145 0 C dL_puts_145 rfl rfl ?_
      refine sw_iload_n 146 3 C dL_puts_146 rfl rfl ?_
      refine sw_iload 147 C dL_puts_147 rfl ?_
      refine sw_iload 149 C dL_puts_149 rfl ?_
      refine xl_callSI 151 [0, 1, 2, 3, 4, 5, 6] 4 [_, _, _, _, _, _, _] C hz hC dL_puts_151 (ct_L_sends l hfl hS hcn hod hh0 hh1 hh2 hh3 ho hm) wK_L_sends wM_L_130 wT_L_sends wI_L hd_L_sends rfl ⟨rfl, rfl⟩ ⟨Nat.le_of_ble_eq_true rfl, Nat.le_of_ble_eq_true rfl⟩ rfl rfl rfl rfl rfl rfl ?_
      refine sg_segs [_, _, _, _, _, _, _, _, _, _] rfl ?_
      refine sw_goto 154 188 C dL_puts_154 (by decide) ?_
      refine sw_istore 188 C dL_puts_188 rfl ?_
      refine sw_iload 190 C dL_puts_190 rfl ?_
      refine sw_iconst 192 C dL_puts_192 2 (by decide) ?_
      refine sw_icmp_ne 193 215 C dL_puts_193 (by decide) (fun c_193 => ?_) (fun c_193 => ?_)
      rotate_left
      · exact by first | exact absurd c_193 (hk2) | exact absurd (hk2) c_193
      refine sw_iload 215 C dL_puts_215 rfl ?_
      refine sw_if_ne 217 233 C dL_puts_217 (by decide) (fun c_217 => ?_) (fun c_217 => ?_)
      rotate_left
      · exact by first | exact absurd c_217 (hb) | exact absurd (hb) c_217
      refine sw_iload 233 C dL_puts_233 rfl ?_
      refine sw_iconst 235 C dL_puts_235 1 (by decide) ?_
      refine sw_icmp_ne 236 250 C dL_puts_236 (by decide) (fun c_236 => ?_) (fun c_236 => ?_)
      rotate_left
      · exact by first | exact absurd c_236 (hk1) | exact absurd (hk1) c_236
      refine sw_iload 250 C dL_puts_250 rfl ?_
      refine sw_istore 252 C dL_puts_252 rfl ?_
      refine sw_loc (L1 := [(0, .ref _), (1, .int _), (2, .int _), (3, .int _), (4, .int _), (5, .int _), (6, .int _), (7, .int _), (8, .int _), (9, .int _), (10, .int _), (11, .int _), (12, .int _), (13, .int _)]) ?_ rfl
      refine sw_iload 254 C dL_puts_254 rfl ?_
      refine sw_iload 256 C dL_puts_256 rfl ?_
      refine sw_icmp_ne 258 360 C dL_puts_258 (by decide) (fun c_258 => ?_) (fun c_258 => ?_)
      · exact by first | exact absurd c_258 (rfl) | exact absurd (rfl) c_258
      refine sw_aload_n 261 0 C dL_puts_261 rfl rfl ?_
      refine sw_iload 262 C dL_puts_262 rfl ?_
      refine sw_iconst 264 C dL_puts_264 2 (by decide) ?_
      refine xl_callSI 265 [0, 1] 3 [_, _] C hz hC dL_puts_265 (ct_L_one l hfl hS1.si (zn S) hfn 2 rfl (by decide)) wK_L_one wM_L_108 wT_L_one wI_L hd_L_one rfl ⟨rfl, rfl⟩ ⟨Nat.le_of_ble_eq_true rfl, Nat.le_of_ble_eq_true rfl⟩ rfl rfl rfl rfl rfl rfl ?_
      refine sg_segs [_, _, _, _, _, _, _, _, _, _] rfl ?_
      refine sw_top (show tel (zf (pinS S (nI s9) (-1) (nI r9) (nI (1 + bd)) (0))) (zn S + 1) (zn S) 2 = nI (if r9 + 0 / 25 < 4 then r9 + 0 / 25 else 4) from pin_2.trans (lou_eq (r := r9) (b := 0) (by omega) (by omega))) ?_
      refine sw_iload 268 C dL_puts_268 rfl ?_
      refine sw_iconst 270 C dL_puts_270 4 (by decide) ?_
      refine sw_jn2 280 (nI (if r9 + 0 / 25 < 4 then r9 + 0 / 25 else 4)) (fun hj_271 => ?_) ?_
      · refine sw_icmp_le 271 278 C dL_puts_271 (by decide) (fun c_271 => ?_) (fun c_271 => ?_)
        · refine sw_iload 278 C dL_puts_278 rfl ?_
          exact sw_top (show nI r9 = nI (if r9 + 0 / 25 < 4 then r9 + 0 / 25 else 4) from congrArg nI (by split <;> omega)) hj_271
        · refine sw_iconst 274 C dL_puts_274 4 (by decide) ?_
          refine sw_goto 275 280 C dL_puts_275 (by decide) ?_
          exact sw_top (absurd (nI_le (b := 4) (show r9 ≤ 4 by omega) (by decide)) c_271) hj_271
      refine sw_icmp_ne 280 360 C dL_puts_280 (by decide) (fun c_280 => ?_) (fun c_280 => ?_)
      · exact by first | exact absurd c_280 (rfl) | exact absurd (rfl) c_280
      refine sw_aload_n 283 0 C dL_puts_283 rfl rfl ?_
      refine sw_iload 284 C dL_puts_284 rfl ?_
      refine sw_iconst 286 C dL_puts_286 3 (by decide) ?_
      refine xl_callSI 287 [0, 1] 3 [_, _] C hz hC dL_puts_287 (ct_L_one l hfl hS1.si (zn S) hfn 3 rfl (by decide)) wK_L_one wM_L_108 wT_L_one wI_L hd_L_one rfl ⟨rfl, rfl⟩ ⟨Nat.le_of_ble_eq_true rfl, Nat.le_of_ble_eq_true rfl⟩ rfl rfl rfl rfl rfl rfl ?_
      refine sg_segs [_, _, _, _, _, _, _, _, _, _] rfl ?_
      refine sw_top (show tel (zf (pinS S (nI s9) (-1) (nI r9) (nI (1 + bd)) (0))) (zn S + 1) (zn S) 3 = 0 from pin_3) ?_
      refine sw_if_ne 290 360 C dL_puts_290 (by decide) (fun c_290 => ?_) (fun c_290 => ?_)
      · exact by first | exact absurd c_290 (rfl) | exact absurd (rfl) c_290
      refine sw_aload_n 293 0 C dL_puts_293 rfl rfl ?_
      refine sw_iload 294 C dL_puts_294 rfl ?_
      refine sw_iconst 296 C dL_puts_296 5 (by decide) ?_
      refine xl_callSI 297 [0, 1] 3 [_, _] C hz hC dL_puts_297 (ct_L_one l hfl hS1.si (zn S) hfn 5 rfl (by decide)) wK_L_one wM_L_108 wT_L_one wI_L hd_L_one rfl ⟨rfl, rfl⟩ ⟨Nat.le_of_ble_eq_true rfl, Nat.le_of_ble_eq_true rfl⟩ rfl rfl rfl rfl rfl rfl ?_
      refine sg_segs [_, _, _, _, _, _, _, _, _, _] rfl ?_
      refine sw_top (show tel (zf (pinS S (nI s9) (-1) (nI r9) (nI (1 + bd)) (0))) (zn S + 1) (zn S) 5 = nI (1 + bd) from pin_5) ?_
      refine sw_iload 300 C dL_puts_300 rfl ?_
      refine sw_icmp_ne 302 360 C dL_puts_302 (by decide) (fun c_302 => ?_) (fun c_302 => ?_)
      · exact by first | exact absurd c_302 (rfl) | exact absurd (rfl) c_302
      refine sw_aload_n 305 0 C dL_puts_305 rfl rfl ?_
      refine sw_iload 306 C dL_puts_306 rfl ?_
      refine sw_bipush 308 C dL_puts_308 9 (by decide) ?_
      refine xl_callSI 310 [0, 1] 3 [_, _] C hz hC dL_puts_310 (ct_L_one l hfl hS1.si (zn S) hfn 9 rfl (by decide)) wK_L_one wM_L_108 wT_L_one wI_L hd_L_one rfl ⟨rfl, rfl⟩ ⟨Nat.le_of_ble_eq_true rfl, Nat.le_of_ble_eq_true rfl⟩ rfl rfl rfl rfl rfl rfl ?_
      refine sg_segs [_, _, _, _, _, _, _, _, _, _] rfl ?_
      refine sw_top (show tel (zf (pinS S (nI s9) (-1) (nI r9) (nI (1 + bd)) (0))) (zn S + 1) (zn S) 9 = nI 0 from knd_pin0) ?_
      refine sw_iload 313 C dL_puts_313 rfl ?_
      refine sw_icmp_ne 315 360 C dL_puts_315 (by decide) (fun c_315 => ?_) (fun c_315 => ?_)
      · exact by first | exact absurd c_315 (rfl) | exact absurd (rfl) c_315
      refine sw_aload_n 318 0 C dL_puts_318 rfl rfl ?_
      refine sw_bipush 319 C dL_puts_319 6 (by decide) ?_
      refine xl_callSI 321 [0, 1] 2 [_, _] C hz hC dL_puts_321 (ct_L_value l hfl hS1.si 6 rfl (by decide)) wK_L_value wM_L_95 wT_L_value wI_L hd_L_value rfl ⟨rfl, rfl⟩ ⟨Nat.le_of_ble_eq_true rfl, Nat.le_of_ble_eq_true rfl⟩ rfl rfl rfl rfl rfl rfl ?_
      refine sg_segs [_, _, _, _, _, _, _, _, _, _] rfl ?_
      refine sw_top (show _ = zk (pinS S (nI s9) (-1) (nI r9) (nI (1 + bd)) (0)) from rfl) ?_
      refine sw_aload_n 324 0 C dL_puts_324 rfl rfl ?_
      refine sw_bipush 325 C dL_puts_325 7 (by decide) ?_
      refine xl_callSI 327 [0, 1] 2 [_, _] C hz hC dL_puts_327 (ct_L_value l hfl hS1.si 7 rfl (by decide)) wK_L_value wM_L_95 wT_L_value wI_L hd_L_value rfl ⟨rfl, rfl⟩ ⟨Nat.le_of_ble_eq_true rfl, Nat.le_of_ble_eq_true rfl⟩ rfl rfl rfl rfl rfl rfl ?_
      refine sg_segs [_, _, _, _, _, _, _, _, _, _] rfl ?_
      refine sw_top (show _ = sgb (zbk (pinS S (nI s9) (-1) (nI r9) (nI (1 + bd)) (0))) 8 from rfl) ?_
      refine sw_iadd 330 C dL_puts_330 ?_
      refine sw_aload_n 331 0 C dL_puts_331 rfl rfl ?_
      refine sw_bipush 332 C dL_puts_332 8 (by decide) ?_
      refine xl_callSI 334 [0, 1] 2 [_, _] C hz hC dL_puts_334 (ct_L_value l hfl hS1.si 8 rfl (by decide)) wK_L_value wM_L_95 wT_L_value wI_L hd_L_value rfl ⟨rfl, rfl⟩ ⟨Nat.le_of_ble_eq_true rfl, Nat.le_of_ble_eq_true rfl⟩ rfl rfl rfl rfl rfl rfl ?_
      refine sg_segs [_, _, _, _, _, _, _, _, _, _] rfl ?_
      refine sw_top (show _ = smb (zf (pinS S (nI s9) (-1) (nI r9) (nI (1 + bd)) (0))) (zn (pinS S (nI s9) (-1) (nI r9) (nI (1 + bd)) (0))) from rfl) ?_
      refine sw_iadd 337 C dL_puts_337 ?_
      refine sw_top (show zk (pinS S (nI s9) (-1) (nI r9) (nI (1 + bd)) (0)) + sgb (zbk (pinS S (nI s9) (-1) (nI r9) (nI (1 + bd)) (0))) 8 + smb (zf (pinS S (nI s9) (-1) (nI r9) (nI (1 + bd)) (0))) (zn (pinS S (nI s9) (-1) (nI r9) (nI (1 + bd)) (0))) = coins S + 0 from coins_pin) ?_
      refine sw_iload 338 C dL_puts_338 rfl ?_
      refine sw_iload 340 C dL_puts_340 rfl ?_
      refine sw_iconst 342 C dL_puts_342 1 (by decide) ?_
      refine sw_icmp_ne 343 351 C dL_puts_343 (by decide) (fun c_343 => ?_) (fun c_343 => ?_)
      rotate_left
      · exact by first | exact absurd c_343 (hk1) | exact absurd (hk1) c_343
      refine sw_iconst 351 C dL_puts_351 0 (by decide) ?_
      refine sw_iadd 352 C dL_puts_352 ?_
      refine sw_icmp_ne 353 360 C dL_puts_353 (by decide) (fun c_353 => ?_) (fun c_353 => ?_)
      · exact by first | exact absurd c_353 (rfl) | exact absurd (rfl) c_353
      refine sw_iconst 356 C dL_puts_356 1 (by decide) ?_
      refine sw_goto 357 361 C dL_puts_357 (by decide) ?_
      refine sw_widen (k' := 1) (n' := 6) (by decide) (by decide) ?_
      refine sw_zret 361 C RC rfl dL_puts_361 ?_
      refine ⟨rfl, (_, _, _, _, (_, _, _), _, _), ?_, rfl⟩
      exact ⟨hS1, hc2, ho2, hln⟩
  · have hk0 : ¬ nI 1 = 0 := by decide
    have hk2 : ¬ nI 1 = 2 := by decide
    refine sw_aload_n 88 0 C dL_puts_88 rfl rfl ?_
    refine sw_iconst 89 C dL_puts_89 0 (by decide) ?_
    refine xl_callSI 90 [0, 1] 2 [_, _] C hz hC dL_puts_90 (ct_L_value l hfl hS 0 rfl (by decide)) wK_L_value wM_L_95 wT_L_value wI_L hd_L_value rfl ⟨rfl, rfl⟩ ⟨Nat.le_of_ble_eq_true rfl, Nat.le_of_ble_eq_true rfl⟩ rfl rfl rfl rfl rfl rfl ?_
    refine sg_segs [_, _, _, _, _, _, _, _, _, _] rfl ?_
    refine sw_top (show _ = nI (zn S) from rfl) ?_
    refine sw_bipush 93 C dL_puts_93 40 (by decide) ?_
    refine sw_jn2 138 (bI (hrf (zf S) (zn S) (zq S) (nI s9) (-1))) (fun hj_95 => ?_) ?_
    · refine sw_icmp_ge 95 137 C dL_puts_95 (by decide) (fun c_95 => ?_) (fun c_95 => ?_)
      · refine sw_iconst 137 C dL_puts_137 0 (by decide) ?_
        exact sw_top (by rw [hrf_n1 hn c_95]; rfl) hj_95
      · refine sw_aload_n 98 0 C dL_puts_98 rfl rfl ?_
        refine sw_iload_n 99 3 C dL_puts_99 rfl rfl ?_
        refine xl_callSI 100 [0, 1] 2 [_, _] C hz hC dL_puts_100 (ct_L_sent l hfl hS (inR_nI 0 7 (Nat.zero_le _) (by omega) (by decide))) wK_L_sent wM_L_100 wT_L_sent wI_L hd_L_sent rfl ⟨rfl, rfl⟩ ⟨Nat.le_of_ble_eq_true rfl, Nat.le_of_ble_eq_true rfl⟩ rfl rfl rfl rfl rfl rfl ?_
        refine sg_segs [_, _, _, _, _, _, _, _, _, _] rfl ?_
        refine sw_aload_n 103 0 C dL_puts_103 rfl rfl ?_
        refine sw_bipush 104 C dL_puts_104 11 (by decide) ?_
        refine xl_callSI 106 [0, 1] 2 [_, _] C hz hC dL_puts_106 (ct_L_value l hfl hS 11 rfl (by decide)) wK_L_value wM_L_95 wT_L_value wI_L hd_L_value rfl ⟨rfl, rfl⟩ ⟨Nat.le_of_ble_eq_true rfl, Nat.le_of_ble_eq_true rfl⟩ rfl rfl rfl rfl rfl rfl ?_
        refine sg_segs [_, _, _, _, _, _, _, _, _, _] rfl ?_
        refine sw_top (show _ = zq S from rfl) ?_
        refine sw_icmp_ge 109 137 C dL_puts_109 (by decide) (fun c_109 => ?_) (fun c_109 => ?_)
        · refine sw_iconst 137 C dL_puts_137 0 (by decide) ?_
          exact sw_top (by rw [hrf_n2 c_109]; rfl) hj_95
        · refine sw_iload 112 C dL_puts_112 rfl ?_
          refine sw_iconst 114 C dL_puts_114 2 (by decide) ?_
          refine sw_icmp_ne 115 133 C dL_puts_115 (by decide) (fun c_115 => ?_) (fun c_115 => ?_)
          rotate_left
          · exact by first | exact absurd c_115 (hk2) | exact absurd (hk2) c_115
          refine sw_iconst 133 C dL_puts_133 1 (by decide) ?_
          refine sw_goto 134 138 C dL_puts_134 (by decide) ?_
          exact sw_top (by rw [hrf_y1 hn c_95 c_109]; rfl) hj_95
    refine sw_istore 138 C dL_puts_138 rfl ?_
    rcases bool2 (hrf (zf S) (zn S) (zq S) (nI s9) (-1)) with hm | hm
    · have hb : bI (hrf (zf S) (zn S) (zq S) (nI s9) (-1)) = 0 := by rw [hm]; rfl
      refine sw_iload 140 C dL_puts_140 rfl ?_
      refine sw_if_ne 142 157 C dL_puts_142 (by decide) (fun c_142 => ?_) (fun c_142 => ?_)
      rotate_left
      · exact by first | exact absurd c_142 (hk0) | exact absurd (hk0) c_142
      refine sw_iload 157 C dL_puts_157 rfl ?_
      refine sw_iconst 159 C dL_puts_159 1 (by decide) ?_
      refine sw_icmp_ne 160 177 C dL_puts_160 (by decide) (fun c_160 => ?_) (fun c_160 => ?_)
      · exact by first | exact absurd c_160 (rfl) | exact absurd (rfl) c_160
      refine sw_aload_n 163 0 C dL_puts_163 rfl rfl ?_
      refine sw_iload_n 164 3 C dL_puts_164 rfl rfl ?_
      refine sw_iload 165 C dL_puts_165 rfl ?_
      refine sw_iload 167 C dL_puts_167 rfl ?_
      refine sw_iload 169 C dL_puts_169 rfl ?_
      refine xl_callSI 171 [0, 1] 5 [_, _] C hz hC dL_puts_171 (ct_L_bribes_4 l hfl hS ho (inR_b (by omega) (by omega)) hm) wK_L_bribes wM_L_134 wT_L_bribes wI_L hd_L_bribes rfl ⟨rfl, rfl⟩ ⟨Nat.le_of_ble_eq_true rfl, Nat.le_of_ble_eq_true rfl⟩ rfl rfl rfl rfl rfl rfl ?_
      refine sg_segs [_, _, _, _, _, _, _, _, _, _] rfl ?_
      refine sw_goto 174 188 C dL_puts_174 (by decide) ?_
      refine sw_istore 188 C dL_puts_188 rfl ?_
      refine sw_iload 190 C dL_puts_190 rfl ?_
      refine sw_iconst 192 C dL_puts_192 2 (by decide) ?_
      refine sw_icmp_ne 193 215 C dL_puts_193 (by decide) (fun c_193 => ?_) (fun c_193 => ?_)
      rotate_left
      · exact by first | exact absurd c_193 (hk2) | exact absurd (hk2) c_193
      refine sw_iload 215 C dL_puts_215 rfl ?_
      refine sw_if_ne 217 233 C dL_puts_217 (by decide) (fun c_217 => ?_) (fun c_217 => ?_)
      · exact by first | exact absurd c_217 (hb) | exact absurd (hb) c_217
      refine sw_iload 220 C dL_puts_220 rfl ?_
      refine sw_ldc 222 C dL_puts_222 (C.w wQ_L_34) ?_
      refine sw_icmp_ne 224 231 C dL_puts_224 (by decide) (fun c_224 => ?_) (fun c_224 => ?_)
      · exact by first | exact absurd c_224 (rfl) | exact absurd (rfl) c_224
      refine sw_iconst 227 C dL_puts_227 1 (by decide) ?_
      refine sw_goto 228 232 C dL_puts_228 (by decide) ?_
      refine sw_widen (k' := 1) (n' := 6) (by decide) (by decide) ?_
      refine sw_zret 232 C RC rfl dL_puts_232 ?_
      refine ⟨rfl, (_, _, _, _, (_, _, _), _, _), ?_, rfl⟩
      exact ⟨hJ.mono (Nat.le_succ _) (Nat.le_refl _), hcn, hod, hln⟩
    · have hb : ¬ bI (hrf (zf S) (zn S) (zq S) (nI s9) (-1)) = 0 := by rw [hm]; decide
      have hn40 : zn S < 40 := hrf_lt hm
      have hS1 : JI (B + 1) U (pinS S (nI s9) (-1) (nI r9) (nI (1 + bd)) (nI (1 + br))) := JI_pin hJ (by omega) hn40 (okSd_n hs9) (Or.inl rfl) (Or.inl rfl) ⟨r9, by omega, rfl⟩ ⟨1 + bd, by omega, by omega, rfl⟩ ⟨1 + br, by omega, rfl⟩
      have hfn : fnd (zf (pinS S (nI s9) (-1) (nI r9) (nI (1 + bd)) (nI (1 + br)))) (zp S) (zn S + 1) = some (zn S) := by
        have := fnd_num hS1.o.num (show zn S < zn S + 1 by omega)
        rwa [show zf (pinS S (nI s9) (-1) (nI r9) (nI (1 + bd)) (nI (1 + br))) (zn S * 8 + 7) = zp S from pin_7] at this
      refine sw_iload 140 C dL_puts_140 rfl ?_
      refine sw_if_ne 142 157 C dL_puts_142 (by decide) (fun c_142 => ?_) (fun c_142 => ?_)
      rotate_left
      · exact by first | exact absurd c_142 (hk0) | exact absurd (hk0) c_142
      refine sw_iload 157 C dL_puts_157 rfl ?_
      refine sw_iconst 159 C dL_puts_159 1 (by decide) ?_
      refine sw_icmp_ne 160 177 C dL_puts_160 (by decide) (fun c_160 => ?_) (fun c_160 => ?_)
      · exact by first | exact absurd c_160 (rfl) | exact absurd (rfl) c_160
      refine sw_aload_n 163 0 C dL_puts_163 rfl rfl ?_
      refine sw_iload_n 164 3 C dL_puts_164 rfl rfl ?_
      refine sw_iload 165 C dL_puts_165 rfl ?_
      refine sw_iload 167 C dL_puts_167 rfl ?_
      refine sw_iload 169 C dL_puts_169 rfl ?_
      refine xl_callSI 171 [0, 1, 2, 3, 4, 5, 6] 5 [_, _, _, _, _, _, _] C hz hC dL_puts_171 (ct_L_bribes l hfl hS hcn hod hh0 hh1 hh2 hh3 ho (inR_b (by omega) (by omega)) hm) wK_L_bribes wM_L_134 wT_L_bribes wI_L hd_L_bribes rfl ⟨rfl, rfl⟩ ⟨Nat.le_of_ble_eq_true rfl, Nat.le_of_ble_eq_true rfl⟩ rfl rfl rfl rfl rfl rfl ?_
      refine sg_segs [_, _, _, _, _, _, _, _, _, _] rfl ?_
      refine sw_goto 174 188 C dL_puts_174 (by decide) ?_
      refine sw_istore 188 C dL_puts_188 rfl ?_
      refine sw_iload 190 C dL_puts_190 rfl ?_
      refine sw_iconst 192 C dL_puts_192 2 (by decide) ?_
      refine sw_icmp_ne 193 215 C dL_puts_193 (by decide) (fun c_193 => ?_) (fun c_193 => ?_)
      rotate_left
      · exact by first | exact absurd c_193 (hk2) | exact absurd (hk2) c_193
      refine sw_iload 215 C dL_puts_215 rfl ?_
      refine sw_if_ne 217 233 C dL_puts_217 (by decide) (fun c_217 => ?_) (fun c_217 => ?_)
      rotate_left
      · exact by first | exact absurd c_217 (hb) | exact absurd (hb) c_217
      refine sw_iload 233 C dL_puts_233 rfl ?_
      refine sw_iconst 235 C dL_puts_235 1 (by decide) ?_
      refine sw_icmp_ne 236 250 C dL_puts_236 (by decide) (fun c_236 => ?_) (fun c_236 => ?_)
      · exact by first | exact absurd c_236 (rfl) | exact absurd (rfl) c_236
      refine sw_iload 239 C dL_puts_239 rfl ?_
      refine sw_iload 241 C dL_puts_241 rfl ?_
      refine sw_bipush 243 C dL_puts_243 25 (by decide) ?_
      refine sw_idiv 245 C dL_puts_245 (by decide) ?_
      refine sw_iadd 246 C dL_puts_246 ?_
      refine sw_goto 247 252 C dL_puts_247 (by decide) ?_
      refine sw_top (show nI r9 + nI (1 + br) / 25 = nI (r9 + (1 + br) / 25) by rw [show (25 : Int32) = nI 25 from rfl, pk_div (by omega) (by decide) (by decide), nI_add]) ?_
      refine sw_istore 252 C dL_puts_252 rfl ?_
      refine sw_loc (L1 := [(0, .ref _), (1, .int _), (2, .int _), (3, .int _), (4, .int _), (5, .int _), (6, .int _), (7, .int _), (8, .int _), (9, .int _), (10, .int _), (11, .int _), (12, .int _), (13, .int _)]) ?_ rfl
      refine sw_iload 254 C dL_puts_254 rfl ?_
      refine sw_iload 256 C dL_puts_256 rfl ?_
      refine sw_icmp_ne 258 360 C dL_puts_258 (by decide) (fun c_258 => ?_) (fun c_258 => ?_)
      · exact by first | exact absurd c_258 (rfl) | exact absurd (rfl) c_258
      refine sw_aload_n 261 0 C dL_puts_261 rfl rfl ?_
      refine sw_iload 262 C dL_puts_262 rfl ?_
      refine sw_iconst 264 C dL_puts_264 2 (by decide) ?_
      refine xl_callSI 265 [0, 1] 3 [_, _] C hz hC dL_puts_265 (ct_L_one l hfl hS1.si (zn S) hfn 2 rfl (by decide)) wK_L_one wM_L_108 wT_L_one wI_L hd_L_one rfl ⟨rfl, rfl⟩ ⟨Nat.le_of_ble_eq_true rfl, Nat.le_of_ble_eq_true rfl⟩ rfl rfl rfl rfl rfl rfl ?_
      refine sg_segs [_, _, _, _, _, _, _, _, _, _] rfl ?_
      refine sw_top (show tel (zf (pinS S (nI s9) (-1) (nI r9) (nI (1 + bd)) (nI (1 + br)))) (zn S + 1) (zn S) 2 = nI (if r9 + (1 + br) / 25 < 4 then r9 + (1 + br) / 25 else 4) from pin_2.trans (lou_eq (r := r9) (b := (1 + br)) (by omega) (by omega))) ?_
      refine sw_iload 268 C dL_puts_268 rfl ?_
      refine sw_iconst 270 C dL_puts_270 4 (by decide) ?_
      refine sw_jn2 280 (nI (if r9 + (1 + br) / 25 < 4 then r9 + (1 + br) / 25 else 4)) (fun hj_271 => ?_) ?_
      · refine sw_icmp_le 271 278 C dL_puts_271 (by decide) (fun c_271 => ?_) (fun c_271 => ?_)
        · refine sw_iload 278 C dL_puts_278 rfl ?_
          exact sw_top (show nI (r9 + (1 + br) / 25) = nI (if r9 + (1 + br) / 25 < 4 then r9 + (1 + br) / 25 else 4) from congrArg nI (by have := (nI_leI (b := 4) (by omega) (by decide)).mp c_271; split <;> omega)) hj_271
        · refine sw_iconst 274 C dL_puts_274 4 (by decide) ?_
          refine sw_goto 275 280 C dL_puts_275 (by decide) ?_
          exact sw_top (show nI 4 = nI (if r9 + (1 + br) / 25 < 4 then r9 + (1 + br) / 25 else 4) from congrArg nI (by have this : ¬ r9 + (1 + br) / 25 ≤ 4 := fun q => c_271 (nI_le (b := 4) q (by decide)); rw [if_neg (by omega)])) hj_271
      refine sw_icmp_ne 280 360 C dL_puts_280 (by decide) (fun c_280 => ?_) (fun c_280 => ?_)
      · exact by first | exact absurd c_280 (rfl) | exact absurd (rfl) c_280
      refine sw_aload_n 283 0 C dL_puts_283 rfl rfl ?_
      refine sw_iload 284 C dL_puts_284 rfl ?_
      refine sw_iconst 286 C dL_puts_286 3 (by decide) ?_
      refine xl_callSI 287 [0, 1] 3 [_, _] C hz hC dL_puts_287 (ct_L_one l hfl hS1.si (zn S) hfn 3 rfl (by decide)) wK_L_one wM_L_108 wT_L_one wI_L hd_L_one rfl ⟨rfl, rfl⟩ ⟨Nat.le_of_ble_eq_true rfl, Nat.le_of_ble_eq_true rfl⟩ rfl rfl rfl rfl rfl rfl ?_
      refine sg_segs [_, _, _, _, _, _, _, _, _, _] rfl ?_
      refine sw_top (show tel (zf (pinS S (nI s9) (-1) (nI r9) (nI (1 + bd)) (nI (1 + br)))) (zn S + 1) (zn S) 3 = 0 from pin_3) ?_
      refine sw_if_ne 290 360 C dL_puts_290 (by decide) (fun c_290 => ?_) (fun c_290 => ?_)
      · exact by first | exact absurd c_290 (rfl) | exact absurd (rfl) c_290
      refine sw_aload_n 293 0 C dL_puts_293 rfl rfl ?_
      refine sw_iload 294 C dL_puts_294 rfl ?_
      refine sw_iconst 296 C dL_puts_296 5 (by decide) ?_
      refine xl_callSI 297 [0, 1] 3 [_, _] C hz hC dL_puts_297 (ct_L_one l hfl hS1.si (zn S) hfn 5 rfl (by decide)) wK_L_one wM_L_108 wT_L_one wI_L hd_L_one rfl ⟨rfl, rfl⟩ ⟨Nat.le_of_ble_eq_true rfl, Nat.le_of_ble_eq_true rfl⟩ rfl rfl rfl rfl rfl rfl ?_
      refine sg_segs [_, _, _, _, _, _, _, _, _, _] rfl ?_
      refine sw_top (show tel (zf (pinS S (nI s9) (-1) (nI r9) (nI (1 + bd)) (nI (1 + br)))) (zn S + 1) (zn S) 5 = nI (1 + bd) from pin_5) ?_
      refine sw_iload 300 C dL_puts_300 rfl ?_
      refine sw_icmp_ne 302 360 C dL_puts_302 (by decide) (fun c_302 => ?_) (fun c_302 => ?_)
      · exact by first | exact absurd c_302 (rfl) | exact absurd (rfl) c_302
      refine sw_aload_n 305 0 C dL_puts_305 rfl rfl ?_
      refine sw_iload 306 C dL_puts_306 rfl ?_
      refine sw_bipush 308 C dL_puts_308 9 (by decide) ?_
      refine xl_callSI 310 [0, 1] 3 [_, _] C hz hC dL_puts_310 (ct_L_one l hfl hS1.si (zn S) hfn 9 rfl (by decide)) wK_L_one wM_L_108 wT_L_one wI_L hd_L_one rfl ⟨rfl, rfl⟩ ⟨Nat.le_of_ble_eq_true rfl, Nat.le_of_ble_eq_true rfl⟩ rfl rfl rfl rfl rfl rfl ?_
      refine sg_segs [_, _, _, _, _, _, _, _, _, _] rfl ?_
      refine sw_top (show tel (zf (pinS S (nI s9) (-1) (nI r9) (nI (1 + bd)) (nI (1 + br)))) (zn S + 1) (zn S) 9 = nI 1 from knd_pin1 (by omega) (by omega)) ?_
      refine sw_iload 313 C dL_puts_313 rfl ?_
      refine sw_icmp_ne 315 360 C dL_puts_315 (by decide) (fun c_315 => ?_) (fun c_315 => ?_)
      · exact by first | exact absurd c_315 (rfl) | exact absurd (rfl) c_315
      refine sw_aload_n 318 0 C dL_puts_318 rfl rfl ?_
      refine sw_bipush 319 C dL_puts_319 6 (by decide) ?_
      refine xl_callSI 321 [0, 1] 2 [_, _] C hz hC dL_puts_321 (ct_L_value l hfl hS1.si 6 rfl (by decide)) wK_L_value wM_L_95 wT_L_value wI_L hd_L_value rfl ⟨rfl, rfl⟩ ⟨Nat.le_of_ble_eq_true rfl, Nat.le_of_ble_eq_true rfl⟩ rfl rfl rfl rfl rfl rfl ?_
      refine sg_segs [_, _, _, _, _, _, _, _, _, _] rfl ?_
      refine sw_top (show _ = zk (pinS S (nI s9) (-1) (nI r9) (nI (1 + bd)) (nI (1 + br))) from rfl) ?_
      refine sw_aload_n 324 0 C dL_puts_324 rfl rfl ?_
      refine sw_bipush 325 C dL_puts_325 7 (by decide) ?_
      refine xl_callSI 327 [0, 1] 2 [_, _] C hz hC dL_puts_327 (ct_L_value l hfl hS1.si 7 rfl (by decide)) wK_L_value wM_L_95 wT_L_value wI_L hd_L_value rfl ⟨rfl, rfl⟩ ⟨Nat.le_of_ble_eq_true rfl, Nat.le_of_ble_eq_true rfl⟩ rfl rfl rfl rfl rfl rfl ?_
      refine sg_segs [_, _, _, _, _, _, _, _, _, _] rfl ?_
      refine sw_top (show _ = sgb (zbk (pinS S (nI s9) (-1) (nI r9) (nI (1 + bd)) (nI (1 + br)))) 8 from rfl) ?_
      refine sw_iadd 330 C dL_puts_330 ?_
      refine sw_aload_n 331 0 C dL_puts_331 rfl rfl ?_
      refine sw_bipush 332 C dL_puts_332 8 (by decide) ?_
      refine xl_callSI 334 [0, 1] 2 [_, _] C hz hC dL_puts_334 (ct_L_value l hfl hS1.si 8 rfl (by decide)) wK_L_value wM_L_95 wT_L_value wI_L hd_L_value rfl ⟨rfl, rfl⟩ ⟨Nat.le_of_ble_eq_true rfl, Nat.le_of_ble_eq_true rfl⟩ rfl rfl rfl rfl rfl rfl ?_
      refine sg_segs [_, _, _, _, _, _, _, _, _, _] rfl ?_
      refine sw_top (show _ = smb (zf (pinS S (nI s9) (-1) (nI r9) (nI (1 + bd)) (nI (1 + br)))) (zn (pinS S (nI s9) (-1) (nI r9) (nI (1 + bd)) (nI (1 + br)))) from rfl) ?_
      refine sw_iadd 337 C dL_puts_337 ?_
      refine sw_top (show zk (pinS S (nI s9) (-1) (nI r9) (nI (1 + bd)) (nI (1 + br))) + sgb (zbk (pinS S (nI s9) (-1) (nI r9) (nI (1 + bd)) (nI (1 + br)))) 8 + smb (zf (pinS S (nI s9) (-1) (nI r9) (nI (1 + bd)) (nI (1 + br)))) (zn (pinS S (nI s9) (-1) (nI r9) (nI (1 + bd)) (nI (1 + br)))) = coins S + nI (1 + br) from coins_pin) ?_
      refine sw_iload 338 C dL_puts_338 rfl ?_
      refine sw_iload 340 C dL_puts_340 rfl ?_
      refine sw_iconst 342 C dL_puts_342 1 (by decide) ?_
      refine sw_icmp_ne 343 351 C dL_puts_343 (by decide) (fun c_343 => ?_) (fun c_343 => ?_)
      · exact by first | exact absurd c_343 (rfl) | exact absurd (rfl) c_343
      refine sw_iload 346 C dL_puts_346 rfl ?_
      refine sw_goto 348 352 C dL_puts_348 (by decide) ?_
      refine sw_iadd 352 C dL_puts_352 ?_
      refine sw_icmp_ne 353 360 C dL_puts_353 (by decide) (fun c_353 => ?_) (fun c_353 => ?_)
      · exact by first | exact absurd c_353 (rfl) | exact absurd (rfl) c_353
      refine sw_iconst 356 C dL_puts_356 1 (by decide) ?_
      refine sw_goto 357 361 C dL_puts_357 (by decide) ?_
      refine sw_widen (k' := 1) (n' := 6) (by decide) (by decide) ?_
      refine sw_zret 361 C RC rfl dL_puts_361 ?_
      refine ⟨rfl, (_, _, _, _, (_, _, _), _, _), ?_, rfl⟩
      exact ⟨hS1, hc2, ho2, hln⟩
  · have hk0 : ¬ nI 2 = 0 := by decide
    have hk1 : ¬ nI 2 = 1 := by decide
    refine sw_aload_n 88 0 C dL_puts_88 rfl rfl ?_
    refine sw_iconst 89 C dL_puts_89 0 (by decide) ?_
    refine xl_callSI 90 [0, 1] 2 [_, _] C hz hC dL_puts_90 (ct_L_value l hfl hS 0 rfl (by decide)) wK_L_value wM_L_95 wT_L_value wI_L hd_L_value rfl ⟨rfl, rfl⟩ ⟨Nat.le_of_ble_eq_true rfl, Nat.le_of_ble_eq_true rfl⟩ rfl rfl rfl rfl rfl rfl ?_
    refine sg_segs [_, _, _, _, _, _, _, _, _, _] rfl ?_
    refine sw_top (show _ = nI (zn S) from rfl) ?_
    refine sw_bipush 93 C dL_puts_93 40 (by decide) ?_
    refine sw_jn2 138 (bI (hrf (zf S) (zn S) (zq S) (nI s9) (nI t9))) (fun hj_95 => ?_) ?_
    · refine sw_icmp_ge 95 137 C dL_puts_95 (by decide) (fun c_95 => ?_) (fun c_95 => ?_)
      · refine sw_iconst 137 C dL_puts_137 0 (by decide) ?_
        exact sw_top (by rw [hrf_n1 hn c_95]; rfl) hj_95
      · refine sw_aload_n 98 0 C dL_puts_98 rfl rfl ?_
        refine sw_iload_n 99 3 C dL_puts_99 rfl rfl ?_
        refine xl_callSI 100 [0, 1] 2 [_, _] C hz hC dL_puts_100 (ct_L_sent l hfl hS (inR_nI 0 7 (Nat.zero_le _) (by omega) (by decide))) wK_L_sent wM_L_100 wT_L_sent wI_L hd_L_sent rfl ⟨rfl, rfl⟩ ⟨Nat.le_of_ble_eq_true rfl, Nat.le_of_ble_eq_true rfl⟩ rfl rfl rfl rfl rfl rfl ?_
        refine sg_segs [_, _, _, _, _, _, _, _, _, _] rfl ?_
        refine sw_aload_n 103 0 C dL_puts_103 rfl rfl ?_
        refine sw_bipush 104 C dL_puts_104 11 (by decide) ?_
        refine xl_callSI 106 [0, 1] 2 [_, _] C hz hC dL_puts_106 (ct_L_value l hfl hS 11 rfl (by decide)) wK_L_value wM_L_95 wT_L_value wI_L hd_L_value rfl ⟨rfl, rfl⟩ ⟨Nat.le_of_ble_eq_true rfl, Nat.le_of_ble_eq_true rfl⟩ rfl rfl rfl rfl rfl rfl ?_
        refine sg_segs [_, _, _, _, _, _, _, _, _, _] rfl ?_
        refine sw_top (show _ = zq S from rfl) ?_
        refine sw_icmp_ge 109 137 C dL_puts_109 (by decide) (fun c_109 => ?_) (fun c_109 => ?_)
        · refine sw_iconst 137 C dL_puts_137 0 (by decide) ?_
          exact sw_top (by rw [hrf_n2 c_109]; rfl) hj_95
        · refine sw_iload 112 C dL_puts_112 rfl ?_
          refine sw_iconst 114 C dL_puts_114 2 (by decide) ?_
          refine sw_icmp_ne 115 133 C dL_puts_115 (by decide) (fun c_115 => ?_) (fun c_115 => ?_)
          · exact by first | exact absurd c_115 (rfl) | exact absurd (rfl) c_115
          refine sw_aload_n 118 0 C dL_puts_118 rfl rfl ?_
          refine sw_iload 119 C dL_puts_119 rfl ?_
          refine xl_callSI 121 [0, 1] 2 [_, _] C hz hC dL_puts_121 (ct_L_sent l hfl hS (inR_nI 0 7 (Nat.zero_le _) (by omega) (by decide))) wK_L_sent wM_L_100 wT_L_sent wI_L hd_L_sent rfl ⟨rfl, rfl⟩ ⟨Nat.le_of_ble_eq_true rfl, Nat.le_of_ble_eq_true rfl⟩ rfl rfl rfl rfl rfl rfl ?_
          refine sg_segs [_, _, _, _, _, _, _, _, _, _] rfl ?_
          refine sw_aload_n 124 0 C dL_puts_124 rfl rfl ?_
          refine sw_bipush 125 C dL_puts_125 11 (by decide) ?_
          refine xl_callSI 127 [0, 1] 2 [_, _] C hz hC dL_puts_127 (ct_L_value l hfl hS 11 rfl (by decide)) wK_L_value wM_L_95 wT_L_value wI_L hd_L_value rfl ⟨rfl, rfl⟩ ⟨Nat.le_of_ble_eq_true rfl, Nat.le_of_ble_eq_true rfl⟩ rfl rfl rfl rfl rfl rfl ?_
          refine sg_segs [_, _, _, _, _, _, _, _, _, _] rfl ?_
          refine sw_top (show _ = zq S from rfl) ?_
          refine sw_icmp_ge 130 137 C dL_puts_130 (by decide) (fun c_130 => ?_) (fun c_130 => ?_)
          · refine sw_iconst 137 C dL_puts_137 0 (by decide) ?_
            exact sw_top (by rw [hrf_n3 (i32_ne_m1 (by omega)) c_130]; rfl) hj_95
          · refine sw_iconst 133 C dL_puts_133 1 (by decide) ?_
            refine sw_goto 134 138 C dL_puts_134 (by decide) ?_
            exact sw_top (by rw [hrf_y2 hn c_95 c_109 c_130]; rfl) hj_95
    refine sw_istore 138 C dL_puts_138 rfl ?_
    rcases (show s9 = t9 ∨ (¬ s9 = t9 ∧ hrf (zf S) (zn S) (zq S) (nI s9) (nI t9) = false) ∨ (¬ s9 = t9 ∧ hrf (zf S) (zn S) (zq S) (nI s9) (nI t9) = true) from by
      by_cases q : s9 = t9
      · exact Or.inl q
      · rcases bool2 (hrf (zf S) (zn S) (zq S) (nI s9) (nI t9)) with z | z
        · exact Or.inr (Or.inl ⟨q, z⟩)
        · exact Or.inr (Or.inr ⟨q, z⟩)) with rfl | ⟨hst, hm⟩ | ⟨hst, hm⟩
    · refine sw_iload 140 C dL_puts_140 rfl ?_
      refine sw_if_ne 142 157 C dL_puts_142 (by decide) (fun c_142 => ?_) (fun c_142 => ?_)
      rotate_left
      · exact by first | exact absurd c_142 (hk0) | exact absurd (hk0) c_142
      refine sw_iload 157 C dL_puts_157 rfl ?_
      refine sw_iconst 159 C dL_puts_159 1 (by decide) ?_
      refine sw_icmp_ne 160 177 C dL_puts_160 (by decide) (fun c_160 => ?_) (fun c_160 => ?_)
      rotate_left
      · exact by first | exact absurd c_160 (hk1) | exact absurd (hk1) c_160
      refine sw_aload_n 177 0 C dL_puts_177 rfl rfl ?_
      refine sw_iload_n 178 3 C dL_puts_178 rfl rfl ?_
      refine sw_iload 179 C dL_puts_179 rfl ?_
      refine sw_iload 181 C dL_puts_181 rfl ?_
      refine sw_iload 183 C dL_puts_183 rfl ?_
      refine xl_callSI 185 [0, 1] 5 [_, _] C hz hC dL_puts_185 (ct_L_joint_4 l hfl ho (inR_nI 0 7 (Nat.zero_le _) (by omega) (by decide)) rfl) wK_L_joint wM_L_138 wT_L_joint wI_L hd_L_joint rfl ⟨rfl, rfl⟩ ⟨Nat.le_of_ble_eq_true rfl, Nat.le_of_ble_eq_true rfl⟩ rfl rfl rfl rfl rfl rfl ?_
      refine sg_segs [_, _, _, _, _, _, _, _, _, _] rfl ?_
      refine sw_istore 188 C dL_puts_188 rfl ?_
      refine sw_iload 190 C dL_puts_190 rfl ?_
      refine sw_iconst 192 C dL_puts_192 2 (by decide) ?_
      refine sw_icmp_ne 193 215 C dL_puts_193 (by decide) (fun c_193 => ?_) (fun c_193 => ?_)
      · exact by first | exact absurd c_193 (rfl) | exact absurd (rfl) c_193
      refine sw_iload_n 196 3 C dL_puts_196 rfl rfl ?_
      refine sw_iload 197 C dL_puts_197 rfl ?_
      refine sw_icmp_ne 199 215 C dL_puts_199 (by decide) (fun c_199 => ?_) (fun c_199 => ?_)
      · exact by first | exact absurd c_199 (rfl) | exact absurd (rfl) c_199
      refine sw_iload 202 C dL_puts_202 rfl ?_
      refine sw_ldc 204 C dL_puts_204 (C.w wQ_L_20) ?_
      refine sw_icmp_ne 206 213 C dL_puts_206 (by decide) (fun c_206 => ?_) (fun c_206 => ?_)
      · exact by first | exact absurd c_206 (rfl) | exact absurd (rfl) c_206
      refine sw_iconst 209 C dL_puts_209 1 (by decide) ?_
      refine sw_goto 210 214 C dL_puts_210 (by decide) ?_
      refine sw_widen (k' := 1) (n' := 6) (by decide) (by decide) ?_
      refine sw_zret 214 C RC rfl dL_puts_214 ?_
      refine ⟨rfl, (_, _, _, _, (_, _, _), _, _), ?_, rfl⟩
      exact ⟨hJ.mono (Nat.le_succ _) (Nat.le_refl _), hcn, hod, hln⟩
    · have hb : bI (hrf (zf S) (zn S) (zq S) (nI s9) (nI t9)) = 0 := by rw [hm]; rfl
      have hsn : ¬ nI s9 = nI t9 := fun q => hst (nI_inj (by omega) (by omega) q)
      refine sw_iload 140 C dL_puts_140 rfl ?_
      refine sw_if_ne 142 157 C dL_puts_142 (by decide) (fun c_142 => ?_) (fun c_142 => ?_)
      rotate_left
      · exact by first | exact absurd c_142 (hk0) | exact absurd (hk0) c_142
      refine sw_iload 157 C dL_puts_157 rfl ?_
      refine sw_iconst 159 C dL_puts_159 1 (by decide) ?_
      refine sw_icmp_ne 160 177 C dL_puts_160 (by decide) (fun c_160 => ?_) (fun c_160 => ?_)
      rotate_left
      · exact by first | exact absurd c_160 (hk1) | exact absurd (hk1) c_160
      refine sw_aload_n 177 0 C dL_puts_177 rfl rfl ?_
      refine sw_iload_n 178 3 C dL_puts_178 rfl rfl ?_
      refine sw_iload 179 C dL_puts_179 rfl ?_
      refine sw_iload 181 C dL_puts_181 rfl ?_
      refine sw_iload 183 C dL_puts_183 rfl ?_
      refine xl_callSI 185 [0, 1] 5 [_, _] C hz hC dL_puts_185 (ct_L_joint_5 l hfl hS ho (inR_nI 0 7 (Nat.zero_le _) (by omega) (by decide)) (fun q => hst (nI_inj (by omega) (by omega) q.symm)) hm) wK_L_joint wM_L_138 wT_L_joint wI_L hd_L_joint rfl ⟨rfl, rfl⟩ ⟨Nat.le_of_ble_eq_true rfl, Nat.le_of_ble_eq_true rfl⟩ rfl rfl rfl rfl rfl rfl ?_
      refine sg_segs [_, _, _, _, _, _, _, _, _, _] rfl ?_
      refine sw_istore 188 C dL_puts_188 rfl ?_
      refine sw_iload 190 C dL_puts_190 rfl ?_
      refine sw_iconst 192 C dL_puts_192 2 (by decide) ?_
      refine sw_icmp_ne 193 215 C dL_puts_193 (by decide) (fun c_193 => ?_) (fun c_193 => ?_)
      · exact by first | exact absurd c_193 (rfl) | exact absurd (rfl) c_193
      refine sw_iload_n 196 3 C dL_puts_196 rfl rfl ?_
      refine sw_iload 197 C dL_puts_197 rfl ?_
      refine sw_icmp_ne 199 215 C dL_puts_199 (by decide) (fun c_199 => ?_) (fun c_199 => ?_)
      rotate_left
      · exact by first | exact absurd c_199 (hsn) | exact absurd (hsn) c_199
      refine sw_iload 215 C dL_puts_215 rfl ?_
      refine sw_if_ne 217 233 C dL_puts_217 (by decide) (fun c_217 => ?_) (fun c_217 => ?_)
      · exact by first | exact absurd c_217 (hb) | exact absurd (hb) c_217
      refine sw_iload 220 C dL_puts_220 rfl ?_
      refine sw_ldc 222 C dL_puts_222 (C.w wQ_L_34) ?_
      refine sw_icmp_ne 224 231 C dL_puts_224 (by decide) (fun c_224 => ?_) (fun c_224 => ?_)
      · exact by first | exact absurd c_224 (rfl) | exact absurd (rfl) c_224
      refine sw_iconst 227 C dL_puts_227 1 (by decide) ?_
      refine sw_goto 228 232 C dL_puts_228 (by decide) ?_
      refine sw_widen (k' := 1) (n' := 6) (by decide) (by decide) ?_
      refine sw_zret 232 C RC rfl dL_puts_232 ?_
      refine ⟨rfl, (_, _, _, _, (_, _, _), _, _), ?_, rfl⟩
      exact ⟨hJ.mono (Nat.le_succ _) (Nat.le_refl _), hcn, hod, hln⟩
    · have hb : ¬ bI (hrf (zf S) (zn S) (zq S) (nI s9) (nI t9)) = 0 := by rw [hm]; decide
      have hn40 : zn S < 40 := hrf_lt hm
      have hS1 : JI (B + 1) U (pinS S (nI s9) (nI t9) (nI r9) (nI (1 + bd)) (0)) := JI_pin hJ (by omega) hn40 (okSd_n hs9) (Or.inr rfl) (Or.inr ⟨⟨t9, by omega, rfl⟩, fun q => hst (nI_inj (by omega) (by omega) q.symm)⟩) ⟨r9, by omega, rfl⟩ ⟨1 + bd, by omega, by omega, rfl⟩ ⟨0, by omega, rfl⟩
      have hfn : fnd (zf (pinS S (nI s9) (nI t9) (nI r9) (nI (1 + bd)) (0))) (zp S) (zn S + 1) = some (zn S) := by
        have := fnd_num hS1.o.num (show zn S < zn S + 1 by omega)
        rwa [show zf (pinS S (nI s9) (nI t9) (nI r9) (nI (1 + bd)) (0)) (zn S * 8 + 7) = zp S from pin_7] at this
      have hsn : ¬ nI s9 = nI t9 := fun q => hst (nI_inj (by omega) (by omega) q)
      refine sw_iload 140 C dL_puts_140 rfl ?_
      refine sw_if_ne 142 157 C dL_puts_142 (by decide) (fun c_142 => ?_) (fun c_142 => ?_)
      rotate_left
      · exact by first | exact absurd c_142 (hk0) | exact absurd (hk0) c_142
      refine sw_iload 157 C dL_puts_157 rfl ?_
      refine sw_iconst 159 C dL_puts_159 1 (by decide) ?_
      refine sw_icmp_ne 160 177 C dL_puts_160 (by decide) (fun c_160 => ?_) (fun c_160 => ?_)
      rotate_left
      · exact by first | exact absurd c_160 (hk1) | exact absurd (hk1) c_160
      refine sw_aload_n 177 0 C dL_puts_177 rfl rfl ?_
      refine sw_iload_n 178 3 C dL_puts_178 rfl rfl ?_
      refine sw_iload 179 C dL_puts_179 rfl ?_
      refine sw_iload 181 C dL_puts_181 rfl ?_
      refine sw_iload 183 C dL_puts_183 rfl ?_
      refine xl_callSI 185 [0, 1, 2, 3, 4, 5, 6] 5 [_, _, _, _, _, _, _] C hz hC dL_puts_185 (ct_L_joint l hfl hS hcn hod hh0 hh1 hh2 hh3 ho (inR_nI 0 7 (Nat.zero_le _) (by omega) (by decide)) (fun q => hst (nI_inj (by omega) (by omega) q.symm)) hm) wK_L_joint wM_L_138 wT_L_joint wI_L hd_L_joint rfl ⟨rfl, rfl⟩ ⟨Nat.le_of_ble_eq_true rfl, Nat.le_of_ble_eq_true rfl⟩ rfl rfl rfl rfl rfl rfl ?_
      refine sg_segs [_, _, _, _, _, _, _, _, _, _] rfl ?_
      refine sw_istore 188 C dL_puts_188 rfl ?_
      refine sw_iload 190 C dL_puts_190 rfl ?_
      refine sw_iconst 192 C dL_puts_192 2 (by decide) ?_
      refine sw_icmp_ne 193 215 C dL_puts_193 (by decide) (fun c_193 => ?_) (fun c_193 => ?_)
      · exact by first | exact absurd c_193 (rfl) | exact absurd (rfl) c_193
      refine sw_iload_n 196 3 C dL_puts_196 rfl rfl ?_
      refine sw_iload 197 C dL_puts_197 rfl ?_
      refine sw_icmp_ne 199 215 C dL_puts_199 (by decide) (fun c_199 => ?_) (fun c_199 => ?_)
      rotate_left
      · exact by first | exact absurd c_199 (hsn) | exact absurd (hsn) c_199
      refine sw_iload 215 C dL_puts_215 rfl ?_
      refine sw_if_ne 217 233 C dL_puts_217 (by decide) (fun c_217 => ?_) (fun c_217 => ?_)
      rotate_left
      · exact by first | exact absurd c_217 (hb) | exact absurd (hb) c_217
      refine sw_iload 233 C dL_puts_233 rfl ?_
      refine sw_iconst 235 C dL_puts_235 1 (by decide) ?_
      refine sw_icmp_ne 236 250 C dL_puts_236 (by decide) (fun c_236 => ?_) (fun c_236 => ?_)
      rotate_left
      · exact by first | exact absurd c_236 (hk1) | exact absurd (hk1) c_236
      refine sw_iload 250 C dL_puts_250 rfl ?_
      refine sw_istore 252 C dL_puts_252 rfl ?_
      refine sw_loc (L1 := [(0, .ref _), (1, .int _), (2, .int _), (3, .int _), (4, .int _), (5, .int _), (6, .int _), (7, .int _), (8, .int _), (9, .int _), (10, .int _), (11, .int _), (12, .int _), (13, .int _)]) ?_ rfl
      refine sw_iload 254 C dL_puts_254 rfl ?_
      refine sw_iload 256 C dL_puts_256 rfl ?_
      refine sw_icmp_ne 258 360 C dL_puts_258 (by decide) (fun c_258 => ?_) (fun c_258 => ?_)
      · exact by first | exact absurd c_258 (rfl) | exact absurd (rfl) c_258
      refine sw_aload_n 261 0 C dL_puts_261 rfl rfl ?_
      refine sw_iload 262 C dL_puts_262 rfl ?_
      refine sw_iconst 264 C dL_puts_264 2 (by decide) ?_
      refine xl_callSI 265 [0, 1] 3 [_, _] C hz hC dL_puts_265 (ct_L_one l hfl hS1.si (zn S) hfn 2 rfl (by decide)) wK_L_one wM_L_108 wT_L_one wI_L hd_L_one rfl ⟨rfl, rfl⟩ ⟨Nat.le_of_ble_eq_true rfl, Nat.le_of_ble_eq_true rfl⟩ rfl rfl rfl rfl rfl rfl ?_
      refine sg_segs [_, _, _, _, _, _, _, _, _, _] rfl ?_
      refine sw_top (show tel (zf (pinS S (nI s9) (nI t9) (nI r9) (nI (1 + bd)) (0))) (zn S + 1) (zn S) 2 = nI (if r9 + 0 / 25 < 4 then r9 + 0 / 25 else 4) from pin_2.trans (lou_eq (r := r9) (b := 0) (by omega) (by omega))) ?_
      refine sw_iload 268 C dL_puts_268 rfl ?_
      refine sw_iconst 270 C dL_puts_270 4 (by decide) ?_
      refine sw_jn2 280 (nI (if r9 + 0 / 25 < 4 then r9 + 0 / 25 else 4)) (fun hj_271 => ?_) ?_
      · refine sw_icmp_le 271 278 C dL_puts_271 (by decide) (fun c_271 => ?_) (fun c_271 => ?_)
        · refine sw_iload 278 C dL_puts_278 rfl ?_
          exact sw_top (show nI r9 = nI (if r9 + 0 / 25 < 4 then r9 + 0 / 25 else 4) from congrArg nI (by split <;> omega)) hj_271
        · refine sw_iconst 274 C dL_puts_274 4 (by decide) ?_
          refine sw_goto 275 280 C dL_puts_275 (by decide) ?_
          exact sw_top (absurd (nI_le (b := 4) (show r9 ≤ 4 by omega) (by decide)) c_271) hj_271
      refine sw_icmp_ne 280 360 C dL_puts_280 (by decide) (fun c_280 => ?_) (fun c_280 => ?_)
      · exact by first | exact absurd c_280 (rfl) | exact absurd (rfl) c_280
      refine sw_aload_n 283 0 C dL_puts_283 rfl rfl ?_
      refine sw_iload 284 C dL_puts_284 rfl ?_
      refine sw_iconst 286 C dL_puts_286 3 (by decide) ?_
      refine xl_callSI 287 [0, 1] 3 [_, _] C hz hC dL_puts_287 (ct_L_one l hfl hS1.si (zn S) hfn 3 rfl (by decide)) wK_L_one wM_L_108 wT_L_one wI_L hd_L_one rfl ⟨rfl, rfl⟩ ⟨Nat.le_of_ble_eq_true rfl, Nat.le_of_ble_eq_true rfl⟩ rfl rfl rfl rfl rfl rfl ?_
      refine sg_segs [_, _, _, _, _, _, _, _, _, _] rfl ?_
      refine sw_top (show tel (zf (pinS S (nI s9) (nI t9) (nI r9) (nI (1 + bd)) (0))) (zn S + 1) (zn S) 3 = 0 from pin_3) ?_
      refine sw_if_ne 290 360 C dL_puts_290 (by decide) (fun c_290 => ?_) (fun c_290 => ?_)
      · exact by first | exact absurd c_290 (rfl) | exact absurd (rfl) c_290
      refine sw_aload_n 293 0 C dL_puts_293 rfl rfl ?_
      refine sw_iload 294 C dL_puts_294 rfl ?_
      refine sw_iconst 296 C dL_puts_296 5 (by decide) ?_
      refine xl_callSI 297 [0, 1] 3 [_, _] C hz hC dL_puts_297 (ct_L_one l hfl hS1.si (zn S) hfn 5 rfl (by decide)) wK_L_one wM_L_108 wT_L_one wI_L hd_L_one rfl ⟨rfl, rfl⟩ ⟨Nat.le_of_ble_eq_true rfl, Nat.le_of_ble_eq_true rfl⟩ rfl rfl rfl rfl rfl rfl ?_
      refine sg_segs [_, _, _, _, _, _, _, _, _, _] rfl ?_
      refine sw_top (show tel (zf (pinS S (nI s9) (nI t9) (nI r9) (nI (1 + bd)) (0))) (zn S + 1) (zn S) 5 = nI (1 + bd) from pin_5) ?_
      refine sw_iload 300 C dL_puts_300 rfl ?_
      refine sw_icmp_ne 302 360 C dL_puts_302 (by decide) (fun c_302 => ?_) (fun c_302 => ?_)
      · exact by first | exact absurd c_302 (rfl) | exact absurd (rfl) c_302
      refine sw_aload_n 305 0 C dL_puts_305 rfl rfl ?_
      refine sw_iload 306 C dL_puts_306 rfl ?_
      refine sw_bipush 308 C dL_puts_308 9 (by decide) ?_
      refine xl_callSI 310 [0, 1] 3 [_, _] C hz hC dL_puts_310 (ct_L_one l hfl hS1.si (zn S) hfn 9 rfl (by decide)) wK_L_one wM_L_108 wT_L_one wI_L hd_L_one rfl ⟨rfl, rfl⟩ ⟨Nat.le_of_ble_eq_true rfl, Nat.le_of_ble_eq_true rfl⟩ rfl rfl rfl rfl rfl rfl ?_
      refine sg_segs [_, _, _, _, _, _, _, _, _, _] rfl ?_
      refine sw_top (show tel (zf (pinS S (nI s9) (nI t9) (nI r9) (nI (1 + bd)) (0))) (zn S + 1) (zn S) 9 = nI 2 from knd_pin2 ht9) ?_
      refine sw_iload 313 C dL_puts_313 rfl ?_
      refine sw_icmp_ne 315 360 C dL_puts_315 (by decide) (fun c_315 => ?_) (fun c_315 => ?_)
      · exact by first | exact absurd c_315 (rfl) | exact absurd (rfl) c_315
      refine sw_aload_n 318 0 C dL_puts_318 rfl rfl ?_
      refine sw_bipush 319 C dL_puts_319 6 (by decide) ?_
      refine xl_callSI 321 [0, 1] 2 [_, _] C hz hC dL_puts_321 (ct_L_value l hfl hS1.si 6 rfl (by decide)) wK_L_value wM_L_95 wT_L_value wI_L hd_L_value rfl ⟨rfl, rfl⟩ ⟨Nat.le_of_ble_eq_true rfl, Nat.le_of_ble_eq_true rfl⟩ rfl rfl rfl rfl rfl rfl ?_
      refine sg_segs [_, _, _, _, _, _, _, _, _, _] rfl ?_
      refine sw_top (show _ = zk (pinS S (nI s9) (nI t9) (nI r9) (nI (1 + bd)) (0)) from rfl) ?_
      refine sw_aload_n 324 0 C dL_puts_324 rfl rfl ?_
      refine sw_bipush 325 C dL_puts_325 7 (by decide) ?_
      refine xl_callSI 327 [0, 1] 2 [_, _] C hz hC dL_puts_327 (ct_L_value l hfl hS1.si 7 rfl (by decide)) wK_L_value wM_L_95 wT_L_value wI_L hd_L_value rfl ⟨rfl, rfl⟩ ⟨Nat.le_of_ble_eq_true rfl, Nat.le_of_ble_eq_true rfl⟩ rfl rfl rfl rfl rfl rfl ?_
      refine sg_segs [_, _, _, _, _, _, _, _, _, _] rfl ?_
      refine sw_top (show _ = sgb (zbk (pinS S (nI s9) (nI t9) (nI r9) (nI (1 + bd)) (0))) 8 from rfl) ?_
      refine sw_iadd 330 C dL_puts_330 ?_
      refine sw_aload_n 331 0 C dL_puts_331 rfl rfl ?_
      refine sw_bipush 332 C dL_puts_332 8 (by decide) ?_
      refine xl_callSI 334 [0, 1] 2 [_, _] C hz hC dL_puts_334 (ct_L_value l hfl hS1.si 8 rfl (by decide)) wK_L_value wM_L_95 wT_L_value wI_L hd_L_value rfl ⟨rfl, rfl⟩ ⟨Nat.le_of_ble_eq_true rfl, Nat.le_of_ble_eq_true rfl⟩ rfl rfl rfl rfl rfl rfl ?_
      refine sg_segs [_, _, _, _, _, _, _, _, _, _] rfl ?_
      refine sw_top (show _ = smb (zf (pinS S (nI s9) (nI t9) (nI r9) (nI (1 + bd)) (0))) (zn (pinS S (nI s9) (nI t9) (nI r9) (nI (1 + bd)) (0))) from rfl) ?_
      refine sw_iadd 337 C dL_puts_337 ?_
      refine sw_top (show zk (pinS S (nI s9) (nI t9) (nI r9) (nI (1 + bd)) (0)) + sgb (zbk (pinS S (nI s9) (nI t9) (nI r9) (nI (1 + bd)) (0))) 8 + smb (zf (pinS S (nI s9) (nI t9) (nI r9) (nI (1 + bd)) (0))) (zn (pinS S (nI s9) (nI t9) (nI r9) (nI (1 + bd)) (0))) = coins S + 0 from coins_pin) ?_
      refine sw_iload 338 C dL_puts_338 rfl ?_
      refine sw_iload 340 C dL_puts_340 rfl ?_
      refine sw_iconst 342 C dL_puts_342 1 (by decide) ?_
      refine sw_icmp_ne 343 351 C dL_puts_343 (by decide) (fun c_343 => ?_) (fun c_343 => ?_)
      rotate_left
      · exact by first | exact absurd c_343 (hk1) | exact absurd (hk1) c_343
      refine sw_iconst 351 C dL_puts_351 0 (by decide) ?_
      refine sw_iadd 352 C dL_puts_352 ?_
      refine sw_icmp_ne 353 360 C dL_puts_353 (by decide) (fun c_353 => ?_) (fun c_353 => ?_)
      · exact by first | exact absurd c_353 (rfl) | exact absurd (rfl) c_353
      refine sw_iconst 356 C dL_puts_356 1 (by decide) ?_
      refine sw_goto 357 361 C dL_puts_357 (by decide) ?_
      refine sw_widen (k' := 1) (n' := 6) (by decide) (by decide) ?_
      refine sw_zret 361 C RC rfl dL_puts_361 ?_
      refine ⟨rfl, (_, _, _, _, (_, _, _), _, _), ?_, rfl⟩
      exact ⟨hS1, hc2, ho2, hln⟩
