/-! all that is told, as a sum -/
def sA (S : StT) : Nat → Int64
  | 0 => 17
  | k + 1 => 31 * sA S k + (fig (zq S) (zg S) (zv S) (zt S) (zp S) (zk S) (zn S) (zl S) (zf S) (zlv S) (zbk S) k).toInt64
def sB (S : StT) : Nat → Int64
  | 0 => sA S 14
  | k + 1 => 31 * (31 * sB S k + (nI (ct (isOf (zf S) (nI k)) (zn S))).toInt64) + (zbk S k).toInt64
def sD (S : StT) (i : Nat) (h : Int64) : Nat → Int64
  | 0 => h
  | w + 1 => 31 * sD S i h w + (tel (zf S) (zn S) i w).toInt64
def sC (S : StT) : Nat → Int64
  | 0 => sB S 8
  | k + 1 => 31 * sD S (plc (zf S) (zn S) k) (31 * sC S k + (zf S (plc (zf S) (zn S) k * 8 + 7)).toInt64) 10 + (rkf (plc (zf S) (zn S) k) 40 S).1.toInt64
def sE (S : StT) : Nat → Int64
  | 0 => sC S (zn S)
  | k + 1 => 31 * sE S k + (zlg S (k / 5 * 5 + k % 5)).toInt64
def sumF (S : StT) : Int64 := sE S (5 * zl S)
set_option maxHeartbeats 4000000 in
set_option maxRecDepth 100000 in
theorem lp_L_sum4 {l : Launch} {p : Program} {e : Env} {s : State} {m : MethodId} {args : Array Value} {below : List Frame} {meth : Method} {c : Code} {A : Nat → Prop} {D : va_G} {cI cJ cQ : ClassId} {x0a a0 a1 a2 a3 a4 a5 a6 a7 tr0 tr1 tr2 tr3 tr4 tr5 tr6 tr7 s0 s1 ra0 ra1 ra2 ra3 ra4 ra5 ra6 ra7 rb0 rb1 rb2 rb3 rb4 rb5 rb6 rb7 rc0 rc1 rc2 rc3 rc4 rc5 rc6 rc7 rd0 rd1 rd2 rd3 rd4 rd5 rd6 rd7 r0 t0 t1 w0 : Nat} {h : Nat → Option Nat} {S : StT} {R : Nat → StT} {cn od ln : Nat} {by_ : Nat → Int32} {X : RS} {B U : Nat} (hJ : JI B U S) (hfl : l.stackTraces = false) (hz : xZ A s) (hC : xC s) (C : CC p s m args c cL_sum 6 RL (Cond.code yL_sum cL_sum 6 (some .long) :: lw_all) D (tyz cI cJ cQ) A s.heap) (RC : meth.sig.returnType = (some .long) ∧ meth.locks = false ∧ meth.name = yL_sum.name) : ∀ (fu i : Nat), i ≤ 5 * zl S → 5 * zl S + 1 ≤ i + fu → ∀ (T : StT) (g : Nat → Int32), ∀ (xh : Int64) (xi : Int32), (xh = sE S i) → (xi = nI i) →  sw p l e ({ frames := 10, cells := 0, slots := 0, locals := 189 } : Room) s m args below meth c D A s.heap 6 0 0 (MQ below (ctQ D (tyz cI cJ cQ) A ((pstEL (sumF S) (fun _ : StT × (Nat → Int32) => True) (fun z : StT × (Nat → Int32) => (flatS [[(x0a, .inr (6, [.ref a0, .ref tr0, .ref s0, .ref r0, .ref w0]))], (wSt a0 a1 a2 a3 a4 a5 a6 a7 cI (S)), [(s0, .inr (3, [.int (nI (cn)), .int (nI (od)), .ref s1])), (s1, .inl (cQ, 4, .inr (.inr (.inr (.inr h)))))], (wSt ra0 ra1 ra2 ra3 ra4 ra5 ra6 ra7 cI ((R) 0)), (wSt rb0 rb1 rb2 rb3 rb4 rb5 rb6 rb7 cI ((R) 1)), (wSt rc0 rc1 rc2 rc3 rc4 rc5 rc6 rc7 cI ((R) 2)), (wSt rd0 rd1 rd2 rd3 rd4 rd5 rd6 rd7 cI ((R) 3)), (wSt tr0 tr1 tr2 tr3 tr4 tr5 tr6 tr7 cI (z.1)), (wRd r0 t0 t1 cI (ln) (by_) (X)), [(w0, .inl (cI, 40, .inl (z.2)))]]))))) args s 0 0 A) (flatS [[(x0a, .inr (6, [.ref a0, .ref tr0, .ref s0, .ref r0, .ref w0]))], (wSt a0 a1 a2 a3 a4 a5 a6 a7 cI (S)), [(s0, .inr (3, [.int (nI (cn)), .int (nI (od)), .ref s1])), (s1, .inl (cQ, 4, .inr (.inr (.inr (.inr h)))))], (wSt ra0 ra1 ra2 ra3 ra4 ra5 ra6 ra7 cI ((R) 0)), (wSt rb0 rb1 rb2 rb3 rb4 rb5 rb6 rb7 cI ((R) 1)), (wSt rc0 rc1 rc2 rc3 rc4 rc5 rc6 rc7 cI ((R) 2)), (wSt rd0 rd1 rd2 rd3 rd4 rd5 rd6 rd7 cI ((R) 3)), (wSt tr0 tr1 tr2 tr3 tr4 tr5 tr6 tr7 cI (T)), (wRd r0 t0 t1 cI (ln) (by_) (X)), [(w0, .inl (cI, 40, .inl (g)))]]) 153 [(0, .ref x0a), (1, .long xh), (3, .int xi)] [] := by
  have hS := hJ.si
  have hn := hJ.o.n
  have hlc := hJ.si.2.1
  intro fu
  induction fu with
  | zero => intro i h1 h2; exact absurd h2 (by omega)
  | succ fu ih =>
    intro i hi hf T g xh xi exh exi
    subst exh exi
    refine sw_iload_n 153 3 C dL_sum_153 rfl rfl ?_
    refine sw_iconst 154 C dL_sum_154 5 (by decide) ?_
    refine sw_aload_n 155 0 C dL_sum_155 rfl rfl ?_
    refine sw_bipush 156 C dL_sum_156 10 (by decide) ?_
    refine xl_callSI 158 [0, 1] 2 [_, _] C hz hC dL_sum_158 (ct_L_value l hfl hS 10 rfl (by decide)) wK_L_value wM_L_95 wT_L_value wI_L hd_L_value rfl ⟨rfl, rfl⟩ ⟨Nat.le_of_ble_eq_true rfl, Nat.le_of_ble_eq_true rfl⟩ rfl rfl rfl rfl rfl rfl ?_
    refine sg_segs [_, _, _, _, _, _, _, _, _, _] rfl ?_
    refine sw_top (show (_ : Int32) = nI (zl S) from rfl) ?_
    refine sw_imul 161 C dL_sum_161 ?_
    refine sw_top (show (5 : Int32) * nI (zl S) = nI (5 * zl S) from pk_mul 5 (zl S)) ?_
    refine sw_icmp_ge 162 189 C dL_sum_162 (by decide) (fun c_162 => ?_) (fun c_162 => ?_)
    · refine sw_lload_n 189 1 C dL_sum_189 rfl rfl ?_
      refine sw_lret 190 C RC dL_sum_190 ?_
      exact ⟨by rw [show i = 5 * zl S by have := nI_ge' (by omega) c_162 (by omega); omega]; rfl, (T, g), trivial, rfl⟩
    · have hlt : i < 5 * zl S := by
        rcases Nat.lt_or_ge i (5 * zl S) with q | q
        · exact q
        · exact absurd (nI_le (b := i) q (by omega)) c_162
      refine sw_ldc2 165 C dL_sum_165 (C.w wQ_L_93) ?_
      refine sw_lload_n 168 1 C dL_sum_168 rfl rfl ?_
      refine sw_lmul 169 C dL_sum_169 ?_
      refine sw_aload_n 170 0 C dL_sum_170 rfl rfl ?_
      refine sw_iload_n 171 3 C dL_sum_171 rfl rfl ?_
      refine sw_iconst 172 C dL_sum_172 5 (by decide) ?_
      refine sw_idiv 173 C dL_sum_173 (by decide) ?_
      refine sw_top (pk_div (a := i) (d := 5) (by omega) (by decide) (by decide)) ?_
      refine sw_iload_n 174 3 C dL_sum_174 rfl rfl ?_
      refine sw_iconst 175 C dL_sum_175 5 (by decide) ?_
      refine sw_irem 176 C dL_sum_176 (by decide) ?_
      refine sw_top (pk_rem (a := i) (d := 5) (by omega) (by decide) (by decide)) ?_
      refine xl_callSI 177 [0, 1] 3 [_, _] C hz hC dL_sum_177 (ct_L_entry l hfl hS (i / 5) (i % 5) rfl (by omega) rfl (Nat.mod_lt _ (by decide))) wK_L_entry wM_L_115 wT_L_entry wI_L hd_L_entry rfl ⟨rfl, rfl⟩ ⟨Nat.le_of_ble_eq_true rfl, Nat.le_of_ble_eq_true rfl⟩ rfl rfl rfl rfl rfl rfl ?_
      refine sg_segs [_, _, _, _, _, _, _, _, _, _] rfl ?_
      refine sw_i2l 180 C dL_sum_180 ?_
      refine sw_ladd 181 C dL_sum_181 ?_
      refine sw_lstore_n 182 1 C dL_sum_182 rfl rfl ?_
      refine sw_iinc 183 C 1 dL_sum_183 (by decide) rfl rfl ?_
      refine sw_loc (L1 := [(0, .ref _), (1, .long _), (3, .int _)]) ?_ rfl
      refine sw_goto 186 153 C dL_sum_186 (by decide) ?_
      exact sw_loc (ih (i + 1) (by omega) (by omega) T g _ _ rfl (nI_1 i)) rfl
set_option maxHeartbeats 4000000 in
set_option maxRecDepth 100000 in
theorem lp_L_sum3i {l : Launch} {p : Program} {e : Env} {s : State} {m : MethodId} {args : Array Value} {below : List Frame} {meth : Method} {c : Code} {A : Nat → Prop} {D : va_G} {cI cJ cQ : ClassId} {x0a a0 a1 a2 a3 a4 a5 a6 a7 tr0 tr1 tr2 tr3 tr4 tr5 tr6 tr7 s0 s1 ra0 ra1 ra2 ra3 ra4 ra5 ra6 ra7 rb0 rb1 rb2 rb3 rb4 rb5 rb6 rb7 rc0 rc1 rc2 rc3 rc4 rc5 rc6 rc7 rd0 rd1 rd2 rd3 rd4 rd5 rd6 rd7 r0 t0 t1 w0 : Nat} {h : Nat → Option Nat} {S T : StT} {R : Nat → StT} {cn od ln : Nat} {by_ g : Nat → Int32} {X : RS} {B U : Nat} (hJ : JI B U S) (hfl : l.stackTraces = false) (hz : xZ A s) (hC : xC s) {k : Nat} (hk : (plc (zf S) (zn S) k) < zn S ∧ cbf (zf S) (zn S) (plc (zf S) (zn S) k) = k) (C : CC p s m args c cL_sum 6 RL (Cond.code yL_sum cL_sum 6 (some .long) :: lw_all) D (tyz cI cJ cQ) A s.heap) (RC : meth.sig.returnType = (some .long) ∧ meth.locks = false ∧ meth.name = yL_sum.name) : ∀ (fu i : Nat), i ≤ 10 → 10 + 1 ≤ i + fu → (∀ T2 : StT, sw p l e ({ frames := 10, cells := 0, slots := 0, locals := 189 } : Room) s m args below meth c D A s.heap 6 0 0 (MQ below (ctQ D (tyz cI cJ cQ) A (pstEL (sumF S) (fun _ : StT × (Nat → Int32) => True) (fun z : StT × (Nat → Int32) => (flatS [[(x0a, .inr (6, [.ref a0, .ref tr0, .ref s0, .ref r0, .ref w0]))], (wSt a0 a1 a2 a3 a4 a5 a6 a7 cI (S)), [(s0, .inr (3, [.int (nI (cn)), .int (nI (od)), .ref s1])), (s1, .inl (cQ, 4, .inr (.inr (.inr (.inr h)))))], (wSt ra0 ra1 ra2 ra3 ra4 ra5 ra6 ra7 cI ((R) 0)), (wSt rb0 rb1 rb2 rb3 rb4 rb5 rb6 rb7 cI ((R) 1)), (wSt rc0 rc1 rc2 rc3 rc4 rc5 rc6 rc7 cI ((R) 2)), (wSt rd0 rd1 rd2 rd3 rd4 rd5 rd6 rd7 cI ((R) 3)), (wSt tr0 tr1 tr2 tr3 tr4 tr5 tr6 tr7 cI (z.1)), (wRd r0 t0 t1 cI (ln) (by_) (X)), [(w0, .inl (cI, 40, .inl (z.2)))]])))) args s 0 0 A) (flatS [[(x0a, .inr (6, [.ref a0, .ref tr0, .ref s0, .ref r0, .ref w0]))], (wSt a0 a1 a2 a3 a4 a5 a6 a7 cI (S)), [(s0, .inr (3, [.int (nI (cn)), .int (nI (od)), .ref s1])), (s1, .inl (cQ, 4, .inr (.inr (.inr (.inr h)))))], (wSt ra0 ra1 ra2 ra3 ra4 ra5 ra6 ra7 cI ((R) 0)), (wSt rb0 rb1 rb2 rb3 rb4 rb5 rb6 rb7 cI ((R) 1)), (wSt rc0 rc1 rc2 rc3 rc4 rc5 rc6 rc7 cI ((R) 2)), (wSt rd0 rd1 rd2 rd3 rd4 rd5 rd6 rd7 cI ((R) 3)), (wSt tr0 tr1 tr2 tr3 tr4 tr5 tr6 tr7 cI (T2)), (wRd r0 t0 t1 cI (ln) (by_) (X)), [(w0, .inl (cI, 40, .inl (g)))]]) 71 [(0, .ref x0a), (1, .long (sC S (k + 1))), (3, .int (nI (k + 1)))] []) → ∀ (xh : Int64) (xi : Int32), (xh = sD S (plc (zf S) (zn S) k) (31 * sC S k + (zf S ((plc (zf S) (zn S) k) * 8 + 7)).toInt64) i) → (xi = nI i) →  sw p l e ({ frames := 10, cells := 0, slots := 0, locals := 189 } : Room) s m args below meth c D A s.heap 6 0 0 (MQ below (ctQ D (tyz cI cJ cQ) A ((pstEL (sumF S) (fun _ : StT × (Nat → Int32) => True) (fun z : StT × (Nat → Int32) => (flatS [[(x0a, .inr (6, [.ref a0, .ref tr0, .ref s0, .ref r0, .ref w0]))], (wSt a0 a1 a2 a3 a4 a5 a6 a7 cI (S)), [(s0, .inr (3, [.int (nI (cn)), .int (nI (od)), .ref s1])), (s1, .inl (cQ, 4, .inr (.inr (.inr (.inr h)))))], (wSt ra0 ra1 ra2 ra3 ra4 ra5 ra6 ra7 cI ((R) 0)), (wSt rb0 rb1 rb2 rb3 rb4 rb5 rb6 rb7 cI ((R) 1)), (wSt rc0 rc1 rc2 rc3 rc4 rc5 rc6 rc7 cI ((R) 2)), (wSt rd0 rd1 rd2 rd3 rd4 rd5 rd6 rd7 cI ((R) 3)), (wSt tr0 tr1 tr2 tr3 tr4 tr5 tr6 tr7 cI (z.1)), (wRd r0 t0 t1 cI (ln) (by_) (X)), [(w0, .inl (cI, 40, .inl (z.2)))]]))))) args s 0 0 A) (flatS [[(x0a, .inr (6, [.ref a0, .ref tr0, .ref s0, .ref r0, .ref w0]))], (wSt a0 a1 a2 a3 a4 a5 a6 a7 cI (S)), [(s0, .inr (3, [.int (nI (cn)), .int (nI (od)), .ref s1])), (s1, .inl (cQ, 4, .inr (.inr (.inr (.inr h)))))], (wSt ra0 ra1 ra2 ra3 ra4 ra5 ra6 ra7 cI ((R) 0)), (wSt rb0 rb1 rb2 rb3 rb4 rb5 rb6 rb7 cI ((R) 1)), (wSt rc0 rc1 rc2 rc3 rc4 rc5 rc6 rc7 cI ((R) 2)), (wSt rd0 rd1 rd2 rd3 rd4 rd5 rd6 rd7 cI ((R) 3)), (wSt tr0 tr1 tr2 tr3 tr4 tr5 tr6 tr7 cI (T)), (wRd r0 t0 t1 cI (ln) (by_) (X)), [(w0, .inl (cI, 40, .inl (g)))]]) 100 [(0, .ref x0a), (1, .long xh), (3, .int (nI k)), (4, .int (zf S ((plc (zf S) (zn S) k) * 8 + 7))), (5, .int xi)] [] := by
  have hS := hJ.si
  have hn := hJ.o.n
  have hlc := hJ.si.2.1
  intro fu
  induction fu with
  | zero => intro i h1 h2; exact absurd h2 (by omega)
  | succ fu ih =>
    intro i hi hf hkk xh xi exh exi
    subst exh exi
    refine sw_iload 100 C dL_sum_100 rfl ?_
    refine sw_bipush 102 C dL_sum_102 10 (by decide) ?_
    refine sw_icmp_ge 104 129 C dL_sum_104 (by decide) (fun c_104 => ?_) (fun c_104 => ?_)
    · obtain rfl : i = 10 := by have := nI_ge' (by omega) (b := 10) c_104 (by omega); omega
      refine sw_ldc2 129 C dL_sum_129 (C.w wQ_L_93) ?_
      refine sw_lload_n 132 1 C dL_sum_132 rfl rfl ?_
      refine sw_lmul 133 C dL_sum_133 ?_
      refine sw_aload_n 134 0 C dL_sum_134 rfl rfl ?_
      refine sw_iload 135 C dL_sum_135 rfl ?_
      refine sw_bipush 137 C dL_sum_137 40 (by decide) ?_
      refine xl_callSI 139 [0, 1, 7] 3 [_, _, _] C hz hC dL_sum_139 (ct_L_later l hfl hS (plc (zf S) (zn S) k) (fnd_num hJ.o.num hk.1) 40 rfl (by decide)) wK_L_later wM_L_112 wT_L_later wI_L hd_L_later rfl ⟨rfl, rfl⟩ ⟨Nat.le_of_ble_eq_true rfl, Nat.le_of_ble_eq_true rfl⟩ rfl rfl rfl rfl rfl rfl ?_
      refine sg_segs [_, _, _, _, _, _, _, _, _, _] rfl ?_
      refine sw_i2l 142 C dL_sum_142 ?_
      refine sw_ladd 143 C dL_sum_143 ?_
      refine sw_lstore_n 144 1 C dL_sum_144 rfl rfl ?_
      refine sw_iinc 145 C 1 dL_sum_145 (by decide) rfl rfl ?_
      refine sw_loc (L1 := [(0, .ref _), (1, .long _), (3, .int _), (4, .int _), (5, .int _)]) ?_ rfl
      refine sw_goto 148 71 C dL_sum_148 (by decide) ?_
      exact sw_loc (hkk _) (by rw [← nI_1]; rfl)
    · have hlt : i < 10 := by
        rcases Nat.lt_or_ge i (10) with q | q
        · exact q
        · exact absurd (nI_le (b := i) q (by omega)) c_104
      refine sw_ldc2 107 C dL_sum_107 (C.w wQ_L_93) ?_
      refine sw_lload_n 110 1 C dL_sum_110 rfl rfl ?_
      refine sw_lmul 111 C dL_sum_111 ?_
      refine sw_aload_n 112 0 C dL_sum_112 rfl rfl ?_
      refine sw_iload 113 C dL_sum_113 rfl ?_
      refine sw_iload 115 C dL_sum_115 rfl ?_
      refine xl_callSI 117 [0, 1] 3 [_, _] C hz hC dL_sum_117 (ct_L_one l hfl hS (plc (zf S) (zn S) k) (fnd_num hJ.o.num hk.1) i rfl (by omega)) wK_L_one wM_L_108 wT_L_one wI_L hd_L_one rfl ⟨rfl, rfl⟩ ⟨Nat.le_of_ble_eq_true rfl, Nat.le_of_ble_eq_true rfl⟩ rfl rfl rfl rfl rfl rfl ?_
      refine sg_segs [_, _, _, _, _, _, _, _, _, _] rfl ?_
      refine sw_i2l 120 C dL_sum_120 ?_
      refine sw_ladd 121 C dL_sum_121 ?_
      refine sw_lstore_n 122 1 C dL_sum_122 rfl rfl ?_
      refine sw_iinc 123 C 1 dL_sum_123 (by decide) rfl rfl ?_
      refine sw_loc (L1 := [(0, .ref _), (1, .long _), (3, .int _), (4, .int _), (5, .int _)]) ?_ rfl
      refine sw_goto 126 100 C dL_sum_126 (by decide) ?_
      exact sw_loc (ih (i + 1) (by omega) (by omega) hkk _ _ rfl (nI_1 i)) rfl
set_option maxHeartbeats 4000000 in
set_option maxRecDepth 100000 in
theorem lp_L_sum3 {l : Launch} {p : Program} {e : Env} {s : State} {m : MethodId} {args : Array Value} {below : List Frame} {meth : Method} {c : Code} {A : Nat → Prop} {D : va_G} {cI cJ cQ : ClassId} {x0a a0 a1 a2 a3 a4 a5 a6 a7 tr0 tr1 tr2 tr3 tr4 tr5 tr6 tr7 s0 s1 ra0 ra1 ra2 ra3 ra4 ra5 ra6 ra7 rb0 rb1 rb2 rb3 rb4 rb5 rb6 rb7 rc0 rc1 rc2 rc3 rc4 rc5 rc6 rc7 rd0 rd1 rd2 rd3 rd4 rd5 rd6 rd7 r0 t0 t1 w0 : Nat} {h : Nat → Option Nat} {S : StT} {R : Nat → StT} {cn od ln : Nat} {by_ : Nat → Int32} {X : RS} {B U : Nat} (hJ : JI B U S) (hfl : l.stackTraces = false) (hz : xZ A s) (hC : xC s) (C : CC p s m args c cL_sum 6 RL (Cond.code yL_sum cL_sum 6 (some .long) :: lw_all) D (tyz cI cJ cQ) A s.heap) (RC : meth.sig.returnType = (some .long) ∧ meth.locks = false ∧ meth.name = yL_sum.name) : ∀ (fu i : Nat), i ≤ zn S → zn S + 1 ≤ i + fu → ∀ (T : StT) (g : Nat → Int32), ∀ (xh : Int64) (xi : Int32), (xh = sC S i) → (xi = nI i) →  sw p l e ({ frames := 10, cells := 0, slots := 0, locals := 189 } : Room) s m args below meth c D A s.heap 6 0 0 (MQ below (ctQ D (tyz cI cJ cQ) A ((pstEL (sumF S) (fun _ : StT × (Nat → Int32) => True) (fun z : StT × (Nat → Int32) => (flatS [[(x0a, .inr (6, [.ref a0, .ref tr0, .ref s0, .ref r0, .ref w0]))], (wSt a0 a1 a2 a3 a4 a5 a6 a7 cI (S)), [(s0, .inr (3, [.int (nI (cn)), .int (nI (od)), .ref s1])), (s1, .inl (cQ, 4, .inr (.inr (.inr (.inr h)))))], (wSt ra0 ra1 ra2 ra3 ra4 ra5 ra6 ra7 cI ((R) 0)), (wSt rb0 rb1 rb2 rb3 rb4 rb5 rb6 rb7 cI ((R) 1)), (wSt rc0 rc1 rc2 rc3 rc4 rc5 rc6 rc7 cI ((R) 2)), (wSt rd0 rd1 rd2 rd3 rd4 rd5 rd6 rd7 cI ((R) 3)), (wSt tr0 tr1 tr2 tr3 tr4 tr5 tr6 tr7 cI (z.1)), (wRd r0 t0 t1 cI (ln) (by_) (X)), [(w0, .inl (cI, 40, .inl (z.2)))]]))))) args s 0 0 A) (flatS [[(x0a, .inr (6, [.ref a0, .ref tr0, .ref s0, .ref r0, .ref w0]))], (wSt a0 a1 a2 a3 a4 a5 a6 a7 cI (S)), [(s0, .inr (3, [.int (nI (cn)), .int (nI (od)), .ref s1])), (s1, .inl (cQ, 4, .inr (.inr (.inr (.inr h)))))], (wSt ra0 ra1 ra2 ra3 ra4 ra5 ra6 ra7 cI ((R) 0)), (wSt rb0 rb1 rb2 rb3 rb4 rb5 rb6 rb7 cI ((R) 1)), (wSt rc0 rc1 rc2 rc3 rc4 rc5 rc6 rc7 cI ((R) 2)), (wSt rd0 rd1 rd2 rd3 rd4 rd5 rd6 rd7 cI ((R) 3)), (wSt tr0 tr1 tr2 tr3 tr4 tr5 tr6 tr7 cI (T)), (wRd r0 t0 t1 cI (ln) (by_) (X)), [(w0, .inl (cI, 40, .inl (g)))]]) 71 [(0, .ref x0a), (1, .long xh), (3, .int xi)] [] := by
  have hS := hJ.si
  have hn := hJ.o.n
  have hlc := hJ.si.2.1
  intro fu
  induction fu with
  | zero => intro i h1 h2; exact absurd h2 (by omega)
  | succ fu ih =>
    intro i hi hf T g xh xi exh exi
    subst exh exi
    refine sw_iload_n 71 3 C dL_sum_71 rfl rfl ?_
    refine sw_aload_n 72 0 C dL_sum_72 rfl rfl ?_
    refine sw_iconst 73 C dL_sum_73 0 (by decide) ?_
    refine xl_callSI 74 [0, 1] 2 [_, _] C hz hC dL_sum_74 (ct_L_value l hfl hS 0 rfl (by decide)) wK_L_value wM_L_95 wT_L_value wI_L hd_L_value rfl ⟨rfl, rfl⟩ ⟨Nat.le_of_ble_eq_true rfl, Nat.le_of_ble_eq_true rfl⟩ rfl rfl rfl rfl rfl rfl ?_
    refine sg_segs [_, _, _, _, _, _, _, _, _, _] rfl ?_
    refine sw_top (show (_ : Int32) = nI (zn S) from rfl) ?_
    refine sw_icmp_ge 77 151 C dL_sum_77 (by decide) (fun c_77 => ?_) (fun c_77 => ?_)
    · refine sw_iconst 151 C dL_sum_151 0 (by decide) ?_
      refine sw_istore_n 152 3 C dL_sum_152 rfl rfl ?_
      obtain rfl : i = zn S := by have := nI_ge' (by omega) c_77 (by omega); omega
      exact sw_loc (lp_L_sum4 hJ hfl hz hC C RC (5 * zl S + 1) 0 (Nat.zero_le _) (by omega) T g _ _ rfl rfl) rfl
    · have hlt : i < zn S := by
        rcases Nat.lt_or_ge i (zn S) with q | q
        · exact q
        · exact absurd (nI_le (b := i) q (by omega)) c_77
      have hpl := plc_ok hJ.o.num hJ.o.row hn hlt
      refine sw_aload_n 80 0 C dL_sum_80 rfl rfl ?_
      refine sw_iload_n 81 3 C dL_sum_81 rfl rfl ?_
      refine xl_callSI 82 [0, 1, 9] 2 [_, _, _] C hz hC dL_sum_82 (ct_L_peek l hfl hS i (plc (zf S) (zn S) i) rfl hlt hpl.1 (plc_arr hJ.o.num hJ.o.row hn g hlt)) wK_L_peek wM_L_106 wT_L_peek wI_L hd_L_peek rfl ⟨rfl, rfl⟩ ⟨Nat.le_of_ble_eq_true rfl, Nat.le_of_ble_eq_true rfl⟩ rfl rfl rfl rfl rfl rfl ?_
      refine sg_segs [_, _, _, _, _, _, _, _, _, _] rfl ?_
      refine sw_istore 85 C dL_sum_85 rfl ?_
      refine sw_ldc2 87 C dL_sum_87 (C.w wQ_L_93) ?_
      refine sw_lload_n 90 1 C dL_sum_90 rfl rfl ?_
      refine sw_lmul 91 C dL_sum_91 ?_
      refine sw_iload 92 C dL_sum_92 rfl ?_
      refine sw_i2l 94 C dL_sum_94 ?_
      refine sw_ladd 95 C dL_sum_95 ?_
      refine sw_lstore_n 96 1 C dL_sum_96 rfl rfl ?_
      refine sw_loc (L1 := [(0, .ref _), (1, .long _), (3, .int _), (4, .int _)]) ?_ rfl
      refine sw_iconst 97 C dL_sum_97 0 (by decide) ?_
      refine sw_istore 98 C dL_sum_98 rfl ?_
      exact sw_loc (lp_L_sum3i hJ hfl hz hC hpl C RC 11 0 (by decide) (by decide) (fun T2 => ih (i + 1) hlt (by omega) T2 _ _ _ rfl rfl) _ _ rfl rfl) rfl
set_option maxHeartbeats 4000000 in
set_option maxRecDepth 100000 in
theorem lp_L_sum2 {l : Launch} {p : Program} {e : Env} {s : State} {m : MethodId} {args : Array Value} {below : List Frame} {meth : Method} {c : Code} {A : Nat → Prop} {D : va_G} {cI cJ cQ : ClassId} {x0a a0 a1 a2 a3 a4 a5 a6 a7 tr0 tr1 tr2 tr3 tr4 tr5 tr6 tr7 s0 s1 ra0 ra1 ra2 ra3 ra4 ra5 ra6 ra7 rb0 rb1 rb2 rb3 rb4 rb5 rb6 rb7 rc0 rc1 rc2 rc3 rc4 rc5 rc6 rc7 rd0 rd1 rd2 rd3 rd4 rd5 rd6 rd7 r0 t0 t1 w0 : Nat} {h : Nat → Option Nat} {S : StT} {R : Nat → StT} {cn od ln : Nat} {by_ : Nat → Int32} {X : RS} {B U : Nat} (hJ : JI B U S) (hfl : l.stackTraces = false) (hz : xZ A s) (hC : xC s) (C : CC p s m args c cL_sum 6 RL (Cond.code yL_sum cL_sum 6 (some .long) :: lw_all) D (tyz cI cJ cQ) A s.heap) (RC : meth.sig.returnType = (some .long) ∧ meth.locks = false ∧ meth.name = yL_sum.name) : ∀ (fu i : Nat), i ≤ 8 → 8 + 1 ≤ i + fu → ∀ (T : StT) (g : Nat → Int32), ∀ (xh : Int64) (xi : Int32), (xh = sB S i) → (xi = nI i) →  sw p l e ({ frames := 10, cells := 0, slots := 0, locals := 189 } : Room) s m args below meth c D A s.heap 6 0 0 (MQ below (ctQ D (tyz cI cJ cQ) A ((pstEL (sumF S) (fun _ : StT × (Nat → Int32) => True) (fun z : StT × (Nat → Int32) => (flatS [[(x0a, .inr (6, [.ref a0, .ref tr0, .ref s0, .ref r0, .ref w0]))], (wSt a0 a1 a2 a3 a4 a5 a6 a7 cI (S)), [(s0, .inr (3, [.int (nI (cn)), .int (nI (od)), .ref s1])), (s1, .inl (cQ, 4, .inr (.inr (.inr (.inr h)))))], (wSt ra0 ra1 ra2 ra3 ra4 ra5 ra6 ra7 cI ((R) 0)), (wSt rb0 rb1 rb2 rb3 rb4 rb5 rb6 rb7 cI ((R) 1)), (wSt rc0 rc1 rc2 rc3 rc4 rc5 rc6 rc7 cI ((R) 2)), (wSt rd0 rd1 rd2 rd3 rd4 rd5 rd6 rd7 cI ((R) 3)), (wSt tr0 tr1 tr2 tr3 tr4 tr5 tr6 tr7 cI (z.1)), (wRd r0 t0 t1 cI (ln) (by_) (X)), [(w0, .inl (cI, 40, .inl (z.2)))]]))))) args s 0 0 A) (flatS [[(x0a, .inr (6, [.ref a0, .ref tr0, .ref s0, .ref r0, .ref w0]))], (wSt a0 a1 a2 a3 a4 a5 a6 a7 cI (S)), [(s0, .inr (3, [.int (nI (cn)), .int (nI (od)), .ref s1])), (s1, .inl (cQ, 4, .inr (.inr (.inr (.inr h)))))], (wSt ra0 ra1 ra2 ra3 ra4 ra5 ra6 ra7 cI ((R) 0)), (wSt rb0 rb1 rb2 rb3 rb4 rb5 rb6 rb7 cI ((R) 1)), (wSt rc0 rc1 rc2 rc3 rc4 rc5 rc6 rc7 cI ((R) 2)), (wSt rd0 rd1 rd2 rd3 rd4 rd5 rd6 rd7 cI ((R) 3)), (wSt tr0 tr1 tr2 tr3 tr4 tr5 tr6 tr7 cI (T)), (wRd r0 t0 t1 cI (ln) (by_) (X)), [(w0, .inl (cI, 40, .inl (g)))]]) 33 [(0, .ref x0a), (1, .long xh), (3, .int xi)] [] := by
  have hS := hJ.si
  have hn := hJ.o.n
  have hlc := hJ.si.2.1
  intro fu
  induction fu with
  | zero => intro i h1 h2; exact absurd h2 (by omega)
  | succ fu ih =>
    intro i hi hf T g xh xi exh exi
    subst exh exi
    refine sw_iload_n 33 3 C dL_sum_33 rfl rfl ?_
    refine sw_bipush 34 C dL_sum_34 8 (by decide) ?_
    refine sw_icmp_ge 36 69 C dL_sum_36 (by decide) (fun c_36 => ?_) (fun c_36 => ?_)
    · refine sw_iconst 69 C dL_sum_69 0 (by decide) ?_
      refine sw_istore_n 70 3 C dL_sum_70 rfl rfl ?_
      obtain rfl : i = 8 := by have := nI_ge' (by omega) (b := 8) c_36 (by omega); omega
      exact sw_loc (lp_L_sum3 hJ hfl hz hC C RC (zn S + 1) 0 (Nat.zero_le _) (by omega) T g _ _ rfl rfl) rfl
    · have hlt : i < 8 := by
        rcases Nat.lt_or_ge i (8) with q | q
        · exact q
        · exact absurd (nI_le (b := i) q (by omega)) c_36
      refine sw_ldc2 39 C dL_sum_39 (C.w wQ_L_93) ?_
      refine sw_ldc2 42 C dL_sum_42 (C.w wQ_L_93) ?_
      refine sw_lload_n 45 1 C dL_sum_45 rfl rfl ?_
      refine sw_lmul 46 C dL_sum_46 ?_
      refine sw_aload_n 47 0 C dL_sum_47 rfl rfl ?_
      refine sw_iload_n 48 3 C dL_sum_48 rfl rfl ?_
      refine xl_callSI 49 [0, 1] 2 [_, _] C hz hC dL_sum_49 (ct_L_sent l hfl hS (inR_nI 0 7 (Nat.zero_le _) (by omega) (by decide))) wK_L_sent wM_L_100 wT_L_sent wI_L hd_L_sent rfl ⟨rfl, rfl⟩ ⟨Nat.le_of_ble_eq_true rfl, Nat.le_of_ble_eq_true rfl⟩ rfl rfl rfl rfl rfl rfl ?_
      refine sg_segs [_, _, _, _, _, _, _, _, _, _] rfl ?_
      refine sw_i2l 52 C dL_sum_52 ?_
      refine sw_ladd 53 C dL_sum_53 ?_
      refine sw_lmul 54 C dL_sum_54 ?_
      refine sw_aload_n 55 0 C dL_sum_55 rfl rfl ?_
      refine sw_iload_n 56 3 C dL_sum_56 rfl rfl ?_
      refine xl_callSI 57 [0, 1] 2 [_, _] C hz hC dL_sum_57 (ct_L_given l hfl i rfl hlt) wK_L_given wM_L_103 wT_L_given wI_L hd_L_given rfl ⟨rfl, rfl⟩ ⟨Nat.le_of_ble_eq_true rfl, Nat.le_of_ble_eq_true rfl⟩ rfl rfl rfl rfl rfl rfl ?_
      refine sg_segs [_, _, _, _, _, _, _, _, _, _] rfl ?_
      refine sw_i2l 60 C dL_sum_60 ?_
      refine sw_ladd 61 C dL_sum_61 ?_
      refine sw_lstore_n 62 1 C dL_sum_62 rfl rfl ?_
      refine sw_iinc 63 C 1 dL_sum_63 (by decide) rfl rfl ?_
      refine sw_loc (L1 := [(0, .ref _), (1, .long _), (3, .int _)]) ?_ rfl
      refine sw_goto 66 33 C dL_sum_66 (by decide) ?_
      exact sw_loc (ih (i + 1) (by omega) (by omega) T g _ _ rfl (nI_1 i)) rfl
set_option maxHeartbeats 4000000 in
set_option maxRecDepth 100000 in
theorem lp_L_sum1 {l : Launch} {p : Program} {e : Env} {s : State} {m : MethodId} {args : Array Value} {below : List Frame} {meth : Method} {c : Code} {A : Nat → Prop} {D : va_G} {cI cJ cQ : ClassId} {x0a a0 a1 a2 a3 a4 a5 a6 a7 tr0 tr1 tr2 tr3 tr4 tr5 tr6 tr7 s0 s1 ra0 ra1 ra2 ra3 ra4 ra5 ra6 ra7 rb0 rb1 rb2 rb3 rb4 rb5 rb6 rb7 rc0 rc1 rc2 rc3 rc4 rc5 rc6 rc7 rd0 rd1 rd2 rd3 rd4 rd5 rd6 rd7 r0 t0 t1 w0 : Nat} {h : Nat → Option Nat} {S : StT} {R : Nat → StT} {cn od ln : Nat} {by_ : Nat → Int32} {X : RS} {B U : Nat} (hJ : JI B U S) (hfl : l.stackTraces = false) (hz : xZ A s) (hC : xC s) (C : CC p s m args c cL_sum 6 RL (Cond.code yL_sum cL_sum 6 (some .long) :: lw_all) D (tyz cI cJ cQ) A s.heap) (RC : meth.sig.returnType = (some .long) ∧ meth.locks = false ∧ meth.name = yL_sum.name) : ∀ (fu i : Nat), i ≤ 14 → 14 + 1 ≤ i + fu → ∀ (T : StT) (g : Nat → Int32), ∀ (xh : Int64) (xi : Int32), (xh = sA S i) → (xi = nI i) →  sw p l e ({ frames := 10, cells := 0, slots := 0, locals := 189 } : Room) s m args below meth c D A s.heap 6 0 0 (MQ below (ctQ D (tyz cI cJ cQ) A ((pstEL (sumF S) (fun _ : StT × (Nat → Int32) => True) (fun z : StT × (Nat → Int32) => (flatS [[(x0a, .inr (6, [.ref a0, .ref tr0, .ref s0, .ref r0, .ref w0]))], (wSt a0 a1 a2 a3 a4 a5 a6 a7 cI (S)), [(s0, .inr (3, [.int (nI (cn)), .int (nI (od)), .ref s1])), (s1, .inl (cQ, 4, .inr (.inr (.inr (.inr h)))))], (wSt ra0 ra1 ra2 ra3 ra4 ra5 ra6 ra7 cI ((R) 0)), (wSt rb0 rb1 rb2 rb3 rb4 rb5 rb6 rb7 cI ((R) 1)), (wSt rc0 rc1 rc2 rc3 rc4 rc5 rc6 rc7 cI ((R) 2)), (wSt rd0 rd1 rd2 rd3 rd4 rd5 rd6 rd7 cI ((R) 3)), (wSt tr0 tr1 tr2 tr3 tr4 tr5 tr6 tr7 cI (z.1)), (wRd r0 t0 t1 cI (ln) (by_) (X)), [(w0, .inl (cI, 40, .inl (z.2)))]]))))) args s 0 0 A) (flatS [[(x0a, .inr (6, [.ref a0, .ref tr0, .ref s0, .ref r0, .ref w0]))], (wSt a0 a1 a2 a3 a4 a5 a6 a7 cI (S)), [(s0, .inr (3, [.int (nI (cn)), .int (nI (od)), .ref s1])), (s1, .inl (cQ, 4, .inr (.inr (.inr (.inr h)))))], (wSt ra0 ra1 ra2 ra3 ra4 ra5 ra6 ra7 cI ((R) 0)), (wSt rb0 rb1 rb2 rb3 rb4 rb5 rb6 rb7 cI ((R) 1)), (wSt rc0 rc1 rc2 rc3 rc4 rc5 rc6 rc7 cI ((R) 2)), (wSt rd0 rd1 rd2 rd3 rd4 rd5 rd6 rd7 cI ((R) 3)), (wSt tr0 tr1 tr2 tr3 tr4 tr5 tr6 tr7 cI (T)), (wRd r0 t0 t1 cI (ln) (by_) (X)), [(w0, .inl (cI, 40, .inl (g)))]]) 6 [(0, .ref x0a), (1, .long xh), (3, .int xi)] [] := by
  have hS := hJ.si
  have hn := hJ.o.n
  have hlc := hJ.si.2.1
  intro fu
  induction fu with
  | zero => intro i h1 h2; exact absurd h2 (by omega)
  | succ fu ih =>
    intro i hi hf T g xh xi exh exi
    subst exh exi
    refine sw_iload_n 6 3 C dL_sum_6 rfl rfl ?_
    refine sw_bipush 7 C dL_sum_7 14 (by decide) ?_
    refine sw_icmp_ge 9 31 C dL_sum_9 (by decide) (fun c_9 => ?_) (fun c_9 => ?_)
    · refine sw_iconst 31 C dL_sum_31 0 (by decide) ?_
      refine sw_istore_n 32 3 C dL_sum_32 rfl rfl ?_
      obtain rfl : i = 14 := by have := nI_ge' (by omega) (b := 14) c_9 (by omega); omega
      exact sw_loc (lp_L_sum2 hJ hfl hz hC C RC 9 0 (Nat.zero_le _) (by omega) T g _ _ rfl rfl) rfl
    · have hlt : i < 14 := by
        rcases Nat.lt_or_ge i (14) with q | q
        · exact q
        · exact absurd (nI_le (b := i) q (by omega)) c_9
      refine sw_ldc2 12 C dL_sum_12 (C.w wQ_L_93) ?_
      refine sw_lload_n 15 1 C dL_sum_15 rfl rfl ?_
      refine sw_lmul 16 C dL_sum_16 ?_
      refine sw_aload_n 17 0 C dL_sum_17 rfl rfl ?_
      refine sw_iload_n 18 3 C dL_sum_18 rfl rfl ?_
      refine xl_callSI 19 [0, 1] 2 [_, _] C hz hC dL_sum_19 (ct_L_value l hfl hS i rfl (by omega)) wK_L_value wM_L_95 wT_L_value wI_L hd_L_value rfl ⟨rfl, rfl⟩ ⟨Nat.le_of_ble_eq_true rfl, Nat.le_of_ble_eq_true rfl⟩ rfl rfl rfl rfl rfl rfl ?_
      refine sg_segs [_, _, _, _, _, _, _, _, _, _] rfl ?_
      refine sw_i2l 22 C dL_sum_22 ?_
      refine sw_ladd 23 C dL_sum_23 ?_
      refine sw_lstore_n 24 1 C dL_sum_24 rfl rfl ?_
      refine sw_iinc 25 C 1 dL_sum_25 (by decide) rfl rfl ?_
      refine sw_loc (L1 := [(0, .ref _), (1, .long _), (3, .int _)]) ?_ rfl
      refine sw_goto 28 6 C dL_sum_28 (by decide) ?_
      exact sw_loc (ih (i + 1) (by omega) (by omega) T g _ _ rfl (nI_1 i)) rfl
set_option maxHeartbeats 8000000 in
set_option maxRecDepth 100000 in
theorem ct_L_sum (l : Launch) (hfl : l.stackTraces = false) {D : va_G} {cI cJ cQ : ClassId} {x0a a0 a1 a2 a3 a4 a5 a6 a7 tr0 tr1 tr2 tr3 tr4 tr5 tr6 tr7 s0 s1 ra0 ra1 ra2 ra3 ra4 ra5 ra6 ra7 rb0 rb1 rb2 rb3 rb4 rb5 rb6 rb7 rc0 rc1 rc2 rc3 rc4 rc5 rc6 rc7 rd0 rd1 rd2 rd3 rd4 rd5 rd6 rd7 r0 t0 t1 w0 : Nat} {h : Nat → Option Nat} {S T : StT} {R : Nat → StT} {cn od ln : Nat} {by_ g : Nat → Int32} {X : RS} {B U : Nat} (hJ : JI B U S) : LCt l yL_sum (Cond.code yL_sum cL_sum 6 (some .long)) 10 189 0 0 D (tyz cI cJ cQ) [.ref x0a] (flatS [[(x0a, .inr (6, [.ref a0, .ref tr0, .ref s0, .ref r0, .ref w0]))], (wSt a0 a1 a2 a3 a4 a5 a6 a7 cI (S)), [(s0, .inr (3, [.int (nI (cn)), .int (nI (od)), .ref s1])), (s1, .inl (cQ, 4, .inr (.inr (.inr (.inr h)))))], (wSt ra0 ra1 ra2 ra3 ra4 ra5 ra6 ra7 cI ((R) 0)), (wSt rb0 rb1 rb2 rb3 rb4 rb5 rb6 rb7 cI ((R) 1)), (wSt rc0 rc1 rc2 rc3 rc4 rc5 rc6 rc7 cI ((R) 2)), (wSt rd0 rd1 rd2 rd3 rd4 rd5 rd6 rd7 cI ((R) 3)), (wSt tr0 tr1 tr2 tr3 tr4 tr5 tr6 tr7 cI (T)), (wRd r0 t0 t1 cI (ln) (by_) (X)), [(w0, .inl (cI, 40, .inl (g)))]]) (pstEL (sumF S) (fun _ : StT × (Nat → Int32) => True) (fun z : StT × (Nat → Int32) => (flatS [[(x0a, .inr (6, [.ref a0, .ref tr0, .ref s0, .ref r0, .ref w0]))], (wSt a0 a1 a2 a3 a4 a5 a6 a7 cI (S)), [(s0, .inr (3, [.int (nI (cn)), .int (nI (od)), .ref s1])), (s1, .inl (cQ, 4, .inr (.inr (.inr (.inr h)))))], (wSt ra0 ra1 ra2 ra3 ra4 ra5 ra6 ra7 cI ((R) 0)), (wSt rb0 rb1 rb2 rb3 rb4 rb5 rb6 rb7 cI ((R) 1)), (wSt rc0 rc1 rc2 rc3 rc4 rc5 rc6 rc7 cI ((R) 2)), (wSt rd0 rd1 rd2 rd3 rd4 rd5 rd6 rd7 cI ((R) 3)), (wSt tr0 tr1 tr2 tr3 tr4 tr5 tr6 tr7 cI (z.1)), (wRd r0 t0 t1 cI (ln) (by_) (X)), [(w0, .inl (cI, 40, .inl (z.2)))]]))) := by
  refine LCt.ofC RL (by decide) rfl (Nat.le_of_ble_eq_true rfl) ?_
  intro p e s m below meth c A C RC hz hC
  refine sw_ldc2 0 C dL_sum_0 (C.w wQ_L_91) ?_
  refine sw_lstore_n 3 1 C dL_sum_3 rfl rfl ?_
  refine sw_iconst 4 C dL_sum_4 0 (by decide) ?_
  refine sw_istore_n 5 3 C dL_sum_5 rfl rfl ?_
  exact sw_loc (lp_L_sum1 hJ hfl hz hC C RC 15 0 (Nat.zero_le _) (by omega) T g _ _ rfl rfl) rfl
