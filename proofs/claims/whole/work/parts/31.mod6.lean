/-! the Model: what if -/
/-- the rows after some ticks, where row i grows older alone -/
def git (i : Nat) : Nat → StT → StT
  | 0, T => T
  | k + 1, T => groS (git i k T) i
theorem git_c (i : Nat) : ∀ (k : Nat) (T : StT), git i k (groS T i) = git i (k + 1) T
  | 0, T => rfl
  | k + 1, T => by
    show groS (git i k (groS T i)) i = groS (git i (k + 1) T) i
    rw [git_c i k T]
theorem git_n (i : Nat) : ∀ (k : Nat) (T : StT), zn (git i k T) = zn T
  | 0, T => rfl
  | k + 1, T => git_n i k T
theorem git_pat (i : Nat) : ∀ (k : Nat) (T : StT), zpat (git i k T) = zpat T
  | 0, T => rfl
  | k + 1, T => git_pat i k T
theorem gro_w {S : StT} {r : Nat} (hx : gexp (zf S) r = false) : zf (groS S r) (r * 8 + 3) = zf S (r * 8 + 3) + 1 ∧ zf (groS S r) (r * 8 + 5) = zf S (r * 8 + 5) := by
  cases hu : gup (zpat S) (zf S) r with
  | true =>
    show gro (zpat S) (zf S) r (r * 8 + 3) = _ ∧ gro (zpat S) (zf S) r (r * 8 + 5) = _
    rw [gro_u hx hu, upd_ne (by omega), upd_ne (by omega), upd_ne (by omega), upd_ne (by omega), gro1_ne (j := r * 8 + 5) (by omega)]
    exact ⟨g1_3, rfl⟩
  | false =>
    show gro (zpat S) (zf S) r (r * 8 + 3) = _ ∧ gro (zpat S) (zf S) r (r * 8 + 5) = _
    rw [gro_s hx hu, upd_ne (by omega), upd_ne (by omega), gro1_ne (j := r * 8 + 5) (by omega)]
    exact ⟨g1_3, rfl⟩
theorem gexp_N {S : StT} {r w b : Nat} (h3 : zf S (r * 8 + 3) = nI w) (h5 : zf S (r * 8 + 5) = nI b) (hw : w < 2 ^ 30) (hb : b < 2 ^ 30) : gexp (zf S) r = decide (b ≤ w + 1) := by
  unfold gexp
  rw [gro1_ne (by omega), h3, h5, nI_1]
  rw [Bool.eq_iff_iff, decide_eq_true_iff, decide_eq_true_iff]
  exact nI_leI (by omega) (by omega)
/-- where the row doesn't expire -/
theorem git_ok {B T : Nat} {i w b : Nat} : ∀ (k : Nat) {S : StT}, mO B T S → i < zn S → zf S (i * 8 + 3) = nI w → zf S (i * 8 + 5) = nI b → b ≤ 200 → w + k < b → mO B T (git i k S) ∧ zf (git i k S) (i * 8 + 3) = nI (w + k) ∧ zf (git i k S) (i * 8 + 5) = nI b
  | 0, S, h, _, h3, h5, _, _ => ⟨h, h3, h5⟩
  | k + 1, S, h, hi, h3, h5, hb, hk => by
    obtain ⟨g1, g2, g3⟩ := git_ok k h hi h3 h5 hb (by omega)
    have hx : gexp (zf (git i k S)) i = false := by rw [gexp_N g2 g3 (by omega) (by omega)]; exact decide_eq_false (by omega)
    obtain ⟨e1, e2⟩ := gro_w hx
    refine ⟨mO_gro g1 (by rw [git_n]; exact hi) hx, ?_, ?_⟩
    · show zf (groS (git i k S) i) (i * 8 + 3) = _
      rw [e1, g2, nI_1]
      rfl
    · show zf (groS (git i k S) i) (i * 8 + 5) = _
      rw [e2, g3]
theorem rkf_ok {B T : Nat} {i w b : Nat} : ∀ (k : Nat) {S : StT}, mO B T S → i < zn S → zf S (i * 8 + 3) = nI w → zf S (i * 8 + 5) = nI b → w < b → b ≤ 200 → (0 < k → w + k < b) → (rkf i k S).1 = zf (git i k S) (i * 8 + 2)
  | 0, S, _, _, _, _, _, _, _ => rfl
  | k + 1, S, h, hi, h3, h5, hwb, hb, hk => by
    have hk := hk (by omega)
    have hx : gexp (zf S) i = false := by rw [gexp_N h3 h5 (by omega) (by omega)]; exact decide_eq_false (by omega)
    obtain ⟨e1, e2⟩ := gro_w hx
    rw [rkf_n hx, rkf_ok (w := w + 1) (b := b) k (mO_gro h hi hx) hi (by rw [e1, h3, nI_1]) (by rw [e2, h5]) (by omega) hb (by omega), git_c]
theorem rkf_exp {B T : Nat} {i w b : Nat} : ∀ (k : Nat) {S : StT}, mO B T S → i < zn S → zf S (i * 8 + 3) = nI w → zf S (i * 8 + 5) = nI b → b ≤ 200 → w < b → 0 < k → b ≤ w + k → (rkf i k S).1 = -1
  | 0, S, _, _, _, _, _, _, hk, _ => absurd hk (Nat.lt_irrefl _)
  | k + 1, S, h, hi, h3, h5, hb, hwb, _, hk => by
    by_cases q : b ≤ w + 1
    · rw [rkf_x (by rw [gexp_N h3 h5 (by omega) (by omega)]; exact decide_eq_true q)]
    · have hx : gexp (zf S) i = false := by rw [gexp_N h3 h5 (by omega) (by omega)]; exact decide_eq_false q
      obtain ⟨e1, e2⟩ := gro_w hx
      rw [rkf_n hx]
      exact rkf_exp (w := w + 1) (b := b) k (mO_gro h hi hx) hi (by rw [e1, h3, nI_1]) (by rw [e2, h5]) hb (by omega) (by omega) (by omega)
theorem gro_2 {S : StT} {r : Nat} (hx : gexp (zf S) r = false) : zf (groS S r) (r * 8 + 2) = zf S (r * 8 + 2) + bI (gup (zpat S) (zf S) r) ∧ zf (groS S r) (r * 8 + 4) = if gup (zpat S) (zf S) r = true then 0 else zf S (r * 8 + 4) + 1 := by
  cases hu : gup (zpat S) (zf S) r with
  | true =>
    show gro (zpat S) (zf S) r (r * 8 + 2) = _ ∧ gro (zpat S) (zf S) r (r * 8 + 4) = _
    rw [gro_u hx hu, upd_ne (j := r * 8 + 2) (by omega), upd_at rfl, upd_at rfl, gro1_ne (j := r * 8 + 2) (by omega)]
    exact ⟨rfl, rfl⟩
  | false =>
    show gro (zpat S) (zf S) r (r * 8 + 2) = _ ∧ gro (zpat S) (zf S) r (r * 8 + 4) = _
    rw [gro_s hx hu, upd_ne (j := r * 8 + 2) (by omega), upd_at rfl, gro1_ne (j := r * 8 + 2) (by omega), gro1_ne (j := r * 8 + 4) (by omega)]
    exact ⟨(Int32.add_zero _).symm, rfl⟩
set_option maxHeartbeats 4000000 in
set_option maxRecDepth 100000 in
theorem lp_X7_rankIn {l : Launch} {p : Program} {e : Env} {s : State} {m : MethodId} {args : Array Value} {below : List Frame} {meth : Method} {c : Code} {A : Nat → Prop} {D : va_G} {cI cJ cQ : ClassId} {b0 b1 b2 b3 b4 b5 : Nat} {sa pa ad tx nb : Nat → Int32} {kp th ty ap : Int32} {hh : Int64} {S : StT} {B T : Nat} (hE : mE S sa) (hO : mO B T S) {x : Int32} (i w b k : Nat) (hiS : i < zn S) (h3 : zf S (i * 8 + 3) = nI w) (h5 : zf S (i * 8 + 5) = nI b) (hwb : w < b) (hb : b ≤ 200) (hk : k ≤ 200) (hwk : 0 < k → w + k < b) (C : CC p s m args c cX7_rankIn 8 RX7 (Cond.code yX7_rankIn cX7_rankIn 8 (some .int) :: lw_all) D (tyz cI cJ cQ) A s.heap) (RC : meth.sig.returnType = (some .int) ∧ meth.locks = false ∧ meth.name = yX7_rankIn.name) : ∀ (fu j : Nat), j ≤ k → k + 1 ≤ j + fu →  ∀ (xa : Int32) (xb : Int32) (xi : Int32), (xa = zf (git i j S) (i * 8 + 2)) → (xb = zf (git i j S) (i * 8 + 4)) → (xi = nI j) →  sw p l e ({ frames := 2, cells := 0, slots := 0, locals := 45 } : Room) s m args below meth c D A s.heap 8 0 0 (MQ below (ctQ D (tyz cI cJ cQ) A ((pstI (zf (git i k S) (i * 8 + 2)) [(b0, .inr (7, [.ref b1, .ref b2, .ref b3, .int (kp), .int (0), .ref b4, .int (ty), .int (ap), .ref b5, .long (hh)])), (b1, .inl (cI, 424, .inl (sa))), (b2, .inl (cI, 1696, .inl (pa))), (b3, .inl (cI, 424, .inl (ad))), (b4, .inl (cI, 100, .inl (tx))), (b5, .inl (cI, 4, .inl (nb)))]))) args s 0 0 A) [(b0, .inr (7, [.ref b1, .ref b2, .ref b3, .int (kp), .int (th), .ref b4, .int (ty), .int (ap), .ref b5, .long (hh)])), (b1, .inl (cI, 424, .inl (sa))), (b2, .inl (cI, 1696, .inl (pa))), (b3, .inl (cI, 424, .inl (ad))), (b4, .inl (cI, 100, .inl (tx))), (b5, .inl (cI, 4, .inl (nb)))] 81 [(0, .ref b0), (1, .int x), (2, .int (nI k)), (3, .int (nI i)), (4, .int xa), (5, .int xb), (6, .int xi)] [] := by
  intro fu
  induction fu with
  | zero => intro j h1 h2; exact absurd h2 (by omega)
  | succ fu ih =>
    intro j hi hf  xa xb xi exa exb exi
    subst exa exb exi
    refine sw_iload 81 C dX7_rankIn_81 rfl ?_
    refine sw_iload_n 83 2 C dX7_rankIn_83 rfl rfl ?_
    refine sw_icmp_ge 84 152 C dX7_rankIn_84 (by decide) (fun c_84 => ?_) (fun c_84 => ?_)
    · obtain rfl : j = k := by
        have := nI_ge' (by omega) c_84 (by omega)
        omega
      refine sw_aload_n 152 0 C dX7_rankIn_152 rfl rfl ?_
      refine sw_iload 153 C dX7_rankIn_153 rfl ?_
      refine sw_callVI 155 [0, 1, 2, 3, 4, 5] 1 C dX7_rankIn_155 (ct_X7_tells l) wK_X7_tells wM_X7_70 wN_X7_tells wS_X7_X7_tells wI_X7 hd_X7_tells rfl rfl rfl ⟨rfl, rfl⟩ ⟨Nat.le_of_ble_eq_true rfl, Nat.le_of_ble_eq_true rfl⟩ rfl rfl rfl rfl rfl ?_
      refine sw_ws [(_, .inr (7, [.ref _, .ref _, .ref _, .int _, .int _, .ref _, .int _, .int _, .ref _, .long _])), (_, .inl (_, _, .inl _)), (_, .inl (_, _, .inl _)), (_, .inl (_, _, .inl _)), (_, .inl (_, _, .inl _)), (_, .inl (_, _, .inl _))] rfl ?_
      refine sw_iret 158 C RC dX7_rankIn_158 ?_
      exact ⟨rfl, rfl⟩
    · have hlt : j < k := by
        rcases Nat.lt_or_ge j k with q | q
        · exact q
        · exact absurd (nI_le q (by omega)) c_84
      obtain ⟨gO, g3, g5⟩ := git_ok j hO hiS h3 h5 hb (by have := hwk (by omega); omega)
      have hx : gexp (zf (git i j S)) i = false := by rw [gexp_N g3 g5 (by omega) (by omega)]; exact decide_eq_false (by have := hwk (by omega); omega)
      obtain ⟨q2, q4⟩ := gro_2 hx
      obtain ⟨rk, rk1, rk2⟩ := (gO.row i (by rw [git_n]; exact hiS)).1
      refine sw_iinc 87 C 1 dX7_rankIn_87 (by decide) rfl rfl ?_
      refine sw_iload 90 C dX7_rankIn_90 rfl ?_
      refine sw_iconst 92 C dX7_rankIn_92 4 (by decide) ?_
      refine sw_jn2 116 (bI (gup (zpat (git i j S)) (zf (git i j S)) i)) (fun hj_93 => ?_) ?_
      · refine sw_icmp_ge 93 115 C dX7_rankIn_93 (by decide) (fun c_93 => ?_) (fun c_93 => ?_)
        · refine sw_iconst 115 C dX7_rankIn_115 0 (by decide) ?_
          exact sw_top (by rw [gup_4 c_93]; rfl) hj_93
        · have hk4 : rk < 4 := by
            rw [rk2] at c_93
            exact Nat.lt_of_not_le (fun q => c_93 (nI_le (a := 4) q (by omega)))
          have hpat : zpat S rk = zpat (git i j S) rk := by rw [git_pat]
          refine sw_iload 96 C dX7_rankIn_96 rfl ?_
          refine sw_aload_n 98 0 C dX7_rankIn_98 rfl rfl ?_
          refine sw_get 99 0 0 C dX7_rankIn_99 rfl rfl (inA lwX7) (C.w wF_X7_7) rfl rfl rfl ?_
          refine sw_bipush 102 C dX7_rankIn_102 12 (by decide) ?_
          refine sw_iload 104 C dX7_rankIn_104 rfl ?_
          refine sw_iadd 106 C dX7_rankIn_106 ?_
          refine sw_ialdN 107 1 0 (12 + rk) C dX7_rankIn_107 (by rw [show (12 : Int32) = nI 12 from rfl, ← nI_add, rk2]) (by omega) rfl rfl rfl ?_
          refine sw_top ((hE.pat rk hk4).trans hpat) ?_
          refine sw_icmp_lt 108 115 C dX7_rankIn_108 (by decide) (fun c_108 => ?_) (fun c_108 => ?_)
          · refine sw_iconst 115 C dX7_rankIn_115 0 (by decide) ?_
            exact sw_top (by rw [gup_e rk2 hk4, decide_eq_false (Int32.not_le.mpr c_108)]; rfl) hj_93
          · refine sw_iconst 111 C dX7_rankIn_111 1 (by decide) ?_
            refine sw_goto 112 116 C dX7_rankIn_112 (by decide) ?_
            exact sw_top (by rw [gup_e rk2 hk4, decide_eq_true (Int32.not_lt.mp c_108)]; rfl) hj_93
      refine sw_istore 116 C dX7_rankIn_116 rfl ?_
      refine sw_loc (L1 := [(0, .ref _), (1, .int _), (2, .int _), (3, .int _), (4, .int _), (5, .int _), (6, .int _), (7, .int _)]) ?_ rfl
      refine sw_iload 118 C dX7_rankIn_118 rfl ?_
      refine sw_iload 120 C dX7_rankIn_120 rfl ?_
      refine sw_jn1 130 (bI (gup (zpat (git i j S)) (zf (git i j S)) i)) (fun hj_122 => ?_) ?_
      · refine sw_if_eq 122 129 C dX7_rankIn_122 (by decide) (fun c_122 => ?_) (fun c_122 => ?_)
        · refine sw_iconst 129 C dX7_rankIn_129 0 (by decide) ?_
          exact sw_top (c_122.symm) hj_122
        · refine sw_iconst 125 C dX7_rankIn_125 1 (by decide) ?_
          refine sw_goto 126 130 C dX7_rankIn_126 (by decide) ?_
          exact sw_top (by rw [bI_t c_122]; rfl) hj_122
      refine sw_iadd 130 C dX7_rankIn_130 ?_
      refine sw_istore 131 C dX7_rankIn_131 rfl ?_
      refine sw_iload 133 C dX7_rankIn_133 rfl ?_
      refine sw_jn1 144 (zf (git i (j + 1) S) (i * 8 + 4)) (fun hj_135 => ?_) ?_
      · refine sw_if_eq 135 142 C dX7_rankIn_135 (by decide) (fun c_135 => ?_) (fun c_135 => ?_)
        · refine sw_iload 142 C dX7_rankIn_142 rfl ?_
          exact sw_top (by rw [show git i (j + 1) S = groS (git i j S) i from rfl, q4, bI_f c_135]; rfl) hj_135
        · refine sw_iconst 138 C dX7_rankIn_138 0 (by decide) ?_
          refine sw_goto 139 144 C dX7_rankIn_139 (by decide) ?_
          exact sw_top (by rw [show git i (j + 1) S = groS (git i j S) i from rfl, q4, bI_t c_135]; rfl) hj_135
      refine sw_istore 144 C dX7_rankIn_144 rfl ?_
      refine sw_loc (L1 := [(0, .ref _), (1, .int _), (2, .int _), (3, .int _), (4, .int _), (5, .int _), (6, .int _), (7, .int _)]) ?_ rfl
      refine sw_iinc 146 C 1 dX7_rankIn_146 (by decide) rfl rfl ?_
      refine sw_goto 149 81 C dX7_rankIn_149 (by decide) ?_
      exact sw_loc (ih (j + 1) (by omega) (by omega) _ _ _ (by rw [show git i (j + 1) S = groS (git i j S) i from rfl, q2]) rfl (nI_1 j)) rfl
set_option maxHeartbeats 4000000 in
set_option maxRecDepth 100000 in
theorem ct_X7_rankIn (l : Launch) {D : va_G} {cI cJ cQ : ClassId} {b0 b1 b2 b3 b4 b5 : Nat} {sa pa ad tx nb : Nat → Int32} {kp th ty ap : Int32} {hh : Int64} {S : StT} {B T : Nat} (hE : mE S sa) (hO : mO B T S) {x1 x2 : Int32} (i : Nat) (hi : fnd (zf S) x1 (zn S) = some i) (k : Nat) (h2 : x2 = nI k) (hk : k ≤ 200) : Ct l yX7_rankIn (Cond.code yX7_rankIn cX7_rankIn 8 (some .int)) 2 45 0 0 D (tyz cI cJ cQ) [.ref b0, .int x1, .int x2] [(b0, .inr (7, [.ref b1, .ref b2, .ref b3, .int (kp), .int (th), .ref b4, .int (ty), .int (ap), .ref b5, .long (hh)])), (b1, .inl (cI, 424, .inl (sa))), (b2, .inl (cI, 1696, .inl (pa))), (b3, .inl (cI, 424, .inl (ad))), (b4, .inl (cI, 100, .inl (tx))), (b5, .inl (cI, 4, .inl (nb)))] (pstI ((rkf i k S).1) [(b0, .inr (7, [.ref b1, .ref b2, .ref b3, .int (kp), .int (0), .ref b4, .int (ty), .int (ap), .ref b5, .long (hh)])), (b1, .inl (cI, 424, .inl (sa))), (b2, .inl (cI, 1696, .inl (pa))), (b3, .inl (cI, 424, .inl (ad))), (b4, .inl (cI, 100, .inl (tx))), (b5, .inl (cI, 4, .inl (nb)))]) := by
  refine Ct.of RX7 (by decide) rfl (Nat.le_of_ble_eq_true rfl) ?_
  intro p e s m below meth c A C RC
  subst h2
  have hin := fnd_lt _ _ hi
  obtain ⟨w, b, hwb, hb, h3, h5⟩ := (hO.row i hin).2.1
  refine sw_aload_n 0 0 C dX7_rankIn_0 rfl rfl ?_
  refine sw_iload_n 1 1 C dX7_rankIn_1 rfl rfl ?_
  refine sw_callVIP 2 [0, 1, 2, 3, 4, 5] 1 C dX7_rankIn_2 (ct_X7_find l hE hO) wK_X7_find wM_X7_100 wN_X7_find wS_X7_X7_find wI_X7 hd_X7_find rfl rfl rfl ⟨rfl, rfl⟩ ⟨Nat.le_of_ble_eq_true rfl, Nat.le_of_ble_eq_true rfl⟩ rfl rfl rfl rfl ?_
  rw [hi]
  refine sw_istore_n 5 3 C dX7_rankIn_5 rfl rfl ?_
  refine sw_iload_n 6 3 C dX7_rankIn_6 rfl rfl ?_
  refine sw_iconst 7 C dX7_rankIn_7 (-1) (by decide) ?_
  refine sw_icmp_ne 8 17 C dX7_rankIn_8 (by decide) (fun c_8 => ?_) (fun c_8 => ?_)
  rotate_left
  · exact by first | exact absurd c_8 (i32_ne_m1 (by have := hO.n; omega)) | exact absurd (i32_ne_m1 (by have := hO.n; omega)) c_8
  refine sw_iload_n 17 2 C dX7_rankIn_17 rfl rfl ?_
  refine sw_iconst 18 C dX7_rankIn_18 0 (by decide) ?_
  refine sw_sipush 19 C dX7_rankIn_19 200 (by decide) ?_
  refine sw_callSIP 22 [] 3 C dX7_rankIn_22 (ct_X7_in l) wK_X7_in wM_X7_73 wT_X7_in wI_X7 hd_X7_in rfl ⟨rfl, rfl⟩ ⟨Nat.le_of_ble_eq_true rfl, Nat.le_of_ble_eq_true rfl⟩ rfl rfl rfl rfl ?_
  refine sw_if_ne 25 34 C dX7_rankIn_25 (by decide) (fun c_25 => ?_) (fun c_25 => ?_)
  rotate_left
  · exact by first | exact absurd c_25 (by rw [show inR (nI k) 0 200 = true from inR_nI 0 200 (Nat.zero_le _) hk (by decide)]; decide) | exact absurd (by rw [show inR (nI k) 0 200 = true from inR_nI 0 200 (Nat.zero_le _) hk (by decide)]; decide) c_25
  refine sw_iload_n 34 2 C dX7_rankIn_34 rfl rfl ?_
  refine sw_if_le 35 62 C dX7_rankIn_35 (by decide) (fun c_35 => ?_) (fun c_35 => ?_)
  · refine sw_aload_n 62 0 C dX7_rankIn_62 rfl rfl ?_
    refine sw_iload_n 63 3 C dX7_rankIn_63 rfl rfl ?_
    refine sw_iconst 64 C dX7_rankIn_64 3 (by decide) ?_
    refine sw_callVIP 65 [0, 1, 2, 3, 4, 5] 2 C dX7_rankIn_65 (ct_X7_ofE l hE i 2 rfl rfl hin (by decide) hO.n) wK_X7_of wM_X7_32 wN_X7_of wS_X7_X7_of wI_X7 hd_X7_of rfl rfl rfl ⟨rfl, rfl⟩ ⟨Nat.le_of_ble_eq_true rfl, Nat.le_of_ble_eq_true rfl⟩ rfl rfl rfl rfl ?_
    refine sw_istore 68 C dX7_rankIn_68 rfl ?_
    refine sw_aload_n 70 0 C dX7_rankIn_70 rfl rfl ?_
    refine sw_iload_n 71 3 C dX7_rankIn_71 rfl rfl ?_
    refine sw_iconst 72 C dX7_rankIn_72 5 (by decide) ?_
    refine sw_callVIP 73 [0, 1, 2, 3, 4, 5] 2 C dX7_rankIn_73 (ct_X7_ofE l hE i 4 rfl rfl hin (by decide) hO.n) wK_X7_of wM_X7_32 wN_X7_of wS_X7_X7_of wI_X7 hd_X7_of rfl rfl rfl ⟨rfl, rfl⟩ ⟨Nat.le_of_ble_eq_true rfl, Nat.le_of_ble_eq_true rfl⟩ rfl rfl rfl rfl ?_
    refine sw_istore 76 C dX7_rankIn_76 rfl ?_
    refine sw_loc (L1 := [(0, .ref _), (1, .int _), (2, .int _), (3, .int _), (4, .int _), (5, .int _)]) ?_ rfl
    refine sw_iconst 78 C dX7_rankIn_78 0 (by decide) ?_
    refine sw_istore 79 C dX7_rankIn_79 rfl ?_
    have hwk : 0 < k → w + k < b := fun h => absurd (show nI k ≤ 0 from c_35) (nI_nle h (by omega))
    rw [rkf_ok k hO hin h3 h5 hwb hb hwk]
    exact lp_X7_rankIn hE hO i w b k hin h3 h5 hwb hb hk hwk C RC (k + 1) 0 (Nat.zero_le _) (by omega) _ _ _ rfl rfl rfl
  · have hk0 : 0 < k := Nat.pos_of_ne_zero (fun e => c_35 (by rw [e]; decide))
    refine sw_aload_n 38 0 C dX7_rankIn_38 rfl rfl ?_
    refine sw_iload_n 39 3 C dX7_rankIn_39 rfl rfl ?_
    refine sw_iconst 40 C dX7_rankIn_40 4 (by decide) ?_
    refine sw_callVIP 41 [0, 1, 2, 3, 4, 5] 2 C dX7_rankIn_41 (ct_X7_ofE l hE i 3 rfl rfl hin (by decide) hO.n) wK_X7_of wM_X7_32 wN_X7_of wS_X7_X7_of wI_X7 hd_X7_of rfl rfl rfl ⟨rfl, rfl⟩ ⟨Nat.le_of_ble_eq_true rfl, Nat.le_of_ble_eq_true rfl⟩ rfl rfl rfl rfl ?_
    refine sw_iload_n 44 2 C dX7_rankIn_44 rfl rfl ?_
    refine sw_iadd 45 C dX7_rankIn_45 ?_
    refine sw_top (show zf S (i * 8 + 3) + nI k = nI (w + k) by rw [h3, nI_add]) ?_
    refine sw_aload_n 46 0 C dX7_rankIn_46 rfl rfl ?_
    refine sw_iload_n 47 3 C dX7_rankIn_47 rfl rfl ?_
    refine sw_bipush 48 C dX7_rankIn_48 6 (by decide) ?_
    refine sw_callVIP 50 [0, 1, 2, 3, 4, 5] 2 C dX7_rankIn_50 (ct_X7_ofE l hE i 5 rfl rfl hin (by decide) hO.n) wK_X7_of wM_X7_32 wN_X7_of wS_X7_X7_of wI_X7 hd_X7_of rfl rfl rfl ⟨rfl, rfl⟩ ⟨Nat.le_of_ble_eq_true rfl, Nat.le_of_ble_eq_true rfl⟩ rfl rfl rfl rfl ?_
    refine sw_top h5 ?_
    refine sw_icmp_lt 53 62 C dX7_rankIn_53 (by decide) (fun c_53 => ?_) (fun c_53 => ?_)
    · refine sw_aload_n 62 0 C dX7_rankIn_62 rfl rfl ?_
      refine sw_iload_n 63 3 C dX7_rankIn_63 rfl rfl ?_
      refine sw_iconst 64 C dX7_rankIn_64 3 (by decide) ?_
      refine sw_callVIP 65 [0, 1, 2, 3, 4, 5] 2 C dX7_rankIn_65 (ct_X7_ofE l hE i 2 rfl rfl hin (by decide) hO.n) wK_X7_of wM_X7_32 wN_X7_of wS_X7_X7_of wI_X7 hd_X7_of rfl rfl rfl ⟨rfl, rfl⟩ ⟨Nat.le_of_ble_eq_true rfl, Nat.le_of_ble_eq_true rfl⟩ rfl rfl rfl rfl ?_
      refine sw_istore 68 C dX7_rankIn_68 rfl ?_
      refine sw_aload_n 70 0 C dX7_rankIn_70 rfl rfl ?_
      refine sw_iload_n 71 3 C dX7_rankIn_71 rfl rfl ?_
      refine sw_iconst 72 C dX7_rankIn_72 5 (by decide) ?_
      refine sw_callVIP 73 [0, 1, 2, 3, 4, 5] 2 C dX7_rankIn_73 (ct_X7_ofE l hE i 4 rfl rfl hin (by decide) hO.n) wK_X7_of wM_X7_32 wN_X7_of wS_X7_X7_of wI_X7 hd_X7_of rfl rfl rfl ⟨rfl, rfl⟩ ⟨Nat.le_of_ble_eq_true rfl, Nat.le_of_ble_eq_true rfl⟩ rfl rfl rfl rfl ?_
      refine sw_istore 76 C dX7_rankIn_76 rfl ?_
      refine sw_loc (L1 := [(0, .ref _), (1, .int _), (2, .int _), (3, .int _), (4, .int _), (5, .int _)]) ?_ rfl
      refine sw_iconst 78 C dX7_rankIn_78 0 (by decide) ?_
      refine sw_istore 79 C dX7_rankIn_79 rfl ?_
      have hwk : 0 < k → w + k < b := fun _ => (nI_ltI (by omega) (by omega)).mp c_53
      rw [rkf_ok k hO hin h3 h5 hwb hb hwk]
      exact sw_loc (lp_X7_rankIn hE hO i w b k hin h3 h5 hwb hb hk hwk C RC (k + 1) 0 (Nat.zero_le _) (by omega) _ _ _ rfl rfl rfl) rfl
    · refine sw_aload_n 56 0 C dX7_rankIn_56 rfl rfl ?_
      refine sw_iconst 57 C dX7_rankIn_57 (-1) (by decide) ?_
      refine sw_callVI 58 [0, 1, 2, 3, 4, 5] 1 C dX7_rankIn_58 (ct_X7_tells l) wK_X7_tells wM_X7_70 wN_X7_tells wS_X7_X7_tells wI_X7 hd_X7_tells rfl rfl rfl ⟨rfl, rfl⟩ ⟨Nat.le_of_ble_eq_true rfl, Nat.le_of_ble_eq_true rfl⟩ rfl rfl rfl rfl rfl ?_
      refine sw_ws [(_, .inr (7, [.ref _, .ref _, .ref _, .int _, .int _, .ref _, .int _, .int _, .ref _, .long _])), (_, .inl (_, _, .inl _)), (_, .inl (_, _, .inl _)), (_, .inl (_, _, .inl _)), (_, .inl (_, _, .inl _)), (_, .inl (_, _, .inl _))] rfl ?_
      refine sw_iret 61 C RC dX7_rankIn_61 ?_
      have := nI_ge' (a := w + k) (b := b) (by omega) (Int32.not_lt.mp c_53) (by omega)
      exact ⟨by rw [rkf_exp k hO hin h3 h5 hb hwb hk0 this], rfl⟩
set_option maxHeartbeats 4000000 in
set_option maxRecDepth 100000 in
theorem ct_X7_rankIn_2 (l : Launch) {D : va_G} {cI cJ cQ : ClassId} {b0 b1 b2 b3 b4 b5 : Nat} {sa pa ad tx nb : Nat → Int32} {kp th ty ap : Int32} {hh : Int64} {S : StT} {B T : Nat} (hE : mE S sa) (hO : mO B T S) {x1 x2 : Int32} (hi : fnd (zf S) x1 (zn S) = none) : Ct l yX7_rankIn (Cond.code yX7_rankIn cX7_rankIn 8 (some .int)) 2 45 0 0 D (tyz cI cJ cQ) [.ref b0, .int x1, .int x2] [(b0, .inr (7, [.ref b1, .ref b2, .ref b3, .int (kp), .int (th), .ref b4, .int (ty), .int (ap), .ref b5, .long (hh)])), (b1, .inl (cI, 424, .inl (sa))), (b2, .inl (cI, 1696, .inl (pa))), (b3, .inl (cI, 424, .inl (ad))), (b4, .inl (cI, 100, .inl (tx))), (b5, .inl (cI, 4, .inl (nb)))] (pstI 0 [(b0, .inr (7, [.ref b1, .ref b2, .ref b3, .int (kp), .int (1), .ref b4, .int (ty), .int (ap), .ref b5, .long (hh)])), (b1, .inl (cI, 424, .inl (sa))), (b2, .inl (cI, 1696, .inl (pa))), (b3, .inl (cI, 424, .inl (ad))), (b4, .inl (cI, 100, .inl (tx))), (b5, .inl (cI, 4, .inl (nb)))]) := by
  refine Ct.of RX7 (by decide) rfl (Nat.le_of_ble_eq_true rfl) ?_
  intro p e s m below meth c A C RC
  refine sw_aload_n 0 0 C dX7_rankIn_0 rfl rfl ?_
  refine sw_iload_n 1 1 C dX7_rankIn_1 rfl rfl ?_
  refine sw_callVIP 2 [0, 1, 2, 3, 4, 5] 1 C dX7_rankIn_2 (ct_X7_find l hE hO) wK_X7_find wM_X7_100 wN_X7_find wS_X7_X7_find wI_X7 hd_X7_find rfl rfl rfl ⟨rfl, rfl⟩ ⟨Nat.le_of_ble_eq_true rfl, Nat.le_of_ble_eq_true rfl⟩ rfl rfl rfl rfl ?_
  rw [hi]
  refine sw_istore_n 5 3 C dX7_rankIn_5 rfl rfl ?_
  refine sw_iload_n 6 3 C dX7_rankIn_6 rfl rfl ?_
  refine sw_iconst 7 C dX7_rankIn_7 (-1) (by decide) ?_
  refine sw_icmp_ne 8 17 C dX7_rankIn_8 (by decide) (fun c_8 => ?_) (fun c_8 => ?_)
  · exact by first | exact absurd c_8 (fun q => q rfl) | exact absurd (fun q => q rfl) c_8
  refine sw_aload_n 11 0 C dX7_rankIn_11 rfl rfl ?_
  refine sw_iconst 12 C dX7_rankIn_12 1 (by decide) ?_
  refine sw_callVI 13 [0, 1, 2, 3, 4, 5] 1 C dX7_rankIn_13 (ct_X7_fails l) wK_X7_fails wM_X7_77 wN_X7_fails wS_X7_X7_fails wI_X7 hd_X7_fails rfl rfl rfl ⟨rfl, rfl⟩ ⟨Nat.le_of_ble_eq_true rfl, Nat.le_of_ble_eq_true rfl⟩ rfl rfl rfl rfl rfl ?_
  refine sw_ws [(_, .inr (7, [.ref _, .ref _, .ref _, .int _, .int _, .ref _, .int _, .int _, .ref _, .long _])), (_, .inl (_, _, .inl _)), (_, .inl (_, _, .inl _)), (_, .inl (_, _, .inl _)), (_, .inl (_, _, .inl _)), (_, .inl (_, _, .inl _))] rfl ?_
  refine sw_iret 16 C RC dX7_rankIn_16 ?_
  exact ⟨rfl, rfl⟩
set_option maxHeartbeats 4000000 in
set_option maxRecDepth 100000 in
theorem ct_X7_rankIn_3 (l : Launch) {D : va_G} {cI cJ cQ : ClassId} {b0 b1 b2 b3 b4 b5 : Nat} {sa pa ad tx nb : Nat → Int32} {kp th ty ap : Int32} {hh : Int64} {S : StT} {B T : Nat} (hE : mE S sa) (hO : mO B T S) {x1 x2 : Int32} (i : Nat) (hi : fnd (zf S) x1 (zn S) = some i) (hx : inR x2 0 200 = false) : Ct l yX7_rankIn (Cond.code yX7_rankIn cX7_rankIn 8 (some .int)) 2 45 0 0 D (tyz cI cJ cQ) [.ref b0, .int x1, .int x2] [(b0, .inr (7, [.ref b1, .ref b2, .ref b3, .int (kp), .int (th), .ref b4, .int (ty), .int (ap), .ref b5, .long (hh)])), (b1, .inl (cI, 424, .inl (sa))), (b2, .inl (cI, 1696, .inl (pa))), (b3, .inl (cI, 424, .inl (ad))), (b4, .inl (cI, 100, .inl (tx))), (b5, .inl (cI, 4, .inl (nb)))] (pstI 0 [(b0, .inr (7, [.ref b1, .ref b2, .ref b3, .int (kp), .int (2), .ref b4, .int (ty), .int (ap), .ref b5, .long (hh)])), (b1, .inl (cI, 424, .inl (sa))), (b2, .inl (cI, 1696, .inl (pa))), (b3, .inl (cI, 424, .inl (ad))), (b4, .inl (cI, 100, .inl (tx))), (b5, .inl (cI, 4, .inl (nb)))]) := by
  refine Ct.of RX7 (by decide) rfl (Nat.le_of_ble_eq_true rfl) ?_
  intro p e s m below meth c A C RC
  have hin := fnd_lt _ _ hi
  refine sw_aload_n 0 0 C dX7_rankIn_0 rfl rfl ?_
  refine sw_iload_n 1 1 C dX7_rankIn_1 rfl rfl ?_
  refine sw_callVIP 2 [0, 1, 2, 3, 4, 5] 1 C dX7_rankIn_2 (ct_X7_find l hE hO) wK_X7_find wM_X7_100 wN_X7_find wS_X7_X7_find wI_X7 hd_X7_find rfl rfl rfl ⟨rfl, rfl⟩ ⟨Nat.le_of_ble_eq_true rfl, Nat.le_of_ble_eq_true rfl⟩ rfl rfl rfl rfl ?_
  rw [hi]
  refine sw_istore_n 5 3 C dX7_rankIn_5 rfl rfl ?_
  refine sw_iload_n 6 3 C dX7_rankIn_6 rfl rfl ?_
  refine sw_iconst 7 C dX7_rankIn_7 (-1) (by decide) ?_
  refine sw_icmp_ne 8 17 C dX7_rankIn_8 (by decide) (fun c_8 => ?_) (fun c_8 => ?_)
  rotate_left
  · exact by first | exact absurd c_8 (i32_ne_m1 (by have := hO.n; omega)) | exact absurd (i32_ne_m1 (by have := hO.n; omega)) c_8
  refine sw_iload_n 17 2 C dX7_rankIn_17 rfl rfl ?_
  refine sw_iconst 18 C dX7_rankIn_18 0 (by decide) ?_
  refine sw_sipush 19 C dX7_rankIn_19 200 (by decide) ?_
  refine sw_callSIP 22 [] 3 C dX7_rankIn_22 (ct_X7_in l) wK_X7_in wM_X7_73 wT_X7_in wI_X7 hd_X7_in rfl ⟨rfl, rfl⟩ ⟨Nat.le_of_ble_eq_true rfl, Nat.le_of_ble_eq_true rfl⟩ rfl rfl rfl rfl ?_
  refine sw_if_ne 25 34 C dX7_rankIn_25 (by decide) (fun c_25 => ?_) (fun c_25 => ?_)
  · exact by first | exact absurd c_25 (fun q => q (by rw [hx]; rfl)) | exact absurd (fun q => q (by rw [hx]; rfl)) c_25
  refine sw_aload_n 28 0 C dX7_rankIn_28 rfl rfl ?_
  refine sw_iconst 29 C dX7_rankIn_29 2 (by decide) ?_
  refine sw_callVI 30 [0, 1, 2, 3, 4, 5] 1 C dX7_rankIn_30 (ct_X7_fails l) wK_X7_fails wM_X7_77 wN_X7_fails wS_X7_X7_fails wI_X7 hd_X7_fails rfl rfl rfl ⟨rfl, rfl⟩ ⟨Nat.le_of_ble_eq_true rfl, Nat.le_of_ble_eq_true rfl⟩ rfl rfl rfl rfl rfl ?_
  refine sw_ws [(_, .inr (7, [.ref _, .ref _, .ref _, .int _, .int _, .ref _, .int _, .int _, .ref _, .long _])), (_, .inl (_, _, .inl _)), (_, .inl (_, _, .inl _)), (_, .inl (_, _, .inl _)), (_, .inl (_, _, .inl _)), (_, .inl (_, _, .inl _))] rfl ?_
  refine sw_iret 33 C RC dX7_rankIn_33 ?_
  exact ⟨rfl, rfl⟩
theorem fex_pos {f : Nat → Int32} {n : Nat} {p : Int32} (h : nOK f n p) (hr : ∀ i, i < n → rOK f i) : ∀ i, i < n → 0 ≤ (fex f n (i + 1)).2
  | 0, hi => by
    have e : tel f n 0 7 < (fex f n 0).1 := by
      obtain ⟨w, b, h1, h2, h3, h4⟩ := (hr 0 hi).2.1
      show f (0 * 8 + 5) - f (0 * 8 + 3) < (201 : Int32)
      rw [h3, h4, pk_sub (by omega)]
      exact nI_lt (b := 201) (by omega) (by decide)
    rw [fex_t e]
    exact (h.1 0 hi).1
  | i + 1, hi => by
    by_cases e : tel f n (i + 1) 7 < (fex f n (i + 1)).1
    · rw [fex_t e]
      exact (h.1 (i + 1) hi).1
    · rw [fex_f e]
      exact fex_pos h hr i (by omega)
theorem fex_201 {f : Nat → Int32} {n i : Nat} (h : rOK f i) : tel f n i 7 < 201 := by
  obtain ⟨w, b, h1, h2, h3, h4⟩ := h.2.1
  show f (i * 8 + 5) - f (i * 8 + 3) < (201 : Int32)
  rw [h3, h4, pk_sub (by omega)]
  exact nI_lt (b := 201) (by omega) (by decide)
def fe1 (f : Nat → Int32) (n i : Nat) : Int32 := if i = 0 then 0 else (fex f n i).1
theorem fe_0 {B T : Nat} {S : StT} (hO : mO B T S) {i : Nat} (hi : i < zn S) (h : (fex (zf S) (zn S) i).2 = -1) : i = 0 := by
  cases i with
  | zero => rfl
  | succ i =>
    have := fex_pos hO.num hO.row i (by omega)
    rw [h] at this
    exact absurd this (by decide)
theorem fe_a {B T : Nat} {S : StT} (hO : mO B T S) {i : Nat} (hi : i < zn S) (h : (fex (zf S) (zn S) i).2 = -1) : (1 : Int32) = bI (decide (tel (zf S) (zn S) i 7 < (fex (zf S) (zn S) i).1)) := by
  obtain rfl := fe_0 hO hi h
  rw [decide_eq_true (show tel (zf S) (zn S) 0 7 < (fex (zf S) (zn S) 0).1 from fex_201 (hO.row 0 hi))]
  rfl
theorem fe_1 {f : Nat → Int32} {n i : Nat} (h : ¬ (fex f n i).2 = -1) : fe1 f n i = (fex f n i).1 := by
  unfold fe1
  rw [if_neg (fun e => h (by rw [e]; rfl))]
theorem fe_b {B T : Nat} {S : StT} (hO : mO B T S) {i : Nat} (hi : i < zn S) (h : ¬ (fex (zf S) (zn S) i).2 = -1) (h2 : fe1 (zf S) (zn S) i ≤ tel (zf S) (zn S) i 7) : (0 : Int32) = bI (decide (tel (zf S) (zn S) i 7 < (fex (zf S) (zn S) i).1)) := by
  rw [fe_1 h] at h2
  rw [decide_eq_false (Int32.not_lt.mpr h2)]
  rfl
theorem fe_c {B T : Nat} {S : StT} (hO : mO B T S) {i : Nat} (hi : i < zn S) (h : ¬ (fex (zf S) (zn S) i).2 = -1) (h2 : ¬ fe1 (zf S) (zn S) i ≤ tel (zf S) (zn S) i 7) : (1 : Int32) = bI (decide (tel (zf S) (zn S) i 7 < (fex (zf S) (zn S) i).1)) := by
  rw [fe_1 h] at h2
  rw [decide_eq_true (Int32.not_le.mp h2)]
  rfl
theorem fe_d {B T : Nat} {S : StT} (hO : mO B T S) {i : Nat} (hi : i < zn S) (h : ¬ tel (zf S) (zn S) i 7 < (fex (zf S) (zn S) i).1) : fe1 (zf S) (zn S) i = fe1 (zf S) (zn S) (i + 1) := by
  have h0 : i ≠ 0 := fun e => by
    subst e
    exact h (fex_201 (hO.row 0 hi))
  unfold fe1
  rw [if_neg h0, if_neg (by omega), fex_f h]
theorem fe_e {f : Nat → Int32} {n i : Nat} (h : tel f n i 7 < (fex f n i).1) : tel f n i 7 = fe1 f n (i + 1) := by
  unfold fe1
  rw [if_neg (by omega), fex_t h]
set_option maxHeartbeats 4000000 in
set_option maxRecDepth 100000 in
theorem lp_X7_firstToExpire {l : Launch} {p : Program} {e : Env} {s : State} {m : MethodId} {args : Array Value} {below : List Frame} {meth : Method} {c : Code} {A : Nat → Prop} {D : va_G} {cI cJ cQ : ClassId} {b0 b1 b2 b3 b4 b5 : Nat} {sa pa ad tx nb : Nat → Int32} {kp th ty ap : Int32} {hh : Int64} {S : StT} {B T : Nat} (hE : mE S sa) (hO : mO B T S) (C : CC p s m args c cX7_firstToExpire 6 RX7 (Cond.code yX7_firstToExpire cX7_firstToExpire 6 (some .int) :: lw_all) D (tyz cI cJ cQ) A s.heap) (RC : meth.sig.returnType = (some .int) ∧ meth.locks = false ∧ meth.name = yX7_firstToExpire.name) : ∀ (fu i : Nat), i ≤ zn S → zn S + 1 ≤ i + fu →  ∀ (xa : Int32) (xb : Int32) (xi : Int32), (xa = (fex (zf S) (zn S) i).2) → (xb = fe1 (zf S) (zn S) i) → (xi = nI i) →  sw p l e ({ frames := 4, cells := 0, slots := 0, locals := 90 } : Room) s m args below meth c D A s.heap 6 0 0 (MQ below (ctQ D (tyz cI cJ cQ) A ((pstI ((fex (zf S) (zn S) (zn S)).2) [(b0, .inr (7, [.ref b1, .ref b2, .ref b3, .int (kp), .int (0), .ref b4, .int (ty), .int (ap), .ref b5, .long (hh)])), (b1, .inl (cI, 424, .inl (sa))), (b2, .inl (cI, 1696, .inl (pa))), (b3, .inl (cI, 424, .inl (ad))), (b4, .inl (cI, 100, .inl (tx))), (b5, .inl (cI, 4, .inl (nb)))]))) args s 0 0 A) [(b0, .inr (7, [.ref b1, .ref b2, .ref b3, .int (kp), .int (th), .ref b4, .int (ty), .int (ap), .ref b5, .long (hh)])), (b1, .inl (cI, 424, .inl (sa))), (b2, .inl (cI, 1696, .inl (pa))), (b3, .inl (cI, 424, .inl (ad))), (b4, .inl (cI, 100, .inl (tx))), (b5, .inl (cI, 4, .inl (nb)))] 6 [(0, .ref b0), (1, .int xa), (2, .int xb), (3, .int xi)] [] := by
  intro fu
  induction fu with
  | zero => intro i h1 h2; exact absurd h2 (by omega)
  | succ fu ih =>
    intro i hi hf  xa xb xi exa exb exi
    subst exa exb exi
    refine sw_iload_n 6 3 C dX7_firstToExpire_6 rfl rfl ?_
    refine sw_aload_n 7 0 C dX7_firstToExpire_7 rfl rfl ?_
    refine sw_get 8 0 0 C dX7_firstToExpire_8 rfl rfl (inA lwX7) (C.w wF_X7_7) rfl rfl rfl ?_
    refine sw_iconst 11 C dX7_firstToExpire_11 1 (by decide) ?_
    refine sw_ialdN 12 1 0 (1) C dX7_firstToExpire_12 rfl (by decide) rfl rfl rfl ?_
    refine sw_top (hE.n) ?_
    refine sw_icmp_ge 13 77 C dX7_firstToExpire_13 (by decide) (fun c_13 => ?_) (fun c_13 => ?_)
    · obtain hz : i = zn S := by
        have := nI_ge' (by have := hO.n; omega) c_13 (by have := hO.n; omega)
        omega
      refine sw_aload_n 77 0 C dX7_firstToExpire_77 rfl rfl ?_
      refine sw_iload_n 78 1 C dX7_firstToExpire_78 rfl rfl ?_
      refine sw_callVI 79 [0, 1, 2, 3, 4, 5] 1 C dX7_firstToExpire_79 (ct_X7_tells l) wK_X7_tells wM_X7_70 wN_X7_tells wS_X7_X7_tells wI_X7 hd_X7_tells rfl rfl rfl ⟨rfl, rfl⟩ ⟨Nat.le_of_ble_eq_true rfl, Nat.le_of_ble_eq_true rfl⟩ rfl rfl rfl rfl rfl ?_
      refine sw_ws [(_, .inr (7, [.ref _, .ref _, .ref _, .int _, .int _, .ref _, .int _, .int _, .ref _, .long _])), (_, .inl (_, _, .inl _)), (_, .inl (_, _, .inl _)), (_, .inl (_, _, .inl _)), (_, .inl (_, _, .inl _)), (_, .inl (_, _, .inl _))] rfl ?_
      refine sw_iret 82 C RC dX7_firstToExpire_82 ?_
      exact ⟨by rw [← hz], rfl⟩
    · have hlt : i < zn S := by
        rcases Nat.lt_or_ge i (zn S) with q | q
        · exact q
        · exact absurd (nI_le q (by have := hO.n; omega)) c_13
      refine sw_aload_n 16 0 C dX7_firstToExpire_16 rfl rfl ?_
      refine sw_iload_n 17 3 C dX7_firstToExpire_17 rfl rfl ?_
      refine sw_bipush 18 C dX7_firstToExpire_18 7 (by decide) ?_
      refine sw_callVIP 20 [0, 1, 2, 3, 4, 5] 2 C dX7_firstToExpire_20 (ct_X7_told l hE hO i 7 rfl rfl hlt (by decide)) wK_X7_told wM_X7_110 wN_X7_told wS_X7_X7_told wI_X7 hd_X7_told rfl rfl rfl ⟨rfl, rfl⟩ ⟨Nat.le_of_ble_eq_true rfl, Nat.le_of_ble_eq_true rfl⟩ rfl rfl rfl rfl ?_
      refine sw_istore 23 C dX7_firstToExpire_23 rfl ?_
      refine sw_iload_n 25 1 C dX7_firstToExpire_25 rfl rfl ?_
      refine sw_iconst 26 C dX7_firstToExpire_26 (-1) (by decide) ?_
      refine sw_jn2 41 (bI (decide (tel (zf S) (zn S) i 7 < (fex (zf S) (zn S) i).1))) (fun hj_27 => ?_) ?_
      · refine sw_icmp_eq 27 36 C dX7_firstToExpire_27 (by decide) (fun c_27 => ?_) (fun c_27 => ?_)
        · refine sw_iconst 36 C dX7_firstToExpire_36 1 (by decide) ?_
          refine sw_goto 37 41 C dX7_firstToExpire_37 (by decide) ?_
          exact sw_top (fe_a hO hlt c_27) hj_27
        · refine sw_iload 30 C dX7_firstToExpire_30 rfl ?_
          refine sw_iload_n 32 2 C dX7_firstToExpire_32 rfl rfl ?_
          refine sw_icmp_ge 33 40 C dX7_firstToExpire_33 (by decide) (fun c_33 => ?_) (fun c_33 => ?_)
          · refine sw_iconst 40 C dX7_firstToExpire_40 0 (by decide) ?_
            exact sw_top (fe_b hO hlt c_27 c_33) hj_27
          · refine sw_iconst 36 C dX7_firstToExpire_36 1 (by decide) ?_
            refine sw_goto 37 41 C dX7_firstToExpire_37 (by decide) ?_
            exact sw_top (fe_c hO hlt c_27 c_33) hj_27
      refine sw_istore 41 C dX7_firstToExpire_41 rfl ?_
      refine sw_loc (L1 := [(0, .ref _), (1, .int _), (2, .int _), (3, .int _), (4, .int _), (5, .int _)]) ?_ rfl
      refine sw_iload 43 C dX7_firstToExpire_43 rfl ?_
      refine sw_jn1 58 ((fex (zf S) (zn S) (i + 1)).2) (fun hj_45 => ?_) ?_
      · refine sw_if_eq 45 57 C dX7_firstToExpire_45 (by decide) (fun c_45 => ?_) (fun c_45 => ?_)
        · refine sw_iload_n 57 1 C dX7_firstToExpire_57 rfl rfl ?_
          exact sw_top (by rw [fex_f (of_decide_eq_false (bI_f c_45))]) hj_45
        · refine sw_aload_n 48 0 C dX7_firstToExpire_48 rfl rfl ?_
          refine sw_iload_n 49 3 C dX7_firstToExpire_49 rfl rfl ?_
          refine sw_iconst 50 C dX7_firstToExpire_50 0 (by decide) ?_
          refine sw_callVIP 51 [0, 1, 2, 3, 4, 5] 2 C dX7_firstToExpire_51 (ct_X7_ofE l hE i 7 rfl rfl hlt (by decide) hO.n) wK_X7_of wM_X7_32 wN_X7_of wS_X7_X7_of wI_X7 hd_X7_of rfl rfl rfl ⟨rfl, rfl⟩ ⟨Nat.le_of_ble_eq_true rfl, Nat.le_of_ble_eq_true rfl⟩ rfl rfl rfl rfl ?_
          refine sw_goto 54 58 C dX7_firstToExpire_54 (by decide) ?_
          exact sw_top (by rw [fex_t (of_decide_eq_true (bI_t c_45))]) hj_45
      refine sw_istore_n 58 1 C dX7_firstToExpire_58 rfl rfl ?_
      refine sw_iload 59 C dX7_firstToExpire_59 rfl ?_
      refine sw_jn1 70 (fe1 (zf S) (zn S) (i + 1)) (fun hj_61 => ?_) ?_
      · refine sw_if_eq 61 69 C dX7_firstToExpire_61 (by decide) (fun c_61 => ?_) (fun c_61 => ?_)
        · refine sw_iload_n 69 2 C dX7_firstToExpire_69 rfl rfl ?_
          exact sw_top (fe_d hO hlt (of_decide_eq_false (bI_f c_61))) hj_61
        · refine sw_iload 64 C dX7_firstToExpire_64 rfl ?_
          refine sw_goto 66 70 C dX7_firstToExpire_66 (by decide) ?_
          exact sw_top (fe_e (of_decide_eq_true (bI_t c_61))) hj_61
      refine sw_istore_n 70 2 C dX7_firstToExpire_70 rfl rfl ?_
      refine sw_loc (L1 := [(0, .ref _), (1, .int _), (2, .int _), (3, .int _), (4, .int _), (5, .int _)]) ?_ rfl
      refine sw_iinc 71 C 1 dX7_firstToExpire_71 (by decide) rfl rfl ?_
      refine sw_goto 74 6 C dX7_firstToExpire_74 (by decide) ?_
      exact sw_loc (ih (i + 1) (by omega) (by omega) _ _ _ rfl rfl (nI_1 i)) rfl
set_option maxHeartbeats 4000000 in
set_option maxRecDepth 100000 in
theorem ct_X7_firstToExpire (l : Launch) {D : va_G} {cI cJ cQ : ClassId} {b0 b1 b2 b3 b4 b5 : Nat} {sa pa ad tx nb : Nat → Int32} {kp th ty ap : Int32} {hh : Int64} {S : StT} {B T : Nat} (hE : mE S sa) (hO : mO B T S) : Ct l yX7_firstToExpire (Cond.code yX7_firstToExpire cX7_firstToExpire 6 (some .int)) 4 90 0 0 D (tyz cI cJ cQ) [.ref b0] [(b0, .inr (7, [.ref b1, .ref b2, .ref b3, .int (kp), .int (th), .ref b4, .int (ty), .int (ap), .ref b5, .long (hh)])), (b1, .inl (cI, 424, .inl (sa))), (b2, .inl (cI, 1696, .inl (pa))), (b3, .inl (cI, 424, .inl (ad))), (b4, .inl (cI, 100, .inl (tx))), (b5, .inl (cI, 4, .inl (nb)))] (pstI ((fex (zf S) (zn S) (zn S)).2) [(b0, .inr (7, [.ref b1, .ref b2, .ref b3, .int (kp), .int (0), .ref b4, .int (ty), .int (ap), .ref b5, .long (hh)])), (b1, .inl (cI, 424, .inl (sa))), (b2, .inl (cI, 1696, .inl (pa))), (b3, .inl (cI, 424, .inl (ad))), (b4, .inl (cI, 100, .inl (tx))), (b5, .inl (cI, 4, .inl (nb)))]) := by
  refine Ct.of RX7 (by decide) rfl (Nat.le_of_ble_eq_true rfl) ?_
  intro p e s m below meth c A C RC
  refine sw_iconst 0 C dX7_firstToExpire_0 (-1) (by decide) ?_
  refine sw_istore_n 1 1 C dX7_firstToExpire_1 rfl rfl ?_
  refine sw_iconst 2 C dX7_firstToExpire_2 0 (by decide) ?_
  refine sw_istore_n 3 2 C dX7_firstToExpire_3 rfl rfl ?_
  refine sw_loc (L1 := [(0, .ref _), (1, .int _), (2, .int _)]) ?_ rfl
  refine sw_iconst 4 C dX7_firstToExpire_4 0 (by decide) ?_
  refine sw_istore_n 5 3 C dX7_firstToExpire_5 rfl rfl ?_
  exact lp_X7_firstToExpire hE hO C RC (zn S + 1) 0 (Nat.zero_le _) (by omega) _ _ _ rfl rfl rfl
theorem tgo_n_le : ∀ (u r : Nat) (S : StT), zn (tgo u r S).2 ≤ zn S
  | 0, r, S => Nat.le_refl _
  | u + 1, r, S => by
    cases hx : gexp (zf S) r with
    | true =>
      rw [tgo_x hx]
      have := tgo_n_le u r (leaveS (groS S r) r 1)
      have e : zn (leaveS (groS S r) r 1) = zn S - 1 := rfl
      show zn (tgo u r (leaveS (groS S r) r 1)).2 ≤ zn S
      omega
    | false =>
      rw [tgo_n hx]
      exact tgo_n_le u (r + 1) (groS S r)
theorem tick_n_le (S : StT) : zn (tick1 S).2 ≤ zn S := tgo_n_le _ _ (zt_ S (zt S + 1))
theorem srv_zn {S : StT} (h : 0 < zn S) : zn (srv S).2 = zn S - 1 := by
  obtain ⟨j, hj⟩ := frs_some (f := zf S) h
  rw [srv_lv hj]
  rfl
theorem tps_1 (S : StT) : (tps 1 S).2 = (tick1 S).2 := rfl
theorem fnd_pos {f : Nat → Int32} {x : Int32} {n i : Nat} (h : fnd f x n = some i) : 0 < n := by
  cases n with
  | zero => cases h
  | succ n => omega
set_option maxHeartbeats 4000000 in
set_option maxRecDepth 100000 in
theorem lp_X7_servedInE {l : Launch} {p : Program} {e : Env} {s : State} {m : MethodId} {args : Array Value} {below : List Frame} {meth : Method} {c : Code} {A : Nat → Prop} {D : va_G} {cI cJ cQ : ClassId} {b0 b1 b2 b3 b4 b5 : Nat} {sa pa ad tx nb : Nat → Int32} {kp th ty ap : Int32} {hh : Int64} {x Z i5 i6 : Int32} (C : CC p s m args c cX7_servedIn 7 RX7 (Cond.code yX7_servedIn cX7_servedIn 7 (some .int) :: lw_all) D (tyz cI cJ cQ) A s.heap) (RC : meth.sig.returnType = (some .int) ∧ meth.locks = false ∧ meth.name = yX7_servedIn.name) (j : Nat) : sw p l e ({ frames := 5, cells := 0, slots := 0, locals := 112 } : Room) s m args below meth c D A s.heap 7 0 0 (MQ below (ctQ D (tyz cI cJ cQ) A (pstI Z [(b0, .inr (7, [.ref b1, .ref b2, .ref b3, .int (kp), .int (0), .ref b4, .int (ty), .int (ap), .ref b5, .long (hh)])), (b1, .inl (cI, 424, .inl (ad))), (b2, .inl (cI, 1696, .inl (pa))), (b3, .inl (cI, 424, .inl (ad))), (b4, .inl (cI, 100, .inl (tx))), (b5, .inl (cI, 4, .inl (nb)))])) args s 0 0 A) [(b0, .inr (7, [.ref b1, .ref b2, .ref b3, .int (kp), .int (th), .ref b4, .int (ty), .int (ap), .ref b5, .long (hh)])), (b1, .inl (cI, 424, .inl (sa))), (b2, .inl (cI, 1696, .inl (pa))), (b3, .inl (cI, 424, .inl (ad))), (b4, .inl (cI, 100, .inl (tx))), (b5, .inl (cI, 4, .inl (nb)))] 26 [(0, .ref b0), (1, .int x), (2, .int (nI j)), (3, .int Z), (4, .int 0), (5, .int i5), (6, .int i6)] [] := by
  refine sw_iload 26 C dX7_servedIn_26 rfl ?_
  refine sw_if_eq 28 104 C dX7_servedIn_28 (by decide) (fun c_28 => ?_) (fun c_28 => ?_)
  rotate_left
  · exact by first | exact absurd c_28 (rfl) | exact absurd (rfl) c_28
  refine sw_aload_n 104 0 C dX7_servedIn_104 rfl rfl ?_
  refine sw_callVV 105 [0, 1, 2, 3, 4, 5] 0 C dX7_servedIn_105 (ct_X7_bringsBack l) wK_X7_bringsBack wM_X7_125 wN_X7_bringsBack wS_X7_X7_bringsBack wI_X7 hd_X7_bringsBack rfl rfl rfl ⟨rfl, rfl⟩ ⟨Nat.le_of_ble_eq_true rfl, Nat.le_of_ble_eq_true rfl⟩ rfl rfl rfl rfl rfl ?_
  refine sw_ws [(_, .inr (7, [.ref _, .ref _, .ref _, .int _, .int _, .ref _, .int _, .int _, .ref _, .long _])), (_, .inl (_, _, .inl _)), (_, .inl (_, _, .inl _)), (_, .inl (_, _, .inl _)), (_, .inl (_, _, .inl _)), (_, .inl (_, _, .inl _))] rfl ?_
  refine sw_aload_n 108 0 C dX7_servedIn_108 rfl rfl ?_
  refine sw_iload_n 109 3 C dX7_servedIn_109 rfl rfl ?_
  refine sw_callVI 110 [0, 1, 2, 3, 4, 5] 1 C dX7_servedIn_110 (ct_X7_tells l) wK_X7_tells wM_X7_70 wN_X7_tells wS_X7_X7_tells wI_X7 hd_X7_tells rfl rfl rfl ⟨rfl, rfl⟩ ⟨Nat.le_of_ble_eq_true rfl, Nat.le_of_ble_eq_true rfl⟩ rfl rfl rfl rfl rfl ?_
  refine sw_ws [(_, .inr (7, [.ref _, .ref _, .ref _, .int _, .int _, .ref _, .int _, .int _, .ref _, .long _])), (_, .inl (_, _, .inl _)), (_, .inl (_, _, .inl _)), (_, .inl (_, _, .inl _)), (_, .inl (_, _, .inl _)), (_, .inl (_, _, .inl _))] rfl ?_
  refine sw_iret 113 C RC dX7_servedIn_113 ?_
  exact ⟨rfl, rfl⟩
set_option maxHeartbeats 4000000 in
set_option maxRecDepth 100000 in
theorem lp_X7_servedIn {l : Launch} {p : Program} {e : Env} {s : State} {m : MethodId} {args : Array Value} {below : List Frame} {meth : Method} {c : Code} {A : Nat → Prop} {D : va_G} {cI cJ cQ : ClassId} {b0 b1 b2 b3 b4 b5 : Nat} {pa ad tx nb : Nat → Int32} {kp th ty ap : Int32} {hh : Int64} {B T : Nat} {x Z : Int32} (C : CC p s m args c cX7_servedIn 7 RX7 (Cond.code yX7_servedIn cX7_servedIn 7 (some .int) :: lw_all) D (tyz cI cJ cQ) A s.heap) (RC : meth.sig.returnType = (some .int) ∧ meth.locks = false ∧ meth.name = yX7_servedIn.name) : ∀ (u j : Nat) (T0 : StT) (sa : Nat → Int32), mO B (T + j) T0 → mE T0 sa → zn T0 ≤ u → u + j = 40 → ¬ fnd (zf T0) x (zn T0) = none → (svf x u j T0).1 = Z → sw p l e ({ frames := 5, cells := 0, slots := 0, locals := 112 } : Room) s m args below meth c D A s.heap 7 0 0 (MQ below (ctQ D (tyz cI cJ cQ) A (pstI Z [(b0, .inr (7, [.ref b1, .ref b2, .ref b3, .int (kp), .int (0), .ref b4, .int (ty), .int (ap), .ref b5, .long (hh)])), (b1, .inl (cI, 424, .inl (ad))), (b2, .inl (cI, 1696, .inl (pa))), (b3, .inl (cI, 424, .inl (ad))), (b4, .inl (cI, 100, .inl (tx))), (b5, .inl (cI, 4, .inl (nb)))])) args s 0 0 A) [(b0, .inr (7, [.ref b1, .ref b2, .ref b3, .int (kp), .int (th), .ref b4, .int (ty), .int (ap), .ref b5, .long (hh)])), (b1, .inl (cI, 424, .inl (sa))), (b2, .inl (cI, 1696, .inl (pa))), (b3, .inl (cI, 424, .inl (ad))), (b4, .inl (cI, 100, .inl (tx))), (b5, .inl (cI, 4, .inl (nb)))] 26 [(0, .ref b0), (1, .int x), (2, .int (nI j)), (3, .int (-1)), (4, .int 1)] [] := by
  intro u
  induction u with
  | zero =>
    intro j T0 sa hO hE hn hj hf hz
    exact absurd (show fnd (zf T0) x (zn T0) = none by rw [show zn T0 = 0 by omega]; rfl) hf
  | succ u ih =>
    intro j T0 sa hO hE hn hj hf hz
    have h0 : 0 < zn T0 := by
      cases hq : fnd (zf T0) x (zn T0) with
      | none => exact absurd hq hf
      | some i => exact fnd_pos hq
    refine sw_iload 26 C dX7_servedIn_26 rfl ?_
    refine sw_if_eq 28 104 C dX7_servedIn_28 (by decide) (fun c_28 => ?_) (fun c_28 => ?_)
    · exact by first | exact absurd c_28 (by decide) | exact absurd (by decide) c_28
    refine sw_aload_n 31 0 C dX7_servedIn_31 rfl rfl ?_
    refine sw_callVE 32 [0, 1, 2, 3, 4, 5] 0 C dX7_servedIn_32 (ct_X7_servesFirst l hE hO h0) wK_X7_servesFirst wM_X7_103 wN_X7_servesFirst wS_X7_X7_servesFirst wI_X7 hd_X7_servesFirst rfl rfl rfl ⟨rfl, rfl⟩ ⟨Nat.le_of_ble_eq_true rfl, Nat.le_of_ble_eq_true rfl⟩ rfl rfl rfl (fun _ => rfl) rfl (fun f1 h1 => ?_)
    refine sw_ws [(_, .inr (7, [.ref _, .ref _, .ref _, .int _, .int _, .ref _, .int _, .int _, .ref _, .long _])), (_, .inl (_, _, .inl _)), (_, .inl (_, _, .inl _)), (_, .inl (_, _, .inl _)), (_, .inl (_, _, .inl _)), (_, .inl (_, _, .inl _))] rfl ?_
    refine sw_iload_n 35 1 C dX7_servedIn_35 rfl rfl ?_
    refine sw_jn2 44 (bI (decide ((srv T0).1 = x))) (fun hj_36 => ?_) ?_
    · refine sw_icmp_ne 36 43 C dX7_servedIn_36 (by decide) (fun c_36 => ?_) (fun c_36 => ?_)
      · refine sw_iconst 43 C dX7_servedIn_43 0 (by decide) ?_
        exact sw_top (by rw [decide_eq_false c_36]; rfl) hj_36
      · refine sw_iconst 39 C dX7_servedIn_39 1 (by decide) ?_
        refine sw_goto 40 44 C dX7_servedIn_40 (by decide) ?_
        exact sw_top (by rw [decide_eq_true c_36]; rfl) hj_36
    refine sw_istore 44 C dX7_servedIn_44 rfl ?_
    by_cases hs : (srv T0).1 = x
    · refine sw_iload 46 C dX7_servedIn_46 rfl ?_
      refine sw_if_eq 48 55 C dX7_servedIn_48 (by decide) (fun c_48 => ?_) (fun c_48 => ?_)
      · exact by first | exact absurd c_48 (by rw [decide_eq_true hs]; decide) | exact absurd (by rw [decide_eq_true hs]; decide) c_48
      refine sw_iload_n 51 2 C dX7_servedIn_51 rfl rfl ?_
      refine sw_goto 52 56 C dX7_servedIn_52 (by decide) ?_
      refine sw_istore_n 56 3 C dX7_servedIn_56 rfl rfl ?_
      refine sw_iload 57 C dX7_servedIn_57 rfl ?_
      refine sw_if_eq 59 66 C dX7_servedIn_59 (by decide) (fun c_59 => ?_) (fun c_59 => ?_)
      · exact by first | exact absurd c_59 (by rw [decide_eq_true hs]; decide) | exact absurd (by rw [decide_eq_true hs]; decide) c_59
      refine sw_iconst 62 C dX7_servedIn_62 0 (by decide) ?_
      refine sw_goto 63 70 C dX7_servedIn_63 (by decide) ?_
      refine sw_istore 70 C dX7_servedIn_70 rfl ?_
      refine sw_loc (L1 := [(0, .ref _), (1, .int _), (2, .int _), (3, .int _), (4, .int _), (5, .int _), (6, .int _)]) ?_ rfl
      refine sw_iinc 72 C 1 dX7_servedIn_72 (by decide) rfl rfl ?_
      refine sw_iload 75 C dX7_servedIn_75 rfl ?_
      refine sw_if_ne 77 98 C dX7_servedIn_77 (by decide) (fun c_77 => ?_) (fun c_77 => ?_)
      rotate_left
      · exact by first | exact absurd c_77 (by rw [decide_eq_true hs]; decide) | exact absurd (by rw [decide_eq_true hs]; decide) c_77
      refine sw_iconst 98 C dX7_servedIn_98 0 (by decide) ?_
      refine sw_istore 99 C dX7_servedIn_99 rfl ?_
      refine sw_loc (L1 := [(0, .ref _), (1, .int _), (2, .int _), (3, .int _), (4, .int _), (5, .int _), (6, .int _)]) ?_ rfl
      refine sw_goto 101 26 C dX7_servedIn_101 (by decide) ?_
      obtain rfl : Z = nI j := by rw [← hz, svf_a hs]
      refine sw_loc (lp_X7_servedInE C RC (j + 1)) (by rw [← nI_1]; rfl)
    · refine sw_iload 46 C dX7_servedIn_46 rfl ?_
      refine sw_if_eq 48 55 C dX7_servedIn_48 (by decide) (fun c_48 => ?_) (fun c_48 => ?_)
      rotate_left
      · exact by first | exact absurd c_48 (by rw [decide_eq_false hs]; rfl) | exact absurd (by rw [decide_eq_false hs]; rfl) c_48
      refine sw_iload_n 55 3 C dX7_servedIn_55 rfl rfl ?_
      refine sw_istore_n 56 3 C dX7_servedIn_56 rfl rfl ?_
      refine sw_iload 57 C dX7_servedIn_57 rfl ?_
      refine sw_if_eq 59 66 C dX7_servedIn_59 (by decide) (fun c_59 => ?_) (fun c_59 => ?_)
      rotate_left
      · exact by first | exact absurd c_59 (by rw [decide_eq_false hs]; rfl) | exact absurd (by rw [decide_eq_false hs]; rfl) c_59
      refine sw_aload_n 66 0 C dX7_servedIn_66 rfl rfl ?_
      refine sw_callVE 67 [0, 1, 2, 3, 4, 5] 0 C dX7_servedIn_67 (ct_X7_tick l h1 (mO_srv hO)) wK_X7_tick wM_X7_63 wN_X7_tick wS_X7_X7_tick wI_X7 hd_X7_tick rfl rfl rfl ⟨rfl, rfl⟩ ⟨Nat.le_of_ble_eq_true rfl, Nat.le_of_ble_eq_true rfl⟩ rfl rfl rfl (fun _ => rfl) rfl (fun f2 h2 => ?_)
      refine sw_ws [(_, .inr (7, [.ref _, .ref _, .ref _, .int _, .int _, .ref _, .int _, .int _, .ref _, .long _])), (_, .inl (_, _, .inl _)), (_, .inl (_, _, .inl _)), (_, .inl (_, _, .inl _)), (_, .inl (_, _, .inl _)), (_, .inl (_, _, .inl _))] rfl ?_
      refine sw_istore 70 C dX7_servedIn_70 rfl ?_
      refine sw_loc (L1 := [(0, .ref _), (1, .int _), (2, .int _), (3, .int _), (4, .int _), (5, .int _), (6, .int _)]) ?_ rfl
      refine sw_iinc 72 C 1 dX7_servedIn_72 (by decide) rfl rfl ?_
      refine sw_iload 75 C dX7_servedIn_75 rfl ?_
      refine sw_if_ne 77 98 C dX7_servedIn_77 (by decide) (fun c_77 => ?_) (fun c_77 => ?_)
      · exact by first | exact absurd c_77 (fun q => q (by rw [decide_eq_false hs]; rfl)) | exact absurd (fun q => q (by rw [decide_eq_false hs]; rfl)) c_77
      refine sw_iload 80 C dX7_servedIn_80 rfl ?_
      refine sw_if_lt 82 98 C dX7_servedIn_82 (by decide) (fun c_82 => ?_) (fun c_82 => ?_)
      · exact by first | exact absurd c_82 (nI_pos (by have := tick_le _ (mO_srv hO).si; omega)) | exact absurd (nI_pos (by have := tick_le _ (mO_srv hO).si; omega)) c_82
      refine sw_aload_n 85 0 C dX7_servedIn_85 rfl rfl ?_
      refine sw_iload_n 86 1 C dX7_servedIn_86 rfl rfl ?_
      refine sw_callVIP 87 [0, 1, 2, 3, 4, 5] 1 C dX7_servedIn_87 (ct_X7_find l h2 (mO_tick (mO_srv hO))) wK_X7_find wM_X7_100 wN_X7_find wS_X7_X7_find wI_X7 hd_X7_find rfl rfl rfl ⟨rfl, rfl⟩ ⟨Nat.le_of_ble_eq_true rfl, Nat.le_of_ble_eq_true rfl⟩ rfl rfl rfl rfl ?_
      refine sw_iconst 90 C dX7_servedIn_90 (-1) (by decide) ?_
      refine sw_jn2 99 (bI (decide (¬ fnd (zf (tick1 (srv T0).2).2) x (zn (tick1 (srv T0).2).2) = none))) (fun hj_91 => ?_) ?_
      · refine sw_icmp_eq 91 98 C dX7_servedIn_91 (by decide) (fun c_91 => ?_) (fun c_91 => ?_)
        · refine sw_iconst 98 C dX7_servedIn_98 0 (by decide) ?_
          exact sw_top (by rw [decide_eq_false (fun q => q (oI_no (fun j hj => fnd_lt _ _ hj) (mO_tick (mO_srv hO)).n c_91))]; rfl) hj_91
        · refine sw_iconst 94 C dX7_servedIn_94 1 (by decide) ?_
          refine sw_goto 95 99 C dX7_servedIn_95 (by decide) ?_
          exact sw_top (by rw [decide_eq_true (p := ¬ fnd (zf (tick1 (srv T0).2).2) x (zn (tick1 (srv T0).2).2) = none) (fun q => c_91 (by rw [q]; rfl))]; rfl) hj_91
      refine sw_istore 99 C dX7_servedIn_99 rfl ?_
      refine sw_loc (L1 := [(0, .ref _), (1, .int _), (2, .int _), (3, .int _), (4, .int _), (5, .int _), (6, .int _)]) ?_ rfl
      refine sw_goto 101 26 C dX7_servedIn_101 (by decide) ?_
      by_cases hg : fnd (zf (tick1 (srv T0).2).2) x (zn (tick1 (srv T0).2).2) = none
      · obtain rfl : Z = -1 := by rw [← hz, svf_b hs hg]
        exact sw_loc (lp_X7_servedInE C RC (j + 1)) (by rw [← nI_1, decide_eq_false (fun q => q hg)]; rfl)
      · exact sw_loc (ih (j + 1) _ f2 (mO_tick (mO_srv hO)) h2 (by have := tick_n_le (srv T0).2; have := srv_zn h0; omega) (by omega) hg (by rw [← hz]; exact congrArg Prod.fst (svf_c hs hg).symm)) (by rw [← nI_1, decide_eq_true hg]; rfl)
set_option maxHeartbeats 4000000 in
set_option maxRecDepth 100000 in
theorem ct_X7_servedIn (l : Launch) {D : va_G} {cI cJ cQ : ClassId} {b0 b1 b2 b3 b4 b5 : Nat} {sa pa ad tx nb : Nat → Int32} {kp th ty ap : Int32} {hh : Int64} {S : StT} {B T : Nat} (hE : mE S sa) (hO : mO B T S) {x1 : Int32} (i : Nat) (hi : fnd (zf S) x1 (zn S) = some i) : Ct l yX7_servedIn (Cond.code yX7_servedIn cX7_servedIn 7 (some .int)) 5 112 0 0 D (tyz cI cJ cQ) [.ref b0, .int x1] [(b0, .inr (7, [.ref b1, .ref b2, .ref b3, .int (kp), .int (th), .ref b4, .int (ty), .int (ap), .ref b5, .long (hh)])), (b1, .inl (cI, 424, .inl (sa))), (b2, .inl (cI, 1696, .inl (pa))), (b3, .inl (cI, 424, .inl (ad))), (b4, .inl (cI, 100, .inl (tx))), (b5, .inl (cI, 4, .inl (nb)))] (pstI (svf x1 40 0 S).1 [(b0, .inr (7, [.ref b1, .ref b2, .ref b3, .int (kp), .int (0), .ref b4, .int (ty), .int (ap), .ref b5, .long (hh)])), (b1, .inl (cI, 424, .inl (sa))), (b2, .inl (cI, 1696, .inl (pa))), (b3, .inl (cI, 424, .inl (sa))), (b4, .inl (cI, 100, .inl (tx))), (b5, .inl (cI, 4, .inl (nb)))]) := by
  refine Ct.of RX7 (by decide) rfl (Nat.le_of_ble_eq_true rfl) ?_
  intro p e s m below meth c A C RC
  have hin := fnd_lt _ _ hi
  refine sw_aload_n 0 0 C dX7_servedIn_0 rfl rfl ?_
  refine sw_iload_n 1 1 C dX7_servedIn_1 rfl rfl ?_
  refine sw_callVIP 2 [0, 1, 2, 3, 4, 5] 1 C dX7_servedIn_2 (ct_X7_find l hE hO) wK_X7_find wM_X7_100 wN_X7_find wS_X7_X7_find wI_X7 hd_X7_find rfl rfl rfl ⟨rfl, rfl⟩ ⟨Nat.le_of_ble_eq_true rfl, Nat.le_of_ble_eq_true rfl⟩ rfl rfl rfl rfl ?_
  rw [hi]
  refine sw_iconst 5 C dX7_servedIn_5 (-1) (by decide) ?_
  refine sw_icmp_ne 6 15 C dX7_servedIn_6 (by decide) (fun c_6 => ?_) (fun c_6 => ?_)
  rotate_left
  · exact by first | exact absurd c_6 (i32_ne_m1 (by have := hO.n; omega)) | exact absurd (i32_ne_m1 (by have := hO.n; omega)) c_6
  refine sw_aload_n 15 0 C dX7_servedIn_15 rfl rfl ?_
  refine sw_callVV 16 [0, 1, 2, 3, 4, 5] 0 C dX7_servedIn_16 (ct_X7_laysAside l) wK_X7_laysAside wM_X7_122 wN_X7_laysAside wS_X7_X7_laysAside wI_X7 hd_X7_laysAside rfl rfl rfl ⟨rfl, rfl⟩ ⟨Nat.le_of_ble_eq_true rfl, Nat.le_of_ble_eq_true rfl⟩ rfl rfl rfl rfl rfl ?_
  refine sw_ws [(_, .inr (7, [.ref _, .ref _, .ref _, .int _, .int _, .ref _, .int _, .int _, .ref _, .long _])), (_, .inl (_, _, .inl _)), (_, .inl (_, _, .inl _)), (_, .inl (_, _, .inl _)), (_, .inl (_, _, .inl _)), (_, .inl (_, _, .inl _))] rfl ?_
  refine sw_iconst 19 C dX7_servedIn_19 0 (by decide) ?_
  refine sw_istore_n 20 2 C dX7_servedIn_20 rfl rfl ?_
  refine sw_iconst 21 C dX7_servedIn_21 (-1) (by decide) ?_
  refine sw_istore_n 22 3 C dX7_servedIn_22 rfl rfl ?_
  refine sw_loc (L1 := [(0, .ref _), (1, .int _), (2, .int _), (3, .int _)]) ?_ rfl
  refine sw_iconst 23 C dX7_servedIn_23 1 (by decide) ?_
  refine sw_istore 24 C dX7_servedIn_24 rfl ?_
  exact sw_loc (lp_X7_servedIn C RC 40 0 S sa hO hE hO.n rfl (by rw [hi]; exact fun q => by cases q) rfl) rfl
set_option maxHeartbeats 4000000 in
set_option maxRecDepth 100000 in
theorem ct_X7_servedIn_2 (l : Launch) {D : va_G} {cI cJ cQ : ClassId} {b0 b1 b2 b3 b4 b5 : Nat} {sa pa ad tx nb : Nat → Int32} {kp th ty ap : Int32} {hh : Int64} {S : StT} {B T : Nat} (hE : mE S sa) (hO : mO B T S) {x1 : Int32} (hi : fnd (zf S) x1 (zn S) = none) : Ct l yX7_servedIn (Cond.code yX7_servedIn cX7_servedIn 7 (some .int)) 5 112 0 0 D (tyz cI cJ cQ) [.ref b0, .int x1] [(b0, .inr (7, [.ref b1, .ref b2, .ref b3, .int (kp), .int (th), .ref b4, .int (ty), .int (ap), .ref b5, .long (hh)])), (b1, .inl (cI, 424, .inl (sa))), (b2, .inl (cI, 1696, .inl (pa))), (b3, .inl (cI, 424, .inl (ad))), (b4, .inl (cI, 100, .inl (tx))), (b5, .inl (cI, 4, .inl (nb)))] (pstI 0 [(b0, .inr (7, [.ref b1, .ref b2, .ref b3, .int (kp), .int (1), .ref b4, .int (ty), .int (ap), .ref b5, .long (hh)])), (b1, .inl (cI, 424, .inl (sa))), (b2, .inl (cI, 1696, .inl (pa))), (b3, .inl (cI, 424, .inl (ad))), (b4, .inl (cI, 100, .inl (tx))), (b5, .inl (cI, 4, .inl (nb)))]) := by
  refine Ct.of RX7 (by decide) rfl (Nat.le_of_ble_eq_true rfl) ?_
  intro p e s m below meth c A C RC
  refine sw_aload_n 0 0 C dX7_servedIn_0 rfl rfl ?_
  refine sw_iload_n 1 1 C dX7_servedIn_1 rfl rfl ?_
  refine sw_callVIP 2 [0, 1, 2, 3, 4, 5] 1 C dX7_servedIn_2 (ct_X7_find l hE hO) wK_X7_find wM_X7_100 wN_X7_find wS_X7_X7_find wI_X7 hd_X7_find rfl rfl rfl ⟨rfl, rfl⟩ ⟨Nat.le_of_ble_eq_true rfl, Nat.le_of_ble_eq_true rfl⟩ rfl rfl rfl rfl ?_
  rw [hi]
  refine sw_iconst 5 C dX7_servedIn_5 (-1) (by decide) ?_
  refine sw_icmp_ne 6 15 C dX7_servedIn_6 (by decide) (fun c_6 => ?_) (fun c_6 => ?_)
  · exact by first | exact absurd c_6 (fun q => q rfl) | exact absurd (fun q => q rfl) c_6
  refine sw_aload_n 9 0 C dX7_servedIn_9 rfl rfl ?_
  refine sw_iconst 10 C dX7_servedIn_10 1 (by decide) ?_
  refine sw_callVI 11 [0, 1, 2, 3, 4, 5] 1 C dX7_servedIn_11 (ct_X7_fails l) wK_X7_fails wM_X7_77 wN_X7_fails wS_X7_X7_fails wI_X7 hd_X7_fails rfl rfl rfl ⟨rfl, rfl⟩ ⟨Nat.le_of_ble_eq_true rfl, Nat.le_of_ble_eq_true rfl⟩ rfl rfl rfl rfl rfl ?_
  refine sw_ws [(_, .inr (7, [.ref _, .ref _, .ref _, .int _, .int _, .ref _, .int _, .int _, .ref _, .long _])), (_, .inl (_, _, .inl _)), (_, .inl (_, _, .inl _)), (_, .inl (_, _, .inl _)), (_, .inl (_, _, .inl _)), (_, .inl (_, _, .inl _))] rfl ?_
  refine sw_iret 14 C RC dX7_servedIn_14 ?_
  exact ⟨rfl, rfl⟩
