/-! what the ticks and servings do to a State -/
def zf_ (S : StT) (f : Nat → Int32) : StT := (S.1, S.2.1, S.2.2.1, f, S.2.2.2.2)
def zt_ (S : StT) (t : Int32) : StT := ((zq S, zg S, zv S, t, zp S, zk S), S.2)
def zv_ (S : StT) (v : Int32) : StT := ((zq S, zg S, v, zt S, zp S, zk S), S.2)
def leaveS (S : StT) (i w : Nat) : StT :=
  ((zq S, zg S, zv S, zt S, zp S, zk S + (zf S (i * 8 + 6) - gbk (zf S) (zg S) i w)), (zn S - 1, lgc (zl S)), zpat S, rmv (zf S) (zn S) i,
   lga (zlg S) (zf S (i * 8 + 7)) (nI w) (zf S (i * 8 + 3)) (gbk (zf S) (zg S) i w) (zf S (i * 8 + 2)), upd (zlv S) w (zlv S w + 1),
   upd (zbk S) (zf S (i * 8 + 0)).toNatClampNeg (zbk S (zf S (i * 8 + 0)).toNatClampNeg + gbk (zf S) (zg S) i w))
def groS (S : StT) (i : Nat) : StT := zf_ S (gro (zpat S) (zf S) i)
/-- the petitions from row r on, u of them, grow older: how many expire, and the State behind it -/
def tgo : Nat → Nat → StT → Nat × StT
  | 0, _, S => (0, S)
  | u + 1, r, S => if gexp (zf S) r = true then ((tgo u r (leaveS (groS S r) r 1)).1 + 1, (tgo u r (leaveS (groS S r) r 1)).2) else tgo u (r + 1) (groS S r)
def tick1 (S : StT) : Nat × StT := tgo (zn S) 0 (zt_ S (zt S + 1))
def tps : Nat → StT → Nat × StT
  | 0, S => (0, S)
  | k + 1, S => ((tps k S).1 + (tick1 (tps k S).2).1, (tick1 (tps k S).2).2)
/-- what the walks need of a State -/
def SI (S : StT) : Prop := zn S ≤ 40 ∧ zl S ≤ 16 ∧ ∀ i, i < zn S → okSd (zf S (i * 8 + 0))
theorem lgc_le {c : Nat} (h : c ≤ 16) : lgc c ≤ 16 := by
  unfold lgc
  split <;> omega
theorem upd_ne {f : Nat → Int32} {k j : Nat} {x : Int32} (h : j ≠ k) : upd f k x j = f j := pk_un h
theorem gro1_ne {f : Nat → Int32} {i j : Nat} (h : j ≠ i * 8 + 3) : gro1 f i j = f j := pk_un h
theorem gro_ne {pat f : Nat → Int32} {i j : Nat} (h2 : j ≠ i * 8 + 2) (h3 : j ≠ i * 8 + 3) (h4 : j ≠ i * 8 + 4) : gro pat f i j = f j := by
  unfold gro
  split
  · exact gro1_ne h3
  · split
    · rw [upd_ne h4, upd_ne h2, gro1_ne h3]
    · rw [upd_ne h4, gro1_ne h3]
theorem rmv_lo {f : Nat → Int32} {n i k c : Nat} (hk : k < i) (hc : c < 8) : rmv f n i (k * 8 + c) = f (k * 8 + c) := by
  unfold rmv va_cpy
  rw [if_neg (by omega)]
theorem rmv_hi {f : Nat → Int32} {n i k c : Nat} (hk : i ≤ k) (hn : k + 1 < n) (hc : c < 8) : rmv f n i (k * 8 + c) = f ((k + 1) * 8 + c) := by
  unfold rmv va_cpy
  rw [if_pos (by omega)]
  congr 1
  omega
theorem SI_gro {S : StT} {i : Nat} (h : SI S) : SI (groS S i) := ⟨h.1, h.2.1, fun j hj => by
  show okSd (gro (zpat S) (zf S) i (j * 8 + 0))
  rw [gro_ne (by omega) (by omega) (by omega)]
  exact h.2.2 j hj⟩
theorem SI_leave {S : StT} {i w : Nat} (h : SI S) : SI (leaveS S i w) := ⟨by have := h.1; show zn S - 1 ≤ 40; omega, lgc_le h.2.1, fun j hj => by
  have hj : j < zn S - 1 := hj
  show okSd (rmv (zf S) (zn S) i (j * 8 + 0))
  rcases Nat.lt_or_ge j i with q | q
  · rw [rmv_lo q (by omega)]
    exact h.2.2 j (by omega)
  · rw [rmv_hi q (by omega) (by omega)]
    exact h.2.2 (j + 1) (by omega)⟩
theorem SI_t {S : StT} {t : Int32} (h : SI S) : SI (zt_ S t) := h
theorem SI_v {S : StT} {t : Int32} (h : SI S) : SI (zv_ S t) := h
theorem tgo_x {u r : Nat} {S : StT} (h : gexp (zf S) r = true) : tgo (u + 1) r S = ((tgo u r (leaveS (groS S r) r 1)).1 + 1, (tgo u r (leaveS (groS S r) r 1)).2) := if_pos h
theorem tgo_n {u r : Nat} {S : StT} (h : gexp (zf S) r = false) : tgo (u + 1) r S = tgo u (r + 1) (groS S r) := if_neg (by rw [h]; decide)
theorem SI_tgo : ∀ (u r : Nat) (S : StT), SI S → SI (tgo u r S).2
  | 0, r, S, h => h
  | u + 1, r, S, h => by
    cases hx : gexp (zf S) r with
    | true =>
      rw [tgo_x hx]
      exact SI_tgo u r _ (SI_leave (SI_gro h))
    | false =>
      rw [tgo_n hx]
      exact SI_tgo u (r + 1) _ (SI_gro h)
theorem SI_tick {S : StT} (h : SI S) : SI (tick1 S).2 := SI_tgo _ _ _ (SI_t h)
theorem SI_tps {S : StT} (h : SI S) : ∀ k, SI (tps k S).2
  | 0 => h
  | k + 1 => SI_tick (SI_tps h k)
theorem tgo_le : ∀ (u r : Nat) (S : StT), (tgo u r S).1 ≤ u
  | 0, r, S => Nat.le_refl _
  | u + 1, r, S => by
    cases hx : gexp (zf S) r with
    | true =>
      rw [tgo_x hx]
      have := tgo_le u r (leaveS (groS S r) r 1)
      dsimp only
      omega
    | false =>
      rw [tgo_n hx]
      have := tgo_le u (r + 1) (groS S r)
      omega
def srv (S : StT) : Int32 × StT := match frs (zf S) (zn S) with
  | none => (-1, S)
  | some i => (zf S (i * 8 + 7), leaveS (zv_ S (zv S + zf S (i * 8 + 3))) i 0)
theorem srv_n {S : StT} (h : frs (zf S) (zn S) = none) : srv S = (-1, S) := by
  unfold srv
  rw [h]
theorem srv_s {S : StT} {i : Nat} (h : frs (zf S) (zn S) = some i) : srv S = (zf S (i * 8 + 7), leaveS (zv_ S (zv S + zf S (i * 8 + 3))) i 0) := by
  unfold srv
  rw [h]
theorem oI_none {f : Nat → Int32} {n : Nat} (hn : n ≤ 40) (h : oI (frs f n) = -1) : frs f n = none := by
  cases hq : frs f n with
  | none => rfl
  | some j =>
    rw [hq] at h
    exact absurd h (i32_ne_m1 (by have := frs_lt f n j hq; omega))
theorem oI_some {x : Option Nat} (h : ¬ oI x = -1) : ∃ j, x = some j := by
  cases x with
  | none => exact absurd rfl h
  | some j => exact ⟨j, rfl⟩
set_option maxHeartbeats 4000000 in
set_option maxRecDepth 100000 in
theorem lp_X4_letOneTickPass {l : Launch} {p : Program} {e : Env} {s : State} {m : MethodId} {args : Array Value} {below : List Frame} {meth : Method} {c : Code} {A : Nat → Prop} {D : va_G} {cI cJ cQ : ClassId} {a0 a1 a2 a3 a4 a5 a6 a7 : Nat} (C : CC p s m args c cX4_letOneTickPass 4 RX4 (Cond.code yX4_letOneTickPass cX4_letOneTickPass 4 (some .int) :: lw_all) D (tyz cI cJ cQ) A s.heap) (RC : meth.sig.returnType = (some .int) ∧ meth.locks = false ∧ meth.name = yX4_letOneTickPass.name) (N : Nat) (T0 : StT) : ∀ (u r z : Nat) (S : StT), SI S → r + u = zn S → z + (tgo u r S).1 = N → (tgo u r S).2 = T0 → sw p l e ({ frames := 3, cells := 0, slots := 0, locals := 71 } : Room) s m args below meth c D A s.heap 4 0 0 (MQ below (ctQ D (tyz cI cJ cQ) A (pstI (nI N) (wSt a0 a1 a2 a3 a4 a5 a6 a7 cI (T0)))) args s 0 0 A) (wSt a0 a1 a2 a3 a4 a5 a6 a7 cI S) 22 [(0, .ref a0), (1, .int (nI z)), (2, .int (nI r)), (3, .int (nI u))] [] := by
  intro u
  induction u with
  | zero =>
    intro r z S hS hr hz ht
    refine sw_iload_n 22 3 C dX4_letOneTickPass_22 rfl rfl ?_
    refine sw_if_le 23 56 C dX4_letOneTickPass_23 (by decide) (fun c_23 => ?_) (fun c_23 => ?_)
    rotate_left
    · exact by first | exact absurd c_23 (Int32.le_refl _) | exact absurd (Int32.le_refl _) c_23
    refine sw_iload_n 56 1 C dX4_letOneTickPass_56 rfl rfl ?_
    refine sw_iret 57 C RC dX4_letOneTickPass_57 ?_
    exact ⟨by rw [← hz]; rfl, by rw [← ht]; rfl⟩
  | succ u ih =>
    intro r z S hS hr hz ht
    have hn := hS.1
    have hrn : r < zn S := by omega
    refine sw_iload_n 22 3 C dX4_letOneTickPass_22 rfl rfl ?_
    refine sw_if_le 23 56 C dX4_letOneTickPass_23 (by decide) (fun c_23 => ?_) (fun c_23 => ?_)
    · exact by first | exact absurd c_23 (nI_nle (by omega) (by omega)) | exact absurd (nI_nle (by omega) (by omega)) c_23
    refine sw_aload_n 26 0 C dX4_letOneTickPass_26 rfl rfl ?_
    refine sw_iload_n 27 2 C dX4_letOneTickPass_27 rfl rfl ?_
    refine sw_callVI 28 [0, 1, 2, 3, 4, 5, 6, 7] 1 C dX4_letOneTickPass_28 (ct_X4_growOlder l r rfl hrn hn) wK_X4_growOlder wM_X4_116 wN_X4_growOlder wS_X4_X4_growOlder wI_X4 hd_X4_growOlder rfl rfl rfl ⟨rfl, rfl⟩ ⟨Nat.le_of_ble_eq_true rfl, Nat.le_of_ble_eq_true rfl⟩ rfl rfl rfl rfl rfl ?_
    refine sw_ws [(_, .inr (4, [.int _, .int _, .int _, .ref _, .ref _, .ref _, .int _, .int _, .int _, .ref _, .ref _])), (_, .inl (_, _, .inl _)), (_, .inr (2, [.int _, .ref _])), (_, .inl (_, _, .inl _)), (_, .inr (0, [.int _, .ref _])), (_, .inl (_, _, .inl _)), (_, .inl (_, _, .inl _)), (_, .inl (_, _, .inl _))] rfl ?_
    refine sw_if_eq 31 47 C dX4_letOneTickPass_31 (by decide) (fun c_31 => ?_) (fun c_31 => ?_)
    · have hx := bI_f c_31
      rw [tgo_n hx] at hz ht
      refine sw_iinc 47 C 1 dX4_letOneTickPass_47 (by decide) rfl rfl ?_
      refine sw_iinc 50 C (-1) dX4_letOneTickPass_50 (by decide) rfl rfl ?_
      refine sw_loc (L1 := [(0, .ref _), (1, .int _), (2, .int _), (3, .int _)]) ?_ rfl
      refine sw_goto 53 22 C dX4_letOneTickPass_53 (by decide) ?_
      refine sw_loc (L1 := [(0, .ref a0), (1, .int (nI z)), (2, .int (nI (r + 1))), (3, .int (nI u))]) ?_ (by rw [← nI_1, ← pk_m1 u]; rfl)
      exact ih (r + 1) z (groS S r) (SI_gro hS) (by show r + 1 + u = zn S; omega) hz ht
    · have hx := bI_t c_31
      rw [tgo_x hx] at hz ht
      refine sw_aload_n 34 0 C dX4_letOneTickPass_34 rfl rfl ?_
      refine sw_iload_n 35 2 C dX4_letOneTickPass_35 rfl rfl ?_
      refine sw_iconst 36 C dX4_letOneTickPass_36 1 (by decide) ?_
      refine sw_callVI 37 [0, 1, 2, 3, 4, 5, 6, 7] 2 C dX4_letOneTickPass_37 (ct_X4_letLeave l r 1 rfl rfl hrn (by decide) hn hS.2.1 ((SI_gro (i := r) hS).2.2 r hrn)) wK_X4_letLeave wM_X4_98 wN_X4_letLeave wS_X4_X4_letLeave wI_X4 hd_X4_letLeave rfl rfl rfl ⟨rfl, rfl⟩ ⟨Nat.le_of_ble_eq_true rfl, Nat.le_of_ble_eq_true rfl⟩ rfl rfl rfl rfl rfl ?_
      refine sw_ws [(_, .inr (4, [.int _, .int _, .int _, .ref _, .ref _, .ref _, .int _, .int _, .int _, .ref _, .ref _])), (_, .inl (_, _, .inl _)), (_, .inr (2, [.int _, .ref _])), (_, .inl (_, _, .inl _)), (_, .inr (0, [.int _, .ref _])), (_, .inl (_, _, .inl _)), (_, .inl (_, _, .inl _)), (_, .inl (_, _, .inl _))] rfl ?_
      refine sw_pop 40 C dX4_letOneTickPass_40 rfl ?_
      refine sw_iinc 41 C 1 dX4_letOneTickPass_41 (by decide) rfl rfl ?_
      refine sw_goto 44 50 C dX4_letOneTickPass_44 (by decide) ?_
      refine sw_iinc 50 C (-1) dX4_letOneTickPass_50 (by decide) rfl rfl ?_
      refine sw_loc (L1 := [(0, .ref _), (1, .int _), (2, .int _), (3, .int _)]) ?_ rfl
      refine sw_goto 53 22 C dX4_letOneTickPass_53 (by decide) ?_
      refine sw_loc (L1 := [(0, .ref a0), (1, .int (nI (z + 1))), (2, .int (nI r)), (3, .int (nI u))]) ?_ (by rw [← nI_1, ← pk_m1 u]; rfl)
      exact ih r (z + 1) (leaveS (groS S r) r 1) (SI_leave (SI_gro hS)) (by show r + u = zn S - 1; omega) (by rw [← hz]; dsimp only; omega) ht
set_option maxHeartbeats 4000000 in
set_option maxRecDepth 100000 in
theorem ct_X4_letOneTickPass (l : Launch) {D : va_G} {cI cJ cQ : ClassId} {a0 a1 a2 a3 a4 a5 a6 a7 : Nat} {S : StT} (hS : SI S) : Ct l yX4_letOneTickPass (Cond.code yX4_letOneTickPass cX4_letOneTickPass 4 (some .int)) 3 71 0 0 D (tyz cI cJ cQ) [.ref a0] (wSt a0 a1 a2 a3 a4 a5 a6 a7 cI S) (pstI (nI (tick1 S).1) (wSt a0 a1 a2 a3 a4 a5 a6 a7 cI ((tick1 S).2))) := by
  refine Ct.of RX4 (by decide) rfl (Nat.le_of_ble_eq_true rfl) ?_
  intro p e s m below meth c A C RC
  refine sw_aload_n 0 0 C dX4_letOneTickPass_0 rfl rfl ?_
  refine sw_dup 1 C dX4_letOneTickPass_1 rfl ?_
  refine sw_get 2 0 6 C dX4_letOneTickPass_2 rfl rfl (inA lwX4) (C.w wF_X4_45) rfl rfl rfl ?_
  refine sw_iconst 5 C dX4_letOneTickPass_5 1 (by decide) ?_
  refine sw_iadd 6 C dX4_letOneTickPass_6 ?_
  refine sw_put 7 0 6 tyX4 C dX4_letOneTickPass_7 rfl rfl (inA lwX4) tyX4_ok nmX4 (C.w wF_X4_45) rfl rfl rfl rfl rfl rfl rfl ?_
  refine sw_ws [(_, .inr (4, [.int _, .int _, .int _, .ref _, .ref _, .ref _, .int _, .int _, .int _, .ref _, .ref _])), (_, .inl (_, _, .inl _)), (_, .inr (2, [.int _, .ref _])), (_, .inl (_, _, .inl _)), (_, .inr (0, [.int _, .ref _])), (_, .inl (_, _, .inl _)), (_, .inl (_, _, .inl _)), (_, .inl (_, _, .inl _))] rfl ?_
  refine sw_iconst 10 C dX4_letOneTickPass_10 0 (by decide) ?_
  refine sw_istore_n 11 1 C dX4_letOneTickPass_11 rfl rfl ?_
  refine sw_iconst 12 C dX4_letOneTickPass_12 0 (by decide) ?_
  refine sw_istore_n 13 2 C dX4_letOneTickPass_13 rfl rfl ?_
  refine sw_loc (L1 := [(0, .ref _), (1, .int _), (2, .int _)]) ?_ rfl
  refine sw_aload_n 14 0 C dX4_letOneTickPass_14 rfl rfl ?_
  refine sw_get 15 0 4 C dX4_letOneTickPass_15 rfl rfl (inA lwX4) (C.w wF_X4_25) rfl rfl rfl ?_
  refine sw_get 18 2 0 C dX4_letOneTickPass_18 rfl rfl (inA lwX2) (C.w wF_X4_67) rfl rfl rfl ?_
  refine sw_istore_n 21 3 C dX4_letOneTickPass_21 rfl rfl ?_
  exact lp_X4_letOneTickPass C RC (tick1 S).1 (tick1 S).2 (zn S) 0 0 (zt_ S (zt S + 1)) (SI_t hS) (Nat.zero_add _) (Nat.zero_add _) rfl
set_option maxHeartbeats 4000000 in
set_option maxRecDepth 100000 in
theorem lp_X4_letPass {l : Launch} {p : Program} {e : Env} {s : State} {m : MethodId} {args : Array Value} {below : List Frame} {meth : Method} {c : Code} {A : Nat → Prop} {D : va_G} {cI cJ cQ : ClassId} {a0 a1 a2 a3 a4 a5 a6 a7 : Nat} {S : StT} {k : Nat} (hk : k ≤ 200) (hS : SI S) (C : CC p s m args c cX4_letPass 4 RX4 (Cond.code yX4_letPass cX4_letPass 4 (some .int) :: lw_all) D (tyz cI cJ cQ) A s.heap) (RC : meth.sig.returnType = (some .int) ∧ meth.locks = false ∧ meth.name = yX4_letPass.name) : ∀ (fu i : Nat), i ≤ k → k + 1 ≤ i + fu →  ∀ (xa : Int32) (xi : Int32), (xa = nI (tps i S).1) → (xi = nI i) →  sw p l e ({ frames := 4, cells := 0, slots := 0, locals := 94 } : Room) s m args below meth c D A s.heap 4 0 0 (MQ below (ctQ D (tyz cI cJ cQ) A (pstI (nI (tps k S).1) (wSt a0 a1 a2 a3 a4 a5 a6 a7 cI ((tps k S).2)))) args s 0 0 A) (wSt a0 a1 a2 a3 a4 a5 a6 a7 cI ((tps i S).2)) 4 [(0, .ref a0), (1, .int (nI k)), (2, .int xa), (3, .int xi)] [] := by
  intro fu
  induction fu with
  | zero => intro i h1 h2; exact absurd h2 (by omega)
  | succ fu ih =>
    intro i hi hf  xa xi exa exi
    subst exa exi
    refine sw_iload_n 4 3 C dX4_letPass_4 rfl rfl ?_
    refine sw_iload_n 5 1 C dX4_letPass_5 rfl rfl ?_
    refine sw_icmp_ge 6 22 C dX4_letPass_6 (by decide) (fun c_6 => ?_) (fun c_6 => ?_)
    · refine sw_iload_n 22 2 C dX4_letPass_22 rfl rfl ?_
      refine sw_iret 23 C RC dX4_letPass_23 ?_
      exact ⟨by rw [show i = k by have := nI_ge' (by omega) c_6 (by omega); omega], by rw [show i = k by have := nI_ge' (by omega) c_6 (by omega); omega]⟩
    · have hlt : i < k := by
        rcases Nat.lt_or_ge i k with q | q
        · exact q
        · exact absurd (nI_le q (by omega)) c_6
      refine sw_iload_n 9 2 C dX4_letPass_9 rfl rfl ?_
      refine sw_aload_n 10 0 C dX4_letPass_10 rfl rfl ?_
      refine sw_callVI 11 [0, 1, 2, 3, 4, 5, 6, 7] 0 C dX4_letPass_11 (ct_X4_letOneTickPass l (SI_tps hS i)) wK_X4_letOneTickPass wM_X4_113 wN_X4_letOneTickPass wS_X4_X4_letOneTickPass wI_X4 hd_X4_letOneTickPass rfl rfl rfl ⟨rfl, rfl⟩ ⟨Nat.le_of_ble_eq_true rfl, Nat.le_of_ble_eq_true rfl⟩ rfl rfl rfl rfl rfl ?_
      refine sw_ws [(_, .inr (4, [.int _, .int _, .int _, .ref _, .ref _, .ref _, .int _, .int _, .int _, .ref _, .ref _])), (_, .inl (_, _, .inl _)), (_, .inr (2, [.int _, .ref _])), (_, .inl (_, _, .inl _)), (_, .inr (0, [.int _, .ref _])), (_, .inl (_, _, .inl _)), (_, .inl (_, _, .inl _)), (_, .inl (_, _, .inl _))] rfl ?_
      refine sw_iadd 14 C dX4_letPass_14 ?_
      refine sw_istore_n 15 2 C dX4_letPass_15 rfl rfl ?_
      refine sw_iinc 16 C 1 dX4_letPass_16 (by decide) rfl rfl ?_
      refine sw_loc (L1 := [(0, .ref _), (1, .int _), (2, .int _), (3, .int _)]) ?_ rfl
      refine sw_goto 19 4 C dX4_letPass_19 (by decide) ?_
      exact sw_loc (ih (i + 1) (by omega) (by omega) _ _ (nI_add _ _) (nI_1 i)) rfl
set_option maxHeartbeats 4000000 in
set_option maxRecDepth 100000 in
theorem ct_X4_letPass (l : Launch) {D : va_G} {cI cJ cQ : ClassId} {a0 a1 a2 a3 a4 a5 a6 a7 : Nat} {S : StT} {x : Int32} (k : Nat) (h1 : x = nI k) (hk : k ≤ 200) (hS : SI S) : Ct l yX4_letPass (Cond.code yX4_letPass cX4_letPass 4 (some .int)) 4 94 0 0 D (tyz cI cJ cQ) [.ref a0, .int x] (wSt a0 a1 a2 a3 a4 a5 a6 a7 cI S) (pstI (nI (tps k S).1) (wSt a0 a1 a2 a3 a4 a5 a6 a7 cI ((tps k S).2))) := by
  refine Ct.of RX4 (by decide) rfl (Nat.le_of_ble_eq_true rfl) ?_
  intro p e s m below meth c A C RC
  subst h1
  refine sw_iconst 0 C dX4_letPass_0 0 (by decide) ?_
  refine sw_istore_n 1 2 C dX4_letPass_1 rfl rfl ?_
  refine sw_iconst 2 C dX4_letPass_2 0 (by decide) ?_
  refine sw_istore_n 3 3 C dX4_letPass_3 rfl rfl ?_
  exact lp_X4_letPass hk hS C RC (k + 1) 0 (Nat.zero_le _) (by omega) _ _ rfl rfl
set_option maxHeartbeats 4000000 in
set_option maxRecDepth 100000 in
theorem ct_X4_serveFirst (l : Launch) {D : va_G} {cI cJ cQ : ClassId} {a0 a1 a2 a3 a4 a5 a6 a7 : Nat} {S : StT} (hS : SI S) : Ct l yX4_serveFirst (Cond.code yX4_serveFirst cX4_serveFirst 3 (some .int)) 3 71 0 0 D (tyz cI cJ cQ) [.ref a0] (wSt a0 a1 a2 a3 a4 a5 a6 a7 cI S) (pstI (srv S).1 (wSt a0 a1 a2 a3 a4 a5 a6 a7 cI ((srv S).2))) := by
  refine Ct.of RX4 (by decide) rfl (Nat.le_of_ble_eq_true rfl) ?_
  intro p e s m below meth c A C RC
  refine sw_aload_n 0 0 C dX4_serveFirst_0 rfl rfl ?_
  refine sw_get 1 0 4 C dX4_serveFirst_1 rfl rfl (inA lwX4) (C.w wF_X4_25) rfl rfl rfl ?_
  refine sw_callVIP 4 [2, 3] 0 C dX4_serveFirst_4 (ct_X2_firstRow l hS.1) wK_X2_firstRow wM_X4_92 wN_X2_firstRow wS_X2_X2_firstRow wI_X2 hd_X2_firstRow rfl rfl rfl ⟨rfl, rfl⟩ ⟨Nat.le_of_ble_eq_true rfl, Nat.le_of_ble_eq_true rfl⟩ rfl rfl rfl rfl ?_
  refine sw_istore_n 7 1 C dX4_serveFirst_7 rfl rfl ?_
  refine sw_iload_n 8 1 C dX4_serveFirst_8 rfl rfl ?_
  refine sw_iconst 9 C dX4_serveFirst_9 (-1) (by decide) ?_
  refine sw_icmp_ne 10 15 C dX4_serveFirst_10 (by decide) (fun c_10 => ?_) (fun c_10 => ?_)
  · obtain ⟨i, hi⟩ := oI_some c_10
    have hin := frs_lt _ _ _ hi
    have hn := hS.1
    refine sw_aload_n 15 0 C dX4_serveFirst_15 rfl rfl ?_
    refine sw_get 16 0 4 C dX4_serveFirst_16 rfl rfl (inA lwX4) (C.w wF_X4_25) rfl rfl rfl ?_
    refine sw_iload_n 19 1 C dX4_serveFirst_19 rfl rfl ?_
    refine sw_bipush 20 C dX4_serveFirst_20 7 (by decide) ?_
    refine sw_callVIP 22 [2, 3] 2 C dX4_serveFirst_22 (ct_X2_at l i 7 (by rw [hi]; rfl) rfl hin (by decide) hn) wK_X2_at wM_X4_95 wN_X2_at wS_X2_X2_at wI_X2 hd_X2_at rfl rfl rfl ⟨rfl, rfl⟩ ⟨Nat.le_of_ble_eq_true rfl, Nat.le_of_ble_eq_true rfl⟩ rfl rfl rfl rfl ?_
    refine sw_istore_n 25 2 C dX4_serveFirst_25 rfl rfl ?_
    refine sw_aload_n 26 0 C dX4_serveFirst_26 rfl rfl ?_
    refine sw_dup 27 C dX4_serveFirst_27 rfl ?_
    refine sw_get 28 0 2 C dX4_serveFirst_28 rfl rfl (inA lwX4) (C.w wF_X4_42) rfl rfl rfl ?_
    refine sw_aload_n 31 0 C dX4_serveFirst_31 rfl rfl ?_
    refine sw_get 32 0 4 C dX4_serveFirst_32 rfl rfl (inA lwX4) (C.w wF_X4_25) rfl rfl rfl ?_
    refine sw_iload_n 35 1 C dX4_serveFirst_35 rfl rfl ?_
    refine sw_iconst 36 C dX4_serveFirst_36 3 (by decide) ?_
    refine sw_callVIP 37 [2, 3] 2 C dX4_serveFirst_37 (ct_X2_at l i 3 (by rw [hi]; rfl) rfl hin (by decide) hn) wK_X2_at wM_X4_95 wN_X2_at wS_X2_X2_at wI_X2 hd_X2_at rfl rfl rfl ⟨rfl, rfl⟩ ⟨Nat.le_of_ble_eq_true rfl, Nat.le_of_ble_eq_true rfl⟩ rfl rfl rfl rfl ?_
    refine sw_iadd 40 C dX4_serveFirst_40 ?_
    refine sw_put 41 0 2 tyX4 C dX4_serveFirst_41 rfl rfl (inA lwX4) tyX4_ok nmX4 (C.w wF_X4_42) rfl rfl rfl rfl rfl rfl rfl ?_
    refine sw_ws [(_, .inr (4, [.int _, .int _, .int _, .ref _, .ref _, .ref _, .int _, .int _, .int _, .ref _, .ref _])), (_, .inl (_, _, .inl _)), (_, .inr (2, [.int _, .ref _])), (_, .inl (_, _, .inl _)), (_, .inr (0, [.int _, .ref _])), (_, .inl (_, _, .inl _)), (_, .inl (_, _, .inl _)), (_, .inl (_, _, .inl _))] rfl ?_
    refine sw_aload_n 44 0 C dX4_serveFirst_44 rfl rfl ?_
    refine sw_iload_n 45 1 C dX4_serveFirst_45 rfl rfl ?_
    refine sw_iconst 46 C dX4_serveFirst_46 0 (by decide) ?_
    refine sw_callVI 47 [0, 1, 2, 3, 4, 5, 6, 7] 2 C dX4_serveFirst_47 (ct_X4_letLeave l i 0 (by rw [hi]; rfl) rfl hin (by decide) hn hS.2.1 (hS.2.2 i hin)) wK_X4_letLeave wM_X4_98 wN_X4_letLeave wS_X4_X4_letLeave wI_X4 hd_X4_letLeave rfl rfl rfl ⟨rfl, rfl⟩ ⟨Nat.le_of_ble_eq_true rfl, Nat.le_of_ble_eq_true rfl⟩ rfl rfl rfl rfl rfl ?_
    refine sw_ws [(_, .inr (4, [.int _, .int _, .int _, .ref _, .ref _, .ref _, .int _, .int _, .int _, .ref _, .ref _])), (_, .inl (_, _, .inl _)), (_, .inr (2, [.int _, .ref _])), (_, .inl (_, _, .inl _)), (_, .inr (0, [.int _, .ref _])), (_, .inl (_, _, .inl _)), (_, .inl (_, _, .inl _)), (_, .inl (_, _, .inl _))] rfl ?_
    refine sw_pop 50 C dX4_serveFirst_50 rfl ?_
    refine sw_iload_n 51 2 C dX4_serveFirst_51 rfl rfl ?_
    refine sw_iret 52 C RC dX4_serveFirst_52 ?_
    exact ⟨by rw [srv_s hi], by rw [srv_s hi]; rfl⟩
  · refine sw_iconst 13 C dX4_serveFirst_13 (-1) (by decide) ?_
    refine sw_iret 14 C RC dX4_serveFirst_14 ?_
    exact ⟨by rw [srv_n (oI_none hS.1 c_10)], by rw [srv_n (oI_none hS.1 c_10)]⟩
