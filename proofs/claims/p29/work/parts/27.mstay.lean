/-! what stays true of a State -/
theorem rOK_cong {f g : Nat → Int32} {i j : Nat} (e : ∀ c, c < 8 → g (i * 8 + c) = f (j * 8 + c)) (h : rOK f j) : rOK g i := by
  unfold rOK at *
  rw [e 1 (by decide), e 2 (by decide), e 3 (by decide), e 5 (by decide), e 6 (by decide)]
  exact h
theorem pin_old {f : Nat → Int32} {n i c : Nat} {ps x1 x2 x3 x4 x5 : Int32} (hi : i < n) (hc : c < 8) : pin f n ps x1 x2 x3 x4 x5 (i * 8 + c) = f (i * 8 + c) := by
  unfold pin
  repeat (first | rw [upd_ne (by omega)] | rw [upd_at (by omega)])
  exact if_neg (by omega)
theorem pin_7 {f : Nat → Int32} {n : Nat} {ps x1 x2 x3 x4 x5 : Int32} : pin f n ps x1 x2 x3 x4 x5 (n * 8 + 7) = ps := by
  unfold pin
  repeat (first | rw [upd_ne (by omega)] | rw [upd_at (by omega)])
theorem pin_1 {f : Nat → Int32} {n : Nat} {ps x1 x2 x3 x4 x5 : Int32} : pin f n ps x1 x2 x3 x4 x5 (n * 8 + 1) = x2 := by
  unfold pin
  repeat (first | rw [upd_ne (by omega)] | rw [upd_at (by omega)])
theorem pin_2 {f : Nat → Int32} {n : Nat} {ps x1 x2 x3 x4 x5 : Int32} : pin f n ps x1 x2 x3 x4 x5 (n * 8 + 2) = if x3 + x5 / 25 < 4 then x3 + x5 / 25 else 4 := by
  unfold pin
  repeat (first | rw [upd_ne (by omega)] | rw [upd_at (by omega)])
theorem pin_3 {f : Nat → Int32} {n : Nat} {ps x1 x2 x3 x4 x5 : Int32} : pin f n ps x1 x2 x3 x4 x5 (n * 8 + 3) = 0 := by
  unfold pin
  repeat (first | rw [upd_ne (by omega)] | rw [upd_at (by omega)])
  exact if_pos (by omega)
theorem pin_5 {f : Nat → Int32} {n : Nat} {ps x1 x2 x3 x4 x5 : Int32} : pin f n ps x1 x2 x3 x4 x5 (n * 8 + 5) = x4 := by
  unfold pin
  repeat (first | rw [upd_ne (by omega)] | rw [upd_at (by omega)])
theorem pin_6 {f : Nat → Int32} {n : Nat} {ps x1 x2 x3 x4 x5 : Int32} : pin f n ps x1 x2 x3 x4 x5 (n * 8 + 6) = x5 := by
  unfold pin
  repeat (first | rw [upd_ne (by omega)] | rw [upd_at (by omega)])
theorem lou_N {x3 x5 : Int32} (h3 : isN x3 4) (h5 : isN x5 100) : isN (if x3 + x5 / 25 < 4 then x3 + x5 / 25 else 4) 4 := by
  obtain ⟨a, ha, rfl⟩ := h3
  obtain ⟨b, hb, rfl⟩ := h5
  rw [show (25 : Int32) = nI 25 from rfl, pk_div (by omega) (by decide) (by decide), nI_add]
  split
  · rename_i q
    exact ⟨_, by have := (nI_ltI (b := 4) (by omega) (by decide)).mp q; omega, rfl⟩
  · exact ⟨4, by omega, rfl⟩
theorem mO_pin {B T : Nat} {S : StT} {x1 x2 x3 x4 x5 : Int32} (h : mO B T S) (hB : B < 2 ^ 30) (hn : zn S < 40) (h1 : okSd x1) (h2 : x2 = -1 ∨ x5 = 0) (h3 : isN x3 4) (h4 : ∃ b : Nat, 1 ≤ b ∧ b ≤ 200 ∧ x4 = nI b) (h5 : isN x5 100) : mO (B + 1) T (pinS S x1 x2 x3 x4 x5) := by
  obtain ⟨k, hk, ek⟩ := h.p
  have hlt : zp S < zp S + 1 := by rw [ek, nI_1]; exact nI_lt (by omega) (by omega)
  refine ⟨SI_pin h.si hn h1, ⟨k + 1, by omega, by show zp S + 1 = _; rw [ek, nI_1]⟩, h.t, ⟨fun i hi => ?_, fun i j hij hj => ?_⟩, fun i hi => ?_⟩
  · have hi : i < zn S + 1 := hi
    show 0 ≤ pin (zf S) (zn S) (zp S) x1 x2 x3 x4 x5 (i * 8 + 7) ∧ pin (zf S) (zn S) (zp S) x1 x2 x3 x4 x5 (i * 8 + 7) < zp S + 1
    rcases Nat.lt_or_ge i (zn S) with q | q
    · rw [pin_old q (by decide)]
      exact ⟨(h.num.1 i q).1, Int32.lt_trans (h.num.1 i q).2 hlt⟩
    · obtain rfl : i = zn S := by omega
      rw [pin_7]
      exact ⟨by rw [ek]; exact nI_pos' (by omega), hlt⟩
  · have hj : j < zn S + 1 := hj
    show pin (zf S) (zn S) (zp S) x1 x2 x3 x4 x5 (i * 8 + 7) < pin (zf S) (zn S) (zp S) x1 x2 x3 x4 x5 (j * 8 + 7)
    rw [pin_old (by omega) (by decide)]
    rcases Nat.lt_or_ge j (zn S) with q | q
    · rw [pin_old q (by decide)]
      exact h.num.2 i j hij q
    · obtain rfl : j = zn S := by omega
      rw [pin_7]
      exact (h.num.1 i hij).2
  · have hi : i < zn S + 1 := hi
    show rOK (pin (zf S) (zn S) (zp S) x1 x2 x3 x4 x5) i
    rcases Nat.lt_or_ge i (zn S) with q | q
    · exact rOK_cong (fun c hc => pin_old q hc) (h.row i q)
    · obtain rfl : i = zn S := by omega
      unfold rOK
      rw [pin_1, pin_2, pin_3, pin_5, pin_6]
      obtain ⟨b, b1, b2, b3⟩ := h4
      exact ⟨lou_N h3 h5, ⟨0, b, by omega, b2, rfl, b3⟩, h5, h2⟩
/-- a row leaves: those behind it move up -/
def sg_ (i j : Nat) : Nat := if j < i then j else j + 1
theorem rmv_sg {f : Nat → Int32} {n i j c : Nat} (hj : j < n - 1) (hc : c < 8) : rmv f n i (j * 8 + c) = f (sg_ i j * 8 + c) := by
  unfold sg_
  by_cases q : j < i
  · rw [if_pos q, rmv_lo q hc]
  · rw [if_neg q, rmv_hi (by omega) (by omega) hc]
theorem mO_leave' {B T : Nat} {S : StT} {i w : Nat} (hS : SI S) (hp : isN (zp S) B) (ht : isN (zt S) T) (hnum : nOK (zf S) (zn S) (zp S)) (hr : ∀ j, j < zn S → j ≠ i → rOK (zf S) j) (hi : i < zn S) : mO B T (leaveS S i w) := by
  have hs : ∀ j, j < zn S - 1 → sg_ i j < zn S ∧ sg_ i j ≠ i := fun j hj => by unfold sg_; split <;> omega
  have hm : ∀ a b, a < b → sg_ i a < sg_ i b := fun a b hab => by unfold sg_; split <;> split <;> omega
  refine ⟨SI_leave hS, hp, ht, ⟨fun j hj => ?_, fun a b hab hb => ?_⟩, fun j hj => ?_⟩
  · have hj : j < zn S - 1 := hj
    show 0 ≤ rmv (zf S) (zn S) i (j * 8 + 7) ∧ rmv (zf S) (zn S) i (j * 8 + 7) < zp S
    rw [rmv_sg hj (by decide)]
    exact hnum.1 _ (hs j hj).1
  · have hb : b < zn S - 1 := hb
    show rmv (zf S) (zn S) i (a * 8 + 7) < rmv (zf S) (zn S) i (b * 8 + 7)
    rw [rmv_sg (by omega) (by decide), rmv_sg hb (by decide)]
    exact hnum.2 _ _ (hm a b hab) (hs b hb).1
  · have hj : j < zn S - 1 := hj
    exact rOK_cong (fun c hc => rmv_sg hj hc) (hr _ (hs j hj).1 (hs j hj).2)
theorem mO_leave {B T : Nat} {S : StT} {i w : Nat} (h : mO B T S) (hi : i < zn S) : mO B T (lvS S i w) := mO_leave' (S := zv_ S _) (SI_v h.si) h.p h.t h.num (fun j hj _ => h.row j hj) hi
theorem gro_far {pat f : Nat → Int32} {i j c : Nat} (h : j ≠ i) (hc : c < 8) : gro pat f i (j * 8 + c) = f (j * 8 + c) := gro_ne (by omega) (by omega) (by omega)
theorem nOK_gro {pat f : Nat → Int32} {n i : Nat} {p : Int32} (h : nOK f n p) : nOK (gro pat f i) n p :=
  ⟨fun j hj => by rw [gro_ne (by omega) (by omega) (by omega)]; exact h.1 j hj, fun a b hab hb => by rw [gro_ne (by omega) (by omega) (by omega), gro_ne (by omega) (by omega) (by omega)]; exact h.2 a b hab hb⟩
theorem mO_exp {B T : Nat} {S : StT} {i : Nat} (h : mO B T S) (hi : i < zn S) : mO B T (leaveS (groS S i) i 1) :=
  mO_leave' (S := groS S i) (SI_gro h.si) h.p h.t (nOK_gro h.num) (fun j hj hne => rOK_cong (fun c hc => gro_far hne hc) (h.row j hj)) hi
theorem mO_gro {B T : Nat} {S : StT} {i : Nat} (h : mO B T S) (hi : i < zn S) (hx : gexp (zf S) i = false) : mO B T (groS S i) := by
  refine ⟨SI_gro h.si, h.p, h.t, nOK_gro h.num, fun j hj => ?_⟩
  by_cases e : j = i
  · subst e
    obtain ⟨⟨r, r1, r2⟩, ⟨w, b, w1, w2, w3, w4⟩, h3, h4⟩ := h.row j hi
    have hx2 : ¬ gro1 (zf S) j (j * 8 + 5) ≤ zf S (j * 8 + 3) + 1 := of_decide_eq_false hx
    rw [gro1_ne (by omega), w3, w4, nI_1] at hx2
    have hwb : w + 1 < b := by
      rcases Nat.lt_or_ge (w + 1) b with q | q
      · exact q
      · exact absurd (nI_le q (by omega)) hx2
    have g3 : gro1 (zf S) j (j * 8 + 3) = nI (w + 1) := by unfold gro1; rw [upd_at rfl, w3, nI_1]
    have g2 : gro1 (zf S) j (j * 8 + 2) = nI r := by rw [gro1_ne (by omega), r2]
    show rOK (gro (zpat S) (zf S) j) j
    cases hu : gup (zpat S) (zf S) j with
    | true =>
      rw [gro_u hx hu]
      have hr4 : r < 4 := by
        unfold gup at hu
        rw [Bool.and_eq_true, Bool.and_eq_true] at hu
        have := of_decide_eq_true hu.1.2
        rw [g2] at this
        exact (nI_ltI (b := 4) (by omega) (by decide)).mp this
      unfold rOK
      repeat (first | rw [upd_ne (by omega)] | rw [upd_at (by omega)])
      rw [g2, nI_1]
      refine ⟨⟨r + 1, by omega, rfl⟩, ⟨w + 1, b, hwb, w2, ?_, ?_⟩, ?_, ?_⟩
      · exact g3
      · rw [gro1_ne (by omega)]; exact w4
      · rw [gro1_ne (by omega)]; exact h3
      · rw [gro1_ne (by omega), gro1_ne (by omega)]; exact h4
    | false =>
      rw [gro_s hx hu]
      unfold rOK
      repeat (first | rw [upd_ne (by omega)] | rw [upd_at (by omega)])
      rw [g2]
      refine ⟨⟨r, r1, rfl⟩, ⟨w + 1, b, hwb, w2, ?_, ?_⟩, ?_, ?_⟩
      · exact g3
      · rw [gro1_ne (by omega)]; exact w4
      · rw [gro1_ne (by omega)]; exact h3
      · rw [gro1_ne (by omega), gro1_ne (by omega)]; exact h4
  · exact rOK_cong (fun c hc => gro_far e hc) (h.row j hj)
theorem mO_t {B T U : Nat} {S : StT} {t : Int32} (h : mO B T S) (ht : isN t U) : mO B U (zt_ S t) := ⟨h.1, h.2.1, ht, h.2.2.2.1, h.2.2.2.2⟩
/-- a tick: the time stands apart -/
theorem tgo_t : ∀ (u r : Nat) (S : StT) (t : Int32), tgo u r (zt_ S t) = ((tgo u r S).1, zt_ (tgo u r S).2 t)
  | 0, r, S, t => rfl
  | u + 1, r, S, t => by
    cases hx : gexp (zf S) r with
    | true =>
      rw [tgo_x hx, tgo_x (S := zt_ S t) hx]
      have := tgo_t u r (leaveS (groS S r) r 1) t
      rw [show leaveS (groS (zt_ S t) r) r 1 = zt_ (leaveS (groS S r) r 1) t from rfl, this]
    | false =>
      rw [tgo_n hx, tgo_n (S := zt_ S t) hx]
      exact tgo_t u (r + 1) (groS S r) t
theorem tgo_zt : ∀ (u r : Nat) (S : StT), zt (tgo u r S).2 = zt S
  | 0, r, S => rfl
  | u + 1, r, S => by
    cases hx : gexp (zf S) r with
    | true => rw [tgo_x hx]; exact tgo_zt u r _
    | false => rw [tgo_n hx]; exact tgo_zt u (r + 1) _
theorem tick1_eq (S : StT) : tick1 S = ((tgo (zn S) 0 S).1, zt_ (tgo (zn S) 0 S).2 (zt S + 1)) := tgo_t _ _ _ _
theorem mO_tgo {B T : Nat} : ∀ (u r : Nat) (S : StT), r + u = zn S → mO B T S → mO B T (tgo u r S).2
  | 0, r, S, _, h => h
  | u + 1, r, S, hr, h => by
    cases hx : gexp (zf S) r with
    | true =>
      rw [tgo_x hx]
      exact mO_tgo u r _ (by show r + u = zn S - 1; omega) (mO_exp h (by omega))
    | false =>
      rw [tgo_n hx]
      exact mO_tgo u (r + 1) _ (by show r + 1 + u = zn S; omega) (mO_gro h (by omega) hx)
theorem mO_tick {B T : Nat} {S : StT} (h : mO B T S) : mO B (T + 1) (tick1 S).2 := by
  rw [tick1_eq]
  obtain ⟨k, h1, h2⟩ := h.t
  exact mO_t (mO_tgo _ _ S (Nat.zero_add _) h) ⟨k + 1, by omega, by rw [h2, nI_1]⟩
theorem tick_zt (S : StT) : zt (tick1 S).2 = zt S + 1 := by
  rw [tick1_eq]
  rfl
theorem mO_tps {B T : Nat} {S : StT} (h : mO B T S) : ∀ k, mO B (T + k) (tps k S).2
  | 0 => h
  | k + 1 => mO_tick (mO_tps h k)
theorem tps_zt (S : StT) : ∀ k, zt (tps k S).2 = zt S + nI k
  | 0 => by
    show zt S = zt S + nI 0
    rw [nI_0, Int32.add_zero]
  | k + 1 => by
    show zt (tick1 (tps k S).2).2 = _
    rw [tick_zt, tps_zt S k, Int32.add_assoc, nI_1]
theorem tick_le (S : StT) (h : SI S) : (tick1 S).1 ≤ 40 := by
  have h1 := tgo_le (zn S) 0 (zt_ S (zt S + 1))
  have h2 := h.1
  show (tgo (zn S) 0 (zt_ S (zt S + 1))).1 ≤ 40
  omega
theorem tps_le {S : StT} (h : SI S) : ∀ k, (tps k S).1 ≤ k * 40
  | 0 => Nat.le_refl _
  | k + 1 => by
    have h1 := tps_le h k
    have h2 := tick_le _ (SI_tps h k)
    show (tps k S).1 + (tick1 (tps k S).2).1 ≤ (k + 1) * 40
    omega
/-- a row that leaves: its ticks in the rank don't matter -/
theorem gbk_cong {f g : Nat → Int32} {gr : Int32} {i w : Nat} (e3 : g (i * 8 + 3) = f (i * 8 + 3)) (e6 : g (i * 8 + 6) = f (i * 8 + 6)) : gbk g gr i w = gbk f gr i w := by
  unfold gbk
  rw [e3, e6]
theorem mE_leave_cong {S : StT} {f g m : Nat → Int32} {i w : Nat} (e : ∀ c, c < 8 → c ≠ 4 → g (i * 8 + c) = f (i * 8 + c)) (e2 : ∀ j c, j ≠ i → c < 8 → g (j * 8 + c) = f (j * 8 + c)) (h : mE (leaveS (zf_ S f) i w) m) : mE (leaveS (zf_ S g) i w) m := by
  have e0 := e 0 (by decide) (by decide)
  have e6 := e 6 (by decide) (by decide)
  have e3 := e 3 (by decide) (by decide)
  have e7 := e 7 (by decide) (by decide)
  have ek := e 2 (by decide) (by decide)
  have eg := gbk_cong (gr := zg S) (w := w) e3 e6
  refine ⟨h.t, h.n, h.p, h.v, h.k.trans ?_, h.b.trans ?_, h.q, h.g, h.w, h.l, h.pat, fun k hk => (h.bk k hk).trans ?_, fun k hk => (h.lg k hk).trans ?_, fun j c hj hc => (h.row j c hj hc).trans ?_⟩
  · show zk S + (f (i * 8 + 6) - gbk f (zg S) i w) = zk S + (g (i * 8 + 6) - gbk g (zg S) i w)
    rw [e6, eg]
  · show sgb (upd (zbk S) (f (i * 8 + 0)).toNatClampNeg (zbk S (f (i * 8 + 0)).toNatClampNeg + gbk f (zg S) i w)) 8 = sgb (upd (zbk S) (g (i * 8 + 0)).toNatClampNeg (zbk S (g (i * 8 + 0)).toNatClampNeg + gbk g (zg S) i w)) 8
    rw [e0, eg]
  · show upd (zbk S) (f (i * 8 + 0)).toNatClampNeg (zbk S (f (i * 8 + 0)).toNatClampNeg + gbk f (zg S) i w) k = upd (zbk S) (g (i * 8 + 0)).toNatClampNeg (zbk S (g (i * 8 + 0)).toNatClampNeg + gbk g (zg S) i w) k
    rw [e0, eg]
  · show lga (zlg S) (f (i * 8 + 7)) (nI w) (f (i * 8 + 3)) (gbk f (zg S) i w) (f (i * 8 + 2)) k = lga (zlg S) (g (i * 8 + 7)) (nI w) (g (i * 8 + 3)) (gbk g (zg S) i w) (g (i * 8 + 2)) k
    rw [e7, e3, eg, ek]
  · have hj : j < zn S - 1 := hj
    show rmv f (zn S) i (j * 8 + c) = rmv g (zn S) i (j * 8 + c)
    rw [rmv_sg hj hc, rmv_sg hj hc]
    exact (e2 _ c (by unfold sg_; split <;> omega) hc).symm
theorem gbk_0 {f : Nat → Int32} {gr : Int32} {i w : Nat} (h : rOK f i) : ¬ gbk f gr i w < 0 := by
  obtain ⟨b, b1, b2⟩ := h.2.2.1
  unfold gbk
  rw [b2]
  split
  · split
    · decide
    · rw [show (2 : Int32) = nI 2 from rfl, pk_div (by omega) (by decide) (by decide)]
      exact nI_pos (by omega)
  · split
    · exact nI_pos (by omega)
    · rw [show (4 : Int32) = nI 4 from rfl, pk_div (by omega) (by decide) (by decide), pk_sub (by omega)]
      exact nI_pos (by omega)
theorem gbk_1 {f : Nat → Int32} {gr : Int32} {i : Nat} : gbk f gr i 1 = f (i * 8 + 6) := by
  unfold gbk
  rw [if_neg (by decide), if_pos rfl]
theorem srv_lv {S : StT} {i : Nat} (h : frs (zf S) (zn S) = some i) : srv S = (zf S (i * 8 + 7), lvS S i 0) := srv_s h
theorem mO_srv {B T : Nat} {S : StT} (h : mO B T S) : mO B T (srv S).2 := by
  cases hq : frs (zf S) (zn S) with
  | none => rw [srv_n hq]; exact h
  | some i => rw [srv_lv hq]; exact mO_leave h (frs_lt _ _ _ hq)
