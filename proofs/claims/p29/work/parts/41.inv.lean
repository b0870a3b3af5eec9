/-! more of what stays true of a State -/
def rJ (f : Nat → Int32) (i : Nat) : Prop := (0 ≤ f (i * 8 + 4) ∧ f (i * 8 + 4) ≤ f (i * 8 + 3)) ∧ (f (i * 8 + 1) = -1 ∨ (isN (f (i * 8 + 1)) 7 ∧ ¬ f (i * 8 + 1) = f (i * 8 + 0)))
/-- how many left the box, by their ways -/
def cJ (B : Nat) (S : StT) : Prop := ∃ a b c : Nat, zlv S 0 = nI a ∧ zlv S 1 = nI b ∧ zlv S 2 = nI c ∧ zp S = nI (zn S + (a + b + c)) ∧ zl S = (if a + b + c < 16 then a + b + c else 16) ∧ zn S + (a + b + c) ≤ B
def sJ (S : StT) : Prop := (∀ k, k < 4 → ∃ p : Nat, 1 ≤ p ∧ p ≤ 50 ∧ zpat S k = nI p) ∧ isN (zq S) 10 ∧ isN (zg S) 200
def JI (B T : Nat) (S : StT) : Prop := mO B T S ∧ (∀ i, i < zn S → rJ (zf S) i) ∧ cJ B S ∧ sJ S
theorem JI.o {B T : Nat} {S : StT} (h : JI B T S) : mO B T S := h.1
theorem JI.si {B T : Nat} {S : StT} (h : JI B T S) : SI S := h.1.1
theorem JI.r {B T : Nat} {S : StT} (h : JI B T S) : ∀ i, i < zn S → rJ (zf S) i := h.2.1
theorem JI.c {B T : Nat} {S : StT} (h : JI B T S) : cJ B S := h.2.2.1
theorem JI.s {B T : Nat} {S : StT} (h : JI B T S) : sJ S := h.2.2.2
theorem JI.mono {A B T U : Nat} {S : StT} (h : JI A T S) (hAB : A ≤ B) (hTU : T ≤ U) : JI B U S := ⟨h.1.mono hAB hTU, h.2.1, by
  obtain ⟨a, b, c, h1, h2, h3, h4, h5, h6⟩ := h.c
  exact ⟨a, b, c, h1, h2, h3, h4, h5, by omega⟩, h.2.2.2⟩
theorem rJ_k {f : Nat → Int32} {i w : Nat} (h : rJ f i) (h3 : f (i * 8 + 3) = nI w) (hw : w < 1000) : ∃ k : Nat, k ≤ w ∧ f (i * 8 + 4) = nI k := by
  obtain ⟨⟨h1, h2⟩, -⟩ := h
  obtain ⟨j, j1, j2⟩ := nI_of (Int32.not_lt.mpr h1)
  rw [j2, h3] at h2
  exact ⟨j, nI_ge' (by omega) h2 j1, j2⟩
theorem rJ_cong {f g : Nat → Int32} {i j : Nat} (e : ∀ c, c < 8 → g (i * 8 + c) = f (j * 8 + c)) (h : rJ f j) : rJ g i := by
  unfold rJ at *
  rw [e 0 (by decide), e 1 (by decide), e 3 (by decide), e 4 (by decide)]
  exact h
theorem pin_4 {f : Nat → Int32} {n : Nat} {ps x1 x2 x3 x4 x5 : Int32} : pin f n ps x1 x2 x3 x4 x5 (n * 8 + 4) = 0 := by
  unfold pin
  repeat (first | rw [upd_ne (by omega)] | rw [upd_at (by omega)])
  exact if_pos (by omega)
theorem JI_pin {B T : Nat} {S : StT} {x1 x2 x3 x4 x5 : Int32} (h : JI B T S) (hB : B < 2 ^ 30) (hn : zn S < 40) (h1 : okSd x1) (h2 : x2 = -1 ∨ x5 = 0) (h2' : x2 = -1 ∨ (isN x2 7 ∧ ¬ x2 = x1)) (h3 : isN x3 4) (h4 : ∃ b : Nat, 1 ≤ b ∧ b ≤ 200 ∧ x4 = nI b) (h5 : isN x5 100) : JI (B + 1) T (pinS S x1 x2 x3 x4 x5) := by
  refine ⟨mO_pin h.o hB hn h1 h2 h3 h4 h5, fun i hi => ?_, ?_, h.s⟩
  · have hi : i < zn S + 1 := hi
    show rJ (pin (zf S) (zn S) (zp S) x1 x2 x3 x4 x5) i
    rcases Nat.lt_or_ge i (zn S) with q | q
    · exact rJ_cong (fun c hc => pin_old q hc) (h.r i q)
    · obtain rfl : i = zn S := by omega
      unfold rJ
      rw [pin_1, pin_3, pin_4, pin_at]
      exact ⟨⟨by decide, by decide⟩, h2'⟩
  · obtain ⟨a, b, c, k1, k2, k3, k4, k5, k6⟩ := h.c
    refine ⟨a, b, c, k1, k2, k3, ?_, k5, by show zn S + 1 + (a + b + c) ≤ B + 1; omega⟩
    show zp S + 1 = nI (zn S + 1 + (a + b + c))
    rw [k4, nI_1]
    exact congrArg nI (by omega)
theorem cJ_leave {B : Nat} {S : StT} {i w : Nat} (h : cJ B S) (hi : i < zn S) (hw : w < 3) : cJ B (leaveS S i w) := by
  obtain ⟨a, b, c, k1, k2, k3, k4, k5, k6⟩ := h
  have hl : lgc (zl S) = if a + b + c + 1 < 16 then a + b + c + 1 else 16 := by
    unfold lgc
    rw [k5]
    by_cases q : a + b + c < 16
    · rw [if_pos q, if_pos q]
      by_cases q2 : a + b + c + 1 < 16
      · rw [if_pos q2]
      · rw [if_neg q2]
        omega
    · rw [if_neg q, if_neg (by omega), if_neg (by omega)]
  rcases (show w = 0 ∨ w = 1 ∨ w = 2 by omega) with rfl | rfl | rfl
  · refine ⟨a + 1, b, c, ?_, ?_, ?_, ?_, ?_, ?_⟩
    · show upd (zlv S) 0 (zlv S 0 + 1) 0 = _
      rw [upd_at rfl, k1, nI_1]
    · show upd (zlv S) 0 (zlv S 0 + 1) 1 = _
      rw [upd_ne (by omega)]
      exact k2
    · show upd (zlv S) 0 (zlv S 0 + 1) 2 = _
      rw [upd_ne (by omega)]
      exact k3
    · show zp S = nI (zn S - 1 + (a + 1 + b + c))
      rw [k4]
      exact congrArg nI (by omega)
    · show lgc (zl S) = _
      rw [hl, show a + 1 + b + c = a + b + c + 1 by omega]
    · show zn S - 1 + (a + 1 + b + c) ≤ B
      omega
  · refine ⟨a, b + 1, c, ?_, ?_, ?_, ?_, ?_, ?_⟩
    · show upd (zlv S) 1 (zlv S 1 + 1) 0 = _
      rw [upd_ne (by omega)]
      exact k1
    · show upd (zlv S) 1 (zlv S 1 + 1) 1 = _
      rw [upd_at rfl, k2, nI_1]
    · show upd (zlv S) 1 (zlv S 1 + 1) 2 = _
      rw [upd_ne (by omega)]
      exact k3
    · show zp S = nI (zn S - 1 + (a + (b + 1) + c))
      rw [k4]
      exact congrArg nI (by omega)
    · show lgc (zl S) = _
      rw [hl, show a + (b + 1) + c = a + b + c + 1 by omega]
    · show zn S - 1 + (a + (b + 1) + c) ≤ B
      omega
  · refine ⟨a, b, c + 1, ?_, ?_, ?_, ?_, ?_, ?_⟩
    · show upd (zlv S) 2 (zlv S 2 + 1) 0 = _
      rw [upd_ne (by omega)]
      exact k1
    · show upd (zlv S) 2 (zlv S 2 + 1) 1 = _
      rw [upd_ne (by omega)]
      exact k2
    · show upd (zlv S) 2 (zlv S 2 + 1) 2 = _
      rw [upd_at rfl, k3, nI_1]
    · show zp S = nI (zn S - 1 + (a + b + (c + 1)))
      rw [k4]
      exact congrArg nI (by omega)
    · show lgc (zl S) = _
      rw [hl, show a + b + (c + 1) = a + b + c + 1 by omega]
    · show zn S - 1 + (a + b + (c + 1)) ≤ B
      omega
theorem rJ_rmv {f : Nat → Int32} {n i : Nat} (hr : ∀ j, j < n → j ≠ i → rJ f j) (hi : i < n) : ∀ j, j < n - 1 → rJ (rmv f n i) j := fun j hj =>
  rJ_cong (fun c hc => rmv_sg hj hc) (hr (sg_ i j) (by unfold sg_; split <;> omega) (by unfold sg_; split <;> omega))
theorem JI_leave {B T : Nat} {S : StT} {i w : Nat} (h : JI B T S) (hi : i < zn S) (hw : w < 3) : JI B T (lvS S i w) :=
  ⟨mO_leave h.o hi, rJ_rmv (fun j hj _ => h.r j hj) hi, cJ_leave (S := zv_ S _) h.c hi hw, h.s⟩
theorem JI_exp {B T : Nat} {S : StT} {i : Nat} (h : JI B T S) (hi : i < zn S) : JI B T (leaveS (groS S i) i 1) :=
  ⟨mO_exp h.o hi, rJ_rmv (f := gro (zpat S) (zf S) i) (fun j hj hne => rJ_cong (fun c hc => gro_far hne hc) (h.r j hj)) hi, cJ_leave (S := groS S i) h.c hi (by decide), h.s⟩
/-- a row that grows older -/
theorem gexp_eq {f : Nat → Int32} {i w b : Nat} (h3 : f (i * 8 + 3) = nI w) (h5 : f (i * 8 + 5) = nI b) (hw : w < 1000) (hb : b < 1000) : gexp f i = decide (b ≤ w + 1) := by
  unfold gexp
  rw [gro1_ne (by omega), h3, h5, nI_1, Bool.eq_iff_iff, decide_eq_true_iff, decide_eq_true_iff]
  exact nI_leI (by omega) (by omega)
theorem gro_3 {pat f : Nat → Int32} {i : Nat} : gro pat f i (i * 8 + 3) = f (i * 8 + 3) + 1 := by
  unfold gro
  split
  · unfold gro1
    rw [upd_at rfl]
  · split
    · repeat (first | rw [upd_ne (by omega)] | rw [upd_at (by omega)])
      unfold gro1
      rw [upd_at rfl]
    · repeat (first | rw [upd_ne (by omega)] | rw [upd_at (by omega)])
      unfold gro1
      rw [upd_at rfl]
theorem gro_2 {pat f : Nat → Int32} {i r : Nat} (h2 : f (i * 8 + 2) = nI r) (hr : r ≤ 4) : ∃ r2 : Nat, r ≤ r2 ∧ r2 ≤ 4 ∧ gro pat f i (i * 8 + 2) = nI r2 := by
  unfold gro
  split
  · exact ⟨r, Nat.le_refl _, hr, by rw [gro1_ne (by omega)]; exact h2⟩
  · split
    · rename_i hu
      have hr4 : r < 4 := by
        unfold gup at hu
        rw [Bool.and_eq_true, Bool.and_eq_true] at hu
        have := of_decide_eq_true hu.1.2
        rw [gro1_ne (by omega), h2] at this
        exact (nI_ltI (b := 4) (by omega) (by decide)).mp this
      refine ⟨r + 1, by omega, by omega, ?_⟩
      repeat (first | rw [upd_ne (by omega)] | rw [upd_at (by omega)])
      rw [gro1_ne (by omega), h2, nI_1]
    · refine ⟨r, Nat.le_refl _, hr, ?_⟩
      repeat (first | rw [upd_ne (by omega)] | rw [upd_at (by omega)])
      rw [gro1_ne (by omega)]
      exact h2
theorem gro_4 {pat f : Nat → Int32} {i r : Nat} (h4 : f (i * 8 + 4) = nI r) : ∃ r2 : Nat, r2 ≤ r + 1 ∧ gro pat f i (i * 8 + 4) = nI r2 := by
  unfold gro
  split
  · exact ⟨r, by omega, by rw [gro1_ne (by omega)]; exact h4⟩
  · split
    · exact ⟨0, by omega, by rw [upd_at rfl]; rfl⟩
    · exact ⟨r + 1, by omega, by rw [upd_at rfl, gro1_ne (by omega), h4, nI_1]⟩
theorem rJ_gro {pat f : Nat → Int32} {i w : Nat} (h : rJ f i) (h3 : f (i * 8 + 3) = nI w) (hw : w < 900) : rJ (gro pat f i) i := by
  obtain ⟨k, k1, k2⟩ := rJ_k h h3 (by omega)
  obtain ⟨r2, q1, q2⟩ := gro_4 (pat := pat) k2
  unfold rJ
  rw [gro_3, h3, nI_1, q2, gro_ne (j := i * 8 + 1) (by omega) (by omega) (by omega), gro_ne (j := i * 8 + 0) (by omega) (by omega) (by omega)]
  exact ⟨⟨nI_pos' (by omega), nI_le (by omega) (by omega)⟩, h.2⟩
theorem JI_gro {B T : Nat} {S : StT} {i : Nat} (h : JI B T S) (hi : i < zn S) (hx : gexp (zf S) i = false) : JI B T (groS S i) := by
  refine ⟨mO_gro h.o hi hx, fun j hj => ?_, h.c, h.s⟩
  show rJ (gro (zpat S) (zf S) i) j
  by_cases e : j = i
  · subst e
    obtain ⟨w, b, w1, w2, w3, w4⟩ := (h.o.row j hi).2.1
    exact rJ_gro (h.r j hi) w3 (by omega)
  · exact rJ_cong (fun c hc => gro_far e hc) (h.r j hj)
theorem JI_t {B T U : Nat} {S : StT} {t : Int32} (h : JI B T S) (ht : isN t U) : JI B U (zt_ S t) := ⟨mO_t h.o ht, h.r, h.c, h.s⟩
theorem JI_tgo {B T : Nat} : ∀ (u r : Nat) (S : StT), r + u = zn S → JI B T S → JI B T (tgo u r S).2
  | 0, r, S, _, h => h
  | u + 1, r, S, hr, h => by
    cases hx : gexp (zf S) r with
    | true =>
      rw [tgo_x hx]
      exact JI_tgo u r _ (by show r + u = zn S - 1; omega) (JI_exp h (by omega))
    | false =>
      rw [tgo_n hx]
      exact JI_tgo u (r + 1) _ (by show r + 1 + u = zn S; omega) (JI_gro h (by omega) hx)
theorem JI_tick {B T : Nat} {S : StT} (h : JI B T S) : JI B (T + 1) (tick1 S).2 := by
  rw [tick1_eq]
  obtain ⟨k, h1, h2⟩ := h.o.t
  exact JI_t (JI_tgo _ _ S (Nat.zero_add _) h) ⟨k + 1, by omega, by rw [h2, nI_1]⟩
theorem JI_tps {B T : Nat} {S : StT} (h : JI B T S) : ∀ k, JI B (T + k) (tps k S).2
  | 0 => h
  | k + 1 => JI_tick (JI_tps h k)
theorem JI_srv {B T : Nat} {S : StT} (h : JI B T S) : JI B T (srv S).2 := by
  cases hq : frs (zf S) (zn S) with
  | none => rw [srv_n hq]; exact h
  | some i => rw [srv_lv hq]; exact JI_leave h (frs_lt _ _ _ hq) (by decide)
theorem JI_q {B T : Nat} {S : StT} {x : Int32} (h : JI B T S) (hx : isN x 10) : JI B T (zq_ S x) := ⟨h.1, h.2.1, h.c, h.s.1, hx, h.s.2.2⟩
theorem JI_g {B T : Nat} {S : StT} {x : Int32} (h : JI B T S) (hx : isN x 200) : JI B T (zg_ S x) := ⟨h.1, h.2.1, h.c, h.s.1, h.s.2.1, hx⟩
theorem JI_pat {B T : Nat} {S : StT} {r p : Nat} {x : Int32} (h : JI B T S) (h1 : 1 ≤ p) (h2 : p ≤ 50) (hx : x = nI p) : JI B T (zpat_ S r x) := ⟨h.1, h.2.1, h.c, fun k hk => by
  show ∃ p : Nat, 1 ≤ p ∧ p ≤ 50 ∧ upd (zpat S) r x k = nI p
  by_cases e : k = r
  · exact ⟨p, h1, h2, by rw [upd_at e]; exact hx⟩
  · rw [upd_ne e]
    exact h.s.1 k hk, h.s.2⟩
theorem JI_0 : JI 0 0 S00 := by
  refine ⟨⟨⟨Nat.zero_le _, Nat.zero_le _, fun i hi => absurd hi (Nat.not_lt_zero _)⟩, ⟨0, Nat.zero_le _, rfl⟩, ⟨0, Nat.zero_le _, rfl⟩, ⟨fun i hi => absurd hi (Nat.not_lt_zero _), fun i j _ hj => absurd hj (Nat.not_lt_zero _)⟩, fun i hi => absurd hi (Nat.not_lt_zero _)⟩, fun i hi => absurd hi (Nat.not_lt_zero _), ⟨0, 0, 0, rfl, rfl, rfl, rfl, rfl, Nat.le_refl _⟩, fun k hk => ?_, ⟨3, by omega, rfl⟩, ⟨10, by omega, rfl⟩⟩
  rcases (show k = 0 ∨ k = 1 ∨ k = 2 ∨ k = 3 by omega) with rfl | rfl | rfl | rfl
  · exact ⟨10, by omega, by omega, by decide⟩
  · exact ⟨8, by omega, by omega, by decide⟩
  · exact ⟨6, by omega, by omega, by decide⟩
  · exact ⟨4, by omega, by omega, by decide⟩
