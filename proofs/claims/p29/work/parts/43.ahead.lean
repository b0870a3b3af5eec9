/-! a rank that is told ahead comes so -/
def sRow (g f : Nat → Int32) (j i : Nat) : Prop := ∀ c, c < 8 → g (j * 8 + c) = f (i * 8 + c)
theorem sRow.rfl' {f : Nat → Int32} {i : Nat} : sRow f f i i := fun _ _ => rfl
theorem gexp_cong {f g : Nat → Int32} {i j : Nat} (h : sRow g f j i) : gexp g j = gexp f i := by
  unfold gexp
  rw [gro1_ne (f := g) (by omega), gro1_ne (f := f) (by omega), h 3 (by decide), h 5 (by decide)]
theorem gro1_cong {f g : Nat → Int32} {i j : Nat} (h : sRow g f j i) : sRow (gro1 g j) (gro1 f i) j i := fun c hc => by
  by_cases e : c = 3
  · subst e
    unfold gro1
    rw [upd_at rfl, upd_at rfl, h 3 (by decide)]
  · rw [gro1_ne (by omega), gro1_ne (by omega)]
    exact h c hc
theorem gup_cong {pat f g : Nat → Int32} {i j : Nat} (h : sRow g f j i) : gup pat g j = gup pat f i := by
  have h1 := gro1_cong h
  unfold gup
  rw [h1 2 (by decide), h1 4 (by decide)]
theorem upd_cong {f g : Nat → Int32} {i j d : Nat} {x y : Int32} (h : sRow g f j i) (hd : d < 8) (e : x = y) : sRow (upd g (j * 8 + d) x) (upd f (i * 8 + d) y) j i := fun c hc => by
  subst e
  by_cases q : c = d
  · subst q
    rw [upd_at rfl, upd_at rfl]
  · rw [upd_ne (by omega), upd_ne (by omega)]
    exact h c hc
theorem gro_cong {pat f g : Nat → Int32} {i j : Nat} (h : sRow g f j i) : sRow (gro pat g j) (gro pat f i) j i := by
  have h1 := gro1_cong h
  unfold gro
  rw [gexp_cong h, gup_cong (pat := pat) h]
  split
  · exact h1
  · split
    · exact upd_cong (upd_cong h1 (by decide) (by rw [h1 2 (by decide)])) (by decide) rfl
    · exact upd_cong h1 (by decide) (by rw [h1 4 (by decide)])
/-- the rows behind one that expires -/
theorem exp_row {S : StT} {r j : Nat} (hj : j < zn S - 1) : sRow (zf (leaveS (groS S r) r 1)) (zf S) j (sg_ r j) := fun c hc => by
  show rmv (gro (zpat S) (zf S) r) (zn S) r (j * 8 + c) = zf S (sg_ r j * 8 + c)
  rw [rmv_sg hj hc]
  exact gro_far (by unfold sg_; split <;> omega) hc
theorem sRow.trans {f g k : Nat → Int32} {a b c : Nat} (h1 : sRow k g a b) (h2 : sRow g f b c) : sRow k f a c := fun d hd => (h1 d hd).trans (h2 d hd)
theorem tgo_pat : ∀ (u r : Nat) (S : StT), zpat (tgo u r S).2 = zpat S
  | 0, r, S => rfl
  | u + 1, r, S => by
    cases hx : gexp (zf S) r with
    | true => rw [tgo_x hx]; exact tgo_pat u r _
    | false => rw [tgo_n hx]; exact tgo_pat u (r + 1) _
/-- no new numbers -/
theorem tgo_sub : ∀ (u r : Nat) (S : StT), r + u = zn S → ∀ j, j < zn (tgo u r S).2 → ∃ j0, j0 < zn S ∧ zf (tgo u r S).2 (j * 8 + 7) = zf S (j0 * 8 + 7)
  | 0, r, S, _, j, hj => ⟨j, hj, rfl⟩
  | u + 1, r, S, hr, j, hj => by
    cases hx : gexp (zf S) r with
    | true =>
      rw [tgo_x hx] at hj ⊢
      obtain ⟨j1, h1, h2⟩ := tgo_sub u r (leaveS (groS S r) r 1) (by show r + u = zn S - 1; omega) j hj
      have h1 : j1 < zn S - 1 := h1
      exact ⟨sg_ r j1, by unfold sg_; split <;> omega, h2.trans (exp_row h1 7 (by decide))⟩
    | false =>
      rw [tgo_n hx] at hj ⊢
      obtain ⟨j1, h1, h2⟩ := tgo_sub u (r + 1) (groS S r) (by show r + 1 + u = zn S; omega) j hj
      exact ⟨j1, h1, h2.trans (gro_ne (by omega) (by omega) (by omega))⟩
/-- what becomes of each row in a tick -/
theorem tgo_row {p : Int32} : ∀ (u r : Nat) (S : StT), r + u = zn S → nOK (zf S) (zn S) p → ∀ i, i < zn S →
    (i < r → ∃ j, j < zn (tgo u r S).2 ∧ sRow (zf (tgo u r S).2) (zf S) j i) ∧
    (r ≤ i → gexp (zf S) i = false → ∃ j, j < zn (tgo u r S).2 ∧ sRow (zf (tgo u r S).2) (gro (zpat S) (zf S) i) j i) ∧
    (r ≤ i → gexp (zf S) i = true → ∀ j, j < zn (tgo u r S).2 → ¬ zf (tgo u r S).2 (j * 8 + 7) = zf S (i * 8 + 7))
  | 0, r, S, hr, _, i, hi => ⟨fun _ => ⟨i, hi, sRow.rfl'⟩, fun h => absurd hi (by omega), fun h => absurd hi (by omega)⟩
  | u + 1, r, S, hr, hn, i, hi => by
    cases hx : gexp (zf S) r with
    | true =>
      rw [tgo_x hx]
      have hr1 : r + u = zn (leaveS (groS S r) r 1) := by show r + u = zn S - 1; omega
      have hz : zn (leaveS (groS S r) r 1) = zn S - 1 := rfl
      have hn1 : nOK (zf (leaveS (groS S r) r 1)) (zn (leaveS (groS S r) r 1)) p := by
        refine ⟨fun j hj => ?_, fun a b hab hb => ?_⟩
        · rw [exp_row (S := S) hj 7 (by decide)]
          exact hn.1 _ (by rw [hz] at hj; unfold sg_; split <;> omega)
        · rw [exp_row (S := S) (show a < zn S - 1 by omega) 7 (by decide), exp_row (S := S) (show b < zn S - 1 from hb) 7 (by decide)]
          exact hn.2 _ _ (by unfold sg_; split <;> split <;> omega) (by rw [hz] at hb; unfold sg_; split <;> omega)
      have ih := tgo_row u r (leaveS (groS S r) r 1) hr1 hn1
      refine ⟨fun hlt => ?_, fun hle hg => ?_, fun hle hg => ?_⟩
      · have er : sRow (zf (leaveS (groS S r) r 1)) (zf S) i i := by
          have := exp_row (S := S) (r := r) (j := i) (by omega)
          rwa [show sg_ r i = i from if_pos hlt] at this
        obtain ⟨j, j1, j2⟩ := (ih i (by omega)).1 hlt
        exact ⟨j, j1, j2.trans er⟩
      · have hne : r ≠ i := fun e => by subst e; rw [hg] at hx; cases hx
        have er : sRow (zf (leaveS (groS S r) r 1)) (zf S) (i - 1) i := by
          have := exp_row (S := S) (r := r) (j := i - 1) (by omega)
          rwa [show sg_ r (i - 1) = i by unfold sg_; rw [if_neg (by omega)]; omega] at this
        obtain ⟨j, j1, j2⟩ := (ih (i - 1) (by omega)).2.1 (by omega) ((gexp_cong er).trans hg)
        exact ⟨j, j1, j2.trans (gro_cong (pat := zpat S) er)⟩
      · by_cases e : r = i
        · subst e
          intro j hj e2
          obtain ⟨j0, h0, h1⟩ := tgo_sub u r (leaveS (groS S r) r 1) hr1 j hj
          have h0 : j0 < zn S - 1 := h0
          rw [h1, exp_row h0 7 (by decide)] at e2
          have := num_eq hn (by unfold sg_; split <;> omega) hi e2
          unfold sg_ at this
          split at this <;> omega
        · have er : sRow (zf (leaveS (groS S r) r 1)) (zf S) (i - 1) i := by
            have := exp_row (S := S) (r := r) (j := i - 1) (by omega)
            rwa [show sg_ r (i - 1) = i by unfold sg_; rw [if_neg (by omega)]; omega] at this
          have h3 := (ih (i - 1) (by omega)).2.2 (by omega) ((gexp_cong er).trans hg)
          rw [er 7 (by decide)] at h3
          exact h3
    | false =>
      rw [tgo_n hx]
      have hr1 : r + 1 + u = zn (groS S r) := by show r + 1 + u = zn S; omega
      have ih := tgo_row u (r + 1) (groS S r) hr1 (nOK_gro hn) i hi
      have far : ∀ {i}, i ≠ r → sRow (zf (groS S r)) (zf S) i i := fun h c hc => gro_far h hc
      refine ⟨fun hlt => ?_, fun hle hg => ?_, fun hle hg => ?_⟩
      · obtain ⟨j, j1, j2⟩ := ih.1 (by omega)
        exact ⟨j, j1, j2.trans (far (by omega))⟩
      · by_cases e : r = i
        · subst e
          exact ih.1 (by omega)
        · obtain ⟨j, j1, j2⟩ := ih.2.1 (by omega) ((gexp_cong (far (by omega))).trans hg)
          exact ⟨j, j1, j2.trans (gro_cong (pat := zpat S) (far (by omega)))⟩
      · have hne : r ≠ i := fun e => by subst e; rw [hg] at hx; cases hx
        have h3 := ih.2.2 (by omega) ((gexp_cong (far (by omega))).trans hg)
        rw [far (i := i) (by omega) 7 (by decide)] at h3
        exact h3
theorem tick_row {B T : Nat} {S : StT} (h : mO B T S) {i : Nat} (hi : i < zn S) (hg : gexp (zf S) i = false) : ∃ j, j < zn (tick1 S).2 ∧ sRow (zf (tick1 S).2) (gro (zpat S) (zf S) i) j i :=
  (tgo_row (zn S) 0 (zt_ S (zt S + 1)) (Nat.zero_add _) h.num i hi).2.1 (Nat.zero_le _) hg
theorem tick_gone {B T : Nat} {S : StT} (h : mO B T S) {i : Nat} (hi : i < zn S) (hg : gexp (zf S) i = true) : fnd (zf (tick1 S).2) (zf S (i * 8 + 7)) (zn (tick1 S).2) = none :=
  fnd_none ((tgo_row (zn S) 0 (zt_ S (zt S + 1)) (Nat.zero_add _) h.num i hi).2.2 (Nat.zero_le _) hg)
theorem tick_none {S : StT} {x : Int32} (h : fnd (zf S) x (zn S) = none) : fnd (zf (tick1 S).2) x (zn (tick1 S).2) = none := fnd_none (fun j hj e => by
  obtain ⟨j0, h0, h1⟩ := tgo_sub (zn S) 0 (zt_ S (zt S + 1)) (Nat.zero_add _) j hj
  exact fnd_nn h j0 h0 (h1.symm.trans e))
theorem tick_pat (S : StT) : zpat (tick1 S).2 = zpat S := tgo_pat _ _ _
theorem tps_pat (S : StT) : ∀ k, zpat (tps k S).2 = zpat S
  | 0 => rfl
  | k + 1 => (tick_pat _).trans (tps_pat S k)
/-- a row alone, tick by tick -/
def rk2 (i : Nat) : Nat → StT → Option StT
  | 0, T => some T
  | k + 1, T => if gexp (zf T) i = true then none else rk2 i k (groS T i)
theorem rk2_x {i k : Nat} {T : StT} (h : gexp (zf T) i = true) : rk2 i (k + 1) T = none := if_pos h
theorem rk2_n {i k : Nat} {T : StT} (h : gexp (zf T) i = false) : rk2 i (k + 1) T = rk2 i k (groS T i) := if_neg (by rw [h]; decide)
def rk3 (i : Nat) : Option StT → Option StT
  | none => none
  | some T => if gexp (zf T) i = true then none else some (groS T i)
theorem rk2_end (i : Nat) : ∀ (k : Nat) (T : StT), rk2 i (k + 1) T = rk3 i (rk2 i k T)
  | 0, T => by
    cases hx : gexp (zf T) i with
    | true => rw [rk2_x hx]; exact (if_pos hx).symm
    | false => rw [rk2_n hx]; exact (if_neg (by rw [hx]; decide)).symm
  | k + 1, T => by
    cases hx : gexp (zf T) i with
    | true => rw [rk2_x hx, rk2_x hx]; rfl
    | false => rw [rk2_n hx, rk2_n hx]; exact rk2_end i k (groS T i)
def rk4 (i : Nat) : Option StT → Int32
  | none => -1
  | some T => zf T (i * 8 + 2)
theorem rkf_rk2 (i : Nat) : ∀ (k : Nat) (T : StT), (rkf i k T).1 = rk4 i (rk2 i k T)
  | 0, T => rfl
  | k + 1, T => by
    cases hx : gexp (zf T) i with
    | true => rw [rk2_x hx, rkf_x hx]; rfl
    | false => rw [rk2_n hx, rkf_n hx]; exact rkf_rk2 i k (groS T i)
theorem rk2_pat (i : Nat) : ∀ (k : Nat) (T T2 : StT), rk2 i k T = some T2 → zpat T2 = zpat T
  | 0, T, T2, h => by cases h; rfl
  | k + 1, T, T2, h => by
    cases hx : gexp (zf T) i with
    | true => rw [rk2_x hx] at h; cases h
    | false => rw [rk2_n hx] at h; exact rk2_pat i k (groS T i) T2 h
def trk (i : Nat) (x : Int32) (S : StT) : Option StT → Prop
  | none => fnd (zf S) x (zn S) = none
  | some T => ∃ j, fnd (zf S) x (zn S) = some j ∧ sRow (zf S) (zf T) j i
theorem tps_trk {B T : Nat} {S : StT} (h : mO B T S) {i : Nat} (hi : i < zn S) : ∀ k, trk i (zf S (i * 8 + 7)) (tps k S).2 (rk2 i k S)
  | 0 => ⟨i, fnd_num h.num hi, sRow.rfl'⟩
  | k + 1 => by
    have ih := tps_trk h hi k
    have hO := mO_tps h k
    have hp := tps_pat S k
    have hp2 := rk2_pat i k S
    rw [rk2_end]
    show trk i (zf S (i * 8 + 7)) (tick1 (tps k S).2).2 (rk3 i (rk2 i k S))
    cases hq : rk2 i k S with
    | none =>
      rw [hq] at ih
      exact tick_none ih
    | some T2 =>
      rw [hq] at ih
      obtain ⟨j, j1, j2⟩ := ih
      obtain ⟨j3, j4⟩ := fnd_sp j1
      cases hx : gexp (zf T2) i with
      | true =>
        rw [show rk3 i (some T2) = none from if_pos hx]
        have := tick_gone hO j3 ((gexp_cong j2).trans hx)
        rw [j4] at this
        exact this
      | false =>
        rw [show rk3 i (some T2) = some (groS T2 i) from if_neg (by rw [hx]; decide)]
        obtain ⟨j5, j6, j7⟩ := tick_row hO j3 ((gexp_cong j2).trans hx)
        have e7 : zf (tick1 (tps k S).2).2 (j5 * 8 + 7) = zf S (i * 8 + 7) := by
          rw [j7 7 (by decide), gro_ne (by omega) (by omega) (by omega)]
          exact j4
        refine ⟨j5, ?_, ?_⟩
        · rw [← e7]
          exact fnd_num (mO_tick hO).num j6
        · show sRow (zf (tick1 (tps k S).2).2) (gro (zpat T2) (zf T2) i) j5 i
          rw [hp2 T2 hq, ← hp]
          exact j7.trans (gro_cong j2)
/-- what the law asks: gone, or there with that rank and its sender -/
theorem pass_no {B T : Nat} {S : StT} (h : mO B T S) {i k : Nat} (hi : i < zn S) (hk : (rkf i k S).1 = -1) (hr : ∀ T2, rk2 i k S = some T2 → ¬ zf T2 (i * 8 + 2) = -1) : fnd (zf (tps k S).2) (zf S (i * 8 + 7)) (zn (tps k S).2) = none := by
  have ht := tps_trk h hi k
  rw [rkf_rk2] at hk
  cases hq : rk2 i k S with
  | none => rw [hq] at ht; exact ht
  | some T2 =>
    rw [hq] at hk
    exact absurd hk (hr T2 hq)
theorem rk2_row {i : Nat} : ∀ (k : Nat) (T T2 : StT) (r : Nat), zf T (i * 8 + 2) = nI r → r ≤ 4 → rk2 i k T = some T2 → (∃ r2 : Nat, r2 ≤ 4 ∧ zf T2 (i * 8 + 2) = nI r2) ∧ zf T2 (i * 8 + 0) = zf T (i * 8 + 0)
  | 0, T, T2, r, h1, h2, h => by cases h; exact ⟨⟨r, h2, h1⟩, rfl⟩
  | k + 1, T, T2, r, h1, h2, h => by
    cases hx : gexp (zf T) i with
    | true => rw [rk2_x hx] at h; cases h
    | false =>
      rw [rk2_n hx] at h
      obtain ⟨r2, q1, q2, q3⟩ := gro_2 (pat := zpat T) h1 h2
      obtain ⟨a, b⟩ := rk2_row k (groS T i) T2 r2 q3 q2 h
      exact ⟨a, b.trans (gro_ne (by omega) (by omega) (by omega))⟩
theorem pass_tells {B T : Nat} {S : StT} (h : mO B T S) {i : Nat} (hi : i < zn S) (k : Nat) : ((rkf i k S).1 = -1 ∧ fnd (zf (tps k S).2) (zf S (i * 8 + 7)) (zn (tps k S).2) = none) ∨
    (¬ (rkf i k S).1 = -1 ∧ ∃ j, fnd (zf (tps k S).2) (zf S (i * 8 + 7)) (zn (tps k S).2) = some j ∧ zf (tps k S).2 (j * 8 + 2) = (rkf i k S).1 ∧ zf (tps k S).2 (j * 8 + 0) = zf S (i * 8 + 0)) := by
  obtain ⟨r, r1, r2⟩ := (h.row i hi).1
  have ht := tps_trk h hi k
  rw [rkf_rk2]
  cases hq : rk2 i k S with
  | none =>
    rw [hq] at ht
    exact Or.inl ⟨rfl, ht⟩
  | some T2 =>
    rw [hq] at ht
    obtain ⟨⟨s, s1, s2⟩, s3⟩ := rk2_row k S T2 r r2 r1 hq
    obtain ⟨j, j1, j2⟩ := ht
    refine Or.inr ⟨?_, j, j1, j2 2 (by decide), (j2 0 (by decide)).trans s3⟩
    show ¬ zf T2 (i * 8 + 2) = -1
    rw [s2]
    exact i32_ne_m1 (by omega)
/-- how many expired -/
theorem tgo_lv1 : ∀ (u r : Nat) (S : StT), zlv (tgo u r S).2 1 = zlv S 1 + nI (tgo u r S).1
  | 0, r, S => by
    show zlv S 1 = zlv S 1 + nI 0
    rw [nI_0, Int32.add_zero]
  | u + 1, r, S => by
    cases hx : gexp (zf S) r with
    | true =>
      rw [tgo_x hx]
      show zlv (tgo u r (leaveS (groS S r) r 1)).2 1 = zlv S 1 + nI ((tgo u r (leaveS (groS S r) r 1)).1 + 1)
      rw [tgo_lv1 u r, ← nI_1, show zlv (leaveS (groS S r) r 1) 1 = zlv S 1 + 1 from by
        show upd (zlv S) 1 (zlv S 1 + 1) 1 = _
        rw [upd_at rfl], Int32.add_assoc, Int32.add_comm 1]
    | false =>
      rw [tgo_n hx]
      exact tgo_lv1 u (r + 1) (groS S r)
theorem tps_lv1 (S : StT) : ∀ k, zlv (tps k S).2 1 = zlv S 1 + nI (tps k S).1
  | 0 => by
    show zlv S 1 = zlv S 1 + nI 0
    rw [nI_0, Int32.add_zero]
  | k + 1 => by
    show zlv (tick1 (tps k S).2).2 1 = zlv S 1 + nI ((tps k S).1 + (tick1 (tps k S).2).1)
    rw [← nI_add, ← Int32.add_assoc, ← tps_lv1 S k]
    exact tgo_lv1 _ _ _
