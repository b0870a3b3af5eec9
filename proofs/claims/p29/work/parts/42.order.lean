/-! the order of serving, by places -/
theorem arr_at {f : Nat → Int32} {n : Nat} {p : Int32} (h : nOK f n p) (hr : ∀ i, i < n → rOK f i) (g : Nat → Int32) : ∀ m, m ≤ n → ∀ i, i < m → arrg f n g m (cbf f n i) = nI i
  | 0, _, i, hi => absurd hi (Nat.not_lt_zero _)
  | m + 1, hm, i, hi => by
    show upd (arrg f n g m) (cbf f n m) (nI m) (cbf f n i) = nI i
    by_cases e : i = m
    · subst e
      rw [upd_at rfl]
    · rw [upd_ne (fun q => e (cbf_inj h hr (by omega) (by omega) q))]
      exact arr_at h hr g m (by omega) i (by omega)
/-- the row at a place -/
def plc (f : Nat → Int32) (n k : Nat) : Nat := (arrg f n (fun _ => 0) n k).toNatClampNeg
theorem plc_ok {f : Nat → Int32} {n : Nat} {p : Int32} (h : nOK f n p) (hr : ∀ i, i < n → rOK f i) (hn : n ≤ 40) {k : Nat} (hk : k < n) : plc f n k < n ∧ cbf f n (plc f n k) = k := by
  obtain ⟨i, hi, hc⟩ := cbf_sur h hr hk
  have e := arr_at h hr (fun _ => 0) n (Nat.le_refl _) i hi
  rw [hc] at e
  unfold plc
  rw [e, nI_clamp (by omega)]
  exact ⟨hi, hc⟩
theorem plc_arr {f : Nat → Int32} {n : Nat} {p : Int32} (h : nOK f n p) (hr : ∀ i, i < n → rOK f i) (hn : n ≤ 40) (g : Nat → Int32) {k : Nat} (hk : k < n) : arrg f n g n k = nI (plc f n k) := by
  obtain ⟨h1, h2⟩ := plc_ok h hr hn hk
  have e := arr_at h hr g n (Nat.le_refl _) (plc f n k) h1
  rwa [h2] at e
theorem plc_cbf {f : Nat → Int32} {n : Nat} {p : Int32} (h : nOK f n p) (hr : ∀ i, i < n → rOK f i) (hn : n ≤ 40) {i : Nat} (hi : i < n) : plc f n (cbf f n i) = i := by
  obtain ⟨h1, h2⟩ := plc_ok h hr hn (cbf_lt (f := f) hi)
  exact cbf_inj h hr h1 hi h2
theorem bfN_plc {f : Nat → Int32} {n : Nat} {p : Int32} (h : nOK f n p) (hr : ∀ i, i < n → rOK f i) {a i : Nat} (ha : a < n) (hi : i < n) (hc : cbf f n a < cbf f n i) : bfN f a i := by
  by_cases e : a = i
  · subst e
    omega
  · rcases bfN_tri (f := f) e with q | q
    · exact q
    · have := cbf_mono h hr hi ha q
      omega
theorem ahd_ok {f : Nat → Int32} {n : Nat} {p : Int32} (h : nOK f n p) (hr : ∀ i, i < n → rOK f i) {a i : Nat} (ha : a < n) (hi : i < n) (hc : cbf f n a < cbf f n i) : 0 < ahd f a i ∨ (ahd f a i = 0 ∧ f (a * 8 + 7) < f (i * 8 + 7)) := by
  have hb := (bfr_iff h hr ha hi).mpr (bfN_plc h hr ha hi hc)
  rw [ahd_bfr h hr ha hi, Bool.or_eq_true, Bool.and_eq_true, decide_eq_true_iff, decide_eq_true_iff, decide_eq_true_iff] at hb
  rcases hb with q | q
  · exact Or.inl q
  · exact Or.inr ⟨q.1, (num_lt h ha hi).mpr q.2⟩
/-! numbers -/
theorem fnd_none {f : Nat → Int32} {x : Int32} : ∀ {n : Nat}, (∀ j, j < n → ¬ f (j * 8 + 7) = x) → fnd f x n = none
  | 0, _ => rfl
  | n + 1, h => fnd_no (fnd_none (n := n) (fun j hj => h j (by omega))) (h n (by omega))
theorem fnd_sp {f : Nat → Int32} {x : Int32} : ∀ {n i : Nat}, fnd f x n = some i → i < n ∧ f (i * 8 + 7) = x
  | 0, i, h => by cases h
  | n + 1, i, h => by
    cases hq : fnd f x n with
    | none =>
      by_cases e : f (n * 8 + 7) = x
      · rw [fnd_yes hq e (Nat.lt_succ_self n)] at h
        cases h
        exact ⟨Nat.lt_succ_self _, e⟩
      · rw [fnd_no hq e] at h
        cases h
    | some k =>
      have h2 := fnd_up hq 1
      rw [h2] at h
      cases h
      have := fnd_sp hq
      exact ⟨by omega, this.2⟩
theorem fnd_nn {f : Nat → Int32} {x : Int32} {n : Nat} (h : fnd f x n = none) : ∀ j, j < n → ¬ f (j * 8 + 7) = x := by
  induction n with
  | zero => exact fun j hj => absurd hj (Nat.not_lt_zero _)
  | succ n ih =>
    have hq : fnd f x n = none := by
      cases hq : fnd f x n with
      | none => rfl
      | some k => rw [fnd_up hq 1] at h; cases h
    intro j hj e
    by_cases q : j = n
    · subst q
      rw [fnd_yes hq e (Nat.lt_succ_self _)] at h
      cases h
    · exact ih hq j (by omega) e
theorem fnd_num {f : Nat → Int32} {n : Nat} {p : Int32} (h : nOK f n p) {i : Nat} (hi : i < n) : fnd f (f (i * 8 + 7)) n = some i := by
  cases hq : fnd f (f (i * 8 + 7)) n with
  | none => exact absurd rfl (fnd_nn hq i hi)
  | some k =>
    obtain ⟨h1, h2⟩ := fnd_sp hq
    rw [num_eq h h1 hi h2]
theorem fnd_new {f : Nat → Int32} {n : Nat} {p : Int32} (h : nOK f n p) : fnd f p n = none := fnd_none (fun j hj e => by
  have := (h.1 j hj).2
  rw [e] at this
  exact absurd this Int32.lt_irrefl)
theorem fnd_neg {f : Nat → Int32} {n : Nat} {p : Int32} (h : nOK f n p) : fnd f (-1) n = none := fnd_none (fun j hj e => by
  have := (h.1 j hj).1
  rw [e] at this
  exact absurd this (by decide))
/-! a rank later -/
theorem rkf_lo {i : Nat} : ∀ (k : Nat) (T : StT) (r w b : Nat), zf T (i * 8 + 2) = nI r → r ≤ 4 → zf T (i * 8 + 3) = nI w → zf T (i * 8 + 5) = nI b → b ≤ 200 → w + k < b → ∃ r2 : Nat, r ≤ r2 ∧ r2 ≤ 4 ∧ (rkf i k T).1 = nI r2
  | 0, T, r, w, b, h2, hr, _, _, _, _ => ⟨r, Nat.le_refl _, hr, h2⟩
  | k + 1, T, r, w, b, h2, hr, h3, h5, hb, hk => by
    have hx : gexp (zf T) i = false := by
      rw [gexp_eq h3 h5 (by omega) (by omega)]
      exact decide_eq_false (by omega)
    rw [rkf_n hx]
    obtain ⟨r2, q1, q2, q3⟩ := gro_2 (pat := zpat T) h2 hr
    obtain ⟨r3, s1, s2, s3⟩ := rkf_lo k (groS T i) r2 (w + 1) b q3 q2 (by show gro (zpat T) (zf T) i (i * 8 + 3) = _; rw [gro_3, h3, nI_1]) (by show gro (zpat T) (zf T) i (i * 8 + 5) = _; rw [gro_ne (by omega) (by omega) (by omega)]; exact h5) hb (by omega)
    exact ⟨r3, by omega, s2, s3⟩
theorem rkf_hi {i : Nat} : ∀ (k : Nat) (T : StT) (w b : Nat), zf T (i * 8 + 3) = nI w → zf T (i * 8 + 5) = nI b → b ≤ 200 → w < b → b ≤ w + k → (rkf i k T).1 = -1
  | 0, T, w, b, _, _, _, h1, h2 => by omega
  | k + 1, T, w, b, h3, h5, hb, h1, h2 => by
    by_cases q : b ≤ w + 1
    · rw [rkf_x (by rw [gexp_eq h3 h5 (by omega) (by omega)]; exact decide_eq_true q)]
    · rw [rkf_n (by rw [gexp_eq h3 h5 (by omega) (by omega)]; exact decide_eq_false q)]
      exact rkf_hi k (groS T i) (w + 1) b (by show gro (zpat T) (zf T) i (i * 8 + 3) = _; rw [gro_3, h3, nI_1]) (by show gro (zpat T) (zf T) i (i * 8 + 5) = _; rw [gro_ne (by omega) (by omega) (by omega)]; exact h5) hb (by omega) (by omega)
/-! who is served at once -/
theorem srv_at {B T : Nat} {S : StT} (h : JI B T S) {i : Nat} (hi : i < zn S) : (srv S).1 = zf S (i * 8 + 7) ↔ cbf (zf S) (zn S) i = 0 := by
  obtain ⟨j, hj⟩ := frs_some (f := zf S) (Nat.lt_of_le_of_lt (Nat.zero_le _) hi)
  obtain ⟨h1, h2⟩ := frs_cbf h.o.num h.o.row hj
  rw [srv_s hj]
  constructor
  · intro e
    rw [← num_eq h.o.num h1 hi e]
    exact h2
  · intro e
    rw [cbf_inj h.o.num h.o.row h1 hi (h2.trans e.symm)]
theorem srv_pos {B T : Nat} {S : StT} (h : JI B T S) (hn : 0 < zn S) : (srv S).1 = zf S (plc (zf S) (zn S) 0 * 8 + 7) :=
  (srv_at h (plc_ok h.o.num h.o.row h.o.n hn).1).mpr (plc_ok h.o.num h.o.row h.o.n hn).2
theorem svf_pos {x : Int32} : ∀ (k j : Nat) (T : StT), 1 ≤ j → j + k ≤ 100 → ¬ (svf x k j T).1 = 0
  | 0, j, T, _, _ => by
    show ¬ (-1 : Int32) = 0
    decide
  | k + 1, j, T, h1, h2 => by
    by_cases q : (srv T).1 = x
    · rw [svf_a q]
      exact nI_ne0 h1 (by omega)
    · by_cases q2 : fnd (zf (tps 1 (srv T).2).2) x (zn (tps 1 (srv T).2).2) = none
      · rw [svf_b q q2]
        show ¬ (-1 : Int32) = 0
        decide
      · rw [svf_c q q2]
        exact svf_pos k (j + 1) _ (by omega) (by omega)
theorem svf_0 {B T : Nat} {S : StT} (h : JI B T S) {i : Nat} (hi : i < zn S) : (svf (zf S (i * 8 + 7)) 40 0 S).1 = 0 ↔ cbf (zf S) (zn S) i = 0 := by
  rw [← srv_at h hi]
  by_cases q : (srv S).1 = zf S (i * 8 + 7)
  · rw [svf_a (k := 39) q]
    exact ⟨fun _ => q, fun _ => rfl⟩
  · refine ⟨fun e => ?_, fun e => absurd e q⟩
    by_cases q2 : fnd (zf (tps 1 (srv S).2).2) (zf S (i * 8 + 7)) (zn (tps 1 (srv S).2).2) = none
    · rw [svf_b (k := 39) q q2] at e
      exact absurd e (show ¬ (-1 : Int32) = 0 by decide)
    · rw [svf_c (k := 39) q q2] at e
      exact absurd e (svf_pos 39 1 _ (by omega) (by omega))
/-- a row's own numbers -/
theorem row_wb {B T : Nat} {S : StT} (h : JI B T S) {i : Nat} (hi : i < zn S) : ∃ s r w b k : Nat, s < 8 ∧ r ≤ 4 ∧ w < b ∧ b ≤ 200 ∧ k ≤ w ∧ zf S (i * 8 + 0) = nI s ∧ zf S (i * 8 + 2) = nI r ∧ zf S (i * 8 + 3) = nI w ∧ zf S (i * 8 + 4) = nI k ∧ zf S (i * 8 + 5) = nI b := by
  obtain ⟨⟨r, r1, r2⟩, ⟨w, b, w1, w2, w3, w4⟩, -, -⟩ := h.o.row i hi
  obtain ⟨k, k1, k2⟩ := rJ_k (h.r i hi) w3 (by omega)
  have hs := h.si.2.2 i hi
  exact ⟨_, r, w, b, k, hs.2, r1, w1, w2, k1, hs.1, r2, w3, k2, w4⟩
