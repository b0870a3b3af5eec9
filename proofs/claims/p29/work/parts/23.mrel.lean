/-! the Model's row s (424 ints) and the State S -/
def cM (c : Nat) : Nat := (c + 1) % 8
theorem cM_lt {c : Nat} : cM c < 8 := Nat.mod_lt _ (by decide)
/-- the Model's row holds the State -/
def mE (S : StT) (m : Nat → Int32) : Prop :=
  m 0 = zt S ∧ m 1 = nI (zn S) ∧ m 2 = zp S ∧ (∀ k, k < 3 → m (3 + k) = zlv S k) ∧ m 6 = zk S ∧ m 7 = sgb (zbk S) 8 ∧ m 8 = zq S ∧ m 9 = zg S ∧ m 10 = zv S ∧ m 11 = nI (zl S) ∧
  (∀ k, k < 4 → m (12 + k) = zpat S k) ∧ (∀ k, k < 8 → m (16 + k) = zbk S k) ∧ (∀ k, k < 80 → m (24 + k) = zlg S k) ∧ (∀ i c, i < zn S → c < 8 → m (104 + i * 8 + cM c) = zf S (i * 8 + c))
theorem mE.t {S : StT} {m : Nat → Int32} (h : mE S m) : m 0 = zt S := h.1
theorem mE.n {S : StT} {m : Nat → Int32} (h : mE S m) : m 1 = nI (zn S) := h.2.1
theorem mE.p {S : StT} {m : Nat → Int32} (h : mE S m) : m 2 = zp S := h.2.2.1
theorem mE.v {S : StT} {m : Nat → Int32} (h : mE S m) : ∀ k, k < 3 → m (3 + k) = zlv S k := h.2.2.2.1
theorem mE.k {S : StT} {m : Nat → Int32} (h : mE S m) : m 6 = zk S := h.2.2.2.2.1
theorem mE.b {S : StT} {m : Nat → Int32} (h : mE S m) : m 7 = sgb (zbk S) 8 := h.2.2.2.2.2.1
theorem mE.q {S : StT} {m : Nat → Int32} (h : mE S m) : m 8 = zq S := h.2.2.2.2.2.2.1
theorem mE.g {S : StT} {m : Nat → Int32} (h : mE S m) : m 9 = zg S := h.2.2.2.2.2.2.2.1
theorem mE.w {S : StT} {m : Nat → Int32} (h : mE S m) : m 10 = zv S := h.2.2.2.2.2.2.2.2.1
theorem mE.l {S : StT} {m : Nat → Int32} (h : mE S m) : m 11 = nI (zl S) := h.2.2.2.2.2.2.2.2.2.1
theorem mE.pat {S : StT} {m : Nat → Int32} (h : mE S m) : ∀ k, k < 4 → m (12 + k) = zpat S k := h.2.2.2.2.2.2.2.2.2.2.1
theorem mE.bk {S : StT} {m : Nat → Int32} (h : mE S m) : ∀ k, k < 8 → m (16 + k) = zbk S k := h.2.2.2.2.2.2.2.2.2.2.2.1
theorem mE.lg {S : StT} {m : Nat → Int32} (h : mE S m) : ∀ k, k < 80 → m (24 + k) = zlg S k := h.2.2.2.2.2.2.2.2.2.2.2.2.1
theorem mE.row {S : StT} {m : Nat → Int32} (h : mE S m) : ∀ i c, i < zn S → c < 8 → m (104 + i * 8 + cM c) = zf S (i * 8 + c) := h.2.2.2.2.2.2.2.2.2.2.2.2.2
/-- only what lies below 424 counts -/
theorem mE.cong {S : StT} {m m2 : Nat → Int32} (h : mE S m) (hn : zn S ≤ 40) (e : ∀ k, k < 424 → m2 k = m k) : mE S m2 :=
  ⟨(e 0 (by omega)).trans h.t, (e 1 (by omega)).trans h.n, (e 2 (by omega)).trans h.p, fun k hk => (e _ (by omega)).trans (h.v k hk), (e 6 (by omega)).trans h.k, (e 7 (by omega)).trans h.b, (e 8 (by omega)).trans h.q, (e 9 (by omega)).trans h.g, (e 10 (by omega)).trans h.w, (e 11 (by omega)).trans h.l,
   fun k hk => (e _ (by omega)).trans (h.pat k hk), fun k hk => (e _ (by omega)).trans (h.bk k hk), fun k hk => (e _ (by omega)).trans (h.lg k hk), fun i c hi hc => (e _ (by have := @cM_lt c; omega)).trans (h.row i c hi hc)⟩
/-- small numbers -/
def isN (x : Int32) (B : Nat) : Prop := ∃ k : Nat, k ≤ B ∧ x = nI k
theorem isN.mono {x : Int32} {A B : Nat} (h : isN x A) (hAB : A ≤ B) : isN x B := by
  obtain ⟨k, h1, h2⟩ := h
  exact ⟨k, by omega, h2⟩
/-- a row as it may lie in the box: rank, waited, bound, bribe, second -/
def rOK (f : Nat → Int32) (i : Nat) : Prop := isN (f (i * 8 + 2)) 4 ∧ (∃ w b : Nat, w < b ∧ b ≤ 200 ∧ f (i * 8 + 3) = nI w ∧ f (i * 8 + 5) = nI b) ∧ isN (f (i * 8 + 6)) 100 ∧ (f (i * 8 + 1) = -1 ∨ f (i * 8 + 6) = 0)
/-- the numbers of the petitions -/
def nOK (f : Nat → Int32) (n : Nat) (p : Int32) : Prop := (∀ i, i < n → 0 ≤ f (i * 8 + 7) ∧ f (i * 8 + 7) < p) ∧ ∀ i j, i < j → j < n → f (i * 8 + 7) < f (j * 8 + 7)
def mO (B T : Nat) (S : StT) : Prop := SI S ∧ isN (zp S) B ∧ isN (zt S) T ∧ nOK (zf S) (zn S) (zp S) ∧ ∀ i, i < zn S → rOK (zf S) i
theorem mO.si {B T : Nat} {S : StT} (h : mO B T S) : SI S := h.1
theorem mO.n {B T : Nat} {S : StT} (h : mO B T S) : zn S ≤ 40 := h.1.1
theorem mO.p {B T : Nat} {S : StT} (h : mO B T S) : isN (zp S) B := h.2.1
theorem mO.t {B T : Nat} {S : StT} (h : mO B T S) : isN (zt S) T := h.2.2.1
theorem mO.num {B T : Nat} {S : StT} (h : mO B T S) : nOK (zf S) (zn S) (zp S) := h.2.2.2.1
theorem mO.row {B T : Nat} {S : StT} (h : mO B T S) : ∀ i, i < zn S → rOK (zf S) i := h.2.2.2.2
theorem mO.mono {A B T U : Nat} {S : StT} (h : mO A T S) (hAB : A ≤ B) (hTU : T ≤ U) : mO B U S := ⟨h.1, h.2.1.mono hAB, h.2.2.1.mono hTU, h.2.2.2⟩
/-- differences of small numbers -/
theorem sub_lt0 {a b : Nat} (ha : a < 2 ^ 30) (hb : b < 2 ^ 30) : 0 < nI a - nI b ↔ b < a := by
  rw [Int32.lt_iff_toInt_lt, pk_sub_toInt ha hb, show (0 : Int32).toInt = 0 from by decide]
  omega
theorem sub_eq0 {a b : Nat} (ha : a < 2 ^ 30) (hb : b < 2 ^ 30) : nI a - nI b = 0 ↔ a = b := by
  rw [← Int32.toInt_inj, pk_sub_toInt ha hb, show (0 : Int32).toInt = 0 from by decide]
  omega
theorem num_lt {f : Nat → Int32} {n : Nat} {p : Int32} (h : nOK f n p) {i j : Nat} (hi : i < n) (hj : j < n) : f (i * 8 + 7) < f (j * 8 + 7) ↔ i < j := by
  rcases Nat.lt_trichotomy i j with q | q | q
  · exact ⟨fun _ => q, fun _ => h.2 i j q hj⟩
  · subst q
    exact ⟨fun e => absurd e Int32.lt_irrefl, fun e => absurd e (Nat.lt_irrefl _)⟩
  · exact ⟨fun e => absurd (h.2 j i q hi) (Int32.lt_asymm e), fun e => absurd e (by omega)⟩
theorem num_eq {f : Nat → Int32} {n : Nat} {p : Int32} (h : nOK f n p) {i j : Nat} (hi : i < n) (hj : j < n) (e : f (i * 8 + 7) = f (j * 8 + 7)) : i = j := by
  rcases Nat.lt_trichotomy i j with q | q | q
  · have := h.2 i j q hj
    rw [e] at this
    exact absurd this Int32.lt_irrefl
  · exact q
  · have := h.2 j i q hi
    rw [e] at this
    exact absurd this Int32.lt_irrefl
/-- the key of a row: rank, waited, as numbers -/
def rkN (f : Nat → Int32) (i : Nat) : Nat := (f (i * 8 + 2)).toNatClampNeg
def wtN (f : Nat → Int32) (i : Nat) : Nat := (f (i * 8 + 3)).toNatClampNeg
theorem rOK.rk {f : Nat → Int32} {i : Nat} (h : rOK f i) : f (i * 8 + 2) = nI (rkN f i) ∧ rkN f i ≤ 4 := by
  obtain ⟨k, h1, h2⟩ := h.1
  unfold rkN
  rw [h2, nI_clamp (by omega)]
  exact ⟨rfl, h1⟩
theorem rOK.wt {f : Nat → Int32} {i : Nat} (h : rOK f i) : f (i * 8 + 3) = nI (wtN f i) ∧ wtN f i < 200 := by
  obtain ⟨w, b, h1, h2, h3, h4⟩ := h.2.1
  unfold wtN
  rw [h3, nI_clamp (by omega)]
  exact ⟨rfl, by omega⟩
/-- a row goes ahead of another one, by numbers -/
def bfN (f : Nat → Int32) (i j : Nat) : Prop := rkN f j < rkN f i ∨ rkN f i = rkN f j ∧ (wtN f j < wtN f i ∨ wtN f i = wtN f j ∧ i < j)
theorem bfr_iff {f : Nat → Int32} {n : Nat} {p : Int32} (h : nOK f n p) (hr : ∀ i, i < n → rOK f i) {i j : Nat} (hi : i < n) (hj : j < n) : bfr f i j = true ↔ bfN f i j := by
  obtain ⟨a1, a2⟩ := (hr i hi).rk
  obtain ⟨b1, b2⟩ := (hr j hj).rk
  obtain ⟨c1, c2⟩ := (hr i hi).wt
  obtain ⟨d1, d2⟩ := (hr j hj).wt
  have e1 : (f (i * 8 + 2) = f (j * 8 + 2)) ↔ rkN f i = rkN f j := by rw [a1, b1]; exact nI_eq (by omega) (by omega)
  have e2 : (f (i * 8 + 3) = f (j * 8 + 3)) ↔ wtN f i = wtN f j := by rw [c1, d1]; exact nI_eq (by omega) (by omega)
  have e3 : (f (j * 8 + 2) < f (i * 8 + 2)) ↔ rkN f j < rkN f i := by rw [a1, b1]; exact nI_ltI (by omega) (by omega)
  have e4 : (f (j * 8 + 3) < f (i * 8 + 3)) ↔ wtN f j < wtN f i := by rw [c1, d1]; exact nI_ltI (by omega) (by omega)
  have e5 := num_lt h hi hj
  unfold bfr bfN
  by_cases q1 : rkN f i = rkN f j
  · rw [if_pos (e1.mpr q1)]
    by_cases q2 : wtN f i = wtN f j
    · rw [if_pos (e2.mpr q2), decide_eq_true_iff, e5]
      omega
    · rw [if_neg (fun e => q2 (e2.mp e)), decide_eq_true_iff, e4]
      omega
  · rw [if_neg (fun e => q1 (e1.mp e)), decide_eq_true_iff, e3]
    omega
theorem bfN_trans {f : Nat → Int32} {i j k : Nat} (h1 : bfN f i j) (h2 : bfN f j k) : bfN f i k := by
  unfold bfN at *
  omega
theorem bfN_tri {f : Nat → Int32} {i j : Nat} (h : i ≠ j) : bfN f i j ∨ bfN f j i := by
  unfold bfN
  omega
theorem bfN_irr {f : Nat → Int32} {i : Nat} : ¬ bfN f i i := by
  unfold bfN
  omega
/-- a count grows with its predicate -/
theorem ct_mono {p q : Nat → Bool} : ∀ {n : Nat}, (∀ k, k < n → p k = true → q k = true) → ct p n ≤ ct q n
  | 0, _ => Nat.le_refl _
  | n + 1, h => by
    have h1 := ct_mono (n := n) (fun k hk => h k (by omega))
    have h2 := h n (by omega)
    unfold ct
    cases hp : p n with
    | false => simp; omega
    | true => rw [h2 hp]; simp; omega
theorem ct_strict {p q : Nat → Bool} {i : Nat} (hp : p i = false) (hq : q i = true) : ∀ {n : Nat}, i < n → (∀ k, k < n → p k = true → q k = true) → ct p n < ct q n
  | 0, hi, _ => absurd hi (Nat.not_lt_zero _)
  | n + 1, hi, h => by
    unfold ct
    by_cases e : i = n
    · subst e
      have h1 := ct_mono (n := i) (fun k hk => h k (by omega))
      rw [hp, hq]
      simp
      omega
    · have h1 := ct_strict hp hq (n := n) (by omega) (fun k hk => h k (by omega))
      have h2 := h n (by omega)
      cases hp : p n with
      | false => simp; omega
      | true => rw [h2 hp]; simp; omega
theorem cbf_mono {f : Nat → Int32} {n : Nat} {p : Int32} (h : nOK f n p) (hr : ∀ i, i < n → rOK f i) {i j : Nat} (hi : i < n) (hj : j < n) (hb : bfN f i j) : cbf f n i < cbf f n j :=
  ct_strict (i := i) (p := fun o => bfr f o i) (q := fun o => bfr f o j) (bfr_self f i) ((bfr_iff h hr hi hj).mpr hb) hi (fun k hk e => (bfr_iff h hr hk hj).mpr (bfN_trans ((bfr_iff h hr hk hi).mp e) hb))
theorem cbf_inj {f : Nat → Int32} {n : Nat} {p : Int32} (h : nOK f n p) (hr : ∀ i, i < n → rOK f i) {i j : Nat} (hi : i < n) (hj : j < n) (e : cbf f n i = cbf f n j) : i = j := by
  rcases Nat.decEq i j with q | q
  · rcases bfN_tri (f := f) q with b | b
    · have := cbf_mono h hr hi hj b
      omega
    · have := cbf_mono h hr hj hi b
      omega
  · exact q
/-- places: one to one, so each is taken -/
theorem pigeon : ∀ (n : Nat) (g : Nat → Nat), (∀ i, i < n → g i < n) → (∀ i j, i < n → j < n → g i = g j → i = j) → ∀ k, k < n → ∃ i, i < n ∧ g i = k
  | 0, g, _, _, k, hk => absurd hk (Nat.not_lt_zero _)
  | n + 1, g, hg, hi, k, hk => by
    -- the last one out: swap its place with n
    by_cases e : g n = k
    · exact ⟨n, by omega, e⟩
    have hgn := hg n (by omega)
    obtain ⟨i, h1, h2⟩ := pigeon n (fun i => if g i = n then g n else g i) (fun i hi' => by
      split
      · rename_i q
        have : g n ≠ n := fun e2 => by
          have := hi i n (by omega) (by omega) (q.trans e2.symm)
          omega
        omega
      · have := hg i (by omega)
        omega) (fun i j hi1 hj1 e2 => by
      split at e2 <;> split at e2
      · rename_i q1 q2
        exact hi i j (by omega) (by omega) (q1.trans q2.symm)
      · have := hi n j (by omega) (by omega) e2
        omega
      · have := hi i n (by omega) (by omega) e2
        omega
      · exact hi i j (by omega) (by omega) e2) (if k = n then g n else k) (by
      split
      · rename_i q
        subst q
        omega
      · omega)
    refine ⟨i, by omega, ?_⟩
    split at h2 <;> split at h2
    · rename_i q1 q2
      exact q1.trans q2.symm
    · exact absurd h2 e
    · have := hi i n (by omega) (by omega) h2
      omega
    · exact h2
theorem cbf_sur {f : Nat → Int32} {n : Nat} {p : Int32} (h : nOK f n p) (hr : ∀ i, i < n → rOK f i) {k : Nat} (hk : k < n) : ∃ i, i < n ∧ cbf f n i = k :=
  pigeon n (cbf f n) (fun i hi => cbf_lt hi) (fun i j hi hj e => cbf_inj h hr hi hj e) k hk
/-- the first one has nobody ahead of it -/
theorem frs_first {f : Nat → Int32} {n : Nat} {p : Int32} (h : nOK f n p) (hr : ∀ i, i < n → rOK f i) : ∀ {m j : Nat}, m ≤ n → frs f m = some j → j < m ∧ ∀ i, i < m → i ≠ j → bfN f j i
  | 0, j, _, e => by cases e
  | m + 1, j, hm, e => by
    unfold frs at e
    cases hq : frs f m with
    | none =>
      rw [hq] at e
      cases e
      cases m with
      | zero => exact ⟨by omega, fun i hi hne => by omega⟩
      | succ m2 =>
        unfold frs at hq
        split at hq
        · cases hq
        · split at hq <;> cases hq
    | some j0 =>
      rw [hq] at e
      obtain ⟨h1, h2⟩ := frs_first h hr (m := m) (by omega) hq
      dsimp only at e
      split at e
      · rename_i hb
        cases e
        have hb := (bfr_iff h hr (by omega) (by omega)).mp hb
        refine ⟨by omega, fun i hi hne => ?_⟩
        by_cases q : i = j0
        · subst q
          exact hb
        · exact bfN_trans hb (h2 i (by omega) q)
      · rename_i hb
        cases e
        refine ⟨by omega, fun i hi hne => ?_⟩
        by_cases q : i = m
        · subst q
          rcases bfN_tri (f := f) hne with b | b
          · exact absurd ((bfr_iff h hr (by omega) (by omega)).mpr b) hb
          · exact b
        · exact h2 i (by omega) hne
theorem ct_0 {p : Nat → Bool} : ∀ {n : Nat}, (∀ k, k < n → p k = false) → ct p n = 0
  | 0, _ => rfl
  | n + 1, h => by
    unfold ct
    rw [ct_0 (n := n) (fun k hk => h k (by omega)), h n (by omega)]
    rfl
theorem frs_cbf {f : Nat → Int32} {n j : Nat} {p : Int32} (h : nOK f n p) (hr : ∀ i, i < n → rOK f i) (e : frs f n = some j) : j < n ∧ cbf f n j = 0 := by
  obtain ⟨h1, h2⟩ := frs_first h hr (Nat.le_refl _) e
  refine ⟨h1, ct_0 (p := fun o => bfr f o j) (fun k hk => ?_)⟩
  by_cases q : k = j
  · subst q
    exact bfr_self f k
  · have h3 := h2 k hk q
    cases hb : bfr f k j with
    | false => rfl
    | true => exact absurd (bfN_trans h3 ((bfr_iff h hr hk h1).mp hb)) bfN_irr
theorem frs_some {f : Nat → Int32} : ∀ {n : Nat}, 0 < n → ∃ j, frs f n = some j
  | 0, h => absurd h (Nat.lt_irrefl _)
  | n + 1, _ => by
    unfold frs
    cases frs f n with
    | none => exact ⟨n, rfl⟩
    | some j =>
      dsimp only
      split
      · exact ⟨n, rfl⟩
      · exact ⟨j, rfl⟩
/-- what the Model's comparison says -/
def ahd (f : Nat → Int32) (i j : Nat) : Int32 := if f (i * 8 + 2) - f (j * 8 + 2) = 0 then f (i * 8 + 3) - f (j * 8 + 3) else f (i * 8 + 2) - f (j * 8 + 2)
theorem ahd_bfr {f : Nat → Int32} {n : Nat} {p : Int32} (h : nOK f n p) (hr : ∀ i, i < n → rOK f i) {i j : Nat} (hi : i < n) (hj : j < n) : bfr f i j = (decide (0 < ahd f i j) || (decide (ahd f i j = 0) && decide (i < j))) := by
  obtain ⟨a1, a2⟩ := (hr i hi).rk
  obtain ⟨b1, b2⟩ := (hr j hj).rk
  obtain ⟨c1, c2⟩ := (hr i hi).wt
  obtain ⟨d1, d2⟩ := (hr j hj).wt
  have e0 : (f (i * 8 + 2) - f (j * 8 + 2) = 0) ↔ rkN f i = rkN f j := by rw [a1, b1]; exact sub_eq0 (by omega) (by omega)
  have e1 : (0 < f (i * 8 + 2) - f (j * 8 + 2)) ↔ rkN f j < rkN f i := by rw [a1, b1]; exact sub_lt0 (by omega) (by omega)
  have e2 : (f (i * 8 + 3) - f (j * 8 + 3) = 0) ↔ wtN f i = wtN f j := by rw [c1, d1]; exact sub_eq0 (by omega) (by omega)
  have e3 : (0 < f (i * 8 + 3) - f (j * 8 + 3)) ↔ wtN f j < wtN f i := by rw [c1, d1]; exact sub_lt0 (by omega) (by omega)
  rw [Bool.eq_iff_iff, bfr_iff h hr hi hj, Bool.or_eq_true, Bool.and_eq_true, decide_eq_true_iff, decide_eq_true_iff, decide_eq_true_iff]
  unfold bfN ahd
  by_cases q : rkN f i = rkN f j
  · rw [if_pos (e0.mpr q), e2, e3]
    omega
  · rw [if_neg (fun e => q (e0.mp e)), e0, e1]
    omega
