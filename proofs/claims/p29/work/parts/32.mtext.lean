/-! the text, as both read it -/
def tR (by_ tx : Nat → Int32) (ln : Nat) : Prop := ∀ k, k < ln → tx k = by_ k ∧ isN (by_ k) 127
def mat (P : Nat × Int32) : Int32 := if P.2 = -1 then nI P.1 else P.2
theorem mat_ok {P : Nat × Int32} (h : P.2 = -1) : mat P = nI P.1 := if_pos h
theorem mat_no {P : Nat × Int32} (h : ¬ P.2 = -1) : mat P = P.2 := if_neg h
theorem txa_in {by_ tx : Nat → Int32} {ln p : Nat} (h : tR by_ tx ln) (hp : p < ln) : tx p = txa by_ ln p := by
  unfold txa
  rw [if_pos hp]
  exact (h p hp).1
theorem txa_out {by_ : Nat → Int32} {ln p : Nat} (hp : ¬ p < ln) : txa by_ ln p = -1 := if_neg hp
theorem txa_N {by_ tx : Nat → Int32} {ln p : Nat} (h : tR by_ tx ln) (hp : p < ln) : isN (txa by_ ln p) 127 := by
  unfold txa
  rw [if_pos hp]
  exact (h p hp).2
theorem inR_eq (v w : Int32) : inR v w w = decide (v = w) := by
  unfold inR
  rw [Bool.eq_iff_iff, Bool.and_eq_true, decide_eq_true_iff, decide_eq_true_iff, decide_eq_true_iff]
  exact ⟨fun h => Int32.le_antisymm h.2 h.1, fun h => by rw [h]; exact ⟨Int32.le_refl _, Int32.le_refl _⟩⟩
theorem inR_m1 {x y : Int32} (h : 0 ≤ x) : inR (-1) x y = false := by
  unfold inR
  rw [decide_eq_false (Int32.not_le.mpr (Int32.lt_of_lt_of_le (by decide) h)), Bool.false_and]
theorem nI_m1 {p : Nat} (h : p < 2 ^ 31) : (nI p = -1) = False := eq_false (i32_ne_m1 h)
-- reading where an error stands
theorem rSg_bad {by_ : Nat → Int32} {ln : Nat} {w : Int32} {P : Nat × Int32} (h : ¬ P.2 = -1) : rSg by_ ln w P = P := if_neg h
theorem rDg_bad {by_ : Nat → Int32} {ln : Nat} {w : Int32} {P : Nat × Int32} (h : ¬ P.2 = -1) : rDg by_ ln w P = (0, P) := if_neg h
theorem rNm_bad {by_ : Nat → Int32} {ln m : Nat} {w : Int32} {P : Nat × Int32} (h : ¬ P.2 = -1) : rNm by_ ln m w P = (0, P) := if_neg h
theorem rSg_y {by_ : Nat → Int32} {ln : Nat} {w : Int32} {P : Nat × Int32} (h : P.2 = -1) (h2 : txa by_ ln P.1 = w) : rSg by_ ln w P = (P.1 + 1, P.2) := by
  unfold rSg
  rw [if_pos h, if_pos h2]
theorem rSg_n {by_ : Nat → Int32} {ln : Nat} {w : Int32} {P : Nat × Int32} (h : P.2 = -1) (h2 : ¬ txa by_ ln P.1 = w) : rSg by_ ln w P = (P.1, nI P.1) := by
  unfold rSg
  rw [if_pos h, if_neg h2]
theorem rDg_y {by_ : Nat → Int32} {ln : Nat} {g : Int32} {P : Nat × Int32} (h : P.2 = -1) (h2 : ¬ (txa by_ ln P.1 - 48 < 0 ∨ g < txa by_ ln P.1 - 48)) : rDg by_ ln g P = (txa by_ ln P.1 - 48, P.1 + 1, P.2) := by
  unfold rDg
  rw [if_pos h, if_neg h2]
theorem rDg_n {by_ : Nat → Int32} {ln : Nat} {g : Int32} {P : Nat × Int32} (h : P.2 = -1) (h2 : txa by_ ln P.1 - 48 < 0 ∨ g < txa by_ ln P.1 - 48) : rDg by_ ln g P = (0, P.1, nI P.1) := by
  unfold rDg
  rw [if_pos h, if_pos h2]
theorem rNm_g {by_ : Nat → Int32} {ln m : Nat} {g : Int32} {P : Nat × Int32} (h : P.2 = -1) : rNm by_ ln m g P = ((dlp by_ ln m P.1 0).2, (dlp by_ ln m P.1 0).1, rEr by_ ln g P.1 (dlp by_ ln m P.1 0) P.2) := if_pos h
-- a digit
theorem dig_iff {by_ tx : Nat → Int32} {ln p g : Nat} (h : tR by_ tx ln) (hg : g ≤ 9) : inR (txa by_ ln p) 48 (48 + nI g) = decide (¬ (txa by_ ln p - 48 < 0 ∨ nI g < txa by_ ln p - 48)) := by
  by_cases hp : p < ln
  · obtain ⟨v, v1, v2⟩ := txa_N h hp
    unfold inR
    rw [v2, show (48 : Int32) = nI 48 from rfl, nI_add, Bool.eq_iff_iff, Bool.and_eq_true, decide_eq_true_iff, decide_eq_true_iff, decide_eq_true_iff, nI_leI (by omega) (by omega), nI_leI (by omega) (by omega), Int32.lt_iff_toInt_lt, Int32.lt_iff_toInt_lt, pk_sub_toInt (by omega) (by omega), nI_toInt (by omega), show (0 : Int32).toInt = 0 from by decide]
    omega
  · rw [txa_out hp, inR_m1 (by decide)]
    exact (decide_eq_false (p := ¬ ((-1 : Int32) - 48 < 0 ∨ nI g < -1 - 48)) (fun q => q (Or.inl (by decide)))).symm
theorem isDv_in (v : Int32) : inR v 48 57 = isDv v := rfl
-- positions only grow
theorem rSg_ge (by_ : Nat → Int32) (ln : Nat) (w : Int32) (P : Nat × Int32) : P.1 ≤ (rSg by_ ln w P).1 := by
  unfold rSg
  split
  · split <;> simp
  · simp
theorem rDg_ge (by_ : Nat → Int32) (ln : Nat) (w : Int32) (P : Nat × Int32) : P.1 ≤ (rDg by_ ln w P).2.1 := by
  unfold rDg
  split
  · split <;> simp
  · simp
theorem dlp_ge (by_ : Nat → Int32) (ln : Nat) : ∀ (m p : Nat) (v : Int32), p ≤ (dlp by_ ln m p v).1
  | 0, p, v => Nat.le_refl _
  | m + 1, p, v => by
    unfold dlp
    split
    · have := dlp_ge by_ ln m (p + 1) (v * 10 + txa by_ ln p - 48)
      omega
    · simp
theorem rNm_ge (by_ : Nat → Int32) (ln m : Nat) (g : Int32) (P : Nat × Int32) : P.1 ≤ (rNm by_ ln m g P).2.1 := by
  unfold rNm
  split
  · exact dlp_ge by_ ln m P.1 0
  · simp
theorem rSd_ge (by_ : Nat → Int32) (ln : Nat) (P : Nat × Int32) : P.1 ≤ (rSd by_ ln P).2.1 := by
  unfold rSd
  have h1 := rDg_ge by_ ln 7 P
  have h2 := rDg_ge by_ ln 4 (rDg by_ ln 7 P).2
  have h3 := rSg_ge by_ ln 44 (rDg by_ ln 4 (rDg by_ ln 7 P).2).2
  have h4 := rNm_ge by_ ln 3 200 (rSg by_ ln 44 (rDg by_ ln 4 (rDg by_ ln 7 P).2).2)
  dsimp only
  omega
theorem rBd_ge (by_ : Nat → Int32) (ln : Nat) (sg : Int32) (P : Nat × Int32) : P.1 ≤ (rBd by_ ln sg P).2.1 := by
  have h1 := rSd_ge by_ ln P
  have h2 := rSg_ge by_ ln 44 (rSd by_ ln P).2
  have h3 := rNm_ge by_ ln 3 100 (rSg by_ ln 44 (rSd by_ ln P).2)
  have h4 := rNm_ge by_ ln 2 50 P
  unfold rBd
  split
  · dsimp only; omega
  · split
    · dsimp only; omega
    · split
      · dsimp only; omega
      · split
        · dsimp only; omega
        · dsimp only; omega
theorem rOr_ge (by_ : Nat → Int32) (ln : Nat) (P : Nat × Int32) : P.1 + 1 ≤ xp (rOr by_ ln P) := by
  have h1 := rBd_ge by_ ln (txa by_ ln P.1) (P.1 + 1, P.2)
  have h2 := rSg_ge by_ ln 59 (rBd by_ ln (txa by_ ln P.1) (P.1 + 1, P.2)).2
  show P.1 + 1 ≤ (rSg by_ ln 59 (rBd by_ ln (txa by_ ln P.1) (P.1 + 1, P.2)).2).1
  dsimp only at h1
  omega
-- errors stay
theorem rSg_err {by_ : Nat → Int32} {ln : Nat} {w : Int32} {P : Nat × Int32} (h : (rSg by_ ln w P).2 = -1) : P.2 = -1 := by
  by_cases q : P.2 = -1
  · exact q
  · rwa [rSg_bad q] at h
theorem rDg_err {by_ : Nat → Int32} {ln : Nat} {w : Int32} {P : Nat × Int32} (h : (rDg by_ ln w P).2.2 = -1) : P.2 = -1 := by
  by_cases q : P.2 = -1
  · exact q
  · rwa [rDg_bad q] at h
theorem rNm_err {by_ : Nat → Int32} {ln m : Nat} {w : Int32} {P : Nat × Int32} (h : (rNm by_ ln m w P).2.2 = -1) : P.2 = -1 := by
  by_cases q : P.2 = -1
  · exact q
  · rwa [rNm_bad q] at h
-- numbers that were read
theorem rDg_N {by_ : Nat → Int32} {ln : Nat} {w : Int32} (g : Nat) {P : Nat × Int32} (hw : w = nI g) (hg : g < 2 ^ 31) : isN (rDg by_ ln w P).1 g := by
  subst hw
  by_cases h : P.2 = -1
  · by_cases h2 : txa by_ ln P.1 - 48 < 0 ∨ nI g < txa by_ ln P.1 - 48
    · rw [rDg_n h h2]
      exact ⟨0, by omega, rfl⟩
    · rw [rDg_y h h2]
      exact nI_of2 (M := nI g) (nI_toInt hg) (fun q => h2 (Or.inl q)) (Int32.not_lt.mp (fun q => h2 (Or.inr q)))
  · rw [rDg_bad h]
    exact ⟨0, by omega, rfl⟩
theorem rNm_N {by_ : Nat → Int32} {ln m : Nat} {w : Int32} (g : Nat) {P : Nat × Int32} (hw : w = nI g) (hg : g < 2 ^ 31) (hp : P.1 + m < 2 ^ 31) (h : (rNm by_ ln m w P).2.2 = -1) : ∃ b : Nat, 1 ≤ b ∧ b ≤ g ∧ (rNm by_ ln m w P).1 = nI b := by
  subst hw
  have h0 := rNm_err h
  rw [rNm_g h0] at h ⊢
  have h : rEr by_ ln (nI g) P.1 (dlp by_ ln m P.1 0) P.2 = -1 := h
  have hd := dlp_le by_ ln m P.1 0
  unfold rEr at h
  split at h
  · exact absurd h (i32_ne_m1 (by omega))
  · split at h
    · exact absurd h (i32_ne_m1 (by omega))
    · rename_i q
      have q1 : ¬ (dlp by_ ln m P.1 0).2 < 1 := fun z => q (Or.inl z)
      have q2 : ¬ nI g < (dlp by_ ln m P.1 0).2 := fun z => q (Or.inr z)
      obtain ⟨b, b1, b2⟩ := nI_of2 (x := (dlp by_ ln m P.1 0).2) (M := nI g) (nI_toInt hg) (fun z => q1 (Int32.lt_trans z (by decide))) (Int32.not_lt.mp q2)
      refine ⟨b, ?_, b1, b2⟩
      rw [b2] at q1
      rcases Nat.lt_or_ge b 1 with z | z
      · exact absurd (show nI b < 1 from nI_lt z (by decide)) q1
      · exact z
-- an order, by its sign
theorem rOr_s {by_ : Nat → Int32} {ln : Nat} {P : Nat × Int32} (h : txa by_ ln P.1 = 115) : rOr by_ ln P = ((115, 0, 0, 0, 0, 0), rSg by_ ln 59 (P.1 + 1, P.2)) := by
  unfold rOr rBd
  rw [h, if_neg (by decide), if_neg (by decide), if_pos rfl]
theorem rOr_p {by_ : Nat → Int32} {ln : Nat} {P : Nat × Int32} (h : txa by_ ln P.1 = 112) : rOr by_ ln P = ((112, (rSd by_ ln (P.1 + 1, P.2)).1.1, (rSd by_ ln (P.1 + 1, P.2)).1.2.1, (rSd by_ ln (P.1 + 1, P.2)).1.2.2, 0, 0), rSg by_ ln 59 (rSd by_ ln (P.1 + 1, P.2)).2) := by
  unfold rOr rBd
  rw [h, if_neg (by decide), if_pos rfl]
theorem rOr_b {by_ : Nat → Int32} {ln : Nat} {P : Nat × Int32} (h : txa by_ ln P.1 = 98) : rOr by_ ln P = ((98, (rSd by_ ln (P.1 + 1, P.2)).1.1, (rSd by_ ln (P.1 + 1, P.2)).1.2.1, (rSd by_ ln (P.1 + 1, P.2)).1.2.2, (rNm by_ ln 3 100 (rSg by_ ln 44 (rSd by_ ln (P.1 + 1, P.2)).2)).1, 0), rSg by_ ln 59 (rNm by_ ln 3 100 (rSg by_ ln 44 (rSd by_ ln (P.1 + 1, P.2)).2)).2) := by
  unfold rOr rBd
  rw [h, if_pos rfl]
theorem rOr_t {by_ : Nat → Int32} {ln : Nat} {P : Nat × Int32} (h : txa by_ ln P.1 = 116) : rOr by_ ln P = ((116, 0, 0, 0, 0, (rNm by_ ln 2 50 (P.1 + 1, P.2)).1), rSg by_ ln 59 (rNm by_ ln 2 50 (P.1 + 1, P.2)).2) := by
  unfold rOr rBd
  rw [h, if_neg (by decide), if_neg (by decide), if_neg (by decide), if_pos rfl]
theorem rOr_x {by_ : Nat → Int32} {ln : Nat} {P : Nat × Int32} (hp : P.1 < 2 ^ 30) (h1 : ¬ txa by_ ln P.1 = 115) (h2 : ¬ txa by_ ln P.1 = 112) (h3 : ¬ txa by_ ln P.1 = 98) (h4 : ¬ txa by_ ln P.1 = 116) : (rOr by_ ln P).2 = (P.1 + 1, nI P.1) := by
  unfold rOr rBd
  rw [if_neg h3, if_neg h2, if_neg h1, if_neg h4]
  show rSg by_ ln 59 (P.1 + 1, nI (P.1 + 1 - 1)) = _
  rw [rSg_bad (by show ¬ nI (P.1 + 1 - 1) = -1; exact i32_ne_m1 (by omega))]
  rfl
theorem rOr_g (by_ : Nat → Int32) (ln : Nat) (P : Nat × Int32) : xg (rOr by_ ln P) = txa by_ ln P.1 := rfl
theorem rSd_s {by_ : Nat → Int32} {ln : Nat} {P : Nat × Int32} : isN (rSd by_ ln P).1.1 7 := by
  unfold rSd
  dsimp only
  exact rDg_N 7 rfl (by decide)
theorem rSd_r {by_ : Nat → Int32} {ln : Nat} {P : Nat × Int32} : isN (rSd by_ ln P).1.2.1 4 := by
  unfold rSd
  dsimp only
  exact rDg_N 4 rfl (by decide)
theorem rSd_b {by_ : Nat → Int32} {ln : Nat} {P : Nat × Int32} (hP : P.1 ≤ 1002) (h : (rSd by_ ln P).2.2 = -1) : ∃ b : Nat, 1 ≤ b ∧ b ≤ 200 ∧ (rSd by_ ln P).1.2.2 = nI b := by
  have j1 := rDg_le by_ ln 7 P
  have j2 := rDg_le by_ ln 4 (rDg by_ ln 7 P).2
  have j3 := rSg_le by_ ln 44 (rDg by_ ln 4 (rDg by_ ln 7 P).2).2
  unfold rSd at h ⊢
  dsimp only at h ⊢
  generalize rSg by_ ln 44 (rDg by_ ln 4 (rDg by_ ln 7 P).2).2 = W at h j3 ⊢
  exact rNm_N 200 rfl (by decide) (by omega) h
/-- what an order that was read without an error holds -/
theorem rOr_ok {by_ tx : Nat → Int32} {ln : Nat} {P : Nat × Int32} (hp : P.1 < 1000) (h : xe (rOr by_ ln P) = -1) : (xg (rOr by_ ln P) = 116 → ∃ k : Nat, 1 ≤ k ∧ k ≤ 50 ∧ xt (rOr by_ ln P) = nI k) ∧ (xg (rOr by_ ln P) = 98 ∨ xg (rOr by_ ln P) = 112 → isN (xs_ (rOr by_ ln P)) 7 ∧ isN (xr (rOr by_ ln P)) 4 ∧ (∃ b : Nat, 1 ≤ b ∧ b ≤ 200 ∧ xb (rOr by_ ln P) = nI b) ∧ isN (xi_ (rOr by_ ln P)) 100) := by
  have l1 := rSd_le by_ ln (P.1 + 1, P.2)
  have l2 := rSg_le by_ ln 44 (rSd by_ ln (P.1 + 1, P.2)).2
  have s1 := rSd_s (by_ := by_) (ln := ln) (P := (P.1 + 1, P.2))
  have s2 := rSd_r (by_ := by_) (ln := ln) (P := (P.1 + 1, P.2))
  have s3 := rSd_b (by_ := by_) (ln := ln) (P := (P.1 + 1, P.2)) (by show P.1 + 1 ≤ 1002; omega)
  have e98 := rOr_b (by_ := by_) (ln := ln) (P := P)
  have e112 := rOr_p (by_ := by_) (ln := ln) (P := P)
  have e116 := rOr_t (by_ := by_) (ln := ln) (P := P)
  have eg := rOr_g by_ ln P
  generalize rSd by_ ln (P.1 + 1, P.2) = Z at *
  generalize rOr by_ ln P = X at *
  dsimp only at l1
  refine ⟨fun g => ?_, fun g => ?_⟩
  · have e := e116 (eg.symm.trans g)
    subst e
    exact rNm_N 50 rfl (by decide) (by show P.1 + 1 + 2 < 2 ^ 31; omega) (rSg_err h)
  · rcases g with g | g
    · have e := e98 (eg.symm.trans g)
      clear e98 e112 e116
      have h3 : (rNm by_ ln 3 100 (rSg by_ ln 44 Z.2)).2.2 = -1 := by
        rw [e] at h
        exact rSg_err h
      have h4 : (rSg by_ ln 44 Z.2).2 = -1 := rNm_err h3
      obtain ⟨b, b1, b2, b3⟩ := rNm_N 100 rfl (by decide) (by omega) h3
      rw [e]
      exact ⟨s1, s2, s3 (rSg_err h4), b, b2, b3⟩
    · have e := e112 (eg.symm.trans g)
      clear e98 e112 e116
      have h3 : Z.2.2 = -1 := by
        rw [e] at h
        exact rSg_err h
      rw [e]
      exact ⟨s1, s2, s3 h3, 0, by omega, rfl⟩
-- the orders, one behind the other
theorem fEr_err {by_ : Nat → Int32} {ln : Nat} : ∀ {u : Nat} {X : RS}, xe (fEr by_ ln u X) = -1 → xe X = -1
  | 0, X, h => h
  | u + 1, X, h => by
    by_cases q : xe X = -1 ∧ xp X < ln
    · exact q.1
    · rwa [fEr_stop q] at h
theorem fEr_go {by_ : Nat → Int32} {ln u : Nat} {X : RS} (h1 : xe X = -1) (h2 : xp X < ln) : fEr by_ ln (u + 1) X = fEr by_ ln u (rOr by_ ln X.2) := if_pos ⟨h1, h2⟩
theorem fEr_sub {by_ : Nat → Int32} {ln u : Nat} {X : RS} (h : xe (fEr by_ ln (u + 1) X) = -1) (h2 : xp X < ln) : xe (rOr by_ ln X.2) = -1 ∧ xe (fEr by_ ln u (rOr by_ ln X.2)) = -1 := by
  rw [fEr_go (fEr_err h) h2] at h
  exact ⟨fEr_err h, h⟩
theorem fEr_fst {by_ : Nat → Int32} {ln : Nat} (u : Nat) {X Y : RS} (e : X.2 = Y.2) : xe (fEr by_ ln u X) = xe (fEr by_ ln u Y) := by
  cases u with
  | zero => exact congrArg Prod.snd e
  | succ u =>
    by_cases q : xe X = -1 ∧ xp X < ln
    · rw [fEr_go q.1 q.2, fEr_go (X := Y) (by show Y.2.2 = -1; rw [← e]; exact q.1) (by show Y.2.1 < ln; rw [← e]; exact q.2), e]
    · rw [fEr_stop q, fEr_stop (X := Y) (by
        intro z
        apply q
        constructor
        · show X.2.2 = -1
          rw [e]
          exact z.1
        · show X.2.1 < ln
          rw [e]
          exact z.2)]
      exact congrArg Prod.snd e
theorem okSd_N {x : Int32} (h : isN x 7) : okSd x := by
  obtain ⟨k, h1, h2⟩ := h
  unfold okSd
  rw [h2, nI_clamp (by omega)]
  exact ⟨rfl, by omega⟩
theorem tkO_of {by_ : Nat → Int32} {ln : Nat} (hln : ln ≤ 100) : ∀ (u : Nat) (X : RS), xe (fEr by_ ln u X) = -1 → tkO by_ ln u X.2
  | 0, X, h => trivial
  | u + 1, X, h => by
    intro hp
    obtain ⟨h1, h2⟩ := fEr_sub h (show xp X < ln by show X.2.1 < ln; omega)
    obtain ⟨k1, k2⟩ := rOr_ok (by show X.2.1 < 1000; omega) h1 (tx := by_)
    refine ⟨fun g => ?_, fun g => okSd_N (k2 g).1, tkO_of hln u (rOr by_ ln X.2) h2⟩
    obtain ⟨k, q1, q2, q3⟩ := k1 g
    rw [q3, nI_clamp (by omega)]
    exact ⟨rfl, by omega⟩
/-- an order is carried out: what stays true -/
theorem mO_cdo {B : Nat} {S : StT} {X : RS} (h : mO B 100000 S) (hB : B < 2 ^ 30) (h1 : xg X = 116 → ∃ k : Nat, 1 ≤ k ∧ k ≤ 50 ∧ xt X = nI k) (h2 : xg X = 98 ∨ xg X = 112 → isN (xs_ X) 7 ∧ isN (xr X) 4 ∧ (∃ b : Nat, 1 ≤ b ∧ b ≤ 200 ∧ xb X = nI b) ∧ isN (xi_ X) 100) : mO (B + 1) 100000 (cdo X S).2 := by
  unfold cdo
  split
  · rename_i q
    split
    · rename_i r
      obtain ⟨a1, a2, a3, a4⟩ := h2 q
      exact mO_pin h hB (hrf_lt r) (okSd_N a1) (Or.inl rfl) a2 a3 a4
    · exact h.mono (Nat.le_succ _) (Nat.le_refl _)
  · split
    · exact (mO_srv h).mono (Nat.le_succ _) (Nat.le_refl _)
    · split
      · rename_i q
        obtain ⟨k, k1, k2, k3⟩ := h1 q
        split
        · rename_i r
          obtain ⟨t, t1, t2⟩ := h.t
          rw [k3, nI_clamp (by omega)]
          rw [k3, t2, show (100000 : Int32) = nI 100000 from rfl, pk_sub t1] at r
          have r := nI_ge' (a := 100000 - t) (by omega) r (by omega)
          have := (mO_tps h k).mono (Nat.le_succ _) (Nat.le_refl _)
          exact ⟨this.1, this.2.1, ⟨t + k, by omega, by rw [tps_zt, t2, nI_add]⟩, this.2.2.2⟩
        · exact h.mono (Nat.le_succ _) (Nat.le_refl _)
      · exact h.mono (Nat.le_succ _) (Nat.le_refl _)
