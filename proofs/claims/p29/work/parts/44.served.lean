/-! served when it is told: one is served, a tick passes, again and again -/
def stp (T : StT) : StT := (tps 1 (srv T).2).2
def itr : Nat → StT → StT
  | 0, T => T
  | m + 1, T => itr m (stp T)
theorem svf_tells {x : Int32} : ∀ (k j : Nat) (T : StT), ¬ (svf x k j T).1 = -1 → ¬ fnd (zf T) x (zn T) = none → ∃ m : Nat, m < k ∧ (svf x k j T).1 = nI (j + m) ∧ (∀ t, t ≤ m → ¬ fnd (zf (itr t T)) x (zn (itr t T)) = none) ∧ (srv (itr m T)).1 = x
  | 0, j, T, h, _ => absurd rfl h
  | k + 1, j, T, h, hf => by
    by_cases q : (srv T).1 = x
    · refine ⟨0, by omega, ?_, fun t ht => ?_, q⟩
      · rw [svf_a q]
        rfl
      · obtain rfl : t = 0 := by omega
        exact hf
    · by_cases q2 : fnd (zf (tps 1 (srv T).2).2) x (zn (tps 1 (srv T).2).2) = none
      · rw [svf_b q q2] at h
        exact absurd rfl h
      · rw [svf_c q q2] at h
        obtain ⟨m, m1, m2, m3, m4⟩ := svf_tells k (j + 1) (stp T) h q2
        refine ⟨m + 1, by omega, ?_, fun t ht => ?_, m4⟩
        · rw [svf_c q q2]
          exact m2.trans (congrArg nI (by omega))
        · cases t with
          | zero => exact hf
          | succ t => exact m3 t (by omega)
theorem mO_stp {B T : Nat} {S : StT} (h : mO B T S) : mO B (T + 1) (stp S) := mO_tps (mO_srv h) 1
theorem mO_itr : ∀ (m : Nat) {B T : Nat} {S : StT}, mO B T S → mO B (T + m) (itr m S)
  | 0, _, _, _, h => h
  | m + 1, _, _, _, h => (mO_itr m (mO_stp h)).mono (Nat.le_refl _) (by omega)
theorem srv_some {B T : Nat} {S : StT} {x : Int32} (h : mO B T S) (hf : ¬ fnd (zf S) x (zn S) = none) : ¬ (srv S).1 = -1 := by
  have hn : 0 < zn S := by
    rcases Nat.eq_zero_or_pos (zn S) with q | q
    · rw [q] at hf
      exact absurd rfl hf
    · exact q
  obtain ⟨j, hj⟩ := frs_some (f := zf S) hn
  rw [srv_s hj]
  intro e
  have := (h.num.1 j (frs_lt _ _ _ hj)).1
  rw [show zf S (j * 8 + 7) = -1 from e] at this
  exact absurd this (by decide)
theorem tick_time {B T : Nat} {S : StT} (h : mO B T S) (hT : T < 100000) : (1 : Int32) ≤ 100000 - zt S := by
  obtain ⟨t, t1, t2⟩ := h.t
  rw [t2, show (100000 : Int32) = nI 100000 from rfl, pk_sub (by omega)]
  exact nI_le (a := 1) (by omega) (by omega)
theorem srv_log {S : StT} (h : ¬ (srv S).1 = -1) : zlg (srv S).2 (0 * 5 + 0) = (srv S).1 ∧ zlg (srv S).2 (0 * 5 + 1) = 0 ∧ 0 < zl (srv S).2 := by
  cases hq : frs (zf S) (zn S) with
  | none =>
    rw [srv_n hq] at h
    exact absurd rfl h
  | some i =>
    rw [srv_s hq]
    refine ⟨?_, ?_, ?_⟩
    · show lga (zlg S) (zf S (i * 8 + 7)) (nI 0) (zf S (i * 8 + 3)) (gbk (zf S) (zg S) i 0) (zf S (i * 8 + 2)) 0 = zf S (i * 8 + 7)
      unfold lga
      repeat (first | rw [upd_ne (by omega)] | rw [upd_at (by omega)])
    · show lga (zlg S) (zf S (i * 8 + 7)) (nI 0) (zf S (i * 8 + 3)) (gbk (zf S) (zg S) i 0) (zf S (i * 8 + 2)) 1 = 0
      unfold lga
      repeat (first | rw [upd_ne (by omega)] | rw [upd_at (by omega)])
      rfl
    · show 0 < lgc (zl S)
      unfold lgc
      split <;> omega
/-! the text of it -/
def chN (k : Nat) : Int32 := if k % 5 = 0 then 115 else if k % 5 = 2 then 116 else if k % 5 = 3 then 49 else 59
def isT (by_ : Nat → Int32) (ln : Nat) : Prop := ∀ k, k < ln → by_ k = chN k
theorem isT_a {by_ : Nat → Int32} {ln p : Nat} (h : isT by_ ln) (hp : p < ln) : txa by_ ln p = chN p := by
  unfold txa
  rw [if_pos hp]
  exact h p hp
theorem ch_0 (t : Nat) : chN (5 * t) = 115 := if_pos (by omega)
theorem ch_1 (t : Nat) : chN (5 * t + 1) = 59 := (if_neg (by omega)).trans ((if_neg (by omega)).trans (if_neg (by omega)))
theorem ch_2 (t : Nat) : chN (5 * t + 2) = 116 := (if_neg (by omega)).trans (if_pos (by omega))
theorem ch_3 (t : Nat) : chN (5 * t + 3) = 49 := (if_neg (by omega)).trans ((if_neg (by omega)).trans (if_pos (by omega)))
theorem ch_4 (t : Nat) : chN (5 * t + 4) = 59 := (if_neg (by omega)).trans ((if_neg (by omega)).trans (if_neg (by omega)))
theorem isT_s {by_ : Nat → Int32} {ln t : Nat} (h : isT by_ ln) (hp : 5 * t + 1 < ln) : rOr by_ ln (5 * t, -1) = ((115, 0, 0, 0, 0, 0), 5 * t + 2, -1) := by
  rw [rOr_s (by rw [isT_a h (by show 5 * t < ln; omega)]; exact ch_0 t), rSg_y rfl (by rw [isT_a h hp]; exact ch_1 t)]
theorem isT_n {by_ : Nat → Int32} {ln t : Nat} (h : isT by_ ln) (hp : 5 * t + 4 < ln) : rNm by_ ln 2 50 (5 * t + 3, -1) = (1, 5 * t + 4, -1) := by
  have d3 : txa by_ ln (5 * t + 3) = 49 := (isT_a h (by omega)).trans (ch_3 t)
  have d4 : txa by_ ln (5 * t + 3 + 1) = 59 := (isT_a h (by omega)).trans (ch_4 t)
  have hd : dlp by_ ln 2 (5 * t + 3) 0 = (5 * t + 4, 1) := by
    show (if isDv (txa by_ ln (5 * t + 3)) = true then dlp by_ ln 1 (5 * t + 3 + 1) (0 * 10 + txa by_ ln (5 * t + 3) - 48) else (5 * t + 3, 0)) = _
    rw [d3, if_pos (by decide)]
    show (if isDv (txa by_ ln (5 * t + 3 + 1)) = true then dlp by_ ln 0 (5 * t + 3 + 1 + 1) ((0 * 10 + 49 - 48) * 10 + txa by_ ln (5 * t + 3 + 1) - 48) else (5 * t + 3 + 1, 0 * 10 + 49 - 48)) = _
    rw [d4, if_neg (by decide)]
    rfl
  rw [rNm_g rfl]
  show ((dlp by_ ln 2 (5 * t + 3) 0).2, (dlp by_ ln 2 (5 * t + 3) 0).1, rEr by_ ln 50 (5 * t + 3) (dlp by_ ln 2 (5 * t + 3) 0) (-1)) = _
  rw [hd]
  show ((1 : Int32), 5 * t + 4, rEr by_ ln 50 (5 * t + 3) (5 * t + 4, 1) (-1)) = _
  have hr : rEr by_ ln 50 (5 * t + 3) (5 * t + 4, 1) (-1) = -1 := by
    unfold rEr
    rw [if_neg (fun q => by
      rcases q with q | q
      · have q : 5 * t + 4 = 5 * t + 3 := q
        omega
      · have q : isDv (txa by_ ln (5 * t + 3 + 1)) = true := q
        rw [d4] at q
        exact absurd q (by decide)), if_neg (show ¬ ((1 : Int32) < 1 ∨ (50 : Int32) < 1) by decide)]
  rw [hr]
theorem isT_t {by_ : Nat → Int32} {ln t : Nat} (h : isT by_ ln) (hp : 5 * t + 4 < ln) : rOr by_ ln (5 * t + 2, -1) = ((116, 0, 0, 0, 0, 1), 5 * (t + 1), -1) := by
  rw [rOr_t (by rw [isT_a h (by show 5 * t + 2 < ln; omega)]; exact ch_2 t)]
  show ((116, 0, 0, 0, 0, (rNm by_ ln 2 50 (5 * t + 3, -1)).1), rSg by_ ln 59 (rNm by_ ln 2 50 (5 * t + 3, -1)).2) = _
  rw [isT_n h hp]
  show ((116, 0, 0, 0, 0, 1), rSg by_ ln 59 (5 * t + 4, -1)) = _
  rw [rSg_y rfl (by rw [isT_a h hp]; exact ch_4 t)]
  rfl
theorem fEr_m {by_ : Nat → Int32} {ln m : Nat} (h : isT by_ ln) (hl : ln = 5 * m + 2) : ∀ (d t u : Nat) (X : RS), t + d = m → X.2 = (5 * t, -1) → 2 * d + 1 ≤ u → xe (fEr by_ ln u X) = -1
  | 0, t, 0, X, _, _, hu => by omega
  | 0, t, u + 1, X, ht, hX, hu => by
    rw [fEr_go (by show X.2.2 = -1; rw [hX]) (by show X.2.1 < ln; rw [hX]; show 5 * t < ln; omega), hX, isT_s h (by omega), fEr_stop (by
      rintro ⟨-, q⟩
      have q : 5 * t + 2 < ln := q
      omega)]
  | d + 1, t, 0, X, _, _, hu => by omega
  | d + 1, t, 1, X, _, _, hu => by omega
  | d + 1, t, u + 2, X, ht, hX, hu => by
    rw [fEr_go (by show X.2.2 = -1; rw [hX]) (by show X.2.1 < ln; rw [hX]; show 5 * t < ln; omega), hX, isT_s h (by omega), fEr_go rfl (by show 5 * t + 2 < ln; omega)]
    show xe (fEr by_ ln u (rOr by_ ln (5 * t + 2, -1))) = -1
    rw [isT_t h (by omega)]
    exact fEr_m h hl d (t + 1) u _ (by omega) rfl (by omega)
theorem cru_m {by_ : Nat → Int32} {ln m : Nat} (h : isT by_ ln) (hl : ln = 5 * m + 2) : ∀ (d t u i : Nat) (X : RS) (S : StT), t + d = m → X.2 = (5 * t, -1) → 2 * d + 1 ≤ u → (∀ s, s ≤ d → ¬ (srv (itr s S)).1 = -1) → (∀ s, s < d → (1 : Int32) ≤ 100000 - zt (srv (itr s S)).2) → ∃ X2, cru by_ ln u i X S = (nI (i + 2 * d + 1), (srv (itr d S)).2, X2)
  | 0, t, 0, i, X, S, _, _, hu, _, _ => by omega
  | 0, t, u + 1, i, X, S, ht, hX, hu, hs, _ => by
    have e := isT_s h (t := t) (by omega)
    have hc := cdo_s (X := rOr by_ ln X.2) (S := S) (by rw [hX, e])
    rw [decide_eq_false (show ¬ (srv S).1 = -1 from hs 0 (Nat.le_refl _))] at hc
    rw [cru_go (by show ¬ ln ≤ X.2.1; rw [hX]; show ¬ ln ≤ 5 * t; omega) (by rw [hc]; rfl), hc, hX, e]
    exact ⟨_, cru_end (by show ln ≤ 5 * t + 2; omega)⟩
  | d + 1, t, 0, i, X, S, _, _, hu, _, _ => by omega
  | d + 1, t, 1, i, X, S, _, _, hu, _, _ => by omega
  | d + 1, t, u + 2, i, X, S, ht, hX, hu, hs, hz => by
    have e := isT_s h (t := t) (by omega)
    have e2 := isT_t h (t := t) (by omega)
    have hc := cdo_s (X := rOr by_ ln X.2) (S := S) (by rw [hX, e])
    rw [decide_eq_false (show ¬ (srv S).1 = -1 from hs 0 (Nat.zero_le _))] at hc
    have hc2 := cdo_t (X := rOr by_ ln (5 * t + 2, -1)) (S := (srv S).2) (by rw [e2]) (by rw [e2]; exact hz 0 (by omega))
    rw [cru_go (by show ¬ ln ≤ X.2.1; rw [hX]; show ¬ ln ≤ 5 * t; omega) (by rw [hc]; rfl), hc, hX, e]
    rw [cru_go (X := ((115, 0, 0, 0, 0, 0), 5 * t + 2, -1)) (by show ¬ ln ≤ 5 * t + 2; omega) (by show (cdo (rOr by_ ln (5 * t + 2, -1)) (srv S).2).1 = true; rw [hc2])]
    show ∃ X2, cru by_ ln u (i + 1 + 1) (rOr by_ ln (5 * t + 2, -1)) (cdo (rOr by_ ln (5 * t + 2, -1)) (srv S).2).2 = _
    rw [hc2, e2]
    obtain ⟨X2, hX2⟩ := cru_m h hl d (t + 1) u (i + 1 + 1) ((116, 0, 0, 0, 0, 1), 5 * (t + 1), -1) (stp S) (by omega) rfl (by omega) (fun s hs9 => hs (s + 1) (by omega)) (fun s hs9 => hz (s + 1) (by omega))
    refine ⟨X2, hX2.trans ?_⟩
    rw [show i + 1 + 1 + 2 * d + 1 = i + 2 * (d + 1) + 1 by omega]
    rfl
/-- what the law asks of the text -/
theorem carry_ok {B T m : Nat} {S : StT} {by_ : Nat → Int32} {ln : Nat} {x : Int32} (h : mO B T S) (hT : T + 100 < 100000) (ht : isT by_ ln) (hl : ln = 5 * m + 2) (hm : m < 19) (hf : ∀ t, t ≤ m → ¬ fnd (zf (itr t S)) x (zn (itr t S)) = none) (Y : Int32 × Int32 × Int32 × Int32 × Int32 × Int32) : xe (fEr by_ ln 100 (Y, 0, -1)) = -1 ∧ ∃ X2, cru by_ ln 100 0 ((fEr by_ ln 100 (Y, 0, -1)).1, 0, -1) S = (nI (2 * m + 1), (srv (itr m S)).2, X2) := by
  refine ⟨fEr_m ht hl m 0 100 (Y, 0, -1) (by omega) rfl (by omega), ?_⟩
  have := cru_m ht hl m 0 100 0 ((fEr by_ ln 100 (Y, 0, -1)).1, 0, -1) S (by omega) rfl (by omega) (fun s hs => srv_some (mO_itr s h) (hf s hs)) (fun s hs => tick_time (mO_srv (mO_itr s h)) (by omega))
  rwa [Nat.zero_add] at this
