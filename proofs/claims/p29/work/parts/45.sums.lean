/-! sums -/
theorem sgb_cong {F G : Nat → Int32} : ∀ {n : Nat}, (∀ i, i < n → F i = G i) → sgb F n = sgb G n
  | 0, _ => rfl
  | n + 1, h => by
    show sgb F n + F n = sgb G n + G n
    rw [sgb_cong (n := n) (fun i hi => h i (by omega)), h n (by omega)]
theorem sgb_zero {F : Nat → Int32} : ∀ {n : Nat}, (∀ i, i < n → F i = 0) → sgb F n = 0
  | 0, _ => rfl
  | n + 1, h => by
    show sgb F n + F n = 0
    rw [sgb_zero (n := n) (fun i hi => h i (by omega)), h n (by omega)]
    rfl
theorem sgb_one {F G : Nat → Int32} {n i0 : Nat} {d : Int32} (hi : i0 < n) (h0 : G i0 = F i0 + d) (h : ∀ i, i < n → i ≠ i0 → G i = F i) : sgb G n = sgb F n + d := by
  rw [← sgb_upd (bk := F) (x := d) hi]
  refine sgb_cong (fun i hi2 => ?_)
  by_cases e : i = i0
  · rw [upd_at e, e]
    exact h0
  · rw [upd_ne e]
    exact h i hi2 e
theorem i4 (a b c d : Int32) : a + b + (c + d) = a + c + (b + d) := by
  rw [Int32.add_assoc, Int32.add_assoc, ← Int32.add_assoc b, ← Int32.add_assoc c, Int32.add_comm b c]
theorem sgb_add {F G : Nat → Int32} : ∀ {n : Nat}, sgb (fun i => F i + G i) n = sgb F n + sgb G n
  | 0 => rfl
  | n + 1 => by
    show sgb (fun i => F i + G i) n + (F n + G n) = sgb F n + F n + (sgb G n + G n)
    rw [sgb_add, i4]
theorem smb_sgb (f : Nat → Int32) : ∀ n, smb f n = sgb (fun i => f (i * 8 + 6)) n
  | 0 => rfl
  | n + 1 => by
    show smb f n + f (n * 8 + 6) = sgb (fun i => f (i * 8 + 6)) n + f (n * 8 + 6)
    rw [smb_sgb f n]
/-- the sum over the rows at the first k places -/
def pSum (f : Nat → Int32) (n : Nat) (F : Nat → Int32) (k : Nat) : Int32 := sgb (fun i => if cbf f n i < k then F i else 0) n
theorem pSum_0 (f : Nat → Int32) (n : Nat) (F : Nat → Int32) : pSum f n F 0 = 0 := sgb_zero (fun i hi => if_neg (Nat.not_lt_zero _))
theorem pSum_s {f : Nat → Int32} {n : Nat} {p : Int32} (h : nOK f n p) (hr : ∀ i, i < n → rOK f i) (hn : n ≤ 40) (F : Nat → Int32) {k : Nat} (hk : k < n) : pSum f n F k + F (plc f n k) = pSum f n F (k + 1) := by
  obtain ⟨h1, h2⟩ := plc_ok h hr hn hk
  refine (sgb_one (F := fun i => if cbf f n i < k then F i else 0) (G := fun i => if cbf f n i < k + 1 then F i else 0) (i0 := plc f n k) h1 ?_ (fun i hi hne => ?_)).symm
  · rw [h2, if_pos (by omega), if_neg (by omega), Int32.zero_add]
  · have : cbf f n i ≠ k := fun e => hne (cbf_inj h hr hi h1 (e.trans h2.symm))
    by_cases q : cbf f n i < k
    · rw [if_pos q, if_pos (by omega)]
    · rw [if_neg q, if_neg (by omega)]
theorem pSum_n (f : Nat → Int32) (n : Nat) (F : Nat → Int32) : pSum f n F n = sgb F n := sgb_cong (fun i hi => if_pos (cbf_lt hi))
/-- joint ones -/
def jnt (f : Nat → Int32) (i : Nat) : Int32 := if knd f i = 2 then 1 else 0
theorem knd_2 {f : Nat → Int32} {i : Nat} : knd f i = 2 ↔ ¬ f (i * 8 + 1) = -1 := by
  unfold knd
  by_cases q : f (i * 8 + 1) = -1
  · rw [if_pos q]
    refine ⟨fun e => ?_, fun e => absurd q e⟩
    split at e
    · exact absurd e (by decide)
    · exact absurd e (by decide)
  · rw [if_neg q]
    exact ⟨fun _ => q, fun _ => rfl⟩
theorem knd_1 {f : Nat → Int32} {i : Nat} (h : f (i * 8 + 1) = -1 ∨ f (i * 8 + 6) = 0) : knd f i = 1 ↔ 0 < f (i * 8 + 6) := by
  unfold knd
  by_cases q : f (i * 8 + 1) = -1
  · rw [if_pos q]
    by_cases q2 : 0 < f (i * 8 + 6)
    · rw [if_pos q2]
      exact ⟨fun _ => q2, fun _ => rfl⟩
    · rw [if_neg q2]
      exact ⟨fun e => absurd e (by decide), fun e => absurd e q2⟩
  · rw [if_neg q]
    rcases h with h | h
    · exact absurd h q
    · rw [h]
      exact ⟨fun e => absurd e (by decide), fun e => absurd e (by decide)⟩
theorem of1 : ∀ s : Fin 8, sgb (fun k => if decide (nI s.1 = nI k ∨ (-1 : Int32) = nI k) = true then 1 else 0) 8 = 1 + 0 := by decide +kernel
theorem of2 : ∀ s t : Fin 8, s ≠ t → sgb (fun k => if decide (nI s.1 = nI k ∨ nI t.1 = nI k) = true then 1 else 0) 8 = 1 + 1 := by decide +kernel
theorem rk1 : ∀ s : Fin 5, sgb (fun k => if decide (nI s.1 = nI k) = true then 1 else 0) 5 = 1 := by decide +kernel
theorem sent_row {f : Nat → Int32} {n : Nat} (h0 : okSd (f (n * 8 + 0))) (hr : rJ f n) : sgb (fun k => if isOf f (nI k) n = true then 1 else 0) 8 = 1 + jnt f n := by
  obtain ⟨s1, s2⟩ := h0
  unfold isOf jnt
  rcases hr.2 with q | ⟨⟨t, t1, t2⟩, t3⟩
  · rw [if_neg (fun e => knd_2.mp e q), q, s1]
    exact of1 ⟨_, s2⟩
  · rw [if_pos (knd_2.mpr (by rw [t2]; exact i32_ne_m1 (by omega))), t2, s1]
    rw [t2, s1] at t3
    exact of2 ⟨_, s2⟩ ⟨t, by omega⟩ (fun e => t3 (congrArg nI (congrArg Fin.val e).symm))
theorem nI_if (a : Nat) (b : Bool) : nI (a + (if b = true then 1 else 0)) = nI a + (if b = true then 1 else 0) := by
  cases b
  · show nI (a + 0) = nI a + 0
    rw [Nat.add_zero, Int32.add_zero]
  · exact (nI_1 a).symm
theorem sent_sum {f : Nat → Int32} : ∀ {n : Nat}, (∀ i, i < n → okSd (f (i * 8 + 0)) ∧ rJ f i) → sgb (fun k => nI (ct (isOf f (nI k)) n)) 8 = nI n + sgb (jnt f) n
  | 0, _ => (sgb_zero (fun _ _ => rfl)).trans (show (0 : Int32) = nI 0 + 0 by decide)
  | n + 1, h => by
    have e : sgb (fun k => nI (ct (isOf f (nI k)) (n + 1))) 8 = sgb (fun k => nI (ct (isOf f (nI k)) n) + (if isOf f (nI k) n = true then 1 else 0)) 8 := sgb_cong (fun k _ => nI_if _ _)
    rw [e, sgb_add, sent_sum (n := n) (fun i hi => h i (by omega)), sent_row (h n (by omega)).1 (h n (by omega)).2, ← nI_1 n, i4]
    rfl
theorem rank_sum {f : Nat → Int32} : ∀ {n : Nat}, (∀ i, i < n → isN (f (i * 8 + 2)) 4) → sgb (fun k => nI (ct (isRk f (nI k)) n)) 5 = nI n
  | 0, _ => sgb_zero (fun _ _ => rfl)
  | n + 1, h => by
    have e : sgb (fun k => nI (ct (isRk f (nI k)) (n + 1))) 5 = sgb (fun k => nI (ct (isRk f (nI k)) n) + (if isRk f (nI k) n = true then 1 else 0)) 5 := sgb_cong (fun k _ => nI_if _ _)
    have e2 : sgb (fun k => if isRk f (nI k) n = true then 1 else 0) 5 = 1 := by
      obtain ⟨r, r1, r2⟩ := h n (by omega)
      unfold isRk
      rw [r2]
      exact rk1 ⟨r, by omega⟩
    rw [e, sgb_add, rank_sum (n := n) (fun i hi => h i (by omega)), e2, nI_1]
/-! the loudest rank -/
theorem ldr_ok {f : Nat → Int32} : ∀ {n : Nat}, (∀ i, i < n → isN (f (i * 8 + 2)) 4) → (n = 0 ∧ ldr f n = -1) ∨ ((∃ i, i < n ∧ ldr f n = f (i * 8 + 2)) ∧ ∀ j, j < n → f (j * 8 + 2) ≤ ldr f n)
  | 0, _ => Or.inl ⟨rfl, rfl⟩
  | n + 1, h => by
    right
    show (∃ i, i < n + 1 ∧ (if ldr f n < f (n * 8 + 2) then f (n * 8 + 2) else ldr f n) = f (i * 8 + 2)) ∧ ∀ j, j < n + 1 → f (j * 8 + 2) ≤ if ldr f n < f (n * 8 + 2) then f (n * 8 + 2) else ldr f n
    rcases ldr_ok (n := n) (fun i hi => h i (by omega)) with ⟨rfl, e⟩ | ⟨⟨i, i1, i2⟩, hj⟩
    · obtain ⟨r, r1, r2⟩ := h 0 (by omega)
      rw [e, if_pos (by rw [r2]; exact Int32.lt_of_lt_of_le (by decide) (nI_pos' (by omega)))]
      refine ⟨⟨0, by omega, rfl⟩, fun j hj => ?_⟩
      obtain rfl : j = 0 := by omega
      exact Int32.le_refl _
    · by_cases q : ldr f n < f (n * 8 + 2)
      · rw [if_pos q]
        refine ⟨⟨n, by omega, rfl⟩, fun j hj2 => ?_⟩
        by_cases e : j = n
        · rw [e]
          exact Int32.le_refl _
        · exact Int32.le_trans (hj j (by omega)) (Int32.le_of_lt q)
      · rw [if_neg q]
        refine ⟨⟨i, by omega, i2⟩, fun j hj2 => ?_⟩
        by_cases e : j = n
        · rw [e]
          exact Int32.not_lt.mp q
        · exact hj j (by omega)
theorem ldr_plc {f : Nat → Int32} {n : Nat} {p : Int32} (h : nOK f n p) (hr : ∀ i, i < n → rOK f i) (hn : n ≤ 40) (h0 : 0 < n) : ldr f n = f (plc f n 0 * 8 + 2) := by
  obtain ⟨h1, h2⟩ := plc_ok h hr hn h0
  rcases ldr_ok (f := f) (n := n) (fun i hi => (hr i hi).1) with ⟨q, -⟩ | ⟨⟨i, i1, i2⟩, hj⟩
  · omega
  · refine Int32.le_antisymm ?_ (hj _ h1)
    rw [i2]
    by_cases e : i = plc f n 0
    · rw [← e]
      exact Int32.le_refl _
    · have hb := bfN_plc h hr h1 i1 (by
        rw [h2]
        rcases Nat.eq_zero_or_pos (cbf f n i) with z | z
        · exact absurd (cbf_inj h hr i1 h1 (z.trans h2.symm)) e
        · exact z)
      rw [(hr i i1).rk.1, (hr _ h1).rk.1]
      have k1 := (hr i i1).rk.2
      have k2 := (hr _ h1).rk.2
      exact nI_le (by unfold bfN at hb; omega) (by omega)
/-! who expires first -/
def lf (f : Nat → Int32) (i : Nat) : Int32 := f (i * 8 + 5) - f (i * 8 + 3)
def fstP (f : Nat → Int32) (n k : Nat) (l x : Int32) : Prop := (k = 0 ∧ l = 300 ∧ x = -1) ∨ ∃ i, i < n ∧ cbf f n i < k ∧ l = lf f i ∧ x = f (i * 8 + 7) ∧ ∀ j, j < n → cbf f n j < k → lf f i < lf f j ∨ (lf f i = lf f j ∧ x ≤ f (j * 8 + 7))
theorem lf_N {f : Nat → Int32} {i : Nat} (h : rOK f i) : ∃ d : Nat, 1 ≤ d ∧ d ≤ 200 ∧ lf f i = nI d := by
  obtain ⟨w, b, w1, w2, w3, w4⟩ := h.2.1
  unfold lf
  rw [w3, w4, pk_sub (by omega)]
  exact ⟨b - w, by omega, by omega, rfl⟩
def fsX (l x a y : Int32) : Int32 := if a < l ∨ (a = l ∧ y < x) then y else x
def fsL (l a : Int32) : Int32 := if a < l then a else l
theorem fst_s {f : Nat → Int32} {n : Nat} {p : Int32} (h : nOK f n p) (hr : ∀ i, i < n → rOK f i) (hn : n ≤ 40) {k : Nat} (hk : k < n) {l x : Int32} (hf : fstP f n k l x) : fstP f n (k + 1) (fsL l (lf f (plc f n k))) (fsX l x (lf f (plc f n k)) (f (plc f n k * 8 + 7))) := by
  obtain ⟨h1, h2⟩ := plc_ok h hr hn hk
  have hcase : ∀ j, j < n → cbf f n j < k + 1 → j = plc f n k ∨ cbf f n j < k := fun j hj hc => by
    by_cases q : cbf f n j < k
    · exact Or.inr q
    · exact Or.inl (cbf_inj h hr hj h1 (by omega))
  right
  rcases hf with ⟨rfl, rfl, rfl⟩ | ⟨i, i1, i2, rfl, rfl, i5⟩
  · obtain ⟨d, d1, d2, d3⟩ := lf_N (hr _ h1)
    have hlt : lf f (plc f n 0) < 300 := by
      rw [d3]
      exact nI_lt (b := 300) (by omega) (by decide)
    refine ⟨plc f n 0, h1, by omega, if_pos hlt, if_pos (Or.inl hlt), fun j hj hc => ?_⟩
    rcases hcase j hj hc with rfl | q
    · exact Or.inr ⟨rfl, by rw [show fsX 300 (-1) _ _ = _ from if_pos (Or.inl hlt)]; exact Int32.le_refl _⟩
    · omega
  · by_cases q : lf f (plc f n k) < lf f i
    · rw [show fsX _ _ _ _ = _ from if_pos (Or.inl q), show fsL _ _ = _ from if_pos q]
      refine ⟨plc f n k, h1, by omega, rfl, rfl, fun j hj hc => ?_⟩
      rcases hcase j hj hc with rfl | z
      · exact Or.inr ⟨rfl, Int32.le_refl _⟩
      · rcases i5 j hj z with z | ⟨z, -⟩
        · exact Or.inl (Int32.lt_trans q z)
        · exact Or.inl (z ▸ q)
    · rw [show fsL _ _ = _ from if_neg q]
      by_cases q2 : lf f (plc f n k) = lf f i ∧ f (plc f n k * 8 + 7) < f (i * 8 + 7)
      · rw [show fsX _ _ _ _ = _ from if_pos (Or.inr q2)]
        refine ⟨plc f n k, h1, by omega, q2.1.symm, rfl, fun j hj hc => ?_⟩
        rcases hcase j hj hc with rfl | z
        · exact Or.inr ⟨rfl, Int32.le_refl _⟩
        · rw [q2.1]
          rcases i5 j hj z with z | ⟨z, z2⟩
          · exact Or.inl z
          · exact Or.inr ⟨z, Int32.le_trans (Int32.le_of_lt q2.2) z2⟩
      · rw [show fsX _ _ _ _ = _ from if_neg (fun z => z.elim q q2)]
        refine ⟨i, i1, by omega, rfl, rfl, fun j hj hc => ?_⟩
        rcases hcase j hj hc with rfl | z
        · rcases Int32.lt_or_le (lf f i) (lf f (plc f n k)) with z | z
          · exact Or.inl z
          · have e : lf f i = lf f (plc f n k) := Int32.le_antisymm (Int32.not_lt.mp q) z
            exact Or.inr ⟨e, Int32.not_lt.mp (fun z2 => q2 ⟨e.symm, z2⟩)⟩
        · exact i5 j hj z
theorem fex_ok {f : Nat → Int32} {n : Nat} (hr : ∀ i, i < n → rOK f i) : ∀ {m : Nat}, m ≤ n → (m = 0 ∧ fex f n m = (201, -1)) ∨ ∃ i, i < m ∧ fex f n m = (lf f i, f (i * 8 + 7)) ∧ ∀ j, j < m → lf f i < lf f j ∨ (lf f i = lf f j ∧ i ≤ j)
  | 0, _ => Or.inl ⟨rfl, rfl⟩
  | m + 1, hm => by
    have ht : tel f n m 7 = lf f m := rfl
    right
    rcases fex_ok hr (m := m) (by omega) with ⟨rfl, e⟩ | ⟨i, i1, i2, i3⟩
    · obtain ⟨d, d1, d2, d3⟩ := lf_N (hr 0 (by omega))
      have hlt : tel f n 0 7 < (fex f n 0).1 := by
        rw [e, ht, d3]
        exact nI_lt (b := 201) (by omega) (by decide)
      refine ⟨0, by omega, fex_t hlt, fun j hj => ?_⟩
      obtain rfl : j = 0 := by omega
      exact Or.inr ⟨rfl, Nat.le_refl _⟩
    · by_cases q : tel f n m 7 < (fex f n m).1
      · refine ⟨m, by omega, fex_t q, fun j hj => ?_⟩
        rw [i2, ht] at q
        by_cases e : j = m
        · subst e
          exact Or.inr ⟨rfl, Nat.le_refl _⟩
        · rcases i3 j (by omega) with z | ⟨z, -⟩
          · exact Or.inl (Int32.lt_trans q z)
          · exact Or.inl (z ▸ q)
      · refine ⟨i, by omega, (fex_f q).trans i2, fun j hj => ?_⟩
        rw [i2, ht] at q
        by_cases e : j = m
        · subst e
          rcases Int32.lt_or_le (lf f i) (lf f j) with z | z
          · exact Or.inl z
          · exact Or.inr ⟨Int32.le_antisymm (Int32.not_lt.mp q) z, by omega⟩
        · exact i3 j (by omega)
theorem fst_fex {f : Nat → Int32} {n : Nat} {p : Int32} (h : nOK f n p) (hr : ∀ i, i < n → rOK f i) {l x : Int32} (hf : fstP f n n l x) : (fex f n n).2 = x := by
  rcases fex_ok hr (Nat.le_refl n) with ⟨h0, e⟩ | ⟨i, i1, i2, i3⟩
  · rcases hf with ⟨-, -, rfl⟩ | ⟨j, j1, -⟩
    · rw [e]
    · omega
  · rcases hf with ⟨h0, -, -⟩ | ⟨j, j1, j2, rfl, rfl, j5⟩
    · omega
    · rw [i2]
      have k := j5 i i1 (cbf_lt i1)
      rcases i3 j j1 with z | ⟨z, z2⟩
      · rcases k with y | ⟨y, -⟩
        · exact absurd (Int32.lt_trans z y) Int32.lt_irrefl
        · rw [y] at z
          exact absurd z Int32.lt_irrefl
      · rcases k with y | ⟨-, y2⟩
        · rw [z] at y
          exact absurd y Int32.lt_irrefl
        · by_cases e : i = j
          · rw [e]
          · exact absurd ((num_lt h i1 j1).mpr (by omega)) (Int32.not_lt.mpr y2)
/-! coins -/
def coins (S : StT) : Int32 := zk S + sgb (zbk S) 8 + smb (zf S) (zn S)
theorem co_leave (k s m f g : Int32) : k + (f - g) + (s + g) + m = k + s + (m + f) := by
  have e : f - g + g = f := Int32.sub_add_cancel f g
  rw [i4 k (f - g) s g, e, Int32.add_assoc (k + s), Int32.add_comm f m]
theorem sgb_rem {F : Nat → Int32} : ∀ {n i : Nat}, i < n + 1 → sgb (fun j => F (sg_ i j)) n + F i = sgb F (n + 1)
  | 0, i, h => by
    obtain rfl : i = 0 := by omega
    rfl
  | n + 1, i, h => by
    by_cases q : i = n + 1
    · subst q
      rw [sgb_cong (F := fun j => F (sg_ (n + 1) j)) (G := F) (fun j hj => congrArg F (if_pos hj))]
      rfl
    · have ih := sgb_rem (F := F) (n := n) (i := i) (by omega)
      show sgb (fun j => F (sg_ i j)) n + F (sg_ i n) + F i = sgb F (n + 1) + F (n + 1)
      rw [← ih, show sg_ i n = n + 1 from if_neg (by omega), Int32.add_assoc, Int32.add_assoc, Int32.add_comm (F i)]
theorem smb_rmv {f : Nat → Int32} {n i : Nat} (hi : i < n) : smb (rmv f n i) (n - 1) + f (i * 8 + 6) = smb f n := by
  rw [smb_sgb, smb_sgb, sgb_cong (G := fun j => (fun i => f (i * 8 + 6)) (sg_ i j)) (fun j hj => rmv_sg hj (by decide))]
  have := sgb_rem (F := fun i => f (i * 8 + 6)) (n := n - 1) (i := i) (by omega)
  rwa [show n - 1 + 1 = n by omega] at this
theorem coins_leave {S : StT} {i w : Nat} (hi : i < zn S) (hs : okSd (zf S (i * 8 + 0))) : coins (leaveS S i w) = coins S := by
  show zk S + (zf S (i * 8 + 6) - gbk (zf S) (zg S) i w) + sgb (upd (zbk S) (zf S (i * 8 + 0)).toNatClampNeg (zbk S (zf S (i * 8 + 0)).toNatClampNeg + gbk (zf S) (zg S) i w)) 8 + smb (rmv (zf S) (zn S) i) (zn S - 1) = zk S + sgb (zbk S) 8 + smb (zf S) (zn S)
  rw [sgb_upd hs.2, co_leave, smb_rmv hi]
theorem coins_gro (S : StT) (i : Nat) : coins (groS S i) = coins S := by
  show zk S + sgb (zbk S) 8 + smb (gro (zpat S) (zf S) i) (zn S) = zk S + sgb (zbk S) 8 + smb (zf S) (zn S)
  rw [smb_sgb, smb_sgb, sgb_cong (fun j hj => gro_ne (by omega) (by omega) (by omega))]
theorem coins_tgo : ∀ (u r : Nat) (S : StT), r + u = zn S → SI S → coins (tgo u r S).2 = coins S
  | 0, r, S, _, _ => rfl
  | u + 1, r, S, hr, h => by
    cases hx : gexp (zf S) r with
    | true =>
      rw [tgo_x hx]
      show coins (tgo u r (leaveS (groS S r) r 1)).2 = coins S
      rw [coins_tgo u r _ (by show r + u = zn S - 1; omega) (SI_leave (SI_gro h)), coins_leave (S := groS S r) (by show r < zn S; omega) ((SI_gro (i := r) h).2.2 r (by show r < zn S; omega)), coins_gro]
    | false =>
      rw [tgo_n hx, coins_tgo u (r + 1) _ (by show r + 1 + u = zn S; omega) (SI_gro h), coins_gro]
theorem coins_tick {S : StT} (h : SI S) : coins (tick1 S).2 = coins S := by
  have e := coins_tgo (zn S) 0 (zt_ S (zt S + 1)) (Nat.zero_add _) (SI_t h)
  have e2 : coins (zt_ S (zt S + 1)) = coins S := rfl
  rw [e2] at e
  exact e
theorem coins_tps {S : StT} (h : SI S) : ∀ k, coins (tps k S).2 = coins S
  | 0 => rfl
  | k + 1 => (coins_tick (SI_tps h k)).trans (coins_tps h k)
theorem coins_srv {S : StT} (h : SI S) : coins (srv S).2 = coins S := by
  cases hq : frs (zf S) (zn S) with
  | none => rw [srv_n hq]
  | some i => rw [srv_s hq]; exact coins_leave (S := zv_ S _) (frs_lt _ _ _ hq) (h.2.2 i (frs_lt _ _ _ hq))
theorem coins_pin {S : StT} {x1 x2 x3 x4 x5 : Int32} : coins (pinS S x1 x2 x3 x4 x5) = coins S + x5 := by
  show zk S + sgb (zbk S) 8 + (smb (pin (zf S) (zn S) (zp S) x1 x2 x3 x4 x5) (zn S) + pin (zf S) (zn S) (zp S) x1 x2 x3 x4 x5 (zn S * 8 + 6)) = zk S + sgb (zbk S) 8 + smb (zf S) (zn S) + x5
  rw [pin_6, smb_sgb, smb_sgb, sgb_cong (G := fun i => zf S (i * 8 + 6)) (fun j hj => pin_old hj (by decide)), ← Int32.add_assoc]
/-! the bribe that leads -/
theorem ldr_d {B T : Nat} {S : StT} (h : JI B T S) : ∃ d : Nat, d ≤ 5 ∧ ldr (zf S) (zn S) + 1 = nI d ∧ (∀ i, i < zn S → ∃ r : Nat, r < d ∧ zf S (i * 8 + 2) = nI r) ∧ (0 < d → ∃ i, i < zn S ∧ zf S (i * 8 + 2) = nI (d - 1)) := by
  rcases ldr_ok (f := zf S) (n := zn S) (fun i hi => (h.o.row i hi).1) with ⟨q, e⟩ | ⟨⟨i, i1, i2⟩, hj⟩
  · refine ⟨0, by omega, by rw [e]; rfl, fun i hi => by omega, fun h => absurd h (Nat.lt_irrefl _)⟩
  · obtain ⟨r, r1, r2⟩ := (h.o.row i i1).1
    refine ⟨r + 1, by omega, by rw [i2, r2, nI_1], fun j hj2 => ?_, fun _ => ⟨i, i1, r2⟩⟩
    obtain ⟨t, t1, t2⟩ := (h.o.row j hj2).1
    have := hj j hj2
    rw [i2, r2, t2] at this
    have := nI_ge' (a := r) (b := t) (by omega) this (by omega)
    exact ⟨t, by omega, t2⟩
theorem brl_0 {d r : Nat} (h : d ≤ r) (hr : r ≤ 4) : brl (nI d) (nI r) = 0 := if_pos (nI_le h (by omega))
theorem brl_x {d r : Nat} (h : 4 < d) (hd : d ≤ 5) (hr : r ≤ 4) : brl (nI d) (nI r) = -1 := (if_neg (nI_ge (by omega) (by omega))).trans (if_pos (nI_lt (a := 4) h (by omega)))
theorem brl_b {d r : Nat} (h : r < d) (hd : d ≤ 4) : brl (nI d) (nI r) = nI ((d - r) * 25) := by
  unfold brl
  rw [if_neg (nI_ge h (by omega)), if_neg (show ¬ (4 : Int32) < nI d from Int32.not_lt.mpr (nI_le (b := 4) hd (by decide))), pk_sub (by omega), show (25 : Int32) = nI 25 from rfl, pk_mul]
theorem lou_eq {r b : Nat} (hr : r ≤ 4) (hb : b ≤ 100) : (if nI r + nI b / 25 < 4 then nI r + nI b / 25 else 4) = nI (if r + b / 25 < 4 then r + b / 25 else 4) := by
  rw [show (25 : Int32) = nI 25 from rfl, pk_div (by omega) (by decide) (by decide), nI_add]
  by_cases q : r + b / 25 < 4
  · rw [if_pos q, if_pos (show nI (r + b / 25) < 4 from nI_lt (b := 4) q (by decide))]
  · rw [if_neg q, if_neg (show ¬ nI (r + b / 25) < 4 from fun z => q ((nI_ltI (b := 4) (by omega) (by decide)).mp z))]
    rfl
/-- the newest row -/
theorem new_rk {f : Nat → Int32} {n e : Nat} {ps x1 x2 x3 x4 x5 : Int32} (he : (if x3 + x5 / 25 < 4 then x3 + x5 / 25 else 4) = nI e) (h4 : e ≤ 4) : rkN (pin f n ps x1 x2 x3 x4 x5) n = e := by
  unfold rkN
  rw [pin_2, he, nI_clamp (by omega)]
theorem new_wt {f : Nat → Int32} {n : Nat} {ps x1 x2 x3 x4 x5 : Int32} : wtN (pin f n ps x1 x2 x3 x4 x5) n = 0 := by
  unfold wtN
  rw [pin_3]
  rfl
theorem lead_T {B T e : Nat} {S : StT} {x1 x2 x3 x4 x5 : Int32} (hS : JI B T (pinS S x1 x2 x3 x4 x5)) (he : (if x3 + x5 / 25 < 4 then x3 + x5 / 25 else 4) = nI e) (h4 : e ≤ 4) (h : ∀ i, i < zn S → ∃ r : Nat, r < e ∧ zf S (i * 8 + 2) = nI r) : plc (pin (zf S) (zn S) (zp S) x1 x2 x3 x4 x5) (zn S + 1) 0 = zn S := by
  obtain ⟨h1, h2⟩ := plc_ok hS.o.num hS.o.row hS.o.n (show 0 < zn S + 1 by omega)
  have h1 : plc (pin (zf S) (zn S) (zp S) x1 x2 x3 x4 x5) (zn S + 1) 0 < zn S + 1 := h1
  have h2 : cbf (pin (zf S) (zn S) (zp S) x1 x2 x3 x4 x5) (zn S + 1) (plc (pin (zf S) (zn S) (zp S) x1 x2 x3 x4 x5) (zn S + 1) 0) = 0 := h2
  generalize plc (pin (zf S) (zn S) (zp S) x1 x2 x3 x4 x5) (zn S + 1) 0 = a at h1 h2 ⊢
  by_cases q : a = zn S
  · exact q
  · exfalso
    obtain ⟨r, r1, r2⟩ := h a (by omega)
    have hb : bfN (pin (zf S) (zn S) (zp S) x1 x2 x3 x4 x5) (zn S) a := by
      left
      rw [new_rk he h4]
      unfold rkN
      rw [pin_old (by omega) (by decide), r2, nI_clamp (by omega)]
      exact r1
    have := cbf_mono hS.o.num hS.o.row (show zn S < zn S + 1 by omega) (show a < zn S + 1 by omega) hb
    have h2 : cbf (zf (pinS S x1 x2 x3 x4 x5)) (zn (pinS S x1 x2 x3 x4 x5)) a = 0 := h2
    omega
theorem lead_F {B T e : Nat} {S : StT} {x1 x2 x3 x4 x5 : Int32} (hS : JI B T (pinS S x1 x2 x3 x4 x5)) (he : (if x3 + x5 / 25 < 4 then x3 + x5 / 25 else 4) = nI e) (h4 : e ≤ 4) {i r : Nat} (hi : i < zn S) (hr : e ≤ r) (hr4 : r ≤ 4) (h : zf S (i * 8 + 2) = nI r) : plc (pin (zf S) (zn S) (zp S) x1 x2 x3 x4 x5) (zn S + 1) 0 ≠ zn S := by
  intro q
  obtain ⟨h1, h2⟩ := plc_ok hS.o.num hS.o.row hS.o.n (show 0 < zn S + 1 by omega)
  have h2 : cbf (pin (zf S) (zn S) (zp S) x1 x2 x3 x4 x5) (zn S + 1) (plc (pin (zf S) (zn S) (zp S) x1 x2 x3 x4 x5) (zn S + 1) 0) = 0 := h2
  rw [q] at h2
  have hb : bfN (pin (zf S) (zn S) (zp S) x1 x2 x3 x4 x5) i (zn S) := by
    have e1 : rkN (pin (zf S) (zn S) (zp S) x1 x2 x3 x4 x5) i = r := by
      unfold rkN
      rw [pin_old hi (by decide), h, nI_clamp (by omega)]
    have e2 := new_rk (f := zf S) (n := zn S) (ps := zp S) (x1 := x1) (x2 := x2) (x4 := x4) he h4
    have e3 := new_wt (f := zf S) (n := zn S) (ps := zp S) (x1 := x1) (x2 := x2) (x3 := x3) (x4 := x4) (x5 := x5)
    unfold bfN
    omega
  have := cbf_mono hS.o.num hS.o.row (show i < zn S + 1 by omega) (show zn S < zn S + 1 by omega) hb
  have h2 : cbf (zf (pinS S x1 x2 x3 x4 x5)) (zn (pinS S x1 x2 x3 x4 x5)) (zn S) = 0 := h2
  omega
