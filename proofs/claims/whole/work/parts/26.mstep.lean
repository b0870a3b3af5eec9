/-! steps of the State and of the Model's row -/
theorem upd_at {f : Nat → Int32} {k j : Nat} {x : Int32} (h : j = k) : upd f k x j = x := if_pos h
theorem mE_q {S : StT} {m : Nat → Int32} (h : mE S m) (x : Int32) : mE (zq_ S x) (upd m 8 x) := ⟨(upd_ne (by omega)).trans h.t, (upd_ne (by omega)).trans h.n, (upd_ne (by omega)).trans h.p, fun k hk => (upd_ne (by omega)).trans (h.v k hk), (upd_ne (by omega)).trans h.k, (upd_ne (by omega)).trans h.b, upd_at rfl, (upd_ne (by omega)).trans h.g, (upd_ne (by omega)).trans h.w, (upd_ne (by omega)).trans h.l, fun k hk => (upd_ne (by omega)).trans (h.pat k hk), fun k hk => (upd_ne (by omega)).trans (h.bk k hk), fun k hk => (upd_ne (by omega)).trans (h.lg k hk), fun i c hi hc => (upd_ne (by have := @cM_lt c; omega)).trans (h.row i c hi hc)⟩
theorem mE_g {S : StT} {m : Nat → Int32} (h : mE S m) (x : Int32) : mE (zg_ S x) (upd m 9 x) := ⟨(upd_ne (by omega)).trans h.t, (upd_ne (by omega)).trans h.n, (upd_ne (by omega)).trans h.p, fun k hk => (upd_ne (by omega)).trans (h.v k hk), (upd_ne (by omega)).trans h.k, (upd_ne (by omega)).trans h.b, (upd_ne (by omega)).trans h.q, upd_at rfl, (upd_ne (by omega)).trans h.w, (upd_ne (by omega)).trans h.l, fun k hk => (upd_ne (by omega)).trans (h.pat k hk), fun k hk => (upd_ne (by omega)).trans (h.bk k hk), fun k hk => (upd_ne (by omega)).trans (h.lg k hk), fun i c hi hc => (upd_ne (by have := @cM_lt c; omega)).trans (h.row i c hi hc)⟩
theorem mE_pat {S : StT} {m : Nat → Int32} (h : mE S m) {r : Nat} (hr : r < 4) (x : Int32) : mE (zpat_ S r x) (upd m (12 + r) x) := ⟨(upd_ne (by omega)).trans h.t, (upd_ne (by omega)).trans h.n, (upd_ne (by omega)).trans h.p, fun k hk => (upd_ne (by omega)).trans (h.v k hk), (upd_ne (by omega)).trans h.k, (upd_ne (by omega)).trans h.b, (upd_ne (by omega)).trans h.q, (upd_ne (by omega)).trans h.g, (upd_ne (by omega)).trans h.w, (upd_ne (by omega)).trans h.l, fun k hk => by
  show upd m (12 + r) x (12 + k) = upd (zpat S) r x k
  by_cases e : k = r
  · rw [upd_at (by omega), upd_at e]
  · rw [upd_ne (by omega), upd_ne e]
    exact h.pat k hk, fun k hk => (upd_ne (by omega)).trans (h.bk k hk), fun k hk => (upd_ne (by omega)).trans (h.lg k hk), fun i c hi hc => (upd_ne (by have := @cM_lt c; omega)).trans (h.row i c hi hc)⟩
theorem mE_t {S : StT} {m : Nat → Int32} (h : mE S m) (x : Int32) : mE (zt_ S x) (upd m 0 x) := ⟨upd_at rfl, (upd_ne (by omega)).trans h.n, (upd_ne (by omega)).trans h.p, fun k hk => (upd_ne (by omega)).trans (h.v k hk), (upd_ne (by omega)).trans h.k, (upd_ne (by omega)).trans h.b, (upd_ne (by omega)).trans h.q, (upd_ne (by omega)).trans h.g, (upd_ne (by omega)).trans h.w, (upd_ne (by omega)).trans h.l, fun k hk => (upd_ne (by omega)).trans (h.pat k hk), fun k hk => (upd_ne (by omega)).trans (h.bk k hk), fun k hk => (upd_ne (by omega)).trans (h.lg k hk), fun i c hi hc => (upd_ne (by have := @cM_lt c; omega)).trans (h.row i c hi hc)⟩
theorem mE_put {S : StT} {m : Nat → Int32} (h : mE S m) {i c : Nat} (hi : i < zn S) (hc : c < 8) (x : Int32) : mE (zf_ S (upd (zf S) (i * 8 + c) x)) (upd m (104 + i * 8 + cM c) x) := ⟨(upd_ne (by omega)).trans h.t, (upd_ne (by omega)).trans h.n, (upd_ne (by omega)).trans h.p, fun k hk => (upd_ne (by omega)).trans (h.v k hk), (upd_ne (by omega)).trans h.k, (upd_ne (by omega)).trans h.b, (upd_ne (by omega)).trans h.q, (upd_ne (by omega)).trans h.g, (upd_ne (by omega)).trans h.w, (upd_ne (by omega)).trans h.l, fun k hk => (upd_ne (by omega)).trans (h.pat k hk), fun k hk => (upd_ne (by omega)).trans (h.bk k hk), fun k hk => (upd_ne (by omega)).trans (h.lg k hk), fun j d hj hd => by
  show upd m (104 + i * 8 + cM c) x (104 + j * 8 + cM d) = upd (zf S) (i * 8 + c) x (j * 8 + d)
  by_cases e : j * 8 + d = i * 8 + c
  · have e1 : j = i := by omega
    have e2 : d = c := by omega
    subst e1 e2
    rw [upd_at rfl, upd_at rfl]
  · rw [upd_ne e]
    rw [upd_ne (by unfold cM; omega)]
    exact h.row j d hj hd⟩
/-- only the rows of the box count -/
theorem mE_zf {S : StT} {m : Nat → Int32} (h : mE S m) (g : Nat → Int32) (e : ∀ j c, j < zn S → c < 8 → g (j * 8 + c) = zf S (j * 8 + c)) : mE (zf_ S g) m :=
  ⟨h.t, h.n, h.p, h.v, h.k, h.b, h.q, h.g, h.w, h.l, h.pat, h.bk, h.lg, fun i c hi hc => (h.row i c hi hc).trans (e i c hi hc).symm⟩
/-- a petition comes: the row -/
def cms (m : Nat → Int32) (n : Nat) (p x1 x2 x3 x4 x5 : Int32) : Nat → Int32 := upd (upd (upd (upd (upd (upd (upd (upd (upd (upd m 1 (nI (n + 1))) (104 + n * 8 + 0) p) (104 + n * 8 + 1) x1) (104 + n * 8 + 2) x2) (104 + n * 8 + 3) x3) (104 + n * 8 + 4) 0) (104 + n * 8 + 5) 0) (104 + n * 8 + 6) x4) (104 + n * 8 + 7) x5) 2 (p + 1)
theorem mE_pin {S : StT} {m : Nat → Int32} (h : mE S m) (x1 x2 x3 x4 x5 : Int32) : mE (pinS S x1 x2 x3 x4 x5) (cms m (zn S) (zp S) x1 x2 (if x3 + x5 / 25 < 4 then x3 + x5 / 25 else 4) x4 x5) := ⟨by
  show cms m (zn S) (zp S) x1 x2 (if x3 + x5 / 25 < 4 then x3 + x5 / 25 else 4) x4 x5 0 = _
  unfold cms
  repeat (first | rw [upd_ne (by omega)] | rw [upd_at (by omega)])
  exact h.t,
  by
  show cms m (zn S) (zp S) x1 x2 (if x3 + x5 / 25 < 4 then x3 + x5 / 25 else 4) x4 x5 1 = _
  unfold cms
  repeat (first | rw [upd_ne (by omega)] | rw [upd_at (by omega)])
  rfl,
  by
  show cms m (zn S) (zp S) x1 x2 (if x3 + x5 / 25 < 4 then x3 + x5 / 25 else 4) x4 x5 2 = _
  unfold cms
  repeat (first | rw [upd_ne (by omega)] | rw [upd_at (by omega)])
  rfl,
  fun k hk => by
    show cms m (zn S) (zp S) x1 x2 (if x3 + x5 / 25 < 4 then x3 + x5 / 25 else 4) x4 x5 (3 + k) = _
    unfold cms
    repeat (first | rw [upd_ne (by omega)] | rw [upd_at (by omega)])
    exact h.v k hk,
  by
  show cms m (zn S) (zp S) x1 x2 (if x3 + x5 / 25 < 4 then x3 + x5 / 25 else 4) x4 x5 6 = _
  unfold cms
  repeat (first | rw [upd_ne (by omega)] | rw [upd_at (by omega)])
  exact h.k,
  by
  show cms m (zn S) (zp S) x1 x2 (if x3 + x5 / 25 < 4 then x3 + x5 / 25 else 4) x4 x5 7 = _
  unfold cms
  repeat (first | rw [upd_ne (by omega)] | rw [upd_at (by omega)])
  exact h.b,
  by
  show cms m (zn S) (zp S) x1 x2 (if x3 + x5 / 25 < 4 then x3 + x5 / 25 else 4) x4 x5 8 = _
  unfold cms
  repeat (first | rw [upd_ne (by omega)] | rw [upd_at (by omega)])
  exact h.q,
  by
  show cms m (zn S) (zp S) x1 x2 (if x3 + x5 / 25 < 4 then x3 + x5 / 25 else 4) x4 x5 9 = _
  unfold cms
  repeat (first | rw [upd_ne (by omega)] | rw [upd_at (by omega)])
  exact h.g,
  by
  show cms m (zn S) (zp S) x1 x2 (if x3 + x5 / 25 < 4 then x3 + x5 / 25 else 4) x4 x5 10 = _
  unfold cms
  repeat (first | rw [upd_ne (by omega)] | rw [upd_at (by omega)])
  exact h.w,
  by
  show cms m (zn S) (zp S) x1 x2 (if x3 + x5 / 25 < 4 then x3 + x5 / 25 else 4) x4 x5 11 = _
  unfold cms
  repeat (first | rw [upd_ne (by omega)] | rw [upd_at (by omega)])
  exact h.l,
  fun k hk => by
    show cms m (zn S) (zp S) x1 x2 (if x3 + x5 / 25 < 4 then x3 + x5 / 25 else 4) x4 x5 (12 + k) = _
    unfold cms
    repeat (first | rw [upd_ne (by omega)] | rw [upd_at (by omega)])
    exact h.pat k hk,
  fun k hk => by
    show cms m (zn S) (zp S) x1 x2 (if x3 + x5 / 25 < 4 then x3 + x5 / 25 else 4) x4 x5 (16 + k) = _
    unfold cms
    repeat (first | rw [upd_ne (by omega)] | rw [upd_at (by omega)])
    exact h.bk k hk,
  fun k hk => by
    show cms m (zn S) (zp S) x1 x2 (if x3 + x5 / 25 < 4 then x3 + x5 / 25 else 4) x4 x5 (24 + k) = _
    unfold cms
    repeat (first | rw [upd_ne (by omega)] | rw [upd_at (by omega)])
    exact h.lg k hk,
  fun i c hi hc => by
    have hi : i < zn S + 1 := hi
    show cms m (zn S) (zp S) x1 x2 (if x3 + x5 / 25 < 4 then x3 + x5 / 25 else 4) x4 x5 (104 + i * 8 + cM c) = pin (zf S) (zn S) (zp S) x1 x2 x3 x4 x5 (i * 8 + c)
    have hcm := @cM_lt c
    unfold cms pin
    rcases Nat.lt_or_ge i (zn S) with q | q
    · repeat (first | rw [upd_ne (by omega)] | rw [upd_at (by omega)])
      rw [h.row i c q hc]
      exact (if_neg (by omega)).symm
    · obtain rfl : i = zn S := by omega
      rcases (show c = 0 ∨ c = 1 ∨ c = 2 ∨ c = 3 ∨ c = 4 ∨ c = 5 ∨ c = 6 ∨ c = 7 by omega) with e | e | e | e | e | e | e | e <;> subst e
      · rw [show cM 0 = 1 from rfl]
        repeat (first | rw [upd_ne (by omega)] | rw [upd_at (by omega)])
      · rw [show cM 1 = 2 from rfl]
        repeat (first | rw [upd_ne (by omega)] | rw [upd_at (by omega)])
      · rw [show cM 2 = 3 from rfl]
        repeat (first | rw [upd_ne (by omega)] | rw [upd_at (by omega)])
      · rw [show cM 3 = 4 from rfl]
        repeat (first | rw [upd_ne (by omega)] | rw [upd_at (by omega)])
        exact (if_pos (by omega)).symm
      · rw [show cM 4 = 5 from rfl]
        repeat (first | rw [upd_ne (by omega)] | rw [upd_at (by omega)])
        exact (if_pos (by omega)).symm
      · rw [show cM 5 = 6 from rfl]
        repeat (first | rw [upd_ne (by omega)] | rw [upd_at (by omega)])
      · rw [show cM 6 = 7 from rfl]
        repeat (first | rw [upd_ne (by omega)] | rw [upd_at (by omega)])
      · rw [show cM 7 = 0 from rfl]
        repeat (first | rw [upd_ne (by omega)] | rw [upd_at (by omega)])⟩
theorem sgb_far {bk : Nat → Int32} {i : Nat} {x : Int32} : ∀ {n : Nat}, n ≤ i → sgb (upd bk i x) n = sgb bk n
  | 0, _ => rfl
  | n + 1, h => by
    show sgb (upd bk i x) n + upd bk i x n = sgb bk n + bk n
    rw [sgb_far (by omega), upd_ne (by omega)]
theorem sgb_upd {bk : Nat → Int32} {i : Nat} {x : Int32} : ∀ {n : Nat}, i < n → sgb (upd bk i (bk i + x)) n = sgb bk n + x
  | 0, h => absurd h (Nat.not_lt_zero _)
  | n + 1, h => by
    show sgb (upd bk i (bk i + x)) n + upd bk i (bk i + x) n = sgb bk n + bk n + x
    by_cases e : i = n
    · subst e
      rw [sgb_far (Nat.le_refl _), upd_at rfl, Int32.add_assoc]
    · rw [sgb_upd (by omega), upd_ne (by omega), Int32.add_assoc, Int32.add_assoc, Int32.add_comm x]
def lsh (m : Nat → Int32) (c : Nat) : Nat → Int32 := fun j => if 24 + c < j ∧ j < 104 then m (j - 5) else m j
theorem lsh_0 (m : Nat → Int32) : lsh m 79 = m := by
  funext j
  exact if_neg (by omega)
theorem lsh_s (m : Nat → Int32) {c : Nat} (h : 4 < c + 1) (h2 : c + 1 ≤ 79) : upd (lsh m (c + 1)) (24 + (c + 1)) (lsh m (c + 1) (24 + (c + 1) - 5)) = lsh m c := by
  funext j
  have e : lsh m (c + 1) (24 + (c + 1) - 5) = m (24 + (c + 1) - 5) := if_neg (by omega)
  rw [e]
  by_cases h3 : j = 24 + (c + 1)
  · subst h3
    rw [upd_at rfl]
    exact (if_pos (by omega)).symm
  · rw [upd_ne h3]
    unfold lsh
    by_cases h4 : 24 + (c + 1) < j ∧ j < 104
    · rw [if_pos h4, if_pos (by omega)]
    · rw [if_neg h4, if_neg (by omega)]
theorem lsh_out {m : Nat → Int32} {c j : Nat} (h : j ≤ 24 + c ∨ 104 ≤ j) : lsh m c j = m j := if_neg (by omega)
theorem lsh_in {m : Nat → Int32} {c j : Nat} (h : 24 + c < j) (h2 : j < 104) : lsh m c j = m (j - 5) := if_pos ⟨h, h2⟩
def psh (m : Nat → Int32) (a b : Nat) : Nat → Int32 := fun j => if a ≤ j ∧ j < b then m (j + 8) else m j
theorem psh_0 (m : Nat → Int32) (a : Nat) : psh m a a = m := by
  funext j
  exact if_neg (by omega)
theorem psh_s (m : Nat → Int32) {a b : Nat} (h : a ≤ b) : upd (psh m a b) b (psh m a b (b + 8)) = psh m a (b + 1) := by
  funext j
  have e : psh m a b (b + 8) = m (b + 8) := if_neg (by omega)
  rw [e]
  by_cases h3 : j = b
  · subst h3
    rw [upd_at rfl]
    exact (if_pos (by omega)).symm
  · rw [upd_ne h3]
    unfold psh
    by_cases h4 : a ≤ j ∧ j < b
    · rw [if_pos h4, if_pos (by omega)]
    · rw [if_neg h4, if_neg (by omega)]
theorem psh_out {m : Nat → Int32} {a b j : Nat} (h : j < a ∨ b ≤ j) : psh m a b j = m j := if_neg (by omega)
theorem psh_in {m : Nat → Int32} {a b j : Nat} (h : a ≤ j) (h2 : j < b) : psh m a b j = m (j + 8) := if_pos ⟨h, h2⟩
/-- a petition leaves: the State (the sum of the waits of those served too) -/
def lvS (S : StT) (i w : Nat) : StT := leaveS (zv_ S (zv S + (if w = 0 then zf S (i * 8 + 3) else 0))) i w
theorem lvS_0 (S : StT) (i : Nat) : lvS S i 0 = leaveS (zv_ S (zv S + zf S (i * 8 + 3))) i 0 := rfl
theorem lvS_x (S : StT) (i : Nat) {w : Nat} (h : w ≠ 0) : lvS S i w = leaveS S i w := by
  unfold lvS
  rw [if_neg h, Int32.add_zero]
  rfl
/-- the row, but for the shift of the petitions -/
def lvs (m : Nat → Int32) (S : StT) (i w : Nat) (gb : Int32) : Nat → Int32 := upd (upd (upd (upd (upd (upd (upd (upd (upd (upd (upd (upd (lsh m 4) 24 (zf S (i * 8 + 7))) 25 (nI w)) 26 (zf S (i * 8 + 3))) 27 gb) 28 (zf S (i * 8 + 2))) 11 (nI (lgc (zl S)))) (3 + w) (zlv S w + 1)) 7 (sgb (zbk S) 8 + gb)) 6 (zk S + (zf S (i * 8 + 6) - gb))) (16 + (zf S (i * 8 + 0)).toNatClampNeg) (zbk S (zf S (i * 8 + 0)).toNatClampNeg + gb)) 10 (zv S + (if w = 0 then zf S (i * 8 + 3) else 0))) 1 (nI (zn S - 1))
theorem mE_leave {S : StT} {m : Nat → Int32} (h : mE S m) {i w : Nat} (hi : i < zn S) (hn : zn S ≤ 40) (hw : w < 3) (hsd : (zf S (i * 8 + 0)).toNatClampNeg < 8) : mE (lvS S i w) (psh (lvs m S i w (gbk (zf S) (zg S) i w)) (104 + i * 8) (104 + (zn S - 1) * 8)) := ⟨by
  show psh (lvs m S i w (gbk (zf S) (zg S) i w)) (104 + i * 8) (104 + (zn S - 1) * 8) 0 = _
  rw [psh_out (by omega)]
  unfold lvs
  repeat (first | rw [upd_ne (by omega)] | rw [upd_at (by omega)])
  exact (lsh_out (by omega)).trans h.t,
  by
  show psh (lvs m S i w (gbk (zf S) (zg S) i w)) (104 + i * 8) (104 + (zn S - 1) * 8) 1 = _
  rw [psh_out (by omega)]
  unfold lvs
  repeat (first | rw [upd_ne (by omega)] | rw [upd_at (by omega)])
  rfl,
  by
  show psh (lvs m S i w (gbk (zf S) (zg S) i w)) (104 + i * 8) (104 + (zn S - 1) * 8) 2 = _
  rw [psh_out (by omega)]
  unfold lvs
  repeat (first | rw [upd_ne (by omega)] | rw [upd_at (by omega)])
  exact (lsh_out (by omega)).trans h.p,
  fun k hk => by
    show psh (lvs m S i w (gbk (zf S) (zg S) i w)) (104 + i * 8) (104 + (zn S - 1) * 8) (3 + k) = upd (zlv S) w (zlv S w + 1) k
    rw [psh_out (by omega)]
    unfold lvs
    by_cases e : k = w
    · repeat (first | rw [upd_ne (by omega)] | rw [upd_at (by omega)])
    · repeat (first | rw [upd_ne (by omega)] | rw [upd_at (by omega)])
      exact (lsh_out (by omega)).trans (h.v k hk),
  by
  show psh (lvs m S i w (gbk (zf S) (zg S) i w)) (104 + i * 8) (104 + (zn S - 1) * 8) 6 = _
  rw [psh_out (by omega)]
  unfold lvs
  repeat (first | rw [upd_ne (by omega)] | rw [upd_at (by omega)])
  rfl,
  by
  show psh (lvs m S i w (gbk (zf S) (zg S) i w)) (104 + i * 8) (104 + (zn S - 1) * 8) 7 = _
  rw [psh_out (by omega)]
  unfold lvs
  repeat (first | rw [upd_ne (by omega)] | rw [upd_at (by omega)])
  exact (sgb_upd hsd).symm,
  by
  show psh (lvs m S i w (gbk (zf S) (zg S) i w)) (104 + i * 8) (104 + (zn S - 1) * 8) 8 = _
  rw [psh_out (by omega)]
  unfold lvs
  repeat (first | rw [upd_ne (by omega)] | rw [upd_at (by omega)])
  exact (lsh_out (by omega)).trans h.q,
  by
  show psh (lvs m S i w (gbk (zf S) (zg S) i w)) (104 + i * 8) (104 + (zn S - 1) * 8) 9 = _
  rw [psh_out (by omega)]
  unfold lvs
  repeat (first | rw [upd_ne (by omega)] | rw [upd_at (by omega)])
  exact (lsh_out (by omega)).trans h.g,
  by
  show psh (lvs m S i w (gbk (zf S) (zg S) i w)) (104 + i * 8) (104 + (zn S - 1) * 8) 10 = _
  rw [psh_out (by omega)]
  unfold lvs
  repeat (first | rw [upd_ne (by omega)] | rw [upd_at (by omega)])
  rfl,
  by
  show psh (lvs m S i w (gbk (zf S) (zg S) i w)) (104 + i * 8) (104 + (zn S - 1) * 8) 11 = _
  rw [psh_out (by omega)]
  unfold lvs
  repeat (first | rw [upd_ne (by omega)] | rw [upd_at (by omega)])
  rfl,
  fun k hk => by
    show psh (lvs m S i w (gbk (zf S) (zg S) i w)) (104 + i * 8) (104 + (zn S - 1) * 8) (12 + k) = _
    rw [psh_out (by omega)]
    unfold lvs
    repeat (first | rw [upd_ne (by omega)] | rw [upd_at (by omega)])
    exact (lsh_out (by omega)).trans (h.pat k hk),
  fun k hk => by
    show psh (lvs m S i w (gbk (zf S) (zg S) i w)) (104 + i * 8) (104 + (zn S - 1) * 8) (16 + k) = upd (zbk S) (zf S (i * 8 + 0)).toNatClampNeg (zbk S (zf S (i * 8 + 0)).toNatClampNeg + gbk (zf S) (zg S) i w) k
    rw [psh_out (by omega)]
    unfold lvs
    by_cases e : k = (zf S (i * 8 + 0)).toNatClampNeg
    · repeat (first | rw [upd_ne (by omega)] | rw [upd_at (by omega)])
    · repeat (first | rw [upd_ne (by omega)] | rw [upd_at (by omega)])
      exact (lsh_out (by omega)).trans (h.bk k hk),
  fun k hk => by
    show psh (lvs m S i w (gbk (zf S) (zg S) i w)) (104 + i * 8) (104 + (zn S - 1) * 8) (24 + k) = lga (zlg S) (zf S (i * 8 + 7)) (nI w) (zf S (i * 8 + 3)) (gbk (zf S) (zg S) i w) (zf S (i * 8 + 2)) k
    rw [psh_out (by omega)]
    unfold lvs lga
    rcases Nat.lt_or_ge k 5 with q | q
    · rcases (show k = 0 ∨ k = 1 ∨ k = 2 ∨ k = 3 ∨ k = 4 by omega) with e | e | e | e | e <;> subst e
      · repeat (first | rw [upd_ne (by omega)] | rw [upd_at (by omega)])
      · repeat (first | rw [upd_ne (by omega)] | rw [upd_at (by omega)])
      · repeat (first | rw [upd_ne (by omega)] | rw [upd_at (by omega)])
      · repeat (first | rw [upd_ne (by omega)] | rw [upd_at (by omega)])
      · repeat (first | rw [upd_ne (by omega)] | rw [upd_at (by omega)])
    · repeat (first | rw [upd_ne (by omega)] | rw [upd_at (by omega)])
      rw [lsh_in (by omega) (by omega), pk_cpy_in (by omega) (by omega), show 24 + k - 5 = 24 + (k - 5) by omega, h.lg (k - 5) (by omega), Nat.zero_add],
  fun j c hj hc => by
    have hj : j < zn S - 1 := hj
    show psh (lvs m S i w (gbk (zf S) (zg S) i w)) (104 + i * 8) (104 + (zn S - 1) * 8) (104 + j * 8 + cM c) = rmv (zf S) (zn S) i (j * 8 + c)
    have hcm := @cM_lt c
    rcases Nat.lt_or_ge j i with q | q
    · rw [psh_out (by omega), rmv_lo q hc]
      unfold lvs
      repeat (first | rw [upd_ne (by omega)] | rw [upd_at (by omega)])
      exact (lsh_out (by omega)).trans (h.row j c (by omega) hc)
    · rw [psh_in (by omega) (by omega), rmv_hi q (by omega) hc]
      unfold lvs
      repeat (first | rw [upd_ne (by omega)] | rw [upd_at (by omega)])
      rw [lsh_out (by omega), ← h.row (j + 1) c (by omega) hc]
      exact congrArg m (by omega)⟩
