/-! steps of the State -/
theorem upd_at {f : Nat → Int32} {k j : Nat} {x : Int32} (h : j = k) : upd f k x j = x := if_pos h
theorem sgb_far {bk : Nat → Int32} {i : Nat} {x : Int32} : ∀ {n : Nat}, n ≤ i → sgb (upd bk i x) n = sgb bk n
  | 0, _ => rfl
  | n + 1, h => by
    show sgb (upd bk i x) n + upd bk i x n = sgb bk n + bk n
    rw [sgb_far (by omega), upd_ne (by omega)]
theorem sgb_upd {bk : Nat → Int32} {i : Nat} {x : Int32} : ∀ {n : Nat}, i < n → sgb (upd bk i (bk i + x)) n = sgb bk n + x
  | 0, h => absurd h (Nat.not_lt_zero _)
  | n + 1, h => by
    show sgb (upd bk i (bk i + x)) n + upd bk i (bk i + x) n = sgb bk n + bk n + x
    by_cases e : i = n
    · subst e
      rw [sgb_far (Nat.le_refl _), upd_at rfl, Int32.add_assoc]
    · rw [sgb_upd (by omega), upd_ne (by omega), Int32.add_assoc, Int32.add_assoc, Int32.add_comm x]
def lvS (S : StT) (i w : Nat) : StT := leaveS (zv_ S (zv S + (if w = 0 then zf S (i * 8 + 3) else 0))) i w
theorem lvS_0 (S : StT) (i : Nat) : lvS S i 0 = leaveS (zv_ S (zv S + zf S (i * 8 + 3))) i 0 := rfl
theorem lvS_x (S : StT) (i : Nat) {w : Nat} (h : w ≠ 0) : lvS S i w = leaveS S i w := by
  unfold lvS
  rw [if_neg h, Int32.add_zero]
  rfl
