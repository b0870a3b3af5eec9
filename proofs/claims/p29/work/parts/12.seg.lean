/-! worlds in segments -/
section SEG
def flatS : List va_W → va_W
  | [] => []
  | [s] => s
  | s :: t :: r => s ++ flatS (t :: r)
theorem flatS_cons : ∀ (s : va_W) (r : List va_W), flatS (s :: r) = s ++ flatS r
  | s, [] => (List.append_nil s).symm
  | s, t :: r => rfl
theorem flatS_app : ∀ (a b : List va_W), flatS (a ++ b) = flatS a ++ flatS b
  | [], b => rfl
  | s :: a, b => by rw [List.cons_append, flatS_cons, flatS_cons, flatS_app a b, List.append_assoc]
theorem flat_at : ∀ (segs : List va_W) (i j : Nat) (seg : va_W) (q : Nat × va_E), segs[i]? = some seg → seg[j]? = some q → ∃ k : Nat, (flatS segs)[k]? = some q ∧ ∀ x, (flatS segs).set k x = flatS (segs.set i (seg.set j x))
  | [], i, j, seg, q, h, _ => by simp at h
  | s :: r, 0, j, seg, q, h, hq => by
    rw [List.getElem?_cons_zero] at h
    cases h
    have hl := (List.getElem?_eq_some_iff.mp hq).1
    refine ⟨j, ?_, fun x => ?_⟩
    · rw [flatS_cons, List.getElem?_append_left hl]
      exact hq
    · rw [flatS_cons, List.set_cons_zero, flatS_cons, List.set_append_left _ _ hl]
  | s :: r, i + 1, j, seg, q, h, hq => by
    rw [List.getElem?_cons_succ] at h
    obtain ⟨k, h1, h2⟩ := flat_at r i j seg q h hq
    refine ⟨s.length + k, ?_, fun x => ?_⟩
    · rw [flatS_cons, List.getElem?_append_right (by omega), Nat.add_sub_cancel_left]
      exact h1
    · rw [flatS_cons, List.set_cons_succ, flatS_cons, ← h2 x, List.set_append_right _ _ (by omega), Nat.add_sub_cancel_left]
def spick (segs : List va_W) : List Nat → List va_W
  | [] => []
  | i :: is => match segs[i]? with
    | some s => s :: spick segs is
    | none => spick segs is
def sput : List va_W → List Nat → List va_W → List va_W
  | segs, i :: is, x :: xs => sput (segs.set i x) is xs
  | segs, [], _ => segs
  | segs, _ :: _, [] => segs
def srest : List va_W → List Nat → Nat → List va_W
  | [], _, _ => []
  | s :: r, is, o => if o ∈ is then srest r is (o + 1) else s :: srest r is (o + 1)
theorem srest_far : ∀ (segs : List va_W) (i : Nat) (is : List Nat) (o : Nat), i < o → srest segs (i :: is) o = srest segs is o
  | [], i, is, o, h => rfl
  | s :: r, i, is, o, h => by
    unfold srest
    rw [srest_far r i is (o + 1) (by omega)]
    have : (o ∈ i :: is) = (o ∈ is) := by
      rw [List.mem_cons]
      exact propext ⟨fun h' => h'.elim (fun e => by omega) id, Or.inr⟩
    simp only [this]
theorem srest_set : ∀ (segs : List va_W) (i : Nat) (is : List Nat) (x : va_W) (o : Nat), i ∉ is → o ≤ i → i - o < segs.length → (srest (segs.set (i - o) x) is o).Perm (x :: srest segs (i :: is) o)
  | [], i, is, x, o, _, _, hl => by simp at hl
  | s :: r, i, is, x, o, hi, ho, hl => by
    by_cases e : o = i
    · subst e
      rw [Nat.sub_self, List.set_cons_zero]
      unfold srest
      rw [if_neg hi, if_pos List.mem_cons_self, srest_far r o is (o + 1) (by omega)]
    · have e2 : i - o = (i - (o + 1)) + 1 := by omega
      rw [e2, List.set_cons_succ]
      have ih := srest_set r i is x (o + 1) hi (by omega) (by rw [List.length_cons] at hl; omega)
      unfold srest
      by_cases hm : o ∈ is
      · rw [if_pos hm, if_pos (List.mem_cons_of_mem _ hm)]
        exact ih
      · rw [if_neg hm, if_neg (fun h => by rcases List.mem_cons.mp h with h | h; exact e h; exact hm h)]
        exact (ih.cons s).trans (List.Perm.swap x s _)
theorem srest_nil : ∀ (segs : List va_W) (o : Nat), srest segs [] o = segs
  | [], o => rfl
  | s :: r, o => by
    unfold srest
    rw [if_neg List.not_mem_nil, srest_nil r]
theorem sput_perm : ∀ (is : List Nat) (news segs : List va_W), va_nd is = true → (∀ i ∈ is, i < segs.length) → news.length = is.length → (sput segs is news).Perm (news ++ srest segs is 0)
  | [], [], segs, _, _, _ => by rw [srest_nil]; exact List.Perm.refl _
  | [], x :: xs, segs, _, _, hl => by simp at hl
  | i :: is, [], segs, _, _, hl => by simp at hl
  | i :: is, x :: xs, segs, hn, hw, hl => by
    simp only [va_nd, Bool.and_eq_true, decide_eq_true_eq] at hn
    unfold sput
    refine (sput_perm is xs (segs.set i x) hn.2 (fun j hj => by rw [List.length_set]; exact hw j (List.mem_cons_of_mem _ hj)) (by simpa using hl)).trans ?_
    have h1 := srest_set segs i is x 0 hn.1 (Nat.zero_le _) (hw i List.mem_cons_self)
    rw [Nat.sub_zero] at h1
    exact (h1.append_left xs).trans List.perm_middle
theorem spick_len : ∀ (is : List Nat) (segs : List va_W), (∀ i ∈ is, i < segs.length) → (spick segs is).length = is.length
  | [], segs, _ => rfl
  | i :: is, segs, h => by
    unfold spick
    rw [List.getElem?_eq_getElem (h i List.mem_cons_self)]
    dsimp only
    rw [List.length_cons, List.length_cons, spick_len is segs (fun j hj => h j (List.mem_cons_of_mem _ hj))]
theorem lset_self {α : Type} : ∀ (l : List α) (i : Nat) (x : α), l[i]? = some x → l.set i x = l
  | [], i, x, h => rfl
  | y :: r, 0, x, h => by
    rw [List.getElem?_cons_zero] at h
    cases h
    rfl
  | y :: r, i + 1, x, h => by
    rw [List.getElem?_cons_succ] at h
    show y :: r.set i x = _
    rw [lset_self r i x h]
theorem sput_self : ∀ (is : List Nat) (segs : List va_W), (∀ i ∈ is, i < segs.length) → sput segs is (spick segs is) = segs
  | [], segs, _ => rfl
  | i :: is, segs, h => by
    have e := List.getElem?_eq_getElem (h i List.mem_cons_self)
    unfold spick
    rw [e]
    dsimp only
    unfold sput
    rw [lset_self segs i _ e]
    exact sput_self is segs (fun j hj => h j (List.mem_cons_of_mem _ hj))
theorem segs_perm (is : List Nat) (segs : List va_W) (hn : va_nd is = true) (hw : ∀ i ∈ is, i < segs.length) : segs.Perm (spick segs is ++ srest segs is 0) := by
  have h := sput_perm is (spick segs is) segs hn hw (spick_len is segs hw)
  rwa [sput_self is segs hw] at h
theorem flatS_perm {a b : List va_W} (h : a.Perm b) : (flatS a).Perm (flatS b) := by
  induction h with
  | nil => exact List.Perm.refl _
  | cons x _ ih => rw [flatS_cons, flatS_cons]; exact ih.append_left x
  | swap x y r =>
    rw [flatS_cons, flatS_cons, flatS_cons, flatS_cons, ← List.append_assoc, ← List.append_assoc]
    exact List.perm_append_comm.append_right _
  | trans _ _ h1 h2 => exact h1.trans h2
theorem va_P_iff {D : va_G} {cl : List vw_C} {ws : va_W} {H : Heap} : va_P D cl ws H ↔ ∀ q ∈ ws, va_at D cl q H :=
  ⟨fun h q hq => by obtain ⟨k, hk⟩ := List.getElem?_of_mem hq; exact h k q hk, fun h k q hk => h q (List.mem_of_getElem? hk)⟩
theorem nodup_ix : ∀ (l : List Nat), l.Nodup ↔ ∀ (i j a : Nat), l[i]? = some a → l[j]? = some a → i = j
  | [] => ⟨fun _ i j a h => by simp at h, fun _ => List.nodup_nil⟩
  | x :: r => by
    rw [List.nodup_cons, nodup_ix r]
    constructor
    · rintro ⟨h1, h2⟩ i j a hi hj
      cases i with
      | zero =>
        cases j with
        | zero => rfl
        | succ j =>
          rw [List.getElem?_cons_zero] at hi
          rw [List.getElem?_cons_succ] at hj
          cases hi
          exact absurd (List.mem_of_getElem? hj) h1
      | succ i =>
        rw [List.getElem?_cons_succ] at hi
        cases j with
        | zero =>
          rw [List.getElem?_cons_zero] at hj
          cases hj
          exact absurd (List.mem_of_getElem? hi) h1
        | succ j =>
          rw [List.getElem?_cons_succ] at hj
          rw [h2 i j a hi hj]
    · intro h
      refine ⟨fun hm => ?_, fun i j a hi hj => ?_⟩
      · obtain ⟨k, hk⟩ := List.getElem?_of_mem hm
        have := h 0 (k + 1) x (by simp) (by simpa using hk)
        omega
      · have := h (i + 1) (j + 1) a (by simpa using hi) (by simpa using hj)
        omega
theorem va_D_iff {A : Nat → Prop} {ws : va_W} : va_D A ws ↔ (ws.map (fun q => q.1)).Nodup ∧ ∀ q ∈ ws, A q.1 := by
  rw [nodup_ix]
  constructor
  · intro h
    refine ⟨fun i j a hi hj => ?_, fun q hq => by obtain ⟨k, hk⟩ := List.getElem?_of_mem hq; exact h.2 k q hk⟩
    rw [List.getElem?_map] at hi hj
    cases h1 : ws[i]? with
    | none => rw [h1] at hi; cases hi
    | some x =>
      cases h2 : ws[j]? with
      | none => rw [h2] at hj; cases hj
      | some y =>
        rw [h1] at hi
        rw [h2] at hj
        exact h.1 i j x y h1 h2 ((Option.some.inj hi).trans (Option.some.inj hj).symm)
  · intro h
    refine ⟨fun i j x y hi hj hxy => ?_, fun k q hk => h.2 q (List.mem_of_getElem? hk)⟩
    exact h.1 i j x.1 (by rw [List.getElem?_map, hi]; rfl) (by rw [List.getElem?_map, hj, hxy]; rfl)
theorem va_P_perm {D : va_G} {cl : List vw_C} {a b : va_W} {H : Heap} (h : a.Perm b) (hP : va_P D cl a H) : va_P D cl b H := va_P_iff.mpr (fun q hq => va_P_iff.mp hP q (h.mem_iff.mpr hq))
theorem va_D_perm {A : Nat → Prop} {a b : va_W} (h : a.Perm b) (hD : va_D A a) : va_D A b := by
  obtain ⟨h1, h2⟩ := va_D_iff.mp hD
  exact va_D_iff.mpr ⟨(h.map _).nodup_iff.mp h1, fun q hq => h2 q (h.mem_iff.mpr hq)⟩
theorem va_P_l {D : va_G} {cl : List vw_C} {a b : va_W} {H : Heap} (hP : va_P D cl (a ++ b) H) : va_P D cl a H := va_P_iff.mpr (fun q hq => va_P_iff.mp hP q (List.mem_append_left _ hq))
theorem va_P_r {D : va_G} {cl : List vw_C} {a b : va_W} {H : Heap} (hP : va_P D cl (a ++ b) H) : va_P D cl b H := va_P_iff.mpr (fun q hq => va_P_iff.mp hP q (List.mem_append_right _ hq))
theorem va_D_l {A : Nat → Prop} {a b : va_W} (hD : va_D A (a ++ b)) : va_D A a := by
  obtain ⟨h1, h2⟩ := va_D_iff.mp hD
  rw [List.map_append, List.nodup_append] at h1
  exact va_D_iff.mpr ⟨h1.1, fun q hq => h2 q (List.mem_append_left _ hq)⟩
theorem va_D_r {A : Nat → Prop} {a b : va_W} (hD : va_D A (a ++ b)) : va_D A b := by
  obtain ⟨h1, h2⟩ := va_D_iff.mp hD
  rw [List.map_append, List.nodup_append] at h1
  exact va_D_iff.mpr ⟨h1.2.1, fun q hq => h2 q (List.mem_append_right _ hq)⟩
theorem va_A_mem {ws : va_W} {sz q : Nat} : va_A ws sz q ↔ (∃ e, (q, e) ∈ ws) ∨ sz ≤ q :=
  ⟨fun h => h.imp (fun ⟨k, e, hk⟩ => ⟨e, List.mem_of_getElem? hk⟩) id, fun h => h.imp (fun ⟨e, he⟩ => by obtain ⟨k, hk⟩ := List.getElem?_of_mem he; exact ⟨k, e, hk⟩) id⟩
/-- behind a call: the rest of the world, and the callee's -/
theorem seg_ok {A0 : Nat → Prop} {D : va_G} {cl : List vw_C} {wc w1 rest : va_W} {H H1 : Heap} (hP : va_P D cl (wc ++ rest) H) (hD : va_D A0 (wc ++ rest))
    (hk : ∀ q : Nat, q < H.size → ¬ va_A wc H.size q → H1[q]? = H[q]?) (hF : ∀ q, va_A wc H.size q → A0 q) (hP1 : va_P D cl w1 H1) (hD1 : va_D (va_A wc H.size) w1) : va_P D cl (w1 ++ rest) H1 ∧ va_D A0 (w1 ++ rest) := by
  obtain ⟨d1, d2⟩ := va_D_iff.mp hD
  rw [List.map_append, List.nodup_append] at d1
  obtain ⟨e1, e2⟩ := va_D_iff.mp hD1
  have apart : ∀ q ∈ rest, q.1 < H.size ∧ ¬ va_A wc H.size q.1 := by
    intro q hq
    have hlt := (va_P_iff.mp hP q (List.mem_append_right _ hq)).lt
    refine ⟨hlt, fun h => ?_⟩
    rcases va_A_mem.mp h with ⟨e, he⟩ | h
    · exact d1.2.2 q.1 (List.mem_map.mpr ⟨(q.1, e), he, rfl⟩) q.1 (List.mem_map.mpr ⟨q, hq, rfl⟩) rfl
    · omega
  refine ⟨va_P_iff.mpr (fun q hq => ?_), va_D_iff.mpr ⟨?_, fun q hq => ?_⟩⟩
  · rcases List.mem_append.mp hq with h | h
    · exact va_P_iff.mp hP1 q h
    · obtain ⟨g1, g2⟩ := apart q h
      exact (va_P_iff.mp hP q (List.mem_append_right _ h)).kept (hk q.1 g1 g2)
  · rw [List.map_append, List.nodup_append]
    refine ⟨e1, d1.2.1, fun a ha b hb hab => ?_⟩
    obtain ⟨x, hx, rfl⟩ := List.mem_map.mp ha
    obtain ⟨y, hy, rfl⟩ := List.mem_map.mp hb
    exact (apart y hy).2 (by rw [← hab]; exact e2 x hx)
  · rcases List.mem_append.mp hq with h | h
    · exact hF q.1 (e2 q h)
    · exact d2 q (List.mem_append_right _ h)
theorem free_of {A0 : Nat → Prop} {wc rest : va_W} {H0 H : Heap} {locs : List Loc} (hD : va_D A0 (wc ++ rest)) (hS : va_S A0 H0 H locs) (hA : ∀ q, H0.size ≤ q → A0 q) : ∀ q, va_A wc H.size q → A0 q := by
  intro q h
  rcases va_A_mem.mp h with ⟨e, he⟩ | h
  · exact (va_D_iff.mp hD).2 (q, e) (List.mem_append_left _ he)
  · exact hA q (Nat.le_trans hS.1 h)

variable {p : Program} {l : Launch} {e : Env} {R : Room} {s : State} {m : MethodId} {args : Array Value} {below : List Frame} {meth : Method} {c : Code} {D : va_G} {tys : List (ClassId × FieldType)} {A : Nat → Prop} {H0 : Heap} {nL k n : Nat} {Q : State → Prop} {segs : List va_W} {seg : va_W} {L : List (Nat × Value)} {st : List Value} {cc : ByteArray} {own : String} {Ts : List Cond}
theorem sg_get (pc i0 q0 j : Nat) {ref Cn : String} {T : u_T} {N ci index a : Nat} {fs : List Value} {v : Value} (C : CC p s m args c cc nL own Ts D tys A H0) (d : decode cc pc = .ok (.getfield index, 3)) (hs : segs[i0]? = some seg) (he : seg[q0]? = some (a, .inr (ci, fs))) (hv : fs[j]? = some v) (hin : ∀ w ∈ u_ws Cn T N, w ∈ Ts) (hlink : (Cond.fieldLink own index ref (T j).2.1 (T j).2.2.1).before args s = true) (hc : vwCl[ci]? = some (Cn, T, N)) (hj : Nat.blt j N = true) (hsame : ref = (T j).1) (kk : sw p l e R s m args below meth c D A H0 nL k n Q (flatS segs) (pc + 3) L (v :: st)) : sw p l e R s m args below meth c D A H0 nL k n Q (flatS segs) pc L (.ref a :: st) := by
  obtain ⟨k0, h1, -⟩ := flat_at segs i0 q0 seg _ hs he
  exact sw_get pc k0 j C d h1 hv hin hlink hc hj hsame kk
theorem sg_put (pc i0 q0 j : Nat) {ref Cn : String} {T : u_T} {N ci index a : Nat} {fs : List Value} {v : Value} {ty : FieldType} (ty0 : Nat → FieldType) (C : CC p s m args c cc nL own Ts D tys A H0) (d : decode cc pc = .ok (.putfield index, 3)) (hs : segs[i0]? = some seg) (he : seg[q0]? = some (a, .inr (ci, fs))) (hl0 : Nat.blt j fs.length = true) (hin : ∀ w ∈ u_ws Cn T N, w ∈ Ts) (hty : ∀ k, k < N → parseFieldDescriptor (T k).2.2.1 = some (ty0 k)) (hnm : ∀ a, a < N → ∀ b, b < N → a ≠ b → (T a).2.1 ≠ (T b).2.1) (hlink : (Cond.fieldLink own index ref (T j).2.1 (T j).2.2.1).before args s = true) (hc : vwCl[ci]? = some (Cn, T, N)) (hj : Nat.blt j N = true) (hsame : ref = (T j).1) (hfin : (T j).2.2.2 = false) (hd : ty0 j = ty) (hn : narrow ty v = v) (hfit : fits ty v = true) (kk : sw p l e R s m args below meth c D A H0 nL k n Q (flatS (segs.set i0 (seg.set q0 (a, .inr (ci, fs.set j v))))) (pc + 3) L st) : sw p l e R s m args below meth c D A H0 nL k n Q (flatS segs) pc L (v :: .ref a :: st) := by
  obtain ⟨k0, h1, h2⟩ := flat_at segs i0 q0 seg _ hs he
  exact sw_put pc k0 j ty0 C d h1 hl0 hin hty hnm hlink hc hj hsame hfin hd hn hfit (by rw [h2]; exact kk)
theorem sg_ialdN (pc i0 q0 t0 u : Nat) {cA : ClassId} {a N : Nat} {f : Nat → Int32} {i : Int32} (C : CC p s m args c cc nL own Ts D tys A H0) (d : decode cc pc = .ok (.iaload, 1)) (hi : i = nI u) (hu : u < N) (hN : Nat.ble N 2147483647 = true) (ht : tys[t0]? = some (cA, .int)) (hs : segs[i0]? = some seg) (ha : seg[q0]? = some (a, .inl (cA, N, .inl f))) (kk : sw p l e R s m args below meth c D A H0 nL k n Q (flatS segs) (pc + 1) L (.int (f u) :: st)) : sw p l e R s m args below meth c D A H0 nL k n Q (flatS segs) pc L (.int i :: .ref a :: st) := by
  obtain ⟨k0, h1, -⟩ := flat_at segs i0 q0 seg _ hs ha
  exact sw_ialdN pc k0 t0 u C d hi hu hN ht h1 kk
theorem sg_iastN (pc i0 q0 t0 u : Nat) {cA : ClassId} {a N : Nat} {f : Nat → Int32} {i : Int32} {x : Int32} (C : CC p s m args c cc nL own Ts D tys A H0) (d : decode cc pc = .ok (.iastore, 1)) (hi : i = nI u) (hu : u < N) (hN : Nat.ble N 2147483647 = true) (ht : tys[t0]? = some (cA, .int)) (hs : segs[i0]? = some seg) (ha : seg[q0]? = some (a, .inl (cA, N, .inl f))) (kk : sw p l e R s m args below meth c D A H0 nL k n Q (flatS (segs.set i0 (seg.set q0 (a, .inl (cA, N, .inl (upd f u x)))))) (pc + 1) L st) : sw p l e R s m args below meth c D A H0 nL k n Q (flatS segs) pc L (.int x :: .int i :: .ref a :: st) := by
  obtain ⟨k0, h1, h2⟩ := flat_at segs i0 q0 seg _ hs ha
  exact sw_iastN pc k0 t0 u C d hi hu hN ht h1 (by rw [h2]; exact kk)
theorem sg_laldN (pc i0 q0 t0 u : Nat) {cA : ClassId} {a N : Nat} {f : Nat → Int64} {i : Int32} (C : CC p s m args c cc nL own Ts D tys A H0) (d : decode cc pc = .ok (.laload, 1)) (hi : i = nI u) (hu : u < N) (hN : Nat.ble N 2147483647 = true) (ht : tys[t0]? = some (cA, .long)) (hs : segs[i0]? = some seg) (ha : seg[q0]? = some (a, .inl (cA, N, .inr (.inl f)))) (kk : sw p l e R s m args below meth c D A H0 nL k n Q (flatS segs) (pc + 1) L (.long (f u) :: st)) : sw p l e R s m args below meth c D A H0 nL k n Q (flatS segs) pc L (.int i :: .ref a :: st) := by
  obtain ⟨k0, h1, -⟩ := flat_at segs i0 q0 seg _ hs ha
  exact sw_laldN pc k0 t0 u C d hi hu hN ht h1 kk
theorem sg_lastN (pc i0 q0 t0 u : Nat) {cA : ClassId} {a N : Nat} {f : Nat → Int64} {i : Int32} {x : Int64} (C : CC p s m args c cc nL own Ts D tys A H0) (d : decode cc pc = .ok (.lastore, 1)) (hi : i = nI u) (hu : u < N) (hN : Nat.ble N 2147483647 = true) (ht : tys[t0]? = some (cA, .long)) (hs : segs[i0]? = some seg) (ha : seg[q0]? = some (a, .inl (cA, N, .inr (.inl f)))) (kk : sw p l e R s m args below meth c D A H0 nL k n Q (flatS (segs.set i0 (seg.set q0 (a, .inl (cA, N, .inr (.inl (vp_updL f u x))))))) (pc + 1) L st) : sw p l e R s m args below meth c D A H0 nL k n Q (flatS segs) pc L (.long x :: .int i :: .ref a :: st) := by
  obtain ⟨k0, h1, h2⟩ := flat_at segs i0 q0 seg _ hs ha
  exact sw_lastN pc k0 t0 u C d hi hu hN ht h1 (by rw [h2]; exact kk)
theorem sg_aald (pc i0 q0 t0 : Nat) {cA : ClassId} {Cn : String} {a N b : Nat} {f : Nat → Option Nat} {i : Int32} (C : CC p s m args c cc nL own Ts D tys A H0) (d : decode cc pc = .ok (.aaload, 1)) (hin : vp_in i N) (hf : f i.toNatClampNeg = some b) (ht : tys[t0]? = some (cA, .object Cn)) (hs : segs[i0]? = some seg) (ha : seg[q0]? = some (a, .inl (cA, N, .inr (.inr (.inr (.inr f)))))) (kk : sw p l e R s m args below meth c D A H0 nL k n Q (flatS segs) (pc + 1) L (.ref b :: st)) : sw p l e R s m args below meth c D A H0 nL k n Q (flatS segs) pc L (.int i :: .ref a :: st) := by
  obtain ⟨k0, h1, -⟩ := flat_at segs i0 q0 seg _ hs ha
  exact sw_aald pc k0 t0 C d hin hf ht h1 kk
theorem sg_alen (pc i0 q0 t0 : Nat) {cA : ClassId} {a : Nat} {x : vp_A} {ty : FieldType} (C : CC p s m args c cc nL own Ts D tys A H0) (v : Int32) (d : decode cc pc = .ok (.arraylength, 1)) (ht : tys[t0]? = some (cA, ty)) (hs : segs[i0]? = some seg) (ha : seg[q0]? = some (a, .inl (cA, x))) (hv : Int32.ofNat x.1 = v) (kk : sw p l e R s m args below meth c D A H0 nL k n Q (flatS segs) (pc + 1) L (.int v :: st)) : sw p l e R s m args below meth c D A H0 nL k n Q (flatS segs) pc L (.ref a :: st) := by
  obtain ⟨k0, h1, -⟩ := flat_at segs i0 q0 seg _ hs ha
  exact sw_alen pc k0 t0 C v d ht h1 hv kk
theorem sg_segs {pc : Nat} (segs' : List va_W) (h : segs = segs') (kk : sw p l e R s m args below meth c D A H0 nL k n Q (flatS segs') pc L st) : sw p l e R s m args below meth c D A H0 nL k n Q (flatS segs) pc L st := h ▸ kk
theorem sg_callVI (pc : Nat) (is : List Nat) (na rq : Nat) (news : List va_W) {fr lo mc ms maxL index b ci : Nat} {y : MethodName} {bytes : ByteArray} {ret : Option FieldType} {wc : va_W} {x0 : Cond} {As : List Value} {w0 : va_W} {r : Int32} {Cn : String} {T : u_T} {N : Nat} {fs : List Value} (C : CC p s m args c cc nL own (x0 :: lw_all) D tys A H0) (d : decode cc pc = .ok (.invokevirtual index, 3)) (hM : Ct l y (Cond.code y bytes maxL ret) fr lo mc ms D tys (.ref b :: As) wc (pstI r w0)) (g0 : Cond.code y bytes maxL ret ∈ lw_all) (g1 : Cond.methodLink own index y ∈ lw_all) (g2 : Cond.instanceMethod y ∈ lw_all) (g3 : Cond.selects Cn y y ∈ lw_all) (g4 : Cond.initialized Cn ∈ lw_all)
    (hd : y.cls = Cn ∧ y.cls ≠ "java/lang/invoke/MethodHandle" ∧ y.cls ≠ "java/lang/invoke/VarHandle" ∧ (parseMethodDescriptor y.desc).map (fun d => d.parameters.length) = some na) (hna : As.length = na) (hrv : wc[rq]? = some (b, .inr (ci, fs))) (hc : vwCl[ci]? = some (Cn, T, N)) (hR : Nat.ble (fr + 1) R.frames = true ∧ Nat.ble (8 + (maxL + 11) + lo) R.locals = true) (hf : k + mc ≤ R.cells ∧ n + ms ≤ R.slots) (hst : Nat.ble (st.map fun v => v.category).sum 8 = true) (hn : wnd is = true) (hw : wall segs.length is = true) (hln : Nat.beq news.length is.length = true) (hp : flatS (spick segs is) = wc) (hnew : flatS news = w0)
    (kk : sw p l e R s m args below meth c D A H0 nL (k + mc) (n + ms) Q (flatS (sput segs is news)) (pc + 3) L (.int r :: st)) : sw p l e R s m args below meth c D A H0 nL k n Q (flatS segs) pc L (As.reverse ++ .ref b :: st) := by
  have hw' := wall_lt hw
  have hn' := wnd_nd hn
  have hper := (flatS_perm (segs_perm is segs hn' hw')).trans (by rw [flatS_app])
  subst hp
  intro H locs ls hP hD hS hl
  have hPp := va_P_perm hper hP
  have hDp := va_D_perm hper hD
  have hPc := va_P_l hPp
  have hDc := va_D_l hDp
  have hFc := free_of hDp hS C.hA
  have hK := C.hK
  refine va_callg (va_runV (As := As) (rest := st) (C := Cn) C.1 (hM H.size) (cwV na C.hts (goodV g0 g1 g2 g3 g4) rfl rfl rfl hd ⟨Nat.le_of_ble_eq_true hR.1, Nat.le_of_ble_eq_true hR.2⟩) ⟨ctP_blind, va_recv (q := (Cn, T, N)) hK hPc hc hrv, fun U hU hW => ⟨rfl, by rw [hU], by rw [hU]; exact hPc, va_K.moved hW.alike hK, hDc.weaken (fun _ _ _ _ => trivial)⟩⟩ rfl hna hl.1 rfl (lv_room (Nat.le_of_ble_eq_true hst)) d hf) hS (fun q _ h => hFc q h) hFc (fun v w1 H1 locs1 hpost hP1 hD1 hz1 hk1 hS1 => ?_)
  obtain ⟨hv1, hw1⟩ := hpost
  subst hv1
  rw [hw1, ← hnew] at hP1 hD1
  obtain ⟨hP2, hD2⟩ := seg_ok hPp hDp hk1 hFc hP1 hD1
  have hper2 := (flatS_perm (sput_perm is news segs hn' hw' (by rw [Nat.eq_of_beq_eq_true hln]))).trans (by rw [flatS_app])
  exact kk H1 locs1 ls (va_P_perm hper2.symm hP2) (va_D_perm hper2.symm hD2) hS1 hl
theorem sg_callSI (pc : Nat) (is : List Nat) (na : Nat) (news : List va_W) {fr lo mc ms maxL index : Nat} {y : MethodName} {bytes : ByteArray} {ret : Option FieldType} {wc : va_W} {x0 : Cond} {As : List Value} {w0 : va_W} {r : Int32} (C : CC p s m args c cc nL own (x0 :: lw_all) D tys A H0) (d : decode cc pc = .ok (.invokestatic index, 3)) (hM : Ct l y (Cond.code y bytes maxL ret) fr lo mc ms D tys As wc (pstI r w0)) (g0 : Cond.code y bytes maxL ret ∈ lw_all) (g1 : Cond.methodLink own index y ∈ lw_all) (g2 : Cond.static y ∈ lw_all) (g4 : Cond.initialized y.cls ∈ lw_all)
    (hd : y.cls ≠ "java/lang/invoke/MethodHandle" ∧ y.cls ≠ "java/lang/invoke/VarHandle" ∧ (parseMethodDescriptor y.desc).map (fun d => d.parameters.length) = some na) (hna : As.length = na) (hR : Nat.ble (fr + 1) R.frames = true ∧ Nat.ble (8 + (maxL + 11) + lo) R.locals = true) (hf : k + mc ≤ R.cells ∧ n + ms ≤ R.slots) (hst : Nat.ble (st.map fun v => v.category).sum 8 = true) (hn : wnd is = true) (hw : wall segs.length is = true) (hln : Nat.beq news.length is.length = true) (hp : flatS (spick segs is) = wc) (hnew : flatS news = w0)
    (kk : sw p l e R s m args below meth c D A H0 nL (k + mc) (n + ms) Q (flatS (sput segs is news)) (pc + 3) L (.int r :: st)) : sw p l e R s m args below meth c D A H0 nL k n Q (flatS segs) pc L (As.reverse ++ st) := by
  have hw' := wall_lt hw
  have hn' := wnd_nd hn
  have hper := (flatS_perm (segs_perm is segs hn' hw')).trans (by rw [flatS_app])
  subst hp
  intro H locs ls hP hD hS hl
  have hPp := va_P_perm hper hP
  have hDp := va_D_perm hper hD
  have hPc := va_P_l hPp
  have hDc := va_D_l hDp
  have hFc := free_of hDp hS C.hA
  have hK := C.hK
  refine va_callg (va_runS (As := As) (rest := st) C.1 (hM H.size) (va_cwS na C.hts (goodS g0 g1 g2 g4) rfl rfl rfl hd ⟨Nat.le_of_ble_eq_true hR.1, Nat.le_of_ble_eq_true hR.2⟩) ⟨ctP_blind, fun U hU hW => ⟨rfl, by rw [hU], by rw [hU]; exact hPc, va_K.moved hW.alike hK, hDc.weaken (fun _ _ _ _ => trivial)⟩⟩ rfl hna hl.1 rfl (lv_room (Nat.le_of_ble_eq_true hst)) d hf) hS (fun q _ h => hFc q h) hFc (fun v w1 H1 locs1 hpost hP1 hD1 hz1 hk1 hS1 => ?_)
  obtain ⟨hv1, hw1⟩ := hpost
  subst hv1
  rw [hw1, ← hnew] at hP1 hD1
  obtain ⟨hP2, hD2⟩ := seg_ok hPp hDp hk1 hFc hP1 hD1
  have hper2 := (flatS_perm (sput_perm is news segs hn' hw' (by rw [Nat.eq_of_beq_eq_true hln]))).trans (by rw [flatS_app])
  exact kk H1 locs1 ls (va_P_perm hper2.symm hP2) (va_D_perm hper2.symm hD2) hS1 hl
theorem sg_callVIP (pc : Nat) (is : List Nat) (na rq : Nat) {fr lo mc ms maxL index b ci : Nat} {y : MethodName} {bytes : ByteArray} {ret : Option FieldType} {wc : va_W} {x0 : Cond} {As : List Value} {r : Int32} {Cn : String} {T : u_T} {N : Nat} {fs : List Value} (C : CC p s m args c cc nL own (x0 :: lw_all) D tys A H0) (d : decode cc pc = .ok (.invokevirtual index, 3)) (hM : Ct l y (Cond.code y bytes maxL ret) fr lo mc ms D tys (.ref b :: As) wc (pstI r wc)) (g0 : Cond.code y bytes maxL ret ∈ lw_all) (g1 : Cond.methodLink own index y ∈ lw_all) (g2 : Cond.instanceMethod y ∈ lw_all) (g3 : Cond.selects Cn y y ∈ lw_all) (g4 : Cond.initialized Cn ∈ lw_all)
    (hd : y.cls = Cn ∧ y.cls ≠ "java/lang/invoke/MethodHandle" ∧ y.cls ≠ "java/lang/invoke/VarHandle" ∧ (parseMethodDescriptor y.desc).map (fun d => d.parameters.length) = some na) (hna : As.length = na) (hrv : wc[rq]? = some (b, .inr (ci, fs))) (hc : vwCl[ci]? = some (Cn, T, N)) (hR : Nat.ble (fr + 1) R.frames = true ∧ Nat.ble (8 + (maxL + 11) + lo) R.locals = true) (hf : k + mc ≤ R.cells ∧ n + ms ≤ R.slots) (hst : Nat.ble (st.map fun v => v.category).sum 8 = true) (hn : wnd is = true) (hw : wall segs.length is = true) (hp : flatS (spick segs is) = wc)
    (kk : sw p l e R s m args below meth c D A H0 nL (k + mc) (n + ms) Q (flatS segs) (pc + 3) L (.int r :: st)) : sw p l e R s m args below meth c D A H0 nL k n Q (flatS segs) pc L (As.reverse ++ .ref b :: st) := by
  have hw' := wall_lt hw
  have hs : sput segs is (spick segs is) = segs := sput_self is segs hw'
  exact sg_callVI pc is na rq (spick segs is) C d hM g0 g1 g2 g3 g4 hd hna hrv hc hR hf hst hn hw (by rw [spick_len is segs hw']; exact Nat.beq_refl _) hp hp (by rw [hs]; exact kk)
theorem sg_callSIP (pc : Nat) (is : List Nat) (na : Nat) {fr lo mc ms maxL index : Nat} {y : MethodName} {bytes : ByteArray} {ret : Option FieldType} {wc : va_W} {x0 : Cond} {As : List Value} {r : Int32} (C : CC p s m args c cc nL own (x0 :: lw_all) D tys A H0) (d : decode cc pc = .ok (.invokestatic index, 3)) (hM : Ct l y (Cond.code y bytes maxL ret) fr lo mc ms D tys As wc (pstI r wc)) (g0 : Cond.code y bytes maxL ret ∈ lw_all) (g1 : Cond.methodLink own index y ∈ lw_all) (g2 : Cond.static y ∈ lw_all) (g4 : Cond.initialized y.cls ∈ lw_all)
    (hd : y.cls ≠ "java/lang/invoke/MethodHandle" ∧ y.cls ≠ "java/lang/invoke/VarHandle" ∧ (parseMethodDescriptor y.desc).map (fun d => d.parameters.length) = some na) (hna : As.length = na) (hR : Nat.ble (fr + 1) R.frames = true ∧ Nat.ble (8 + (maxL + 11) + lo) R.locals = true) (hf : k + mc ≤ R.cells ∧ n + ms ≤ R.slots) (hst : Nat.ble (st.map fun v => v.category).sum 8 = true) (hn : wnd is = true) (hw : wall segs.length is = true) (hp : flatS (spick segs is) = wc)
    (kk : sw p l e R s m args below meth c D A H0 nL (k + mc) (n + ms) Q (flatS segs) (pc + 3) L (.int r :: st)) : sw p l e R s m args below meth c D A H0 nL k n Q (flatS segs) pc L (As.reverse ++ st) := by
  have hw' := wall_lt hw
  have hs : sput segs is (spick segs is) = segs := sput_self is segs hw'
  exact sg_callSI pc is na (spick segs is) C d hM g0 g1 g2 g4 hd hna hR hf hst hn hw (by rw [spick_len is segs hw']; exact Nat.beq_refl _) hp hp (by rw [hs]; exact kk)
theorem sg_callVV (pc : Nat) (is : List Nat) (na rq : Nat) (news : List va_W) {fr lo mc ms maxL index b ci : Nat} {y : MethodName} {bytes : ByteArray} {ret : Option FieldType} {wc : va_W} {x0 : Cond} {As : List Value} {w0 : va_W} {Cn : String} {T : u_T} {N : Nat} {fs : List Value} (C : CC p s m args c cc nL own (x0 :: lw_all) D tys A H0) (d : decode cc pc = .ok (.invokevirtual index, 3)) (hM : Ct l y (Cond.code y bytes maxL ret) fr lo mc ms D tys (.ref b :: As) wc (pstV w0)) (g0 : Cond.code y bytes maxL ret ∈ lw_all) (g1 : Cond.methodLink own index y ∈ lw_all) (g2 : Cond.instanceMethod y ∈ lw_all) (g3 : Cond.selects Cn y y ∈ lw_all) (g4 : Cond.initialized Cn ∈ lw_all)
    (hd : y.cls = Cn ∧ y.cls ≠ "java/lang/invoke/MethodHandle" ∧ y.cls ≠ "java/lang/invoke/VarHandle" ∧ (parseMethodDescriptor y.desc).map (fun d => d.parameters.length) = some na) (hna : As.length = na) (hrv : wc[rq]? = some (b, .inr (ci, fs))) (hc : vwCl[ci]? = some (Cn, T, N)) (hR : Nat.ble (fr + 1) R.frames = true ∧ Nat.ble (8 + (maxL + 11) + lo) R.locals = true) (hf : k + mc ≤ R.cells ∧ n + ms ≤ R.slots) (hst : Nat.ble (st.map fun v => v.category).sum 8 = true) (hn : wnd is = true) (hw : wall segs.length is = true) (hln : Nat.beq news.length is.length = true) (hp : flatS (spick segs is) = wc) (hnew : flatS news = w0)
    (kk : sw p l e R s m args below meth c D A H0 nL (k + mc) (n + ms) Q (flatS (sput segs is news)) (pc + 3) L st) : sw p l e R s m args below meth c D A H0 nL k n Q (flatS segs) pc L (As.reverse ++ .ref b :: st) := by
  have hw' := wall_lt hw
  have hn' := wnd_nd hn
  have hper := (flatS_perm (segs_perm is segs hn' hw')).trans (by rw [flatS_app])
  subst hp
  intro H locs ls hP hD hS hl
  have hPp := va_P_perm hper hP
  have hDp := va_D_perm hper hD
  have hPc := va_P_l hPp
  have hDc := va_D_l hDp
  have hFc := free_of hDp hS C.hA
  have hK := C.hK
  refine va_callg (va_runV (As := As) (rest := st) (C := Cn) C.1 (hM H.size) (cwV na C.hts (goodV g0 g1 g2 g3 g4) rfl rfl rfl hd ⟨Nat.le_of_ble_eq_true hR.1, Nat.le_of_ble_eq_true hR.2⟩) ⟨ctP_blind, va_recv (q := (Cn, T, N)) hK hPc hc hrv, fun U hU hW => ⟨rfl, by rw [hU], by rw [hU]; exact hPc, va_K.moved hW.alike hK, hDc.weaken (fun _ _ _ _ => trivial)⟩⟩ rfl hna hl.1 rfl (lv_room (Nat.le_of_ble_eq_true hst)) d hf) hS (fun q _ h => hFc q h) hFc (fun v w1 H1 locs1 hpost hP1 hD1 hz1 hk1 hS1 => ?_)
  obtain ⟨hv1, hw1⟩ := hpost
  subst hv1
  rw [hw1, ← hnew] at hP1 hD1
  obtain ⟨hP2, hD2⟩ := seg_ok hPp hDp hk1 hFc hP1 hD1
  have hper2 := (flatS_perm (sput_perm is news segs hn' hw' (by rw [Nat.eq_of_beq_eq_true hln]))).trans (by rw [flatS_app])
  exact kk H1 locs1 ls (va_P_perm hper2.symm hP2) (va_D_perm hper2.symm hD2) hS1 hl
theorem sg_callSV (pc : Nat) (is : List Nat) (na : Nat) (news : List va_W) {fr lo mc ms maxL index : Nat} {y : MethodName} {bytes : ByteArray} {ret : Option FieldType} {wc : va_W} {x0 : Cond} {As : List Value} {w0 : va_W} (C : CC p s m args c cc nL own (x0 :: lw_all) D tys A H0) (d : decode cc pc = .ok (.invokestatic index, 3)) (hM : Ct l y (Cond.code y bytes maxL ret) fr lo mc ms D tys As wc (pstV w0)) (g0 : Cond.code y bytes maxL ret ∈ lw_all) (g1 : Cond.methodLink own index y ∈ lw_all) (g2 : Cond.static y ∈ lw_all) (g4 : Cond.initialized y.cls ∈ lw_all)
    (hd : y.cls ≠ "java/lang/invoke/MethodHandle" ∧ y.cls ≠ "java/lang/invoke/VarHandle" ∧ (parseMethodDescriptor y.desc).map (fun d => d.parameters.length) = some na) (hna : As.length = na) (hR : Nat.ble (fr + 1) R.frames = true ∧ Nat.ble (8 + (maxL + 11) + lo) R.locals = true) (hf : k + mc ≤ R.cells ∧ n + ms ≤ R.slots) (hst : Nat.ble (st.map fun v => v.category).sum 8 = true) (hn : wnd is = true) (hw : wall segs.length is = true) (hln : Nat.beq news.length is.length = true) (hp : flatS (spick segs is) = wc) (hnew : flatS news = w0)
    (kk : sw p l e R s m args below meth c D A H0 nL (k + mc) (n + ms) Q (flatS (sput segs is news)) (pc + 3) L st) : sw p l e R s m args below meth c D A H0 nL k n Q (flatS segs) pc L (As.reverse ++ st) := by
  have hw' := wall_lt hw
  have hn' := wnd_nd hn
  have hper := (flatS_perm (segs_perm is segs hn' hw')).trans (by rw [flatS_app])
  subst hp
  intro H locs ls hP hD hS hl
  have hPp := va_P_perm hper hP
  have hDp := va_D_perm hper hD
  have hPc := va_P_l hPp
  have hDc := va_D_l hDp
  have hFc := free_of hDp hS C.hA
  have hK := C.hK
  refine va_callg (va_runS (As := As) (rest := st) C.1 (hM H.size) (va_cwS na C.hts (goodS g0 g1 g2 g4) rfl rfl rfl hd ⟨Nat.le_of_ble_eq_true hR.1, Nat.le_of_ble_eq_true hR.2⟩) ⟨ctP_blind, fun U hU hW => ⟨rfl, by rw [hU], by rw [hU]; exact hPc, va_K.moved hW.alike hK, hDc.weaken (fun _ _ _ _ => trivial)⟩⟩ rfl hna hl.1 rfl (lv_room (Nat.le_of_ble_eq_true hst)) d hf) hS (fun q _ h => hFc q h) hFc (fun v w1 H1 locs1 hpost hP1 hD1 hz1 hk1 hS1 => ?_)
  obtain ⟨hv1, hw1⟩ := hpost
  subst hv1
  rw [hw1, ← hnew] at hP1 hD1
  obtain ⟨hP2, hD2⟩ := seg_ok hPp hDp hk1 hFc hP1 hD1
  have hper2 := (flatS_perm (sput_perm is news segs hn' hw' (by rw [Nat.eq_of_beq_eq_true hln]))).trans (by rw [flatS_app])
  exact kk H1 locs1 ls (va_P_perm hper2.symm hP2) (va_D_perm hper2.symm hD2) hS1 hl
theorem sg_callVL (pc : Nat) (is : List Nat) (na rq : Nat) (news : List va_W) {fr lo mc ms maxL index b ci : Nat} {y : MethodName} {bytes : ByteArray} {ret : Option FieldType} {wc : va_W} {x0 : Cond} {As : List Value} {w0 : va_W} {r : Int64} {Cn : String} {T : u_T} {N : Nat} {fs : List Value} (C : CC p s m args c cc nL own (x0 :: lw_all) D tys A H0) (d : decode cc pc = .ok (.invokevirtual index, 3)) (hM : Ct l y (Cond.code y bytes maxL ret) fr lo mc ms D tys (.ref b :: As) wc (pstL r w0)) (g0 : Cond.code y bytes maxL ret ∈ lw_all) (g1 : Cond.methodLink own index y ∈ lw_all) (g2 : Cond.instanceMethod y ∈ lw_all) (g3 : Cond.selects Cn y y ∈ lw_all) (g4 : Cond.initialized Cn ∈ lw_all)
    (hd : y.cls = Cn ∧ y.cls ≠ "java/lang/invoke/MethodHandle" ∧ y.cls ≠ "java/lang/invoke/VarHandle" ∧ (parseMethodDescriptor y.desc).map (fun d => d.parameters.length) = some na) (hna : As.length = na) (hrv : wc[rq]? = some (b, .inr (ci, fs))) (hc : vwCl[ci]? = some (Cn, T, N)) (hR : Nat.ble (fr + 1) R.frames = true ∧ Nat.ble (8 + (maxL + 11) + lo) R.locals = true) (hf : k + mc ≤ R.cells ∧ n + ms ≤ R.slots) (hst : Nat.ble (st.map fun v => v.category).sum 8 = true) (hn : wnd is = true) (hw : wall segs.length is = true) (hln : Nat.beq news.length is.length = true) (hp : flatS (spick segs is) = wc) (hnew : flatS news = w0)
    (kk : sw p l e R s m args below meth c D A H0 nL (k + mc) (n + ms) Q (flatS (sput segs is news)) (pc + 3) L (.long r :: st)) : sw p l e R s m args below meth c D A H0 nL k n Q (flatS segs) pc L (As.reverse ++ .ref b :: st) := by
  have hw' := wall_lt hw
  have hn' := wnd_nd hn
  have hper := (flatS_perm (segs_perm is segs hn' hw')).trans (by rw [flatS_app])
  subst hp
  intro H locs ls hP hD hS hl
  have hPp := va_P_perm hper hP
  have hDp := va_D_perm hper hD
  have hPc := va_P_l hPp
  have hDc := va_D_l hDp
  have hFc := free_of hDp hS C.hA
  have hK := C.hK
  refine va_callg (va_runV (As := As) (rest := st) (C := Cn) C.1 (hM H.size) (cwV na C.hts (goodV g0 g1 g2 g3 g4) rfl rfl rfl hd ⟨Nat.le_of_ble_eq_true hR.1, Nat.le_of_ble_eq_true hR.2⟩) ⟨ctP_blind, va_recv (q := (Cn, T, N)) hK hPc hc hrv, fun U hU hW => ⟨rfl, by rw [hU], by rw [hU]; exact hPc, va_K.moved hW.alike hK, hDc.weaken (fun _ _ _ _ => trivial)⟩⟩ rfl hna hl.1 rfl (lv_room (Nat.le_of_ble_eq_true hst)) d hf) hS (fun q _ h => hFc q h) hFc (fun v w1 H1 locs1 hpost hP1 hD1 hz1 hk1 hS1 => ?_)
  obtain ⟨hv1, hw1⟩ := hpost
  subst hv1
  rw [hw1, ← hnew] at hP1 hD1
  obtain ⟨hP2, hD2⟩ := seg_ok hPp hDp hk1 hFc hP1 hD1
  have hper2 := (flatS_perm (sput_perm is news segs hn' hw' (by rw [Nat.eq_of_beq_eq_true hln]))).trans (by rw [flatS_app])
  exact kk H1 locs1 ls (va_P_perm hper2.symm hP2) (va_D_perm hper2.symm hD2) hS1 hl
theorem sg_callSL (pc : Nat) (is : List Nat) (na : Nat) (news : List va_W) {fr lo mc ms maxL index : Nat} {y : MethodName} {bytes : ByteArray} {ret : Option FieldType} {wc : va_W} {x0 : Cond} {As : List Value} {w0 : va_W} {r : Int64} (C : CC p s m args c cc nL own (x0 :: lw_all) D tys A H0) (d : decode cc pc = .ok (.invokestatic index, 3)) (hM : Ct l y (Cond.code y bytes maxL ret) fr lo mc ms D tys As wc (pstL r w0)) (g0 : Cond.code y bytes maxL ret ∈ lw_all) (g1 : Cond.methodLink own index y ∈ lw_all) (g2 : Cond.static y ∈ lw_all) (g4 : Cond.initialized y.cls ∈ lw_all)
    (hd : y.cls ≠ "java/lang/invoke/MethodHandle" ∧ y.cls ≠ "java/lang/invoke/VarHandle" ∧ (parseMethodDescriptor y.desc).map (fun d => d.parameters.length) = some na) (hna : As.length = na) (hR : Nat.ble (fr + 1) R.frames = true ∧ Nat.ble (8 + (maxL + 11) + lo) R.locals = true) (hf : k + mc ≤ R.cells ∧ n + ms ≤ R.slots) (hst : Nat.ble (st.map fun v => v.category).sum 8 = true) (hn : wnd is = true) (hw : wall segs.length is = true) (hln : Nat.beq news.length is.length = true) (hp : flatS (spick segs is) = wc) (hnew : flatS news = w0)
    (kk : sw p l e R s m args below meth c D A H0 nL (k + mc) (n + ms) Q (flatS (sput segs is news)) (pc + 3) L (.long r :: st)) : sw p l e R s m args below meth c D A H0 nL k n Q (flatS segs) pc L (As.reverse ++ st) := by
  have hw' := wall_lt hw
  have hn' := wnd_nd hn
  have hper := (flatS_perm (segs_perm is segs hn' hw')).trans (by rw [flatS_app])
  subst hp
  intro H locs ls hP hD hS hl
  have hPp := va_P_perm hper hP
  have hDp := va_D_perm hper hD
  have hPc := va_P_l hPp
  have hDc := va_D_l hDp
  have hFc := free_of hDp hS C.hA
  have hK := C.hK
  refine va_callg (va_runS (As := As) (rest := st) C.1 (hM H.size) (va_cwS na C.hts (goodS g0 g1 g2 g4) rfl rfl rfl hd ⟨Nat.le_of_ble_eq_true hR.1, Nat.le_of_ble_eq_true hR.2⟩) ⟨ctP_blind, fun U hU hW => ⟨rfl, by rw [hU], by rw [hU]; exact hPc, va_K.moved hW.alike hK, hDc.weaken (fun _ _ _ _ => trivial)⟩⟩ rfl hna hl.1 rfl (lv_room (Nat.le_of_ble_eq_true hst)) d hf) hS (fun q _ h => hFc q h) hFc (fun v w1 H1 locs1 hpost hP1 hD1 hz1 hk1 hS1 => ?_)
  obtain ⟨hv1, hw1⟩ := hpost
  subst hv1
  rw [hw1, ← hnew] at hP1 hD1
  obtain ⟨hP2, hD2⟩ := seg_ok hPp hDp hk1 hFc hP1 hD1
  have hper2 := (flatS_perm (sput_perm is news segs hn' hw' (by rw [Nat.eq_of_beq_eq_true hln]))).trans (by rw [flatS_app])
  exact kk H1 locs1 ls (va_P_perm hper2.symm hP2) (va_D_perm hper2.symm hD2) hS1 hl
theorem sg_callVLP (pc : Nat) (is : List Nat) (na rq : Nat) {fr lo mc ms maxL index b ci : Nat} {y : MethodName} {bytes : ByteArray} {ret : Option FieldType} {wc : va_W} {x0 : Cond} {As : List Value} {r : Int64} {Cn : String} {T : u_T} {N : Nat} {fs : List Value} (C : CC p s m args c cc nL own (x0 :: lw_all) D tys A H0) (d : decode cc pc = .ok (.invokevirtual index, 3)) (hM : Ct l y (Cond.code y bytes maxL ret) fr lo mc ms D tys (.ref b :: As) wc (pstL r wc)) (g0 : Cond.code y bytes maxL ret ∈ lw_all) (g1 : Cond.methodLink own index y ∈ lw_all) (g2 : Cond.instanceMethod y ∈ lw_all) (g3 : Cond.selects Cn y y ∈ lw_all) (g4 : Cond.initialized Cn ∈ lw_all)
    (hd : y.cls = Cn ∧ y.cls ≠ "java/lang/invoke/MethodHandle" ∧ y.cls ≠ "java/lang/invoke/VarHandle" ∧ (parseMethodDescriptor y.desc).map (fun d => d.parameters.length) = some na) (hna : As.length = na) (hrv : wc[rq]? = some (b, .inr (ci, fs))) (hc : vwCl[ci]? = some (Cn, T, N)) (hR : Nat.ble (fr + 1) R.frames = true ∧ Nat.ble (8 + (maxL + 11) + lo) R.locals = true) (hf : k + mc ≤ R.cells ∧ n + ms ≤ R.slots) (hst : Nat.ble (st.map fun v => v.category).sum 8 = true) (hn : wnd is = true) (hw : wall segs.length is = true) (hp : flatS (spick segs is) = wc)
    (kk : sw p l e R s m args below meth c D A H0 nL (k + mc) (n + ms) Q (flatS segs) (pc + 3) L (.long r :: st)) : sw p l e R s m args below meth c D A H0 nL k n Q (flatS segs) pc L (As.reverse ++ .ref b :: st) := by
  have hw' := wall_lt hw
  have hs : sput segs is (spick segs is) = segs := sput_self is segs hw'
  exact sg_callVL pc is na rq (spick segs is) C d hM g0 g1 g2 g3 g4 hd hna hrv hc hR hf hst hn hw (by rw [spick_len is segs hw']; exact Nat.beq_refl _) hp hp (by rw [hs]; exact kk)
theorem sg_callSLP (pc : Nat) (is : List Nat) (na : Nat) {fr lo mc ms maxL index : Nat} {y : MethodName} {bytes : ByteArray} {ret : Option FieldType} {wc : va_W} {x0 : Cond} {As : List Value} {r : Int64} (C : CC p s m args c cc nL own (x0 :: lw_all) D tys A H0) (d : decode cc pc = .ok (.invokestatic index, 3)) (hM : Ct l y (Cond.code y bytes maxL ret) fr lo mc ms D tys As wc (pstL r wc)) (g0 : Cond.code y bytes maxL ret ∈ lw_all) (g1 : Cond.methodLink own index y ∈ lw_all) (g2 : Cond.static y ∈ lw_all) (g4 : Cond.initialized y.cls ∈ lw_all)
    (hd : y.cls ≠ "java/lang/invoke/MethodHandle" ∧ y.cls ≠ "java/lang/invoke/VarHandle" ∧ (parseMethodDescriptor y.desc).map (fun d => d.parameters.length) = some na) (hna : As.length = na) (hR : Nat.ble (fr + 1) R.frames = true ∧ Nat.ble (8 + (maxL + 11) + lo) R.locals = true) (hf : k + mc ≤ R.cells ∧ n + ms ≤ R.slots) (hst : Nat.ble (st.map fun v => v.category).sum 8 = true) (hn : wnd is = true) (hw : wall segs.length is = true) (hp : flatS (spick segs is) = wc)
    (kk : sw p l e R s m args below meth c D A H0 nL (k + mc) (n + ms) Q (flatS segs) (pc + 3) L (.long r :: st)) : sw p l e R s m args below meth c D A H0 nL k n Q (flatS segs) pc L (As.reverse ++ st) := by
  have hw' := wall_lt hw
  have hs : sput segs is (spick segs is) = segs := sput_self is segs hw'
  exact sg_callSL pc is na (spick segs is) C d hM g0 g1 g2 g4 hd hna hR hf hst hn hw (by rw [spick_len is segs hw']; exact Nat.beq_refl _) hp hp (by rw [hs]; exact kk)
theorem sg_callVR (pc : Nat) (is : List Nat) (na rq : Nat) (news : List va_W) {fr lo mc ms maxL index b ci : Nat} {y : MethodName} {bytes : ByteArray} {ret : Option FieldType} {wc : va_W} {x0 : Cond} {As : List Value} {w0 : va_W} {r : Nat} {Cn : String} {T : u_T} {N : Nat} {fs : List Value} (C : CC p s m args c cc nL own (x0 :: lw_all) D tys A H0) (d : decode cc pc = .ok (.invokevirtual index, 3)) (hM : Ct l y (Cond.code y bytes maxL ret) fr lo mc ms D tys (.ref b :: As) wc (pstR r w0)) (g0 : Cond.code y bytes maxL ret ∈ lw_all) (g1 : Cond.methodLink own index y ∈ lw_all) (g2 : Cond.instanceMethod y ∈ lw_all) (g3 : Cond.selects Cn y y ∈ lw_all) (g4 : Cond.initialized Cn ∈ lw_all)
    (hd : y.cls = Cn ∧ y.cls ≠ "java/lang/invoke/MethodHandle" ∧ y.cls ≠ "java/lang/invoke/VarHandle" ∧ (parseMethodDescriptor y.desc).map (fun d => d.parameters.length) = some na) (hna : As.length = na) (hrv : wc[rq]? = some (b, .inr (ci, fs))) (hc : vwCl[ci]? = some (Cn, T, N)) (hR : Nat.ble (fr + 1) R.frames = true ∧ Nat.ble (8 + (maxL + 11) + lo) R.locals = true) (hf : k + mc ≤ R.cells ∧ n + ms ≤ R.slots) (hst : Nat.ble (st.map fun v => v.category).sum 8 = true) (hn : wnd is = true) (hw : wall segs.length is = true) (hln : Nat.beq news.length is.length = true) (hp : flatS (spick segs is) = wc) (hnew : flatS news = w0)
    (kk : sw p l e R s m args below meth c D A H0 nL (k + mc) (n + ms) Q (flatS (sput segs is news)) (pc + 3) L (.ref r :: st)) : sw p l e R s m args below meth c D A H0 nL k n Q (flatS segs) pc L (As.reverse ++ .ref b :: st) := by
  have hw' := wall_lt hw
  have hn' := wnd_nd hn
  have hper := (flatS_perm (segs_perm is segs hn' hw')).trans (by rw [flatS_app])
  subst hp
  intro H locs ls hP hD hS hl
  have hPp := va_P_perm hper hP
  have hDp := va_D_perm hper hD
  have hPc := va_P_l hPp
  have hDc := va_D_l hDp
  have hFc := free_of hDp hS C.hA
  have hK := C.hK
  refine va_callg (va_runV (As := As) (rest := st) (C := Cn) C.1 (hM H.size) (cwV na C.hts (goodV g0 g1 g2 g3 g4) rfl rfl rfl hd ⟨Nat.le_of_ble_eq_true hR.1, Nat.le_of_ble_eq_true hR.2⟩) ⟨ctP_blind, va_recv (q := (Cn, T, N)) hK hPc hc hrv, fun U hU hW => ⟨rfl, by rw [hU], by rw [hU]; exact hPc, va_K.moved hW.alike hK, hDc.weaken (fun _ _ _ _ => trivial)⟩⟩ rfl hna hl.1 rfl (lv_room (Nat.le_of_ble_eq_true hst)) d hf) hS (fun q _ h => hFc q h) hFc (fun v w1 H1 locs1 hpost hP1 hD1 hz1 hk1 hS1 => ?_)
  obtain ⟨hv1, hw1⟩ := hpost
  subst hv1
  rw [hw1, ← hnew] at hP1 hD1
  obtain ⟨hP2, hD2⟩ := seg_ok hPp hDp hk1 hFc hP1 hD1
  have hper2 := (flatS_perm (sput_perm is news segs hn' hw' (by rw [Nat.eq_of_beq_eq_true hln]))).trans (by rw [flatS_app])
  exact kk H1 locs1 ls (va_P_perm hper2.symm hP2) (va_D_perm hper2.symm hD2) hS1 hl
theorem sg_callSR (pc : Nat) (is : List Nat) (na : Nat) (news : List va_W) {fr lo mc ms maxL index : Nat} {y : MethodName} {bytes : ByteArray} {ret : Option FieldType} {wc : va_W} {x0 : Cond} {As : List Value} {w0 : va_W} {r : Nat} (C : CC p s m args c cc nL own (x0 :: lw_all) D tys A H0) (d : decode cc pc = .ok (.invokestatic index, 3)) (hM : Ct l y (Cond.code y bytes maxL ret) fr lo mc ms D tys As wc (pstR r w0)) (g0 : Cond.code y bytes maxL ret ∈ lw_all) (g1 : Cond.methodLink own index y ∈ lw_all) (g2 : Cond.static y ∈ lw_all) (g4 : Cond.initialized y.cls ∈ lw_all)
    (hd : y.cls ≠ "java/lang/invoke/MethodHandle" ∧ y.cls ≠ "java/lang/invoke/VarHandle" ∧ (parseMethodDescriptor y.desc).map (fun d => d.parameters.length) = some na) (hna : As.length = na) (hR : Nat.ble (fr + 1) R.frames = true ∧ Nat.ble (8 + (maxL + 11) + lo) R.locals = true) (hf : k + mc ≤ R.cells ∧ n + ms ≤ R.slots) (hst : Nat.ble (st.map fun v => v.category).sum 8 = true) (hn : wnd is = true) (hw : wall segs.length is = true) (hln : Nat.beq news.length is.length = true) (hp : flatS (spick segs is) = wc) (hnew : flatS news = w0)
    (kk : sw p l e R s m args below meth c D A H0 nL (k + mc) (n + ms) Q (flatS (sput segs is news)) (pc + 3) L (.ref r :: st)) : sw p l e R s m args below meth c D A H0 nL k n Q (flatS segs) pc L (As.reverse ++ st) := by
  have hw' := wall_lt hw
  have hn' := wnd_nd hn
  have hper := (flatS_perm (segs_perm is segs hn' hw')).trans (by rw [flatS_app])
  subst hp
  intro H locs ls hP hD hS hl
  have hPp := va_P_perm hper hP
  have hDp := va_D_perm hper hD
  have hPc := va_P_l hPp
  have hDc := va_D_l hDp
  have hFc := free_of hDp hS C.hA
  have hK := C.hK
  refine va_callg (va_runS (As := As) (rest := st) C.1 (hM H.size) (va_cwS na C.hts (goodS g0 g1 g2 g4) rfl rfl rfl hd ⟨Nat.le_of_ble_eq_true hR.1, Nat.le_of_ble_eq_true hR.2⟩) ⟨ctP_blind, fun U hU hW => ⟨rfl, by rw [hU], by rw [hU]; exact hPc, va_K.moved hW.alike hK, hDc.weaken (fun _ _ _ _ => trivial)⟩⟩ rfl hna hl.1 rfl (lv_room (Nat.le_of_ble_eq_true hst)) d hf) hS (fun q _ h => hFc q h) hFc (fun v w1 H1 locs1 hpost hP1 hD1 hz1 hk1 hS1 => ?_)
  obtain ⟨hv1, hw1⟩ := hpost
  subst hv1
  rw [hw1, ← hnew] at hP1 hD1
  obtain ⟨hP2, hD2⟩ := seg_ok hPp hDp hk1 hFc hP1 hD1
  have hper2 := (flatS_perm (sput_perm is news segs hn' hw' (by rw [Nat.eq_of_beq_eq_true hln]))).trans (by rw [flatS_app])
  exact kk H1 locs1 ls (va_P_perm hper2.symm hP2) (va_D_perm hper2.symm hD2) hS1 hl
theorem sg_callVRP (pc : Nat) (is : List Nat) (na rq : Nat) {fr lo mc ms maxL index b ci : Nat} {y : MethodName} {bytes : ByteArray} {ret : Option FieldType} {wc : va_W} {x0 : Cond} {As : List Value} {r : Nat} {Cn : String} {T : u_T} {N : Nat} {fs : List Value} (C : CC p s m args c cc nL own (x0 :: lw_all) D tys A H0) (d : decode cc pc = .ok (.invokevirtual index, 3)) (hM : Ct l y (Cond.code y bytes maxL ret) fr lo mc ms D tys (.ref b :: As) wc (pstR r wc)) (g0 : Cond.code y bytes maxL ret ∈ lw_all) (g1 : Cond.methodLink own index y ∈ lw_all) (g2 : Cond.instanceMethod y ∈ lw_all) (g3 : Cond.selects Cn y y ∈ lw_all) (g4 : Cond.initialized Cn ∈ lw_all)
    (hd : y.cls = Cn ∧ y.cls ≠ "java/lang/invoke/MethodHandle" ∧ y.cls ≠ "java/lang/invoke/VarHandle" ∧ (parseMethodDescriptor y.desc).map (fun d => d.parameters.length) = some na) (hna : As.length = na) (hrv : wc[rq]? = some (b, .inr (ci, fs))) (hc : vwCl[ci]? = some (Cn, T, N)) (hR : Nat.ble (fr + 1) R.frames = true ∧ Nat.ble (8 + (maxL + 11) + lo) R.locals = true) (hf : k + mc ≤ R.cells ∧ n + ms ≤ R.slots) (hst : Nat.ble (st.map fun v => v.category).sum 8 = true) (hn : wnd is = true) (hw : wall segs.length is = true) (hp : flatS (spick segs is) = wc)
    (kk : sw p l e R s m args below meth c D A H0 nL (k + mc) (n + ms) Q (flatS segs) (pc + 3) L (.ref r :: st)) : sw p l e R s m args below meth c D A H0 nL k n Q (flatS segs) pc L (As.reverse ++ .ref b :: st) := by
  have hw' := wall_lt hw
  have hs : sput segs is (spick segs is) = segs := sput_self is segs hw'
  exact sg_callVR pc is na rq (spick segs is) C d hM g0 g1 g2 g3 g4 hd hna hrv hc hR hf hst hn hw (by rw [spick_len is segs hw']; exact Nat.beq_refl _) hp hp (by rw [hs]; exact kk)
theorem sg_callSRP (pc : Nat) (is : List Nat) (na : Nat) {fr lo mc ms maxL index : Nat} {y : MethodName} {bytes : ByteArray} {ret : Option FieldType} {wc : va_W} {x0 : Cond} {As : List Value} {r : Nat} (C : CC p s m args c cc nL own (x0 :: lw_all) D tys A H0) (d : decode cc pc = .ok (.invokestatic index, 3)) (hM : Ct l y (Cond.code y bytes maxL ret) fr lo mc ms D tys As wc (pstR r wc)) (g0 : Cond.code y bytes maxL ret ∈ lw_all) (g1 : Cond.methodLink own index y ∈ lw_all) (g2 : Cond.static y ∈ lw_all) (g4 : Cond.initialized y.cls ∈ lw_all)
    (hd : y.cls ≠ "java/lang/invoke/MethodHandle" ∧ y.cls ≠ "java/lang/invoke/VarHandle" ∧ (parseMethodDescriptor y.desc).map (fun d => d.parameters.length) = some na) (hna : As.length = na) (hR : Nat.ble (fr + 1) R.frames = true ∧ Nat.ble (8 + (maxL + 11) + lo) R.locals = true) (hf : k + mc ≤ R.cells ∧ n + ms ≤ R.slots) (hst : Nat.ble (st.map fun v => v.category).sum 8 = true) (hn : wnd is = true) (hw : wall segs.length is = true) (hp : flatS (spick segs is) = wc)
    (kk : sw p l e R s m args below meth c D A H0 nL (k + mc) (n + ms) Q (flatS segs) (pc + 3) L (.ref r :: st)) : sw p l e R s m args below meth c D A H0 nL k n Q (flatS segs) pc L (As.reverse ++ st) := by
  have hw' := wall_lt hw
  have hs : sput segs is (spick segs is) = segs := sput_self is segs hw'
  exact sg_callSR pc is na (spick segs is) C d hM g0 g1 g2 g4 hd hna hR hf hst hn hw (by rw [spick_len is segs hw']; exact Nat.beq_refl _) hp hp (by rw [hs]; exact kk)
/-- the frame rule: a contract over a part of a world is one over the world -/
theorem Ct.lift {y : MethodName} {cw : Cond} {fr lo mc ms : Nat} {As : List Value} {ws wc : va_W} {post : Option Value → va_W → Prop} (is : List Nat) (h : Ct l y cw fr lo mc ms D tys As wc post) (hn : wnd is = true) (hw : wall ws.length is = true) (hp : wpick ws is = wc) (hl : ∀ v w0, post v w0 → is.length ≤ w0.length) : Ct l y cw fr lo mc ms D tys As ws (fun v w1 => ∃ w0, post v w0 ∧ w1 = wput ws is w0) := by
  have hw' := wall_lt hw
  have hn' := wnd_nd hn
  subst hp
  intro sz
  refine MetFree.mono (h sz) ?_ (fun _ _ _ _ _ z => z) ?_
  · rintro a U ⟨rfl, hsz, hP, hK, hD⟩
    exact ⟨rfl, hsz, wpick_P is hP, hK, wpick_D is hD hn' hw'⟩
  · rintro a U o t ⟨rfl, hsz, hP, hK, hD⟩ ⟨⟨⟨v, w1, e1, e2, hP1, hK1, hD1⟩, hz, hk⟩, L, hFE, hL⟩
    subst hsz
    have hD0 : va_D (va_A ws U.heap.size) ws := hD.self
    have hF : ∀ q, va_A (wpick ws is) U.heap.size q → va_A ws U.heap.size q := by
      intro q hq
      rcases va_A_mem.mp hq with ⟨e, he⟩ | hq
      · obtain ⟨i, -, hi⟩ := List.mem_filterMap.mp he
        exact va_A_mem.mpr (Or.inl ⟨e, List.mem_of_getElem? hi⟩)
      · exact Or.inr hq
    obtain ⟨hP2, hD2⟩ := wput_ok is hP hD0 hn' hw' (hl v w1 e2) hk hF hP1 hD1
    exact ⟨⟨⟨v, _, e1, ⟨w1, e2, rfl⟩, hP2, hK1, hD2⟩, hz, fun q h1 h2 => hk q h1 (fun h3 => h2 (hF q h3))⟩, L, hFE, fun q hq => hF _ (hL q hq)⟩
theorem Ct.imp {y : MethodName} {cw : Cond} {fr lo mc ms : Nat} {As : List Value} {wc : va_W} {post post' : Option Value → va_W → Prop} (h : Ct l y cw fr lo mc ms D tys As wc post) (hi : ∀ v w1, post v w1 → post' v w1) : Ct l y cw fr lo mc ms D tys As wc post' := by
  intro sz
  refine MetFree.mono (h sz) (fun _ _ z => z) (fun _ _ _ _ _ z => z) ?_
  rintro a U o t - ⟨⟨⟨v, w1, e1, e2, hP1, hK1, hD1⟩, hz⟩, hL⟩
  exact ⟨⟨⟨v, w1, e1, hi v w1 e2, hP1, hK1, hD1⟩, hz⟩, hL⟩
theorem Ct.liftIP {y : MethodName} {cw : Cond} {fr lo mc ms : Nat} {As : List Value} {ws wc : va_W} {r : Int32} (is : List Nat) (h : Ct l y cw fr lo mc ms D tys As wc (pstI r wc)) (hn : wnd is = true) (hw : wall ws.length is = true) (hp : wpick ws is = wc) : Ct l y cw fr lo mc ms D tys As ws (pstI r ws) := by
  have hw' := wall_lt hw
  refine (h.lift is hn hw hp ?_).imp ?_
  · rintro v w0 ⟨-, rfl⟩
    have := congrArg List.length (wpick_map is ws hw')
    rw [List.length_map, List.length_map, hp] at this
    omega
  · rintro v w1 ⟨w0, ⟨rfl, rfl⟩, rfl⟩
    rw [← hp, wput_self is ws hw']
    exact ⟨rfl, rfl⟩
theorem Ct.liftI {y : MethodName} {cw : Cond} {fr lo mc ms : Nat} {As : List Value} {ws wc w0 : va_W} {r : Int32} (is : List Nat) (h : Ct l y cw fr lo mc ms D tys As wc (pstI r w0)) (hn : wnd is = true) (hw : wall ws.length is = true) (hl : Nat.ble is.length w0.length = true) (hp : wpick ws is = wc) : Ct l y cw fr lo mc ms D tys As ws (pstI r (wput ws is w0)) :=
  (h.lift is hn hw hp (fun v w h => by rw [h.2]; exact Nat.le_of_ble_eq_true hl)).imp (by rintro v w1 ⟨w0, ⟨rfl, rfl⟩, rfl⟩; exact ⟨rfl, rfl⟩)
theorem Ct.liftV {y : MethodName} {cw : Cond} {fr lo mc ms : Nat} {As : List Value} {ws wc w0 : va_W} (is : List Nat) (h : Ct l y cw fr lo mc ms D tys As wc (pstV w0)) (hn : wnd is = true) (hw : wall ws.length is = true) (hl : Nat.ble is.length w0.length = true) (hp : wpick ws is = wc) : Ct l y cw fr lo mc ms D tys As ws (pstV (wput ws is w0)) :=
  (h.lift is hn hw hp (fun v w h => by rw [h.2]; exact Nat.le_of_ble_eq_true hl)).imp (by rintro v w1 ⟨w0, ⟨rfl, rfl⟩, rfl⟩; exact ⟨rfl, rfl⟩)
end SEG
