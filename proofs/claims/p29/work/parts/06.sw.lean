/-! sw: the walk's goal with world, locals and stack as lists that compute -/
section SWL
def lvGet : List (Nat × Value) → Nat → Option Value
  | [], _ => none
  | q :: r, i => bif Nat.beq q.1 i then some q.2 else lvGet r i
theorem lvGet_mem : ∀ (L : List (Nat × Value)) (i : Nat) (v : Value), lvGet L i = some v → (i, v) ∈ L
  | [], i, v, h => by simp [lvGet] at h
  | q :: r, i, v, h => by
    obtain ⟨a, b⟩ := q
    unfold lvGet at h
    cases hb : Nat.beq a i with
    | true =>
      rw [hb] at h
      have := Nat.eq_of_beq_eq_true hb
      subst this
      cases h
      exact List.mem_cons_self
    | false =>
      rw [hb] at h
      exact List.mem_cons_of_mem _ (lvGet_mem r i v h)
def lvCl (i : Nat) (v : Value) (q : Nat × Value) : Bool := Nat.beq q.1 i || ((Nat.beq (q.1 + 1) i && Nat.beq q.2.category 2) || (Nat.beq q.1 (i + 1) && Nat.beq v.category 2))
def lvDel : List (Nat × Value) → Nat → Value → List (Nat × Value)
  | [], _, _ => []
  | q :: r, i, v => bif lvCl i v q then lvDel r i v else q :: lvDel r i v
def lvSet : List (Nat × Value) → Nat → Value → List (Nat × Value)
  | [], i, v => [(i, v)]
  | q :: r, i, v => bif Nat.beq q.1 i then (i, v) :: lvDel r i v else bif lvCl i v q then lvSet r i v else q :: lvSet r i v
theorem lvDel_mem : ∀ (L : List (Nat × Value)) (i : Nat) (v : Value) (q : Nat × Value), q ∈ lvDel L i v → q ∈ L ∧ lvCl i v q = false
  | [], i, v, q, h => by simp [lvDel] at h
  | x :: r, i, v, q, h => by
    unfold lvDel at h
    cases hb : lvCl i v x with
    | true =>
      rw [hb] at h
      have := lvDel_mem r i v q h
      exact ⟨List.mem_cons_of_mem _ this.1, this.2⟩
    | false =>
      rw [hb] at h
      rcases List.mem_cons.mp h with rfl | h
      · exact ⟨List.mem_cons_self, hb⟩
      · have := lvDel_mem r i v q h
        exact ⟨List.mem_cons_of_mem _ this.1, this.2⟩
theorem lvSet_mem : ∀ (L : List (Nat × Value)) (i : Nat) (v : Value) (q : Nat × Value), q ∈ lvSet L i v → q = (i, v) ∨ (q ∈ L ∧ lvCl i v q = false)
  | [], i, v, q, h => by
    simp [lvSet] at h
    exact Or.inl h
  | x :: r, i, v, q, h => by
    unfold lvSet at h
    cases hb : Nat.beq x.1 i with
    | true =>
      rw [hb] at h
      rcases List.mem_cons.mp h with rfl | h
      · exact Or.inl rfl
      · have := lvDel_mem r i v q h
        exact Or.inr ⟨List.mem_cons_of_mem _ this.1, this.2⟩
    | false =>
      rw [hb] at h
      cases hc : lvCl i v x with
      | true =>
        rw [hc] at h
        rcases lvSet_mem r i v q h with h | h
        · exact Or.inl h
        · exact Or.inr ⟨List.mem_cons_of_mem _ h.1, h.2⟩
      | false =>
        rw [hc] at h
        rcases List.mem_cons.mp h with rfl | h
        · exact Or.inr ⟨List.mem_cons_self, hc⟩
        · rcases lvSet_mem r i v q h with h | h
          · exact Or.inl h
          · exact Or.inr ⟨List.mem_cons_of_mem _ h.1, h.2⟩
theorem nbeq (a b : Nat) : Nat.beq a b = (a == b) := Bool.eq_iff_iff.mpr (by simp)
theorem lvSet1 {ls : Array Slot} {nL : Nat} {L : List (Nat × Value)} {i : Nat} {v : Value} (h : lv_has ls nL ((i, v) :: L.filter (fun q => !(q.1 == i) && !(q.1 + 1 == i && q.2.category == 2)))) : lv_has ls nL (lvSet L i v) := by
  refine ⟨h.1, h.2.1, fun q hq => ?_⟩
  rcases lvSet_mem L i v q hq with rfl | ⟨h1, h2⟩
  · exact h.2.2 _ List.mem_cons_self
  · refine h.2.2 q (List.mem_cons_of_mem _ (List.mem_filter.mpr ⟨h1, ?_⟩))
    unfold lvCl at h2
    simp only [Bool.or_eq_false_iff, Bool.and_eq_false_iff, nbeq] at h2
    simp only [Bool.and_eq_true, Bool.not_eq_true', Bool.and_eq_false_iff]
    exact ⟨h2.1, h2.2.1⟩
theorem lvSet2 {ls : Array Slot} {nL : Nat} {L : List (Nat × Value)} {i : Nat} {v : Value} (hv : v.category = 2) (h : lv_has ls nL ((i, v) :: L.filter (fun q => !(q.1 == i) && (!(q.1 == i + 1) && !(q.1 + 1 == i && q.2.category == 2))))) : lv_has ls nL (lvSet L i v) := by
  refine ⟨h.1, h.2.1, fun q hq => ?_⟩
  rcases lvSet_mem L i v q hq with rfl | ⟨h1, h2⟩
  · exact h.2.2 _ List.mem_cons_self
  · refine h.2.2 q (List.mem_cons_of_mem _ (List.mem_filter.mpr ⟨h1, ?_⟩))
    unfold lvCl at h2
    rw [hv] at h2
    simp only [Bool.or_eq_false_iff, Bool.and_eq_false_iff, nbeq] at h2
    simp only [Bool.and_eq_true, Bool.not_eq_true', Bool.and_eq_false_iff]
    refine ⟨h2.1, ?_, h2.2.1⟩
    rcases h2.2.2 with h | h
    · exact h
    · cases h
/-- some cells of a world, by their places -/
def wpick (ws : va_W) (is : List Nat) : va_W := is.filterMap (fun i => ws[i]?)
def wput : va_W → List Nat → va_W → va_W
  | ws, [], [] => ws
  | ws, [], x :: xs => ws ++ x :: xs
  | ws, i :: is, x :: xs => wput (ws.set i x) is xs
  | ws, _ :: _, [] => ws
def wmem (i : Nat) : List Nat → Bool
  | [] => false
  | j :: is => bif Nat.beq i j then true else wmem i is
def wnd : List Nat → Bool
  | [] => true
  | i :: is => bif wmem i is then false else wnd is
theorem wmem_no : ∀ {i : Nat} {is : List Nat}, wmem i is = false → i ∉ is
  | i, [], _, h => by cases h
  | i, j :: is, h, hm => by
    unfold wmem at h
    cases hb : Nat.beq i j with
    | true => rw [hb] at h; cases h
    | false =>
      rw [hb] at h
      rcases List.mem_cons.mp hm with rfl | hm
      · rw [Nat.beq_refl] at hb; cases hb
      · exact wmem_no h hm
theorem wnd_nd : ∀ {is : List Nat}, wnd is = true → va_nd is = true
  | [], _ => rfl
  | i :: is, h => by
    unfold wnd at h
    cases hb : wmem i is with
    | true => rw [hb] at h; cases h
    | false =>
      rw [hb] at h
      simp only [va_nd, Bool.and_eq_true, decide_eq_true_eq]
      exact ⟨wmem_no hb, wnd_nd h⟩
def wall (n : Nat) : List Nat → Bool
  | [] => true
  | i :: is => Nat.blt i n && wall n is
theorem wall_lt : ∀ {n : Nat} {is : List Nat}, wall n is = true → ∀ i ∈ is, i < n
  | n, [], _, i, h => by cases h
  | n, j :: is, hw, i, h => by
    unfold wall at hw
    rw [Bool.and_eq_true] at hw
    rcases List.mem_cons.mp h with rfl | h
    · exact Nat.le_of_ble_eq_true hw.1
    · exact wall_lt hw.2 i h
/-- where a cell of wput comes from -/
theorem wput_src : ∀ (is : List Nat) (w1 ws : va_W) (k : Nat) (q : Nat × va_E), va_nd is = true → (∀ i ∈ is, i < ws.length) → is.length ≤ w1.length → (wput ws is w1)[k]? = some q →
    (∃ j : Nat, is[j]? = some k ∧ w1[j]? = some q) ∨ (k ∉ is ∧ ws[k]? = some q) ∨ (ws.length ≤ k ∧ w1[is.length + (k - ws.length)]? = some q)
  | [], [], ws, k, q, _, _, _, h => Or.inr (Or.inl ⟨List.not_mem_nil, h⟩)
  | [], x :: xs, ws, k, q, _, _, _, h => by
    unfold wput at h
    by_cases hk : k < ws.length
    · rw [List.getElem?_append_left hk] at h
      exact Or.inr (Or.inl ⟨List.not_mem_nil, h⟩)
    · rw [List.getElem?_append_right (by omega)] at h
      exact Or.inr (Or.inr ⟨by omega, by simpa using h⟩)
  | i :: is, [], ws, k, q, _, _, hl, h => by simp at hl
  | i :: is, x :: xs, ws, k, q, hn, hw, hl, h => by
    unfold wput at h
    simp only [va_nd, Bool.and_eq_true, decide_eq_true_eq] at hn
    have hlen : (ws.set i x).length = ws.length := List.length_set
    rcases wput_src is xs (ws.set i x) k q hn.2 (fun j hj => by rw [hlen]; exact hw j (List.mem_cons_of_mem _ hj)) (by simpa using hl) h with ⟨j, h1, h2⟩ | ⟨h1, h2⟩ | ⟨h1, h2⟩
    · exact Or.inl ⟨j + 1, by simpa using h1, by simpa using h2⟩
    · by_cases hk : k = i
      · subst hk
        rw [List.getElem?_set_self (hw k List.mem_cons_self)] at h2
        exact Or.inl ⟨0, rfl, by simpa using h2⟩
      · rw [List.getElem?_set_ne (Ne.symm hk)] at h2
        exact Or.inr (Or.inl ⟨fun hm => by rcases List.mem_cons.mp hm with e | e; exact hk e; exact h1 e, h2⟩)
    · rw [hlen] at h1 h2
      refine Or.inr (Or.inr ⟨h1, ?_⟩)
      rw [List.length_cons, show is.length + 1 + (k - ws.length) = (is.length + (k - ws.length)) + 1 by omega, List.getElem?_cons_succ]
      exact h2
theorem wput_ok {A0 : Nat → Prop} {D : va_G} {cl : List vw_C} {ws w1 : va_W} {H H1 : Heap} (isC : List Nat) (hP : va_P D cl ws H) (hD : va_D A0 ws) (hn : va_nd isC = true) (hw : ∀ i ∈ isC, i < ws.length) (hl : isC.length ≤ w1.length)
    (hk : ∀ q : Nat, q < H.size → ¬ va_A (wpick ws isC) H.size q → H1[q]? = H[q]?) (hF : ∀ q, va_A (wpick ws isC) H.size q → A0 q) (hP1 : va_P D cl w1 H1) (hD1 : va_D (va_A (wpick ws isC) H.size) w1) : va_P D cl (wput ws isC w1) H1 ∧ va_D A0 (wput ws isC w1) := by
  have apart : ∀ (k : Nat) (q : Nat × va_E), k ∉ isC → ws[k]? = some q → q.1 < H.size ∧ ¬ va_A (wpick ws isC) H.size q.1 := by
    intro k q hki hq
    have hlt := (hP k q hq).lt
    refine ⟨hlt, fun h => ?_⟩
    rcases h with ⟨k2, e, h⟩ | h
    · obtain ⟨i, h3, h4⟩ := List.mem_filterMap.mp (List.mem_of_getElem? h)
      have hij := hD.1 k i q (q.1, e) hq h4 rfl
      subst hij
      exact hki h3
    · omega
  refine ⟨fun k q hq => ?_, fun i j x y hi hj hxy => ?_, fun k q hq => ?_⟩
  · rcases wput_src isC w1 ws k q hn hw hl hq with ⟨j, -, h2⟩ | ⟨h1, h2⟩ | ⟨-, h2⟩
    · exact hP1 j q h2
    · obtain ⟨g1, g2⟩ := apart k q h1 h2
      exact (hP k q h2).kept (hk q.1 g1 g2)
    · exact hP1 _ q h2
  · rcases wput_src isC w1 ws i x hn hw hl hi with ⟨a, h1, h2⟩ | ⟨h1, h2⟩ | ⟨h1, h2⟩ <;> rcases wput_src isC w1 ws j y hn hw hl hj with ⟨b, h3, h4⟩ | ⟨h3, h4⟩ | ⟨h3, h4⟩
    · have hab := hD1.1 a b x y h2 h4 hxy
      subst hab
      exact Option.some.inj (h1.symm.trans h3)
    · exact absurd (hxy ▸ hD1.2 a x h2) (apart j y h3 h4).2
    · have hab := hD1.1 _ _ x y h2 h4 hxy
      have := (List.getElem?_eq_some_iff.mp h1).1
      omega
    · exact absurd (hxy ▸ hD1.2 b y h4) (apart i x h1 h2).2
    · exact hD.1 i j x y h2 h4 hxy
    · exact absurd (hxy ▸ hD1.2 _ y h4) (apart i x h1 h2).2
    · have hab := hD1.1 _ _ x y h2 h4 hxy
      have := (List.getElem?_eq_some_iff.mp h3).1
      omega
    · exact absurd (hxy ▸ hD1.2 _ x h2) (apart j y h3 h4).2
    · have hab := hD1.1 _ _ x y h2 h4 hxy
      omega
  · rcases wput_src isC w1 ws k q hn hw hl hq with ⟨j, -, h2⟩ | ⟨h1, h2⟩ | ⟨-, h2⟩
    · exact hF q.1 (hD1.2 j q h2)
    · exact hD.2 k q h2
    · exact hF q.1 (hD1.2 _ q h2)
theorem wpick_map : ∀ (is : List Nat) (ws : va_W), (∀ i ∈ is, i < ws.length) → is.map (fun i => ws[i]?) = (wpick ws is).map some
  | [], ws, _ => rfl
  | i :: is, ws, h => by
    have hi : i < ws.length := h i List.mem_cons_self
    have e : ws[i]? = some ws[i] := List.getElem?_eq_getElem hi
    show ws[i]? :: is.map _ = _
    rw [wpick_map is ws (fun j hj => h j (List.mem_cons_of_mem _ hj))]
    unfold wpick
    rw [List.filterMap_cons, e]
    rfl
theorem list_set_self : ∀ (ws : va_W) (i : Nat) (q : Nat × va_E), ws[i]? = some q → ws.set i q = ws
  | [], i, q, h => rfl
  | x :: r, 0, q, h => by
    rw [List.getElem?_cons_zero] at h
    cases h
    rfl
  | x :: r, i + 1, q, h => by
    rw [List.getElem?_cons_succ] at h
    show x :: r.set i q = _
    rw [list_set_self r i q h]
theorem wput_self : ∀ (is : List Nat) (ws : va_W), (∀ i ∈ is, i < ws.length) → wput ws is (wpick ws is) = ws
  | [], ws, _ => rfl
  | i :: is, ws, h => by
    have hi : i < ws.length := h i List.mem_cons_self
    have e : ws[i]? = some ws[i] := List.getElem?_eq_getElem hi
    have e2 : wpick ws (i :: is) = ws[i] :: wpick ws is := by
      unfold wpick
      rw [List.filterMap_cons, e]
    rw [e2]
    unfold wput
    rw [list_set_self ws i _ e]
    exact wput_self is ws (fun j hj => h j (List.mem_cons_of_mem _ hj))
theorem wpick_D {A : Nat → Prop} {ws : va_W} (is : List Nat) (hD : va_D A ws) (hn : va_nd is = true) (hw : ∀ i ∈ is, i < ws.length) : va_D A (wpick ws is) := hD.sub is hn (wpick_map is ws hw)
theorem wpick_P {D : va_G} {cl : List vw_C} {ws : va_W} {H : Heap} (is : List Nat) (hP : va_P D cl ws H) : va_P D cl (wpick ws is) H := hP.sub is rfl

variable {p : Program} {l : Launch} {e : Env} {R : Room} {s : State} {m : MethodId} {args : Array Value} {below : List Frame} {meth : Method} {c : Code} {D : va_G} {tys : List (ClassId × FieldType)} {A : Nat → Prop} {H0 : Heap} {nL k n : Nat} {Q : State → Prop} {ws : va_W} {L : List (Nat × Value)} {st : List Value} {cc : ByteArray} {own : String} {Ts : List Cond}
/-- the walk's goal -/
def sw (p : Program) (l : Launch) (e : Env) (R : Room) (s : State) (m : MethodId) (args : Array Value) (below : List Frame) (meth : Method) (c : Code) (D : va_G) (A : Nat → Prop) (H0 : Heap) (nL k n : Nat) (Q : State → Prop) (ws : va_W) (pc : Nat) (L : List (Nat × Value)) (st : List Value) : Prop :=
  ∀ (H : Heap) (locs : List Loc) (ls : Array Slot), va_P D vwCl ws H → va_D A ws → va_S A H0 H locs → lv_has ls nL L → W p l e R s m args below meth c H locs k n Q (F0 m pc ls st)
/-- what a walk's rules rest on -/
def CC (p : Program) (s : State) (m : MethodId) (args : Array Value) (c : Code) (cc : ByteArray) (nL : Nat) (own : String) (Ts : List Cond) (D : va_G) (tys : List (ClassId × FieldType)) (A : Nat → Prop) (H0 : Heap) : Prop :=
  CallFix p m c cc nL s args Ts own ∧ va_K D vwCl tys s ∧ ∀ q : Nat, H0.size ≤ q → A q
theorem CC.hx (C : CC p s m args c cc nL own Ts D tys A H0) : p.tables.exec = Jvm.exec := C.1.1
theorem CC.hb (C : CC p s m args c cc nL own Ts D tys A H0) : c.code = cc := C.1.2.1
theorem CC.hml (C : CC p s m args c cc nL own Ts D tys A H0) : c.maxLocals = nL := C.1.2.2.1
theorem CC.hown (C : CC p s m args c cc nL own Ts D tys A H0) : s.vm.findClass own = some m.cls := C.1.2.2.2.1
theorem CC.hts (C : CC p s m args c cc nL own Ts D tys A H0) : ∀ w ∈ Ts, w.before args s = true := C.1.2.2.2.2
theorem CC.w {x0 : Cond} {w : Cond} (C : CC p s m args c cc nL own (x0 :: lw_all) D tys A H0) (h : w ∈ lw_all) : w.before args s = true := C.1.2.2.2.2 w (List.mem_cons_of_mem _ h)
theorem inA {x0 : Cond} {a : List Cond} (h : ∀ w ∈ a, w ∈ lw_all) : ∀ w ∈ a, w ∈ x0 :: lw_all := fun w hw => List.mem_cons_of_mem _ (h w hw)
theorem CC.hK (C : CC p s m args c cc nL own Ts D tys A H0) : va_K D vwCl tys s := C.2.1
theorem CC.hA (C : CC p s m args c cc nL own Ts D tys A H0) : ∀ q : Nat, H0.size ≤ q → A q := C.2.2

theorem sw_iconst (pc : Nat) {i : Int} (C : CC p s m args c cc nL own Ts D tys A H0) (d : decode cc pc = .ok (.iconst i, 1)) (v : Int32) (hv : Int32.ofInt i = v) (kk : sw p l e R s m args below meth c D A H0 nL k n Q ws (pc + 1) L (.int v :: st)) : sw p l e R s m args below meth c D A H0 nL k n Q ws pc L st := fun H locs ls hP hD hS hl => lv_iconst C.hx C.hb d hv (kk H locs ls hP hD hS hl)
theorem sw_bipush (pc : Nat) {i : Int} (C : CC p s m args c cc nL own Ts D tys A H0) (d : decode cc pc = .ok (.bipush i, 2)) (v : Int32) (hv : (Int8.ofInt i).toInt32 = v) (kk : sw p l e R s m args below meth c D A H0 nL k n Q ws (pc + 2) L (.int v :: st)) : sw p l e R s m args below meth c D A H0 nL k n Q ws pc L st := fun H locs ls hP hD hS hl => lv_bipush C.hx C.hb d hv (kk H locs ls hP hD hS hl)
theorem sw_sipush (pc : Nat) {i : Int} (C : CC p s m args c cc nL own Ts D tys A H0) (d : decode cc pc = .ok (.sipush i, 3)) (v : Int32) (hv : (Int16.ofInt i).toInt32 = v) (kk : sw p l e R s m args below meth c D A H0 nL k n Q ws (pc + 3) L (.int v :: st)) : sw p l e R s m args below meth c D A H0 nL k n Q ws pc L st := fun H locs ls hP hD hS hl => lv_sipush C.hx C.hb d hv (kk H locs ls hP hD hS hl)
theorem sw_ldc (pc : Nat) {index : Nat} {v : Int32} (C : CC p s m args c cc nL own Ts D tys A H0) (d : decode cc pc = .ok (.ldc index, 2)) (hc : (Jvm.Cond.constant own index v).before args s = true) (kk : sw p l e R s m args below meth c D A H0 nL k n Q ws (pc + 2) L (.int v :: st)) : sw p l e R s m args below meth c D A H0 nL k n Q ws pc L st := fun H locs ls hP hD hS hl => lv_ldc C.hx C.hb C.hown hc d (kk H locs ls hP hD hS hl)
theorem sw_ldc2 (pc : Nat) {index : Nat} {v : Int64} (C : CC p s m args c cc nL own Ts D tys A H0) (d : decode cc pc = .ok (.ldc2_w index, 3)) (hc : (Jvm.Cond.constantLong own index v).before args s = true) (kk : sw p l e R s m args below meth c D A H0 nL k n Q ws (pc + 3) L (.long v :: st)) : sw p l e R s m args below meth c D A H0 nL k n Q ws pc L st := fun H locs ls hP hD hS hl => lv_ldc2 C.hx C.hb C.hown hc d (kk H locs ls hP hD hS hl)
theorem sw_lconst (pc : Nat) {i : Fin 2} (C : CC p s m args c cc nL own Ts D tys A H0) (d : decode cc pc = .ok (.lconst i, 1)) (v : Int64) (hv : Int64.ofNat (i : Nat) = v) (kk : sw p l e R s m args below meth c D A H0 nL k n Q ws (pc + 1) L (.long v :: st)) : sw p l e R s m args below meth c D A H0 nL k n Q ws pc L st := fun H locs ls hP hD hS hl => lv_lconst C.hx C.hb d hv (kk H locs ls hP hD hS hl)
theorem sw_iload_n (pc : Nat) {j : Fin 4} (i : Nat) {x : Int32} (C : CC p s m args c cc nL own Ts D tys A H0) (d : decode cc pc = .ok (.iload_n j, 1)) (hi : (j : Nat) = i) (hL : lvGet L i = some (.int x)) (kk : sw p l e R s m args below meth c D A H0 nL k n Q ws (pc + 1) L (.int x :: st)) : sw p l e R s m args below meth c D A H0 nL k n Q ws pc L st := fun H locs ls hP hD hS hl => lv_iload_n C.hx C.hb d hi (hl.2.2 _ (lvGet_mem L i _ hL)) (kk H locs ls hP hD hS hl)
theorem sw_iload (pc : Nat) {i : Nat} {x : Int32} (C : CC p s m args c cc nL own Ts D tys A H0) (d : decode cc pc = .ok (.iload i, 2)) (hL : lvGet L i = some (.int x)) (kk : sw p l e R s m args below meth c D A H0 nL k n Q ws (pc + 2) L (.int x :: st)) : sw p l e R s m args below meth c D A H0 nL k n Q ws pc L st := fun H locs ls hP hD hS hl => lv_iload C.hx C.hb d (hl.2.2 _ (lvGet_mem L i _ hL)) (kk H locs ls hP hD hS hl)
theorem sw_aload_n (pc : Nat) {j : Fin 4} (i : Nat) {x : Nat} (C : CC p s m args c cc nL own Ts D tys A H0) (d : decode cc pc = .ok (.aload_n j, 1)) (hi : (j : Nat) = i) (hL : lvGet L i = some (.ref x)) (kk : sw p l e R s m args below meth c D A H0 nL k n Q ws (pc + 1) L (.ref x :: st)) : sw p l e R s m args below meth c D A H0 nL k n Q ws pc L st := fun H locs ls hP hD hS hl => lv_aload_n C.hx C.hb d hi (hl.2.2 _ (lvGet_mem L i _ hL)) (kk H locs ls hP hD hS hl)
theorem sw_aload (pc : Nat) {i : Nat} {x : Nat} (C : CC p s m args c cc nL own Ts D tys A H0) (d : decode cc pc = .ok (.aload i, 2)) (hL : lvGet L i = some (.ref x)) (kk : sw p l e R s m args below meth c D A H0 nL k n Q ws (pc + 2) L (.ref x :: st)) : sw p l e R s m args below meth c D A H0 nL k n Q ws pc L st := fun H locs ls hP hD hS hl => lv_aload C.hx C.hb d (hl.2.2 _ (lvGet_mem L i _ hL)) (kk H locs ls hP hD hS hl)
theorem sw_lload_n (pc : Nat) {j : Fin 4} (i : Nat) {x : Int64} (C : CC p s m args c cc nL own Ts D tys A H0) (d : decode cc pc = .ok (.lload_n j, 1)) (hi : (j : Nat) = i) (hL : lvGet L i = some (.long x)) (kk : sw p l e R s m args below meth c D A H0 nL k n Q ws (pc + 1) L (.long x :: st)) : sw p l e R s m args below meth c D A H0 nL k n Q ws pc L st := fun H locs ls hP hD hS hl => lv_lload_n C.hx C.hb d hi (hl.2.2 _ (lvGet_mem L i _ hL)) (kk H locs ls hP hD hS hl)
theorem sw_lload (pc : Nat) {i : Nat} {x : Int64} (C : CC p s m args c cc nL own Ts D tys A H0) (d : decode cc pc = .ok (.lload i, 2)) (hL : lvGet L i = some (.long x)) (kk : sw p l e R s m args below meth c D A H0 nL k n Q ws (pc + 2) L (.long x :: st)) : sw p l e R s m args below meth c D A H0 nL k n Q ws pc L st := fun H locs ls hP hD hS hl => lv_lload C.hx C.hb d (hl.2.2 _ (lvGet_mem L i _ hL)) (kk H locs ls hP hD hS hl)
theorem sw_dload_n (pc : Nat) {j : Fin 4} (i : Nat) {x : UInt64} (C : CC p s m args c cc nL own Ts D tys A H0) (d : decode cc pc = .ok (.dload_n j, 1)) (hi : (j : Nat) = i) (hL : lvGet L i = some (.double x)) (kk : sw p l e R s m args below meth c D A H0 nL k n Q ws (pc + 1) L (.double x :: st)) : sw p l e R s m args below meth c D A H0 nL k n Q ws pc L st := fun H locs ls hP hD hS hl => lv_dload_n C.hx C.hb d hi (hl.2.2 _ (lvGet_mem L i _ hL)) (kk H locs ls hP hD hS hl)
theorem sw_dload (pc : Nat) {i : Nat} {x : UInt64} (C : CC p s m args c cc nL own Ts D tys A H0) (d : decode cc pc = .ok (.dload i, 2)) (hL : lvGet L i = some (.double x)) (kk : sw p l e R s m args below meth c D A H0 nL k n Q ws (pc + 2) L (.double x :: st)) : sw p l e R s m args below meth c D A H0 nL k n Q ws pc L st := fun H locs ls hP hD hS hl => lv_dload C.hx C.hb d (hl.2.2 _ (lvGet_mem L i _ hL)) (kk H locs ls hP hD hS hl)
theorem sw_istore_n (pc : Nat) {j : Fin 4} (i : Nat) {x : Int32} (C : CC p s m args c cc nL own Ts D tys A H0) (d : decode cc pc = .ok (.istore_n j, 1)) (hi : (j : Nat) = i) (hn : Nat.blt i nL = true) (kk : sw p l e R s m args below meth c D A H0 nL k n Q ws (pc + 1) (lvSet L i (.int x)) st) : sw p l e R s m args below meth c D A H0 nL k n Q ws pc L (.int x :: st) := fun H locs ls hP hD hS hl => lv_istore_n C.hx C.hb d hi hl (Nat.le_of_ble_eq_true hn) rfl (fun ls hl => kk H locs ls hP hD hS (lvSet1 hl))
theorem sw_istore (pc : Nat) {i : Nat} {x : Int32} (C : CC p s m args c cc nL own Ts D tys A H0) (d : decode cc pc = .ok (.istore i, 2)) (hn : Nat.blt i nL = true) (kk : sw p l e R s m args below meth c D A H0 nL k n Q ws (pc + 2) (lvSet L i (.int x)) st) : sw p l e R s m args below meth c D A H0 nL k n Q ws pc L (.int x :: st) := fun H locs ls hP hD hS hl => lv_istore C.hx C.hb d hl (Nat.le_of_ble_eq_true hn) rfl (fun ls hl => kk H locs ls hP hD hS (lvSet1 hl))
theorem sw_astore_n (pc : Nat) {j : Fin 4} (i : Nat) {x : Nat} (C : CC p s m args c cc nL own Ts D tys A H0) (d : decode cc pc = .ok (.astore_n j, 1)) (hi : (j : Nat) = i) (hn : Nat.blt i nL = true) (kk : sw p l e R s m args below meth c D A H0 nL k n Q ws (pc + 1) (lvSet L i (.ref x)) st) : sw p l e R s m args below meth c D A H0 nL k n Q ws pc L (.ref x :: st) := fun H locs ls hP hD hS hl => lv_astore_n C.hx C.hb d hi hl (Nat.le_of_ble_eq_true hn) rfl (fun ls hl => kk H locs ls hP hD hS (lvSet1 hl))
theorem sw_astore (pc : Nat) {i : Nat} {x : Nat} (C : CC p s m args c cc nL own Ts D tys A H0) (d : decode cc pc = .ok (.astore i, 2)) (hn : Nat.blt i nL = true) (kk : sw p l e R s m args below meth c D A H0 nL k n Q ws (pc + 2) (lvSet L i (.ref x)) st) : sw p l e R s m args below meth c D A H0 nL k n Q ws pc L (.ref x :: st) := fun H locs ls hP hD hS hl => lv_astore C.hx C.hb d hl (Nat.le_of_ble_eq_true hn) rfl (fun ls hl => kk H locs ls hP hD hS (lvSet1 hl))
theorem sw_lstore_n (pc : Nat) {j : Fin 4} (i : Nat) {x : Int64} (C : CC p s m args c cc nL own Ts D tys A H0) (d : decode cc pc = .ok (.lstore_n j, 1)) (hi : (j : Nat) = i) (hn : Nat.blt (i + 1) nL = true) (kk : sw p l e R s m args below meth c D A H0 nL k n Q ws (pc + 1) (lvSet L i (.long x)) st) : sw p l e R s m args below meth c D A H0 nL k n Q ws pc L (.long x :: st) := fun H locs ls hP hD hS hl => lv_lstore_n C.hx C.hb d hi hl (Nat.le_of_ble_eq_true hn) rfl (fun ls hl => kk H locs ls hP hD hS (lvSet2 rfl hl))
theorem sw_lstore (pc : Nat) {i : Nat} {x : Int64} (C : CC p s m args c cc nL own Ts D tys A H0) (d : decode cc pc = .ok (.lstore i, 2)) (hn : Nat.blt (i + 1) nL = true) (kk : sw p l e R s m args below meth c D A H0 nL k n Q ws (pc + 2) (lvSet L i (.long x)) st) : sw p l e R s m args below meth c D A H0 nL k n Q ws pc L (.long x :: st) := fun H locs ls hP hD hS hl => lv_lstore C.hx C.hb d hl (Nat.le_of_ble_eq_true hn) rfl (fun ls hl => kk H locs ls hP hD hS (lvSet2 rfl hl))
theorem sw_dstore_n (pc : Nat) {j : Fin 4} (i : Nat) {x : UInt64} (C : CC p s m args c cc nL own Ts D tys A H0) (d : decode cc pc = .ok (.dstore_n j, 1)) (hi : (j : Nat) = i) (hn : Nat.blt (i + 1) nL = true) (kk : sw p l e R s m args below meth c D A H0 nL k n Q ws (pc + 1) (lvSet L i (.double x)) st) : sw p l e R s m args below meth c D A H0 nL k n Q ws pc L (.double x :: st) := fun H locs ls hP hD hS hl => lv_dstore_n C.hx C.hb d hi hl (Nat.le_of_ble_eq_true hn) rfl (fun ls hl => kk H locs ls hP hD hS (lvSet2 rfl hl))
theorem sw_dstore (pc : Nat) {i : Nat} {x : UInt64} (C : CC p s m args c cc nL own Ts D tys A H0) (d : decode cc pc = .ok (.dstore i, 2)) (hn : Nat.blt (i + 1) nL = true) (kk : sw p l e R s m args below meth c D A H0 nL k n Q ws (pc + 2) (lvSet L i (.double x)) st) : sw p l e R s m args below meth c D A H0 nL k n Q ws pc L (.double x :: st) := fun H locs ls hP hD hS hl => lv_dstore C.hx C.hb d hl (Nat.le_of_ble_eq_true hn) rfl (fun ls hl => kk H locs ls hP hD hS (lvSet2 rfl hl))
theorem sw_iinc (pc : Nat) {i : Nat} {a : Int} {x : Int32} (C : CC p s m args c cc nL own Ts D tys A H0) (v : Int32) (d : decode cc pc = .ok (.iinc i a, 3)) (hv : Int32.ofInt a = v) (hn : Nat.blt i nL = true) (hL : lvGet L i = some (.int x)) (kk : sw p l e R s m args below meth c D A H0 nL k n Q ws (pc + 3) (lvSet L i (.int (x + v))) st) : sw p l e R s m args below meth c D A H0 nL k n Q ws pc L st := by
  intro H locs ls hP hD hS hl
  obtain ⟨q, hq⟩ := List.getElem?_of_mem (lvGet_mem L i _ hL)
  exact lv_iinc C.hx C.hb d hl hq (by rw [hv]) (Nat.le_of_ble_eq_true hn) rfl (fun ls hl => kk H locs ls hP hD hS (lvSet1 hl))
theorem sw_iadd (pc : Nat) {x y : Int32} (C : CC p s m args c cc nL own Ts D tys A H0) (d : decode cc pc = .ok (.iadd, 1)) (kk : sw p l e R s m args below meth c D A H0 nL k n Q ws (pc + 1) L (.int (x + y) :: st)) : sw p l e R s m args below meth c D A H0 nL k n Q ws pc L (.int y :: .int x :: st) := fun H locs ls hP hD hS hl => lv_iadd C.hx C.hb d (kk H locs ls hP hD hS hl)
theorem sw_isub (pc : Nat) {x y : Int32} (C : CC p s m args c cc nL own Ts D tys A H0) (d : decode cc pc = .ok (.isub, 1)) (kk : sw p l e R s m args below meth c D A H0 nL k n Q ws (pc + 1) L (.int (x - y) :: st)) : sw p l e R s m args below meth c D A H0 nL k n Q ws pc L (.int y :: .int x :: st) := fun H locs ls hP hD hS hl => lv_isub C.hx C.hb d (kk H locs ls hP hD hS hl)
theorem sw_imul (pc : Nat) {x y : Int32} (C : CC p s m args c cc nL own Ts D tys A H0) (d : decode cc pc = .ok (.imul, 1)) (kk : sw p l e R s m args below meth c D A H0 nL k n Q ws (pc + 1) L (.int (x * y) :: st)) : sw p l e R s m args below meth c D A H0 nL k n Q ws pc L (.int y :: .int x :: st) := fun H locs ls hP hD hS hl => lv_imul C.hx C.hb d (kk H locs ls hP hD hS hl)
theorem sw_iand (pc : Nat) {x y : Int32} (C : CC p s m args c cc nL own Ts D tys A H0) (d : decode cc pc = .ok (.iand, 1)) (kk : sw p l e R s m args below meth c D A H0 nL k n Q ws (pc + 1) L (.int (x &&& y) :: st)) : sw p l e R s m args below meth c D A H0 nL k n Q ws pc L (.int y :: .int x :: st) := fun H locs ls hP hD hS hl => lv_iand C.hx C.hb d (kk H locs ls hP hD hS hl)
theorem sw_idiv (pc : Nat) {x y : Int32} (C : CC p s m args c cc nL own Ts D tys A H0) (d : decode cc pc = .ok (.idiv, 1)) (hy : ¬ y = 0) (kk : sw p l e R s m args below meth c D A H0 nL k n Q ws (pc + 1) L (.int (x / y) :: st)) : sw p l e R s m args below meth c D A H0 nL k n Q ws pc L (.int y :: .int x :: st) := fun H locs ls hP hD hS hl => lv_idiv C.hx C.hb d hy (kk H locs ls hP hD hS hl)
theorem sw_irem (pc : Nat) {x y : Int32} (C : CC p s m args c cc nL own Ts D tys A H0) (d : decode cc pc = .ok (.irem, 1)) (hy : ¬ y = 0) (kk : sw p l e R s m args below meth c D A H0 nL k n Q ws (pc + 1) L (.int (x - x / y * y) :: st)) : sw p l e R s m args below meth c D A H0 nL k n Q ws pc L (.int y :: .int x :: st) := fun H locs ls hP hD hS hl => lv_irem C.hx C.hb d hy (kk H locs ls hP hD hS hl)
theorem sw_ladd (pc : Nat) {x y : Int64} (C : CC p s m args c cc nL own Ts D tys A H0) (d : decode cc pc = .ok (.ladd, 1)) (kk : sw p l e R s m args below meth c D A H0 nL k n Q ws (pc + 1) L (.long (x + y) :: st)) : sw p l e R s m args below meth c D A H0 nL k n Q ws pc L (.long y :: .long x :: st) := fun H locs ls hP hD hS hl => lv_ladd C.hx C.hb d (kk H locs ls hP hD hS hl)
theorem sw_lmul (pc : Nat) {x y : Int64} (C : CC p s m args c cc nL own Ts D tys A H0) (d : decode cc pc = .ok (.lmul, 1)) (kk : sw p l e R s m args below meth c D A H0 nL k n Q ws (pc + 1) L (.long (x * y) :: st)) : sw p l e R s m args below meth c D A H0 nL k n Q ws pc L (.long y :: .long x :: st) := fun H locs ls hP hD hS hl => lv_lmul C.hx C.hb d (kk H locs ls hP hD hS hl)
theorem sw_i2l (pc : Nat) {x : Int32} (C : CC p s m args c cc nL own Ts D tys A H0) (d : decode cc pc = .ok (.i2l, 1)) (kk : sw p l e R s m args below meth c D A H0 nL k n Q ws (pc + 1) L (.long x.toInt64 :: st)) : sw p l e R s m args below meth c D A H0 nL k n Q ws pc L (.int x :: st) := fun H locs ls hP hD hS hl => lv_i2l C.hx C.hb d rfl (kk H locs ls hP hD hS hl)
theorem sw_dup (pc : Nat) {v : Value} (C : CC p s m args c cc nL own Ts D tys A H0) (d : decode cc pc = .ok (.dup, 1)) (hv : v.category = 1) (kk : sw p l e R s m args below meth c D A H0 nL k n Q ws (pc + 1) L (v :: v :: st)) : sw p l e R s m args below meth c D A H0 nL k n Q ws pc L (v :: st) := fun H locs ls hP hD hS hl => lv_dup C.hx C.hb d hv (kk H locs ls hP hD hS hl)
theorem sw_pop (pc : Nat) {v : Value} (C : CC p s m args c cc nL own Ts D tys A H0) (d : decode cc pc = .ok (.pop, 1)) (hv : v.category = 1) (kk : sw p l e R s m args below meth c D A H0 nL k n Q ws (pc + 1) L st) : sw p l e R s m args below meth c D A H0 nL k n Q ws pc L (v :: st) := fun H locs ls hP hD hS hl => lv_pop C.hx C.hb d hv (kk H locs ls hP hD hS hl)
theorem sw_dup2 (pc : Nat) {v v2 : Value} (C : CC p s m args c cc nL own Ts D tys A H0) (d : decode cc pc = .ok (.dup2, 1)) (hv : v.category = 1) (hw : v2.category = 1) (kk : sw p l e R s m args below meth c D A H0 nL k n Q ws (pc + 1) L (v :: v2 :: v :: v2 :: st)) : sw p l e R s m args below meth c D A H0 nL k n Q ws pc L (v :: v2 :: st) := fun H locs ls hP hD hS hl => lv_dup2_11 C.hx C.hb d hv hw (kk H locs ls hP hD hS hl)
theorem sw_if_eq (pc tgt : Nat) {x : Int32} {off : Int} (C : CC p s m args c cc nL own Ts D tys A H0) (d : decode cc pc = .ok (.ifCond .eq off, 3)) (ht : (pc : Int) + off = (tgt : Int)) (kt : x = 0 → sw p l e R s m args below meth c D A H0 nL k n Q ws tgt L st) (kf : ¬ x = 0 → sw p l e R s m args below meth c D A H0 nL k n Q ws (pc + 3) L st) : sw p l e R s m args below meth c D A H0 nL k n Q ws pc L (.int x :: st) := fun H locs ls hP hD hS hl => lv_if_eq C.hx C.hb d ht (fun h => kt h H locs ls hP hD hS hl) (fun h => kf h H locs ls hP hD hS hl)
theorem sw_if_ne (pc tgt : Nat) {x : Int32} {off : Int} (C : CC p s m args c cc nL own Ts D tys A H0) (d : decode cc pc = .ok (.ifCond .ne off, 3)) (ht : (pc : Int) + off = (tgt : Int)) (kt : ¬ x = 0 → sw p l e R s m args below meth c D A H0 nL k n Q ws tgt L st) (kf : x = 0 → sw p l e R s m args below meth c D A H0 nL k n Q ws (pc + 3) L st) : sw p l e R s m args below meth c D A H0 nL k n Q ws pc L (.int x :: st) := fun H locs ls hP hD hS hl => lv_if_ne C.hx C.hb d ht (fun h => kt h H locs ls hP hD hS hl) (fun h => kf h H locs ls hP hD hS hl)
theorem sw_if_lt (pc tgt : Nat) {x : Int32} {off : Int} (C : CC p s m args c cc nL own Ts D tys A H0) (d : decode cc pc = .ok (.ifCond .lt off, 3)) (ht : (pc : Int) + off = (tgt : Int)) (kt : x < 0 → sw p l e R s m args below meth c D A H0 nL k n Q ws tgt L st) (kf : ¬ x < 0 → sw p l e R s m args below meth c D A H0 nL k n Q ws (pc + 3) L st) : sw p l e R s m args below meth c D A H0 nL k n Q ws pc L (.int x :: st) := fun H locs ls hP hD hS hl => lv_if_lt C.hx C.hb d ht (fun h => kt h H locs ls hP hD hS hl) (fun h => kf h H locs ls hP hD hS hl)
theorem sw_if_ge (pc tgt : Nat) {x : Int32} {off : Int} (C : CC p s m args c cc nL own Ts D tys A H0) (d : decode cc pc = .ok (.ifCond .ge off, 3)) (ht : (pc : Int) + off = (tgt : Int)) (kt : 0 ≤ x → sw p l e R s m args below meth c D A H0 nL k n Q ws tgt L st) (kf : ¬ 0 ≤ x → sw p l e R s m args below meth c D A H0 nL k n Q ws (pc + 3) L st) : sw p l e R s m args below meth c D A H0 nL k n Q ws pc L (.int x :: st) := fun H locs ls hP hD hS hl => lv_if_ge C.hx C.hb d ht (fun h => kt h H locs ls hP hD hS hl) (fun h => kf h H locs ls hP hD hS hl)
theorem sw_if_gt (pc tgt : Nat) {x : Int32} {off : Int} (C : CC p s m args c cc nL own Ts D tys A H0) (d : decode cc pc = .ok (.ifCond .gt off, 3)) (ht : (pc : Int) + off = (tgt : Int)) (kt : 0 < x → sw p l e R s m args below meth c D A H0 nL k n Q ws tgt L st) (kf : ¬ 0 < x → sw p l e R s m args below meth c D A H0 nL k n Q ws (pc + 3) L st) : sw p l e R s m args below meth c D A H0 nL k n Q ws pc L (.int x :: st) := fun H locs ls hP hD hS hl => lv_if_gt C.hx C.hb d ht (fun h => kt h H locs ls hP hD hS hl) (fun h => kf h H locs ls hP hD hS hl)
theorem sw_if_le (pc tgt : Nat) {x : Int32} {off : Int} (C : CC p s m args c cc nL own Ts D tys A H0) (d : decode cc pc = .ok (.ifCond .le off, 3)) (ht : (pc : Int) + off = (tgt : Int)) (kt : x ≤ 0 → sw p l e R s m args below meth c D A H0 nL k n Q ws tgt L st) (kf : ¬ x ≤ 0 → sw p l e R s m args below meth c D A H0 nL k n Q ws (pc + 3) L st) : sw p l e R s m args below meth c D A H0 nL k n Q ws pc L (.int x :: st) := fun H locs ls hP hD hS hl => lv_if_le C.hx C.hb d ht (fun h => kt h H locs ls hP hD hS hl) (fun h => kf h H locs ls hP hD hS hl)
theorem sw_icmp_eq (pc tgt : Nat) {x y : Int32} {off : Int} (C : CC p s m args c cc nL own Ts D tys A H0) (d : decode cc pc = .ok (.if_icmp .eq off, 3)) (ht : (pc : Int) + off = (tgt : Int)) (kt : x = y → sw p l e R s m args below meth c D A H0 nL k n Q ws tgt L st) (kf : ¬ x = y → sw p l e R s m args below meth c D A H0 nL k n Q ws (pc + 3) L st) : sw p l e R s m args below meth c D A H0 nL k n Q ws pc L (.int y :: .int x :: st) := fun H locs ls hP hD hS hl => lv_icmp_eq C.hx C.hb d ht (fun h => kt h H locs ls hP hD hS hl) (fun h => kf h H locs ls hP hD hS hl)
theorem sw_icmp_ne (pc tgt : Nat) {x y : Int32} {off : Int} (C : CC p s m args c cc nL own Ts D tys A H0) (d : decode cc pc = .ok (.if_icmp .ne off, 3)) (ht : (pc : Int) + off = (tgt : Int)) (kt : ¬ x = y → sw p l e R s m args below meth c D A H0 nL k n Q ws tgt L st) (kf : x = y → sw p l e R s m args below meth c D A H0 nL k n Q ws (pc + 3) L st) : sw p l e R s m args below meth c D A H0 nL k n Q ws pc L (.int y :: .int x :: st) := fun H locs ls hP hD hS hl => lv_icmp_ne C.hx C.hb d ht (fun h => kt h H locs ls hP hD hS hl) (fun h => kf h H locs ls hP hD hS hl)
theorem sw_icmp_lt (pc tgt : Nat) {x y : Int32} {off : Int} (C : CC p s m args c cc nL own Ts D tys A H0) (d : decode cc pc = .ok (.if_icmp .lt off, 3)) (ht : (pc : Int) + off = (tgt : Int)) (kt : x < y → sw p l e R s m args below meth c D A H0 nL k n Q ws tgt L st) (kf : ¬ x < y → sw p l e R s m args below meth c D A H0 nL k n Q ws (pc + 3) L st) : sw p l e R s m args below meth c D A H0 nL k n Q ws pc L (.int y :: .int x :: st) := fun H locs ls hP hD hS hl => lv_icmp_lt C.hx C.hb d ht (fun h => kt h H locs ls hP hD hS hl) (fun h => kf h H locs ls hP hD hS hl)
theorem sw_icmp_ge (pc tgt : Nat) {x y : Int32} {off : Int} (C : CC p s m args c cc nL own Ts D tys A H0) (d : decode cc pc = .ok (.if_icmp .ge off, 3)) (ht : (pc : Int) + off = (tgt : Int)) (kt : y ≤ x → sw p l e R s m args below meth c D A H0 nL k n Q ws tgt L st) (kf : ¬ y ≤ x → sw p l e R s m args below meth c D A H0 nL k n Q ws (pc + 3) L st) : sw p l e R s m args below meth c D A H0 nL k n Q ws pc L (.int y :: .int x :: st) := fun H locs ls hP hD hS hl => lv_icmp_ge C.hx C.hb d ht (fun h => kt h H locs ls hP hD hS hl) (fun h => kf h H locs ls hP hD hS hl)
theorem sw_icmp_gt (pc tgt : Nat) {x y : Int32} {off : Int} (C : CC p s m args c cc nL own Ts D tys A H0) (d : decode cc pc = .ok (.if_icmp .gt off, 3)) (ht : (pc : Int) + off = (tgt : Int)) (kt : y < x → sw p l e R s m args below meth c D A H0 nL k n Q ws tgt L st) (kf : ¬ y < x → sw p l e R s m args below meth c D A H0 nL k n Q ws (pc + 3) L st) : sw p l e R s m args below meth c D A H0 nL k n Q ws pc L (.int y :: .int x :: st) := fun H locs ls hP hD hS hl => lv_icmp_gt C.hx C.hb d ht (fun h => kt h H locs ls hP hD hS hl) (fun h => kf h H locs ls hP hD hS hl)
theorem sw_icmp_le (pc tgt : Nat) {x y : Int32} {off : Int} (C : CC p s m args c cc nL own Ts D tys A H0) (d : decode cc pc = .ok (.if_icmp .le off, 3)) (ht : (pc : Int) + off = (tgt : Int)) (kt : x ≤ y → sw p l e R s m args below meth c D A H0 nL k n Q ws tgt L st) (kf : ¬ x ≤ y → sw p l e R s m args below meth c D A H0 nL k n Q ws (pc + 3) L st) : sw p l e R s m args below meth c D A H0 nL k n Q ws pc L (.int y :: .int x :: st) := fun H locs ls hP hD hS hl => lv_icmp_le C.hx C.hb d ht (fun h => kt h H locs ls hP hD hS hl) (fun h => kf h H locs ls hP hD hS hl)
theorem sw_goto (pc tgt : Nat) {off : Int} (C : CC p s m args c cc nL own Ts D tys A H0) (d : decode cc pc = .ok (.goto off, 3)) (ht : (pc : Int) + off = (tgt : Int)) (kk : sw p l e R s m args below meth c D A H0 nL k n Q ws tgt L st) : sw p l e R s m args below meth c D A H0 nL k n Q ws pc L st := fun H locs ls hP hD hS hl => lv_goto C.hx C.hb d ht (kk H locs ls hP hD hS hl)
theorem sw_ifnull (pc : Nat) {off : Int} {a : Nat} (C : CC p s m args c cc nL own Ts D tys A H0) (d : decode cc pc = .ok (.ifnull off, 3)) (kk : sw p l e R s m args below meth c D A H0 nL k n Q ws (pc + 3) L st) : sw p l e R s m args below meth c D A H0 nL k n Q ws pc L (.ref a :: st) := fun H locs ls hP hD hS hl => lv_ifnull C.hx C.hb d (kk H locs ls hP hD hS hl)
theorem sw_tblIn (pc tgt : Nat) {dflt lo hi : Int} {offs : Array Int} {len : Nat} {x : Int32} {off : Int} (C : CC p s m args c cc nL own Ts D tys A H0) (j : Nat) (d : decode cc pc = .ok (.tableswitch dflt lo hi offs, len)) (hx : x.toInt = lo + j) (hj : lo + (j : Int) ≤ hi) (ho : offs[j]? = some off) (ht : (pc : Int) + off = (tgt : Int)) (kk : sw p l e R s m args below meth c D A H0 nL k n Q ws tgt L st) : sw p l e R s m args below meth c D A H0 nL k n Q ws pc L (.int x :: st) := fun H locs ls hP hD hS hl => lv_tableIn C.hx C.hb d (by omega) (by omega) (by rw [show (x.toInt - lo).toNat = j by omega]; exact ho) ht (kk H locs ls hP hD hS hl)
theorem sw_tblOut (pc tgt : Nat) {dflt lo hi : Int} {offs : Array Int} {len : Nat} {x : Int32} (C : CC p s m args c cc nL own Ts D tys A H0) (d : decode cc pc = .ok (.tableswitch dflt lo hi offs, len)) (h : x.toInt < lo ∨ hi < x.toInt) (ht : (pc : Int) + dflt = (tgt : Int)) (kk : sw p l e R s m args below meth c D A H0 nL k n Q ws tgt L st) : sw p l e R s m args below meth c D A H0 nL k n Q ws pc L (.int x :: st) := fun H locs ls hP hD hS hl => lv_tableOut C.hx C.hb d h ht (kk H locs ls hP hD hS hl)
theorem sw_lkp (pc tgt : Nat) {dflt : Int} {ps : Array (Int × Int)} {len : Nat} {x : Int32} {off : Int} (C : CC p s m args c cc nL own Ts D tys A H0) (d : decode cc pc = .ok (.lookupswitch dflt ps, len)) (hp : (ps.toList.zip (ps.toList.drop 1)).all (fun (a, next) => a.1 < next.1) = true) (ho : Op.lookupswitch.offset ps.toList dflt x.toInt = off) (ht : (pc : Int) + off = (tgt : Int)) (kk : sw p l e R s m args below meth c D A H0 nL k n Q ws tgt L st) : sw p l e R s m args below meth c D A H0 nL k n Q ws pc L (.int x :: st) := fun H locs ls hP hD hS hl => lv_lookup C.hx C.hb d hp ho ht (kk H locs ls hP hD hS hl)
theorem sw_topi {pc : Nat} {x : Int32} (kk : ∀ y : Int32, y = x → sw p l e R s m args below meth c D A H0 nL k n Q ws pc L (.int y :: st)) : sw p l e R s m args below meth c D A H0 nL k n Q ws pc L (.int x :: st) := kk x rfl
theorem sw_top {pc : Nat} {x y : Int32} (h : x = y) (kk : sw p l e R s m args below meth c D A H0 nL k n Q ws pc L (.int y :: st)) : sw p l e R s m args below meth c D A H0 nL k n Q ws pc L (.int x :: st) := h ▸ kk
theorem vp_cell_eqi {cA : ClassId} {n : Nat} {f g : Nat → Int32} (h : ∀ j, j < n → f j = g j) : vp_cell cA (n, .inl f) = vp_cell cA (n, .inl g) := by
  rw [vp_cell_i, vp_cell_i]
  unfold arrV
  congr 1
  apply Array.ext
  · simp
  · intro i h1 h2
    simp at h1
    simp [h i h1]
theorem va_P.seteq {D : va_G} {cl : List vw_C} {ws : va_W} {H : Heap} {q0 a n : Nat} {cA : ClassId} {f g : Nat → Int32} (hP : va_P D cl ws H) (ha : ws[q0]? = some (a, .inl (cA, n, .inl f))) (h : ∀ j, j < n → f j = g j) : va_P D cl (ws.set q0 (a, .inl (cA, n, .inl g))) H := by
  have hl := (List.getElem?_eq_some_iff.mp ha).1
  intro k q hk
  by_cases hkp : k = q0
  · subst hkp
    rw [List.getElem?_set_self hl] at hk
    cases hk
    have := hP k _ ha
    show H[a]? = some (vp_cell cA (n, .inl g))
    rw [← vp_cell_eqi h]
    exact this
  · rw [List.getElem?_set_ne (Ne.symm hkp)] at hk
    exact hP k q hk
theorem sw_arrEq (q0 : Nat) {pc a N : Nat} {cA : ClassId} {f : Nat → Int32} (g : Nat → Int32) (ha : ws[q0]? = some (a, .inl (cA, N, .inl f))) (h : ∀ j, j < N → f j = g j) (kk : sw p l e R s m args below meth c D A H0 nL k n Q (ws.set q0 (a, .inl (cA, N, .inl g))) pc L st) : sw p l e R s m args below meth c D A H0 nL k n Q ws pc L st := fun H locs ls hP hD hS hl => kk H locs ls (hP.seteq ha h) (hD.set ha) hS hl
theorem sw_ws {pc : Nat} (ws' : va_W) (h : ws = ws') (kk : sw p l e R s m args below meth c D A H0 nL k n Q ws' pc L st) : sw p l e R s m args below meth c D A H0 nL k n Q ws pc L st := h ▸ kk
theorem sw_st {pc : Nat} (st' : List Value) (h : st = st') (kk : sw p l e R s m args below meth c D A H0 nL k n Q ws pc L st') : sw p l e R s m args below meth c D A H0 nL k n Q ws pc L st := h ▸ kk
theorem sw_loc {pc : Nat} {L1 : List (Nat × Value)} (kk : sw p l e R s m args below meth c D A H0 nL k n Q ws pc L1 st) (h : L1.map (fun q => (q.1, some q.2)) = L1.map (fun q => (q.1, lvGet L q.1))) : sw p l e R s m args below meth c D A H0 nL k n Q ws pc L st := by
  intro H locs ls hP hD hS hl
  refine kk H locs ls hP hD hS ⟨hl.1, hl.2.1, fun q hq => ?_⟩
  obtain ⟨j, hj⟩ := List.getElem?_of_mem hq
  have h1 := congrArg (fun z => z[j]?) h
  simp only [List.getElem?_map, hj, Option.map_some] at h1
  exact hl.2.2 _ (lvGet_mem L q.1 q.2 (congrArg Prod.snd (Option.some.inj h1)).symm)
theorem sw_widen {pc k' n' : Nat} (h1 : k ≤ k') (h2 : n ≤ n') (kk : sw p l e R s m args below meth c D A H0 nL k' n' Q ws pc L st) : sw p l e R s m args below meth c D A H0 nL k n Q ws pc L st := fun H locs ls hP hD hS hl => W.widen h1 h2 (kk H locs ls hP hD hS hl)
theorem sw_get (pc q0 j : Nat) {ref Cn : String} {T : u_T} {N ci index a : Nat} {fs : List Value} {v : Value} (C : CC p s m args c cc nL own Ts D tys A H0) (d : decode cc pc = .ok (.getfield index, 3)) (he : ws[q0]? = some (a, .inr (ci, fs))) (hv : fs[j]? = some v) (hin : ∀ w ∈ u_ws Cn T N, w ∈ Ts) (hlink : (Cond.fieldLink own index ref (T j).2.1 (T j).2.2.1).before args s = true) (hc : vwCl[ci]? = some (Cn, T, N)) (hj : Nat.blt j N = true) (hsame : ref = (T j).1) (kk : sw p l e R s m args below meth c D A H0 nL k n Q ws (pc + 3) L (v :: st)) : sw p l e R s m args below meth c D A H0 nL k n Q ws pc L (.ref a :: st) := fun H locs ls hP hD hS hl => va_get C.hx C.hb C.hts hin C.hown C.hK hP q0 he hc j (Nat.le_of_ble_eq_true hj) hlink (fun _ h => by rw [hsame]; exact h) hv d (kk H locs ls hP hD hS hl)
theorem sw_put (pc q0 j : Nat) {ref Cn : String} {T : u_T} {N ci index a : Nat} {fs : List Value} {v : Value} {ty : FieldType} (ty0 : Nat → FieldType) (C : CC p s m args c cc nL own Ts D tys A H0) (d : decode cc pc = .ok (.putfield index, 3)) (he : ws[q0]? = some (a, .inr (ci, fs))) (hl0 : Nat.blt j fs.length = true) (hin : ∀ w ∈ u_ws Cn T N, w ∈ Ts) (hty : ∀ k, k < N → parseFieldDescriptor (T k).2.2.1 = some (ty0 k)) (hnm : ∀ a, a < N → ∀ b, b < N → a ≠ b → (T a).2.1 ≠ (T b).2.1) (hlink : (Cond.fieldLink own index ref (T j).2.1 (T j).2.2.1).before args s = true) (hc : vwCl[ci]? = some (Cn, T, N)) (hj : Nat.blt j N = true) (hsame : ref = (T j).1) (hfin : (T j).2.2.2 = false) (hd : ty0 j = ty) (hn : narrow ty v = v) (hfit : fits ty v = true) (kk : sw p l e R s m args below meth c D A H0 nL k n Q (ws.set q0 (a, .inr (ci, fs.set j v))) (pc + 3) L st) : sw p l e R s m args below meth c D A H0 nL k n Q ws pc L (v :: .ref a :: st) := fun H locs ls hP hD hS hl => va_put C.hx C.hb C.hts hin ty0 hty hnm C.hown C.hK hP hD hS q0 he hc j (Nat.le_of_ble_eq_true hj) hlink (fun _ h => by rw [hsame]; exact h) hfin ((hty j (Nat.le_of_ble_eq_true hj)).trans (by rw [hd])) hn hfit (Nat.le_of_ble_eq_true hl0) d (fun H locs hP hD hS => kk H locs ls hP hD hS hl)
theorem sw_putF (pc q0 j : Nat) {ref Cn : String} {T : u_T} {N ci index a : Nat} {fs : List Value} {v : Value} {ty : FieldType} (ty0 : Nat → FieldType) (C : CC p s m args c cc nL own Ts D tys A H0) (d : decode cc pc = .ok (.putfield index, 3)) (he : ws[q0]? = some (a, .inr (ci, fs))) (hl0 : Nat.blt j fs.length = true) (hin : ∀ w ∈ u_ws Cn T N, w ∈ Ts) (hty : ∀ k, k < N → parseFieldDescriptor (T k).2.2.1 = some (ty0 k)) (hnm : ∀ a, a < N → ∀ b, b < N → a ≠ b → (T a).2.1 ≠ (T b).2.1) (hlink : (Cond.fieldLink own index ref (T j).2.1 (T j).2.2.1).before args s = true) (hc : vwCl[ci]? = some (Cn, T, N)) (hj : Nat.blt j N = true) (hsame : ref = (T j).1) (hfin : (T j).2.2.2 = true) (hi : meth.name = "<init>") (ho : (T j).1 = own) (hd : ty0 j = ty) (hn : narrow ty v = v) (hfit : fits ty v = true) (kk : sw p l e R s m args below meth c D A H0 nL k n Q (ws.set q0 (a, .inr (ci, fs.set j v))) (pc + 3) L st) : sw p l e R s m args below meth c D A H0 nL k n Q ws pc L (v :: .ref a :: st) := fun H locs ls hP hD hS hl => va_putF C.hx C.hb C.hts hin ty0 hty hnm C.hown C.hK hP hD hS q0 he hc j (Nat.le_of_ble_eq_true hj) hlink (fun _ h => by rw [hsame]; exact h) hfin hi ho ((hty j (Nat.le_of_ble_eq_true hj)).trans (by rw [hd])) hn hfit (Nat.le_of_ble_eq_true hl0) d (fun H locs hP hD hS => kk H locs ls hP hD hS hl)
theorem sw_iald (pc q0 t0 : Nat) {cA : ClassId} {a N : Nat} {f : Nat → Int32} {i : Int32} (C : CC p s m args c cc nL own Ts D tys A H0) (d : decode cc pc = .ok (.iaload, 1)) (hin : vp_in i N) (ht : tys[t0]? = some (cA, .int)) (ha : ws[q0]? = some (a, .inl (cA, N, .inl f))) (kk : sw p l e R s m args below meth c D A H0 nL k n Q ws (pc + 1) L (.int (f i.toNatClampNeg) :: st)) : sw p l e R s m args below meth c D A H0 nL k n Q ws pc L (.int i :: .ref a :: st) := fun H locs ls hP hD hS hl => va_iald C.hx C.hb C.hK hP q0 t0 ha ht hin d (kk H locs ls hP hD hS hl)
theorem sw_iast (pc q0 t0 : Nat) {cA : ClassId} {a N : Nat} {f : Nat → Int32} {i : Int32} {x : Int32} (C : CC p s m args c cc nL own Ts D tys A H0) (d : decode cc pc = .ok (.iastore, 1)) (hin : vp_in i N) (ht : tys[t0]? = some (cA, .int)) (ha : ws[q0]? = some (a, .inl (cA, N, .inl f))) (kk : sw p l e R s m args below meth c D A H0 nL k n Q (ws.set q0 (a, .inl (cA, N, .inl (upd f i.toNatClampNeg x)))) (pc + 1) L st) : sw p l e R s m args below meth c D A H0 nL k n Q ws pc L (.int x :: .int i :: .ref a :: st) := fun H locs ls hP hD hS hl => va_iast C.hx C.hb C.hK hP hD hS q0 t0 ha ht hin d (fun H locs hP hD hS => kk H locs ls hP hD hS hl)
theorem sw_lald (pc q0 t0 : Nat) {cA : ClassId} {a N : Nat} {f : Nat → Int64} {i : Int32} (C : CC p s m args c cc nL own Ts D tys A H0) (d : decode cc pc = .ok (.laload, 1)) (hin : vp_in i N) (ht : tys[t0]? = some (cA, .long)) (ha : ws[q0]? = some (a, .inl (cA, N, .inr (.inl f)))) (kk : sw p l e R s m args below meth c D A H0 nL k n Q ws (pc + 1) L (.long (f i.toNatClampNeg) :: st)) : sw p l e R s m args below meth c D A H0 nL k n Q ws pc L (.int i :: .ref a :: st) := fun H locs ls hP hD hS hl => va_lald C.hx C.hb C.hK hP q0 t0 ha ht hin d (kk H locs ls hP hD hS hl)
theorem sw_last (pc q0 t0 : Nat) {cA : ClassId} {a N : Nat} {f : Nat → Int64} {i : Int32} {x : Int64} (C : CC p s m args c cc nL own Ts D tys A H0) (d : decode cc pc = .ok (.lastore, 1)) (hin : vp_in i N) (ht : tys[t0]? = some (cA, .long)) (ha : ws[q0]? = some (a, .inl (cA, N, .inr (.inl f)))) (kk : sw p l e R s m args below meth c D A H0 nL k n Q (ws.set q0 (a, .inl (cA, N, .inr (.inl (vp_updL f i.toNatClampNeg x))))) (pc + 1) L st) : sw p l e R s m args below meth c D A H0 nL k n Q ws pc L (.long x :: .int i :: .ref a :: st) := fun H locs ls hP hD hS hl => va_last C.hx C.hb C.hK hP hD hS q0 t0 ha ht hin d (fun H locs hP hD hS => kk H locs ls hP hD hS hl)
theorem sw_aald (pc q0 t0 : Nat) {cA : ClassId} {Cn : String} {a N b : Nat} {f : Nat → Option Nat} {i : Int32} (C : CC p s m args c cc nL own Ts D tys A H0) (d : decode cc pc = .ok (.aaload, 1)) (hin : vp_in i N) (hf : f i.toNatClampNeg = some b) (ht : tys[t0]? = some (cA, .object Cn)) (ha : ws[q0]? = some (a, .inl (cA, N, .inr (.inr (.inr (.inr f)))))) (kk : sw p l e R s m args below meth c D A H0 nL k n Q ws (pc + 1) L (.ref b :: st)) : sw p l e R s m args below meth c D A H0 nL k n Q ws pc L (.int i :: .ref a :: st) := fun H locs ls hP hD hS hl => va_aldq C.hx C.hb C.hK hP q0 t0 ha ht hin d (by rw [hf]; exact kk H locs ls hP hD hS hl)
theorem sw_aast (pc q0 t0 qk : Nat) {ci : Nat} {cA : ClassId} {r : vw_C} {a N b : Nat} {vs : List Value} {f : Nat → Option Nat} {i : Int32} (C : CC p s m args c cc nL own Ts D tys A H0) (d : decode cc pc = .ok (.aastore, 1)) (hin : vp_in i N) (ht : tys[t0]? = some (cA, .object r.1)) (hc : vwCl[ci]? = some r) (ha : ws[q0]? = some (a, .inl (cA, N, .inr (.inr (.inr (.inr f)))))) (hv : ws[qk]? = some (b, .inr (ci, vs))) (kk : sw p l e R s m args below meth c D A H0 nL k n Q (ws.set q0 (a, .inl (cA, N, .inr (.inr (.inr (.inr (va_up f i.toNatClampNeg (some b)))))))) (pc + 1) L st) : sw p l e R s m args below meth c D A H0 nL k n Q ws pc L (.ref b :: .int i :: .ref a :: st) := fun H locs ls hP hD hS hl => va_astq C.hx C.hb C.hK hP hD hS q0 t0 qk ci ha ht hv hc hin d (fun H locs hP hD hS => kk H locs ls hP hD hS hl)
theorem sw_alen (pc q0 t0 : Nat) {cA : ClassId} {a : Nat} {x : vp_A} {ty : FieldType} (C : CC p s m args c cc nL own Ts D tys A H0) (v : Int32) (d : decode cc pc = .ok (.arraylength, 1)) (ht : tys[t0]? = some (cA, ty)) (ha : ws[q0]? = some (a, .inl (cA, x))) (hv : Int32.ofNat x.1 = v) (kk : sw p l e R s m args below meth c D A H0 nL k n Q ws (pc + 1) L (.int v :: st)) : sw p l e R s m args below meth c D A H0 nL k n Q ws pc L (.ref a :: st) := fun H locs ls hP hD hS hl => va_alen C.hx C.hb C.hK hP q0 t0 ha ht hv d (kk H locs ls hP hD hS hl)
theorem sw_ialdN (pc q0 t0 u : Nat) {cA : ClassId} {a N : Nat} {f : Nat → Int32} {i : Int32} (C : CC p s m args c cc nL own Ts D tys A H0) (d : decode cc pc = .ok (.iaload, 1)) (hi : i = nI u) (hu : u < N) (hN : Nat.ble N 2147483647 = true) (ht : tys[t0]? = some (cA, .int)) (ha : ws[q0]? = some (a, .inl (cA, N, .inl f))) (kk : sw p l e R s m args below meth c D A H0 nL k n Q ws (pc + 1) L (.int (f u) :: st)) : sw p l e R s m args below meth c D A H0 nL k n Q ws pc L (.int i :: .ref a :: st) := by
  have h31 : N < 2 ^ 31 := Nat.lt_of_le_of_lt (Nat.le_of_ble_eq_true hN) (by decide)
  subst hi
  refine sw_iald pc q0 t0 C d (vp_in_nI hu h31) ht ha ?_
  rw [nI_clamp (by omega)]
  exact kk
theorem sw_iastN (pc q0 t0 u : Nat) {cA : ClassId} {a N : Nat} {f : Nat → Int32} {i : Int32} {x : Int32} (C : CC p s m args c cc nL own Ts D tys A H0) (d : decode cc pc = .ok (.iastore, 1)) (hi : i = nI u) (hu : u < N) (hN : Nat.ble N 2147483647 = true) (ht : tys[t0]? = some (cA, .int)) (ha : ws[q0]? = some (a, .inl (cA, N, .inl f))) (kk : sw p l e R s m args below meth c D A H0 nL k n Q (ws.set q0 (a, .inl (cA, N, .inl (upd f u x)))) (pc + 1) L st) : sw p l e R s m args below meth c D A H0 nL k n Q ws pc L (.int x :: .int i :: .ref a :: st) := by
  have h31 : N < 2 ^ 31 := Nat.lt_of_le_of_lt (Nat.le_of_ble_eq_true hN) (by decide)
  subst hi
  refine sw_iast pc q0 t0 C d (vp_in_nI hu h31) ht ha ?_
  rw [nI_clamp (by omega)]
  exact kk
theorem sw_laldN (pc q0 t0 u : Nat) {cA : ClassId} {a N : Nat} {f : Nat → Int64} {i : Int32} (C : CC p s m args c cc nL own Ts D tys A H0) (d : decode cc pc = .ok (.laload, 1)) (hi : i = nI u) (hu : u < N) (hN : Nat.ble N 2147483647 = true) (ht : tys[t0]? = some (cA, .long)) (ha : ws[q0]? = some (a, .inl (cA, N, .inr (.inl f)))) (kk : sw p l e R s m args below meth c D A H0 nL k n Q ws (pc + 1) L (.long (f u) :: st)) : sw p l e R s m args below meth c D A H0 nL k n Q ws pc L (.int i :: .ref a :: st) := by
  have h31 : N < 2 ^ 31 := Nat.lt_of_le_of_lt (Nat.le_of_ble_eq_true hN) (by decide)
  subst hi
  refine sw_lald pc q0 t0 C d (vp_in_nI hu h31) ht ha ?_
  rw [nI_clamp (by omega)]
  exact kk
theorem sw_lastN (pc q0 t0 u : Nat) {cA : ClassId} {a N : Nat} {f : Nat → Int64} {i : Int32} {x : Int64} (C : CC p s m args c cc nL own Ts D tys A H0) (d : decode cc pc = .ok (.lastore, 1)) (hi : i = nI u) (hu : u < N) (hN : Nat.ble N 2147483647 = true) (ht : tys[t0]? = some (cA, .long)) (ha : ws[q0]? = some (a, .inl (cA, N, .inr (.inl f)))) (kk : sw p l e R s m args below meth c D A H0 nL k n Q (ws.set q0 (a, .inl (cA, N, .inr (.inl (vp_updL f u x))))) (pc + 1) L st) : sw p l e R s m args below meth c D A H0 nL k n Q ws pc L (.long x :: .int i :: .ref a :: st) := by
  have h31 : N < 2 ^ 31 := Nat.lt_of_le_of_lt (Nat.le_of_ble_eq_true hN) (by decide)
  subst hi
  refine sw_last pc q0 t0 C d (vp_in_nI hu h31) ht ha ?_
  rw [nI_clamp (by omega)]
  exact kk
theorem tys_one {U : State} {cA cB : ClassId} {ty : FieldType} (h1 : va_RA U cA ty) (h2 : va_RA U cB ty) : cA = cB := by
  cases ty with
  | object C =>
    obtain ⟨k1, q1, -, -, -, e1⟩ := h1
    obtain ⟨k2, q2, -, -, -, e2⟩ := h2
    exact Option.some.inj (e1.symm.trans e2)
  | _ => exact Option.some.inj (h1.symm.trans h2)
theorem va_K.last {D : va_G} {cl : List vw_C} {tys : List (ClassId × FieldType)} {q : ClassId × FieldType} {U : State} (h : va_K D cl (tys ++ [q]) U) : va_RA U q.1 q.2 := (h.2 tys.length q (by simp)).2
theorem sw_newI (pc t0 : Nat) {cA : ClassId} {v : Int32} (C : CC p s m args c cc nL own Ts D tys A H0) (N : Nat) (harr : (Cond.arrayClass .int).before args s = true) (ht : tys[t0]? = some (cA, .int)) (hn : ¬ v < 0) (hN : v.toNatClampNeg = N) (hbytes : N * 4 ≤ 536870912) (hcells : k + 1 ≤ R.cells) (hslots : n + N ≤ R.slots) (d : decode cc pc = .ok (.newarray .int, 2)) (kk : ∀ q : Nat, sw p l e R s m args below meth c D A H0 nL (k + 1) (n + N) Q (ws ++ [(q, .inl (cA, N, .inl (fun _ => 0)))]) (pc + 2) L (.ref q :: st)) : sw p l e R s m args below meth c D A H0 nL k n Q ws pc L (.int v :: st) := by
  intro H locs ls hP hD hS hl
  refine va_newa (atype := .int) C.hx C.hb harr (ty := .int) rfl C.hK hP hD hS C.hA (a0 := (N, .inl (fun _ => 0))) (fun _ => rfl) hn hN hbytes hcells hslots d (fun q cB H1 hK hP hD hS => ?_)
  have e : cB = cA := tys_one hK.last (C.hK.2 t0 _ ht).2
  subst e
  exact kk q H1 locs ls hP hD hS hl
theorem sw_newL (pc t0 : Nat) {cA : ClassId} {v : Int32} (C : CC p s m args c cc nL own Ts D tys A H0) (N : Nat) (harr : (Cond.arrayClass .long).before args s = true) (ht : tys[t0]? = some (cA, .long)) (hn : ¬ v < 0) (hN : v.toNatClampNeg = N) (hbytes : N * 8 ≤ 536870912) (hcells : k + 1 ≤ R.cells) (hslots : n + N ≤ R.slots) (d : decode cc pc = .ok (.newarray .long, 2)) (kk : ∀ q : Nat, sw p l e R s m args below meth c D A H0 nL (k + 1) (n + N) Q (ws ++ [(q, .inl (cA, N, .inr (.inl (fun _ => 0))))]) (pc + 2) L (.ref q :: st)) : sw p l e R s m args below meth c D A H0 nL k n Q ws pc L (.int v :: st) := by
  intro H locs ls hP hD hS hl
  refine va_newa (atype := .long) C.hx C.hb harr (ty := .long) rfl C.hK hP hD hS C.hA (a0 := (N, .inr (.inl (fun _ => 0)))) (fun _ => rfl) hn hN hbytes hcells hslots d (fun q cB H1 hK hP hD hS => ?_)
  have e : cB = cA := tys_one hK.last (C.hK.2 t0 _ ht).2
  subst e
  exact kk q H1 locs ls hP hD hS hl
theorem sw_newQ (pc t0 : Nat) {cA : ClassId} {Cn : String} {index : Nat} {v : Int32} (C : CC p s m args c cc nL own Ts D tys A H0) (N : Nat) (hover : va_AO Cn s) (hcl : (Cond.classLink own index Cn).before args s = true) (ht : tys[t0]? = some (cA, .object Cn)) (hn : ¬ v < 0) (hN : v.toNatClampNeg = N) (hbytes : N * 4 ≤ 536870912) (hcells : k + 1 ≤ R.cells) (hslots : n + N ≤ R.slots) (d : decode cc pc = .ok (.anewarray index, 3)) (kk : ∀ q : Nat, sw p l e R s m args below meth c D A H0 nL (k + 1) (n + N) Q (ws ++ [(q, .inl (cA, N, .inr (.inr (.inr (.inr (fun _ => none)))))) ]) (pc + 3) L (.ref q :: st)) : sw p l e R s m args below meth c D A H0 nL k n Q ws pc L (.int v :: st) := by
  intro H locs ls hP hD hS hl
  refine va_newq C.hx C.hb C.hown hcl hover C.hK hP hD hS C.hA hn hN hbytes hcells hslots d (fun q cB H1 hK hP hD hS => ?_)
  have e : cB = cA := tys_one hK.last (C.hK.2 t0 _ ht).2
  subst e
  exact kk q H1 locs ls hP hD hS hl
theorem sw_new (pc : Nat) {Cn : String} {T : u_T} {N ci index : Nat} (ty0 : Nat → FieldType) (fs : List Value) (C : CC p s m args c cc nL own Ts D tys A H0) (hin : ∀ w ∈ u_ws Cn T N, w ∈ Ts) (hty : ∀ k, k < N → parseFieldDescriptor (T k).2.2.1 = some (ty0 k)) (hcl : (Cond.classLink own index Cn).before args s = true) (hinst : (Cond.instantiable Cn N).before args s = true) (hini : (Cond.initialized Cn).before args s = true) (hc : vwCl[ci]? = some (Cn, T, N)) (hfs : ∀ j, j < N → defaultValue (ty0 j) = vp_V fs j) (hcells : k + 1 ≤ R.cells) (hslots : n + N ≤ R.slots) (d : decode cc pc = .ok (.new index, 3)) (kk : ∀ q : Nat, sw p l e R s m args below meth c D A H0 nL (k + 1) (n + N) Q (ws ++ [(q, .inr (ci, fs))]) (pc + 3) L (.ref q :: st)) : sw p l e R s m args below meth c D A H0 nL k n Q ws pc L st := fun H locs ls hP hD hS hl => va_new C.hx C.hb C.hts hin ty0 hty C.hown hcl hinst hini C.hK hP hD hS C.hA hc hfs hcells hslots d (fun q H1 hP hD hS => kk q H1 locs ls hP hD hS hl)
theorem sw_objInit (pc : Nat) {idx a : Nat} (C : CC p s m args c cc nL own Ts D tys A H0) (hlink : (Cond.methodLink own idx Lib.objectInit).before args s = true) (hinst : (Cond.instanceMethod Lib.objectInit).before args s = true) (hcode : (Cond.code Lib.objectInit ⟨#[0xb1]⟩ 1 none).before args s = true) (d : decode cc pc = .ok (.invokespecial idx, 3)) (hfr : 1 ≤ R.frames) (hlo : (st.map fun v => v.category).sum + 12 ≤ R.locals) (kk : sw p l e R s m args below meth c D A H0 nL k n Q ws (pc + 3) L st) : sw p l e R s m args below meth c D A H0 nL k n Q ws pc L (.ref a :: st) := fun H locs ls hP hD hS hl => W.objInit C.hx C.hb C.hown hlink hinst hcode rfl (by rw [C.hml]; exact hl.1) rfl d hfr (by show 2 * 0 + _ + 12 ≤ _; omega) (kk H locs ls hP hD hS hl)
theorem sw_mmax (pc : Nat) {index : Nat} {x y : Int32} (C : CC p s m args c cc nL own Ts D tys A H0) (hlink : (Cond.methodLink own index Lib.Math.max.name).before args s = true) (hstat : (Cond.static Lib.Math.max.name).before args s = true) (hini : (Cond.initialized "java/lang/Math").before args s = true) (hcode : (Cond.code Lib.Math.max.name Lib.Math.max.code 2 (some .int)).before args s = true) (hfr : 1 ≤ R.frames) (hlo : (st.map fun v => v.category).sum + 13 ≤ R.locals) (hc : k ≤ R.cells) (hs : n ≤ R.slots) (d : decode cc pc = .ok (.invokestatic index, 3)) (kk : sw p l e R s m args below meth c D A H0 nL k n Q ws (pc + 3) L (.int (if x < y then y else x) :: st)) : sw p l e R s m args below meth c D A H0 nL k n Q ws pc L (.int y :: .int x :: st) := fun H locs ls hP hD hS hl => va_mmax C.hx C.hb (by rw [C.hml]; exact hl.1.symm) C.hown hlink hstat hini hcode hfr hlo hc hs d (kk H locs ls hP hD hS hl)
theorem sw_mmin (pc : Nat) {index : Nat} {x y : Int32} (C : CC p s m args c cc nL own Ts D tys A H0) (hlink : (Cond.methodLink own index Lib.Math.min.name).before args s = true) (hstat : (Cond.static Lib.Math.min.name).before args s = true) (hini : (Cond.initialized "java/lang/Math").before args s = true) (hcode : (Cond.code Lib.Math.min.name Lib.Math.min.code 2 (some .int)).before args s = true) (hfr : 1 ≤ R.frames) (hlo : (st.map fun v => v.category).sum + 13 ≤ R.locals) (hc : k ≤ R.cells) (hs : n ≤ R.slots) (d : decode cc pc = .ok (.invokestatic index, 3)) (kk : sw p l e R s m args below meth c D A H0 nL k n Q ws (pc + 3) L (.int (if y < x then y else x) :: st)) : sw p l e R s m args below meth c D A H0 nL k n Q ws pc L (.int y :: .int x :: st) := fun H locs ls hP hD hS hl => va_mmin C.hx C.hb (by rw [C.hml]; exact hl.1.symm) C.hown hlink hstat hini hcode hfr hlo hc hs d (kk H locs ls hP hD hS hl)
theorem sw_copy (pc q0 q1 t0 : Nat) {index a0 a n0 n1 : Nat} {cA : ClassId} {f g : Nat → Int32} {sp dp z : Int32} (C : CC p s m args c cc nL own Ts D tys A H0) (hlink : (Cond.methodLink own index arraycopyName).before args s = true) (hnat : (Cond.native arraycopyName).before args s = true) (hstat : (Cond.static arraycopyName).before args s = true) (hini : (Cond.initialized "java/lang/System").before args s = true) (h1 : ¬ sp < 0) (h2 : ¬ dp < 0) (h3 : ¬ z < 0) (h4 : sp.toNatClampNeg + z.toNatClampNeg ≤ n0) (h5 : dp.toNatClampNeg + z.toNatClampNeg ≤ n1) (hfr : 1 ≤ R.frames) (hlo : (st.map fun v => v.category).sum + (nativeFrameWords "java/lang/System" "arraycopy" 5 + 11) ≤ R.locals) (d : decode cc pc = .ok (.invokestatic index, 3)) (ht : tys[t0]? = some (cA, .int)) (ha0 : ws[q0]? = some (a0, .inl (cA, n0, .inl f))) (ha1 : ws[q1]? = some (a, .inl (cA, n1, .inl g))) (kk : sw p l e R s m args below meth c D A H0 nL k n Q (ws.set q1 (a, .inl (cA, n1, .inl (va_cpy f g sp.toNatClampNeg dp.toNatClampNeg z.toNatClampNeg)))) (pc + 3) L st) : sw p l e R s m args below meth c D A H0 nL k n Q ws pc L (.int z :: .int dp :: .ref a :: .int sp :: .ref a0 :: st) := fun H locs ls hP hD hS hl => va_copyi C.hx C.hb (by rw [C.hml]; exact hl.1.symm) C.hown hlink hnat hstat hini C.hK hP hD hS q0 q1 t0 t0 ha0 ha1 ht ht rfl h1 h2 h3 h4 h5 (fun _ _ => rfl) hfr hlo d (fun H locs hP hD hS => kk H locs ls hP hD hS hl)
theorem sw_copyN (pc q0 q1 t0 u1 u2 u3 : Nat) {index a0 a n0 n1 : Nat} {cA : ClassId} {f g : Nat → Int32} {sp dp z : Int32} (C : CC p s m args c cc nL own Ts D tys A H0) (d : decode cc pc = .ok (.invokestatic index, 3)) (hlink : (Cond.methodLink own index arraycopyName).before args s = true) (hnat : (Cond.native arraycopyName).before args s = true) (hstat : (Cond.static arraycopyName).before args s = true) (hini : (Cond.initialized "java/lang/System").before args s = true) (e1 : sp = nI u1) (e2 : dp = nI u2) (e3 : z = nI u3) (h4 : u1 + u3 ≤ n0) (h5 : u2 + u3 ≤ n1) (hn0 : Nat.ble n0 2147483647 = true) (hn1 : Nat.ble n1 2147483647 = true) (hfr : 1 ≤ R.frames) (hlo : (st.map fun v => v.category).sum + (nativeFrameWords "java/lang/System" "arraycopy" 5 + 11) ≤ R.locals) (ht : tys[t0]? = some (cA, .int)) (ha0 : ws[q0]? = some (a0, .inl (cA, n0, .inl f))) (ha1 : ws[q1]? = some (a, .inl (cA, n1, .inl g))) (kk : sw p l e R s m args below meth c D A H0 nL k n Q (ws.set q1 (a, .inl (cA, n1, .inl (va_cpy f g u1 u2 u3)))) (pc + 3) L st) : sw p l e R s m args below meth c D A H0 nL k n Q ws pc L (.int z :: .int dp :: .ref a :: .int sp :: .ref a0 :: st) := by
  have h0 : n0 < 2 ^ 31 := Nat.lt_of_le_of_lt (Nat.le_of_ble_eq_true hn0) (by decide)
  have h1 : n1 < 2 ^ 31 := Nat.lt_of_le_of_lt (Nat.le_of_ble_eq_true hn1) (by decide)
  subst e1 e2 e3
  have c1 : (nI u1).toNatClampNeg = u1 := nI_clamp (by omega)
  have c2 : (nI u2).toNatClampNeg = u2 := nI_clamp (by omega)
  have c3 : (nI u3).toNatClampNeg = u3 := nI_clamp (by omega)
  refine sw_copy pc q0 q1 t0 C hlink hnat hstat hini (nI_pos (by omega)) (nI_pos (by omega)) (nI_pos (by omega)) (by rw [c1, c3]; exact h4) (by rw [c2, c3]; exact h5) hfr hlo d ht ha0 ha1 ?_
  rw [c1, c2, c3]
  exact kk
/-- how a contract ends -/
def ctQ (D : va_G) (tys : List (ClassId × FieldType)) (A : Nat → Prop) (post : Option Value → va_W → Prop) : Array Value → State → Outcome → State → Prop := fun _ st oc t =>
  (∃ (v : Option Value) (w1 : va_W), oc = .returned v ∧ post v w1 ∧ va_P D vwCl w1 t.heap ∧ va_K D vwCl tys t ∧ va_D A w1) ∧ va_F A st t
/-- how a contract starts -/
def ctP (D : va_G) (tys : List (ClassId × FieldType)) (As : List Value) (wc : va_W) (sz : Nat) : Array Value → State → Prop := va_Pc As (fun U => U.heap.size = sz ∧ va_P D vwCl wc U.heap ∧ va_K D vwCl tys U ∧ va_D (fun _ => True) wc)
/-- a method's contract: over the cells wc, with the arguments As, it returns; 'post' of its answer and of the cells behind it -/
def Ct (l : Launch) (y : MethodName) (cw : Cond) (fr lo mc ms : Nat) (D : va_G) (tys : List (ClassId × FieldType)) (As : List Value) (wc : va_W) (post : Option Value → va_W → Prop) : Prop :=
  ∀ sz : Nat, Met l y (cw :: lw_all) ({ frames := fr, cells := mc, slots := ms, locals := lo } : Room) (ctP D tys As wc sz) (ctQ D tys (va_A wc sz) post) mc ms (va_A wc sz)
theorem ctP_blind {D : va_G} {tys : List (ClassId × FieldType)} {As : List Value} {wc : va_W} {sz : Nat} : FrameBlind (ctP D tys As wc sz) := fun a U g mk q => by
  obtain ⟨q0, q1, qP, qK, qD⟩ := q
  exact ⟨q0, q1, qP, va_K.moved (u := U) (U := U.calling g mk a) (Vm.Alike.refl U.vm) qK, qD⟩
/-- a body gives its contract -/
theorem Ct.of {l : Launch} {y : MethodName} {cc : ByteArray} {maxL : Nat} {ret : Option FieldType} {fr lo mc ms : Nat} {D : va_G} {tys : List (ClassId × FieldType)} {As : List Value} {wc : va_W} {post : Option Value → va_W → Prop} (own : String) (hy : plainName y.cls = true) (ho : y.cls = own) (hL : (lg_sl As).length ≤ maxL)
    (body : ∀ (p : Program) (e : Env) (s : State) (m : MethodId) (below : List Frame) (meth : Method) (c : Code) (A : Nat → Prop), CC p s m As.toArray c cc maxL own (Cond.code y cc maxL ret :: lw_all) D tys A s.heap → (meth.sig.returnType = ret ∧ meth.locks = false ∧ meth.name = y.name) →
      sw p l e ({ frames := fr, cells := mc, slots := ms, locals := lo } : Room) s m As.toArray below meth c D A s.heap maxL 0 0 (MQ below (ctQ D tys A post) As.toArray s mc ms A) wc 0 (lv_args 0 As) []) : Ct l y (Cond.code y cc maxL ret) fr lo mc ms D tys As wc post := by
  intro sz
  refine Met.ofW (cc := cc) (maxL := maxL) (ret := ret) hy rfl ?_
  intro p e s m args below meth c s₁ B hml hv
  obtain ⟨rfl, hsz, hP, hK, hD0⟩ := hv
  subst hsz
  have hD := hD0.self (sz := s.heap.size)
  have hA : ∀ q : Nat, s.heap.size ≤ q → va_A wc s.heap.size q := fun q h => Or.inr h
  have hl := lv_entry As (n := maxL) hL
  rw [lg_entry_eq]
  exact body p e s m below meth c (va_A wc s.heap.size) ⟨⟨B.exec, B.bytes, hml, ho ▸ findClass_of_methodNamed B.named, atoms_spec B.pre⟩, hK, hA⟩ ⟨B.returns, B.notSynchronized, (name_of_methodNamed B.named B.method).1⟩ s.heap [] _ hP hD va_S.rf hl

theorem sw_iret (pc : Nat) {v : Int32} {nm : String} {post : Option Value → va_W → Prop} (C : CC p s m args c cc nL own Ts D tys A s.heap) (RC : meth.sig.returnType = (some .int) ∧ meth.locks = false ∧ meth.name = nm) (d : decode cc pc = .ok (.ireturn, 1)) (hp : post (some (.int v)) ws) : sw p l e R s m args below meth c D A s.heap nL k n (MQ below (ctQ D tys A post) args s k n A) ws pc L [.int v] := fun H locs ls hP hD hS hl => have hlocks := RC.2.1; W.iret C.hx C.hb RC.1 (fun t ht hW => ⟨⟨_, _, rfl, hp, by rw [ht]; exact hP, va_K.moved hW.alike C.hK, hD⟩, hS.F ht⟩) hS.2.2 d
theorem sw_lret (pc : Nat) {v : Int64} {nm : String} {post : Option Value → va_W → Prop} (C : CC p s m args c cc nL own Ts D tys A s.heap) (RC : meth.sig.returnType = (some .long) ∧ meth.locks = false ∧ meth.name = nm) (d : decode cc pc = .ok (.lreturn, 1)) (hp : post (some (.long v)) ws) : sw p l e R s m args below meth c D A s.heap nL k n (MQ below (ctQ D tys A post) args s k n A) ws pc L [.long v] := fun H locs ls hP hD hS hl => have hlocks := RC.2.1; W.lret C.hx C.hb RC.1 (fun t ht hW => ⟨⟨_, _, rfl, hp, by rw [ht]; exact hP, va_K.moved hW.alike C.hK, hD⟩, hS.F ht⟩) hS.2.2 d
theorem sw_dret (pc : Nat) {v : UInt64} {nm : String} {post : Option Value → va_W → Prop} (C : CC p s m args c cc nL own Ts D tys A s.heap) (RC : meth.sig.returnType = (some .double) ∧ meth.locks = false ∧ meth.name = nm) (d : decode cc pc = .ok (.dreturn, 1)) (hp : post (some (.double v)) ws) : sw p l e R s m args below meth c D A s.heap nL k n (MQ below (ctQ D tys A post) args s k n A) ws pc L [.double v] := fun H locs ls hP hD hS hl => have hlocks := RC.2.1; W.dret C.hx C.hb RC.1 (fun t ht hW => ⟨⟨_, _, rfl, hp, by rw [ht]; exact hP, va_K.moved hW.alike C.hK, hD⟩, hS.F ht⟩) hS.2.2 d
theorem sw_zret (pc : Nat) {v : Int32} {nm : String} {post : Option Value → va_W → Prop} (C : CC p s m args c cc nL own Ts D tys A s.heap) (RC : meth.sig.returnType = (some .boolean) ∧ meth.locks = false ∧ meth.name = nm) (hz : narrow .boolean (.int v) = .int v) (d : decode cc pc = .ok (.ireturn, 1)) (hp : post (some (.int v)) ws) : sw p l e R s m args below meth c D A s.heap nL k n (MQ below (ctQ D tys A post) args s k n A) ws pc L [.int v] := fun H locs ls hP hD hS hl => have hlocks := RC.2.1; W.zret C.hx C.hb RC.1 hz (fun t ht hW => ⟨⟨_, _, rfl, hp, by rw [ht]; exact hP, va_K.moved hW.alike C.hK, hD⟩, hS.F ht⟩) hS.2.2 d
theorem sw_vret (pc : Nat) {nm : String} {post : Option Value → va_W → Prop} (C : CC p s m args c cc nL own Ts D tys A s.heap) (RC : meth.sig.returnType = none ∧ meth.locks = false ∧ meth.name = nm) (d : decode cc pc = .ok (.return_, 1)) (hp : post none ws) : sw p l e R s m args below meth c D A s.heap nL k n (MQ below (ctQ D tys A post) args s k n A) ws pc L [] := fun H locs ls hP hD hS hl => have hlocks := RC.2.1; W.vret C.hx C.hb RC.1 (fun t ht hW => ⟨⟨_, _, rfl, hp, by rw [ht]; exact hP, va_K.moved hW.alike C.hK, hD⟩, hS.F ht⟩) hS.2.2 d
theorem sw_aret (pc : Nat) {v : Nat} {X nm : String} {post : Option Value → va_W → Prop} (C : CC p s m args c cc nL own Ts D tys A s.heap) (RC : meth.sig.returnType = (some (.object X)) ∧ meth.locks = false ∧ meth.name = nm) (d : decode cc pc = .ok (.areturn, 1)) (hp : post (some (.ref v)) ws) : sw p l e R s m args below meth c D A s.heap nL k n (MQ below (ctQ D tys A post) args s k n A) ws pc L [.ref v] := fun H locs ls hP hD hS hl => have hlocks := RC.2.1; W.aret C.hx C.hb RC.1 (Or.inl ⟨_, rfl⟩) (Or.inr ⟨_, rfl⟩) (fun t ht hW => ⟨⟨_, _, rfl, hp, by rw [ht]; exact hP, va_K.moved hW.alike C.hK, hD⟩, hS.F ht⟩) hS.2.2 d
def pstR (r : Nat) (w0 : va_W) : Option Value → va_W → Prop := fun v w1 => v = some (.ref r) ∧ w1 = w0
theorem va_callg {pc : Nat} {ls : Array Slot} {rest st0 : List Value} {a : Array Value} {A0 A1 : Nat → Prop} {H : Heap} {locs : List Loc} {mc ms : Nat} {free : Addr → Prop} {post : Option Value → va_W → Prop} (hr : va_Run p l e R s m args below meth c H locs k n mc ms (F0 m pc ls st0) rest (ctQ D tys A1 post a) free) (hS : va_S A0 H0 H locs) (hA : ∀ q, q < H.size → A1 q → A0 q) (hf : ∀ q, free q → A0 q)
    (kk : ∀ (v : Option Value) (w1 : va_W) (H1 : Heap) (locs1 : List Loc), post v w1 → va_P D vwCl w1 H1 → va_D A1 w1 → H.size ≤ H1.size → (∀ q : Nat, q < H.size → ¬ A1 q → H1[q]? = H[q]?) → va_S A0 H0 H1 locs1 → W p l e R s m args below meth c H1 locs1 (k + mc) (n + ms) Q (F0 m (pc + 3) ls (v.toList ++ rest))) : W p l e R s m args below meth c H locs k n Q (F0 m pc ls st0) := by
  intro T hT X
  obtain ⟨v, st₀, t, T', L, h0, X', hL, e1, e2, ⟨⟨v', w1, hv, hp, hP1, -, hD1⟩, hz, hk⟩, st⟩ := hr T hT X
  cases hv
  rw [h0] at hz hk
  obtain ⟨t2, a1, b1⟩ := kk v w1 T'.heap (locs ++ L) hp (by rw [e1]; exact hP1) hD1 (by rw [e1]; exact hz) (fun q h1 h2 => by rw [e1]; exact hk q h1 h2)
    ⟨Nat.le_trans hS.1 (by rw [e1]; exact hz), fun q h1 h2 => by rw [e1, hk q (Nat.lt_of_lt_of_le h1 hS.1) (fun z => h2 (hA q (Nat.lt_of_lt_of_le h1 hS.1) z))]; exact hS.2.1 q h1 h2, fun q hq => by
      rcases List.mem_append.mp hq with h | h
      · exact hS.2.2 q h
      · exact hf _ (hL q h)⟩ T' rfl X'
  exact ⟨t2, st t2 a1, b1⟩
theorem goodAll {x : Cond} : GoodIn (x :: lw_all) lw_all := fun w h => ⟨List.mem_cons_of_mem _ h, good_of_word (List.mem_filter.mp h).2⟩
theorem goodC {x cw : Cond} (h : cw ∈ lw_all) : GoodIn (x :: lw_all) (cw :: lw_all) := fun w hw => by
  rcases List.mem_cons.mp hw with rfl | hw
  · exact goodAll _ h
  · exact goodAll w hw
theorem goodV {x cw : Cond} {own Cn : String} {idx : Nat} {y : MethodName} (h0 : cw ∈ lw_all) (h1 : Cond.methodLink own idx y ∈ lw_all) (h2 : Cond.instanceMethod y ∈ lw_all) (h3 : Cond.selects Cn y y ∈ lw_all) (h4 : Cond.initialized Cn ∈ lw_all) : GoodIn (x :: lw_all) (wsV own idx Cn y (cw :: lw_all)) := fun w hw => by
  unfold wsV at hw
  simp only [List.cons_append, List.nil_append, List.mem_cons] at hw
  rcases hw with rfl | rfl | rfl | rfl | rfl | hw
  · exact goodAll _ h1
  · exact goodAll _ h2
  · exact goodAll _ h3
  · exact goodAll _ h4
  · exact goodAll _ h0
  · exact goodAll _ hw
theorem goodS {x cw : Cond} {own : String} {idx : Nat} {y : MethodName} (h0 : cw ∈ lw_all) (h1 : Cond.methodLink own idx y ∈ lw_all) (h2 : Cond.static y ∈ lw_all) (h4 : Cond.initialized y.cls ∈ lw_all) : GoodIn (x :: lw_all) (va_wsS own idx y (cw :: lw_all)) := fun w hw => by
  unfold va_wsS at hw
  simp only [List.cons_append, List.nil_append, List.mem_cons] at hw
  rcases hw with rfl | rfl | rfl | rfl | hw
  · exact goodAll _ h1
  · exact goodAll _ h2
  · exact goodAll _ h4
  · exact goodAll _ h0
  · exact goodAll _ hw

theorem sw_callV (pc : Nat) (isC : List Nat) (na : Nat) {fr lo mc ms maxL index b ci : Nat} {y : MethodName} {bytes : ByteArray} {ret : Option FieldType} {wc : va_W} {post : Option Value → va_W → Prop} {x0 : Cond} {As : List Value} {Cn : String} {T : u_T} {N : Nat} {fs : List Value} (C : CC p s m args c cc nL own (x0 :: lw_all) D tys A H0) (hM : Ct l y (Cond.code y bytes maxL ret) fr lo mc ms D tys (.ref b :: As) wc post) (g0 : Cond.code y bytes maxL ret ∈ lw_all) (g1 : Cond.methodLink own index y ∈ lw_all) (g2 : Cond.instanceMethod y ∈ lw_all) (g3 : Cond.selects Cn y y ∈ lw_all) (g4 : Cond.initialized Cn ∈ lw_all)
    (hd : y.cls = Cn ∧ y.cls ≠ "java/lang/invoke/MethodHandle" ∧ y.cls ≠ "java/lang/invoke/VarHandle" ∧ (parseMethodDescriptor y.desc).map (fun d => d.parameters.length) = some na) (d : decode cc pc = .ok (.invokevirtual index, 3)) (hna : As.length = na) (hc : vwCl[ci]? = some (Cn, T, N)) (hR : Nat.ble (fr + 1) R.frames = true ∧ Nat.ble (8 + (maxL + 11) + lo) R.locals = true) (hf : k + mc ≤ R.cells ∧ n + ms ≤ R.slots) (hst : Nat.ble (st.map fun v => v.category).sum 8 = true) (hp : wpick ws isC = wc) (hn : wnd isC = true) (hw : wall ws.length isC = true) (hlw : ∀ v w1, post v w1 → isC.length ≤ w1.length) (hrv : wc[0]? = some (b, .inr (ci, fs)))
    (kk : ∀ (v : Option Value) (w1 : va_W), post v w1 → sw p l e R s m args below meth c D A H0 nL (k + mc) (n + ms) Q (wput ws isC w1) (pc + 3) L (v.toList ++ st)) : sw p l e R s m args below meth c D A H0 nL k n Q ws pc L (As.reverse ++ .ref b :: st) := by
  subst hp
  have hw' := wall_lt hw
  have hn := wnd_nd hn
  intro H locs ls hP hD hS hl
  have hPc := wpick_P isC hP
  have hDc := wpick_D isC hD hn hw'
  have hFc := va_free (wc := wpick ws isC) hD hS C.hA isC (wpick_map isC ws hw')
  have hK := C.hK
  refine va_callg (va_runV (As := As) (rest := st) (C := Cn) C.1 (hM H.size) (cwV na C.hts (goodV g0 g1 g2 g3 g4) rfl rfl rfl hd ⟨Nat.le_of_ble_eq_true hR.1, Nat.le_of_ble_eq_true hR.2⟩) ⟨ctP_blind, va_recv (q := (Cn, T, N)) hK hPc hc hrv, fun U hU hW => ⟨rfl, by rw [hU], by rw [hU]; exact hPc, va_K.moved hW.alike hK, hDc.weaken (fun _ _ _ _ => trivial)⟩⟩ rfl hna hl.1 rfl (lv_room (Nat.le_of_ble_eq_true hst)) d hf) hS (fun q _ h => hFc q h) hFc (fun v w1 H1 locs1 hpost hP1 hD1 hz1 hk1 hS1 => ?_)
  obtain ⟨hP2, hD2⟩ := wput_ok isC hP hD hn hw' (hlw v w1 hpost) hk1 hFc hP1 hD1
  exact kk v w1 hpost H1 locs1 ls hP2 hD2 hS1 hl
theorem sw_callS (pc : Nat) (isC : List Nat) (na : Nat) {fr lo mc ms maxL index : Nat} {y : MethodName} {bytes : ByteArray} {ret : Option FieldType} {wc : va_W} {post : Option Value → va_W → Prop} {x0 : Cond} {As : List Value} (C : CC p s m args c cc nL own (x0 :: lw_all) D tys A H0) (hM : Ct l y (Cond.code y bytes maxL ret) fr lo mc ms D tys As wc post) (g0 : Cond.code y bytes maxL ret ∈ lw_all) (g1 : Cond.methodLink own index y ∈ lw_all) (g2 : Cond.static y ∈ lw_all) (g4 : Cond.initialized y.cls ∈ lw_all)
    (hd : y.cls ≠ "java/lang/invoke/MethodHandle" ∧ y.cls ≠ "java/lang/invoke/VarHandle" ∧ (parseMethodDescriptor y.desc).map (fun d => d.parameters.length) = some na) (d : decode cc pc = .ok (.invokestatic index, 3)) (hna : As.length = na) (hR : Nat.ble (fr + 1) R.frames = true ∧ Nat.ble (8 + (maxL + 11) + lo) R.locals = true) (hf : k + mc ≤ R.cells ∧ n + ms ≤ R.slots) (hst : Nat.ble (st.map fun v => v.category).sum 8 = true) (hp : wpick ws isC = wc) (hn : wnd isC = true) (hw : wall ws.length isC = true) (hlw : ∀ v w1, post v w1 → isC.length ≤ w1.length)
    (kk : ∀ (v : Option Value) (w1 : va_W), post v w1 → sw p l e R s m args below meth c D A H0 nL (k + mc) (n + ms) Q (wput ws isC w1) (pc + 3) L (v.toList ++ st)) : sw p l e R s m args below meth c D A H0 nL k n Q ws pc L (As.reverse ++ st) := by
  subst hp
  have hw' := wall_lt hw
  have hn := wnd_nd hn
  intro H locs ls hP hD hS hl
  have hPc := wpick_P isC hP
  have hDc := wpick_D isC hD hn hw'
  have hFc := va_free (wc := wpick ws isC) hD hS C.hA isC (wpick_map isC ws hw')
  have hK := C.hK
  refine va_callg (va_runS (As := As) (rest := st) C.1 (hM H.size) (va_cwS na C.hts (goodS g0 g1 g2 g4) rfl rfl rfl hd ⟨Nat.le_of_ble_eq_true hR.1, Nat.le_of_ble_eq_true hR.2⟩) ⟨ctP_blind, fun U hU hW => ⟨rfl, by rw [hU], by rw [hU]; exact hPc, va_K.moved hW.alike hK, hDc.weaken (fun _ _ _ _ => trivial)⟩⟩ rfl hna hl.1 rfl (lv_room (Nat.le_of_ble_eq_true hst)) d hf) hS (fun q _ h => hFc q h) hFc (fun v w1 H1 locs1 hpost hP1 hD1 hz1 hk1 hS1 => ?_)
  obtain ⟨hP2, hD2⟩ := wput_ok isC hP hD hn hw' (hlw v w1 hpost) hk1 hFc hP1 hD1
  exact kk v w1 hpost H1 locs1 ls hP2 hD2 hS1 hl
theorem sw_callI (pc : Nat) (isC : List Nat) (na : Nat) {fr lo mc ms maxL index b : Nat} {y : MethodName} {bytes : ByteArray} {ret : Option FieldType} {wc : va_W} {post : Option Value → va_W → Prop} {x0 : Cond} {As : List Value} (C : CC p s m args c cc nL own (x0 :: lw_all) D tys A H0) (hM : Ct l y (Cond.code y bytes maxL none) fr lo mc ms D tys (.ref b :: As) wc post) (g0 : Cond.code y bytes maxL none ∈ lw_all) (g1 : Cond.methodLink own index y ∈ lw_all) (g2 : Cond.instanceMethod y ∈ lw_all) (g4 : Cond.initialized y.cls ∈ lw_all) (hy1 : y.name = "<init>")
    (hd : y.cls ≠ "java/lang/invoke/MethodHandle" ∧ y.cls ≠ "java/lang/invoke/VarHandle" ∧ (parseMethodDescriptor y.desc).map (fun d => d.parameters.length) = some na) (d : decode cc pc = .ok (.invokespecial index, 3)) (hna : As.length = na) (hR : Nat.ble (fr + 1) R.frames = true ∧ Nat.ble (8 + (maxL + 11) + lo) R.locals = true) (hf : k + mc ≤ R.cells ∧ n + ms ≤ R.slots) (hst : Nat.ble (st.map fun v => v.category).sum 8 = true) (hp : wpick ws isC = wc) (hn : wnd isC = true) (hw : wall ws.length isC = true) (hlw : ∀ v w1, post v w1 → isC.length ≤ w1.length)
    (kk : ∀ (v : Option Value) (w1 : va_W), post v w1 → sw p l e R s m args below meth c D A H0 nL (k + mc) (n + ms) Q (wput ws isC w1) (pc + 3) L (v.toList ++ st)) : sw p l e R s m args below meth c D A H0 nL k n Q ws pc L (As.reverse ++ .ref b :: st) := by
  subst hp
  have hw' := wall_lt hw
  have hn := wnd_nd hn
  intro H locs ls hP hD hS hl
  have hPc := wpick_P isC hP
  have hDc := wpick_D isC hD hn hw'
  have hFc := va_free (wc := wpick ws isC) hD hS C.hA isC (wpick_map isC ws hw')
  have hK := C.hK
  refine va_callg (va_runI (As := As) (rest := st) C.1 (hM H.size) (cwI na C.hts (goodC g0) rfl rfl rfl (C.hts _ (List.mem_cons_of_mem _ g4)) (C.hts _ (List.mem_cons_of_mem _ g1)) (C.hts _ (List.mem_cons_of_mem _ g2)) hy1 hd ⟨Nat.le_of_ble_eq_true hR.1, Nat.le_of_ble_eq_true hR.2⟩) ⟨ctP_blind, fun U hU hW => ⟨rfl, by rw [hU], by rw [hU]; exact hPc, va_K.moved hW.alike hK, hDc.weaken (fun _ _ _ _ => trivial)⟩⟩ rfl hna hl.1 rfl (lv_room (Nat.le_of_ble_eq_true hst)) d hf) hS (fun q _ h => hFc q h) hFc (fun v w1 H1 locs1 hpost hP1 hD1 hz1 hk1 hS1 => ?_)
  obtain ⟨hP2, hD2⟩ := wput_ok isC hP hD hn hw' (hlw v w1 hpost) hk1 hFc hP1 hD1
  exact kk v w1 hpost H1 locs1 ls hP2 hD2 hS1 hl
def pstI (r : Int32) (w0 : va_W) : Option Value → va_W → Prop := fun v w1 => v = some (.int r) ∧ w1 = w0
theorem sw_callVI (pc : Nat) (isC : List Nat) (na : Nat) {fr lo mc ms maxL index b ci : Nat} {y : MethodName} {bytes : ByteArray} {ret : Option FieldType} {wc : va_W} {x0 : Cond} {As : List Value} {w0 : va_W} {r : Int32} {Cn : String} {T : u_T} {N : Nat} {fs : List Value} (C : CC p s m args c cc nL own (x0 :: lw_all) D tys A H0) (d : decode cc pc = .ok (.invokevirtual index, 3)) (hM : Ct l y (Cond.code y bytes maxL ret) fr lo mc ms D tys (.ref b :: As) wc (pstI r w0)) (g0 : Cond.code y bytes maxL ret ∈ lw_all) (g1 : Cond.methodLink own index y ∈ lw_all) (g2 : Cond.instanceMethod y ∈ lw_all) (g3 : Cond.selects Cn y y ∈ lw_all) (g4 : Cond.initialized Cn ∈ lw_all)
    (hd : y.cls = Cn ∧ y.cls ≠ "java/lang/invoke/MethodHandle" ∧ y.cls ≠ "java/lang/invoke/VarHandle" ∧ (parseMethodDescriptor y.desc).map (fun d => d.parameters.length) = some na) (hna : As.length = na) (hrv : wc[0]? = some (b, .inr (ci, fs))) (hc : vwCl[ci]? = some (Cn, T, N)) (hR : Nat.ble (fr + 1) R.frames = true ∧ Nat.ble (8 + (maxL + 11) + lo) R.locals = true) (hf : k + mc ≤ R.cells ∧ n + ms ≤ R.slots) (hst : Nat.ble (st.map fun v => v.category).sum 8 = true) (hn : wnd isC = true) (hw : wall ws.length isC = true) (hlw : Nat.ble isC.length w0.length = true) (hp : wpick ws isC = wc)
    (kk : sw p l e R s m args below meth c D A H0 nL (k + mc) (n + ms) Q (wput ws isC w0) (pc + 3) L (.int r :: st)) : sw p l e R s m args below meth c D A H0 nL k n Q ws pc L (As.reverse ++ .ref b :: st) :=
  sw_callV pc isC na C hM g0 g1 g2 g3 g4 hd d hna hc hR hf hst hp hn hw (fun v w1 h => by rw [h.2]; exact Nat.le_of_ble_eq_true hlw) hrv (fun v w1 h => by rw [h.1, h.2]; exact kk)
theorem sw_callSI (pc : Nat) (isC : List Nat) (na : Nat) {fr lo mc ms maxL index : Nat} {y : MethodName} {bytes : ByteArray} {ret : Option FieldType} {wc : va_W} {x0 : Cond} {As : List Value} {w0 : va_W} {r : Int32} (C : CC p s m args c cc nL own (x0 :: lw_all) D tys A H0) (d : decode cc pc = .ok (.invokestatic index, 3)) (hM : Ct l y (Cond.code y bytes maxL ret) fr lo mc ms D tys As wc (pstI r w0)) (g0 : Cond.code y bytes maxL ret ∈ lw_all) (g1 : Cond.methodLink own index y ∈ lw_all) (g2 : Cond.static y ∈ lw_all) (g4 : Cond.initialized y.cls ∈ lw_all)
    (hd : y.cls ≠ "java/lang/invoke/MethodHandle" ∧ y.cls ≠ "java/lang/invoke/VarHandle" ∧ (parseMethodDescriptor y.desc).map (fun d => d.parameters.length) = some na) (hna : As.length = na) (hR : Nat.ble (fr + 1) R.frames = true ∧ Nat.ble (8 + (maxL + 11) + lo) R.locals = true) (hf : k + mc ≤ R.cells ∧ n + ms ≤ R.slots) (hst : Nat.ble (st.map fun v => v.category).sum 8 = true) (hn : wnd isC = true) (hw : wall ws.length isC = true) (hlw : Nat.ble isC.length w0.length = true) (hp : wpick ws isC = wc)
    (kk : sw p l e R s m args below meth c D A H0 nL (k + mc) (n + ms) Q (wput ws isC w0) (pc + 3) L (.int r :: st)) : sw p l e R s m args below meth c D A H0 nL k n Q ws pc L (As.reverse ++ st) :=
  sw_callS pc isC na C hM g0 g1 g2 g4 hd d hna hR hf hst hp hn hw (fun v w1 h => by rw [h.2]; exact Nat.le_of_ble_eq_true hlw) (fun v w1 h => by rw [h.1, h.2]; exact kk)
theorem sw_callVIP (pc : Nat) (isC : List Nat) (na : Nat) {fr lo mc ms maxL index b ci : Nat} {y : MethodName} {bytes : ByteArray} {ret : Option FieldType} {wc : va_W} {x0 : Cond} {As : List Value} {r : Int32} {Cn : String} {T : u_T} {N : Nat} {fs : List Value} (C : CC p s m args c cc nL own (x0 :: lw_all) D tys A H0) (d : decode cc pc = .ok (.invokevirtual index, 3)) (hM : Ct l y (Cond.code y bytes maxL ret) fr lo mc ms D tys (.ref b :: As) wc (pstI r wc)) (g0 : Cond.code y bytes maxL ret ∈ lw_all) (g1 : Cond.methodLink own index y ∈ lw_all) (g2 : Cond.instanceMethod y ∈ lw_all) (g3 : Cond.selects Cn y y ∈ lw_all) (g4 : Cond.initialized Cn ∈ lw_all)
    (hd : y.cls = Cn ∧ y.cls ≠ "java/lang/invoke/MethodHandle" ∧ y.cls ≠ "java/lang/invoke/VarHandle" ∧ (parseMethodDescriptor y.desc).map (fun d => d.parameters.length) = some na) (hna : As.length = na) (hrv : wc[0]? = some (b, .inr (ci, fs))) (hc : vwCl[ci]? = some (Cn, T, N)) (hR : Nat.ble (fr + 1) R.frames = true ∧ Nat.ble (8 + (maxL + 11) + lo) R.locals = true) (hf : k + mc ≤ R.cells ∧ n + ms ≤ R.slots) (hst : Nat.ble (st.map fun v => v.category).sum 8 = true) (hn : wnd isC = true) (hw : wall ws.length isC = true) (hp : wpick ws isC = wc)
    (kk : sw p l e R s m args below meth c D A H0 nL (k + mc) (n + ms) Q ws (pc + 3) L (.int r :: st)) : sw p l e R s m args below meth c D A H0 nL k n Q ws pc L (As.reverse ++ .ref b :: st) := by
  have hw' := wall_lt hw
  have hs : wput ws isC wc = ws := by rw [← hp]; exact wput_self isC ws hw'
  have hlen : isC.length ≤ wc.length := by
    have := congrArg List.length (wpick_map isC ws hw')
    rw [List.length_map, List.length_map, hp] at this
    omega
  exact sw_callV pc isC na C hM g0 g1 g2 g3 g4 hd d hna hc hR hf hst hp hn hw (fun v w1 h => by rw [h.2]; exact hlen) hrv (fun v w1 h => by rw [h.1, h.2, hs]; exact kk)
theorem sw_callSIP (pc : Nat) (isC : List Nat) (na : Nat) {fr lo mc ms maxL index : Nat} {y : MethodName} {bytes : ByteArray} {ret : Option FieldType} {wc : va_W} {x0 : Cond} {As : List Value} {r : Int32} (C : CC p s m args c cc nL own (x0 :: lw_all) D tys A H0) (d : decode cc pc = .ok (.invokestatic index, 3)) (hM : Ct l y (Cond.code y bytes maxL ret) fr lo mc ms D tys As wc (pstI r wc)) (g0 : Cond.code y bytes maxL ret ∈ lw_all) (g1 : Cond.methodLink own index y ∈ lw_all) (g2 : Cond.static y ∈ lw_all) (g4 : Cond.initialized y.cls ∈ lw_all)
    (hd : y.cls ≠ "java/lang/invoke/MethodHandle" ∧ y.cls ≠ "java/lang/invoke/VarHandle" ∧ (parseMethodDescriptor y.desc).map (fun d => d.parameters.length) = some na) (hna : As.length = na) (hR : Nat.ble (fr + 1) R.frames = true ∧ Nat.ble (8 + (maxL + 11) + lo) R.locals = true) (hf : k + mc ≤ R.cells ∧ n + ms ≤ R.slots) (hst : Nat.ble (st.map fun v => v.category).sum 8 = true) (hn : wnd isC = true) (hw : wall ws.length isC = true) (hp : wpick ws isC = wc)
    (kk : sw p l e R s m args below meth c D A H0 nL (k + mc) (n + ms) Q ws (pc + 3) L (.int r :: st)) : sw p l e R s m args below meth c D A H0 nL k n Q ws pc L (As.reverse ++ st) := by
  have hw' := wall_lt hw
  have hs : wput ws isC wc = ws := by rw [← hp]; exact wput_self isC ws hw'
  have hlen : isC.length ≤ wc.length := by
    have := congrArg List.length (wpick_map isC ws hw')
    rw [List.length_map, List.length_map, hp] at this
    omega
  exact sw_callS pc isC na C hM g0 g1 g2 g4 hd d hna hR hf hst hp hn hw (fun v w1 h => by rw [h.2]; exact hlen) (fun v w1 h => by rw [h.1, h.2, hs]; exact kk)
def pstV (w0 : va_W) : Option Value → va_W → Prop := fun v w1 => v = none ∧ w1 = w0
theorem sw_callVV (pc : Nat) (isC : List Nat) (na : Nat) {fr lo mc ms maxL index b ci : Nat} {y : MethodName} {bytes : ByteArray} {ret : Option FieldType} {wc : va_W} {x0 : Cond} {As : List Value} {w0 : va_W} {Cn : String} {T : u_T} {N : Nat} {fs : List Value} (C : CC p s m args c cc nL own (x0 :: lw_all) D tys A H0) (d : decode cc pc = .ok (.invokevirtual index, 3)) (hM : Ct l y (Cond.code y bytes maxL ret) fr lo mc ms D tys (.ref b :: As) wc (pstV w0)) (g0 : Cond.code y bytes maxL ret ∈ lw_all) (g1 : Cond.methodLink own index y ∈ lw_all) (g2 : Cond.instanceMethod y ∈ lw_all) (g3 : Cond.selects Cn y y ∈ lw_all) (g4 : Cond.initialized Cn ∈ lw_all)
    (hd : y.cls = Cn ∧ y.cls ≠ "java/lang/invoke/MethodHandle" ∧ y.cls ≠ "java/lang/invoke/VarHandle" ∧ (parseMethodDescriptor y.desc).map (fun d => d.parameters.length) = some na) (hna : As.length = na) (hrv : wc[0]? = some (b, .inr (ci, fs))) (hc : vwCl[ci]? = some (Cn, T, N)) (hR : Nat.ble (fr + 1) R.frames = true ∧ Nat.ble (8 + (maxL + 11) + lo) R.locals = true) (hf : k + mc ≤ R.cells ∧ n + ms ≤ R.slots) (hst : Nat.ble (st.map fun v => v.category).sum 8 = true) (hn : wnd isC = true) (hw : wall ws.length isC = true) (hlw : Nat.ble isC.length w0.length = true) (hp : wpick ws isC = wc)
    (kk : sw p l e R s m args below meth c D A H0 nL (k + mc) (n + ms) Q (wput ws isC w0) (pc + 3) L st) : sw p l e R s m args below meth c D A H0 nL k n Q ws pc L (As.reverse ++ .ref b :: st) :=
  sw_callV pc isC na C hM g0 g1 g2 g3 g4 hd d hna hc hR hf hst hp hn hw (fun v w1 h => by rw [h.2]; exact Nat.le_of_ble_eq_true hlw) hrv (fun v w1 h => by rw [h.1, h.2]; exact kk)
theorem sw_callSV (pc : Nat) (isC : List Nat) (na : Nat) {fr lo mc ms maxL index : Nat} {y : MethodName} {bytes : ByteArray} {ret : Option FieldType} {wc : va_W} {x0 : Cond} {As : List Value} {w0 : va_W} (C : CC p s m args c cc nL own (x0 :: lw_all) D tys A H0) (d : decode cc pc = .ok (.invokestatic index, 3)) (hM : Ct l y (Cond.code y bytes maxL ret) fr lo mc ms D tys As wc (pstV w0)) (g0 : Cond.code y bytes maxL ret ∈ lw_all) (g1 : Cond.methodLink own index y ∈ lw_all) (g2 : Cond.static y ∈ lw_all) (g4 : Cond.initialized y.cls ∈ lw_all)
    (hd : y.cls ≠ "java/lang/invoke/MethodHandle" ∧ y.cls ≠ "java/lang/invoke/VarHandle" ∧ (parseMethodDescriptor y.desc).map (fun d => d.parameters.length) = some na) (hna : As.length = na) (hR : Nat.ble (fr + 1) R.frames = true ∧ Nat.ble (8 + (maxL + 11) + lo) R.locals = true) (hf : k + mc ≤ R.cells ∧ n + ms ≤ R.slots) (hst : Nat.ble (st.map fun v => v.category).sum 8 = true) (hn : wnd isC = true) (hw : wall ws.length isC = true) (hlw : Nat.ble isC.length w0.length = true) (hp : wpick ws isC = wc)
    (kk : sw p l e R s m args below meth c D A H0 nL (k + mc) (n + ms) Q (wput ws isC w0) (pc + 3) L st) : sw p l e R s m args below meth c D A H0 nL k n Q ws pc L (As.reverse ++ st) :=
  sw_callS pc isC na C hM g0 g1 g2 g4 hd d hna hR hf hst hp hn hw (fun v w1 h => by rw [h.2]; exact Nat.le_of_ble_eq_true hlw) (fun v w1 h => by rw [h.1, h.2]; exact kk)
def pstL (r : Int64) (w0 : va_W) : Option Value → va_W → Prop := fun v w1 => v = some (.long r) ∧ w1 = w0
theorem sw_callVL (pc : Nat) (isC : List Nat) (na : Nat) {fr lo mc ms maxL index b ci : Nat} {y : MethodName} {bytes : ByteArray} {ret : Option FieldType} {wc : va_W} {x0 : Cond} {As : List Value} {w0 : va_W} {r : Int64} {Cn : String} {T : u_T} {N : Nat} {fs : List Value} (C : CC p s m args c cc nL own (x0 :: lw_all) D tys A H0) (d : decode cc pc = .ok (.invokevirtual index, 3)) (hM : Ct l y (Cond.code y bytes maxL ret) fr lo mc ms D tys (.ref b :: As) wc (pstL r w0)) (g0 : Cond.code y bytes maxL ret ∈ lw_all) (g1 : Cond.methodLink own index y ∈ lw_all) (g2 : Cond.instanceMethod y ∈ lw_all) (g3 : Cond.selects Cn y y ∈ lw_all) (g4 : Cond.initialized Cn ∈ lw_all)
    (hd : y.cls = Cn ∧ y.cls ≠ "java/lang/invoke/MethodHandle" ∧ y.cls ≠ "java/lang/invoke/VarHandle" ∧ (parseMethodDescriptor y.desc).map (fun d => d.parameters.length) = some na) (hna : As.length = na) (hrv : wc[0]? = some (b, .inr (ci, fs))) (hc : vwCl[ci]? = some (Cn, T, N)) (hR : Nat.ble (fr + 1) R.frames = true ∧ Nat.ble (8 + (maxL + 11) + lo) R.locals = true) (hf : k + mc ≤ R.cells ∧ n + ms ≤ R.slots) (hst : Nat.ble (st.map fun v => v.category).sum 8 = true) (hn : wnd isC = true) (hw : wall ws.length isC = true) (hlw : Nat.ble isC.length w0.length = true) (hp : wpick ws isC = wc)
    (kk : sw p l e R s m args below meth c D A H0 nL (k + mc) (n + ms) Q (wput ws isC w0) (pc + 3) L (.long r :: st)) : sw p l e R s m args below meth c D A H0 nL k n Q ws pc L (As.reverse ++ .ref b :: st) :=
  sw_callV pc isC na C hM g0 g1 g2 g3 g4 hd d hna hc hR hf hst hp hn hw (fun v w1 h => by rw [h.2]; exact Nat.le_of_ble_eq_true hlw) hrv (fun v w1 h => by rw [h.1, h.2]; exact kk)
theorem sw_callSL (pc : Nat) (isC : List Nat) (na : Nat) {fr lo mc ms maxL index : Nat} {y : MethodName} {bytes : ByteArray} {ret : Option FieldType} {wc : va_W} {x0 : Cond} {As : List Value} {w0 : va_W} {r : Int64} (C : CC p s m args c cc nL own (x0 :: lw_all) D tys A H0) (d : decode cc pc = .ok (.invokestatic index, 3)) (hM : Ct l y (Cond.code y bytes maxL ret) fr lo mc ms D tys As wc (pstL r w0)) (g0 : Cond.code y bytes maxL ret ∈ lw_all) (g1 : Cond.methodLink own index y ∈ lw_all) (g2 : Cond.static y ∈ lw_all) (g4 : Cond.initialized y.cls ∈ lw_all)
    (hd : y.cls ≠ "java/lang/invoke/MethodHandle" ∧ y.cls ≠ "java/lang/invoke/VarHandle" ∧ (parseMethodDescriptor y.desc).map (fun d => d.parameters.length) = some na) (hna : As.length = na) (hR : Nat.ble (fr + 1) R.frames = true ∧ Nat.ble (8 + (maxL + 11) + lo) R.locals = true) (hf : k + mc ≤ R.cells ∧ n + ms ≤ R.slots) (hst : Nat.ble (st.map fun v => v.category).sum 8 = true) (hn : wnd isC = true) (hw : wall ws.length isC = true) (hlw : Nat.ble isC.length w0.length = true) (hp : wpick ws isC = wc)
    (kk : sw p l e R s m args below meth c D A H0 nL (k + mc) (n + ms) Q (wput ws isC w0) (pc + 3) L (.long r :: st)) : sw p l e R s m args below meth c D A H0 nL k n Q ws pc L (As.reverse ++ st) :=
  sw_callS pc isC na C hM g0 g1 g2 g4 hd d hna hR hf hst hp hn hw (fun v w1 h => by rw [h.2]; exact Nat.le_of_ble_eq_true hlw) (fun v w1 h => by rw [h.1, h.2]; exact kk)
theorem sw_callVLP (pc : Nat) (isC : List Nat) (na : Nat) {fr lo mc ms maxL index b ci : Nat} {y : MethodName} {bytes : ByteArray} {ret : Option FieldType} {wc : va_W} {x0 : Cond} {As : List Value} {r : Int64} {Cn : String} {T : u_T} {N : Nat} {fs : List Value} (C : CC p s m args c cc nL own (x0 :: lw_all) D tys A H0) (d : decode cc pc = .ok (.invokevirtual index, 3)) (hM : Ct l y (Cond.code y bytes maxL ret) fr lo mc ms D tys (.ref b :: As) wc (pstL r wc)) (g0 : Cond.code y bytes maxL ret ∈ lw_all) (g1 : Cond.methodLink own index y ∈ lw_all) (g2 : Cond.instanceMethod y ∈ lw_all) (g3 : Cond.selects Cn y y ∈ lw_all) (g4 : Cond.initialized Cn ∈ lw_all)
    (hd : y.cls = Cn ∧ y.cls ≠ "java/lang/invoke/MethodHandle" ∧ y.cls ≠ "java/lang/invoke/VarHandle" ∧ (parseMethodDescriptor y.desc).map (fun d => d.parameters.length) = some na) (hna : As.length = na) (hrv : wc[0]? = some (b, .inr (ci, fs))) (hc : vwCl[ci]? = some (Cn, T, N)) (hR : Nat.ble (fr + 1) R.frames = true ∧ Nat.ble (8 + (maxL + 11) + lo) R.locals = true) (hf : k + mc ≤ R.cells ∧ n + ms ≤ R.slots) (hst : Nat.ble (st.map fun v => v.category).sum 8 = true) (hn : wnd isC = true) (hw : wall ws.length isC = true) (hp : wpick ws isC = wc)
    (kk : sw p l e R s m args below meth c D A H0 nL (k + mc) (n + ms) Q ws (pc + 3) L (.long r :: st)) : sw p l e R s m args below meth c D A H0 nL k n Q ws pc L (As.reverse ++ .ref b :: st) := by
  have hw' := wall_lt hw
  have hs : wput ws isC wc = ws := by rw [← hp]; exact wput_self isC ws hw'
  have hlen : isC.length ≤ wc.length := by
    have := congrArg List.length (wpick_map isC ws hw')
    rw [List.length_map, List.length_map, hp] at this
    omega
  exact sw_callV pc isC na C hM g0 g1 g2 g3 g4 hd d hna hc hR hf hst hp hn hw (fun v w1 h => by rw [h.2]; exact hlen) hrv (fun v w1 h => by rw [h.1, h.2, hs]; exact kk)
theorem sw_callSLP (pc : Nat) (isC : List Nat) (na : Nat) {fr lo mc ms maxL index : Nat} {y : MethodName} {bytes : ByteArray} {ret : Option FieldType} {wc : va_W} {x0 : Cond} {As : List Value} {r : Int64} (C : CC p s m args c cc nL own (x0 :: lw_all) D tys A H0) (d : decode cc pc = .ok (.invokestatic index, 3)) (hM : Ct l y (Cond.code y bytes maxL ret) fr lo mc ms D tys As wc (pstL r wc)) (g0 : Cond.code y bytes maxL ret ∈ lw_all) (g1 : Cond.methodLink own index y ∈ lw_all) (g2 : Cond.static y ∈ lw_all) (g4 : Cond.initialized y.cls ∈ lw_all)
    (hd : y.cls ≠ "java/lang/invoke/MethodHandle" ∧ y.cls ≠ "java/lang/invoke/VarHandle" ∧ (parseMethodDescriptor y.desc).map (fun d => d.parameters.length) = some na) (hna : As.length = na) (hR : Nat.ble (fr + 1) R.frames = true ∧ Nat.ble (8 + (maxL + 11) + lo) R.locals = true) (hf : k + mc ≤ R.cells ∧ n + ms ≤ R.slots) (hst : Nat.ble (st.map fun v => v.category).sum 8 = true) (hn : wnd isC = true) (hw : wall ws.length isC = true) (hp : wpick ws isC = wc)
    (kk : sw p l e R s m args below meth c D A H0 nL (k + mc) (n + ms) Q ws (pc + 3) L (.long r :: st)) : sw p l e R s m args below meth c D A H0 nL k n Q ws pc L (As.reverse ++ st) := by
  have hw' := wall_lt hw
  have hs : wput ws isC wc = ws := by rw [← hp]; exact wput_self isC ws hw'
  have hlen : isC.length ≤ wc.length := by
    have := congrArg List.length (wpick_map isC ws hw')
    rw [List.length_map, List.length_map, hp] at this
    omega
  exact sw_callS pc isC na C hM g0 g1 g2 g4 hd d hna hR hf hst hp hn hw (fun v w1 h => by rw [h.2]; exact hlen) (fun v w1 h => by rw [h.1, h.2, hs]; exact kk)
abbrev tyz (cI cJ cQ : ClassId) : List (ClassId × FieldType) := [(cI, .int), (cJ, .int), (cQ, .object "PetitionBox$State")]
theorem lkp_dummy : True := trivial
end SWL
