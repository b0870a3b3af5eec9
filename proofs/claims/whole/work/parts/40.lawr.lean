/-! the law: rules -/
section LAWR
variable {p : Program} {l : Launch} {e : Env} {R : Room} {s : State} {m : MethodId} {args : Array Value} {below : List Frame} {meth : Method} {c : Code} {D : va_G} {tys : List (ClassId × FieldType)} {A : Nat → Prop} {H0 : Heap} {nL k n : Nat} {Q : State → Prop} {ws : va_W} {segs : List va_W} {L : List (Nat × Value)} {st : List Value} {cc : ByteArray} {own : String} {Ts : List Cond} {x0 : Cond}
theorem sw_lcmp (pc : Nat) {x y : Int64} (C : CC p s m args c cc nL own Ts D tys A H0) (d : decode cc pc = .ok (.lcmp, 1)) (kk : sw p l e R s m args below meth c D A H0 nL k n Q ws (pc + 1) L (.int (lg_cmp x y) :: st)) : sw p l e R s m args below meth c D A H0 nL k n Q ws pc L (.long y :: .long x :: st) := fun H locs ls hP hD hS hl => W.lcmp C.hx C.hb d (kk H locs ls hP hD hS hl)
theorem sw_dcmp (pc : Nat) {x y : UInt64} {op : CmpOp} (C : CC p s m args c cc nL own Ts D tys A H0) (d : decode cc pc = .ok (.dcmp op, 1)) (kk : sw p l e R s m args below meth c D A H0 nL k n Q ws (pc + 1) L (.int (Op.cmpValue (FP.dcmp x y) op) :: st)) : sw p l e R s m args below meth c D A H0 nL k n Q ws pc L (.double y :: .double x :: st) := fun H locs ls hP hD hS hl => lv_dcmp C.hx C.hb d (kk H locs ls hP hD hS hl)
theorem sw_topL {pc : Nat} {x y : Int64} (h : x = y) (kk : sw p l e R s m args below meth c D A H0 nL k n Q ws pc L (.long y :: st)) : sw p l e R s m args below meth c D A H0 nL k n Q ws pc L (.long x :: st) := h ▸ kk
theorem sw_sld (pc u : Nat) {b LL : Nat} {xs : Nat → Int32} {i : Int32} (C : CC p s m args c cc nL own Ts D tys A H0) (hX : va_X b LL xs s H0) (hbl : b < H0.size) (hbA : ¬ A b) (d : decode cc pc = .ok (.iaload, 1)) (hi : i = nI u) (hu : u < LL) (hL : LL < 2 ^ 31) (kk : sw p l e R s m args below meth c D A H0 nL k n Q ws (pc + 1) L (.int (xs u) :: st)) : sw p l e R s m args below meth c D A H0 nL k n Q ws pc L (.int i :: .ref b :: st) := by
  subst hi
  intro H locs ls hP hD hS hl
  refine va_sld C.hx C.hb hX hbl hbA hS (vp_in_nI hu hL) d ?_
  rw [nI_clamp (by omega)]
  exact kk H locs ls hP hD hS hl
theorem sw_slen (pc : Nat) {b LL : Nat} {xs : Nat → Int32} (C : CC p s m args c cc nL own Ts D tys A H0) (hX : va_X b LL xs s H0) (hbl : b < H0.size) (hbA : ¬ A b) (d : decode cc pc = .ok (.arraylength, 1)) (kk : sw p l e R s m args below meth c D A H0 nL k n Q ws (pc + 1) L (.int (nI LL) :: st)) : sw p l e R s m args below meth c D A H0 nL k n Q ws pc L (.ref b :: st) := fun H locs ls hP hD hS hl => va_slen C.hx C.hb hX hbl hbA hS d (kk H locs ls hP hD hS hl)
theorem xg_callG (pc : Nat) (is : List Nat) (na rq : Nat) {fr lo mc ms maxL index b ci : Nat} {y : MethodName} {bytes : ByteArray} {ret : Option FieldType} {wc : va_W} {As : List Value} {post : Option Value → va_W → Prop} {Cn : String} {T : u_T} {N : Nat} {fs : List Value} (C : CC p s m args c cc nL own (x0 :: lw_all) D tys A H0) (d : decode cc pc = .ok (.invokevirtual index, 3))
    (hM : Ct l y (Cond.code y bytes maxL ret) fr lo mc ms D tys (.ref b :: As) wc post) (g0 : Cond.code y bytes maxL ret ∈ lw_all) (g1 : Cond.methodLink own index y ∈ lw_all) (g2 : Cond.instanceMethod y ∈ lw_all) (g3 : Cond.selects Cn y y ∈ lw_all) (g4 : Cond.initialized Cn ∈ lw_all)
    (hd : y.cls = Cn ∧ y.cls ≠ "java/lang/invoke/MethodHandle" ∧ y.cls ≠ "java/lang/invoke/VarHandle" ∧ (parseMethodDescriptor y.desc).map (fun d => d.parameters.length) = some na) (hna : As.length = na) (hrv : wc[rq]? = some (b, .inr (ci, fs))) (hc : vwCl[ci]? = some (Cn, T, N))
    (hR : Nat.ble (fr + 1) R.frames = true ∧ Nat.ble (8 + (maxL + 11) + lo) R.locals = true) (hf : k + mc ≤ R.cells ∧ n + ms ≤ R.slots) (hst : Nat.ble (st.map fun v => v.category).sum 8 = true) (hn : wnd is = true) (hw : wall segs.length is = true) (hp : flatS (spick segs is) = wc)
    (kk : ∀ (v : Option Value) (w1 : va_W), post v w1 → ∃ news : List va_W, Nat.beq news.length is.length = true ∧ flatS news = w1 ∧ sw p l e R s m args below meth c D A H0 nL (k + mc) (n + ms) Q (flatS (sput segs is news)) (pc + 3) L (v.toList ++ st)) : sw p l e R s m args below meth c D A H0 nL k n Q (flatS segs) pc L (As.reverse ++ .ref b :: st) := by
  have hw' := wall_lt hw
  have hn' := wnd_nd hn
  have hper := (flatS_perm (segs_perm is segs hn' hw')).trans (by rw [flatS_app])
  subst hp
  intro H locs ls hP hD hS hl
  have hPp := va_P_perm hper hP
  have hDp := va_D_perm hper hD
  have hPc := va_P_l hPp
  have hDc := va_D_l hDp
  have hFc := free_of hDp hS C.hA
  have hK := C.hK
  refine va_callg (va_runV (As := As) (rest := st) (C := Cn) C.1 (hM H.size) (cwV na C.hts (goodV g0 g1 g2 g3 g4) rfl rfl rfl hd ⟨Nat.le_of_ble_eq_true hR.1, Nat.le_of_ble_eq_true hR.2⟩) ⟨ctP_blind, va_recv (q := (Cn, T, N)) hK hPc hc hrv, fun U hU hW => ⟨rfl, by rw [hU], by rw [hU]; exact hPc, va_K.moved hW.alike hK, hDc.weaken (fun _ _ _ _ => trivial)⟩⟩ rfl hna hl.1 rfl (lv_room (Nat.le_of_ble_eq_true hst)) d hf) hS (fun q _ h => hFc q h) hFc (fun v w1 H1 locs1 hpost hP1 hD1 hz1 hk1 hS1 => ?_)
  obtain ⟨news, hln, hnew, kk⟩ := kk v w1 hpost
  rw [← hnew] at hP1 hD1
  obtain ⟨hP2, hD2⟩ := seg_ok hPp hDp hk1 hFc hP1 hD1
  have hper2 := (flatS_perm (sput_perm is news segs hn' hw' (by rw [Nat.eq_of_beq_eq_true hln]))).trans (by rw [flatS_app])
  exact kk H1 locs1 ls (va_P_perm hper2.symm hP2) (va_D_perm hper2.symm hD2) hS1 hl
end LAWR
/-! the law: what holds between two calls -/
theorem lcmp_self (x : Int64) : lg_cmp x x = 0 := by
  unfold lg_cmp
  first
    | (rw [if_neg (Int64.lt_irrefl), if_pos rfl]; done)
    | simp
theorem dcv_eq {r : UInt64} {op : CmpOp} (h : FP.dcmp r r = some .eq) : Op.cmpValue (FP.dcmp r r) op = 0 := by
  rw [h]
  cases op <;> rfl
def LI (B : Nat) (S : StT) (R : Nat → StT) (cn od ln : Nat) (by_ sa pa tx : Nat → Int32) : Prop := mO B 100000 S ∧ mE S sa ∧ mK B 100000 R cn od pa ∧ cn ≤ 4 ∧ od < 4 ∧ ln ≤ 100 ∧ tR by_ tx ln
theorem svC_le {cn : Nat} (h : cn ≤ 4) : svC cn ≤ 4 := by
  unfold svC
  split <;> omega
theorem svO_lt {cn od : Nat} (h : od < 4) : svO cn od < 4 := by
  unfold svO
  split
  · exact Nat.mod_lt _ (by decide)
  · exact h
/-- a call that reads -/
theorem LI.up {B : Nat} {S : StT} {R : Nat → StT} {cn od ln : Nat} {by_ sa pa tx : Nat → Int32} (h : LI B S R cn od ln by_ sa pa tx) : LI (B + 100) S R cn od ln by_ sa pa tx :=
  ⟨h.1.mono (by omega) (Nat.le_refl _), h.2.1, h.2.2.1.mono (by omega) (Nat.le_refl _), h.2.2.2⟩
/-- a call that saves the State -/
theorem LI.mut {B : Nat} {S S2 : StT} {R : Nat → StT} {cn od ln : Nat} {by_ sa pa tx sa2 pa2 : Nat → Int32} (h : LI B S R cn od ln by_ sa pa tx) (hO : mO (B + 100) 100000 S2) (h2 : mE S2 sa2 ∧ mK B 100000 (va_up R (svI cn od) S) (svC cn) (svO cn od) pa2) : LI (B + 100) S2 (va_up R (svI cn od) S) (svC cn) (svO cn od) ln by_ sa2 pa2 tx :=
  ⟨hO, h2.1, h2.2.mono (by omega) (Nat.le_refl _), svC_le h.2.2.2.1, svO_lt h.2.2.2.2.1, h.2.2.2.2.2⟩
theorem LI.undo {B : Nat} {S : StT} {R : Nat → StT} {cn od ln : Nat} {by_ sa pa tx : Nat → Int32} (h : LI B S R cn od ln by_ sa pa tx) (h0 : 0 < cn) : LI (B + 100) (R ((od + (cn - 1)) % 4)) R (cn - 1) od ln by_ (fun k => pa (424 * (cn - 1) + k)) pa tx := by
  obtain ⟨hO, hE, hK, hcn, hod, hln, hT⟩ := h
  obtain ⟨k1, k2⟩ := hK (cn - 1) (by omega)
  exact ⟨k1.mono (by omega) (Nat.le_refl _), k2, fun j hj => ⟨(hK j (by omega)).1.mono (by omega) (Nat.le_refl _), (hK j (by omega)).2⟩, by omega, hod, hln, hT⟩
theorem LI.app {B : Nat} {S : StT} {R : Nat → StT} {cn od ln : Nat} {by_ sa pa tx : Nat → Int32} {x : Int32} (h : LI B S R cn od ln by_ sa pa tx) (hx : inR x 0 127 = true) (hl : ln < 100) : LI (B + 100) S R cn od (ln + 1) (upd by_ ln x) sa pa (upd tx ln x) := by
  obtain ⟨hO, hE, hK, hcn, hod, hln, hT⟩ := h
  refine ⟨hO.mono (by omega) (Nat.le_refl _), hE, hK.mono (by omega) (Nat.le_refl _), hcn, hod, by omega, fun k hk => ?_⟩
  by_cases q : k = ln
  · subst q
    rw [upd_at rfl, upd_at rfl]
    exact ⟨rfl, nI_of2 (M := 127) (by decide) (Int32.not_lt.mpr (inR_t hx).1) (inR_t hx).2⟩
  · rw [upd_ne q, upd_ne q]
    exact hT k (by omega)
theorem LI.clr {B : Nat} {S : StT} {R : Nat → StT} {cn od ln : Nat} {by_ sa pa tx : Nat → Int32} (h : LI B S R cn od ln by_ sa pa tx) : LI (B + 100) S R cn od 0 by_ sa pa tx := by
  obtain ⟨hO, hE, hK, hcn, hod, hln, hT⟩ := h
  exact ⟨hO.mono (by omega) (Nat.le_refl _), hE, hK.mono (by omega) (Nat.le_refl _), hcn, hod, by omega, fun k hk => absurd hk (Nat.not_lt_zero _)⟩
-- what arguments are
theorem bool2 (a : Bool) : a = false ∨ a = true := by cases a <;> simp
theorem bool3 (a b : Bool) : a = false ∨ (a = true ∧ b = false) ∨ (a = true ∧ b = true) := by cases a <;> cases b <;> simp
theorem bool4 (a b c : Bool) : a = false ∨ (a = true ∧ b = false) ∨ (a = true ∧ b = true ∧ c = false) ∨ (a = true ∧ b = true ∧ c = true) := by cases a <;> cases b <;> cases c <;> simp
theorem inR_ex {x : Int32} {b : Nat} (hb : b < 2 ^ 31) (h : inR x 0 (nI b) = true) : ∃ r : Nat, r ≤ b ∧ x = nI r := nI_of2 (M := nI b) (nI_toInt hb) (Int32.not_lt.mpr (inR_t h).1) (inR_t h).2
theorem inR_1 {x : Int32} {b : Nat} (hb : b < 2 ^ 31) (h : inR x 1 (nI b) = true) : ∃ r : Nat, 1 ≤ r ∧ r ≤ b ∧ x = nI r := by
  have h1 := (inR_t h).1
  obtain ⟨r, r1, r2⟩ := nI_of2 (x := x) (M := nI b) (nI_toInt hb) (fun q => absurd (Int32.lt_of_le_of_lt h1 q) (by decide)) (inR_t h).2
  refine ⟨r, ?_, r1, r2⟩
  rw [r2] at h1
  exact nI_ge' (a := r) (b := 1) (by omega) h1 (by decide)
theorem fnd_or (f : Nat → Int32) (x : Int32) (n : Nat) : fnd f x n = none ∨ ∃ i, fnd f x n = some i := by
  cases fnd f x n with
  | none => exact Or.inl rfl
  | some i => exact Or.inr ⟨i, rfl⟩
theorem ix_or (x : Int32) {n : Nat} (hn : n < 2 ^ 31) : (x < 0 ∨ nI n ≤ x) ∨ ∃ k : Nat, k < n ∧ x = nI k := by
  rcases pk_ix x hn with h | h | h
  · exact Or.inl (Or.inl h)
  · exact Or.inl (Or.inr h)
  · exact Or.inr h
theorem tm_iff {t k : Nat} (ht : t ≤ 100000) (hk : k ≤ 200) : nI k ≤ 100000 - nI t ↔ t + k ≤ 100000 := by
  rw [show (100000 : Int32) = nI 100000 from rfl, pk_sub ht, nI_leI (by omega) (by omega)]
  omega
theorem mO_send {B : Nat} {S : StT} {x1 y x2 x3 x5 : Int32} (h : mO B 100000 S) (hB : B < 2 ^ 29) (ho : okSn x1 x2 x3 = true) (hy : y = -1 ∨ x5 = 0) (h5 : isN x5 100) (hm : hrf (zf S) (zn S) (zq S) x1 y = true) : mO (B + 100) 100000 (pinS S x1 y x2 x3 x5) := by
  obtain ⟨o1, o2, o3⟩ := okSn_t ho
  obtain ⟨r1, q1, e1⟩ := inR_ex (b := 7) (by decide) o1
  obtain ⟨r2, q2, e2⟩ := inR_ex (b := 4) (by decide) o2
  exact (mO_pin h (by omega) (hrf_lt hm) (okSd_N ⟨r1, q1, e1⟩) hy ⟨r2, q2, e2⟩ (inR_1 (b := 200) (by decide) o3) h5).mono (by omega) (Nat.le_refl _)
theorem isN_0 : isN 0 100 := ⟨0, by omega, rfl⟩
theorem isN_b {x : Int32} (h : inR x 1 100 = true) : isN x 100 := by
  obtain ⟨r, r1, r2, r3⟩ := inR_1 (b := 100) (by decide) h
  exact ⟨r, r2, r3⟩
theorem mO_pass {B t k : Nat} {S : StT} (h : mO B 100000 S) (h0 : zt S = nI t) (hk : t + k ≤ 100000) : mO (B + 100) 100000 (tps k S).2 := by
  have := (mO_tps h k).mono (show B ≤ B + 100 by omega) (Nat.le_refl _)
  exact ⟨this.1, this.2.1, ⟨t + k, hk, by rw [tps_zt, h0, nI_add]⟩, this.2.2.2⟩
theorem mO_cru {by_ : Nat → Int32} {ln : Nat} (hln : ln ≤ 100) : ∀ (u i B : Nat) (X : RS) (S : StT), xe (fEr by_ ln u X) = -1 → mO B 100000 S → B + u < 2 ^ 30 → mO (B + u) 100000 (cru by_ ln u i X S).2.1
  | 0, i, B, X, S, _, h, _ => h
  | u + 1, i, B, X, S, hx, h, hB => by
    by_cases hp : ln ≤ xp X
    · rw [cru_end hp]
      exact h.mono (by omega) (Nat.le_refl _)
    · obtain ⟨h1, h2⟩ := fEr_sub hx (by omega)
      obtain ⟨k1, k2⟩ := rOr_ok (tx := by_) (show X.2.1 < 1000 by have : ¬ ln ≤ X.2.1 := hp; omega) h1
      have hc := mO_cdo (X := rOr by_ ln X.2) h (by omega) k1 k2
      cases hd : (cdo (rOr by_ ln X.2) S).1 with
      | true =>
        rw [cru_go hp hd]
        exact (mO_cru hln u (i + 1) (B + 1) (rOr by_ ln X.2) _ h2 hc (by omega)).mono (by omega) (Nat.le_refl _)
      | false =>
        rw [cru_no hp hd]
        exact hc.mono (by omega) (Nat.le_refl _)
-- the order of serving, as both tell it
theorem arr_at {f : Nat → Int32} {n : Nat} {p : Int32} (h : nOK f n p) (hr : ∀ i, i < n → rOK f i) (g : Nat → Int32) : ∀ m, m ≤ n → ∀ i, i < m → arrg f n g m (cbf f n i) = nI i
  | 0, _, i, hi => absurd hi (Nat.not_lt_zero _)
  | m + 1, hm, i, hi => by
    show upd (arrg f n g m) (cbf f n m) (nI m) (cbf f n i) = nI i
    by_cases e : i = m
    · subst e
      rw [upd_at rfl]
    · rw [upd_ne (fun q => e (cbf_inj h hr (by omega) (by omega) q))]
      exact arr_at h hr g m (by omega) i (by omega)
def odF (f : Nat → Int32) (n : Nat) (g : Nat → Int32) (k : Nat) : Nat := (arrg f n g n k).toNatClampNeg
theorem odF_ok {f : Nat → Int32} {n : Nat} {p : Int32} (h : nOK f n p) (hr : ∀ i, i < n → rOK f i) (hn : n ≤ 40) (g : Nat → Int32) : ∀ k, k < n → arrg f n g n k = nI (odF f n g k) ∧ odF f n g k < n ∧ cbf f n (odF f n g k) = k := by
  intro k hk
  obtain ⟨i, hi, hc⟩ := cbf_sur h hr hk
  have e := arr_at h hr g n (Nat.le_refl _) i hi
  rw [hc] at e
  unfold odF
  rw [e, nI_clamp (by omega)]
  exact ⟨rfl, hi, hc⟩
