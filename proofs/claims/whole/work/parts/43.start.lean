/-! the law's start -/
theorem LI_0 : LI (100 * 0) S00 (fun _ => S00) 0 0 0 (fun _ => 0) ms0 (fun _ => 0) (fun _ => 0) := by
  refine ⟨⟨⟨Nat.zero_le _, Nat.zero_le _, fun i hi => absurd hi (Nat.not_lt_zero _)⟩, ⟨0, Nat.zero_le _, rfl⟩, ⟨0, Nat.zero_le _, rfl⟩, ⟨fun i hi => absurd hi (Nat.not_lt_zero _), fun i j _ hj => absurd hj (Nat.not_lt_zero _)⟩, fun i hi => absurd hi (Nat.not_lt_zero _)⟩, ?_, fun j hj => absurd hj (Nat.not_lt_zero _), by omega, by omega, by omega, fun k hk => absurd hk (Nat.not_lt_zero _)⟩
  have far : ∀ q, 15 < q → ms0 q = 0 := fun q hq => by
    unfold ms0
    rw [upd_ne (by omega), upd_ne (by omega), upd_ne (by omega), upd_ne (by omega), upd_ne (by omega), upd_ne (by omega)]
  refine ⟨by decide, by decide, by decide, fun k hk => ?_, by decide, by decide, by decide, by decide, by decide, by decide, fun k hk => ?_, fun k hk => ?_, fun k hk => ?_, fun i c hi => absurd hi (Nat.not_lt_zero _)⟩
  · rcases (show k = 0 ∨ k = 1 ∨ k = 2 by omega) with rfl | rfl | rfl <;> decide
  · rcases (show k = 0 ∨ k = 1 ∨ k = 2 ∨ k = 3 by omega) with rfl | rfl | rfl | rfl <;> decide
  · rw [far _ (by omega)]
    rfl
  · rw [far _ (by omega)]
    rfl
theorem arr_known {b : Nat} {s : State} {ty : FieldType} (h : (Cond.arrayClass ty).before #[.ref b] s = true) : ∃ (cA : ClassId) (kA : Class) (comp : ClassId), s.vm.findClass ("[" ++ ty.toString) = some cA ∧ s.vm.classes[cA]? = some kA ∧ kA.kind = .array comp ty := by
  obtain ⟨cA, kA, comp, h1, h2, h3⟩ := Cond.arrayClass_spec h
  exact ⟨cA, kA, comp, h1, h2, h3⟩
section PERM
variable {p : Program} {l : Launch} {e : Env} {R : Room} {s : State} {m : MethodId} {args : Array Value} {below : List Frame} {meth : Method} {c : Code} {D : va_G} {A : Nat → Prop} {H0 : Heap} {nL k n : Nat} {Q : State → Prop} {segs : List va_W} {L : List (Nat × Value)} {st : List Value}
theorem sw_perm {pc : Nat} (is : List Nat) (hn : wnd is = true) (hw : wall segs.length is = true) (kk : sw p l e R s m args below meth c D A H0 nL k n Q (flatS (spick segs is ++ srest segs is 0)) pc L st) : sw p l e R s m args below meth c D A H0 nL k n Q (flatS segs) pc L st := by
  have hp := flatS_perm (segs_perm is segs (wnd_nd hn) (wall_lt hw))
  exact fun H locs ls hP hD hS hl => kk H locs ls (va_P_perm hp hP) (va_D_perm hp hD) hS hl
end PERM
set_option maxHeartbeats 8000000 in
set_option maxRecDepth 100000 in
theorem ws_walk {l : Launch} (hfl : l.stackTraces = false) {p : Program} {e : Env} {s : State} {m : MethodId} {below : List Frame} {meth : Method} {c : Code} {A : Nat → Prop} {D : va_G} {cI cJ cQ : ClassId} {Q : State → Prop} {b LL : Nat} {xs : Nat → Int32} (C : CC p s m #[.ref b] c cL_law 9 RL (Cond.initialized RL :: lw_all) D (tyz cI cJ cQ) A s.heap) (hz : xZ A s) (hC : xC s) (hX : va_X b LL xs s s.heap) (hbl : b < s.heap.size) (hbA : ¬ A b) (hLL : LL ≤ 2560) (XN : xN s) (hEx : ∀ (k n : Nat) (ws : va_W) (L : List (Nat × Value)), k ≤ 601024 → n ≤ 7293034 → sw p l e room_1 s m #[.ref b] below meth c D A s.heap 9 k n Q ws 1552 L []) : sw p l e room_1 s m #[.ref b] below meth c D A s.heap 9 0 0 Q [] 0 (lv_args 0 [.ref b]) [] := by
  refine sw_new 0 tyX6 [.null, .null, .null, .null, .null] C (inA lwX6) tyX6_ok (C.w wC_L_8) (C.w wZ_X6) (C.w wI_X6) (ci := 6) rfl (fun j hj => by rcases (show j = 0 ∨ j = 1 ∨ j = 2 ∨ j = 3 ∨ j = 4 by omega) with rfl | rfl | rfl | rfl | rfl <;> rfl) (Nat.le_of_ble_eq_true rfl) (Nat.le_of_ble_eq_true rfl) dL_law_0 (fun x0a => ?_)
  refine sw_dup 3 C dL_law_3 rfl ?_
  refine sw_callIL 4 [0] 0 C XN dL_law_4 (ct_X6_init l) wK_X6_init wM_L_85 wN_X6_init wI_X6 rfl hd_X6_init rfl ⟨rfl, rfl⟩ ⟨Nat.le_of_ble_eq_true rfl, Nat.le_of_ble_eq_true rfl⟩ rfl rfl rfl (fun _ => rfl) rfl (fun f _ => ?_)
  refine sw_ws (flatS [[(x0a, .inr (6, [.ref (f 0), .ref (f 8), .ref (f 16), .ref (f 50), .ref (f 53)]))], (wSt (f 0) (f 1) (f 2) (f 3) (f 4) (f 5) (f 6) (f 7) cI S00), (wSt (f 8) (f 9) (f 10) (f 11) (f 12) (f 13) (f 14) (f 15) cI S00), [(f 16, .inr (3, [.int (nI 0), .int (nI 0), .ref (f 17)])), (f 17, .inl (cQ, 4, .inr (.inr (.inr (.inr (va_up (va_up (va_up (va_up (fun _ => none) 0 (some (f 18))) 1 (some (f 26))) 2 (some (f 34))) 3 (some (f 42))))))))], (wSt (f 18) (f 19) (f 20) (f 21) (f 22) (f 23) (f 24) (f 25) cI S00), (wSt (f 26) (f 27) (f 28) (f 29) (f 30) (f 31) (f 32) (f 33) cI S00), (wSt (f 34) (f 35) (f 36) (f 37) (f 38) (f 39) (f 40) (f 41) cI S00), (wSt (f 42) (f 43) (f 44) (f 45) (f 46) (f 47) (f 48) (f 49) cI S00), (wRd (f 50) (f 51) (f 52) cI 0 (fun _ => 0) ((0, 0, 0, 0, 0, 0), 0, -1)), [(f 53, .inl (cI, 40, .inl (fun _ => 0)))]]) rfl ?_
  refine sw_astore_n 7 1 C dL_law_7 rfl rfl ?_
  refine sw_new 8 tyX7 [.null, .null, .null, .int 0, .int 0, .null, .int 0, .int 0, .null, .long 0] C (inA lwX7) tyX7_ok (C.w wC_L_86) (C.w wZ_X7) (C.w wI_X7) (ci := 7) rfl (fun j hj => by rcases (show j = 0 ∨ j = 1 ∨ j = 2 ∨ j = 3 ∨ j = 4 ∨ j = 5 ∨ j = 6 ∨ j = 7 ∨ j = 8 ∨ j = 9 by omega) with rfl | rfl | rfl | rfl | rfl | rfl | rfl | rfl | rfl | rfl <;> rfl) (Nat.le_of_ble_eq_true rfl) (Nat.le_of_ble_eq_true rfl) dL_law_8 (fun b0 => ?_)
  refine sw_dup 11 C dL_law_11 rfl ?_
  refine sw_callIL 12 [55] 0 C XN dL_law_12 (ct_X7_init l) wK_X7_init wM_L_88 wN_X7_init wI_X7 rfl hd_X7_init rfl ⟨rfl, rfl⟩ ⟨Nat.le_of_ble_eq_true rfl, Nat.le_of_ble_eq_true rfl⟩ rfl rfl rfl (fun _ => rfl) rfl (fun g _ => ?_)
  refine sw_ws (flatS [[(x0a, .inr (6, [.ref (f 0), .ref (f 8), .ref (f 16), .ref (f 50), .ref (f 53)]))], (wSt (f 0) (f 1) (f 2) (f 3) (f 4) (f 5) (f 6) (f 7) cI S00), (wSt (f 8) (f 9) (f 10) (f 11) (f 12) (f 13) (f 14) (f 15) cI S00), [(f 16, .inr (3, [.int (nI 0), .int (nI 0), .ref (f 17)])), (f 17, .inl (cQ, 4, .inr (.inr (.inr (.inr (va_up (va_up (va_up (va_up (fun _ => none) 0 (some (f 18))) 1 (some (f 26))) 2 (some (f 34))) 3 (some (f 42))))))))], (wSt (f 18) (f 19) (f 20) (f 21) (f 22) (f 23) (f 24) (f 25) cI S00), (wSt (f 26) (f 27) (f 28) (f 29) (f 30) (f 31) (f 32) (f 33) cI S00), (wSt (f 34) (f 35) (f 36) (f 37) (f 38) (f 39) (f 40) (f 41) cI S00), (wSt (f 42) (f 43) (f 44) (f 45) (f 46) (f 47) (f 48) (f 49) cI S00), (wRd (f 50) (f 51) (f 52) cI 0 (fun _ => 0) ((0, 0, 0, 0, 0, 0), 0, -1)), [(f 53, .inl (cI, 40, .inl (fun _ => 0)))], (wMd b0 (g 0) (g 1) (g 2) (g 3) (g 4) cI ms0 (fun _ => 0) (fun _ => 0) (fun _ => 0) (fun _ => 0) 0 0 0 0 0)]) rfl ?_
  refine sw_astore_n 15 2 C dL_law_15 rfl rfl ?_
  refine sw_iconst 16 C dL_law_16 1 (by decide) ?_
  refine sw_newL 17 1 C 1 (C.w wA_long) rfl (by decide) rfl (by decide) (Nat.le_of_ble_eq_true rfl) (Nat.le_of_ble_eq_true rfl) dL_law_17 (fun ao => ?_)
  refine sw_ws (flatS [[(x0a, .inr (6, [.ref (f 0), .ref (f 8), .ref (f 16), .ref (f 50), .ref (f 53)]))], (wSt (f 0) (f 1) (f 2) (f 3) (f 4) (f 5) (f 6) (f 7) cI S00), (wSt (f 8) (f 9) (f 10) (f 11) (f 12) (f 13) (f 14) (f 15) cI S00), [(f 16, .inr (3, [.int (nI 0), .int (nI 0), .ref (f 17)])), (f 17, .inl (cQ, 4, .inr (.inr (.inr (.inr (va_up (va_up (va_up (va_up (fun _ => none) 0 (some (f 18))) 1 (some (f 26))) 2 (some (f 34))) 3 (some (f 42))))))))], (wSt (f 18) (f 19) (f 20) (f 21) (f 22) (f 23) (f 24) (f 25) cI S00), (wSt (f 26) (f 27) (f 28) (f 29) (f 30) (f 31) (f 32) (f 33) cI S00), (wSt (f 34) (f 35) (f 36) (f 37) (f 38) (f 39) (f 40) (f 41) cI S00), (wSt (f 42) (f 43) (f 44) (f 45) (f 46) (f 47) (f 48) (f 49) cI S00), (wRd (f 50) (f 51) (f 52) cI 0 (fun _ => 0) ((0, 0, 0, 0, 0, 0), 0, -1)), [(f 53, .inl (cI, 40, .inl (fun _ => 0)))], (wMd b0 (g 0) (g 1) (g 2) (g 3) (g 4) cI ms0 (fun _ => 0) (fun _ => 0) (fun _ => 0) (fun _ => 0) 0 0 0 0 0), [(ao, .inl (cJ, 1, .inr (.inl (fun _ => 0))))]]) rfl ?_
  refine sw_perm [0, 1, 3, 4, 5, 6, 7, 2, 8, 9, 10, 11] rfl rfl ?_
  refine sw_astore_n 19 3 C dL_law_19 rfl rfl ?_
  refine sw_iconst 20 C dL_law_20 0 (by decide) ?_
  refine sw_istore 21 C dL_law_21 rfl ?_
  have hh0 : (va_up (va_up (va_up (va_up (fun _ => none) 0 (some (f 18))) 1 (some (f 26))) 2 (some (f 34))) 3 (some (f 42))) 0 = some (f 18) := rfl
  have hh1 : (va_up (va_up (va_up (va_up (fun _ => none) 0 (some (f 18))) 1 (some (f 26))) 2 (some (f 34))) 3 (some (f 42))) 1 = some (f 26) := rfl
  have hh2 : (va_up (va_up (va_up (va_up (fun _ => none) 0 (some (f 18))) 1 (some (f 26))) 2 (some (f 34))) 3 (some (f 42))) 2 = some (f 34) := rfl
  have hh3 : (va_up (va_up (va_up (va_up (fun _ => none) 0 (some (f 18))) 1 (some (f 26))) 2 (some (f 34))) 3 (some (f 42))) 3 = some (f 42) := rfl
  refine sw_loc (L1 := [(0, .ref b), (1, .ref x0a), (2, .ref b0), (3, .ref ao), (4, .int (nI (5 * 0)))]) ?_ rfl
  refine sw_widen (k' := 1000 + 0) (n' := 10000 + 6 * 0) (by decide) (by decide) ?_
  exact lp_law hfl C hz hC hX hbl hbA hLL (x0a := x0a) (a0 := f 0) (a1 := f 1) (a2 := f 2) (a3 := f 3) (a4 := f 4) (a5 := f 5) (a6 := f 6) (a7 := f 7) (tr0 := f 8) (tr1 := f 9) (tr2 := f 10) (tr3 := f 11) (tr4 := f 12) (tr5 := f 13) (tr6 := f 14) (tr7 := f 15) (s0 := f 16) (s1 := f 17) (ra0 := f 18) (ra1 := f 19) (ra2 := f 20) (ra3 := f 21) (ra4 := f 22) (ra5 := f 23) (ra6 := f 24) (ra7 := f 25) (rb0 := f 26) (rb1 := f 27) (rb2 := f 28) (rb3 := f 29) (rb4 := f 30) (rb5 := f 31) (rb6 := f 32) (rb7 := f 33) (rc0 := f 34) (rc1 := f 35) (rc2 := f 36) (rc3 := f 37) (rc4 := f 38) (rc5 := f 39) (rc6 := f 40) (rc7 := f 41) (rd0 := f 42) (rd1 := f 43) (rd2 := f 44) (rd3 := f 45) (rd4 := f 46) (rd5 := f 47) (rd6 := f 48) (rd7 := f 49) (r0 := f 50) (t0 := f 51) (t1 := f 52) (w0 := f 53) (b0 := b0) (b1 := g 0) (b2 := g 1) (b3 := g 2) (b4 := g 3) (b5 := g 4) (ao := ao) hh0 hh1 hh2 hh3 hEx 512 0 _ _ S00 S00 (fun _ => S00) 0 0 0 (fun _ => 0) (fun _ => 0) ms0 (fun _ => 0) (fun _ => 0) (fun _ => 0) (fun _ => 0) ((0, 0, 0, 0, 0, 0), 0, -1) 0 0 0 (fun _ => 0) (by omega) (by omega) (by omega) (by omega) LI_0
