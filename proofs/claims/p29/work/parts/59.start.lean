/-! the law's start -/
theorem arr_known {b : Nat} {s : State} {ty : FieldType} (h : (Cond.arrayClass ty).before #[.ref b] s = true) : ∃ (cA : ClassId) (kA : Class) (comp : ClassId), s.vm.findClass ("[" ++ ty.toString) = some cA ∧ s.vm.classes[cA]? = some kA ∧ kA.kind = .array comp ty := by
  obtain ⟨cA, kA, comp, h1, h2, h3⟩ := Cond.arrayClass_spec h
  exact ⟨cA, kA, comp, h1, h2, h3⟩
section PERM
variable {p : Program} {l : Launch} {e : Env} {R : Room} {s : State} {m : MethodId} {args : Array Value} {below : List Frame} {meth : Method} {c : Code} {D : va_G} {A : Nat → Prop} {H0 : Heap} {nL k n : Nat} {Q : State → Prop} {segs : List va_W} {L : List (Nat × Value)} {st : List Value}
theorem sw_perm {pc : Nat} (is : List Nat) (hn : wnd is = true) (hw : wall segs.length is = true) (kk : sw p l e R s m args below meth c D A H0 nL k n Q (flatS (spick segs is ++ srest segs is 0)) pc L st) : sw p l e R s m args below meth c D A H0 nL k n Q (flatS segs) pc L st := by
  have hp := flatS_perm (segs_perm is segs (wnd_nd hn) (wall_lt hw))
  exact fun H locs ls hP hD hS hl => kk H locs ls (va_P_perm hp hP) (va_D_perm hp hD) hS hl
end PERM
set_option maxHeartbeats 8000000 in
set_option maxRecDepth 100000 in
theorem ws_walk {l : Launch} (hfl : l.stackTraces = false) {p : Program} {e : Env} {s : State} {m : MethodId} {below : List Frame} {meth : Method} {c : Code} {A : Nat → Prop} {D : va_G} {cI cJ cQ : ClassId} {Q : State → Prop} {b LL : Nat} {xs : Nat → Int32} (C : CC p s m #[.ref b] c cL_law 8 RL (Cond.initialized RL :: lw_all) D (tyz cI cJ cQ) A s.heap) (hz : xZ A s) (hC : xC s) (hX : va_X b LL xs s s.heap) (hbl : b < s.heap.size) (hbA : ¬ A b) (hLL : LL ≤ 260) (XN : xN s) (hEx : ∀ (k n : Nat) (ws : va_W) (L : List (Nat × Value)), k ≤ 623349 → n ≤ 7231578 → sw p l e room_1 s m #[.ref b] below meth c D A s.heap 8 k n Q ws 300 L [.int 1]) : sw p l e room_1 s m #[.ref b] below meth c D A s.heap 8 0 0 Q [] 0 (lv_args 0 [.ref b]) [] := by
  refine sw_new 0 tyX6 [.null, .null, .null, .null, .null] C (inA lwX6) tyX6_ok (C.w wC_L_10) (C.w wZ_X6) (C.w wI_X6) (ci := 6) rfl (fun j hj => by rcases (show j = 0 ∨ j = 1 ∨ j = 2 ∨ j = 3 ∨ j = 4 by omega) with rfl | rfl | rfl | rfl | rfl <;> rfl) (Nat.le_of_ble_eq_true rfl) (Nat.le_of_ble_eq_true rfl) dL_law_0 (fun x0a => ?_)
  refine sw_dup 3 C dL_law_3 rfl ?_
  refine sw_callIL 4 [0] 0 C XN dL_law_4 (ct_X6_init l) wK_X6_init wM_L_189 wN_X6_init wI_X6 rfl hd_X6_init rfl ⟨rfl, rfl⟩ ⟨Nat.le_of_ble_eq_true rfl, Nat.le_of_ble_eq_true rfl⟩ rfl rfl rfl (fun _ => rfl) rfl (fun f _ => ?_)
  refine sw_ws (flatS [[(x0a, .inr (6, [.ref (f 0), .ref (f 8), .ref (f 16), .ref (f 50), .ref (f 53)]))], (wSt (f 0) (f 1) (f 2) (f 3) (f 4) (f 5) (f 6) (f 7) cI S00), (wSt (f 8) (f 9) (f 10) (f 11) (f 12) (f 13) (f 14) (f 15) cI S00), [(f 16, .inr (3, [.int (nI 0), .int (nI 0), .ref (f 17)])), (f 17, .inl (cQ, 4, .inr (.inr (.inr (.inr (va_up (va_up (va_up (va_up (fun _ => none) 0 (some (f 18))) 1 (some (f 26))) 2 (some (f 34))) 3 (some (f 42))))))))], (wSt (f 18) (f 19) (f 20) (f 21) (f 22) (f 23) (f 24) (f 25) cI S00), (wSt (f 26) (f 27) (f 28) (f 29) (f 30) (f 31) (f 32) (f 33) cI S00), (wSt (f 34) (f 35) (f 36) (f 37) (f 38) (f 39) (f 40) (f 41) cI S00), (wSt (f 42) (f 43) (f 44) (f 45) (f 46) (f 47) (f 48) (f 49) cI S00), (wRd (f 50) (f 51) (f 52) cI 0 (fun _ => 0) ((0, 0, 0, 0, 0, 0), 0, -1)), [(f 53, .inl (cI, 40, .inl (fun _ => 0)))]]) rfl ?_
  refine sw_perm [0, 1, 3, 4, 5, 6, 7, 2, 8, 9] rfl rfl ?_
  refine sw_astore_n 7 1 C dL_law_7 rfl rfl ?_
  have hh0 : (va_up (va_up (va_up (va_up (fun _ => none) 0 (some (f 18))) 1 (some (f 26))) 2 (some (f 34))) 3 (some (f 42))) 0 = some (f 18) := rfl
  have hh1 : (va_up (va_up (va_up (va_up (fun _ => none) 0 (some (f 18))) 1 (some (f 26))) 2 (some (f 34))) 3 (some (f 42))) 1 = some (f 26) := rfl
  have hh2 : (va_up (va_up (va_up (va_up (fun _ => none) 0 (some (f 18))) 1 (some (f 26))) 2 (some (f 34))) 3 (some (f 42))) 2 = some (f 34) := rfl
  have hh3 : (va_up (va_up (va_up (va_up (fun _ => none) 0 (some (f 18))) 1 (some (f 26))) 2 (some (f 34))) 3 (some (f 42))) 3 = some (f 42) := rfl
  refine sw_loc (L1 := [(0, .ref b), (1, .ref x0a)]) ?_ rfl
  refine sw_widen (k' := 900) (n' := 9000) (by decide) (by decide) ?_
  exact lq_law hfl C hz hC hX hbl hbA hLL (x0a := x0a) (a0 := f 0) (a1 := f 1) (a2 := f 2) (a3 := f 3) (a4 := f 4) (a5 := f 5) (a6 := f 6) (a7 := f 7) (tr0 := f 8) (tr1 := f 9) (tr2 := f 10) (tr3 := f 11) (tr4 := f 12) (tr5 := f 13) (tr6 := f 14) (tr7 := f 15) (s0 := f 16) (s1 := f 17) (ra0 := f 18) (ra1 := f 19) (ra2 := f 20) (ra3 := f 21) (ra4 := f 22) (ra5 := f 23) (ra6 := f 24) (ra7 := f 25) (rb0 := f 26) (rb1 := f 27) (rb2 := f 28) (rb3 := f 29) (rb4 := f 30) (rb5 := f 31) (rb6 := f 32) (rb7 := f 33) (rc0 := f 34) (rc1 := f 35) (rc2 := f 36) (rc3 := f 37) (rc4 := f 38) (rc5 := f 39) (rc6 := f 40) (rc7 := f 41) (rd0 := f 42) (rd1 := f 43) (rd2 := f 44) (rd3 := f 45) (rd4 := f 46) (rd5 := f 47) (rd6 := f 48) (rd7 := f 49) (r0 := f 50) (t0 := f 51) (t1 := f 52) (w0 := f 53) hh0 hh1 hh2 hh3 (T := S00) (R := fun _ => S00) (od := 0) (by_ := fun _ => 0) (g := fun _ => 0) (X := ((0, 0, 0, 0, 0, 0), 0, -1)) (by decide) (by decide) (by decide) hEx
