/-! the law's loop -/
theorem law_in {j LL : Nat} (h : 5 * j + 5 ≤ LL) (hL : LL ≤ 2560) : ¬ nI LL - 5 < nI (5 * j) := by
  rw [show (5 : Int32) = nI 5 from rfl, pk_sub (by omega), Int32.not_lt, nI_leI (by omega) (by omega)]
  omega
theorem law_out {j LL : Nat} (h : ¬ 5 * j + 5 ≤ LL) (hL : LL ≤ 2560) (hj : 5 * j ≤ LL) : nI LL - 5 < nI (5 * j) := by
  by_cases q : 5 ≤ LL
  · rw [show (5 : Int32) = nI 5 from rfl, pk_sub q, ← Int32.not_le, nI_leI (by omega) (by omega)]
    omega
  · obtain rfl : j = 0 := by omega
    rcases (show LL = 0 ∨ LL = 1 ∨ LL = 2 ∨ LL = 3 ∨ LL = 4 by omega) with rfl | rfl | rfl | rfl | rfl <;> decide
set_option maxHeartbeats 8000000 in
set_option maxRecDepth 100000 in
theorem lp_law {l : Launch} (hfl : l.stackTraces = false) {p : Program} {e : Env} {s : State} {m : MethodId} {below : List Frame} {meth : Method} {c : Code} {A : Nat → Prop} {D : va_G} {cI cJ cQ : ClassId} {Q : State → Prop} {b LL : Nat} {xs : Nat → Int32} (C : CC p s m #[.ref b] c cL_law 9 RL (Cond.initialized RL :: lw_all) D (tyz cI cJ cQ) A s.heap) (hz : xZ A s) (hC : xC s) (hX : va_X b LL xs s s.heap) (hbl : b < s.heap.size) (hbA : ¬ A b) (hLL : LL ≤ 2560) {x0a a0 a1 a2 a3 a4 a5 a6 a7 tr0 tr1 tr2 tr3 tr4 tr5 tr6 tr7 s0 s1 ra0 ra1 ra2 ra3 ra4 ra5 ra6 ra7 rb0 rb1 rb2 rb3 rb4 rb5 rb6 rb7 rc0 rc1 rc2 rc3 rc4 rc5 rc6 rc7 rd0 rd1 rd2 rd3 rd4 rd5 rd6 rd7 r0 t0 t1 w0 b0 b1 b2 b3 b4 b5 ao : Nat} {h : Nat → Option Nat} (hh0 : h 0 = some ra0) (hh1 : h 1 = some rb0) (hh2 : h 2 = some rc0) (hh3 : h 3 = some rd0) (hEx : ∀ (k n : Nat) (ws : va_W) (L : List (Nat × Value)), k ≤ 601024 → n ≤ 7293034 → sw p l e room_1 s m #[.ref b] below meth c D A s.heap 9 k n Q ws 1552 L []) : ∀ (u j : Nat) (k n : Nat) (S T : StT) (R : Nat → StT) (cn od ln : Nat) (by_ g sa pa ad tx nb : Nat → Int32) (X : RS) (th ap : Int32) (hh : Int64) (fo : Nat → Int64), LL < 5 * j + 5 * u + 5 → 5 * j ≤ LL → k ≤ 1000 + j → n ≤ 10000 + 6 * j → LI (100 * j) S R cn od ln by_ sa pa tx → sw p l e room_1 s m #[.ref b] below meth c D A s.heap 9 k n Q (flatS [[(x0a, .inr (6, [.ref a0, .ref tr0, .ref s0, .ref r0, .ref w0]))], (wSt a0 a1 a2 a3 a4 a5 a6 a7 cI (S)), [(s0, .inr (3, [.int (nI (cn)), .int (nI (od)), .ref s1])), (s1, .inl (cQ, 4, .inr (.inr (.inr (.inr h)))))], (wSt ra0 ra1 ra2 ra3 ra4 ra5 ra6 ra7 cI ((R) 0)), (wSt rb0 rb1 rb2 rb3 rb4 rb5 rb6 rb7 cI ((R) 1)), (wSt rc0 rc1 rc2 rc3 rc4 rc5 rc6 rc7 cI ((R) 2)), (wSt rd0 rd1 rd2 rd3 rd4 rd5 rd6 rd7 cI ((R) 3)), (wSt tr0 tr1 tr2 tr3 tr4 tr5 tr6 tr7 cI (T)), (wRd r0 t0 t1 cI (ln) (by_) (X)), [(w0, .inl (cI, 40, .inl (g)))], [(b0, .inr (7, [.ref b1, .ref b2, .ref b3, .int (nI (cn)), .int (th), .ref b4, .int (nI (ln)), .int (ap), .ref b5, .long (hh)])), (b1, .inl (cI, 424, .inl (sa))), (b2, .inl (cI, 1696, .inl (pa))), (b3, .inl (cI, 424, .inl (ad))), (b4, .inl (cI, 100, .inl (tx))), (b5, .inl (cI, 4, .inl (nb)))], [(ao, .inl (cJ, 1, .inr (.inl (fo))))]]) 23 [(0, .ref b), (1, .ref x0a), (2, .ref b0), (3, .ref ao), (4, .int (nI (5 * j)))] [] := by
  intro u
  induction u with
  | zero =>
    intro j k n S T R cn od ln by_ g sa pa ad tx nb X th ap hh fo hu hjL hkR hnR hLI
    have hj : ¬ 5 * j + 5 ≤ LL := by omega
    refine sw_iload 23 C dL_law_23 rfl ?_
    refine sw_aload_n 25 0 C dL_law_25 rfl rfl ?_
    refine sw_slen 26 C hX hbl hbA dL_law_26 ?_
    refine sw_iconst 27 C dL_law_27 5 (by decide) ?_
    refine sw_isub 28 C dL_law_28 ?_
    refine sw_icmp_gt 29 1552 C dL_law_29 (by decide) (fun c_29 => ?_) (fun c_29 => ?_)
    rotate_left
    · exact by first | exact absurd c_29 (law_out hj hLL hjL) | exact absurd (law_out hj hLL hjL) c_29
    exact hEx _ _ _ _ (by omega) (by omega)
  | succ u ih =>
    intro j k n S T R cn od ln by_ g sa pa ad tx nb X th ap hh fo hu hjL hkR hnR hLI
    by_cases hj : 5 * j + 5 ≤ LL
    · have hk : ∀ (S T : StT) (R : Nat → StT) (cn od ln : Nat) (by_ g sa pa ad tx nb : Nat → Int32) (X : RS) (th ap : Int32) (hh : Int64) (fo : Nat → Int64), LI (100 * j + 100) S R cn od ln by_ sa pa tx → sw p l e room_1 s m #[.ref b] below meth c D A s.heap 9 (k + 1) (n + 6) Q (flatS [[(x0a, .inr (6, [.ref a0, .ref tr0, .ref s0, .ref r0, .ref w0]))], (wSt a0 a1 a2 a3 a4 a5 a6 a7 cI (S)), [(s0, .inr (3, [.int (nI (cn)), .int (nI (od)), .ref s1])), (s1, .inl (cQ, 4, .inr (.inr (.inr (.inr h)))))], (wSt ra0 ra1 ra2 ra3 ra4 ra5 ra6 ra7 cI ((R) 0)), (wSt rb0 rb1 rb2 rb3 rb4 rb5 rb6 rb7 cI ((R) 1)), (wSt rc0 rc1 rc2 rc3 rc4 rc5 rc6 rc7 cI ((R) 2)), (wSt rd0 rd1 rd2 rd3 rd4 rd5 rd6 rd7 cI ((R) 3)), (wSt tr0 tr1 tr2 tr3 tr4 tr5 tr6 tr7 cI (T)), (wRd r0 t0 t1 cI (ln) (by_) (X)), [(w0, .inl (cI, 40, .inl (g)))], [(b0, .inr (7, [.ref b1, .ref b2, .ref b3, .int (nI (cn)), .int (th), .ref b4, .int (nI (ln)), .int (ap), .ref b5, .long (hh)])), (b1, .inl (cI, 424, .inl (sa))), (b2, .inl (cI, 1696, .inl (pa))), (b3, .inl (cI, 424, .inl (ad))), (b4, .inl (cI, 100, .inl (tx))), (b5, .inl (cI, 4, .inl (nb)))], [(ao, .inl (cJ, 1, .inr (.inl (fo))))]]) 1546 [(0, .ref b), (1, .ref x0a), (2, .ref b0), (3, .ref ao), (4, .int (nI (5 * j)))] [] := by
        intro S T R cn od ln by_ g sa pa ad tx nb X th ap hh fo hLI
        refine sw_iinc 1546 C 5 dL_law_1546 (by decide) rfl rfl ?_
        rw [show nI (5 * j) + 5 = nI (5 * (j + 1)) from nI_add (5 * j) 5]
        refine sw_goto 1549 23 C dL_law_1549 (by decide) ?_
        exact sw_loc (ih (j + 1) (k + 1) (n + 6) S T R cn od ln by_ g sa pa ad tx nb X th ap hh fo (by omega) (by omega) (by omega) (by omega) hLI) rfl
      refine sw_iload 23 C dL_law_23 rfl ?_
      refine sw_aload_n 25 0 C dL_law_25 rfl rfl ?_
      refine sw_slen 26 C hX hbl hbA dL_law_26 ?_
      refine sw_iconst 27 C dL_law_27 5 (by decide) ?_
      refine sw_isub 28 C dL_law_28 ?_
      refine sw_icmp_gt 29 1552 C dL_law_29 (by decide) (fun c_29 => ?_) (fun c_29 => ?_)
      · exact by first | exact absurd c_29 (law_in hj hLL) | exact absurd (law_in hj hLL) c_29
      refine sw_aload_n 32 0 C dL_law_32 rfl rfl ?_
      refine sw_iload 33 C dL_law_33 rfl ?_
      refine sw_sld 35 (5 * j) C hX hbl hbA dL_law_35 rfl (by omega) (by omega) ?_
      refine sw_bipush 36 C dL_law_36 31 (by decide) ?_
      refine sw_iand 38 C dL_law_38 ?_
      obtain ⟨w, hw, hw2⟩ := pk_andE (xs (5 * j)) (m := 31) 5 (by decide)
      refine sw_top hw2 ?_
      by_cases e_39_0 : w = 0
      · refine sw_tblIn 39 156 C 0 dL_law_39 (by rw [e_39_0]; decide) (by decide) rfl (by decide) ?_
        exact lo_setPatience hfl C hz hC hX hbl hbA hLL hh0 hh1 hh2 hh3 (B := 100 * j) (by omega) hj (by omega) (by omega) hLI hk
      by_cases e_39_1 : w = 1
      · refine sw_tblIn 39 224 C 1 dL_law_39 (by rw [e_39_1]; decide) (by decide) rfl (by decide) ?_
        exact lo_setQuota hfl C hz hC hX hbl hbA hLL hh0 hh1 hh2 hh3 (B := 100 * j) (by omega) hj (by omega) (by omega) hLI hk
      by_cases e_39_2 : w = 2
      · refine sw_tblIn 39 280 C 2 dL_law_39 (by rw [e_39_2]; decide) (by decide) rfl (by decide) ?_
        exact lo_setGrace hfl C hz hC hX hbl hbA hLL hh0 hh1 hh2 hh3 (B := 100 * j) (by omega) hj (by omega) (by omega) hLI hk
      by_cases e_39_3 : w = 3
      · refine sw_tblIn 39 336 C 3 dL_law_39 (by rw [e_39_3]; decide) (by decide) rfl (by decide) ?_
        exact lo_send hfl C hz hC hX hbl hbA hLL hh0 hh1 hh2 hh3 (B := 100 * j) (by omega) hj (by omega) (by omega) hLI hk
      by_cases e_39_4 : w = 4
      · refine sw_tblIn 39 416 C 4 dL_law_39 (by rw [e_39_4]; decide) (by decide) rfl (by decide) ?_
        exact lo_sendBribed hfl C hz hC hX hbl hbA hLL hh0 hh1 hh2 hh3 (B := 100 * j) (by omega) hj (by omega) (by omega) hLI hk
      by_cases e_39_5 : w = 5
      · refine sw_tblIn 39 508 C 5 dL_law_39 (by rw [e_39_5]; decide) (by decide) rfl (by decide) ?_
        exact lo_sendJoint hfl C hz hC hX hbl hbA hLL hh0 hh1 hh2 hh3 (B := 100 * j) (by omega) hj (by omega) (by omega) hLI hk
      by_cases e_39_6 : w = 6
      · refine sw_tblIn 39 600 C 6 dL_law_39 (by rw [e_39_6]; decide) (by decide) rfl (by decide) ?_
        exact lo_withdraw hfl C hz hC hX hbl hbA hLL hh0 hh1 hh2 hh3 (B := 100 * j) (by omega) hj (by omega) (by omega) hLI hk
      by_cases e_39_7 : w = 7
      · refine sw_tblIn 39 656 C 7 dL_law_39 (by rw [e_39_7]; decide) (by decide) rfl (by decide) ?_
        exact lo_serve hfl C hz hC hX hbl hbA hLL hh0 hh1 hh2 hh3 (B := 100 * j) (by omega) hj (by omega) (by omega) hLI hk
      by_cases e_39_8 : w = 8
      · refine sw_tblIn 39 700 C 8 dL_law_39 (by rw [e_39_8]; decide) (by decide) rfl (by decide) ?_
        exact lo_pass hfl C hz hC hX hbl hbA hLL hh0 hh1 hh2 hh3 (B := 100 * j) (by omega) hj (by omega) (by omega) hLI hk
      by_cases e_39_9 : w = 9
      · refine sw_tblIn 39 756 C 9 dL_law_39 (by rw [e_39_9]; decide) (by decide) rfl (by decide) ?_
        exact lo_petition hfl C hz hC hX hbl hbA hLL hh0 hh1 hh2 hh3 (B := 100 * j) (by omega) hj (by omega) (by omega) hLI hk
      by_cases e_39_10 : w = 10
      · refine sw_tblIn 39 824 C 10 dL_law_39 (by rw [e_39_10]; decide) (by decide) rfl (by decide) ?_
        exact lo_peek hfl C hz hC hX hbl hbA hLL hh0 hh1 hh2 hh3 (B := 100 * j) (by omega) hj (by omega) (by omega) hLI hk
      by_cases e_39_11 : w = 11
      · refine sw_tblIn 39 880 C 11 dL_law_39 (by rw [e_39_11]; decide) (by decide) rfl (by decide) ?_
        exact lo_sentBy hfl C hz hC hX hbl hbA hLL hh0 hh1 hh2 hh3 (B := 100 * j) (by omega) hj (by omega) (by omega) hLI hk
      by_cases e_39_12 : w = 12
      · refine sw_tblIn 39 936 C 12 dL_law_39 (by rw [e_39_12]; decide) (by decide) rfl (by decide) ?_
        exact lo_returned hfl C hz hC hX hbl hbA hLL hh0 hh1 hh2 hh3 (B := 100 * j) (by omega) hj (by omega) (by omega) hLI hk
      by_cases e_39_13 : w = 13
      · refine sw_tblIn 39 992 C 13 dL_law_39 (by rw [e_39_13]; decide) (by decide) rfl (by decide) ?_
        exact lo_entry hfl C hz hC hX hbl hbA hLL hh0 hh1 hh2 hh3 (B := 100 * j) (by omega) hj (by omega) (by omega) hLI hk
      by_cases e_39_14 : w = 14
      · refine sw_tblIn 39 1060 C 14 dL_law_39 (by rw [e_39_14]; decide) (by decide) rfl (by decide) ?_
        exact lo_value hfl C hz hC hX hbl hbA hLL hh0 hh1 hh2 hh3 (B := 100 * j) (by omega) hj (by omega) (by omega) hLI hk
      by_cases e_39_15 : w = 15
      · refine sw_tblIn 39 1116 C 15 dL_law_39 (by rw [e_39_15]; decide) (by decide) rfl (by decide) ?_
        exact lo_ofRank hfl C hz hC hX hbl hbA hLL hh0 hh1 hh2 hh3 (B := 100 * j) (by omega) hj (by omega) (by omega) hLI hk
      by_cases e_39_16 : w = 16
      · refine sw_tblIn 39 1172 C 16 dL_law_39 (by rw [e_39_16]; decide) (by decide) rfl (by decide) ?_
        exact lo_rankIn hfl C hz hC hX hbl hbA hLL hh0 hh1 hh2 hh3 (B := 100 * j) (by omega) hj (by omega) (by omega) hLI hk
      by_cases e_39_17 : w = 17
      · refine sw_tblIn 39 1240 C 17 dL_law_39 (by rw [e_39_17]; decide) (by decide) rfl (by decide) ?_
        exact lo_firstToExpire hfl C hz hC hX hbl hbA hLL hh0 hh1 hh2 hh3 (B := 100 * j) (by omega) hj (by omega) (by omega) hLI hk
      by_cases e_39_18 : w = 18
      · refine sw_tblIn 39 1253 C 18 dL_law_39 (by rw [e_39_18]; decide) (by decide) rfl (by decide) ?_
        exact lo_servedIn hfl C hz hC hX hbl hbA hLL hh0 hh1 hh2 hh3 (B := 100 * j) (by omega) hj (by omega) (by omega) hLI hk
      by_cases e_39_19 : w = 19
      · refine sw_tblIn 39 1309 C 19 dL_law_39 (by rw [e_39_19]; decide) (by decide) rfl (by decide) ?_
        exact lo_bribeToLead hfl C hz hC hX hbl hbA hLL hh0 hh1 hh2 hh3 (B := 100 * j) (by omega) hj (by omega) (by omega) hLI hk
      by_cases e_39_20 : w = 20
      · refine sw_tblIn 39 1365 C 20 dL_law_39 (by rw [e_39_20]; decide) (by decide) rfl (by decide) ?_
        exact lo_meanWait hfl C hz hC hX hbl hbA hLL hh0 hh1 hh2 hh3 (B := 100 * j) (by omega) hj (by omega) (by omega) hLI hk
      by_cases e_39_21 : w = 21
      · refine sw_tblIn 39 1406 C 21 dL_law_39 (by rw [e_39_21]; decide) (by decide) rfl (by decide) ?_
        exact lo_append hfl C hz hC hX hbl hbA hLL hh0 hh1 hh2 hh3 (B := 100 * j) (by omega) hj (by omega) (by omega) hLI hk
      by_cases e_39_22 : w = 22
      · refine sw_tblIn 39 1462 C 22 dL_law_39 (by rw [e_39_22]; decide) (by decide) rfl (by decide) ?_
        exact lo_clearText hfl C hz hC hX hbl hbA hLL hh0 hh1 hh2 hh3 (B := 100 * j) (by omega) hj (by omega) (by omega) hLI hk
      by_cases e_39_23 : w = 23
      · refine sw_tblIn 39 1475 C 23 dL_law_39 (by rw [e_39_23]; decide) (by decide) rfl (by decide) ?_
        exact lo_carryOut hfl C hz hC hX hbl hbA hLL hh0 hh1 hh2 hh3 (B := 100 * j) (by omega) hj (by omega) (by omega) hLI hk
      by_cases e_39_24 : w = 24
      · refine sw_tblIn 39 1488 C 24 dL_law_39 (by rw [e_39_24]; decide) (by decide) rfl (by decide) ?_
        exact lo_undo hfl C hz hC hX hbl hbA hLL hh0 hh1 hh2 hh3 (B := 100 * j) (by omega) hj (by omega) (by omega) hLI hk
      by_cases e_39_25 : w = 25
      · refine sw_tblIn 39 1532 C 25 dL_law_39 (by rw [e_39_25]; decide) (by decide) rfl (by decide) ?_
        exact lo_digest hfl C hz hC hX hbl hbA hLL hh0 hh1 hh2 hh3 (B := 100 * j) (by omega) hj (by omega) (by omega) hLI hk
      refine sw_tblOut 39 1546 C dL_law_39 (by rw [nI_toInt (by omega)]; omega) (by decide) ?_
      exact sw_loc (sw_widen (by omega) (by omega) (hk S T R cn od ln by_ g sa pa ad tx nb X th ap hh fo (LI.up hLI))) rfl
    · skip
      refine sw_iload 23 C dL_law_23 rfl ?_
      refine sw_aload_n 25 0 C dL_law_25 rfl rfl ?_
      refine sw_slen 26 C hX hbl hbA dL_law_26 ?_
      refine sw_iconst 27 C dL_law_27 5 (by decide) ?_
      refine sw_isub 28 C dL_law_28 ?_
      refine sw_icmp_gt 29 1552 C dL_law_29 (by decide) (fun c_29 => ?_) (fun c_29 => ?_)
      rotate_left
      · exact by first | exact absurd c_29 (law_out hj hLL hjL) | exact absurd (law_out hj hLL hjL) c_29
      exact hEx _ _ _ _ (by omega) (by omega)
