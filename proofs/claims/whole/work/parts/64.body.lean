theorem ci_L_law_RX6 : Cond.instantiable RX6 7 ∈ wsL_law := by decide +kernel
theorem ci_L_law_RX7 : Cond.instantiable RX7 14 ∈ wsL_law := by decide +kernel
theorem cl_L_law_10 : Cond.classLink RL 10 RX7 ∈ wsL_law := by decide +kernel
theorem cl_L_law_7 : Cond.classLink RL 7 RX6 ∈ wsL_law := by decide +kernel
theorem ni_L_law_RX6 : Cond.initialized RX6 ∈ wsL_law := by decide +kernel
theorem ni_L_law_RX7 : Cond.initialized RX7 ∈ wsL_law := by decide +kernel
theorem nl_L_law_12 : Cond.methodLink RL 12 yX7_init ∈ wsL_law := by decide +kernel
theorem nl_L_law_9 : Cond.methodLink RL 9 yX6_init ∈ wsL_law := by decide +kernel
theorem nt_L_law_X6_init : Cond.instanceMethod yX6_init ∈ wsL_law := by decide +kernel
theorem nt_L_law_X7_init : Cond.instanceMethod yX7_init ∈ wsL_law := by decide +kernel
set_option maxHeartbeats 8000000 in
set_option maxRecDepth 100000 in
theorem law_body {p : Program} {l : Launch} {e : Env} {s : State} {m : MethodId} {below : List Frame} {meth : Method} {c : Code} {z : Nat} {D : va_G} {Q : State → Prop} {cI cZ cP cR : ClassId} {b n0 : Nat} {xs : Nat → Int32} (C : gC p s m #[.ref b] c RL cL_law 4 wsL_law z D cI cZ cP cR) (hX : va_X b n0 xs s s.heap) (hb0 : b < s.heap.size) (hz : z = s.heap.size) (hn0 : n0 ≤ 2048) {F : Nat → va_E} (hend : ∀ (N2 : Nat) (F2 : Nat → va_E) (c2 s2 : Nat) (L2 : List (Nat × Value)), c2 ≤ room_1.cells → s2 ≤ room_1.slots → gX p l e room_1 s m #[.ref b] below meth c 4 z D Q N2 F2 c2 s2 L2 676 [.int 1]) : gX p l e room_1 s m #[.ref b] below meth c 4 z D Q 0 F 0 0 [(0, .ref b)] 0 [] := by
  refine x_new C (pc := 0) (ci := 6) (fs := [.null, .null, .null, .null, .null, .null, .null]) rfl inlX6 tyX6 tyX6_ok cl_L_law_7 ci_L_law_RX6 ni_L_law_RX6 (fun j hj => by match j, hj with | 0, _ => rfl | 1, _ => rfl | 2, _ => rfl | 3, _ => rfl | 4, _ => rfl | 5, _ => rfl | 6, _ => rfl) (Nat.le_of_ble_eq_true rfl) (Nat.le_of_ble_eq_true rfl) dL_law_0 ?_
  refine x_nameF (fun F_0 e_0 => ?_)
  have fr_0 : ∀ q, q ≠ 0 → F_0 q = F q := fun q h => by rw [e_0, va_up_ne _ _ h]
  have hO_0 : F_0 0 = .inr (6, [.null, .null, .null, .null, .null, .null, .null]) := by rw [e_0]; exact va_up_self _ _ _
  refine x_dup C (pc := 3) dL_law_3 rfl ?_
  refine x_cIvE C (pc := 4) (st := [.ref (z + 0)]) (c_X6_init l D z cI cZ cP cR 1 F_0 rfl hO_0) (cwI 0 C.2.2.2.2.1 gL_law_X6_init rfl rfl rfl (C.2.2.2.2.1 _ ni_L_law_RX6) (C.2.2.2.2.1 _ nl_L_law_9) (C.2.2.2.2.1 _ nt_L_law_X6_init) rfl hd_X6_init.2 ⟨Nat.le_of_ble_eq_true rfl, Nat.le_of_ble_eq_true rfl⟩) rfl rfl (Nat.le_of_ble_eq_true rfl) dL_law_4 ⟨Nat.le_of_ble_eq_true rfl, Nat.le_of_ble_eq_true rfl⟩ (fun F_4 h_4 => ?_)
  obtain ⟨qT, q1, q15, qH, qq, qP, qRe, qO⟩ := h_4
  refine x_astore_n C (pc := 7) [(1, .ref (z + 0)), (0, .ref b)] dL_law_7 (by decide) rfl ?_
  refine x_new C (pc := 8) (ci := 7) (fs := [.null, .null, .int 0, .int 0, .null, .null, .null, .null, .null, .int 0, .int 0, .int 0, .int 0, .null]) rfl inlX7 tyX7 tyX7_ok cl_L_law_10 ci_L_law_RX7 ni_L_law_RX7 (fun j hj => by match j, hj with | 0, _ => rfl | 1, _ => rfl | 2, _ => rfl | 3, _ => rfl | 4, _ => rfl | 5, _ => rfl | 6, _ => rfl | 7, _ => rfl | 8, _ => rfl | 9, _ => rfl | 10, _ => rfl | 11, _ => rfl | 12, _ => rfl | 13, _ => rfl) (Nat.le_of_ble_eq_true rfl) (Nat.le_of_ble_eq_true rfl) dL_law_8 ?_
  refine x_nameF (fun F_8 e_8 => ?_)
  have fr_8 : ∀ q, q ≠ 123 → F_8 q = F_4 q := fun q h => by rw [e_8, va_up_ne _ _ h]
  have hO_8 : F_8 123 = .inr (7, [.null, .null, .int 0, .int 0, .null, .null, .null, .null, .null, .int 0, .int 0, .int 0, .int 0, .null]) := by rw [e_8]; exact va_up_self _ _ _
  have pT := qT.same (fr_8 0 (by decide)) (fr_8 29 (by decide))
  have p1 := q1.same (F2 := F_8) (fun q _ _ => fr_8 q (by omega))
  have p15 := q15.same (F2 := F_8) (fun q _ _ => fr_8 q (by omega))
  have pH := qH.same (F2 := F_8) (fun q _ _ => fr_8 q (by omega))
  have pP := qP.same (F2 := F_8) (fun q _ _ => fr_8 q (by omega))
  have pRe := qRe.same (F2 := F_8) (fun q _ _ => fr_8 q (by omega))
  have pO := qO.same (F2 := F_8) (fun q _ _ => fr_8 q (by omega))
  have pq : ∀ q, q < 6 → isRec z cI cP F_8 (30 + 2 + 14 * q) 0 (-6) 0 0 500 1 0 (fun _ _ => 0) (fun _ => 0) (fun _ => 0) := fun i hi => (qq i hi).same (fun q _ _ => fr_8 q (by omega))
  refine x_dup C (pc := 11) dL_law_11 rfl ?_
  refine x_cIvE C (pc := 12) (st := [.ref (z + 123)]) (c_X7_init l D z cI cZ cP cR 124 F_8 123 rfl hO_8) (cwI 0 C.2.2.2.2.1 gL_law_X7_init rfl rfl rfl (C.2.2.2.2.1 _ ni_L_law_RX7) (C.2.2.2.2.1 _ nl_L_law_12) (C.2.2.2.2.1 _ nt_L_law_X7_init) rfl hd_X7_init.2 ⟨Nat.le_of_ble_eq_true rfl, Nat.le_of_ble_eq_true rfl⟩) rfl rfl (Nat.le_of_ble_eq_true rfl) dL_law_12 ⟨Nat.le_of_ble_eq_true rfl, Nat.le_of_ble_eq_true rfl⟩ (fun F_12 h_12 => ?_)
  obtain ⟨hM, lo_12⟩ := h_12
  have rT := pT.same (lo_12 0 (by decide)) (lo_12 29 (by decide))
  have r1 := p1.same (F2 := F_12) (fun q _ _ => lo_12 q (by omega))
  have r15 := p15.same (F2 := F_12) (fun q _ _ => lo_12 q (by omega))
  have rH := pH.same (F2 := F_12) (fun q _ _ => lo_12 q (by omega))
  have rP := pP.same (F2 := F_12) (fun q _ _ => lo_12 q (by omega))
  have rRe := pRe.same (F2 := F_12) (fun q _ _ => lo_12 q (by omega))
  have rO := pO.same (F2 := F_12) (fun q _ _ => lo_12 q (by omega))
  have rq : ∀ q, q < 6 → isRec z cI cP F_12 (30 + 2 + 14 * q) 0 (-6) 0 0 500 1 0 (fun _ _ => 0) (fun _ => 0) (fun _ => 0) := fun i hi => (pq i hi).same (fun q _ _ => lo_12 q (by omega))
  have hI0 := LI0 (cZ := cZ) rT r1 r15 rH rq rP rRe rO hM
  refine x_astore_n C (pc := 15) [(2, .ref (z + 123)), (1, .ref (z + 0)), (0, .ref b)] dL_law_15 (by decide) rfl ?_
  refine x_cs (N2 := 132 + 14 * 0) (c2 := 132 + 14 * 0) (s2 := 3833 + 90 * 0) rfl (Nat.eq_of_beq_eq_true rfl) (Nat.eq_of_beq_eq_true rfl) ?_
  refine x_iconst C (pc := 16) (v := 0) dL_law_16 (by decide) ?_
  refine x_istore_n C (pc := 17) [(3, .int 0), (2, .ref (z + 123)), (1, .ref (z + 0)), (0, .ref b)] dL_law_17 (by decide) rfl ?_
  refine x_sub [0, 1, 2, 3] _ rfl ?_
  refine x_loop3 (A1 := Nat) (A2 := Nat) (A3 := Nat → va_E) (pc := 18) (st := []) (fun i kq G => n0 + 4 - i) (fun i kq G => (i ≤ 2051) ∧ (4 * kq ≤ i) ∧ (LI z cI cZ cP cR kq G)) (fun i kq G => 132 + 14 * kq) (fun i kq G => G) (fun i kq G => 132 + 14 * kq) (fun i kq G => 3833 + 90 * kq) (fun i kq G => [(3, .int (nI i)), (2, .ref (z + 123)), (1, .ref (z + 0)), (0, .ref b)]) 0 0 F_12 ⟨(Nat.zero_le _), (Nat.le_refl _), hI0⟩ rfl rfl rfl rfl rfl ?_
  rintro i kq G ⟨hi51, hkq, hI⟩ ih_18
  try dsimp only at ih_18
  refine x_iload_n C (pc := 18) 0 dL_law_18 rfl ?_
  refine x_aload_n C (pc := 19) 3 dL_law_19 rfl ?_
  refine x_slen C hX hb0 hz (pc := 20) dL_law_20 ?_
  refine x_iconst C (pc := 21) (v := 4) dL_law_21 (by decide) ?_
  refine x_isub C (pc := 22) (v := (nI n0) - 4) dL_law_22 rfl ?_
  refine x_icmp_gt C (pc := 23) (tgt := 675) dL_law_23 (by decide) (fun c_23 => ?_) (fun c_23 => ?_)
  · refine x_iconst C (pc := 675) (v := 1) dL_law_675 (by decide) ?_
    exact hend _ _ _ _ _ (rm_c (by omega)) (rm_s (by omega))
  have hi4 : i + 4 ≤ n0 := law_lt hn0 hi51 c_23
  have K : ∀ (kq2 : Nat) (F2 : Nat → va_E), kq2 ≤ kq + 1 → LI z cI cZ cP cR kq2 F2 → gX p l e room_1 s m #[.ref b] below meth c 4 z D Q (132 + 14 * kq2) F2 (132 + 14 * kq2) (3833 + 90 * kq2) [(3, .int (nI i)), (2, .ref (z + 123)), (1, .ref (z + 0)), (0, .ref b)] 669 [] := by
    intro kq2 F2 hk2 hI2
    refine x_iinc C (pc := 669) 0 [(3, .int (nI (i + 4))), (2, .ref (z + 123)), (1, .ref (z + 0)), (0, .ref b)] dL_law_669 rfl (nI_incK i 4 (by decide)) (by decide) rfl ?_
    refine x_goto C (pc := 672) (tgt := 18) dL_law_672 (by decide) ?_
    exact ih_18 (i + 4) kq2 F2 ⟨by omega, by omega, hI2⟩ (by omega)
  refine x_aload_n C (pc := 26) 3 dL_law_26 rfl ?_
  refine x_iload_n C (pc := 27) 0 dL_law_27 rfl ?_
  refine x_sld C hX hb0 hz (pc := 28) (j := i) (by omega) hn0 dL_law_28 ?_
  refine x_bipush C (pc := 29) (v := 31) dL_law_29 (by decide) ?_
  refine x_iand C (pc := 31) (v := (xs i) &&& 31) dL_law_31 rfl ?_
  generalize ((xs i) &&& 31) = x
  by_cases hs0 : x = 0
  · refine x_tableIn C (pc := 32) (off := 108) (tgt := 140) dL_law_32 (by rw [hs0]; decide) (by rw [hs0]; decide) (by rw [hs0]; rfl) (by decide) ?_
    exact lc_pile C hX hb0 hz hn0 hi4 hkq hI K
  by_cases hs1 : x = 1
  · refine x_tableIn C (pc := 32) (off := 151) (tgt := 183) dL_law_32 (by rw [hs1]; decide) (by rw [hs1]; decide) (by rw [hs1]; rfl) (by decide) ?_
    exact lc_finds C hX hb0 hz hn0 hi4 hkq hI K
  by_cases hs2 : x = 2
  · refine x_tableIn C (pc := 32) (off := 194) (tgt := 226) dL_law_32 (by rw [hs2]; decide) (by rw [hs2]; decide) (by rw [hs2]; rfl) (by decide) ?_
    exact lc_limit C hX hb0 hz hn0 hi4 hkq hI K
  by_cases hs3 : x = 3
  · refine x_tableIn C (pc := 32) (off := 217) (tgt := 249) dL_law_32 (by rw [hs3]; decide) (by rw [hs3]; decide) (by rw [hs3]; rfl) (by decide) ?_
    exact lc_seed C hX hb0 hz hn0 hi4 hkq hI K
  by_cases hs4 : x = 4
  · refine x_tableIn C (pc := 32) (off := 240) (tgt := 272) dL_law_32 (by rw [hs4]; decide) (by rw [hs4]; decide) (by rw [hs4]; rfl) (by decide) ?_
    exact lc_draw C hX hb0 hz hn0 hi4 hkq hI K
  by_cases hs5 : x = 5
  · refine x_tableIn C (pc := 32) (off := 253) (tgt := 285) dL_law_32 (by rw [hs5]; decide) (by rw [hs5]; decide) (by rw [hs5]; rfl) (by decide) ?_
    exact lc_count C hX hb0 hz hn0 hi4 hkq hI K
  by_cases hs6 : x = 6
  · refine x_tableIn C (pc := 32) (off := 276) (tgt := 308) dL_law_32 (by rw [hs6]; decide) (by rw [hs6]; decide) (by rw [hs6]; rfl) (by decide) ?_
    exact lc_finish C hX hb0 hz hn0 hi4 hkq hI K
  by_cases hs7 : x = 7
  · refine x_tableIn C (pc := 32) (off := 289) (tgt := 321) dL_law_32 (by rw [hs7]; decide) (by rw [hs7]; decide) (by rw [hs7]; rfl) (by decide) ?_
    exact lc_stop C hX hb0 hz hn0 hi4 hkq hI K
  by_cases hs8 : x = 8
  · refine x_tableIn C (pc := 32) (off := 302) (tgt := 334) dL_law_32 (by rw [hs8]; decide) (by rw [hs8]; decide) (by rw [hs8]; rfl) (by decide) ?_
    exact lc_ofPile C hX hb0 hz hn0 hi4 hkq hI K
  by_cases hs9 : x = 9
  · refine x_tableIn C (pc := 32) (off := 335) (tgt := 367) dL_law_32 (by rw [hs9]; decide) (by rw [hs9]; decide) (by rw [hs9]; rfl) (by decide) ?_
    exact lc_state C hX hb0 hz hn0 hi4 hkq hI K
  by_cases hs10 : x = 10
  · refine x_tableIn C (pc := 32) (off := 358) (tgt := 390) dL_law_32 (by rw [hs10]; decide) (by rw [hs10]; decide) (by rw [hs10]; rfl) (by decide) ?_
    exact lc_counted C hX hb0 hz hn0 hi4 hkq hI K
  by_cases hs11 : x = 11
  · refine x_tableIn C (pc := 32) (off := 381) (tgt := 413) dL_law_32 (by rw [hs11]; decide) (by rw [hs11]; decide) (by rw [hs11]; rfl) (by decide) ?_
    exact lc_riskOf C hX hb0 hz hn0 hi4 hkq hI K
  by_cases hs12 : x = 12
  · refine x_tableIn C (pc := 32) (off := 424) (tgt := 456) dL_law_32 (by rw [hs12]; decide) (by rw [hs12]; decide) (by rw [hs12]; rfl) (by decide) ?_
    exact lc_atLeast C hX hb0 hz hn0 hi4 hkq hI K
  by_cases hs13 : x = 13
  · refine x_tableIn C (pc := 32) (off := 437) (tgt := 469) dL_law_32 (by rw [hs13]; decide) (by rw [hs13]; decide) (by rw [hs13]; rfl) (by decide) ?_
    exact lc_orders C hX hb0 hz hn0 hi4 hkq hI K
  by_cases hs14 : x = 14
  · refine x_tableIn C (pc := 32) (off := 460) (tgt := 492) dL_law_32 (by rw [hs14]; decide) (by rw [hs14]; decide) (by rw [hs14]; rfl) (by decide) ?_
    exact lc_wrongOrders C hX hb0 hz hn0 hi4 hkq hI K
  by_cases hs15 : x = 15
  · refine x_tableIn C (pc := 32) (off := 473) (tgt := 505) dL_law_32 (by rw [hs15]; decide) (by rw [hs15]; decide) (by rw [hs15]; rfl) (by decide) ?_
    exact lc_suspects C hX hb0 hz hn0 hi4 hkq hI K
  by_cases hs16 : x = 16
  · refine x_tableIn C (pc := 32) (off := 486) (tgt := 518) dL_law_32 (by rw [hs16]; decide) (by rw [hs16]; decide) (by rw [hs16]; rfl) (by decide) ?_
    exact lc_put C hX hb0 hz hn0 hi4 hkq hI K
  by_cases hs17 : x = 17
  · refine x_tableIn C (pc := 32) (off := 539) (tgt := 571) dL_law_32 (by rw [hs17]; decide) (by rw [hs17]; decide) (by rw [hs17]; rfl) (by decide) ?_
    exact lc_wipe C hX hb0 hz hn0 hi4 hkq hI K
  by_cases hs18 : x = 18
  · refine x_tableIn C (pc := 32) (off := 552) (tgt := 584) dL_law_32 (by rw [hs18]; decide) (by rw [hs18]; decide) (by rw [hs18]; rfl) (by decide) ?_
    exact lc_fault C hX hb0 hz hn0 hi4 hkq hI K
  by_cases hs19 : x = 19
  · refine x_tableIn C (pc := 32) (off := 565) (tgt := 597) dL_law_32 (by rw [hs19]; decide) (by rw [hs19]; decide) (by rw [hs19]; rfl) (by decide) ?_
    exact lc_make C hX hb0 hz hn0 hi4 hkq hI K
  by_cases hs20 : x = 20
  · refine x_tableIn C (pc := 32) (off := 578) (tgt := 610) dL_law_32 (by rw [hs20]; decide) (by rw [hs20]; decide) (by rw [hs20]; rfl) (by decide) ?_
    exact lc_undo C hX hb0 hz hn0 hi4 hkq hI K
  by_cases hs21 : x = 21
  · refine x_tableIn C (pc := 32) (off := 591) (tgt := 623) dL_law_32 (by rw [hs21]; decide) (by rw [hs21]; decide) (by rw [hs21]; rfl) (by decide) ?_
    exact lc_save C hX hb0 hz hn0 hi4 hkq hI K
  by_cases hs22 : x = 22
  · refine x_tableIn C (pc := 32) (off := 614) (tgt := 646) dL_law_32 (by rw [hs22]; decide) (by rw [hs22]; decide) (by rw [hs22]; rfl) (by decide) ?_
    exact lc_restore C hX hb0 hz hn0 hi4 hkq hI K
  refine x_tableOut C (pc := 32) (tgt := 669) dL_law_32 (tab_out (m := 22) (by decide) (fun i hi => by match i, hi with | 0, _ => exact hs0 | 1, _ => exact hs1 | 2, _ => exact hs2 | 3, _ => exact hs3 | 4, _ => exact hs4 | 5, _ => exact hs5 | 6, _ => exact hs6 | 7, _ => exact hs7 | 8, _ => exact hs8 | 9, _ => exact hs9 | 10, _ => exact hs10 | 11, _ => exact hs11 | 12, _ => exact hs12 | 13, _ => exact hs13 | 14, _ => exact hs14 | 15, _ => exact hs15 | 16, _ => exact hs16 | 17, _ => exact hs17 | 18, _ => exact hs18 | 19, _ => exact hs19 | 20, _ => exact hs20 | 21, _ => exact hs21 | 22, _ => exact hs22 | k + 23, h => exact absurd h (by omega))) (by decide) ?_
  exact K kq G (Nat.le_succ _) hI
