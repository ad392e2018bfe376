set_option maxHeartbeats 4000000 in
set_option maxRecDepth 100000 in
theorem c_X6_has (l : Launch) (D : va_G) (z : Nat) (cI cZ cP cR : ClassId) (N : Nat) (F : Nat → va_E) (w k : Nat) (hw : w < 2 ^ 31) (hk : k < 32) : gMi l yX6_has wsX6_has ({ frames := 0, cells := 0, slots := 0, locals := 0 }) D z cI cZ cP cR N F [.int (nI w), .int (nI k)] (gRes (bz (w.testBit k)) N (fun F2 => F2 = F)) 0 0 := by
  refine gMi.of (cc := cX6_has) (maxL := 2) (ret := (some .boolean)) (by decide) rfl (Nat.le_of_ble_eq_true rfl) [(0, .int (nI w)), (1, .int (nI k))] rfl ?_
  intro pg ev sg mg bel me cg C hR0
  refine x_iload_n C (pc := 0) 0 dX6_has_0 rfl ?_
  refine x_iload_n C (pc := 1) 1 dX6_has_1 rfl ?_
  refine x_ishr C (pc := 2) (v := (nI w) >>> ((nI k) &&& 31)) dX6_has_2 rfl ?_
  refine x_iconst C (pc := 3) (v := 1) dX6_has_3 (by decide) ?_
  refine x_iand C (pc := 4) (v := bz (w.testBit k)) dX6_has_4 (bit_val hw hk) ?_
  refine x_iconst C (pc := 5) (v := 1) dX6_has_5 (by decide) ?_
  refine x_icmp_ne C (pc := 6) (tgt := 13) dX6_has_6 (by decide) (fun c_6 => ?_) (fun c_6 => ?_)
  · refine x_iconst C (pc := 13) (v := 0) dX6_has_13 (by decide) ?_
    exact x_iret C hR0 rfl (Nat.le_of_ble_eq_true rfl) (Nat.le_of_ble_eq_true rfl) ⟨(by rw [bz_n1 c_6]; rfl), rfl, rfl⟩ dX6_has_14
  refine x_iconst C (pc := 9) (v := 1) dX6_has_9 (by decide) ?_
  refine x_goto C (pc := 10) (tgt := 14) dX6_has_10 (by decide) ?_
  exact x_iret C hR0 rfl (Nat.le_of_ble_eq_true rfl) (Nat.le_of_ble_eq_true rfl) ⟨c_6.symm, rfl, rfl⟩ dX6_has_14
set_option maxHeartbeats 4000000 in
set_option maxRecDepth 100000 in
theorem c_X7_has (l : Launch) (D : va_G) (z : Nat) (cI cZ cP cR : ClassId) (N : Nat) (F : Nat → va_E) (w k : Nat) (hw : w < 2 ^ 31) (hk : k < 32) : gMi l yX7_has wsX7_has ({ frames := 0, cells := 0, slots := 0, locals := 0 }) D z cI cZ cP cR N F [.int (nI w), .int (nI k)] (gRes (bz (w.testBit k)) N (fun F2 => F2 = F)) 0 0 := by
  refine gMi.of (cc := cX7_has) (maxL := 2) (ret := (some .boolean)) (by decide) rfl (Nat.le_of_ble_eq_true rfl) [(0, .int (nI w)), (1, .int (nI k))] rfl ?_
  intro pg ev sg mg bel me cg C hR0
  refine x_iload_n C (pc := 0) 0 dX7_has_0 rfl ?_
  refine x_iload_n C (pc := 1) 1 dX7_has_1 rfl ?_
  refine x_ishr C (pc := 2) (v := (nI w) >>> ((nI k) &&& 31)) dX7_has_2 rfl ?_
  refine x_iconst C (pc := 3) (v := 1) dX7_has_3 (by decide) ?_
  refine x_iand C (pc := 4) (v := bz (w.testBit k)) dX7_has_4 (bit_val hw hk) ?_
  refine x_iconst C (pc := 5) (v := 1) dX7_has_5 (by decide) ?_
  refine x_icmp_ne C (pc := 6) (tgt := 13) dX7_has_6 (by decide) (fun c_6 => ?_) (fun c_6 => ?_)
  · refine x_iconst C (pc := 13) (v := 0) dX7_has_13 (by decide) ?_
    exact x_iret C hR0 rfl (Nat.le_of_ble_eq_true rfl) (Nat.le_of_ble_eq_true rfl) ⟨(by rw [bz_n1 c_6]; rfl), rfl, rfl⟩ dX7_has_14
  refine x_iconst C (pc := 9) (v := 1) dX7_has_9 (by decide) ?_
  refine x_goto C (pc := 10) (tgt := 14) dX7_has_10 (by decide) ?_
  exact x_iret C hR0 rfl (Nat.le_of_ble_eq_true rfl) (Nat.le_of_ble_eq_true rfl) ⟨c_6.symm, rfl, rfl⟩ dX7_has_14
set_option maxHeartbeats 4000000 in
set_option maxRecDepth 100000 in
theorem c_X6_isVotes (l : Launch) (D : va_G) (z : Nat) (cI cZ cP cR : ClassId) (N : Nat) (F : Nat → va_E) (x : Int32) : gMi l yX6_isVotes wsX6_isVotes ({ frames := 0, cells := 0, slots := 0, locals := 0 }) D z cI cZ cP cR N F [.int x] (gRes (bz (inB x 0 200)) N (fun F2 => F2 = F)) 0 0 := by
  refine gMi.of (cc := cX6_isVotes) (maxL := 1) (ret := (some .boolean)) (by decide) rfl (Nat.le_of_ble_eq_true rfl) [(0, .int x)] rfl ?_
  intro pg ev sg mg bel me cg C hR0
  refine x_iload_n C (pc := 0) 0 dX6_isVotes_0 rfl ?_
  refine x_if_lt C (pc := 1) (tgt := 15) dX6_isVotes_1 (by decide) (fun c_1 => ?_) (fun c_1 => ?_)
  · refine x_iconst C (pc := 15) (v := 0) dX6_isVotes_15 (by decide) ?_
    exact x_iret C hR0 rfl (Nat.le_of_ble_eq_true rfl) (Nat.le_of_ble_eq_true rfl) ⟨(by first | (rw [inB_f1 c_1]; rfl) | (rw [inB_f2 c_8]; rfl)), rfl, rfl⟩ dX6_isVotes_16
  refine x_iload_n C (pc := 4) 0 dX6_isVotes_4 rfl ?_
  refine x_sipush C (pc := 5) (v := 200) dX6_isVotes_5 (by decide) ?_
  refine x_icmp_gt C (pc := 8) (tgt := 15) dX6_isVotes_8 (by decide) (fun c_8 => ?_) (fun c_8 => ?_)
  · refine x_iconst C (pc := 15) (v := 0) dX6_isVotes_15 (by decide) ?_
    exact x_iret C hR0 rfl (Nat.le_of_ble_eq_true rfl) (Nat.le_of_ble_eq_true rfl) ⟨(by first | (rw [inB_f1 c_1]; rfl) | (rw [inB_f2 c_8]; rfl)), rfl, rfl⟩ dX6_isVotes_16
  refine x_iconst C (pc := 11) (v := 1) dX6_isVotes_11 (by decide) ?_
  refine x_goto C (pc := 12) (tgt := 16) dX6_isVotes_12 (by decide) ?_
  exact x_iret C hR0 rfl (Nat.le_of_ble_eq_true rfl) (Nat.le_of_ble_eq_true rfl) ⟨(by rw [inB_t c_1 c_8]; rfl), rfl, rfl⟩ dX6_isVotes_16
set_option maxHeartbeats 4000000 in
set_option maxRecDepth 100000 in
theorem c_X7_in (l : Launch) (D : va_G) (z : Nat) (cI cZ cP cR : ClassId) (N : Nat) (F : Nat → va_E) (x lo hi : Int32) : gMi l yX7_in wsX7_in ({ frames := 0, cells := 0, slots := 0, locals := 0 }) D z cI cZ cP cR N F [.int x, .int lo, .int hi] (gRes (bz (inB x lo hi)) N (fun F2 => F2 = F)) 0 0 := by
  refine gMi.of (cc := cX7_in) (maxL := 3) (ret := (some .boolean)) (by decide) rfl (Nat.le_of_ble_eq_true rfl) [(0, .int x), (1, .int lo), (2, .int hi)] rfl ?_
  intro pg ev sg mg bel me cg C hR0
  refine x_iload_n C (pc := 0) 0 dX7_in_0 rfl ?_
  refine x_iload_n C (pc := 1) 1 dX7_in_1 rfl ?_
  refine x_icmp_lt C (pc := 2) (tgt := 14) dX7_in_2 (by decide) (fun c_2 => ?_) (fun c_2 => ?_)
  · refine x_iconst C (pc := 14) (v := 0) dX7_in_14 (by decide) ?_
    exact x_iret C hR0 rfl (Nat.le_of_ble_eq_true rfl) (Nat.le_of_ble_eq_true rfl) ⟨(by first | (rw [inB_f1 c_2]; rfl) | (rw [inB_f2 c_7]; rfl)), rfl, rfl⟩ dX7_in_15
  refine x_iload_n C (pc := 5) 0 dX7_in_5 rfl ?_
  refine x_iload_n C (pc := 6) 2 dX7_in_6 rfl ?_
  refine x_icmp_gt C (pc := 7) (tgt := 14) dX7_in_7 (by decide) (fun c_7 => ?_) (fun c_7 => ?_)
  · refine x_iconst C (pc := 14) (v := 0) dX7_in_14 (by decide) ?_
    exact x_iret C hR0 rfl (Nat.le_of_ble_eq_true rfl) (Nat.le_of_ble_eq_true rfl) ⟨(by first | (rw [inB_f1 c_2]; rfl) | (rw [inB_f2 c_7]; rfl)), rfl, rfl⟩ dX7_in_15
  refine x_iconst C (pc := 10) (v := 1) dX7_in_10 (by decide) ?_
  refine x_goto C (pc := 11) (tgt := 15) dX7_in_11 (by decide) ?_
  exact x_iret C hR0 rfl (Nat.le_of_ble_eq_true rfl) (Nat.le_of_ble_eq_true rfl) ⟨(by rw [inB_t c_2 c_7]; rfl), rfl, rfl⟩ dX7_in_15
set_option maxHeartbeats 4000000 in
set_option maxRecDepth 100000 in
theorem c_X7_many (l : Launch) (D : va_G) (z : Nat) (cI cZ cP cR : ClassId) (N : Nat) (F : Nat → va_E) (w : Nat) (hw : w < 2 ^ 31) : gMi l yX7_many wsX7_many ({ frames := 0, cells := 0, slots := 0, locals := 0 }) D z cI cZ cP cR N F [.int (nI w)] (gRes (nI (cntB w 10)) N (fun F2 => F2 = F)) 0 0 := by
  refine gMi.of (cc := cX7_many) (maxL := 3) (ret := (some .int)) (by decide) rfl (Nat.le_of_ble_eq_true rfl) [(0, .int (nI w))] rfl ?_
  intro pg ev sg mg bel me cg C hR0
  refine x_iconst C (pc := 0) (v := 0) dX7_many_0 (by decide) ?_
  refine x_istore_n C (pc := 1) [(1, .int 0), (0, .int (nI w))] dX7_many_1 (by decide) rfl ?_
  refine x_iconst C (pc := 2) (v := 0) dX7_many_2 (by decide) ?_
  refine x_istore_n C (pc := 3) [(2, .int 0), (1, .int 0), (0, .int (nI w))] dX7_many_3 (by decide) rfl ?_
  refine x_sub [2, 1, 0] _ rfl ?_
  refine x_loop1 (A1 := Nat) (pc := 4) (st := []) (fun j => 10 - j) (fun j => (j ≤ 10)) (fun j => N) (fun j => F) (fun j => 0) (fun j => 0) (fun j => [(0, .int (nI w)), (1, .int (nI (cntB w j))), (2, .int (nI j))]) 0 (by omega) rfl rfl rfl rfl rfl ?_
  rintro j hj ih_4
  try dsimp only at ih_4
  refine x_iload_n C (pc := 4) 2 dX7_many_4 rfl ?_
  refine x_bipush C (pc := 5) (v := 10) dX7_many_5 (by decide) ?_
  refine x_icmpN_ge C (a := j) (b := 10) (pc := 7) (tgt := 24) (by omega) (by omega) dX7_many_7 (by decide) (fun c_7 => ?_) (fun c_7 => ?_)
  · refine x_iload_n C (pc := 24) 1 dX7_many_24 rfl ?_
    exact x_iret C hR0 rfl (Nat.le_of_ble_eq_true rfl) (Nat.le_of_ble_eq_true rfl) ⟨(by rw [show j = 10 by omega]), rfl, rfl⟩ dX7_many_25
  refine x_iload_n C (pc := 10) 1 dX7_many_10 rfl ?_
  refine x_iload_n C (pc := 11) 0 dX7_many_11 rfl ?_
  refine x_iload_n C (pc := 12) 2 dX7_many_12 rfl ?_
  refine x_ishr C (pc := 13) (v := (nI w) >>> ((nI j) &&& 31)) dX7_many_13 rfl ?_
  refine x_iconst C (pc := 14) (v := 1) dX7_many_14 (by decide) ?_
  refine x_iand C (pc := 15) (v := bz (w.testBit j)) dX7_many_15 (bit_val hw (by omega)) ?_
  refine x_iadd C (pc := 16) (v := nI (cntB w (j + 1))) dX7_many_16 (cnt_step w j) ?_
  refine x_istore_n C (pc := 17) [(1, .int (nI (cntB w (j + 1)))), (0, .int (nI w)), (2, .int (nI j))] dX7_many_17 (by decide) rfl ?_
  refine x_iinc C (pc := 18) 2 [(2, .int (nI (j + 1))), (1, .int (nI (cntB w (j + 1)))), (0, .int (nI w))] dX7_many_18 rfl (nI_inc j) (by decide) rfl ?_
  refine x_goto C (pc := 21) (tgt := 4) dX7_many_21 (by decide) ?_
  exact x_sub [2, 1, 0] _ rfl (ih_4 (j + 1) (by omega) (by omega))
set_option maxHeartbeats 4000000 in
set_option maxRecDepth 100000 in
theorem c_X6_factorial (l : Launch) (D : va_G) (z : Nat) (cI cZ cP cR : ClassId) (N : Nat) (F : Nat → va_E) (n : Nat) (hn : n ≤ 20) : gMi l yX6_factorial wsX6_factorial ({ frames := 0, cells := 0, slots := 0, locals := 0 }) D z cI cZ cP cR N F [.int (nI n)] (gRes (facF (n - 1)) N (fun F2 => F2 = F)) 0 0 := by
  refine gMi.of (cc := cX6_factorial) (maxL := 3) (ret := (some .int)) (by decide) rfl (Nat.le_of_ble_eq_true rfl) [(0, .int (nI n))] rfl ?_
  intro pg ev sg mg bel me cg C hR0
  refine x_iconst C (pc := 0) (v := 1) dX6_factorial_0 (by decide) ?_
  refine x_istore_n C (pc := 1) [(1, .int 1), (0, .int (nI n))] dX6_factorial_1 (by decide) rfl ?_
  refine x_iconst C (pc := 2) (v := 2) dX6_factorial_2 (by decide) ?_
  refine x_istore_n C (pc := 3) [(2, .int 2), (1, .int 1), (0, .int (nI n))] dX6_factorial_3 (by decide) rfl ?_
  refine x_sub [2, 1, 0] _ rfl ?_
  refine x_loop1 (A1 := Nat) (pc := 4) (st := []) (fun k => n - k) (fun k => (k = 0 ∨ k + 1 ≤ n)) (fun k => N) (fun k => F) (fun k => 0) (fun k => 0) (fun k => [(0, .int (nI n)), (1, .int (facF k)), (2, .int (nI (k + 2)))]) 0 (Or.inl rfl) rfl rfl rfl rfl rfl ?_
  rintro k hk ih_4
  try dsimp only at ih_4
  refine x_iload_n C (pc := 4) 2 dX6_factorial_4 rfl ?_
  refine x_iload_n C (pc := 5) 0 dX6_factorial_5 rfl ?_
  refine x_icmpN_gt C (a := k + 2) (b := n) (pc := 6) (tgt := 19) (by omega) (by omega) dX6_factorial_6 (by decide) (fun c_6 => ?_) (fun c_6 => ?_)
  · refine x_iload_n C (pc := 19) 1 dX6_factorial_19 rfl ?_
    exact x_iret C hR0 rfl (Nat.le_of_ble_eq_true rfl) (Nat.le_of_ble_eq_true rfl) ⟨(by rw [show k = n - 1 by omega]), rfl, rfl⟩ dX6_factorial_20
  refine x_iload_n C (pc := 9) 1 dX6_factorial_9 rfl ?_
  refine x_iload_n C (pc := 10) 2 dX6_factorial_10 rfl ?_
  refine x_imul C (pc := 11) (v := facF (k + 1)) dX6_factorial_11 rfl ?_
  refine x_istore_n C (pc := 12) [(1, .int (facF (k + 1))), (0, .int (nI n)), (2, .int (nI (k + 2)))] dX6_factorial_12 (by decide) rfl ?_
  refine x_iinc C (pc := 13) 2 [(2, .int (nI (k + 2 + 1))), (1, .int (facF (k + 1))), (0, .int (nI n))] dX6_factorial_13 rfl (nI_inc (k + 2)) (by decide) rfl ?_
  refine x_goto C (pc := 16) (tgt := 4) dX6_factorial_16 (by decide) ?_
  exact x_sub [2, 1, 0] _ rfl (ih_4 (k + 1) (Or.inr (by omega)) (by omega))
set_option maxHeartbeats 4000000 in
set_option maxRecDepth 100000 in
theorem c_X7_factorial (l : Launch) (D : va_G) (z : Nat) (cI cZ cP cR : ClassId) (N : Nat) (F : Nat → va_E) (n : Nat) (hn : n ≤ 20) : gMi l yX7_factorial wsX7_factorial ({ frames := 0, cells := 0, slots := 0, locals := 0 }) D z cI cZ cP cR N F [.int (nI n)] (gRes (facF (n - 1)) N (fun F2 => F2 = F)) 0 0 := by
  refine gMi.of (cc := cX7_factorial) (maxL := 3) (ret := (some .int)) (by decide) rfl (Nat.le_of_ble_eq_true rfl) [(0, .int (nI n))] rfl ?_
  intro pg ev sg mg bel me cg C hR0
  refine x_iconst C (pc := 0) (v := 1) dX7_factorial_0 (by decide) ?_
  refine x_istore_n C (pc := 1) [(1, .int 1), (0, .int (nI n))] dX7_factorial_1 (by decide) rfl ?_
  refine x_iconst C (pc := 2) (v := 2) dX7_factorial_2 (by decide) ?_
  refine x_istore_n C (pc := 3) [(2, .int 2), (1, .int 1), (0, .int (nI n))] dX7_factorial_3 (by decide) rfl ?_
  refine x_sub [2, 1, 0] _ rfl ?_
  refine x_loop1 (A1 := Nat) (pc := 4) (st := []) (fun k => n - k) (fun k => (k = 0 ∨ k + 1 ≤ n)) (fun k => N) (fun k => F) (fun k => 0) (fun k => 0) (fun k => [(0, .int (nI n)), (1, .int (facF k)), (2, .int (nI (k + 2)))]) 0 (Or.inl rfl) rfl rfl rfl rfl rfl ?_
  rintro k hk ih_4
  try dsimp only at ih_4
  refine x_iload_n C (pc := 4) 2 dX7_factorial_4 rfl ?_
  refine x_iload_n C (pc := 5) 0 dX7_factorial_5 rfl ?_
  refine x_icmpN_gt C (a := k + 2) (b := n) (pc := 6) (tgt := 19) (by omega) (by omega) dX7_factorial_6 (by decide) (fun c_6 => ?_) (fun c_6 => ?_)
  · refine x_iload_n C (pc := 19) 1 dX7_factorial_19 rfl ?_
    exact x_iret C hR0 rfl (Nat.le_of_ble_eq_true rfl) (Nat.le_of_ble_eq_true rfl) ⟨(by rw [show k = n - 1 by omega]), rfl, rfl⟩ dX7_factorial_20
  refine x_iload_n C (pc := 9) 1 dX7_factorial_9 rfl ?_
  refine x_iload_n C (pc := 10) 2 dX7_factorial_10 rfl ?_
  refine x_imul C (pc := 11) (v := facF (k + 1)) dX7_factorial_11 rfl ?_
  refine x_istore_n C (pc := 12) [(1, .int (facF (k + 1))), (0, .int (nI n)), (2, .int (nI (k + 2)))] dX7_factorial_12 (by decide) rfl ?_
  refine x_iinc C (pc := 13) 2 [(2, .int (nI (k + 2 + 1))), (1, .int (facF (k + 1))), (0, .int (nI n))] dX7_factorial_13 rfl (nI_inc (k + 2)) (by decide) rfl ?_
  refine x_goto C (pc := 16) (tgt := 4) dX7_factorial_16 (by decide) ?_
  exact x_sub [2, 1, 0] _ rfl (ih_4 (k + 1) (Or.inr (by omega)) (by omega))
set_option maxHeartbeats 4000000 in
set_option maxRecDepth 100000 in
theorem c_X6_choices (l : Launch) (D : va_G) (z : Nat) (cI cZ cP cR : ClassId) (N : Nat) (F : Nat → va_E) (n k : Nat) (hn : n ≤ 20) (hk : k ≤ 20) : gMl l yX6_choices wsX6_choices ({ frames := 0, cells := 0, slots := 0, locals := 0 }) D z cI cZ cP cR N F [.int (nI n), .int (nI k)] (gResL (chF n k) N (fun F2 => F2 = F)) 0 0 := by
  refine gMl.of (cc := cX6_choices) (maxL := 5) (ret := (some .long)) (by decide) rfl (Nat.le_of_ble_eq_true rfl) [(0, .int (nI n)), (1, .int (nI k))] rfl ?_
  intro pg ev sg mg bel me cg C hR0
  refine x_iload_n C (pc := 0) 1 dX6_choices_0 rfl ?_
  refine x_iload_n C (pc := 1) 0 dX6_choices_1 rfl ?_
  refine x_icmpN_le C (a := k) (b := n) (pc := 2) (tgt := 7) (by omega) (by omega) dX6_choices_2 (by decide) (fun c_2 => ?_) (fun c_2 => ?_)
  · refine x_lconst C (pc := 7) (v := 1) dX6_choices_7 (by decide) ?_
    refine x_lstore_n C (pc := 8) [(2, .long 1), (0, .int (nI n)), (1, .int (nI k))] dX6_choices_8 (by decide) rfl ?_
    refine x_iconst C (pc := 9) (v := 1) dX6_choices_9 (by decide) ?_
    refine x_istore C (pc := 10) [(4, .int 1), (2, .long 1), (0, .int (nI n)), (1, .int (nI k))] dX6_choices_10 (by decide) rfl ?_
    refine x_sub [2, 3, 1, 0] _ rfl ?_
    refine x_loop1 (A1 := Nat) (pc := 12) (st := []) (fun i => k - i) (fun i => (i ≤ k)) (fun i => N) (fun i => F) (fun i => 0) (fun i => 0) (fun i => [(0, .int (nI n)), (1, .int (nI k)), (2, .long (chL (n - k) i)), (4, .int (nI (i + 1)))]) 0 (Nat.zero_le _) rfl rfl rfl rfl rfl ?_
    rintro i hi ih_12
    try dsimp only at ih_12
    refine x_iload C (pc := 12) 3 dX6_choices_12 rfl ?_
    refine x_iload_n C (pc := 14) 1 dX6_choices_14 rfl ?_
    refine x_icmpN_gt C (a := i + 1) (b := k) (pc := 15) (tgt := 38) (by omega) (by omega) dX6_choices_15 (by decide) (fun c_15 => ?_) (fun c_15 => ?_)
    · refine x_lload_n C (pc := 38) 2 dX6_choices_38 rfl ?_
      exact x_lret C hR0 (Nat.le_of_ble_eq_true rfl) (Nat.le_of_ble_eq_true rfl) ⟨(by rw [show i = k by omega, chF, if_neg (by omega)]), rfl, rfl⟩ dX6_choices_39
    refine x_lload_n C (pc := 18) 2 dX6_choices_18 rfl ?_
    refine x_iload_n C (pc := 19) 0 dX6_choices_19 rfl ?_
    refine x_iload_n C (pc := 20) 1 dX6_choices_20 rfl ?_
    refine x_isub C (pc := 21) (v := nI (n - k)) dX6_choices_21 (pk_sub (by omega)) ?_
    refine x_iload C (pc := 22) 3 dX6_choices_22 rfl ?_
    refine x_iadd C (pc := 24) (v := nI (n - k + i + 1)) dX6_choices_24 (nI_add (n - k) (i + 1)) ?_
    refine x_i2l C (pc := 25) (v := lN (n - k + (i + 1))) dX6_choices_25 (nI_l (by omega)) ?_
    refine x_lmul C (pc := 26) (v := (chL (n - k) i) * (lN (n - k + (i + 1)))) dX6_choices_26 rfl ?_
    refine x_iload C (pc := 27) 3 dX6_choices_27 rfl ?_
    refine x_i2l C (pc := 29) (v := lN (i + 1)) dX6_choices_29 (nI_l (by omega)) ?_
    refine x_ldiv C (pc := 30) (v := chL (n - k) (i + 1)) dX6_choices_30 (lN_ne0 (by omega) (by omega)) rfl ?_
    refine x_lstore_n C (pc := 31) [(2, .long (chL (n - k) (i + 1))), (0, .int (nI n)), (1, .int (nI k)), (4, .int (nI (i + 1)))] dX6_choices_31 (by decide) rfl ?_
    refine x_iinc C (pc := 32) 3 [(4, .int (nI (i + 1 + 1))), (2, .long (chL (n - k) (i + 1))), (0, .int (nI n)), (1, .int (nI k))] dX6_choices_32 rfl (nI_inc (i + 1)) (by decide) rfl ?_
    refine x_goto C (pc := 35) (tgt := 12) dX6_choices_35 (by decide) ?_
    exact x_sub [2, 3, 1, 0] _ rfl (ih_12 (i + 1) (by omega) (by omega))
  refine x_lconst C (pc := 5) (v := 0) dX6_choices_5 (by decide) ?_
  exact x_lret C hR0 (Nat.le_of_ble_eq_true rfl) (Nat.le_of_ble_eq_true rfl) ⟨(by simp [chF, c_2]), rfl, rfl⟩ dX6_choices_6
set_option maxHeartbeats 4000000 in
set_option maxRecDepth 100000 in
theorem c_X7_choose (l : Launch) (D : va_G) (z : Nat) (cI cZ cP cR : ClassId) (N : Nat) (F : Nat → va_E) (n k : Nat) (hn : n ≤ 20) (hk : k ≤ 20) : gMl l yX7_choose wsX7_choose ({ frames := 0, cells := 0, slots := 0, locals := 0 }) D z cI cZ cP cR N F [.int (nI n), .int (nI k)] (gResL (chF n k) N (fun F2 => F2 = F)) 0 0 := by
  refine gMl.of (cc := cX7_choose) (maxL := 5) (ret := (some .long)) (by decide) rfl (Nat.le_of_ble_eq_true rfl) [(0, .int (nI n)), (1, .int (nI k))] rfl ?_
  intro pg ev sg mg bel me cg C hR0
  refine x_iload_n C (pc := 0) 1 dX7_choose_0 rfl ?_
  refine x_iload_n C (pc := 1) 0 dX7_choose_1 rfl ?_
  refine x_icmpN_le C (a := k) (b := n) (pc := 2) (tgt := 7) (by omega) (by omega) dX7_choose_2 (by decide) (fun c_2 => ?_) (fun c_2 => ?_)
  · refine x_lconst C (pc := 7) (v := 1) dX7_choose_7 (by decide) ?_
    refine x_lstore_n C (pc := 8) [(2, .long 1), (0, .int (nI n)), (1, .int (nI k))] dX7_choose_8 (by decide) rfl ?_
    refine x_iconst C (pc := 9) (v := 1) dX7_choose_9 (by decide) ?_
    refine x_istore C (pc := 10) [(4, .int 1), (2, .long 1), (0, .int (nI n)), (1, .int (nI k))] dX7_choose_10 (by decide) rfl ?_
    refine x_sub [2, 3, 1, 0] _ rfl ?_
    refine x_loop1 (A1 := Nat) (pc := 12) (st := []) (fun i => k - i) (fun i => (i ≤ k)) (fun i => N) (fun i => F) (fun i => 0) (fun i => 0) (fun i => [(0, .int (nI n)), (1, .int (nI k)), (2, .long (chL (n - k) i)), (4, .int (nI (i + 1)))]) 0 (Nat.zero_le _) rfl rfl rfl rfl rfl ?_
    rintro i hi ih_12
    try dsimp only at ih_12
    refine x_iload C (pc := 12) 3 dX7_choose_12 rfl ?_
    refine x_iload_n C (pc := 14) 1 dX7_choose_14 rfl ?_
    refine x_icmpN_gt C (a := i + 1) (b := k) (pc := 15) (tgt := 38) (by omega) (by omega) dX7_choose_15 (by decide) (fun c_15 => ?_) (fun c_15 => ?_)
    · refine x_lload_n C (pc := 38) 2 dX7_choose_38 rfl ?_
      exact x_lret C hR0 (Nat.le_of_ble_eq_true rfl) (Nat.le_of_ble_eq_true rfl) ⟨(by rw [show i = k by omega, chF, if_neg (by omega)]), rfl, rfl⟩ dX7_choose_39
    refine x_lload_n C (pc := 18) 2 dX7_choose_18 rfl ?_
    refine x_iload_n C (pc := 19) 0 dX7_choose_19 rfl ?_
    refine x_iload_n C (pc := 20) 1 dX7_choose_20 rfl ?_
    refine x_isub C (pc := 21) (v := nI (n - k)) dX7_choose_21 (pk_sub (by omega)) ?_
    refine x_iload C (pc := 22) 3 dX7_choose_22 rfl ?_
    refine x_iadd C (pc := 24) (v := nI (n - k + i + 1)) dX7_choose_24 (nI_add (n - k) (i + 1)) ?_
    refine x_i2l C (pc := 25) (v := lN (n - k + (i + 1))) dX7_choose_25 (nI_l (by omega)) ?_
    refine x_lmul C (pc := 26) (v := (chL (n - k) i) * (lN (n - k + (i + 1)))) dX7_choose_26 rfl ?_
    refine x_iload C (pc := 27) 3 dX7_choose_27 rfl ?_
    refine x_i2l C (pc := 29) (v := lN (i + 1)) dX7_choose_29 (nI_l (by omega)) ?_
    refine x_ldiv C (pc := 30) (v := chL (n - k) (i + 1)) dX7_choose_30 (lN_ne0 (by omega) (by omega)) rfl ?_
    refine x_lstore_n C (pc := 31) [(2, .long (chL (n - k) (i + 1))), (0, .int (nI n)), (1, .int (nI k)), (4, .int (nI (i + 1)))] dX7_choose_31 (by decide) rfl ?_
    refine x_iinc C (pc := 32) 3 [(4, .int (nI (i + 1 + 1))), (2, .long (chL (n - k) (i + 1))), (0, .int (nI n)), (1, .int (nI k))] dX7_choose_32 rfl (nI_inc (i + 1)) (by decide) rfl ?_
    refine x_goto C (pc := 35) (tgt := 12) dX7_choose_35 (by decide) ?_
    exact x_sub [2, 3, 1, 0] _ rfl (ih_12 (i + 1) (by omega) (by omega))
  refine x_lconst C (pc := 5) (v := 0) dX7_choose_5 (by decide) ?_
  exact x_lret C hR0 (Nat.le_of_ble_eq_true rfl) (Nat.le_of_ble_eq_true rfl) ⟨(by simp [chF, c_2]), rfl, rfl⟩ dX7_choose_6
theorem kc_X6_riskThatAllAreMissed_248 : Cond.constantLong RX6 248 (10000) ∈ wsX6_riskThatAllAreMissed := by decide +kernel
set_option maxHeartbeats 4000000 in
set_option maxRecDepth 100000 in
theorem c_X6_riskThatAllAreMissed (l : Launch) (D : va_G) (z : Nat) (cI cZ cP cR : ClassId) (N : Nat) (F : Nat → va_E) (p c0 nd : Nat) (hp : p ≤ 20) (hc : c0 ≤ p) (hd : nd ≤ p) : gMi l yX6_riskThatAllAreMissed wsX6_riskThatAllAreMissed ({ frames := 1, cells := 0, slots := 0, locals := 24 }) D z cI cZ cP cR N F [.int (nI p), .int (nI c0), .int (nI nd)] (gRes (rkF p c0 nd) N (fun F2 => F2 = F)) 0 0 := by
  refine gMi.of (cc := cX6_riskThatAllAreMissed) (maxL := 7) (ret := (some .int)) (by decide) rfl (Nat.le_of_ble_eq_true rfl) [(0, .int (nI p)), (1, .int (nI c0)), (2, .int (nI nd))] rfl ?_
  intro pg ev sg mg bel me cg C hR0
  refine x_iload_n C (pc := 0) 0 dX6_riskThatAllAreMissed_0 rfl ?_
  refine x_iload_n C (pc := 1) 1 dX6_riskThatAllAreMissed_1 rfl ?_
  refine x_cSlR C (pc := 2) (st := []) (c_X6_choices l D z cI cZ cP cR N F p c0 (by omega) (by omega)) (va_cwS 2 C.2.2.2.2.1 gX6_riskThatAllAreMissed_X6_choices rfl rfl rfl hd_X6_choices.2 ⟨Nat.le_of_ble_eq_true rfl, Nat.le_of_ble_eq_true rfl⟩) rfl rfl (Nat.le_of_ble_eq_true rfl) dX6_riskThatAllAreMissed_2 ⟨Nat.le_of_ble_eq_true rfl, Nat.le_of_ble_eq_true rfl⟩ ?_
  refine x_lstore_n C (pc := 5) [(3, .long (chF p c0)), (0, .int (nI p)), (1, .int (nI c0)), (2, .int (nI nd))] dX6_riskThatAllAreMissed_5 (by decide) rfl ?_
  refine x_lload_n C (pc := 6) 0 dX6_riskThatAllAreMissed_6 rfl ?_
  refine x_lconst C (pc := 7) (v := 0) dX6_riskThatAllAreMissed_7 (by decide) ?_
  refine x_lcmp C (pc := 8) dX6_riskThatAllAreMissed_8 ?_
  refine x_if_gt C (pc := 9) (tgt := 16) dX6_riskThatAllAreMissed_9 (by decide) (fun c_9 => ?_) (fun c_9 => absurd c_9 (not_not_intro (by rw [lcmp_pos (chF_pos hp hc)]; decide)))
  refine x_ldc2 C (pc := 16) (v := 10000) kc_X6_riskThatAllAreMissed_248 dX6_riskThatAllAreMissed_16 ?_
  refine x_iload_n C (pc := 19) 1 dX6_riskThatAllAreMissed_19 rfl ?_
  refine x_iload_n C (pc := 20) 3 dX6_riskThatAllAreMissed_20 rfl ?_
  refine x_isub C (pc := 21) (v := nI (p - nd)) dX6_riskThatAllAreMissed_21 (pk_sub (by omega)) ?_
  refine x_iload_n C (pc := 22) 2 dX6_riskThatAllAreMissed_22 rfl ?_
  refine x_cSlR C (pc := 23) (st := [.long 10000]) (c_X6_choices l D z cI cZ cP cR N F (p - nd) c0 (by omega) (by omega)) (va_cwS 2 C.2.2.2.2.1 gX6_riskThatAllAreMissed_X6_choices rfl rfl rfl hd_X6_choices.2 ⟨Nat.le_of_ble_eq_true rfl, Nat.le_of_ble_eq_true rfl⟩) rfl rfl (Nat.le_of_ble_eq_true rfl) dX6_riskThatAllAreMissed_23 ⟨Nat.le_of_ble_eq_true rfl, Nat.le_of_ble_eq_true rfl⟩ ?_
  refine x_lmul C (pc := 26) (v := 10000 * (chF (p - nd) c0)) dX6_riskThatAllAreMissed_26 rfl ?_
  refine x_lstore C (pc := 27) [(5, .long (10000 * (chF (p - nd) c0))), (3, .long (chF p c0)), (0, .int (nI p)), (1, .int (nI c0)), (2, .int (nI nd))] dX6_riskThatAllAreMissed_27 (by decide) rfl ?_
  refine x_lload C (pc := 29) 0 dX6_riskThatAllAreMissed_29 rfl ?_
  refine x_lload_n C (pc := 31) 1 dX6_riskThatAllAreMissed_31 rfl ?_
  refine x_ladd C (pc := 32) (v := (10000 * (chF (p - nd) c0)) + (chF p c0)) dX6_riskThatAllAreMissed_32 rfl ?_
  refine x_lconst C (pc := 33) (v := 1) dX6_riskThatAllAreMissed_33 (by decide) ?_
  refine x_lsub C (pc := 34) (v := ((10000 * (chF (p - nd) c0)) + (chF p c0)) - 1) dX6_riskThatAllAreMissed_34 rfl ?_
  refine x_lload_n C (pc := 35) 1 dX6_riskThatAllAreMissed_35 rfl ?_
  refine x_ldiv C (pc := 36) (v := (((10000 * (chF (p - nd) c0)) + (chF p c0)) - 1) / (chF p c0)) dX6_riskThatAllAreMissed_36 (pos_ne (chF_pos hp hc)) rfl ?_
  refine x_l2i C (pc := 37) (v := ((((10000 * (chF (p - nd) c0)) + (chF p c0)) - 1) / (chF p c0) : Int64).toInt32) dX6_riskThatAllAreMissed_37 rfl ?_
  exact x_iret C hR0 rfl (Nat.le_of_ble_eq_true rfl) (Nat.le_of_ble_eq_true rfl) ⟨rfl, rfl, rfl⟩ dX6_riskThatAllAreMissed_38
theorem kc_X7_byNumbers_92 : Cond.constantLong RX7 92 (10000) ∈ wsX7_byNumbers := by decide +kernel
set_option maxHeartbeats 4000000 in
set_option maxRecDepth 100000 in
theorem c_X7_byNumbers (l : Launch) (D : va_G) (z : Nat) (cI cZ cP cR : ClassId) (N : Nat) (F : Nat → va_E) (p c0 nd : Nat) (hp : p ≤ 20) (hc : c0 ≤ p) (hd : nd ≤ p) : gMi l yX7_byNumbers wsX7_byNumbers ({ frames := 1, cells := 0, slots := 0, locals := 24 }) D z cI cZ cP cR N F [.int (nI p), .int (nI c0), .int (nI nd)] (gRes (rkF p c0 nd) N (fun F2 => F2 = F)) 0 0 := by
  refine gMi.of (cc := cX7_byNumbers) (maxL := 5) (ret := (some .int)) (by decide) rfl (Nat.le_of_ble_eq_true rfl) [(0, .int (nI p)), (1, .int (nI c0)), (2, .int (nI nd))] rfl ?_
  intro pg ev sg mg bel me cg C hR0
  refine x_iload_n C (pc := 0) 0 dX7_byNumbers_0 rfl ?_
  refine x_iload_n C (pc := 1) 1 dX7_byNumbers_1 rfl ?_
  refine x_cSlR C (pc := 2) (st := []) (c_X7_choose l D z cI cZ cP cR N F p c0 (by omega) (by omega)) (va_cwS 2 C.2.2.2.2.1 gX7_byNumbers_X7_choose rfl rfl rfl hd_X7_choose.2 ⟨Nat.le_of_ble_eq_true rfl, Nat.le_of_ble_eq_true rfl⟩) rfl rfl (Nat.le_of_ble_eq_true rfl) dX7_byNumbers_2 ⟨Nat.le_of_ble_eq_true rfl, Nat.le_of_ble_eq_true rfl⟩ ?_
  refine x_lstore_n C (pc := 5) [(3, .long (chF p c0)), (0, .int (nI p)), (1, .int (nI c0)), (2, .int (nI nd))] dX7_byNumbers_5 (by decide) rfl ?_
  refine x_ldc2 C (pc := 6) (v := 10000) kc_X7_byNumbers_92 dX7_byNumbers_6 ?_
  refine x_iload_n C (pc := 9) 1 dX7_byNumbers_9 rfl ?_
  refine x_iload_n C (pc := 10) 3 dX7_byNumbers_10 rfl ?_
  refine x_isub C (pc := 11) (v := nI (p - nd)) dX7_byNumbers_11 (pk_sub (by omega)) ?_
  refine x_iload_n C (pc := 12) 2 dX7_byNumbers_12 rfl ?_
  refine x_cSlR C (pc := 13) (st := [.long 10000]) (c_X7_choose l D z cI cZ cP cR N F (p - nd) c0 (by omega) (by omega)) (va_cwS 2 C.2.2.2.2.1 gX7_byNumbers_X7_choose rfl rfl rfl hd_X7_choose.2 ⟨Nat.le_of_ble_eq_true rfl, Nat.le_of_ble_eq_true rfl⟩) rfl rfl (Nat.le_of_ble_eq_true rfl) dX7_byNumbers_13 ⟨Nat.le_of_ble_eq_true rfl, Nat.le_of_ble_eq_true rfl⟩ ?_
  refine x_lmul C (pc := 16) (v := 10000 * (chF (p - nd) c0)) dX7_byNumbers_16 rfl ?_
  refine x_lload_n C (pc := 17) 0 dX7_byNumbers_17 rfl ?_
  refine x_ladd C (pc := 18) (v := (10000 * (chF (p - nd) c0)) + (chF p c0)) dX7_byNumbers_18 rfl ?_
  refine x_lconst C (pc := 19) (v := 1) dX7_byNumbers_19 (by decide) ?_
  refine x_lsub C (pc := 20) (v := ((10000 * (chF (p - nd) c0)) + (chF p c0)) - 1) dX7_byNumbers_20 rfl ?_
  refine x_lload_n C (pc := 21) 0 dX7_byNumbers_21 rfl ?_
  refine x_ldiv C (pc := 22) (v := (((10000 * (chF (p - nd) c0)) + (chF p c0)) - 1) / (chF p c0)) dX7_byNumbers_22 (pos_ne (chF_pos hp hc)) rfl ?_
  refine x_l2i C (pc := 23) (v := ((((10000 * (chF (p - nd) c0)) + (chF p c0)) - 1) / (chF p c0) : Int64).toInt32) dX7_byNumbers_23 rfl ?_
  exact x_iret C hR0 rfl (Nat.le_of_ble_eq_true rfl) (Nat.le_of_ble_eq_true rfl) ⟨rfl, rfl, rfl⟩ dX7_byNumbers_24
set_option maxHeartbeats 4000000 in
set_option maxRecDepth 100000 in
theorem c_J7_fill_53178 (l : Launch) (D : va_G) (z : Nat) (cI cZ cP cR : ClassId) (N : Nat) (F : Nat → va_E) (q n : Nat) (f : Nat → Int32) (v : Int32) (hq : q < N) (hF : eArr cI n f (F q)) (hn : n < 2 ^ 30) : gMv l yJ7_fill_53178 wsJ7_fill_53178 ({ frames := 0, cells := 0, slots := 0, locals := 0 }) D z cI cZ cP cR N F [.ref (z + q), .int v] (gVoid N (fun F2 => eArr cI n (fun _ => v) (F2 q) ∧ gFr q (q + 1) F F2)) 0 0 := by
  refine gMv.of (cc := cJ7_fill_53178) (maxL := 4) (ret := none) (by decide) rfl (Nat.le_of_ble_eq_true rfl) [(0, .ref (z + q)), (1, .int v)] rfl ?_
  intro pg ev sg mg bel me cg C hR0
  refine x_iconst C (pc := 0) (v := 0) dJ7_fill_53178_0 (by decide) ?_
  refine x_istore_n C (pc := 1) [(2, .int 0), (0, .ref (z + q)), (1, .int v)] dJ7_fill_53178_1 (by decide) rfl ?_
  refine x_aload_n C (pc := 2) 1 dJ7_fill_53178_2 rfl ?_
  refine x_alenE C (pc := 3) (q := q) (n := n) (f := f) (by omega) hF dJ7_fill_53178_3 ?_
  refine x_istore_n C (pc := 4) [(3, .int (nI n)), (2, .int 0), (0, .ref (z + q)), (1, .int v)] dJ7_fill_53178_4 (by decide) rfl ?_
  refine x_sub [2, 3, 1, 0] _ rfl ?_
  refine x_loop3 (A1 := Nat) (A2 := Nat → va_E) (A3 := Nat → Int32) (pc := 5) (st := []) (fun i G f2 => n - i) (fun i G f2 => (i ≤ n) ∧ (eArr cI n f2 (G q)) ∧ (∀ j, j < i → f2 j = v) ∧ (gFr q (q + 1) F G)) (fun i G f2 => N) (fun i G f2 => G) (fun i G f2 => 0) (fun i G f2 => 0) (fun i G f2 => [(0, .ref (z + q)), (1, .int v), (2, .int (nI i)), (3, .int (nI n))]) 0 F f ⟨(Nat.zero_le _), hF, (fun j h => absurd h (Nat.not_lt_zero j)), gFr.rf⟩ rfl rfl rfl rfl rfl ?_
  rintro i G f2 ⟨hi, hG, hf, hfr⟩ ih_5
  try dsimp only at ih_5
  refine x_iload_n C (pc := 5) 2 dJ7_fill_53178_5 rfl ?_
  refine x_iload_n C (pc := 6) 3 dJ7_fill_53178_6 rfl ?_
  refine x_icmpN_ge C (a := i) (b := n) (pc := 7) (tgt := 20) (by omega) (by omega) dJ7_fill_53178_7 (by decide) (fun c_7 => ?_) (fun c_7 => ?_)
  · exact x_vret C hR0 (Nat.le_of_ble_eq_true rfl) (Nat.le_of_ble_eq_true rfl) ⟨rfl, ⟨hG.ext (fun j h => hf j (by omega)), hfr⟩⟩ dJ7_fill_53178_20
  refine x_aload_n C (pc := 10) 0 dJ7_fill_53178_10 rfl ?_
  refine x_iload_n C (pc := 11) 2 dJ7_fill_53178_11 rfl ?_
  refine x_iload_n C (pc := 12) 1 dJ7_fill_53178_12 rfl ?_
  refine x_iastE C (pc := 13) (q := q) (j := i) (by omega) hG rfl (by omega) (by omega) dJ7_fill_53178_13 (fun F_13 hA_13 fr_13 => ?_)
  refine x_iinc C (pc := 14) 2 [(2, .int (nI (i + 1))), (0, .ref (z + q)), (1, .int v), (3, .int (nI n))] dJ7_fill_53178_14 rfl (nI_inc i) (by decide) rfl ?_
  refine x_goto C (pc := 17) (tgt := 5) dJ7_fill_53178_17 (by decide) ?_
  exact x_sub [1, 2, 0, 3] _ rfl (ih_5 (i + 1) F_13 (upd f2 i v) ⟨(by omega), hA_13, (fun j h => by
      by_cases hj : j = i
      · subst hj; exact pk_us
      · rw [pk_un hj]; exact hf j (by omega)), (gFr.tr hfr fr_13 (by omega) (by omega))⟩ (by omega))
def bc1 (x : Int32) : Int32 := x - ((x.toUInt32 >>> ((1 : Int32).toUInt32 &&& Int32.toUInt32 31)).toInt32 &&& 1431655765)
def bc2 (x : Int32) : Int32 := (x &&& 858993459) + ((x.toUInt32 >>> ((2 : Int32).toUInt32 &&& Int32.toUInt32 31)).toInt32 &&& 858993459)
def bc3 (x : Int32) : Int32 := (x + (x.toUInt32 >>> ((4 : Int32).toUInt32 &&& Int32.toUInt32 31)).toInt32) &&& 252645135
def bc4 (x : Int32) : Int32 := x + (x.toUInt32 >>> ((8 : Int32).toUInt32 &&& Int32.toUInt32 31)).toInt32
def bc5 (x : Int32) : Int32 := x + (x.toUInt32 >>> ((16 : Int32).toUInt32 &&& Int32.toUInt32 31)).toInt32
theorem bc_all : ∀ w, w < 1024 → bc5 (bc4 (bc3 (bc2 (bc1 (nI w))))) &&& 63 = nI (cntB w 10) := by decide +kernel
theorem kc_J6_bitCount_0f7a4_265 : Cond.constant RJ6 265 (1431655765) ∈ wsJ6_bitCount_0f7a4 := by decide +kernel
theorem kc_J6_bitCount_0f7a4_266 : Cond.constant RJ6 266 (858993459) ∈ wsJ6_bitCount_0f7a4 := by decide +kernel
theorem kc_J6_bitCount_0f7a4_267 : Cond.constant RJ6 267 (252645135) ∈ wsJ6_bitCount_0f7a4 := by decide +kernel
set_option maxHeartbeats 4000000 in
set_option maxRecDepth 100000 in
theorem c_J6_bitCount_0f7a4 (l : Launch) (D : va_G) (z : Nat) (cI cZ cP cR : ClassId) (N : Nat) (F : Nat → va_E) (w : Nat) (hw : w < 1024) : gMi l yJ6_bitCount_0f7a4 wsJ6_bitCount_0f7a4 ({ frames := 0, cells := 0, slots := 0, locals := 0 }) D z cI cZ cP cR N F [.int (nI w)] (gRes (nI (cntB w 10)) N (fun F2 => F2 = F)) 0 0 := by
  refine gMi.of (cc := cJ6_bitCount_0f7a4) (maxL := 1) (ret := (some .int)) (by decide) rfl (Nat.le_of_ble_eq_true rfl) [(0, .int (nI w))] rfl ?_
  intro pg ev sg mg bel me cg C hR0
  refine x_iload_n C (pc := 0) 0 dJ6_bitCount_0f7a4_0 rfl ?_
  refine x_iload_n C (pc := 1) 0 dJ6_bitCount_0f7a4_1 rfl ?_
  refine x_iconst C (pc := 2) (v := 1) dJ6_bitCount_0f7a4_2 (by decide) ?_
  refine x_iushr C (pc := 3) (v := ((nI w : Int32).toUInt32 >>> ((1 : Int32).toUInt32 &&& Int32.toUInt32 31)).toInt32) dJ6_bitCount_0f7a4_3 rfl ?_
  refine x_ldc_w C (pc := 4) (v := 1431655765) kc_J6_bitCount_0f7a4_265 dJ6_bitCount_0f7a4_4 ?_
  refine x_iand C (pc := 7) (v := (((nI w : Int32).toUInt32 >>> ((1 : Int32).toUInt32 &&& Int32.toUInt32 31)).toInt32) &&& 1431655765) dJ6_bitCount_0f7a4_7 rfl ?_
  refine x_isub C (pc := 8) (v := bc1 (nI w)) dJ6_bitCount_0f7a4_8 rfl ?_
  refine x_istore_n C (pc := 9) [(0, .int (bc1 (nI w)))] dJ6_bitCount_0f7a4_9 (by decide) rfl ?_
  refine x_iload_n C (pc := 10) 0 dJ6_bitCount_0f7a4_10 rfl ?_
  refine x_ldc_w C (pc := 11) (v := 858993459) kc_J6_bitCount_0f7a4_266 dJ6_bitCount_0f7a4_11 ?_
  refine x_iand C (pc := 14) (v := (bc1 (nI w)) &&& 858993459) dJ6_bitCount_0f7a4_14 rfl ?_
  refine x_iload_n C (pc := 15) 0 dJ6_bitCount_0f7a4_15 rfl ?_
  refine x_iconst C (pc := 16) (v := 2) dJ6_bitCount_0f7a4_16 (by decide) ?_
  refine x_iushr C (pc := 17) (v := ((bc1 (nI w) : Int32).toUInt32 >>> ((2 : Int32).toUInt32 &&& Int32.toUInt32 31)).toInt32) dJ6_bitCount_0f7a4_17 rfl ?_
  refine x_ldc_w C (pc := 18) (v := 858993459) kc_J6_bitCount_0f7a4_266 dJ6_bitCount_0f7a4_18 ?_
  refine x_iand C (pc := 21) (v := (((bc1 (nI w) : Int32).toUInt32 >>> ((2 : Int32).toUInt32 &&& Int32.toUInt32 31)).toInt32) &&& 858993459) dJ6_bitCount_0f7a4_21 rfl ?_
  refine x_iadd C (pc := 22) (v := bc2 (bc1 (nI w))) dJ6_bitCount_0f7a4_22 rfl ?_
  refine x_istore_n C (pc := 23) [(0, .int (bc2 (bc1 (nI w))))] dJ6_bitCount_0f7a4_23 (by decide) rfl ?_
  refine x_iload_n C (pc := 24) 0 dJ6_bitCount_0f7a4_24 rfl ?_
  refine x_iload_n C (pc := 25) 0 dJ6_bitCount_0f7a4_25 rfl ?_
  refine x_iconst C (pc := 26) (v := 4) dJ6_bitCount_0f7a4_26 (by decide) ?_
  refine x_iushr C (pc := 27) (v := ((bc2 (bc1 (nI w)) : Int32).toUInt32 >>> ((4 : Int32).toUInt32 &&& Int32.toUInt32 31)).toInt32) dJ6_bitCount_0f7a4_27 rfl ?_
  refine x_iadd C (pc := 28) (v := (bc2 (bc1 (nI w))) + (((bc2 (bc1 (nI w)) : Int32).toUInt32 >>> ((4 : Int32).toUInt32 &&& Int32.toUInt32 31)).toInt32)) dJ6_bitCount_0f7a4_28 rfl ?_
  refine x_ldc_w C (pc := 29) (v := 252645135) kc_J6_bitCount_0f7a4_267 dJ6_bitCount_0f7a4_29 ?_
  refine x_iand C (pc := 32) (v := bc3 (bc2 (bc1 (nI w)))) dJ6_bitCount_0f7a4_32 rfl ?_
  refine x_istore_n C (pc := 33) [(0, .int (bc3 (bc2 (bc1 (nI w)))))] dJ6_bitCount_0f7a4_33 (by decide) rfl ?_
  refine x_iload_n C (pc := 34) 0 dJ6_bitCount_0f7a4_34 rfl ?_
  refine x_iload_n C (pc := 35) 0 dJ6_bitCount_0f7a4_35 rfl ?_
  refine x_bipush C (pc := 36) (v := 8) dJ6_bitCount_0f7a4_36 (by decide) ?_
  refine x_iushr C (pc := 38) (v := ((bc3 (bc2 (bc1 (nI w))) : Int32).toUInt32 >>> ((8 : Int32).toUInt32 &&& Int32.toUInt32 31)).toInt32) dJ6_bitCount_0f7a4_38 rfl ?_
  refine x_iadd C (pc := 39) (v := bc4 (bc3 (bc2 (bc1 (nI w))))) dJ6_bitCount_0f7a4_39 rfl ?_
  refine x_istore_n C (pc := 40) [(0, .int (bc4 (bc3 (bc2 (bc1 (nI w))))))] dJ6_bitCount_0f7a4_40 (by decide) rfl ?_
  refine x_iload_n C (pc := 41) 0 dJ6_bitCount_0f7a4_41 rfl ?_
  refine x_iload_n C (pc := 42) 0 dJ6_bitCount_0f7a4_42 rfl ?_
  refine x_bipush C (pc := 43) (v := 16) dJ6_bitCount_0f7a4_43 (by decide) ?_
  refine x_iushr C (pc := 45) (v := ((bc4 (bc3 (bc2 (bc1 (nI w)))) : Int32).toUInt32 >>> ((16 : Int32).toUInt32 &&& Int32.toUInt32 31)).toInt32) dJ6_bitCount_0f7a4_45 rfl ?_
  refine x_iadd C (pc := 46) (v := bc5 (bc4 (bc3 (bc2 (bc1 (nI w)))))) dJ6_bitCount_0f7a4_46 rfl ?_
  refine x_istore_n C (pc := 47) [(0, .int (bc5 (bc4 (bc3 (bc2 (bc1 (nI w)))))))] dJ6_bitCount_0f7a4_47 (by decide) rfl ?_
  refine x_iload_n C (pc := 48) 0 dJ6_bitCount_0f7a4_48 rfl ?_
  refine x_bipush C (pc := 49) (v := 63) dJ6_bitCount_0f7a4_49 (by decide) ?_
  refine x_iand C (pc := 51) (v := (bc5 (bc4 (bc3 (bc2 (bc1 (nI w)))))) &&& 63) dJ6_bitCount_0f7a4_51 rfl ?_
  exact x_iret C hR0 rfl (Nat.le_of_ble_eq_true rfl) (Nat.le_of_ble_eq_true rfl) ⟨(bc_all w hw), rfl, rfl⟩ dJ6_bitCount_0f7a4_52
