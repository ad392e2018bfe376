theorem pos_ne32 {x : Int32} (h : 0 < x) : ¬ x = 0 := fun q => by
  subst q
  exact absurd h (by decide)
theorem cntB_hi {w n : Nat} (h : w < 2 ^ n) : ∀ m, n ≤ m → cntB w m = cntB w n := by
  intro m
  induction m with
  | zero => intro hm; rw [show n = 0 by omega]
  | succ m ih =>
    intro hm
    by_cases e : n = m + 1
    · rw [e]
    · have h1 : w.testBit m = false := Nat.testBit_lt_two_pow (Nat.lt_of_lt_of_le h (Nat.pow_le_pow_right (by decide) (by omega)))
      show cntB w m + _ = _
      rw [h1, ih (by omega)]
      rfl
theorem cntB_dis {a b : Nat} (h : a &&& b = 0) : ∀ n, cntB a n + cntB b n ≤ n := by
  intro n
  induction n with
  | zero => exact Nat.le_refl 0
  | succ n ih =>
    show cntB a n + (if a.testBit n = true then 1 else 0) + (cntB b n + (if b.testBit n = true then 1 else 0)) ≤ n + 1
    have h2 : (a &&& b).testBit n = false := by rw [h, Nat.zero_testBit]
    rw [Nat.testBit_and] at h2
    by_cases ha : a.testBit n = true
    · have hb : b.testBit n = false := by rw [ha] at h2; simpa using h2
      rw [if_pos ha, hb]
      simp
      omega
    · rw [if_neg ha]
      split <;> omega
def goW (reached set : Nat) (wy : Nat → Int32) : Nat → (Nat → Int32)
  | 0 => wy
  | i + 1 => if reached.testBit i = true then goW reached set wy i else upd (goW reached set wy i) (set ||| 2 ^ i) (goW reached set wy i (set ||| 2 ^ i) + goW reached set wy i set)
def folG (stop : Nat → Bool) (n kk cw : Nat) : Nat → (Nat → Int32) × (Nat → Int32)
  | 0 => (upd (fun _ => 0) 0 1, fun _ => 0)
  | s + 1 => if 0 < (folG stop n kk cw s).1 s then (if stop (cw ||| s) = true then ((folG stop n kk cw s).1, upd (folG stop n kk cw s).2 (cntB s 10) ((folG stop n kk cw s).2 (cntB s 10) + (folG stop n kk cw s).1 s * facF (n - kk - cntB s 10 - 1))) else (goW (cw ||| s) s (folG stop n kk cw s).1 n, (folG stop n kk cw s).2)) else folG stop n kk cw s
theorem goW_dis {cw set : Nat} {wy : Nat → Int32} (hs : set &&& cw = 0) (h : ∀ s, ¬ wy s = 0 → s &&& cw = 0) : ∀ i s, ¬ goW (cw ||| set) set wy i s = 0 → s &&& cw = 0 := by
  intro i
  induction i with
  | zero => exact h
  | succ i ih =>
    intro s hq
    simp only [goW] at hq
    split at hq
    · exact ih s hq
    · rename_i hb
      by_cases e : s = set ||| 2 ^ i
      · subst e
        apply Nat.eq_of_testBit_eq
        intro j
        have h1 : (set &&& cw).testBit j = false := by rw [hs, Nat.zero_testBit]
        rw [Nat.testBit_and] at h1
        rw [Nat.testBit_and, Nat.testBit_or, Nat.testBit_two_pow, Nat.zero_testBit]
        by_cases e2 : i = j
        · subst e2
          rw [Nat.testBit_or] at hb
          have : cw.testBit i = false := by
            cases hc : cw.testBit i
            · rfl
            · rw [hc] at hb; simp at hb
          rw [this]; simp
        · simp only [e2, decide_false, Bool.or_false]
          exact h1
      · rw [pk_un e] at hq
        exact ih s hq
theorem folG_dis (stop : Nat → Bool) (n kk cw : Nat) : ∀ m s, ¬ (folG stop n kk cw m).1 s = 0 → s &&& cw = 0 := by
  intro m
  induction m with
  | zero =>
    intro s h
    by_cases e : s = 0
    · rw [e, Nat.zero_and]
    · exact absurd (show upd (fun _ => (0 : Int32)) 0 1 s = 0 from pk_un e) h
  | succ m ih =>
    intro s h
    simp only [folG] at h
    split at h
    · rename_i hp
      split at h
      · exact ih s h
      · exact goW_dis (ih m (pos_ne32 hp)) ih n s h
    · exact ih s h
theorem fl_X1_goOnBehind_15 : Cond.fieldLink RX1 15 "PileRecount$Odds" "stops" "[I" ∈ wsX1_goOnBehind := by decide +kernel
theorem fl_X1_goOnBehind_34 : Cond.fieldLink RX1 34 "PileRecount$Recount" "countedSet" "I" ∈ wsX1_goOnBehind := by decide +kernel
theorem fl_X1_goOnBehind_42 : Cond.fieldLink RX1 42 "PileRecount$Recount" "riskLimit" "I" ∈ wsX1_goOnBehind := by decide +kernel
theorem fl_X1_goOnBehind_51 : Cond.fieldLink RX1 51 "PileRecount$Recount" "piles" "I" ∈ wsX1_goOnBehind := by decide +kernel
theorem fl_X1_goOnBehind_54 : Cond.fieldLink RX1 54 "PileRecount$Recount" "countedPiles" "I" ∈ wsX1_goOnBehind := by decide +kernel
theorem fl_X1_goOnBehind_9 : Cond.fieldLink RX1 9 "PileRecount$Odds" "ways" "[I" ∈ wsX1_goOnBehind := by decide +kernel
theorem hn_X1_goOnBehind_X1 : ∀ w ∈ wsX10, w ∈ wsX1_goOnBehind := fun _ h => List.mem_cons_of_mem _ (List.mem_append_left _ (List.mem_append_right _ h))
theorem hn_X1_goOnBehind_X5 : ∀ w ∈ wsX50, w ∈ wsX1_goOnBehind := fun _ h => List.mem_cons_of_mem _ (List.mem_append_left _ (List.mem_append_left _ (List.mem_append_right _ h)))
theorem ni_X1_goOnBehind_RX6 : Cond.initialized RX6 ∈ wsX1_goOnBehind := by decide +kernel
theorem ns_X1_goOnBehind_X6_factorial : Cond.static yX6_factorial ∈ wsX1_goOnBehind := by decide +kernel
theorem ns_X1_goOnBehind_X6_has : Cond.static yX6_has ∈ wsX1_goOnBehind := by decide +kernel
set_option maxHeartbeats 4000000 in
set_option maxRecDepth 100000 in
theorem c_X1_goOnBehind (l : Launch) (D : va_G) (z : Nat) (cI cZ cP cR : ClassId) (N : Nat) (F : Nat → va_E) (k n cw kk s0 k2 : Nat) (wy so : Nat → Int32) (wi rl ch sp : Int32) (pd : Nat → Nat → Int32) (bs od : Nat → Int32) (hO : isOdd z cI F k wy so) (hk : k + 3 ≤ N) (hR : isRec z cI cP F k2 (nI n) wi (nI kk) (nI cw) rl ch sp pd bs od) (hk2 : k2 + 14 ≤ N) (hdis : k2 + 14 ≤ k ∨ k + 3 ≤ k2) (hn : n ≤ 10) (hcw : cw < 2 ^ n) (hkk : kk ≤ n) (pi : Nat → Nat) (hpi : piOK bs pi n) (hs0 : s0 < 2 ^ n) (hsc : cntB s0 10 ≤ n - kk) : gMv l yX1_goOnBehind wsX1_goOnBehind ({ frames := 4, cells := 0, slots := 0, locals := 92 }) D z cI cZ cP cR N F [.ref (z + k), .int (nI s0), .ref (z + k2)] (gVoid N (fun F2 => isOdd z cI F2 k (if (fun w => decide (rbF wi pd pi n w w ≤ rl)) (cw ||| s0) = true then wy else goW (cw ||| s0) s0 wy n) (if (fun w => decide (rbF wi pd pi n w w ≤ rl)) (cw ||| s0) = true then upd so (cntB s0 10) (so (cntB s0 10) + wy s0 * facF (n - kk - cntB s0 10 - 1)) else so) ∧ gFr k (k + 3) F F2)) 0 0 := by
  refine gMv.of (cc := cX1_goOnBehind) (maxL := 6) (ret := none) (by decide) rfl (Nat.le_of_ble_eq_true rfl) [(0, .ref (z + k)), (1, .int (nI s0)), (2, .ref (z + k2))] rfl ?_
  intro pg ev sg mg bel me cg C hR0
  have h2n := two_lt hn
  have hor : cw ||| s0 < 2 ^ n := por_lt n hcw hs0
  have hsc10 := cntB_le s0 10
  refine x_aload_n C (pc := 0) 2 dX1_goOnBehind_0 rfl ?_
  refine x_get C (pc := 1) (q := k2) (v := .int (nI cw)) (ci := 5) rfl hn_X1_goOnBehind_X5 6 (by decide) fl_X1_goOnBehind_34 rfl (by omega) hR.ob rfl dX1_goOnBehind_1 ?_
  refine x_iload_n C (pc := 4) 1 dX1_goOnBehind_4 rfl ?_
  refine x_ior C (pc := 5) (v := nI (cw ||| s0)) dX1_goOnBehind_5 (pkor (by omega) (by omega)) ?_
  refine x_istore_n C (pc := 6) [(3, .int (nI (cw ||| s0))), (0, .ref (z + k)), (1, .int (nI s0)), (2, .ref (z + k2))] dX1_goOnBehind_6 (by decide) rfl ?_
  refine x_aload_n C (pc := 7) 3 dX1_goOnBehind_7 rfl ?_
  refine x_iload_n C (pc := 8) 0 dX1_goOnBehind_8 rfl ?_
  refine x_iload_n C (pc := 9) 0 dX1_goOnBehind_9 rfl ?_
  refine x_cViR C (pc := 10) (st := []) (c_X5_riskBehind l D z cI cZ cP cR N F k2 n wi (nI kk) (nI cw) rl ch sp pd bs od (cw ||| s0) (cw ||| s0) hR (by omega) (by omega) (by omega) (by omega) pi hpi) (cwV 2 C.2.2.2.2.1 gX1_goOnBehind_X5_riskBehind rfl rfl rfl hd_X5_riskBehind ⟨Nat.le_of_ble_eq_true rfl, Nat.le_of_ble_eq_true rfl⟩) (by omega) hR.ob rfl rfl rfl (Nat.le_of_ble_eq_true rfl) dX1_goOnBehind_10 ⟨Nat.le_of_ble_eq_true rfl, Nat.le_of_ble_eq_true rfl⟩ ?_
  refine x_aload_n C (pc := 13) 3 dX1_goOnBehind_13 rfl ?_
  refine x_get C (pc := 14) (q := k2) (v := .int rl) (ci := 5) rfl hn_X1_goOnBehind_X5 7 (by decide) fl_X1_goOnBehind_42 rfl (by omega) hR.ob rfl dX1_goOnBehind_14 ?_
  refine x_icmp_gt C (pc := 17) (tgt := 63) dX1_goOnBehind_17 (by decide) (fun c_17 => ?_) (fun c_17 => ?_)
  · have hst : (decide (rbF wi pd pi n (cw ||| s0) (cw ||| s0) ≤ rl)) = false := decide_eq_false (Int32.not_le.mpr c_17)
    refine x_iconst C (pc := 63) (v := 0) dX1_goOnBehind_63 (by decide) ?_
    refine x_istore C (pc := 64) [(4, .int 0), (3, .int (nI (cw ||| s0))), (0, .ref (z + k)), (1, .int (nI s0)), (2, .ref (z + k2))] dX1_goOnBehind_64 (by decide) rfl ?_
    refine x_sub [2, 3, 4, 1, 0] _ rfl ?_
    refine x_loop3 (A1 := Nat) (A2 := Nat → Int32) (A3 := Nat → va_E) (pc := 66) (st := []) (fun i w G => n - i) (fun i w G => (i ≤ n) ∧ (isOdd z cI G k w so) ∧ (w = goW (cw ||| s0) s0 wy i) ∧ (gFr k (k + 3) F G)) (fun i w G => N) (fun i w G => G) (fun i w G => 0) (fun i w G => 0) (fun i w G => [(0, .ref (z + k)), (1, .int (nI s0)), (2, .ref (z + k2)), (3, .int (nI (cw ||| s0))), (4, .int (nI i))]) 0 wy F ⟨(Nat.zero_le _), hO, rfl, gFr.rf⟩ rfl rfl rfl rfl rfl ?_
    rintro i w G ⟨hi, hG, hw, hfr⟩ ih_66
    try dsimp only at ih_66
    have hQ := hR.same (F2 := G) (fun q _ _ => hfr q (by omega))
    refine x_iload C (pc := 66) 4 dX1_goOnBehind_66 rfl ?_
    refine x_aload_n C (pc := 68) 2 dX1_goOnBehind_68 rfl ?_
    refine x_get C (pc := 69) (q := k2) (v := .int (nI n)) (ci := 5) rfl hn_X1_goOnBehind_X5 1 (by decide) fl_X1_goOnBehind_51 rfl (by omega) hQ.ob rfl dX1_goOnBehind_69 ?_
    refine x_icmpN_ge C (a := i) (b := n) (pc := 72) (tgt := 110) (by omega) (by omega) dX1_goOnBehind_72 (by decide) (fun c_72 => ?_) (fun c_72 => ?_)
    · rw [hw, show i = n by omega] at hG
      exact x_vret C hR0 (Nat.le_of_ble_eq_true rfl) (Nat.le_of_ble_eq_true rfl) ⟨rfl, (by simp only [hst]; exact ⟨hG, hfr⟩)⟩ dX1_goOnBehind_110
    refine x_iload_n C (pc := 75) 3 dX1_goOnBehind_75 rfl ?_
    refine x_iload C (pc := 76) 4 dX1_goOnBehind_76 rfl ?_
    refine x_cSNiR C (pc := 78) (st := []) (c_X6_has l D z cI cZ cP cR N G (cw ||| s0) i (by omega) (by omega)) ⟨va_cnB 2 C.2.2.2.2.1 gX1_goOnBehind_X6_has_n60 rfl rfl rfl (C.2.2.2.2.2.1.2.1 _ (List.mem_of_getElem? (i := 4) rfl)) (C.2.2.2.2.1 _ ni_X1_goOnBehind_RX6) hd_X6_has.2 ⟨Nat.le_of_ble_eq_true rfl, Nat.le_of_ble_eq_true rfl⟩, C.2.2.2.2.1 _ ns_X1_goOnBehind_X6_has, trivial⟩ rfl rfl (Nat.le_of_ble_eq_true rfl) dX1_goOnBehind_78 ⟨Nat.le_of_ble_eq_true rfl, Nat.le_of_ble_eq_true rfl⟩ ?_
    refine x_bz_ne C (pc := 81) (tgt := 104) dX1_goOnBehind_81 (by decide) (fun c_81 => ?_) (fun c_81 => ?_)
    · refine x_iinc C (pc := 104) 4 [(4, .int (nI (i + 1))), (0, .ref (z + k)), (1, .int (nI s0)), (2, .ref (z + k2)), (3, .int (nI (cw ||| s0)))] dX1_goOnBehind_104 rfl (nI_inc i) (by decide) rfl ?_
      refine x_goto C (pc := 107) (tgt := 66) dX1_goOnBehind_107 (by decide) ?_
      exact x_sub [1, 2, 3, 4, 0] _ rfl (ih_66 (i + 1) w G ⟨(by omega), hG, (by rw [hw, goW]; first | rw [if_pos c_81] | rw [if_neg (by rw [c_81]; decide)]), hfr⟩ (by omega))
    refine x_aload_n C (pc := 84) 0 dX1_goOnBehind_84 rfl ?_
    refine x_get C (pc := 85) (q := k) (v := .ref (z + (k + 1))) (ci := 1) rfl hn_X1_goOnBehind_X1 0 (by decide) fl_X1_goOnBehind_9 rfl (by omega) hG.ob rfl dX1_goOnBehind_85 ?_
    refine x_iload_n C (pc := 88) 1 dX1_goOnBehind_88 rfl ?_
    refine x_iconst C (pc := 89) (v := 1) dX1_goOnBehind_89 (by decide) ?_
    refine x_iload C (pc := 90) 4 dX1_goOnBehind_90 rfl ?_
    refine x_ishl C (pc := 92) (v := nI (2 ^ i)) dX1_goOnBehind_92 (pkshl (by omega)) ?_
    have h2i : 2 ^ i < 2 ^ n := Nat.pow_lt_pow_right (by decide) (by omega)
    have hsi : s0 ||| 2 ^ i < 2 ^ n := por_lt n hs0 h2i
    refine x_ior C (pc := 93) (v := nI (s0 ||| 2 ^ i)) dX1_goOnBehind_93 (pkor (by omega) (by omega)) ?_
    refine x_dup2 C (pc := 94) dX1_goOnBehind_94 rfl rfl ?_
    refine x_ialdE C (pc := 95) (q := k + 1) (j := s0 ||| 2 ^ i) (f := w) (by omega) hG.wy rfl (by omega) (by decide) dX1_goOnBehind_95 ?_
    refine x_aload_n C (pc := 96) 0 dX1_goOnBehind_96 rfl ?_
    refine x_get C (pc := 97) (q := k) (v := .ref (z + (k + 1))) (ci := 1) rfl hn_X1_goOnBehind_X1 0 (by decide) fl_X1_goOnBehind_9 rfl (by omega) hG.ob rfl dX1_goOnBehind_97 ?_
    refine x_iload_n C (pc := 100) 1 dX1_goOnBehind_100 rfl ?_
    refine x_ialdE C (pc := 101) (q := k + 1) (j := s0) (f := w) (by omega) hG.wy rfl (by omega) (by decide) dX1_goOnBehind_101 ?_
    refine x_iadd C (pc := 102) (v := (w (s0 ||| 2 ^ i)) + (w s0)) dX1_goOnBehind_102 rfl ?_
    refine xw_isOdd_wy C (pc := 103) (j := s0 ||| 2 ^ i) hG (by omega) rfl (by omega) dX1_goOnBehind_103 (fun F_103 hG_103 fr_103 => ?_)
    have hQ_103 := hQ.same (F2 := F_103) (fun q _ _ => fr_103 q (by omega))
    refine x_iinc C (pc := 104) 4 [(4, .int (nI (i + 1))), (0, .ref (z + k)), (1, .int (nI s0)), (2, .ref (z + k2)), (3, .int (nI (cw ||| s0)))] dX1_goOnBehind_104 rfl (nI_inc i) (by decide) rfl ?_
    refine x_goto C (pc := 107) (tgt := 66) dX1_goOnBehind_107 (by decide) ?_
    exact x_sub [1, 2, 3, 4, 0] _ rfl (ih_66 (i + 1) (upd w (s0 ||| 2 ^ i) ((w (s0 ||| 2 ^ i)) + (w s0))) F_103 ⟨(by omega), hG_103, (by rw [hw, goW]; first | rw [if_pos c_81] | rw [if_neg (by rw [c_81]; decide)]), (gFr.t2 hfr fr_103)⟩ (by omega))
  have hst : (decide (rbF wi pd pi n (cw ||| s0) (cw ||| s0) ≤ rl)) = true := decide_eq_true (Int32.not_lt.mp c_17)
  refine x_iload_n C (pc := 20) 2 dX1_goOnBehind_20 rfl ?_
  refine x_cSiR C (pc := 21) (st := []) (c_J6_bitCount_0f7a4 l D z cI cZ cP cR N F s0 (by omega)) (va_cwS 1 C.2.2.2.2.1 gX1_goOnBehind_J6_bitCount_0f7a4 rfl rfl rfl hd_J6_bitCount_0f7a4.2 ⟨Nat.le_of_ble_eq_true rfl, Nat.le_of_ble_eq_true rfl⟩) rfl rfl (Nat.le_of_ble_eq_true rfl) dX1_goOnBehind_21 ⟨Nat.le_of_ble_eq_true rfl, Nat.le_of_ble_eq_true rfl⟩ ?_
  refine x_istore C (pc := 24) [(4, .int (nI (cntB s0 10))), (3, .int (nI (cw ||| s0))), (0, .ref (z + k)), (1, .int (nI s0)), (2, .ref (z + k2))] dX1_goOnBehind_24 (by decide) rfl ?_
  refine x_aload_n C (pc := 26) 4 dX1_goOnBehind_26 rfl ?_
  refine x_get C (pc := 27) (q := k2) (v := .int (nI n)) (ci := 5) rfl hn_X1_goOnBehind_X5 1 (by decide) fl_X1_goOnBehind_51 rfl (by omega) hR.ob rfl dX1_goOnBehind_27 ?_
  refine x_aload_n C (pc := 30) 4 dX1_goOnBehind_30 rfl ?_
  refine x_get C (pc := 31) (q := k2) (v := .int (nI kk)) (ci := 5) rfl hn_X1_goOnBehind_X5 5 (by decide) fl_X1_goOnBehind_54 rfl (by omega) hR.ob rfl dX1_goOnBehind_31 ?_
  refine x_isub C (pc := 34) (v := nI (n - kk)) dX1_goOnBehind_34 (pk_sub (a := n) (b := kk) (by omega)) ?_
  refine x_iload C (pc := 35) 0 dX1_goOnBehind_35 rfl ?_
  refine x_isub C (pc := 37) (v := nI (n - kk - (cntB s0 10))) dX1_goOnBehind_37 (pk_sub (a := n - kk) (b := cntB s0 10) (by omega)) ?_
  refine x_istore C (pc := 38) [(5, .int (nI (n - kk - (cntB s0 10)))), (4, .int (nI (cntB s0 10))), (3, .int (nI (cw ||| s0))), (0, .ref (z + k)), (1, .int (nI s0)), (2, .ref (z + k2))] dX1_goOnBehind_38 (by decide) rfl ?_
  refine x_aload_n C (pc := 40) 3 dX1_goOnBehind_40 rfl ?_
  refine x_get C (pc := 41) (q := k) (v := .ref (z + (k + 2))) (ci := 1) rfl hn_X1_goOnBehind_X1 1 (by decide) fl_X1_goOnBehind_15 rfl (by omega) hO.ob rfl dX1_goOnBehind_41 ?_
  refine x_iload C (pc := 44) 1 dX1_goOnBehind_44 rfl ?_
  refine x_dup2 C (pc := 46) dX1_goOnBehind_46 rfl rfl ?_
  refine x_ialdE C (pc := 47) (q := k + 2) (j := cntB s0 10) (f := so) (by omega) hO.so rfl (by omega) (by decide) dX1_goOnBehind_47 ?_
  refine x_aload_n C (pc := 48) 3 dX1_goOnBehind_48 rfl ?_
  refine x_get C (pc := 49) (q := k) (v := .ref (z + (k + 1))) (ci := 1) rfl hn_X1_goOnBehind_X1 0 (by decide) fl_X1_goOnBehind_9 rfl (by omega) hO.ob rfl dX1_goOnBehind_49 ?_
  refine x_iload_n C (pc := 52) 4 dX1_goOnBehind_52 rfl ?_
  refine x_ialdE C (pc := 53) (q := k + 1) (j := s0) (f := wy) (by omega) hO.wy rfl (by omega) (by decide) dX1_goOnBehind_53 ?_
  refine x_iload C (pc := 54) 0 dX1_goOnBehind_54 rfl ?_
  refine x_cSNiR C (pc := 56) (st := [.int (wy s0), .int (so (cntB s0 10)), .int (nI (cntB s0 10)), .ref (z + (k + 2))]) (c_X6_factorial l D z cI cZ cP cR N F (n - kk - (cntB s0 10)) (by omega)) ⟨va_cnB 1 C.2.2.2.2.1 gX1_goOnBehind_X6_factorial_n57 rfl rfl rfl (C.2.2.2.2.2.1.2.1 _ (List.mem_of_getElem? (i := 3) rfl)) (C.2.2.2.2.1 _ ni_X1_goOnBehind_RX6) hd_X6_factorial.2 ⟨Nat.le_of_ble_eq_true rfl, Nat.le_of_ble_eq_true rfl⟩, C.2.2.2.2.1 _ ns_X1_goOnBehind_X6_factorial, trivial⟩ rfl rfl (Nat.le_of_ble_eq_true rfl) dX1_goOnBehind_56 ⟨Nat.le_of_ble_eq_true rfl, Nat.le_of_ble_eq_true rfl⟩ ?_
  refine x_imul C (pc := 59) (v := (wy s0) * (facF (n - kk - (cntB s0 10) - 1))) dX1_goOnBehind_59 rfl ?_
  refine x_iadd C (pc := 60) (v := (so (cntB s0 10)) + ((wy s0) * (facF (n - kk - (cntB s0 10) - 1)))) dX1_goOnBehind_60 rfl ?_
  refine xw_isOdd_so C (pc := 61) (j := cntB s0 10) hO (by omega) rfl (by omega) dX1_goOnBehind_61 (fun F_61 hO_61 fr_61 => ?_)
  have hR_61 := hR.same (F2 := F_61) (fun q _ _ => fr_61 q (by omega))
  exact x_vret C hR0 (Nat.le_of_ble_eq_true rfl) (Nat.le_of_ble_eq_true rfl) ⟨rfl, (by simp only [hst, if_true]; exact ⟨hO_61, fr_61⟩)⟩ dX1_goOnBehind_62
theorem fl_X1_follow_15 : Cond.fieldLink RX1 15 "PileRecount$Odds" "stops" "[I" ∈ wsX1_follow := by decide +kernel
theorem fl_X1_follow_9 : Cond.fieldLink RX1 9 "PileRecount$Odds" "ways" "[I" ∈ wsX1_follow := by decide +kernel
theorem hn_X1_follow_X1 : ∀ w ∈ wsX10, w ∈ wsX1_follow := fun _ h => List.mem_cons_of_mem _ (List.mem_append_left _ (List.mem_append_left _ (List.mem_append_right _ h)))
set_option maxHeartbeats 4000000 in
set_option maxRecDepth 100000 in
theorem c_X1_follow (l : Launch) (D : va_G) (z : Nat) (cI cZ cP cR : ClassId) (N : Nat) (F : Nat → va_E) (k n cw kk k2 : Nat) (wy so : Nat → Int32) (wi rl ch sp : Int32) (pd : Nat → Nat → Int32) (bs od : Nat → Int32) (hO : isOdd z cI F k wy so) (hk : k + 3 ≤ N) (hR : isRec z cI cP F k2 (nI n) wi (nI kk) (nI cw) rl ch sp pd bs od) (hk2 : k2 + 14 ≤ N) (hdis : k2 + 14 ≤ k ∨ k + 3 ≤ k2) (hn : n ≤ 10) (hcw : cw < 2 ^ n) (hkk : kk ≤ n) (pi : Nat → Nat) (hpi : piOK bs pi n) (hcnt : cntB cw n = kk) : gMv l yX1_follow wsX1_follow ({ frames := 5, cells := 0, slots := 0, locals := 117 }) D z cI cZ cP cR N F [.ref (z + k), .ref (z + k2)] (gVoid N (fun F2 => isOdd z cI F2 k (folG (fun w => decide (rbF wi pd pi n w w ≤ rl)) n kk cw (2 ^ n)).1 (folG (fun w => decide (rbF wi pd pi n w w ≤ rl)) n kk cw (2 ^ n)).2 ∧ gFr k (k + 3) F F2)) 0 0 := by
  refine gMv.of (cc := cX1_follow) (maxL := 3) (ret := none) (by decide) rfl (Nat.le_of_ble_eq_true rfl) [(0, .ref (z + k)), (1, .ref (z + k2))] rfl ?_
  intro pg ev sg mg bel me cg C hR0
  have h2n := two_lt hn
  refine x_aload_n C (pc := 0) 0 dX1_follow_0 rfl ?_
  refine x_get C (pc := 1) (q := k) (v := .ref (z + (k + 1))) (ci := 1) rfl hn_X1_follow_X1 0 (by decide) fl_X1_follow_9 rfl (by omega) hO.ob rfl dX1_follow_1 ?_
  refine x_iconst C (pc := 4) (v := 0) dX1_follow_4 (by decide) ?_
  refine x_cSvE C (pc := 5) (st := []) (c_J7_fill_53178 l D z cI cZ cP cR N F (k + 1) 1024 wy 0 (by omega) hO.wy (by decide)) (va_cwS 2 C.2.2.2.2.1 gX1_follow_J7_fill_53178 rfl rfl rfl hd_J7_fill_53178.2 ⟨Nat.le_of_ble_eq_true rfl, Nat.le_of_ble_eq_true rfl⟩) rfl rfl (Nat.le_of_ble_eq_true rfl) dX1_follow_5 ⟨Nat.le_of_ble_eq_true rfl, Nat.le_of_ble_eq_true rfl⟩ (fun F_5 h_5 => ?_)
  obtain ⟨hA_5, fr_5⟩ := h_5
  have hO_5 : isOdd z cI F_5 k (fun _ => 0) so := ⟨(fr_5 _ (by omega)).trans hO.ob, hA_5, ((fr_5 (k + 2) (by omega)).symm ▸ hO.so)⟩
  have gr_5 : gFr k (k + 3) F F_5 := fun q hq => fr_5 q (by omega)
  have hR_5 := hR.same (F2 := F_5) (fun q _ _ => gr_5 q (by omega))
  refine x_aload_n C (pc := 8) 0 dX1_follow_8 rfl ?_
  refine x_get C (pc := 9) (q := k) (v := .ref (z + (k + 2))) (ci := 1) rfl hn_X1_follow_X1 1 (by decide) fl_X1_follow_15 rfl (by omega) hO_5.ob rfl dX1_follow_9 ?_
  refine x_iconst C (pc := 12) (v := 0) dX1_follow_12 (by decide) ?_
  refine x_cSvE C (pc := 13) (st := []) (c_J7_fill_53178 l D z cI cZ cP cR N F_5 (k + 2) 11 so 0 (by omega) hO_5.so (by decide)) (va_cwS 2 C.2.2.2.2.1 gX1_follow_J7_fill_53178 rfl rfl rfl hd_J7_fill_53178.2 ⟨Nat.le_of_ble_eq_true rfl, Nat.le_of_ble_eq_true rfl⟩) rfl rfl (Nat.le_of_ble_eq_true rfl) dX1_follow_13 ⟨Nat.le_of_ble_eq_true rfl, Nat.le_of_ble_eq_true rfl⟩ (fun F_13 h_13 => ?_)
  obtain ⟨hA_13, fr_13⟩ := h_13
  have hO_13 : isOdd z cI F_13 k (fun _ => 0) (fun _ => 0) := ⟨(fr_13 _ (by omega)).trans hO_5.ob, ((fr_13 (k + 1) (by omega)).symm ▸ hO_5.wy), hA_13⟩
  have gr_13 : gFr k (k + 3) F_5 F_13 := fun q hq => fr_13 q (by omega)
  have hR_13 := hR_5.same (F2 := F_13) (fun q _ _ => gr_13 q (by omega))
  refine x_aload_n C (pc := 16) 0 dX1_follow_16 rfl ?_
  refine x_get C (pc := 17) (q := k) (v := .ref (z + (k + 1))) (ci := 1) rfl hn_X1_follow_X1 0 (by decide) fl_X1_follow_9 rfl (by omega) hO_13.ob rfl dX1_follow_17 ?_
  refine x_iconst C (pc := 20) (v := 0) dX1_follow_20 (by decide) ?_
  refine x_iconst C (pc := 21) (v := 1) dX1_follow_21 (by decide) ?_
  refine xw_isOdd_wy C (pc := 22) (j := 0) hO_13 (by omega) rfl (by omega) dX1_follow_22 (fun F_22 hO_22 fr_22 => ?_)
  have hR_22 := hR_13.same (F2 := F_22) (fun q _ _ => fr_22 q (by omega))
  refine x_iconst C (pc := 23) (v := 0) dX1_follow_23 (by decide) ?_
  refine x_istore_n C (pc := 24) [(2, .int 0), (0, .ref (z + k)), (1, .ref (z + k2))] dX1_follow_24 (by decide) rfl ?_
  refine x_sub [1, 2, 0] _ rfl ?_
  refine x_loop4 (A1 := Nat) (A2 := Nat → Int32) (A3 := Nat → Int32) (A4 := Nat → va_E) (pc := 25) (st := []) (fun s w o G => 2 ^ n - s) (fun s w o G => (s ≤ 2 ^ n) ∧ (isOdd z cI G k w o) ∧ ((w, o) = folG (fun w => decide (rbF wi pd pi n w w ≤ rl)) n kk cw s) ∧ (gFr k (k + 3) F G)) (fun s w o G => N) (fun s w o G => G) (fun s w o G => 0) (fun s w o G => 0) (fun s w o G => [(0, .ref (z + k)), (1, .ref (z + k2)), (2, .int (nI s))]) 0 (upd (fun _ => 0) 0 1) (fun _ => 0) F_22 ⟨(Nat.zero_le _), hO_22, rfl, (gFr.t2 (gFr.t2 gr_5 gr_13) fr_22)⟩ rfl rfl rfl rfl rfl ?_
  rintro s w o G ⟨hs, hG, hwo, hfr⟩ ih_25
  try dsimp only at ih_25
  have hQ := hR.same (F2 := G) (fun q _ _ => hfr q (by omega))
  have hw1 : (folG (fun w => decide (rbF wi pd pi n w w ≤ rl)) n kk cw s).1 = w := by rw [← hwo]
  have ho1 : (folG (fun w => decide (rbF wi pd pi n w w ≤ rl)) n kk cw s).2 = o := by rw [← hwo]
  refine x_iload_n C (pc := 25) 2 dX1_follow_25 rfl ?_
  refine x_aload_n C (pc := 26) 1 dX1_follow_26 rfl ?_
  refine x_cViR C (pc := 27) (st := [.int (nI s)]) (c_X5_allPiles l D z cI cZ cP cR N G k2 n wi (nI kk) (nI cw) rl ch sp pd bs od hQ (by omega) (by omega)) (cwV 0 C.2.2.2.2.1 gX1_follow_X5_allPiles rfl rfl rfl hd_X5_allPiles ⟨Nat.le_of_ble_eq_true rfl, Nat.le_of_ble_eq_true rfl⟩) (by omega) hQ.ob rfl rfl rfl (Nat.le_of_ble_eq_true rfl) dX1_follow_27 ⟨Nat.le_of_ble_eq_true rfl, Nat.le_of_ble_eq_true rfl⟩ ?_
  refine x_icmpN_gt C (a := s) (b := 2 ^ n - 1) (pc := 30) (tgt := 54) (by omega) (by omega) dX1_follow_30 (by decide) (fun c_30 => ?_) (fun c_30 => ?_)
  · exact x_vret C hR0 (Nat.le_of_ble_eq_true rfl) (Nat.le_of_ble_eq_true rfl) ⟨rfl, (by rw [← (show s = 2 ^ n by omega), hw1, ho1]; exact ⟨hG, hfr⟩)⟩ dX1_follow_54
  refine x_aload_n C (pc := 33) 0 dX1_follow_33 rfl ?_
  refine x_get C (pc := 34) (q := k) (v := .ref (z + (k + 1))) (ci := 1) rfl hn_X1_follow_X1 0 (by decide) fl_X1_follow_9 rfl (by omega) hG.ob rfl dX1_follow_34 ?_
  refine x_iload_n C (pc := 37) 2 dX1_follow_37 rfl ?_
  refine x_ialdE C (pc := 38) (q := k + 1) (j := s) (f := w) (by omega) hG.wy rfl (by omega) (by decide) dX1_follow_38 ?_
  refine x_if_le C (pc := 39) (tgt := 48) dX1_follow_39 (by decide) (fun c_39 => ?_) (fun c_39 => ?_)
  · have hst : (w, o) = folG (fun w => decide (rbF wi pd pi n w w ≤ rl)) n kk cw (s + 1) := by rw [folG, hw1, if_neg (Int32.not_lt.mpr c_39)]; exact hwo
    refine x_iinc C (pc := 48) 2 [(2, .int (nI (s + 1))), (0, .ref (z + k)), (1, .ref (z + k2))] dX1_follow_48 rfl (nI_inc s) (by decide) rfl ?_
    refine x_goto C (pc := 51) (tgt := 25) dX1_follow_51 (by decide) ?_
    exact x_sub [1, 2, 0] _ rfl (ih_25 (s + 1) w o G ⟨(by omega), hG, hst, hfr⟩ (by omega))
  have hpos : 0 < w s := Int32.not_le.mp c_39
  have hds : s &&& cw = 0 := folG_dis (fun w => decide (rbF wi pd pi n w w ≤ rl)) n kk cw s s (by rw [hw1]; exact pos_ne32 hpos)
  have hct := cntB_dis hds n
  rw [hcnt, ← cntB_hi (w := s) (n := n) (by omega) 10 hn] at hct
  have hst : ((if (fun w => decide (rbF wi pd pi n w w ≤ rl)) (cw ||| s) = true then w else goW (cw ||| s) s w n), (if (fun w => decide (rbF wi pd pi n w w ≤ rl)) (cw ||| s) = true then upd o (cntB s 10) (o (cntB s 10) + w s * facF (n - kk - cntB s 10 - 1)) else o)) = folG (fun w => decide (rbF wi pd pi n w w ≤ rl)) n kk cw (s + 1) := by rw [folG, hw1, ho1, if_pos hpos]; dsimp only; split <;> rfl
  refine x_aload_n C (pc := 42) 0 dX1_follow_42 rfl ?_
  refine x_iload_n C (pc := 43) 2 dX1_follow_43 rfl ?_
  refine x_aload_n C (pc := 44) 1 dX1_follow_44 rfl ?_
  refine x_cVvE C (pc := 45) (st := []) (c_X1_goOnBehind l D z cI cZ cP cR N G k n cw kk s k2 w o wi rl ch sp pd bs od hG (by omega) hQ (by omega) (by omega) (by omega) (by omega) (by omega) pi hpi (by omega) (by omega)) (cwV 2 C.2.2.2.2.1 gX1_follow_X1_goOnBehind rfl rfl rfl hd_X1_goOnBehind ⟨Nat.le_of_ble_eq_true rfl, Nat.le_of_ble_eq_true rfl⟩) (by omega) hG.ob rfl rfl rfl (Nat.le_of_ble_eq_true rfl) dX1_follow_45 ⟨Nat.le_of_ble_eq_true rfl, Nat.le_of_ble_eq_true rfl⟩ (fun F_45 h_45 => ?_)
  obtain ⟨hG_45, fr_45⟩ := h_45
  have hQ_45 := hQ.same (F2 := F_45) (fun q _ _ => fr_45 q (by omega))
  refine x_iinc C (pc := 48) 2 [(2, .int (nI (s + 1))), (0, .ref (z + k)), (1, .ref (z + k2))] dX1_follow_48 rfl (nI_inc s) (by decide) rfl ?_
  refine x_goto C (pc := 51) (tgt := 25) dX1_follow_51 (by decide) ?_
  exact x_sub [1, 2, 0] _ rfl (ih_25 (s + 1) (if (fun w => decide (rbF wi pd pi n w w ≤ rl)) (cw ||| s) = true then w else goW (cw ||| s) s w n) (if (fun w => decide (rbF wi pd pi n w w ≤ rl)) (cw ||| s) = true then upd o (cntB s 10) (o (cntB s 10) + w s * facF (n - kk - cntB s 10 - 1)) else o) F_45 ⟨(by omega), hG_45, hst, (gFr.t2 hfr fr_45)⟩ (by omega))
theorem fl_X1_allStops_15 : Cond.fieldLink RX1 15 "PileRecount$Odds" "stops" "[I" ∈ wsX1_allStops := by decide +kernel
theorem hn_X1_allStops_X1 : ∀ w ∈ wsX10, w ∈ wsX1_allStops := fun _ h => List.mem_cons_of_mem _ (List.mem_append_right _ h)
set_option maxHeartbeats 4000000 in
set_option maxRecDepth 100000 in
theorem c_X1_allStops (l : Launch) (D : va_G) (z : Nat) (cI cZ cP cR : ClassId) (N : Nat) (F : Nat → va_E) (k : Nat) (wy so : Nat → Int32) (hO : isOdd z cI F k wy so) (hk : k + 3 ≤ N) : gMi l yX1_allStops wsX1_allStops ({ frames := 0, cells := 0, slots := 0, locals := 0 }) D z cI cZ cP cR N F [.ref (z + k)] (gRes (gSum so 11) N (fun F2 => F2 = F)) 0 0 := by
  refine gMi.of (cc := cX1_allStops) (maxL := 3) (ret := (some .int)) (by decide) rfl (Nat.le_of_ble_eq_true rfl) [(0, .ref (z + k))] rfl ?_
  intro pg ev sg mg bel me cg C hR0
  refine x_iconst C (pc := 0) (v := 0) dX1_allStops_0 (by decide) ?_
  refine x_istore_n C (pc := 1) [(1, .int 0), (0, .ref (z + k))] dX1_allStops_1 (by decide) rfl ?_
  refine x_iconst C (pc := 2) (v := 0) dX1_allStops_2 (by decide) ?_
  refine x_istore_n C (pc := 3) [(2, .int 0), (1, .int 0), (0, .ref (z + k))] dX1_allStops_3 (by decide) rfl ?_
  refine x_sub [2, 1, 0] _ rfl ?_
  refine x_loop2 (A1 := Nat) (A2 := Int32) (pc := 4) (st := []) (fun j acc => 11 - j) (fun j acc => (j ≤ 11) ∧ (acc = gSum so j)) (fun j acc => N) (fun j acc => F) (fun j acc => 0) (fun j acc => 0) (fun j acc => [(0, .ref (z + k)), (1, .int acc), (2, .int (nI j))]) 0 0 ⟨(Nat.zero_le _), rfl⟩ rfl rfl rfl rfl rfl ?_
  rintro j acc ⟨hj, hacc⟩ ih_4
  try dsimp only at ih_4
  refine x_iload_n C (pc := 4) 2 dX1_allStops_4 rfl ?_
  refine x_bipush C (pc := 5) (v := 10) dX1_allStops_5 (by decide) ?_
  refine x_icmpN_gt C (a := j) (b := 10) (pc := 7) (tgt := 25) (by omega) (by omega) dX1_allStops_7 (by decide) (fun c_7 => ?_) (fun c_7 => ?_)
  · refine x_iload_n C (pc := 25) 1 dX1_allStops_25 rfl ?_
    exact x_iret C hR0 rfl (Nat.le_of_ble_eq_true rfl) (Nat.le_of_ble_eq_true rfl) ⟨(by rw [hacc, show j = 11 by omega]), rfl, rfl⟩ dX1_allStops_26
  refine x_iload_n C (pc := 10) 1 dX1_allStops_10 rfl ?_
  refine x_aload_n C (pc := 11) 0 dX1_allStops_11 rfl ?_
  refine x_get C (pc := 12) (q := k) (v := .ref (z + (k + 2))) (ci := 1) rfl hn_X1_allStops_X1 1 (by decide) fl_X1_allStops_15 rfl (by omega) hO.ob rfl dX1_allStops_12 ?_
  refine x_iload_n C (pc := 15) 2 dX1_allStops_15 rfl ?_
  refine x_ialdE C (pc := 16) (q := k + 2) (j := j) (f := so) (by omega) hO.so rfl (by omega) (by decide) dX1_allStops_16 ?_
  refine x_iadd C (pc := 17) (v := acc + (so j)) dX1_allStops_17 rfl ?_
  refine x_istore_n C (pc := 18) [(1, .int (acc + (so j))), (0, .ref (z + k)), (2, .int (nI j))] dX1_allStops_18 (by decide) rfl ?_
  refine x_iinc C (pc := 19) 2 [(2, .int (nI (j + 1))), (1, .int (acc + (so j))), (0, .ref (z + k))] dX1_allStops_19 rfl (nI_inc j) (by decide) rfl ?_
  refine x_goto C (pc := 22) (tgt := 4) dX1_allStops_22 (by decide) ?_
  exact x_sub [2, 1, 0] _ rfl (ih_4 (j + 1) (acc + (so j)) ⟨(by omega), (by rw [hacc]; rfl)⟩ (by omega))
