theorem fl_X3_size_13 : Cond.fieldLink RX3 13 "PileRecount$Pile" "one" "I" ∈ wsX3_size := by decide +kernel
theorem fl_X3_size_16 : Cond.fieldLink RX3 16 "PileRecount$Pile" "blanks" "I" ∈ wsX3_size := by decide +kernel
theorem fl_X3_size_7 : Cond.fieldLink RX3 7 "PileRecount$Pile" "zero" "I" ∈ wsX3_size := by decide +kernel
theorem hn_X3_size_X3 : ∀ w ∈ wsX30, w ∈ wsX3_size := fun _ h => List.mem_cons_of_mem _ (List.mem_append_right _ h)
set_option maxHeartbeats 4000000 in
set_option maxRecDepth 100000 in
theorem c_X3_size (l : Launch) (D : va_G) (z : Nat) (cI cZ cP cR : ClassId) (N : Nat) (F : Nat → va_E) (q : Nat) (d : Nat → Int32) (hq : q < N) (hF : F q = .inr (3, [.int (d 0), .int (d 1), .int (d 2), .int (d 3), .int (d 4)])) : gMi l yX3_size wsX3_size ({ frames := 0, cells := 0, slots := 0, locals := 0 }) D z cI cZ cP cR N F [.ref (z + q)] (gRes (sizF d) N (fun F2 => F2 = F)) 0 0 := by
  refine gMi.of (cc := cX3_size) (maxL := 1) (ret := (some .int)) (by decide) rfl (Nat.le_of_ble_eq_true rfl) [(0, .ref (z + q))] rfl ?_
  intro pg ev sg mg bel me cg C hR0
  refine x_aload_n C (pc := 0) 0 dX3_size_0 rfl ?_
  refine x_get C (pc := 1) (q := q) (v := .int (d 0)) (ci := 3) rfl hn_X3_size_X3 0 (by decide) fl_X3_size_7 rfl (by omega) hF rfl dX3_size_1 ?_
  refine x_aload_n C (pc := 4) 0 dX3_size_4 rfl ?_
  refine x_get C (pc := 5) (q := q) (v := .int (d 1)) (ci := 3) rfl hn_X3_size_X3 1 (by decide) fl_X3_size_13 rfl (by omega) hF rfl dX3_size_5 ?_
  refine x_iadd C (pc := 8) (v := (d 0) + (d 1)) dX3_size_8 rfl ?_
  refine x_aload_n C (pc := 9) 0 dX3_size_9 rfl ?_
  refine x_get C (pc := 10) (q := q) (v := .int (d 2)) (ci := 3) rfl hn_X3_size_X3 2 (by decide) fl_X3_size_16 rfl (by omega) hF rfl dX3_size_10 ?_
  refine x_iadd C (pc := 13) (v := ((d 0) + (d 1)) + (d 2)) dX3_size_13 rfl ?_
  exact x_iret C hR0 rfl (Nat.le_of_ble_eq_true rfl) (Nat.le_of_ble_eq_true rfl) ⟨rfl, rfl, rfl⟩ dX3_size_14
theorem fl_X3_reportedLead_13 : Cond.fieldLink RX3 13 "PileRecount$Pile" "one" "I" ∈ wsX3_reportedLead := by decide +kernel
theorem fl_X3_reportedLead_7 : Cond.fieldLink RX3 7 "PileRecount$Pile" "zero" "I" ∈ wsX3_reportedLead := by decide +kernel
theorem hn_X3_reportedLead_X3 : ∀ w ∈ wsX30, w ∈ wsX3_reportedLead := fun _ h => List.mem_cons_of_mem _ (List.mem_append_right _ h)
set_option maxHeartbeats 4000000 in
set_option maxRecDepth 100000 in
theorem c_X3_reportedLead (l : Launch) (D : va_G) (z : Nat) (cI cZ cP cR : ClassId) (N : Nat) (F : Nat → va_E) (q : Nat) (d : Nat → Int32) (hq : q < N) (hF : F q = .inr (3, [.int (d 0), .int (d 1), .int (d 2), .int (d 3), .int (d 4)])) (wi : Int32) : gMi l yX3_reportedLead wsX3_reportedLead ({ frames := 0, cells := 0, slots := 0, locals := 0 }) D z cI cZ cP cR N F [.ref (z + q), .int wi] (gRes (repF wi d) N (fun F2 => F2 = F)) 0 0 := by
  refine gMi.of (cc := cX3_reportedLead) (maxL := 2) (ret := (some .int)) (by decide) rfl (Nat.le_of_ble_eq_true rfl) [(0, .ref (z + q)), (1, .int wi)] rfl ?_
  intro pg ev sg mg bel me cg C hR0
  refine x_iload_n C (pc := 0) 1 dX3_reportedLead_0 rfl ?_
  refine x_if_ne C (pc := 1) (tgt := 16) dX3_reportedLead_1 (by decide) (fun c_1 => ?_) (fun c_1 => ?_)
  · refine x_aload_n C (pc := 16) 0 dX3_reportedLead_16 rfl ?_
    refine x_get C (pc := 17) (q := q) (v := .int (d 1)) (ci := 3) rfl hn_X3_reportedLead_X3 1 (by decide) fl_X3_reportedLead_13 rfl (by omega) hF rfl dX3_reportedLead_17 ?_
    refine x_aload_n C (pc := 20) 0 dX3_reportedLead_20 rfl ?_
    refine x_get C (pc := 21) (q := q) (v := .int (d 0)) (ci := 3) rfl hn_X3_reportedLead_X3 0 (by decide) fl_X3_reportedLead_7 rfl (by omega) hF rfl dX3_reportedLead_21 ?_
    refine x_isub C (pc := 24) (v := (d 1) - (d 0)) dX3_reportedLead_24 rfl ?_
    exact x_iret C hR0 rfl (Nat.le_of_ble_eq_true rfl) (Nat.le_of_ble_eq_true rfl) ⟨(by simp only [repF]; first | rw [if_pos c_1] | rw [if_neg c_1]), rfl, rfl⟩ dX3_reportedLead_25
  refine x_aload_n C (pc := 4) 0 dX3_reportedLead_4 rfl ?_
  refine x_get C (pc := 5) (q := q) (v := .int (d 0)) (ci := 3) rfl hn_X3_reportedLead_X3 0 (by decide) fl_X3_reportedLead_7 rfl (by omega) hF rfl dX3_reportedLead_5 ?_
  refine x_aload_n C (pc := 8) 0 dX3_reportedLead_8 rfl ?_
  refine x_get C (pc := 9) (q := q) (v := .int (d 1)) (ci := 3) rfl hn_X3_reportedLead_X3 1 (by decide) fl_X3_reportedLead_13 rfl (by omega) hF rfl dX3_reportedLead_9 ?_
  refine x_isub C (pc := 12) (v := (d 0) - (d 1)) dX3_reportedLead_12 rfl ?_
  refine x_goto C (pc := 13) (tgt := 25) dX3_reportedLead_13 (by decide) ?_
  exact x_iret C hR0 rfl (Nat.le_of_ble_eq_true rfl) (Nat.le_of_ble_eq_true rfl) ⟨(by simp only [repF]; first | rw [if_pos c_1] | rw [if_neg c_1]), rfl, rfl⟩ dX3_reportedLead_25
theorem fl_X3_foundLead_19 : Cond.fieldLink RX3 19 "PileRecount$Pile" "foundZero" "I" ∈ wsX3_foundLead := by decide +kernel
theorem fl_X3_foundLead_22 : Cond.fieldLink RX3 22 "PileRecount$Pile" "foundOne" "I" ∈ wsX3_foundLead := by decide +kernel
theorem hn_X3_foundLead_X3 : ∀ w ∈ wsX30, w ∈ wsX3_foundLead := fun _ h => List.mem_cons_of_mem _ (List.mem_append_right _ h)
set_option maxHeartbeats 4000000 in
set_option maxRecDepth 100000 in
theorem c_X3_foundLead (l : Launch) (D : va_G) (z : Nat) (cI cZ cP cR : ClassId) (N : Nat) (F : Nat → va_E) (q : Nat) (d : Nat → Int32) (hq : q < N) (hF : F q = .inr (3, [.int (d 0), .int (d 1), .int (d 2), .int (d 3), .int (d 4)])) (wi : Int32) : gMi l yX3_foundLead wsX3_foundLead ({ frames := 0, cells := 0, slots := 0, locals := 0 }) D z cI cZ cP cR N F [.ref (z + q), .int wi] (gRes (fouF wi d) N (fun F2 => F2 = F)) 0 0 := by
  refine gMi.of (cc := cX3_foundLead) (maxL := 2) (ret := (some .int)) (by decide) rfl (Nat.le_of_ble_eq_true rfl) [(0, .ref (z + q)), (1, .int wi)] rfl ?_
  intro pg ev sg mg bel me cg C hR0
  refine x_iload_n C (pc := 0) 1 dX3_foundLead_0 rfl ?_
  refine x_if_ne C (pc := 1) (tgt := 16) dX3_foundLead_1 (by decide) (fun c_1 => ?_) (fun c_1 => ?_)
  · refine x_aload_n C (pc := 16) 0 dX3_foundLead_16 rfl ?_
    refine x_get C (pc := 17) (q := q) (v := .int (d 4)) (ci := 3) rfl hn_X3_foundLead_X3 4 (by decide) fl_X3_foundLead_22 rfl (by omega) hF rfl dX3_foundLead_17 ?_
    refine x_aload_n C (pc := 20) 0 dX3_foundLead_20 rfl ?_
    refine x_get C (pc := 21) (q := q) (v := .int (d 3)) (ci := 3) rfl hn_X3_foundLead_X3 3 (by decide) fl_X3_foundLead_19 rfl (by omega) hF rfl dX3_foundLead_21 ?_
    refine x_isub C (pc := 24) (v := (d 4) - (d 3)) dX3_foundLead_24 rfl ?_
    exact x_iret C hR0 rfl (Nat.le_of_ble_eq_true rfl) (Nat.le_of_ble_eq_true rfl) ⟨(by simp only [fouF]; first | rw [if_pos c_1] | rw [if_neg c_1]), rfl, rfl⟩ dX3_foundLead_25
  refine x_aload_n C (pc := 4) 0 dX3_foundLead_4 rfl ?_
  refine x_get C (pc := 5) (q := q) (v := .int (d 3)) (ci := 3) rfl hn_X3_foundLead_X3 3 (by decide) fl_X3_foundLead_19 rfl (by omega) hF rfl dX3_foundLead_5 ?_
  refine x_aload_n C (pc := 8) 0 dX3_foundLead_8 rfl ?_
  refine x_get C (pc := 9) (q := q) (v := .int (d 4)) (ci := 3) rfl hn_X3_foundLead_X3 4 (by decide) fl_X3_foundLead_22 rfl (by omega) hF rfl dX3_foundLead_9 ?_
  refine x_isub C (pc := 12) (v := (d 3) - (d 4)) dX3_foundLead_12 rfl ?_
  refine x_goto C (pc := 13) (tgt := 25) dX3_foundLead_13 (by decide) ?_
  exact x_iret C hR0 rfl (Nat.le_of_ble_eq_true rfl) (Nat.le_of_ble_eq_true rfl) ⟨(by simp only [fouF]; first | rw [if_pos c_1] | rw [if_neg c_1]), rfl, rfl⟩ dX3_foundLead_25
set_option maxHeartbeats 4000000 in
set_option maxRecDepth 100000 in
theorem c_X3_swing (l : Launch) (D : va_G) (z : Nat) (cI cZ cP cR : ClassId) (N : Nat) (F : Nat → va_E) (q : Nat) (d : Nat → Int32) (hq : q < N) (hF : F q = .inr (3, [.int (d 0), .int (d 1), .int (d 2), .int (d 3), .int (d 4)])) (wi : Int32) : gMi l yX3_swing wsX3_swing ({ frames := 1, cells := 0, slots := 0, locals := 21 }) D z cI cZ cP cR N F [.ref (z + q), .int wi] (gRes (swF wi d) N (fun F2 => F2 = F)) 0 0 := by
  refine gMi.of (cc := cX3_swing) (maxL := 2) (ret := (some .int)) (by decide) rfl (Nat.le_of_ble_eq_true rfl) [(0, .ref (z + q)), (1, .int wi)] rfl ?_
  intro pg ev sg mg bel me cg C hR0
  refine x_aload_n C (pc := 0) 0 dX3_swing_0 rfl ?_
  refine x_iload_n C (pc := 1) 1 dX3_swing_1 rfl ?_
  refine x_cViR C (pc := 2) (st := []) (c_X3_reportedLead l D z cI cZ cP cR N F q d (by omega) hF wi) (cwV 1 C.2.2.2.2.1 gX3_swing_X3_reportedLead rfl rfl rfl hd_X3_reportedLead ⟨Nat.le_of_ble_eq_true rfl, Nat.le_of_ble_eq_true rfl⟩) (by omega) hF rfl rfl rfl (Nat.le_of_ble_eq_true rfl) dX3_swing_2 ⟨Nat.le_of_ble_eq_true rfl, Nat.le_of_ble_eq_true rfl⟩ ?_
  refine x_aload_n C (pc := 5) 0 dX3_swing_5 rfl ?_
  refine x_cViR C (pc := 6) (st := [.int (repF wi d)]) (c_X3_size l D z cI cZ cP cR N F q d (by omega) hF) (cwV 0 C.2.2.2.2.1 gX3_swing_X3_size rfl rfl rfl hd_X3_size ⟨Nat.le_of_ble_eq_true rfl, Nat.le_of_ble_eq_true rfl⟩) (by omega) hF rfl rfl rfl (Nat.le_of_ble_eq_true rfl) dX3_swing_6 ⟨Nat.le_of_ble_eq_true rfl, Nat.le_of_ble_eq_true rfl⟩ ?_
  refine x_iadd C (pc := 9) (v := (repF wi d) + (sizF d)) dX3_swing_9 rfl ?_
  exact x_iret C hR0 rfl (Nat.le_of_ble_eq_true rfl) (Nat.le_of_ble_eq_true rfl) ⟨rfl, rfl, rfl⟩ dX3_swing_10
set_option maxHeartbeats 4000000 in
set_option maxRecDepth 100000 in
theorem c_X3_isWorse (l : Launch) (D : va_G) (z : Nat) (cI cZ cP cR : ClassId) (N : Nat) (F : Nat → va_E) (q : Nat) (d : Nat → Int32) (hq : q < N) (hF : F q = .inr (3, [.int (d 0), .int (d 1), .int (d 2), .int (d 3), .int (d 4)])) (wi : Int32) : gMi l yX3_isWorse wsX3_isWorse ({ frames := 1, cells := 0, slots := 0, locals := 21 }) D z cI cZ cP cR N F [.ref (z + q), .int wi] (gRes (bz (worB wi d)) N (fun F2 => F2 = F)) 0 0 := by
  refine gMi.of (cc := cX3_isWorse) (maxL := 2) (ret := (some .boolean)) (by decide) rfl (Nat.le_of_ble_eq_true rfl) [(0, .ref (z + q)), (1, .int wi)] rfl ?_
  intro pg ev sg mg bel me cg C hR0
  refine x_aload_n C (pc := 0) 0 dX3_isWorse_0 rfl ?_
  refine x_iload_n C (pc := 1) 1 dX3_isWorse_1 rfl ?_
  refine x_cViR C (pc := 2) (st := []) (c_X3_foundLead l D z cI cZ cP cR N F q d (by omega) hF wi) (cwV 1 C.2.2.2.2.1 gX3_isWorse_X3_foundLead rfl rfl rfl hd_X3_foundLead ⟨Nat.le_of_ble_eq_true rfl, Nat.le_of_ble_eq_true rfl⟩) (by omega) hF rfl rfl rfl (Nat.le_of_ble_eq_true rfl) dX3_isWorse_2 ⟨Nat.le_of_ble_eq_true rfl, Nat.le_of_ble_eq_true rfl⟩ ?_
  refine x_aload_n C (pc := 5) 0 dX3_isWorse_5 rfl ?_
  refine x_iload_n C (pc := 6) 1 dX3_isWorse_6 rfl ?_
  refine x_cViR C (pc := 7) (st := [.int (fouF wi d)]) (c_X3_reportedLead l D z cI cZ cP cR N F q d (by omega) hF wi) (cwV 1 C.2.2.2.2.1 gX3_isWorse_X3_reportedLead rfl rfl rfl hd_X3_reportedLead ⟨Nat.le_of_ble_eq_true rfl, Nat.le_of_ble_eq_true rfl⟩) (by omega) hF rfl rfl rfl (Nat.le_of_ble_eq_true rfl) dX3_isWorse_7 ⟨Nat.le_of_ble_eq_true rfl, Nat.le_of_ble_eq_true rfl⟩ ?_
  refine x_icmp_ge C (pc := 10) (tgt := 17) dX3_isWorse_10 (by decide) (fun c_10 => ?_) (fun c_10 => ?_)
  · refine x_iconst C (pc := 17) (v := 0) dX3_isWorse_17 (by decide) ?_
    exact x_iret C hR0 rfl (Nat.le_of_ble_eq_true rfl) (Nat.le_of_ble_eq_true rfl) ⟨(by rw [worB, decide_eq_false (Int32.not_lt.mpr c_10)]; rfl), rfl, rfl⟩ dX3_isWorse_18
  refine x_iconst C (pc := 13) (v := 1) dX3_isWorse_13 (by decide) ?_
  refine x_goto C (pc := 14) (tgt := 18) dX3_isWorse_14 (by decide) ?_
  exact x_iret C hR0 rfl (Nat.le_of_ble_eq_true rfl) (Nat.le_of_ble_eq_true rfl) ⟨(by rw [worB, decide_eq_true (Int32.not_le.mp c_10)]; rfl), rfl, rfl⟩ dX3_isWorse_18
theorem fl_X5_hasPile_39 : Cond.fieldLink RX5 39 "PileRecount$Recount" "piles" "I" ∈ wsX5_hasPile := by decide +kernel
theorem hn_X5_hasPile_X5 : ∀ w ∈ wsX50, w ∈ wsX5_hasPile := fun _ h => List.mem_cons_of_mem _ (List.mem_append_right _ h)
set_option maxHeartbeats 4000000 in
set_option maxRecDepth 100000 in
theorem c_X5_hasPile (l : Launch) (D : va_G) (z : Nat) (cI cZ cP cR : ClassId) (N : Nat) (F : Nat → va_E) (k : Nat) (pl wi cp cs rl ch sp : Int32) (pd : Nat → Nat → Int32) (bs od : Nat → Int32) (x : Int32) (hR : isRec z cI cP F k pl wi cp cs rl ch sp pd bs od) (hk : k + 14 ≤ N) : gMi l yX5_hasPile wsX5_hasPile ({ frames := 0, cells := 0, slots := 0, locals := 0 }) D z cI cZ cP cR N F [.ref (z + k), .int x] (gRes (bz (inP x pl)) N (fun F2 => F2 = F)) 0 0 := by
  refine gMi.of (cc := cX5_hasPile) (maxL := 2) (ret := (some .boolean)) (by decide) rfl (Nat.le_of_ble_eq_true rfl) [(0, .ref (z + k)), (1, .int x)] rfl ?_
  intro pg ev sg mg bel me cg C hR0
  refine x_iload_n C (pc := 0) 1 dX5_hasPile_0 rfl ?_
  refine x_if_lt C (pc := 1) (tgt := 16) dX5_hasPile_1 (by decide) (fun c_1 => ?_) (fun c_1 => ?_)
  · refine x_iconst C (pc := 16) (v := 0) dX5_hasPile_16 (by decide) ?_
    exact x_iret C hR0 rfl (Nat.le_of_ble_eq_true rfl) (Nat.le_of_ble_eq_true rfl) ⟨(by first | (rw [inP, decide_eq_false (Int32.not_le.mpr c_1)]; rfl) | (rw [inP, decide_eq_false (Int32.not_lt.mpr c_9), Bool.and_false]; rfl)), rfl, rfl⟩ dX5_hasPile_17
  refine x_iload_n C (pc := 4) 1 dX5_hasPile_4 rfl ?_
  refine x_aload_n C (pc := 5) 0 dX5_hasPile_5 rfl ?_
  refine x_get C (pc := 6) (q := k) (v := .int pl) (ci := 5) rfl hn_X5_hasPile_X5 1 (by decide) fl_X5_hasPile_39 rfl (by omega) hR.ob rfl dX5_hasPile_6 ?_
  refine x_icmp_ge C (pc := 9) (tgt := 16) dX5_hasPile_9 (by decide) (fun c_9 => ?_) (fun c_9 => ?_)
  · refine x_iconst C (pc := 16) (v := 0) dX5_hasPile_16 (by decide) ?_
    exact x_iret C hR0 rfl (Nat.le_of_ble_eq_true rfl) (Nat.le_of_ble_eq_true rfl) ⟨(by first | (rw [inP, decide_eq_false (Int32.not_le.mpr c_1)]; rfl) | (rw [inP, decide_eq_false (Int32.not_lt.mpr c_9), Bool.and_false]; rfl)), rfl, rfl⟩ dX5_hasPile_17
  refine x_iconst C (pc := 12) (v := 1) dX5_hasPile_12 (by decide) ?_
  refine x_goto C (pc := 13) (tgt := 17) dX5_hasPile_13 (by decide) ?_
  exact x_iret C hR0 rfl (Nat.le_of_ble_eq_true rfl) (Nat.le_of_ble_eq_true rfl) ⟨(by rw [inP, decide_eq_true (Int32.not_lt.mp c_1), decide_eq_true (Int32.not_le.mp c_9)]; rfl), rfl, rfl⟩ dX5_hasPile_17
theorem fl_X5_hasWinner_18 : Cond.fieldLink RX5 18 "PileRecount$Recount" "winner" "I" ∈ wsX5_hasWinner := by decide +kernel
theorem hn_X5_hasWinner_X5 : ∀ w ∈ wsX50, w ∈ wsX5_hasWinner := fun _ h => List.mem_cons_of_mem _ (List.mem_append_right _ h)
set_option maxHeartbeats 4000000 in
set_option maxRecDepth 100000 in
theorem c_X5_hasWinner (l : Launch) (D : va_G) (z : Nat) (cI cZ cP cR : ClassId) (N : Nat) (F : Nat → va_E) (k : Nat) (pl wi cp cs rl ch sp : Int32) (pd : Nat → Nat → Int32) (bs od : Nat → Int32) (hR : isRec z cI cP F k pl wi cp cs rl ch sp pd bs od) (hk : k + 14 ≤ N) : gMi l yX5_hasWinner wsX5_hasWinner ({ frames := 0, cells := 0, slots := 0, locals := 0 }) D z cI cZ cP cR N F [.ref (z + k)] (gRes (bz (hwB wi)) N (fun F2 => F2 = F)) 0 0 := by
  refine gMi.of (cc := cX5_hasWinner) (maxL := 1) (ret := (some .boolean)) (by decide) rfl (Nat.le_of_ble_eq_true rfl) [(0, .ref (z + k))] rfl ?_
  intro pg ev sg mg bel me cg C hR0
  refine x_aload_n C (pc := 0) 0 dX5_hasWinner_0 rfl ?_
  refine x_get C (pc := 1) (q := k) (v := .int wi) (ci := 5) rfl hn_X5_hasWinner_X5 2 (by decide) fl_X5_hasWinner_18 rfl (by omega) hR.ob rfl dX5_hasWinner_1 ?_
  refine x_bipush C (pc := 4) (v := (-6)) dX5_hasWinner_4 (by decide) ?_
  refine x_icmp_eq C (pc := 6) (tgt := 13) dX5_hasWinner_6 (by decide) (fun c_6 => ?_) (fun c_6 => ?_)
  · refine x_iconst C (pc := 13) (v := 0) dX5_hasWinner_13 (by decide) ?_
    exact x_iret C hR0 rfl (Nat.le_of_ble_eq_true rfl) (Nat.le_of_ble_eq_true rfl) ⟨(by rw [hwB, decide_eq_false (not_not_intro c_6)]; rfl), rfl, rfl⟩ dX5_hasWinner_14
  refine x_iconst C (pc := 9) (v := 1) dX5_hasWinner_9 (by decide) ?_
  refine x_goto C (pc := 10) (tgt := 14) dX5_hasWinner_10 (by decide) ?_
  exact x_iret C hR0 rfl (Nat.le_of_ble_eq_true rfl) (Nat.le_of_ble_eq_true rfl) ⟨(by rw [hwB, decide_eq_true c_6]; rfl), rfl, rfl⟩ dX5_hasWinner_14
theorem fl_X5_isAllCounted_39 : Cond.fieldLink RX5 39 "PileRecount$Recount" "piles" "I" ∈ wsX5_isAllCounted := by decide +kernel
theorem fl_X5_isAllCounted_42 : Cond.fieldLink RX5 42 "PileRecount$Recount" "countedPiles" "I" ∈ wsX5_isAllCounted := by decide +kernel
theorem hn_X5_isAllCounted_X5 : ∀ w ∈ wsX50, w ∈ wsX5_isAllCounted := fun _ h => List.mem_cons_of_mem _ (List.mem_append_right _ h)
set_option maxHeartbeats 4000000 in
set_option maxRecDepth 100000 in
theorem c_X5_isAllCounted (l : Launch) (D : va_G) (z : Nat) (cI cZ cP cR : ClassId) (N : Nat) (F : Nat → va_E) (k : Nat) (pl wi cp cs rl ch sp : Int32) (pd : Nat → Nat → Int32) (bs od : Nat → Int32) (hR : isRec z cI cP F k pl wi cp cs rl ch sp pd bs od) (hk : k + 14 ≤ N) : gMi l yX5_isAllCounted wsX5_isAllCounted ({ frames := 0, cells := 0, slots := 0, locals := 0 }) D z cI cZ cP cR N F [.ref (z + k)] (gRes (bz (decide (cp = pl))) N (fun F2 => F2 = F)) 0 0 := by
  refine gMi.of (cc := cX5_isAllCounted) (maxL := 1) (ret := (some .boolean)) (by decide) rfl (Nat.le_of_ble_eq_true rfl) [(0, .ref (z + k))] rfl ?_
  intro pg ev sg mg bel me cg C hR0
  refine x_aload_n C (pc := 0) 0 dX5_isAllCounted_0 rfl ?_
  refine x_get C (pc := 1) (q := k) (v := .int cp) (ci := 5) rfl hn_X5_isAllCounted_X5 5 (by decide) fl_X5_isAllCounted_42 rfl (by omega) hR.ob rfl dX5_isAllCounted_1 ?_
  refine x_aload_n C (pc := 4) 0 dX5_isAllCounted_4 rfl ?_
  refine x_get C (pc := 5) (q := k) (v := .int pl) (ci := 5) rfl hn_X5_isAllCounted_X5 1 (by decide) fl_X5_isAllCounted_39 rfl (by omega) hR.ob rfl dX5_isAllCounted_5 ?_
  refine x_icmp_ne C (pc := 8) (tgt := 15) dX5_isAllCounted_8 (by decide) (fun c_8 => ?_) (fun c_8 => ?_)
  · refine x_iconst C (pc := 15) (v := 0) dX5_isAllCounted_15 (by decide) ?_
    exact x_iret C hR0 rfl (Nat.le_of_ble_eq_true rfl) (Nat.le_of_ble_eq_true rfl) ⟨(by rw [decide_eq_false c_8]; rfl), rfl, rfl⟩ dX5_isAllCounted_16
  refine x_iconst C (pc := 11) (v := 1) dX5_isAllCounted_11 (by decide) ?_
  refine x_goto C (pc := 12) (tgt := 16) dX5_isAllCounted_12 (by decide) ?_
  exact x_iret C hR0 rfl (Nat.le_of_ble_eq_true rfl) (Nat.le_of_ble_eq_true rfl) ⟨(by rw [decide_eq_true c_8]; rfl), rfl, rfl⟩ dX5_isAllCounted_16
theorem fl_X5_isOpen_48 : Cond.fieldLink RX5 48 "PileRecount$Recount" "stopped" "Z" ∈ wsX5_isOpen := by decide +kernel
theorem hn_X5_isOpen_X5 : ∀ w ∈ wsX50, w ∈ wsX5_isOpen := fun _ h => List.mem_cons_of_mem _ (List.mem_append_right _ h)
set_option maxHeartbeats 4000000 in
set_option maxRecDepth 100000 in
theorem c_X5_isOpen (l : Launch) (D : va_G) (z : Nat) (cI cZ cP cR : ClassId) (N : Nat) (F : Nat → va_E) (k : Nat) (pl wi cp cs rl ch sp : Int32) (pd : Nat → Nat → Int32) (bs od : Nat → Int32) (hR : isRec z cI cP F k pl wi cp cs rl ch sp pd bs od) (hk : k + 14 ≤ N) : gMi l yX5_isOpen wsX5_isOpen ({ frames := 1, cells := 0, slots := 0, locals := 20 }) D z cI cZ cP cR N F [.ref (z + k)] (gRes (bz (opB wi sp)) N (fun F2 => F2 = F)) 0 0 := by
  refine gMi.of (cc := cX5_isOpen) (maxL := 1) (ret := (some .boolean)) (by decide) rfl (Nat.le_of_ble_eq_true rfl) [(0, .ref (z + k))] rfl ?_
  intro pg ev sg mg bel me cg C hR0
  refine x_aload_n C (pc := 0) 0 dX5_isOpen_0 rfl ?_
  refine x_cViR C (pc := 1) (st := []) (c_X5_hasWinner l D z cI cZ cP cR N F k pl wi cp cs rl ch sp pd bs od hR (by omega)) (cwV 0 C.2.2.2.2.1 gX5_isOpen_X5_hasWinner rfl rfl rfl hd_X5_hasWinner ⟨Nat.le_of_ble_eq_true rfl, Nat.le_of_ble_eq_true rfl⟩) (by omega) hR.ob rfl rfl rfl (Nat.le_of_ble_eq_true rfl) dX5_isOpen_1 ⟨Nat.le_of_ble_eq_true rfl, Nat.le_of_ble_eq_true rfl⟩ ?_
  refine x_bz_eq C (pc := 4) (tgt := 18) dX5_isOpen_4 (by decide) (fun c_4 => ?_) (fun c_4 => ?_)
  · refine x_iconst C (pc := 18) (v := 0) dX5_isOpen_18 (by decide) ?_
    exact x_iret C hR0 rfl (Nat.le_of_ble_eq_true rfl) (Nat.le_of_ble_eq_true rfl) ⟨(by first | (rw [opB, c_4]; rfl) | (rw [opB, decide_eq_false c_11, Bool.and_false]; rfl)), rfl, rfl⟩ dX5_isOpen_19
  refine x_aload_n C (pc := 7) 0 dX5_isOpen_7 rfl ?_
  refine x_get C (pc := 8) (q := k) (v := .int sp) (ci := 5) rfl hn_X5_isOpen_X5 9 (by decide) fl_X5_isOpen_48 rfl (by omega) hR.ob rfl dX5_isOpen_8 ?_
  refine x_if_ne C (pc := 11) (tgt := 18) dX5_isOpen_11 (by decide) (fun c_11 => ?_) (fun c_11 => ?_)
  · refine x_iconst C (pc := 18) (v := 0) dX5_isOpen_18 (by decide) ?_
    exact x_iret C hR0 rfl (Nat.le_of_ble_eq_true rfl) (Nat.le_of_ble_eq_true rfl) ⟨(by first | (rw [opB, c_4]; rfl) | (rw [opB, decide_eq_false c_11, Bool.and_false]; rfl)), rfl, rfl⟩ dX5_isOpen_19
  refine x_iconst C (pc := 14) (v := 1) dX5_isOpen_14 (by decide) ?_
  refine x_goto C (pc := 15) (tgt := 19) dX5_isOpen_15 (by decide) ?_
  exact x_iret C hR0 rfl (Nat.le_of_ble_eq_true rfl) (Nat.le_of_ble_eq_true rfl) ⟨(by rw [opB, c_4, decide_eq_true c_11]; rfl), rfl, rfl⟩ dX5_isOpen_19
theorem fl_X5_allPiles_39 : Cond.fieldLink RX5 39 "PileRecount$Recount" "piles" "I" ∈ wsX5_allPiles := by decide +kernel
theorem hn_X5_allPiles_X5 : ∀ w ∈ wsX50, w ∈ wsX5_allPiles := fun _ h => List.mem_cons_of_mem _ (List.mem_append_right _ h)
set_option maxHeartbeats 4000000 in
set_option maxRecDepth 100000 in
theorem c_X5_allPiles (l : Launch) (D : va_G) (z : Nat) (cI cZ cP cR : ClassId) (N : Nat) (F : Nat → va_E) (k n : Nat) (wi cp cs rl ch sp : Int32) (pd : Nat → Nat → Int32) (bs od : Nat → Int32) (hR : isRec z cI cP F k (nI n) wi cp cs rl ch sp pd bs od) (hk : k + 14 ≤ N) (hn : n ≤ 10) : gMi l yX5_allPiles wsX5_allPiles ({ frames := 0, cells := 0, slots := 0, locals := 0 }) D z cI cZ cP cR N F [.ref (z + k)] (gRes (nI (2 ^ n - 1)) N (fun F2 => F2 = F)) 0 0 := by
  refine gMi.of (cc := cX5_allPiles) (maxL := 1) (ret := (some .int)) (by decide) rfl (Nat.le_of_ble_eq_true rfl) [(0, .ref (z + k))] rfl ?_
  intro pg ev sg mg bel me cg C hR0
  refine x_iconst C (pc := 0) (v := 1) dX5_allPiles_0 (by decide) ?_
  refine x_aload_n C (pc := 1) 0 dX5_allPiles_1 rfl ?_
  refine x_get C (pc := 2) (q := k) (v := .int (nI n)) (ci := 5) rfl hn_X5_allPiles_X5 1 (by decide) fl_X5_allPiles_39 rfl (by omega) hR.ob rfl dX5_allPiles_2 ?_
  refine x_ishl C (pc := 5) (v := nI (2 ^ n)) dX5_allPiles_5 (pkshl (by omega)) ?_
  refine x_iconst C (pc := 6) (v := 1) dX5_allPiles_6 (by decide) ?_
  refine x_isub C (pc := 7) (v := nI (2 ^ n - 1)) dX5_allPiles_7 (pk_sub (two_pos n)) ?_
  exact x_iret C hR0 rfl (Nat.le_of_ble_eq_true rfl) (Nat.le_of_ble_eq_true rfl) ⟨rfl, rfl, rfl⟩ dX5_allPiles_8
theorem fl_X5_errorOfPile_39 : Cond.fieldLink RX5 39 "PileRecount$Recount" "piles" "I" ∈ wsX5_errorOfPile := by decide +kernel
theorem fl_X5_errorOfPile_42 : Cond.fieldLink RX5 42 "PileRecount$Recount" "countedPiles" "I" ∈ wsX5_errorOfPile := by decide +kernel
theorem hn_X5_errorOfPile_X5 : ∀ w ∈ wsX50, w ∈ wsX5_errorOfPile := fun _ h => List.mem_cons_of_mem _ (List.mem_append_right _ h)
theorem ni_X5_errorOfPile_RX6 : Cond.initialized RX6 ∈ wsX5_errorOfPile := by decide +kernel
theorem ns_X5_errorOfPile_X6_isVotes : Cond.static yX6_isVotes ∈ wsX5_errorOfPile := by decide +kernel
set_option maxHeartbeats 4000000 in
set_option maxRecDepth 100000 in
theorem c_X5_errorOfPile (l : Launch) (D : va_G) (z : Nat) (cI cZ cP cR : ClassId) (N : Nat) (F : Nat → va_E) (k n : Nat) (wi cp cs rl ch sp : Int32) (pd : Nat → Nat → Int32) (bs od : Nat → Int32) (a b x : Int32) (hR : isRec z cI cP F k (nI n) wi cp cs rl ch sp pd bs od) (hk : k + 14 ≤ N) (hn : n ≤ 10) : gMi l yX5_errorOfPile wsX5_errorOfPile ({ frames := 1, cells := 0, slots := 0, locals := 20 }) D z cI cZ cP cR N F [.ref (z + k), .int a, .int b, .int x] (gRes (epF a b x n cp) N (fun F2 => F2 = F)) 0 0 := by
  refine gMi.of (cc := cX5_errorOfPile) (maxL := 4) (ret := (some .int)) (by decide) rfl (Nat.le_of_ble_eq_true rfl) [(0, .ref (z + k)), (1, .int a), (2, .int b), (3, .int x)] rfl ?_
  intro pg ev sg mg bel me cg C hR0
  refine x_iload_n C (pc := 0) 1 dX5_errorOfPile_0 rfl ?_
  refine x_cSNiR C (pc := 1) (st := []) (c_X6_isVotes l D z cI cZ cP cR N F a) ⟨va_cnB 1 C.2.2.2.2.1 gX5_errorOfPile_X6_isVotes_n56 rfl rfl rfl (C.2.2.2.2.2.1.2.1 _ (List.mem_of_getElem? (i := 7) rfl)) (C.2.2.2.2.1 _ ni_X5_errorOfPile_RX6) hd_X6_isVotes.2 ⟨Nat.le_of_ble_eq_true rfl, Nat.le_of_ble_eq_true rfl⟩, C.2.2.2.2.1 _ ns_X5_errorOfPile_X6_isVotes, trivial⟩ rfl rfl (Nat.le_of_ble_eq_true rfl) dX5_errorOfPile_1 ⟨Nat.le_of_ble_eq_true rfl, Nat.le_of_ble_eq_true rfl⟩ ?_
  refine x_bz_eq C (pc := 4) (tgt := 21) dX5_errorOfPile_4 (by decide) (fun c_4 => ?_) (fun c_4 => ?_)
  · refine x_bipush C (pc := 21) (v := (-2)) dX5_errorOfPile_21 (by decide) ?_
    exact x_iret C hR0 rfl (Nat.le_of_ble_eq_true rfl) (Nat.le_of_ble_eq_true rfl) ⟨(by unfold epF; first | (rw [c_4, c_11, c_18]; rfl) | (rw [c_4, c_11]; rfl) | (rw [c_4]; rfl)), rfl, rfl⟩ dX5_errorOfPile_23
  refine x_iload_n C (pc := 7) 2 dX5_errorOfPile_7 rfl ?_
  refine x_cSNiR C (pc := 8) (st := []) (c_X6_isVotes l D z cI cZ cP cR N F b) ⟨va_cnB 1 C.2.2.2.2.1 gX5_errorOfPile_X6_isVotes_n56 rfl rfl rfl (C.2.2.2.2.2.1.2.1 _ (List.mem_of_getElem? (i := 7) rfl)) (C.2.2.2.2.1 _ ni_X5_errorOfPile_RX6) hd_X6_isVotes.2 ⟨Nat.le_of_ble_eq_true rfl, Nat.le_of_ble_eq_true rfl⟩, C.2.2.2.2.1 _ ns_X5_errorOfPile_X6_isVotes, trivial⟩ rfl rfl (Nat.le_of_ble_eq_true rfl) dX5_errorOfPile_8 ⟨Nat.le_of_ble_eq_true rfl, Nat.le_of_ble_eq_true rfl⟩ ?_
  refine x_bz_eq C (pc := 11) (tgt := 21) dX5_errorOfPile_11 (by decide) (fun c_11 => ?_) (fun c_11 => ?_)
  · refine x_bipush C (pc := 21) (v := (-2)) dX5_errorOfPile_21 (by decide) ?_
    exact x_iret C hR0 rfl (Nat.le_of_ble_eq_true rfl) (Nat.le_of_ble_eq_true rfl) ⟨(by unfold epF; first | (rw [c_4, c_11, c_18]; rfl) | (rw [c_4, c_11]; rfl) | (rw [c_4]; rfl)), rfl, rfl⟩ dX5_errorOfPile_23
  refine x_iload_n C (pc := 14) 3 dX5_errorOfPile_14 rfl ?_
  refine x_cSNiR C (pc := 15) (st := []) (c_X6_isVotes l D z cI cZ cP cR N F x) ⟨va_cnB 1 C.2.2.2.2.1 gX5_errorOfPile_X6_isVotes_n56 rfl rfl rfl (C.2.2.2.2.2.1.2.1 _ (List.mem_of_getElem? (i := 7) rfl)) (C.2.2.2.2.1 _ ni_X5_errorOfPile_RX6) hd_X6_isVotes.2 ⟨Nat.le_of_ble_eq_true rfl, Nat.le_of_ble_eq_true rfl⟩, C.2.2.2.2.1 _ ns_X5_errorOfPile_X6_isVotes, trivial⟩ rfl rfl (Nat.le_of_ble_eq_true rfl) dX5_errorOfPile_15 ⟨Nat.le_of_ble_eq_true rfl, Nat.le_of_ble_eq_true rfl⟩ ?_
  refine x_bz_ne C (pc := 18) (tgt := 24) dX5_errorOfPile_18 (by decide) (fun c_18 => ?_) (fun c_18 => ?_)
  · refine x_aload_n C (pc := 24) 0 dX5_errorOfPile_24 rfl ?_
    refine x_get C (pc := 25) (q := k) (v := .int (nI n)) (ci := 5) rfl hn_X5_errorOfPile_X5 1 (by decide) fl_X5_errorOfPile_39 rfl (by omega) hR.ob rfl dX5_errorOfPile_25 ?_
    refine x_bipush C (pc := 28) (v := 10) dX5_errorOfPile_28 (by decide) ?_
    refine x_icmpN_lt C (a := n) (b := 10) (pc := 30) (tgt := 36) (by omega) (by omega) dX5_errorOfPile_30 (by decide) (fun c_30 => ?_) (fun c_30 => ?_)
    · refine x_aload_n C (pc := 36) 0 dX5_errorOfPile_36 rfl ?_
      refine x_get C (pc := 37) (q := k) (v := .int cp) (ci := 5) rfl hn_X5_errorOfPile_X5 5 (by decide) fl_X5_errorOfPile_42 rfl (by omega) hR.ob rfl dX5_errorOfPile_37 ?_
      refine x_if_le C (pc := 40) (tgt := 48) dX5_errorOfPile_40 (by decide) (fun c_40 => ?_) (fun c_40 => ?_)
      · refine x_iconst C (pc := 48) (v := 0) dX5_errorOfPile_48 (by decide) ?_
        exact x_iret C hR0 rfl (Nat.le_of_ble_eq_true rfl) (Nat.le_of_ble_eq_true rfl) ⟨(by unfold epF; rw [c_4, c_11, c_18, if_neg (by decide), if_neg (by omega), if_neg (Int32.not_lt.mpr c_40)]), rfl, rfl⟩ dX5_errorOfPile_49
      refine x_bipush C (pc := 43) (v := (-5)) dX5_errorOfPile_43 (by decide) ?_
      refine x_goto C (pc := 45) (tgt := 49) dX5_errorOfPile_45 (by decide) ?_
      exact x_iret C hR0 rfl (Nat.le_of_ble_eq_true rfl) (Nat.le_of_ble_eq_true rfl) ⟨(by unfold epF; rw [c_4, c_11, c_18, if_neg (by decide), if_neg (by omega), if_pos (Int32.not_le.mp c_40)]), rfl, rfl⟩ dX5_errorOfPile_49
    refine x_bipush C (pc := 33) (v := (-4)) dX5_errorOfPile_33 (by decide) ?_
    exact x_iret C hR0 rfl (Nat.le_of_ble_eq_true rfl) (Nat.le_of_ble_eq_true rfl) ⟨(by unfold epF; rw [c_4, c_11, c_18, if_neg (by decide), if_pos c_30]), rfl, rfl⟩ dX5_errorOfPile_35
  refine x_bipush C (pc := 21) (v := (-2)) dX5_errorOfPile_21 (by decide) ?_
  exact x_iret C hR0 rfl (Nat.le_of_ble_eq_true rfl) (Nat.le_of_ble_eq_true rfl) ⟨(by unfold epF; first | (rw [c_4, c_11, c_18]; rfl) | (rw [c_4, c_11]; rfl) | (rw [c_4]; rfl)), rfl, rfl⟩ dX5_errorOfPile_23
theorem inP_nat {x : Int32} {n : Nat} (hn : n < 2 ^ 31) (h : inP x (nI n) = true) : ∃ j, j < n ∧ x = nI j := by
  simp only [inP, Bool.and_eq_true, decide_eq_true_eq] at h
  obtain ⟨j, hj, rfl⟩ := nI_of (Int32.not_lt.mpr h.1)
  exact ⟨j, (nI_ltI hj hn).mp h.2, rfl⟩
theorem fl_X5_errorOfFind_11 : Cond.fieldLink RX5 11 "PileRecount$Recount" "rows" "[LPileRecount$Pile;" ∈ wsX5_errorOfFind := by decide +kernel
theorem fl_X5_errorOfFind_45 : Cond.fieldLink RX5 45 "PileRecount$Recount" "countedSet" "I" ∈ wsX5_errorOfFind := by decide +kernel
theorem hn_X5_errorOfFind_X5 : ∀ w ∈ wsX50, w ∈ wsX5_errorOfFind := fun _ h => List.mem_cons_of_mem _ (List.mem_append_left _ (List.mem_append_right _ h))
theorem ni_X5_errorOfFind_RX6 : Cond.initialized RX6 ∈ wsX5_errorOfFind := by decide +kernel
theorem ns_X5_errorOfFind_X6_has : Cond.static yX6_has ∈ wsX5_errorOfFind := by decide +kernel
set_option maxHeartbeats 4000000 in
set_option maxRecDepth 100000 in
theorem c_X5_errorOfFind (l : Launch) (D : va_G) (z : Nat) (cI cZ cP cR : ClassId) (N : Nat) (F : Nat → va_E) (k n cw : Nat) (wi cp rl ch sp : Int32) (pd : Nat → Nat → Int32) (bs od : Nat → Int32) (x a b : Int32) (hR : isRec z cI cP F k (nI n) wi cp (nI cw) rl ch sp pd bs od) (hk : k + 14 ≤ N) (hn : n ≤ 10) (hcw : cw < 1024) : gMi l yX5_errorOfFind wsX5_errorOfFind ({ frames := 1, cells := 0, slots := 0, locals := 21 }) D z cI cZ cP cR N F [.ref (z + k), .int x, .int a, .int b] (gRes (efF x a b (nI n) pd cw) N (fun F2 => F2 = F)) 0 0 := by
  refine gMi.of (cc := cX5_errorOfFind) (maxL := 5) (ret := (some .int)) (by decide) rfl (Nat.le_of_ble_eq_true rfl) [(0, .ref (z + k)), (1, .int x), (2, .int a), (3, .int b)] rfl ?_
  intro pg ev sg mg bel me cg C hR0
  refine x_aload_n C (pc := 0) 0 dX5_errorOfFind_0 rfl ?_
  refine x_iload_n C (pc := 1) 1 dX5_errorOfFind_1 rfl ?_
  refine x_cViR C (pc := 2) (st := []) (c_X5_hasPile l D z cI cZ cP cR N F k (nI n) wi cp (nI cw) rl ch sp pd bs od x hR (by omega)) (cwV 1 C.2.2.2.2.1 gX5_errorOfFind_X5_hasPile rfl rfl rfl hd_X5_hasPile ⟨Nat.le_of_ble_eq_true rfl, Nat.le_of_ble_eq_true rfl⟩) (by omega) hR.ob rfl rfl rfl (Nat.le_of_ble_eq_true rfl) dX5_errorOfFind_2 ⟨Nat.le_of_ble_eq_true rfl, Nat.le_of_ble_eq_true rfl⟩ ?_
  refine x_bz_ne C (pc := 5) (tgt := 10) dX5_errorOfFind_5 (by decide) (fun c_5 => ?_) (fun c_5 => ?_)
  · obtain ⟨j, hj, rfl⟩ := inP_nat (by omega) c_5
    refine x_aload_n C (pc := 10) 0 dX5_errorOfFind_10 rfl ?_
    refine x_get C (pc := 11) (q := k) (v := .ref (z + (k + 1))) (ci := 5) rfl hn_X5_errorOfFind_X5 0 (by decide) fl_X5_errorOfFind_11 rfl (by omega) hR.ob rfl dX5_errorOfFind_11 ?_
    refine x_iload_n C (pc := 14) 1 dX5_errorOfFind_14 rfl ?_
    refine xr_row C (pc := 15) (j := j) hR (by omega) rfl (by omega) dX5_errorOfFind_15 ?_
    refine x_cViR C (pc := 16) (st := []) (c_X3_size l D z cI cZ cP cR N F (k + 2 + j) (pd j) (by omega) (hR.pile (by omega))) (cwV 0 C.2.2.2.2.1 gX5_errorOfFind_X3_size rfl rfl rfl hd_X3_size ⟨Nat.le_of_ble_eq_true rfl, Nat.le_of_ble_eq_true rfl⟩) (by omega) (hR.pile (by omega)) rfl rfl rfl (Nat.le_of_ble_eq_true rfl) dX5_errorOfFind_16 ⟨Nat.le_of_ble_eq_true rfl, Nat.le_of_ble_eq_true rfl⟩ ?_
    refine x_istore C (pc := 19) [(4, .int (sizF (pd j))), (0, .ref (z + k)), (1, .int (nI j)), (2, .int a), (3, .int b)] dX5_errorOfFind_19 (by decide) rfl ?_
    refine x_iload_n C (pc := 21) 3 dX5_errorOfFind_21 rfl ?_
    refine x_if_lt C (pc := 22) (tgt := 43) dX5_errorOfFind_22 (by decide) (fun c_22 => ?_) (fun c_22 => ?_)
    · refine x_bipush C (pc := 43) (v := (-2)) dX5_errorOfFind_43 (by decide) ?_
      exact x_iret C hR0 rfl (Nat.le_of_ble_eq_true rfl) (Nat.le_of_ble_eq_true rfl) ⟨(by unfold efF; rw [c_5, if_neg (by decide), nI_clamp (by omega)]; rw [if_pos (by first | exact Or.inl c_22 | exact Or.inr (Or.inl c_26) | exact Or.inr (Or.inr (Or.inl c_32)) | exact Or.inr (Or.inr (Or.inr (Int32.not_le.mp c_40))))]), rfl, rfl⟩ dX5_errorOfFind_45
    refine x_iload_n C (pc := 25) 4 dX5_errorOfFind_25 rfl ?_
    refine x_if_lt C (pc := 26) (tgt := 43) dX5_errorOfFind_26 (by decide) (fun c_26 => ?_) (fun c_26 => ?_)
    · refine x_bipush C (pc := 43) (v := (-2)) dX5_errorOfFind_43 (by decide) ?_
      exact x_iret C hR0 rfl (Nat.le_of_ble_eq_true rfl) (Nat.le_of_ble_eq_true rfl) ⟨(by unfold efF; rw [c_5, if_neg (by decide), nI_clamp (by omega)]; rw [if_pos (by first | exact Or.inl c_22 | exact Or.inr (Or.inl c_26) | exact Or.inr (Or.inr (Or.inl c_32)) | exact Or.inr (Or.inr (Or.inr (Int32.not_le.mp c_40))))]), rfl, rfl⟩ dX5_errorOfFind_45
    refine x_iload_n C (pc := 29) 3 dX5_errorOfFind_29 rfl ?_
    refine x_iload C (pc := 30) 0 dX5_errorOfFind_30 rfl ?_
    refine x_icmp_gt C (pc := 32) (tgt := 43) dX5_errorOfFind_32 (by decide) (fun c_32 => ?_) (fun c_32 => ?_)
    · refine x_bipush C (pc := 43) (v := (-2)) dX5_errorOfFind_43 (by decide) ?_
      exact x_iret C hR0 rfl (Nat.le_of_ble_eq_true rfl) (Nat.le_of_ble_eq_true rfl) ⟨(by unfold efF; rw [c_5, if_neg (by decide), nI_clamp (by omega)]; rw [if_pos (by first | exact Or.inl c_22 | exact Or.inr (Or.inl c_26) | exact Or.inr (Or.inr (Or.inl c_32)) | exact Or.inr (Or.inr (Or.inr (Int32.not_le.mp c_40))))]), rfl, rfl⟩ dX5_errorOfFind_45
    refine x_iload_n C (pc := 35) 4 dX5_errorOfFind_35 rfl ?_
    refine x_iload C (pc := 36) 0 dX5_errorOfFind_36 rfl ?_
    refine x_iload_n C (pc := 38) 3 dX5_errorOfFind_38 rfl ?_
    refine x_isub C (pc := 39) (v := (sizF (pd j)) - a) dX5_errorOfFind_39 rfl ?_
    refine x_icmp_le C (pc := 40) (tgt := 46) dX5_errorOfFind_40 (by decide) (fun c_40 => ?_) (fun c_40 => ?_)
    · refine x_aload_n C (pc := 46) 1 dX5_errorOfFind_46 rfl ?_
      refine x_get C (pc := 47) (q := k) (v := .int (nI cw)) (ci := 5) rfl hn_X5_errorOfFind_X5 6 (by decide) fl_X5_errorOfFind_45 rfl (by omega) hR.ob rfl dX5_errorOfFind_47 ?_
      refine x_iload_n C (pc := 50) 2 dX5_errorOfFind_50 rfl ?_
      refine x_cSNiR C (pc := 51) (st := []) (c_X6_has l D z cI cZ cP cR N F cw j (by omega) (by omega)) ⟨va_cnB 2 C.2.2.2.2.1 gX5_errorOfFind_X6_has_n88 rfl rfl rfl (C.2.2.2.2.2.1.2.1 _ (List.mem_of_getElem? (i := 8) rfl)) (C.2.2.2.2.1 _ ni_X5_errorOfFind_RX6) hd_X6_has.2 ⟨Nat.le_of_ble_eq_true rfl, Nat.le_of_ble_eq_true rfl⟩, C.2.2.2.2.1 _ ns_X5_errorOfFind_X6_has, trivial⟩ rfl rfl (Nat.le_of_ble_eq_true rfl) dX5_errorOfFind_51 ⟨Nat.le_of_ble_eq_true rfl, Nat.le_of_ble_eq_true rfl⟩ ?_
      refine x_bz_eq C (pc := 54) (tgt := 62) dX5_errorOfFind_54 (by decide) (fun c_54 => ?_) (fun c_54 => ?_)
      · refine x_iconst C (pc := 62) (v := 0) dX5_errorOfFind_62 (by decide) ?_
        exact x_iret C hR0 rfl (Nat.le_of_ble_eq_true rfl) (Nat.le_of_ble_eq_true rfl) ⟨(by unfold efF; rw [c_5, if_neg (by decide), nI_clamp (by omega)]; rw [if_neg (by rintro (h | h | h | h); exact c_22 h; exact c_26 h; exact c_32 h; exact absurd c_40 (Int32.not_le.mpr h)), if_neg (by rw [c_54]; decide)]), rfl, rfl⟩ dX5_errorOfFind_63
      refine x_bipush C (pc := 57) (v := (-5)) dX5_errorOfFind_57 (by decide) ?_
      refine x_goto C (pc := 59) (tgt := 63) dX5_errorOfFind_59 (by decide) ?_
      exact x_iret C hR0 rfl (Nat.le_of_ble_eq_true rfl) (Nat.le_of_ble_eq_true rfl) ⟨(by unfold efF; rw [c_5, if_neg (by decide), nI_clamp (by omega)]; rw [if_neg (by rintro (h | h | h | h); exact c_22 h; exact c_26 h; exact c_32 h; exact absurd c_40 (Int32.not_le.mpr h)), if_pos c_54]), rfl, rfl⟩ dX5_errorOfFind_63
    refine x_bipush C (pc := 43) (v := (-2)) dX5_errorOfFind_43 (by decide) ?_
    exact x_iret C hR0 rfl (Nat.le_of_ble_eq_true rfl) (Nat.le_of_ble_eq_true rfl) ⟨(by unfold efF; rw [c_5, if_neg (by decide), nI_clamp (by omega)]; rw [if_pos (by first | exact Or.inl c_22 | exact Or.inr (Or.inl c_26) | exact Or.inr (Or.inr (Or.inl c_32)) | exact Or.inr (Or.inr (Or.inr (Int32.not_le.mp c_40))))]), rfl, rfl⟩ dX5_errorOfFind_45
  refine x_iconst C (pc := 8) (v := (-1)) dX5_errorOfFind_8 (by decide) ?_
  exact x_iret C hR0 rfl (Nat.le_of_ble_eq_true rfl) (Nat.le_of_ble_eq_true rfl) ⟨(by unfold efF; rw [c_5]; rfl), rfl, rfl⟩ dX5_errorOfFind_9
theorem fl_X5_leadBy_11 : Cond.fieldLink RX5 11 "PileRecount$Recount" "rows" "[LPileRecount$Pile;" ∈ wsX5_leadBy := by decide +kernel
theorem fl_X5_leadBy_18 : Cond.fieldLink RX5 18 "PileRecount$Recount" "winner" "I" ∈ wsX5_leadBy := by decide +kernel
theorem fl_X5_leadBy_39 : Cond.fieldLink RX5 39 "PileRecount$Recount" "piles" "I" ∈ wsX5_leadBy := by decide +kernel
theorem hn_X5_leadBy_X5 : ∀ w ∈ wsX50, w ∈ wsX5_leadBy := fun _ h => List.mem_cons_of_mem _ (List.mem_append_left _ (List.mem_append_right _ h))
theorem ni_X5_leadBy_RX6 : Cond.initialized RX6 ∈ wsX5_leadBy := by decide +kernel
theorem ns_X5_leadBy_X6_has : Cond.static yX6_has ∈ wsX5_leadBy := by decide +kernel
set_option maxHeartbeats 4000000 in
set_option maxRecDepth 100000 in
theorem c_X5_leadBy (l : Launch) (D : va_G) (z : Nat) (cI cZ cP cR : ClassId) (N : Nat) (F : Nat → va_E) (k n : Nat) (wi cp cs rl ch sp : Int32) (pd : Nat → Nat → Int32) (bs od : Nat → Int32) (w : Nat) (hR : isRec z cI cP F k (nI n) wi cp cs rl ch sp pd bs od) (hk : k + 14 ≤ N) (hn : n ≤ 10) (hw : w < 1024) : gMi l yX5_leadBy wsX5_leadBy ({ frames := 1, cells := 0, slots := 0, locals := 21 }) D z cI cZ cP cR N F [.ref (z + k), .int (nI w)] (gRes (leadF wi pd n w) N (fun F2 => F2 = F)) 0 0 := by
  refine gMi.of (cc := cX5_leadBy) (maxL := 4) (ret := (some .int)) (by decide) rfl (Nat.le_of_ble_eq_true rfl) [(0, .ref (z + k)), (1, .int (nI w))] rfl ?_
  intro pg ev sg mg bel me cg C hR0
  refine x_iconst C (pc := 0) (v := 0) dX5_leadBy_0 (by decide) ?_
  refine x_istore_n C (pc := 1) [(2, .int 0), (0, .ref (z + k)), (1, .int (nI w))] dX5_leadBy_1 (by decide) rfl ?_
  refine x_iconst C (pc := 2) (v := 0) dX5_leadBy_2 (by decide) ?_
  refine x_istore_n C (pc := 3) [(3, .int 0), (2, .int 0), (0, .ref (z + k)), (1, .int (nI w))] dX5_leadBy_3 (by decide) rfl ?_
  refine x_sub [2, 3, 1, 0] _ rfl ?_
  refine x_loop2 (A1 := Nat) (A2 := Int32) (pc := 4) (st := []) (fun j acc => n - j) (fun j acc => (j ≤ n) ∧ (acc = gSum (fun i => if w.testBit i = true then fouF wi (pd i) else repF wi (pd i)) j)) (fun j acc => N) (fun j acc => F) (fun j acc => 0) (fun j acc => 0) (fun j acc => [(0, .ref (z + k)), (1, .int (nI w)), (2, .int acc), (3, .int (nI j))]) 0 0 ⟨(Nat.zero_le _), rfl⟩ rfl rfl rfl rfl rfl ?_
  rintro j acc ⟨hj, hacc⟩ ih_4
  try dsimp only at ih_4
  refine x_iload_n C (pc := 4) 3 dX5_leadBy_4 rfl ?_
  refine x_aload_n C (pc := 5) 0 dX5_leadBy_5 rfl ?_
  refine x_get C (pc := 6) (q := k) (v := .int (nI n)) (ci := 5) rfl hn_X5_leadBy_X5 1 (by decide) fl_X5_leadBy_39 rfl (by omega) hR.ob rfl dX5_leadBy_6 ?_
  refine x_icmpN_ge C (a := j) (b := n) (pc := 9) (tgt := 58) (by omega) (by omega) dX5_leadBy_9 (by decide) (fun c_9 => ?_) (fun c_9 => ?_)
  · refine x_iload_n C (pc := 58) 2 dX5_leadBy_58 rfl ?_
    exact x_iret C hR0 rfl (Nat.le_of_ble_eq_true rfl) (Nat.le_of_ble_eq_true rfl) ⟨(by rw [hacc, show j = n by omega]; rfl), rfl, rfl⟩ dX5_leadBy_59
  refine x_iload_n C (pc := 12) 2 dX5_leadBy_12 rfl ?_
  refine x_iload_n C (pc := 13) 1 dX5_leadBy_13 rfl ?_
  refine x_iload_n C (pc := 14) 3 dX5_leadBy_14 rfl ?_
  refine x_cSNiR C (pc := 15) (st := [.int acc]) (c_X6_has l D z cI cZ cP cR N F w j (by omega) (by omega)) ⟨va_cnB 2 C.2.2.2.2.1 gX5_leadBy_X6_has_n88 rfl rfl rfl (C.2.2.2.2.2.1.2.1 _ (List.mem_of_getElem? (i := 8) rfl)) (C.2.2.2.2.1 _ ni_X5_leadBy_RX6) hd_X6_has.2 ⟨Nat.le_of_ble_eq_true rfl, Nat.le_of_ble_eq_true rfl⟩, C.2.2.2.2.1 _ ns_X5_leadBy_X6_has, trivial⟩ rfl rfl (Nat.le_of_ble_eq_true rfl) dX5_leadBy_15 ⟨Nat.le_of_ble_eq_true rfl, Nat.le_of_ble_eq_true rfl⟩ ?_
  refine x_bz_eq C (pc := 18) (tgt := 37) dX5_leadBy_18 (by decide) (fun c_18 => ?_) (fun c_18 => ?_)
  · refine x_aload_n C (pc := 37) 0 dX5_leadBy_37 rfl ?_
    refine x_get C (pc := 38) (q := k) (v := .ref (z + (k + 1))) (ci := 5) rfl hn_X5_leadBy_X5 0 (by decide) fl_X5_leadBy_11 rfl (by omega) hR.ob rfl dX5_leadBy_38 ?_
    refine x_iload_n C (pc := 41) 3 dX5_leadBy_41 rfl ?_
    refine xr_row C (pc := 42) (j := j) hR (by omega) rfl (by omega) dX5_leadBy_42 ?_
    refine x_aload_n C (pc := 43) 0 dX5_leadBy_43 rfl ?_
    refine x_get C (pc := 44) (q := k) (v := .int wi) (ci := 5) rfl hn_X5_leadBy_X5 2 (by decide) fl_X5_leadBy_18 rfl (by omega) hR.ob rfl dX5_leadBy_44 ?_
    refine x_cViR C (pc := 47) (st := [.int acc]) (c_X3_reportedLead l D z cI cZ cP cR N F (k + 2 + j) (pd j) (by omega) (hR.pile (by omega)) wi) (cwV 1 C.2.2.2.2.1 gX5_leadBy_X3_reportedLead rfl rfl rfl hd_X3_reportedLead ⟨Nat.le_of_ble_eq_true rfl, Nat.le_of_ble_eq_true rfl⟩) (by omega) (hR.pile (by omega)) rfl rfl rfl (Nat.le_of_ble_eq_true rfl) dX5_leadBy_47 ⟨Nat.le_of_ble_eq_true rfl, Nat.le_of_ble_eq_true rfl⟩ ?_
    refine x_iadd C (pc := 50) (v := acc + (repF wi (pd j))) dX5_leadBy_50 rfl ?_
    refine x_istore_n C (pc := 51) [(2, .int (acc + (repF wi (pd j)))), (0, .ref (z + k)), (1, .int (nI w)), (3, .int (nI j))] dX5_leadBy_51 (by decide) rfl ?_
    refine x_iinc C (pc := 52) 3 [(3, .int (nI (j + 1))), (2, .int (acc + (repF wi (pd j)))), (0, .ref (z + k)), (1, .int (nI w))] dX5_leadBy_52 rfl (nI_inc j) (by decide) rfl ?_
    refine x_goto C (pc := 55) (tgt := 4) dX5_leadBy_55 (by decide) ?_
    exact x_sub [2, 3, 1, 0] _ rfl (ih_4 (j + 1) (acc + (repF wi (pd j))) ⟨(by omega), (by rw [hacc]; show _ = gSum _ j + _; dsimp only; rw [c_18]; rfl)⟩ (by omega))
  refine x_aload_n C (pc := 21) 0 dX5_leadBy_21 rfl ?_
  refine x_get C (pc := 22) (q := k) (v := .ref (z + (k + 1))) (ci := 5) rfl hn_X5_leadBy_X5 0 (by decide) fl_X5_leadBy_11 rfl (by omega) hR.ob rfl dX5_leadBy_22 ?_
  refine x_iload_n C (pc := 25) 3 dX5_leadBy_25 rfl ?_
  refine xr_row C (pc := 26) (j := j) hR (by omega) rfl (by omega) dX5_leadBy_26 ?_
  refine x_aload_n C (pc := 27) 0 dX5_leadBy_27 rfl ?_
  refine x_get C (pc := 28) (q := k) (v := .int wi) (ci := 5) rfl hn_X5_leadBy_X5 2 (by decide) fl_X5_leadBy_18 rfl (by omega) hR.ob rfl dX5_leadBy_28 ?_
  refine x_cViR C (pc := 31) (st := [.int acc]) (c_X3_foundLead l D z cI cZ cP cR N F (k + 2 + j) (pd j) (by omega) (hR.pile (by omega)) wi) (cwV 1 C.2.2.2.2.1 gX5_leadBy_X3_foundLead rfl rfl rfl hd_X3_foundLead ⟨Nat.le_of_ble_eq_true rfl, Nat.le_of_ble_eq_true rfl⟩) (by omega) (hR.pile (by omega)) rfl rfl rfl (Nat.le_of_ble_eq_true rfl) dX5_leadBy_31 ⟨Nat.le_of_ble_eq_true rfl, Nat.le_of_ble_eq_true rfl⟩ ?_
  refine x_goto C (pc := 34) (tgt := 50) dX5_leadBy_34 (by decide) ?_
  refine x_iadd C (pc := 50) (v := acc + (fouF wi (pd j))) dX5_leadBy_50 rfl ?_
  refine x_istore_n C (pc := 51) [(2, .int (acc + (fouF wi (pd j)))), (0, .ref (z + k)), (1, .int (nI w)), (3, .int (nI j))] dX5_leadBy_51 (by decide) rfl ?_
  refine x_iinc C (pc := 52) 3 [(3, .int (nI (j + 1))), (2, .int (acc + (fouF wi (pd j)))), (0, .ref (z + k)), (1, .int (nI w))] dX5_leadBy_52 rfl (nI_inc j) (by decide) rfl ?_
  refine x_goto C (pc := 55) (tgt := 4) dX5_leadBy_55 (by decide) ?_
  exact x_sub [2, 3, 1, 0] _ rfl (ih_4 (j + 1) (acc + (fouF wi (pd j))) ⟨(by omega), (by rw [hacc]; show _ = gSum _ j + _; dsimp only; rw [c_18]; rfl)⟩ (by omega))
set_option maxHeartbeats 4000000 in
set_option maxRecDepth 100000 in
theorem c_X5_isRight (l : Launch) (D : va_G) (z : Nat) (cI cZ cP cR : ClassId) (N : Nat) (F : Nat → va_E) (k n : Nat) (wi cp cs rl ch sp : Int32) (pd : Nat → Nat → Int32) (bs od : Nat → Int32) (hR : isRec z cI cP F k (nI n) wi cp cs rl ch sp pd bs od) (hk : k + 14 ≤ N) (hn : n ≤ 10) : gMi l yX5_isRight wsX5_isRight ({ frames := 2, cells := 0, slots := 0, locals := 44 }) D z cI cZ cP cR N F [.ref (z + k)] (gRes (bz (decide (0 < leadF wi pd n (2 ^ n - 1)))) N (fun F2 => F2 = F)) 0 0 := by
  refine gMi.of (cc := cX5_isRight) (maxL := 1) (ret := (some .boolean)) (by decide) rfl (Nat.le_of_ble_eq_true rfl) [(0, .ref (z + k))] rfl ?_
  intro pg ev sg mg bel me cg C hR0
  refine x_aload_n C (pc := 0) 0 dX5_isRight_0 rfl ?_
  refine x_aload_n C (pc := 1) 0 dX5_isRight_1 rfl ?_
  refine x_cViR C (pc := 2) (st := [.ref (z + k)]) (c_X5_allPiles l D z cI cZ cP cR N F k n wi cp cs rl ch sp pd bs od hR (by omega) (by omega)) (cwV 0 C.2.2.2.2.1 gX5_isRight_X5_allPiles rfl rfl rfl hd_X5_allPiles ⟨Nat.le_of_ble_eq_true rfl, Nat.le_of_ble_eq_true rfl⟩) (by omega) hR.ob rfl rfl rfl (Nat.le_of_ble_eq_true rfl) dX5_isRight_2 ⟨Nat.le_of_ble_eq_true rfl, Nat.le_of_ble_eq_true rfl⟩ ?_
  refine x_cViR C (pc := 5) (st := []) (c_X5_leadBy l D z cI cZ cP cR N F k n wi cp cs rl ch sp pd bs od (2 ^ n - 1) hR (by omega) (by omega) (by have := two_lt hn; omega)) (cwV 1 C.2.2.2.2.1 gX5_isRight_X5_leadBy rfl rfl rfl hd_X5_leadBy ⟨Nat.le_of_ble_eq_true rfl, Nat.le_of_ble_eq_true rfl⟩) (by omega) hR.ob rfl rfl rfl (Nat.le_of_ble_eq_true rfl) dX5_isRight_5 ⟨Nat.le_of_ble_eq_true rfl, Nat.le_of_ble_eq_true rfl⟩ ?_
  refine x_if_le C (pc := 8) (tgt := 15) dX5_isRight_8 (by decide) (fun c_8 => ?_) (fun c_8 => ?_)
  · refine x_iconst C (pc := 15) (v := 0) dX5_isRight_15 (by decide) ?_
    exact x_iret C hR0 rfl (Nat.le_of_ble_eq_true rfl) (Nat.le_of_ble_eq_true rfl) ⟨(by rw [decide_eq_false (Int32.not_lt.mpr c_8)]; rfl), rfl, rfl⟩ dX5_isRight_16
  refine x_iconst C (pc := 11) (v := 1) dX5_isRight_11 (by decide) ?_
  refine x_goto C (pc := 12) (tgt := 16) dX5_isRight_12 (by decide) ?_
  exact x_iret C hR0 rfl (Nat.le_of_ble_eq_true rfl) (Nat.le_of_ble_eq_true rfl) ⟨(by rw [decide_eq_true (Int32.not_le.mp c_8)]; rfl), rfl, rfl⟩ dX5_isRight_16
theorem fl_X5_worseOf_11 : Cond.fieldLink RX5 11 "PileRecount$Recount" "rows" "[LPileRecount$Pile;" ∈ wsX5_worseOf := by decide +kernel
theorem fl_X5_worseOf_18 : Cond.fieldLink RX5 18 "PileRecount$Recount" "winner" "I" ∈ wsX5_worseOf := by decide +kernel
theorem fl_X5_worseOf_39 : Cond.fieldLink RX5 39 "PileRecount$Recount" "piles" "I" ∈ wsX5_worseOf := by decide +kernel
theorem hn_X5_worseOf_X5 : ∀ w ∈ wsX50, w ∈ wsX5_worseOf := fun _ h => List.mem_cons_of_mem _ (List.mem_append_left _ (List.mem_append_right _ h))
theorem ni_X5_worseOf_RX6 : Cond.initialized RX6 ∈ wsX5_worseOf := by decide +kernel
theorem ns_X5_worseOf_X6_has : Cond.static yX6_has ∈ wsX5_worseOf := by decide +kernel
set_option maxHeartbeats 4000000 in
set_option maxRecDepth 100000 in
theorem c_X5_worseOf (l : Launch) (D : va_G) (z : Nat) (cI cZ cP cR : ClassId) (N : Nat) (F : Nat → va_E) (k n : Nat) (wi cp cs rl ch sp : Int32) (pd : Nat → Nat → Int32) (bs od : Nat → Int32) (w : Nat) (hR : isRec z cI cP F k (nI n) wi cp cs rl ch sp pd bs od) (hk : k + 14 ≤ N) (hn : n ≤ 10) (hw : w < 1024) : gMi l yX5_worseOf wsX5_worseOf ({ frames := 2, cells := 0, slots := 0, locals := 42 }) D z cI cZ cP cR N F [.ref (z + k), .int (nI w)] (gRes (nI (worF wi pd w n)) N (fun F2 => F2 = F)) 0 0 := by
  refine gMi.of (cc := cX5_worseOf) (maxL := 4) (ret := (some .int)) (by decide) rfl (Nat.le_of_ble_eq_true rfl) [(0, .ref (z + k)), (1, .int (nI w))] rfl ?_
  intro pg ev sg mg bel me cg C hR0
  refine x_iconst C (pc := 0) (v := 0) dX5_worseOf_0 (by decide) ?_
  refine x_istore_n C (pc := 1) [(2, .int 0), (0, .ref (z + k)), (1, .int (nI w))] dX5_worseOf_1 (by decide) rfl ?_
  refine x_iconst C (pc := 2) (v := 0) dX5_worseOf_2 (by decide) ?_
  refine x_istore_n C (pc := 3) [(3, .int 0), (2, .int 0), (0, .ref (z + k)), (1, .int (nI w))] dX5_worseOf_3 (by decide) rfl ?_
  refine x_sub [2, 3, 1, 0] _ rfl ?_
  refine x_loop2 (A1 := Nat) (A2 := Nat) (pc := 4) (st := []) (fun j acc => n - j) (fun j acc => (j ≤ n) ∧ (acc = worF wi pd w j)) (fun j acc => N) (fun j acc => F) (fun j acc => 0) (fun j acc => 0) (fun j acc => [(0, .ref (z + k)), (1, .int (nI w)), (2, .int (nI acc)), (3, .int (nI j))]) 0 0 ⟨(Nat.zero_le _), rfl⟩ rfl rfl rfl rfl rfl ?_
  rintro j acc ⟨hj, hacc⟩ ih_4
  try dsimp only at ih_4
  refine x_iload_n C (pc := 4) 3 dX5_worseOf_4 rfl ?_
  refine x_aload_n C (pc := 5) 0 dX5_worseOf_5 rfl ?_
  refine x_get C (pc := 6) (q := k) (v := .int (nI n)) (ci := 5) rfl hn_X5_worseOf_X5 1 (by decide) fl_X5_worseOf_39 rfl (by omega) hR.ob rfl dX5_worseOf_6 ?_
  refine x_icmpN_ge C (a := j) (b := n) (pc := 9) (tgt := 45) (by omega) (by omega) dX5_worseOf_9 (by decide) (fun c_9 => ?_) (fun c_9 => ?_)
  · refine x_iload_n C (pc := 45) 2 dX5_worseOf_45 rfl ?_
    exact x_iret C hR0 rfl (Nat.le_of_ble_eq_true rfl) (Nat.le_of_ble_eq_true rfl) ⟨(by rw [hacc, show j = n by omega]), rfl, rfl⟩ dX5_worseOf_46
  refine x_iload_n C (pc := 12) 1 dX5_worseOf_12 rfl ?_
  refine x_iload_n C (pc := 13) 3 dX5_worseOf_13 rfl ?_
  refine x_cSNiR C (pc := 14) (st := []) (c_X6_has l D z cI cZ cP cR N F w j (by omega) (by omega)) ⟨va_cnB 2 C.2.2.2.2.1 gX5_worseOf_X6_has_n88 rfl rfl rfl (C.2.2.2.2.2.1.2.1 _ (List.mem_of_getElem? (i := 8) rfl)) (C.2.2.2.2.1 _ ni_X5_worseOf_RX6) hd_X6_has.2 ⟨Nat.le_of_ble_eq_true rfl, Nat.le_of_ble_eq_true rfl⟩, C.2.2.2.2.1 _ ns_X5_worseOf_X6_has, trivial⟩ rfl rfl (Nat.le_of_ble_eq_true rfl) dX5_worseOf_14 ⟨Nat.le_of_ble_eq_true rfl, Nat.le_of_ble_eq_true rfl⟩ ?_
  refine x_bz_eq C (pc := 17) (tgt := 39) dX5_worseOf_17 (by decide) (fun c_17 => ?_) (fun c_17 => ?_)
  · refine x_iinc C (pc := 39) 3 [(3, .int (nI (j + 1))), (0, .ref (z + k)), (1, .int (nI w)), (2, .int (nI acc))] dX5_worseOf_39 rfl (nI_inc j) (by decide) rfl ?_
    refine x_goto C (pc := 42) (tgt := 4) dX5_worseOf_42 (by decide) ?_
    exact x_sub [1, 2, 3, 0] _ rfl (ih_4 (j + 1) acc ⟨(by omega), (by rw [hacc]; show _ = worF wi pd w j + _; first | (rw [c_17, c_33]; rfl) | (rw [c_17]; rfl))⟩ (by omega))
  refine x_aload_n C (pc := 20) 0 dX5_worseOf_20 rfl ?_
  refine x_get C (pc := 21) (q := k) (v := .ref (z + (k + 1))) (ci := 5) rfl hn_X5_worseOf_X5 0 (by decide) fl_X5_worseOf_11 rfl (by omega) hR.ob rfl dX5_worseOf_21 ?_
  refine x_iload_n C (pc := 24) 3 dX5_worseOf_24 rfl ?_
  refine xr_row C (pc := 25) (j := j) hR (by omega) rfl (by omega) dX5_worseOf_25 ?_
  refine x_aload_n C (pc := 26) 0 dX5_worseOf_26 rfl ?_
  refine x_get C (pc := 27) (q := k) (v := .int wi) (ci := 5) rfl hn_X5_worseOf_X5 2 (by decide) fl_X5_worseOf_18 rfl (by omega) hR.ob rfl dX5_worseOf_27 ?_
  refine x_cViR C (pc := 30) (st := []) (c_X3_isWorse l D z cI cZ cP cR N F (k + 2 + j) (pd j) (by omega) (hR.pile (by omega)) wi) (cwV 1 C.2.2.2.2.1 gX5_worseOf_X3_isWorse rfl rfl rfl hd_X3_isWorse ⟨Nat.le_of_ble_eq_true rfl, Nat.le_of_ble_eq_true rfl⟩) (by omega) (hR.pile (by omega)) rfl rfl rfl (Nat.le_of_ble_eq_true rfl) dX5_worseOf_30 ⟨Nat.le_of_ble_eq_true rfl, Nat.le_of_ble_eq_true rfl⟩ ?_
  refine x_bz_eq C (pc := 33) (tgt := 39) dX5_worseOf_33 (by decide) (fun c_33 => ?_) (fun c_33 => ?_)
  · refine x_iinc C (pc := 39) 3 [(3, .int (nI (j + 1))), (0, .ref (z + k)), (1, .int (nI w)), (2, .int (nI acc))] dX5_worseOf_39 rfl (nI_inc j) (by decide) rfl ?_
    refine x_goto C (pc := 42) (tgt := 4) dX5_worseOf_42 (by decide) ?_
    exact x_sub [1, 2, 3, 0] _ rfl (ih_4 (j + 1) acc ⟨(by omega), (by rw [hacc]; show _ = worF wi pd w j + _; first | (rw [c_17, c_33]; rfl) | (rw [c_17]; rfl))⟩ (by omega))
  refine x_iinc C (pc := 36) 2 [(2, .int (nI (acc + 1))), (0, .ref (z + k)), (1, .int (nI w)), (3, .int (nI j))] dX5_worseOf_36 rfl (nI_inc acc) (by decide) rfl ?_
  refine x_iinc C (pc := 39) 3 [(3, .int (nI (j + 1))), (2, .int (nI (acc + 1))), (0, .ref (z + k)), (1, .int (nI w))] dX5_worseOf_39 rfl (nI_inc j) (by decide) rfl ?_
  refine x_goto C (pc := 42) (tgt := 4) dX5_worseOf_42 (by decide) ?_
  exact x_sub [2, 3, 1, 0] _ rfl (ih_4 (j + 1) (acc + 1) ⟨(by omega), (by rw [hacc]; show _ = worF wi pd w j + _; first | (rw [c_17, c_33]; rfl) | (rw [c_17]; rfl))⟩ (by omega))
theorem fl_X5_needFor_11 : Cond.fieldLink RX5 11 "PileRecount$Recount" "rows" "[LPileRecount$Pile;" ∈ wsX5_needFor := by decide +kernel
theorem fl_X5_needFor_18 : Cond.fieldLink RX5 18 "PileRecount$Recount" "winner" "I" ∈ wsX5_needFor := by decide +kernel
theorem fl_X5_needFor_22 : Cond.fieldLink RX5 22 "PileRecount$Recount" "bySwing" "[I" ∈ wsX5_needFor := by decide +kernel
theorem fl_X5_needFor_39 : Cond.fieldLink RX5 39 "PileRecount$Recount" "piles" "I" ∈ wsX5_needFor := by decide +kernel
theorem hn_X5_needFor_X5 : ∀ w ∈ wsX50, w ∈ wsX5_needFor := fun _ h => List.mem_cons_of_mem _ (List.mem_append_left _ (List.mem_append_right _ h))
theorem ni_X5_needFor_RX6 : Cond.initialized RX6 ∈ wsX5_needFor := by decide +kernel
theorem ns_X5_needFor_X6_has : Cond.static yX6_has ∈ wsX5_needFor := by decide +kernel
set_option maxHeartbeats 4000000 in
set_option maxRecDepth 100000 in
theorem c_X5_needFor (l : Launch) (D : va_G) (z : Nat) (cI cZ cP cR : ClassId) (N : Nat) (F : Nat → va_E) (k n : Nat) (wi cp cs rl ch sp : Int32) (pd : Nat → Nat → Int32) (bs od : Nat → Int32) (w : Nat) (lead : Int32) (hR : isRec z cI cP F k (nI n) wi cp cs rl ch sp pd bs od) (hk : k + 14 ≤ N) (hn : n ≤ 10) (hw : w < 1024) (pi : Nat → Nat) (hpi : piOK bs pi n) : gMi l yX5_needFor wsX5_needFor ({ frames := 2, cells := 0, slots := 0, locals := 42 }) D z cI cZ cP cR N F [.ref (z + k), .int lead, .int (nI w)] (gRes (opI (ndR (fun i => swF wi (pd i)) pi n w lead)) N (fun F2 => F2 = F)) 0 0 := by
  refine gMi.of (cc := cX5_needFor) (maxL := 7) (ret := (some .int)) (by decide) rfl (Nat.le_of_ble_eq_true rfl) [(0, .ref (z + k)), (1, .int lead), (2, .int (nI w))] rfl ?_
  intro pg ev sg mg bel me cg C hR0
  refine x_iload_n C (pc := 0) 1 dX5_needFor_0 rfl ?_
  refine x_if_gt C (pc := 1) (tgt := 6) dX5_needFor_1 (by decide) (fun c_1 => ?_) (fun c_1 => ?_)
  · refine x_iconst C (pc := 6) (v := 0) dX5_needFor_6 (by decide) ?_
    refine x_istore_n C (pc := 7) [(3, .int 0), (0, .ref (z + k)), (1, .int lead), (2, .int (nI w))] dX5_needFor_7 (by decide) rfl ?_
    refine x_iconst C (pc := 8) (v := 0) dX5_needFor_8 (by decide) ?_
    refine x_istore C (pc := 9) [(4, .int 0), (3, .int 0), (0, .ref (z + k)), (1, .int lead), (2, .int (nI w))] dX5_needFor_9 (by decide) rfl ?_
    refine x_iconst C (pc := 11) (v := 0) dX5_needFor_11 (by decide) ?_
    refine x_istore C (pc := 12) [(5, .int 0), (4, .int 0), (3, .int 0), (0, .ref (z + k)), (1, .int lead), (2, .int (nI w))] dX5_needFor_12 (by decide) rfl ?_
    refine x_sub [3, 4, 5, 2, 1, 0] _ rfl ?_
    refine x_loop3 (A1 := Nat) (A2 := Int32) (A3 := Nat) (pc := 14) (st := []) (fun r tog tak => n - r) (fun r tog tak => (r ≤ n) ∧ (tak ≤ r) ∧ (ndG (fun i => swF wi (pd i)) pi w lead (n - r) r tog tak = ndG (fun i => swF wi (pd i)) pi w lead n 0 0 0)) (fun r tog tak => N) (fun r tog tak => F) (fun r tog tak => 0) (fun r tog tak => 0) (fun r tog tak => [(0, .ref (z + k)), (1, .int lead), (2, .int (nI w)), (3, .int tog), (4, .int (nI tak)), (5, .int (nI r))]) 0 0 0 ⟨(Nat.zero_le _), (Nat.le_refl _), rfl⟩ rfl rfl rfl rfl rfl ?_
    rintro r tog tak ⟨hr, htk, hnd⟩ ih_14
    try dsimp only at ih_14
    refine x_iload C (pc := 14) 5 dX5_needFor_14 rfl ?_
    refine x_aload_n C (pc := 16) 0 dX5_needFor_16 rfl ?_
    refine x_get C (pc := 17) (q := k) (v := .int (nI n)) (ci := 5) rfl hn_X5_needFor_X5 1 (by decide) fl_X5_needFor_39 rfl (by omega) hR.ob rfl dX5_needFor_17 ?_
    refine x_icmpN_ge C (a := r) (b := n) (pc := 20) (tgt := 75) (by omega) (by omega) dX5_needFor_20 (by decide) (fun c_20 => ?_) (fun c_20 => ?_)
    · refine x_bipush C (pc := 75) (v := (-6)) dX5_needFor_75 (by decide) ?_
      exact x_iret C hR0 rfl (Nat.le_of_ble_eq_true rfl) (Nat.le_of_ble_eq_true rfl) ⟨(by rw [ndR, if_neg (Int32.not_le.mpr c_1), ← hnd, show n - r = 0 by omega]; rfl), rfl, rfl⟩ dX5_needFor_77
    obtain ⟨hb, hpr⟩ := hpi r (by omega)
    have hf : n - r = (n - (r + 1)) + 1 := by omega
    refine x_aload_n C (pc := 23) 0 dX5_needFor_23 rfl ?_
    refine x_get C (pc := 24) (q := k) (v := .ref (z + (k + 12))) (ci := 5) rfl hn_X5_needFor_X5 3 (by decide) fl_X5_needFor_22 rfl (by omega) hR.ob rfl dX5_needFor_24 ?_
    refine x_iload C (pc := 27) 5 dX5_needFor_27 rfl ?_
    refine x_ialdE C (pc := 29) (q := k + 12) (j := r) (f := bs) (by omega) hR.bs rfl (by omega) (by decide) dX5_needFor_29 ?_
    refine x_istore C (pc := 30) [(6, .int (bs r)), (0, .ref (z + k)), (1, .int lead), (2, .int (nI w)), (3, .int tog), (4, .int (nI tak)), (5, .int (nI r))] dX5_needFor_30 (by decide) rfl ?_
    refine x_eqL [(6, .int (nI (pi r))), (0, .ref (z + k)), (1, .int lead), (2, .int (nI w)), (3, .int tog), (4, .int (nI tak)), (5, .int (nI r))] (by rw [hb]) ?_
    refine x_iload_n C (pc := 32) 3 dX5_needFor_32 rfl ?_
    refine x_iload C (pc := 33) 0 dX5_needFor_33 rfl ?_
    refine x_cSNiR C (pc := 35) (st := []) (c_X6_has l D z cI cZ cP cR N F w (pi r) (by omega) (by omega)) ⟨va_cnB 2 C.2.2.2.2.1 gX5_needFor_X6_has_n88 rfl rfl rfl (C.2.2.2.2.2.1.2.1 _ (List.mem_of_getElem? (i := 8) rfl)) (C.2.2.2.2.1 _ ni_X5_needFor_RX6) hd_X6_has.2 ⟨Nat.le_of_ble_eq_true rfl, Nat.le_of_ble_eq_true rfl⟩, C.2.2.2.2.1 _ ns_X5_needFor_X6_has, trivial⟩ rfl rfl (Nat.le_of_ble_eq_true rfl) dX5_needFor_35 ⟨Nat.le_of_ble_eq_true rfl, Nat.le_of_ble_eq_true rfl⟩ ?_
    refine x_bz_ne C (pc := 38) (tgt := 69) dX5_needFor_38 (by decide) (fun c_38 => ?_) (fun c_38 => ?_)
    · have hst : ndG (fun i => swF wi (pd i)) pi w lead (n - r) r tog tak = ndG (fun i => swF wi (pd i)) pi w lead (n - (r + 1)) (r + 1) tog tak := by rw [hf, ndG, if_pos c_38]
      refine x_iinc C (pc := 69) 6 [(5, .int (nI (r + 1))), (6, .int (nI (pi r))), (0, .ref (z + k)), (1, .int lead), (2, .int (nI w)), (3, .int tog), (4, .int (nI tak))] dX5_needFor_69 rfl (nI_inc r) (by decide) rfl ?_
      refine x_goto C (pc := 72) (tgt := 14) dX5_needFor_72 (by decide) ?_
      exact x_sub [2, 3, 4, 5, 6, 0] _ rfl (ih_14 (r + 1) tog tak ⟨(by omega), (by omega), (hst.symm.trans hnd)⟩ (by omega))
    refine x_iload_n C (pc := 41) 4 dX5_needFor_41 rfl ?_
    refine x_aload_n C (pc := 42) 1 dX5_needFor_42 rfl ?_
    refine x_get C (pc := 43) (q := k) (v := .ref (z + (k + 1))) (ci := 5) rfl hn_X5_needFor_X5 0 (by decide) fl_X5_needFor_11 rfl (by omega) hR.ob rfl dX5_needFor_43 ?_
    refine x_iload C (pc := 46) 0 dX5_needFor_46 rfl ?_
    refine xr_row C (pc := 48) (j := pi r) hR (by omega) rfl (by omega) dX5_needFor_48 ?_
    refine x_aload_n C (pc := 49) 1 dX5_needFor_49 rfl ?_
    refine x_get C (pc := 50) (q := k) (v := .int wi) (ci := 5) rfl hn_X5_needFor_X5 2 (by decide) fl_X5_needFor_18 rfl (by omega) hR.ob rfl dX5_needFor_50 ?_
    refine x_cViR C (pc := 53) (st := [.int tog]) (c_X3_swing l D z cI cZ cP cR N F (k + 2 + (pi r)) (pd (pi r)) (by omega) (hR.pile (by omega)) wi) (cwV 1 C.2.2.2.2.1 gX5_needFor_X3_swing rfl rfl rfl hd_X3_swing ⟨Nat.le_of_ble_eq_true rfl, Nat.le_of_ble_eq_true rfl⟩) (by omega) (hR.pile (by omega)) rfl rfl rfl (Nat.le_of_ble_eq_true rfl) dX5_needFor_53 ⟨Nat.le_of_ble_eq_true rfl, Nat.le_of_ble_eq_true rfl⟩ ?_
    refine x_iadd C (pc := 56) (v := tog + (swF wi (pd (pi r)))) dX5_needFor_56 rfl ?_
    refine x_istore_n C (pc := 57) [(3, .int (tog + (swF wi (pd (pi r))))), (6, .int (nI (pi r))), (0, .ref (z + k)), (1, .int lead), (2, .int (nI w)), (4, .int (nI tak)), (5, .int (nI r))] dX5_needFor_57 (by decide) rfl ?_
    refine x_iinc C (pc := 58) 5 [(4, .int (nI (tak + 1))), (3, .int (tog + (swF wi (pd (pi r))))), (6, .int (nI (pi r))), (0, .ref (z + k)), (1, .int lead), (2, .int (nI w)), (5, .int (nI r))] dX5_needFor_58 rfl (nI_inc tak) (by decide) rfl ?_
    refine x_iload_n C (pc := 61) 1 dX5_needFor_61 rfl ?_
    refine x_iload_n C (pc := 62) 4 dX5_needFor_62 rfl ?_
    refine x_icmp_lt C (pc := 63) (tgt := 69) dX5_needFor_63 (by decide) (fun c_63 => ?_) (fun c_63 => ?_)
    · have hst : ndG (fun i => swF wi (pd i)) pi w lead (n - r) r tog tak = ndG (fun i => swF wi (pd i)) pi w lead (n - (r + 1)) (r + 1) (tog + swF wi (pd (pi r))) (tak + 1) := by rw [hf, ndG, if_neg (by rw [c_38]; decide), if_neg (Int32.not_le.mpr c_63)]
      refine x_iinc C (pc := 69) 6 [(5, .int (nI (r + 1))), (4, .int (nI (tak + 1))), (3, .int (tog + (swF wi (pd (pi r))))), (6, .int (nI (pi r))), (0, .ref (z + k)), (1, .int lead), (2, .int (nI w))] dX5_needFor_69 rfl (nI_inc r) (by decide) rfl ?_
      refine x_goto C (pc := 72) (tgt := 14) dX5_needFor_72 (by decide) ?_
      exact x_sub [4, 5, 6, 2, 1, 0] _ rfl (ih_14 (r + 1) (tog + (swF wi (pd (pi r)))) (tak + 1) ⟨(by omega), (by omega), (hst.symm.trans hnd)⟩ (by omega))
    refine x_iload C (pc := 66) 0 dX5_needFor_66 rfl ?_
    exact x_iret C hR0 rfl (Nat.le_of_ble_eq_true rfl) (Nat.le_of_ble_eq_true rfl) ⟨(by rw [ndR, if_neg (Int32.not_le.mpr c_1), ← hnd, hf, ndG, if_neg (by rw [c_38]; decide), if_pos (Int32.not_lt.mp c_63)]; rfl), rfl, rfl⟩ dX5_needFor_68
  refine x_iconst C (pc := 4) (v := 0) dX5_needFor_4 (by decide) ?_
  exact x_iret C hR0 rfl (Nat.le_of_ble_eq_true rfl) (Nat.le_of_ble_eq_true rfl) ⟨(by rw [ndR, if_pos (Int32.not_lt.mp c_1)]; rfl), rfl, rfl⟩ dX5_needFor_5
theorem fl_X5_needNow_45 : Cond.fieldLink RX5 45 "PileRecount$Recount" "countedSet" "I" ∈ wsX5_needNow := by decide +kernel
theorem hn_X5_needNow_X5 : ∀ w ∈ wsX50, w ∈ wsX5_needNow := fun _ h => List.mem_cons_of_mem _ (List.mem_append_left _ (List.mem_append_right _ h))
set_option maxHeartbeats 4000000 in
set_option maxRecDepth 100000 in
theorem c_X5_needNow (l : Launch) (D : va_G) (z : Nat) (cI cZ cP cR : ClassId) (N : Nat) (F : Nat → va_E) (k n cw : Nat) (wi cp rl ch sp : Int32) (pd : Nat → Nat → Int32) (bs od : Nat → Int32) (hR : isRec z cI cP F k (nI n) wi cp (nI cw) rl ch sp pd bs od) (hk : k + 14 ≤ N) (hn : n ≤ 10) (hcw : cw < 1024) (pi : Nat → Nat) (hpi : piOK bs pi n) : gMi l yX5_needNow wsX5_needNow ({ frames := 3, cells := 0, slots := 0, locals := 68 }) D z cI cZ cP cR N F [.ref (z + k)] (gRes (opI (ndR (fun i => swF wi (pd i)) pi n cw (leadF wi pd n cw))) N (fun F2 => F2 = F)) 0 0 := by
  refine gMi.of (cc := cX5_needNow) (maxL := 1) (ret := (some .int)) (by decide) rfl (Nat.le_of_ble_eq_true rfl) [(0, .ref (z + k))] rfl ?_
  intro pg ev sg mg bel me cg C hR0
  refine x_aload_n C (pc := 0) 0 dX5_needNow_0 rfl ?_
  refine x_aload_n C (pc := 1) 0 dX5_needNow_1 rfl ?_
  refine x_aload_n C (pc := 2) 0 dX5_needNow_2 rfl ?_
  refine x_get C (pc := 3) (q := k) (v := .int (nI cw)) (ci := 5) rfl hn_X5_needNow_X5 6 (by decide) fl_X5_needNow_45 rfl (by omega) hR.ob rfl dX5_needNow_3 ?_
  refine x_cViR C (pc := 6) (st := [.ref (z + k)]) (c_X5_leadBy l D z cI cZ cP cR N F k n wi cp (nI cw) rl ch sp pd bs od cw hR (by omega) (by omega) (by omega)) (cwV 1 C.2.2.2.2.1 gX5_needNow_X5_leadBy rfl rfl rfl hd_X5_leadBy ⟨Nat.le_of_ble_eq_true rfl, Nat.le_of_ble_eq_true rfl⟩) (by omega) hR.ob rfl rfl rfl (Nat.le_of_ble_eq_true rfl) dX5_needNow_6 ⟨Nat.le_of_ble_eq_true rfl, Nat.le_of_ble_eq_true rfl⟩ ?_
  refine x_aload_n C (pc := 9) 0 dX5_needNow_9 rfl ?_
  refine x_get C (pc := 10) (q := k) (v := .int (nI cw)) (ci := 5) rfl hn_X5_needNow_X5 6 (by decide) fl_X5_needNow_45 rfl (by omega) hR.ob rfl dX5_needNow_10 ?_
  refine x_cViR C (pc := 13) (st := []) (c_X5_needFor l D z cI cZ cP cR N F k n wi cp (nI cw) rl ch sp pd bs od cw (leadF wi pd n cw) hR (by omega) (by omega) (by omega) pi hpi) (cwV 2 C.2.2.2.2.1 gX5_needNow_X5_needFor rfl rfl rfl hd_X5_needFor ⟨Nat.le_of_ble_eq_true rfl, Nat.le_of_ble_eq_true rfl⟩) (by omega) hR.ob rfl rfl rfl (Nat.le_of_ble_eq_true rfl) dX5_needNow_13 ⟨Nat.le_of_ble_eq_true rfl, Nat.le_of_ble_eq_true rfl⟩ ?_
  exact x_iret C hR0 rfl (Nat.le_of_ble_eq_true rfl) (Nat.le_of_ble_eq_true rfl) ⟨rfl, rfl, rfl⟩ dX5_needNow_16
theorem fl_X5_greatestSwings_22 : Cond.fieldLink RX5 22 "PileRecount$Recount" "bySwing" "[I" ∈ wsX5_greatestSwings := by decide +kernel
theorem fl_X5_greatestSwings_39 : Cond.fieldLink RX5 39 "PileRecount$Recount" "piles" "I" ∈ wsX5_greatestSwings := by decide +kernel
theorem fl_X5_greatestSwings_45 : Cond.fieldLink RX5 45 "PileRecount$Recount" "countedSet" "I" ∈ wsX5_greatestSwings := by decide +kernel
theorem hn_X5_greatestSwings_X5 : ∀ w ∈ wsX50, w ∈ wsX5_greatestSwings := fun _ h => List.mem_cons_of_mem _ (List.mem_append_right _ h)
theorem ni_X5_greatestSwings_RX6 : Cond.initialized RX6 ∈ wsX5_greatestSwings := by decide +kernel
theorem ns_X5_greatestSwings_X6_has : Cond.static yX6_has ∈ wsX5_greatestSwings := by decide +kernel
set_option maxHeartbeats 4000000 in
set_option maxRecDepth 100000 in
theorem c_X5_greatestSwings (l : Launch) (D : va_G) (z : Nat) (cI cZ cP cR : ClassId) (N : Nat) (F : Nat → va_E) (k n cw : Nat) (wi cp rl ch sp : Int32) (pd : Nat → Nat → Int32) (bs od : Nat → Int32) (mm : Nat) (hR : isRec z cI cP F k (nI n) wi cp (nI cw) rl ch sp pd bs od) (hk : k + 14 ≤ N) (hn : n ≤ 10) (hcw : cw < 1024) (hmm : mm ≤ 10) (pi : Nat → Nat) (hpi : piOK bs pi n) : gMi l yX5_greatestSwings wsX5_greatestSwings ({ frames := 1, cells := 0, slots := 0, locals := 21 }) D z cI cZ cP cR N F [.ref (z + k), .int (nI mm)] (gRes (nI (gsG pi cw n 0 mm 0)) N (fun F2 => F2 = F)) 0 0 := by
  refine gMi.of (cc := cX5_greatestSwings) (maxL := 5) (ret := (some .int)) (by decide) rfl (Nat.le_of_ble_eq_true rfl) [(0, .ref (z + k)), (1, .int (nI mm))] rfl ?_
  intro pg ev sg mg bel me cg C hR0
  refine x_iconst C (pc := 0) (v := 0) dX5_greatestSwings_0 (by decide) ?_
  refine x_istore_n C (pc := 1) [(2, .int 0), (0, .ref (z + k)), (1, .int (nI mm))] dX5_greatestSwings_1 (by decide) rfl ?_
  refine x_iconst C (pc := 2) (v := 0) dX5_greatestSwings_2 (by decide) ?_
  refine x_istore_n C (pc := 3) [(3, .int 0), (2, .int 0), (0, .ref (z + k)), (1, .int (nI mm))] dX5_greatestSwings_3 (by decide) rfl ?_
  refine x_iconst C (pc := 4) (v := 0) dX5_greatestSwings_4 (by decide) ?_
  refine x_istore C (pc := 5) [(4, .int 0), (3, .int 0), (2, .int 0), (0, .ref (z + k)), (1, .int (nI mm))] dX5_greatestSwings_5 (by decide) rfl ?_
  refine x_sub [3, 4, 2, 1, 0] _ rfl ?_
  refine x_loop3 (A1 := Nat) (A2 := Nat) (A3 := Nat) (pc := 7) (st := []) (fun set tk r => n - r) (fun set tk r => (r ≤ n) ∧ (set < 1024) ∧ (tk ≤ r) ∧ (tk ≤ mm) ∧ (gsG pi cw (n - r) r (mm - tk) set = gsG pi cw n 0 mm 0)) (fun set tk r => N) (fun set tk r => F) (fun set tk r => 0) (fun set tk r => 0) (fun set tk r => [(0, .ref (z + k)), (1, .int (nI mm)), (2, .int (nI set)), (3, .int (nI tk)), (4, .int (nI r))]) 0 0 0 ⟨(Nat.zero_le _), (by decide), (Nat.le_refl _), (Nat.zero_le _), rfl⟩ rfl rfl rfl rfl rfl ?_
  rintro set tk r ⟨hr, hset, htk, htm, hgs⟩ ih_7
  try dsimp only at ih_7
  refine x_iload C (pc := 7) 4 dX5_greatestSwings_7 rfl ?_
  refine x_aload_n C (pc := 9) 0 dX5_greatestSwings_9 rfl ?_
  refine x_get C (pc := 10) (q := k) (v := .int (nI n)) (ci := 5) rfl hn_X5_greatestSwings_X5 1 (by decide) fl_X5_greatestSwings_39 rfl (by omega) hR.ob rfl dX5_greatestSwings_10 ?_
  refine x_icmpN_ge C (a := r) (b := n) (pc := 13) (tgt := 59) (by omega) (by omega) dX5_greatestSwings_13 (by decide) (fun c_13 => ?_) (fun c_13 => ?_)
  · refine x_iload_n C (pc := 59) 2 dX5_greatestSwings_59 rfl ?_
    exact x_iret C hR0 rfl (Nat.le_of_ble_eq_true rfl) (Nat.le_of_ble_eq_true rfl) ⟨(by first | (rw [← hgs, show n - r = 0 by omega]; rfl) | (rw [← hgs, show mm - tk = 0 by omega]; cases n - r <;> rfl)), rfl, rfl⟩ dX5_greatestSwings_60
  refine x_iload_n C (pc := 16) 3 dX5_greatestSwings_16 rfl ?_
  refine x_iload_n C (pc := 17) 1 dX5_greatestSwings_17 rfl ?_
  refine x_icmpN_ge C (a := tk) (b := mm) (pc := 18) (tgt := 59) (by omega) (by omega) dX5_greatestSwings_18 (by decide) (fun c_18 => ?_) (fun c_18 => ?_)
  · refine x_iload_n C (pc := 59) 2 dX5_greatestSwings_59 rfl ?_
    exact x_iret C hR0 rfl (Nat.le_of_ble_eq_true rfl) (Nat.le_of_ble_eq_true rfl) ⟨(by first | (rw [← hgs, show n - r = 0 by omega]; rfl) | (rw [← hgs, show mm - tk = 0 by omega]; cases n - r <;> rfl)), rfl, rfl⟩ dX5_greatestSwings_60
  obtain ⟨hb, hpr⟩ := hpi r (by omega)
  have hf : n - r = (n - (r + 1)) + 1 := by omega
  refine x_aload_n C (pc := 21) 0 dX5_greatestSwings_21 rfl ?_
  refine x_get C (pc := 22) (q := k) (v := .int (nI cw)) (ci := 5) rfl hn_X5_greatestSwings_X5 6 (by decide) fl_X5_greatestSwings_45 rfl (by omega) hR.ob rfl dX5_greatestSwings_22 ?_
  refine x_aload_n C (pc := 25) 0 dX5_greatestSwings_25 rfl ?_
  refine x_get C (pc := 26) (q := k) (v := .ref (z + (k + 12))) (ci := 5) rfl hn_X5_greatestSwings_X5 3 (by decide) fl_X5_greatestSwings_22 rfl (by omega) hR.ob rfl dX5_greatestSwings_26 ?_
  refine x_iload C (pc := 29) 4 dX5_greatestSwings_29 rfl ?_
  refine x_ialdE C (pc := 31) (q := k + 12) (j := r) (f := bs) (by omega) hR.bs rfl (by omega) (by decide) dX5_greatestSwings_31 ?_
  refine x_eqi hb ?_
  refine x_cSNiR C (pc := 32) (st := []) (c_X6_has l D z cI cZ cP cR N F cw (pi r) (by omega) (by omega)) ⟨va_cnB 2 C.2.2.2.2.1 gX5_greatestSwings_X6_has_n88 rfl rfl rfl (C.2.2.2.2.2.1.2.1 _ (List.mem_of_getElem? (i := 8) rfl)) (C.2.2.2.2.1 _ ni_X5_greatestSwings_RX6) hd_X6_has.2 ⟨Nat.le_of_ble_eq_true rfl, Nat.le_of_ble_eq_true rfl⟩, C.2.2.2.2.1 _ ns_X5_greatestSwings_X6_has, trivial⟩ rfl rfl (Nat.le_of_ble_eq_true rfl) dX5_greatestSwings_32 ⟨Nat.le_of_ble_eq_true rfl, Nat.le_of_ble_eq_true rfl⟩ ?_
  refine x_bz_ne C (pc := 35) (tgt := 53) dX5_greatestSwings_35 (by decide) (fun c_35 => ?_) (fun c_35 => ?_)
  · have hst : gsG pi cw (n - r) r (mm - tk) set = gsG pi cw (n - (r + 1)) (r + 1) (mm - tk) set := by rw [hf, gsG, if_neg (by omega), if_pos c_35]
    refine x_iinc C (pc := 53) 4 [(4, .int (nI (r + 1))), (0, .ref (z + k)), (1, .int (nI mm)), (2, .int (nI set)), (3, .int (nI tk))] dX5_greatestSwings_53 rfl (nI_inc r) (by decide) rfl ?_
    refine x_goto C (pc := 56) (tgt := 7) dX5_greatestSwings_56 (by decide) ?_
    exact x_sub [1, 2, 3, 4, 0] _ rfl (ih_7 set tk (r + 1) ⟨(by omega), hset, (by omega), (by omega), (hst.symm.trans hgs)⟩ (by omega))
  have hst : gsG pi cw (n - r) r (mm - tk) set = gsG pi cw (n - (r + 1)) (r + 1) (mm - (tk + 1)) (set ||| 2 ^ pi r) := by rw [hf, gsG, if_neg (by omega), if_neg (by rw [c_35]; decide), show mm - tk - 1 = mm - (tk + 1) by omega]
  refine x_iload_n C (pc := 38) 2 dX5_greatestSwings_38 rfl ?_
  refine x_iconst C (pc := 39) (v := 1) dX5_greatestSwings_39 (by decide) ?_
  refine x_aload_n C (pc := 40) 0 dX5_greatestSwings_40 rfl ?_
  refine x_get C (pc := 41) (q := k) (v := .ref (z + (k + 12))) (ci := 5) rfl hn_X5_greatestSwings_X5 3 (by decide) fl_X5_greatestSwings_22 rfl (by omega) hR.ob rfl dX5_greatestSwings_41 ?_
  refine x_iload C (pc := 44) 4 dX5_greatestSwings_44 rfl ?_
  refine x_ialdE C (pc := 46) (q := k + 12) (j := r) (f := bs) (by omega) hR.bs rfl (by omega) (by decide) dX5_greatestSwings_46 ?_
  refine x_eqi hb ?_
  refine x_ishl C (pc := 47) (v := nI (2 ^ pi r)) dX5_greatestSwings_47 (pkshl (by omega)) ?_
  refine x_ior C (pc := 48) (v := nI (set ||| 2 ^ pi r)) dX5_greatestSwings_48 (pkor (by omega) (by have := Nat.lt_of_lt_of_le (Nat.pow_lt_pow_right (a := 2) (by decide) hpr) (two_lt hn); omega)) ?_
  refine x_istore_n C (pc := 49) [(2, .int (nI (set ||| 2 ^ pi r))), (0, .ref (z + k)), (1, .int (nI mm)), (3, .int (nI tk)), (4, .int (nI r))] dX5_greatestSwings_49 (by decide) rfl ?_
  refine x_iinc C (pc := 50) 3 [(3, .int (nI (tk + 1))), (2, .int (nI (set ||| 2 ^ pi r))), (0, .ref (z + k)), (1, .int (nI mm)), (4, .int (nI r))] dX5_greatestSwings_50 rfl (nI_inc tk) (by decide) rfl ?_
  refine x_iinc C (pc := 53) 4 [(4, .int (nI (r + 1))), (3, .int (nI (tk + 1))), (2, .int (nI (set ||| 2 ^ pi r))), (0, .ref (z + k)), (1, .int (nI mm))] dX5_greatestSwings_53 rfl (nI_inc r) (by decide) rfl ?_
  refine x_goto C (pc := 56) (tgt := 7) dX5_greatestSwings_56 (by decide) ?_
  exact x_sub [3, 4, 2, 1, 0] _ rfl (ih_7 (set ||| 2 ^ pi r) (tk + 1) (r + 1) ⟨(by omega), (por_lt 10 hset (Nat.lt_of_lt_of_le (Nat.pow_lt_pow_right (by decide) hpr) (two_lt hn))), (by omega), (by omega), (hst.symm.trans hgs)⟩ (by omega))
theorem fl_X5_riskBehind_39 : Cond.fieldLink RX5 39 "PileRecount$Recount" "piles" "I" ∈ wsX5_riskBehind := by decide +kernel
theorem hn_X5_riskBehind_X5 : ∀ w ∈ wsX50, w ∈ wsX5_riskBehind := fun _ h => List.mem_cons_of_mem _ (List.mem_append_left _ (List.mem_append_right _ h))
theorem ni_X5_riskBehind_RX6 : Cond.initialized RX6 ∈ wsX5_riskBehind := by decide +kernel
theorem ns_X5_riskBehind_X6_riskThatAllAreMissed : Cond.static yX6_riskThatAllAreMissed ∈ wsX5_riskBehind := by decide +kernel
set_option maxHeartbeats 4000000 in
set_option maxRecDepth 100000 in
theorem c_X5_riskBehind (l : Launch) (D : va_G) (z : Nat) (cI cZ cP cR : ClassId) (N : Nat) (F : Nat → va_E) (k n : Nat) (wi cp cs rl ch sp : Int32) (pd : Nat → Nat → Int32) (bs od : Nat → Int32) (w f : Nat) (hR : isRec z cI cP F k (nI n) wi cp cs rl ch sp pd bs od) (hk : k + 14 ≤ N) (hn : n ≤ 10) (hw : w < 2 ^ n) (hf : f < 1024) (pi : Nat → Nat) (hpi : piOK bs pi n) : gMi l yX5_riskBehind wsX5_riskBehind ({ frames := 3, cells := 0, slots := 0, locals := 68 }) D z cI cZ cP cR N F [.ref (z + k), .int (nI w), .int (nI f)] (gRes (rbF wi pd pi n w f) N (fun F2 => F2 = F)) 0 0 := by
  refine gMi.of (cc := cX5_riskBehind) (maxL := 5) (ret := (some .int)) (by decide) rfl (Nat.le_of_ble_eq_true rfl) [(0, .ref (z + k)), (1, .int (nI w)), (2, .int (nI f))] rfl ?_
  intro pg ev sg mg bel me cg C hR0
  have h2n := two_lt hn
  refine x_aload_n C (pc := 0) 0 dX5_riskBehind_0 rfl ?_
  refine x_cViR C (pc := 1) (st := []) (c_X5_hasWinner l D z cI cZ cP cR N F k (nI n) wi cp cs rl ch sp pd bs od hR (by omega)) (cwV 0 C.2.2.2.2.1 gX5_riskBehind_X5_hasWinner rfl rfl rfl hd_X5_hasWinner ⟨Nat.le_of_ble_eq_true rfl, Nat.le_of_ble_eq_true rfl⟩) (by omega) hR.ob rfl rfl rfl (Nat.le_of_ble_eq_true rfl) dX5_riskBehind_1 ⟨Nat.le_of_ble_eq_true rfl, Nat.le_of_ble_eq_true rfl⟩ ?_
  refine x_bz_ne C (pc := 4) (tgt := 11) dX5_riskBehind_4 (by decide) (fun c_4 => ?_) (fun c_4 => ?_)
  · refine x_aload_n C (pc := 11) 0 dX5_riskBehind_11 rfl ?_
    refine x_iload_n C (pc := 12) 2 dX5_riskBehind_12 rfl ?_
    refine x_cViR C (pc := 13) (st := []) (c_X5_leadBy l D z cI cZ cP cR N F k n wi cp cs rl ch sp pd bs od f hR (by omega) (by omega) (by omega)) (cwV 1 C.2.2.2.2.1 gX5_riskBehind_X5_leadBy rfl rfl rfl hd_X5_leadBy ⟨Nat.le_of_ble_eq_true rfl, Nat.le_of_ble_eq_true rfl⟩) (by omega) hR.ob rfl rfl rfl (Nat.le_of_ble_eq_true rfl) dX5_riskBehind_13 ⟨Nat.le_of_ble_eq_true rfl, Nat.le_of_ble_eq_true rfl⟩ ?_
    refine x_istore_n C (pc := 16) [(3, .int (leadF wi pd n f)), (0, .ref (z + k)), (1, .int (nI w)), (2, .int (nI f))] dX5_riskBehind_16 (by decide) rfl ?_
    refine x_iload_n C (pc := 17) 2 dX5_riskBehind_17 rfl ?_
    refine x_aload_n C (pc := 18) 1 dX5_riskBehind_18 rfl ?_
    refine x_cViR C (pc := 19) (st := [.int (nI w)]) (c_X5_allPiles l D z cI cZ cP cR N F k n wi cp cs rl ch sp pd bs od hR (by omega) (by omega)) (cwV 0 C.2.2.2.2.1 gX5_riskBehind_X5_allPiles rfl rfl rfl hd_X5_allPiles ⟨Nat.le_of_ble_eq_true rfl, Nat.le_of_ble_eq_true rfl⟩) (by omega) hR.ob rfl rfl rfl (Nat.le_of_ble_eq_true rfl) dX5_riskBehind_19 ⟨Nat.le_of_ble_eq_true rfl, Nat.le_of_ble_eq_true rfl⟩ ?_
    refine x_icmpN_ne C (a := w) (b := 2 ^ n - 1) (pc := 22) (tgt := 37) (by omega) (by omega) dX5_riskBehind_22 (by decide) (fun c_22 => ?_) (fun c_22 => ?_)
    · refine x_aload_n C (pc := 37) 1 dX5_riskBehind_37 rfl ?_
      refine x_iload_n C (pc := 38) 0 dX5_riskBehind_38 rfl ?_
      refine x_iload_n C (pc := 39) 2 dX5_riskBehind_39 rfl ?_
      refine x_cViR C (pc := 40) (st := []) (c_X5_needFor l D z cI cZ cP cR N F k n wi cp cs rl ch sp pd bs od w (leadF wi pd n f) hR (by omega) (by omega) (by omega) pi hpi) (cwV 2 C.2.2.2.2.1 gX5_riskBehind_X5_needFor rfl rfl rfl hd_X5_needFor ⟨Nat.le_of_ble_eq_true rfl, Nat.le_of_ble_eq_true rfl⟩) (by omega) hR.ob rfl rfl rfl (Nat.le_of_ble_eq_true rfl) dX5_riskBehind_40 ⟨Nat.le_of_ble_eq_true rfl, Nat.le_of_ble_eq_true rfl⟩ ?_
      refine x_istore C (pc := 43) [(4, .int (opI (ndR (fun i => swF wi (pd i)) pi n w (leadF wi pd n f)))), (3, .int (leadF wi pd n f)), (0, .ref (z + k)), (1, .int (nI w)), (2, .int (nI f))] dX5_riskBehind_43 (by decide) rfl ?_
      refine x_iload C (pc := 45) 0 dX5_riskBehind_45 rfl ?_
      refine x_if_eq C (pc := 47) (tgt := 58) dX5_riskBehind_47 (by decide) (fun c_47 => ?_) (fun c_47 => ?_)
      · refine x_sipush C (pc := 58) (v := 10000) dX5_riskBehind_58 (by decide) ?_
        exact x_iret C hR0 rfl (Nat.le_of_ble_eq_true rfl) (Nat.le_of_ble_eq_true rfl) ⟨(by unfold rbF; first | (rw [if_pos c_4]) | (rw [if_neg (by rw [c_4]; decide), if_pos c_22, if_neg (Int32.not_lt.mpr c_26)]) | (rw [if_neg (by rw [c_4]; decide), if_neg c_22, opI_0 (n := n) (by omega) (fun m h => ndR_le h) c_47]; dsimp only; rw [if_pos (Or.inl rfl)]) | (rw [if_neg (by rw [c_4]; decide), if_neg c_22]; split; rw [if_pos (by omega)]; rw [if_pos (Or.inr (by omega))])), rfl, rfl⟩ dX5_riskBehind_61
      refine x_aload_n C (pc := 50) 2 dX5_riskBehind_50 rfl ?_
      refine x_iload_n C (pc := 51) 4 dX5_riskBehind_51 rfl ?_
      refine x_cViR C (pc := 52) (st := []) (c_X5_worseOf l D z cI cZ cP cR N F k n wi cp cs rl ch sp pd bs od f hR (by omega) (by omega) (by omega)) (cwV 1 C.2.2.2.2.1 gX5_riskBehind_X5_worseOf rfl rfl rfl hd_X5_worseOf ⟨Nat.le_of_ble_eq_true rfl, Nat.le_of_ble_eq_true rfl⟩) (by omega) hR.ob rfl rfl rfl (Nat.le_of_ble_eq_true rfl) dX5_riskBehind_52 ⟨Nat.le_of_ble_eq_true rfl, Nat.le_of_ble_eq_true rfl⟩ ?_
      have hwl := worF_le wi pd f n
      refine x_ifN_le C (a := worF wi pd f n) (pc := 55) (tgt := 62) (by omega) dX5_riskBehind_55 (by decide) (fun c_55 => ?_) (fun c_55 => ?_)
      · refine x_iload C (pc := 62) 0 dX5_riskBehind_62 rfl ?_
        refine x_bipush C (pc := 64) (v := (-6)) dX5_riskBehind_64 (by decide) ?_
        refine x_icmp_ne C (pc := 66) (tgt := 71) dX5_riskBehind_66 (by decide) (fun c_66 => ?_) (fun c_66 => ?_)
        · obtain ⟨m, hm⟩ := opI_nn c_66
          have hmn := ndR_le hm
          refine x_eqL [(4, .int (nI m)), (3, .int (leadF wi pd n f)), (0, .ref (z + k)), (1, .int (nI w)), (2, .int (nI f))] (by rw [hm]; rfl) ?_
          refine x_aload_n C (pc := 71) 2 dX5_riskBehind_71 rfl ?_
          refine x_get C (pc := 72) (q := k) (v := .int (nI n)) (ci := 5) rfl hn_X5_riskBehind_X5 1 (by decide) fl_X5_riskBehind_39 rfl (by omega) hR.ob rfl dX5_riskBehind_72 ?_
          refine x_iload_n C (pc := 75) 3 dX5_riskBehind_75 rfl ?_
          refine x_cSiR C (pc := 76) (st := [.int (nI n)]) (c_J6_bitCount_0f7a4 l D z cI cZ cP cR N F w (by omega)) (va_cwS 1 C.2.2.2.2.1 gX5_riskBehind_J6_bitCount_0f7a4 rfl rfl rfl hd_J6_bitCount_0f7a4.2 ⟨Nat.le_of_ble_eq_true rfl, Nat.le_of_ble_eq_true rfl⟩) rfl rfl (Nat.le_of_ble_eq_true rfl) dX5_riskBehind_76 ⟨Nat.le_of_ble_eq_true rfl, Nat.le_of_ble_eq_true rfl⟩ ?_
          refine x_iload C (pc := 79) 0 dX5_riskBehind_79 rfl ?_
          have hcb := cntB_lt hw hn
          refine x_cSNiR C (pc := 81) (st := []) (c_X6_riskThatAllAreMissed l D z cI cZ cP cR N F n (cntB w 10) m (by omega) (by omega) (by omega)) ⟨va_cnB 3 C.2.2.2.2.1 gX5_riskBehind_X6_riskThatAllAreMissed_n123 rfl rfl rfl (C.2.2.2.2.2.1.2.1 _ (List.mem_of_getElem? (i := 5) rfl)) (C.2.2.2.2.1 _ ni_X5_riskBehind_RX6) hd_X6_riskThatAllAreMissed.2 ⟨Nat.le_of_ble_eq_true rfl, Nat.le_of_ble_eq_true rfl⟩, C.2.2.2.2.1 _ ns_X5_riskBehind_X6_riskThatAllAreMissed, trivial⟩ rfl rfl (Nat.le_of_ble_eq_true rfl) dX5_riskBehind_81 ⟨Nat.le_of_ble_eq_true rfl, Nat.le_of_ble_eq_true rfl⟩ ?_
          exact x_iret C hR0 rfl (Nat.le_of_ble_eq_true rfl) (Nat.le_of_ble_eq_true rfl) ⟨(by unfold rbF; rw [if_neg (by rw [c_4]; decide), if_neg c_22, hm]; dsimp only; rw [if_neg]; rintro (q | q); exact c_47 (by rw [hm, q]; rfl); omega), rfl, rfl⟩ dX5_riskBehind_84
        refine x_iconst C (pc := 69) (v := 0) dX5_riskBehind_69 (by decide) ?_
        exact x_iret C hR0 rfl (Nat.le_of_ble_eq_true rfl) (Nat.le_of_ble_eq_true rfl) ⟨(by unfold rbF; first | (rw [if_neg (by rw [c_4]; decide), if_pos c_22, if_pos (Int32.not_le.mp c_26)]) | (rw [if_neg (by rw [c_4]; decide), if_neg c_22, opI_n (n := n) (by omega) (fun m h => ndR_le h) c_66]; dsimp only; rw [if_neg (by omega)])), rfl, rfl⟩ dX5_riskBehind_70
      refine x_sipush C (pc := 58) (v := 10000) dX5_riskBehind_58 (by decide) ?_
      exact x_iret C hR0 rfl (Nat.le_of_ble_eq_true rfl) (Nat.le_of_ble_eq_true rfl) ⟨(by unfold rbF; first | (rw [if_pos c_4]) | (rw [if_neg (by rw [c_4]; decide), if_pos c_22, if_neg (Int32.not_lt.mpr c_26)]) | (rw [if_neg (by rw [c_4]; decide), if_neg c_22, opI_0 (n := n) (by omega) (fun m h => ndR_le h) c_47]; dsimp only; rw [if_pos (Or.inl rfl)]) | (rw [if_neg (by rw [c_4]; decide), if_neg c_22]; split; rw [if_pos (by omega)]; rw [if_pos (Or.inr (by omega))])), rfl, rfl⟩ dX5_riskBehind_61
    refine x_iload_n C (pc := 25) 0 dX5_riskBehind_25 rfl ?_
    refine x_if_le C (pc := 26) (tgt := 33) dX5_riskBehind_26 (by decide) (fun c_26 => ?_) (fun c_26 => ?_)
    · refine x_sipush C (pc := 33) (v := 10000) dX5_riskBehind_33 (by decide) ?_
      exact x_iret C hR0 rfl (Nat.le_of_ble_eq_true rfl) (Nat.le_of_ble_eq_true rfl) ⟨(by unfold rbF; first | (rw [if_pos c_4]) | (rw [if_neg (by rw [c_4]; decide), if_pos c_22, if_neg (Int32.not_lt.mpr c_26)]) | (rw [if_neg (by rw [c_4]; decide), if_neg c_22, opI_0 (n := n) (by omega) (fun m h => ndR_le h) c_47]; dsimp only; rw [if_pos (Or.inl rfl)]) | (rw [if_neg (by rw [c_4]; decide), if_neg c_22]; split; rw [if_pos (by omega)]; rw [if_pos (Or.inr (by omega))])), rfl, rfl⟩ dX5_riskBehind_36
    refine x_iconst C (pc := 29) (v := 0) dX5_riskBehind_29 (by decide) ?_
    refine x_goto C (pc := 30) (tgt := 36) dX5_riskBehind_30 (by decide) ?_
    exact x_iret C hR0 rfl (Nat.le_of_ble_eq_true rfl) (Nat.le_of_ble_eq_true rfl) ⟨(by unfold rbF; first | (rw [if_neg (by rw [c_4]; decide), if_pos c_22, if_pos (Int32.not_le.mp c_26)]) | (rw [if_neg (by rw [c_4]; decide), if_neg c_22, opI_n (n := n) (by omega) (fun m h => ndR_le h) c_66]; dsimp only; rw [if_neg (by omega)])), rfl, rfl⟩ dX5_riskBehind_36
  refine x_sipush C (pc := 7) (v := 10000) dX5_riskBehind_7 (by decide) ?_
  exact x_iret C hR0 rfl (Nat.le_of_ble_eq_true rfl) (Nat.le_of_ble_eq_true rfl) ⟨(by unfold rbF; first | (rw [if_pos c_4]) | (rw [if_neg (by rw [c_4]; decide), if_pos c_22, if_neg (Int32.not_lt.mpr c_26)]) | (rw [if_neg (by rw [c_4]; decide), if_neg c_22, opI_0 (n := n) (by omega) (fun m h => ndR_le h) c_47]; dsimp only; rw [if_pos (Or.inl rfl)]) | (rw [if_neg (by rw [c_4]; decide), if_neg c_22]; split; rw [if_pos (by omega)]; rw [if_pos (Or.inr (by omega))])), rfl, rfl⟩ dX5_riskBehind_10
theorem fl_X5_mayStopNow_29 : Cond.fieldLink RX5 29 "PileRecount$Recount" "riskLimit" "I" ∈ wsX5_mayStopNow := by decide +kernel
theorem fl_X5_mayStopNow_45 : Cond.fieldLink RX5 45 "PileRecount$Recount" "countedSet" "I" ∈ wsX5_mayStopNow := by decide +kernel
theorem hn_X5_mayStopNow_X5 : ∀ w ∈ wsX50, w ∈ wsX5_mayStopNow := fun _ h => List.mem_cons_of_mem _ (List.mem_append_left _ (List.mem_append_right _ h))
set_option maxHeartbeats 4000000 in
set_option maxRecDepth 100000 in
theorem c_X5_mayStopNow (l : Launch) (D : va_G) (z : Nat) (cI cZ cP cR : ClassId) (N : Nat) (F : Nat → va_E) (k n cw : Nat) (wi cp rl ch sp : Int32) (pd : Nat → Nat → Int32) (bs od : Nat → Int32) (hR : isRec z cI cP F k (nI n) wi cp (nI cw) rl ch sp pd bs od) (hk : k + 14 ≤ N) (hn : n ≤ 10) (hcw : cw < 2 ^ n) (pi : Nat → Nat) (hpi : piOK bs pi n) : gMi l yX5_mayStopNow wsX5_mayStopNow ({ frames := 4, cells := 0, slots := 0, locals := 92 }) D z cI cZ cP cR N F [.ref (z + k)] (gRes (bz (decide (rbF wi pd pi n cw cw ≤ rl))) N (fun F2 => F2 = F)) 0 0 := by
  refine gMi.of (cc := cX5_mayStopNow) (maxL := 1) (ret := (some .boolean)) (by decide) rfl (Nat.le_of_ble_eq_true rfl) [(0, .ref (z + k))] rfl ?_
  intro pg ev sg mg bel me cg C hR0
  have h2n := two_lt hn
  refine x_aload_n C (pc := 0) 0 dX5_mayStopNow_0 rfl ?_
  refine x_aload_n C (pc := 1) 0 dX5_mayStopNow_1 rfl ?_
  refine x_get C (pc := 2) (q := k) (v := .int (nI cw)) (ci := 5) rfl hn_X5_mayStopNow_X5 6 (by decide) fl_X5_mayStopNow_45 rfl (by omega) hR.ob rfl dX5_mayStopNow_2 ?_
  refine x_aload_n C (pc := 5) 0 dX5_mayStopNow_5 rfl ?_
  refine x_get C (pc := 6) (q := k) (v := .int (nI cw)) (ci := 5) rfl hn_X5_mayStopNow_X5 6 (by decide) fl_X5_mayStopNow_45 rfl (by omega) hR.ob rfl dX5_mayStopNow_6 ?_
  refine x_cViR C (pc := 9) (st := []) (c_X5_riskBehind l D z cI cZ cP cR N F k n wi cp (nI cw) rl ch sp pd bs od cw cw hR (by omega) (by omega) (by omega) (by omega) pi hpi) (cwV 2 C.2.2.2.2.1 gX5_mayStopNow_X5_riskBehind rfl rfl rfl hd_X5_riskBehind ⟨Nat.le_of_ble_eq_true rfl, Nat.le_of_ble_eq_true rfl⟩) (by omega) hR.ob rfl rfl rfl (Nat.le_of_ble_eq_true rfl) dX5_mayStopNow_9 ⟨Nat.le_of_ble_eq_true rfl, Nat.le_of_ble_eq_true rfl⟩ ?_
  refine x_aload_n C (pc := 12) 0 dX5_mayStopNow_12 rfl ?_
  refine x_get C (pc := 13) (q := k) (v := .int rl) (ci := 5) rfl hn_X5_mayStopNow_X5 7 (by decide) fl_X5_mayStopNow_29 rfl (by omega) hR.ob rfl dX5_mayStopNow_13 ?_
  refine x_icmp_gt C (pc := 16) (tgt := 23) dX5_mayStopNow_16 (by decide) (fun c_16 => ?_) (fun c_16 => ?_)
  · refine x_iconst C (pc := 23) (v := 0) dX5_mayStopNow_23 (by decide) ?_
    exact x_iret C hR0 rfl (Nat.le_of_ble_eq_true rfl) (Nat.le_of_ble_eq_true rfl) ⟨(by rw [decide_eq_false (Int32.not_le.mpr c_16)]; rfl), rfl, rfl⟩ dX5_mayStopNow_24
  refine x_iconst C (pc := 19) (v := 1) dX5_mayStopNow_19 (by decide) ?_
  refine x_goto C (pc := 20) (tgt := 24) dX5_mayStopNow_20 (by decide) ?_
  exact x_iret C hR0 rfl (Nat.le_of_ble_eq_true rfl) (Nat.le_of_ble_eq_true rfl) ⟨(by rw [decide_eq_true (Int32.not_lt.mp c_16)]; rfl), rfl, rfl⟩ dX5_mayStopNow_24
theorem fl_X5_leastToStop_29 : Cond.fieldLink RX5 29 "PileRecount$Recount" "riskLimit" "I" ∈ wsX5_leastToStop := by decide +kernel
theorem fl_X5_leastToStop_39 : Cond.fieldLink RX5 39 "PileRecount$Recount" "piles" "I" ∈ wsX5_leastToStop := by decide +kernel
theorem fl_X5_leastToStop_42 : Cond.fieldLink RX5 42 "PileRecount$Recount" "countedPiles" "I" ∈ wsX5_leastToStop := by decide +kernel
theorem fl_X5_leastToStop_45 : Cond.fieldLink RX5 45 "PileRecount$Recount" "countedSet" "I" ∈ wsX5_leastToStop := by decide +kernel
theorem hn_X5_leastToStop_X5 : ∀ w ∈ wsX50, w ∈ wsX5_leastToStop := fun _ h => List.mem_cons_of_mem _ (List.mem_append_left _ (List.mem_append_right _ h))
theorem ni_X5_leastToStop_RX6 : Cond.initialized RX6 ∈ wsX5_leastToStop := by decide +kernel
theorem ns_X5_leastToStop_X6_has : Cond.static yX6_has ∈ wsX5_leastToStop := by decide +kernel
set_option maxHeartbeats 4000000 in
set_option maxRecDepth 100000 in
theorem c_X5_leastToStop (l : Launch) (D : va_G) (z : Nat) (cI cZ cP cR : ClassId) (N : Nat) (F : Nat → va_E) (k n cw kk : Nat) (wi rl ch sp : Int32) (pd : Nat → Nat → Int32) (bs od : Nat → Int32) (hR : isRec z cI cP F k (nI n) wi (nI kk) (nI cw) rl ch sp pd bs od) (hk : k + 14 ≤ N) (hn : n ≤ 10) (hcw : cw < 2 ^ n) (hkk : kk ≤ n) (pi : Nat → Nat) (hpi : piOK bs pi n) : gMi l yX5_leastToStop wsX5_leastToStop ({ frames := 4, cells := 0, slots := 0, locals := 92 }) D z cI cZ cP cR N F [.ref (z + k)] (gRes (lsG (rfG wi pd pi n cw rl (2 ^ n)) (n - kk) (n - kk + 1) 0) N (fun F2 => F2 = F)) 0 0 := by
  refine gMi.of (cc := cX5_leastToStop) (maxL := 4) (ret := (some .int)) (by decide) rfl (Nat.le_of_ble_eq_true rfl) [(0, .ref (z + k))] rfl ?_
  intro pg ev sg mg bel me cg C hR0
  have h2n := two_lt hn
  refine x_iconst C (pc := 0) (v := 0) dX5_leastToStop_0 (by decide) ?_
  refine x_istore_n C (pc := 1) [(1, .int 0), (0, .ref (z + k))] dX5_leastToStop_1 (by decide) rfl ?_
  refine x_iconst C (pc := 2) (v := 0) dX5_leastToStop_2 (by decide) ?_
  refine x_istore_n C (pc := 3) [(2, .int 0), (1, .int 0), (0, .ref (z + k))] dX5_leastToStop_3 (by decide) rfl ?_
  refine x_sub [2, 1, 0] _ rfl ?_
  refine x_loop2 (A1 := Nat) (A2 := Nat) (pc := 4) (st := []) (fun rf s => 2 ^ n - s) (fun rf s => (s ≤ 2 ^ n) ∧ (rf = rfG wi pd pi n cw rl s) ∧ (rf < 2 ^ 11)) (fun rf s => N) (fun rf s => F) (fun rf s => 0) (fun rf s => 0) (fun rf s => [(0, .ref (z + k)), (1, .int (nI rf)), (2, .int (nI s))]) 0 0 ⟨(Nat.zero_le _), rfl, (by decide)⟩ rfl rfl rfl rfl rfl ?_
  rintro rf s ⟨hs, hrf, hr2⟩ ih_4
  try dsimp only at ih_4
  refine x_iload_n C (pc := 4) 2 dX5_leastToStop_4 rfl ?_
  refine x_aload_n C (pc := 5) 0 dX5_leastToStop_5 rfl ?_
  refine x_cViR C (pc := 6) (st := [.int (nI s)]) (c_X5_allPiles l D z cI cZ cP cR N F k n wi (nI kk) (nI cw) rl ch sp pd bs od hR (by omega) (by omega)) (cwV 0 C.2.2.2.2.1 gX5_leastToStop_X5_allPiles rfl rfl rfl hd_X5_allPiles ⟨Nat.le_of_ble_eq_true rfl, Nat.le_of_ble_eq_true rfl⟩) (by omega) hR.ob rfl rfl rfl (Nat.le_of_ble_eq_true rfl) dX5_leastToStop_6 ⟨Nat.le_of_ble_eq_true rfl, Nat.le_of_ble_eq_true rfl⟩ ?_
  refine x_icmpN_gt C (a := s) (b := 2 ^ n - 1) (pc := 9) (tgt := 67) (by omega) (by omega) dX5_leastToStop_9 (by decide) (fun c_9 => ?_) (fun c_9 => ?_)
  · have hse : s = 2 ^ n := by omega
    rw [hse] at hrf
    refine x_iconst C (pc := 67) (v := 0) dX5_leastToStop_67 (by decide) ?_
    refine x_istore_n C (pc := 68) [(2, .int 0), (0, .ref (z + k)), (1, .int (nI rf))] dX5_leastToStop_68 (by decide) rfl ?_
    refine x_sub [1, 2, 0] _ rfl ?_
    refine x_loop1 (A1 := Nat) (pc := 69) (st := []) (fun t => n + 1 - t) (fun t => (t ≤ n - kk + 1) ∧ (lsG (rfG wi pd pi n cw rl (2 ^ n)) (n - kk) (n - kk + 1 - t) t = lsG (rfG wi pd pi n cw rl (2 ^ n)) (n - kk) (n - kk + 1) 0)) (fun t => N) (fun t => F) (fun t => 0) (fun t => 0) (fun t => [(0, .ref (z + k)), (1, .int (nI rf)), (2, .int (nI t))]) 0 ⟨(Nat.zero_le _), rfl⟩ rfl rfl rfl rfl rfl ?_
    rintro t ⟨ht, hlt⟩ ih_69
    try dsimp only at ih_69
    refine x_iload_n C (pc := 69) 2 dX5_leastToStop_69 rfl ?_
    refine x_aload_n C (pc := 70) 0 dX5_leastToStop_70 rfl ?_
    refine x_get C (pc := 71) (q := k) (v := .int (nI n)) (ci := 5) rfl hn_X5_leastToStop_X5 1 (by decide) fl_X5_leastToStop_39 rfl (by omega) hR.ob rfl dX5_leastToStop_71 ?_
    refine x_aload_n C (pc := 74) 0 dX5_leastToStop_74 rfl ?_
    refine x_get C (pc := 75) (q := k) (v := .int (nI kk)) (ci := 5) rfl hn_X5_leastToStop_X5 5 (by decide) fl_X5_leastToStop_42 rfl (by omega) hR.ob rfl dX5_leastToStop_75 ?_
    refine x_isub C (pc := 78) (v := nI (n - kk)) dX5_leastToStop_78 (pk_sub (a := n) (b := kk) (by omega)) ?_
    refine x_icmpN_gt C (a := t) (b := n - kk) (pc := 79) (tgt := 98) (by omega) (by omega) dX5_leastToStop_79 (by decide) (fun c_79 => ?_) (fun c_79 => ?_)
    · refine x_bipush C (pc := 98) (v := (-6)) dX5_leastToStop_98 (by decide) ?_
      exact x_iret C hR0 rfl (Nat.le_of_ble_eq_true rfl) (Nat.le_of_ble_eq_true rfl) ⟨(by rw [← hlt, show n - kk + 1 - t = 0 by omega]; rfl), rfl, rfl⟩ dX5_leastToStop_100
    refine x_iload_n C (pc := 82) 1 dX5_leastToStop_82 rfl ?_
    refine x_iload_n C (pc := 83) 2 dX5_leastToStop_83 rfl ?_
    refine x_cSNiR C (pc := 84) (st := []) (c_X6_has l D z cI cZ cP cR N F rf t (by omega) (by omega)) ⟨va_cnB 2 C.2.2.2.2.1 gX5_leastToStop_X6_has_n88 rfl rfl rfl (C.2.2.2.2.2.1.2.1 _ (List.mem_of_getElem? (i := 8) rfl)) (C.2.2.2.2.1 _ ni_X5_leastToStop_RX6) hd_X6_has.2 ⟨Nat.le_of_ble_eq_true rfl, Nat.le_of_ble_eq_true rfl⟩, C.2.2.2.2.1 _ ns_X5_leastToStop_X6_has, trivial⟩ rfl rfl (Nat.le_of_ble_eq_true rfl) dX5_leastToStop_84 ⟨Nat.le_of_ble_eq_true rfl, Nat.le_of_ble_eq_true rfl⟩ ?_
    refine x_bz_ne C (pc := 87) (tgt := 92) dX5_leastToStop_87 (by decide) (fun c_87 => ?_) (fun c_87 => ?_)
    · refine x_iinc C (pc := 92) 2 [(2, .int (nI (t + 1))), (0, .ref (z + k)), (1, .int (nI rf))] dX5_leastToStop_92 rfl (nI_inc t) (by decide) rfl ?_
      refine x_goto C (pc := 95) (tgt := 69) dX5_leastToStop_95 (by decide) ?_
      exact x_sub [1, 2, 0] _ rfl (ih_69 (t + 1) ⟨(by omega), (by rw [← hlt, show n - kk + 1 - t = n - kk + 1 - (t + 1) + 1 by omega, lsG, ← hrf, if_pos c_87])⟩ (by omega))
    refine x_iload_n C (pc := 90) 2 dX5_leastToStop_90 rfl ?_
    exact x_iret C hR0 rfl (Nat.le_of_ble_eq_true rfl) (Nat.le_of_ble_eq_true rfl) ⟨(by rw [← hlt, show n - kk + 1 - t = n - kk - t + 1 by omega, lsG, ← hrf, if_neg (by rw [c_87]; decide)]), rfl, rfl⟩ dX5_leastToStop_91
  refine x_iload_n C (pc := 12) 2 dX5_leastToStop_12 rfl ?_
  refine x_aload_n C (pc := 13) 0 dX5_leastToStop_13 rfl ?_
  refine x_get C (pc := 14) (q := k) (v := .int (nI cw)) (ci := 5) rfl hn_X5_leastToStop_X5 6 (by decide) fl_X5_leastToStop_45 rfl (by omega) hR.ob rfl dX5_leastToStop_14 ?_
  have hand : s &&& cw < 2 ^ n := Nat.and_lt_two_pow s hcw
  refine x_iand C (pc := 17) (v := nI (s &&& cw)) dX5_leastToStop_17 (pkand (by omega) (by omega)) ?_
  refine x_ifN_ne C (a := s &&& cw) (pc := 18) (tgt := 25) (by omega) dX5_leastToStop_18 (by decide) (fun c_18 => ?_) (fun c_18 => ?_)
  · have hst : rfG wi pd pi n cw rl (s + 1) = rfG wi pd pi n cw rl s := by rw [rfG, if_neg (fun q => c_18 q.1)]
    refine x_iconst C (pc := 25) (v := 0) dX5_leastToStop_25 (by decide) ?_
    refine x_istore_n C (pc := 26) [(3, .int 0), (0, .ref (z + k)), (1, .int (nI rf)), (2, .int (nI s))] dX5_leastToStop_26 (by decide) rfl ?_
    refine x_iload_n C (pc := 27) 0 dX5_leastToStop_27 rfl ?_
    refine x_ifN_eq C (a := 0) (pc := 28) (tgt := 61) (by decide) dX5_leastToStop_28 (by decide) (fun h_ => ?_) (fun h_ => absurd h_ (by decide))
    refine x_iinc C (pc := 61) 3 [(2, .int (nI (s + 1))), (3, .int 0), (0, .ref (z + k)), (1, .int (nI rf))] dX5_leastToStop_61 rfl (nI_inc s) (by decide) rfl ?_
    refine x_goto C (pc := 64) (tgt := 4) dX5_leastToStop_64 (by decide) ?_
    exact x_sub [2, 3, 0] _ rfl (ih_4 rf (s + 1) ⟨(by omega), (by rw [hst, ← hrf]), hr2⟩ (by omega))
  refine x_iconst C (pc := 21) (v := 1) dX5_leastToStop_21 (by decide) ?_
  refine x_goto C (pc := 22) (tgt := 26) dX5_leastToStop_22 (by decide) ?_
  refine x_istore_n C (pc := 26) [(3, .int 1), (0, .ref (z + k)), (1, .int (nI rf)), (2, .int (nI s))] dX5_leastToStop_26 (by decide) rfl ?_
  refine x_iload_n C (pc := 27) 0 dX5_leastToStop_27 rfl ?_
  refine x_ifN_eq C (a := 1) (pc := 28) (tgt := 61) (by decide) dX5_leastToStop_28 (by decide) (fun h_ => absurd h_ (by decide)) (fun _ => ?_)
  refine x_aload_n C (pc := 31) 1 dX5_leastToStop_31 rfl ?_
  refine x_aload_n C (pc := 32) 1 dX5_leastToStop_32 rfl ?_
  refine x_get C (pc := 33) (q := k) (v := .int (nI cw)) (ci := 5) rfl hn_X5_leastToStop_X5 6 (by decide) fl_X5_leastToStop_45 rfl (by omega) hR.ob rfl dX5_leastToStop_33 ?_
  refine x_iload_n C (pc := 36) 3 dX5_leastToStop_36 rfl ?_
  have hor : cw ||| s < 2 ^ n := por_lt n hcw (by omega)
  refine x_ior C (pc := 37) (v := nI (cw ||| s)) dX5_leastToStop_37 (pkor (by omega) (by omega)) ?_
  refine x_aload_n C (pc := 38) 1 dX5_leastToStop_38 rfl ?_
  refine x_get C (pc := 39) (q := k) (v := .int (nI cw)) (ci := 5) rfl hn_X5_leastToStop_X5 6 (by decide) fl_X5_leastToStop_45 rfl (by omega) hR.ob rfl dX5_leastToStop_39 ?_
  refine x_cViR C (pc := 42) (st := []) (c_X5_riskBehind l D z cI cZ cP cR N F k n wi (nI kk) (nI cw) rl ch sp pd bs od (cw ||| s) cw hR (by omega) (by omega) (by omega) (by omega) pi hpi) (cwV 2 C.2.2.2.2.1 gX5_leastToStop_X5_riskBehind rfl rfl rfl hd_X5_riskBehind ⟨Nat.le_of_ble_eq_true rfl, Nat.le_of_ble_eq_true rfl⟩) (by omega) hR.ob rfl rfl rfl (Nat.le_of_ble_eq_true rfl) dX5_leastToStop_42 ⟨Nat.le_of_ble_eq_true rfl, Nat.le_of_ble_eq_true rfl⟩ ?_
  refine x_aload_n C (pc := 45) 1 dX5_leastToStop_45 rfl ?_
  refine x_get C (pc := 46) (q := k) (v := .int rl) (ci := 5) rfl hn_X5_leastToStop_X5 7 (by decide) fl_X5_leastToStop_29 rfl (by omega) hR.ob rfl dX5_leastToStop_46 ?_
  refine x_icmp_le C (pc := 49) (tgt := 61) dX5_leastToStop_49 (by decide) (fun c_49 => ?_) (fun c_49 => ?_)
  · have hst : rfG wi pd pi n cw rl (s + 1) = rfG wi pd pi n cw rl s := by rw [rfG, if_neg (fun q => absurd q.2 (Int32.not_lt.mpr c_49))]
    refine x_iinc C (pc := 61) 3 [(2, .int (nI (s + 1))), (3, .int 1), (0, .ref (z + k)), (1, .int (nI rf))] dX5_leastToStop_61 rfl (nI_inc s) (by decide) rfl ?_
    refine x_goto C (pc := 64) (tgt := 4) dX5_leastToStop_64 (by decide) ?_
    exact x_sub [2, 3, 0] _ rfl (ih_4 rf (s + 1) ⟨(by omega), (by rw [hst, ← hrf]), hr2⟩ (by omega))
  have hst : rfG wi pd pi n cw rl (s + 1) = rfG wi pd pi n cw rl s ||| 2 ^ cntB s 10 := by rw [rfG, if_pos ⟨c_18, Int32.not_le.mp c_49⟩]
  refine x_iload_n C (pc := 52) 2 dX5_leastToStop_52 rfl ?_
  refine x_iconst C (pc := 53) (v := 1) dX5_leastToStop_53 (by decide) ?_
  refine x_iload_n C (pc := 54) 3 dX5_leastToStop_54 rfl ?_
  have hcs := cntB_le s 10
  refine x_cSiR C (pc := 55) (st := [.int 1, .int (nI rf)]) (c_J6_bitCount_0f7a4 l D z cI cZ cP cR N F s (by omega)) (va_cwS 1 C.2.2.2.2.1 gX5_leastToStop_J6_bitCount_0f7a4 rfl rfl rfl hd_J6_bitCount_0f7a4.2 ⟨Nat.le_of_ble_eq_true rfl, Nat.le_of_ble_eq_true rfl⟩) rfl rfl (Nat.le_of_ble_eq_true rfl) dX5_leastToStop_55 ⟨Nat.le_of_ble_eq_true rfl, Nat.le_of_ble_eq_true rfl⟩ ?_
  refine x_ishl C (pc := 58) (v := nI (2 ^ cntB s 10)) dX5_leastToStop_58 (pkshl (by omega)) ?_
  have hp2 : 2 ^ cntB s 10 < 2 ^ 11 := Nat.pow_lt_pow_right (by decide) (by omega)
  refine x_ior C (pc := 59) (v := nI (rf ||| 2 ^ cntB s 10)) dX5_leastToStop_59 (pkor (by omega) (by omega)) ?_
  refine x_istore_n C (pc := 60) [(1, .int (nI (rf ||| 2 ^ cntB s 10))), (3, .int 1), (0, .ref (z + k)), (2, .int (nI s))] dX5_leastToStop_60 (by decide) rfl ?_
  refine x_iinc C (pc := 61) 3 [(2, .int (nI (s + 1))), (1, .int (nI (rf ||| 2 ^ cntB s 10))), (3, .int 1), (0, .ref (z + k))] dX5_leastToStop_61 rfl (nI_inc s) (by decide) rfl ?_
  refine x_goto C (pc := 64) (tgt := 4) dX5_leastToStop_64 (by decide) ?_
  exact x_sub [3, 1, 0] _ rfl (ih_4 (rf ||| 2 ^ cntB s 10) (s + 1) ⟨(by omega), (by rw [hst, ← hrf]), (por_lt 11 hr2 (Nat.pow_lt_pow_right (by decide) (by omega)))⟩ (by omega))
def plG (od : Nat → Int32) (x : Int32) (kk : Nat) : Nat → Nat → Int32
  | 0, _ => -6
  | f + 1, c0 => if od c0 = x then nI c0 else plG od x kk f (c0 + 1)
theorem fl_X5_placeOf_26 : Cond.fieldLink RX5 26 "PileRecount$Recount" "order" "[I" ∈ wsX5_placeOf := by decide +kernel
theorem fl_X5_placeOf_42 : Cond.fieldLink RX5 42 "PileRecount$Recount" "countedPiles" "I" ∈ wsX5_placeOf := by decide +kernel
theorem hn_X5_placeOf_X5 : ∀ w ∈ wsX50, w ∈ wsX5_placeOf := fun _ h => List.mem_cons_of_mem _ (List.mem_append_right _ h)
set_option maxHeartbeats 4000000 in
set_option maxRecDepth 100000 in
theorem c_X5_placeOf (l : Launch) (D : va_G) (z : Nat) (cI cZ cP cR : ClassId) (N : Nat) (F : Nat → va_E) (k kk : Nat) (pl wi cs rl ch sp : Int32) (pd : Nat → Nat → Int32) (bs od : Nat → Int32) (x : Int32) (hR : isRec z cI cP F k pl wi (nI kk) cs rl ch sp pd bs od) (hk : k + 14 ≤ N) (hkk : kk ≤ 10) : gMi l yX5_placeOf wsX5_placeOf ({ frames := 0, cells := 0, slots := 0, locals := 0 }) D z cI cZ cP cR N F [.ref (z + k), .int x] (gRes (plG od x kk kk 0) N (fun F2 => F2 = F)) 0 0 := by
  refine gMi.of (cc := cX5_placeOf) (maxL := 3) (ret := (some .int)) (by decide) rfl (Nat.le_of_ble_eq_true rfl) [(0, .ref (z + k)), (1, .int x)] rfl ?_
  intro pg ev sg mg bel me cg C hR0
  refine x_iconst C (pc := 0) (v := 0) dX5_placeOf_0 (by decide) ?_
  refine x_istore_n C (pc := 1) [(2, .int 0), (0, .ref (z + k)), (1, .int x)] dX5_placeOf_1 (by decide) rfl ?_
  refine x_sub [1, 2, 0] _ rfl ?_
  refine x_loop1 (A1 := Nat) (pc := 2) (st := []) (fun c0 => kk - c0) (fun c0 => (c0 ≤ kk) ∧ (plG od x kk (kk - c0) c0 = plG od x kk kk 0)) (fun c0 => N) (fun c0 => F) (fun c0 => 0) (fun c0 => 0) (fun c0 => [(0, .ref (z + k)), (1, .int x), (2, .int (nI c0))]) 0 ⟨(Nat.zero_le _), rfl⟩ rfl rfl rfl rfl rfl ?_
  rintro c0 ⟨hc, hpl⟩ ih_2
  try dsimp only at ih_2
  refine x_iload_n C (pc := 2) 2 dX5_placeOf_2 rfl ?_
  refine x_aload_n C (pc := 3) 0 dX5_placeOf_3 rfl ?_
  refine x_get C (pc := 4) (q := k) (v := .int (nI kk)) (ci := 5) rfl hn_X5_placeOf_X5 5 (by decide) fl_X5_placeOf_42 rfl (by omega) hR.ob rfl dX5_placeOf_4 ?_
  refine x_icmpN_ge C (a := c0) (b := kk) (pc := 7) (tgt := 28) (by omega) (by omega) dX5_placeOf_7 (by decide) (fun c_7 => ?_) (fun c_7 => ?_)
  · refine x_bipush C (pc := 28) (v := (-6)) dX5_placeOf_28 (by decide) ?_
    exact x_iret C hR0 rfl (Nat.le_of_ble_eq_true rfl) (Nat.le_of_ble_eq_true rfl) ⟨(by rw [← hpl, show kk - c0 = 0 by omega]; rfl), rfl, rfl⟩ dX5_placeOf_30
  refine x_aload_n C (pc := 10) 0 dX5_placeOf_10 rfl ?_
  refine x_get C (pc := 11) (q := k) (v := .ref (z + (k + 13))) (ci := 5) rfl hn_X5_placeOf_X5 4 (by decide) fl_X5_placeOf_26 rfl (by omega) hR.ob rfl dX5_placeOf_11 ?_
  refine x_iload_n C (pc := 14) 2 dX5_placeOf_14 rfl ?_
  refine x_ialdE C (pc := 15) (q := k + 13) (j := c0) (f := od) (by omega) hR.od rfl (by omega) (by decide) dX5_placeOf_15 ?_
  refine x_iload_n C (pc := 16) 1 dX5_placeOf_16 rfl ?_
  refine x_icmp_ne C (pc := 17) (tgt := 22) dX5_placeOf_17 (by decide) (fun c_17 => ?_) (fun c_17 => ?_)
  · refine x_iinc C (pc := 22) 2 [(2, .int (nI (c0 + 1))), (0, .ref (z + k)), (1, .int x)] dX5_placeOf_22 rfl (nI_inc c0) (by decide) rfl ?_
    refine x_goto C (pc := 25) (tgt := 2) dX5_placeOf_25 (by decide) ?_
    exact x_sub [1, 2, 0] _ rfl (ih_2 (c0 + 1) ⟨(by omega), (by rw [← hpl, show kk - c0 = kk - (c0 + 1) + 1 by omega, plG, if_neg c_17])⟩ (by omega))
  refine x_iload_n C (pc := 20) 2 dX5_placeOf_20 rfl ?_
  exact x_iret C hR0 rfl (Nat.le_of_ble_eq_true rfl) (Nat.le_of_ble_eq_true rfl) ⟨(by rw [← hpl, show kk - c0 = kk - (c0 + 1) + 1 by omega, plG, if_pos c_17]), rfl, rfl⟩ dX5_placeOf_21
