abbrev RD : Type := (Nat → Int32) × (Nat → Nat → Int32) × (Nat → Int32) × (Nat → Int32)
abbrev isRecD (z : Nat) (cI cP : ClassId) (F : Nat → va_E) (k : Nat) (R : RD) : Prop := isRec z cI cP F k (R.1 0) (R.1 1) (R.1 2) (R.1 3) (R.1 4) (R.1 5) (R.1 6) R.2.1 R.2.2.1 R.2.2.2
def hbOK (k : Nat) (hb : Nat → Nat) : Prop := ∀ i, i < 6 → (k + 2 ≤ hb i ∧ hb i + 14 ≤ k + 86) ∧ ∀ j, j < 6 → i ≠ j → hb i + 14 ≤ hb j ∨ hb j + 14 ≤ hb i
def rotB {α : Type} (f : Nat → α) : Nat → α := fun i => if i = 5 then f 0 else f (i + 1)
def shB (hb : Nat → Nat) (i : Nat) : Nat → Nat := fun j => if j + 1 < i then hb (j + 1) else hb j
theorem shB_1 (hb : Nat → Nat) : shB hb 1 = hb := by funext j; simp [shB]
theorem shB_up (hb : Nat → Nat) {i : Nat} (hi : 0 < i) : va_up (shB hb i) (i - 1) (hb i) = shB hb (i + 1) := by
  funext j
  by_cases h : j = i - 1
  · subst h; rw [va_up_self, shB, if_pos (by omega)]; congr 1; omega
  · rw [va_up_ne _ _ h]
    by_cases h2 : j + 1 < i
    · rw [shB, shB, if_pos h2, if_pos (by omega)]
    · rw [shB, shB, if_neg h2, if_neg (by omega)]
theorem hbOK.rot {k : Nat} {hb : Nat → Nat} (h : hbOK k hb) : hbOK k (rotB hb) := by
  intro i hi
  have key : ∀ i, i < 6 → ∃ i', i' < 6 ∧ rotB hb i = hb i' ∧ (i = 5 → i' = 0) ∧ (i ≠ 5 → i' = i + 1) := by
    intro i hi
    by_cases e : i = 5
    · exact ⟨0, by decide, by rw [rotB, if_pos e], fun _ => rfl, fun q => absurd e q⟩
    · exact ⟨i + 1, by omega, by rw [rotB, if_neg e], fun q => absurd q e, fun _ => rfl⟩
  obtain ⟨i', h1, h2, h3, h4⟩ := key i hi
  refine ⟨by rw [h2]; exact (h i' h1).1, fun j hj hij => ?_⟩
  obtain ⟨j', g1, g2, g3, g4⟩ := key j hj
  rw [h2, g2]
  exact (h i' h1).2 j' g1 (by omega)
def recD {α : Type} (n : Nat) (hd : Nat → α) (R : α) : Nat → α := if n < 6 then va_up hd n R else va_up (rotB hd) 5 R
theorem isHis.exb {z : Nat} {cR : ClassId} {F : Nat → va_E} {k : Nat} {ln : Int32} {hb hb' : Nat → Nat} (h : isHis z cR F k ln hb) (e : ∀ i, i < 6 → hb i = hb' i) : isHis z cR F k ln hb' := by
  obtain ⟨a, g, b, c⟩ := h
  exact ⟨a, g, b, fun i hi => by rw [← e i hi]; exact c i hi⟩
section GX5
variable {p : Program} {l : Launch} {e : Env} {R : Room} {s : State} {m : MethodId} {args : Array Value} {below : List Frame} {meth : Method} {c : Code} {nL z : Nat} {D : va_G} {Q : State → Prop} {N : Nat} {F : Nat → va_E} {cells slots : Nat} {L : List (Nat × Value)} {pc : Nat} {st : List Value} {own : String} {cc : ByteArray} {Ts : List Cond} {cI cZ cP cR : ClassId}
theorem xr_his (C : gC p s m args c own cc nL Ts z D cI cZ cP cR) {k : Nat} {ln : Int32} {hb : Nat → Nat} (hR : isHis z cR F k ln hb) (hk : k + 2 ≤ N) {i : Int32} {j : Nat} (hi : i = nI j) (hj : j < 6) (hdg : decode cc pc = .ok (.aaload, 1)) (kk : gX p l e R s m args below meth c nL z D Q N F cells slots L (pc + 1) (.ref (z + (hb j)) :: st)) : gX p l e R s m args below meth c nL z D Q N F cells slots L pc (.int i :: .ref (z + (k + 1)) :: st) := by
  obtain ⟨h0, g, hg, hgi⟩ := hR
  exact x_aald C 3 rfl (by omega) hg hi hj (by decide) (hgi j hj) hdg kk
theorem xw_his (C : gC p s m args c own cc nL Ts z D cI cZ cP cR) {k : Nat} {ln : Int32} {hb : Nat → Nat} (hR : isHis z cR F k ln hb) (hk : k + 2 ≤ N) {i : Int32} {j q2 : Nat} {vs : List Value} (hi : i = nI j) (hj : j < 6) (hq2 : q2 < N) (hF2 : F q2 = .inr (5, vs)) (hdg : decode cc pc = .ok (.aastore, 1)) (kk : ∀ F2 : Nat → va_E, isHis z cR F2 k ln (va_up hb j q2) → gFr k (k + 2) F F2 → gX p l e R s m args below meth c nL z D Q N F2 cells slots L (pc + 1) st) : gX p l e R s m args below meth c nL z D Q N F cells slots L pc (.ref (z + q2) :: .int i :: .ref (z + (k + 1)) :: st) := by
  obtain ⟨h0, g, hg, hgi⟩ := hR
  refine x_aast C 3 rfl (by omega) hg hq2 hF2 (ci := 5) (r := (RX5, TX5, 10)) rfl hi hj (by decide) hdg (kk _ ⟨(va_up_ne _ _ (by omega)).trans h0, _, va_up_self _ _ _, fun a ha => ?_⟩ (gFr.up (by omega) (by omega)))
  by_cases e : a = j
  · rw [e, va_up_self, va_up_self]
  · rw [va_up_ne _ _ e, va_up_ne _ _ e]; exact hgi a ha
end GX5
theorem x_eqr {p : Program} {l : Launch} {e : Env} {R : Room} {s : State} {m : MethodId} {args : Array Value} {below : List Frame} {meth : Method} {c : Code} {nL z : Nat} {D : va_G} {Q : State → Prop} {N : Nat} {F : Nat → va_E} {cells slots : Nat} {L : List (Nat × Value)} {pc : Nat} {st : List Value} {q q2 : Nat} (h : q = q2) (k : gX p l e R s m args below meth c nL z D Q N F cells slots L pc (.ref (z + q2) :: st)) : gX p l e R s m args below meth c nL z D Q N F cells slots L pc (.ref (z + q) :: st) := h ▸ k
theorem fl_X0_dropOldest_11 : Cond.fieldLink RX0 11 "PileRecount$History" "before" "[LPileRecount$Recount;" ∈ wsX0_dropOldest := by decide +kernel
theorem fl_X0_dropOldest_18 : Cond.fieldLink RX0 18 "PileRecount$History" "length" "I" ∈ wsX0_dropOldest := by decide +kernel
theorem hn_X0_dropOldest_X0 : ∀ w ∈ wsX00, w ∈ wsX0_dropOldest := fun _ h => List.mem_cons_of_mem _ (List.mem_append_right _ h)
set_option maxHeartbeats 4000000 in
set_option maxRecDepth 100000 in
theorem c_X0_dropOldest (l : Launch) (D : va_G) (z : Nat) (cI cZ cP cR : ClassId) (N : Nat) (F : Nat → va_E) (k : Nat) (ln : Int32) (hb : Nat → Nat) (hR : isHis z cR F k ln hb) (hk : k + 2 ≤ N) (hO : ∀ i, i < 6 → hb i < N ∧ (hb i < k ∨ k + 2 ≤ hb i) ∧ ∃ vs, F (hb i) = .inr (5, vs)) : gMv l yX0_dropOldest wsX0_dropOldest ({ frames := 0, cells := 0, slots := 0, locals := 0 }) D z cI cZ cP cR N F [.ref (z + k)] (gVoid N (fun F2 => isHis z cR F2 k 5 (rotB hb) ∧ gFr k (k + 2) F F2)) 0 0 := by
  refine gMv.of (cc := cX0_dropOldest) (maxL := 3) (ret := none) (by decide) rfl (Nat.le_of_ble_eq_true rfl) [(0, .ref (z + k))] rfl ?_
  intro pg ev sg mg bel me cg C hR0
  refine x_aload_n C (pc := 0) 0 dX0_dropOldest_0 rfl ?_
  refine x_get C (pc := 1) (q := k) (v := .ref (z + (k + 1))) (ci := 0) rfl hn_X0_dropOldest_X0 0 (by decide) fl_X0_dropOldest_11 rfl (by omega) hR.ob rfl dX0_dropOldest_1 ?_
  refine x_iconst C (pc := 4) (v := 0) dX0_dropOldest_4 (by decide) ?_
  refine xr_his C (pc := 5) (j := 0) hR (by omega) rfl (by omega) dX0_dropOldest_5 ?_
  refine x_astore_n C (pc := 6) [(1, .ref (z + (hb 0))), (0, .ref (z + k))] dX0_dropOldest_6 (by decide) rfl ?_
  refine x_iconst C (pc := 7) (v := 1) dX0_dropOldest_7 (by decide) ?_
  refine x_istore_n C (pc := 8) [(2, .int 1), (1, .ref (z + (hb 0))), (0, .ref (z + k))] dX0_dropOldest_8 (by decide) rfl ?_
  refine x_sub [2, 1, 0] _ rfl ?_
  refine x_loop2 (A1 := Nat) (A2 := Nat → va_E) (pc := 9) (st := []) (fun i G => 6 - i) (fun i G => (1 ≤ i) ∧ (i ≤ 6) ∧ (isHis z cR G k ln (shB hb i)) ∧ (gFr k (k + 2) F G)) (fun i G => N) (fun i G => G) (fun i G => 0) (fun i G => 0) (fun i G => [(0, .ref (z + k)), (1, .ref (z + (hb 0))), (2, .int (nI i))]) 1 F ⟨(by decide), (by decide), (by rw [shB_1]; exact hR), gFr.rf⟩ rfl rfl rfl rfl rfl ?_
  rintro i G ⟨hi1, hi6, hG, hfr⟩ ih_9
  try dsimp only at ih_9
  refine x_iload_n C (pc := 9) 2 dX0_dropOldest_9 rfl ?_
  refine x_bipush C (pc := 10) (v := 6) dX0_dropOldest_10 (by decide) ?_
  refine x_icmpN_ge C (a := i) (b := 6) (pc := 12) (tgt := 35) (by omega) (by omega) dX0_dropOldest_12 (by decide) (fun c_12 => ?_) (fun c_12 => ?_)
  · have hi66 : i = 6 := by omega
    subst hi66
    obtain ⟨hb1, hb2, vs, hvs0⟩ := hO 0 (by omega)
    have hvs := (hfr (hb 0) (by omega)).trans hvs0
    refine x_aload_n C (pc := 35) 0 dX0_dropOldest_35 rfl ?_
    refine x_get C (pc := 36) (q := k) (v := .ref (z + (k + 1))) (ci := 0) rfl hn_X0_dropOldest_X0 0 (by decide) fl_X0_dropOldest_11 rfl (by omega) hG.ob rfl dX0_dropOldest_36 ?_
    refine x_iconst C (pc := 39) (v := 5) dX0_dropOldest_39 (by decide) ?_
    refine x_aload_n C (pc := 40) 1 dX0_dropOldest_40 rfl ?_
    refine xw_his C (pc := 41) (j := 5) (q2 := hb 0) hG (by omega) rfl (by omega) hb1 hvs dX0_dropOldest_41 (fun F_41 hG_41 fr_41 => ?_)
    refine x_aload_n C (pc := 42) 0 dX0_dropOldest_42 rfl ?_
    refine x_iconst C (pc := 43) (v := 5) dX0_dropOldest_43 (by decide) ?_
    refine xw_X0_1 C (pc := 44) hn_X0_dropOldest_X0 fl_X0_dropOldest_18 hG_41 (by omega) dX0_dropOldest_44 (fun F_44 hG_44 fr_44 => ?_)
    exact x_vret C hR0 (Nat.le_of_ble_eq_true rfl) (Nat.le_of_ble_eq_true rfl) ⟨rfl, ⟨hG_44.exb (fun a ha => by by_cases e : a = 5 <;> simp [va_up, rotB, shB, e] <;> omega), (gFr.t2 (gFr.t2 hfr fr_41) fr_44)⟩⟩ dX0_dropOldest_47
  obtain ⟨hb1, hb2, vs, hvs0⟩ := hO i (by omega)
  have hvs := (hfr (hb i) (by omega)).trans hvs0
  refine x_aload_n C (pc := 15) 0 dX0_dropOldest_15 rfl ?_
  refine x_get C (pc := 16) (q := k) (v := .ref (z + (k + 1))) (ci := 0) rfl hn_X0_dropOldest_X0 0 (by decide) fl_X0_dropOldest_11 rfl (by omega) hG.ob rfl dX0_dropOldest_16 ?_
  refine x_iload_n C (pc := 19) 2 dX0_dropOldest_19 rfl ?_
  refine x_iconst C (pc := 20) (v := 1) dX0_dropOldest_20 (by decide) ?_
  refine x_isub C (pc := 21) (v := nI (i - 1)) dX0_dropOldest_21 (pk_sub (a := i) (b := 1) (by omega)) ?_
  refine x_aload_n C (pc := 22) 0 dX0_dropOldest_22 rfl ?_
  refine x_get C (pc := 23) (q := k) (v := .ref (z + (k + 1))) (ci := 0) rfl hn_X0_dropOldest_X0 0 (by decide) fl_X0_dropOldest_11 rfl (by omega) hG.ob rfl dX0_dropOldest_23 ?_
  refine x_iload_n C (pc := 26) 2 dX0_dropOldest_26 rfl ?_
  refine xr_his C (pc := 27) (j := i) hG (by omega) rfl (by omega) dX0_dropOldest_27 ?_
  refine x_eqr (q2 := hb i) (by rw [shB, if_neg (by omega)]) ?_
  refine xw_his C (pc := 28) (j := i - 1) (q2 := hb i) hG (by omega) rfl (by omega) (hO i (by omega)).1 (hvs) dX0_dropOldest_28 (fun F_28 hG_28 fr_28 => ?_)
  refine x_iinc C (pc := 29) 2 [(2, .int (nI (i + 1))), (0, .ref (z + k)), (1, .ref (z + (hb 0)))] dX0_dropOldest_29 rfl (nI_inc i) (by decide) rfl ?_
  refine x_goto C (pc := 32) (tgt := 9) dX0_dropOldest_32 (by decide) ?_
  exact x_sub [1, 2, 0] _ rfl (ih_9 (i + 1) F_28 ⟨(by omega), (by omega), (by rw [← shB_up hb (by omega)]; exact hG_28), (gFr.t2 hfr fr_28)⟩ (by omega))
theorem fl_X0_record_11 : Cond.fieldLink RX0 11 "PileRecount$History" "before" "[LPileRecount$Recount;" ∈ wsX0_record := by decide +kernel
theorem fl_X0_record_18 : Cond.fieldLink RX0 18 "PileRecount$History" "length" "I" ∈ wsX0_record := by decide +kernel
theorem hn_X0_record_X0 : ∀ w ∈ wsX00, w ∈ wsX0_record := fun _ h => List.mem_cons_of_mem _ (List.mem_append_left _ (List.mem_append_left _ (List.mem_append_right _ h)))
set_option maxHeartbeats 4000000 in
set_option maxRecDepth 100000 in
theorem c_X0_record (l : Launch) (D : va_G) (z : Nat) (cI cZ cP cR : ClassId) (N : Nat) (F : Nat → va_E) (k n : Nat) (hb : Nat → Nat) (hd : Nat → RD) (k2 : Nat) (R2 : RD) (hR : isHis z cR F k (nI n) hb) (hk : k + 86 ≤ N) (hn : n ≤ 6) (hB : hbOK k hb) (hD : ∀ i, i < 6 → isRecD z cI cP F (hb i) (hd i)) (hQ : isRecD z cI cP F k2 R2) (hk2 : k2 + 14 ≤ N) (hdis : k2 + 14 ≤ k ∨ k + 86 ≤ k2) (hsp : R2.1 6 = 0 ∨ R2.1 6 = 1) : gMv l yX0_record wsX0_record ({ frames := 2, cells := 0, slots := 0, locals := 43 }) D z cI cZ cP cR N F [.ref (z + k), .ref (z + k2)] (gVoid N (fun F2 => ∃ hb2 : Nat → Nat, hbOK k hb2 ∧ isHis z cR F2 k (nI (if n < 6 then n + 1 else 6)) hb2 ∧ (∀ i, i < 6 → isRecD z cI cP F2 (hb2 i) (recD n hd R2 i)) ∧ gFr k (k + 86) F F2)) 0 0 := by
  refine gMv.of (cc := cX0_record) (maxL := 2) (ret := none) (by decide) rfl (Nat.le_of_ble_eq_true rfl) [(0, .ref (z + k)), (1, .ref (z + k2))] rfl ?_
  intro pg ev sg mg bel me cg C hR0
  refine x_aload_n C (pc := 0) 0 dX0_record_0 rfl ?_
  refine x_get C (pc := 1) (q := k) (v := .int (nI n)) (ci := 0) rfl hn_X0_record_X0 1 (by decide) fl_X0_record_18 rfl (by omega) hR.ob rfl dX0_record_1 ?_
  refine x_bipush C (pc := 4) (v := 6) dX0_record_4 (by decide) ?_
  refine x_icmpN_lt C (a := n) (b := 6) (pc := 6) (tgt := 13) (by omega) (by omega) dX0_record_6 (by decide) (fun c_6 => ?_) (fun c_6 => ?_)
  · have hDn := hD n (by omega)
    have hBn := (hB n (by omega)).1
    refine x_aload_n C (pc := 13) 0 dX0_record_13 rfl ?_
    refine x_get C (pc := 14) (q := k) (v := .ref (z + (k + 1))) (ci := 0) rfl hn_X0_record_X0 0 (by decide) fl_X0_record_11 rfl (by omega) hR.ob rfl dX0_record_14 ?_
    refine x_aload_n C (pc := 17) 0 dX0_record_17 rfl ?_
    refine x_get C (pc := 18) (q := k) (v := .int (nI n)) (ci := 0) rfl hn_X0_record_X0 1 (by decide) fl_X0_record_18 rfl (by omega) hR.ob rfl dX0_record_18 ?_
    refine xr_his C (pc := 21) (j := n) hR (by omega) rfl (by omega) dX0_record_21 ?_
    refine x_aload_n C (pc := 22) 1 dX0_record_22 rfl ?_
    refine x_cVvE C (pc := 23) (st := []) (c_X5_copyFrom l D z cI cZ cP cR N F (hb n) ((hd n).1 0) ((hd n).1 1) ((hd n).1 2) ((hd n).1 3) ((hd n).1 4) ((hd n).1 5) ((hd n).1 6) ((hd n).2.1) ((hd n).2.2.1) ((hd n).2.2.2) k2 (R2.1 0) (R2.1 1) (R2.1 2) (R2.1 3) (R2.1 4) (R2.1 5) (R2.1 6) R2.2.1 R2.2.2.1 R2.2.2.2 hDn (by omega) hQ (by omega) (by omega) hsp) (cwV 1 C.2.2.2.2.1 gX0_record_X5_copyFrom rfl rfl rfl hd_X5_copyFrom ⟨Nat.le_of_ble_eq_true rfl, Nat.le_of_ble_eq_true rfl⟩) (by omega) hDn.ob rfl rfl rfl (Nat.le_of_ble_eq_true rfl) dX0_record_23 ⟨Nat.le_of_ble_eq_true rfl, Nat.le_of_ble_eq_true rfl⟩ (fun F_23 h_23 => ?_)
    obtain ⟨hDn_23, fr_23⟩ := h_23
    have hR_23 := hR.same (F2 := F_23) (fun q _ _ => fr_23 q (by omega))
    have hQ_23 := hQ.same (F2 := F_23) (fun q _ _ => fr_23 q (by omega))
    refine x_aload_n C (pc := 26) 0 dX0_record_26 rfl ?_
    refine x_dup C (pc := 27) dX0_record_27 rfl ?_
    refine x_get C (pc := 28) (q := k) (v := .int (nI n)) (ci := 0) rfl hn_X0_record_X0 1 (by decide) fl_X0_record_18 rfl (by omega) hR_23.ob rfl dX0_record_28 ?_
    refine x_iconst C (pc := 31) (v := 1) dX0_record_31 (by decide) ?_
    refine x_iadd C (pc := 32) (v := nI (n + 1)) dX0_record_32 (nI_add n 1) ?_
    refine xw_X0_1 C (pc := 33) hn_X0_record_X0 fl_X0_record_18 hR_23 (by omega) dX0_record_33 (fun F_33 hR_33 fr_33 => ?_)
    have hQ_33 := hQ_23.same (F2 := F_33) (fun q _ _ => fr_33 q (by omega))
    have hDn_33 := hDn_23.same (F2 := F_33) (fun q _ _ => fr_33 q (by omega))
    exact x_vret C hR0 (Nat.le_of_ble_eq_true rfl) (Nat.le_of_ble_eq_true rfl) ⟨rfl, ⟨hb, hB, (by rw [if_pos c_6]; exact hR_33), fun i hi => by
      unfold recD
      rw [if_pos c_6]
      by_cases e : i = n
      · subst e; rw [va_up_self]; exact hDn_33
      · rw [va_up_ne _ _ e]; exact (hD i hi).same (fun q h1 h2 => by have a1 := (hB i hi).1; have a2 := (hB i hi).2 n (by omega) e; rw [fr_33 q (by omega), fr_23 q (by omega)]), (gFr.t2 (gFr.wide (a := k) (b := k + 86) fr_23 (by omega) (by omega)) (gFr.wide (a := k) (b := k + 86) fr_33 (by omega) (by omega)))⟩⟩ dX0_record_36
  refine x_aload_n C (pc := 9) 0 dX0_record_9 rfl ?_
  refine x_cVvE C (pc := 10) (st := []) (c_X0_dropOldest l D z cI cZ cP cR N F k (nI n) hb hR (by omega) (fun i hi => ⟨by have := (hB i hi).1; omega, by have := (hB i hi).1; omega, _, (hD i hi).ob⟩)) (cwV 0 C.2.2.2.2.1 gX0_record_X0_dropOldest rfl rfl rfl hd_X0_dropOldest ⟨Nat.le_of_ble_eq_true rfl, Nat.le_of_ble_eq_true rfl⟩) (by omega) hR.ob rfl rfl rfl (Nat.le_of_ble_eq_true rfl) dX0_record_10 ⟨Nat.le_of_ble_eq_true rfl, Nat.le_of_ble_eq_true rfl⟩ (fun F_10 h_10 => ?_)
  obtain ⟨hR_10, fr_10⟩ := h_10
  have hQ_10 := hQ.same (F2 := F_10) (fun q _ _ => fr_10 q (by omega))
  have hBr := (hbOK.rot hB)
  have hbe : rotB hb 5 = hb 0 := rfl
  have hDn := (hD 0 (by omega)).same (F2 := F_10) (fun q h1 h2 => fr_10 q (by have := (hB 0 (by omega)).1; omega))
  rw [← hbe] at hDn
  have hBn := (hBr 5 (by omega)).1
  refine x_aload_n C (pc := 13) 0 dX0_record_13 rfl ?_
  refine x_get C (pc := 14) (q := k) (v := .ref (z + (k + 1))) (ci := 0) rfl hn_X0_record_X0 0 (by decide) fl_X0_record_11 rfl (by omega) hR_10.ob rfl dX0_record_14 ?_
  refine x_aload_n C (pc := 17) 0 dX0_record_17 rfl ?_
  refine x_get C (pc := 18) (q := k) (v := .int 5) (ci := 0) rfl hn_X0_record_X0 1 (by decide) fl_X0_record_18 rfl (by omega) hR_10.ob rfl dX0_record_18 ?_
  refine xr_his C (pc := 21) (j := 5) hR_10 (by omega) rfl (by omega) dX0_record_21 ?_
  refine x_aload_n C (pc := 22) 1 dX0_record_22 rfl ?_
  refine x_cVvE C (pc := 23) (st := []) (c_X5_copyFrom l D z cI cZ cP cR N F_10 (rotB hb 5) ((hd 0).1 0) ((hd 0).1 1) ((hd 0).1 2) ((hd 0).1 3) ((hd 0).1 4) ((hd 0).1 5) ((hd 0).1 6) ((hd 0).2.1) ((hd 0).2.2.1) ((hd 0).2.2.2) k2 (R2.1 0) (R2.1 1) (R2.1 2) (R2.1 3) (R2.1 4) (R2.1 5) (R2.1 6) R2.2.1 R2.2.2.1 R2.2.2.2 hDn (by omega) hQ_10 (by omega) (by omega) hsp) (cwV 1 C.2.2.2.2.1 gX0_record_X5_copyFrom rfl rfl rfl hd_X5_copyFrom ⟨Nat.le_of_ble_eq_true rfl, Nat.le_of_ble_eq_true rfl⟩) (by omega) hDn.ob rfl rfl rfl (Nat.le_of_ble_eq_true rfl) dX0_record_23 ⟨Nat.le_of_ble_eq_true rfl, Nat.le_of_ble_eq_true rfl⟩ (fun F_23 h_23 => ?_)
  obtain ⟨hDn_23, fr_23⟩ := h_23
  have hR_23 := hR_10.same (F2 := F_23) (fun q _ _ => fr_23 q (by omega))
  have hQ_23 := hQ_10.same (F2 := F_23) (fun q _ _ => fr_23 q (by omega))
  refine x_aload_n C (pc := 26) 0 dX0_record_26 rfl ?_
  refine x_dup C (pc := 27) dX0_record_27 rfl ?_
  refine x_get C (pc := 28) (q := k) (v := .int 5) (ci := 0) rfl hn_X0_record_X0 1 (by decide) fl_X0_record_18 rfl (by omega) hR_23.ob rfl dX0_record_28 ?_
  refine x_iconst C (pc := 31) (v := 1) dX0_record_31 (by decide) ?_
  refine x_iadd C (pc := 32) (v := nI (5 + 1)) dX0_record_32 (nI_add 5 1) ?_
  refine xw_X0_1 C (pc := 33) hn_X0_record_X0 fl_X0_record_18 hR_23 (by omega) dX0_record_33 (fun F_33 hR_33 fr_33 => ?_)
  have hQ_33 := hQ_23.same (F2 := F_33) (fun q _ _ => fr_33 q (by omega))
  have hDn_33 := hDn_23.same (F2 := F_33) (fun q _ _ => fr_33 q (by omega))
  exact x_vret C hR0 (Nat.le_of_ble_eq_true rfl) (Nat.le_of_ble_eq_true rfl) ⟨rfl, ⟨rotB hb, hBr, (by rw [if_neg (by omega)]; exact hR_33), fun i hi => by
    unfold recD
    rw [if_neg (by omega)]
    by_cases e : i = 5
    · subst e; rw [va_up_self]; exact hDn_33
    · rw [va_up_ne _ _ e, rotB, rotB, if_neg e, if_neg e]; exact (hD (i + 1) (by omega)).same (fun q h1 h2 => by have a1 := (hB (i + 1) (by omega)).1; have a2 := (hB (i + 1) (by omega)).2 0 (by omega) (by omega); rw [fr_33 q (by omega), fr_23 q (by omega), fr_10 q (by omega)]), (gFr.t2 (gFr.t2 (gFr.wide (a := k) (b := k + 86) fr_10 (by omega) (by omega)) (gFr.wide (a := k) (b := k + 86) fr_23 (by omega) (by omega))) (gFr.wide (a := k) (b := k + 86) fr_33 (by omega) (by omega)))⟩⟩ dX0_record_36
theorem fl_X0_takeBack_11 : Cond.fieldLink RX0 11 "PileRecount$History" "before" "[LPileRecount$Recount;" ∈ wsX0_takeBack := by decide +kernel
theorem fl_X0_takeBack_18 : Cond.fieldLink RX0 18 "PileRecount$History" "length" "I" ∈ wsX0_takeBack := by decide +kernel
theorem hn_X0_takeBack_X0 : ∀ w ∈ wsX00, w ∈ wsX0_takeBack := fun _ h => List.mem_cons_of_mem _ (List.mem_append_left _ (List.mem_append_left _ (List.mem_append_right _ h)))
set_option maxHeartbeats 4000000 in
set_option maxRecDepth 100000 in
theorem c_X0_takeBack (l : Launch) (D : va_G) (z : Nat) (cI cZ cP cR : ClassId) (N : Nat) (F : Nat → va_E) (k n : Nat) (hb : Nat → Nat) (hd : Nat → RD) (k2 : Nat) (R2 : RD) (hR : isHis z cR F k (nI n) hb) (hk : k + 86 ≤ N) (hn : n ≤ 6) (hB : hbOK k hb) (hD : ∀ i, i < 6 → isRecD z cI cP F (hb i) (hd i)) (hQ : isRecD z cI cP F k2 R2) (hk2 : k2 + 14 ≤ N) (hdis : k2 + 14 ≤ k ∨ k + 86 ≤ k2) (hsp : ∀ i, i < 6 → (hd i).1 6 = 0 ∨ (hd i).1 6 = 1) (hn1 : 0 < n) : gMv l yX0_takeBack wsX0_takeBack ({ frames := 2, cells := 0, slots := 0, locals := 43 }) D z cI cZ cP cR N F [.ref (z + k), .ref (z + k2)] (gVoid N (fun F2 => isHis z cR F2 k (nI (n - 1)) hb ∧ isRecD z cI cP F2 k2 (hd (n - 1)) ∧ (∀ i, i < 6 → isRecD z cI cP F2 (hb i) (hd i)) ∧ (∀ q, (q < k2 ∨ k2 + 14 ≤ q) → (q < k ∨ k + 2 ≤ q) → F2 q = F q))) 0 0 := by
  refine gMv.of (cc := cX0_takeBack) (maxL := 2) (ret := none) (by decide) rfl (Nat.le_of_ble_eq_true rfl) [(0, .ref (z + k)), (1, .ref (z + k2))] rfl ?_
  intro pg ev sg mg bel me cg C hR0
  refine x_aload_n C (pc := 0) 0 dX0_takeBack_0 rfl ?_
  refine x_get C (pc := 1) (q := k) (v := .int (nI n)) (ci := 0) rfl hn_X0_takeBack_X0 1 (by decide) fl_X0_takeBack_18 rfl (by omega) hR.ob rfl dX0_takeBack_1 ?_
  refine x_ifN_le C (a := n) (pc := 4) (tgt := 30) (by omega) dX0_takeBack_4 (by decide) (fun c_4 => absurd c_4 (by omega)) (fun c_4 => ?_)
  refine x_aload_n C (pc := 7) 0 dX0_takeBack_7 rfl ?_
  refine x_dup C (pc := 8) dX0_takeBack_8 rfl ?_
  refine x_get C (pc := 9) (q := k) (v := .int (nI n)) (ci := 0) rfl hn_X0_takeBack_X0 1 (by decide) fl_X0_takeBack_18 rfl (by omega) hR.ob rfl dX0_takeBack_9 ?_
  refine x_iconst C (pc := 12) (v := 1) dX0_takeBack_12 (by decide) ?_
  refine x_isub C (pc := 13) (v := nI (n - 1)) dX0_takeBack_13 (pk_sub (a := n) (b := 1) (by omega)) ?_
  refine xw_X0_1 C (pc := 14) hn_X0_takeBack_X0 fl_X0_takeBack_18 hR (by omega) dX0_takeBack_14 (fun F_14 hR_14 fr_14 => ?_)
  have hQ_14 := hQ.same (F2 := F_14) (fun q _ _ => fr_14 q (by omega))
  have hDn := (hD (n - 1) (by omega)).same (F2 := F_14) (fun q h1 h2 => fr_14 q (by have := (hB (n - 1) (by omega)).1; omega))
  have hBn := (hB (n - 1) (by omega)).1
  refine x_aload_n C (pc := 17) 1 dX0_takeBack_17 rfl ?_
  refine x_aload_n C (pc := 18) 0 dX0_takeBack_18 rfl ?_
  refine x_get C (pc := 19) (q := k) (v := .ref (z + (k + 1))) (ci := 0) rfl hn_X0_takeBack_X0 0 (by decide) fl_X0_takeBack_11 rfl (by omega) hR_14.ob rfl dX0_takeBack_19 ?_
  refine x_aload_n C (pc := 22) 0 dX0_takeBack_22 rfl ?_
  refine x_get C (pc := 23) (q := k) (v := .int (nI (n - 1))) (ci := 0) rfl hn_X0_takeBack_X0 1 (by decide) fl_X0_takeBack_18 rfl (by omega) hR_14.ob rfl dX0_takeBack_23 ?_
  refine xr_his C (pc := 26) (j := n - 1) hR_14 (by omega) rfl (by omega) dX0_takeBack_26 ?_
  refine x_cVvE C (pc := 27) (st := []) (c_X5_copyFrom l D z cI cZ cP cR N F_14 k2 (R2.1 0) (R2.1 1) (R2.1 2) (R2.1 3) (R2.1 4) (R2.1 5) (R2.1 6) R2.2.1 R2.2.2.1 R2.2.2.2 (hb (n - 1)) ((hd (n - 1)).1 0) ((hd (n - 1)).1 1) ((hd (n - 1)).1 2) ((hd (n - 1)).1 3) ((hd (n - 1)).1 4) ((hd (n - 1)).1 5) ((hd (n - 1)).1 6) ((hd (n - 1)).2.1) ((hd (n - 1)).2.2.1) ((hd (n - 1)).2.2.2) hQ_14 (by omega) hDn (by omega) (by omega) (hsp (n - 1) (by omega))) (cwV 1 C.2.2.2.2.1 gX0_takeBack_X5_copyFrom rfl rfl rfl hd_X5_copyFrom ⟨Nat.le_of_ble_eq_true rfl, Nat.le_of_ble_eq_true rfl⟩) (by omega) hQ_14.ob rfl rfl rfl (Nat.le_of_ble_eq_true rfl) dX0_takeBack_27 ⟨Nat.le_of_ble_eq_true rfl, Nat.le_of_ble_eq_true rfl⟩ (fun F_27 h_27 => ?_)
  obtain ⟨hQ_27, fr_27⟩ := h_27
  have hR_27 := hR_14.same (F2 := F_27) (fun q _ _ => fr_27 q (by omega))
  have hDn_27 := hDn.same (F2 := F_27) (fun q _ _ => fr_27 q (by omega))
  exact x_vret C hR0 (Nat.le_of_ble_eq_true rfl) (Nat.le_of_ble_eq_true rfl) ⟨rfl, ⟨hR_27, hQ_27, fun i hi => (hD i hi).same (fun q h1 h2 => by have a1 := (hB i hi).1; rw [fr_27 q (by omega), fr_14 q (by omega)]), fun q h1 h2 => by rw [fr_27 q h1, fr_14 q h2]⟩⟩ dX0_takeBack_30
