abbrev PSt : Type := Nat × Bool × (Nat → Int32)
def nxG (cd : Nat → Nat) (len s : Nat) : Nat := if s < len then cd s else 0
def dig (x : Nat) : Bool := decide (48 ≤ x) && decide (x ≤ 57)
theorem dig_in {x : Nat} (h : x < 128) : inB (nI x) 48 57 = dig x := by
  have key : ∀ x, x < 128 → inB (nI x) 48 57 = dig x := by decide +kernel
  exact key x h
theorem dig_ok {x : Nat} (h : dig x = true) : 48 ≤ x ∧ x ≤ 57 := by
  simpa [dig] using h
theorem nxG_lt {pa : Nat → Int32} {cd : Nat → Nat} {len s : Nat} (h : cdOK pa cd len) : nxG cd len s < 128 := by
  unfold nxG
  split
  · rename_i hs; exact (h s hs).2
  · decide
theorem nxG_pos {cd : Nat → Nat} {len s : Nat} (h : 0 < nxG cd len s) : s < len := by
  unfold nxG at h
  split at h
  · assumption
  · omega
def fS (cd : Nat → Nat) (len c : Nat) (P : PSt) : PSt := if P.2.1 = true ∨ ¬ nxG cd len P.1 = c then (P.1, true, P.2.2) else (P.1 + 1, false, P.2.2)
def fI (cd : Nat → Nat) (len c : Nat) (P : PSt) : Bool := !P.2.1 && decide (nxG cd len P.1 = c)
def fJ (cd : Nat → Nat) (len c : Nat) (P : PSt) : PSt := if fI cd len c P = true then (P.1 + 1, P.2.1, P.2.2) else P
def tnL (cd : Nat → Nat) (len : Nat) : Nat → Nat → Nat → Nat × Nat × Bool
  | 0, v, s => (v, s, false)
  | f + 1, v, s => if 0 < v ∧ dig (nxG cd len s) = true then (if 999 < 10 * v + nxG cd len s - 48 then (v, s, true) else tnL cd len f (10 * v + nxG cd len s - 48) (s + 1)) else (v, s, false)
def fN (cd : Nat → Nat) (len r q : Nat) (P : PSt) : PSt := if P.2.1 = true then P else if dig (nxG cd len P.1) = false then (P.1, true, P.2.2) else
  ((tnL cd len (len - (P.1 + 1)) (nxG cd len P.1 - 48) (P.1 + 1)).2.1, (tnL cd len (len - (P.1 + 1)) (nxG cd len P.1 - 48) (P.1 + 1)).2.2, upd P.2.2 (6 * r + q) (nI (tnL cd len (len - (P.1 + 1)) (nxG cd len P.1 - 48) (P.1 + 1)).1))
theorem tnL_stop {cd : Nat → Nat} {len f v s : Nat} (h : ¬ (0 < v ∧ dig (nxG cd len s) = true)) : tnL cd len f v s = (v, s, false) := by
  cases f with
  | zero => rfl
  | succ f => rw [tnL, if_neg h]
def stN (q : Nat) (x : Int32) (P : PSt) : PSt := (P.1, P.2.1, upd P.2.2 q x)
def fP (cd : Nat → Nat) (len r : Nat) (P : PSt) : PSt :=
  (fun P4 : PSt => (fun P6 : PSt => if fI cd len 61 P6 = true then fN cd len r 5 (fS cd len 44 (fN cd len r 4 (stN (6 * r + 3) 1 (fJ cd len 61 P6)))) else fJ cd len 61 P6)
    (if fI cd len 44 P4 = true then fN cd len r 2 (fJ cd len 44 P4) else fJ cd len 44 P4))
  (stN (6 * r + 3) 0 (stN (6 * r + 2) 0 (fN cd len r 1 (fS cd len 44 (fN cd len r 0 P)))))
def rdN (r : Nat) (P : PSt) : Nat := if P.2.1 = true then r else r + 1
def fF (cd : Nat → Nat) (len : Nat) : Nat → Nat → PSt → PSt × Nat
  | 0, r, P => (P, r)
  | f + 1, r, P => if P.2.1 = true ∨ len ≤ P.1 then (P, r) else if (fS cd len 59 P).2.1 = true then (fS cd len 59 P, r) else
      fF cd len f (rdN r (fP cd len r (fS cd len 59 P))) (fP cd len r (fS cd len 59 P))
theorem fl_X7_next_173 : Cond.fieldLink RX7 173 "PileRecountModel" "padMany" "I" ∈ wsX7_next := by decide +kernel
theorem fl_X7_next_190 : Cond.fieldLink RX7 190 "PileRecountModel" "spot" "I" ∈ wsX7_next := by decide +kernel
theorem fl_X7_next_29 : Cond.fieldLink RX7 29 "PileRecountModel" "pad" "[I" ∈ wsX7_next := by decide +kernel
theorem hn_X7_next_X7 : ∀ w ∈ wsX70, w ∈ wsX7_next := fun _ h => List.mem_cons_of_mem _ (List.mem_append_right _ h)
set_option maxHeartbeats 4000000 in
set_option maxRecDepth 100000 in
theorem c_X7_next (l : Launch) (D : va_G) (z : Nat) (cI cZ cP cR : ClassId) (N : Nat) (F : Nat → va_E) (k len r : Nat) (pf pm : Int32) (cd : Nat → Nat) (P : PSt) (a ps sl sv sd wy pa : Nat → Int32) (hM : isMod z cI cZ F k pf pm (nI len) (nI P.1) (bz P.2.1) (nI r) a ps sl sv sd wy pa P.2.2) (hk : k + 9 ≤ N) (hcd : cdOK pa cd len) (hlen : len ≤ 80) (hle : P.1 ≤ len) : gMi l yX7_next wsX7_next ({ frames := 0, cells := 0, slots := 0, locals := 0 }) D z cI cZ cP cR N F [.ref (z + k)] (gRes (nI (nxG cd len P.1)) N (fun F2 => F2 = F)) 0 0 := by
  refine gMi.of (cc := cX7_next) (maxL := 1) (ret := (some .int)) (by decide) rfl (Nat.le_of_ble_eq_true rfl) [(0, .ref (z + k))] rfl ?_
  intro pg ev sg mg bel me cg C hR0
  have hnx : ∀ s, nxG cd len s < 128 := fun s => nxG_lt hcd
  have hnx0 := hnx P.1
  refine x_aload_n C (pc := 0) 0 dX7_next_0 rfl ?_
  refine x_get C (pc := 1) (q := k) (v := .int (nI P.1)) (ci := 7) rfl hn_X7_next_X7 10 (by decide) fl_X7_next_190 rfl (by omega) hM.ob rfl dX7_next_1 ?_
  refine x_aload_n C (pc := 4) 0 dX7_next_4 rfl ?_
  refine x_get C (pc := 5) (q := k) (v := .int (nI len)) (ci := 7) rfl hn_X7_next_X7 9 (by decide) fl_X7_next_173 rfl (by omega) hM.ob rfl dX7_next_5 ?_
  refine x_icmpN_ge C (a := P.1) (b := len) (pc := 8) (tgt := 23) (by omega) (by omega) dX7_next_8 (by decide) (fun c_8 => ?_) (fun c_8 => ?_)
  · refine x_iconst C (pc := 23) (v := 0) dX7_next_23 (by decide) ?_
    exact x_iret C hR0 rfl (Nat.le_of_ble_eq_true rfl) (Nat.le_of_ble_eq_true rfl) ⟨(by rw [nxG, if_neg (by omega)]; rfl), rfl, rfl⟩ dX7_next_24
  refine x_aload_n C (pc := 11) 0 dX7_next_11 rfl ?_
  refine x_get C (pc := 12) (q := k) (v := .ref (z + (k + 7))) (ci := 7) rfl hn_X7_next_X7 8 (by decide) fl_X7_next_29 rfl (by omega) hM.ob rfl dX7_next_12 ?_
  refine x_aload_n C (pc := 15) 0 dX7_next_15 rfl ?_
  refine x_get C (pc := 16) (q := k) (v := .int (nI P.1)) (ci := 7) rfl hn_X7_next_X7 10 (by decide) fl_X7_next_190 rfl (by omega) hM.ob rfl dX7_next_16 ?_
  refine x_ialdE C (pc := 19) (q := k + 7) (j := P.1) (f := pa) (by omega) hM.pa rfl (by omega) (by decide) dX7_next_19 ?_
  refine x_eqi (hcd P.1 (by omega)).1 ?_
  refine x_goto C (pc := 20) (tgt := 24) dX7_next_20 (by decide) ?_
  exact x_iret C hR0 rfl (Nat.le_of_ble_eq_true rfl) (Nat.le_of_ble_eq_true rfl) ⟨(by rw [nxG, if_pos c_8]), rfl, rfl⟩ dX7_next_24
theorem fl_X7_takeSign_190 : Cond.fieldLink RX7 190 "PileRecountModel" "spot" "I" ∈ wsX7_takeSign := by decide +kernel
theorem fl_X7_takeSign_193 : Cond.fieldLink RX7 193 "PileRecountModel" "isWrong" "Z" ∈ wsX7_takeSign := by decide +kernel
theorem hn_X7_takeSign_X7 : ∀ w ∈ wsX70, w ∈ wsX7_takeSign := fun _ h => List.mem_cons_of_mem _ (List.mem_append_right _ h)
set_option maxHeartbeats 4000000 in
set_option maxRecDepth 100000 in
theorem c_X7_takeSign (l : Launch) (D : va_G) (z : Nat) (cI cZ cP cR : ClassId) (N : Nat) (F : Nat → va_E) (k len r : Nat) (pf pm : Int32) (cd : Nat → Nat) (P : PSt) (a ps sl sv sd wy pa : Nat → Int32) (c : Nat) (hM : isMod z cI cZ F k pf pm (nI len) (nI P.1) (bz P.2.1) (nI r) a ps sl sv sd wy pa P.2.2) (hk : k + 9 ≤ N) (hcd : cdOK pa cd len) (hlen : len ≤ 80) (hle : P.1 ≤ len) (hc : c < 128) (hc0 : 0 < c) : gMv l yX7_takeSign wsX7_takeSign ({ frames := 1, cells := 0, slots := 0, locals := 20 }) D z cI cZ cP cR N F [.ref (z + k), .int (nI c)] (gVoid N (fun F2 => ∃ P2 : PSt, P2 = fS cd len c P ∧ isMod z cI cZ F2 k pf pm (nI len) (nI P2.1) (bz P2.2.1) (nI r) a ps sl sv sd wy pa P2.2.2 ∧ P2.1 ≤ len ∧ gFr k (k + 9) F F2)) 0 0 := by
  refine gMv.of (cc := cX7_takeSign) (maxL := 2) (ret := none) (by decide) rfl (Nat.le_of_ble_eq_true rfl) [(0, .ref (z + k)), (1, .int (nI c))] rfl ?_
  intro pg ev sg mg bel me cg C hR0
  have hnx : ∀ s, nxG cd len s < 128 := fun s => nxG_lt hcd
  have hnx0 := hnx P.1
  refine x_aload_n C (pc := 0) 0 dX7_takeSign_0 rfl ?_
  refine x_aload_n C (pc := 1) 0 dX7_takeSign_1 rfl ?_
  refine x_get C (pc := 2) (q := k) (v := .int (bz P.2.1)) (ci := 7) rfl hn_X7_takeSign_X7 11 (by decide) fl_X7_takeSign_193 rfl (by omega) hM.ob rfl dX7_takeSign_2 ?_
  refine x_bz_ne C (pc := 5) (tgt := 16) dX7_takeSign_5 (by decide) (fun c_5 => ?_) (fun c_5 => ?_)
  · refine x_iconst C (pc := 16) (v := 1) dX7_takeSign_16 (by decide) ?_
    refine x_goto C (pc := 17) (tgt := 21) dX7_takeSign_17 (by decide) ?_
    refine xw_X7_11 C (pc := 21) hn_X7_takeSign_X7 fl_X7_takeSign_193 hM (by omega) (by first | exact Or.inl rfl | exact Or.inr rfl) dX7_takeSign_21 (fun F_21 hM_21 fr_21 => ?_)
    refine x_aload_n C (pc := 24) 0 dX7_takeSign_24 rfl ?_
    refine x_dup C (pc := 25) dX7_takeSign_25 rfl ?_
    refine x_get C (pc := 26) (q := k) (v := .int (nI P.1)) (ci := 7) rfl hn_X7_takeSign_X7 10 (by decide) fl_X7_takeSign_190 rfl (by omega) hM_21.ob rfl dX7_takeSign_26 ?_
    refine x_aload_n C (pc := 29) 0 dX7_takeSign_29 rfl ?_
    refine x_get C (pc := 30) (q := k) (v := .int 1) (ci := 7) rfl hn_X7_takeSign_X7 11 (by decide) fl_X7_takeSign_193 rfl (by omega) hM_21.ob rfl dX7_takeSign_30 ?_
    refine x_ifN_eq C (a := 1) (pc := 33) (tgt := 40) (by decide) dX7_takeSign_33 (by decide) (fun h_ => absurd h_ (by decide)) (fun _ => ?_)
    refine x_iconst C (pc := 36) (v := 0) dX7_takeSign_36 (by decide) ?_
    refine x_goto C (pc := 37) (tgt := 41) dX7_takeSign_37 (by decide) ?_
    refine x_iadd C (pc := 41) (v := nI (P.1 + 0)) dX7_takeSign_41 (nI_add P.1 0) ?_
    refine xw_X7_10 C (pc := 42) hn_X7_takeSign_X7 fl_X7_takeSign_190 hM_21 (by omega) dX7_takeSign_42 (fun F_42 hM_42 fr_42 => ?_)
    exact x_vret C hR0 (Nat.le_of_ble_eq_true rfl) (Nat.le_of_ble_eq_true rfl) ⟨rfl, ⟨(P.1, true, P.2.2), (by rw [fS, if_pos]; first | exact Or.inl c_5 | exact Or.inr c_13), hM_42, hle, (gFr.t2 fr_21 fr_42)⟩⟩ dX7_takeSign_45
  refine x_aload_n C (pc := 8) 0 dX7_takeSign_8 rfl ?_
  refine x_cViR C (pc := 9) (st := [.ref (z + k)]) (c_X7_next l D z cI cZ cP cR N F k len r pf pm cd P a ps sl sv sd wy pa  hM (by omega) hcd hlen (show P.1 ≤ len by omega) ) (cwV 0 C.2.2.2.2.1 gX7_takeSign_X7_next rfl rfl rfl hd_X7_next ⟨Nat.le_of_ble_eq_true rfl, Nat.le_of_ble_eq_true rfl⟩) (by omega) hM.ob rfl rfl rfl (Nat.le_of_ble_eq_true rfl) dX7_takeSign_9 ⟨Nat.le_of_ble_eq_true rfl, Nat.le_of_ble_eq_true rfl⟩ ?_
  refine x_iload_n C (pc := 12) 1 dX7_takeSign_12 rfl ?_
  refine x_icmpN_eq C (a := nxG cd len P.1) (b := c) (pc := 13) (tgt := 20) (by omega) (by omega) dX7_takeSign_13 (by decide) (fun c_13 => ?_) (fun c_13 => ?_)
  · refine x_iconst C (pc := 20) (v := 0) dX7_takeSign_20 (by decide) ?_
    refine xw_X7_11 C (pc := 21) hn_X7_takeSign_X7 fl_X7_takeSign_193 hM (by omega) (by first | exact Or.inl rfl | exact Or.inr rfl) dX7_takeSign_21 (fun F_21 hM_21 fr_21 => ?_)
    refine x_aload_n C (pc := 24) 0 dX7_takeSign_24 rfl ?_
    refine x_dup C (pc := 25) dX7_takeSign_25 rfl ?_
    refine x_get C (pc := 26) (q := k) (v := .int (nI P.1)) (ci := 7) rfl hn_X7_takeSign_X7 10 (by decide) fl_X7_takeSign_190 rfl (by omega) hM_21.ob rfl dX7_takeSign_26 ?_
    refine x_aload_n C (pc := 29) 0 dX7_takeSign_29 rfl ?_
    refine x_get C (pc := 30) (q := k) (v := .int 0) (ci := 7) rfl hn_X7_takeSign_X7 11 (by decide) fl_X7_takeSign_193 rfl (by omega) hM_21.ob rfl dX7_takeSign_30 ?_
    refine x_ifN_eq C (a := 0) (pc := 33) (tgt := 40) (by decide) dX7_takeSign_33 (by decide) (fun h_ => ?_) (fun h_ => absurd h_ (by decide))
    refine x_iconst C (pc := 40) (v := 1) dX7_takeSign_40 (by decide) ?_
    refine x_iadd C (pc := 41) (v := nI (P.1 + 1)) dX7_takeSign_41 (nI_add P.1 1) ?_
    refine xw_X7_10 C (pc := 42) hn_X7_takeSign_X7 fl_X7_takeSign_190 hM_21 (by omega) dX7_takeSign_42 (fun F_42 hM_42 fr_42 => ?_)
    exact x_vret C hR0 (Nat.le_of_ble_eq_true rfl) (Nat.le_of_ble_eq_true rfl) ⟨rfl, ⟨(P.1 + 1, false, P.2.2), (by rw [fS, if_neg (fun h => h.elim (fun h => by rw [h] at c_5; cases c_5) (fun h => h c_13))]), hM_42, (by have := nxG_pos (cd := cd) (len := len) (s := P.1) (by omega); show P.1 + 1 ≤ len; omega), (gFr.t2 fr_21 fr_42)⟩⟩ dX7_takeSign_45
  refine x_iconst C (pc := 16) (v := 1) dX7_takeSign_16 (by decide) ?_
  refine x_goto C (pc := 17) (tgt := 21) dX7_takeSign_17 (by decide) ?_
  refine xw_X7_11 C (pc := 21) hn_X7_takeSign_X7 fl_X7_takeSign_193 hM (by omega) (by first | exact Or.inl rfl | exact Or.inr rfl) dX7_takeSign_21 (fun F_21 hM_21 fr_21 => ?_)
  refine x_aload_n C (pc := 24) 0 dX7_takeSign_24 rfl ?_
  refine x_dup C (pc := 25) dX7_takeSign_25 rfl ?_
  refine x_get C (pc := 26) (q := k) (v := .int (nI P.1)) (ci := 7) rfl hn_X7_takeSign_X7 10 (by decide) fl_X7_takeSign_190 rfl (by omega) hM_21.ob rfl dX7_takeSign_26 ?_
  refine x_aload_n C (pc := 29) 0 dX7_takeSign_29 rfl ?_
  refine x_get C (pc := 30) (q := k) (v := .int 1) (ci := 7) rfl hn_X7_takeSign_X7 11 (by decide) fl_X7_takeSign_193 rfl (by omega) hM_21.ob rfl dX7_takeSign_30 ?_
  refine x_ifN_eq C (a := 1) (pc := 33) (tgt := 40) (by decide) dX7_takeSign_33 (by decide) (fun h_ => absurd h_ (by decide)) (fun _ => ?_)
  refine x_iconst C (pc := 36) (v := 0) dX7_takeSign_36 (by decide) ?_
  refine x_goto C (pc := 37) (tgt := 41) dX7_takeSign_37 (by decide) ?_
  refine x_iadd C (pc := 41) (v := nI (P.1 + 0)) dX7_takeSign_41 (nI_add P.1 0) ?_
  refine xw_X7_10 C (pc := 42) hn_X7_takeSign_X7 fl_X7_takeSign_190 hM_21 (by omega) dX7_takeSign_42 (fun F_42 hM_42 fr_42 => ?_)
  exact x_vret C hR0 (Nat.le_of_ble_eq_true rfl) (Nat.le_of_ble_eq_true rfl) ⟨rfl, ⟨(P.1, true, P.2.2), (by rw [fS, if_pos]; first | exact Or.inl c_5 | exact Or.inr c_13), hM_42, hle, (gFr.t2 fr_21 fr_42)⟩⟩ dX7_takeSign_45
theorem fl_X7_takesIf_190 : Cond.fieldLink RX7 190 "PileRecountModel" "spot" "I" ∈ wsX7_takesIf := by decide +kernel
theorem fl_X7_takesIf_193 : Cond.fieldLink RX7 193 "PileRecountModel" "isWrong" "Z" ∈ wsX7_takesIf := by decide +kernel
theorem hn_X7_takesIf_X7 : ∀ w ∈ wsX70, w ∈ wsX7_takesIf := fun _ h => List.mem_cons_of_mem _ (List.mem_append_right _ h)
set_option maxHeartbeats 4000000 in
set_option maxRecDepth 100000 in
theorem c_X7_takesIf (l : Launch) (D : va_G) (z : Nat) (cI cZ cP cR : ClassId) (N : Nat) (F : Nat → va_E) (k len r : Nat) (pf pm : Int32) (cd : Nat → Nat) (P : PSt) (a ps sl sv sd wy pa : Nat → Int32) (c : Nat) (hM : isMod z cI cZ F k pf pm (nI len) (nI P.1) (bz P.2.1) (nI r) a ps sl sv sd wy pa P.2.2) (hk : k + 9 ≤ N) (hcd : cdOK pa cd len) (hlen : len ≤ 80) (hle : P.1 ≤ len) (hc : c < 128) (hc0 : 0 < c) : gMi l yX7_takesIf wsX7_takesIf ({ frames := 1, cells := 0, slots := 0, locals := 20 }) D z cI cZ cP cR N F [.ref (z + k), .int (nI c)] (gRes (bz (fI cd len c P)) N (fun F2 => ∃ P2 : PSt, P2 = fJ cd len c P ∧ isMod z cI cZ F2 k pf pm (nI len) (nI P2.1) (bz P2.2.1) (nI r) a ps sl sv sd wy pa P2.2.2 ∧ P2.1 ≤ len ∧ gFr k (k + 9) F F2)) 0 0 := by
  refine gMi.of (cc := cX7_takesIf) (maxL := 3) (ret := (some .boolean)) (by decide) rfl (Nat.le_of_ble_eq_true rfl) [(0, .ref (z + k)), (1, .int (nI c))] rfl ?_
  intro pg ev sg mg bel me cg C hR0
  have hnx : ∀ s, nxG cd len s < 128 := fun s => nxG_lt hcd
  have hnx0 := hnx P.1
  refine x_aload_n C (pc := 0) 0 dX7_takesIf_0 rfl ?_
  refine x_get C (pc := 1) (q := k) (v := .int (bz P.2.1)) (ci := 7) rfl hn_X7_takesIf_X7 11 (by decide) fl_X7_takesIf_193 rfl (by omega) hM.ob rfl dX7_takesIf_1 ?_
  refine x_bz_ne C (pc := 4) (tgt := 19) dX7_takesIf_4 (by decide) (fun c_4 => ?_) (fun c_4 => ?_)
  · refine x_iconst C (pc := 19) (v := 0) dX7_takesIf_19 (by decide) ?_
    refine x_istore_n C (pc := 20) [(2, .int 0), (0, .ref (z + k)), (1, .int (nI c))] dX7_takesIf_20 (by decide) rfl ?_
    refine x_aload_n C (pc := 21) 1 dX7_takesIf_21 rfl ?_
    refine x_dup C (pc := 22) dX7_takesIf_22 rfl ?_
    refine x_get C (pc := 23) (q := k) (v := .int (nI P.1)) (ci := 7) rfl hn_X7_takesIf_X7 10 (by decide) fl_X7_takesIf_190 rfl (by omega) hM.ob rfl dX7_takesIf_23 ?_
    refine x_iload_n C (pc := 26) 0 dX7_takesIf_26 rfl ?_
    refine x_ifN_eq C (a := 0) (pc := 27) (tgt := 34) (by decide) dX7_takesIf_27 (by decide) (fun h_ => ?_) (fun h_ => absurd h_ (by decide))
    refine x_iconst C (pc := 34) (v := 0) dX7_takesIf_34 (by decide) ?_
    refine x_iadd C (pc := 35) (v := nI (P.1 + 0)) dX7_takesIf_35 (nI_add P.1 0) ?_
    refine xw_X7_10 C (pc := 36) hn_X7_takesIf_X7 fl_X7_takesIf_190 hM (by omega) dX7_takesIf_36 (fun F_36 hM_36 fr_36 => ?_)
    refine x_iload_n C (pc := 39) 0 dX7_takesIf_39 rfl ?_
    exact x_iret C hR0 rfl (Nat.le_of_ble_eq_true rfl) (Nat.le_of_ble_eq_true rfl) ⟨(by first | (rw [fI, c_4]; rfl) | (rw [fI, decide_eq_false c_12, Bool.and_false]; rfl)), rfl, ⟨P, (by rw [fJ, if_neg (by first | (rw [fI, c_4]; simp; done) | (rw [fI, decide_eq_false c_12]; simp))]), hM_36, hle, fr_36⟩⟩ dX7_takesIf_40
  refine x_aload_n C (pc := 7) 0 dX7_takesIf_7 rfl ?_
  refine x_cViR C (pc := 8) (st := []) (c_X7_next l D z cI cZ cP cR N F k len r pf pm cd P a ps sl sv sd wy pa  hM (by omega) hcd hlen (show P.1 ≤ len by omega) ) (cwV 0 C.2.2.2.2.1 gX7_takesIf_X7_next rfl rfl rfl hd_X7_next ⟨Nat.le_of_ble_eq_true rfl, Nat.le_of_ble_eq_true rfl⟩) (by omega) hM.ob rfl rfl rfl (Nat.le_of_ble_eq_true rfl) dX7_takesIf_8 ⟨Nat.le_of_ble_eq_true rfl, Nat.le_of_ble_eq_true rfl⟩ ?_
  refine x_iload_n C (pc := 11) 1 dX7_takesIf_11 rfl ?_
  refine x_icmpN_ne C (a := nxG cd len P.1) (b := c) (pc := 12) (tgt := 19) (by omega) (by omega) dX7_takesIf_12 (by decide) (fun c_12 => ?_) (fun c_12 => ?_)
  · refine x_iconst C (pc := 19) (v := 0) dX7_takesIf_19 (by decide) ?_
    refine x_istore_n C (pc := 20) [(2, .int 0), (0, .ref (z + k)), (1, .int (nI c))] dX7_takesIf_20 (by decide) rfl ?_
    refine x_aload_n C (pc := 21) 1 dX7_takesIf_21 rfl ?_
    refine x_dup C (pc := 22) dX7_takesIf_22 rfl ?_
    refine x_get C (pc := 23) (q := k) (v := .int (nI P.1)) (ci := 7) rfl hn_X7_takesIf_X7 10 (by decide) fl_X7_takesIf_190 rfl (by omega) hM.ob rfl dX7_takesIf_23 ?_
    refine x_iload_n C (pc := 26) 0 dX7_takesIf_26 rfl ?_
    refine x_ifN_eq C (a := 0) (pc := 27) (tgt := 34) (by decide) dX7_takesIf_27 (by decide) (fun h_ => ?_) (fun h_ => absurd h_ (by decide))
    refine x_iconst C (pc := 34) (v := 0) dX7_takesIf_34 (by decide) ?_
    refine x_iadd C (pc := 35) (v := nI (P.1 + 0)) dX7_takesIf_35 (nI_add P.1 0) ?_
    refine xw_X7_10 C (pc := 36) hn_X7_takesIf_X7 fl_X7_takesIf_190 hM (by omega) dX7_takesIf_36 (fun F_36 hM_36 fr_36 => ?_)
    refine x_iload_n C (pc := 39) 0 dX7_takesIf_39 rfl ?_
    exact x_iret C hR0 rfl (Nat.le_of_ble_eq_true rfl) (Nat.le_of_ble_eq_true rfl) ⟨(by first | (rw [fI, c_4]; rfl) | (rw [fI, decide_eq_false c_12, Bool.and_false]; rfl)), rfl, ⟨P, (by rw [fJ, if_neg (by first | (rw [fI, c_4]; simp; done) | (rw [fI, decide_eq_false c_12]; simp))]), hM_36, hle, fr_36⟩⟩ dX7_takesIf_40
  refine x_iconst C (pc := 15) (v := 1) dX7_takesIf_15 (by decide) ?_
  refine x_goto C (pc := 16) (tgt := 20) dX7_takesIf_16 (by decide) ?_
  refine x_istore_n C (pc := 20) [(2, .int 1), (0, .ref (z + k)), (1, .int (nI c))] dX7_takesIf_20 (by decide) rfl ?_
  refine x_aload_n C (pc := 21) 1 dX7_takesIf_21 rfl ?_
  refine x_dup C (pc := 22) dX7_takesIf_22 rfl ?_
  refine x_get C (pc := 23) (q := k) (v := .int (nI P.1)) (ci := 7) rfl hn_X7_takesIf_X7 10 (by decide) fl_X7_takesIf_190 rfl (by omega) hM.ob rfl dX7_takesIf_23 ?_
  refine x_iload_n C (pc := 26) 0 dX7_takesIf_26 rfl ?_
  refine x_ifN_eq C (a := 1) (pc := 27) (tgt := 34) (by decide) dX7_takesIf_27 (by decide) (fun h_ => absurd h_ (by decide)) (fun _ => ?_)
  refine x_iconst C (pc := 30) (v := 1) dX7_takesIf_30 (by decide) ?_
  refine x_goto C (pc := 31) (tgt := 35) dX7_takesIf_31 (by decide) ?_
  refine x_iadd C (pc := 35) (v := nI (P.1 + 1)) dX7_takesIf_35 (nI_add P.1 1) ?_
  refine xw_X7_10 C (pc := 36) hn_X7_takesIf_X7 fl_X7_takesIf_190 hM (by omega) dX7_takesIf_36 (fun F_36 hM_36 fr_36 => ?_)
  refine x_iload_n C (pc := 39) 0 dX7_takesIf_39 rfl ?_
  exact x_iret C hR0 rfl (Nat.le_of_ble_eq_true rfl) (Nat.le_of_ble_eq_true rfl) ⟨(by rw [fI, c_4, decide_eq_true c_12]; rfl), rfl, ⟨(P.1 + 1, P.2.1, P.2.2), (by rw [fJ, if_pos (by rw [fI, c_4, decide_eq_true c_12]; rfl)]), hM_36, (by have := nxG_pos (cd := cd) (len := len) (s := P.1) (by omega); show P.1 + 1 ≤ len; omega), fr_36⟩⟩ dX7_takesIf_40
theorem fl_X7_takeNumber_190 : Cond.fieldLink RX7 190 "PileRecountModel" "spot" "I" ∈ wsX7_takeNumber := by decide +kernel
theorem fl_X7_takeNumber_193 : Cond.fieldLink RX7 193 "PileRecountModel" "isWrong" "Z" ∈ wsX7_takeNumber := by decide +kernel
theorem fl_X7_takeNumber_200 : Cond.fieldLink RX7 200 "PileRecountModel" "read" "I" ∈ wsX7_takeNumber := by decide +kernel
theorem fl_X7_takeNumber_32 : Cond.fieldLink RX7 32 "PileRecountModel" "numbers" "[I" ∈ wsX7_takeNumber := by decide +kernel
theorem hn_X7_takeNumber_X7 : ∀ w ∈ wsX70, w ∈ wsX7_takeNumber := fun _ h => List.mem_cons_of_mem _ (List.mem_append_right _ h)
set_option maxHeartbeats 4000000 in
set_option maxRecDepth 100000 in
theorem c_X7_takeNumber (l : Launch) (D : va_G) (z : Nat) (cI cZ cP cR : ClassId) (N : Nat) (F : Nat → va_E) (k len r : Nat) (pf pm : Int32) (cd : Nat → Nat) (P : PSt) (a ps sl sv sd wy pa : Nat → Int32) (q : Nat) (hM : isMod z cI cZ F k pf pm (nI len) (nI P.1) (bz P.2.1) (nI r) a ps sl sv sd wy pa P.2.2) (hk : k + 9 ≤ N) (hcd : cdOK pa cd len) (hlen : len ≤ 80) (hle : P.1 ≤ len) (hq : q < 6) (hr : r ≤ 20) : gMv l yX7_takeNumber wsX7_takeNumber ({ frames := 1, cells := 0, slots := 0, locals := 22 }) D z cI cZ cP cR N F [.ref (z + k), .int (nI q)] (gVoid N (fun F2 => ∃ P2 : PSt, P2 = fN cd len r q P ∧ isMod z cI cZ F2 k pf pm (nI len) (nI P2.1) (bz P2.2.1) (nI r) a ps sl sv sd wy pa P2.2.2 ∧ P2.1 ≤ len ∧ gFr k (k + 9) F F2)) 0 0 := by
  refine gMv.of (cc := cX7_takeNumber) (maxL := 3) (ret := none) (by decide) rfl (Nat.le_of_ble_eq_true rfl) [(0, .ref (z + k)), (1, .int (nI q))] rfl ?_
  intro pg ev sg mg bel me cg C hR0
  have hnx : ∀ s, nxG cd len s < 128 := fun s => nxG_lt hcd
  have hnx0 := hnx P.1
  refine x_aload_n C (pc := 0) 0 dX7_takeNumber_0 rfl ?_
  refine x_aload_n C (pc := 1) 0 dX7_takeNumber_1 rfl ?_
  refine x_get C (pc := 2) (q := k) (v := .int (bz P.2.1)) (ci := 7) rfl hn_X7_takeNumber_X7 11 (by decide) fl_X7_takeNumber_193 rfl (by omega) hM.ob rfl dX7_takeNumber_2 ?_
  refine x_bz_ne C (pc := 5) (tgt := 22) dX7_takeNumber_5 (by decide) (fun c_5 => ?_) (fun c_5 => ?_)
  · refine x_iconst C (pc := 22) (v := 1) dX7_takeNumber_22 (by decide) ?_
    refine x_goto C (pc := 23) (tgt := 27) dX7_takeNumber_23 (by decide) ?_
    refine xw_X7_11 C (pc := 27) hn_X7_takeNumber_X7 fl_X7_takeNumber_193 hM (by omega) (by first | exact Or.inl rfl | exact Or.inr rfl) dX7_takeNumber_27 (fun F_27 hM_27 fr_27 => ?_)
    refine x_aload_n C (pc := 30) 0 dX7_takeNumber_30 rfl ?_
    refine x_get C (pc := 31) (q := k) (v := .int 1) (ci := 7) rfl hn_X7_takeNumber_X7 11 (by decide) fl_X7_takeNumber_193 rfl (by omega) hM_27.ob rfl dX7_takeNumber_31 ?_
    refine x_ifN_eq C (a := 1) (pc := 34) (tgt := 38) (by decide) dX7_takeNumber_34 (by decide) (fun h_ => absurd h_ (by decide)) (fun _ => ?_)
    exact x_vret C hR0 (Nat.le_of_ble_eq_true rfl) (Nat.le_of_ble_eq_true rfl) ⟨rfl, ⟨(P.1, true, P.2.2), (by rw [fN]; first | (rw [if_pos c_5, ← c_5]; done) | (rw [if_neg (by rw [c_5]; decide), if_pos ((dig_in (hnx P.1)).symm.trans c_19)])), hM_27, hle, fr_27⟩⟩ dX7_takeNumber_37
  refine x_aload_n C (pc := 8) 0 dX7_takeNumber_8 rfl ?_
  refine x_cViR C (pc := 9) (st := [.ref (z + k)]) (c_X7_next l D z cI cZ cP cR N F k len r pf pm cd P a ps sl sv sd wy pa  hM (by omega) hcd hlen (show P.1 ≤ len by omega) ) (cwV 0 C.2.2.2.2.1 gX7_takeNumber_X7_next rfl rfl rfl hd_X7_next ⟨Nat.le_of_ble_eq_true rfl, Nat.le_of_ble_eq_true rfl⟩) (by omega) hM.ob rfl rfl rfl (Nat.le_of_ble_eq_true rfl) dX7_takeNumber_9 ⟨Nat.le_of_ble_eq_true rfl, Nat.le_of_ble_eq_true rfl⟩ ?_
  refine x_bipush C (pc := 12) (v := 48) dX7_takeNumber_12 (by decide) ?_
  refine x_bipush C (pc := 14) (v := 57) dX7_takeNumber_14 (by decide) ?_
  refine x_cSiR C (pc := 16) (st := [.ref (z + k)]) (c_X7_in l D z cI cZ cP cR N F (nI (nxG cd len P.1)) 48 57) (va_cwS 3 C.2.2.2.2.1 gX7_takeNumber_X7_in rfl rfl rfl hd_X7_in.2 ⟨Nat.le_of_ble_eq_true rfl, Nat.le_of_ble_eq_true rfl⟩) rfl rfl (Nat.le_of_ble_eq_true rfl) dX7_takeNumber_16 ⟨Nat.le_of_ble_eq_true rfl, Nat.le_of_ble_eq_true rfl⟩ ?_
  refine x_bz_ne C (pc := 19) (tgt := 26) dX7_takeNumber_19 (by decide) (fun c_19 => ?_) (fun c_19 => ?_)
  · have hdg0 : dig (nxG cd len P.1) = true := (dig_in (hnx P.1)).symm.trans c_19
    have hdk := dig_ok hdg0
    have hspl : P.1 < len := nxG_pos (cd := cd) (by omega)
    refine x_iconst C (pc := 26) (v := 0) dX7_takeNumber_26 (by decide) ?_
    refine xw_X7_11 C (pc := 27) hn_X7_takeNumber_X7 fl_X7_takeNumber_193 hM (by omega) (by first | exact Or.inl rfl | exact Or.inr rfl) dX7_takeNumber_27 (fun F_27 hM_27 fr_27 => ?_)
    refine x_aload_n C (pc := 30) 0 dX7_takeNumber_30 rfl ?_
    refine x_get C (pc := 31) (q := k) (v := .int 0) (ci := 7) rfl hn_X7_takeNumber_X7 11 (by decide) fl_X7_takeNumber_193 rfl (by omega) hM_27.ob rfl dX7_takeNumber_31 ?_
    refine x_ifN_eq C (a := 0) (pc := 34) (tgt := 38) (by decide) dX7_takeNumber_34 (by decide) (fun h_ => ?_) (fun h_ => absurd h_ (by decide))
    refine x_aload_n C (pc := 38) 0 dX7_takeNumber_38 rfl ?_
    refine x_cViR C (pc := 39) (st := []) (c_X7_next l D z cI cZ cP cR N F_27 k len r pf pm cd (P.1, false, P.2.2) a ps sl sv sd wy pa  hM_27 (by omega) hcd hlen (show P.1 ≤ len by omega) ) (cwV 0 C.2.2.2.2.1 gX7_takeNumber_X7_next rfl rfl rfl hd_X7_next ⟨Nat.le_of_ble_eq_true rfl, Nat.le_of_ble_eq_true rfl⟩) (by omega) hM_27.ob rfl rfl rfl (Nat.le_of_ble_eq_true rfl) dX7_takeNumber_39 ⟨Nat.le_of_ble_eq_true rfl, Nat.le_of_ble_eq_true rfl⟩ ?_
    refine x_bipush C (pc := 42) (v := 48) dX7_takeNumber_42 (by decide) ?_
    refine x_isub C (pc := 44) (v := nI (nxG cd len P.1 - 48)) dX7_takeNumber_44 (pk_sub (a := nxG cd len P.1) (b := 48) (by omega)) ?_
    refine x_istore_n C (pc := 45) [(2, .int (nI (nxG cd len P.1 - 48))), (0, .ref (z + k)), (1, .int (nI q))] dX7_takeNumber_45 (by decide) rfl ?_
    refine x_aload_n C (pc := 46) 1 dX7_takeNumber_46 rfl ?_
    refine x_dup C (pc := 47) dX7_takeNumber_47 rfl ?_
    refine x_get C (pc := 48) (q := k) (v := .int (nI P.1)) (ci := 7) rfl hn_X7_takeNumber_X7 10 (by decide) fl_X7_takeNumber_190 rfl (by omega) hM_27.ob rfl dX7_takeNumber_48 ?_
    refine x_iconst C (pc := 51) (v := 1) dX7_takeNumber_51 (by decide) ?_
    refine x_iadd C (pc := 52) (v := nI (P.1 + 1)) dX7_takeNumber_52 (nI_add P.1 1) ?_
    refine xw_X7_10 C (pc := 53) hn_X7_takeNumber_X7 fl_X7_takeNumber_190 hM_27 (by omega) dX7_takeNumber_53 (fun F_53 hM_53 fr_53 => ?_)
    refine x_sub [1, 2, 0] _ rfl ?_
    refine x_loop4 (A1 := Nat) (A2 := Nat) (A3 := Bool) (A4 := Nat → va_E) (pc := 56) (st := []) (fun s v w G => 2 * (len - s) + (if w = true then 0 else 1)) (fun s v w G => (s ≤ len) ∧ (v ≤ 999) ∧ (isMod z cI cZ G k pf pm (nI len) (nI s) (bz w) (nI r) a ps sl sv sd wy pa P.2.2) ∧ (gFr k (k + 9) F G) ∧ ((if w = true then (v, s, true) else tnL cd len (len - s) v s) = tnL cd len (len - (P.1 + 1)) (nxG cd len P.1 - 48) (P.1 + 1))) (fun s v w G => N) (fun s v w G => G) (fun s v w G => 0) (fun s v w G => 0) (fun s v w G => [(0, .ref (z + k)), (1, .int (nI q)), (2, .int (nI v))]) (P.1 + 1) (nxG cd len P.1 - 48) false F_53 ⟨(by omega), (by omega), hM_53, (gFr.t2 fr_27 fr_53), (by rw [if_neg (by decide)])⟩ rfl rfl rfl rfl rfl ?_
    rintro s v w G ⟨hsl, hv9, hG, hfr, htn⟩ ih_56
    try dsimp only at ih_56
    have hnxs := hnx s
    refine x_aload_n C (pc := 56) 0 dX7_takeNumber_56 rfl ?_
    refine x_get C (pc := 57) (q := k) (v := .int (bz w)) (ci := 7) rfl hn_X7_takeNumber_X7 11 (by decide) fl_X7_takeNumber_193 rfl (by omega) hG.ob rfl dX7_takeNumber_57 ?_
    refine x_bz_ne C (pc := 60) (tgt := 156) dX7_takeNumber_60 (by decide) (fun c_60 => ?_) (fun c_60 => ?_)
    · have hex : (if w = true then (v, s, true) else tnL cd len (len - s) v s) = (v, s, w) := by rw [c_60, if_pos rfl]
      refine x_aload_n C (pc := 156) 0 dX7_takeNumber_156 rfl ?_
      refine x_get C (pc := 157) (q := k) (v := .ref (z + (k + 8))) (ci := 7) rfl hn_X7_takeNumber_X7 13 (by decide) fl_X7_takeNumber_32 rfl (by omega) hG.ob rfl dX7_takeNumber_157 ?_
      refine x_bipush C (pc := 160) (v := 6) dX7_takeNumber_160 (by decide) ?_
      refine x_aload_n C (pc := 162) 0 dX7_takeNumber_162 rfl ?_
      refine x_get C (pc := 163) (q := k) (v := .int (nI r)) (ci := 7) rfl hn_X7_takeNumber_X7 12 (by decide) fl_X7_takeNumber_200 rfl (by omega) hG.ob rfl dX7_takeNumber_163 ?_
      refine x_imul C (pc := 166) (v := nI (6 * r)) dX7_takeNumber_166 (pk_mul 6 r) ?_
      refine x_iload_n C (pc := 167) 1 dX7_takeNumber_167 rfl ?_
      refine x_iadd C (pc := 168) (v := nI (6 * r + q)) dX7_takeNumber_168 (nI_add (6 * r) q) ?_
      refine x_iload_n C (pc := 169) 2 dX7_takeNumber_169 rfl ?_
      refine xw_isMod_nu C (pc := 170) (j := 6 * r + q) hG (by omega) rfl (by omega) dX7_takeNumber_170 (fun F_170 hG_170 fr_170 => ?_)
      exact x_vret C hR0 (Nat.le_of_ble_eq_true rfl) (Nat.le_of_ble_eq_true rfl) ⟨rfl, ⟨((tnL cd len (len - (P.1 + 1)) (nxG cd len P.1 - 48) (P.1 + 1)).2.1, (tnL cd len (len - (P.1 + 1)) (nxG cd len P.1 - 48) (P.1 + 1)).2.2, upd P.2.2 (6 * r + q) (nI (tnL cd len (len - (P.1 + 1)) (nxG cd len P.1 - 48) (P.1 + 1)).1)), (by rw [fN, if_neg (by rw [c_5]; decide), if_neg (by rw [hdg0]; decide)]), (by rw [← htn, hex]; exact hG_170), (by rw [← htn, hex]; exact hsl), (gFr.t2 hfr fr_170)⟩⟩ dX7_takeNumber_171
    refine x_iload_n C (pc := 63) 2 dX7_takeNumber_63 rfl ?_
    refine x_ifN_le C (a := v) (pc := 64) (tgt := 156) (by omega) dX7_takeNumber_64 (by decide) (fun c_64 => ?_) (fun c_64 => ?_)
    · have hex : (if w = true then (v, s, true) else tnL cd len (len - s) v s) = (v, s, w) := by rw [c_60, if_neg (by decide), tnL_stop (fun h => by omega)]
      refine x_aload_n C (pc := 156) 0 dX7_takeNumber_156 rfl ?_
      refine x_get C (pc := 157) (q := k) (v := .ref (z + (k + 8))) (ci := 7) rfl hn_X7_takeNumber_X7 13 (by decide) fl_X7_takeNumber_32 rfl (by omega) hG.ob rfl dX7_takeNumber_157 ?_
      refine x_bipush C (pc := 160) (v := 6) dX7_takeNumber_160 (by decide) ?_
      refine x_aload_n C (pc := 162) 0 dX7_takeNumber_162 rfl ?_
      refine x_get C (pc := 163) (q := k) (v := .int (nI r)) (ci := 7) rfl hn_X7_takeNumber_X7 12 (by decide) fl_X7_takeNumber_200 rfl (by omega) hG.ob rfl dX7_takeNumber_163 ?_
      refine x_imul C (pc := 166) (v := nI (6 * r)) dX7_takeNumber_166 (pk_mul 6 r) ?_
      refine x_iload_n C (pc := 167) 1 dX7_takeNumber_167 rfl ?_
      refine x_iadd C (pc := 168) (v := nI (6 * r + q)) dX7_takeNumber_168 (nI_add (6 * r) q) ?_
      refine x_iload_n C (pc := 169) 2 dX7_takeNumber_169 rfl ?_
      refine xw_isMod_nu C (pc := 170) (j := 6 * r + q) hG (by omega) rfl (by omega) dX7_takeNumber_170 (fun F_170 hG_170 fr_170 => ?_)
      exact x_vret C hR0 (Nat.le_of_ble_eq_true rfl) (Nat.le_of_ble_eq_true rfl) ⟨rfl, ⟨((tnL cd len (len - (P.1 + 1)) (nxG cd len P.1 - 48) (P.1 + 1)).2.1, (tnL cd len (len - (P.1 + 1)) (nxG cd len P.1 - 48) (P.1 + 1)).2.2, upd P.2.2 (6 * r + q) (nI (tnL cd len (len - (P.1 + 1)) (nxG cd len P.1 - 48) (P.1 + 1)).1)), (by rw [fN, if_neg (by rw [c_5]; decide), if_neg (by rw [hdg0]; decide)]), (by rw [← htn, hex]; exact hG_170), (by rw [← htn, hex]; exact hsl), (gFr.t2 hfr fr_170)⟩⟩ dX7_takeNumber_171
    refine x_aload_n C (pc := 67) 0 dX7_takeNumber_67 rfl ?_
    refine x_cViR C (pc := 68) (st := []) (c_X7_next l D z cI cZ cP cR N G k len r pf pm cd (s, w, P.2.2) a ps sl sv sd wy pa  hG (by omega) hcd hlen (show s ≤ len by omega) ) (cwV 0 C.2.2.2.2.1 gX7_takeNumber_X7_next rfl rfl rfl hd_X7_next ⟨Nat.le_of_ble_eq_true rfl, Nat.le_of_ble_eq_true rfl⟩) (by omega) hG.ob rfl rfl rfl (Nat.le_of_ble_eq_true rfl) dX7_takeNumber_68 ⟨Nat.le_of_ble_eq_true rfl, Nat.le_of_ble_eq_true rfl⟩ ?_
    refine x_bipush C (pc := 71) (v := 48) dX7_takeNumber_71 (by decide) ?_
    refine x_bipush C (pc := 73) (v := 57) dX7_takeNumber_73 (by decide) ?_
    refine x_cSiR C (pc := 75) (st := []) (c_X7_in l D z cI cZ cP cR N G (nI (nxG cd len s)) 48 57) (va_cwS 3 C.2.2.2.2.1 gX7_takeNumber_X7_in rfl rfl rfl hd_X7_in.2 ⟨Nat.le_of_ble_eq_true rfl, Nat.le_of_ble_eq_true rfl⟩) rfl rfl (Nat.le_of_ble_eq_true rfl) dX7_takeNumber_75 ⟨Nat.le_of_ble_eq_true rfl, Nat.le_of_ble_eq_true rfl⟩ ?_
    refine x_bz_eq C (pc := 78) (tgt := 156) dX7_takeNumber_78 (by decide) (fun c_78 => ?_) (fun c_78 => ?_)
    · have hex : (if w = true then (v, s, true) else tnL cd len (len - s) v s) = (v, s, w) := by rw [c_60, if_neg (by decide), tnL_stop (fun h => by rw [← dig_in hnxs, c_78] at h; exact absurd h.2 (by decide))]
      refine x_aload_n C (pc := 156) 0 dX7_takeNumber_156 rfl ?_
      refine x_get C (pc := 157) (q := k) (v := .ref (z + (k + 8))) (ci := 7) rfl hn_X7_takeNumber_X7 13 (by decide) fl_X7_takeNumber_32 rfl (by omega) hG.ob rfl dX7_takeNumber_157 ?_
      refine x_bipush C (pc := 160) (v := 6) dX7_takeNumber_160 (by decide) ?_
      refine x_aload_n C (pc := 162) 0 dX7_takeNumber_162 rfl ?_
      refine x_get C (pc := 163) (q := k) (v := .int (nI r)) (ci := 7) rfl hn_X7_takeNumber_X7 12 (by decide) fl_X7_takeNumber_200 rfl (by omega) hG.ob rfl dX7_takeNumber_163 ?_
      refine x_imul C (pc := 166) (v := nI (6 * r)) dX7_takeNumber_166 (pk_mul 6 r) ?_
      refine x_iload_n C (pc := 167) 1 dX7_takeNumber_167 rfl ?_
      refine x_iadd C (pc := 168) (v := nI (6 * r + q)) dX7_takeNumber_168 (nI_add (6 * r) q) ?_
      refine x_iload_n C (pc := 169) 2 dX7_takeNumber_169 rfl ?_
      refine xw_isMod_nu C (pc := 170) (j := 6 * r + q) hG (by omega) rfl (by omega) dX7_takeNumber_170 (fun F_170 hG_170 fr_170 => ?_)
      exact x_vret C hR0 (Nat.le_of_ble_eq_true rfl) (Nat.le_of_ble_eq_true rfl) ⟨rfl, ⟨((tnL cd len (len - (P.1 + 1)) (nxG cd len P.1 - 48) (P.1 + 1)).2.1, (tnL cd len (len - (P.1 + 1)) (nxG cd len P.1 - 48) (P.1 + 1)).2.2, upd P.2.2 (6 * r + q) (nI (tnL cd len (len - (P.1 + 1)) (nxG cd len P.1 - 48) (P.1 + 1)).1)), (by rw [fN, if_neg (by rw [c_5]; decide), if_neg (by rw [hdg0]; decide)]), (by rw [← htn, hex]; exact hG_170), (by rw [← htn, hex]; exact hsl), (gFr.t2 hfr fr_170)⟩⟩ dX7_takeNumber_171
    have hdg : dig (nxG cd len s) = true := (dig_in hnxs).symm.trans c_78
    have hdk2 := dig_ok hdg
    have hs2 : s < len := nxG_pos (cd := cd) (by omega)
    refine x_aload_n C (pc := 81) 0 dX7_takeNumber_81 rfl ?_
    refine x_bipush C (pc := 82) (v := 10) dX7_takeNumber_82 (by decide) ?_
    refine x_iload_n C (pc := 84) 2 dX7_takeNumber_84 rfl ?_
    refine x_imul C (pc := 85) (v := nI (10 * v)) dX7_takeNumber_85 (pk_mul 10 v) ?_
    refine x_aload_n C (pc := 86) 0 dX7_takeNumber_86 rfl ?_
    refine x_cViR C (pc := 87) (st := [.int (nI (10 * v)), .ref (z + k)]) (c_X7_next l D z cI cZ cP cR N G k len r pf pm cd (s, w, P.2.2) a ps sl sv sd wy pa  hG (by omega) hcd hlen (show s ≤ len by omega) ) (cwV 0 C.2.2.2.2.1 gX7_takeNumber_X7_next rfl rfl rfl hd_X7_next ⟨Nat.le_of_ble_eq_true rfl, Nat.le_of_ble_eq_true rfl⟩) (by omega) hG.ob rfl rfl rfl (Nat.le_of_ble_eq_true rfl) dX7_takeNumber_87 ⟨Nat.le_of_ble_eq_true rfl, Nat.le_of_ble_eq_true rfl⟩ ?_
    refine x_iadd C (pc := 90) (v := nI (10 * v + nxG cd len s)) dX7_takeNumber_90 (nI_add (10 * v) (nxG cd len s)) ?_
    refine x_bipush C (pc := 91) (v := 48) dX7_takeNumber_91 (by decide) ?_
    refine x_isub C (pc := 93) (v := nI (10 * v + nxG cd len s - 48)) dX7_takeNumber_93 (pk_sub (a := 10 * v + nxG cd len s) (b := 48) (by omega)) ?_
    refine x_sipush C (pc := 94) (v := 999) dX7_takeNumber_94 (by decide) ?_
    refine x_icmpN_le C (a := 10 * v + nxG cd len s - 48) (b := 999) (pc := 97) (tgt := 104) (by omega) (by omega) dX7_takeNumber_97 (by decide) (fun c_97 => ?_) (fun c_97 => ?_)
    · refine x_iconst C (pc := 104) (v := 0) dX7_takeNumber_104 (by decide) ?_
      refine xw_X7_11 C (pc := 105) hn_X7_takeNumber_X7 fl_X7_takeNumber_193 hG (by omega) (by first | exact Or.inl rfl | exact Or.inr rfl) dX7_takeNumber_105 (fun F_105 hG_105 fr_105 => ?_)
      refine x_aload_n C (pc := 108) 0 dX7_takeNumber_108 rfl ?_
      refine x_get C (pc := 109) (q := k) (v := .int 0) (ci := 7) rfl hn_X7_takeNumber_X7 11 (by decide) fl_X7_takeNumber_193 rfl (by omega) hG_105.ob rfl dX7_takeNumber_109 ?_
      refine x_ifN_eq C (a := 0) (pc := 112) (tgt := 119) (by decide) dX7_takeNumber_112 (by decide) (fun h_ => ?_) (fun h_ => absurd h_ (by decide))
      refine x_bipush C (pc := 119) (v := 10) dX7_takeNumber_119 (by decide) ?_
      refine x_iload_n C (pc := 121) 2 dX7_takeNumber_121 rfl ?_
      refine x_imul C (pc := 122) (v := nI (10 * v)) dX7_takeNumber_122 (pk_mul 10 v) ?_
      refine x_aload_n C (pc := 123) 0 dX7_takeNumber_123 rfl ?_
      refine x_cViR C (pc := 124) (st := [.int (nI (10 * v))]) (c_X7_next l D z cI cZ cP cR N F_105 k len r pf pm cd (s, false, P.2.2) a ps sl sv sd wy pa  hG_105 (by omega) hcd hlen (show s ≤ len by omega) ) (cwV 0 C.2.2.2.2.1 gX7_takeNumber_X7_next rfl rfl rfl hd_X7_next ⟨Nat.le_of_ble_eq_true rfl, Nat.le_of_ble_eq_true rfl⟩) (by omega) hG_105.ob rfl rfl rfl (Nat.le_of_ble_eq_true rfl) dX7_takeNumber_124 ⟨Nat.le_of_ble_eq_true rfl, Nat.le_of_ble_eq_true rfl⟩ ?_
      refine x_iadd C (pc := 127) (v := nI (10 * v + nxG cd len s)) dX7_takeNumber_127 (nI_add (10 * v) (nxG cd len s)) ?_
      refine x_bipush C (pc := 128) (v := 48) dX7_takeNumber_128 (by decide) ?_
      refine x_isub C (pc := 130) (v := nI (10 * v + nxG cd len s - 48)) dX7_takeNumber_130 (pk_sub (a := 10 * v + nxG cd len s) (b := 48) (by omega)) ?_
      refine x_istore_n C (pc := 131) [(2, .int (nI (10 * v + nxG cd len s - 48))), (0, .ref (z + k)), (1, .int (nI q))] dX7_takeNumber_131 (by decide) rfl ?_
      refine x_aload_n C (pc := 132) 1 dX7_takeNumber_132 rfl ?_
      refine x_dup C (pc := 133) dX7_takeNumber_133 rfl ?_
      refine x_get C (pc := 134) (q := k) (v := .int (nI s)) (ci := 7) rfl hn_X7_takeNumber_X7 10 (by decide) fl_X7_takeNumber_190 rfl (by omega) hG_105.ob rfl dX7_takeNumber_134 ?_
      refine x_aload_n C (pc := 137) 1 dX7_takeNumber_137 rfl ?_
      refine x_get C (pc := 138) (q := k) (v := .int 0) (ci := 7) rfl hn_X7_takeNumber_X7 11 (by decide) fl_X7_takeNumber_193 rfl (by omega) hG_105.ob rfl dX7_takeNumber_138 ?_
      refine x_ifN_eq C (a := 0) (pc := 141) (tgt := 148) (by decide) dX7_takeNumber_141 (by decide) (fun h_ => ?_) (fun h_ => absurd h_ (by decide))
      refine x_iconst C (pc := 148) (v := 1) dX7_takeNumber_148 (by decide) ?_
      refine x_iadd C (pc := 149) (v := nI (s + 1)) dX7_takeNumber_149 (nI_add s 1) ?_
      refine xw_X7_10 C (pc := 150) hn_X7_takeNumber_X7 fl_X7_takeNumber_190 hG_105 (by omega) dX7_takeNumber_150 (fun F_150 hG_150 fr_150 => ?_)
      refine x_goto C (pc := 153) (tgt := 56) dX7_takeNumber_153 (by decide) ?_
      exact x_sub [1, 2, 0] _ rfl (ih_56 (s + 1) (10 * v + nxG cd len s - 48) false F_150 ⟨(by omega), (by omega), hG_150, (gFr.t2 (gFr.t2 hfr fr_105) fr_150), (by rw [if_neg (by decide), ← htn, if_neg (by rw [c_60]; decide), show len - s = len - (s + 1) + 1 by omega, tnL, if_pos ⟨c_64, hdg⟩, if_neg (by omega)])⟩ (by first | (rw [c_60]; simp; done) | (rw [c_60]; simp; omega) | omega))
    refine x_iconst C (pc := 100) (v := 1) dX7_takeNumber_100 (by decide) ?_
    refine x_goto C (pc := 101) (tgt := 105) dX7_takeNumber_101 (by decide) ?_
    refine xw_X7_11 C (pc := 105) hn_X7_takeNumber_X7 fl_X7_takeNumber_193 hG (by omega) (by first | exact Or.inl rfl | exact Or.inr rfl) dX7_takeNumber_105 (fun F_105 hG_105 fr_105 => ?_)
    refine x_aload_n C (pc := 108) 0 dX7_takeNumber_108 rfl ?_
    refine x_get C (pc := 109) (q := k) (v := .int 1) (ci := 7) rfl hn_X7_takeNumber_X7 11 (by decide) fl_X7_takeNumber_193 rfl (by omega) hG_105.ob rfl dX7_takeNumber_109 ?_
    refine x_ifN_eq C (a := 1) (pc := 112) (tgt := 119) (by decide) dX7_takeNumber_112 (by decide) (fun h_ => absurd h_ (by decide)) (fun _ => ?_)
    refine x_iload_n C (pc := 115) 2 dX7_takeNumber_115 rfl ?_
    refine x_goto C (pc := 116) (tgt := 131) dX7_takeNumber_116 (by decide) ?_
    refine x_istore_n C (pc := 131) [(2, .int (nI v)), (0, .ref (z + k)), (1, .int (nI q))] dX7_takeNumber_131 (by decide) rfl ?_
    refine x_aload_n C (pc := 132) 1 dX7_takeNumber_132 rfl ?_
    refine x_dup C (pc := 133) dX7_takeNumber_133 rfl ?_
    refine x_get C (pc := 134) (q := k) (v := .int (nI s)) (ci := 7) rfl hn_X7_takeNumber_X7 10 (by decide) fl_X7_takeNumber_190 rfl (by omega) hG_105.ob rfl dX7_takeNumber_134 ?_
    refine x_aload_n C (pc := 137) 1 dX7_takeNumber_137 rfl ?_
    refine x_get C (pc := 138) (q := k) (v := .int 1) (ci := 7) rfl hn_X7_takeNumber_X7 11 (by decide) fl_X7_takeNumber_193 rfl (by omega) hG_105.ob rfl dX7_takeNumber_138 ?_
    refine x_ifN_eq C (a := 1) (pc := 141) (tgt := 148) (by decide) dX7_takeNumber_141 (by decide) (fun h_ => absurd h_ (by decide)) (fun _ => ?_)
    refine x_iconst C (pc := 144) (v := 0) dX7_takeNumber_144 (by decide) ?_
    refine x_goto C (pc := 145) (tgt := 149) dX7_takeNumber_145 (by decide) ?_
    refine x_iadd C (pc := 149) (v := nI (s + 0)) dX7_takeNumber_149 (nI_add s 0) ?_
    refine xw_X7_10 C (pc := 150) hn_X7_takeNumber_X7 fl_X7_takeNumber_190 hG_105 (by omega) dX7_takeNumber_150 (fun F_150 hG_150 fr_150 => ?_)
    refine x_goto C (pc := 153) (tgt := 56) dX7_takeNumber_153 (by decide) ?_
    exact x_sub [1, 2, 0] _ rfl (ih_56 s v true F_150 ⟨hsl, hv9, hG_150, (gFr.t2 (gFr.t2 hfr fr_105) fr_150), (by rw [if_pos rfl, ← htn, if_neg (by rw [c_60]; decide), show len - s = len - (s + 1) + 1 by omega, tnL, if_pos ⟨c_64, hdg⟩, if_pos c_97])⟩ (by first | (rw [c_60]; simp; done) | (rw [c_60]; simp; omega) | omega))
  refine x_iconst C (pc := 22) (v := 1) dX7_takeNumber_22 (by decide) ?_
  refine x_goto C (pc := 23) (tgt := 27) dX7_takeNumber_23 (by decide) ?_
  refine xw_X7_11 C (pc := 27) hn_X7_takeNumber_X7 fl_X7_takeNumber_193 hM (by omega) (by first | exact Or.inl rfl | exact Or.inr rfl) dX7_takeNumber_27 (fun F_27 hM_27 fr_27 => ?_)
  refine x_aload_n C (pc := 30) 0 dX7_takeNumber_30 rfl ?_
  refine x_get C (pc := 31) (q := k) (v := .int 1) (ci := 7) rfl hn_X7_takeNumber_X7 11 (by decide) fl_X7_takeNumber_193 rfl (by omega) hM_27.ob rfl dX7_takeNumber_31 ?_
  refine x_ifN_eq C (a := 1) (pc := 34) (tgt := 38) (by decide) dX7_takeNumber_34 (by decide) (fun h_ => absurd h_ (by decide)) (fun _ => ?_)
  exact x_vret C hR0 (Nat.le_of_ble_eq_true rfl) (Nat.le_of_ble_eq_true rfl) ⟨rfl, ⟨(P.1, true, P.2.2), (by rw [fN]; first | (rw [if_pos c_5, ← c_5]; done) | (rw [if_neg (by rw [c_5]; decide), if_pos ((dig_in (hnx P.1)).symm.trans c_19)])), hM_27, hle, fr_27⟩⟩ dX7_takeNumber_37
