theorem tnL_ge {cd : Nat → Nat} {len : Nat} : ∀ f v s, s ≤ (tnL cd len f v s).2.1 := by
  intro f
  induction f with
  | zero => intro v s; exact Nat.le_refl s
  | succ f ih =>
    intro v s
    rw [tnL]
    split
    · split
      · exact Nat.le_refl s
      · exact Nat.le_trans (Nat.le_succ s) (ih _ _)
    · exact Nat.le_refl s
theorem fN_ge {cd : Nat → Nat} {len r q : Nat} {P : PSt} : P.1 ≤ (fN cd len r q P).1 ∧ ((fN cd len r q P).2.1 = false → P.2.1 = false ∧ P.1 + 1 ≤ (fN cd len r q P).1) := by
  unfold fN
  split
  · rename_i h; exact ⟨Nat.le_refl _, fun q => by rw [h] at q; cases q⟩
  · rename_i h
    split
    · exact ⟨Nat.le_refl _, fun q => by cases q⟩
    · have := tnL_ge (cd := cd) (len := len) (len - (P.1 + 1)) (nxG cd len P.1 - 48) (P.1 + 1)
      exact ⟨by dsimp only; omega, fun _ => ⟨by simpa using h, this⟩⟩
theorem fS_ge {cd : Nat → Nat} {len c : Nat} {P : PSt} : P.1 ≤ (fS cd len c P).1 ∧ ((fS cd len c P).2.1 = false → P.2.1 = false ∧ P.1 + 1 ≤ (fS cd len c P).1) := by
  unfold fS
  split
  · exact ⟨Nat.le_refl _, fun q => by cases q⟩
  · rename_i h
    exact ⟨Nat.le_succ _, fun _ => ⟨by cases hb : P.2.1 with | false => rfl | true => exact absurd (Or.inl hb) h, Nat.le_refl _⟩⟩
theorem fJ_ge {cd : Nat → Nat} {len c : Nat} {P : PSt} : P.1 ≤ (fJ cd len c P).1 ∧ (fJ cd len c P).2.1 = P.2.1 := by
  unfold fJ
  split
  · exact ⟨Nat.le_succ _, rfl⟩
  · exact ⟨Nat.le_refl _, rfl⟩
theorem fP_ge {cd : Nat → Nat} {len r : Nat} {P : PSt} : P.1 ≤ (fP cd len r P).1 ∧ ((fP cd len r P).2.1 = false → P.2.1 = false ∧ P.1 + 3 ≤ (fP cd len r P).1) := by
  have h1 := fN_ge (cd := cd) (len := len) (r := r) (q := 0) (P := P)
  have h2 := fS_ge (cd := cd) (len := len) (c := 44) (P := fN cd len r 0 P)
  have h3 := fN_ge (cd := cd) (len := len) (r := r) (q := 1) (P := fS cd len 44 (fN cd len r 0 P))
  unfold fP
  generalize fN cd len r 0 P = P1 at *
  generalize fS cd len 44 P1 = P2 at *
  generalize fN cd len r 1 P2 = P3 at *
  have key : ∀ Q : PSt, Q.1 = P3.1 → Q.2.1 = P3.2.1 → P.1 ≤ Q.1 ∧ (Q.2.1 = false → P.2.1 = false ∧ P.1 + 3 ≤ Q.1) := fun Q q1 q2 => by
    rw [q1, q2]
    refine ⟨by omega, fun q => ?_⟩
    have a3 := h3.2 q; have a2 := h2.2 a3.1; have a1 := h1.2 a2.1
    exact ⟨a1.1, by omega⟩
  have k4 := key (stN (6 * r + 3) 0 (stN (6 * r + 2) 0 P3)) rfl rfl
  generalize stN (6 * r + 3) 0 (stN (6 * r + 2) 0 P3) = P4 at *
  dsimp only
  have j5 := fJ_ge (cd := cd) (len := len) (c := 44) (P := P4)
  have n6 := fN_ge (cd := cd) (len := len) (r := r) (q := 2) (P := fJ cd len 44 P4)
  have k6 : P.1 ≤ (if fI cd len 44 P4 = true then fN cd len r 2 (fJ cd len 44 P4) else fJ cd len 44 P4).1 ∧ ((if fI cd len 44 P4 = true then fN cd len r 2 (fJ cd len 44 P4) else fJ cd len 44 P4).2.1 = false → P.2.1 = false ∧ P.1 + 3 ≤ (if fI cd len 44 P4 = true then fN cd len r 2 (fJ cd len 44 P4) else fJ cd len 44 P4).1) := by
    split
    · exact ⟨by omega, fun q => by have a := n6.2 q; have b := k4.2 (j5.2.symm.trans a.1); exact ⟨b.1, by omega⟩⟩
    · exact ⟨by omega, fun q => by have b := k4.2 (j5.2.symm.trans q); exact ⟨b.1, by omega⟩⟩
  generalize (if fI cd len 44 P4 = true then fN cd len r 2 (fJ cd len 44 P4) else fJ cd len 44 P4) = P6 at *
  have j7 := fJ_ge (cd := cd) (len := len) (c := 61) (P := P6)
  generalize fJ cd len 61 P6 = P7 at *
  split
  · have a8 := fN_ge (cd := cd) (len := len) (r := r) (q := 4) (P := stN (6 * r + 3) 1 P7)
    generalize fN cd len r 4 (stN (6 * r + 3) 1 P7) = P8 at *
    have a9 := fS_ge (cd := cd) (len := len) (c := 44) (P := P8)
    generalize fS cd len 44 P8 = P9 at *
    have a10 := fN_ge (cd := cd) (len := len) (r := r) (q := 5) (P := P9)
    have e1 : (stN (6 * r + 3) 1 P7).1 = P7.1 := rfl
    have e2 : (stN (6 * r + 3) 1 P7).2.1 = P7.2.1 := rfl
    rw [e1, e2] at a8
    exact ⟨by omega, fun q => by
      have b10 := a10.2 q; have b9 := a9.2 b10.1; have b8 := a8.2 b9.1; have b := k6.2 (j7.2.symm.trans b8.1)
      exact ⟨b.1, by omega⟩⟩
  · exact ⟨by omega, fun q => by have b := k6.2 (j7.2.symm.trans q); exact ⟨b.1, by omega⟩⟩
theorem fF_stop {cd : Nat → Nat} {len f r : Nat} {P : PSt} (h : P.2.1 = true ∨ len ≤ P.1) : fF cd len f r P = (P, r) := by
  cases f with
  | zero => rfl
  | succ f => rw [fF, if_pos h]
def FTG (cd : Nat → Nat) (len : Nat) (nu : Nat → Int32) : PSt × Nat := fF cd len len (rdN 0 (fP cd len 0 (0, false, nu))) (fP cd len 0 (0, false, nu))
def ftI (T : PSt × Nat) : Int32 := if T.1.2.1 = true then nI T.1.1 else -6
theorem fl_X7_takePile_193 : Cond.fieldLink RX7 193 "PileRecountModel" "isWrong" "Z" ∈ wsX7_takePile := by decide +kernel
theorem fl_X7_takePile_200 : Cond.fieldLink RX7 200 "PileRecountModel" "read" "I" ∈ wsX7_takePile := by decide +kernel
theorem fl_X7_takePile_32 : Cond.fieldLink RX7 32 "PileRecountModel" "numbers" "[I" ∈ wsX7_takePile := by decide +kernel
theorem hn_X7_takePile_X7 : ∀ w ∈ wsX70, w ∈ wsX7_takePile := fun _ h => List.mem_cons_of_mem _ (List.mem_append_right _ h)
set_option maxHeartbeats 4000000 in
set_option maxRecDepth 100000 in
theorem c_X7_takePile (l : Launch) (D : va_G) (z : Nat) (cI cZ cP cR : ClassId) (N : Nat) (F : Nat → va_E) (k len r : Nat) (pf pm : Int32) (cd : Nat → Nat) (P : PSt) (a ps sl sv sd wy pa : Nat → Int32) (hM : isMod z cI cZ F k pf pm (nI len) (nI P.1) (bz P.2.1) (nI r) a ps sl sv sd wy pa P.2.2) (hk : k + 9 ≤ N) (hcd : cdOK pa cd len) (hlen : len ≤ 80) (hle : P.1 ≤ len) (hr : r ≤ 20) : gMv l yX7_takePile wsX7_takePile ({ frames := 2, cells := 0, slots := 0, locals := 44 }) D z cI cZ cP cR N F [.ref (z + k)] (gVoid N (fun F2 => ∃ P2 : PSt, P2 = fP cd len r P ∧ isMod z cI cZ F2 k pf pm (nI len) (nI P2.1) (bz P2.2.1) (nI (rdN r P2)) a ps sl sv sd wy pa P2.2.2 ∧ P2.1 ≤ len ∧ gFr k (k + 9) F F2)) 0 0 := by
  refine gMv.of (cc := cX7_takePile) (maxL := 1) (ret := none) (by decide) rfl (Nat.le_of_ble_eq_true rfl) [(0, .ref (z + k))] rfl ?_
  intro pg ev sg mg bel me cg C hR0
  have hnx : ∀ s, nxG cd len s < 128 := fun s => nxG_lt hcd
  have hnx0 := hnx P.1
  refine x_aload_n C (pc := 0) 0 dX7_takePile_0 rfl ?_
  refine x_iconst C (pc := 1) (v := 0) dX7_takePile_1 (by decide) ?_
  refine x_cVvE C (pc := 2) (st := []) (c_X7_takeNumber l D z cI cZ cP cR N F k len r pf pm cd P a ps sl sv sd wy pa 0 hM (by omega) hcd hlen (show P.1 ≤ len by omega) (by decide) hr) (cwV 1 C.2.2.2.2.1 gX7_takePile_X7_takeNumber rfl rfl rfl hd_X7_takeNumber ⟨Nat.le_of_ble_eq_true rfl, Nat.le_of_ble_eq_true rfl⟩) (by omega) hM.ob rfl rfl rfl (Nat.le_of_ble_eq_true rfl) dX7_takePile_2 ⟨Nat.le_of_ble_eq_true rfl, Nat.le_of_ble_eq_true rfl⟩ (fun F_2 h_2 => ?_)
  obtain ⟨P_2, eP_2, hM_2, hle_2, fr_2⟩ := h_2
  refine x_aload_n C (pc := 5) 0 dX7_takePile_5 rfl ?_
  refine x_bipush C (pc := 6) (v := 44) dX7_takePile_6 (by decide) ?_
  refine x_cVvE C (pc := 8) (st := []) (c_X7_takeSign l D z cI cZ cP cR N F_2 k len r pf pm cd P_2 a ps sl sv sd wy pa 44 hM_2 (by omega) hcd hlen (show P_2.1 ≤ len by omega) (by decide) (by decide)) (cwV 1 C.2.2.2.2.1 gX7_takePile_X7_takeSign rfl rfl rfl hd_X7_takeSign ⟨Nat.le_of_ble_eq_true rfl, Nat.le_of_ble_eq_true rfl⟩) (by omega) hM_2.ob rfl rfl rfl (Nat.le_of_ble_eq_true rfl) dX7_takePile_8 ⟨Nat.le_of_ble_eq_true rfl, Nat.le_of_ble_eq_true rfl⟩ (fun F_8 h_8 => ?_)
  obtain ⟨P_8, eP_8, hM_8, hle_8, fr_8⟩ := h_8
  refine x_aload_n C (pc := 11) 0 dX7_takePile_11 rfl ?_
  refine x_iconst C (pc := 12) (v := 1) dX7_takePile_12 (by decide) ?_
  refine x_cVvE C (pc := 13) (st := []) (c_X7_takeNumber l D z cI cZ cP cR N F_8 k len r pf pm cd P_8 a ps sl sv sd wy pa 1 hM_8 (by omega) hcd hlen (show P_8.1 ≤ len by omega) (by decide) hr) (cwV 1 C.2.2.2.2.1 gX7_takePile_X7_takeNumber rfl rfl rfl hd_X7_takeNumber ⟨Nat.le_of_ble_eq_true rfl, Nat.le_of_ble_eq_true rfl⟩) (by omega) hM_8.ob rfl rfl rfl (Nat.le_of_ble_eq_true rfl) dX7_takePile_13 ⟨Nat.le_of_ble_eq_true rfl, Nat.le_of_ble_eq_true rfl⟩ (fun F_13 h_13 => ?_)
  obtain ⟨P_13, eP_13, hM_13, hle_13, fr_13⟩ := h_13
  refine x_aload_n C (pc := 16) 0 dX7_takePile_16 rfl ?_
  refine x_get C (pc := 17) (q := k) (v := .ref (z + (k + 8))) (ci := 7) rfl hn_X7_takePile_X7 13 (by decide) fl_X7_takePile_32 rfl (by omega) hM_13.ob rfl dX7_takePile_17 ?_
  refine x_bipush C (pc := 20) (v := 6) dX7_takePile_20 (by decide) ?_
  refine x_aload_n C (pc := 22) 0 dX7_takePile_22 rfl ?_
  refine x_get C (pc := 23) (q := k) (v := .int (nI r)) (ci := 7) rfl hn_X7_takePile_X7 12 (by decide) fl_X7_takePile_200 rfl (by omega) hM_13.ob rfl dX7_takePile_23 ?_
  refine x_imul C (pc := 26) (v := nI (6 * r)) dX7_takePile_26 (pk_mul 6 r) ?_
  refine x_iconst C (pc := 27) (v := 2) dX7_takePile_27 (by decide) ?_
  refine x_iadd C (pc := 28) (v := nI (6 * r + 2)) dX7_takePile_28 (nI_add (6 * r) 2) ?_
  refine x_iconst C (pc := 29) (v := 0) dX7_takePile_29 (by decide) ?_
  refine xw_isMod_nu C (pc := 30) (j := 6 * r + 2) hM_13 (by omega) rfl (by omega) dX7_takePile_30 (fun F_30 hM_30 fr_30 => ?_)
  refine x_aload_n C (pc := 31) 0 dX7_takePile_31 rfl ?_
  refine x_get C (pc := 32) (q := k) (v := .ref (z + (k + 8))) (ci := 7) rfl hn_X7_takePile_X7 13 (by decide) fl_X7_takePile_32 rfl (by omega) hM_30.ob rfl dX7_takePile_32 ?_
  refine x_bipush C (pc := 35) (v := 6) dX7_takePile_35 (by decide) ?_
  refine x_aload_n C (pc := 37) 0 dX7_takePile_37 rfl ?_
  refine x_get C (pc := 38) (q := k) (v := .int (nI r)) (ci := 7) rfl hn_X7_takePile_X7 12 (by decide) fl_X7_takePile_200 rfl (by omega) hM_30.ob rfl dX7_takePile_38 ?_
  refine x_imul C (pc := 41) (v := nI (6 * r)) dX7_takePile_41 (pk_mul 6 r) ?_
  refine x_iconst C (pc := 42) (v := 3) dX7_takePile_42 (by decide) ?_
  refine x_iadd C (pc := 43) (v := nI (6 * r + 3)) dX7_takePile_43 (nI_add (6 * r) 3) ?_
  refine x_iconst C (pc := 44) (v := 0) dX7_takePile_44 (by decide) ?_
  refine xw_isMod_nu C (pc := 45) (j := 6 * r + 3) hM_30 (by omega) rfl (by omega) dX7_takePile_45 (fun F_45 hM_45 fr_45 => ?_)
  refine x_aload_n C (pc := 46) 0 dX7_takePile_46 rfl ?_
  refine x_bipush C (pc := 47) (v := 44) dX7_takePile_47 (by decide) ?_
  refine x_cViE C (pc := 49) (st := []) (c_X7_takesIf l D z cI cZ cP cR N F_45 k len r pf pm cd (P_13.1, P_13.2.1, upd (upd P_13.2.2 (6 * r + 2) 0) (6 * r + 3) 0) a ps sl sv sd wy pa 44 hM_45 (by omega) hcd hlen (show P_13.1 ≤ len by omega) (by decide) (by decide)) (cwV 1 C.2.2.2.2.1 gX7_takePile_X7_takesIf rfl rfl rfl hd_X7_takesIf ⟨Nat.le_of_ble_eq_true rfl, Nat.le_of_ble_eq_true rfl⟩) (by omega) hM_45.ob rfl rfl rfl (Nat.le_of_ble_eq_true rfl) dX7_takePile_49 ⟨Nat.le_of_ble_eq_true rfl, Nat.le_of_ble_eq_true rfl⟩ (fun F_49 h_49 => ?_)
  obtain ⟨P_49, eP_49, hM_49, hle_49, fr_49⟩ := h_49
  refine x_bz_eq C (pc := 52) (tgt := 60) dX7_takePile_52 (by decide) (fun c_52 => ?_) (fun c_52 => ?_)
  · refine x_aload_n C (pc := 60) 0 dX7_takePile_60 rfl ?_
    refine x_bipush C (pc := 61) (v := 61) dX7_takePile_61 (by decide) ?_
    refine x_cViE C (pc := 63) (st := []) (c_X7_takesIf l D z cI cZ cP cR N F_49 k len r pf pm cd P_49 a ps sl sv sd wy pa 61 hM_49 (by omega) hcd hlen (show P_49.1 ≤ len by omega) (by decide) (by decide)) (cwV 1 C.2.2.2.2.1 gX7_takePile_X7_takesIf rfl rfl rfl hd_X7_takesIf ⟨Nat.le_of_ble_eq_true rfl, Nat.le_of_ble_eq_true rfl⟩) (by omega) hM_49.ob rfl rfl rfl (Nat.le_of_ble_eq_true rfl) dX7_takePile_63 ⟨Nat.le_of_ble_eq_true rfl, Nat.le_of_ble_eq_true rfl⟩ (fun F_63 h_63 => ?_)
    obtain ⟨P_63, eP_63, hM_63, hle_63, fr_63⟩ := h_63
    refine x_bz_eq C (pc := 66) (tgt := 100) dX7_takePile_66 (by decide) (fun c_66 => ?_) (fun c_66 => ?_)
    · refine x_aload_n C (pc := 100) 0 dX7_takePile_100 rfl ?_
      refine x_dup C (pc := 101) dX7_takePile_101 rfl ?_
      refine x_get C (pc := 102) (q := k) (v := .int (nI r)) (ci := 7) rfl hn_X7_takePile_X7 12 (by decide) fl_X7_takePile_200 rfl (by omega) hM_63.ob rfl dX7_takePile_102 ?_
      refine x_aload_n C (pc := 105) 0 dX7_takePile_105 rfl ?_
      refine x_get C (pc := 106) (q := k) (v := .int (bz P_63.2.1)) (ci := 7) rfl hn_X7_takePile_X7 11 (by decide) fl_X7_takePile_193 rfl (by omega) hM_63.ob rfl dX7_takePile_106 ?_
      refine x_bz_eq C (pc := 109) (tgt := 116) dX7_takePile_109 (by decide) (fun c_109 => ?_) (fun c_109 => ?_)
      · refine x_iconst C (pc := 116) (v := 1) dX7_takePile_116 (by decide) ?_
        refine x_iadd C (pc := 117) (v := nI (r + 1)) dX7_takePile_117 (nI_add r 1) ?_
        refine xw_X7_12 C (pc := 118) hn_X7_takePile_X7 fl_X7_takePile_200 hM_63 (by omega) dX7_takePile_118 (fun F_118 hM_118 fr_118 => ?_)
        exact x_vret C hR0 (Nat.le_of_ble_eq_true rfl) (Nat.le_of_ble_eq_true rfl) ⟨rfl, ⟨P_63, (by simp only [fP, stN, ← eP_2, ← eP_8, ← eP_13, ← eP_49, ← eP_63, c_52, c_66, if_true, Bool.false_eq_true, if_false, reduceIte]), (by rw [rdN]; first | (rw [if_pos c_109]; exact hM_118) | (rw [if_neg (by rw [c_109]; decide)]; exact hM_118)), (show P_63.1 ≤ len by omega), (gFr.t2 (gFr.t2 (gFr.t2 (gFr.t2 (gFr.t2 (gFr.t2 (gFr.t2 fr_2 fr_8) fr_13) fr_30) fr_45) fr_49) fr_63) fr_118)⟩⟩ dX7_takePile_121
      refine x_iconst C (pc := 112) (v := 0) dX7_takePile_112 (by decide) ?_
      refine x_goto C (pc := 113) (tgt := 117) dX7_takePile_113 (by decide) ?_
      refine x_iadd C (pc := 117) (v := nI (r + 0)) dX7_takePile_117 (nI_add r 0) ?_
      refine xw_X7_12 C (pc := 118) hn_X7_takePile_X7 fl_X7_takePile_200 hM_63 (by omega) dX7_takePile_118 (fun F_118 hM_118 fr_118 => ?_)
      exact x_vret C hR0 (Nat.le_of_ble_eq_true rfl) (Nat.le_of_ble_eq_true rfl) ⟨rfl, ⟨P_63, (by simp only [fP, stN, ← eP_2, ← eP_8, ← eP_13, ← eP_49, ← eP_63, c_52, c_66, if_true, Bool.false_eq_true, if_false, reduceIte]), (by rw [rdN]; first | (rw [if_pos c_109]; exact hM_118) | (rw [if_neg (by rw [c_109]; decide)]; exact hM_118)), (show P_63.1 ≤ len by omega), (gFr.t2 (gFr.t2 (gFr.t2 (gFr.t2 (gFr.t2 (gFr.t2 (gFr.t2 fr_2 fr_8) fr_13) fr_30) fr_45) fr_49) fr_63) fr_118)⟩⟩ dX7_takePile_121
    refine x_aload_n C (pc := 69) 0 dX7_takePile_69 rfl ?_
    refine x_get C (pc := 70) (q := k) (v := .ref (z + (k + 8))) (ci := 7) rfl hn_X7_takePile_X7 13 (by decide) fl_X7_takePile_32 rfl (by omega) hM_63.ob rfl dX7_takePile_70 ?_
    refine x_bipush C (pc := 73) (v := 6) dX7_takePile_73 (by decide) ?_
    refine x_aload_n C (pc := 75) 0 dX7_takePile_75 rfl ?_
    refine x_get C (pc := 76) (q := k) (v := .int (nI r)) (ci := 7) rfl hn_X7_takePile_X7 12 (by decide) fl_X7_takePile_200 rfl (by omega) hM_63.ob rfl dX7_takePile_76 ?_
    refine x_imul C (pc := 79) (v := nI (6 * r)) dX7_takePile_79 (pk_mul 6 r) ?_
    refine x_iconst C (pc := 80) (v := 3) dX7_takePile_80 (by decide) ?_
    refine x_iadd C (pc := 81) (v := nI (6 * r + 3)) dX7_takePile_81 (nI_add (6 * r) 3) ?_
    refine x_iconst C (pc := 82) (v := 1) dX7_takePile_82 (by decide) ?_
    refine xw_isMod_nu C (pc := 83) (j := 6 * r + 3) hM_63 (by omega) rfl (by omega) dX7_takePile_83 (fun F_83 hM_83 fr_83 => ?_)
    refine x_aload_n C (pc := 84) 0 dX7_takePile_84 rfl ?_
    refine x_iconst C (pc := 85) (v := 4) dX7_takePile_85 (by decide) ?_
    refine x_cVvE C (pc := 86) (st := []) (c_X7_takeNumber l D z cI cZ cP cR N F_83 k len r pf pm cd (P_63.1, P_63.2.1, upd P_63.2.2 (6 * r + 3) 1) a ps sl sv sd wy pa 4 hM_83 (by omega) hcd hlen (show P_63.1 ≤ len by omega) (by decide) hr) (cwV 1 C.2.2.2.2.1 gX7_takePile_X7_takeNumber rfl rfl rfl hd_X7_takeNumber ⟨Nat.le_of_ble_eq_true rfl, Nat.le_of_ble_eq_true rfl⟩) (by omega) hM_83.ob rfl rfl rfl (Nat.le_of_ble_eq_true rfl) dX7_takePile_86 ⟨Nat.le_of_ble_eq_true rfl, Nat.le_of_ble_eq_true rfl⟩ (fun F_86 h_86 => ?_)
    obtain ⟨P_86, eP_86, hM_86, hle_86, fr_86⟩ := h_86
    refine x_aload_n C (pc := 89) 0 dX7_takePile_89 rfl ?_
    refine x_bipush C (pc := 90) (v := 44) dX7_takePile_90 (by decide) ?_
    refine x_cVvE C (pc := 92) (st := []) (c_X7_takeSign l D z cI cZ cP cR N F_86 k len r pf pm cd P_86 a ps sl sv sd wy pa 44 hM_86 (by omega) hcd hlen (show P_86.1 ≤ len by omega) (by decide) (by decide)) (cwV 1 C.2.2.2.2.1 gX7_takePile_X7_takeSign rfl rfl rfl hd_X7_takeSign ⟨Nat.le_of_ble_eq_true rfl, Nat.le_of_ble_eq_true rfl⟩) (by omega) hM_86.ob rfl rfl rfl (Nat.le_of_ble_eq_true rfl) dX7_takePile_92 ⟨Nat.le_of_ble_eq_true rfl, Nat.le_of_ble_eq_true rfl⟩ (fun F_92 h_92 => ?_)
    obtain ⟨P_92, eP_92, hM_92, hle_92, fr_92⟩ := h_92
    refine x_aload_n C (pc := 95) 0 dX7_takePile_95 rfl ?_
    refine x_iconst C (pc := 96) (v := 5) dX7_takePile_96 (by decide) ?_
    refine x_cVvE C (pc := 97) (st := []) (c_X7_takeNumber l D z cI cZ cP cR N F_92 k len r pf pm cd P_92 a ps sl sv sd wy pa 5 hM_92 (by omega) hcd hlen (show P_92.1 ≤ len by omega) (by decide) hr) (cwV 1 C.2.2.2.2.1 gX7_takePile_X7_takeNumber rfl rfl rfl hd_X7_takeNumber ⟨Nat.le_of_ble_eq_true rfl, Nat.le_of_ble_eq_true rfl⟩) (by omega) hM_92.ob rfl rfl rfl (Nat.le_of_ble_eq_true rfl) dX7_takePile_97 ⟨Nat.le_of_ble_eq_true rfl, Nat.le_of_ble_eq_true rfl⟩ (fun F_97 h_97 => ?_)
    obtain ⟨P_97, eP_97, hM_97, hle_97, fr_97⟩ := h_97
    refine x_aload_n C (pc := 100) 0 dX7_takePile_100 rfl ?_
    refine x_dup C (pc := 101) dX7_takePile_101 rfl ?_
    refine x_get C (pc := 102) (q := k) (v := .int (nI r)) (ci := 7) rfl hn_X7_takePile_X7 12 (by decide) fl_X7_takePile_200 rfl (by omega) hM_97.ob rfl dX7_takePile_102 ?_
    refine x_aload_n C (pc := 105) 0 dX7_takePile_105 rfl ?_
    refine x_get C (pc := 106) (q := k) (v := .int (bz P_97.2.1)) (ci := 7) rfl hn_X7_takePile_X7 11 (by decide) fl_X7_takePile_193 rfl (by omega) hM_97.ob rfl dX7_takePile_106 ?_
    refine x_bz_eq C (pc := 109) (tgt := 116) dX7_takePile_109 (by decide) (fun c_109 => ?_) (fun c_109 => ?_)
    · refine x_iconst C (pc := 116) (v := 1) dX7_takePile_116 (by decide) ?_
      refine x_iadd C (pc := 117) (v := nI (r + 1)) dX7_takePile_117 (nI_add r 1) ?_
      refine xw_X7_12 C (pc := 118) hn_X7_takePile_X7 fl_X7_takePile_200 hM_97 (by omega) dX7_takePile_118 (fun F_118 hM_118 fr_118 => ?_)
      exact x_vret C hR0 (Nat.le_of_ble_eq_true rfl) (Nat.le_of_ble_eq_true rfl) ⟨rfl, ⟨P_97, (by simp only [fP, stN, ← eP_2, ← eP_8, ← eP_13, ← eP_49, ← eP_63, ← eP_86, ← eP_92, ← eP_97, c_52, c_66, if_true, Bool.false_eq_true, if_false, reduceIte]), (by rw [rdN]; first | (rw [if_pos c_109]; exact hM_118) | (rw [if_neg (by rw [c_109]; decide)]; exact hM_118)), (show P_97.1 ≤ len by omega), (gFr.t2 (gFr.t2 (gFr.t2 (gFr.t2 (gFr.t2 (gFr.t2 (gFr.t2 (gFr.t2 (gFr.t2 (gFr.t2 (gFr.t2 fr_2 fr_8) fr_13) fr_30) fr_45) fr_49) fr_63) fr_83) fr_86) fr_92) fr_97) fr_118)⟩⟩ dX7_takePile_121
    refine x_iconst C (pc := 112) (v := 0) dX7_takePile_112 (by decide) ?_
    refine x_goto C (pc := 113) (tgt := 117) dX7_takePile_113 (by decide) ?_
    refine x_iadd C (pc := 117) (v := nI (r + 0)) dX7_takePile_117 (nI_add r 0) ?_
    refine xw_X7_12 C (pc := 118) hn_X7_takePile_X7 fl_X7_takePile_200 hM_97 (by omega) dX7_takePile_118 (fun F_118 hM_118 fr_118 => ?_)
    exact x_vret C hR0 (Nat.le_of_ble_eq_true rfl) (Nat.le_of_ble_eq_true rfl) ⟨rfl, ⟨P_97, (by simp only [fP, stN, ← eP_2, ← eP_8, ← eP_13, ← eP_49, ← eP_63, ← eP_86, ← eP_92, ← eP_97, c_52, c_66, if_true, Bool.false_eq_true, if_false, reduceIte]), (by rw [rdN]; first | (rw [if_pos c_109]; exact hM_118) | (rw [if_neg (by rw [c_109]; decide)]; exact hM_118)), (show P_97.1 ≤ len by omega), (gFr.t2 (gFr.t2 (gFr.t2 (gFr.t2 (gFr.t2 (gFr.t2 (gFr.t2 (gFr.t2 (gFr.t2 (gFr.t2 (gFr.t2 fr_2 fr_8) fr_13) fr_30) fr_45) fr_49) fr_63) fr_83) fr_86) fr_92) fr_97) fr_118)⟩⟩ dX7_takePile_121
  refine x_aload_n C (pc := 55) 0 dX7_takePile_55 rfl ?_
  refine x_iconst C (pc := 56) (v := 2) dX7_takePile_56 (by decide) ?_
  refine x_cVvE C (pc := 57) (st := []) (c_X7_takeNumber l D z cI cZ cP cR N F_49 k len r pf pm cd P_49 a ps sl sv sd wy pa 2 hM_49 (by omega) hcd hlen (show P_49.1 ≤ len by omega) (by decide) hr) (cwV 1 C.2.2.2.2.1 gX7_takePile_X7_takeNumber rfl rfl rfl hd_X7_takeNumber ⟨Nat.le_of_ble_eq_true rfl, Nat.le_of_ble_eq_true rfl⟩) (by omega) hM_49.ob rfl rfl rfl (Nat.le_of_ble_eq_true rfl) dX7_takePile_57 ⟨Nat.le_of_ble_eq_true rfl, Nat.le_of_ble_eq_true rfl⟩ (fun F_57 h_57 => ?_)
  obtain ⟨P_57, eP_57, hM_57, hle_57, fr_57⟩ := h_57
  refine x_aload_n C (pc := 60) 0 dX7_takePile_60 rfl ?_
  refine x_bipush C (pc := 61) (v := 61) dX7_takePile_61 (by decide) ?_
  refine x_cViE C (pc := 63) (st := []) (c_X7_takesIf l D z cI cZ cP cR N F_57 k len r pf pm cd P_57 a ps sl sv sd wy pa 61 hM_57 (by omega) hcd hlen (show P_57.1 ≤ len by omega) (by decide) (by decide)) (cwV 1 C.2.2.2.2.1 gX7_takePile_X7_takesIf rfl rfl rfl hd_X7_takesIf ⟨Nat.le_of_ble_eq_true rfl, Nat.le_of_ble_eq_true rfl⟩) (by omega) hM_57.ob rfl rfl rfl (Nat.le_of_ble_eq_true rfl) dX7_takePile_63 ⟨Nat.le_of_ble_eq_true rfl, Nat.le_of_ble_eq_true rfl⟩ (fun F_63 h_63 => ?_)
  obtain ⟨P_63, eP_63, hM_63, hle_63, fr_63⟩ := h_63
  refine x_bz_eq C (pc := 66) (tgt := 100) dX7_takePile_66 (by decide) (fun c_66 => ?_) (fun c_66 => ?_)
  · refine x_aload_n C (pc := 100) 0 dX7_takePile_100 rfl ?_
    refine x_dup C (pc := 101) dX7_takePile_101 rfl ?_
    refine x_get C (pc := 102) (q := k) (v := .int (nI r)) (ci := 7) rfl hn_X7_takePile_X7 12 (by decide) fl_X7_takePile_200 rfl (by omega) hM_63.ob rfl dX7_takePile_102 ?_
    refine x_aload_n C (pc := 105) 0 dX7_takePile_105 rfl ?_
    refine x_get C (pc := 106) (q := k) (v := .int (bz P_63.2.1)) (ci := 7) rfl hn_X7_takePile_X7 11 (by decide) fl_X7_takePile_193 rfl (by omega) hM_63.ob rfl dX7_takePile_106 ?_
    refine x_bz_eq C (pc := 109) (tgt := 116) dX7_takePile_109 (by decide) (fun c_109 => ?_) (fun c_109 => ?_)
    · refine x_iconst C (pc := 116) (v := 1) dX7_takePile_116 (by decide) ?_
      refine x_iadd C (pc := 117) (v := nI (r + 1)) dX7_takePile_117 (nI_add r 1) ?_
      refine xw_X7_12 C (pc := 118) hn_X7_takePile_X7 fl_X7_takePile_200 hM_63 (by omega) dX7_takePile_118 (fun F_118 hM_118 fr_118 => ?_)
      exact x_vret C hR0 (Nat.le_of_ble_eq_true rfl) (Nat.le_of_ble_eq_true rfl) ⟨rfl, ⟨P_63, (by simp only [fP, stN, ← eP_2, ← eP_8, ← eP_13, ← eP_49, ← eP_57, ← eP_63, c_52, c_66, if_true, Bool.false_eq_true, if_false, reduceIte]), (by rw [rdN]; first | (rw [if_pos c_109]; exact hM_118) | (rw [if_neg (by rw [c_109]; decide)]; exact hM_118)), (show P_63.1 ≤ len by omega), (gFr.t2 (gFr.t2 (gFr.t2 (gFr.t2 (gFr.t2 (gFr.t2 (gFr.t2 (gFr.t2 fr_2 fr_8) fr_13) fr_30) fr_45) fr_49) fr_57) fr_63) fr_118)⟩⟩ dX7_takePile_121
    refine x_iconst C (pc := 112) (v := 0) dX7_takePile_112 (by decide) ?_
    refine x_goto C (pc := 113) (tgt := 117) dX7_takePile_113 (by decide) ?_
    refine x_iadd C (pc := 117) (v := nI (r + 0)) dX7_takePile_117 (nI_add r 0) ?_
    refine xw_X7_12 C (pc := 118) hn_X7_takePile_X7 fl_X7_takePile_200 hM_63 (by omega) dX7_takePile_118 (fun F_118 hM_118 fr_118 => ?_)
    exact x_vret C hR0 (Nat.le_of_ble_eq_true rfl) (Nat.le_of_ble_eq_true rfl) ⟨rfl, ⟨P_63, (by simp only [fP, stN, ← eP_2, ← eP_8, ← eP_13, ← eP_49, ← eP_57, ← eP_63, c_52, c_66, if_true, Bool.false_eq_true, if_false, reduceIte]), (by rw [rdN]; first | (rw [if_pos c_109]; exact hM_118) | (rw [if_neg (by rw [c_109]; decide)]; exact hM_118)), (show P_63.1 ≤ len by omega), (gFr.t2 (gFr.t2 (gFr.t2 (gFr.t2 (gFr.t2 (gFr.t2 (gFr.t2 (gFr.t2 fr_2 fr_8) fr_13) fr_30) fr_45) fr_49) fr_57) fr_63) fr_118)⟩⟩ dX7_takePile_121
  refine x_aload_n C (pc := 69) 0 dX7_takePile_69 rfl ?_
  refine x_get C (pc := 70) (q := k) (v := .ref (z + (k + 8))) (ci := 7) rfl hn_X7_takePile_X7 13 (by decide) fl_X7_takePile_32 rfl (by omega) hM_63.ob rfl dX7_takePile_70 ?_
  refine x_bipush C (pc := 73) (v := 6) dX7_takePile_73 (by decide) ?_
  refine x_aload_n C (pc := 75) 0 dX7_takePile_75 rfl ?_
  refine x_get C (pc := 76) (q := k) (v := .int (nI r)) (ci := 7) rfl hn_X7_takePile_X7 12 (by decide) fl_X7_takePile_200 rfl (by omega) hM_63.ob rfl dX7_takePile_76 ?_
  refine x_imul C (pc := 79) (v := nI (6 * r)) dX7_takePile_79 (pk_mul 6 r) ?_
  refine x_iconst C (pc := 80) (v := 3) dX7_takePile_80 (by decide) ?_
  refine x_iadd C (pc := 81) (v := nI (6 * r + 3)) dX7_takePile_81 (nI_add (6 * r) 3) ?_
  refine x_iconst C (pc := 82) (v := 1) dX7_takePile_82 (by decide) ?_
  refine xw_isMod_nu C (pc := 83) (j := 6 * r + 3) hM_63 (by omega) rfl (by omega) dX7_takePile_83 (fun F_83 hM_83 fr_83 => ?_)
  refine x_aload_n C (pc := 84) 0 dX7_takePile_84 rfl ?_
  refine x_iconst C (pc := 85) (v := 4) dX7_takePile_85 (by decide) ?_
  refine x_cVvE C (pc := 86) (st := []) (c_X7_takeNumber l D z cI cZ cP cR N F_83 k len r pf pm cd (P_63.1, P_63.2.1, upd P_63.2.2 (6 * r + 3) 1) a ps sl sv sd wy pa 4 hM_83 (by omega) hcd hlen (show P_63.1 ≤ len by omega) (by decide) hr) (cwV 1 C.2.2.2.2.1 gX7_takePile_X7_takeNumber rfl rfl rfl hd_X7_takeNumber ⟨Nat.le_of_ble_eq_true rfl, Nat.le_of_ble_eq_true rfl⟩) (by omega) hM_83.ob rfl rfl rfl (Nat.le_of_ble_eq_true rfl) dX7_takePile_86 ⟨Nat.le_of_ble_eq_true rfl, Nat.le_of_ble_eq_true rfl⟩ (fun F_86 h_86 => ?_)
  obtain ⟨P_86, eP_86, hM_86, hle_86, fr_86⟩ := h_86
  refine x_aload_n C (pc := 89) 0 dX7_takePile_89 rfl ?_
  refine x_bipush C (pc := 90) (v := 44) dX7_takePile_90 (by decide) ?_
  refine x_cVvE C (pc := 92) (st := []) (c_X7_takeSign l D z cI cZ cP cR N F_86 k len r pf pm cd P_86 a ps sl sv sd wy pa 44 hM_86 (by omega) hcd hlen (show P_86.1 ≤ len by omega) (by decide) (by decide)) (cwV 1 C.2.2.2.2.1 gX7_takePile_X7_takeSign rfl rfl rfl hd_X7_takeSign ⟨Nat.le_of_ble_eq_true rfl, Nat.le_of_ble_eq_true rfl⟩) (by omega) hM_86.ob rfl rfl rfl (Nat.le_of_ble_eq_true rfl) dX7_takePile_92 ⟨Nat.le_of_ble_eq_true rfl, Nat.le_of_ble_eq_true rfl⟩ (fun F_92 h_92 => ?_)
  obtain ⟨P_92, eP_92, hM_92, hle_92, fr_92⟩ := h_92
  refine x_aload_n C (pc := 95) 0 dX7_takePile_95 rfl ?_
  refine x_iconst C (pc := 96) (v := 5) dX7_takePile_96 (by decide) ?_
  refine x_cVvE C (pc := 97) (st := []) (c_X7_takeNumber l D z cI cZ cP cR N F_92 k len r pf pm cd P_92 a ps sl sv sd wy pa 5 hM_92 (by omega) hcd hlen (show P_92.1 ≤ len by omega) (by decide) hr) (cwV 1 C.2.2.2.2.1 gX7_takePile_X7_takeNumber rfl rfl rfl hd_X7_takeNumber ⟨Nat.le_of_ble_eq_true rfl, Nat.le_of_ble_eq_true rfl⟩) (by omega) hM_92.ob rfl rfl rfl (Nat.le_of_ble_eq_true rfl) dX7_takePile_97 ⟨Nat.le_of_ble_eq_true rfl, Nat.le_of_ble_eq_true rfl⟩ (fun F_97 h_97 => ?_)
  obtain ⟨P_97, eP_97, hM_97, hle_97, fr_97⟩ := h_97
  refine x_aload_n C (pc := 100) 0 dX7_takePile_100 rfl ?_
  refine x_dup C (pc := 101) dX7_takePile_101 rfl ?_
  refine x_get C (pc := 102) (q := k) (v := .int (nI r)) (ci := 7) rfl hn_X7_takePile_X7 12 (by decide) fl_X7_takePile_200 rfl (by omega) hM_97.ob rfl dX7_takePile_102 ?_
  refine x_aload_n C (pc := 105) 0 dX7_takePile_105 rfl ?_
  refine x_get C (pc := 106) (q := k) (v := .int (bz P_97.2.1)) (ci := 7) rfl hn_X7_takePile_X7 11 (by decide) fl_X7_takePile_193 rfl (by omega) hM_97.ob rfl dX7_takePile_106 ?_
  refine x_bz_eq C (pc := 109) (tgt := 116) dX7_takePile_109 (by decide) (fun c_109 => ?_) (fun c_109 => ?_)
  · refine x_iconst C (pc := 116) (v := 1) dX7_takePile_116 (by decide) ?_
    refine x_iadd C (pc := 117) (v := nI (r + 1)) dX7_takePile_117 (nI_add r 1) ?_
    refine xw_X7_12 C (pc := 118) hn_X7_takePile_X7 fl_X7_takePile_200 hM_97 (by omega) dX7_takePile_118 (fun F_118 hM_118 fr_118 => ?_)
    exact x_vret C hR0 (Nat.le_of_ble_eq_true rfl) (Nat.le_of_ble_eq_true rfl) ⟨rfl, ⟨P_97, (by simp only [fP, stN, ← eP_2, ← eP_8, ← eP_13, ← eP_49, ← eP_57, ← eP_63, ← eP_86, ← eP_92, ← eP_97, c_52, c_66, if_true, Bool.false_eq_true, if_false, reduceIte]), (by rw [rdN]; first | (rw [if_pos c_109]; exact hM_118) | (rw [if_neg (by rw [c_109]; decide)]; exact hM_118)), (show P_97.1 ≤ len by omega), (gFr.t2 (gFr.t2 (gFr.t2 (gFr.t2 (gFr.t2 (gFr.t2 (gFr.t2 (gFr.t2 (gFr.t2 (gFr.t2 (gFr.t2 (gFr.t2 fr_2 fr_8) fr_13) fr_30) fr_45) fr_49) fr_57) fr_63) fr_83) fr_86) fr_92) fr_97) fr_118)⟩⟩ dX7_takePile_121
  refine x_iconst C (pc := 112) (v := 0) dX7_takePile_112 (by decide) ?_
  refine x_goto C (pc := 113) (tgt := 117) dX7_takePile_113 (by decide) ?_
  refine x_iadd C (pc := 117) (v := nI (r + 0)) dX7_takePile_117 (nI_add r 0) ?_
  refine xw_X7_12 C (pc := 118) hn_X7_takePile_X7 fl_X7_takePile_200 hM_97 (by omega) dX7_takePile_118 (fun F_118 hM_118 fr_118 => ?_)
  exact x_vret C hR0 (Nat.le_of_ble_eq_true rfl) (Nat.le_of_ble_eq_true rfl) ⟨rfl, ⟨P_97, (by simp only [fP, stN, ← eP_2, ← eP_8, ← eP_13, ← eP_49, ← eP_57, ← eP_63, ← eP_86, ← eP_92, ← eP_97, c_52, c_66, if_true, Bool.false_eq_true, if_false, reduceIte]), (by rw [rdN]; first | (rw [if_pos c_109]; exact hM_118) | (rw [if_neg (by rw [c_109]; decide)]; exact hM_118)), (show P_97.1 ≤ len by omega), (gFr.t2 (gFr.t2 (gFr.t2 (gFr.t2 (gFr.t2 (gFr.t2 (gFr.t2 (gFr.t2 (gFr.t2 (gFr.t2 (gFr.t2 (gFr.t2 fr_2 fr_8) fr_13) fr_30) fr_45) fr_49) fr_57) fr_63) fr_83) fr_86) fr_92) fr_97) fr_118)⟩⟩ dX7_takePile_121
theorem fl_X7_fault_173 : Cond.fieldLink RX7 173 "PileRecountModel" "padMany" "I" ∈ wsX7_fault := by decide +kernel
theorem fl_X7_fault_190 : Cond.fieldLink RX7 190 "PileRecountModel" "spot" "I" ∈ wsX7_fault := by decide +kernel
theorem fl_X7_fault_193 : Cond.fieldLink RX7 193 "PileRecountModel" "isWrong" "Z" ∈ wsX7_fault := by decide +kernel
theorem fl_X7_fault_200 : Cond.fieldLink RX7 200 "PileRecountModel" "read" "I" ∈ wsX7_fault := by decide +kernel
theorem hn_X7_fault_X7 : ∀ w ∈ wsX70, w ∈ wsX7_fault := fun _ h => List.mem_cons_of_mem _ (List.mem_append_right _ h)
set_option maxHeartbeats 4000000 in
set_option maxRecDepth 100000 in
theorem c_X7_fault (l : Launch) (D : va_G) (z : Nat) (cI cZ cP cR : ClassId) (N : Nat) (F : Nat → va_E) (k len : Nat) (pf pm spt wrg rd : Int32) (cd : Nat → Nat) (a ps sl sv sd wy pa nu : Nat → Int32) (hM : isMod z cI cZ F k pf pm (nI len) spt wrg rd a ps sl sv sd wy pa nu) (hk : k + 9 ≤ N) (hcd : cdOK pa cd len) (hlen : len ≤ 80) : gMi l yX7_fault wsX7_fault ({ frames := 3, cells := 0, slots := 0, locals := 64 }) D z cI cZ cP cR N F [.ref (z + k)] (gRes (ftI (FTG cd len nu)) N (fun F2 => ∃ T : PSt × Nat, T = FTG cd len nu ∧ isMod z cI cZ F2 k pf pm (nI len) (nI T.1.1) (bz T.1.2.1) (nI T.2) a ps sl sv sd wy pa T.1.2.2 ∧ T.1.1 ≤ len ∧ T.2 ≤ 21 ∧ gFr k (k + 9) F F2)) 0 0 := by
  refine gMi.of (cc := cX7_fault) (maxL := 1) (ret := (some .int)) (by decide) rfl (Nat.le_of_ble_eq_true rfl) [(0, .ref (z + k))] rfl ?_
  intro pg ev sg mg bel me cg C hR0
  refine x_aload_n C (pc := 0) 0 dX7_fault_0 rfl ?_
  refine x_iconst C (pc := 1) (v := 0) dX7_fault_1 (by decide) ?_
  refine xw_X7_10 C (pc := 2) hn_X7_fault_X7 fl_X7_fault_190 hM (by omega) dX7_fault_2 (fun F_2 hM_2 fr_2 => ?_)
  refine x_aload_n C (pc := 5) 0 dX7_fault_5 rfl ?_
  refine x_iconst C (pc := 6) (v := 0) dX7_fault_6 (by decide) ?_
  refine xw_X7_11 C (pc := 7) hn_X7_fault_X7 fl_X7_fault_193 hM_2 (by omega) (by first | exact Or.inl rfl | exact Or.inr rfl) dX7_fault_7 (fun F_7 hM_7 fr_7 => ?_)
  refine x_aload_n C (pc := 10) 0 dX7_fault_10 rfl ?_
  refine x_iconst C (pc := 11) (v := 0) dX7_fault_11 (by decide) ?_
  refine xw_X7_12 C (pc := 12) hn_X7_fault_X7 fl_X7_fault_200 hM_7 (by omega) dX7_fault_12 (fun F_12 hM_12 fr_12 => ?_)
  refine x_aload_n C (pc := 15) 0 dX7_fault_15 rfl ?_
  refine x_cVvE C (pc := 16) (st := []) (c_X7_takePile l D z cI cZ cP cR N F_12 k len 0 pf pm cd (0, false, nu) a ps sl sv sd wy pa  hM_12 (by omega) hcd hlen (show 0 ≤ len by omega) (by decide)) (cwV 0 C.2.2.2.2.1 gX7_fault_X7_takePile rfl rfl rfl hd_X7_takePile ⟨Nat.le_of_ble_eq_true rfl, Nat.le_of_ble_eq_true rfl⟩) (by omega) hM_12.ob rfl rfl rfl (Nat.le_of_ble_eq_true rfl) dX7_fault_16 ⟨Nat.le_of_ble_eq_true rfl, Nat.le_of_ble_eq_true rfl⟩ (fun F_16 h_16 => ?_)
  obtain ⟨P_16, eP_16, hM_16, hle_16, fr_16⟩ := h_16
  refine x_sub [0] _ rfl ?_
  refine x_loop4 (A1 := Nat) (A2 := Nat) (A3 := PSt) (A4 := Nat → va_E) (pc := 19) (st := []) (fun f r P G => f) (fun f r P G => (P.1 ≤ len) ∧ (isMod z cI cZ G k pf pm (nI len) (nI P.1) (bz P.2.1) (nI r) a ps sl sv sd wy pa P.2.2) ∧ (gFr k (k + 9) F G) ∧ (P.2.1 = false → 4 * r ≤ P.1 + 1) ∧ (P.2.1 = false → len - P.1 ≤ f) ∧ (r ≤ 21) ∧ (fF cd len f r P = FTG cd len nu)) (fun f r P G => N) (fun f r P G => G) (fun f r P G => 0) (fun f r P G => 0) (fun f r P G => [(0, .ref (z + k))]) len (rdN 0 P_16) P_16 F_16 ⟨hle_16, hM_16, (gFr.t2 (gFr.t2 (gFr.t2 fr_2 fr_7) fr_12) fr_16), (fun q => by have h9 := (fP_ge (cd := cd) (len := len) (r := 0) (P := (0, false, nu))); rw [← eP_16] at h9; have h8 := (h9.2 q).2; unfold rdN; rw [if_neg (by rw [q]; decide)]; dsimp only at h8; omega), (fun q => by omega), (by unfold rdN; split <;> omega), (by rw [FTG, ← eP_16])⟩ rfl rfl rfl rfl rfl ?_
  rintro f r P G ⟨hle, hG, hfr, hq, hfu, hr22, hff⟩ ih_19
  try dsimp only at ih_19
  refine x_aload_n C (pc := 19) 0 dX7_fault_19 rfl ?_
  refine x_get C (pc := 20) (q := k) (v := .int (bz P.2.1)) (ci := 7) rfl hn_X7_fault_X7 11 (by decide) fl_X7_fault_193 rfl (by omega) hG.ob rfl dX7_fault_20 ?_
  refine x_bz_ne C (pc := 23) (tgt := 57) dX7_fault_23 (by decide) (fun c_23 => ?_) (fun c_23 => ?_)
  · have hTG : FTG cd len nu = (P, r) := by rw [← hff]; first | exact fF_stop (Or.inl c_23) | exact fF_stop (Or.inr c_34)
    refine x_aload_n C (pc := 57) 0 dX7_fault_57 rfl ?_
    refine x_get C (pc := 58) (q := k) (v := .int (bz P.2.1)) (ci := 7) rfl hn_X7_fault_X7 11 (by decide) fl_X7_fault_193 rfl (by omega) hG.ob rfl dX7_fault_58 ?_
    refine x_bz_eq C (pc := 61) (tgt := 71) dX7_fault_61 (by decide) (fun c_61 => ?_) (fun c_61 => ?_)
    · refine x_bipush C (pc := 71) (v := (-6)) dX7_fault_71 (by decide) ?_
      exact x_iret C hR0 rfl (Nat.le_of_ble_eq_true rfl) (Nat.le_of_ble_eq_true rfl) ⟨(by rw [hTG, ftI]; first | (rw [if_pos c_61]; done) | (rw [if_neg (by rw [c_61]; decide)]; done)), rfl, ⟨(P, r), hTG.symm, hG, hle, hr22, hfr⟩⟩ dX7_fault_73
    refine x_aload_n C (pc := 64) 0 dX7_fault_64 rfl ?_
    refine x_get C (pc := 65) (q := k) (v := .int (nI P.1)) (ci := 7) rfl hn_X7_fault_X7 10 (by decide) fl_X7_fault_190 rfl (by omega) hG.ob rfl dX7_fault_65 ?_
    refine x_goto C (pc := 68) (tgt := 73) dX7_fault_68 (by decide) ?_
    exact x_iret C hR0 rfl (Nat.le_of_ble_eq_true rfl) (Nat.le_of_ble_eq_true rfl) ⟨(by rw [hTG, ftI]; first | (rw [if_pos c_61]; done) | (rw [if_neg (by rw [c_61]; decide)]; done)), rfl, ⟨(P, r), hTG.symm, hG, hle, hr22, hfr⟩⟩ dX7_fault_73
  refine x_aload_n C (pc := 26) 0 dX7_fault_26 rfl ?_
  refine x_get C (pc := 27) (q := k) (v := .int (nI P.1)) (ci := 7) rfl hn_X7_fault_X7 10 (by decide) fl_X7_fault_190 rfl (by omega) hG.ob rfl dX7_fault_27 ?_
  refine x_aload_n C (pc := 30) 0 dX7_fault_30 rfl ?_
  refine x_get C (pc := 31) (q := k) (v := .int (nI len)) (ci := 7) rfl hn_X7_fault_X7 9 (by decide) fl_X7_fault_173 rfl (by omega) hG.ob rfl dX7_fault_31 ?_
  refine x_icmpN_ge C (a := P.1) (b := len) (pc := 34) (tgt := 57) (by omega) (by omega) dX7_fault_34 (by decide) (fun c_34 => ?_) (fun c_34 => ?_)
  · have hTG : FTG cd len nu = (P, r) := by rw [← hff]; first | exact fF_stop (Or.inl c_23) | exact fF_stop (Or.inr c_34)
    refine x_aload_n C (pc := 57) 0 dX7_fault_57 rfl ?_
    refine x_get C (pc := 58) (q := k) (v := .int (bz P.2.1)) (ci := 7) rfl hn_X7_fault_X7 11 (by decide) fl_X7_fault_193 rfl (by omega) hG.ob rfl dX7_fault_58 ?_
    refine x_bz_eq C (pc := 61) (tgt := 71) dX7_fault_61 (by decide) (fun c_61 => ?_) (fun c_61 => ?_)
    · refine x_bipush C (pc := 71) (v := (-6)) dX7_fault_71 (by decide) ?_
      exact x_iret C hR0 rfl (Nat.le_of_ble_eq_true rfl) (Nat.le_of_ble_eq_true rfl) ⟨(by rw [hTG, ftI]; first | (rw [if_pos c_61]; done) | (rw [if_neg (by rw [c_61]; decide)]; done)), rfl, ⟨(P, r), hTG.symm, hG, hle, hr22, hfr⟩⟩ dX7_fault_73
    refine x_aload_n C (pc := 64) 0 dX7_fault_64 rfl ?_
    refine x_get C (pc := 65) (q := k) (v := .int (nI P.1)) (ci := 7) rfl hn_X7_fault_X7 10 (by decide) fl_X7_fault_190 rfl (by omega) hG.ob rfl dX7_fault_65 ?_
    refine x_goto C (pc := 68) (tgt := 73) dX7_fault_68 (by decide) ?_
    exact x_iret C hR0 rfl (Nat.le_of_ble_eq_true rfl) (Nat.le_of_ble_eq_true rfl) ⟨(by rw [hTG, ftI]; first | (rw [if_pos c_61]; done) | (rw [if_neg (by rw [c_61]; decide)]; done)), rfl, ⟨(P, r), hTG.symm, hG, hle, hr22, hfr⟩⟩ dX7_fault_73
  have hnst : ¬ (P.2.1 = true ∨ len ≤ P.1) := fun h => h.elim (fun h => by rw [h] at c_23; cases c_23) (fun h => by omega)
  have hfu1 := hfu c_23
  have hq1 := hq c_23
  refine x_aload_n C (pc := 37) 0 dX7_fault_37 rfl ?_
  refine x_bipush C (pc := 38) (v := 59) dX7_fault_38 (by decide) ?_
  refine x_cVvE C (pc := 40) (st := []) (c_X7_takeSign l D z cI cZ cP cR N G k len r pf pm cd P a ps sl sv sd wy pa 59 hG (by omega) hcd hlen (show P.1 ≤ len by omega) (by decide) (by decide)) (cwV 1 C.2.2.2.2.1 gX7_fault_X7_takeSign rfl rfl rfl hd_X7_takeSign ⟨Nat.le_of_ble_eq_true rfl, Nat.le_of_ble_eq_true rfl⟩) (by omega) hG.ob rfl rfl rfl (Nat.le_of_ble_eq_true rfl) dX7_fault_40 ⟨Nat.le_of_ble_eq_true rfl, Nat.le_of_ble_eq_true rfl⟩ (fun F_40 h_40 => ?_)
  obtain ⟨P_40, eP_40, hM_40, hle_40, fr_40⟩ := h_40
  refine x_aload_n C (pc := 43) 0 dX7_fault_43 rfl ?_
  refine x_get C (pc := 44) (q := k) (v := .int (bz P_40.2.1)) (ci := 7) rfl hn_X7_fault_X7 11 (by decide) fl_X7_fault_193 rfl (by omega) hM_40.ob rfl dX7_fault_44 ?_
  refine x_bz_ne C (pc := 47) (tgt := 19) dX7_fault_47 (by decide) (fun c_47 => ?_) (fun c_47 => ?_)
  · exact x_sub [0] _ rfl (ih_19 (f - 1) r P_40 F_40 ⟨(by omega), hM_40, (gFr.t2 hfr fr_40), (fun q => by rw [c_47] at q; cases q), (fun q => by rw [c_47] at q; cases q), (by omega), (by rw [fF_stop (Or.inl c_47), ← hff, show f = f - 1 + 1 by omega, fF, if_neg hnst, ← eP_40, if_pos c_47])⟩ (by omega))
  have hgs := fS_ge (cd := cd) (len := len) (c := 59) (P := P)
  rw [← eP_40] at hgs
  have hgs2 := hgs.2 c_47
  have hr20 : r ≤ 20 := by omega
  refine x_aload_n C (pc := 50) 0 dX7_fault_50 rfl ?_
  refine x_cVvE C (pc := 51) (st := []) (c_X7_takePile l D z cI cZ cP cR N F_40 k len r pf pm cd P_40 a ps sl sv sd wy pa  hM_40 (by omega) hcd hlen (show P_40.1 ≤ len by omega) hr20) (cwV 0 C.2.2.2.2.1 gX7_fault_X7_takePile rfl rfl rfl hd_X7_takePile ⟨Nat.le_of_ble_eq_true rfl, Nat.le_of_ble_eq_true rfl⟩) (by omega) hM_40.ob rfl rfl rfl (Nat.le_of_ble_eq_true rfl) dX7_fault_51 ⟨Nat.le_of_ble_eq_true rfl, Nat.le_of_ble_eq_true rfl⟩ (fun F_51 h_51 => ?_)
  obtain ⟨P_51, eP_51, hM_51, hle_51, fr_51⟩ := h_51
  have hgp := fP_ge (cd := cd) (len := len) (r := r) (P := P_40)
  rw [← eP_51] at hgp
  refine x_goto C (pc := 54) (tgt := 19) dX7_fault_54 (by decide) ?_
  exact x_sub [0] _ rfl (ih_19 (f - 1) (rdN r P_51) P_51 F_51 ⟨(by omega), hM_51, (gFr.t2 (gFr.t2 hfr fr_40) fr_51), (fun q => by have h8 := hgp.2 q; unfold rdN; rw [if_neg (by rw [q]; decide)]; have := hq c_23; have := hgs.2 c_47; omega), (fun q => by have h8 := hgp.2 q; have := hfu c_23; have := hgs.2 c_47; omega), (by unfold rdN; split <;> omega), (by rw [← hff, show f = f - 1 + 1 by omega, fF, if_neg hnst, ← eP_40, if_neg (by rw [c_47]; decide), ← eP_51]; rfl)⟩ (by omega))
