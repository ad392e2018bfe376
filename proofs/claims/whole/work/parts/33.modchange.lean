theorem kp_lt (kf : Bool) {f0 hm : Nat} (h1 : f0 < 6) (h2 : hm ≤ 6) : kpF kf f0 hm < 6 ∧ kpM kf hm ≤ 6 := by
  unfold kpF kpM
  constructor
  · split
    · omega
    · omega
  · split
    · split <;> omega
    · omega
theorem fl_X7_keep_13 : Cond.fieldLink RX7 13 "PileRecountModel" "past" "[I" ∈ wsX7_keep := by decide +kernel
theorem fl_X7_keep_47 : Cond.fieldLink RX7 47 "PileRecountModel" "pastMany" "I" ∈ wsX7_keep := by decide +kernel
theorem fl_X7_keep_51 : Cond.fieldLink RX7 51 "PileRecountModel" "pastFirst" "I" ∈ wsX7_keep := by decide +kernel
theorem fl_X7_keep_7 : Cond.fieldLink RX7 7 "PileRecountModel" "at" "[I" ∈ wsX7_keep := by decide +kernel
theorem hn_X7_keep_X7 : ∀ w ∈ wsX70, w ∈ wsX7_keep := fun _ h => List.mem_cons_of_mem _ (List.mem_append_right _ h)
set_option maxHeartbeats 4000000 in
set_option maxRecDepth 100000 in
theorem c_X7_keep (l : Launch) (D : va_G) (z : Nat) (cI cZ cP cR : ClassId) (N : Nat) (F : Nat → va_E) (k f0 hm : Nat) (pn spt wrg rd : Int32) (a ps sl sv sd wy pa nu : Nat → Int32) (hM : isMod z cI cZ F k (nI f0) (nI hm) pn spt wrg rd a ps sl sv sd wy pa nu) (hk : k + 9 ≤ N) (hf0 : f0 < 6) (hm6 : hm ≤ 6) : gMv l yX7_keep wsX7_keep ({ frames := 0, cells := 0, slots := 0, locals := 0 }) D z cI cZ cP cR N F [.ref (z + k)] (gVoid N (fun F2 => isMod z cI cZ F2 k (nI (kpF true f0 hm)) (nI (kpM true hm)) pn spt wrg rd a (kpP true ps f0 hm a) sl sv sd wy pa nu ∧ gFr k (k + 9) F F2)) 0 0 := by
  refine gMv.of (cc := cX7_keep) (maxL := 3) (ret := none) (by decide) rfl (Nat.le_of_ble_eq_true rfl) [(0, .ref (z + k))] rfl ?_
  intro pg ev sg mg bel me cg C hR0
  refine x_aload_n C (pc := 0) 0 dX7_keep_0 rfl ?_
  refine x_get C (pc := 1) (q := k) (v := .int (nI hm)) (ci := 7) rfl hn_X7_keep_X7 3 (by decide) fl_X7_keep_47 rfl (by omega) hM.ob rfl dX7_keep_1 ?_
  refine x_bipush C (pc := 4) (v := 6) dX7_keep_4 (by decide) ?_
  refine x_icmpN_ne C (a := hm) (b := 6) (pc := 6) (tgt := 32) (by omega) (by omega) dX7_keep_6 (by decide) (fun c_6 => ?_) (fun c_6 => ?_)
  · refine x_aload_n C (pc := 32) 0 dX7_keep_32 rfl ?_
    refine x_get C (pc := 33) (q := k) (v := .int (nI f0)) (ci := 7) rfl hn_X7_keep_X7 2 (by decide) fl_X7_keep_51 rfl (by omega) hM.ob rfl dX7_keep_33 ?_
    refine x_aload_n C (pc := 36) 0 dX7_keep_36 rfl ?_
    refine x_get C (pc := 37) (q := k) (v := .int (nI hm)) (ci := 7) rfl hn_X7_keep_X7 3 (by decide) fl_X7_keep_47 rfl (by omega) hM.ob rfl dX7_keep_37 ?_
    refine x_iadd C (pc := 40) (v := nI (f0 + hm)) dX7_keep_40 (nI_add f0 hm) ?_
    refine x_bipush C (pc := 41) (v := 6) dX7_keep_41 (by decide) ?_
    refine x_irem C (pc := 43) (v := nI ((f0 + hm) % 6)) dX7_keep_43 (by decide) (pk_rem (by omega) (by decide) (by decide)) ?_
    refine x_istore_n C (pc := 44) [(1, .int (nI ((f0 + hm) % 6))), (0, .ref (z + k))] dX7_keep_44 (by decide) rfl ?_
    refine x_iconst C (pc := 45) (v := 0) dX7_keep_45 (by decide) ?_
    refine x_istore_n C (pc := 46) [(2, .int 0), (1, .int (nI ((f0 + hm) % 6))), (0, .ref (z + k))] dX7_keep_46 (by decide) rfl ?_
    refine x_sub [2, 1, 0] _ rfl ?_
    refine x_loop2 (A1 := Nat) (A2 := Nat → va_E) (pc := 47) (st := []) (fun i G => 65 - i) (fun i G => (i ≤ 65) ∧ (isMod z cI cZ G k (nI f0) (nI hm) pn spt wrg rd a (blkA ps ((f0 + hm) % 6) a i) sl sv sd wy pa nu) ∧ (gFr k (k + 9) F G)) (fun i G => N) (fun i G => G) (fun i G => 0) (fun i G => 0) (fun i G => [(0, .ref (z + k)), (1, .int (nI ((f0 + hm) % 6))), (2, .int (nI i))]) 0 F ⟨(Nat.zero_le _), (by rw [blkA_0]; exact hM), gFr.rf⟩ rfl rfl rfl rfl rfl ?_
    rintro i G ⟨hi, hG, hfr⟩ ih_47
    try dsimp only at ih_47
    refine x_iload_n C (pc := 47) 2 dX7_keep_47 rfl ?_
    refine x_bipush C (pc := 48) (v := 65) dX7_keep_48 (by decide) ?_
    refine x_icmpN_ge C (a := i) (b := 65) (pc := 50) (tgt := 76) (by omega) (by omega) dX7_keep_50 (by decide) (fun c_50 => ?_) (fun c_50 => ?_)
    · refine x_aload_n C (pc := 76) 0 dX7_keep_76 rfl ?_
      refine x_dup C (pc := 77) dX7_keep_77 rfl ?_
      refine x_get C (pc := 78) (q := k) (v := .int (nI hm)) (ci := 7) rfl hn_X7_keep_X7 3 (by decide) fl_X7_keep_47 rfl (by omega) hG.ob rfl dX7_keep_78 ?_
      refine x_iconst C (pc := 81) (v := 1) dX7_keep_81 (by decide) ?_
      refine x_iadd C (pc := 82) (v := nI (hm + 1)) dX7_keep_82 (nI_add hm 1) ?_
      refine xw_X7_3 C (pc := 83) hn_X7_keep_X7 fl_X7_keep_47 hG (by omega) dX7_keep_83 (fun F_83 hG_83 fr_83 => ?_)
      exact x_vret C hR0 (Nat.le_of_ble_eq_true rfl) (Nat.le_of_ble_eq_true rfl) ⟨rfl, (by rw [(kp_tn (f0 := f0) (ps := ps) (a := a) (hm := hm) (by omega)).1, (kp_tn (f0 := f0) (ps := ps) (a := a) (hm := hm) (by omega)).2.1, (kp_tn (ps := ps) (a := a) (hm := hm) (by omega)).2.2]; have h9 := hG_83; rw [show i = 65 by omega] at h9; exact ⟨h9, (gFr.t2 hfr fr_83)⟩)⟩ dX7_keep_86
    refine x_aload_n C (pc := 53) 0 dX7_keep_53 rfl ?_
    refine x_get C (pc := 54) (q := k) (v := .ref (z + (k + 2))) (ci := 7) rfl hn_X7_keep_X7 1 (by decide) fl_X7_keep_13 rfl (by omega) hG.ob rfl dX7_keep_54 ?_
    refine x_bipush C (pc := 57) (v := 65) dX7_keep_57 (by decide) ?_
    refine x_iload_n C (pc := 59) 1 dX7_keep_59 rfl ?_
    refine x_imul C (pc := 60) (v := nI (65 * ((f0 + hm) % 6))) dX7_keep_60 (pk_mul 65 ((f0 + hm) % 6)) ?_
    refine x_iload_n C (pc := 61) 2 dX7_keep_61 rfl ?_
    refine x_iadd C (pc := 62) (v := nI (65 * ((f0 + hm) % 6) + i)) dX7_keep_62 (nI_add (65 * ((f0 + hm) % 6)) i) ?_
    refine x_aload_n C (pc := 63) 0 dX7_keep_63 rfl ?_
    refine x_get C (pc := 64) (q := k) (v := .ref (z + (k + 1))) (ci := 7) rfl hn_X7_keep_X7 0 (by decide) fl_X7_keep_7 rfl (by omega) hG.ob rfl dX7_keep_64 ?_
    refine x_iload_n C (pc := 67) 2 dX7_keep_67 rfl ?_
    refine x_ialdE C (pc := 68) (q := k + 1) (j := i) (f := a) (by omega) hG.a rfl (by omega) (by decide) dX7_keep_68 ?_
    refine xw_isMod_ps C (pc := 69) (j := 65 * ((f0 + hm) % 6) + i) hG (by omega) rfl (by omega) dX7_keep_69 (fun F_69 hG_69 fr_69 => ?_)
    refine x_iinc C (pc := 70) 2 [(2, .int (nI (i + 1))), (0, .ref (z + k)), (1, .int (nI ((f0 + hm) % 6)))] dX7_keep_70 rfl (nI_inc i) (by decide) rfl ?_
    refine x_goto C (pc := 73) (tgt := 47) dX7_keep_73 (by decide) ?_
    exact x_sub [1, 2, 0] _ rfl (ih_47 (i + 1) F_69 ⟨(by omega), (by rw [← blkA_up]; exact hG_69), (gFr.t2 hfr fr_69)⟩ (by omega))
  refine x_aload_n C (pc := 9) 0 dX7_keep_9 rfl ?_
  refine x_aload_n C (pc := 10) 0 dX7_keep_10 rfl ?_
  refine x_get C (pc := 11) (q := k) (v := .int (nI f0)) (ci := 7) rfl hn_X7_keep_X7 2 (by decide) fl_X7_keep_51 rfl (by omega) hM.ob rfl dX7_keep_11 ?_
  refine x_iconst C (pc := 14) (v := 1) dX7_keep_14 (by decide) ?_
  refine x_iadd C (pc := 15) (v := nI (f0 + 1)) dX7_keep_15 (nI_add f0 1) ?_
  refine x_bipush C (pc := 16) (v := 6) dX7_keep_16 (by decide) ?_
  refine x_irem C (pc := 18) (v := nI ((f0 + 1) % 6)) dX7_keep_18 (by decide) (pk_rem (by omega) (by decide) (by decide)) ?_
  refine xw_X7_2 C (pc := 19) hn_X7_keep_X7 fl_X7_keep_51 hM (by omega) dX7_keep_19 (fun F_19 hM_19 fr_19 => ?_)
  refine x_aload_n C (pc := 22) 0 dX7_keep_22 rfl ?_
  refine x_dup C (pc := 23) dX7_keep_23 rfl ?_
  refine x_get C (pc := 24) (q := k) (v := .int (nI hm)) (ci := 7) rfl hn_X7_keep_X7 3 (by decide) fl_X7_keep_47 rfl (by omega) hM_19.ob rfl dX7_keep_24 ?_
  refine x_iconst C (pc := 27) (v := 1) dX7_keep_27 (by decide) ?_
  refine x_isub C (pc := 28) (v := nI (hm - 1)) dX7_keep_28 (pk_sub (a := hm) (b := 1) (by omega)) ?_
  refine xw_X7_3 C (pc := 29) hn_X7_keep_X7 fl_X7_keep_47 hM_19 (by omega) dX7_keep_29 (fun F_29 hM_29 fr_29 => ?_)
  refine x_aload_n C (pc := 32) 0 dX7_keep_32 rfl ?_
  refine x_get C (pc := 33) (q := k) (v := .int (nI ((f0 + 1) % 6))) (ci := 7) rfl hn_X7_keep_X7 2 (by decide) fl_X7_keep_51 rfl (by omega) hM_29.ob rfl dX7_keep_33 ?_
  refine x_aload_n C (pc := 36) 0 dX7_keep_36 rfl ?_
  refine x_get C (pc := 37) (q := k) (v := .int (nI (hm - 1))) (ci := 7) rfl hn_X7_keep_X7 3 (by decide) fl_X7_keep_47 rfl (by omega) hM_29.ob rfl dX7_keep_37 ?_
  refine x_iadd C (pc := 40) (v := nI ((f0 + 1) % 6 + (hm - 1))) dX7_keep_40 (nI_add ((f0 + 1) % 6) (hm - 1)) ?_
  refine x_bipush C (pc := 41) (v := 6) dX7_keep_41 (by decide) ?_
  refine x_irem C (pc := 43) (v := nI (((f0 + 1) % 6 + (hm - 1)) % 6)) dX7_keep_43 (by decide) (pk_rem (by omega) (by decide) (by decide)) ?_
  refine x_istore_n C (pc := 44) [(1, .int (nI (((f0 + 1) % 6 + (hm - 1)) % 6))), (0, .ref (z + k))] dX7_keep_44 (by decide) rfl ?_
  refine x_iconst C (pc := 45) (v := 0) dX7_keep_45 (by decide) ?_
  refine x_istore_n C (pc := 46) [(2, .int 0), (1, .int (nI (((f0 + 1) % 6 + (hm - 1)) % 6))), (0, .ref (z + k))] dX7_keep_46 (by decide) rfl ?_
  refine x_sub [2, 1, 0] _ rfl ?_
  refine x_loop2 (A1 := Nat) (A2 := Nat → va_E) (pc := 47) (st := []) (fun i G => 65 - i) (fun i G => (i ≤ 65) ∧ (isMod z cI cZ G k (nI ((f0 + 1) % 6)) (nI (hm - 1)) pn spt wrg rd a (blkA ps (((f0 + 1) % 6 + (hm - 1)) % 6) a i) sl sv sd wy pa nu) ∧ (gFr k (k + 9) F G)) (fun i G => N) (fun i G => G) (fun i G => 0) (fun i G => 0) (fun i G => [(0, .ref (z + k)), (1, .int (nI (((f0 + 1) % 6 + (hm - 1)) % 6))), (2, .int (nI i))]) 0 F_29 ⟨(Nat.zero_le _), (by rw [blkA_0]; exact hM_29), (gFr.t2 fr_19 fr_29)⟩ rfl rfl rfl rfl rfl ?_
  rintro i G ⟨hi, hG, hfr⟩ ih_47
  try dsimp only at ih_47
  refine x_iload_n C (pc := 47) 2 dX7_keep_47 rfl ?_
  refine x_bipush C (pc := 48) (v := 65) dX7_keep_48 (by decide) ?_
  refine x_icmpN_ge C (a := i) (b := 65) (pc := 50) (tgt := 76) (by omega) (by omega) dX7_keep_50 (by decide) (fun c_50 => ?_) (fun c_50 => ?_)
  · refine x_aload_n C (pc := 76) 0 dX7_keep_76 rfl ?_
    refine x_dup C (pc := 77) dX7_keep_77 rfl ?_
    refine x_get C (pc := 78) (q := k) (v := .int (nI (hm - 1))) (ci := 7) rfl hn_X7_keep_X7 3 (by decide) fl_X7_keep_47 rfl (by omega) hG.ob rfl dX7_keep_78 ?_
    refine x_iconst C (pc := 81) (v := 1) dX7_keep_81 (by decide) ?_
    refine x_iadd C (pc := 82) (v := nI (hm - 1 + 1)) dX7_keep_82 (nI_add (hm - 1) 1) ?_
    refine xw_X7_3 C (pc := 83) hn_X7_keep_X7 fl_X7_keep_47 hG (by omega) dX7_keep_83 (fun F_83 hG_83 fr_83 => ?_)
    exact x_vret C hR0 (Nat.le_of_ble_eq_true rfl) (Nat.le_of_ble_eq_true rfl) ⟨rfl, (by rw [c_6, (kp_t6 (ps := ps) (a := a)).1, (kp_t6 (f0 := f0) (ps := ps) (a := a)).2.1, (kp_t6 (ps := ps) (a := a)).2.2]; have h9 := hG_83; rw [c_6, show i = 65 by omega] at h9; exact ⟨h9, (gFr.t2 hfr fr_83)⟩)⟩ dX7_keep_86
  refine x_aload_n C (pc := 53) 0 dX7_keep_53 rfl ?_
  refine x_get C (pc := 54) (q := k) (v := .ref (z + (k + 2))) (ci := 7) rfl hn_X7_keep_X7 1 (by decide) fl_X7_keep_13 rfl (by omega) hG.ob rfl dX7_keep_54 ?_
  refine x_bipush C (pc := 57) (v := 65) dX7_keep_57 (by decide) ?_
  refine x_iload_n C (pc := 59) 1 dX7_keep_59 rfl ?_
  refine x_imul C (pc := 60) (v := nI (65 * (((f0 + 1) % 6 + (hm - 1)) % 6))) dX7_keep_60 (pk_mul 65 (((f0 + 1) % 6 + (hm - 1)) % 6)) ?_
  refine x_iload_n C (pc := 61) 2 dX7_keep_61 rfl ?_
  refine x_iadd C (pc := 62) (v := nI (65 * (((f0 + 1) % 6 + (hm - 1)) % 6) + i)) dX7_keep_62 (nI_add (65 * (((f0 + 1) % 6 + (hm - 1)) % 6)) i) ?_
  refine x_aload_n C (pc := 63) 0 dX7_keep_63 rfl ?_
  refine x_get C (pc := 64) (q := k) (v := .ref (z + (k + 1))) (ci := 7) rfl hn_X7_keep_X7 0 (by decide) fl_X7_keep_7 rfl (by omega) hG.ob rfl dX7_keep_64 ?_
  refine x_iload_n C (pc := 67) 2 dX7_keep_67 rfl ?_
  refine x_ialdE C (pc := 68) (q := k + 1) (j := i) (f := a) (by omega) hG.a rfl (by omega) (by decide) dX7_keep_68 ?_
  refine xw_isMod_ps C (pc := 69) (j := 65 * (((f0 + 1) % 6 + (hm - 1)) % 6) + i) hG (by omega) rfl (by omega) dX7_keep_69 (fun F_69 hG_69 fr_69 => ?_)
  refine x_iinc C (pc := 70) 2 [(2, .int (nI (i + 1))), (0, .ref (z + k)), (1, .int (nI (((f0 + 1) % 6 + (hm - 1)) % 6)))] dX7_keep_70 rfl (nI_inc i) (by decide) rfl ?_
  refine x_goto C (pc := 73) (tgt := 47) dX7_keep_73 (by decide) ?_
  exact x_sub [1, 2, 0] _ rfl (ih_47 (i + 1) F_69 ⟨(by omega), (by rw [← blkA_up]; exact hG_69), (gFr.t2 hfr fr_69)⟩ (by omega))
set_option maxHeartbeats 4000000 in
set_option maxRecDepth 100000 in
theorem c_X7_keepIf (l : Launch) (D : va_G) (z : Nat) (cI cZ cP cR : ClassId) (N : Nat) (F : Nat → va_E) (k f0 hm : Nat) (pn spt wrg rd : Int32) (a ps sl sv sd wy pa nu : Nat → Int32) (kf : Bool) (hM : isMod z cI cZ F k (nI f0) (nI hm) pn spt wrg rd a ps sl sv sd wy pa nu) (hk : k + 9 ≤ N) (hf0 : f0 < 6) (hm6 : hm ≤ 6) : gMv l yX7_keepIf wsX7_keepIf ({ frames := 1, cells := 0, slots := 0, locals := 22 }) D z cI cZ cP cR N F [.ref (z + k), .int (bz kf)] (gVoid N (fun F2 => isMod z cI cZ F2 k (nI (kpF kf f0 hm)) (nI (kpM kf hm)) pn spt wrg rd a (kpP kf ps f0 hm a) sl sv sd wy pa nu ∧ gFr k (k + 9) F F2)) 0 0 := by
  refine gMv.of (cc := cX7_keepIf) (maxL := 2) (ret := none) (by decide) rfl (Nat.le_of_ble_eq_true rfl) [(0, .ref (z + k)), (1, .int (bz kf))] rfl ?_
  intro pg ev sg mg bel me cg C hR0
  refine x_iload_n C (pc := 0) 1 dX7_keepIf_0 rfl ?_
  refine x_bz_eq C (pc := 1) (tgt := 8) dX7_keepIf_1 (by decide) (fun c_1 => ?_) (fun c_1 => ?_)
  · exact x_vret C hR0 (Nat.le_of_ble_eq_true rfl) (Nat.le_of_ble_eq_true rfl) ⟨rfl, (by rw [(kp_f (f0 := f0) (hm := hm) (ps := ps) (a := a) c_1).1, (kp_f (f0 := f0) (ps := ps) (a := a) c_1).2.1, (kp_f (ps := ps) (a := a) c_1).2.2]; exact ⟨hM, gFr.rf⟩)⟩ dX7_keepIf_8
  refine x_aload_n C (pc := 4) 0 dX7_keepIf_4 rfl ?_
  refine x_cVvE C (pc := 5) (st := []) (c_X7_keep l D z cI cZ cP cR N F k f0 hm pn spt wrg rd a ps sl sv sd wy pa nu   hM (by omega) (by omega) (by omega)  ) (cwV 0 C.2.2.2.2.1 gX7_keepIf_X7_keep rfl rfl rfl hd_X7_keep ⟨Nat.le_of_ble_eq_true rfl, Nat.le_of_ble_eq_true rfl⟩) (by omega) hM.ob rfl rfl rfl (Nat.le_of_ble_eq_true rfl) dX7_keepIf_5 ⟨Nat.le_of_ble_eq_true rfl, Nat.le_of_ble_eq_true rfl⟩ (fun F_5 h_5 => ?_)
  obtain ⟨hM_5, fr_5⟩ := h_5
  have kp_5 := kp_lt true (f0 := f0) (hm := hm) (by omega) (by omega)
  exact x_vret C hR0 (Nat.le_of_ble_eq_true rfl) (Nat.le_of_ble_eq_true rfl) ⟨rfl, (by rw [c_1]; exact ⟨hM_5, fr_5⟩)⟩ dX7_keepIf_8
def cpA (f g : Nat → Int32) (i : Nat) : Nat → Int32 := fun x => if x < i then g x else f x
theorem cpA_0 {f g : Nat → Int32} : cpA f g 0 = f := by
  funext x
  rw [cpA, if_neg (Nat.not_lt_zero x)]
theorem cpA_up {f g : Nat → Int32} {i : Nat} : upd (cpA f g i) i (g i) = cpA f g (i + 1) := by
  funext x
  by_cases e : x = i
  · subst e; rw [pk_us, cpA, if_pos (Nat.lt_succ_self x)]
  · rw [pk_un e, cpA, cpA]
    by_cases h : x < i
    · rw [if_pos h, if_pos (by omega)]
    · rw [if_neg h, if_neg (by omega)]
theorem cpA_lt {f g : Nat → Int32} {i x : Nat} (h : x < i) : cpA f g i x = g x := if_pos h
theorem fl_X7_layAside_23 : Cond.fieldLink RX7 23 "PileRecountModel" "aside" "[I" ∈ wsX7_layAside := by decide +kernel
theorem fl_X7_layAside_7 : Cond.fieldLink RX7 7 "PileRecountModel" "at" "[I" ∈ wsX7_layAside := by decide +kernel
theorem hn_X7_layAside_X7 : ∀ w ∈ wsX70, w ∈ wsX7_layAside := fun _ h => List.mem_cons_of_mem _ (List.mem_append_right _ h)
set_option maxHeartbeats 4000000 in
set_option maxRecDepth 100000 in
theorem c_X7_layAside (l : Launch) (D : va_G) (z : Nat) (cI cZ cP cR : ClassId) (N : Nat) (F : Nat → va_E) (k : Nat) (pf pm pn spt wrg rd : Int32) (a ps sl sv sd wy pa nu : Nat → Int32) (hM : isMod z cI cZ F k pf pm pn spt wrg rd a ps sl sv sd wy pa nu) (hk : k + 9 ≤ N) : gMv l yX7_layAside wsX7_layAside ({ frames := 0, cells := 0, slots := 0, locals := 0 }) D z cI cZ cP cR N F [.ref (z + k)] (gVoid N (fun F2 => isMod z cI cZ F2 k pf pm pn spt wrg rd a ps sl sv (cpA sd a 65) wy pa nu ∧ gFr k (k + 9) F F2)) 0 0 := by
  refine gMv.of (cc := cX7_layAside) (maxL := 2) (ret := none) (by decide) rfl (Nat.le_of_ble_eq_true rfl) [(0, .ref (z + k))] rfl ?_
  intro pg ev sg mg bel me cg C hR0
  refine x_iconst C (pc := 0) (v := 0) dX7_layAside_0 (by decide) ?_
  refine x_istore_n C (pc := 1) [(1, .int 0), (0, .ref (z + k))] dX7_layAside_1 (by decide) rfl ?_
  refine x_sub [1, 0] _ rfl ?_
  refine x_loop2 (A1 := Nat) (A2 := Nat → va_E) (pc := 2) (st := []) (fun i G => 65 - i) (fun i G => (i ≤ 65) ∧ (isMod z cI cZ G k pf pm pn spt wrg rd a ps sl sv (cpA sd a i) wy pa nu) ∧ (gFr k (k + 9) F G)) (fun i G => N) (fun i G => G) (fun i G => 0) (fun i G => 0) (fun i G => [(0, .ref (z + k)), (1, .int (nI i))]) 0 F ⟨(Nat.zero_le _), (by rw [cpA_0]; exact hM), gFr.rf⟩ rfl rfl rfl rfl rfl ?_
  rintro i G ⟨hi, hG, hfr⟩ ih_2
  try dsimp only at ih_2
  refine x_iload_n C (pc := 2) 1 dX7_layAside_2 rfl ?_
  refine x_bipush C (pc := 3) (v := 65) dX7_layAside_3 (by decide) ?_
  refine x_icmpN_ge C (a := i) (b := 65) (pc := 5) (tgt := 26) (by omega) (by omega) dX7_layAside_5 (by decide) (fun c_5 => ?_) (fun c_5 => ?_)
  · exact x_vret C hR0 (Nat.le_of_ble_eq_true rfl) (Nat.le_of_ble_eq_true rfl) ⟨rfl, (by rw [← (show i = 65 by omega)]; exact ⟨hG, hfr⟩)⟩ dX7_layAside_26
  refine x_aload_n C (pc := 8) 0 dX7_layAside_8 rfl ?_
  refine x_get C (pc := 9) (q := k) (v := .ref (z + (k + 5))) (ci := 7) rfl hn_X7_layAside_X7 6 (by decide) fl_X7_layAside_23 rfl (by omega) hG.ob rfl dX7_layAside_9 ?_
  refine x_iload_n C (pc := 12) 1 dX7_layAside_12 rfl ?_
  refine x_aload_n C (pc := 13) 0 dX7_layAside_13 rfl ?_
  refine x_get C (pc := 14) (q := k) (v := .ref (z + (k + 1))) (ci := 7) rfl hn_X7_layAside_X7 0 (by decide) fl_X7_layAside_7 rfl (by omega) hG.ob rfl dX7_layAside_14 ?_
  refine x_iload_n C (pc := 17) 1 dX7_layAside_17 rfl ?_
  refine x_ialdE C (pc := 18) (q := k + 1) (j := i) (f := a) (by omega) hG.a rfl (by omega) (by decide) dX7_layAside_18 ?_
  refine xw_isMod_sd C (pc := 19) (j := i) hG (by omega) rfl (by omega) dX7_layAside_19 (fun F_19 hG_19 fr_19 => ?_)
  refine x_iinc C (pc := 20) 1 [(1, .int (nI (i + 1))), (0, .ref (z + k))] dX7_layAside_20 rfl (nI_inc i) (by decide) rfl ?_
  refine x_goto C (pc := 23) (tgt := 2) dX7_layAside_23 (by decide) ?_
  exact x_sub [1, 0] _ rfl (ih_2 (i + 1) F_19 ⟨(by omega), (by rw [← cpA_up]; exact hG_19), (gFr.t2 hfr fr_19)⟩ (by omega))
theorem fl_X7_layBack_23 : Cond.fieldLink RX7 23 "PileRecountModel" "aside" "[I" ∈ wsX7_layBack := by decide +kernel
theorem fl_X7_layBack_7 : Cond.fieldLink RX7 7 "PileRecountModel" "at" "[I" ∈ wsX7_layBack := by decide +kernel
theorem hn_X7_layBack_X7 : ∀ w ∈ wsX70, w ∈ wsX7_layBack := fun _ h => List.mem_cons_of_mem _ (List.mem_append_right _ h)
set_option maxHeartbeats 4000000 in
set_option maxRecDepth 100000 in
theorem c_X7_layBack (l : Launch) (D : va_G) (z : Nat) (cI cZ cP cR : ClassId) (N : Nat) (F : Nat → va_E) (k : Nat) (pf pm pn spt wrg rd : Int32) (a ps sl sv sd wy pa nu : Nat → Int32) (hM : isMod z cI cZ F k pf pm pn spt wrg rd a ps sl sv sd wy pa nu) (hk : k + 9 ≤ N) : gMv l yX7_layBack wsX7_layBack ({ frames := 0, cells := 0, slots := 0, locals := 0 }) D z cI cZ cP cR N F [.ref (z + k)] (gVoid N (fun F2 => isMod z cI cZ F2 k pf pm pn spt wrg rd (cpA a sd 65) ps sl sv sd wy pa nu ∧ gFr k (k + 9) F F2)) 0 0 := by
  refine gMv.of (cc := cX7_layBack) (maxL := 2) (ret := none) (by decide) rfl (Nat.le_of_ble_eq_true rfl) [(0, .ref (z + k))] rfl ?_
  intro pg ev sg mg bel me cg C hR0
  refine x_iconst C (pc := 0) (v := 0) dX7_layBack_0 (by decide) ?_
  refine x_istore_n C (pc := 1) [(1, .int 0), (0, .ref (z + k))] dX7_layBack_1 (by decide) rfl ?_
  refine x_sub [1, 0] _ rfl ?_
  refine x_loop2 (A1 := Nat) (A2 := Nat → va_E) (pc := 2) (st := []) (fun i G => 65 - i) (fun i G => (i ≤ 65) ∧ (isMod z cI cZ G k pf pm pn spt wrg rd (cpA a sd i) ps sl sv sd wy pa nu) ∧ (gFr k (k + 9) F G)) (fun i G => N) (fun i G => G) (fun i G => 0) (fun i G => 0) (fun i G => [(0, .ref (z + k)), (1, .int (nI i))]) 0 F ⟨(Nat.zero_le _), (by rw [cpA_0]; exact hM), gFr.rf⟩ rfl rfl rfl rfl rfl ?_
  rintro i G ⟨hi, hG, hfr⟩ ih_2
  try dsimp only at ih_2
  refine x_iload_n C (pc := 2) 1 dX7_layBack_2 rfl ?_
  refine x_bipush C (pc := 3) (v := 65) dX7_layBack_3 (by decide) ?_
  refine x_icmpN_ge C (a := i) (b := 65) (pc := 5) (tgt := 26) (by omega) (by omega) dX7_layBack_5 (by decide) (fun c_5 => ?_) (fun c_5 => ?_)
  · exact x_vret C hR0 (Nat.le_of_ble_eq_true rfl) (Nat.le_of_ble_eq_true rfl) ⟨rfl, (by rw [← (show i = 65 by omega)]; exact ⟨hG, hfr⟩)⟩ dX7_layBack_26
  refine x_aload_n C (pc := 8) 0 dX7_layBack_8 rfl ?_
  refine x_get C (pc := 9) (q := k) (v := .ref (z + (k + 1))) (ci := 7) rfl hn_X7_layBack_X7 0 (by decide) fl_X7_layBack_7 rfl (by omega) hG.ob rfl dX7_layBack_9 ?_
  refine x_iload_n C (pc := 12) 1 dX7_layBack_12 rfl ?_
  refine x_aload_n C (pc := 13) 0 dX7_layBack_13 rfl ?_
  refine x_get C (pc := 14) (q := k) (v := .ref (z + (k + 5))) (ci := 7) rfl hn_X7_layBack_X7 6 (by decide) fl_X7_layBack_23 rfl (by omega) hG.ob rfl dX7_layBack_14 ?_
  refine x_iload_n C (pc := 17) 1 dX7_layBack_17 rfl ?_
  refine x_ialdE C (pc := 18) (q := k + 5) (j := i) (f := sd) (by omega) hG.sd rfl (by omega) (by decide) dX7_layBack_18 ?_
  refine xw_isMod_a C (pc := 19) (j := i) hG (by omega) rfl (by omega) dX7_layBack_19 (fun F_19 hG_19 fr_19 => ?_)
  refine x_iinc C (pc := 20) 1 [(1, .int (nI (i + 1))), (0, .ref (z + k))] dX7_layBack_20 rfl (nI_inc i) (by decide) rfl ?_
  refine x_goto C (pc := 23) (tgt := 2) dX7_layBack_23 (by decide) ?_
  exact x_sub [1, 0] _ rfl (ih_2 (i + 1) F_19 ⟨(by omega), (by rw [← cpA_up]; exact hG_19), (gFr.t2 hfr fr_19)⟩ (by omega))
theorem fl_X7_tryPile_7 : Cond.fieldLink RX7 7 "PileRecountModel" "at" "[I" ∈ wsX7_tryPile := by decide +kernel
theorem hn_X7_tryPile_X7 : ∀ w ∈ wsX70, w ∈ wsX7_tryPile := fun _ h => List.mem_cons_of_mem _ (List.mem_append_right _ h)
set_option maxHeartbeats 4000000 in
set_option maxRecDepth 100000 in
theorem c_X7_tryPile_e (l : Launch) (D : va_G) (z : Nat) (cI cZ cP cR : ClassId) (N : Nat) (F : Nat → va_E) (k f0 hm : Nat) (pn spt wrg rd : Int32) (a ps sl sv sd wy pa nu : Nat → Int32) (n kk cw c0 : Nat) (wi rl sp : Int32) (pd : Nat → Nat → Int32) (od : Nat → Int32) (u v x : Int32) (kf : Bool) (hM : isMod z cI cZ F k (nI f0) (nI hm) pn spt wrg rd a ps sl sv sd wy pa nu) (hk : k + 9 ≤ N) (hf0 : f0 < 6) (hm6 : hm ≤ 6) (hA : mA a n kk cw c0 wi rl sp pd od) (he : ¬ epF u v x n (nI kk) = 0) : gMi l yX7_tryPile wsX7_tryPile ({ frames := 1, cells := 0, slots := 0, locals := 22 }) D z cI cZ cP cR N F [.ref (z + k), .int u, .int v, .int x, .int (bz kf)] (gRes (epF u v x n (nI kk)) N (fun F2 => F2 = F)) 0 0 := by
  refine gMi.of (cc := cX7_tryPile) (maxL := 6) (ret := (some .int)) (by decide) rfl (Nat.le_of_ble_eq_true rfl) [(0, .ref (z + k)), (1, .int u), (2, .int v), (3, .int x), (4, .int (bz kf))] rfl ?_
  intro pg ev sg mg bel me cg C hR0
  obtain ⟨ha0, ha1, ha2, ha3, ha4, hpd, hpl, hn, hkk, hcw, hcnt, hc0, hsp, hrl, hwi, hod⟩ := id hA
  have h2n := two_lt hn
  refine x_iload_n C (pc := 0) 1 dX7_tryPile_0 rfl ?_
  refine x_iconst C (pc := 1) (v := 0) dX7_tryPile_1 (by decide) ?_
  refine x_sipush C (pc := 2) (v := 200) dX7_tryPile_2 (by decide) ?_
  refine x_cSiR C (pc := 5) (st := []) (c_X7_in l D z cI cZ cP cR N F u 0 200) (va_cwS 3 C.2.2.2.2.1 gX7_tryPile_X7_in rfl rfl rfl hd_X7_in.2 ⟨Nat.le_of_ble_eq_true rfl, Nat.le_of_ble_eq_true rfl⟩) rfl rfl (Nat.le_of_ble_eq_true rfl) dX7_tryPile_5 ⟨Nat.le_of_ble_eq_true rfl, Nat.le_of_ble_eq_true rfl⟩ ?_
  refine x_bz_eq C (pc := 8) (tgt := 33) dX7_tryPile_8 (by decide) (fun c_8 => ?_) (fun c_8 => ?_)
  · refine x_bipush C (pc := 33) (v := (-2)) dX7_tryPile_33 (by decide) ?_
    exact x_iret C hR0 rfl (Nat.le_of_ble_eq_true rfl) (Nat.le_of_ble_eq_true rfl) ⟨(by unfold epF; first | (rw [c_8, c_19, c_30]; rfl) | (rw [c_8, c_19]; rfl) | (rw [c_8]; rfl)), rfl, rfl⟩ dX7_tryPile_35
  refine x_iload_n C (pc := 11) 2 dX7_tryPile_11 rfl ?_
  refine x_iconst C (pc := 12) (v := 0) dX7_tryPile_12 (by decide) ?_
  refine x_sipush C (pc := 13) (v := 200) dX7_tryPile_13 (by decide) ?_
  refine x_cSiR C (pc := 16) (st := []) (c_X7_in l D z cI cZ cP cR N F v 0 200) (va_cwS 3 C.2.2.2.2.1 gX7_tryPile_X7_in rfl rfl rfl hd_X7_in.2 ⟨Nat.le_of_ble_eq_true rfl, Nat.le_of_ble_eq_true rfl⟩) rfl rfl (Nat.le_of_ble_eq_true rfl) dX7_tryPile_16 ⟨Nat.le_of_ble_eq_true rfl, Nat.le_of_ble_eq_true rfl⟩ ?_
  refine x_bz_eq C (pc := 19) (tgt := 33) dX7_tryPile_19 (by decide) (fun c_19 => ?_) (fun c_19 => ?_)
  · refine x_bipush C (pc := 33) (v := (-2)) dX7_tryPile_33 (by decide) ?_
    exact x_iret C hR0 rfl (Nat.le_of_ble_eq_true rfl) (Nat.le_of_ble_eq_true rfl) ⟨(by unfold epF; first | (rw [c_8, c_19, c_30]; rfl) | (rw [c_8, c_19]; rfl) | (rw [c_8]; rfl)), rfl, rfl⟩ dX7_tryPile_35
  refine x_iload_n C (pc := 22) 3 dX7_tryPile_22 rfl ?_
  refine x_iconst C (pc := 23) (v := 0) dX7_tryPile_23 (by decide) ?_
  refine x_sipush C (pc := 24) (v := 200) dX7_tryPile_24 (by decide) ?_
  refine x_cSiR C (pc := 27) (st := []) (c_X7_in l D z cI cZ cP cR N F x 0 200) (va_cwS 3 C.2.2.2.2.1 gX7_tryPile_X7_in rfl rfl rfl hd_X7_in.2 ⟨Nat.le_of_ble_eq_true rfl, Nat.le_of_ble_eq_true rfl⟩) rfl rfl (Nat.le_of_ble_eq_true rfl) dX7_tryPile_27 ⟨Nat.le_of_ble_eq_true rfl, Nat.le_of_ble_eq_true rfl⟩ ?_
  refine x_bz_ne C (pc := 30) (tgt := 36) dX7_tryPile_30 (by decide) (fun c_30 => ?_) (fun c_30 => ?_)
  · refine x_aload_n C (pc := 36) 0 dX7_tryPile_36 rfl ?_
    refine x_get C (pc := 37) (q := k) (v := .ref (z + (k + 1))) (ci := 7) rfl hn_X7_tryPile_X7 0 (by decide) fl_X7_tryPile_7 rfl (by omega) hM.ob rfl dX7_tryPile_37 ?_
    refine x_iconst C (pc := 40) (v := 0) dX7_tryPile_40 (by decide) ?_
    refine x_ialdE C (pc := 41) (q := k + 1) (j := 0) (f := a) (by omega) hM.a rfl (by omega) (by decide) dX7_tryPile_41 ?_
    refine x_eqi hA.1 ?_
    refine x_bipush C (pc := 42) (v := 10) dX7_tryPile_42 (by decide) ?_
    refine x_icmpN_ne C (a := n) (b := 10) (pc := 44) (tgt := 50) (by omega) (by omega) dX7_tryPile_44 (by decide) (fun c_44 => ?_) (fun c_44 => ?_)
    · refine x_aload_n C (pc := 50) 0 dX7_tryPile_50 rfl ?_
      refine x_get C (pc := 51) (q := k) (v := .ref (z + (k + 1))) (ci := 7) rfl hn_X7_tryPile_X7 0 (by decide) fl_X7_tryPile_7 rfl (by omega) hM.ob rfl dX7_tryPile_51 ?_
      refine x_iconst C (pc := 54) (v := 4) dX7_tryPile_54 (by decide) ?_
      refine x_ialdE C (pc := 55) (q := k + 1) (j := 4) (f := a) (by omega) hM.a rfl (by omega) (by decide) dX7_tryPile_55 ?_
      refine x_eqi hA.2.2.2.2.1 ?_
      refine x_ifN_le C (a := kk) (pc := 56) (tgt := 62) (by omega) dX7_tryPile_56 (by decide) (fun c_56 => ?_) (fun c_56 => ?_)
      · exact absurd (epF_is0 c_8 c_19 c_30 (by omega) (by omega)) he
      refine x_bipush C (pc := 59) (v := (-5)) dX7_tryPile_59 (by decide) ?_
      exact x_iret C hR0 rfl (Nat.le_of_ble_eq_true rfl) (Nat.le_of_ble_eq_true rfl) ⟨(by unfold epF; rw [c_8, c_19, c_30, if_neg (by decide), if_neg (by omega), if_pos (show (0 : Int32) < nI kk from (nI_ltI (a := 0) (by decide) (by omega)).mpr (by omega))]), rfl, rfl⟩ dX7_tryPile_61
    refine x_bipush C (pc := 47) (v := (-4)) dX7_tryPile_47 (by decide) ?_
    exact x_iret C hR0 rfl (Nat.le_of_ble_eq_true rfl) (Nat.le_of_ble_eq_true rfl) ⟨(by unfold epF; rw [c_8, c_19, c_30, if_neg (by decide), if_pos (by omega)]), rfl, rfl⟩ dX7_tryPile_49
  refine x_bipush C (pc := 33) (v := (-2)) dX7_tryPile_33 (by decide) ?_
  exact x_iret C hR0 rfl (Nat.le_of_ble_eq_true rfl) (Nat.le_of_ble_eq_true rfl) ⟨(by unfold epF; first | (rw [c_8, c_19, c_30]; rfl) | (rw [c_8, c_19]; rfl) | (rw [c_8]; rfl)), rfl, rfl⟩ dX7_tryPile_35
set_option maxHeartbeats 4000000 in
set_option maxRecDepth 100000 in
theorem c_X7_tryPile_s (l : Launch) (D : va_G) (z : Nat) (cI cZ cP cR : ClassId) (N : Nat) (F : Nat → va_E) (k f0 hm : Nat) (pn spt wrg rd : Int32) (a ps sl sv sd wy pa nu : Nat → Int32) (n kk cw c0 : Nat) (wi rl sp : Int32) (pd : Nat → Nat → Int32) (od : Nat → Int32) (u v x : Int32) (kf : Bool) (hM : isMod z cI cZ F k (nI f0) (nI hm) pn spt wrg rd a ps sl sv sd wy pa nu) (hk : k + 9 ≤ N) (hf0 : f0 < 6) (hm6 : hm ≤ 6) (hA : mA a n kk cw c0 wi rl sp pd od) (he : epF u v x n (nI kk) = 0) : gMi l yX7_tryPile wsX7_tryPile ({ frames := 2, cells := 0, slots := 0, locals := 43 }) D z cI cZ cP cR N F [.ref (z + k), .int u, .int v, .int x, .int (bz kf)] (gRes (nI n) N (fun F2 => ∃ a2 : Nat → Int32, isMod z cI cZ F2 k (nI (kpF kf f0 hm)) (nI (kpM kf hm)) pn spt wrg rd a2 (kpP kf ps f0 hm a) sl sv sd wy pa nu ∧ mA a2 (n + 1) kk cw c0 (winF (va_up pd n (pileD u v x)) (n + 1)) rl sp (va_up pd n (pileD u v x)) od ∧ gFr k (k + 9) F F2)) 0 0 := by
  refine gMi.of (cc := cX7_tryPile) (maxL := 6) (ret := (some .int)) (by decide) rfl (Nat.le_of_ble_eq_true rfl) [(0, .ref (z + k)), (1, .int u), (2, .int v), (3, .int x), (4, .int (bz kf))] rfl ?_
  intro pg ev sg mg bel me cg C hR0
  obtain ⟨ha0, ha1, ha2, ha3, ha4, hpd, hpl, hn, hkk, hcw, hcnt, hc0, hsp, hrl, hwi, hod⟩ := id hA
  have h2n := two_lt hn
  obtain ⟨e1, e2, e3, hn9, hk0⟩ := epF_0 hn hkk he
  refine x_iload_n C (pc := 0) 1 dX7_tryPile_0 rfl ?_
  refine x_iconst C (pc := 1) (v := 0) dX7_tryPile_1 (by decide) ?_
  refine x_sipush C (pc := 2) (v := 200) dX7_tryPile_2 (by decide) ?_
  refine x_cSiR C (pc := 5) (st := []) (c_X7_in l D z cI cZ cP cR N F u 0 200) (va_cwS 3 C.2.2.2.2.1 gX7_tryPile_X7_in rfl rfl rfl hd_X7_in.2 ⟨Nat.le_of_ble_eq_true rfl, Nat.le_of_ble_eq_true rfl⟩) rfl rfl (Nat.le_of_ble_eq_true rfl) dX7_tryPile_5 ⟨Nat.le_of_ble_eq_true rfl, Nat.le_of_ble_eq_true rfl⟩ ?_
  refine x_bz_eq C (pc := 8) (tgt := 33) dX7_tryPile_8 (by decide) (fun c_8 => absurd c_8 (by rw [e1]; decide)) (fun c_8 => ?_)
  refine x_iload_n C (pc := 11) 2 dX7_tryPile_11 rfl ?_
  refine x_iconst C (pc := 12) (v := 0) dX7_tryPile_12 (by decide) ?_
  refine x_sipush C (pc := 13) (v := 200) dX7_tryPile_13 (by decide) ?_
  refine x_cSiR C (pc := 16) (st := []) (c_X7_in l D z cI cZ cP cR N F v 0 200) (va_cwS 3 C.2.2.2.2.1 gX7_tryPile_X7_in rfl rfl rfl hd_X7_in.2 ⟨Nat.le_of_ble_eq_true rfl, Nat.le_of_ble_eq_true rfl⟩) rfl rfl (Nat.le_of_ble_eq_true rfl) dX7_tryPile_16 ⟨Nat.le_of_ble_eq_true rfl, Nat.le_of_ble_eq_true rfl⟩ ?_
  refine x_bz_eq C (pc := 19) (tgt := 33) dX7_tryPile_19 (by decide) (fun c_19 => absurd c_19 (by rw [e2]; decide)) (fun c_19 => ?_)
  refine x_iload_n C (pc := 22) 3 dX7_tryPile_22 rfl ?_
  refine x_iconst C (pc := 23) (v := 0) dX7_tryPile_23 (by decide) ?_
  refine x_sipush C (pc := 24) (v := 200) dX7_tryPile_24 (by decide) ?_
  refine x_cSiR C (pc := 27) (st := []) (c_X7_in l D z cI cZ cP cR N F x 0 200) (va_cwS 3 C.2.2.2.2.1 gX7_tryPile_X7_in rfl rfl rfl hd_X7_in.2 ⟨Nat.le_of_ble_eq_true rfl, Nat.le_of_ble_eq_true rfl⟩) rfl rfl (Nat.le_of_ble_eq_true rfl) dX7_tryPile_27 ⟨Nat.le_of_ble_eq_true rfl, Nat.le_of_ble_eq_true rfl⟩ ?_
  refine x_bz_ne C (pc := 30) (tgt := 36) dX7_tryPile_30 (by decide) (fun c_30 => ?_) (fun c_30 => absurd c_30 (by rw [e3]; decide))
  refine x_aload_n C (pc := 36) 0 dX7_tryPile_36 rfl ?_
  refine x_get C (pc := 37) (q := k) (v := .ref (z + (k + 1))) (ci := 7) rfl hn_X7_tryPile_X7 0 (by decide) fl_X7_tryPile_7 rfl (by omega) hM.ob rfl dX7_tryPile_37 ?_
  refine x_iconst C (pc := 40) (v := 0) dX7_tryPile_40 (by decide) ?_
  refine x_ialdE C (pc := 41) (q := k + 1) (j := 0) (f := a) (by omega) hM.a rfl (by omega) (by decide) dX7_tryPile_41 ?_
  refine x_eqi hA.1 ?_
  refine x_bipush C (pc := 42) (v := 10) dX7_tryPile_42 (by decide) ?_
  refine x_icmpN_ne C (a := n) (b := 10) (pc := 44) (tgt := 50) (by omega) (by omega) dX7_tryPile_44 (by decide) (fun c_44 => ?_) (fun c_44 => absurd c_44 (by omega))
  refine x_aload_n C (pc := 50) 0 dX7_tryPile_50 rfl ?_
  refine x_get C (pc := 51) (q := k) (v := .ref (z + (k + 1))) (ci := 7) rfl hn_X7_tryPile_X7 0 (by decide) fl_X7_tryPile_7 rfl (by omega) hM.ob rfl dX7_tryPile_51 ?_
  refine x_iconst C (pc := 54) (v := 4) dX7_tryPile_54 (by decide) ?_
  refine x_ialdE C (pc := 55) (q := k + 1) (j := 4) (f := a) (by omega) hM.a rfl (by omega) (by decide) dX7_tryPile_55 ?_
  refine x_eqi hA.2.2.2.2.1 ?_
  refine x_ifN_le C (a := kk) (pc := 56) (tgt := 62) (by omega) dX7_tryPile_56 (by decide) (fun c_56 => ?_) (fun c_56 => absurd c_56 (by omega))
  refine x_aload_n C (pc := 62) 0 dX7_tryPile_62 rfl ?_
  refine x_iload C (pc := 63) 4 dX7_tryPile_63 rfl ?_
  refine x_cVvE C (pc := 65) (st := []) (c_X7_keepIf l D z cI cZ cP cR N F k f0 hm pn spt wrg rd a ps sl sv sd wy pa nu kf hM (by omega) (by omega) (by omega)) (cwV 1 C.2.2.2.2.1 gX7_tryPile_X7_keepIf rfl rfl rfl hd_X7_keepIf ⟨Nat.le_of_ble_eq_true rfl, Nat.le_of_ble_eq_true rfl⟩) (by omega) hM.ob rfl rfl rfl (Nat.le_of_ble_eq_true rfl) dX7_tryPile_65 ⟨Nat.le_of_ble_eq_true rfl, Nat.le_of_ble_eq_true rfl⟩ (fun F_65 h_65 => ?_)
  obtain ⟨hM_65, fr_65⟩ := h_65
  have kp_65 := kp_lt kf (f0 := f0) (hm := hm) (by omega) (by omega)
  refine x_iconst C (pc := 68) (v := 5) dX7_tryPile_68 (by decide) ?_
  refine x_bipush C (pc := 69) (v := 6) dX7_tryPile_69 (by decide) ?_
  refine x_aload_n C (pc := 71) 0 dX7_tryPile_71 rfl ?_
  refine x_get C (pc := 72) (q := k) (v := .ref (z + (k + 1))) (ci := 7) rfl hn_X7_tryPile_X7 0 (by decide) fl_X7_tryPile_7 rfl (by omega) hM_65.ob rfl dX7_tryPile_72 ?_
  refine x_iconst C (pc := 75) (v := 0) dX7_tryPile_75 (by decide) ?_
  refine x_ialdE C (pc := 76) (q := k + 1) (j := 0) (f := a) (by omega) hM_65.a rfl (by omega) (by decide) dX7_tryPile_76 ?_
  refine x_eqi hA.1 ?_
  refine x_imul C (pc := 77) (v := nI (6 * n)) dX7_tryPile_77 (pk_mul 6 n) ?_
  refine x_iadd C (pc := 78) (v := nI (5 + 6 * n)) dX7_tryPile_78 (nI_add 5 (6 * n)) ?_
  refine x_istore C (pc := 79) [(5, .int (nI (5 + 6 * n))), (0, .ref (z + k)), (1, .int u), (2, .int v), (3, .int x), (4, .int (bz kf))] dX7_tryPile_79 (by decide) rfl ?_
  refine x_aload_n C (pc := 81) 1 dX7_tryPile_81 rfl ?_
  refine x_get C (pc := 82) (q := k) (v := .ref (z + (k + 1))) (ci := 7) rfl hn_X7_tryPile_X7 0 (by decide) fl_X7_tryPile_7 rfl (by omega) hM_65.ob rfl dX7_tryPile_82 ?_
  refine x_iload C (pc := 85) 0 dX7_tryPile_85 rfl ?_
  refine x_iconst C (pc := 87) (v := 0) dX7_tryPile_87 (by decide) ?_
  refine x_iadd C (pc := 88) (v := nI (5 + 6 * n + 0)) dX7_tryPile_88 (nI_add (5 + 6 * n) 0) ?_
  refine x_iload_n C (pc := 89) 2 dX7_tryPile_89 rfl ?_
  refine xw_isMod_a C (pc := 90) (j := 5 + 6 * n + 0) hM_65 (by omega) rfl (by omega) dX7_tryPile_90 (fun F_90 hM_90 fr_90 => ?_)
  refine x_aload_n C (pc := 91) 1 dX7_tryPile_91 rfl ?_
  refine x_get C (pc := 92) (q := k) (v := .ref (z + (k + 1))) (ci := 7) rfl hn_X7_tryPile_X7 0 (by decide) fl_X7_tryPile_7 rfl (by omega) hM_90.ob rfl dX7_tryPile_92 ?_
  refine x_iload C (pc := 95) 0 dX7_tryPile_95 rfl ?_
  refine x_iconst C (pc := 97) (v := 1) dX7_tryPile_97 (by decide) ?_
  refine x_iadd C (pc := 98) (v := nI (5 + 6 * n + 1)) dX7_tryPile_98 (nI_add (5 + 6 * n) 1) ?_
  refine x_iload_n C (pc := 99) 3 dX7_tryPile_99 rfl ?_
  refine xw_isMod_a C (pc := 100) (j := 5 + 6 * n + 1) hM_90 (by omega) rfl (by omega) dX7_tryPile_100 (fun F_100 hM_100 fr_100 => ?_)
  refine x_aload_n C (pc := 101) 1 dX7_tryPile_101 rfl ?_
  refine x_get C (pc := 102) (q := k) (v := .ref (z + (k + 1))) (ci := 7) rfl hn_X7_tryPile_X7 0 (by decide) fl_X7_tryPile_7 rfl (by omega) hM_100.ob rfl dX7_tryPile_102 ?_
  refine x_iload C (pc := 105) 0 dX7_tryPile_105 rfl ?_
  refine x_iconst C (pc := 107) (v := 2) dX7_tryPile_107 (by decide) ?_
  refine x_iadd C (pc := 108) (v := nI (5 + 6 * n + 2)) dX7_tryPile_108 (nI_add (5 + 6 * n) 2) ?_
  refine x_iload_n C (pc := 109) 4 dX7_tryPile_109 rfl ?_
  refine xw_isMod_a C (pc := 110) (j := 5 + 6 * n + 2) hM_100 (by omega) rfl (by omega) dX7_tryPile_110 (fun F_110 hM_110 fr_110 => ?_)
  refine x_aload_n C (pc := 111) 1 dX7_tryPile_111 rfl ?_
  refine x_get C (pc := 112) (q := k) (v := .ref (z + (k + 1))) (ci := 7) rfl hn_X7_tryPile_X7 0 (by decide) fl_X7_tryPile_7 rfl (by omega) hM_110.ob rfl dX7_tryPile_112 ?_
  refine x_iload C (pc := 115) 0 dX7_tryPile_115 rfl ?_
  refine x_iconst C (pc := 117) (v := 3) dX7_tryPile_117 (by decide) ?_
  refine x_iadd C (pc := 118) (v := nI (5 + 6 * n + 3)) dX7_tryPile_118 (nI_add (5 + 6 * n) 3) ?_
  refine x_iload_n C (pc := 119) 2 dX7_tryPile_119 rfl ?_
  refine xw_isMod_a C (pc := 120) (j := 5 + 6 * n + 3) hM_110 (by omega) rfl (by omega) dX7_tryPile_120 (fun F_120 hM_120 fr_120 => ?_)
  refine x_aload_n C (pc := 121) 1 dX7_tryPile_121 rfl ?_
  refine x_get C (pc := 122) (q := k) (v := .ref (z + (k + 1))) (ci := 7) rfl hn_X7_tryPile_X7 0 (by decide) fl_X7_tryPile_7 rfl (by omega) hM_120.ob rfl dX7_tryPile_122 ?_
  refine x_iload C (pc := 125) 0 dX7_tryPile_125 rfl ?_
  refine x_iconst C (pc := 127) (v := 4) dX7_tryPile_127 (by decide) ?_
  refine x_iadd C (pc := 128) (v := nI (5 + 6 * n + 4)) dX7_tryPile_128 (nI_add (5 + 6 * n) 4) ?_
  refine x_iload_n C (pc := 129) 3 dX7_tryPile_129 rfl ?_
  refine xw_isMod_a C (pc := 130) (j := 5 + 6 * n + 4) hM_120 (by omega) rfl (by omega) dX7_tryPile_130 (fun F_130 hM_130 fr_130 => ?_)
  refine x_aload_n C (pc := 131) 1 dX7_tryPile_131 rfl ?_
  refine x_get C (pc := 132) (q := k) (v := .ref (z + (k + 1))) (ci := 7) rfl hn_X7_tryPile_X7 0 (by decide) fl_X7_tryPile_7 rfl (by omega) hM_130.ob rfl dX7_tryPile_132 ?_
  refine x_iload C (pc := 135) 0 dX7_tryPile_135 rfl ?_
  refine x_iconst C (pc := 137) (v := 5) dX7_tryPile_137 (by decide) ?_
  refine x_iadd C (pc := 138) (v := nI (5 + 6 * n + 5)) dX7_tryPile_138 (nI_add (5 + 6 * n) 5) ?_
  refine x_bipush C (pc := 139) (v := (-6)) dX7_tryPile_139 (by decide) ?_
  refine xw_isMod_a C (pc := 141) (j := 5 + 6 * n + 5) hM_130 (by omega) rfl (by omega) dX7_tryPile_141 (fun F_141 hM_141 fr_141 => ?_)
  refine x_aload_n C (pc := 142) 1 dX7_tryPile_142 rfl ?_
  refine x_get C (pc := 143) (q := k) (v := .ref (z + (k + 1))) (ci := 7) rfl hn_X7_tryPile_X7 0 (by decide) fl_X7_tryPile_7 rfl (by omega) hM_141.ob rfl dX7_tryPile_143 ?_
  refine x_iconst C (pc := 146) (v := 0) dX7_tryPile_146 (by decide) ?_
  refine x_dup2 C (pc := 147) dX7_tryPile_147 rfl rfl ?_
  refine x_ialdE C (pc := 148) (q := k + 1) (j := 0) (f := upd (upd (upd (upd (upd (upd a (5 + 6 * n + 0) u) (5 + 6 * n + 1) v) (5 + 6 * n + 2) x) (5 + 6 * n + 3) u) (5 + 6 * n + 4) v) (5 + 6 * n + 5) (-6)) (by omega) hM_141.a rfl (by decide) (by decide) dX7_tryPile_148 ?_
  refine x_eqi (show _ = nI n by rw [pk_un (by omega), pk_un (by omega), pk_un (by omega), pk_un (by omega), pk_un (by omega), pk_un (by omega)]; exact ha0) ?_
  refine x_iconst C (pc := 149) (v := 1) dX7_tryPile_149 (by decide) ?_
  refine x_iadd C (pc := 150) (v := nI (n + 1)) dX7_tryPile_150 (nI_add n 1) ?_
  refine xw_isMod_a C (pc := 151) (j := 0) hM_141 (by omega) rfl (by omega) dX7_tryPile_151 (fun F_151 hM_151 fr_151 => ?_)
  refine x_aload_n C (pc := 152) 1 dX7_tryPile_152 rfl ?_
  refine x_get C (pc := 153) (q := k) (v := .ref (z + (k + 1))) (ci := 7) rfl hn_X7_tryPile_X7 0 (by decide) fl_X7_tryPile_7 rfl (by omega) hM_151.ob rfl dX7_tryPile_153 ?_
  refine x_iconst C (pc := 156) (v := 0) dX7_tryPile_156 (by decide) ?_
  refine x_ialdE C (pc := 157) (q := k + 1) (j := 0) (f := upd (upd (upd (upd (upd (upd (upd a (5 + 6 * n + 0) u) (5 + 6 * n + 1) v) (5 + 6 * n + 2) x) (5 + 6 * n + 3) u) (5 + 6 * n + 4) v) (5 + 6 * n + 5) (-6)) 0 (nI (n + 1))) (by omega) hM_151.a rfl (by omega) (by decide) dX7_tryPile_157 ?_
  refine x_eqi pk_us ?_
  refine x_iconst C (pc := 158) (v := 1) dX7_tryPile_158 (by decide) ?_
  refine x_isub C (pc := 159) (v := nI n) dX7_tryPile_159 (pk_sub (a := n + 1) (b := 1) (by omega)) ?_
  exact x_iret C hR0 rfl (Nat.le_of_ble_eq_true rfl) (Nat.le_of_ble_eq_true rfl) ⟨rfl, rfl, ⟨_, hM_151, mA_pile hA hn9 hk0 u v x, (gFr.t2 (gFr.t2 (gFr.t2 (gFr.t2 (gFr.t2 (gFr.t2 (gFr.t2 fr_65 fr_90) fr_100) fr_110) fr_120) fr_130) fr_141) fr_151)⟩⟩ dX7_tryPile_160
set_option maxHeartbeats 4000000 in
set_option maxRecDepth 100000 in
theorem c_X7_pile_e (l : Launch) (D : va_G) (z : Nat) (cI cZ cP cR : ClassId) (N : Nat) (F : Nat → va_E) (k f0 hm : Nat) (pn spt wrg rd : Int32) (a ps sl sv sd wy pa nu : Nat → Int32) (n kk cw c0 : Nat) (wi rl sp : Int32) (pd : Nat → Nat → Int32) (od : Nat → Int32) (u v x : Int32) (hM : isMod z cI cZ F k (nI f0) (nI hm) pn spt wrg rd a ps sl sv sd wy pa nu) (hk : k + 9 ≤ N) (hf0 : f0 < 6) (hm6 : hm ≤ 6) (hA : mA a n kk cw c0 wi rl sp pd od) (he : ¬ epF u v x n (nI kk) = 0) : gMi l yX7_pile wsX7_pile ({ frames := 2, cells := 0, slots := 0, locals := 47 }) D z cI cZ cP cR N F [.ref (z + k), .int u, .int v, .int x] (gRes (epF u v x n (nI kk)) N (fun F2 => F2 = F)) 0 0 := by
  refine gMi.of (cc := cX7_pile) (maxL := 4) (ret := (some .int)) (by decide) rfl (Nat.le_of_ble_eq_true rfl) [(0, .ref (z + k)), (1, .int u), (2, .int v), (3, .int x)] rfl ?_
  intro pg ev sg mg bel me cg C hR0
  obtain ⟨ha0, ha1, ha2, ha3, ha4, hpd, hpl, hn, hkk, hcw, hcnt, hc0, hsp, hrl, hwi, hod⟩ := id hA
  have h2n := two_lt hn
  refine x_aload_n C (pc := 0) 0 dX7_pile_0 rfl ?_
  refine x_iload_n C (pc := 1) 1 dX7_pile_1 rfl ?_
  refine x_iload_n C (pc := 2) 2 dX7_pile_2 rfl ?_
  refine x_iload_n C (pc := 3) 3 dX7_pile_3 rfl ?_
  refine x_iconst C (pc := 4) (v := 1) dX7_pile_4 (by decide) ?_
  refine x_cViR C (pc := 5) (st := []) (c_X7_tryPile_e l D z cI cZ cP cR N F k f0 hm pn spt wrg rd a ps sl sv sd wy pa nu n kk cw c0 wi rl sp pd od u v x true hM (by omega) (by omega) (by omega) hA he) (cwV 4 C.2.2.2.2.1 gX7_pile_X7_tryPile rfl rfl rfl hd_X7_tryPile ⟨Nat.le_of_ble_eq_true rfl, Nat.le_of_ble_eq_true rfl⟩) (by omega) hM.ob rfl rfl rfl (Nat.le_of_ble_eq_true rfl) dX7_pile_5 ⟨Nat.le_of_ble_eq_true rfl, Nat.le_of_ble_eq_true rfl⟩ ?_
  exact x_iret C hR0 rfl (Nat.le_of_ble_eq_true rfl) (Nat.le_of_ble_eq_true rfl) ⟨rfl, rfl, rfl⟩ dX7_pile_8
set_option maxHeartbeats 4000000 in
set_option maxRecDepth 100000 in
theorem c_X7_pile_s (l : Launch) (D : va_G) (z : Nat) (cI cZ cP cR : ClassId) (N : Nat) (F : Nat → va_E) (k f0 hm : Nat) (pn spt wrg rd : Int32) (a ps sl sv sd wy pa nu : Nat → Int32) (n kk cw c0 : Nat) (wi rl sp : Int32) (pd : Nat → Nat → Int32) (od : Nat → Int32) (u v x : Int32) (hM : isMod z cI cZ F k (nI f0) (nI hm) pn spt wrg rd a ps sl sv sd wy pa nu) (hk : k + 9 ≤ N) (hf0 : f0 < 6) (hm6 : hm ≤ 6) (hA : mA a n kk cw c0 wi rl sp pd od) (he : epF u v x n (nI kk) = 0) : gMi l yX7_pile wsX7_pile ({ frames := 3, cells := 0, slots := 0, locals := 68 }) D z cI cZ cP cR N F [.ref (z + k), .int u, .int v, .int x] (gRes (nI n) N (fun F2 => ∃ a2 : Nat → Int32, isMod z cI cZ F2 k (nI (kpF true f0 hm)) (nI (kpM true hm)) pn spt wrg rd a2 (kpP true ps f0 hm a) sl sv sd wy pa nu ∧ mA a2 (n + 1) kk cw c0 (winF (va_up pd n (pileD u v x)) (n + 1)) rl sp (va_up pd n (pileD u v x)) od ∧ gFr k (k + 9) F F2)) 0 0 := by
  refine gMi.of (cc := cX7_pile) (maxL := 4) (ret := (some .int)) (by decide) rfl (Nat.le_of_ble_eq_true rfl) [(0, .ref (z + k)), (1, .int u), (2, .int v), (3, .int x)] rfl ?_
  intro pg ev sg mg bel me cg C hR0
  obtain ⟨ha0, ha1, ha2, ha3, ha4, hpd, hpl, hn, hkk, hcw, hcnt, hc0, hsp, hrl, hwi, hod⟩ := id hA
  have h2n := two_lt hn
  refine x_aload_n C (pc := 0) 0 dX7_pile_0 rfl ?_
  refine x_iload_n C (pc := 1) 1 dX7_pile_1 rfl ?_
  refine x_iload_n C (pc := 2) 2 dX7_pile_2 rfl ?_
  refine x_iload_n C (pc := 3) 3 dX7_pile_3 rfl ?_
  refine x_iconst C (pc := 4) (v := 1) dX7_pile_4 (by decide) ?_
  refine x_cViE C (pc := 5) (st := []) (c_X7_tryPile_s l D z cI cZ cP cR N F k f0 hm pn spt wrg rd a ps sl sv sd wy pa nu n kk cw c0 wi rl sp pd od u v x true hM (by omega) (by omega) (by omega) hA he) (cwV 4 C.2.2.2.2.1 gX7_pile_X7_tryPile rfl rfl rfl hd_X7_tryPile ⟨Nat.le_of_ble_eq_true rfl, Nat.le_of_ble_eq_true rfl⟩) (by omega) hM.ob rfl rfl rfl (Nat.le_of_ble_eq_true rfl) dX7_pile_5 ⟨Nat.le_of_ble_eq_true rfl, Nat.le_of_ble_eq_true rfl⟩ (fun F_5 h_5 => ?_)
  obtain ⟨a_5, hM_5, hA_5, fr_5⟩ := h_5
  have kp_5 := kp_lt true (f0 := f0) (hm := hm) (by omega) (by omega)
  exact x_iret C hR0 rfl (Nat.le_of_ble_eq_true rfl) (Nat.le_of_ble_eq_true rfl) ⟨rfl, rfl, ⟨_, hM_5, hA_5, fr_5⟩⟩ dX7_pile_8
set_option maxHeartbeats 4000000 in
set_option maxRecDepth 100000 in
theorem c_X7_tryFinds_e (l : Launch) (D : va_G) (z : Nat) (cI cZ cP cR : ClassId) (N : Nat) (F : Nat → va_E) (k f0 hm : Nat) (pn spt wrg rd : Int32) (a ps sl sv sd wy pa nu : Nat → Int32) (n kk cw c0 : Nat) (wi rl sp : Int32) (pd : Nat → Nat → Int32) (od : Nat → Int32) (v x y : Int32) (kf : Bool) (hM : isMod z cI cZ F k (nI f0) (nI hm) pn spt wrg rd a ps sl sv sd wy pa nu) (hk : k + 9 ≤ N) (hf0 : f0 < 6) (hm6 : hm ≤ 6) (hA : mA a n kk cw c0 wi rl sp pd od) (he : ¬ efF v x y (nI n) pd cw = 0) : gMi l yX7_tryFinds wsX7_tryFinds ({ frames := 2, cells := 0, slots := 0, locals := 43 }) D z cI cZ cP cR N F [.ref (z + k), .int v, .int x, .int y, .int (bz kf)] (gRes (efF v x y (nI n) pd cw) N (fun F2 => F2 = F)) 0 0 := by
  refine gMi.of (cc := cX7_tryFinds) (maxL := 5) (ret := (some .int)) (by decide) rfl (Nat.le_of_ble_eq_true rfl) [(0, .ref (z + k)), (1, .int v), (2, .int x), (3, .int y), (4, .int (bz kf))] rfl ?_
  intro pg ev sg mg bel me cg C hR0
  obtain ⟨ha0, ha1, ha2, ha3, ha4, hpd, hpl, hn, hkk, hcw, hcnt, hc0, hsp, hrl, hwi, hod⟩ := id hA
  have h2n := two_lt hn
  refine x_aload_n C (pc := 0) 0 dX7_tryFinds_0 rfl ?_
  refine x_iload_n C (pc := 1) 1 dX7_tryFinds_1 rfl ?_
  refine x_cViR C (pc := 2) (st := []) (c_X7_isPile l D z cI cZ cP cR N F k (nI f0) (nI hm) pn spt wrg rd a ps sl sv sd wy pa nu n kk cw c0 wi rl sp pd od v hM (by omega) hA ) (cwV 1 C.2.2.2.2.1 gX7_tryFinds_X7_isPile rfl rfl rfl hd_X7_isPile ⟨Nat.le_of_ble_eq_true rfl, Nat.le_of_ble_eq_true rfl⟩) (by omega) hM.ob rfl rfl rfl (Nat.le_of_ble_eq_true rfl) dX7_tryFinds_2 ⟨Nat.le_of_ble_eq_true rfl, Nat.le_of_ble_eq_true rfl⟩ ?_
  refine x_bz_ne C (pc := 5) (tgt := 10) dX7_tryFinds_5 (by decide) (fun c_5 => ?_) (fun c_5 => ?_)
  · obtain ⟨j, hj, rfl⟩ := inP_nat (by omega) c_5
    refine x_iload_n C (pc := 10) 2 dX7_tryFinds_10 rfl ?_
    refine x_iconst C (pc := 11) (v := 0) dX7_tryFinds_11 (by decide) ?_
    refine x_aload_n C (pc := 12) 0 dX7_tryFinds_12 rfl ?_
    refine x_iload_n C (pc := 13) 1 dX7_tryFinds_13 rfl ?_
    refine x_cViR C (pc := 14) (st := [.int 0, .int x]) (c_X7_size l D z cI cZ cP cR N F k (nI f0) (nI hm) pn spt wrg rd a ps sl sv sd wy pa nu n kk cw c0 wi rl sp pd od j hM (by omega) hA (by omega)) (cwV 1 C.2.2.2.2.1 gX7_tryFinds_X7_size rfl rfl rfl hd_X7_size ⟨Nat.le_of_ble_eq_true rfl, Nat.le_of_ble_eq_true rfl⟩) (by omega) hM.ob rfl rfl rfl (Nat.le_of_ble_eq_true rfl) dX7_tryFinds_14 ⟨Nat.le_of_ble_eq_true rfl, Nat.le_of_ble_eq_true rfl⟩ ?_
    refine x_cSiR C (pc := 17) (st := []) (c_X7_in l D z cI cZ cP cR N F x 0 (sizF (pd j))) (va_cwS 3 C.2.2.2.2.1 gX7_tryFinds_X7_in rfl rfl rfl hd_X7_in.2 ⟨Nat.le_of_ble_eq_true rfl, Nat.le_of_ble_eq_true rfl⟩) rfl rfl (Nat.le_of_ble_eq_true rfl) dX7_tryFinds_17 ⟨Nat.le_of_ble_eq_true rfl, Nat.le_of_ble_eq_true rfl⟩ ?_
    refine x_bz_eq C (pc := 20) (tgt := 38) dX7_tryFinds_20 (by decide) (fun c_20 => ?_) (fun c_20 => ?_)
    · refine x_bipush C (pc := 38) (v := (-2)) dX7_tryFinds_38 (by decide) ?_
      exact x_iret C hR0 rfl (Nat.le_of_ble_eq_true rfl) (Nat.le_of_ble_eq_true rfl) ⟨(by unfold efF; rw [c_5, if_neg (by decide), nI_clamp (by omega), if_pos]; first | exact (inB_not c_20).elim Or.inl (fun q => Or.inr (Or.inr (Or.inl q))) | exact (inB_not c_35).elim (fun q => Or.inr (Or.inl q)) (fun q => Or.inr (Or.inr (Or.inr q)))), rfl, rfl⟩ dX7_tryFinds_40
    refine x_iload_n C (pc := 23) 3 dX7_tryFinds_23 rfl ?_
    refine x_iconst C (pc := 24) (v := 0) dX7_tryFinds_24 (by decide) ?_
    refine x_aload_n C (pc := 25) 0 dX7_tryFinds_25 rfl ?_
    refine x_iload_n C (pc := 26) 1 dX7_tryFinds_26 rfl ?_
    refine x_cViR C (pc := 27) (st := [.int 0, .int y]) (c_X7_size l D z cI cZ cP cR N F k (nI f0) (nI hm) pn spt wrg rd a ps sl sv sd wy pa nu n kk cw c0 wi rl sp pd od j hM (by omega) hA (by omega)) (cwV 1 C.2.2.2.2.1 gX7_tryFinds_X7_size rfl rfl rfl hd_X7_size ⟨Nat.le_of_ble_eq_true rfl, Nat.le_of_ble_eq_true rfl⟩) (by omega) hM.ob rfl rfl rfl (Nat.le_of_ble_eq_true rfl) dX7_tryFinds_27 ⟨Nat.le_of_ble_eq_true rfl, Nat.le_of_ble_eq_true rfl⟩ ?_
    refine x_iload_n C (pc := 30) 2 dX7_tryFinds_30 rfl ?_
    refine x_isub C (pc := 31) (v := (sizF (pd j)) - x) dX7_tryFinds_31 rfl ?_
    refine x_cSiR C (pc := 32) (st := []) (c_X7_in l D z cI cZ cP cR N F y 0 ((sizF (pd j)) - x)) (va_cwS 3 C.2.2.2.2.1 gX7_tryFinds_X7_in rfl rfl rfl hd_X7_in.2 ⟨Nat.le_of_ble_eq_true rfl, Nat.le_of_ble_eq_true rfl⟩) rfl rfl (Nat.le_of_ble_eq_true rfl) dX7_tryFinds_32 ⟨Nat.le_of_ble_eq_true rfl, Nat.le_of_ble_eq_true rfl⟩ ?_
    refine x_bz_ne C (pc := 35) (tgt := 41) dX7_tryFinds_35 (by decide) (fun c_35 => ?_) (fun c_35 => ?_)
    · refine x_aload_n C (pc := 41) 0 dX7_tryFinds_41 rfl ?_
      refine x_iload_n C (pc := 42) 1 dX7_tryFinds_42 rfl ?_
      refine x_cViR C (pc := 43) (st := []) (c_X7_isCounted l D z cI cZ cP cR N F k (nI f0) (nI hm) pn spt wrg rd a ps sl sv sd wy pa nu n kk cw c0 wi rl sp pd od j hM (by omega) hA (by omega)) (cwV 1 C.2.2.2.2.1 gX7_tryFinds_X7_isCounted rfl rfl rfl hd_X7_isCounted ⟨Nat.le_of_ble_eq_true rfl, Nat.le_of_ble_eq_true rfl⟩) (by omega) hM.ob rfl rfl rfl (Nat.le_of_ble_eq_true rfl) dX7_tryFinds_43 ⟨Nat.le_of_ble_eq_true rfl, Nat.le_of_ble_eq_true rfl⟩ ?_
      refine x_bz_eq C (pc := 46) (tgt := 52) dX7_tryFinds_46 (by decide) (fun c_46 => ?_) (fun c_46 => ?_)
      · exact absurd (by unfold efF; rw [c_5, if_neg (by decide), nI_clamp (by omega), if_neg (by rintro (h | h | h | h); exact (inB_ok c_20).1 h; exact (inB_ok c_35).1 h; exact (inB_ok c_20).2 h; exact (inB_ok c_35).2 h), if_neg (by rw [c_46]; decide)]) he
      refine x_bipush C (pc := 49) (v := (-5)) dX7_tryFinds_49 (by decide) ?_
      exact x_iret C hR0 rfl (Nat.le_of_ble_eq_true rfl) (Nat.le_of_ble_eq_true rfl) ⟨(by unfold efF; rw [c_5, if_neg (by decide), nI_clamp (by omega), if_neg (by rintro (h | h | h | h); exact (inB_ok c_20).1 h; exact (inB_ok c_35).1 h; exact (inB_ok c_20).2 h; exact (inB_ok c_35).2 h), if_pos c_46]), rfl, rfl⟩ dX7_tryFinds_51
    refine x_bipush C (pc := 38) (v := (-2)) dX7_tryFinds_38 (by decide) ?_
    exact x_iret C hR0 rfl (Nat.le_of_ble_eq_true rfl) (Nat.le_of_ble_eq_true rfl) ⟨(by unfold efF; rw [c_5, if_neg (by decide), nI_clamp (by omega), if_pos]; first | exact (inB_not c_20).elim Or.inl (fun q => Or.inr (Or.inr (Or.inl q))) | exact (inB_not c_35).elim (fun q => Or.inr (Or.inl q)) (fun q => Or.inr (Or.inr (Or.inr q)))), rfl, rfl⟩ dX7_tryFinds_40
  refine x_iconst C (pc := 8) (v := (-1)) dX7_tryFinds_8 (by decide) ?_
  exact x_iret C hR0 rfl (Nat.le_of_ble_eq_true rfl) (Nat.le_of_ble_eq_true rfl) ⟨(by unfold efF; rw [c_5]; rfl), rfl, rfl⟩ dX7_tryFinds_9
theorem efF_0 {v n cw : Nat} {x y : Int32} {pd : Nat → Nat → Int32} (hn : n ≤ 10) (hv : v < n) (h : efF (nI v) x y (nI n) pd cw = 0) : inP (nI v) (nI n) = true ∧ inB x 0 (sizF (pd v)) = true ∧ inB y 0 (sizF (pd v) - x) = true ∧ cw.testBit v = false := by
  unfold efF at h
  rw [nI_clamp (by omega)] at h
  split at h
  · exact absurd h (by decide)
  · rename_i h1
    split at h
    · exact absurd h (by decide)
    · rename_i h2
      split at h
      · exact absurd h (by decide)
      · rename_i h3
        exact ⟨by simpa using h1, inB_t (fun q => h2 (Or.inl q)) (fun q => h2 (Or.inr (Or.inr (Or.inl q)))), inB_t (fun q => h2 (Or.inr (Or.inl q))) (fun q => h2 (Or.inr (Or.inr (Or.inr q)))), by simpa using h3⟩
theorem fl_X7_tryFinds_7 : Cond.fieldLink RX7 7 "PileRecountModel" "at" "[I" ∈ wsX7_tryFinds := by decide +kernel
theorem hn_X7_tryFinds_X7 : ∀ w ∈ wsX70, w ∈ wsX7_tryFinds := fun _ h => List.mem_cons_of_mem _ (List.mem_append_right _ h)
theorem kc_X7_tryFinds_133 : Cond.constant RX7 133 (100000) ∈ wsX7_tryFinds := by decide +kernel
set_option maxHeartbeats 4000000 in
set_option maxRecDepth 100000 in
theorem c_X7_tryFinds_s (l : Launch) (D : va_G) (z : Nat) (cI cZ cP cR : ClassId) (N : Nat) (F : Nat → va_E) (k f0 hm : Nat) (pn spt wrg rd : Int32) (a ps sl sv sd wy pa nu : Nat → Int32) (n kk cw c0 : Nat) (wi rl sp : Int32) (pd : Nat → Nat → Int32) (od : Nat → Int32) (v : Nat) (x y : Int32) (kf : Bool) (hM : isMod z cI cZ F k (nI f0) (nI hm) pn spt wrg rd a ps sl sv sd wy pa nu) (hk : k + 9 ≤ N) (hf0 : f0 < 6) (hm6 : hm ≤ 6) (hA : mA a n kk cw c0 wi rl sp pd od) (he : efF (nI v) x y (nI n) pd cw = 0) (hvn : v < n) : gMi l yX7_tryFinds wsX7_tryFinds ({ frames := 2, cells := 0, slots := 0, locals := 43 }) D z cI cZ cP cR N F [.ref (z + k), .int (nI v), .int x, .int y, .int (bz kf)] (gRes (100000 + ((x - y) - (pd v 0 - pd v 1))) N (fun F2 => ∃ a2 : Nat → Int32, isMod z cI cZ F2 k (nI (kpF kf f0 hm)) (nI (kpM kf hm)) pn spt wrg rd a2 (kpP kf ps f0 hm a) sl sv sd wy pa nu ∧ mA a2 n kk cw c0 wi rl sp (pdSet (pdSet pd v 3 x) v 4 y) od ∧ gFr k (k + 9) F F2)) 0 0 := by
  refine gMi.of (cc := cX7_tryFinds) (maxL := 5) (ret := (some .int)) (by decide) rfl (Nat.le_of_ble_eq_true rfl) [(0, .ref (z + k)), (1, .int (nI v)), (2, .int x), (3, .int y), (4, .int (bz kf))] rfl ?_
  intro pg ev sg mg bel me cg C hR0
  obtain ⟨ha0, ha1, ha2, ha3, ha4, hpd, hpl, hn, hkk, hcw, hcnt, hc0, hsp, hrl, hwi, hod⟩ := id hA
  have h2n := two_lt hn
  obtain ⟨e1, e2, e3, e4⟩ := efF_0 hn hvn he
  refine x_aload_n C (pc := 0) 0 dX7_tryFinds_0 rfl ?_
  refine x_iload_n C (pc := 1) 1 dX7_tryFinds_1 rfl ?_
  refine x_cViR C (pc := 2) (st := []) (c_X7_isPile l D z cI cZ cP cR N F k (nI f0) (nI hm) pn spt wrg rd a ps sl sv sd wy pa nu n kk cw c0 wi rl sp pd od (nI v) hM (by omega) hA ) (cwV 1 C.2.2.2.2.1 gX7_tryFinds_X7_isPile rfl rfl rfl hd_X7_isPile ⟨Nat.le_of_ble_eq_true rfl, Nat.le_of_ble_eq_true rfl⟩) (by omega) hM.ob rfl rfl rfl (Nat.le_of_ble_eq_true rfl) dX7_tryFinds_2 ⟨Nat.le_of_ble_eq_true rfl, Nat.le_of_ble_eq_true rfl⟩ ?_
  refine x_bz_ne C (pc := 5) (tgt := 10) dX7_tryFinds_5 (by decide) (fun c_5 => ?_) (fun c_5 => absurd c_5 (by rw [e1]; decide))
  refine x_iload_n C (pc := 10) 2 dX7_tryFinds_10 rfl ?_
  refine x_iconst C (pc := 11) (v := 0) dX7_tryFinds_11 (by decide) ?_
  refine x_aload_n C (pc := 12) 0 dX7_tryFinds_12 rfl ?_
  refine x_iload_n C (pc := 13) 1 dX7_tryFinds_13 rfl ?_
  refine x_cViR C (pc := 14) (st := [.int 0, .int x]) (c_X7_size l D z cI cZ cP cR N F k (nI f0) (nI hm) pn spt wrg rd a ps sl sv sd wy pa nu n kk cw c0 wi rl sp pd od v hM (by omega) hA (by omega)) (cwV 1 C.2.2.2.2.1 gX7_tryFinds_X7_size rfl rfl rfl hd_X7_size ⟨Nat.le_of_ble_eq_true rfl, Nat.le_of_ble_eq_true rfl⟩) (by omega) hM.ob rfl rfl rfl (Nat.le_of_ble_eq_true rfl) dX7_tryFinds_14 ⟨Nat.le_of_ble_eq_true rfl, Nat.le_of_ble_eq_true rfl⟩ ?_
  refine x_cSiR C (pc := 17) (st := []) (c_X7_in l D z cI cZ cP cR N F x 0 (sizF (pd v))) (va_cwS 3 C.2.2.2.2.1 gX7_tryFinds_X7_in rfl rfl rfl hd_X7_in.2 ⟨Nat.le_of_ble_eq_true rfl, Nat.le_of_ble_eq_true rfl⟩) rfl rfl (Nat.le_of_ble_eq_true rfl) dX7_tryFinds_17 ⟨Nat.le_of_ble_eq_true rfl, Nat.le_of_ble_eq_true rfl⟩ ?_
  refine x_bz_eq C (pc := 20) (tgt := 38) dX7_tryFinds_20 (by decide) (fun c_20 => absurd c_20 (by rw [e2]; decide)) (fun c_20 => ?_)
  refine x_iload_n C (pc := 23) 3 dX7_tryFinds_23 rfl ?_
  refine x_iconst C (pc := 24) (v := 0) dX7_tryFinds_24 (by decide) ?_
  refine x_aload_n C (pc := 25) 0 dX7_tryFinds_25 rfl ?_
  refine x_iload_n C (pc := 26) 1 dX7_tryFinds_26 rfl ?_
  refine x_cViR C (pc := 27) (st := [.int 0, .int y]) (c_X7_size l D z cI cZ cP cR N F k (nI f0) (nI hm) pn spt wrg rd a ps sl sv sd wy pa nu n kk cw c0 wi rl sp pd od v hM (by omega) hA (by omega)) (cwV 1 C.2.2.2.2.1 gX7_tryFinds_X7_size rfl rfl rfl hd_X7_size ⟨Nat.le_of_ble_eq_true rfl, Nat.le_of_ble_eq_true rfl⟩) (by omega) hM.ob rfl rfl rfl (Nat.le_of_ble_eq_true rfl) dX7_tryFinds_27 ⟨Nat.le_of_ble_eq_true rfl, Nat.le_of_ble_eq_true rfl⟩ ?_
  refine x_iload_n C (pc := 30) 2 dX7_tryFinds_30 rfl ?_
  refine x_isub C (pc := 31) (v := (sizF (pd v)) - x) dX7_tryFinds_31 rfl ?_
  refine x_cSiR C (pc := 32) (st := []) (c_X7_in l D z cI cZ cP cR N F y 0 ((sizF (pd v)) - x)) (va_cwS 3 C.2.2.2.2.1 gX7_tryFinds_X7_in rfl rfl rfl hd_X7_in.2 ⟨Nat.le_of_ble_eq_true rfl, Nat.le_of_ble_eq_true rfl⟩) rfl rfl (Nat.le_of_ble_eq_true rfl) dX7_tryFinds_32 ⟨Nat.le_of_ble_eq_true rfl, Nat.le_of_ble_eq_true rfl⟩ ?_
  refine x_bz_ne C (pc := 35) (tgt := 41) dX7_tryFinds_35 (by decide) (fun c_35 => ?_) (fun c_35 => absurd c_35 (by rw [e3]; decide))
  refine x_aload_n C (pc := 41) 0 dX7_tryFinds_41 rfl ?_
  refine x_iload_n C (pc := 42) 1 dX7_tryFinds_42 rfl ?_
  refine x_cViR C (pc := 43) (st := []) (c_X7_isCounted l D z cI cZ cP cR N F k (nI f0) (nI hm) pn spt wrg rd a ps sl sv sd wy pa nu n kk cw c0 wi rl sp pd od v hM (by omega) hA (by omega)) (cwV 1 C.2.2.2.2.1 gX7_tryFinds_X7_isCounted rfl rfl rfl hd_X7_isCounted ⟨Nat.le_of_ble_eq_true rfl, Nat.le_of_ble_eq_true rfl⟩) (by omega) hM.ob rfl rfl rfl (Nat.le_of_ble_eq_true rfl) dX7_tryFinds_43 ⟨Nat.le_of_ble_eq_true rfl, Nat.le_of_ble_eq_true rfl⟩ ?_
  refine x_bz_eq C (pc := 46) (tgt := 52) dX7_tryFinds_46 (by decide) (fun c_46 => ?_) (fun c_46 => absurd c_46 (by rw [e4]; decide))
  refine x_aload_n C (pc := 52) 0 dX7_tryFinds_52 rfl ?_
  refine x_iload C (pc := 53) 4 dX7_tryFinds_53 rfl ?_
  refine x_cVvE C (pc := 55) (st := []) (c_X7_keepIf l D z cI cZ cP cR N F k f0 hm pn spt wrg rd a ps sl sv sd wy pa nu kf hM (by omega) (by omega) (by omega)) (cwV 1 C.2.2.2.2.1 gX7_tryFinds_X7_keepIf rfl rfl rfl hd_X7_keepIf ⟨Nat.le_of_ble_eq_true rfl, Nat.le_of_ble_eq_true rfl⟩) (by omega) hM.ob rfl rfl rfl (Nat.le_of_ble_eq_true rfl) dX7_tryFinds_55 ⟨Nat.le_of_ble_eq_true rfl, Nat.le_of_ble_eq_true rfl⟩ (fun F_55 h_55 => ?_)
  obtain ⟨hM_55, fr_55⟩ := h_55
  have kp_55 := kp_lt kf (f0 := f0) (hm := hm) (by omega) (by omega)
  refine x_aload_n C (pc := 58) 0 dX7_tryFinds_58 rfl ?_
  refine x_get C (pc := 59) (q := k) (v := .ref (z + (k + 1))) (ci := 7) rfl hn_X7_tryFinds_X7 0 (by decide) fl_X7_tryFinds_7 rfl (by omega) hM_55.ob rfl dX7_tryFinds_59 ?_
  refine x_iconst C (pc := 62) (v := 5) dX7_tryFinds_62 (by decide) ?_
  refine x_bipush C (pc := 63) (v := 6) dX7_tryFinds_63 (by decide) ?_
  refine x_iload_n C (pc := 65) 1 dX7_tryFinds_65 rfl ?_
  refine x_imul C (pc := 66) (v := nI (6 * v)) dX7_tryFinds_66 (pk_mul 6 v) ?_
  refine x_iadd C (pc := 67) (v := nI (5 + 6 * v)) dX7_tryFinds_67 (nI_add 5 (6 * v)) ?_
  refine x_iconst C (pc := 68) (v := 3) dX7_tryFinds_68 (by decide) ?_
  refine x_iadd C (pc := 69) (v := nI (5 + 6 * v + 3)) dX7_tryFinds_69 (nI_add (5 + 6 * v) 3) ?_
  refine x_iload_n C (pc := 70) 2 dX7_tryFinds_70 rfl ?_
  refine xw_isMod_a C (pc := 71) (j := 5 + 6 * v + 3) hM_55 (by omega) rfl (by omega) dX7_tryFinds_71 (fun F_71 hM_71 fr_71 => ?_)
  refine x_aload_n C (pc := 72) 0 dX7_tryFinds_72 rfl ?_
  refine x_get C (pc := 73) (q := k) (v := .ref (z + (k + 1))) (ci := 7) rfl hn_X7_tryFinds_X7 0 (by decide) fl_X7_tryFinds_7 rfl (by omega) hM_71.ob rfl dX7_tryFinds_73 ?_
  refine x_iconst C (pc := 76) (v := 5) dX7_tryFinds_76 (by decide) ?_
  refine x_bipush C (pc := 77) (v := 6) dX7_tryFinds_77 (by decide) ?_
  refine x_iload_n C (pc := 79) 1 dX7_tryFinds_79 rfl ?_
  refine x_imul C (pc := 80) (v := nI (6 * v)) dX7_tryFinds_80 (pk_mul 6 v) ?_
  refine x_iadd C (pc := 81) (v := nI (5 + 6 * v)) dX7_tryFinds_81 (nI_add 5 (6 * v)) ?_
  refine x_iconst C (pc := 82) (v := 4) dX7_tryFinds_82 (by decide) ?_
  refine x_iadd C (pc := 83) (v := nI (5 + 6 * v + 4)) dX7_tryFinds_83 (nI_add (5 + 6 * v) 4) ?_
  refine x_iload_n C (pc := 84) 3 dX7_tryFinds_84 rfl ?_
  refine xw_isMod_a C (pc := 85) (j := 5 + 6 * v + 4) hM_71 (by omega) rfl (by omega) dX7_tryFinds_85 (fun F_85 hM_85 fr_85 => ?_)
  have hA_86 := mA_found hA hvn x y
  refine x_ldc C (pc := 86) (v := 100000) kc_X7_tryFinds_133 dX7_tryFinds_86 ?_
  refine x_iload_n C (pc := 88) 2 dX7_tryFinds_88 rfl ?_
  refine x_iadd C (pc := 89) (v := 100000 + x) dX7_tryFinds_89 rfl ?_
  refine x_iload_n C (pc := 90) 3 dX7_tryFinds_90 rfl ?_
  refine x_isub C (pc := 91) (v := (100000 + x) - y) dX7_tryFinds_91 rfl ?_
  refine x_aload_n C (pc := 92) 0 dX7_tryFinds_92 rfl ?_
  refine x_iload_n C (pc := 93) 1 dX7_tryFinds_93 rfl ?_
  refine x_iconst C (pc := 94) (v := 0) dX7_tryFinds_94 (by decide) ?_
  refine x_cViR C (pc := 95) (st := [.int ((100000 + x) - y)]) (c_X7_ofd l D z cI cZ cP cR N F_85 k (nI (kpF kf f0 hm)) (nI (kpM kf hm)) pn spt wrg rd (upd (upd a (5 + 6 * v + 3) x) (5 + 6 * v + 4) y) (kpP kf ps f0 hm a) sl sv sd wy pa nu n kk cw c0 wi rl sp (pdSet (pdSet pd v 3 x) v 4 y) od v 0 hM_85 (by omega) hA_86 (by omega) (by omega)) (cwV 2 C.2.2.2.2.1 gX7_tryFinds_X7_of rfl rfl rfl hd_X7_of ⟨Nat.le_of_ble_eq_true rfl, Nat.le_of_ble_eq_true rfl⟩) (by omega) hM_85.ob rfl rfl rfl (Nat.le_of_ble_eq_true rfl) dX7_tryFinds_95 ⟨Nat.le_of_ble_eq_true rfl, Nat.le_of_ble_eq_true rfl⟩ ?_
  refine x_isub C (pc := 98) (v := ((100000 + x) - y) - ((pdSet (pdSet pd v 3 x) v 4 y) v 0)) dX7_tryFinds_98 rfl ?_
  refine x_aload_n C (pc := 99) 0 dX7_tryFinds_99 rfl ?_
  refine x_iload_n C (pc := 100) 1 dX7_tryFinds_100 rfl ?_
  refine x_iconst C (pc := 101) (v := 1) dX7_tryFinds_101 (by decide) ?_
  refine x_cViR C (pc := 102) (st := [.int (((100000 + x) - y) - ((pdSet (pdSet pd v 3 x) v 4 y) v 0))]) (c_X7_ofd l D z cI cZ cP cR N F_85 k (nI (kpF kf f0 hm)) (nI (kpM kf hm)) pn spt wrg rd (upd (upd a (5 + 6 * v + 3) x) (5 + 6 * v + 4) y) (kpP kf ps f0 hm a) sl sv sd wy pa nu n kk cw c0 wi rl sp (pdSet (pdSet pd v 3 x) v 4 y) od v 1 hM_85 (by omega) hA_86 (by omega) (by omega)) (cwV 2 C.2.2.2.2.1 gX7_tryFinds_X7_of rfl rfl rfl hd_X7_of ⟨Nat.le_of_ble_eq_true rfl, Nat.le_of_ble_eq_true rfl⟩) (by omega) hM_85.ob rfl rfl rfl (Nat.le_of_ble_eq_true rfl) dX7_tryFinds_102 ⟨Nat.le_of_ble_eq_true rfl, Nat.le_of_ble_eq_true rfl⟩ ?_
  refine x_iadd C (pc := 105) (v := (((100000 + x) - y) - ((pdSet (pdSet pd v 3 x) v 4 y) v 0)) + ((pdSet (pdSet pd v 3 x) v 4 y) v 1)) dX7_tryFinds_105 rfl ?_
  exact x_iret C hR0 rfl (Nat.le_of_ble_eq_true rfl) (Nat.le_of_ble_eq_true rfl) ⟨(by rw [pdSet_eq, pdSet_eq, pk_un (by decide), pk_un (by decide), pk_un (by decide), pk_un (by decide)]; exact fo_eq _ _ _ _), rfl, ⟨_, hM_85, hA_86, (gFr.t2 (gFr.t2 fr_55 fr_71) fr_85)⟩⟩ dX7_tryFinds_106
set_option maxHeartbeats 4000000 in
set_option maxRecDepth 100000 in
theorem c_X7_finds_e (l : Launch) (D : va_G) (z : Nat) (cI cZ cP cR : ClassId) (N : Nat) (F : Nat → va_E) (k f0 hm : Nat) (pn spt wrg rd : Int32) (a ps sl sv sd wy pa nu : Nat → Int32) (n kk cw c0 : Nat) (wi rl sp : Int32) (pd : Nat → Nat → Int32) (od : Nat → Int32) (v x y : Int32) (hM : isMod z cI cZ F k (nI f0) (nI hm) pn spt wrg rd a ps sl sv sd wy pa nu) (hk : k + 9 ≤ N) (hf0 : f0 < 6) (hm6 : hm ≤ 6) (hA : mA a n kk cw c0 wi rl sp pd od) (he : ¬ efF v x y (nI n) pd cw = 0) : gMi l yX7_finds wsX7_finds ({ frames := 3, cells := 0, slots := 0, locals := 67 }) D z cI cZ cP cR N F [.ref (z + k), .int v, .int x, .int y] (gRes (efF v x y (nI n) pd cw) N (fun F2 => F2 = F)) 0 0 := by
  refine gMi.of (cc := cX7_finds) (maxL := 4) (ret := (some .int)) (by decide) rfl (Nat.le_of_ble_eq_true rfl) [(0, .ref (z + k)), (1, .int v), (2, .int x), (3, .int y)] rfl ?_
  intro pg ev sg mg bel me cg C hR0
  obtain ⟨ha0, ha1, ha2, ha3, ha4, hpd, hpl, hn, hkk, hcw, hcnt, hc0, hsp, hrl, hwi, hod⟩ := id hA
  have h2n := two_lt hn
  refine x_aload_n C (pc := 0) 0 dX7_finds_0 rfl ?_
  refine x_iload_n C (pc := 1) 1 dX7_finds_1 rfl ?_
  refine x_iload_n C (pc := 2) 2 dX7_finds_2 rfl ?_
  refine x_iload_n C (pc := 3) 3 dX7_finds_3 rfl ?_
  refine x_iconst C (pc := 4) (v := 1) dX7_finds_4 (by decide) ?_
  refine x_cViR C (pc := 5) (st := []) (c_X7_tryFinds_e l D z cI cZ cP cR N F k f0 hm pn spt wrg rd a ps sl sv sd wy pa nu n kk cw c0 wi rl sp pd od v x y true hM (by omega) (by omega) (by omega) hA he) (cwV 4 C.2.2.2.2.1 gX7_finds_X7_tryFinds rfl rfl rfl hd_X7_tryFinds ⟨Nat.le_of_ble_eq_true rfl, Nat.le_of_ble_eq_true rfl⟩) (by omega) hM.ob rfl rfl rfl (Nat.le_of_ble_eq_true rfl) dX7_finds_5 ⟨Nat.le_of_ble_eq_true rfl, Nat.le_of_ble_eq_true rfl⟩ ?_
  exact x_iret C hR0 rfl (Nat.le_of_ble_eq_true rfl) (Nat.le_of_ble_eq_true rfl) ⟨rfl, rfl, rfl⟩ dX7_finds_8
set_option maxHeartbeats 4000000 in
set_option maxRecDepth 100000 in
theorem c_X7_finds_s (l : Launch) (D : va_G) (z : Nat) (cI cZ cP cR : ClassId) (N : Nat) (F : Nat → va_E) (k f0 hm : Nat) (pn spt wrg rd : Int32) (a ps sl sv sd wy pa nu : Nat → Int32) (n kk cw c0 : Nat) (wi rl sp : Int32) (pd : Nat → Nat → Int32) (od : Nat → Int32) (v : Nat) (x y : Int32) (hM : isMod z cI cZ F k (nI f0) (nI hm) pn spt wrg rd a ps sl sv sd wy pa nu) (hk : k + 9 ≤ N) (hf0 : f0 < 6) (hm6 : hm ≤ 6) (hA : mA a n kk cw c0 wi rl sp pd od) (he : efF (nI v) x y (nI n) pd cw = 0) (hvn : v < n) : gMi l yX7_finds wsX7_finds ({ frames := 3, cells := 0, slots := 0, locals := 67 }) D z cI cZ cP cR N F [.ref (z + k), .int (nI v), .int x, .int y] (gRes (100000 + ((x - y) - (pd v 0 - pd v 1))) N (fun F2 => ∃ a2 : Nat → Int32, isMod z cI cZ F2 k (nI (kpF true f0 hm)) (nI (kpM true hm)) pn spt wrg rd a2 (kpP true ps f0 hm a) sl sv sd wy pa nu ∧ mA a2 n kk cw c0 wi rl sp (pdSet (pdSet pd v 3 x) v 4 y) od ∧ gFr k (k + 9) F F2)) 0 0 := by
  refine gMi.of (cc := cX7_finds) (maxL := 4) (ret := (some .int)) (by decide) rfl (Nat.le_of_ble_eq_true rfl) [(0, .ref (z + k)), (1, .int (nI v)), (2, .int x), (3, .int y)] rfl ?_
  intro pg ev sg mg bel me cg C hR0
  obtain ⟨ha0, ha1, ha2, ha3, ha4, hpd, hpl, hn, hkk, hcw, hcnt, hc0, hsp, hrl, hwi, hod⟩ := id hA
  have h2n := two_lt hn
  refine x_aload_n C (pc := 0) 0 dX7_finds_0 rfl ?_
  refine x_iload_n C (pc := 1) 1 dX7_finds_1 rfl ?_
  refine x_iload_n C (pc := 2) 2 dX7_finds_2 rfl ?_
  refine x_iload_n C (pc := 3) 3 dX7_finds_3 rfl ?_
  refine x_iconst C (pc := 4) (v := 1) dX7_finds_4 (by decide) ?_
  refine x_cViE C (pc := 5) (st := []) (c_X7_tryFinds_s l D z cI cZ cP cR N F k f0 hm pn spt wrg rd a ps sl sv sd wy pa nu n kk cw c0 wi rl sp pd od v x y true hM (by omega) (by omega) (by omega) hA he hvn) (cwV 4 C.2.2.2.2.1 gX7_finds_X7_tryFinds rfl rfl rfl hd_X7_tryFinds ⟨Nat.le_of_ble_eq_true rfl, Nat.le_of_ble_eq_true rfl⟩) (by omega) hM.ob rfl rfl rfl (Nat.le_of_ble_eq_true rfl) dX7_finds_5 ⟨Nat.le_of_ble_eq_true rfl, Nat.le_of_ble_eq_true rfl⟩ (fun F_5 h_5 => ?_)
  obtain ⟨a_5, hM_5, hA_5, fr_5⟩ := h_5
  have kp_5 := kp_lt true (f0 := f0) (hm := hm) (by omega) (by omega)
  exact x_iret C hR0 rfl (Nat.le_of_ble_eq_true rfl) (Nat.le_of_ble_eq_true rfl) ⟨rfl, rfl, ⟨_, hM_5, hA_5, fr_5⟩⟩ dX7_finds_8
set_option maxHeartbeats 4000000 in
set_option maxRecDepth 100000 in
theorem c_X7_limit_e1 (l : Launch) (D : va_G) (z : Nat) (cI cZ cP cR : ClassId) (N : Nat) (F : Nat → va_E) (k f0 hm : Nat) (pn spt wrg rd : Int32) (a ps sl sv sd wy pa nu : Nat → Int32) (n kk cw c0 : Nat) (wi rl sp : Int32) (pd : Nat → Nat → Int32) (od : Nat → Int32) (v : Int32) (hM : isMod z cI cZ F k (nI f0) (nI hm) pn spt wrg rd a ps sl sv sd wy pa nu) (hk : k + 9 ≤ N) (hf0 : f0 < 6) (hm6 : hm ≤ 6) (hA : mA a n kk cw c0 wi rl sp pd od) (hv : inB v 1 9999 = false) : gMi l yX7_limit wsX7_limit ({ frames := 1, cells := 0, slots := 0, locals := 22 }) D z cI cZ cP cR N F [.ref (z + k), .int v] (gRes (-2) N (fun F2 => F2 = F)) 0 0 := by
  refine gMi.of (cc := cX7_limit) (maxL := 3) (ret := (some .int)) (by decide) rfl (Nat.le_of_ble_eq_true rfl) [(0, .ref (z + k)), (1, .int v)] rfl ?_
  intro pg ev sg mg bel me cg C hR0
  obtain ⟨ha0, ha1, ha2, ha3, ha4, hpd, hpl, hn, hkk, hcw, hcnt, hc0, hsp, hrl, hwi, hod⟩ := id hA
  have h2n := two_lt hn
  refine x_iload_n C (pc := 0) 1 dX7_limit_0 rfl ?_
  refine x_iconst C (pc := 1) (v := 1) dX7_limit_1 (by decide) ?_
  refine x_sipush C (pc := 2) (v := 9999) dX7_limit_2 (by decide) ?_
  refine x_cSiR C (pc := 5) (st := []) (c_X7_in l D z cI cZ cP cR N F v 1 9999) (va_cwS 3 C.2.2.2.2.1 gX7_limit_X7_in rfl rfl rfl hd_X7_in.2 ⟨Nat.le_of_ble_eq_true rfl, Nat.le_of_ble_eq_true rfl⟩) rfl rfl (Nat.le_of_ble_eq_true rfl) dX7_limit_5 ⟨Nat.le_of_ble_eq_true rfl, Nat.le_of_ble_eq_true rfl⟩ ?_
  refine x_bz_ne C (pc := 8) (tgt := 14) dX7_limit_8 (by decide) (fun c_8 => absurd c_8 (by rw [hv]; decide)) (fun c_8 => ?_)
  refine x_bipush C (pc := 11) (v := (-2)) dX7_limit_11 (by decide) ?_
  exact x_iret C hR0 rfl (Nat.le_of_ble_eq_true rfl) (Nat.le_of_ble_eq_true rfl) ⟨rfl, rfl, rfl⟩ dX7_limit_13
theorem fl_X7_limit_7 : Cond.fieldLink RX7 7 "PileRecountModel" "at" "[I" ∈ wsX7_limit := by decide +kernel
theorem hn_X7_limit_X7 : ∀ w ∈ wsX70, w ∈ wsX7_limit := fun _ h => List.mem_cons_of_mem _ (List.mem_append_right _ h)
set_option maxHeartbeats 4000000 in
set_option maxRecDepth 100000 in
theorem c_X7_limit_e2 (l : Launch) (D : va_G) (z : Nat) (cI cZ cP cR : ClassId) (N : Nat) (F : Nat → va_E) (k f0 hm : Nat) (pn spt wrg rd : Int32) (a ps sl sv sd wy pa nu : Nat → Int32) (n kk cw c0 : Nat) (wi rl sp : Int32) (pd : Nat → Nat → Int32) (od : Nat → Int32) (v : Int32) (hM : isMod z cI cZ F k (nI f0) (nI hm) pn spt wrg rd a ps sl sv sd wy pa nu) (hk : k + 9 ≤ N) (hf0 : f0 < 6) (hm6 : hm ≤ 6) (hA : mA a n kk cw c0 wi rl sp pd od) (hv : inB v 1 9999 = true) (hk0 : 0 < kk) : gMi l yX7_limit wsX7_limit ({ frames := 1, cells := 0, slots := 0, locals := 22 }) D z cI cZ cP cR N F [.ref (z + k), .int v] (gRes (-5) N (fun F2 => F2 = F)) 0 0 := by
  refine gMi.of (cc := cX7_limit) (maxL := 3) (ret := (some .int)) (by decide) rfl (Nat.le_of_ble_eq_true rfl) [(0, .ref (z + k)), (1, .int v)] rfl ?_
  intro pg ev sg mg bel me cg C hR0
  obtain ⟨ha0, ha1, ha2, ha3, ha4, hpd, hpl, hn, hkk, hcw, hcnt, hc0, hsp, hrl, hwi, hod⟩ := id hA
  have h2n := two_lt hn
  refine x_iload_n C (pc := 0) 1 dX7_limit_0 rfl ?_
  refine x_iconst C (pc := 1) (v := 1) dX7_limit_1 (by decide) ?_
  refine x_sipush C (pc := 2) (v := 9999) dX7_limit_2 (by decide) ?_
  refine x_cSiR C (pc := 5) (st := []) (c_X7_in l D z cI cZ cP cR N F v 1 9999) (va_cwS 3 C.2.2.2.2.1 gX7_limit_X7_in rfl rfl rfl hd_X7_in.2 ⟨Nat.le_of_ble_eq_true rfl, Nat.le_of_ble_eq_true rfl⟩) rfl rfl (Nat.le_of_ble_eq_true rfl) dX7_limit_5 ⟨Nat.le_of_ble_eq_true rfl, Nat.le_of_ble_eq_true rfl⟩ ?_
  refine x_bz_ne C (pc := 8) (tgt := 14) dX7_limit_8 (by decide) (fun c_8 => ?_) (fun c_8 => absurd c_8 (by rw [hv]; decide))
  refine x_aload_n C (pc := 14) 0 dX7_limit_14 rfl ?_
  refine x_get C (pc := 15) (q := k) (v := .ref (z + (k + 1))) (ci := 7) rfl hn_X7_limit_X7 0 (by decide) fl_X7_limit_7 rfl (by omega) hM.ob rfl dX7_limit_15 ?_
  refine x_iconst C (pc := 18) (v := 4) dX7_limit_18 (by decide) ?_
  refine x_ialdE C (pc := 19) (q := k + 1) (j := 4) (f := a) (by omega) hM.a rfl (by omega) (by decide) dX7_limit_19 ?_
  refine x_eqi hA.2.2.2.2.1 ?_
  refine x_ifN_le C (a := kk) (pc := 20) (tgt := 26) (by omega) dX7_limit_20 (by decide) (fun c_20 => absurd c_20 (by omega)) (fun c_20 => ?_)
  refine x_bipush C (pc := 23) (v := (-5)) dX7_limit_23 (by decide) ?_
  exact x_iret C hR0 rfl (Nat.le_of_ble_eq_true rfl) (Nat.le_of_ble_eq_true rfl) ⟨rfl, rfl, rfl⟩ dX7_limit_25
set_option maxHeartbeats 4000000 in
set_option maxRecDepth 100000 in
theorem c_X7_limit_s (l : Launch) (D : va_G) (z : Nat) (cI cZ cP cR : ClassId) (N : Nat) (F : Nat → va_E) (k f0 hm : Nat) (pn spt wrg rd : Int32) (a ps sl sv sd wy pa nu : Nat → Int32) (n kk cw c0 : Nat) (wi rl sp : Int32) (pd : Nat → Nat → Int32) (od : Nat → Int32) (v : Int32) (hM : isMod z cI cZ F k (nI f0) (nI hm) pn spt wrg rd a ps sl sv sd wy pa nu) (hk : k + 9 ≤ N) (hf0 : f0 < 6) (hm6 : hm ≤ 6) (hA : mA a n kk cw c0 wi rl sp pd od) (hv : inB v 1 9999 = true) (hk0 : kk = 0) : gMi l yX7_limit wsX7_limit ({ frames := 1, cells := 0, slots := 0, locals := 22 }) D z cI cZ cP cR N F [.ref (z + k), .int v] (gRes rl N (fun F2 => ∃ a2 : Nat → Int32, isMod z cI cZ F2 k (nI (kpF true f0 hm)) (nI (kpM true hm)) pn spt wrg rd a2 (kpP true ps f0 hm a) sl sv sd wy pa nu ∧ mA a2 n kk cw c0 wi v sp pd od ∧ gFr k (k + 9) F F2)) 0 0 := by
  refine gMi.of (cc := cX7_limit) (maxL := 3) (ret := (some .int)) (by decide) rfl (Nat.le_of_ble_eq_true rfl) [(0, .ref (z + k)), (1, .int v)] rfl ?_
  intro pg ev sg mg bel me cg C hR0
  obtain ⟨ha0, ha1, ha2, ha3, ha4, hpd, hpl, hn, hkk, hcw, hcnt, hc0, hsp, hrl, hwi, hod⟩ := id hA
  have h2n := two_lt hn
  refine x_iload_n C (pc := 0) 1 dX7_limit_0 rfl ?_
  refine x_iconst C (pc := 1) (v := 1) dX7_limit_1 (by decide) ?_
  refine x_sipush C (pc := 2) (v := 9999) dX7_limit_2 (by decide) ?_
  refine x_cSiR C (pc := 5) (st := []) (c_X7_in l D z cI cZ cP cR N F v 1 9999) (va_cwS 3 C.2.2.2.2.1 gX7_limit_X7_in rfl rfl rfl hd_X7_in.2 ⟨Nat.le_of_ble_eq_true rfl, Nat.le_of_ble_eq_true rfl⟩) rfl rfl (Nat.le_of_ble_eq_true rfl) dX7_limit_5 ⟨Nat.le_of_ble_eq_true rfl, Nat.le_of_ble_eq_true rfl⟩ ?_
  refine x_bz_ne C (pc := 8) (tgt := 14) dX7_limit_8 (by decide) (fun c_8 => ?_) (fun c_8 => absurd c_8 (by rw [hv]; decide))
  refine x_aload_n C (pc := 14) 0 dX7_limit_14 rfl ?_
  refine x_get C (pc := 15) (q := k) (v := .ref (z + (k + 1))) (ci := 7) rfl hn_X7_limit_X7 0 (by decide) fl_X7_limit_7 rfl (by omega) hM.ob rfl dX7_limit_15 ?_
  refine x_iconst C (pc := 18) (v := 4) dX7_limit_18 (by decide) ?_
  refine x_ialdE C (pc := 19) (q := k + 1) (j := 4) (f := a) (by omega) hM.a rfl (by omega) (by decide) dX7_limit_19 ?_
  refine x_eqi hA.2.2.2.2.1 ?_
  refine x_ifN_le C (a := kk) (pc := 20) (tgt := 26) (by omega) dX7_limit_20 (by decide) (fun c_20 => ?_) (fun c_20 => absurd c_20 (by omega))
  refine x_aload_n C (pc := 26) 0 dX7_limit_26 rfl ?_
  refine x_cVvE C (pc := 27) (st := []) (c_X7_keep l D z cI cZ cP cR N F k f0 hm pn spt wrg rd a ps sl sv sd wy pa nu   hM (by omega) (by omega) (by omega)  ) (cwV 0 C.2.2.2.2.1 gX7_limit_X7_keep rfl rfl rfl hd_X7_keep ⟨Nat.le_of_ble_eq_true rfl, Nat.le_of_ble_eq_true rfl⟩) (by omega) hM.ob rfl rfl rfl (Nat.le_of_ble_eq_true rfl) dX7_limit_27 ⟨Nat.le_of_ble_eq_true rfl, Nat.le_of_ble_eq_true rfl⟩ (fun F_27 h_27 => ?_)
  obtain ⟨hM_27, fr_27⟩ := h_27
  have kp_27 := kp_lt true (f0 := f0) (hm := hm) (by omega) (by omega)
  refine x_aload_n C (pc := 30) 0 dX7_limit_30 rfl ?_
  refine x_get C (pc := 31) (q := k) (v := .ref (z + (k + 1))) (ci := 7) rfl hn_X7_limit_X7 0 (by decide) fl_X7_limit_7 rfl (by omega) hM_27.ob rfl dX7_limit_31 ?_
  refine x_iconst C (pc := 34) (v := 1) dX7_limit_34 (by decide) ?_
  refine x_ialdE C (pc := 35) (q := k + 1) (j := 1) (f := a) (by omega) hM_27.a rfl (by omega) (by decide) dX7_limit_35 ?_
  refine x_eqi hA.2.1 ?_
  refine x_istore_n C (pc := 36) [(2, .int rl), (0, .ref (z + k)), (1, .int v)] dX7_limit_36 (by decide) rfl ?_
  refine x_aload_n C (pc := 37) 1 dX7_limit_37 rfl ?_
  refine x_get C (pc := 38) (q := k) (v := .ref (z + (k + 1))) (ci := 7) rfl hn_X7_limit_X7 0 (by decide) fl_X7_limit_7 rfl (by omega) hM_27.ob rfl dX7_limit_38 ?_
  refine x_iconst C (pc := 41) (v := 1) dX7_limit_41 (by decide) ?_
  refine x_iload_n C (pc := 42) 2 dX7_limit_42 rfl ?_
  refine xw_isMod_a C (pc := 43) (j := 1) hM_27 (by omega) rfl (by omega) dX7_limit_43 (fun F_43 hM_43 fr_43 => ?_)
  refine x_iload_n C (pc := 44) 0 dX7_limit_44 rfl ?_
  exact x_iret C hR0 rfl (Nat.le_of_ble_eq_true rfl) (Nat.le_of_ble_eq_true rfl) ⟨rfl, rfl, ⟨_, hM_43, mA_limit hA hv, (gFr.t2 fr_27 fr_43)⟩⟩ dX7_limit_45
set_option maxHeartbeats 4000000 in
set_option maxRecDepth 100000 in
theorem c_X7_seed_e (l : Launch) (D : va_G) (z : Nat) (cI cZ cP cR : ClassId) (N : Nat) (F : Nat → va_E) (k f0 hm : Nat) (pn spt wrg rd : Int32) (a ps sl sv sd wy pa nu : Nat → Int32) (n kk cw c0 : Nat) (wi rl sp : Int32) (pd : Nat → Nat → Int32) (od : Nat → Int32) (v : Int32) (hM : isMod z cI cZ F k (nI f0) (nI hm) pn spt wrg rd a ps sl sv sd wy pa nu) (hk : k + 9 ≤ N) (hf0 : f0 < 6) (hm6 : hm ≤ 6) (hA : mA a n kk cw c0 wi rl sp pd od) (hv : v < 0) : gMi l yX7_seed wsX7_seed ({ frames := 0, cells := 0, slots := 0, locals := 0 }) D z cI cZ cP cR N F [.ref (z + k), .int v] (gRes (-2) N (fun F2 => F2 = F)) 0 0 := by
  refine gMi.of (cc := cX7_seed) (maxL := 3) (ret := (some .int)) (by decide) rfl (Nat.le_of_ble_eq_true rfl) [(0, .ref (z + k)), (1, .int v)] rfl ?_
  intro pg ev sg mg bel me cg C hR0
  obtain ⟨ha0, ha1, ha2, ha3, ha4, hpd, hpl, hn, hkk, hcw, hcnt, hc0, hsp, hrl, hwi, hod⟩ := id hA
  have h2n := two_lt hn
  refine x_iload_n C (pc := 0) 1 dX7_seed_0 rfl ?_
  refine x_if_ge C (pc := 1) (tgt := 7) dX7_seed_1 (by decide) (fun c_1 => absurd c_1 (Int32.not_le.mpr hv)) (fun c_1 => ?_)
  refine x_bipush C (pc := 4) (v := (-2)) dX7_seed_4 (by decide) ?_
  exact x_iret C hR0 rfl (Nat.le_of_ble_eq_true rfl) (Nat.le_of_ble_eq_true rfl) ⟨rfl, rfl, rfl⟩ dX7_seed_6
theorem fl_X7_seed_7 : Cond.fieldLink RX7 7 "PileRecountModel" "at" "[I" ∈ wsX7_seed := by decide +kernel
theorem hn_X7_seed_X7 : ∀ w ∈ wsX70, w ∈ wsX7_seed := fun _ h => List.mem_cons_of_mem _ (List.mem_append_right _ h)
set_option maxHeartbeats 4000000 in
set_option maxRecDepth 100000 in
theorem c_X7_seed_s (l : Launch) (D : va_G) (z : Nat) (cI cZ cP cR : ClassId) (N : Nat) (F : Nat → va_E) (k f0 hm : Nat) (pn spt wrg rd : Int32) (a ps sl sv sd wy pa nu : Nat → Int32) (n kk cw c0 : Nat) (wi rl sp : Int32) (pd : Nat → Nat → Int32) (od : Nat → Int32) (v : Nat) (hM : isMod z cI cZ F k (nI f0) (nI hm) pn spt wrg rd a ps sl sv sd wy pa nu) (hk : k + 9 ≤ N) (hf0 : f0 < 6) (hm6 : hm ≤ 6) (hA : mA a n kk cw c0 wi rl sp pd od) (hv : v < 2 ^ 31) : gMi l yX7_seed wsX7_seed ({ frames := 1, cells := 0, slots := 0, locals := 22 }) D z cI cZ cP cR N F [.ref (z + k), .int (nI v)] (gRes (nI c0) N (fun F2 => ∃ a2 : Nat → Int32, isMod z cI cZ F2 k (nI (kpF true f0 hm)) (nI (kpM true hm)) pn spt wrg rd a2 (kpP true ps f0 hm a) sl sv sd wy pa nu ∧ mA a2 n kk cw v wi rl sp pd od ∧ gFr k (k + 9) F F2)) 0 0 := by
  refine gMi.of (cc := cX7_seed) (maxL := 3) (ret := (some .int)) (by decide) rfl (Nat.le_of_ble_eq_true rfl) [(0, .ref (z + k)), (1, .int (nI v))] rfl ?_
  intro pg ev sg mg bel me cg C hR0
  obtain ⟨ha0, ha1, ha2, ha3, ha4, hpd, hpl, hn, hkk, hcw, hcnt, hc0, hsp, hrl, hwi, hod⟩ := id hA
  have h2n := two_lt hn
  refine x_iload_n C (pc := 0) 1 dX7_seed_0 rfl ?_
  refine x_ifN_ge C (a := v) (pc := 1) (tgt := 7) (by omega) dX7_seed_1 (by decide) (fun c_1 => ?_) (fun c_1 => absurd c_1 (by omega))
  refine x_aload_n C (pc := 7) 0 dX7_seed_7 rfl ?_
  refine x_cVvE C (pc := 8) (st := []) (c_X7_keep l D z cI cZ cP cR N F k f0 hm pn spt wrg rd a ps sl sv sd wy pa nu   hM (by omega) (by omega) (by omega)  ) (cwV 0 C.2.2.2.2.1 gX7_seed_X7_keep rfl rfl rfl hd_X7_keep ⟨Nat.le_of_ble_eq_true rfl, Nat.le_of_ble_eq_true rfl⟩) (by omega) hM.ob rfl rfl rfl (Nat.le_of_ble_eq_true rfl) dX7_seed_8 ⟨Nat.le_of_ble_eq_true rfl, Nat.le_of_ble_eq_true rfl⟩ (fun F_8 h_8 => ?_)
  obtain ⟨hM_8, fr_8⟩ := h_8
  have kp_8 := kp_lt true (f0 := f0) (hm := hm) (by omega) (by omega)
  refine x_aload_n C (pc := 11) 0 dX7_seed_11 rfl ?_
  refine x_get C (pc := 12) (q := k) (v := .ref (z + (k + 1))) (ci := 7) rfl hn_X7_seed_X7 0 (by decide) fl_X7_seed_7 rfl (by omega) hM_8.ob rfl dX7_seed_12 ?_
  refine x_iconst C (pc := 15) (v := 2) dX7_seed_15 (by decide) ?_
  refine x_ialdE C (pc := 16) (q := k + 1) (j := 2) (f := a) (by omega) hM_8.a rfl (by omega) (by decide) dX7_seed_16 ?_
  refine x_eqi hA.2.2.1 ?_
  refine x_istore_n C (pc := 17) [(2, .int (nI c0)), (0, .ref (z + k)), (1, .int (nI v))] dX7_seed_17 (by decide) rfl ?_
  refine x_aload_n C (pc := 18) 1 dX7_seed_18 rfl ?_
  refine x_get C (pc := 19) (q := k) (v := .ref (z + (k + 1))) (ci := 7) rfl hn_X7_seed_X7 0 (by decide) fl_X7_seed_7 rfl (by omega) hM_8.ob rfl dX7_seed_19 ?_
  refine x_iconst C (pc := 22) (v := 2) dX7_seed_22 (by decide) ?_
  refine x_iload_n C (pc := 23) 2 dX7_seed_23 rfl ?_
  refine xw_isMod_a C (pc := 24) (j := 2) hM_8 (by omega) rfl (by omega) dX7_seed_24 (fun F_24 hM_24 fr_24 => ?_)
  refine x_iload_n C (pc := 25) 0 dX7_seed_25 rfl ?_
  exact x_iret C hR0 rfl (Nat.le_of_ble_eq_true rfl) (Nat.le_of_ble_eq_true rfl) ⟨rfl, rfl, ⟨_, hM_24, mA_seed hA hv, (gFr.t2 fr_8 fr_24)⟩⟩ dX7_seed_26
theorem fl_X7_countOne_7 : Cond.fieldLink RX7 7 "PileRecountModel" "at" "[I" ∈ wsX7_countOne := by decide +kernel
theorem hn_X7_countOne_X7 : ∀ w ∈ wsX70, w ∈ wsX7_countOne := fun _ h => List.mem_cons_of_mem _ (List.mem_append_right _ h)
set_option maxHeartbeats 4000000 in
set_option maxRecDepth 100000 in
theorem c_X7_countOne (l : Launch) (D : va_G) (z : Nat) (cI cZ cP cR : ClassId) (N : Nat) (F : Nat → va_E) (k : Nat) (pf pm pn spt wrg rd : Int32) (a ps sl sv sd wy pa nu : Nat → Int32) (n kk cw c0 : Nat) (wi rl sp : Int32) (pd : Nat → Nat → Int32) (od : Nat → Int32) (p : Nat) (hM : isMod z cI cZ F k pf pm pn spt wrg rd a ps sl sv sd wy pa nu) (hk : k + 9 ≤ N) (hA : mA a n kk cw c0 wi rl sp pd od) (hp : p < n) (hb : cw.testBit p = false) : gMv l yX7_countOne wsX7_countOne ({ frames := 0, cells := 0, slots := 0, locals := 0 }) D z cI cZ cP cR N F [.ref (z + k), .int (nI p)] (gVoid N (fun F2 => ∃ a2 : Nat → Int32, isMod z cI cZ F2 k pf pm pn spt wrg rd a2 ps sl sv sd wy pa nu ∧ mA a2 n (kk + 1) (cw ||| 2 ^ p) c0 wi rl sp pd (upd od kk (nI p)) ∧ gFr k (k + 9) F F2)) 0 0 := by
  refine gMv.of (cc := cX7_countOne) (maxL := 2) (ret := none) (by decide) rfl (Nat.le_of_ble_eq_true rfl) [(0, .ref (z + k)), (1, .int (nI p))] rfl ?_
  intro pg ev sg mg bel me cg C hR0
  obtain ⟨ha0, ha1, ha2, ha3, ha4, hpd, hpl, hn, hkk, hcw, hcnt, hc0, hsp, hrl, hwi, hod⟩ := id hA
  have h2n := two_lt hn
  refine x_aload_n C (pc := 0) 0 dX7_countOne_0 rfl ?_
  refine x_get C (pc := 1) (q := k) (v := .ref (z + (k + 1))) (ci := 7) rfl hn_X7_countOne_X7 0 (by decide) fl_X7_countOne_7 rfl (by omega) hM.ob rfl dX7_countOne_1 ?_
  refine x_iconst C (pc := 4) (v := 5) dX7_countOne_4 (by decide) ?_
  refine x_bipush C (pc := 5) (v := 6) dX7_countOne_5 (by decide) ?_
  refine x_iload_n C (pc := 7) 1 dX7_countOne_7 rfl ?_
  refine x_imul C (pc := 8) (v := nI (6 * p)) dX7_countOne_8 (pk_mul 6 p) ?_
  refine x_iadd C (pc := 9) (v := nI (5 + 6 * p)) dX7_countOne_9 (nI_add 5 (6 * p)) ?_
  refine x_iconst C (pc := 10) (v := 5) dX7_countOne_10 (by decide) ?_
  refine x_iadd C (pc := 11) (v := nI (5 + 6 * p + 5)) dX7_countOne_11 (nI_add (5 + 6 * p) 5) ?_
  refine x_aload_n C (pc := 12) 0 dX7_countOne_12 rfl ?_
  refine x_get C (pc := 13) (q := k) (v := .ref (z + (k + 1))) (ci := 7) rfl hn_X7_countOne_X7 0 (by decide) fl_X7_countOne_7 rfl (by omega) hM.ob rfl dX7_countOne_13 ?_
  refine x_iconst C (pc := 16) (v := 4) dX7_countOne_16 (by decide) ?_
  refine x_ialdE C (pc := 17) (q := k + 1) (j := 4) (f := a) (by omega) hM.a rfl (by omega) (by decide) dX7_countOne_17 ?_
  refine x_eqi hA.2.2.2.2.1 ?_
  refine xw_isMod_a C (pc := 18) (j := 5 + 6 * p + 5) hM (by omega) rfl (by omega) dX7_countOne_18 (fun F_18 hM_18 fr_18 => ?_)
  refine x_aload_n C (pc := 19) 0 dX7_countOne_19 rfl ?_
  refine x_get C (pc := 20) (q := k) (v := .ref (z + (k + 1))) (ci := 7) rfl hn_X7_countOne_X7 0 (by decide) fl_X7_countOne_7 rfl (by omega) hM_18.ob rfl dX7_countOne_20 ?_
  refine x_iconst C (pc := 23) (v := 4) dX7_countOne_23 (by decide) ?_
  refine x_dup2 C (pc := 24) dX7_countOne_24 rfl rfl ?_
  refine x_ialdE C (pc := 25) (q := k + 1) (j := 4) (f := upd a (5 + 6 * p + 5) (nI kk)) (by omega) hM_18.a rfl (by omega) (by decide) dX7_countOne_25 ?_
  refine x_eqi ((pk_un (by omega)).trans ha4) ?_
  refine x_iconst C (pc := 26) (v := 1) dX7_countOne_26 (by decide) ?_
  refine x_iadd C (pc := 27) (v := nI (kk + 1)) dX7_countOne_27 (nI_add kk 1) ?_
  refine xw_isMod_a C (pc := 28) (j := 4) hM_18 (by omega) rfl (by omega) dX7_countOne_28 (fun F_28 hM_28 fr_28 => ?_)
  exact x_vret C hR0 (Nat.le_of_ble_eq_true rfl) (Nat.le_of_ble_eq_true rfl) ⟨rfl, ⟨_, hM_28, mA_count hA hp hb, (gFr.t2 fr_18 fr_28)⟩⟩ dX7_countOne_29
theorem fl_X7_drawOne_7 : Cond.fieldLink RX7 7 "PileRecountModel" "at" "[I" ∈ wsX7_drawOne := by decide +kernel
theorem hn_X7_drawOne_X7 : ∀ w ∈ wsX70, w ∈ wsX7_drawOne := fun _ h => List.mem_cons_of_mem _ (List.mem_append_right _ h)
theorem kc_X7_drawOne_137 : Cond.constantLong RX7 137 (1103515245) ∈ wsX7_drawOne := by decide +kernel
theorem kc_X7_drawOne_139 : Cond.constantLong RX7 139 (12345) ∈ wsX7_drawOne := by decide +kernel
theorem kc_X7_drawOne_141 : Cond.constantLong RX7 141 (2147483648) ∈ wsX7_drawOne := by decide +kernel
theorem kc_X7_drawOne_143 : Cond.constant RX7 143 (65536) ∈ wsX7_drawOne := by decide +kernel
set_option maxHeartbeats 4000000 in
set_option maxRecDepth 100000 in
theorem c_X7_drawOne (l : Launch) (D : va_G) (z : Nat) (cI cZ cP cR : ClassId) (N : Nat) (F : Nat → va_E) (k : Nat) (pf pm pn spt wrg rd : Int32) (a ps sl sv sd wy pa nu : Nat → Int32) (n kk cw c0 : Nat) (wi rl sp : Int32) (pd : Nat → Nat → Int32) (od : Nat → Int32) (i : Nat) (hM : isMod z cI cZ F k pf pm pn spt wrg rd a ps sl sv sd wy pa nu) (hk : k + 9 ≤ N) (hA : mA a n kk cw c0 wi rl sp pd od) (hk1 : kk < n) (hnc : ncG cw (lcgN c0 / 65536 % (n - kk)) n 0 0 = some i) : gMi l yX7_drawOne wsX7_drawOne ({ frames := 2, cells := 0, slots := 0, locals := 43 }) D z cI cZ cP cR N F [.ref (z + k)] (gRes (nI i) N (fun F2 => ∃ a2 : Nat → Int32, isMod z cI cZ F2 k pf pm pn spt wrg rd a2 ps sl sv sd wy pa nu ∧ mA a2 n (kk + 1) (cw ||| 2 ^ i) (lcgN c0) wi rl sp pd (upd od kk (nI i)) ∧ gFr k (k + 9) F F2)) 0 0 := by
  refine gMi.of (cc := cX7_drawOne) (maxL := 3) (ret := (some .int)) (by decide) rfl (Nat.le_of_ble_eq_true rfl) [(0, .ref (z + k))] rfl ?_
  intro pg ev sg mg bel me cg C hR0
  obtain ⟨ha0, ha1, ha2, ha3, ha4, hpd, hpl, hn, hkk, hcw, hcnt, hc0, hsp, hrl, hwi, hod⟩ := id hA
  have h2n := two_lt hn
  have hin := ncG_some _ _ _ _ hnc
  have hlc := lcgN_lt c0
  have hml : lcgN c0 / 65536 % (n - kk) < n - kk := Nat.mod_lt _ (by omega)
  have hdv : lcgN c0 / 65536 ≤ lcgN c0 := Nat.div_le_self _ _
  refine x_aload_n C (pc := 0) 0 dX7_drawOne_0 rfl ?_
  refine x_get C (pc := 1) (q := k) (v := .ref (z + (k + 1))) (ci := 7) rfl hn_X7_drawOne_X7 0 (by decide) fl_X7_drawOne_7 rfl (by omega) hM.ob rfl dX7_drawOne_1 ?_
  refine x_iconst C (pc := 4) (v := 2) dX7_drawOne_4 (by decide) ?_
  refine x_aload_n C (pc := 5) 0 dX7_drawOne_5 rfl ?_
  refine x_get C (pc := 6) (q := k) (v := .ref (z + (k + 1))) (ci := 7) rfl hn_X7_drawOne_X7 0 (by decide) fl_X7_drawOne_7 rfl (by omega) hM.ob rfl dX7_drawOne_6 ?_
  refine x_iconst C (pc := 9) (v := 2) dX7_drawOne_9 (by decide) ?_
  refine x_ialdE C (pc := 10) (q := k + 1) (j := 2) (f := a) (by omega) hM.a rfl (by omega) (by decide) dX7_drawOne_10 ?_
  refine x_eqi hA.2.2.1 ?_
  refine x_i2l C (pc := 11) (v := lN c0) dX7_drawOne_11 (nI_l hc0) ?_
  refine x_ldc2 C (pc := 12) (v := 1103515245) kc_X7_drawOne_137 dX7_drawOne_12 ?_
  refine x_lmul C (pc := 15) (v := lN (c0 * 1103515245)) dX7_drawOne_15 (lN_mul c0 1103515245) ?_
  refine x_ldc2 C (pc := 16) (v := 12345) kc_X7_drawOne_139 dX7_drawOne_16 ?_
  refine x_ladd C (pc := 19) (v := lN (c0 * 1103515245 + 12345)) dX7_drawOne_19 (lN_add _ 12345) ?_
  refine x_ldc2 C (pc := 20) (v := 2147483648) kc_X7_drawOne_141 dX7_drawOne_20 ?_
  refine x_lrem C (pc := 23) (v := lN (lcgN c0)) dX7_drawOne_23 (by decide) (pk_lRem (b := 2147483648) (by omega) (by decide) (by decide)) ?_
  refine x_l2i C (pc := 24) (v := nI (lcgN c0)) dX7_drawOne_24 (lN_i _) ?_
  refine xw_isMod_a C (pc := 25) (j := 2) hM (by omega) rfl (by omega) dX7_drawOne_25 (fun F_25 hM_25 fr_25 => ?_)
  have hA1 := mA_seed hA (lcgN_lt c0)
  refine x_aload_n C (pc := 26) 0 dX7_drawOne_26 rfl ?_
  refine x_get C (pc := 27) (q := k) (v := .ref (z + (k + 1))) (ci := 7) rfl hn_X7_drawOne_X7 0 (by decide) fl_X7_drawOne_7 rfl (by omega) hM_25.ob rfl dX7_drawOne_27 ?_
  refine x_iconst C (pc := 30) (v := 2) dX7_drawOne_30 (by decide) ?_
  refine x_ialdE C (pc := 31) (q := k + 1) (j := 2) (f := upd a 2 (nI (lcgN c0))) (by omega) hM_25.a rfl (by omega) (by decide) dX7_drawOne_31 ?_
  refine x_eqi hA1.2.2.1 ?_
  refine x_ldc C (pc := 32) (v := 65536) kc_X7_drawOne_143 dX7_drawOne_32 ?_
  refine x_idiv C (pc := 34) (v := nI (lcgN c0 / 65536)) dX7_drawOne_34 (by decide) (pk_div (d := 65536) (by omega) (by decide) (by decide)) ?_
  refine x_aload_n C (pc := 35) 0 dX7_drawOne_35 rfl ?_
  refine x_get C (pc := 36) (q := k) (v := .ref (z + (k + 1))) (ci := 7) rfl hn_X7_drawOne_X7 0 (by decide) fl_X7_drawOne_7 rfl (by omega) hM_25.ob rfl dX7_drawOne_36 ?_
  refine x_iconst C (pc := 39) (v := 0) dX7_drawOne_39 (by decide) ?_
  refine x_ialdE C (pc := 40) (q := k + 1) (j := 0) (f := upd a 2 (nI (lcgN c0))) (by omega) hM_25.a rfl (by omega) (by decide) dX7_drawOne_40 ?_
  refine x_eqi hA1.1 ?_
  refine x_aload_n C (pc := 41) 0 dX7_drawOne_41 rfl ?_
  refine x_get C (pc := 42) (q := k) (v := .ref (z + (k + 1))) (ci := 7) rfl hn_X7_drawOne_X7 0 (by decide) fl_X7_drawOne_7 rfl (by omega) hM_25.ob rfl dX7_drawOne_42 ?_
  refine x_iconst C (pc := 45) (v := 4) dX7_drawOne_45 (by decide) ?_
  refine x_ialdE C (pc := 46) (q := k + 1) (j := 4) (f := upd a 2 (nI (lcgN c0))) (by omega) hM_25.a rfl (by omega) (by decide) dX7_drawOne_46 ?_
  refine x_eqi hA1.2.2.2.2.1 ?_
  refine x_isub C (pc := 47) (v := nI (n - kk)) dX7_drawOne_47 (pk_sub (a := n) (b := kk) (by omega)) ?_
  refine x_irem C (pc := 48) (v := nI (lcgN c0 / 65536 % (n - kk))) dX7_drawOne_48 (nI_ne0 (by omega) (by omega)) (pk_rem (by omega) (by omega) (by omega)) ?_
  refine x_istore_n C (pc := 49) [(1, .int (nI (lcgN c0 / 65536 % (n - kk)))), (0, .ref (z + k))] dX7_drawOne_49 (by decide) rfl ?_
  generalize lcgN c0 / 65536 % (n - kk) = pl at hnc hml ⊢
  refine x_iconst C (pc := 50) (v := 0) dX7_drawOne_50 (by decide) ?_
  refine x_istore_n C (pc := 51) [(2, .int 0), (1, .int (nI pl)), (0, .ref (z + k))] dX7_drawOne_51 (by decide) rfl ?_
  refine x_sub [2, 1, 0] _ rfl ?_
  refine x_loop2 (A1 := Nat) (A2 := Nat) (pc := 52) (st := []) (fun j m => n - j) (fun j m => (j < n) ∧ (m ≤ pl) ∧ (ncG cw pl (n - j) j (pl - m) = some i)) (fun j m => N) (fun j m => F_25) (fun j m => 0) (fun j m => 0) (fun j m => [(0, .ref (z + k)), (1, .int (nI m)), (2, .int (nI j))]) 0 pl ⟨(by omega), (Nat.le_refl _), (by rw [Nat.sub_self]; exact hnc)⟩ rfl rfl rfl rfl rfl ?_
  rintro j m ⟨hj, hm, hnj⟩ ih_52
  try dsimp only at ih_52
  have hf : n - j = n - (j + 1) + 1 := by omega
  refine x_aload_n C (pc := 52) 0 dX7_drawOne_52 rfl ?_
  refine x_iload_n C (pc := 53) 2 dX7_drawOne_53 rfl ?_
  refine x_cViR C (pc := 54) (st := []) (c_X7_isCounted l D z cI cZ cP cR N F_25 k pf pm pn spt wrg rd (upd a 2 (nI (lcgN c0))) ps sl sv sd wy pa nu n kk cw (lcgN c0) wi rl sp pd od j hM_25 (by omega) hA1 (by omega)) (cwV 1 C.2.2.2.2.1 gX7_drawOne_X7_isCounted rfl rfl rfl hd_X7_isCounted ⟨Nat.le_of_ble_eq_true rfl, Nat.le_of_ble_eq_true rfl⟩) (by omega) hM_25.ob rfl rfl rfl (Nat.le_of_ble_eq_true rfl) dX7_drawOne_54 ⟨Nat.le_of_ble_eq_true rfl, Nat.le_of_ble_eq_true rfl⟩ ?_
  refine x_bz_ne C (pc := 57) (tgt := 64) dX7_drawOne_57 (by decide) (fun c_57 => ?_) (fun c_57 => ?_)
  · refine x_iload_n C (pc := 64) 1 dX7_drawOne_64 rfl ?_
    refine x_aload_n C (pc := 65) 0 dX7_drawOne_65 rfl ?_
    refine x_iload_n C (pc := 66) 2 dX7_drawOne_66 rfl ?_
    refine x_cViR C (pc := 67) (st := [.int (nI m)]) (c_X7_isCounted l D z cI cZ cP cR N F_25 k pf pm pn spt wrg rd (upd a 2 (nI (lcgN c0))) ps sl sv sd wy pa nu n kk cw (lcgN c0) wi rl sp pd od j hM_25 (by omega) hA1 (by omega)) (cwV 1 C.2.2.2.2.1 gX7_drawOne_X7_isCounted rfl rfl rfl hd_X7_isCounted ⟨Nat.le_of_ble_eq_true rfl, Nat.le_of_ble_eq_true rfl⟩) (by omega) hM_25.ob rfl rfl rfl (Nat.le_of_ble_eq_true rfl) dX7_drawOne_67 ⟨Nat.le_of_ble_eq_true rfl, Nat.le_of_ble_eq_true rfl⟩ ?_
    refine x_bz_eq C (pc := 70) (tgt := 77) dX7_drawOne_70 (by decide) (fun c_70 => absurd c_70 (by rw [c_57]; decide)) (fun c_70 => ?_)
    have hst : ncG cw pl (n - (j + 1)) (j + 1) (pl - m) = some i := by rw [← hnj, hf, ncG, if_pos c_57]
    refine x_iconst C (pc := 73) (v := 0) dX7_drawOne_73 (by decide) ?_
    refine x_goto C (pc := 74) (tgt := 78) dX7_drawOne_74 (by decide) ?_
    refine x_isub C (pc := 78) (v := nI m) dX7_drawOne_78 (pk_sub (a := m) (b := 0) (Nat.zero_le _)) ?_
    refine x_istore_n C (pc := 79) [(1, .int (nI m)), (0, .ref (z + k)), (2, .int (nI j))] dX7_drawOne_79 (by decide) rfl ?_
    refine x_iinc C (pc := 80) 2 [(2, .int (nI (j + 1))), (1, .int (nI m)), (0, .ref (z + k))] dX7_drawOne_80 rfl (nI_inc j) (by decide) rfl ?_
    refine x_goto C (pc := 83) (tgt := 52) dX7_drawOne_83 (by decide) ?_
    exact x_sub [2, 1, 0] _ rfl (ih_52 (j + 1) m ⟨(by have := ncG_some _ _ _ _ hst; omega), (by omega), hst⟩ (by omega))
  refine x_iload_n C (pc := 60) 1 dX7_drawOne_60 rfl ?_
  refine x_ifN_le C (a := m) (pc := 61) (tgt := 86) (by omega) dX7_drawOne_61 (by decide) (fun c_61 => ?_) (fun c_61 => ?_)
  · have hij : j = i := by rw [hf, ncG, if_neg (by rw [c_57]; decide), if_pos (by omega)] at hnj; exact Option.some.inj hnj
    subst hij
    refine x_aload_n C (pc := 86) 0 dX7_drawOne_86 rfl ?_
    refine x_iload_n C (pc := 87) 2 dX7_drawOne_87 rfl ?_
    refine x_cVvE C (pc := 88) (st := []) (c_X7_countOne l D z cI cZ cP cR N F_25 k pf pm pn spt wrg rd (upd a 2 (nI (lcgN c0))) ps sl sv sd wy pa nu n kk cw (lcgN c0) wi rl sp pd od j hM_25 (by omega) hA1 (by omega) c_57) (cwV 1 C.2.2.2.2.1 gX7_drawOne_X7_countOne rfl rfl rfl hd_X7_countOne ⟨Nat.le_of_ble_eq_true rfl, Nat.le_of_ble_eq_true rfl⟩) (by omega) hM_25.ob rfl rfl rfl (Nat.le_of_ble_eq_true rfl) dX7_drawOne_88 ⟨Nat.le_of_ble_eq_true rfl, Nat.le_of_ble_eq_true rfl⟩ (fun F_88 h_88 => ?_)
    obtain ⟨a_88, hM_88, hA_88, fr_88⟩ := h_88
    refine x_iload_n C (pc := 91) 2 dX7_drawOne_91 rfl ?_
    exact x_iret C hR0 rfl (Nat.le_of_ble_eq_true rfl) (Nat.le_of_ble_eq_true rfl) ⟨rfl, rfl, ⟨_, hM_88, hA_88, (gFr.t2 fr_25 fr_88)⟩⟩ dX7_drawOne_92
  refine x_iload_n C (pc := 64) 1 dX7_drawOne_64 rfl ?_
  refine x_aload_n C (pc := 65) 0 dX7_drawOne_65 rfl ?_
  refine x_iload_n C (pc := 66) 2 dX7_drawOne_66 rfl ?_
  refine x_cViR C (pc := 67) (st := [.int (nI m)]) (c_X7_isCounted l D z cI cZ cP cR N F_25 k pf pm pn spt wrg rd (upd a 2 (nI (lcgN c0))) ps sl sv sd wy pa nu n kk cw (lcgN c0) wi rl sp pd od j hM_25 (by omega) hA1 (by omega)) (cwV 1 C.2.2.2.2.1 gX7_drawOne_X7_isCounted rfl rfl rfl hd_X7_isCounted ⟨Nat.le_of_ble_eq_true rfl, Nat.le_of_ble_eq_true rfl⟩) (by omega) hM_25.ob rfl rfl rfl (Nat.le_of_ble_eq_true rfl) dX7_drawOne_67 ⟨Nat.le_of_ble_eq_true rfl, Nat.le_of_ble_eq_true rfl⟩ ?_
  refine x_bz_eq C (pc := 70) (tgt := 77) dX7_drawOne_70 (by decide) (fun c_70 => ?_) (fun c_70 => absurd c_70 (by rw [c_57]; decide))
  have hst : ncG cw pl (n - (j + 1)) (j + 1) (pl - (m - 1)) = some i := by rw [← hnj, hf, ncG, if_neg (by rw [c_57]; decide), if_neg (by omega), show pl - (m - 1) = pl - m + 1 by omega]
  refine x_iconst C (pc := 77) (v := 1) dX7_drawOne_77 (by decide) ?_
  refine x_isub C (pc := 78) (v := nI (m - 1)) dX7_drawOne_78 (pk_sub (a := m) (b := 1) (by omega)) ?_
  refine x_istore_n C (pc := 79) [(1, .int (nI (m - 1))), (0, .ref (z + k)), (2, .int (nI j))] dX7_drawOne_79 (by decide) rfl ?_
  refine x_iinc C (pc := 80) 2 [(2, .int (nI (j + 1))), (1, .int (nI (m - 1))), (0, .ref (z + k))] dX7_drawOne_80 rfl (nI_inc j) (by decide) rfl ?_
  refine x_goto C (pc := 83) (tgt := 52) dX7_drawOne_83 (by decide) ?_
  exact x_sub [2, 1, 0] _ rfl (ih_52 (j + 1) (m - 1) ⟨(by have := ncG_some _ _ _ _ hst; omega), (by omega), hst⟩ (by omega))
