theorem kc_X7_put_188 : Cond.constantLong RX7 188 (255) ∈ wsX7_put := by decide +kernel
set_option maxHeartbeats 4000000 in
set_option maxRecDepth 100000 in
theorem c_X7_put_e1 (l : Launch) (D : va_G) (z : Nat) (cI cZ cP cR : ClassId) (N : Nat) (F : Nat → va_E) (k len X : Nat) (pf pm spt wrg rd : Int32) (a ps sl sv sd wy pa nu : Nat → Int32) (hM : isMod z cI cZ F k pf pm (nI len) spt wrg rd a ps sl sv sd wy pa nu) (hk : k + 9 ≤ N) (hlen : len ≤ 80) (hC : X < 2 ^ 64) (hm : chN X = 0) : gMi l yX7_put wsX7_put ({ frames := 1, cells := 0, slots := 0, locals := 22 }) D z cI cZ cP cR N F [.ref (z + k), .long (lN X)] (gRes (-2) N (fun F2 => F2 = F)) 0 0 := by
  refine gMi.of (cc := cX7_put) (maxL := 7) (ret := (some .int)) (by decide) rfl (Nat.le_of_ble_eq_true rfl) [(0, .ref (z + k)), (1, .long (lN X))] rfl ?_
  intro pg ev sg mg bel me cg C hR0
  refine x_iconst C (pc := 0) (v := 0) dX7_put_0 (by decide) ?_
  refine x_istore_n C (pc := 1) [(3, .int 0), (0, .ref (z + k)), (1, .long (lN X))] dX7_put_1 (by decide) rfl ?_
  refine x_lload_n C (pc := 2) 2 dX7_put_2 rfl ?_
  refine x_lstore C (pc := 3) [(4, .long (lN X)), (3, .int 0), (0, .ref (z + k)), (1, .long (lN X))] dX7_put_3 (by decide) rfl ?_
  refine x_eqL [(4, .long (lN (X / 256 ^ 0))), (3, .int 0), (0, .ref (z + k)), (1, .long (lN X))] (by rw [Nat.pow_zero, Nat.div_one]) ?_
  refine x_sub [2, 3, 1, 0] _ rfl ?_
  refine x_loop1 (A1 := Nat) (pc := 5) (st := []) (fun i => 8 - i) (fun i => (i ≤ 8) ∧ (chG X (8 - i) i = chG X 8 0)) (fun i => N) (fun i => F) (fun i => 0) (fun i => 0) (fun i => [(0, .ref (z + k)), (1, .long (lN X)), (3, .int (nI i)), (4, .long (lN (X / 256 ^ i)))]) 0 ⟨(by decide), rfl⟩ rfl rfl rfl rfl rfl ?_
  rintro i ⟨hi, hch⟩ ih_5
  try dsimp only at ih_5
  have hbl := byN_lt X i
  have hdl := dv_lt hC i
  refine x_iload_n C (pc := 5) 2 dX7_put_5 rfl ?_
  refine x_bipush C (pc := 6) (v := 8) dX7_put_6 (by decide) ?_
  refine x_icmpN_ge C (a := i) (b := 8) (pc := 8) (tgt := 55) (by omega) (by omega) dX7_put_8 (by decide) (fun c_8 => ?_) (fun c_8 => ?_)
  · have hex : chG X 8 0 = some i := by
      rw [← hch]
      cases hq : 8 - i with
      | zero => rfl
      | succ f => rw [chG, if_pos (by first | exact (lc0 (by omega)).mp c_19 | omega)]
    refine x_iload_n C (pc := 55) 2 dX7_put_55 rfl ?_
    refine x_ifN_eq C (a := i) (pc := 56) (tgt := 66) (by omega) dX7_put_56 (by decide) (fun c_56 => ?_) (fun c_56 => ?_)
    · refine x_bipush C (pc := 66) (v := (-2)) dX7_put_66 (by decide) ?_
      exact x_iret C hR0 rfl (Nat.le_of_ble_eq_true rfl) (Nat.le_of_ble_eq_true rfl) ⟨rfl, rfl, rfl⟩ dX7_put_68
    refine x_lload C (pc := 59) 3 dX7_put_59 rfl ?_
    refine x_lconst C (pc := 61) (v := 0) dX7_put_61 (by decide) ?_
    refine x_lcmp C (pc := 62) dX7_put_62 ?_
    refine x_if_eq C (pc := 63) (tgt := 69) dX7_put_63 (by decide) (fun c_63 => ?_) (fun c_63 => ?_)
    · exfalso; have h9 := chN_of hex ((lc0 hdl).mp c_63); omega
    refine x_bipush C (pc := 66) (v := (-2)) dX7_put_66 (by decide) ?_
    exact x_iret C hR0 rfl (Nat.le_of_ble_eq_true rfl) (Nat.le_of_ble_eq_true rfl) ⟨rfl, rfl, rfl⟩ dX7_put_68
  refine x_lload C (pc := 11) 3 dX7_put_11 rfl ?_
  refine x_ldc2 C (pc := 13) (v := 255) kc_X7_put_188 dX7_put_13 ?_
  refine x_land C (pc := 16) (v := lN (byN X i)) dX7_put_16 (lw_mask hdl) ?_
  refine x_lconst C (pc := 17) (v := 0) dX7_put_17 (by decide) ?_
  refine x_lcmp C (pc := 18) dX7_put_18 ?_
  refine x_if_eq C (pc := 19) (tgt := 55) dX7_put_19 (by decide) (fun c_19 => ?_) (fun c_19 => ?_)
  · have hex : chG X 8 0 = some i := by
      rw [← hch]
      cases hq : 8 - i with
      | zero => rfl
      | succ f => rw [chG, if_pos (by first | exact (lc0 (by omega)).mp c_19 | omega)]
    refine x_iload_n C (pc := 55) 2 dX7_put_55 rfl ?_
    refine x_ifN_eq C (a := i) (pc := 56) (tgt := 66) (by omega) dX7_put_56 (by decide) (fun c_56 => ?_) (fun c_56 => ?_)
    · refine x_bipush C (pc := 66) (v := (-2)) dX7_put_66 (by decide) ?_
      exact x_iret C hR0 rfl (Nat.le_of_ble_eq_true rfl) (Nat.le_of_ble_eq_true rfl) ⟨rfl, rfl, rfl⟩ dX7_put_68
    refine x_lload C (pc := 59) 3 dX7_put_59 rfl ?_
    refine x_lconst C (pc := 61) (v := 0) dX7_put_61 (by decide) ?_
    refine x_lcmp C (pc := 62) dX7_put_62 ?_
    refine x_if_eq C (pc := 63) (tgt := 69) dX7_put_63 (by decide) (fun c_63 => ?_) (fun c_63 => ?_)
    · exfalso; have h9 := chN_of hex ((lc0 hdl).mp c_63); omega
    refine x_bipush C (pc := 66) (v := (-2)) dX7_put_66 (by decide) ?_
    exact x_iret C hR0 rfl (Nat.le_of_ble_eq_true rfl) (Nat.le_of_ble_eq_true rfl) ⟨rfl, rfl, rfl⟩ dX7_put_68
  refine x_lload C (pc := 22) 3 dX7_put_22 rfl ?_
  refine x_ldc2 C (pc := 24) (v := 255) kc_X7_put_188 dX7_put_24 ?_
  refine x_land C (pc := 27) (v := lN (byN X i)) dX7_put_27 (lw_mask hdl) ?_
  refine x_l2i C (pc := 28) (v := nI (byN X i)) dX7_put_28 (lN_i _) ?_
  refine x_bipush C (pc := 29) (v := 33) dX7_put_29 (by decide) ?_
  refine x_bipush C (pc := 31) (v := 126) dX7_put_31 (by decide) ?_
  refine x_cSiR C (pc := 33) (st := []) (c_X7_in l D z cI cZ cP cR N F (nI (byN X i)) 33 126) (va_cwS 3 C.2.2.2.2.1 gX7_put_X7_in rfl rfl rfl hd_X7_in.2 ⟨Nat.le_of_ble_eq_true rfl, Nat.le_of_ble_eq_true rfl⟩) rfl rfl (Nat.le_of_ble_eq_true rfl) dX7_put_33 ⟨Nat.le_of_ble_eq_true rfl, Nat.le_of_ble_eq_true rfl⟩ ?_
  refine x_bz_ne C (pc := 36) (tgt := 42) dX7_put_36 (by decide) (fun c_36 => ?_) (fun c_36 => ?_)
  · have hin : 33 ≤ byN X i ∧ byN X i ≤ 126 := by rw [chr_in hbl] at c_36; simpa using c_36
    refine x_iinc C (pc := 42) 2 [(3, .int (nI (i + 1))), (0, .ref (z + k)), (1, .long (lN X)), (4, .long (lN (X / 256 ^ i)))] dX7_put_42 rfl (nI_inc i) (by decide) rfl ?_
    refine x_lload C (pc := 45) 3 dX7_put_45 rfl ?_
    refine x_bipush C (pc := 47) (v := 8) dX7_put_47 (by decide) ?_
    refine x_lushr C (pc := 49) (v := lN (X / 256 ^ (i + 1))) dX7_put_49 (lw_next hC) ?_
    refine x_lstore C (pc := 50) [(4, .long (lN (X / 256 ^ (i + 1)))), (3, .int (nI (i + 1))), (0, .ref (z + k)), (1, .long (lN X))] dX7_put_50 (by decide) rfl ?_
    refine x_goto C (pc := 52) (tgt := 5) dX7_put_52 (by decide) ?_
    exact x_sub [2, 3, 1, 0] _ rfl (ih_5 (i + 1) ⟨(by omega), (by rw [← hch, show 8 - i = 8 - (i + 1) + 1 by omega, chG, if_neg (fun h => c_19 ((lc0 (by omega)).mpr h)), if_pos hin])⟩ (by omega))
  have hno : chG X 8 0 = none := by rw [← hch, show 8 - i = 8 - (i + 1) + 1 by omega, chG, if_neg (fun h => c_19 ((lc0 (by omega)).mpr h)), if_neg (fun h => by rw [chr_in hbl] at c_36; simp [h.1, h.2] at c_36)]
  refine x_bipush C (pc := 39) (v := (-2)) dX7_put_39 (by decide) ?_
  exact x_iret C hR0 rfl (Nat.le_of_ble_eq_true rfl) (Nat.le_of_ble_eq_true rfl) ⟨rfl, rfl, rfl⟩ dX7_put_41
theorem fl_X7_put_173 : Cond.fieldLink RX7 173 "PileRecountModel" "padMany" "I" ∈ wsX7_put := by decide +kernel
theorem hn_X7_put_X7 : ∀ w ∈ wsX70, w ∈ wsX7_put := fun _ h => List.mem_cons_of_mem _ (List.mem_append_right _ h)
set_option maxHeartbeats 4000000 in
set_option maxRecDepth 100000 in
theorem c_X7_put_e2 (l : Launch) (D : va_G) (z : Nat) (cI cZ cP cR : ClassId) (N : Nat) (F : Nat → va_E) (k len X : Nat) (pf pm spt wrg rd : Int32) (a ps sl sv sd wy pa nu : Nat → Int32) (hM : isMod z cI cZ F k pf pm (nI len) spt wrg rd a ps sl sv sd wy pa nu) (hk : k + 9 ≤ N) (hlen : len ≤ 80) (hC : X < 2 ^ 64) (hm : ¬ chN X = 0) (hov : 80 < len + chN X) : gMi l yX7_put wsX7_put ({ frames := 1, cells := 0, slots := 0, locals := 22 }) D z cI cZ cP cR N F [.ref (z + k), .long (lN X)] (gRes (-4) N (fun F2 => F2 = F)) 0 0 := by
  refine gMi.of (cc := cX7_put) (maxL := 7) (ret := (some .int)) (by decide) rfl (Nat.le_of_ble_eq_true rfl) [(0, .ref (z + k)), (1, .long (lN X))] rfl ?_
  intro pg ev sg mg bel me cg C hR0
  have hpos := chN_pos hm
  refine x_iconst C (pc := 0) (v := 0) dX7_put_0 (by decide) ?_
  refine x_istore_n C (pc := 1) [(3, .int 0), (0, .ref (z + k)), (1, .long (lN X))] dX7_put_1 (by decide) rfl ?_
  refine x_lload_n C (pc := 2) 2 dX7_put_2 rfl ?_
  refine x_lstore C (pc := 3) [(4, .long (lN X)), (3, .int 0), (0, .ref (z + k)), (1, .long (lN X))] dX7_put_3 (by decide) rfl ?_
  refine x_eqL [(4, .long (lN (X / 256 ^ 0))), (3, .int 0), (0, .ref (z + k)), (1, .long (lN X))] (by rw [Nat.pow_zero, Nat.div_one]) ?_
  refine x_sub [2, 3, 1, 0] _ rfl ?_
  refine x_loop1 (A1 := Nat) (pc := 5) (st := []) (fun i => 8 - i) (fun i => (i ≤ 8) ∧ (chG X (8 - i) i = chG X 8 0)) (fun i => N) (fun i => F) (fun i => 0) (fun i => 0) (fun i => [(0, .ref (z + k)), (1, .long (lN X)), (3, .int (nI i)), (4, .long (lN (X / 256 ^ i)))]) 0 ⟨(by decide), rfl⟩ rfl rfl rfl rfl rfl ?_
  rintro i ⟨hi, hch⟩ ih_5
  try dsimp only at ih_5
  have hbl := byN_lt X i
  have hdl := dv_lt hC i
  refine x_iload_n C (pc := 5) 2 dX7_put_5 rfl ?_
  refine x_bipush C (pc := 6) (v := 8) dX7_put_6 (by decide) ?_
  refine x_icmpN_ge C (a := i) (b := 8) (pc := 8) (tgt := 55) (by omega) (by omega) dX7_put_8 (by decide) (fun c_8 => ?_) (fun c_8 => ?_)
  · have hex : chG X 8 0 = some i := by
      rw [← hch]
      cases hq : 8 - i with
      | zero => rfl
      | succ f => rw [chG, if_pos (by first | exact (lc0 (by omega)).mp c_19 | omega)]
    refine x_iload_n C (pc := 55) 2 dX7_put_55 rfl ?_
    refine x_ifN_eq C (a := i) (pc := 56) (tgt := 66) (by omega) dX7_put_56 (by decide) (fun c_56 => ?_) (fun c_56 => ?_)
    · exfalso; have h9 : i = chN X := Option.some.inj (hex.symm.trans hpos.1); first | omega | (apply c_63; rw [h9]; exact (lc0 (by rw [hpos.2.1]; decide)).mpr hpos.2.1)
    refine x_lload C (pc := 59) 3 dX7_put_59 rfl ?_
    refine x_lconst C (pc := 61) (v := 0) dX7_put_61 (by decide) ?_
    refine x_lcmp C (pc := 62) dX7_put_62 ?_
    refine x_if_eq C (pc := 63) (tgt := 69) dX7_put_63 (by decide) (fun c_63 => ?_) (fun c_63 => ?_)
    · have him : i = chN X := Option.some.inj (hex.symm.trans hpos.1)
      refine x_sub [0, 1, 2] [(0, .ref (z + k)), (1, .long (lN X)), (3, .int (nI i))] rfl ?_
      refine x_eqL [(0, .ref (z + k)), (1, .long (lN X)), (3, .int (nI (chN X)))] (by rw [him]) ?_
      refine x_aload_n C (pc := 69) 0 dX7_put_69 rfl ?_
      refine x_get C (pc := 70) (q := k) (v := .int (nI len)) (ci := 7) rfl hn_X7_put_X7 9 (by decide) fl_X7_put_173 rfl (by omega) hM.ob rfl dX7_put_70 ?_
      refine x_iload_n C (pc := 73) 2 dX7_put_73 rfl ?_
      refine x_iadd C (pc := 74) (v := nI (len + chN X)) dX7_put_74 (nI_add len (chN X)) ?_
      refine x_bipush C (pc := 75) (v := 80) dX7_put_75 (by decide) ?_
      refine x_icmpN_le C (a := len + chN X) (b := 80) (pc := 77) (tgt := 83) (by omega) (by omega) dX7_put_77 (by decide) (fun c_77 => absurd c_77 (by omega)) (fun c_77 => ?_)
      refine x_bipush C (pc := 80) (v := (-4)) dX7_put_80 (by decide) ?_
      exact x_iret C hR0 rfl (Nat.le_of_ble_eq_true rfl) (Nat.le_of_ble_eq_true rfl) ⟨rfl, rfl, rfl⟩ dX7_put_82
    exfalso; have h9 : i = chN X := Option.some.inj (hex.symm.trans hpos.1); first | omega | (apply c_63; rw [h9]; exact (lc0 (by rw [hpos.2.1]; decide)).mpr hpos.2.1)
  refine x_lload C (pc := 11) 3 dX7_put_11 rfl ?_
  refine x_ldc2 C (pc := 13) (v := 255) kc_X7_put_188 dX7_put_13 ?_
  refine x_land C (pc := 16) (v := lN (byN X i)) dX7_put_16 (lw_mask hdl) ?_
  refine x_lconst C (pc := 17) (v := 0) dX7_put_17 (by decide) ?_
  refine x_lcmp C (pc := 18) dX7_put_18 ?_
  refine x_if_eq C (pc := 19) (tgt := 55) dX7_put_19 (by decide) (fun c_19 => ?_) (fun c_19 => ?_)
  · have hex : chG X 8 0 = some i := by
      rw [← hch]
      cases hq : 8 - i with
      | zero => rfl
      | succ f => rw [chG, if_pos (by first | exact (lc0 (by omega)).mp c_19 | omega)]
    refine x_iload_n C (pc := 55) 2 dX7_put_55 rfl ?_
    refine x_ifN_eq C (a := i) (pc := 56) (tgt := 66) (by omega) dX7_put_56 (by decide) (fun c_56 => ?_) (fun c_56 => ?_)
    · exfalso; have h9 : i = chN X := Option.some.inj (hex.symm.trans hpos.1); first | omega | (apply c_63; rw [h9]; exact (lc0 (by rw [hpos.2.1]; decide)).mpr hpos.2.1)
    refine x_lload C (pc := 59) 3 dX7_put_59 rfl ?_
    refine x_lconst C (pc := 61) (v := 0) dX7_put_61 (by decide) ?_
    refine x_lcmp C (pc := 62) dX7_put_62 ?_
    refine x_if_eq C (pc := 63) (tgt := 69) dX7_put_63 (by decide) (fun c_63 => ?_) (fun c_63 => ?_)
    · have him : i = chN X := Option.some.inj (hex.symm.trans hpos.1)
      refine x_sub [0, 1, 2] [(0, .ref (z + k)), (1, .long (lN X)), (3, .int (nI i))] rfl ?_
      refine x_eqL [(0, .ref (z + k)), (1, .long (lN X)), (3, .int (nI (chN X)))] (by rw [him]) ?_
      refine x_aload_n C (pc := 69) 0 dX7_put_69 rfl ?_
      refine x_get C (pc := 70) (q := k) (v := .int (nI len)) (ci := 7) rfl hn_X7_put_X7 9 (by decide) fl_X7_put_173 rfl (by omega) hM.ob rfl dX7_put_70 ?_
      refine x_iload_n C (pc := 73) 2 dX7_put_73 rfl ?_
      refine x_iadd C (pc := 74) (v := nI (len + chN X)) dX7_put_74 (nI_add len (chN X)) ?_
      refine x_bipush C (pc := 75) (v := 80) dX7_put_75 (by decide) ?_
      refine x_icmpN_le C (a := len + chN X) (b := 80) (pc := 77) (tgt := 83) (by omega) (by omega) dX7_put_77 (by decide) (fun c_77 => absurd c_77 (by omega)) (fun c_77 => ?_)
      refine x_bipush C (pc := 80) (v := (-4)) dX7_put_80 (by decide) ?_
      exact x_iret C hR0 rfl (Nat.le_of_ble_eq_true rfl) (Nat.le_of_ble_eq_true rfl) ⟨rfl, rfl, rfl⟩ dX7_put_82
    exfalso; have h9 : i = chN X := Option.some.inj (hex.symm.trans hpos.1); first | omega | (apply c_63; rw [h9]; exact (lc0 (by rw [hpos.2.1]; decide)).mpr hpos.2.1)
  refine x_lload C (pc := 22) 3 dX7_put_22 rfl ?_
  refine x_ldc2 C (pc := 24) (v := 255) kc_X7_put_188 dX7_put_24 ?_
  refine x_land C (pc := 27) (v := lN (byN X i)) dX7_put_27 (lw_mask hdl) ?_
  refine x_l2i C (pc := 28) (v := nI (byN X i)) dX7_put_28 (lN_i _) ?_
  refine x_bipush C (pc := 29) (v := 33) dX7_put_29 (by decide) ?_
  refine x_bipush C (pc := 31) (v := 126) dX7_put_31 (by decide) ?_
  refine x_cSiR C (pc := 33) (st := []) (c_X7_in l D z cI cZ cP cR N F (nI (byN X i)) 33 126) (va_cwS 3 C.2.2.2.2.1 gX7_put_X7_in rfl rfl rfl hd_X7_in.2 ⟨Nat.le_of_ble_eq_true rfl, Nat.le_of_ble_eq_true rfl⟩) rfl rfl (Nat.le_of_ble_eq_true rfl) dX7_put_33 ⟨Nat.le_of_ble_eq_true rfl, Nat.le_of_ble_eq_true rfl⟩ ?_
  refine x_bz_ne C (pc := 36) (tgt := 42) dX7_put_36 (by decide) (fun c_36 => ?_) (fun c_36 => ?_)
  · have hin : 33 ≤ byN X i ∧ byN X i ≤ 126 := by rw [chr_in hbl] at c_36; simpa using c_36
    refine x_iinc C (pc := 42) 2 [(3, .int (nI (i + 1))), (0, .ref (z + k)), (1, .long (lN X)), (4, .long (lN (X / 256 ^ i)))] dX7_put_42 rfl (nI_inc i) (by decide) rfl ?_
    refine x_lload C (pc := 45) 3 dX7_put_45 rfl ?_
    refine x_bipush C (pc := 47) (v := 8) dX7_put_47 (by decide) ?_
    refine x_lushr C (pc := 49) (v := lN (X / 256 ^ (i + 1))) dX7_put_49 (lw_next hC) ?_
    refine x_lstore C (pc := 50) [(4, .long (lN (X / 256 ^ (i + 1)))), (3, .int (nI (i + 1))), (0, .ref (z + k)), (1, .long (lN X))] dX7_put_50 (by decide) rfl ?_
    refine x_goto C (pc := 52) (tgt := 5) dX7_put_52 (by decide) ?_
    exact x_sub [2, 3, 1, 0] _ rfl (ih_5 (i + 1) ⟨(by omega), (by rw [← hch, show 8 - i = 8 - (i + 1) + 1 by omega, chG, if_neg (fun h => c_19 ((lc0 (by omega)).mpr h)), if_pos hin])⟩ (by omega))
  have hno : chG X 8 0 = none := by rw [← hch, show 8 - i = 8 - (i + 1) + 1 by omega, chG, if_neg (fun h => c_19 ((lc0 (by omega)).mpr h)), if_neg (fun h => by rw [chr_in hbl] at c_36; simp [h.1, h.2] at c_36)]
  exfalso; rw [hno] at hpos; cases hpos.1
theorem fl_X7_put_29 : Cond.fieldLink RX7 29 "PileRecountModel" "pad" "[I" ∈ wsX7_put := by decide +kernel
set_option maxHeartbeats 4000000 in
set_option maxRecDepth 100000 in
theorem c_X7_put_s (l : Launch) (D : va_G) (z : Nat) (cI cZ cP cR : ClassId) (N : Nat) (F : Nat → va_E) (k len X : Nat) (pf pm spt wrg rd : Int32) (a ps sl sv sd wy pa nu : Nat → Int32) (hM : isMod z cI cZ F k pf pm (nI len) spt wrg rd a ps sl sv sd wy pa nu) (hk : k + 9 ≤ N) (hlen : len ≤ 80) (hC : X < 2 ^ 64) (hm : ¬ chN X = 0) (hov : len + chN X ≤ 80) : gMi l yX7_put wsX7_put ({ frames := 1, cells := 0, slots := 0, locals := 22 }) D z cI cZ cP cR N F [.ref (z + k), .long (lN X)] (gRes (nI (len + chN X)) N (fun F2 => isMod z cI cZ F2 k pf pm (nI (len + chN X)) spt wrg rd a ps sl sv sd wy (ptA pa len X (chN X) (chN X)) nu ∧ gFr k (k + 9) F F2)) 0 0 := by
  refine gMi.of (cc := cX7_put) (maxL := 7) (ret := (some .int)) (by decide) rfl (Nat.le_of_ble_eq_true rfl) [(0, .ref (z + k)), (1, .long (lN X))] rfl ?_
  intro pg ev sg mg bel me cg C hR0
  have hpos := chN_pos hm
  refine x_iconst C (pc := 0) (v := 0) dX7_put_0 (by decide) ?_
  refine x_istore_n C (pc := 1) [(3, .int 0), (0, .ref (z + k)), (1, .long (lN X))] dX7_put_1 (by decide) rfl ?_
  refine x_lload_n C (pc := 2) 2 dX7_put_2 rfl ?_
  refine x_lstore C (pc := 3) [(4, .long (lN X)), (3, .int 0), (0, .ref (z + k)), (1, .long (lN X))] dX7_put_3 (by decide) rfl ?_
  refine x_eqL [(4, .long (lN (X / 256 ^ 0))), (3, .int 0), (0, .ref (z + k)), (1, .long (lN X))] (by rw [Nat.pow_zero, Nat.div_one]) ?_
  refine x_sub [2, 3, 1, 0] _ rfl ?_
  refine x_loop1 (A1 := Nat) (pc := 5) (st := []) (fun i => 8 - i) (fun i => (i ≤ 8) ∧ (chG X (8 - i) i = chG X 8 0)) (fun i => N) (fun i => F) (fun i => 0) (fun i => 0) (fun i => [(0, .ref (z + k)), (1, .long (lN X)), (3, .int (nI i)), (4, .long (lN (X / 256 ^ i)))]) 0 ⟨(by decide), rfl⟩ rfl rfl rfl rfl rfl ?_
  rintro i ⟨hi, hch⟩ ih_5
  try dsimp only at ih_5
  have hbl := byN_lt X i
  have hdl := dv_lt hC i
  refine x_iload_n C (pc := 5) 2 dX7_put_5 rfl ?_
  refine x_bipush C (pc := 6) (v := 8) dX7_put_6 (by decide) ?_
  refine x_icmpN_ge C (a := i) (b := 8) (pc := 8) (tgt := 55) (by omega) (by omega) dX7_put_8 (by decide) (fun c_8 => ?_) (fun c_8 => ?_)
  · have hex : chG X 8 0 = some i := by
      rw [← hch]
      cases hq : 8 - i with
      | zero => rfl
      | succ f => rw [chG, if_pos (by first | exact (lc0 (by omega)).mp c_19 | omega)]
    refine x_iload_n C (pc := 55) 2 dX7_put_55 rfl ?_
    refine x_ifN_eq C (a := i) (pc := 56) (tgt := 66) (by omega) dX7_put_56 (by decide) (fun c_56 => ?_) (fun c_56 => ?_)
    · exfalso; have h9 : i = chN X := Option.some.inj (hex.symm.trans hpos.1); first | omega | (apply c_63; rw [h9]; exact (lc0 (by rw [hpos.2.1]; decide)).mpr hpos.2.1)
    refine x_lload C (pc := 59) 3 dX7_put_59 rfl ?_
    refine x_lconst C (pc := 61) (v := 0) dX7_put_61 (by decide) ?_
    refine x_lcmp C (pc := 62) dX7_put_62 ?_
    refine x_if_eq C (pc := 63) (tgt := 69) dX7_put_63 (by decide) (fun c_63 => ?_) (fun c_63 => ?_)
    · have him : i = chN X := Option.some.inj (hex.symm.trans hpos.1)
      refine x_sub [0, 1, 2] [(0, .ref (z + k)), (1, .long (lN X)), (3, .int (nI i))] rfl ?_
      refine x_eqL [(0, .ref (z + k)), (1, .long (lN X)), (3, .int (nI (chN X)))] (by rw [him]) ?_
      refine x_aload_n C (pc := 69) 0 dX7_put_69 rfl ?_
      refine x_get C (pc := 70) (q := k) (v := .int (nI len)) (ci := 7) rfl hn_X7_put_X7 9 (by decide) fl_X7_put_173 rfl (by omega) hM.ob rfl dX7_put_70 ?_
      refine x_iload_n C (pc := 73) 2 dX7_put_73 rfl ?_
      refine x_iadd C (pc := 74) (v := nI (len + chN X)) dX7_put_74 (nI_add len (chN X)) ?_
      refine x_bipush C (pc := 75) (v := 80) dX7_put_75 (by decide) ?_
      refine x_icmpN_le C (a := len + chN X) (b := 80) (pc := 77) (tgt := 83) (by omega) (by omega) dX7_put_77 (by decide) (fun c_77 => ?_) (fun c_77 => absurd c_77 (by omega))
      refine x_iconst C (pc := 83) (v := 0) dX7_put_83 (by decide) ?_
      refine x_istore C (pc := 84) [(6, .int 0), (0, .ref (z + k)), (1, .long (lN X)), (3, .int (nI (chN X)))] dX7_put_84 (by decide) rfl ?_
      refine x_sub [1, 2, 3, 0] _ rfl ?_
      refine x_loop2 (A1 := Nat) (A2 := Nat → va_E) (pc := 86) (st := []) (fun j G => chN X - j) (fun j G => (j ≤ chN X) ∧ (isMod z cI cZ G k pf pm (nI len) spt wrg rd a ps sl sv sd wy (ptA pa len X (chN X) j) nu) ∧ (gFr k (k + 9) F G)) (fun j G => N) (fun j G => G) (fun j G => 0) (fun j G => 0) (fun j G => [(0, .ref (z + k)), (1, .long (lN X)), (3, .int (nI (chN X))), (6, .int (nI j))]) 0 F ⟨(Nat.zero_le _), (by rw [ptA_0]; exact hM), gFr.rf⟩ rfl rfl rfl rfl rfl ?_
      rintro j G ⟨hj, hG, hfr⟩ ih_86
      try dsimp only at ih_86
      refine x_iload C (pc := 86) 3 dX7_put_86 rfl ?_
      refine x_iload_n C (pc := 88) 2 dX7_put_88 rfl ?_
      refine x_icmpN_ge C (a := j) (b := chN X) (pc := 89) (tgt := 126) (by omega) (by omega) dX7_put_89 (by decide) (fun c_89 => ?_) (fun c_89 => ?_)
      · have hjm : j = chN X := by omega
        refine x_aload_n C (pc := 126) 0 dX7_put_126 rfl ?_
        refine x_dup C (pc := 127) dX7_put_127 rfl ?_
        refine x_get C (pc := 128) (q := k) (v := .int (nI len)) (ci := 7) rfl hn_X7_put_X7 9 (by decide) fl_X7_put_173 rfl (by omega) hG.ob rfl dX7_put_128 ?_
        refine x_iload_n C (pc := 131) 2 dX7_put_131 rfl ?_
        refine x_iadd C (pc := 132) (v := nI (len + chN X)) dX7_put_132 (nI_add len (chN X)) ?_
        refine xw_X7_9 C (pc := 133) hn_X7_put_X7 fl_X7_put_173 hG (by omega) dX7_put_133 (fun F_133 hG_133 fr_133 => ?_)
        refine x_aload_n C (pc := 136) 0 dX7_put_136 rfl ?_
        refine x_get C (pc := 137) (q := k) (v := .int (nI (len + chN X))) (ci := 7) rfl hn_X7_put_X7 9 (by decide) fl_X7_put_173 rfl (by omega) hG_133.ob rfl dX7_put_137 ?_
        exact x_iret C hR0 rfl (Nat.le_of_ble_eq_true rfl) (Nat.le_of_ble_eq_true rfl) ⟨rfl, rfl, (by have h9 := hG_133; rw [hjm] at h9; exact ⟨h9, (gFr.t2 hfr fr_133)⟩)⟩ dX7_put_140
      refine x_aload_n C (pc := 92) 0 dX7_put_92 rfl ?_
      refine x_get C (pc := 93) (q := k) (v := .ref (z + (k + 7))) (ci := 7) rfl hn_X7_put_X7 8 (by decide) fl_X7_put_29 rfl (by omega) hG.ob rfl dX7_put_93 ?_
      refine x_aload_n C (pc := 96) 0 dX7_put_96 rfl ?_
      refine x_get C (pc := 97) (q := k) (v := .int (nI len)) (ci := 7) rfl hn_X7_put_X7 9 (by decide) fl_X7_put_173 rfl (by omega) hG.ob rfl dX7_put_97 ?_
      refine x_iload C (pc := 100) 3 dX7_put_100 rfl ?_
      refine x_iadd C (pc := 102) (v := nI (len + j)) dX7_put_102 (nI_add len j) ?_
      refine x_lload_n C (pc := 103) 1 dX7_put_103 rfl ?_
      refine x_bipush C (pc := 104) (v := 8) dX7_put_104 (by decide) ?_
      refine x_iload_n C (pc := 106) 2 dX7_put_106 rfl ?_
      refine x_iconst C (pc := 107) (v := 1) dX7_put_107 (by decide) ?_
      refine x_isub C (pc := 108) (v := nI (chN X - 1)) dX7_put_108 (pk_sub (a := chN X) (b := 1) (by omega)) ?_
      refine x_iload C (pc := 109) 3 dX7_put_109 rfl ?_
      refine x_isub C (pc := 111) (v := nI (chN X - 1 - j)) dX7_put_111 (pk_sub (a := chN X - 1) (b := j) (by omega)) ?_
      refine x_imul C (pc := 112) (v := nI (8 * (chN X - 1 - j))) dX7_put_112 (pk_mul 8 (chN X - 1 - j)) ?_
      refine x_lshr C (pc := 113) (v := (lN X >>> ((nI (8 * (chN X - 1 - j))).toInt64 &&& 63))) dX7_put_113 rfl ?_
      refine x_ldc2 C (pc := 114) (v := 255) kc_X7_put_188 dX7_put_114 ?_
      refine x_land C (pc := 117) (v := lN (byN X (chN X - 1 - j))) dX7_put_117 (lw_sarb hC hpos.2.2.1 (by omega)) ?_
      refine x_l2i C (pc := 118) (v := nI (byN X (chN X - 1 - j))) dX7_put_118 (lN_i _) ?_
      refine xw_isMod_pa C (pc := 119) (j := len + j) hG (by omega) rfl (by omega) dX7_put_119 (fun F_119 hG_119 fr_119 => ?_)
      refine x_iinc C (pc := 120) 3 [(6, .int (nI (j + 1))), (0, .ref (z + k)), (1, .long (lN X)), (3, .int (nI (chN X)))] dX7_put_120 rfl (nI_inc j) (by decide) rfl ?_
      refine x_goto C (pc := 123) (tgt := 86) dX7_put_123 (by decide) ?_
      exact x_sub [1, 2, 3, 0] _ rfl (ih_86 (j + 1) F_119 ⟨(by omega), (by rw [← ptA_up]; exact hG_119), (gFr.t2 hfr fr_119)⟩ (by omega))
    exfalso; have h9 : i = chN X := Option.some.inj (hex.symm.trans hpos.1); first | omega | (apply c_63; rw [h9]; exact (lc0 (by rw [hpos.2.1]; decide)).mpr hpos.2.1)
  refine x_lload C (pc := 11) 3 dX7_put_11 rfl ?_
  refine x_ldc2 C (pc := 13) (v := 255) kc_X7_put_188 dX7_put_13 ?_
  refine x_land C (pc := 16) (v := lN (byN X i)) dX7_put_16 (lw_mask hdl) ?_
  refine x_lconst C (pc := 17) (v := 0) dX7_put_17 (by decide) ?_
  refine x_lcmp C (pc := 18) dX7_put_18 ?_
  refine x_if_eq C (pc := 19) (tgt := 55) dX7_put_19 (by decide) (fun c_19 => ?_) (fun c_19 => ?_)
  · have hex : chG X 8 0 = some i := by
      rw [← hch]
      cases hq : 8 - i with
      | zero => rfl
      | succ f => rw [chG, if_pos (by first | exact (lc0 (by omega)).mp c_19 | omega)]
    refine x_iload_n C (pc := 55) 2 dX7_put_55 rfl ?_
    refine x_ifN_eq C (a := i) (pc := 56) (tgt := 66) (by omega) dX7_put_56 (by decide) (fun c_56 => ?_) (fun c_56 => ?_)
    · exfalso; have h9 : i = chN X := Option.some.inj (hex.symm.trans hpos.1); first | omega | (apply c_63; rw [h9]; exact (lc0 (by rw [hpos.2.1]; decide)).mpr hpos.2.1)
    refine x_lload C (pc := 59) 3 dX7_put_59 rfl ?_
    refine x_lconst C (pc := 61) (v := 0) dX7_put_61 (by decide) ?_
    refine x_lcmp C (pc := 62) dX7_put_62 ?_
    refine x_if_eq C (pc := 63) (tgt := 69) dX7_put_63 (by decide) (fun c_63 => ?_) (fun c_63 => ?_)
    · have him : i = chN X := Option.some.inj (hex.symm.trans hpos.1)
      refine x_sub [0, 1, 2] [(0, .ref (z + k)), (1, .long (lN X)), (3, .int (nI i))] rfl ?_
      refine x_eqL [(0, .ref (z + k)), (1, .long (lN X)), (3, .int (nI (chN X)))] (by rw [him]) ?_
      refine x_aload_n C (pc := 69) 0 dX7_put_69 rfl ?_
      refine x_get C (pc := 70) (q := k) (v := .int (nI len)) (ci := 7) rfl hn_X7_put_X7 9 (by decide) fl_X7_put_173 rfl (by omega) hM.ob rfl dX7_put_70 ?_
      refine x_iload_n C (pc := 73) 2 dX7_put_73 rfl ?_
      refine x_iadd C (pc := 74) (v := nI (len + chN X)) dX7_put_74 (nI_add len (chN X)) ?_
      refine x_bipush C (pc := 75) (v := 80) dX7_put_75 (by decide) ?_
      refine x_icmpN_le C (a := len + chN X) (b := 80) (pc := 77) (tgt := 83) (by omega) (by omega) dX7_put_77 (by decide) (fun c_77 => ?_) (fun c_77 => absurd c_77 (by omega))
      refine x_iconst C (pc := 83) (v := 0) dX7_put_83 (by decide) ?_
      refine x_istore C (pc := 84) [(6, .int 0), (0, .ref (z + k)), (1, .long (lN X)), (3, .int (nI (chN X)))] dX7_put_84 (by decide) rfl ?_
      refine x_sub [1, 2, 3, 0] _ rfl ?_
      refine x_loop2 (A1 := Nat) (A2 := Nat → va_E) (pc := 86) (st := []) (fun j G => chN X - j) (fun j G => (j ≤ chN X) ∧ (isMod z cI cZ G k pf pm (nI len) spt wrg rd a ps sl sv sd wy (ptA pa len X (chN X) j) nu) ∧ (gFr k (k + 9) F G)) (fun j G => N) (fun j G => G) (fun j G => 0) (fun j G => 0) (fun j G => [(0, .ref (z + k)), (1, .long (lN X)), (3, .int (nI (chN X))), (6, .int (nI j))]) 0 F ⟨(Nat.zero_le _), (by rw [ptA_0]; exact hM), gFr.rf⟩ rfl rfl rfl rfl rfl ?_
      rintro j G ⟨hj, hG, hfr⟩ ih_86
      try dsimp only at ih_86
      refine x_iload C (pc := 86) 3 dX7_put_86 rfl ?_
      refine x_iload_n C (pc := 88) 2 dX7_put_88 rfl ?_
      refine x_icmpN_ge C (a := j) (b := chN X) (pc := 89) (tgt := 126) (by omega) (by omega) dX7_put_89 (by decide) (fun c_89 => ?_) (fun c_89 => ?_)
      · have hjm : j = chN X := by omega
        refine x_aload_n C (pc := 126) 0 dX7_put_126 rfl ?_
        refine x_dup C (pc := 127) dX7_put_127 rfl ?_
        refine x_get C (pc := 128) (q := k) (v := .int (nI len)) (ci := 7) rfl hn_X7_put_X7 9 (by decide) fl_X7_put_173 rfl (by omega) hG.ob rfl dX7_put_128 ?_
        refine x_iload_n C (pc := 131) 2 dX7_put_131 rfl ?_
        refine x_iadd C (pc := 132) (v := nI (len + chN X)) dX7_put_132 (nI_add len (chN X)) ?_
        refine xw_X7_9 C (pc := 133) hn_X7_put_X7 fl_X7_put_173 hG (by omega) dX7_put_133 (fun F_133 hG_133 fr_133 => ?_)
        refine x_aload_n C (pc := 136) 0 dX7_put_136 rfl ?_
        refine x_get C (pc := 137) (q := k) (v := .int (nI (len + chN X))) (ci := 7) rfl hn_X7_put_X7 9 (by decide) fl_X7_put_173 rfl (by omega) hG_133.ob rfl dX7_put_137 ?_
        exact x_iret C hR0 rfl (Nat.le_of_ble_eq_true rfl) (Nat.le_of_ble_eq_true rfl) ⟨rfl, rfl, (by have h9 := hG_133; rw [hjm] at h9; exact ⟨h9, (gFr.t2 hfr fr_133)⟩)⟩ dX7_put_140
      refine x_aload_n C (pc := 92) 0 dX7_put_92 rfl ?_
      refine x_get C (pc := 93) (q := k) (v := .ref (z + (k + 7))) (ci := 7) rfl hn_X7_put_X7 8 (by decide) fl_X7_put_29 rfl (by omega) hG.ob rfl dX7_put_93 ?_
      refine x_aload_n C (pc := 96) 0 dX7_put_96 rfl ?_
      refine x_get C (pc := 97) (q := k) (v := .int (nI len)) (ci := 7) rfl hn_X7_put_X7 9 (by decide) fl_X7_put_173 rfl (by omega) hG.ob rfl dX7_put_97 ?_
      refine x_iload C (pc := 100) 3 dX7_put_100 rfl ?_
      refine x_iadd C (pc := 102) (v := nI (len + j)) dX7_put_102 (nI_add len j) ?_
      refine x_lload_n C (pc := 103) 1 dX7_put_103 rfl ?_
      refine x_bipush C (pc := 104) (v := 8) dX7_put_104 (by decide) ?_
      refine x_iload_n C (pc := 106) 2 dX7_put_106 rfl ?_
      refine x_iconst C (pc := 107) (v := 1) dX7_put_107 (by decide) ?_
      refine x_isub C (pc := 108) (v := nI (chN X - 1)) dX7_put_108 (pk_sub (a := chN X) (b := 1) (by omega)) ?_
      refine x_iload C (pc := 109) 3 dX7_put_109 rfl ?_
      refine x_isub C (pc := 111) (v := nI (chN X - 1 - j)) dX7_put_111 (pk_sub (a := chN X - 1) (b := j) (by omega)) ?_
      refine x_imul C (pc := 112) (v := nI (8 * (chN X - 1 - j))) dX7_put_112 (pk_mul 8 (chN X - 1 - j)) ?_
      refine x_lshr C (pc := 113) (v := (lN X >>> ((nI (8 * (chN X - 1 - j))).toInt64 &&& 63))) dX7_put_113 rfl ?_
      refine x_ldc2 C (pc := 114) (v := 255) kc_X7_put_188 dX7_put_114 ?_
      refine x_land C (pc := 117) (v := lN (byN X (chN X - 1 - j))) dX7_put_117 (lw_sarb hC hpos.2.2.1 (by omega)) ?_
      refine x_l2i C (pc := 118) (v := nI (byN X (chN X - 1 - j))) dX7_put_118 (lN_i _) ?_
      refine xw_isMod_pa C (pc := 119) (j := len + j) hG (by omega) rfl (by omega) dX7_put_119 (fun F_119 hG_119 fr_119 => ?_)
      refine x_iinc C (pc := 120) 3 [(6, .int (nI (j + 1))), (0, .ref (z + k)), (1, .long (lN X)), (3, .int (nI (chN X)))] dX7_put_120 rfl (nI_inc j) (by decide) rfl ?_
      refine x_goto C (pc := 123) (tgt := 86) dX7_put_123 (by decide) ?_
      exact x_sub [1, 2, 3, 0] _ rfl (ih_86 (j + 1) F_119 ⟨(by omega), (by rw [← ptA_up]; exact hG_119), (gFr.t2 hfr fr_119)⟩ (by omega))
    exfalso; have h9 : i = chN X := Option.some.inj (hex.symm.trans hpos.1); first | omega | (apply c_63; rw [h9]; exact (lc0 (by rw [hpos.2.1]; decide)).mpr hpos.2.1)
  refine x_lload C (pc := 22) 3 dX7_put_22 rfl ?_
  refine x_ldc2 C (pc := 24) (v := 255) kc_X7_put_188 dX7_put_24 ?_
  refine x_land C (pc := 27) (v := lN (byN X i)) dX7_put_27 (lw_mask hdl) ?_
  refine x_l2i C (pc := 28) (v := nI (byN X i)) dX7_put_28 (lN_i _) ?_
  refine x_bipush C (pc := 29) (v := 33) dX7_put_29 (by decide) ?_
  refine x_bipush C (pc := 31) (v := 126) dX7_put_31 (by decide) ?_
  refine x_cSiR C (pc := 33) (st := []) (c_X7_in l D z cI cZ cP cR N F (nI (byN X i)) 33 126) (va_cwS 3 C.2.2.2.2.1 gX7_put_X7_in rfl rfl rfl hd_X7_in.2 ⟨Nat.le_of_ble_eq_true rfl, Nat.le_of_ble_eq_true rfl⟩) rfl rfl (Nat.le_of_ble_eq_true rfl) dX7_put_33 ⟨Nat.le_of_ble_eq_true rfl, Nat.le_of_ble_eq_true rfl⟩ ?_
  refine x_bz_ne C (pc := 36) (tgt := 42) dX7_put_36 (by decide) (fun c_36 => ?_) (fun c_36 => ?_)
  · have hin : 33 ≤ byN X i ∧ byN X i ≤ 126 := by rw [chr_in hbl] at c_36; simpa using c_36
    refine x_iinc C (pc := 42) 2 [(3, .int (nI (i + 1))), (0, .ref (z + k)), (1, .long (lN X)), (4, .long (lN (X / 256 ^ i)))] dX7_put_42 rfl (nI_inc i) (by decide) rfl ?_
    refine x_lload C (pc := 45) 3 dX7_put_45 rfl ?_
    refine x_bipush C (pc := 47) (v := 8) dX7_put_47 (by decide) ?_
    refine x_lushr C (pc := 49) (v := lN (X / 256 ^ (i + 1))) dX7_put_49 (lw_next hC) ?_
    refine x_lstore C (pc := 50) [(4, .long (lN (X / 256 ^ (i + 1)))), (3, .int (nI (i + 1))), (0, .ref (z + k)), (1, .long (lN X))] dX7_put_50 (by decide) rfl ?_
    refine x_goto C (pc := 52) (tgt := 5) dX7_put_52 (by decide) ?_
    exact x_sub [2, 3, 1, 0] _ rfl (ih_5 (i + 1) ⟨(by omega), (by rw [← hch, show 8 - i = 8 - (i + 1) + 1 by omega, chG, if_neg (fun h => c_19 ((lc0 (by omega)).mpr h)), if_pos hin])⟩ (by omega))
  have hno : chG X 8 0 = none := by rw [← hch, show 8 - i = 8 - (i + 1) + 1 by omega, chG, if_neg (fun h => c_19 ((lc0 (by omega)).mpr h)), if_neg (fun h => by rw [chr_in hbl] at c_36; simp [h.1, h.2] at c_36)]
  exfalso; rw [hno] at hpos; cases hpos.1
theorem ac_X7_init_I : Cond.arrayClass .int ∈ wsX7_init := by decide +kernel
theorem ac_X7_init_Z : Cond.arrayClass .boolean ∈ wsX7_init := by decide +kernel
theorem fl_X7_init_13 : Cond.fieldLink RX7 13 "PileRecountModel" "past" "[I" ∈ wsX7_init := by decide +kernel
theorem fl_X7_init_16 : Cond.fieldLink RX7 16 "PileRecountModel" "slots" "[I" ∈ wsX7_init := by decide +kernel
theorem fl_X7_init_19 : Cond.fieldLink RX7 19 "PileRecountModel" "isSaved" "[Z" ∈ wsX7_init := by decide +kernel
theorem fl_X7_init_23 : Cond.fieldLink RX7 23 "PileRecountModel" "aside" "[I" ∈ wsX7_init := by decide +kernel
theorem fl_X7_init_26 : Cond.fieldLink RX7 26 "PileRecountModel" "ways" "[I" ∈ wsX7_init := by decide +kernel
theorem fl_X7_init_29 : Cond.fieldLink RX7 29 "PileRecountModel" "pad" "[I" ∈ wsX7_init := by decide +kernel
theorem fl_X7_init_32 : Cond.fieldLink RX7 32 "PileRecountModel" "numbers" "[I" ∈ wsX7_init := by decide +kernel
theorem fl_X7_init_7 : Cond.fieldLink RX7 7 "PileRecountModel" "at" "[I" ∈ wsX7_init := by decide +kernel
theorem hn_X7_init_X7 : ∀ w ∈ wsX70, w ∈ wsX7_init := fun _ h => List.mem_cons_of_mem _ (List.mem_append_right _ h)
theorem oc_X7_init : Cond.code objectInit ⟨#[0xb1]⟩ 1 none ∈ wsX7_init := by decide +kernel
theorem oi_X7_init : Cond.instanceMethod objectInit ∈ wsX7_init := by decide +kernel
theorem ol_X7_init : Cond.methodLink RX7 1 objectInit ∈ wsX7_init := by decide +kernel
set_option maxHeartbeats 4000000 in
set_option maxRecDepth 100000 in
theorem c_X7_init (l : Launch) (D : va_G) (z : Nat) (cI cZ cP cR : ClassId) (N : Nat) (F : Nat → va_E) (k : Nat) (hN : N = k + 1) (hF : F k = .inr (7, [.null, .null, .int 0, .int 0, .null, .null, .null, .null, .null, .int 0, .int 0, .int 0, .int 0, .null])) : gMv l yX7_init wsX7_init ({ frames := 1, cells := 8, slots := 1888, locals := 12 }) D z cI cZ cP cR (k + 1) F [.ref (z + k)] (gVoid (k + 9) (fun F2 => isMod z cI cZ F2 k 0 0 0 0 0 0 (upd (upd (fun _ => 0) 1 500) 2 1) (fun _ => 0) (fun _ => 0) (fun _ => 0) (fun _ => 0) (fun _ => 0) (fun _ => 0) (fun _ => 0) ∧ ∀ q, q < k → F2 q = F q)) 8 1888 := by
  refine gMv.of (cc := cX7_init) (maxL := 1) (ret := none) (by decide) rfl (Nat.le_of_ble_eq_true rfl) [(0, .ref (z + k))] rfl ?_
  intro pg ev sg mg bel me cg C hR0
  subst hN
  have hlow : ∀ q, q < k → F q = F q := fun _ _ => rfl
  refine x_aload_n C (pc := 0) 0 dX7_init_0 rfl ?_
  refine x_objInit C (pc := 1) ol_X7_init oi_X7_init oc_X7_init dX7_init_1 (Nat.le_of_ble_eq_true rfl) (Nat.le_of_ble_eq_true rfl) ?_
  refine x_aload_n C (pc := 4) 0 dX7_init_4 rfl ?_
  refine x_bipush C (pc := 5) (v := 65) dX7_init_5 (by decide) ?_
  refine x_newI C (pc := 7) (k0 := 65) ac_X7_init_I rfl (by decide) (by show 0 + 1 ≤ 8; omega) (by show 0 + 65 ≤ 1888; omega) dX7_init_7 ?_
  refine x_nameF (fun F_7 e_7 => ?_)
  have fr_7 : ∀ q, q ≠ k + 1 → F_7 q = F q := fun q h => by rw [e_7, va_up_ne _ _ h]
  have up_7 : F_7 (k + 1) = .inl (cI, 65, .inl (fun _ => 0)) := by rw [e_7]; exact va_up_self _ _ _
  have hF_7 := (fr_7 k (by omega)).trans hF
  have hlow_7 : ∀ q, q < k → F_7 q = F q := fun q hq => (fr_7 q (by omega)).trans (hlow q hq)
  have hA7 := eArr.of up_7
  refine x_putF C (pc := 9) (q := k) (v := .ref (z + (k + 1))) (ci := 7) rfl hn_X7_init_X7 tyX7 tyX7_ok nmX7 0 (by decide) fl_X7_init_7 rfl rfl hR0.2.2 rfl (ty := tyX7 0) (tyX7_ok 0 (by decide)) rfl rfl (Nat.le_of_ble_eq_true rfl) (by omega) hF_7 dX7_init_9 ?_
  refine x_nameF (fun F_9 e_9 => ?_)
  have fr_9 : ∀ q, q ≠ k → F_9 q = F_7 q := fun q h => by rw [e_9, va_up_ne _ _ h]
  have up_9 : F_9 k = .inr (7, [.ref (z + (k + 1)), .null, .int 0, .int 0, .null, .null, .null, .null, .null, .int 0, .int 0, .int 0, .int 0, .null]) := by rw [e_9]; exact va_up_self _ _ _
  have hlow_9 : ∀ q, q < k → F_9 q = F q := fun q hq => (fr_9 q (by omega)).trans (hlow_7 q hq)
  have hA7_9 := (fr_9 (k + 1) (by omega)).symm ▸ hA7
  have hO9 := up_9
  refine x_aload_n C (pc := 12) 0 dX7_init_12 rfl ?_
  refine x_sipush C (pc := 13) (v := 390) dX7_init_13 (by decide) ?_
  refine x_newI C (pc := 16) (k0 := 390) ac_X7_init_I rfl (by decide) (by show 0 + 1 + 1 ≤ 8; omega) (by show 0 + 65 + 390 ≤ 1888; omega) dX7_init_16 ?_
  refine x_nameF (fun F_16 e_16 => ?_)
  have fr_16 : ∀ q, q ≠ k + 2 → F_16 q = F_9 q := fun q h => by rw [e_16, va_up_ne _ _ h]
  have up_16 : F_16 (k + 2) = .inl (cI, 390, .inl (fun _ => 0)) := by rw [e_16]; exact va_up_self _ _ _
  have hlow_16 : ∀ q, q < k → F_16 q = F q := fun q hq => (fr_16 q (by omega)).trans (hlow_9 q hq)
  have hA7_16 := (fr_16 (k + 1) (by omega)).symm ▸ hA7_9
  have hO9_16 := (fr_16 k (by omega)).trans hO9
  have hA16 := eArr.of up_16
  refine x_putF C (pc := 18) (q := k) (v := .ref (z + (k + 2))) (ci := 7) rfl hn_X7_init_X7 tyX7 tyX7_ok nmX7 1 (by decide) fl_X7_init_13 rfl rfl hR0.2.2 rfl (ty := tyX7 1) (tyX7_ok 1 (by decide)) rfl rfl (Nat.le_of_ble_eq_true rfl) (by omega) hO9_16 dX7_init_18 ?_
  refine x_nameF (fun F_18 e_18 => ?_)
  have fr_18 : ∀ q, q ≠ k → F_18 q = F_16 q := fun q h => by rw [e_18, va_up_ne _ _ h]
  have up_18 : F_18 k = .inr (7, [.ref (z + (k + 1)), .ref (z + (k + 2)), .int 0, .int 0, .null, .null, .null, .null, .null, .int 0, .int 0, .int 0, .int 0, .null]) := by rw [e_18]; exact va_up_self _ _ _
  have hlow_18 : ∀ q, q < k → F_18 q = F q := fun q hq => (fr_18 q (by omega)).trans (hlow_16 q hq)
  have hA7_18 := (fr_18 (k + 1) (by omega)).symm ▸ hA7_16
  have hA16_18 := (fr_18 (k + 2) (by omega)).symm ▸ hA16
  have hO18 := up_18
  refine x_aload_n C (pc := 21) 0 dX7_init_21 rfl ?_
  refine x_sipush C (pc := 22) (v := 130) dX7_init_22 (by decide) ?_
  refine x_newI C (pc := 25) (k0 := 130) ac_X7_init_I rfl (by decide) (by show 0 + 1 + 1 + 1 ≤ 8; omega) (by show 0 + 65 + 390 + 130 ≤ 1888; omega) dX7_init_25 ?_
  refine x_nameF (fun F_25 e_25 => ?_)
  have fr_25 : ∀ q, q ≠ k + 3 → F_25 q = F_18 q := fun q h => by rw [e_25, va_up_ne _ _ h]
  have up_25 : F_25 (k + 3) = .inl (cI, 130, .inl (fun _ => 0)) := by rw [e_25]; exact va_up_self _ _ _
  have hlow_25 : ∀ q, q < k → F_25 q = F q := fun q hq => (fr_25 q (by omega)).trans (hlow_18 q hq)
  have hA7_25 := (fr_25 (k + 1) (by omega)).symm ▸ hA7_18
  have hA16_25 := (fr_25 (k + 2) (by omega)).symm ▸ hA16_18
  have hO18_25 := (fr_25 k (by omega)).trans hO18
  have hA25 := eArr.of up_25
  refine x_putF C (pc := 27) (q := k) (v := .ref (z + (k + 3))) (ci := 7) rfl hn_X7_init_X7 tyX7 tyX7_ok nmX7 4 (by decide) fl_X7_init_16 rfl rfl hR0.2.2 rfl (ty := tyX7 4) (tyX7_ok 4 (by decide)) rfl rfl (Nat.le_of_ble_eq_true rfl) (by omega) hO18_25 dX7_init_27 ?_
  refine x_nameF (fun F_27 e_27 => ?_)
  have fr_27 : ∀ q, q ≠ k → F_27 q = F_25 q := fun q h => by rw [e_27, va_up_ne _ _ h]
  have up_27 : F_27 k = .inr (7, [.ref (z + (k + 1)), .ref (z + (k + 2)), .int 0, .int 0, .ref (z + (k + 3)), .null, .null, .null, .null, .int 0, .int 0, .int 0, .int 0, .null]) := by rw [e_27]; exact va_up_self _ _ _
  have hlow_27 : ∀ q, q < k → F_27 q = F q := fun q hq => (fr_27 q (by omega)).trans (hlow_25 q hq)
  have hA7_27 := (fr_27 (k + 1) (by omega)).symm ▸ hA7_25
  have hA16_27 := (fr_27 (k + 2) (by omega)).symm ▸ hA16_25
  have hA25_27 := (fr_27 (k + 3) (by omega)).symm ▸ hA25
  have hO27 := up_27
  refine x_aload_n C (pc := 30) 0 dX7_init_30 rfl ?_
  refine x_iconst C (pc := 31) (v := 2) dX7_init_31 (by decide) ?_
  refine x_newZ C (pc := 32) (k0 := 2) ac_X7_init_Z rfl (by decide) (by show 0 + 1 + 1 + 1 + 1 ≤ 8; omega) (by show 0 + 65 + 390 + 130 + 2 ≤ 1888; omega) dX7_init_32 ?_
  refine x_nameF (fun F_32 e_32 => ?_)
  have fr_32 : ∀ q, q ≠ k + 4 → F_32 q = F_27 q := fun q h => by rw [e_32, va_up_ne _ _ h]
  have up_32 : F_32 (k + 4) = .inl (cZ, 2, .inl (fun _ => 0)) := by rw [e_32]; exact va_up_self _ _ _
  have hlow_32 : ∀ q, q < k → F_32 q = F q := fun q hq => (fr_32 q (by omega)).trans (hlow_27 q hq)
  have hA7_32 := (fr_32 (k + 1) (by omega)).symm ▸ hA7_27
  have hA16_32 := (fr_32 (k + 2) (by omega)).symm ▸ hA16_27
  have hA25_32 := (fr_32 (k + 3) (by omega)).symm ▸ hA25_27
  have hO27_32 := (fr_32 k (by omega)).trans hO27
  have hA32 := eArr.of up_32
  refine x_putF C (pc := 34) (q := k) (v := .ref (z + (k + 4))) (ci := 7) rfl hn_X7_init_X7 tyX7 tyX7_ok nmX7 5 (by decide) fl_X7_init_19 rfl rfl hR0.2.2 rfl (ty := tyX7 5) (tyX7_ok 5 (by decide)) rfl rfl (Nat.le_of_ble_eq_true rfl) (by omega) hO27_32 dX7_init_34 ?_
  refine x_nameF (fun F_34 e_34 => ?_)
  have fr_34 : ∀ q, q ≠ k → F_34 q = F_32 q := fun q h => by rw [e_34, va_up_ne _ _ h]
  have up_34 : F_34 k = .inr (7, [.ref (z + (k + 1)), .ref (z + (k + 2)), .int 0, .int 0, .ref (z + (k + 3)), .ref (z + (k + 4)), .null, .null, .null, .int 0, .int 0, .int 0, .int 0, .null]) := by rw [e_34]; exact va_up_self _ _ _
  have hlow_34 : ∀ q, q < k → F_34 q = F q := fun q hq => (fr_34 q (by omega)).trans (hlow_32 q hq)
  have hA7_34 := (fr_34 (k + 1) (by omega)).symm ▸ hA7_32
  have hA16_34 := (fr_34 (k + 2) (by omega)).symm ▸ hA16_32
  have hA25_34 := (fr_34 (k + 3) (by omega)).symm ▸ hA25_32
  have hA32_34 := (fr_34 (k + 4) (by omega)).symm ▸ hA32
  have hO34 := up_34
  refine x_aload_n C (pc := 37) 0 dX7_init_37 rfl ?_
  refine x_bipush C (pc := 38) (v := 65) dX7_init_38 (by decide) ?_
  refine x_newI C (pc := 40) (k0 := 65) ac_X7_init_I rfl (by decide) (by show 0 + 1 + 1 + 1 + 1 + 1 ≤ 8; omega) (by show 0 + 65 + 390 + 130 + 2 + 65 ≤ 1888; omega) dX7_init_40 ?_
  refine x_nameF (fun F_40 e_40 => ?_)
  have fr_40 : ∀ q, q ≠ k + 5 → F_40 q = F_34 q := fun q h => by rw [e_40, va_up_ne _ _ h]
  have up_40 : F_40 (k + 5) = .inl (cI, 65, .inl (fun _ => 0)) := by rw [e_40]; exact va_up_self _ _ _
  have hlow_40 : ∀ q, q < k → F_40 q = F q := fun q hq => (fr_40 q (by omega)).trans (hlow_34 q hq)
  have hA7_40 := (fr_40 (k + 1) (by omega)).symm ▸ hA7_34
  have hA16_40 := (fr_40 (k + 2) (by omega)).symm ▸ hA16_34
  have hA25_40 := (fr_40 (k + 3) (by omega)).symm ▸ hA25_34
  have hA32_40 := (fr_40 (k + 4) (by omega)).symm ▸ hA32_34
  have hO34_40 := (fr_40 k (by omega)).trans hO34
  have hA40 := eArr.of up_40
  refine x_putF C (pc := 42) (q := k) (v := .ref (z + (k + 5))) (ci := 7) rfl hn_X7_init_X7 tyX7 tyX7_ok nmX7 6 (by decide) fl_X7_init_23 rfl rfl hR0.2.2 rfl (ty := tyX7 6) (tyX7_ok 6 (by decide)) rfl rfl (Nat.le_of_ble_eq_true rfl) (by omega) hO34_40 dX7_init_42 ?_
  refine x_nameF (fun F_42 e_42 => ?_)
  have fr_42 : ∀ q, q ≠ k → F_42 q = F_40 q := fun q h => by rw [e_42, va_up_ne _ _ h]
  have up_42 : F_42 k = .inr (7, [.ref (z + (k + 1)), .ref (z + (k + 2)), .int 0, .int 0, .ref (z + (k + 3)), .ref (z + (k + 4)), .ref (z + (k + 5)), .null, .null, .int 0, .int 0, .int 0, .int 0, .null]) := by rw [e_42]; exact va_up_self _ _ _
  have hlow_42 : ∀ q, q < k → F_42 q = F q := fun q hq => (fr_42 q (by omega)).trans (hlow_40 q hq)
  have hA7_42 := (fr_42 (k + 1) (by omega)).symm ▸ hA7_40
  have hA16_42 := (fr_42 (k + 2) (by omega)).symm ▸ hA16_40
  have hA25_42 := (fr_42 (k + 3) (by omega)).symm ▸ hA25_40
  have hA32_42 := (fr_42 (k + 4) (by omega)).symm ▸ hA32_40
  have hA40_42 := (fr_42 (k + 5) (by omega)).symm ▸ hA40
  have hO42 := up_42
  refine x_aload_n C (pc := 45) 0 dX7_init_45 rfl ?_
  refine x_sipush C (pc := 46) (v := 1024) dX7_init_46 (by decide) ?_
  refine x_newI C (pc := 49) (k0 := 1024) ac_X7_init_I rfl (by decide) (by show 0 + 1 + 1 + 1 + 1 + 1 + 1 ≤ 8; omega) (by show 0 + 65 + 390 + 130 + 2 + 65 + 1024 ≤ 1888; omega) dX7_init_49 ?_
  refine x_nameF (fun F_49 e_49 => ?_)
  have fr_49 : ∀ q, q ≠ k + 6 → F_49 q = F_42 q := fun q h => by rw [e_49, va_up_ne _ _ h]
  have up_49 : F_49 (k + 6) = .inl (cI, 1024, .inl (fun _ => 0)) := by rw [e_49]; exact va_up_self _ _ _
  have hlow_49 : ∀ q, q < k → F_49 q = F q := fun q hq => (fr_49 q (by omega)).trans (hlow_42 q hq)
  have hA7_49 := (fr_49 (k + 1) (by omega)).symm ▸ hA7_42
  have hA16_49 := (fr_49 (k + 2) (by omega)).symm ▸ hA16_42
  have hA25_49 := (fr_49 (k + 3) (by omega)).symm ▸ hA25_42
  have hA32_49 := (fr_49 (k + 4) (by omega)).symm ▸ hA32_42
  have hA40_49 := (fr_49 (k + 5) (by omega)).symm ▸ hA40_42
  have hO42_49 := (fr_49 k (by omega)).trans hO42
  have hA49 := eArr.of up_49
  refine x_putF C (pc := 51) (q := k) (v := .ref (z + (k + 6))) (ci := 7) rfl hn_X7_init_X7 tyX7 tyX7_ok nmX7 7 (by decide) fl_X7_init_26 rfl rfl hR0.2.2 rfl (ty := tyX7 7) (tyX7_ok 7 (by decide)) rfl rfl (Nat.le_of_ble_eq_true rfl) (by omega) hO42_49 dX7_init_51 ?_
  refine x_nameF (fun F_51 e_51 => ?_)
  have fr_51 : ∀ q, q ≠ k → F_51 q = F_49 q := fun q h => by rw [e_51, va_up_ne _ _ h]
  have up_51 : F_51 k = .inr (7, [.ref (z + (k + 1)), .ref (z + (k + 2)), .int 0, .int 0, .ref (z + (k + 3)), .ref (z + (k + 4)), .ref (z + (k + 5)), .ref (z + (k + 6)), .null, .int 0, .int 0, .int 0, .int 0, .null]) := by rw [e_51]; exact va_up_self _ _ _
  have hlow_51 : ∀ q, q < k → F_51 q = F q := fun q hq => (fr_51 q (by omega)).trans (hlow_49 q hq)
  have hA7_51 := (fr_51 (k + 1) (by omega)).symm ▸ hA7_49
  have hA16_51 := (fr_51 (k + 2) (by omega)).symm ▸ hA16_49
  have hA25_51 := (fr_51 (k + 3) (by omega)).symm ▸ hA25_49
  have hA32_51 := (fr_51 (k + 4) (by omega)).symm ▸ hA32_49
  have hA40_51 := (fr_51 (k + 5) (by omega)).symm ▸ hA40_49
  have hA49_51 := (fr_51 (k + 6) (by omega)).symm ▸ hA49
  have hO51 := up_51
  refine x_aload_n C (pc := 54) 0 dX7_init_54 rfl ?_
  refine x_bipush C (pc := 55) (v := 80) dX7_init_55 (by decide) ?_
  refine x_newI C (pc := 57) (k0 := 80) ac_X7_init_I rfl (by decide) (by show 0 + 1 + 1 + 1 + 1 + 1 + 1 + 1 ≤ 8; omega) (by show 0 + 65 + 390 + 130 + 2 + 65 + 1024 + 80 ≤ 1888; omega) dX7_init_57 ?_
  refine x_nameF (fun F_57 e_57 => ?_)
  have fr_57 : ∀ q, q ≠ k + 7 → F_57 q = F_51 q := fun q h => by rw [e_57, va_up_ne _ _ h]
  have up_57 : F_57 (k + 7) = .inl (cI, 80, .inl (fun _ => 0)) := by rw [e_57]; exact va_up_self _ _ _
  have hlow_57 : ∀ q, q < k → F_57 q = F q := fun q hq => (fr_57 q (by omega)).trans (hlow_51 q hq)
  have hA7_57 := (fr_57 (k + 1) (by omega)).symm ▸ hA7_51
  have hA16_57 := (fr_57 (k + 2) (by omega)).symm ▸ hA16_51
  have hA25_57 := (fr_57 (k + 3) (by omega)).symm ▸ hA25_51
  have hA32_57 := (fr_57 (k + 4) (by omega)).symm ▸ hA32_51
  have hA40_57 := (fr_57 (k + 5) (by omega)).symm ▸ hA40_51
  have hA49_57 := (fr_57 (k + 6) (by omega)).symm ▸ hA49_51
  have hO51_57 := (fr_57 k (by omega)).trans hO51
  have hA57 := eArr.of up_57
  refine x_putF C (pc := 59) (q := k) (v := .ref (z + (k + 7))) (ci := 7) rfl hn_X7_init_X7 tyX7 tyX7_ok nmX7 8 (by decide) fl_X7_init_29 rfl rfl hR0.2.2 rfl (ty := tyX7 8) (tyX7_ok 8 (by decide)) rfl rfl (Nat.le_of_ble_eq_true rfl) (by omega) hO51_57 dX7_init_59 ?_
  refine x_nameF (fun F_59 e_59 => ?_)
  have fr_59 : ∀ q, q ≠ k → F_59 q = F_57 q := fun q h => by rw [e_59, va_up_ne _ _ h]
  have up_59 : F_59 k = .inr (7, [.ref (z + (k + 1)), .ref (z + (k + 2)), .int 0, .int 0, .ref (z + (k + 3)), .ref (z + (k + 4)), .ref (z + (k + 5)), .ref (z + (k + 6)), .ref (z + (k + 7)), .int 0, .int 0, .int 0, .int 0, .null]) := by rw [e_59]; exact va_up_self _ _ _
  have hlow_59 : ∀ q, q < k → F_59 q = F q := fun q hq => (fr_59 q (by omega)).trans (hlow_57 q hq)
  have hA7_59 := (fr_59 (k + 1) (by omega)).symm ▸ hA7_57
  have hA16_59 := (fr_59 (k + 2) (by omega)).symm ▸ hA16_57
  have hA25_59 := (fr_59 (k + 3) (by omega)).symm ▸ hA25_57
  have hA32_59 := (fr_59 (k + 4) (by omega)).symm ▸ hA32_57
  have hA40_59 := (fr_59 (k + 5) (by omega)).symm ▸ hA40_57
  have hA49_59 := (fr_59 (k + 6) (by omega)).symm ▸ hA49_57
  have hA57_59 := (fr_59 (k + 7) (by omega)).symm ▸ hA57
  have hO59 := up_59
  refine x_aload_n C (pc := 62) 0 dX7_init_62 rfl ?_
  refine x_sipush C (pc := 63) (v := 132) dX7_init_63 (by decide) ?_
  refine x_newI C (pc := 66) (k0 := 132) ac_X7_init_I rfl (by decide) (by show 0 + 1 + 1 + 1 + 1 + 1 + 1 + 1 + 1 ≤ 8; omega) (by show 0 + 65 + 390 + 130 + 2 + 65 + 1024 + 80 + 132 ≤ 1888; omega) dX7_init_66 ?_
  refine x_nameF (fun F_66 e_66 => ?_)
  have fr_66 : ∀ q, q ≠ k + 8 → F_66 q = F_59 q := fun q h => by rw [e_66, va_up_ne _ _ h]
  have up_66 : F_66 (k + 8) = .inl (cI, 132, .inl (fun _ => 0)) := by rw [e_66]; exact va_up_self _ _ _
  have hlow_66 : ∀ q, q < k → F_66 q = F q := fun q hq => (fr_66 q (by omega)).trans (hlow_59 q hq)
  have hA7_66 := (fr_66 (k + 1) (by omega)).symm ▸ hA7_59
  have hA16_66 := (fr_66 (k + 2) (by omega)).symm ▸ hA16_59
  have hA25_66 := (fr_66 (k + 3) (by omega)).symm ▸ hA25_59
  have hA32_66 := (fr_66 (k + 4) (by omega)).symm ▸ hA32_59
  have hA40_66 := (fr_66 (k + 5) (by omega)).symm ▸ hA40_59
  have hA49_66 := (fr_66 (k + 6) (by omega)).symm ▸ hA49_59
  have hA57_66 := (fr_66 (k + 7) (by omega)).symm ▸ hA57_59
  have hO59_66 := (fr_66 k (by omega)).trans hO59
  have hA66 := eArr.of up_66
  refine x_putF C (pc := 68) (q := k) (v := .ref (z + (k + 8))) (ci := 7) rfl hn_X7_init_X7 tyX7 tyX7_ok nmX7 13 (by decide) fl_X7_init_32 rfl rfl hR0.2.2 rfl (ty := tyX7 13) (tyX7_ok 13 (by decide)) rfl rfl (Nat.le_of_ble_eq_true rfl) (by omega) hO59_66 dX7_init_68 ?_
  refine x_nameF (fun F_68 e_68 => ?_)
  have fr_68 : ∀ q, q ≠ k → F_68 q = F_66 q := fun q h => by rw [e_68, va_up_ne _ _ h]
  have up_68 : F_68 k = .inr (7, [.ref (z + (k + 1)), .ref (z + (k + 2)), .int 0, .int 0, .ref (z + (k + 3)), .ref (z + (k + 4)), .ref (z + (k + 5)), .ref (z + (k + 6)), .ref (z + (k + 7)), .int 0, .int 0, .int 0, .int 0, .ref (z + (k + 8))]) := by rw [e_68]; exact va_up_self _ _ _
  have hlow_68 : ∀ q, q < k → F_68 q = F q := fun q hq => (fr_68 q (by omega)).trans (hlow_66 q hq)
  have hA7_68 := (fr_68 (k + 1) (by omega)).symm ▸ hA7_66
  have hA16_68 := (fr_68 (k + 2) (by omega)).symm ▸ hA16_66
  have hA25_68 := (fr_68 (k + 3) (by omega)).symm ▸ hA25_66
  have hA32_68 := (fr_68 (k + 4) (by omega)).symm ▸ hA32_66
  have hA40_68 := (fr_68 (k + 5) (by omega)).symm ▸ hA40_66
  have hA49_68 := (fr_68 (k + 6) (by omega)).symm ▸ hA49_66
  have hA57_68 := (fr_68 (k + 7) (by omega)).symm ▸ hA57_66
  have hA66_68 := (fr_68 (k + 8) (by omega)).symm ▸ hA66
  have hO68 := up_68
  refine x_aload_n C (pc := 71) 0 dX7_init_71 rfl ?_
  refine x_get C (pc := 72) (q := k) (v := .ref (z + (k + 1))) (ci := 7) rfl hn_X7_init_X7 0 (by decide) fl_X7_init_7 rfl (by omega) hO68 rfl dX7_init_72 ?_
  refine x_iconst C (pc := 75) (v := 1) dX7_init_75 (by decide) ?_
  refine x_sipush C (pc := 76) (v := 500) dX7_init_76 (by decide) ?_
  refine x_iastE C (pc := 79) (q := k + 1) (j := 1) (by omega) hA7_68 rfl (by omega) (by decide) dX7_init_79 (fun F_79 hB79 g_79 => ?_)
  have fr_79 : ∀ q, q ≠ k + 1 → F_79 q = F_68 q := fun q h => g_79 q (by omega)
  have hlow_79 : ∀ q, q < k → F_79 q = F q := fun q hq => (fr_79 q (by omega)).trans (hlow_68 q hq)
  have hA16_79 := (fr_79 (k + 2) (by omega)).symm ▸ hA16_68
  have hA25_79 := (fr_79 (k + 3) (by omega)).symm ▸ hA25_68
  have hA32_79 := (fr_79 (k + 4) (by omega)).symm ▸ hA32_68
  have hA40_79 := (fr_79 (k + 5) (by omega)).symm ▸ hA40_68
  have hA49_79 := (fr_79 (k + 6) (by omega)).symm ▸ hA49_68
  have hA57_79 := (fr_79 (k + 7) (by omega)).symm ▸ hA57_68
  have hA66_79 := (fr_79 (k + 8) (by omega)).symm ▸ hA66_68
  have hO68_79 := (fr_79 k (by omega)).trans hO68
  refine x_aload_n C (pc := 80) 0 dX7_init_80 rfl ?_
  refine x_get C (pc := 81) (q := k) (v := .ref (z + (k + 1))) (ci := 7) rfl hn_X7_init_X7 0 (by decide) fl_X7_init_7 rfl (by omega) hO68_79 rfl dX7_init_81 ?_
  refine x_iconst C (pc := 84) (v := 2) dX7_init_84 (by decide) ?_
  refine x_iconst C (pc := 85) (v := 1) dX7_init_85 (by decide) ?_
  refine x_iastE C (pc := 86) (q := k + 1) (j := 2) (by omega) hB79 rfl (by omega) (by decide) dX7_init_86 (fun F_86 hB86 g_86 => ?_)
  have fr_86 : ∀ q, q ≠ k + 1 → F_86 q = F_79 q := fun q h => g_86 q (by omega)
  have hlow_86 : ∀ q, q < k → F_86 q = F q := fun q hq => (fr_86 q (by omega)).trans (hlow_79 q hq)
  have hA16_86 := (fr_86 (k + 2) (by omega)).symm ▸ hA16_79
  have hA25_86 := (fr_86 (k + 3) (by omega)).symm ▸ hA25_79
  have hA32_86 := (fr_86 (k + 4) (by omega)).symm ▸ hA32_79
  have hA40_86 := (fr_86 (k + 5) (by omega)).symm ▸ hA40_79
  have hA49_86 := (fr_86 (k + 6) (by omega)).symm ▸ hA49_79
  have hA57_86 := (fr_86 (k + 7) (by omega)).symm ▸ hA57_79
  have hA66_86 := (fr_86 (k + 8) (by omega)).symm ▸ hA66_79
  have hO68_86 := (fr_86 k (by omega)).trans hO68_79
  exact x_vret C hR0 (Nat.le_of_ble_eq_true rfl) (Nat.le_of_ble_eq_true rfl) ⟨rfl, ⟨⟨hO68_86, hB86, hA16_86, hA25_86, hA32_86, hA40_86, hA49_86, hA57_86, hA66_86⟩, hlow_86⟩⟩ dX7_init_87
