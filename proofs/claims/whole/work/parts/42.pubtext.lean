theorem kc_X6_codeIn_242 : Cond.constantLong RX6 242 (255) ∈ wsX6_codeIn := by decide +kernel
set_option maxHeartbeats 4000000 in
set_option maxRecDepth 100000 in
theorem c_X6_codeIn (l : Launch) (D : va_G) (z : Nat) (cI cZ cP cR : ClassId) (N : Nat) (F : Nat → va_E) (X i : Nat) (hX : X < 2 ^ 64) (hi : i < 8) : gMi l yX6_codeIn wsX6_codeIn ({ frames := 0, cells := 0, slots := 0, locals := 0 }) D z cI cZ cP cR N F [.long (lN X), .int (nI i)] (gRes (nI (byN X i)) N (fun F2 => F2 = F)) 0 0 := by
  refine gMi.of (cc := cX6_codeIn) (maxL := 3) (ret := (some .int)) (by decide) rfl (Nat.le_of_ble_eq_true rfl) [(0, .long (lN X)), (2, .int (nI i))] rfl ?_
  intro pg ev sg mg bel me cg C hR0
  refine x_lload_n C (pc := 0) 0 dX6_codeIn_0 rfl ?_
  refine x_bipush C (pc := 1) (v := 8) dX6_codeIn_1 (by decide) ?_
  refine x_iload_n C (pc := 3) 1 dX6_codeIn_3 rfl ?_
  refine x_imul C (pc := 4) (v := nI (8 * i)) dX6_codeIn_4 (pk_mul 8 i) ?_
  refine x_lushr C (pc := 5) (v := lN (X / 256 ^ i)) dX6_codeIn_5 (lw_shrk hX hi) ?_
  refine x_ldc2 C (pc := 6) (v := 255) kc_X6_codeIn_242 dX6_codeIn_6 ?_
  refine x_land C (pc := 9) (v := lN (byN X i)) dX6_codeIn_9 (lw_mask (dv_lt hX i)) ?_
  refine x_l2i C (pc := 10) (v := nI (byN X i)) dX6_codeIn_10 (lN_i _) ?_
  exact x_iret C hR0 rfl (Nat.le_of_ble_eq_true rfl) (Nat.le_of_ble_eq_true rfl) ⟨rfl, rfl, rfl⟩ dX6_codeIn_11
set_option maxHeartbeats 4000000 in
set_option maxRecDepth 100000 in
theorem c_X6_charactersIn (l : Launch) (D : va_G) (z : Nat) (cI cZ cP cR : ClassId) (N : Nat) (F : Nat → va_E) (X : Nat) (hX : X < 2 ^ 64) : gMi l yX6_charactersIn wsX6_charactersIn ({ frames := 1, cells := 0, slots := 0, locals := 22 }) D z cI cZ cP cR N F [.long (lN X)] (gRes (nI (chN X)) N (fun F2 => F2 = F)) 0 0 := by
  refine gMi.of (cc := cX6_charactersIn) (maxL := 4) (ret := (some .int)) (by decide) rfl (Nat.le_of_ble_eq_true rfl) [(0, .long (lN X))] rfl ?_
  intro pg ev sg mg bel me cg C hR0
  refine x_iconst C (pc := 0) (v := 0) dX6_charactersIn_0 (by decide) ?_
  refine x_istore_n C (pc := 1) [(2, .int 0), (0, .long (lN X))] dX6_charactersIn_1 (by decide) rfl ?_
  refine x_sub [1, 0] _ rfl ?_
  refine x_loop1 (A1 := Nat) (pc := 2) (st := []) (fun i => 8 - i) (fun i => (i ≤ 8) ∧ (chG X (8 - i) i = chG X 8 0)) (fun i => N) (fun i => F) (fun i => 0) (fun i => 0) (fun i => [(0, .long (lN X)), (2, .int (nI i))]) 0 ⟨(by decide), rfl⟩ rfl rfl rfl rfl rfl ?_
  rintro i ⟨hi, hch⟩ ih_2
  try dsimp only at ih_2
  have hbl := byN_lt X i
  have hdl := dv_lt hX i
  refine x_iload_n C (pc := 2) 1 dX6_charactersIn_2 rfl ?_
  refine x_bipush C (pc := 3) (v := 8) dX6_charactersIn_3 (by decide) ?_
  refine x_icmpN_ge C (a := i) (b := 8) (pc := 5) (tgt := 42) (by omega) (by omega) dX6_charactersIn_5 (by decide) (fun c_5 => ?_) (fun c_5 => ?_)
  · have hex : chG X 8 0 = some i := by
      rw [← hch]
      cases hq : 8 - i with
      | zero => rfl
      | succ f => rw [chG, if_pos (by omega)]
    refine x_iload_n C (pc := 42) 1 dX6_charactersIn_42 rfl ?_
    refine x_bipush C (pc := 43) (v := 8) dX6_charactersIn_43 (by decide) ?_
    refine x_icmpN_eq C (a := i) (b := 8) (pc := 45) (tgt := 59) (by omega) (by omega) dX6_charactersIn_45 (by decide) (fun c_45 => ?_) (fun c_45 => ?_)
    · refine x_iconst C (pc := 59) (v := 1) dX6_charactersIn_59 (by decide) ?_
      refine x_goto C (pc := 60) (tgt := 64) dX6_charactersIn_60 (by decide) ?_
      refine x_istore_n C (pc := 64) [(3, .int 1), (0, .long (lN X)), (2, .int (nI i))] dX6_charactersIn_64 (by decide) rfl ?_
      refine x_iload_n C (pc := 65) 0 dX6_charactersIn_65 rfl ?_
      refine x_ifN_eq C (a := 1) (pc := 66) (tgt := 73) (by decide) dX6_charactersIn_66 (by decide) (fun h_ => absurd h_ (by decide)) (fun _ => ?_)
      refine x_iload_n C (pc := 69) 2 dX6_charactersIn_69 rfl ?_
      refine x_goto C (pc := 70) (tgt := 74) dX6_charactersIn_70 (by decide) ?_
      exact x_iret C hR0 rfl (Nat.le_of_ble_eq_true rfl) (Nat.le_of_ble_eq_true rfl) ⟨(by rw [chN_of hex (by first | (rw [c_45]; exact d8 hX) | exact (lc0 hdl).mp (Decidable.not_not.mp c_56) | exact (lc0 hdl).mp c_56)]), rfl, rfl⟩ dX6_charactersIn_74
    refine x_lload_n C (pc := 48) 0 dX6_charactersIn_48 rfl ?_
    refine x_bipush C (pc := 49) (v := 8) dX6_charactersIn_49 (by decide) ?_
    refine x_iload_n C (pc := 51) 1 dX6_charactersIn_51 rfl ?_
    refine x_imul C (pc := 52) (v := nI (8 * i)) dX6_charactersIn_52 (pk_mul 8 i) ?_
    refine x_lushr C (pc := 53) (v := lN (X / 256 ^ i)) dX6_charactersIn_53 (lw_shrk hX (by omega)) ?_
    refine x_lconst C (pc := 54) (v := 0) dX6_charactersIn_54 (by decide) ?_
    refine x_lcmp C (pc := 55) dX6_charactersIn_55 ?_
    refine x_if_ne C (pc := 56) (tgt := 63) dX6_charactersIn_56 (by decide) (fun c_56 => ?_) (fun c_56 => ?_)
    · refine x_iconst C (pc := 63) (v := 0) dX6_charactersIn_63 (by decide) ?_
      refine x_istore_n C (pc := 64) [(3, .int 0), (0, .long (lN X)), (2, .int (nI i))] dX6_charactersIn_64 (by decide) rfl ?_
      refine x_iload_n C (pc := 65) 0 dX6_charactersIn_65 rfl ?_
      refine x_ifN_eq C (a := 0) (pc := 66) (tgt := 73) (by decide) dX6_charactersIn_66 (by decide) (fun h_ => ?_) (fun h_ => absurd h_ (by decide))
      refine x_iconst C (pc := 73) (v := 0) dX6_charactersIn_73 (by decide) ?_
      exact x_iret C hR0 rfl (Nat.le_of_ble_eq_true rfl) (Nat.le_of_ble_eq_true rfl) ⟨(by first | (rw [chN_no hno]; rfl) | (rw [chN_no2 hex (fun h => c_56 ((lc0 hdl).mpr h))]; rfl)), rfl, rfl⟩ dX6_charactersIn_74
    refine x_iconst C (pc := 59) (v := 1) dX6_charactersIn_59 (by decide) ?_
    refine x_goto C (pc := 60) (tgt := 64) dX6_charactersIn_60 (by decide) ?_
    refine x_istore_n C (pc := 64) [(3, .int 1), (0, .long (lN X)), (2, .int (nI i))] dX6_charactersIn_64 (by decide) rfl ?_
    refine x_iload_n C (pc := 65) 0 dX6_charactersIn_65 rfl ?_
    refine x_ifN_eq C (a := 1) (pc := 66) (tgt := 73) (by decide) dX6_charactersIn_66 (by decide) (fun h_ => absurd h_ (by decide)) (fun _ => ?_)
    refine x_iload_n C (pc := 69) 2 dX6_charactersIn_69 rfl ?_
    refine x_goto C (pc := 70) (tgt := 74) dX6_charactersIn_70 (by decide) ?_
    exact x_iret C hR0 rfl (Nat.le_of_ble_eq_true rfl) (Nat.le_of_ble_eq_true rfl) ⟨(by rw [chN_of hex (by first | (rw [c_45]; exact d8 hX) | exact (lc0 hdl).mp (Decidable.not_not.mp c_56) | exact (lc0 hdl).mp c_56)]), rfl, rfl⟩ dX6_charactersIn_74
  refine x_lload_n C (pc := 8) 0 dX6_charactersIn_8 rfl ?_
  refine x_iload_n C (pc := 9) 1 dX6_charactersIn_9 rfl ?_
  refine x_cSiR C (pc := 10) (st := []) (c_X6_codeIn l D z cI cZ cP cR N F X i hX (by omega)) (va_cwS 2 C.2.2.2.2.1 gX6_charactersIn_X6_codeIn rfl rfl rfl hd_X6_codeIn.2 ⟨Nat.le_of_ble_eq_true rfl, Nat.le_of_ble_eq_true rfl⟩) rfl rfl (Nat.le_of_ble_eq_true rfl) dX6_charactersIn_10 ⟨Nat.le_of_ble_eq_true rfl, Nat.le_of_ble_eq_true rfl⟩ ?_
  refine x_ifN_eq C (a := byN X i) (pc := 13) (tgt := 42) (by omega) dX6_charactersIn_13 (by decide) (fun c_13 => ?_) (fun c_13 => ?_)
  · have hex : chG X 8 0 = some i := by
      rw [← hch]
      cases hq : 8 - i with
      | zero => rfl
      | succ f => rw [chG, if_pos (by omega)]
    refine x_iload_n C (pc := 42) 1 dX6_charactersIn_42 rfl ?_
    refine x_bipush C (pc := 43) (v := 8) dX6_charactersIn_43 (by decide) ?_
    refine x_icmpN_eq C (a := i) (b := 8) (pc := 45) (tgt := 59) (by omega) (by omega) dX6_charactersIn_45 (by decide) (fun c_45 => ?_) (fun c_45 => ?_)
    · refine x_iconst C (pc := 59) (v := 1) dX6_charactersIn_59 (by decide) ?_
      refine x_goto C (pc := 60) (tgt := 64) dX6_charactersIn_60 (by decide) ?_
      refine x_istore_n C (pc := 64) [(3, .int 1), (0, .long (lN X)), (2, .int (nI i))] dX6_charactersIn_64 (by decide) rfl ?_
      refine x_iload_n C (pc := 65) 0 dX6_charactersIn_65 rfl ?_
      refine x_ifN_eq C (a := 1) (pc := 66) (tgt := 73) (by decide) dX6_charactersIn_66 (by decide) (fun h_ => absurd h_ (by decide)) (fun _ => ?_)
      refine x_iload_n C (pc := 69) 2 dX6_charactersIn_69 rfl ?_
      refine x_goto C (pc := 70) (tgt := 74) dX6_charactersIn_70 (by decide) ?_
      exact x_iret C hR0 rfl (Nat.le_of_ble_eq_true rfl) (Nat.le_of_ble_eq_true rfl) ⟨(by rw [chN_of hex (by first | (rw [c_45]; exact d8 hX) | exact (lc0 hdl).mp (Decidable.not_not.mp c_56) | exact (lc0 hdl).mp c_56)]), rfl, rfl⟩ dX6_charactersIn_74
    refine x_lload_n C (pc := 48) 0 dX6_charactersIn_48 rfl ?_
    refine x_bipush C (pc := 49) (v := 8) dX6_charactersIn_49 (by decide) ?_
    refine x_iload_n C (pc := 51) 1 dX6_charactersIn_51 rfl ?_
    refine x_imul C (pc := 52) (v := nI (8 * i)) dX6_charactersIn_52 (pk_mul 8 i) ?_
    refine x_lushr C (pc := 53) (v := lN (X / 256 ^ i)) dX6_charactersIn_53 (lw_shrk hX (by omega)) ?_
    refine x_lconst C (pc := 54) (v := 0) dX6_charactersIn_54 (by decide) ?_
    refine x_lcmp C (pc := 55) dX6_charactersIn_55 ?_
    refine x_if_ne C (pc := 56) (tgt := 63) dX6_charactersIn_56 (by decide) (fun c_56 => ?_) (fun c_56 => ?_)
    · refine x_iconst C (pc := 63) (v := 0) dX6_charactersIn_63 (by decide) ?_
      refine x_istore_n C (pc := 64) [(3, .int 0), (0, .long (lN X)), (2, .int (nI i))] dX6_charactersIn_64 (by decide) rfl ?_
      refine x_iload_n C (pc := 65) 0 dX6_charactersIn_65 rfl ?_
      refine x_ifN_eq C (a := 0) (pc := 66) (tgt := 73) (by decide) dX6_charactersIn_66 (by decide) (fun h_ => ?_) (fun h_ => absurd h_ (by decide))
      refine x_iconst C (pc := 73) (v := 0) dX6_charactersIn_73 (by decide) ?_
      exact x_iret C hR0 rfl (Nat.le_of_ble_eq_true rfl) (Nat.le_of_ble_eq_true rfl) ⟨(by first | (rw [chN_no hno]; rfl) | (rw [chN_no2 hex (fun h => c_56 ((lc0 hdl).mpr h))]; rfl)), rfl, rfl⟩ dX6_charactersIn_74
    refine x_iconst C (pc := 59) (v := 1) dX6_charactersIn_59 (by decide) ?_
    refine x_goto C (pc := 60) (tgt := 64) dX6_charactersIn_60 (by decide) ?_
    refine x_istore_n C (pc := 64) [(3, .int 1), (0, .long (lN X)), (2, .int (nI i))] dX6_charactersIn_64 (by decide) rfl ?_
    refine x_iload_n C (pc := 65) 0 dX6_charactersIn_65 rfl ?_
    refine x_ifN_eq C (a := 1) (pc := 66) (tgt := 73) (by decide) dX6_charactersIn_66 (by decide) (fun h_ => absurd h_ (by decide)) (fun _ => ?_)
    refine x_iload_n C (pc := 69) 2 dX6_charactersIn_69 rfl ?_
    refine x_goto C (pc := 70) (tgt := 74) dX6_charactersIn_70 (by decide) ?_
    exact x_iret C hR0 rfl (Nat.le_of_ble_eq_true rfl) (Nat.le_of_ble_eq_true rfl) ⟨(by rw [chN_of hex (by first | (rw [c_45]; exact d8 hX) | exact (lc0 hdl).mp (Decidable.not_not.mp c_56) | exact (lc0 hdl).mp c_56)]), rfl, rfl⟩ dX6_charactersIn_74
  refine x_lload_n C (pc := 16) 0 dX6_charactersIn_16 rfl ?_
  refine x_iload_n C (pc := 17) 1 dX6_charactersIn_17 rfl ?_
  refine x_cSiR C (pc := 18) (st := []) (c_X6_codeIn l D z cI cZ cP cR N F X i hX (by omega)) (va_cwS 2 C.2.2.2.2.1 gX6_charactersIn_X6_codeIn rfl rfl rfl hd_X6_codeIn.2 ⟨Nat.le_of_ble_eq_true rfl, Nat.le_of_ble_eq_true rfl⟩) rfl rfl (Nat.le_of_ble_eq_true rfl) dX6_charactersIn_18 ⟨Nat.le_of_ble_eq_true rfl, Nat.le_of_ble_eq_true rfl⟩ ?_
  refine x_istore_n C (pc := 21) [(3, .int (nI (byN X i))), (0, .long (lN X)), (2, .int (nI i))] dX6_charactersIn_21 (by decide) rfl ?_
  refine x_iload_n C (pc := 22) 0 dX6_charactersIn_22 rfl ?_
  refine x_bipush C (pc := 23) (v := 33) dX6_charactersIn_23 (by decide) ?_
  refine x_icmpN_lt C (a := byN X i) (b := 33) (pc := 25) (tgt := 34) (by omega) (by omega) dX6_charactersIn_25 (by decide) (fun c_25 => ?_) (fun c_25 => ?_)
  · have hno : chG X 8 0 = none := by rw [← hch, show 8 - i = 8 - (i + 1) + 1 by omega, chG, if_neg (by omega), if_neg (fun h => by omega)]
    refine x_iconst C (pc := 34) (v := 0) dX6_charactersIn_34 (by decide) ?_
    exact x_iret C hR0 rfl (Nat.le_of_ble_eq_true rfl) (Nat.le_of_ble_eq_true rfl) ⟨(by first | (rw [chN_no hno]; rfl) | (rw [chN_no2 hex (fun h => c_56 ((lc0 hdl).mpr h))]; rfl)), rfl, rfl⟩ dX6_charactersIn_35
  refine x_iload_n C (pc := 28) 0 dX6_charactersIn_28 rfl ?_
  refine x_bipush C (pc := 29) (v := 126) dX6_charactersIn_29 (by decide) ?_
  refine x_icmpN_le C (a := byN X i) (b := 126) (pc := 31) (tgt := 36) (by omega) (by omega) dX6_charactersIn_31 (by decide) (fun c_31 => ?_) (fun c_31 => ?_)
  · refine x_iinc C (pc := 36) 2 [(2, .int (nI (i + 1))), (3, .int (nI (byN X i))), (0, .long (lN X))] dX6_charactersIn_36 rfl (nI_inc i) (by decide) rfl ?_
    refine x_goto C (pc := 39) (tgt := 2) dX6_charactersIn_39 (by decide) ?_
    exact x_sub [2, 0] _ rfl (ih_2 (i + 1) ⟨(by omega), (by rw [← hch, show 8 - i = 8 - (i + 1) + 1 by omega, chG, if_neg (by omega), if_pos ⟨by omega, by omega⟩])⟩ (by omega))
  have hno : chG X 8 0 = none := by rw [← hch, show 8 - i = 8 - (i + 1) + 1 by omega, chG, if_neg (by omega), if_neg (fun h => by omega)]
  refine x_iconst C (pc := 34) (v := 0) dX6_charactersIn_34 (by decide) ?_
  exact x_iret C hR0 rfl (Nat.le_of_ble_eq_true rfl) (Nat.le_of_ble_eq_true rfl) ⟨(by first | (rw [chN_no hno]; rfl) | (rw [chN_no2 hex (fun h => c_56 ((lc0 hdl).mpr h))]; rfl)), rfl, rfl⟩ dX6_charactersIn_35
def bhI (t : Nat) : Int32 := nI t - 1
theorem bh_0 {t : Nat} (ht : t < 2 ^ 20) (h : bhI t < 0) : t = 0 := by
  by_cases e : t = 0
  · exact e
  · exfalso
    have : bhI t = nI (t - 1) := pk_sub (a := t) (b := 1) (by omega)
    rw [this] at h
    exact nI_nn (by omega) h
theorem bh_p {t : Nat} (h : ¬ bhI t < 0) : 0 < t ∧ bhI t = nI (t - 1) := by
  by_cases e : t = 0
  · subst e; exact absurd (by decide) h
  · exact ⟨by omega, pk_sub (a := t) (b := 1) (by omega)⟩
theorem bh_dec {m j : Nat} (h : j < m) : nI (m - 1 - j) + -1 = bhI (m - (j + 1)) := by
  rw [bhI, show m - (j + 1) = m - 1 - j by omega, Int32.sub_eq_add_neg]
set_option maxHeartbeats 4000000 in
set_option maxRecDepth 100000 in
theorem c_X6_put_e1 (l : Launch) (D : va_G) (z : Nat) (cI cZ cP cR : ClassId) (N : Nat) (F : Nat → va_E) (n kk cw c0 : Nat) (wi rl sp : Int32) (pd : Nat → Nat → Int32) (bs od : Nat → Int32) (pi : Nat → Nat) (T : RD) (hn : Nat) (hb : Nat → Nat) (hd : Nat → RD) (sl : Nat → Option Nat) (sd : Nat → RD) (len : Nat) (pa : Nat → Int32) (X : Nat) (hR : isRec z cI cP F 1 (nI n) wi (nI kk) (nI cw) rl (nI c0) sp pd bs od) (hnn : n ≤ 10) (hkk : kk ≤ n) (hcw : cw < 2 ^ n) (hc0 : c0 < 2 ^ 31) (hcnt : cntB cw n = kk) (hsp : sp = 0 ∨ sp = 1) (hpi : piOK bs pi n) (hC : isCl z cI cP cR N F T hn hb hd sl sd len pa) (hX : X < 2 ^ 64) (hm : chN X = 0) : gMi l yX6_put wsX6_put ({ frames := 2, cells := 0, slots := 0, locals := 45 }) D z cI cZ cP cR N F [.ref (z + 0), .long (lN X)] (gRes (-2) N (fun F2 => F2 = F)) 0 0 := by
  refine gMi.of (cc := cX6_put) (maxL := 5) (ret := (some .int)) (by decide) rfl (Nat.le_of_ble_eq_true rfl) [(0, .ref (z + 0)), (1, .long (lN X))] rfl ?_
  intro pg ev sg mg bel me cg C hR0
  have h2n := two_lt hnn
  obtain ⟨hT, hTr, hH, hn6, hB, hD, hPd, hlen, ⟨rpt, rhd, rnu, hRe⟩, ⟨owy, oso, hOd⟩, hN, hslb, hS, hdd⟩ := hC
  have hm8 : chN X ≤ 8 := by omega
  refine x_lload_n C (pc := 0) 1 dX6_put_0 rfl ?_
  refine x_cSiR C (pc := 1) (st := []) (c_X6_charactersIn l D z cI cZ cP cR N F X hX) (va_cwS 1 C.2.2.2.2.1 gX6_put_X6_charactersIn rfl rfl rfl hd_X6_charactersIn.2 ⟨Nat.le_of_ble_eq_true rfl, Nat.le_of_ble_eq_true rfl⟩) rfl rfl (Nat.le_of_ble_eq_true rfl) dX6_put_1 ⟨Nat.le_of_ble_eq_true rfl, Nat.le_of_ble_eq_true rfl⟩ ?_
  refine x_istore_n C (pc := 4) [(3, .int (nI (chN X))), (0, .ref (z + 0)), (1, .long (lN X))] dX6_put_4 (by decide) rfl ?_
  refine x_iload_n C (pc := 5) 0 dX6_put_5 rfl ?_
  refine x_ifN_ne C (a := chN X) (pc := 6) (tgt := 12) (by omega) dX6_put_6 (by decide) (fun c_6 => absurd c_6 (by omega)) (fun c_6 => ?_)
  refine x_bipush C (pc := 9) (v := (-2)) dX6_put_9 (by decide) ?_
  exact x_iret C hR0 rfl (Nat.le_of_ble_eq_true rfl) (Nat.le_of_ble_eq_true rfl) ⟨rfl, rfl, rfl⟩ dX6_put_11
theorem fl_X6_put_177 : Cond.fieldLink RX6 177 "PileRecount$Pad" "length" "I" ∈ wsX6_put := by decide +kernel
theorem fl_X6_put_33 : Cond.fieldLink RX6 33 "PileRecount" "pad" "LPileRecount$Pad;" ∈ wsX6_put := by decide +kernel
theorem hn_X6_put_X2 : ∀ w ∈ wsX20, w ∈ wsX6_put := fun _ h => List.mem_cons_of_mem _ (List.mem_append_right _ h)
theorem hn_X6_put_X6 : ∀ w ∈ wsX60, w ∈ wsX6_put := fun _ h => List.mem_cons_of_mem _ (List.mem_append_left _ (List.mem_append_right _ h))
set_option maxHeartbeats 4000000 in
set_option maxRecDepth 100000 in
theorem c_X6_put_e2 (l : Launch) (D : va_G) (z : Nat) (cI cZ cP cR : ClassId) (N : Nat) (F : Nat → va_E) (n kk cw c0 : Nat) (wi rl sp : Int32) (pd : Nat → Nat → Int32) (bs od : Nat → Int32) (pi : Nat → Nat) (T : RD) (hn : Nat) (hb : Nat → Nat) (hd : Nat → RD) (sl : Nat → Option Nat) (sd : Nat → RD) (len : Nat) (pa : Nat → Int32) (X : Nat) (hR : isRec z cI cP F 1 (nI n) wi (nI kk) (nI cw) rl (nI c0) sp pd bs od) (hnn : n ≤ 10) (hkk : kk ≤ n) (hcw : cw < 2 ^ n) (hc0 : c0 < 2 ^ 31) (hcnt : cntB cw n = kk) (hsp : sp = 0 ∨ sp = 1) (hpi : piOK bs pi n) (hC : isCl z cI cP cR N F T hn hb hd sl sd len pa) (hX : X < 2 ^ 64) (hm : ¬ chN X = 0) (hov : 80 < len + chN X) : gMi l yX6_put wsX6_put ({ frames := 2, cells := 0, slots := 0, locals := 45 }) D z cI cZ cP cR N F [.ref (z + 0), .long (lN X)] (gRes (-4) N (fun F2 => F2 = F)) 0 0 := by
  refine gMi.of (cc := cX6_put) (maxL := 5) (ret := (some .int)) (by decide) rfl (Nat.le_of_ble_eq_true rfl) [(0, .ref (z + 0)), (1, .long (lN X))] rfl ?_
  intro pg ev sg mg bel me cg C hR0
  have h2n := two_lt hnn
  obtain ⟨hT, hTr, hH, hn6, hB, hD, hPd, hlen, ⟨rpt, rhd, rnu, hRe⟩, ⟨owy, oso, hOd⟩, hN, hslb, hS, hdd⟩ := hC
  have hpos := chN_pos hm
  have hm8 : chN X ≤ 8 := hpos.2.2.1
  refine x_lload_n C (pc := 0) 1 dX6_put_0 rfl ?_
  refine x_cSiR C (pc := 1) (st := []) (c_X6_charactersIn l D z cI cZ cP cR N F X hX) (va_cwS 1 C.2.2.2.2.1 gX6_put_X6_charactersIn rfl rfl rfl hd_X6_charactersIn.2 ⟨Nat.le_of_ble_eq_true rfl, Nat.le_of_ble_eq_true rfl⟩) rfl rfl (Nat.le_of_ble_eq_true rfl) dX6_put_1 ⟨Nat.le_of_ble_eq_true rfl, Nat.le_of_ble_eq_true rfl⟩ ?_
  refine x_istore_n C (pc := 4) [(3, .int (nI (chN X))), (0, .ref (z + 0)), (1, .long (lN X))] dX6_put_4 (by decide) rfl ?_
  refine x_iload_n C (pc := 5) 0 dX6_put_5 rfl ?_
  refine x_ifN_ne C (a := chN X) (pc := 6) (tgt := 12) (by omega) dX6_put_6 (by decide) (fun c_6 => ?_) (fun c_6 => absurd c_6 (by omega))
  refine x_aload_n C (pc := 12) 1 dX6_put_12 rfl ?_
  refine x_get C (pc := 13) (q := 0) (v := .ref (z + 116)) (ci := 6) rfl hn_X6_put_X6 4 (by decide) fl_X6_put_33 rfl (by omega) hT.1 rfl dX6_put_13 ?_
  refine x_get C (pc := 16) (q := 116) (v := .int (nI len)) (ci := 2) rfl hn_X6_put_X2 1 (by decide) fl_X6_put_177 rfl (by omega) hPd.ob rfl dX6_put_16 ?_
  refine x_iload_n C (pc := 19) 0 dX6_put_19 rfl ?_
  refine x_iadd C (pc := 20) (v := nI (len + chN X)) dX6_put_20 (nI_add len (chN X)) ?_
  refine x_bipush C (pc := 21) (v := 80) dX6_put_21 (by decide) ?_
  refine x_icmpN_le C (a := len + chN X) (b := 80) (pc := 23) (tgt := 29) (by omega) (by omega) dX6_put_23 (by decide) (fun c_23 => absurd c_23 (by omega)) (fun c_23 => ?_)
  refine x_bipush C (pc := 26) (v := (-4)) dX6_put_26 (by decide) ?_
  exact x_iret C hR0 rfl (Nat.le_of_ble_eq_true rfl) (Nat.le_of_ble_eq_true rfl) ⟨rfl, rfl, rfl⟩ dX6_put_28
set_option maxHeartbeats 4000000 in
set_option maxRecDepth 100000 in
theorem c_X6_put_s (l : Launch) (D : va_G) (z : Nat) (cI cZ cP cR : ClassId) (N : Nat) (F : Nat → va_E) (n kk cw c0 : Nat) (wi rl sp : Int32) (pd : Nat → Nat → Int32) (bs od : Nat → Int32) (pi : Nat → Nat) (T : RD) (hn : Nat) (hb : Nat → Nat) (hd : Nat → RD) (sl : Nat → Option Nat) (sd : Nat → RD) (len : Nat) (pa : Nat → Int32) (X : Nat) (hR : isRec z cI cP F 1 (nI n) wi (nI kk) (nI cw) rl (nI c0) sp pd bs od) (hnn : n ≤ 10) (hkk : kk ≤ n) (hcw : cw < 2 ^ n) (hc0 : c0 < 2 ^ 31) (hcnt : cntB cw n = kk) (hsp : sp = 0 ∨ sp = 1) (hpi : piOK bs pi n) (hC : isCl z cI cP cR N F T hn hb hd sl sd len pa) (hX : X < 2 ^ 64) (hm : ¬ chN X = 0) (hov : len + chN X ≤ 80) : gMi l yX6_put wsX6_put ({ frames := 2, cells := 0, slots := 0, locals := 45 }) D z cI cZ cP cR N F [.ref (z + 0), .long (lN X)] (gRes (nI (len + chN X)) N (fun F2 => isRec z cI cP F2 1 (nI n) wi (nI kk) (nI cw) rl (nI c0) sp pd bs od ∧ isCl z cI cP cR N F2 T hn hb hd sl sd (len + chN X) (ptA pa len X (chN X) (chN X)) ∧ gFr 0 123 F F2)) 0 0 := by
  refine gMi.of (cc := cX6_put) (maxL := 5) (ret := (some .int)) (by decide) rfl (Nat.le_of_ble_eq_true rfl) [(0, .ref (z + 0)), (1, .long (lN X))] rfl ?_
  intro pg ev sg mg bel me cg C hR0
  have h2n := two_lt hnn
  obtain ⟨hT, hTr, hH, hn6, hB, hD, hPd, hlen, ⟨rpt, rhd, rnu, hRe⟩, ⟨owy, oso, hOd⟩, hN, hslb, hS, hdd⟩ := hC
  have hpos := chN_pos hm
  have hm8 : chN X ≤ 8 := hpos.2.2.1
  refine x_lload_n C (pc := 0) 1 dX6_put_0 rfl ?_
  refine x_cSiR C (pc := 1) (st := []) (c_X6_charactersIn l D z cI cZ cP cR N F X hX) (va_cwS 1 C.2.2.2.2.1 gX6_put_X6_charactersIn rfl rfl rfl hd_X6_charactersIn.2 ⟨Nat.le_of_ble_eq_true rfl, Nat.le_of_ble_eq_true rfl⟩) rfl rfl (Nat.le_of_ble_eq_true rfl) dX6_put_1 ⟨Nat.le_of_ble_eq_true rfl, Nat.le_of_ble_eq_true rfl⟩ ?_
  refine x_istore_n C (pc := 4) [(3, .int (nI (chN X))), (0, .ref (z + 0)), (1, .long (lN X))] dX6_put_4 (by decide) rfl ?_
  refine x_iload_n C (pc := 5) 0 dX6_put_5 rfl ?_
  refine x_ifN_ne C (a := chN X) (pc := 6) (tgt := 12) (by omega) dX6_put_6 (by decide) (fun c_6 => ?_) (fun c_6 => absurd c_6 (by omega))
  refine x_aload_n C (pc := 12) 1 dX6_put_12 rfl ?_
  refine x_get C (pc := 13) (q := 0) (v := .ref (z + 116)) (ci := 6) rfl hn_X6_put_X6 4 (by decide) fl_X6_put_33 rfl (by omega) hT.1 rfl dX6_put_13 ?_
  refine x_get C (pc := 16) (q := 116) (v := .int (nI len)) (ci := 2) rfl hn_X6_put_X2 1 (by decide) fl_X6_put_177 rfl (by omega) hPd.ob rfl dX6_put_16 ?_
  refine x_iload_n C (pc := 19) 0 dX6_put_19 rfl ?_
  refine x_iadd C (pc := 20) (v := nI (len + chN X)) dX6_put_20 (nI_add len (chN X)) ?_
  refine x_bipush C (pc := 21) (v := 80) dX6_put_21 (by decide) ?_
  refine x_icmpN_le C (a := len + chN X) (b := 80) (pc := 23) (tgt := 29) (by omega) (by omega) dX6_put_23 (by decide) (fun c_23 => ?_) (fun c_23 => absurd c_23 (by omega))
  refine x_iload_n C (pc := 29) 0 dX6_put_29 rfl ?_
  refine x_iconst C (pc := 30) (v := 1) dX6_put_30 (by decide) ?_
  refine x_isub C (pc := 31) (v := bhI (chN X)) dX6_put_31 rfl ?_
  refine x_istore C (pc := 32) [(4, .int (bhI (chN X))), (3, .int (nI (chN X))), (0, .ref (z + 0)), (1, .long (lN X))] dX6_put_32 (by decide) rfl ?_
  refine x_sub [2, 3, 1, 0] _ rfl ?_
  refine x_loop2 (A1 := Nat) (A2 := Nat → va_E) (pc := 34) (st := []) (fun j G => chN X - j) (fun j G => (j ≤ chN X) ∧ (isPad z cI G 116 (nI (len + j)) (ptA pa len X (chN X) j)) ∧ (gFr 116 (116 + 2) F G)) (fun j G => N) (fun j G => G) (fun j G => 0) (fun j G => 0) (fun j G => [(0, .ref (z + 0)), (1, .long (lN X)), (3, .int (nI (chN X))), (4, .int (bhI (chN X - j)))]) 0 F ⟨(Nat.zero_le _), (by rw [ptA_0]; exact hPd), gFr.rf⟩ rfl rfl rfl rfl rfl ?_
  rintro j G ⟨hj, hPG, hfr⟩ ih_34
  try dsimp only at ih_34
  have hT_34 := hT.same (hfr 0 (by omega)) (hfr 29 (by omega))
  have hR_34 := hR.same (F2 := G) (fun q _ _ => hfr q (by omega))
  have hTr_34 := hTr.same (F2 := G) (fun q _ _ => hfr q (by omega))
  have hH_34 := hH.same (F2 := G) (fun q _ _ => hfr q (by omega))
  have hD_34 : ∀ i, i < 6 → isRecD z cI cP G (hb i) (hd i) := fun i hi => (hD i hi).same (fun q h1 h2 => hfr q (by have := (hB i hi).1; omega))
  have hRe_34 := hRe.same (F2 := G) (fun q _ _ => hfr q (by omega))
  have hOd_34 := hOd.same (F2 := G) (fun q _ _ => hfr q (by omega))
  have hS_34 : ∀ i, i < 2 → ∀ q, sl i = some q → isRecD z cI cP G q (sd i) := fun i hi q hq => (hS i hi q hq).same (fun q2 h1 h2 => hfr q2 (by have := hslb i hi q hq; omega))
  refine x_iload C (pc := 34) 3 dX6_put_34 rfl ?_
  refine x_if_lt C (pc := 36) (tgt := 58) dX6_put_36 (by decide) (fun c_36 => ?_) (fun c_36 => ?_)
  · have hjm : j = chN X := by have := bh_0 (by omega) c_36; omega
    refine x_aload_n C (pc := 58) 0 dX6_put_58 rfl ?_
    refine x_get C (pc := 59) (q := 0) (v := .ref (z + 116)) (ci := 6) rfl hn_X6_put_X6 4 (by decide) fl_X6_put_33 rfl (by omega) hT_34.1 rfl dX6_put_59 ?_
    refine x_get C (pc := 62) (q := 116) (v := .int (nI (len + j))) (ci := 2) rfl hn_X6_put_X2 1 (by decide) fl_X6_put_177 rfl (by omega) hPG.ob rfl dX6_put_62 ?_
    exact x_iret C hR0 rfl (Nat.le_of_ble_eq_true rfl) (Nat.le_of_ble_eq_true rfl) ⟨(by rw [hjm]), rfl, (by have hPe := hPG; rw [hjm] at hPe; exact ⟨hR_34, ⟨hT_34, hTr_34, hH_34, hn6, hB, hD_34, hPe, hov, ⟨_, _, _, hRe_34⟩, ⟨_, _, hOd_34⟩, hN, hslb, hS_34, hdd⟩, (gFr.wide (a := 0) (b := 123) hfr (by omega) (by omega))⟩)⟩ dX6_put_65
  obtain ⟨hj1, hbe⟩ := bh_p c_36
  rw [show chN X - j - 1 = chN X - 1 - j by omega] at hbe
  refine x_eqL [(0, .ref (z + 0)), (1, .long (lN X)), (3, .int (nI (chN X))), (4, .int (nI (chN X - 1 - j)))] (by rw [hbe]) ?_
  refine x_aload_n C (pc := 39) 0 dX6_put_39 rfl ?_
  refine x_get C (pc := 40) (q := 0) (v := .ref (z + 116)) (ci := 6) rfl hn_X6_put_X6 4 (by decide) fl_X6_put_33 rfl (by omega) hT_34.1 rfl dX6_put_40 ?_
  refine x_lload_n C (pc := 43) 1 dX6_put_43 rfl ?_
  refine x_iload C (pc := 44) 3 dX6_put_44 rfl ?_
  refine x_cSiR C (pc := 46) (st := [.ref (z + 116)]) (c_X6_codeIn l D z cI cZ cP cR N G X (chN X - 1 - j) hX (by omega)) (va_cwS 2 C.2.2.2.2.1 gX6_put_X6_codeIn rfl rfl rfl hd_X6_codeIn.2 ⟨Nat.le_of_ble_eq_true rfl, Nat.le_of_ble_eq_true rfl⟩) rfl rfl (Nat.le_of_ble_eq_true rfl) dX6_put_46 ⟨Nat.le_of_ble_eq_true rfl, Nat.le_of_ble_eq_true rfl⟩ ?_
  refine x_cVvE C (pc := 49) (st := []) (c_X2_append l D z cI cZ cP cR N G 116 (len + j) (ptA pa len X (chN X) j) (nI (byN X (chN X - 1 - j))) hPG (by omega) (by omega)) (cwV 1 C.2.2.2.2.1 gX6_put_X2_append rfl rfl rfl hd_X2_append ⟨Nat.le_of_ble_eq_true rfl, Nat.le_of_ble_eq_true rfl⟩) (by omega) hPG.ob rfl rfl rfl (Nat.le_of_ble_eq_true rfl) dX6_put_49 ⟨Nat.le_of_ble_eq_true rfl, Nat.le_of_ble_eq_true rfl⟩ (fun F_49 h_49 => ?_)
  obtain ⟨hPG_49, fr_49⟩ := h_49
  have hT_49 := hT_34.same (fr_49 0 (by omega)) (fr_49 29 (by omega))
  have hR_49 := hR_34.same (F2 := F_49) (fun q _ _ => fr_49 q (by omega))
  have hTr_49 := hTr_34.same (F2 := F_49) (fun q _ _ => fr_49 q (by omega))
  have hH_49 := hH_34.same (F2 := F_49) (fun q _ _ => fr_49 q (by omega))
  have hD_49 : ∀ i, i < 6 → isRecD z cI cP F_49 (hb i) (hd i) := fun i hi => (hD_34 i hi).same (fun q h1 h2 => fr_49 q (by have := (hB i hi).1; omega))
  have hRe_49 := hRe_34.same (F2 := F_49) (fun q _ _ => fr_49 q (by omega))
  have hOd_49 := hOd_34.same (F2 := F_49) (fun q _ _ => fr_49 q (by omega))
  have hS_49 : ∀ i, i < 2 → ∀ q, sl i = some q → isRecD z cI cP F_49 q (sd i) := fun i hi q hq => (hS_34 i hi q hq).same (fun q2 h1 h2 => fr_49 q2 (by have := hslb i hi q hq; omega))
  refine x_iinc C (pc := 52) 3 [(4, .int (bhI (chN X - (j + 1)))), (0, .ref (z + 0)), (1, .long (lN X)), (3, .int (nI (chN X)))] dX6_put_52 rfl (bh_dec (by omega)) (by decide) rfl ?_
  refine x_goto C (pc := 55) (tgt := 34) dX6_put_55 (by decide) ?_
  exact x_sub [1, 2, 3, 0] _ rfl (ih_34 (j + 1) F_49 ⟨(by omega), (by rw [← ptA_up]; exact hPG_49), (gFr.t2 hfr fr_49)⟩ (by omega))
theorem fl_X6_fault_33 : Cond.fieldLink RX6 33 "PileRecount" "pad" "LPileRecount$Pad;" ∈ wsX6_fault := by decide +kernel
theorem fl_X6_fault_40 : Cond.fieldLink RX6 40 "PileRecount" "reader" "LPileRecount$Reader;" ∈ wsX6_fault := by decide +kernel
theorem hn_X6_fault_X6 : ∀ w ∈ wsX60, w ∈ wsX6_fault := fun _ h => List.mem_cons_of_mem _ (List.mem_append_left _ (List.mem_append_left _ (List.mem_append_right _ h)))
set_option maxHeartbeats 4000000 in
set_option maxRecDepth 100000 in
theorem c_X6_fault (l : Launch) (D : va_G) (z : Nat) (cI cZ cP cR : ClassId) (N : Nat) (F : Nat → va_E) (n kk cw c0 : Nat) (wi rl sp : Int32) (pd : Nat → Nat → Int32) (bs od : Nat → Int32) (pi : Nat → Nat) (T : RD) (hn : Nat) (hb : Nat → Nat) (hd : Nat → RD) (sl : Nat → Option Nat) (sd : Nat → RD) (len : Nat) (pa : Nat → Int32) (cd : Nat → Nat) (hR : isRec z cI cP F 1 (nI n) wi (nI kk) (nI cw) rl (nI c0) sp pd bs od) (hnn : n ≤ 10) (hkk : kk ≤ n) (hcw : cw < 2 ^ n) (hc0 : c0 < 2 ^ 31) (hcnt : cntB cw n = kk) (hsp : sp = 0 ∨ sp = 1) (hpi : piOK bs pi n) (hC : isCl z cI cP cR N F T hn hb hd sl sd len pa) (hcd : cdOK pa cd len) : gMi l yX6_fault wsX6_fault ({ frames := 5, cells := 0, slots := 0, locals := 108 }) D z cI cZ cP cR N F [.ref (z + 0)] (gRes (opI (fltG cd len len 0 rs0)) N (fun F2 => isRec z cI cP F2 1 (nI n) wi (nI kk) (nI cw) rl (nI c0) sp pd bs od ∧ isCl z cI cP cR N F2 T hn hb hd sl sd len pa ∧ gFr 0 123 F F2)) 0 0 := by
  refine gMi.of (cc := cX6_fault) (maxL := 1) (ret := (some .int)) (by decide) rfl (Nat.le_of_ble_eq_true rfl) [(0, .ref (z + 0))] rfl ?_
  intro pg ev sg mg bel me cg C hR0
  have h2n := two_lt hnn
  obtain ⟨hT, hTr, hH, hn6, hB, hD, hPd, hlen, ⟨rpt, rhd, rnu, hRe⟩, ⟨owy, oso, hOd⟩, hN, hslb, hS, hdd⟩ := hC
  refine x_aload_n C (pc := 0) 0 dX6_fault_0 rfl ?_
  refine x_get C (pc := 1) (q := 0) (v := .ref (z + 118)) (ci := 6) rfl hn_X6_fault_X6 5 (by decide) fl_X6_fault_40 rfl (by omega) hT.1 rfl dX6_fault_1 ?_
  refine x_aload_n C (pc := 4) 0 dX6_fault_4 rfl ?_
  refine x_get C (pc := 5) (q := 0) (v := .ref (z + 116)) (ci := 6) rfl hn_X6_fault_X6 4 (by decide) fl_X6_fault_33 rfl (by omega) hT.1 rfl dX6_fault_5 ?_
  refine x_cViE C (pc := 8) (st := []) (c_X4_faultOf l D z cI cZ cP cR N F 118 116 len rpt rhd rnu pa cd hRe (by omega) hPd (by omega) hlen hcd (by omega)) (cwV 1 C.2.2.2.2.1 gX6_fault_X4_faultOf rfl rfl rfl hd_X4_faultOf ⟨Nat.le_of_ble_eq_true rfl, Nat.le_of_ble_eq_true rfl⟩) (by omega) hRe.ob rfl rfl rfl (Nat.le_of_ble_eq_true rfl) dX6_fault_8 ⟨Nat.le_of_ble_eq_true rfl, Nat.le_of_ble_eq_true rfl⟩ (fun F_8 h_8 => ?_)
  obtain ⟨⟨t_8, hRe_8, ht_8⟩, fr_8⟩ := h_8
  have hT_8 := hT.same (fr_8 0 (by omega)) (fr_8 29 (by omega))
  have hR_8 := hR.same (F2 := F_8) (fun q _ _ => fr_8 q (by omega))
  have hTr_8 := hTr.same (F2 := F_8) (fun q _ _ => fr_8 q (by omega))
  have hH_8 := hH.same (F2 := F_8) (fun q _ _ => fr_8 q (by omega))
  have hD_8 : ∀ i, i < 6 → isRecD z cI cP F_8 (hb i) (hd i) := fun i hi => (hD i hi).same (fun q h1 h2 => fr_8 q (by have := (hB i hi).1; omega))
  have hPd_8 := hPd.same (F2 := F_8) (fun q _ _ => fr_8 q (by omega))
  have hOd_8 := hOd.same (F2 := F_8) (fun q _ _ => fr_8 q (by omega))
  have hS_8 : ∀ i, i < 2 → ∀ q, sl i = some q → isRecD z cI cP F_8 q (sd i) := fun i hi q hq => (hS i hi q hq).same (fun q2 h1 h2 => fr_8 q2 (by have := hslb i hi q hq; omega))
  exact x_iret C hR0 rfl (Nat.le_of_ble_eq_true rfl) (Nat.le_of_ble_eq_true rfl) ⟨rfl, rfl, ⟨hR_8, ⟨hT_8, hTr_8, hH_8, hn6, hB, hD_8, hPd_8, hlen, ⟨_, _, _, hRe_8⟩, ⟨_, _, hOd_8⟩, hN, hslb, hS_8, hdd⟩, (gFr.wide (a := 0) (b := 123) fr_8 (by omega) (by omega))⟩⟩ dX6_fault_11
theorem lt2_not {v : Int32} (h : v < 2) : ¬ 1 < v := fun q => by
  have h1 := Int32.lt_iff_toInt_lt.mp h
  have h2 := Int32.lt_iff_toInt_lt.mp q
  have e1 : (1 : Int32).toInt = 1 := by decide
  have e2 : (2 : Int32).toInt = 2 := by decide
  omega
def slU (sl : Nat → Option Nat) (v q : Nat) : Nat → Option Nat := va_up sl v (some q)
def sdU (sd : Nat → RD) (v : Nat) (R : RD) : Nat → RD := va_up sd v R
set_option maxHeartbeats 4000000 in
set_option maxRecDepth 100000 in
theorem c_X6_save_e (l : Launch) (D : va_G) (z : Nat) (cI cZ cP cR : ClassId) (N : Nat) (F : Nat → va_E) (n kk cw c0 : Nat) (wi rl sp : Int32) (pd : Nat → Nat → Int32) (bs od : Nat → Int32) (pi : Nat → Nat) (T : RD) (hn : Nat) (hb : Nat → Nat) (hd : Nat → RD) (sl : Nat → Option Nat) (sd : Nat → RD) (len : Nat) (pa : Nat → Int32) (v : Int32) (hR : isRec z cI cP F 1 (nI n) wi (nI kk) (nI cw) rl (nI c0) sp pd bs od) (hnn : n ≤ 10) (hkk : kk ≤ n) (hcw : cw < 2 ^ n) (hc0 : c0 < 2 ^ 31) (hcnt : cntB cw n = kk) (hsp : sp = 0 ∨ sp = 1) (hpi : piOK bs pi n) (hC : isCl z cI cP cR N F T hn hb hd sl sd len pa) (hv : inB v 0 1 = false) : gMi l yX6_save wsX6_save ({ frames := 0, cells := 0, slots := 0, locals := 0 }) D z cI cZ cP cR N F [.ref (z + 0), .int v] (gRes (-2) N (fun F2 => F2 = F)) 0 0 := by
  refine gMi.of (cc := cX6_save) (maxL := 2) (ret := (some .int)) (by decide) rfl (Nat.le_of_ble_eq_true rfl) [(0, .ref (z + 0)), (1, .int v)] rfl ?_
  intro pg ev sg mg bel me cg C hR0
  have h2n := two_lt hnn
  obtain ⟨hT, hTr, hH, hn6, hB, hD, hPd, hlen, ⟨rpt, rhd, rnu, hRe⟩, ⟨owy, oso, hOd⟩, hN, hslb, hS, hdd⟩ := hC
  refine x_iload_n C (pc := 0) 1 dX6_save_0 rfl ?_
  refine x_if_lt C (pc := 1) (tgt := 9) dX6_save_1 (by decide) (fun c_1 => ?_) (fun c_1 => ?_)
  · refine x_bipush C (pc := 9) (v := (-2)) dX6_save_9 (by decide) ?_
    exact x_iret C hR0 rfl (Nat.le_of_ble_eq_true rfl) (Nat.le_of_ble_eq_true rfl) ⟨rfl, rfl, rfl⟩ dX6_save_11
  refine x_iload_n C (pc := 4) 1 dX6_save_4 rfl ?_
  refine x_iconst C (pc := 5) (v := 2) dX6_save_5 (by decide) ?_
  refine x_icmp_lt C (pc := 6) (tgt := 12) dX6_save_6 (by decide) (fun c_6 => absurd c_6 (fun q => by rw [inB_t c_1 (lt2_not q)] at hv; cases hv)) (fun c_6 => ?_)
  refine x_bipush C (pc := 9) (v := (-2)) dX6_save_9 (by decide) ?_
  exact x_iret C hR0 rfl (Nat.le_of_ble_eq_true rfl) (Nat.le_of_ble_eq_true rfl) ⟨rfl, rfl, rfl⟩ dX6_save_11
theorem fl_X6_save_10 : Cond.fieldLink RX6 10 "PileRecount" "now" "LPileRecount$Recount;" ∈ wsX6_save := by decide +kernel
theorem fl_X6_save_19 : Cond.fieldLink RX6 19 "PileRecount" "slots" "[LPileRecount$Recount;" ∈ wsX6_save := by decide +kernel
theorem fl_X6_save_69 : Cond.fieldLink RX6 69 "PileRecount$Recount" "countedPiles" "I" ∈ wsX6_save := by decide +kernel
theorem hn_X6_save_X5 : ∀ w ∈ wsX50, w ∈ wsX6_save := fun _ h => List.mem_cons_of_mem _ (List.mem_append_left _ (List.mem_append_right _ h))
theorem hn_X6_save_X6 : ∀ w ∈ wsX60, w ∈ wsX6_save := fun _ h => List.mem_cons_of_mem _ (List.mem_append_left _ (List.mem_append_left _ (List.mem_append_right _ h)))
set_option maxHeartbeats 4000000 in
set_option maxRecDepth 100000 in
theorem c_X6_save_q (l : Launch) (D : va_G) (z : Nat) (cI cZ cP cR : ClassId) (N : Nat) (F : Nat → va_E) (n kk cw c0 : Nat) (wi rl sp : Int32) (pd : Nat → Nat → Int32) (bs od : Nat → Int32) (pi : Nat → Nat) (T : RD) (hn : Nat) (hb : Nat → Nat) (hd : Nat → RD) (sl : Nat → Option Nat) (sd : Nat → RD) (len : Nat) (pa : Nat → Int32) (v q : Nat) (hR : isRec z cI cP F 1 (nI n) wi (nI kk) (nI cw) rl (nI c0) sp pd bs od) (hnn : n ≤ 10) (hkk : kk ≤ n) (hcw : cw < 2 ^ n) (hc0 : c0 < 2 ^ 31) (hcnt : cntB cw n = kk) (hsp : sp = 0 ∨ sp = 1) (hpi : piOK bs pi n) (hC : isCl z cI cP cR N F T hn hb hd sl sd len pa) (hv : v < 2) (hsl : sl v = some q) : gMi l yX6_save wsX6_save ({ frames := 2, cells := 0, slots := 0, locals := 43 }) D z cI cZ cP cR N F [.ref (z + 0), .int (nI v)] (gRes (nI kk) N (fun F2 => isRec z cI cP F2 1 (nI n) wi (nI kk) (nI cw) rl (nI c0) sp pd bs od ∧ isCl z cI cP cR N F2 T hn hb hd sl (sdU sd v (mkR (nI n) wi (nI kk) (nI cw) rl (nI c0) sp pd bs od)) len pa ∧ ∀ x, x < 132 → F2 x = F x)) 0 0 := by
  refine gMi.of (cc := cX6_save) (maxL := 2) (ret := (some .int)) (by decide) rfl (Nat.le_of_ble_eq_true rfl) [(0, .ref (z + 0)), (1, .int (nI v))] rfl ?_
  intro pg ev sg mg bel me cg C hR0
  have h2n := two_lt hnn
  obtain ⟨hT, hTr, hH, hn6, hB, hD, hPd, hlen, ⟨rpt, rhd, rnu, hRe⟩, ⟨owy, oso, hOd⟩, hN, hslb, hS, hdd⟩ := hC
  obtain ⟨hT0, gs, hgs, hgi⟩ := id hT
  have hgv := hgi v hv
  rw [hsl] at hgv
  obtain ⟨hq1, hq2⟩ := hslb v hv q hsl
  have hSq := hS v hv q hsl
  have hdj : ∀ i, i < 2 → i ≠ v → ∀ q2, sl i = some q2 → q2 + 14 ≤ q ∨ q + 14 ≤ q2 := fun i hi hne q2 hq2 => by
    match i, v, hi, hv, hne, hsl, hq2 with
    | 0, 1, _, _, _, h1, h0 => exact hdd q2 q h0 h1
    | 1, 0, _, _, _, h0, h1 => exact (hdd q q2 h0 h1).symm
    | 0, 0, _, _, h, _, _ => exact absurd rfl h
    | 1, 1, _, _, h, _, _ => exact absurd rfl h
  refine x_iload_n C (pc := 0) 1 dX6_save_0 rfl ?_
  refine x_ifN_lt C (a := v) (pc := 1) (tgt := 9) (by omega) dX6_save_1 (by decide) (fun c_1 => absurd c_1 (by omega)) (fun c_1 => ?_)
  refine x_iload_n C (pc := 4) 1 dX6_save_4 rfl ?_
  refine x_iconst C (pc := 5) (v := 2) dX6_save_5 (by decide) ?_
  refine x_icmpN_lt C (a := v) (b := 2) (pc := 6) (tgt := 12) (by omega) (by omega) dX6_save_6 (by decide) (fun c_6 => ?_) (fun c_6 => absurd c_6 (by omega))
  refine x_aload_n C (pc := 12) 0 dX6_save_12 rfl ?_
  refine x_get C (pc := 13) (q := 0) (v := .ref (z + 29)) (ci := 6) rfl hn_X6_save_X6 2 (by decide) fl_X6_save_19 rfl (by omega) hT.1 rfl dX6_save_13 ?_
  refine x_iload_n C (pc := 16) 1 dX6_save_16 rfl ?_
  refine x_aald C (pc := 17) 3 rfl (q := 29) (j := v) (q2 := q) (by omega) hgs rfl (by omega) (by decide) hgv dX6_save_17 ?_
  refine x_ifnonnullR C (pc := 18) (tgt := 34) dX6_save_18 (by decide) ?_
  refine x_aload_n C (pc := 34) 0 dX6_save_34 rfl ?_
  refine x_get C (pc := 35) (q := 0) (v := .ref (z + 29)) (ci := 6) rfl hn_X6_save_X6 2 (by decide) fl_X6_save_19 rfl (by omega) hT.1 rfl dX6_save_35 ?_
  refine x_iload_n C (pc := 38) 1 dX6_save_38 rfl ?_
  refine x_aald C (pc := 39) 3 rfl (q := 29) (j := v) (q2 := q) (by omega) hgs rfl (by omega) (by decide) hgv dX6_save_39 ?_
  refine x_aload_n C (pc := 40) 0 dX6_save_40 rfl ?_
  refine x_get C (pc := 41) (q := 0) (v := .ref (z + 1)) (ci := 6) rfl hn_X6_save_X6 0 (by decide) fl_X6_save_10 rfl (by omega) hT.1 rfl dX6_save_41 ?_
  refine x_cVvE C (pc := 44) (st := []) (c_X5_copyFrom l D z cI cZ cP cR N F q ((sd v).1 0) ((sd v).1 1) ((sd v).1 2) ((sd v).1 3) ((sd v).1 4) ((sd v).1 5) ((sd v).1 6) ((sd v).2.1) ((sd v).2.2.1) ((sd v).2.2.2) 1 (nI n) wi (nI kk) (nI cw) rl (nI c0) sp pd bs od hSq (by omega) hR (by omega) (by omega) hsp) (cwV 1 C.2.2.2.2.1 gX6_save_X5_copyFrom rfl rfl rfl hd_X5_copyFrom ⟨Nat.le_of_ble_eq_true rfl, Nat.le_of_ble_eq_true rfl⟩) (by omega) hSq.ob rfl rfl rfl (Nat.le_of_ble_eq_true rfl) dX6_save_44 ⟨Nat.le_of_ble_eq_true rfl, Nat.le_of_ble_eq_true rfl⟩ (fun F_44 h_44 => ?_)
  obtain ⟨hSq_44, fr_44⟩ := h_44
  have hoth : ∀ i, i < 2 → i ≠ v → ∀ q2, sl i = some q2 → isRecD z cI cP F_44 q2 (sd i) := fun i hi hne q2 hq2 => (hS i hi q2 hq2).same (fun x h1 h2 => fr_44 x (by rcases hdj i hi hne q2 hq2 with h | h <;> omega))
  have frs : ∀ x, x < 132 → F_44 x = F x := fun x hx => fr_44 x (by omega)
  have hT_44 := hT.same (fr_44 0 (by omega)) (fr_44 29 (by omega))
  have hR_44 := hR.same (F2 := F_44) (fun q _ _ => fr_44 q (by omega))
  have hTr_44 := hTr.same (F2 := F_44) (fun q _ _ => fr_44 q (by omega))
  have hH_44 := hH.same (F2 := F_44) (fun q _ _ => fr_44 q (by omega))
  have hD_44 : ∀ i, i < 6 → isRecD z cI cP F_44 (hb i) (hd i) := fun i hi => (hD i hi).same (fun q h1 h2 => fr_44 q (by have := (hB i hi).1; omega))
  have hPd_44 := hPd.same (F2 := F_44) (fun q _ _ => fr_44 q (by omega))
  have hRe_44 := hRe.same (F2 := F_44) (fun q _ _ => fr_44 q (by omega))
  have hOd_44 := hOd.same (F2 := F_44) (fun q _ _ => fr_44 q (by omega))
  refine x_aload_n C (pc := 47) 0 dX6_save_47 rfl ?_
  refine x_get C (pc := 48) (q := 0) (v := .ref (z + 1)) (ci := 6) rfl hn_X6_save_X6 0 (by decide) fl_X6_save_10 rfl (by omega) hT_44.1 rfl dX6_save_48 ?_
  refine x_get C (pc := 51) (q := 1) (v := .int (nI kk)) (ci := 5) rfl hn_X6_save_X5 5 (by decide) fl_X6_save_69 rfl (by omega) hR_44.ob rfl dX6_save_51 ?_
  exact x_iret C hR0 rfl (Nat.le_of_ble_eq_true rfl) (Nat.le_of_ble_eq_true rfl) ⟨rfl, rfl, ⟨hR_44, ⟨hT_44, hTr_44, hH_44, hn6, hB, hD_44, hPd_44, hlen, ⟨_, _, _, hRe_44⟩, ⟨_, _, hOd_44⟩, hN, hslb, (fun i hi q2 hq2 => by
      by_cases e : i = v
      · subst e; have e2 : q = q2 := Option.some.inj (hsl.symm.trans hq2); subst e2; rw [sdU, va_up_self]; exact hSq_44
      · rw [sdU, va_up_ne _ _ e]; exact hoth i hi e q2 hq2), hdd⟩, frs⟩⟩ dX6_save_54
