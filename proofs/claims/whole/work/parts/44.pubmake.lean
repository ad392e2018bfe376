def nuT (t : RS) : Nat → Int32 := fun i => if i = 0 then nI (t.1 0) else if i = 1 then nI (t.1 1) else if i = 2 then nI (t.1 2) else if i = 3 then (if t.2.1 = 4 then 1 else 0) else if i = 4 then nI (t.1 3) else nI (t.1 4)
theorem mkS_le {nu : Nat → Int32} {kk cw j n : Nat} {pd : PD} (hn : n ≤ 10) (hk : kk ≤ n) : (mkS nu kk cw j n pd).2.1 ≤ 10 ∧ n ≤ (mkS nu kk cw j n pd).2.1 := by
  unfold mkS
  split
  · exact ⟨hn, Nat.le_refl _⟩
  · rename_i h
    have := epF_0 hn hk (Decidable.not_not.mp h)
    split
    · exact ⟨by dsimp only; omega, Nat.le_succ _⟩
    · split
      · exact ⟨by dsimp only; omega, Nat.le_succ _⟩
      · exact ⟨by dsimp only; omega, Nat.le_succ _⟩
theorem sw_found {wi : Int32} {pd : PD} {n : Nat} {x y : Int32} : (fun i => swF wi (pdSet (pdSet pd n 3 x) n 4 y i)) = (fun i => swF wi (pd i)) := by
  funext i
  by_cases e : i = n
  · subst e
    rw [pdSet_eq, pdSet_eq]
    unfold swF repF sizF
    rw [pk_un (by decide), pk_un (by decide), pk_un (by decide), pk_un (by decide), pk_un (by decide), pk_un (by decide)]
  · rw [pdSet_ne e, pdSet_ne e]
theorem win_found {pd : PD} {n m : Nat} {x y : Int32} : winF (pdSet (pdSet pd n 3 x) n 4 y) m = winF pd m := by
  unfold winF
  congr 1
  apply gSum_congr
  intro i _
  by_cases e : i = n
  · subst e
    rw [pdSet_eq, pdSet_eq]
    unfold repF
    rw [pk_un (by decide), pk_un (by decide), pk_un (by decide), pk_un (by decide)]
  · rw [pdSet_ne e, pdSet_ne e]
/-- the class goes over the text once more, and makes the piles -/
def mkC (cd : Nat → Nat) (len kk cw : Nat) : Nat → Nat → RS → Nat → Nat × PD → Nat × Nat × PD
  | 0, _, _, m, q => (m, q)
  | f + 1, i, t, m, q => if i = len ∨ cd i = 59 then
      (if (mkS (nuT t) kk cw 0 q.1 q.2).1 = true then mkC cd len kk cw f (i + 1) (if i = len then t else sND (rsT t (cd i)) t) (m + 1) (mkS (nuT t) kk cw 0 q.1 q.2).2 else (m, (mkS (nuT t) kk cw 0 q.1 q.2).2))
      else mkC cd len kk cw f (i + 1) (sND (rsT t (cd i)) t) m q
theorem fl_X6_makeReadPile_10 : Cond.fieldLink RX6 10 "PileRecount" "now" "LPileRecount$Recount;" ∈ wsX6_makeReadPile := by decide +kernel
theorem fl_X6_makeReadPile_236 : Cond.fieldLink RX6 236 "PileRecount$Reader" "numbers" "[I" ∈ wsX6_makeReadPile := by decide +kernel
theorem fl_X6_makeReadPile_239 : Cond.fieldLink RX6 239 "PileRecount$Reader" "part" "I" ∈ wsX6_makeReadPile := by decide +kernel
theorem fl_X6_makeReadPile_40 : Cond.fieldLink RX6 40 "PileRecount" "reader" "LPileRecount$Reader;" ∈ wsX6_makeReadPile := by decide +kernel
theorem hn_X6_makeReadPile_X4 : ∀ w ∈ wsX40, w ∈ wsX6_makeReadPile := fun _ h => List.mem_cons_of_mem _ (List.mem_append_left _ (List.mem_append_left _ (List.mem_append_right _ h)))
theorem hn_X6_makeReadPile_X6 : ∀ w ∈ wsX60, w ∈ wsX6_makeReadPile := fun _ h => List.mem_cons_of_mem _ (List.mem_append_left _ (List.mem_append_left _ (List.mem_append_left _ (List.mem_append_right _ h))))
set_option maxHeartbeats 4000000 in
set_option maxRecDepth 100000 in
theorem c_X6_makeReadPile (l : Launch) (D : va_G) (z : Nat) (cI cZ cP cR : ClassId) (N : Nat) (F : Nat → va_E) (n kk cw c0 : Nat) (wi rl sp : Int32) (pd : PD) (bs od : Nat → Int32) (sl : Nat → Option Nat) (t : RS) (hT : isTop z cR F sl) (hR : isRec z cI cP F 1 (nI n) wi (nI kk) (nI cw) rl (nI c0) sp pd bs od) (hRe : isReaS z cI F 118 t) (hN : 123 ≤ N) (hts : rsOK t) (hnn : n ≤ 10) (hkk : kk ≤ n) (hcw : cw < 2 ^ n) (hwi : wi = winF pd n) (hrk : rkOK (fun i => swF wi (pd i)) n bs) : gMi l yX6_makeReadPile wsX6_makeReadPile ({ frames := 4, cells := 0, slots := 0, locals := 89 }) D z cI cZ cP cR N F [.ref (z + 0)] (fun (r : Int32) (N2 : Nat) (F2 : Nat → va_E) => N2 = N ∧ r = bz (mkS (nuT t) kk cw 0 n pd).1 ∧ (∃ (b2 : Nat → Int32) (w2 : Int32), isRec z cI cP F2 1 (nI (((mkS (nuT t) kk cw 0 n pd).2).1)) w2 (nI kk) (nI cw) rl (nI c0) sp (((mkS (nuT t) kk cw 0 n pd).2).2) b2 od ∧ w2 = winF ((mkS (nuT t) kk cw 0 n pd).2).2 ((mkS (nuT t) kk cw 0 n pd).2).1 ∧ rkOK (fun i => swF w2 (((mkS (nuT t) kk cw 0 n pd).2).2 i)) ((mkS (nuT t) kk cw 0 n pd).2).1 b2) ∧ gFr 1 (1 + 14) F F2) 0 0 := by
  refine gMi.of (cc := cX6_makeReadPile) (maxL := 7) (ret := (some .boolean)) (by decide) rfl (Nat.le_of_ble_eq_true rfl) [(0, .ref (z + 0))] rfl ?_
  intro pg ev sg mg bel me cg C hR0
  have h2n := two_lt hnn
  have hp5 := hts.1
  refine x_aload_n C (pc := 0) 0 dX6_makeReadPile_0 rfl ?_
  refine x_get C (pc := 1) (q := 0) (v := .ref (z + 118)) (ci := 6) rfl hn_X6_makeReadPile_X6 5 (by decide) fl_X6_makeReadPile_40 rfl (by omega) hT.1 rfl dX6_makeReadPile_1 ?_
  refine x_get C (pc := 4) (q := 118) (v := .ref (z + (118 + 1))) (ci := 4) rfl hn_X6_makeReadPile_X4 0 (by decide) fl_X6_makeReadPile_236 rfl (by omega) hRe.ob rfl dX6_makeReadPile_4 ?_
  refine x_iconst C (pc := 7) (v := 0) dX6_makeReadPile_7 (by decide) ?_
  refine x_ialdE C (pc := 8) (q := 118 + 1) (j := 0) (f := (fun i => nI (t.1 i))) (by omega) hRe.nu rfl (by omega) (by decide) dX6_makeReadPile_8 ?_
  refine x_istore_n C (pc := 9) [(1, .int (nI (t.1 0))), (0, .ref (z + 0))] dX6_makeReadPile_9 (by decide) rfl ?_
  refine x_aload_n C (pc := 10) 1 dX6_makeReadPile_10 rfl ?_
  refine x_get C (pc := 11) (q := 0) (v := .ref (z + 118)) (ci := 6) rfl hn_X6_makeReadPile_X6 5 (by decide) fl_X6_makeReadPile_40 rfl (by omega) hT.1 rfl dX6_makeReadPile_11 ?_
  refine x_get C (pc := 14) (q := 118) (v := .ref (z + (118 + 1))) (ci := 4) rfl hn_X6_makeReadPile_X4 0 (by decide) fl_X6_makeReadPile_236 rfl (by omega) hRe.ob rfl dX6_makeReadPile_14 ?_
  refine x_iconst C (pc := 17) (v := 1) dX6_makeReadPile_17 (by decide) ?_
  refine x_ialdE C (pc := 18) (q := 118 + 1) (j := 1) (f := (fun i => nI (t.1 i))) (by omega) hRe.nu rfl (by omega) (by decide) dX6_makeReadPile_18 ?_
  refine x_istore_n C (pc := 19) [(2, .int (nI (t.1 1))), (1, .int (nI (t.1 0))), (0, .ref (z + 0))] dX6_makeReadPile_19 (by decide) rfl ?_
  refine x_aload_n C (pc := 20) 2 dX6_makeReadPile_20 rfl ?_
  refine x_get C (pc := 21) (q := 0) (v := .ref (z + 118)) (ci := 6) rfl hn_X6_makeReadPile_X6 5 (by decide) fl_X6_makeReadPile_40 rfl (by omega) hT.1 rfl dX6_makeReadPile_21 ?_
  refine x_get C (pc := 24) (q := 118) (v := .ref (z + (118 + 1))) (ci := 4) rfl hn_X6_makeReadPile_X4 0 (by decide) fl_X6_makeReadPile_236 rfl (by omega) hRe.ob rfl dX6_makeReadPile_24 ?_
  refine x_iconst C (pc := 27) (v := 2) dX6_makeReadPile_27 (by decide) ?_
  refine x_ialdE C (pc := 28) (q := 118 + 1) (j := 2) (f := (fun i => nI (t.1 i))) (by omega) hRe.nu rfl (by omega) (by decide) dX6_makeReadPile_28 ?_
  refine x_istore_n C (pc := 29) [(3, .int (nI (t.1 2))), (2, .int (nI (t.1 1))), (1, .int (nI (t.1 0))), (0, .ref (z + 0))] dX6_makeReadPile_29 (by decide) rfl ?_
  refine x_aload_n C (pc := 30) 3 dX6_makeReadPile_30 rfl ?_
  refine x_get C (pc := 31) (q := 0) (v := .ref (z + 1)) (ci := 6) rfl hn_X6_makeReadPile_X6 0 (by decide) fl_X6_makeReadPile_10 rfl (by omega) hT.1 rfl dX6_makeReadPile_31 ?_
  refine x_iload_n C (pc := 34) 2 dX6_makeReadPile_34 rfl ?_
  refine x_iload_n C (pc := 35) 1 dX6_makeReadPile_35 rfl ?_
  refine x_iload_n C (pc := 36) 0 dX6_makeReadPile_36 rfl ?_
  refine x_cViR C (pc := 37) (st := []) (c_X5_errorOfPile l D z cI cZ cP cR N F 1 n wi (nI kk) (nI cw) rl (nI c0) sp pd bs od (nI (t.1 0)) (nI (t.1 1)) (nI (t.1 2)) hR (by omega) (by omega)) (cwV 3 C.2.2.2.2.1 gX6_makeReadPile_X5_errorOfPile rfl rfl rfl hd_X5_errorOfPile ⟨Nat.le_of_ble_eq_true rfl, Nat.le_of_ble_eq_true rfl⟩) (by omega) hR.ob rfl rfl rfl (Nat.le_of_ble_eq_true rfl) dX6_makeReadPile_37 ⟨Nat.le_of_ble_eq_true rfl, Nat.le_of_ble_eq_true rfl⟩ ?_
  refine x_if_eq C (pc := 40) (tgt := 45) dX6_makeReadPile_40 (by decide) (fun c_40 => ?_) (fun c_40 => ?_)
  · obtain ⟨g1, g2, g3, g4, g5⟩ := epF_0 hnn hkk c_40
    refine x_aload_n C (pc := 45) 3 dX6_makeReadPile_45 rfl ?_
    refine x_get C (pc := 46) (q := 0) (v := .ref (z + 1)) (ci := 6) rfl hn_X6_makeReadPile_X6 0 (by decide) fl_X6_makeReadPile_10 rfl (by omega) hT.1 rfl dX6_makeReadPile_46 ?_
    refine x_iload_n C (pc := 49) 2 dX6_makeReadPile_49 rfl ?_
    refine x_iload_n C (pc := 50) 1 dX6_makeReadPile_50 rfl ?_
    refine x_iload_n C (pc := 51) 0 dX6_makeReadPile_51 rfl ?_
    refine x_cViE C (pc := 52) (st := []) (c_X5_addPile l D z cI cZ cP cR N F 1 n wi (nI kk) (nI cw) rl (nI c0) sp pd bs od (nI (t.1 0)) (nI (t.1 1)) (nI (t.1 2)) hR (by omega) (by omega)) (cwV 3 C.2.2.2.2.1 gX6_makeReadPile_X5_addPile rfl rfl rfl hd_X5_addPile ⟨Nat.le_of_ble_eq_true rfl, Nat.le_of_ble_eq_true rfl⟩) (by omega) hR.ob rfl rfl rfl (Nat.le_of_ble_eq_true rfl) dX6_makeReadPile_52 ⟨Nat.le_of_ble_eq_true rfl, Nat.le_of_ble_eq_true rfl⟩ (fun F_52 h_52 => ?_)
    obtain ⟨bsn_52, hR_52, hrkn_52, fr_52⟩ := h_52
    have hT_52 := hT.same (fr_52 0 (by omega)) (fr_52 29 (by omega))
    have hRe_52 := hRe.same (F2 := F_52) (fun q _ _ => fr_52 q (by omega))
    refine x_istore C (pc := 55) [(4, .int (nI n)), (3, .int (nI (t.1 2))), (2, .int (nI (t.1 1))), (1, .int (nI (t.1 0))), (0, .ref (z + 0))] dX6_makeReadPile_55 (by decide) rfl ?_
    refine x_aload_n C (pc := 57) 4 dX6_makeReadPile_57 rfl ?_
    refine x_get C (pc := 58) (q := 0) (v := .ref (z + 118)) (ci := 6) rfl hn_X6_makeReadPile_X6 5 (by decide) fl_X6_makeReadPile_40 rfl (by omega) hT_52.1 rfl dX6_makeReadPile_58 ?_
    refine x_get C (pc := 61) (q := 118) (v := .int (nI t.2.1)) (ci := 4) rfl hn_X6_makeReadPile_X4 1 (by decide) fl_X6_makeReadPile_239 rfl (by omega) hRe_52.ob rfl dX6_makeReadPile_61 ?_
    refine x_iconst C (pc := 64) (v := 4) dX6_makeReadPile_64 (by decide) ?_
    refine x_icmpN_eq C (a := t.2.1) (b := 4) (pc := 65) (tgt := 70) (by omega) (by omega) dX6_makeReadPile_65 (by decide) (fun c_65 => ?_) (fun c_65 => ?_)
    · refine x_aload_n C (pc := 70) 4 dX6_makeReadPile_70 rfl ?_
      refine x_get C (pc := 71) (q := 0) (v := .ref (z + 118)) (ci := 6) rfl hn_X6_makeReadPile_X6 5 (by decide) fl_X6_makeReadPile_40 rfl (by omega) hT_52.1 rfl dX6_makeReadPile_71 ?_
      refine x_get C (pc := 74) (q := 118) (v := .ref (z + (118 + 1))) (ci := 4) rfl hn_X6_makeReadPile_X4 0 (by decide) fl_X6_makeReadPile_236 rfl (by omega) hRe_52.ob rfl dX6_makeReadPile_74 ?_
      refine x_iconst C (pc := 77) (v := 3) dX6_makeReadPile_77 (by decide) ?_
      refine x_ialdE C (pc := 78) (q := 118 + 1) (j := 3) (f := (fun i => nI (t.1 i))) (by omega) hRe_52.nu rfl (by omega) (by decide) dX6_makeReadPile_78 ?_
      refine x_istore C (pc := 79) [(5, .int (nI (t.1 3))), (4, .int (nI n)), (3, .int (nI (t.1 2))), (2, .int (nI (t.1 1))), (1, .int (nI (t.1 0))), (0, .ref (z + 0))] dX6_makeReadPile_79 (by decide) rfl ?_
      refine x_aload_n C (pc := 81) 5 dX6_makeReadPile_81 rfl ?_
      refine x_get C (pc := 82) (q := 0) (v := .ref (z + 118)) (ci := 6) rfl hn_X6_makeReadPile_X6 5 (by decide) fl_X6_makeReadPile_40 rfl (by omega) hT_52.1 rfl dX6_makeReadPile_82 ?_
      refine x_get C (pc := 85) (q := 118) (v := .ref (z + (118 + 1))) (ci := 4) rfl hn_X6_makeReadPile_X4 0 (by decide) fl_X6_makeReadPile_236 rfl (by omega) hRe_52.ob rfl dX6_makeReadPile_85 ?_
      refine x_iconst C (pc := 88) (v := 4) dX6_makeReadPile_88 (by decide) ?_
      refine x_ialdE C (pc := 89) (q := 118 + 1) (j := 4) (f := (fun i => nI (t.1 i))) (by omega) hRe_52.nu rfl (by omega) (by decide) dX6_makeReadPile_89 ?_
      refine x_istore C (pc := 90) [(6, .int (nI (t.1 4))), (5, .int (nI (t.1 3))), (4, .int (nI n)), (3, .int (nI (t.1 2))), (2, .int (nI (t.1 1))), (1, .int (nI (t.1 0))), (0, .ref (z + 0))] dX6_makeReadPile_90 (by decide) rfl ?_
      refine x_aload_n C (pc := 92) 6 dX6_makeReadPile_92 rfl ?_
      refine x_get C (pc := 93) (q := 0) (v := .ref (z + 1)) (ci := 6) rfl hn_X6_makeReadPile_X6 0 (by decide) fl_X6_makeReadPile_10 rfl (by omega) hT_52.1 rfl dX6_makeReadPile_93 ?_
      refine x_iload C (pc := 96) 2 dX6_makeReadPile_96 rfl ?_
      refine x_iload C (pc := 98) 1 dX6_makeReadPile_98 rfl ?_
      refine x_iload C (pc := 100) 0 dX6_makeReadPile_100 rfl ?_
      refine x_cViR C (pc := 102) (st := []) (c_X5_errorOfFind l D z cI cZ cP cR N F_52 1 (n + 1) cw (winF (va_up pd n (pileD (nI (t.1 0)) (nI (t.1 1)) (nI (t.1 2)))) (n + 1)) (nI kk) rl (nI c0) sp (va_up pd n (pileD (nI (t.1 0)) (nI (t.1 1)) (nI (t.1 2)))) bsn_52 od (nI n) (nI (t.1 3)) (nI (t.1 4)) hR_52 (by omega) (by omega) (by omega)) (cwV 3 C.2.2.2.2.1 gX6_makeReadPile_X5_errorOfFind rfl rfl rfl hd_X5_errorOfFind ⟨Nat.le_of_ble_eq_true rfl, Nat.le_of_ble_eq_true rfl⟩) (by omega) hR_52.ob rfl rfl rfl (Nat.le_of_ble_eq_true rfl) dX6_makeReadPile_102 ⟨Nat.le_of_ble_eq_true rfl, Nat.le_of_ble_eq_true rfl⟩ ?_
      refine x_if_eq C (pc := 105) (tgt := 110) dX6_makeReadPile_105 (by decide) (fun c_105 => ?_) (fun c_105 => ?_)
      · refine x_aload_n C (pc := 110) 6 dX6_makeReadPile_110 rfl ?_
        refine x_get C (pc := 111) (q := 0) (v := .ref (z + 1)) (ci := 6) rfl hn_X6_makeReadPile_X6 0 (by decide) fl_X6_makeReadPile_10 rfl (by omega) hT_52.1 rfl dX6_makeReadPile_111 ?_
        refine x_iload C (pc := 114) 2 dX6_makeReadPile_114 rfl ?_
        refine x_iload C (pc := 116) 1 dX6_makeReadPile_116 rfl ?_
        refine x_iload C (pc := 118) 0 dX6_makeReadPile_118 rfl ?_
        refine x_cViE C (pc := 120) (st := []) (c_X5_setFound l D z cI cZ cP cR N F_52 1 (nI (n + 1)) (winF (va_up pd n (pileD (nI (t.1 0)) (nI (t.1 1)) (nI (t.1 2)))) (n + 1)) (nI kk) (nI cw) rl (nI c0) sp (va_up pd n (pileD (nI (t.1 0)) (nI (t.1 1)) (nI (t.1 2)))) bsn_52 od n (nI (t.1 3)) (nI (t.1 4)) hR_52 (by omega) (by omega)) (cwV 3 C.2.2.2.2.1 gX6_makeReadPile_X5_setFound rfl rfl rfl hd_X5_setFound ⟨Nat.le_of_ble_eq_true rfl, Nat.le_of_ble_eq_true rfl⟩) (by omega) hR_52.ob rfl rfl rfl (Nat.le_of_ble_eq_true rfl) dX6_makeReadPile_120 ⟨Nat.le_of_ble_eq_true rfl, Nat.le_of_ble_eq_true rfl⟩ (fun F_120 h_120 => ?_)
        obtain ⟨hR_120, fr_120⟩ := h_120
        have hT_120 := hT_52.same (fr_120 0 (by omega)) (fr_120 29 (by omega))
        have hRe_120 := hRe_52.same (F2 := F_120) (fun q _ _ => fr_120 q (by omega))
        refine x_pop C (pc := 123) dX6_makeReadPile_123 rfl ?_
        refine x_iconst C (pc := 124) (v := 1) dX6_makeReadPile_124 (by decide) ?_
        refine x_iret (post := (fun (r : Int32) (N2 : Nat) (F2 : Nat → va_E) => N2 = N ∧ r = bz (mkS (nuT t) kk cw 0 n pd).1 ∧ (∃ (b2 : Nat → Int32) (w2 : Int32), isRec z cI cP F2 1 (nI (((mkS (nuT t) kk cw 0 n pd).2).1)) w2 (nI kk) (nI cw) rl (nI c0) sp (((mkS (nuT t) kk cw 0 n pd).2).2) b2 od ∧ w2 = winF ((mkS (nuT t) kk cw 0 n pd).2).2 ((mkS (nuT t) kk cw 0 n pd).2).1 ∧ rkOK (fun i => swF w2 (((mkS (nuT t) kk cw 0 n pd).2).2 i)) ((mkS (nuT t) kk cw 0 n pd).2).1 b2) ∧ gFr 1 (1 + 14) F F2)) C hR0 rfl (Nat.le_of_ble_eq_true rfl) (Nat.le_of_ble_eq_true rfl) ?_ dX6_makeReadPile_125
        have he : epF (nuT t (6 * 0)) (nuT t (6 * 0 + 1)) (nuT t (6 * 0 + 2)) n (nI kk) = 0 := c_40
        have h3 : ¬ nuT t (6 * 0 + 3) = 0 := by show ¬ (if t.2.1 = 4 then (1 : Int32) else 0) = 0; rw [if_pos c_65]; decide
        have hf : efF (nI n) (nuT t (6 * 0 + 4)) (nuT t (6 * 0 + 5)) (nI (n + 1)) (pd1 (nuT t) 0 n pd) cw = 0 := c_105
        have e : mkS (nuT t) kk cw 0 n pd = (true, n + 1, pdSet (pdSet (va_up pd n (pileD (nI (t.1 0)) (nI (t.1 1)) (nI (t.1 2)))) n 3 (nI (t.1 3))) n 4 (nI (t.1 4))) := by rw [mkS, if_neg (not_not_intro he), if_neg h3, if_neg (not_not_intro hf)]; rfl
        rw [e]
        exact ⟨rfl, rfl, ⟨_, _, hR_120, (by dsimp only; rw [win_found]), (by dsimp only; rw [sw_found]; exact hrkn_52)⟩, (gFr.t2 fr_52 fr_120)⟩
      refine x_iconst C (pc := 108) (v := 0) dX6_makeReadPile_108 (by decide) ?_
      refine x_iret (post := (fun (r : Int32) (N2 : Nat) (F2 : Nat → va_E) => N2 = N ∧ r = bz (mkS (nuT t) kk cw 0 n pd).1 ∧ (∃ (b2 : Nat → Int32) (w2 : Int32), isRec z cI cP F2 1 (nI (((mkS (nuT t) kk cw 0 n pd).2).1)) w2 (nI kk) (nI cw) rl (nI c0) sp (((mkS (nuT t) kk cw 0 n pd).2).2) b2 od ∧ w2 = winF ((mkS (nuT t) kk cw 0 n pd).2).2 ((mkS (nuT t) kk cw 0 n pd).2).1 ∧ rkOK (fun i => swF w2 (((mkS (nuT t) kk cw 0 n pd).2).2 i)) ((mkS (nuT t) kk cw 0 n pd).2).1 b2) ∧ gFr 1 (1 + 14) F F2)) C hR0 rfl (Nat.le_of_ble_eq_true rfl) (Nat.le_of_ble_eq_true rfl) ?_ dX6_makeReadPile_109
      have he : epF (nuT t (6 * 0)) (nuT t (6 * 0 + 1)) (nuT t (6 * 0 + 2)) n (nI kk) = 0 := c_40
      have h3 : ¬ nuT t (6 * 0 + 3) = 0 := by show ¬ (if t.2.1 = 4 then (1 : Int32) else 0) = 0; rw [if_pos c_65]; decide
      have hf : ¬ efF (nI n) (nuT t (6 * 0 + 4)) (nuT t (6 * 0 + 5)) (nI (n + 1)) (pd1 (nuT t) 0 n pd) cw = 0 := c_105
      have e : mkS (nuT t) kk cw 0 n pd = (false, n + 1, (va_up pd n (pileD (nI (t.1 0)) (nI (t.1 1)) (nI (t.1 2))))) := by rw [mkS, if_neg (not_not_intro he), if_neg h3, if_pos hf]; rfl
      rw [e]
      exact ⟨rfl, rfl, ⟨_, _, hR_52, rfl, hrkn_52⟩, fr_52⟩
    refine x_iconst C (pc := 68) (v := 1) dX6_makeReadPile_68 (by decide) ?_
    refine x_iret (post := (fun (r : Int32) (N2 : Nat) (F2 : Nat → va_E) => N2 = N ∧ r = bz (mkS (nuT t) kk cw 0 n pd).1 ∧ (∃ (b2 : Nat → Int32) (w2 : Int32), isRec z cI cP F2 1 (nI (((mkS (nuT t) kk cw 0 n pd).2).1)) w2 (nI kk) (nI cw) rl (nI c0) sp (((mkS (nuT t) kk cw 0 n pd).2).2) b2 od ∧ w2 = winF ((mkS (nuT t) kk cw 0 n pd).2).2 ((mkS (nuT t) kk cw 0 n pd).2).1 ∧ rkOK (fun i => swF w2 (((mkS (nuT t) kk cw 0 n pd).2).2 i)) ((mkS (nuT t) kk cw 0 n pd).2).1 b2) ∧ gFr 1 (1 + 14) F F2)) C hR0 rfl (Nat.le_of_ble_eq_true rfl) (Nat.le_of_ble_eq_true rfl) ?_ dX6_makeReadPile_69
    have he : epF (nuT t (6 * 0)) (nuT t (6 * 0 + 1)) (nuT t (6 * 0 + 2)) n (nI kk) = 0 := c_40
    have h3 : nuT t (6 * 0 + 3) = 0 := by show (if t.2.1 = 4 then (1 : Int32) else 0) = 0; rw [if_neg c_65]
    have e : mkS (nuT t) kk cw 0 n pd = (true, n + 1, (va_up pd n (pileD (nI (t.1 0)) (nI (t.1 1)) (nI (t.1 2))))) := by rw [mkS, if_neg (not_not_intro he), if_pos h3]; rfl
    rw [e]
    exact ⟨rfl, rfl, ⟨_, _, hR_52, rfl, hrkn_52⟩, fr_52⟩
  refine x_iconst C (pc := 43) (v := 0) dX6_makeReadPile_43 (by decide) ?_
  refine x_iret (post := (fun (r : Int32) (N2 : Nat) (F2 : Nat → va_E) => N2 = N ∧ r = bz (mkS (nuT t) kk cw 0 n pd).1 ∧ (∃ (b2 : Nat → Int32) (w2 : Int32), isRec z cI cP F2 1 (nI (((mkS (nuT t) kk cw 0 n pd).2).1)) w2 (nI kk) (nI cw) rl (nI c0) sp (((mkS (nuT t) kk cw 0 n pd).2).2) b2 od ∧ w2 = winF ((mkS (nuT t) kk cw 0 n pd).2).2 ((mkS (nuT t) kk cw 0 n pd).2).1 ∧ rkOK (fun i => swF w2 (((mkS (nuT t) kk cw 0 n pd).2).2 i)) ((mkS (nuT t) kk cw 0 n pd).2).1 b2) ∧ gFr 1 (1 + 14) F F2)) C hR0 rfl (Nat.le_of_ble_eq_true rfl) (Nat.le_of_ble_eq_true rfl) ?_ dX6_makeReadPile_44
  have he : ¬ epF (nuT t (6 * 0)) (nuT t (6 * 0 + 1)) (nuT t (6 * 0 + 2)) n (nI kk) = 0 := c_40
  have e : mkS (nuT t) kk cw 0 n pd = (false, n, pd) := if_pos he
  rw [e]
  exact ⟨rfl, rfl, ⟨bs, wi, hR, hwi, hrk⟩, gFr.rf⟩
theorem fl_X6_makePiles_177 : Cond.fieldLink RX6 177 "PileRecount$Pad" "length" "I" ∈ wsX6_makePiles := by decide +kernel
theorem fl_X6_makePiles_227 : Cond.fieldLink RX6 227 "PileRecount$Pad" "codes" "[I" ∈ wsX6_makePiles := by decide +kernel
theorem fl_X6_makePiles_33 : Cond.fieldLink RX6 33 "PileRecount" "pad" "LPileRecount$Pad;" ∈ wsX6_makePiles := by decide +kernel
theorem fl_X6_makePiles_40 : Cond.fieldLink RX6 40 "PileRecount" "reader" "LPileRecount$Reader;" ∈ wsX6_makePiles := by decide +kernel
theorem hn_X6_makePiles_X2 : ∀ w ∈ wsX20, w ∈ wsX6_makePiles := fun _ h => List.mem_cons_of_mem _ (List.mem_append_left _ (List.mem_append_left _ (List.mem_append_left _ (List.mem_append_right _ h))))
theorem hn_X6_makePiles_X6 : ∀ w ∈ wsX60, w ∈ wsX6_makePiles := fun _ h => List.mem_cons_of_mem _ (List.mem_append_left _ (List.mem_append_left _ (List.mem_append_left _ (List.mem_append_left _ (List.mem_append_right _ h)))))
set_option maxHeartbeats 4000000 in
set_option maxRecDepth 100000 in
theorem c_X6_makePiles (l : Launch) (D : va_G) (z : Nat) (cI cZ cP cR : ClassId) (N : Nat) (F : Nat → va_E) (n kk cw c0 len : Nat) (wi rl sp : Int32) (pd : PD) (bs od : Nat → Int32) (sl : Nat → Option Nat) (t0 : RS) (pa : Nat → Int32) (cd : Nat → Nat) (hT : isTop z cR F sl) (hR : isRec z cI cP F 1 (nI n) wi (nI kk) (nI cw) rl (nI c0) sp pd bs od) (hRe : isReaS z cI F 118 t0) (hPd : isPad z cI F 116 (nI len) pa) (hN : 123 ≤ N) (hlen : len ≤ 80) (hcd : cdOK pa cd len) (hnn : n ≤ 10) (hkk : kk ≤ n) (hcw : cw < 2 ^ n) (hwi : wi = winF pd n) (hrk : rkOK (fun i => swF wi (pd i)) n bs) : gMi l yX6_makePiles wsX6_makePiles ({ frames := 5, cells := 0, slots := 0, locals := 115 }) D z cI cZ cP cR N F [.ref (z + 0)] (fun (r : Int32) (N2 : Nat) (F2 : Nat → va_E) => N2 = N ∧ r = nI (mkC cd len kk cw (len + 1) 0 rs0 0 (n, pd)).1 ∧ (∃ (b2 : Nat → Int32) (w2 : Int32), isRec z cI cP F2 1 (nI (((mkC cd len kk cw (len + 1) 0 rs0 0 (n, pd)).2).1)) w2 (nI kk) (nI cw) rl (nI c0) sp (((mkC cd len kk cw (len + 1) 0 rs0 0 (n, pd)).2).2) b2 od ∧ w2 = winF ((mkC cd len kk cw (len + 1) 0 rs0 0 (n, pd)).2).2 ((mkC cd len kk cw (len + 1) 0 rs0 0 (n, pd)).2).1 ∧ rkOK (fun i => swF w2 (((mkC cd len kk cw (len + 1) 0 rs0 0 (n, pd)).2).2 i)) ((mkC cd len kk cw (len + 1) 0 rs0 0 (n, pd)).2).1 b2) ∧ (∃ t2 : RS, isReaS z cI F2 118 t2) ∧ (∀ x, x < 1 ∨ (15 ≤ x ∧ x < 118) ∨ 120 ≤ x → F2 x = F x)) 0 0 := by
  refine gMi.of (cc := cX6_makePiles) (maxL := 4) (ret := (some .int)) (by decide) rfl (Nat.le_of_ble_eq_true rfl) [(0, .ref (z + 0))] rfl ?_
  intro pg ev sg mg bel me cg C hR0
  have h2n := two_lt hnn
  refine x_aload_n C (pc := 0) 0 dX6_makePiles_0 rfl ?_
  refine x_get C (pc := 1) (q := 0) (v := .ref (z + 118)) (ci := 6) rfl hn_X6_makePiles_X6 5 (by decide) fl_X6_makePiles_40 rfl (by omega) hT.1 rfl dX6_makePiles_1 ?_
  refine x_cVvE C (pc := 4) (st := []) (c_X4_start l D z cI cZ cP cR N F 118 (nI t0.2.1) (bz t0.2.2) (fun i => nI (t0.1 i)) hRe (by omega)) (cwV 0 C.2.2.2.2.1 gX6_makePiles_X4_start rfl rfl rfl hd_X4_start ⟨Nat.le_of_ble_eq_true rfl, Nat.le_of_ble_eq_true rfl⟩) (by omega) hRe.ob rfl rfl rfl (Nat.le_of_ble_eq_true rfl) dX6_makePiles_4 ⟨Nat.le_of_ble_eq_true rfl, Nat.le_of_ble_eq_true rfl⟩ (fun F_4 h_4 => ?_)
  obtain ⟨hRe_4, fr_4⟩ := h_4
  have hT_4 := hT.same (fr_4 0 (by omega)) (fr_4 29 (by omega))
  have hR_4 := hR.same (F2 := F_4) (fun q _ _ => fr_4 q (by omega))
  have hPd_4 := hPd.same (F2 := F_4) (fun q _ _ => fr_4 q (by omega))
  refine x_iconst C (pc := 7) (v := 0) dX6_makePiles_7 (by decide) ?_
  refine x_istore_n C (pc := 8) [(1, .int 0), (0, .ref (z + 0))] dX6_makePiles_8 (by decide) rfl ?_
  refine x_iconst C (pc := 9) (v := 0) dX6_makePiles_9 (by decide) ?_
  refine x_istore_n C (pc := 10) [(2, .int 0), (1, .int 0), (0, .ref (z + 0))] dX6_makePiles_10 (by decide) rfl ?_
  refine x_sub [2, 1, 0] _ rfl ?_
  refine x_loop6 (A1 := Nat) (A2 := Nat) (A3 := RS) (A4 := Nat × PD) (A5 := Nat → Int32) (A6 := Nat → va_E) (pc := 11) (st := []) (fun i m t q b G => len + 1 - i) (fun i m t q b G => (i ≤ len + 1) ∧ (m ≤ i) ∧ (isRec z cI cP G 1 (nI q.1) (winF q.2 q.1) (nI kk) (nI cw) rl (nI c0) sp q.2 b od) ∧ (rkOK (fun i => swF (winF q.2 q.1) (q.2 i)) q.1 b) ∧ (isReaS z cI G 118 t) ∧ (rsOK t) ∧ (n ≤ q.1 ∧ q.1 ≤ 10) ∧ ((∀ x, x < 1 ∨ (15 ≤ x ∧ x < 118) ∨ 120 ≤ x → G x = F x)) ∧ (mkC cd len kk cw (len + 1 - i) i t m q = mkC cd len kk cw (len + 1) 0 rs0 0 (n, pd))) (fun i m t q b G => N) (fun i m t q b G => G) (fun i m t q b G => 0) (fun i m t q b G => 0) (fun i m t q b G => [(0, .ref (z + 0)), (1, .int (nI m)), (2, .int (nI i))]) 0 0 rs0 (n, pd) bs F_4 ⟨(by omega), (Nat.le_refl _), (by have h9 := hR_4; rw [hwi] at h9; exact h9), (by have h9 := hrk; rw [hwi] at h9; exact h9), hRe_4, rs0_ok, ⟨Nat.le_refl _, hnn⟩, (fun x hx => fr_4 x (by omega)), rfl⟩ rfl rfl rfl rfl rfl ?_
  rintro i m t q b G ⟨hi, hm, hG, hrkG, hGt, hts, hq10, hfr, hmk⟩ ih_11
  try dsimp only at ih_11
  have hT_11 := hT.same (hfr 0 (by omega)) (hfr 29 (by omega))
  have hPd_11 := hPd.same (F2 := G) (fun q _ _ => hfr q (by omega))
  have hq1 := hq10.1
  have hq2 := hq10.2
  have hp5 := hts.1
  have hcwq : cw < 2 ^ q.1 := Nat.lt_of_lt_of_le hcw (Nat.pow_le_pow_right (by decide) hq1)
  refine x_iload_n C (pc := 11) 2 dX6_makePiles_11 rfl ?_
  refine x_aload_n C (pc := 12) 0 dX6_makePiles_12 rfl ?_
  refine x_get C (pc := 13) (q := 0) (v := .ref (z + 116)) (ci := 6) rfl hn_X6_makePiles_X6 4 (by decide) fl_X6_makePiles_33 rfl (by omega) hT_11.1 rfl dX6_makePiles_13 ?_
  refine x_get C (pc := 16) (q := 116) (v := .int (nI len)) (ci := 2) rfl hn_X6_makePiles_X2 1 (by decide) fl_X6_makePiles_177 rfl (by omega) hPd_11.ob rfl dX6_makePiles_16 ?_
  refine x_icmpN_gt C (a := i) (b := len) (pc := 19) (tgt := 96) (by omega) (by omega) dX6_makePiles_19 (by decide) (fun c_19 => ?_) (fun c_19 => ?_)
  · refine x_iload_n C (pc := 96) 1 dX6_makePiles_96 rfl ?_
    refine x_iret (post := (fun (r : Int32) (N2 : Nat) (F2 : Nat → va_E) => N2 = N ∧ r = nI (mkC cd len kk cw (len + 1) 0 rs0 0 (n, pd)).1 ∧ (∃ (b2 : Nat → Int32) (w2 : Int32), isRec z cI cP F2 1 (nI (((mkC cd len kk cw (len + 1) 0 rs0 0 (n, pd)).2).1)) w2 (nI kk) (nI cw) rl (nI c0) sp (((mkC cd len kk cw (len + 1) 0 rs0 0 (n, pd)).2).2) b2 od ∧ w2 = winF ((mkC cd len kk cw (len + 1) 0 rs0 0 (n, pd)).2).2 ((mkC cd len kk cw (len + 1) 0 rs0 0 (n, pd)).2).1 ∧ rkOK (fun i => swF w2 (((mkC cd len kk cw (len + 1) 0 rs0 0 (n, pd)).2).2 i)) ((mkC cd len kk cw (len + 1) 0 rs0 0 (n, pd)).2).1 b2) ∧ (∃ t2 : RS, isReaS z cI F2 118 t2) ∧ (∀ x, x < 1 ∨ (15 ≤ x ∧ x < 118) ∨ 120 ≤ x → F2 x = F x))) C hR0 rfl (Nat.le_of_ble_eq_true rfl) (Nat.le_of_ble_eq_true rfl) ?_ dX6_makePiles_97
    have e : mkC cd len kk cw (len + 1) 0 rs0 0 (n, pd) = (m, q) := by rw [← hmk, show len + 1 - i = 0 by omega]; rfl
    rw [e]
    exact ⟨rfl, rfl, ⟨b, _, hG, rfl, hrkG⟩, ⟨_, hGt⟩, hfr⟩
  refine x_iload_n C (pc := 22) 2 dX6_makePiles_22 rfl ?_
  refine x_aload_n C (pc := 23) 0 dX6_makePiles_23 rfl ?_
  refine x_get C (pc := 24) (q := 0) (v := .ref (z + 116)) (ci := 6) rfl hn_X6_makePiles_X6 4 (by decide) fl_X6_makePiles_33 rfl (by omega) hT_11.1 rfl dX6_makePiles_24 ?_
  refine x_get C (pc := 27) (q := 116) (v := .int (nI len)) (ci := 2) rfl hn_X6_makePiles_X2 1 (by decide) fl_X6_makePiles_177 rfl (by omega) hPd_11.ob rfl dX6_makePiles_27 ?_
  refine x_icmpN_ne C (a := i) (b := len) (pc := 30) (tgt := 37) (by omega) (by omega) dX6_makePiles_30 (by decide) (fun c_30 => ?_) (fun c_30 => ?_)
  · refine x_iconst C (pc := 37) (v := 0) dX6_makePiles_37 (by decide) ?_
    refine x_istore_n C (pc := 38) [(3, .int 0), (0, .ref (z + 0)), (1, .int (nI m)), (2, .int (nI i))] dX6_makePiles_38 (by decide) rfl ?_
    refine x_iload_n C (pc := 39) 0 dX6_makePiles_39 rfl ?_
    refine x_ifN_ne C (a := 0) (pc := 40) (tgt := 57) (by decide) dX6_makePiles_40 (by decide) (fun h_ => absurd h_ (by decide)) (fun _ => ?_)
    refine x_aload_n C (pc := 43) 1 dX6_makePiles_43 rfl ?_
    refine x_get C (pc := 44) (q := 0) (v := .ref (z + 116)) (ci := 6) rfl hn_X6_makePiles_X6 4 (by decide) fl_X6_makePiles_33 rfl (by omega) hT_11.1 rfl dX6_makePiles_44 ?_
    refine x_get C (pc := 47) (q := 116) (v := .ref (z + (116 + 1))) (ci := 2) rfl hn_X6_makePiles_X2 0 (by decide) fl_X6_makePiles_227 rfl (by omega) hPd_11.ob rfl dX6_makePiles_47 ?_
    refine x_iload_n C (pc := 50) 3 dX6_makePiles_50 rfl ?_
    have hcdl := (hcd i (by omega)).2
    refine x_ialdE C (pc := 51) (q := 116 + 1) (j := i) (f := pa) (by omega) hPd_11.pa rfl (by omega) (by decide) dX6_makePiles_51 ?_
    refine x_eqi (hcd i (by omega)).1 ?_
    refine x_bipush C (pc := 52) (v := 59) dX6_makePiles_52 (by decide) ?_
    refine x_icmpN_ne C (a := cd i) (b := 59) (pc := 54) (tgt := 69) (by omega) (by omega) dX6_makePiles_54 (by decide) (fun c_54 => ?_) (fun c_54 => ?_)
    · refine x_iload_n C (pc := 69) 0 dX6_makePiles_69 rfl ?_
      refine x_ifN_ne C (a := 0) (pc := 70) (tgt := 90) (by decide) dX6_makePiles_70 (by decide) (fun h_ => absurd h_ (by decide)) (fun _ => ?_)
      refine x_aload_n C (pc := 73) 1 dX6_makePiles_73 rfl ?_
      refine x_get C (pc := 74) (q := 0) (v := .ref (z + 118)) (ci := 6) rfl hn_X6_makePiles_X6 5 (by decide) fl_X6_makePiles_40 rfl (by omega) hT_11.1 rfl dX6_makePiles_74 ?_
      refine x_aload_n C (pc := 77) 1 dX6_makePiles_77 rfl ?_
      refine x_get C (pc := 78) (q := 0) (v := .ref (z + 116)) (ci := 6) rfl hn_X6_makePiles_X6 4 (by decide) fl_X6_makePiles_33 rfl (by omega) hT_11.1 rfl dX6_makePiles_78 ?_
      refine x_get C (pc := 81) (q := 116) (v := .ref (z + (116 + 1))) (ci := 2) rfl hn_X6_makePiles_X2 0 (by decide) fl_X6_makePiles_227 rfl (by omega) hPd_11.ob rfl dX6_makePiles_81 ?_
      refine x_iload_n C (pc := 84) 3 dX6_makePiles_84 rfl ?_
      refine x_ialdE C (pc := 85) (q := 116 + 1) (j := i) (f := pa) (by omega) hPd_11.pa rfl (by omega) (by decide) dX6_makePiles_85 ?_
      refine x_eqi (hcd i (by omega)).1 ?_
      refine x_cViE C (pc := 86) (st := []) (c_X4_take l D z cI cZ cP cR N G 118 t (cd i) hGt (by omega) hts (by have := hcd i (by omega); omega)) (cwV 1 C.2.2.2.2.1 gX6_makePiles_X4_take rfl rfl rfl hd_X4_take ⟨Nat.le_of_ble_eq_true rfl, Nat.le_of_ble_eq_true rfl⟩) (by omega) hGt.ob rfl rfl rfl (Nat.le_of_ble_eq_true rfl) dX6_makePiles_86 ⟨Nat.le_of_ble_eq_true rfl, Nat.le_of_ble_eq_true rfl⟩ (fun F_86 h_86 => ?_)
      obtain ⟨hGt_86, fr_86⟩ := h_86
      have hT_86 := hT_11.same (fr_86 0 (by omega)) (fr_86 29 (by omega))
      have hG_86 := hG.same (F2 := F_86) (fun q _ _ => fr_86 q (by omega))
      have hPd_86 := hPd_11.same (F2 := F_86) (fun q _ _ => fr_86 q (by omega))
      refine x_pop C (pc := 89) dX6_makePiles_89 rfl ?_
      refine x_iinc C (pc := 90) 3 [(2, .int (nI (i + 1))), (3, .int 0), (0, .ref (z + 0)), (1, .int (nI m))] dX6_makePiles_90 rfl (nI_inc i) (by decide) rfl ?_
      refine x_goto C (pc := 93) (tgt := 11) dX6_makePiles_93 (by decide) ?_
      exact x_sub [2, 3, 0] _ rfl (ih_11 (i + 1) m (sND (rsT t (cd i)) t) q b F_86 ⟨(by omega), (by omega), hG_86, hrkG, hGt_86, (sND_ok hts (fun v hv => rsT_ok hts hv)), hq10, (fun x hx => (fr_86 x (by omega)).trans (hfr x hx)), (by rw [← hmk, show len + 1 - i = len + 1 - (i + 1) + 1 by omega, mkC, if_neg (fun h => h.elim (fun h => c_30 h) (fun h => c_54 h))])⟩ (by omega))
    refine x_aload_n C (pc := 57) 1 dX6_makePiles_57 rfl ?_
    refine x_cVi C (pc := 58) (st := []) (c_X6_makeReadPile l D z cI cZ cP cR N G q.1 kk cw c0 (winF q.2 q.1) rl sp q.2 b od sl t hT_11 hG hGt hN hts hq2 (Nat.le_trans hkk hq1) hcwq rfl hrkG) (cwV 0 C.2.2.2.2.1 gX6_makePiles_X6_makeReadPile rfl rfl rfl hd_X6_makeReadPile ⟨Nat.le_of_ble_eq_true rfl, Nat.le_of_ble_eq_true rfl⟩) (by omega) hT_11.1 rfl rfl rfl (Nat.le_of_ble_eq_true rfl) dX6_makePiles_58 ⟨Nat.le_of_ble_eq_true rfl, Nat.le_of_ble_eq_true rfl⟩ (fun r_58 N_58 F_58 h_58 => ?_)
    obtain ⟨hNe, rfl, ⟨b2, w2, hGm, hw2, hrk2⟩, fr_58⟩ := h_58
    obtain rfl := hNe.symm
    subst hw2
    have hle2 := mkS_le (nu := nuT t) (cw := cw) (j := 0) (pd := q.2) hq2 (Nat.le_trans hkk hq1)
    generalize eq_58 : mkS (nuT t) kk cw 0 q.1 q.2 = q3 at *
    obtain ⟨ok, q2⟩ := q3
    dsimp only at *
    have hq102 : n ≤ q2.1 ∧ q2.1 ≤ 10 := ⟨Nat.le_trans hq1 hle2.2, hle2.1⟩
    have hT_58 := hT_11.same (fr_58 0 (by omega)) (fr_58 29 (by omega))
    have hGt_58 := hGt.same (F2 := F_58) (fun q _ _ => fr_58 q (by omega))
    have hPd_58 := hPd_11.same (F2 := F_58) (fun q _ _ => fr_58 q (by omega))
    refine x_bz_ne C (pc := 61) (tgt := 66) dX6_makePiles_61 (by decide) (fun c_61 => ?_) (fun c_61 => ?_)
    · have hok : ok = true := c_61
      refine x_iinc C (pc := 66) 2 [(1, .int (nI (m + 1))), (3, .int 0), (0, .ref (z + 0)), (2, .int (nI i))] dX6_makePiles_66 rfl (nI_inc m) (by decide) rfl ?_
      refine x_iload_n C (pc := 69) 1 dX6_makePiles_69 rfl ?_
      refine x_ifN_ne C (a := 0) (pc := 70) (tgt := 90) (by decide) dX6_makePiles_70 (by decide) (fun h_ => absurd h_ (by decide)) (fun _ => ?_)
      refine x_aload_n C (pc := 73) 2 dX6_makePiles_73 rfl ?_
      refine x_get C (pc := 74) (q := 0) (v := .ref (z + 118)) (ci := 6) rfl hn_X6_makePiles_X6 5 (by decide) fl_X6_makePiles_40 rfl (by omega) hT_58.1 rfl dX6_makePiles_74 ?_
      refine x_aload_n C (pc := 77) 2 dX6_makePiles_77 rfl ?_
      refine x_get C (pc := 78) (q := 0) (v := .ref (z + 116)) (ci := 6) rfl hn_X6_makePiles_X6 4 (by decide) fl_X6_makePiles_33 rfl (by omega) hT_58.1 rfl dX6_makePiles_78 ?_
      refine x_get C (pc := 81) (q := 116) (v := .ref (z + (116 + 1))) (ci := 2) rfl hn_X6_makePiles_X2 0 (by decide) fl_X6_makePiles_227 rfl (by omega) hPd_58.ob rfl dX6_makePiles_81 ?_
      refine x_iload_n C (pc := 84) 3 dX6_makePiles_84 rfl ?_
      refine x_ialdE C (pc := 85) (q := 116 + 1) (j := i) (f := pa) (by omega) hPd_58.pa rfl (by omega) (by decide) dX6_makePiles_85 ?_
      refine x_eqi (hcd i (by omega)).1 ?_
      refine x_cViE C (pc := 86) (st := []) (c_X4_take l D z cI cZ cP cR N F_58 118 t (cd i) hGt_58 (by omega) hts (by have := hcd i (by omega); omega)) (cwV 1 C.2.2.2.2.1 gX6_makePiles_X4_take rfl rfl rfl hd_X4_take ⟨Nat.le_of_ble_eq_true rfl, Nat.le_of_ble_eq_true rfl⟩) (by omega) hGt_58.ob rfl rfl rfl (Nat.le_of_ble_eq_true rfl) dX6_makePiles_86 ⟨Nat.le_of_ble_eq_true rfl, Nat.le_of_ble_eq_true rfl⟩ (fun F_86 h_86 => ?_)
      obtain ⟨hGt_86, fr_86⟩ := h_86
      have hT_86 := hT_58.same (fr_86 0 (by omega)) (fr_86 29 (by omega))
      have hGm_86 := hGm.same (F2 := F_86) (fun q _ _ => fr_86 q (by omega))
      have hPd_86 := hPd_58.same (F2 := F_86) (fun q _ _ => fr_86 q (by omega))
      refine x_pop C (pc := 89) dX6_makePiles_89 rfl ?_
      refine x_iinc C (pc := 90) 3 [(2, .int (nI (i + 1))), (1, .int (nI (m + 1))), (3, .int 0), (0, .ref (z + 0))] dX6_makePiles_90 rfl (nI_inc i) (by decide) rfl ?_
      refine x_goto C (pc := 93) (tgt := 11) dX6_makePiles_93 (by decide) ?_
      exact x_sub [3, 1, 0] _ rfl (ih_11 (i + 1) (m + 1) (sND (rsT t (cd i)) t) q2 b2 F_86 ⟨(by omega), (by omega), hGm_86, hrk2, hGt_86, (sND_ok hts (fun v hv => rsT_ok hts hv)), hq102, (fun x hx => (fr_86 x (by omega)).trans ((fun x hx => (fr_58 x (by omega)).trans (hfr x hx)) x hx)), (by rw [← hmk, show len + 1 - i = len + 1 - (i + 1) + 1 by omega, mkC, if_pos (Or.inr c_54), eq_58, if_pos hok, if_neg c_30])⟩ (by omega))
    refine x_iload_n C (pc := 64) 2 dX6_makePiles_64 rfl ?_
    refine x_iret (post := (fun (r : Int32) (N2 : Nat) (F2 : Nat → va_E) => N2 = N ∧ r = nI (mkC cd len kk cw (len + 1) 0 rs0 0 (n, pd)).1 ∧ (∃ (b2 : Nat → Int32) (w2 : Int32), isRec z cI cP F2 1 (nI (((mkC cd len kk cw (len + 1) 0 rs0 0 (n, pd)).2).1)) w2 (nI kk) (nI cw) rl (nI c0) sp (((mkC cd len kk cw (len + 1) 0 rs0 0 (n, pd)).2).2) b2 od ∧ w2 = winF ((mkC cd len kk cw (len + 1) 0 rs0 0 (n, pd)).2).2 ((mkC cd len kk cw (len + 1) 0 rs0 0 (n, pd)).2).1 ∧ rkOK (fun i => swF w2 (((mkC cd len kk cw (len + 1) 0 rs0 0 (n, pd)).2).2 i)) ((mkC cd len kk cw (len + 1) 0 rs0 0 (n, pd)).2).1 b2) ∧ (∃ t2 : RS, isReaS z cI F2 118 t2) ∧ (∀ x, x < 1 ∨ (15 ≤ x ∧ x < 118) ∨ 120 ≤ x → F2 x = F x))) C hR0 rfl (Nat.le_of_ble_eq_true rfl) (Nat.le_of_ble_eq_true rfl) ?_ dX6_makePiles_65
    have e : mkC cd len kk cw (len + 1) 0 rs0 0 (n, pd) = (m, q2) := by rw [← hmk, show len + 1 - i = len + 1 - (i + 1) + 1 by omega, mkC, if_pos (by first | exact Or.inl c_30 | exact Or.inr c_54), eq_58, if_neg (show ¬ ok = true by rw [c_61]; decide)]
    rw [e]
    exact ⟨rfl, rfl, ⟨b2, _, hGm, rfl, hrk2⟩, ⟨_, hGt_58⟩, (fun x hx => (fr_58 x (by omega)).trans (hfr x hx))⟩
  refine x_iconst C (pc := 33) (v := 1) dX6_makePiles_33 (by decide) ?_
  refine x_goto C (pc := 34) (tgt := 38) dX6_makePiles_34 (by decide) ?_
  refine x_istore_n C (pc := 38) [(3, .int 1), (0, .ref (z + 0)), (1, .int (nI m)), (2, .int (nI i))] dX6_makePiles_38 (by decide) rfl ?_
  refine x_iload_n C (pc := 39) 0 dX6_makePiles_39 rfl ?_
  refine x_ifN_ne C (a := 1) (pc := 40) (tgt := 57) (by decide) dX6_makePiles_40 (by decide) (fun h_ => ?_) (fun h_ => absurd h_ (by decide))
  refine x_aload_n C (pc := 57) 1 dX6_makePiles_57 rfl ?_
  refine x_cVi C (pc := 58) (st := []) (c_X6_makeReadPile l D z cI cZ cP cR N G q.1 kk cw c0 (winF q.2 q.1) rl sp q.2 b od sl t hT_11 hG hGt hN hts hq2 (Nat.le_trans hkk hq1) hcwq rfl hrkG) (cwV 0 C.2.2.2.2.1 gX6_makePiles_X6_makeReadPile rfl rfl rfl hd_X6_makeReadPile ⟨Nat.le_of_ble_eq_true rfl, Nat.le_of_ble_eq_true rfl⟩) (by omega) hT_11.1 rfl rfl rfl (Nat.le_of_ble_eq_true rfl) dX6_makePiles_58 ⟨Nat.le_of_ble_eq_true rfl, Nat.le_of_ble_eq_true rfl⟩ (fun r_58 N_58 F_58 h_58 => ?_)
  obtain ⟨hNe, rfl, ⟨b2, w2, hGm, hw2, hrk2⟩, fr_58⟩ := h_58
  obtain rfl := hNe.symm
  subst hw2
  have hle2 := mkS_le (nu := nuT t) (cw := cw) (j := 0) (pd := q.2) hq2 (Nat.le_trans hkk hq1)
  generalize eq_58 : mkS (nuT t) kk cw 0 q.1 q.2 = q3 at *
  obtain ⟨ok, q2⟩ := q3
  dsimp only at *
  have hq102 : n ≤ q2.1 ∧ q2.1 ≤ 10 := ⟨Nat.le_trans hq1 hle2.2, hle2.1⟩
  have hT_58 := hT_11.same (fr_58 0 (by omega)) (fr_58 29 (by omega))
  have hGt_58 := hGt.same (F2 := F_58) (fun q _ _ => fr_58 q (by omega))
  have hPd_58 := hPd_11.same (F2 := F_58) (fun q _ _ => fr_58 q (by omega))
  refine x_bz_ne C (pc := 61) (tgt := 66) dX6_makePiles_61 (by decide) (fun c_61 => ?_) (fun c_61 => ?_)
  · have hok : ok = true := c_61
    refine x_iinc C (pc := 66) 2 [(1, .int (nI (m + 1))), (3, .int 1), (0, .ref (z + 0)), (2, .int (nI i))] dX6_makePiles_66 rfl (nI_inc m) (by decide) rfl ?_
    refine x_iload_n C (pc := 69) 1 dX6_makePiles_69 rfl ?_
    refine x_ifN_ne C (a := 1) (pc := 70) (tgt := 90) (by decide) dX6_makePiles_70 (by decide) (fun h_ => ?_) (fun h_ => absurd h_ (by decide))
    refine x_iinc C (pc := 90) 3 [(2, .int (nI (i + 1))), (1, .int (nI (m + 1))), (3, .int 1), (0, .ref (z + 0))] dX6_makePiles_90 rfl (nI_inc i) (by decide) rfl ?_
    refine x_goto C (pc := 93) (tgt := 11) dX6_makePiles_93 (by decide) ?_
    exact x_sub [3, 1, 0] _ rfl (ih_11 (i + 1) (m + 1) t q2 b2 F_58 ⟨(by omega), (by omega), hGm, hrk2, hGt_58, hts, hq102, (fun x hx => (fr_58 x (by omega)).trans (hfr x hx)), (by rw [← hmk, show len + 1 - i = len + 1 - (i + 1) + 1 by omega, mkC, if_pos (Or.inl c_30), eq_58, if_pos hok, if_pos c_30])⟩ (by omega))
  refine x_iload_n C (pc := 64) 2 dX6_makePiles_64 rfl ?_
  refine x_iret (post := (fun (r : Int32) (N2 : Nat) (F2 : Nat → va_E) => N2 = N ∧ r = nI (mkC cd len kk cw (len + 1) 0 rs0 0 (n, pd)).1 ∧ (∃ (b2 : Nat → Int32) (w2 : Int32), isRec z cI cP F2 1 (nI (((mkC cd len kk cw (len + 1) 0 rs0 0 (n, pd)).2).1)) w2 (nI kk) (nI cw) rl (nI c0) sp (((mkC cd len kk cw (len + 1) 0 rs0 0 (n, pd)).2).2) b2 od ∧ w2 = winF ((mkC cd len kk cw (len + 1) 0 rs0 0 (n, pd)).2).2 ((mkC cd len kk cw (len + 1) 0 rs0 0 (n, pd)).2).1 ∧ rkOK (fun i => swF w2 (((mkC cd len kk cw (len + 1) 0 rs0 0 (n, pd)).2).2 i)) ((mkC cd len kk cw (len + 1) 0 rs0 0 (n, pd)).2).1 b2) ∧ (∃ t2 : RS, isReaS z cI F2 118 t2) ∧ (∀ x, x < 1 ∨ (15 ≤ x ∧ x < 118) ∨ 120 ≤ x → F2 x = F x))) C hR0 rfl (Nat.le_of_ble_eq_true rfl) (Nat.le_of_ble_eq_true rfl) ?_ dX6_makePiles_65
  have e : mkC cd len kk cw (len + 1) 0 rs0 0 (n, pd) = (m, q2) := by rw [← hmk, show len + 1 - i = len + 1 - (i + 1) + 1 by omega, mkC, if_pos (by first | exact Or.inl c_30 | exact Or.inr c_54), eq_58, if_neg (show ¬ ok = true by rw [c_61]; decide)]
  rw [e]
  exact ⟨rfl, rfl, ⟨b2, _, hGm, rfl, hrk2⟩, ⟨_, hGt_58⟩, (fun x hx => (fr_58 x (by omega)).trans (hfr x hx))⟩
