set_option maxHeartbeats 4000000 in
set_option maxRecDepth 100000 in
theorem c_X6_restore_e1 (l : Launch) (D : va_G) (z : Nat) (cI cZ cP cR : ClassId) (N : Nat) (F : Nat → va_E) (n kk cw c0 : Nat) (wi rl sp : Int32) (pd : Nat → Nat → Int32) (bs od : Nat → Int32) (pi : Nat → Nat) (T : RD) (hn : Nat) (hb : Nat → Nat) (hd : Nat → RD) (sl : Nat → Option Nat) (sd : Nat → RD) (len : Nat) (pa : Nat → Int32) (v : Int32) (hR : isRec z cI cP F 1 (nI n) wi (nI kk) (nI cw) rl (nI c0) sp pd bs od) (hnn : n ≤ 10) (hkk : kk ≤ n) (hcw : cw < 2 ^ n) (hc0 : c0 < 2 ^ 31) (hcnt : cntB cw n = kk) (hsp : sp = 0 ∨ sp = 1) (hpi : piOK bs pi n) (hC : isCl z cI cP cR N F T hn hb hd sl sd len pa) (hv : inB v 0 1 = false) : gMi l yX6_restore wsX6_restore ({ frames := 0, cells := 0, slots := 0, locals := 0 }) D z cI cZ cP cR N F [.ref (z + 0), .int v] (gRes (-2) N (fun F2 => F2 = F)) 0 0 := by
  refine gMi.of (cc := cX6_restore) (maxL := 2) (ret := (some .int)) (by decide) rfl (Nat.le_of_ble_eq_true rfl) [(0, .ref (z + 0)), (1, .int v)] rfl ?_
  intro pg ev sg mg bel me cg C hR0
  have h2n := two_lt hnn
  obtain ⟨hT, hTr, hH, hn6, hB, hD, hPd, hlen, ⟨rpt, rhd, rnu, hRe⟩, ⟨owy, oso, hOd⟩, hN, hslb, hS, hdd⟩ := hC
  refine x_iload_n C (pc := 0) 1 dX6_restore_0 rfl ?_
  refine x_if_lt C (pc := 1) (tgt := 9) dX6_restore_1 (by decide) (fun c_1 => ?_) (fun c_1 => ?_)
  · refine x_bipush C (pc := 9) (v := (-2)) dX6_restore_9 (by decide) ?_
    exact x_iret C hR0 rfl (Nat.le_of_ble_eq_true rfl) (Nat.le_of_ble_eq_true rfl) ⟨rfl, rfl, rfl⟩ dX6_restore_11
  refine x_iload_n C (pc := 4) 1 dX6_restore_4 rfl ?_
  refine x_iconst C (pc := 5) (v := 2) dX6_restore_5 (by decide) ?_
  refine x_icmp_lt C (pc := 6) (tgt := 12) dX6_restore_6 (by decide) (fun c_6 => absurd c_6 (fun q => by rw [inB_t c_1 (lt2_not q)] at hv; cases hv)) (fun c_6 => ?_)
  refine x_bipush C (pc := 9) (v := (-2)) dX6_restore_9 (by decide) ?_
  exact x_iret C hR0 rfl (Nat.le_of_ble_eq_true rfl) (Nat.le_of_ble_eq_true rfl) ⟨rfl, rfl, rfl⟩ dX6_restore_11
theorem fl_X6_restore_19 : Cond.fieldLink RX6 19 "PileRecount" "slots" "[LPileRecount$Recount;" ∈ wsX6_restore := by decide +kernel
theorem hn_X6_restore_X6 : ∀ w ∈ wsX60, w ∈ wsX6_restore := fun _ h => List.mem_cons_of_mem _ (List.mem_append_left _ (List.mem_append_left _ (List.mem_append_left _ (List.mem_append_right _ h))))
set_option maxHeartbeats 4000000 in
set_option maxRecDepth 100000 in
theorem c_X6_restore_e2 (l : Launch) (D : va_G) (z : Nat) (cI cZ cP cR : ClassId) (N : Nat) (F : Nat → va_E) (n kk cw c0 : Nat) (wi rl sp : Int32) (pd : Nat → Nat → Int32) (bs od : Nat → Int32) (pi : Nat → Nat) (T : RD) (hn : Nat) (hb : Nat → Nat) (hd : Nat → RD) (sl : Nat → Option Nat) (sd : Nat → RD) (len : Nat) (pa : Nat → Int32) (v : Nat) (hR : isRec z cI cP F 1 (nI n) wi (nI kk) (nI cw) rl (nI c0) sp pd bs od) (hnn : n ≤ 10) (hkk : kk ≤ n) (hcw : cw < 2 ^ n) (hc0 : c0 < 2 ^ 31) (hcnt : cntB cw n = kk) (hsp : sp = 0 ∨ sp = 1) (hpi : piOK bs pi n) (hC : isCl z cI cP cR N F T hn hb hd sl sd len pa) (hv : v < 2) (hsl : sl v = none) : gMi l yX6_restore wsX6_restore ({ frames := 0, cells := 0, slots := 0, locals := 0 }) D z cI cZ cP cR N F [.ref (z + 0), .int (nI v)] (gRes (-5) N (fun F2 => F2 = F)) 0 0 := by
  refine gMi.of (cc := cX6_restore) (maxL := 2) (ret := (some .int)) (by decide) rfl (Nat.le_of_ble_eq_true rfl) [(0, .ref (z + 0)), (1, .int (nI v))] rfl ?_
  intro pg ev sg mg bel me cg C hR0
  have h2n := two_lt hnn
  obtain ⟨hT, hTr, hH, hn6, hB, hD, hPd, hlen, ⟨rpt, rhd, rnu, hRe⟩, ⟨owy, oso, hOd⟩, hN, hslb, hS, hdd⟩ := hC
  obtain ⟨hT0, gs, hgs, hgi⟩ := id hT
  have hgv := hgi v hv
  rw [hsl] at hgv
  refine x_iload_n C (pc := 0) 1 dX6_restore_0 rfl ?_
  refine x_ifN_lt C (a := v) (pc := 1) (tgt := 9) (by omega) dX6_restore_1 (by decide) (fun c_1 => absurd c_1 (by omega)) (fun c_1 => ?_)
  refine x_iload_n C (pc := 4) 1 dX6_restore_4 rfl ?_
  refine x_iconst C (pc := 5) (v := 2) dX6_restore_5 (by decide) ?_
  refine x_icmpN_lt C (a := v) (b := 2) (pc := 6) (tgt := 12) (by omega) (by omega) dX6_restore_6 (by decide) (fun c_6 => ?_) (fun c_6 => absurd c_6 (by omega))
  refine x_aload_n C (pc := 12) 0 dX6_restore_12 rfl ?_
  refine x_get C (pc := 13) (q := 0) (v := .ref (z + 29)) (ci := 6) rfl hn_X6_restore_X6 2 (by decide) fl_X6_restore_19 rfl (by omega) hT.1 rfl dX6_restore_13 ?_
  refine x_iload_n C (pc := 16) 1 dX6_restore_16 rfl ?_
  refine x_aaldN C (pc := 17) 3 rfl (q := 29) (j := v) (by omega) hgs rfl (by omega) (by decide) hgv dX6_restore_17 ?_
  refine x_ifnonnullN C (pc := 18) dX6_restore_18 ?_
  refine x_bipush C (pc := 21) (v := (-5)) dX6_restore_21 (by decide) ?_
  exact x_iret C hR0 rfl (Nat.le_of_ble_eq_true rfl) (Nat.le_of_ble_eq_true rfl) ⟨rfl, rfl, rfl⟩ dX6_restore_23
theorem fl_X6_restore_10 : Cond.fieldLink RX6 10 "PileRecount" "now" "LPileRecount$Recount;" ∈ wsX6_restore := by decide +kernel
theorem fl_X6_restore_26 : Cond.fieldLink RX6 26 "PileRecount" "history" "LPileRecount$History;" ∈ wsX6_restore := by decide +kernel
theorem fl_X6_restore_69 : Cond.fieldLink RX6 69 "PileRecount$Recount" "countedPiles" "I" ∈ wsX6_restore := by decide +kernel
theorem hn_X6_restore_X5 : ∀ w ∈ wsX50, w ∈ wsX6_restore := fun _ h => List.mem_cons_of_mem _ (List.mem_append_left _ (List.mem_append_left _ (List.mem_append_right _ h)))
set_option maxHeartbeats 4000000 in
set_option maxRecDepth 100000 in
theorem c_X6_restore_s (l : Launch) (D : va_G) (z : Nat) (cI cZ cP cR : ClassId) (N : Nat) (F : Nat → va_E) (n kk cw c0 : Nat) (wi rl sp : Int32) (pd : Nat → Nat → Int32) (bs od : Nat → Int32) (pi : Nat → Nat) (T : RD) (hn : Nat) (hb : Nat → Nat) (hd : Nat → RD) (sl : Nat → Option Nat) (sd : Nat → RD) (len : Nat) (pa : Nat → Int32) (v q : Nat) (hR : isRec z cI cP F 1 (nI n) wi (nI kk) (nI cw) rl (nI c0) sp pd bs od) (hnn : n ≤ 10) (hkk : kk ≤ n) (hcw : cw < 2 ^ n) (hc0 : c0 < 2 ^ 31) (hcnt : cntB cw n = kk) (hsp : sp = 0 ∨ sp = 1) (hpi : piOK bs pi n) (hC : isCl z cI cP cR N F T hn hb hd sl sd len pa) (hv : v < 2) (hsl : sl v = some q) (hsds : (sd v).1 6 = 0 ∨ (sd v).1 6 = 1) : gMi l yX6_restore wsX6_restore ({ frames := 3, cells := 0, slots := 0, locals := 64 }) D z cI cZ cP cR N F [.ref (z + 0), .int (nI v)] (gRes ((sd v).1 2) N (fun F2 => ∃ hb2 : Nat → Nat, isRecD z cI cP F2 1 (sd v) ∧ isCl z cI cP cR N F2 T (if hn < 6 then hn + 1 else 6) hb2 (recD hn hd (mkR (nI n) wi (nI kk) (nI cw) rl (nI c0) sp pd bs od)) sl sd len pa ∧ gFr 0 123 F F2)) 0 0 := by
  refine gMi.of (cc := cX6_restore) (maxL := 2) (ret := (some .int)) (by decide) rfl (Nat.le_of_ble_eq_true rfl) [(0, .ref (z + 0)), (1, .int (nI v))] rfl ?_
  intro pg ev sg mg bel me cg C hR0
  have h2n := two_lt hnn
  obtain ⟨hT, hTr, hH, hn6, hB, hD, hPd, hlen, ⟨rpt, rhd, rnu, hRe⟩, ⟨owy, oso, hOd⟩, hN, hslb, hS, hdd⟩ := hC
  obtain ⟨hT0, gs, hgs, hgi⟩ := id hT
  have hgv := hgi v hv
  rw [hsl] at hgv
  obtain ⟨hq1, hq2⟩ := hslb v hv q hsl
  refine x_iload_n C (pc := 0) 1 dX6_restore_0 rfl ?_
  refine x_ifN_lt C (a := v) (pc := 1) (tgt := 9) (by omega) dX6_restore_1 (by decide) (fun c_1 => absurd c_1 (by omega)) (fun c_1 => ?_)
  refine x_iload_n C (pc := 4) 1 dX6_restore_4 rfl ?_
  refine x_iconst C (pc := 5) (v := 2) dX6_restore_5 (by decide) ?_
  refine x_icmpN_lt C (a := v) (b := 2) (pc := 6) (tgt := 12) (by omega) (by omega) dX6_restore_6 (by decide) (fun c_6 => ?_) (fun c_6 => absurd c_6 (by omega))
  refine x_aload_n C (pc := 12) 0 dX6_restore_12 rfl ?_
  refine x_get C (pc := 13) (q := 0) (v := .ref (z + 29)) (ci := 6) rfl hn_X6_restore_X6 2 (by decide) fl_X6_restore_19 rfl (by omega) hT.1 rfl dX6_restore_13 ?_
  refine x_iload_n C (pc := 16) 1 dX6_restore_16 rfl ?_
  refine x_aald C (pc := 17) 3 rfl (q := 29) (j := v) (q2 := q) (by omega) hgs rfl (by omega) (by decide) hgv dX6_restore_17 ?_
  refine x_ifnonnullR C (pc := 18) (tgt := 24) dX6_restore_18 (by decide) ?_
  refine x_aload_n C (pc := 24) 0 dX6_restore_24 rfl ?_
  refine x_get C (pc := 25) (q := 0) (v := .ref (z + 30)) (ci := 6) rfl hn_X6_restore_X6 3 (by decide) fl_X6_restore_26 rfl (by omega) hT.1 rfl dX6_restore_25 ?_
  refine x_aload_n C (pc := 28) 0 dX6_restore_28 rfl ?_
  refine x_get C (pc := 29) (q := 0) (v := .ref (z + 1)) (ci := 6) rfl hn_X6_restore_X6 0 (by decide) fl_X6_restore_10 rfl (by omega) hT.1 rfl dX6_restore_29 ?_
  refine x_cVvE C (pc := 32) (st := []) (c_X0_record l D z cI cZ cP cR N F 30 hn hb hd 1 (mkR (nI n) wi (nI kk) (nI cw) rl (nI c0) sp pd bs od) hH (by omega) hn6 hB hD hR (by omega) (by omega) hsp) (cwV 1 C.2.2.2.2.1 gX6_restore_X0_record rfl rfl rfl hd_X0_record ⟨Nat.le_of_ble_eq_true rfl, Nat.le_of_ble_eq_true rfl⟩) (by omega) hH.ob rfl rfl rfl (Nat.le_of_ble_eq_true rfl) dX6_restore_32 ⟨Nat.le_of_ble_eq_true rfl, Nat.le_of_ble_eq_true rfl⟩ (fun F_32 h_32 => ?_)
  obtain ⟨hb_32, hB_32, hH_32, hD_32, fr_32⟩ := h_32
  have hn6_32 : (if hn < 6 then hn + 1 else 6) ≤ 6 := by split <;> omega
  have hT_32 := hT.same (fr_32 0 (by omega)) (fr_32 29 (by omega))
  have hR_32 := hR.same (F2 := F_32) (fun q _ _ => fr_32 q (by omega))
  have hTr_32 := hTr.same (F2 := F_32) (fun q _ _ => fr_32 q (by omega))
  have hPd_32 := hPd.same (F2 := F_32) (fun q _ _ => fr_32 q (by omega))
  have hRe_32 := hRe.same (F2 := F_32) (fun q _ _ => fr_32 q (by omega))
  have hOd_32 := hOd.same (F2 := F_32) (fun q _ _ => fr_32 q (by omega))
  have hS_32 : ∀ i, i < 2 → ∀ q, sl i = some q → isRecD z cI cP F_32 q (sd i) := fun i hi q hq => (hS i hi q hq).same (fun q2 h1 h2 => fr_32 q2 (by have := hslb i hi q hq; omega))
  obtain ⟨hT0b, gs2, hgs2, hgi2⟩ := id hT_32
  have hgv2 := hgi2 v hv
  rw [hsl] at hgv2
  refine x_aload_n C (pc := 35) 0 dX6_restore_35 rfl ?_
  refine x_get C (pc := 36) (q := 0) (v := .ref (z + 1)) (ci := 6) rfl hn_X6_restore_X6 0 (by decide) fl_X6_restore_10 rfl (by omega) hT_32.1 rfl dX6_restore_36 ?_
  refine x_aload_n C (pc := 39) 0 dX6_restore_39 rfl ?_
  refine x_get C (pc := 40) (q := 0) (v := .ref (z + 29)) (ci := 6) rfl hn_X6_restore_X6 2 (by decide) fl_X6_restore_19 rfl (by omega) hT_32.1 rfl dX6_restore_40 ?_
  refine x_iload_n C (pc := 43) 1 dX6_restore_43 rfl ?_
  refine x_aald C (pc := 44) 3 rfl (q := 29) (j := v) (q2 := q) (by omega) hgs2 rfl (by omega) (by decide) hgv2 dX6_restore_44 ?_
  have hSq2 := hS_32 v hv q hsl
  refine x_cVvE C (pc := 45) (st := []) (c_X5_copyFrom l D z cI cZ cP cR N F_32 1 (nI n) wi (nI kk) (nI cw) rl (nI c0) sp pd bs od q ((sd v).1 0) ((sd v).1 1) ((sd v).1 2) ((sd v).1 3) ((sd v).1 4) ((sd v).1 5) ((sd v).1 6) ((sd v).2.1) ((sd v).2.2.1) ((sd v).2.2.2) hR_32 (by omega) hSq2 (by omega) (by omega) hsds) (cwV 1 C.2.2.2.2.1 gX6_restore_X5_copyFrom rfl rfl rfl hd_X5_copyFrom ⟨Nat.le_of_ble_eq_true rfl, Nat.le_of_ble_eq_true rfl⟩) (by omega) hR_32.ob rfl rfl rfl (Nat.le_of_ble_eq_true rfl) dX6_restore_45 ⟨Nat.le_of_ble_eq_true rfl, Nat.le_of_ble_eq_true rfl⟩ (fun F_45 h_45 => ?_)
  obtain ⟨hR_45, fr_45⟩ := h_45
  have hT_45 := hT_32.same (fr_45 0 (by omega)) (fr_45 29 (by omega))
  have hTr_45 := hTr_32.same (F2 := F_45) (fun q _ _ => fr_45 q (by omega))
  have hH_45 := hH_32.same (F2 := F_45) (fun q _ _ => fr_45 q (by omega))
  have hD_45 : ∀ i, i < 6 → isRecD z cI cP F_45 (hb_32 i) ((recD hn hd (mkR (nI n) wi (nI kk) (nI cw) rl (nI c0) sp pd bs od)) i) := fun i hi => (hD_32 i hi).same (fun q h1 h2 => fr_45 q (by have := (hB_32 i hi).1; omega))
  have hPd_45 := hPd_32.same (F2 := F_45) (fun q _ _ => fr_45 q (by omega))
  have hRe_45 := hRe_32.same (F2 := F_45) (fun q _ _ => fr_45 q (by omega))
  have hOd_45 := hOd_32.same (F2 := F_45) (fun q _ _ => fr_45 q (by omega))
  have hS_45 : ∀ i, i < 2 → ∀ q, sl i = some q → isRecD z cI cP F_45 q (sd i) := fun i hi q hq => (hS_32 i hi q hq).same (fun q2 h1 h2 => fr_45 q2 (by have := hslb i hi q hq; omega))
  refine x_aload_n C (pc := 48) 0 dX6_restore_48 rfl ?_
  refine x_get C (pc := 49) (q := 0) (v := .ref (z + 1)) (ci := 6) rfl hn_X6_restore_X6 0 (by decide) fl_X6_restore_10 rfl (by omega) hT_45.1 rfl dX6_restore_49 ?_
  refine x_get C (pc := 52) (q := 1) (v := .int ((sd v).1 2)) (ci := 5) rfl hn_X6_restore_X5 5 (by decide) fl_X6_restore_69 rfl (by omega) hR_45.ob rfl dX6_restore_52 ?_
  exact x_iret C hR0 rfl (Nat.le_of_ble_eq_true rfl) (Nat.le_of_ble_eq_true rfl) ⟨rfl, rfl, ⟨hb_32, hR_45, ⟨hT_45, hTr_45, hH_45, hn6_32, hB_32, hD_45, hPd_45, hlen, ⟨_, _, _, hRe_45⟩, ⟨_, _, hOd_45⟩, hN, hslb, hS_45, hdd⟩, (gFr.t2 (gFr.wide (a := 0) (b := 123) fr_32 (by omega) (by omega)) (gFr.wide (a := 0) (b := 123) fr_45 (by omega) (by omega)))⟩⟩ dX6_restore_55
theorem ci_X6_save_RX5 : Cond.instantiable RX5 10 ∈ wsX6_save := by decide +kernel
theorem cl_X6_save_7 : Cond.classLink RX6 7 RX5 ∈ wsX6_save := by decide +kernel
theorem ni_X6_save_RX5 : Cond.initialized RX5 ∈ wsX6_save := by decide +kernel
theorem nl_X6_save_9 : Cond.methodLink RX6 9 yX5_init ∈ wsX6_save := by decide +kernel
theorem nt_X6_save_X5_init : Cond.instanceMethod yX5_init ∈ wsX6_save := by decide +kernel
set_option maxHeartbeats 4000000 in
set_option maxRecDepth 100000 in
theorem c_X6_save_n (l : Launch) (D : va_G) (z : Nat) (cI cZ cP cR : ClassId) (N : Nat) (F : Nat → va_E) (n kk cw c0 : Nat) (wi rl sp : Int32) (pd : Nat → Nat → Int32) (bs od : Nat → Int32) (pi : Nat → Nat) (T : RD) (hn : Nat) (hb : Nat → Nat) (hd : Nat → RD) (sl : Nat → Option Nat) (sd : Nat → RD) (len : Nat) (pa : Nat → Int32) (v : Nat) (hR : isRec z cI cP F 1 (nI n) wi (nI kk) (nI cw) rl (nI c0) sp pd bs od) (hnn : n ≤ 10) (hkk : kk ≤ n) (hcw : cw < 2 ^ n) (hc0 : c0 < 2 ^ 31) (hcnt : cntB cw n = kk) (hsp : sp = 0 ∨ sp = 1) (hpi : piOK bs pi n) (hC : isCl z cI cP cR N F T hn hb hd sl sd len pa) (hv : v < 2) (hsl : sl v = none) : gMi l yX6_save wsX6_save ({ frames := 3, cells := 14, slots := 90, locals := 53 }) D z cI cZ cP cR N F [.ref (z + 0), .int (nI v)] (gRes (nI kk) (N + 14) (fun F2 => isRec z cI cP F2 1 (nI n) wi (nI kk) (nI cw) rl (nI c0) sp pd bs od ∧ isCl z cI cP cR (N + 14) F2 T hn hb hd (slU sl v N) (sdU sd v (mkR (nI n) wi (nI kk) (nI cw) rl (nI c0) sp pd bs od)) len pa ∧ ∀ x, 123 ≤ x → x < 132 → F2 x = F x)) 14 90 := by
  refine gMi.of (cc := cX6_save) (maxL := 2) (ret := (some .int)) (by decide) rfl (Nat.le_of_ble_eq_true rfl) [(0, .ref (z + 0)), (1, .int (nI v))] rfl ?_
  intro pg ev sg mg bel me cg C hR0
  have h2n := two_lt hnn
  obtain ⟨hT, hTr, hH, hn6, hB, hD, hPd, hlen, ⟨rpt, rhd, rnu, hRe⟩, ⟨owy, oso, hOd⟩, hN, hslb, hS, hdd⟩ := hC
  obtain ⟨hT0, gs, hgs, hgi⟩ := id hT
  have hgv := hgi v hv
  rw [hsl] at hgv
  refine x_iload_n C (pc := 0) 1 dX6_save_0 rfl ?_
  refine x_ifN_lt C (a := v) (pc := 1) (tgt := 9) (by omega) dX6_save_1 (by decide) (fun c_1 => absurd c_1 (by omega)) (fun c_1 => ?_)
  refine x_iload_n C (pc := 4) 1 dX6_save_4 rfl ?_
  refine x_iconst C (pc := 5) (v := 2) dX6_save_5 (by decide) ?_
  refine x_icmpN_lt C (a := v) (b := 2) (pc := 6) (tgt := 12) (by omega) (by omega) dX6_save_6 (by decide) (fun c_6 => ?_) (fun c_6 => absurd c_6 (by omega))
  refine x_aload_n C (pc := 12) 0 dX6_save_12 rfl ?_
  refine x_get C (pc := 13) (q := 0) (v := .ref (z + 29)) (ci := 6) rfl hn_X6_save_X6 2 (by decide) fl_X6_save_19 rfl (by omega) hT.1 rfl dX6_save_13 ?_
  refine x_iload_n C (pc := 16) 1 dX6_save_16 rfl ?_
  refine x_aaldN C (pc := 17) 3 rfl (q := 29) (j := v) (by omega) hgs rfl (by omega) (by decide) hgv dX6_save_17 ?_
  refine x_ifnonnullN C (pc := 18) dX6_save_18 ?_
  refine x_aload_n C (pc := 21) 0 dX6_save_21 rfl ?_
  refine x_get C (pc := 22) (q := 0) (v := .ref (z + 29)) (ci := 6) rfl hn_X6_save_X6 2 (by decide) fl_X6_save_19 rfl (by omega) hT.1 rfl dX6_save_22 ?_
  refine x_iload_n C (pc := 25) 1 dX6_save_25 rfl ?_
  refine x_new C (pc := 26) (ci := 5) (fs := [.null, .int 0, .int 0, .null, .null, .int 0, .int 0, .int 0, .int 0, .int 0]) rfl hn_X6_save_X5 tyX5 tyX5_ok cl_X6_save_7 ci_X6_save_RX5 ni_X6_save_RX5 (fun j hj => by match j, hj with | 0, _ => rfl | 1, _ => rfl | 2, _ => rfl | 3, _ => rfl | 4, _ => rfl | 5, _ => rfl | 6, _ => rfl | 7, _ => rfl | 8, _ => rfl | 9, _ => rfl) (by show 0 + 1 ≤ 14; omega) (by show 0 + 10 ≤ 90; omega) dX6_save_26 ?_
  refine x_nameF (fun F_26 e_26 => ?_)
  have fr_26 : ∀ q, q < N → F_26 q = F q := fun q h => by rw [e_26, va_up_ne _ _ (by omega)]
  have hO_26 : F_26 N = .inr (5, [.null, .int 0, .int 0, .null, .null, .int 0, .int 0, .int 0, .int 0, .int 0]) := by rw [e_26]; exact va_up_self _ _ _
  have hT_26 := hT.same (fr_26 0 (by omega)) (fr_26 29 (by omega))
  have hR_26 := hR.same (F2 := F_26) (fun q _ _ => fr_26 q (by omega))
  have hTr_26 := hTr.same (F2 := F_26) (fun q _ _ => fr_26 q (by omega))
  have hH_26 := hH.same (F2 := F_26) (fun q _ _ => fr_26 q (by omega))
  have hD_26 : ∀ i, i < 6 → isRecD z cI cP F_26 (hb i) (hd i) := fun i hi => (hD i hi).same (fun q h1 h2 => fr_26 q (by have := (hB i hi).1; omega))
  have hPd_26 := hPd.same (F2 := F_26) (fun q _ _ => fr_26 q (by omega))
  have hRe_26 := hRe.same (F2 := F_26) (fun q _ _ => fr_26 q (by omega))
  have hOd_26 := hOd.same (F2 := F_26) (fun q _ _ => fr_26 q (by omega))
  have hS_26 : ∀ i, i < 2 → ∀ q, sl i = some q → isRecD z cI cP F_26 q (sd i) := fun i hi q hq => (hS i hi q hq).same (fun q2 h1 h2 => fr_26 q2 (by have := hslb i hi q hq; omega))
  refine x_dup C (pc := 29) dX6_save_29 rfl ?_
  refine x_cIvE C (pc := 30) (st := [.ref (z + N), .int (nI v), .ref (z + 29)]) (c_X5_init l D z cI cZ cP cR (N + 1) F_26 N rfl hO_26) (cwI 0 C.2.2.2.2.1 gX6_save_X5_init rfl rfl rfl (C.2.2.2.2.1 _ ni_X6_save_RX5) (C.2.2.2.2.1 _ nl_X6_save_9) (C.2.2.2.2.1 _ nt_X6_save_X5_init) rfl hd_X5_init.2 ⟨Nat.le_of_ble_eq_true rfl, Nat.le_of_ble_eq_true rfl⟩) rfl rfl (Nat.le_of_ble_eq_true rfl) dX6_save_30 ⟨(by show 0 + 1 + 13 ≤ 14; omega), (by show 0 + 10 + 80 ≤ 90; omega)⟩ (fun F_30 h_30 => ?_)
  obtain ⟨hP_30, lo_30⟩ := h_30
  have fr_30 : ∀ q, q < N → F_30 q = F_26 q := lo_30
  have hT_30 := hT_26.same (fr_30 0 (by omega)) (fr_30 29 (by omega))
  have hR_30 := hR_26.same (F2 := F_30) (fun q _ _ => fr_30 q (by omega))
  have hTr_30 := hTr_26.same (F2 := F_30) (fun q _ _ => fr_30 q (by omega))
  have hH_30 := hH_26.same (F2 := F_30) (fun q _ _ => fr_30 q (by omega))
  have hD_30 : ∀ i, i < 6 → isRecD z cI cP F_30 (hb i) (hd i) := fun i hi => (hD_26 i hi).same (fun q h1 h2 => fr_30 q (by have := (hB i hi).1; omega))
  have hPd_30 := hPd_26.same (F2 := F_30) (fun q _ _ => fr_30 q (by omega))
  have hRe_30 := hRe_26.same (F2 := F_30) (fun q _ _ => fr_30 q (by omega))
  have hOd_30 := hOd_26.same (F2 := F_30) (fun q _ _ => fr_30 q (by omega))
  have hS_30 : ∀ i, i < 2 → ∀ q, sl i = some q → isRecD z cI cP F_30 q (sd i) := fun i hi q hq => (hS_26 i hi q hq).same (fun q2 h1 h2 => fr_30 q2 (by have := hslb i hi q hq; omega))
  obtain ⟨hTa, ga, hga, hgia⟩ := id hT_30
  refine x_aast C (pc := 33) (q := 29) (j := v) (q2 := N) 3 rfl (by omega) hga (by omega) hP_30.ob (ci := 5) (r := (RX5, TX5, 10)) rfl rfl (by omega) (by decide) dX6_save_33 ?_
  refine x_nameF (fun F_33 e_33 => ?_)
  have fr_33 : gFr 29 30 F_30 F_33 := fun q h => by rw [e_33, va_up_ne _ _ (by omega)]
  have hT_33 : isTop z cR F_33 (slU sl v N) := ⟨(fr_33 0 (by omega)).trans hTa, _, by rw [e_33]; exact va_up_self _ _ _, fun i hi => by
    by_cases e : i = v
    · subst e; rw [va_up_self, slU, va_up_self]; rfl
    · rw [va_up_ne _ _ e, slU, va_up_ne _ _ e]; exact hgia i hi⟩
  have hR_33 := hR_30.same (F2 := F_33) (fun q _ _ => fr_33 q (by omega))
  have hTr_33 := hTr_30.same (F2 := F_33) (fun q _ _ => fr_33 q (by omega))
  have hH_33 := hH_30.same (F2 := F_33) (fun q _ _ => fr_33 q (by omega))
  have hD_33 : ∀ i, i < 6 → isRecD z cI cP F_33 (hb i) (hd i) := fun i hi => (hD_30 i hi).same (fun q h1 h2 => fr_33 q (by have := (hB i hi).1; omega))
  have hPd_33 := hPd_30.same (F2 := F_33) (fun q _ _ => fr_33 q (by omega))
  have hRe_33 := hRe_30.same (F2 := F_33) (fun q _ _ => fr_33 q (by omega))
  have hOd_33 := hOd_30.same (F2 := F_33) (fun q _ _ => fr_33 q (by omega))
  have hS_33 : ∀ i, i < 2 → ∀ q, sl i = some q → isRecD z cI cP F_33 q (sd i) := fun i hi q hq => (hS_30 i hi q hq).same (fun q2 h1 h2 => fr_33 q2 (by have := hslb i hi q hq; omega))
  have hP_33 := hP_30.same (F2 := F_33) (fun q _ _ => fr_33 q (by omega))
  obtain ⟨hT0b, gs2, hgs2, hgi2⟩ := id hT_33
  have hgv2 := hgi2 v hv
  rw [slU, va_up_self] at hgv2
  refine x_aload_n C (pc := 34) 0 dX6_save_34 rfl ?_
  refine x_get C (pc := 35) (q := 0) (v := .ref (z + 29)) (ci := 6) rfl hn_X6_save_X6 2 (by decide) fl_X6_save_19 rfl (by omega) hT_33.1 rfl dX6_save_35 ?_
  refine x_iload_n C (pc := 38) 1 dX6_save_38 rfl ?_
  refine x_aald C (pc := 39) 3 rfl (q := 29) (j := v) (q2 := N) (by omega) hgs2 rfl (by omega) (by decide) hgv2 dX6_save_39 ?_
  refine x_aload_n C (pc := 40) 0 dX6_save_40 rfl ?_
  refine x_get C (pc := 41) (q := 0) (v := .ref (z + 1)) (ci := 6) rfl hn_X6_save_X6 0 (by decide) fl_X6_save_10 rfl (by omega) hT_33.1 rfl dX6_save_41 ?_
  refine x_cVvE C (pc := 44) (st := []) (c_X5_copyFrom l D z cI cZ cP cR (N + 14) F_33 N 0 (-6) 0 0 500 1 0 (fun _ _ => 0) (fun _ => 0) (fun _ => 0) 1 (nI n) wi (nI kk) (nI cw) rl (nI c0) sp pd bs od hP_33 (by omega) hR_33 (by omega) (by omega) hsp) (cwV 1 C.2.2.2.2.1 gX6_save_X5_copyFrom rfl rfl rfl hd_X5_copyFrom ⟨Nat.le_of_ble_eq_true rfl, Nat.le_of_ble_eq_true rfl⟩) (by omega) hP_33.ob rfl rfl rfl (Nat.le_of_ble_eq_true rfl) dX6_save_44 ⟨Nat.le_of_ble_eq_true rfl, Nat.le_of_ble_eq_true rfl⟩ (fun F_44 h_44 => ?_)
  obtain ⟨hSq_44, fr_44⟩ := h_44
  have hT_44 := hT_33.same (fr_44 0 (by omega)) (fr_44 29 (by omega))
  have hR_44 := hR_33.same (F2 := F_44) (fun q _ _ => fr_44 q (by omega))
  have hTr_44 := hTr_33.same (F2 := F_44) (fun q _ _ => fr_44 q (by omega))
  have hH_44 := hH_33.same (F2 := F_44) (fun q _ _ => fr_44 q (by omega))
  have hD_44 : ∀ i, i < 6 → isRecD z cI cP F_44 (hb i) (hd i) := fun i hi => (hD_33 i hi).same (fun q h1 h2 => fr_44 q (by have := (hB i hi).1; omega))
  have hPd_44 := hPd_33.same (F2 := F_44) (fun q _ _ => fr_44 q (by omega))
  have hRe_44 := hRe_33.same (F2 := F_44) (fun q _ _ => fr_44 q (by omega))
  have hOd_44 := hOd_33.same (F2 := F_44) (fun q _ _ => fr_44 q (by omega))
  have hS_44 : ∀ i, i < 2 → ∀ q, sl i = some q → isRecD z cI cP F_44 q (sd i) := fun i hi q hq => (hS_33 i hi q hq).same (fun q2 h1 h2 => fr_44 q2 (by have := hslb i hi q hq; omega))
  refine x_aload_n C (pc := 47) 0 dX6_save_47 rfl ?_
  refine x_get C (pc := 48) (q := 0) (v := .ref (z + 1)) (ci := 6) rfl hn_X6_save_X6 0 (by decide) fl_X6_save_10 rfl (by omega) hT_44.1 rfl dX6_save_48 ?_
  refine x_get C (pc := 51) (q := 1) (v := .int (nI kk)) (ci := 5) rfl hn_X6_save_X5 5 (by decide) fl_X6_save_69 rfl (by omega) hR_44.ob rfl dX6_save_51 ?_
  exact x_iret C hR0 rfl (Nat.le_of_ble_eq_true rfl) (Nat.le_of_ble_eq_true rfl) ⟨rfl, rfl, ⟨hR_44, ⟨hT_44, hTr_44, hH_44, hn6, hB, hD_44, hPd_44, hlen, ⟨_, _, _, hRe_44⟩, ⟨_, _, hOd_44⟩, (by omega), (fun i hi q2 hq2 => by
      by_cases e : i = v
      · subst e; rw [slU, va_up_self] at hq2; have e2 := Option.some.inj hq2; omega
      · rw [slU, va_up_ne _ _ e] at hq2; have := hslb i hi q2 hq2; omega), (fun i hi q2 hq2 => by
      by_cases e : i = v
      · subst e; rw [slU, va_up_self] at hq2; have e2 : N = q2 := Option.some.inj hq2; subst e2; rw [sdU, va_up_self]; exact hSq_44
      · rw [slU, va_up_ne _ _ e] at hq2; rw [sdU, va_up_ne _ _ e]; exact hS_44 i hi q2 hq2), (fun q0 q1 h0 h1 => by
      match v, hv with
      | 0, _ =>
        rw [slU, va_up_self] at h0; rw [slU, va_up_ne _ _ (by decide)] at h1
        have e2 := Option.some.inj h0; have := hslb 1 (by decide) q1 h1; omega
      | 1, _ =>
        rw [slU, va_up_self] at h1; rw [slU, va_up_ne _ _ (by decide)] at h0
        have e2 := Option.some.inj h1; have := hslb 0 (by decide) q0 h0; omega)⟩, fun x h1 h2 => by rw [fr_44 x (by omega), fr_33 x (by omega), fr_30 x (by omega), fr_26 x (by omega)]⟩⟩ dX6_save_54
