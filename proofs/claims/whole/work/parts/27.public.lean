def mkR (pl wi cp cs rl ch sp : Int32) (pd : Nat → Nat → Int32) (bs od : Nat → Int32) : RD := (fun i => match i with
  | 0 => pl
  | 1 => wi
  | 2 => cp
  | 3 => cs
  | 4 => rl
  | 5 => ch
  | _ => sp, pd, bs, od)
/-- the class but for its Recount of now -/
def isCl (z : Nat) (cI cP cR : ClassId) (N : Nat) (F : Nat → va_E) (T : RD) (hn : Nat) (hb : Nat → Nat) (hd : Nat → RD) (sl : Nat → Option Nat) (sd : Nat → RD) (len : Nat) (pa : Nat → Int32) : Prop :=
  isTop z cR F sl ∧ isRecD z cI cP F 15 T ∧ isHis z cR F 30 (nI hn) hb ∧ hn ≤ 6 ∧ hbOK 30 hb ∧ (∀ i, i < 6 → isRecD z cI cP F (hb i) (hd i)) ∧ isPad z cI F 116 (nI len) pa ∧ len ≤ 80 ∧ (∃ pt hd nu, isRea z cI F 118 pt hd nu) ∧ (∃ wy so, isOdd z cI F 120 wy so) ∧ 132 ≤ N ∧ (∀ i, i < 2 → ∀ q, sl i = some q → 132 ≤ q ∧ q + 14 ≤ N) ∧ (∀ i, i < 2 → ∀ q, sl i = some q → isRecD z cI cP F q (sd i)) ∧ (∀ q0 q1, sl 0 = some q0 → sl 1 = some q1 → q0 + 14 ≤ q1 ∨ q1 + 14 ≤ q0)
set_option maxHeartbeats 4000000 in
set_option maxRecDepth 100000 in
theorem c_X6_limit_e1 (l : Launch) (D : va_G) (z : Nat) (cI cZ cP cR : ClassId) (N : Nat) (F : Nat → va_E) (n kk cw c0 : Nat) (wi rl sp : Int32) (pd : Nat → Nat → Int32) (bs od : Nat → Int32) (pi : Nat → Nat) (T : RD) (hn : Nat) (hb : Nat → Nat) (hd : Nat → RD) (sl : Nat → Option Nat) (sd : Nat → RD) (len : Nat) (pa : Nat → Int32) (v : Int32) (hR : isRec z cI cP F 1 (nI n) wi (nI kk) (nI cw) rl (nI c0) sp pd bs od) (hnn : n ≤ 10) (hkk : kk ≤ n) (hcw : cw < 2 ^ n) (hc0 : c0 < 2 ^ 31) (hcnt : cntB cw n = kk) (hsp : sp = 0 ∨ sp = 1) (hpi : piOK bs pi n) (hC : isCl z cI cP cR N F T hn hb hd sl sd len pa) (hv : inB v 1 9999 = false) : gMi l yX6_limit wsX6_limit ({ frames := 0, cells := 0, slots := 0, locals := 0 }) D z cI cZ cP cR N F [.ref (z + 0), .int v] (gRes (-2) N (fun F2 => F2 = F)) 0 0 := by
  refine gMi.of (cc := cX6_limit) (maxL := 3) (ret := (some .int)) (by decide) rfl (Nat.le_of_ble_eq_true rfl) [(0, .ref (z + 0)), (1, .int v)] rfl ?_
  intro pg ev sg mg bel me cg C hR0
  have h2n := two_lt hnn
  obtain ⟨hT, hTr, hH, hn6, hB, hD, hPd, hlen, ⟨rpt, rhd, rnu, hRe⟩, ⟨owy, oso, hOd⟩, hN, hslb, hS, hdd⟩ := hC
  refine x_iload_n C (pc := 0) 1 dX6_limit_0 rfl ?_
  refine x_iconst C (pc := 1) (v := 1) dX6_limit_1 (by decide) ?_
  refine x_icmp_lt C (pc := 2) (tgt := 12) dX6_limit_2 (by decide) (fun c_2 => ?_) (fun c_2 => ?_)
  · refine x_bipush C (pc := 12) (v := (-2)) dX6_limit_12 (by decide) ?_
    exact x_iret C hR0 rfl (Nat.le_of_ble_eq_true rfl) (Nat.le_of_ble_eq_true rfl) ⟨rfl, rfl, rfl⟩ dX6_limit_14
  refine x_iload_n C (pc := 5) 1 dX6_limit_5 rfl ?_
  refine x_sipush C (pc := 6) (v := 9999) dX6_limit_6 (by decide) ?_
  refine x_icmp_le C (pc := 9) (tgt := 15) dX6_limit_9 (by decide) (fun c_9 => absurd c_9 (fun q => by rw [inB_t c_2 (Int32.not_lt.mpr q)] at hv; cases hv)) (fun c_9 => ?_)
  refine x_bipush C (pc := 12) (v := (-2)) dX6_limit_12 (by decide) ?_
  exact x_iret C hR0 rfl (Nat.le_of_ble_eq_true rfl) (Nat.le_of_ble_eq_true rfl) ⟨rfl, rfl, rfl⟩ dX6_limit_14
theorem fl_X6_limit_10 : Cond.fieldLink RX6 10 "PileRecount" "now" "LPileRecount$Recount;" ∈ wsX6_limit := by decide +kernel
theorem fl_X6_limit_69 : Cond.fieldLink RX6 69 "PileRecount$Recount" "countedPiles" "I" ∈ wsX6_limit := by decide +kernel
theorem hn_X6_limit_X5 : ∀ w ∈ wsX50, w ∈ wsX6_limit := fun _ h => List.mem_cons_of_mem _ (List.mem_append_left _ (List.mem_append_left _ (List.mem_append_right _ h)))
theorem hn_X6_limit_X6 : ∀ w ∈ wsX60, w ∈ wsX6_limit := fun _ h => List.mem_cons_of_mem _ (List.mem_append_left _ (List.mem_append_left _ (List.mem_append_left _ (List.mem_append_right _ h))))
set_option maxHeartbeats 4000000 in
set_option maxRecDepth 100000 in
theorem c_X6_limit_e2 (l : Launch) (D : va_G) (z : Nat) (cI cZ cP cR : ClassId) (N : Nat) (F : Nat → va_E) (n kk cw c0 : Nat) (wi rl sp : Int32) (pd : Nat → Nat → Int32) (bs od : Nat → Int32) (pi : Nat → Nat) (T : RD) (hn : Nat) (hb : Nat → Nat) (hd : Nat → RD) (sl : Nat → Option Nat) (sd : Nat → RD) (len : Nat) (pa : Nat → Int32) (v : Int32) (hR : isRec z cI cP F 1 (nI n) wi (nI kk) (nI cw) rl (nI c0) sp pd bs od) (hnn : n ≤ 10) (hkk : kk ≤ n) (hcw : cw < 2 ^ n) (hc0 : c0 < 2 ^ 31) (hcnt : cntB cw n = kk) (hsp : sp = 0 ∨ sp = 1) (hpi : piOK bs pi n) (hC : isCl z cI cP cR N F T hn hb hd sl sd len pa) (hv : inB v 1 9999 = true) (hk0 : 0 < kk) : gMi l yX6_limit wsX6_limit ({ frames := 0, cells := 0, slots := 0, locals := 0 }) D z cI cZ cP cR N F [.ref (z + 0), .int v] (gRes (-5) N (fun F2 => F2 = F)) 0 0 := by
  refine gMi.of (cc := cX6_limit) (maxL := 3) (ret := (some .int)) (by decide) rfl (Nat.le_of_ble_eq_true rfl) [(0, .ref (z + 0)), (1, .int v)] rfl ?_
  intro pg ev sg mg bel me cg C hR0
  have h2n := two_lt hnn
  obtain ⟨hT, hTr, hH, hn6, hB, hD, hPd, hlen, ⟨rpt, rhd, rnu, hRe⟩, ⟨owy, oso, hOd⟩, hN, hslb, hS, hdd⟩ := hC
  refine x_iload_n C (pc := 0) 1 dX6_limit_0 rfl ?_
  refine x_iconst C (pc := 1) (v := 1) dX6_limit_1 (by decide) ?_
  refine x_icmp_lt C (pc := 2) (tgt := 12) dX6_limit_2 (by decide) (fun c_2 => absurd c_2 (fun q => by rw [inB_f1 q] at hv; cases hv)) (fun c_2 => ?_)
  refine x_iload_n C (pc := 5) 1 dX6_limit_5 rfl ?_
  refine x_sipush C (pc := 6) (v := 9999) dX6_limit_6 (by decide) ?_
  refine x_icmp_le C (pc := 9) (tgt := 15) dX6_limit_9 (by decide) (fun c_9 => ?_) (fun c_9 => absurd c_9 (fun q => q (Int32.not_lt.mp (fun q2 => by rw [inB_f2 q2] at hv; cases hv))))
  refine x_aload_n C (pc := 15) 0 dX6_limit_15 rfl ?_
  refine x_get C (pc := 16) (q := 0) (v := .ref (z + 1)) (ci := 6) rfl hn_X6_limit_X6 0 (by decide) fl_X6_limit_10 rfl (by omega) hT.1 rfl dX6_limit_16 ?_
  refine x_get C (pc := 19) (q := 1) (v := .int (nI kk)) (ci := 5) rfl hn_X6_limit_X5 5 (by decide) fl_X6_limit_69 rfl (by omega) hR.ob rfl dX6_limit_19 ?_
  refine x_ifN_le C (a := kk) (pc := 22) (tgt := 28) (by omega) dX6_limit_22 (by decide) (fun c_22 => absurd c_22 (by omega)) (fun c_22 => ?_)
  refine x_bipush C (pc := 25) (v := (-5)) dX6_limit_25 (by decide) ?_
  exact x_iret C hR0 rfl (Nat.le_of_ble_eq_true rfl) (Nat.le_of_ble_eq_true rfl) ⟨rfl, rfl, rfl⟩ dX6_limit_27
theorem fl_X6_limit_26 : Cond.fieldLink RX6 26 "PileRecount" "history" "LPileRecount$History;" ∈ wsX6_limit := by decide +kernel
theorem fl_X6_limit_73 : Cond.fieldLink RX6 73 "PileRecount$Recount" "riskLimit" "I" ∈ wsX6_limit := by decide +kernel
set_option maxHeartbeats 4000000 in
set_option maxRecDepth 100000 in
theorem c_X6_limit_s (l : Launch) (D : va_G) (z : Nat) (cI cZ cP cR : ClassId) (N : Nat) (F : Nat → va_E) (n kk cw c0 : Nat) (wi rl sp : Int32) (pd : Nat → Nat → Int32) (bs od : Nat → Int32) (pi : Nat → Nat) (T : RD) (hn : Nat) (hb : Nat → Nat) (hd : Nat → RD) (sl : Nat → Option Nat) (sd : Nat → RD) (len : Nat) (pa : Nat → Int32) (v : Int32) (hR : isRec z cI cP F 1 (nI n) wi (nI kk) (nI cw) rl (nI c0) sp pd bs od) (hnn : n ≤ 10) (hkk : kk ≤ n) (hcw : cw < 2 ^ n) (hc0 : c0 < 2 ^ 31) (hcnt : cntB cw n = kk) (hsp : sp = 0 ∨ sp = 1) (hpi : piOK bs pi n) (hC : isCl z cI cP cR N F T hn hb hd sl sd len pa) (hv : inB v 1 9999 = true) (hk0 : kk = 0) : gMi l yX6_limit wsX6_limit ({ frames := 3, cells := 0, slots := 0, locals := 64 }) D z cI cZ cP cR N F [.ref (z + 0), .int v] (gRes rl N (fun F2 => ∃ hb2 : Nat → Nat, isRec z cI cP F2 1 (nI n) wi (nI kk) (nI cw) v (nI c0) sp pd bs od ∧ isCl z cI cP cR N F2 T (if hn < 6 then hn + 1 else 6) hb2 (recD hn hd (mkR (nI n) wi (nI kk) (nI cw) rl (nI c0) sp pd bs od)) sl sd len pa ∧ gFr 0 123 F F2)) 0 0 := by
  refine gMi.of (cc := cX6_limit) (maxL := 3) (ret := (some .int)) (by decide) rfl (Nat.le_of_ble_eq_true rfl) [(0, .ref (z + 0)), (1, .int v)] rfl ?_
  intro pg ev sg mg bel me cg C hR0
  have h2n := two_lt hnn
  obtain ⟨hT, hTr, hH, hn6, hB, hD, hPd, hlen, ⟨rpt, rhd, rnu, hRe⟩, ⟨owy, oso, hOd⟩, hN, hslb, hS, hdd⟩ := hC
  refine x_iload_n C (pc := 0) 1 dX6_limit_0 rfl ?_
  refine x_iconst C (pc := 1) (v := 1) dX6_limit_1 (by decide) ?_
  refine x_icmp_lt C (pc := 2) (tgt := 12) dX6_limit_2 (by decide) (fun c_2 => absurd c_2 (fun q => by rw [inB_f1 q] at hv; cases hv)) (fun c_2 => ?_)
  refine x_iload_n C (pc := 5) 1 dX6_limit_5 rfl ?_
  refine x_sipush C (pc := 6) (v := 9999) dX6_limit_6 (by decide) ?_
  refine x_icmp_le C (pc := 9) (tgt := 15) dX6_limit_9 (by decide) (fun c_9 => ?_) (fun c_9 => absurd c_9 (fun q => q (Int32.not_lt.mp (fun q2 => by rw [inB_f2 q2] at hv; cases hv))))
  refine x_aload_n C (pc := 15) 0 dX6_limit_15 rfl ?_
  refine x_get C (pc := 16) (q := 0) (v := .ref (z + 1)) (ci := 6) rfl hn_X6_limit_X6 0 (by decide) fl_X6_limit_10 rfl (by omega) hT.1 rfl dX6_limit_16 ?_
  refine x_get C (pc := 19) (q := 1) (v := .int (nI kk)) (ci := 5) rfl hn_X6_limit_X5 5 (by decide) fl_X6_limit_69 rfl (by omega) hR.ob rfl dX6_limit_19 ?_
  refine x_ifN_le C (a := kk) (pc := 22) (tgt := 28) (by omega) dX6_limit_22 (by decide) (fun c_22 => ?_) (fun c_22 => absurd c_22 (by omega))
  refine x_aload_n C (pc := 28) 0 dX6_limit_28 rfl ?_
  refine x_get C (pc := 29) (q := 0) (v := .ref (z + 30)) (ci := 6) rfl hn_X6_limit_X6 3 (by decide) fl_X6_limit_26 rfl (by omega) hT.1 rfl dX6_limit_29 ?_
  refine x_aload_n C (pc := 32) 0 dX6_limit_32 rfl ?_
  refine x_get C (pc := 33) (q := 0) (v := .ref (z + 1)) (ci := 6) rfl hn_X6_limit_X6 0 (by decide) fl_X6_limit_10 rfl (by omega) hT.1 rfl dX6_limit_33 ?_
  refine x_cVvE C (pc := 36) (st := []) (c_X0_record l D z cI cZ cP cR N F 30 hn hb hd 1 (mkR (nI n) wi (nI kk) (nI cw) rl (nI c0) sp pd bs od) hH (by omega) hn6 hB hD hR (by omega) (by omega) hsp) (cwV 1 C.2.2.2.2.1 gX6_limit_X0_record rfl rfl rfl hd_X0_record ⟨Nat.le_of_ble_eq_true rfl, Nat.le_of_ble_eq_true rfl⟩) (by omega) hH.ob rfl rfl rfl (Nat.le_of_ble_eq_true rfl) dX6_limit_36 ⟨Nat.le_of_ble_eq_true rfl, Nat.le_of_ble_eq_true rfl⟩ (fun F_36 h_36 => ?_)
  obtain ⟨hb_36, hB_36, hH_36, hD_36, fr_36⟩ := h_36
  have hn6_36 : (if hn < 6 then hn + 1 else 6) ≤ 6 := by split <;> omega
  have hT_36 := hT.same (fr_36 0 (by omega)) (fr_36 29 (by omega))
  have hR_36 := hR.same (F2 := F_36) (fun q _ _ => fr_36 q (by omega))
  have hTr_36 := hTr.same (F2 := F_36) (fun q _ _ => fr_36 q (by omega))
  have hPd_36 := hPd.same (F2 := F_36) (fun q _ _ => fr_36 q (by omega))
  have hRe_36 := hRe.same (F2 := F_36) (fun q _ _ => fr_36 q (by omega))
  have hOd_36 := hOd.same (F2 := F_36) (fun q _ _ => fr_36 q (by omega))
  have hS_36 : ∀ i, i < 2 → ∀ q, sl i = some q → isRecD z cI cP F_36 q (sd i) := fun i hi q hq => (hS i hi q hq).same (fun q2 h1 h2 => fr_36 q2 (by have := hslb i hi q hq; omega))
  refine x_aload_n C (pc := 39) 0 dX6_limit_39 rfl ?_
  refine x_get C (pc := 40) (q := 0) (v := .ref (z + 1)) (ci := 6) rfl hn_X6_limit_X6 0 (by decide) fl_X6_limit_10 rfl (by omega) hT_36.1 rfl dX6_limit_40 ?_
  refine x_get C (pc := 43) (q := 1) (v := .int rl) (ci := 5) rfl hn_X6_limit_X5 7 (by decide) fl_X6_limit_73 rfl (by omega) hR_36.ob rfl dX6_limit_43 ?_
  refine x_istore_n C (pc := 46) [(2, .int rl), (0, .ref (z + 0)), (1, .int v)] dX6_limit_46 (by decide) rfl ?_
  refine x_aload_n C (pc := 47) 1 dX6_limit_47 rfl ?_
  refine x_get C (pc := 48) (q := 0) (v := .ref (z + 1)) (ci := 6) rfl hn_X6_limit_X6 0 (by decide) fl_X6_limit_10 rfl (by omega) hT_36.1 rfl dX6_limit_48 ?_
  refine x_iload_n C (pc := 51) 2 dX6_limit_51 rfl ?_
  refine xw_X5_7 C (pc := 52) hn_X6_limit_X5 fl_X6_limit_73 hR_36 (by omega) dX6_limit_52 (fun F_52 hR_52 fr_52 => ?_)
  have hT_52 := hT_36.same (fr_52 0 (by omega)) (fr_52 29 (by omega))
  have hTr_52 := hTr_36.same (F2 := F_52) (fun q _ _ => fr_52 q (by omega))
  have hH_52 := hH_36.same (F2 := F_52) (fun q _ _ => fr_52 q (by omega))
  have hD_52 : ∀ i, i < 6 → isRecD z cI cP F_52 (hb_36 i) ((recD hn hd (mkR (nI n) wi (nI kk) (nI cw) rl (nI c0) sp pd bs od)) i) := fun i hi => (hD_36 i hi).same (fun q h1 h2 => fr_52 q (by have := (hB_36 i hi).1; omega))
  have hPd_52 := hPd_36.same (F2 := F_52) (fun q _ _ => fr_52 q (by omega))
  have hRe_52 := hRe_36.same (F2 := F_52) (fun q _ _ => fr_52 q (by omega))
  have hOd_52 := hOd_36.same (F2 := F_52) (fun q _ _ => fr_52 q (by omega))
  have hS_52 : ∀ i, i < 2 → ∀ q, sl i = some q → isRecD z cI cP F_52 q (sd i) := fun i hi q hq => (hS_36 i hi q hq).same (fun q2 h1 h2 => fr_52 q2 (by have := hslb i hi q hq; omega))
  refine x_iload_n C (pc := 55) 0 dX6_limit_55 rfl ?_
  exact x_iret C hR0 rfl (Nat.le_of_ble_eq_true rfl) (Nat.le_of_ble_eq_true rfl) ⟨rfl, rfl, ⟨hb_36, hR_52, ⟨hT_52, hTr_52, hH_52, hn6_36, hB_36, hD_52, hPd_52, hlen, ⟨_, _, _, hRe_52⟩, ⟨_, _, hOd_52⟩, hN, hslb, hS_52, hdd⟩, (gFr.t2 (gFr.wide (a := 0) (b := 123) fr_36 (by omega) (by omega)) (gFr.wide (a := 0) (b := 123) fr_52 (by omega) (by omega)))⟩⟩ dX6_limit_56
set_option maxHeartbeats 4000000 in
set_option maxRecDepth 100000 in
theorem c_X6_seed_e (l : Launch) (D : va_G) (z : Nat) (cI cZ cP cR : ClassId) (N : Nat) (F : Nat → va_E) (n kk cw c0 : Nat) (wi rl sp : Int32) (pd : Nat → Nat → Int32) (bs od : Nat → Int32) (pi : Nat → Nat) (T : RD) (hn : Nat) (hb : Nat → Nat) (hd : Nat → RD) (sl : Nat → Option Nat) (sd : Nat → RD) (len : Nat) (pa : Nat → Int32) (v : Int32) (hR : isRec z cI cP F 1 (nI n) wi (nI kk) (nI cw) rl (nI c0) sp pd bs od) (hnn : n ≤ 10) (hkk : kk ≤ n) (hcw : cw < 2 ^ n) (hc0 : c0 < 2 ^ 31) (hcnt : cntB cw n = kk) (hsp : sp = 0 ∨ sp = 1) (hpi : piOK bs pi n) (hC : isCl z cI cP cR N F T hn hb hd sl sd len pa) (hv : v < 0) : gMi l yX6_seed wsX6_seed ({ frames := 0, cells := 0, slots := 0, locals := 0 }) D z cI cZ cP cR N F [.ref (z + 0), .int v] (gRes (-2) N (fun F2 => F2 = F)) 0 0 := by
  refine gMi.of (cc := cX6_seed) (maxL := 3) (ret := (some .int)) (by decide) rfl (Nat.le_of_ble_eq_true rfl) [(0, .ref (z + 0)), (1, .int v)] rfl ?_
  intro pg ev sg mg bel me cg C hR0
  have h2n := two_lt hnn
  obtain ⟨hT, hTr, hH, hn6, hB, hD, hPd, hlen, ⟨rpt, rhd, rnu, hRe⟩, ⟨owy, oso, hOd⟩, hN, hslb, hS, hdd⟩ := hC
  refine x_iload_n C (pc := 0) 1 dX6_seed_0 rfl ?_
  refine x_if_ge C (pc := 1) (tgt := 7) dX6_seed_1 (by decide) (fun c_1 => absurd c_1 (Int32.not_le.mpr hv)) (fun c_1 => ?_)
  refine x_bipush C (pc := 4) (v := (-2)) dX6_seed_4 (by decide) ?_
  exact x_iret C hR0 rfl (Nat.le_of_ble_eq_true rfl) (Nat.le_of_ble_eq_true rfl) ⟨rfl, rfl, rfl⟩ dX6_seed_6
theorem fl_X6_seed_10 : Cond.fieldLink RX6 10 "PileRecount" "now" "LPileRecount$Recount;" ∈ wsX6_seed := by decide +kernel
theorem fl_X6_seed_26 : Cond.fieldLink RX6 26 "PileRecount" "history" "LPileRecount$History;" ∈ wsX6_seed := by decide +kernel
theorem fl_X6_seed_76 : Cond.fieldLink RX6 76 "PileRecount$Recount" "chooser" "I" ∈ wsX6_seed := by decide +kernel
theorem hn_X6_seed_X5 : ∀ w ∈ wsX50, w ∈ wsX6_seed := fun _ h => List.mem_cons_of_mem _ (List.mem_append_left _ (List.mem_append_left _ (List.mem_append_right _ h)))
theorem hn_X6_seed_X6 : ∀ w ∈ wsX60, w ∈ wsX6_seed := fun _ h => List.mem_cons_of_mem _ (List.mem_append_left _ (List.mem_append_left _ (List.mem_append_left _ (List.mem_append_right _ h))))
set_option maxHeartbeats 4000000 in
set_option maxRecDepth 100000 in
theorem c_X6_seed_s (l : Launch) (D : va_G) (z : Nat) (cI cZ cP cR : ClassId) (N : Nat) (F : Nat → va_E) (n kk cw c0 : Nat) (wi rl sp : Int32) (pd : Nat → Nat → Int32) (bs od : Nat → Int32) (pi : Nat → Nat) (T : RD) (hn : Nat) (hb : Nat → Nat) (hd : Nat → RD) (sl : Nat → Option Nat) (sd : Nat → RD) (len : Nat) (pa : Nat → Int32) (v : Nat) (hR : isRec z cI cP F 1 (nI n) wi (nI kk) (nI cw) rl (nI c0) sp pd bs od) (hnn : n ≤ 10) (hkk : kk ≤ n) (hcw : cw < 2 ^ n) (hc0 : c0 < 2 ^ 31) (hcnt : cntB cw n = kk) (hsp : sp = 0 ∨ sp = 1) (hpi : piOK bs pi n) (hC : isCl z cI cP cR N F T hn hb hd sl sd len pa) (hv : v < 2 ^ 31) : gMi l yX6_seed wsX6_seed ({ frames := 3, cells := 0, slots := 0, locals := 64 }) D z cI cZ cP cR N F [.ref (z + 0), .int (nI v)] (gRes (nI c0) N (fun F2 => ∃ hb2 : Nat → Nat, isRec z cI cP F2 1 (nI n) wi (nI kk) (nI cw) rl (nI v) sp pd bs od ∧ isCl z cI cP cR N F2 T (if hn < 6 then hn + 1 else 6) hb2 (recD hn hd (mkR (nI n) wi (nI kk) (nI cw) rl (nI c0) sp pd bs od)) sl sd len pa ∧ gFr 0 123 F F2)) 0 0 := by
  refine gMi.of (cc := cX6_seed) (maxL := 3) (ret := (some .int)) (by decide) rfl (Nat.le_of_ble_eq_true rfl) [(0, .ref (z + 0)), (1, .int (nI v))] rfl ?_
  intro pg ev sg mg bel me cg C hR0
  have h2n := two_lt hnn
  obtain ⟨hT, hTr, hH, hn6, hB, hD, hPd, hlen, ⟨rpt, rhd, rnu, hRe⟩, ⟨owy, oso, hOd⟩, hN, hslb, hS, hdd⟩ := hC
  refine x_iload_n C (pc := 0) 1 dX6_seed_0 rfl ?_
  refine x_ifN_ge C (a := v) (pc := 1) (tgt := 7) (by omega) dX6_seed_1 (by decide) (fun c_1 => ?_) (fun c_1 => absurd c_1 (by omega))
  refine x_aload_n C (pc := 7) 0 dX6_seed_7 rfl ?_
  refine x_get C (pc := 8) (q := 0) (v := .ref (z + 30)) (ci := 6) rfl hn_X6_seed_X6 3 (by decide) fl_X6_seed_26 rfl (by omega) hT.1 rfl dX6_seed_8 ?_
  refine x_aload_n C (pc := 11) 0 dX6_seed_11 rfl ?_
  refine x_get C (pc := 12) (q := 0) (v := .ref (z + 1)) (ci := 6) rfl hn_X6_seed_X6 0 (by decide) fl_X6_seed_10 rfl (by omega) hT.1 rfl dX6_seed_12 ?_
  refine x_cVvE C (pc := 15) (st := []) (c_X0_record l D z cI cZ cP cR N F 30 hn hb hd 1 (mkR (nI n) wi (nI kk) (nI cw) rl (nI c0) sp pd bs od) hH (by omega) hn6 hB hD hR (by omega) (by omega) hsp) (cwV 1 C.2.2.2.2.1 gX6_seed_X0_record rfl rfl rfl hd_X0_record ⟨Nat.le_of_ble_eq_true rfl, Nat.le_of_ble_eq_true rfl⟩) (by omega) hH.ob rfl rfl rfl (Nat.le_of_ble_eq_true rfl) dX6_seed_15 ⟨Nat.le_of_ble_eq_true rfl, Nat.le_of_ble_eq_true rfl⟩ (fun F_15 h_15 => ?_)
  obtain ⟨hb_15, hB_15, hH_15, hD_15, fr_15⟩ := h_15
  have hn6_15 : (if hn < 6 then hn + 1 else 6) ≤ 6 := by split <;> omega
  have hT_15 := hT.same (fr_15 0 (by omega)) (fr_15 29 (by omega))
  have hR_15 := hR.same (F2 := F_15) (fun q _ _ => fr_15 q (by omega))
  have hTr_15 := hTr.same (F2 := F_15) (fun q _ _ => fr_15 q (by omega))
  have hPd_15 := hPd.same (F2 := F_15) (fun q _ _ => fr_15 q (by omega))
  have hRe_15 := hRe.same (F2 := F_15) (fun q _ _ => fr_15 q (by omega))
  have hOd_15 := hOd.same (F2 := F_15) (fun q _ _ => fr_15 q (by omega))
  have hS_15 : ∀ i, i < 2 → ∀ q, sl i = some q → isRecD z cI cP F_15 q (sd i) := fun i hi q hq => (hS i hi q hq).same (fun q2 h1 h2 => fr_15 q2 (by have := hslb i hi q hq; omega))
  refine x_aload_n C (pc := 18) 0 dX6_seed_18 rfl ?_
  refine x_get C (pc := 19) (q := 0) (v := .ref (z + 1)) (ci := 6) rfl hn_X6_seed_X6 0 (by decide) fl_X6_seed_10 rfl (by omega) hT_15.1 rfl dX6_seed_19 ?_
  refine x_get C (pc := 22) (q := 1) (v := .int (nI c0)) (ci := 5) rfl hn_X6_seed_X5 8 (by decide) fl_X6_seed_76 rfl (by omega) hR_15.ob rfl dX6_seed_22 ?_
  refine x_istore_n C (pc := 25) [(2, .int (nI c0)), (0, .ref (z + 0)), (1, .int (nI v))] dX6_seed_25 (by decide) rfl ?_
  refine x_aload_n C (pc := 26) 1 dX6_seed_26 rfl ?_
  refine x_get C (pc := 27) (q := 0) (v := .ref (z + 1)) (ci := 6) rfl hn_X6_seed_X6 0 (by decide) fl_X6_seed_10 rfl (by omega) hT_15.1 rfl dX6_seed_27 ?_
  refine x_iload_n C (pc := 30) 2 dX6_seed_30 rfl ?_
  refine xw_X5_8 C (pc := 31) hn_X6_seed_X5 fl_X6_seed_76 hR_15 (by omega) dX6_seed_31 (fun F_31 hR_31 fr_31 => ?_)
  have hT_31 := hT_15.same (fr_31 0 (by omega)) (fr_31 29 (by omega))
  have hTr_31 := hTr_15.same (F2 := F_31) (fun q _ _ => fr_31 q (by omega))
  have hH_31 := hH_15.same (F2 := F_31) (fun q _ _ => fr_31 q (by omega))
  have hD_31 : ∀ i, i < 6 → isRecD z cI cP F_31 (hb_15 i) ((recD hn hd (mkR (nI n) wi (nI kk) (nI cw) rl (nI c0) sp pd bs od)) i) := fun i hi => (hD_15 i hi).same (fun q h1 h2 => fr_31 q (by have := (hB_15 i hi).1; omega))
  have hPd_31 := hPd_15.same (F2 := F_31) (fun q _ _ => fr_31 q (by omega))
  have hRe_31 := hRe_15.same (F2 := F_31) (fun q _ _ => fr_31 q (by omega))
  have hOd_31 := hOd_15.same (F2 := F_31) (fun q _ _ => fr_31 q (by omega))
  have hS_31 : ∀ i, i < 2 → ∀ q, sl i = some q → isRecD z cI cP F_31 q (sd i) := fun i hi q hq => (hS_15 i hi q hq).same (fun q2 h1 h2 => fr_31 q2 (by have := hslb i hi q hq; omega))
  refine x_iload_n C (pc := 34) 0 dX6_seed_34 rfl ?_
  exact x_iret C hR0 rfl (Nat.le_of_ble_eq_true rfl) (Nat.le_of_ble_eq_true rfl) ⟨rfl, rfl, ⟨hb_15, hR_31, ⟨hT_31, hTr_31, hH_31, hn6_15, hB_15, hD_31, hPd_31, hlen, ⟨_, _, _, hRe_31⟩, ⟨_, _, hOd_31⟩, hN, hslb, hS_31, hdd⟩, (gFr.t2 (gFr.wide (a := 0) (b := 123) fr_15 (by omega) (by omega)) (gFr.wide (a := 0) (b := 123) fr_31 (by omega) (by omega)))⟩⟩ dX6_seed_35
theorem fl_X6_pile_10 : Cond.fieldLink RX6 10 "PileRecount" "now" "LPileRecount$Recount;" ∈ wsX6_pile := by decide +kernel
theorem hn_X6_pile_X6 : ∀ w ∈ wsX60, w ∈ wsX6_pile := fun _ h => List.mem_cons_of_mem _ (List.mem_append_left _ (List.mem_append_left _ (List.mem_append_left _ (List.mem_append_right _ h))))
set_option maxHeartbeats 4000000 in
set_option maxRecDepth 100000 in
theorem c_X6_pile_e (l : Launch) (D : va_G) (z : Nat) (cI cZ cP cR : ClassId) (N : Nat) (F : Nat → va_E) (n kk cw c0 : Nat) (wi rl sp : Int32) (pd : Nat → Nat → Int32) (bs od : Nat → Int32) (pi : Nat → Nat) (T : RD) (hn : Nat) (hb : Nat → Nat) (hd : Nat → RD) (sl : Nat → Option Nat) (sd : Nat → RD) (len : Nat) (pa : Nat → Int32) (a b x : Int32) (hR : isRec z cI cP F 1 (nI n) wi (nI kk) (nI cw) rl (nI c0) sp pd bs od) (hnn : n ≤ 10) (hkk : kk ≤ n) (hcw : cw < 2 ^ n) (hc0 : c0 < 2 ^ 31) (hcnt : cntB cw n = kk) (hsp : sp = 0 ∨ sp = 1) (hpi : piOK bs pi n) (hC : isCl z cI cP cR N F T hn hb hd sl sd len pa) (he : ¬ epF a b x n (nI kk) = 0) : gMi l yX6_pile wsX6_pile ({ frames := 2, cells := 0, slots := 0, locals := 43 }) D z cI cZ cP cR N F [.ref (z + 0), .int a, .int b, .int x] (gRes (epF a b x n (nI kk)) N (fun F2 => F2 = F)) 0 0 := by
  refine gMi.of (cc := cX6_pile) (maxL := 5) (ret := (some .int)) (by decide) rfl (Nat.le_of_ble_eq_true rfl) [(0, .ref (z + 0)), (1, .int a), (2, .int b), (3, .int x)] rfl ?_
  intro pg ev sg mg bel me cg C hR0
  have h2n := two_lt hnn
  obtain ⟨hT, hTr, hH, hn6, hB, hD, hPd, hlen, ⟨rpt, rhd, rnu, hRe⟩, ⟨owy, oso, hOd⟩, hN, hslb, hS, hdd⟩ := hC
  refine x_aload_n C (pc := 0) 0 dX6_pile_0 rfl ?_
  refine x_get C (pc := 1) (q := 0) (v := .ref (z + 1)) (ci := 6) rfl hn_X6_pile_X6 0 (by decide) fl_X6_pile_10 rfl (by omega) hT.1 rfl dX6_pile_1 ?_
  refine x_iload_n C (pc := 4) 1 dX6_pile_4 rfl ?_
  refine x_iload_n C (pc := 5) 2 dX6_pile_5 rfl ?_
  refine x_iload_n C (pc := 6) 3 dX6_pile_6 rfl ?_
  refine x_cViR C (pc := 7) (st := []) (c_X5_errorOfPile l D z cI cZ cP cR N F 1 n wi (nI kk) (nI cw) rl (nI c0) sp pd bs od a b x hR (by omega) (by omega)) (cwV 3 C.2.2.2.2.1 gX6_pile_X5_errorOfPile rfl rfl rfl hd_X5_errorOfPile ⟨Nat.le_of_ble_eq_true rfl, Nat.le_of_ble_eq_true rfl⟩) (by omega) hR.ob rfl rfl rfl (Nat.le_of_ble_eq_true rfl) dX6_pile_7 ⟨Nat.le_of_ble_eq_true rfl, Nat.le_of_ble_eq_true rfl⟩ ?_
  refine x_istore C (pc := 10) [(4, .int (epF a b x n (nI kk))), (0, .ref (z + 0)), (1, .int a), (2, .int b), (3, .int x)] dX6_pile_10 (by decide) rfl ?_
  refine x_iload C (pc := 12) 0 dX6_pile_12 rfl ?_
  refine x_if_eq C (pc := 14) (tgt := 20) dX6_pile_14 (by decide) (fun c_14 => absurd c_14 he) (fun c_14 => ?_)
  refine x_iload C (pc := 17) 0 dX6_pile_17 rfl ?_
  exact x_iret C hR0 rfl (Nat.le_of_ble_eq_true rfl) (Nat.le_of_ble_eq_true rfl) ⟨rfl, rfl, rfl⟩ dX6_pile_19
theorem fl_X6_pile_26 : Cond.fieldLink RX6 26 "PileRecount" "history" "LPileRecount$History;" ∈ wsX6_pile := by decide +kernel
set_option maxHeartbeats 4000000 in
set_option maxRecDepth 100000 in
theorem c_X6_pile_s (l : Launch) (D : va_G) (z : Nat) (cI cZ cP cR : ClassId) (N : Nat) (F : Nat → va_E) (n kk cw c0 : Nat) (wi rl sp : Int32) (pd : Nat → Nat → Int32) (bs od : Nat → Int32) (pi : Nat → Nat) (T : RD) (hn : Nat) (hb : Nat → Nat) (hd : Nat → RD) (sl : Nat → Option Nat) (sd : Nat → RD) (len : Nat) (pa : Nat → Int32) (a b x : Int32) (hR : isRec z cI cP F 1 (nI n) wi (nI kk) (nI cw) rl (nI c0) sp pd bs od) (hnn : n ≤ 10) (hkk : kk ≤ n) (hcw : cw < 2 ^ n) (hc0 : c0 < 2 ^ 31) (hcnt : cntB cw n = kk) (hsp : sp = 0 ∨ sp = 1) (hpi : piOK bs pi n) (hC : isCl z cI cP cR N F T hn hb hd sl sd len pa) (he : epF a b x n (nI kk) = 0) (hn9 : n < 10) : gMi l yX6_pile wsX6_pile ({ frames := 4, cells := 0, slots := 0, locals := 89 }) D z cI cZ cP cR N F [.ref (z + 0), .int a, .int b, .int x] (gRes (nI n) N (fun F2 => ∃ (hb2 : Nat → Nat) (bn : Nat → Int32), isRec z cI cP F2 1 (nI (n + 1)) (winF (va_up pd n (pileD a b x)) (n + 1)) (nI kk) (nI cw) rl (nI c0) sp (va_up pd n (pileD a b x)) bn od ∧ rkOK (fun i => swF (winF (va_up pd n (pileD a b x)) (n + 1)) ((va_up pd n (pileD a b x)) i)) (n + 1) bn ∧ isCl z cI cP cR N F2 T (if hn < 6 then hn + 1 else 6) hb2 (recD hn hd (mkR (nI n) wi (nI kk) (nI cw) rl (nI c0) sp pd bs od)) sl sd len pa ∧ gFr 0 123 F F2)) 0 0 := by
  refine gMi.of (cc := cX6_pile) (maxL := 5) (ret := (some .int)) (by decide) rfl (Nat.le_of_ble_eq_true rfl) [(0, .ref (z + 0)), (1, .int a), (2, .int b), (3, .int x)] rfl ?_
  intro pg ev sg mg bel me cg C hR0
  have h2n := two_lt hnn
  obtain ⟨hT, hTr, hH, hn6, hB, hD, hPd, hlen, ⟨rpt, rhd, rnu, hRe⟩, ⟨owy, oso, hOd⟩, hN, hslb, hS, hdd⟩ := hC
  refine x_aload_n C (pc := 0) 0 dX6_pile_0 rfl ?_
  refine x_get C (pc := 1) (q := 0) (v := .ref (z + 1)) (ci := 6) rfl hn_X6_pile_X6 0 (by decide) fl_X6_pile_10 rfl (by omega) hT.1 rfl dX6_pile_1 ?_
  refine x_iload_n C (pc := 4) 1 dX6_pile_4 rfl ?_
  refine x_iload_n C (pc := 5) 2 dX6_pile_5 rfl ?_
  refine x_iload_n C (pc := 6) 3 dX6_pile_6 rfl ?_
  refine x_cViR C (pc := 7) (st := []) (c_X5_errorOfPile l D z cI cZ cP cR N F 1 n wi (nI kk) (nI cw) rl (nI c0) sp pd bs od a b x hR (by omega) (by omega)) (cwV 3 C.2.2.2.2.1 gX6_pile_X5_errorOfPile rfl rfl rfl hd_X5_errorOfPile ⟨Nat.le_of_ble_eq_true rfl, Nat.le_of_ble_eq_true rfl⟩) (by omega) hR.ob rfl rfl rfl (Nat.le_of_ble_eq_true rfl) dX6_pile_7 ⟨Nat.le_of_ble_eq_true rfl, Nat.le_of_ble_eq_true rfl⟩ ?_
  refine x_istore C (pc := 10) [(4, .int (epF a b x n (nI kk))), (0, .ref (z + 0)), (1, .int a), (2, .int b), (3, .int x)] dX6_pile_10 (by decide) rfl ?_
  refine x_iload C (pc := 12) 0 dX6_pile_12 rfl ?_
  refine x_if_eq C (pc := 14) (tgt := 20) dX6_pile_14 (by decide) (fun c_14 => ?_) (fun c_14 => absurd c_14 (not_not_intro he))
  refine x_aload_n C (pc := 20) 1 dX6_pile_20 rfl ?_
  refine x_get C (pc := 21) (q := 0) (v := .ref (z + 30)) (ci := 6) rfl hn_X6_pile_X6 3 (by decide) fl_X6_pile_26 rfl (by omega) hT.1 rfl dX6_pile_21 ?_
  refine x_aload_n C (pc := 24) 1 dX6_pile_24 rfl ?_
  refine x_get C (pc := 25) (q := 0) (v := .ref (z + 1)) (ci := 6) rfl hn_X6_pile_X6 0 (by decide) fl_X6_pile_10 rfl (by omega) hT.1 rfl dX6_pile_25 ?_
  refine x_cVvE C (pc := 28) (st := []) (c_X0_record l D z cI cZ cP cR N F 30 hn hb hd 1 (mkR (nI n) wi (nI kk) (nI cw) rl (nI c0) sp pd bs od) hH (by omega) hn6 hB hD hR (by omega) (by omega) hsp) (cwV 1 C.2.2.2.2.1 gX6_pile_X0_record rfl rfl rfl hd_X0_record ⟨Nat.le_of_ble_eq_true rfl, Nat.le_of_ble_eq_true rfl⟩) (by omega) hH.ob rfl rfl rfl (Nat.le_of_ble_eq_true rfl) dX6_pile_28 ⟨Nat.le_of_ble_eq_true rfl, Nat.le_of_ble_eq_true rfl⟩ (fun F_28 h_28 => ?_)
  obtain ⟨hb_28, hB_28, hH_28, hD_28, fr_28⟩ := h_28
  have hn6_28 : (if hn < 6 then hn + 1 else 6) ≤ 6 := by split <;> omega
  have hT_28 := hT.same (fr_28 0 (by omega)) (fr_28 29 (by omega))
  have hR_28 := hR.same (F2 := F_28) (fun q _ _ => fr_28 q (by omega))
  have hTr_28 := hTr.same (F2 := F_28) (fun q _ _ => fr_28 q (by omega))
  have hPd_28 := hPd.same (F2 := F_28) (fun q _ _ => fr_28 q (by omega))
  have hRe_28 := hRe.same (F2 := F_28) (fun q _ _ => fr_28 q (by omega))
  have hOd_28 := hOd.same (F2 := F_28) (fun q _ _ => fr_28 q (by omega))
  have hS_28 : ∀ i, i < 2 → ∀ q, sl i = some q → isRecD z cI cP F_28 q (sd i) := fun i hi q hq => (hS i hi q hq).same (fun q2 h1 h2 => fr_28 q2 (by have := hslb i hi q hq; omega))
  refine x_aload_n C (pc := 31) 1 dX6_pile_31 rfl ?_
  refine x_get C (pc := 32) (q := 0) (v := .ref (z + 1)) (ci := 6) rfl hn_X6_pile_X6 0 (by decide) fl_X6_pile_10 rfl (by omega) hT_28.1 rfl dX6_pile_32 ?_
  refine x_iload_n C (pc := 35) 2 dX6_pile_35 rfl ?_
  refine x_iload_n C (pc := 36) 3 dX6_pile_36 rfl ?_
  refine x_iload_n C (pc := 37) 4 dX6_pile_37 rfl ?_
  refine x_cViE C (pc := 38) (st := []) (c_X5_addPile l D z cI cZ cP cR N F_28 1 n wi (nI kk) (nI cw) rl (nI c0) sp pd bs od a b x hR_28 (by omega) (by omega)) (cwV 3 C.2.2.2.2.1 gX6_pile_X5_addPile rfl rfl rfl hd_X5_addPile ⟨Nat.le_of_ble_eq_true rfl, Nat.le_of_ble_eq_true rfl⟩) (by omega) hR_28.ob rfl rfl rfl (Nat.le_of_ble_eq_true rfl) dX6_pile_38 ⟨Nat.le_of_ble_eq_true rfl, Nat.le_of_ble_eq_true rfl⟩ (fun F_38 h_38 => ?_)
  obtain ⟨bsn_38, hR_38, hrkn_38, fr_38⟩ := h_38
  have hT_38 := hT_28.same (fr_38 0 (by omega)) (fr_38 29 (by omega))
  have hTr_38 := hTr_28.same (F2 := F_38) (fun q _ _ => fr_38 q (by omega))
  have hH_38 := hH_28.same (F2 := F_38) (fun q _ _ => fr_38 q (by omega))
  have hD_38 : ∀ i, i < 6 → isRecD z cI cP F_38 (hb_28 i) ((recD hn hd (mkR (nI n) wi (nI kk) (nI cw) rl (nI c0) sp pd bs od)) i) := fun i hi => (hD_28 i hi).same (fun q h1 h2 => fr_38 q (by have := (hB_28 i hi).1; omega))
  have hPd_38 := hPd_28.same (F2 := F_38) (fun q _ _ => fr_38 q (by omega))
  have hRe_38 := hRe_28.same (F2 := F_38) (fun q _ _ => fr_38 q (by omega))
  have hOd_38 := hOd_28.same (F2 := F_38) (fun q _ _ => fr_38 q (by omega))
  have hS_38 : ∀ i, i < 2 → ∀ q, sl i = some q → isRecD z cI cP F_38 q (sd i) := fun i hi q hq => (hS_28 i hi q hq).same (fun q2 h1 h2 => fr_38 q2 (by have := hslb i hi q hq; omega))
  exact x_iret C hR0 rfl (Nat.le_of_ble_eq_true rfl) (Nat.le_of_ble_eq_true rfl) ⟨rfl, rfl, ⟨hb_28, bsn_38, hR_38, hrkn_38, ⟨hT_38, hTr_38, hH_38, hn6_28, hB_28, hD_38, hPd_38, hlen, ⟨_, _, _, hRe_38⟩, ⟨_, _, hOd_38⟩, hN, hslb, hS_38, hdd⟩, (gFr.t2 (gFr.wide (a := 0) (b := 123) fr_28 (by omega) (by omega)) (gFr.wide (a := 0) (b := 123) fr_38 (by omega) (by omega)))⟩⟩ dX6_pile_41
theorem fl_X6_finds_10 : Cond.fieldLink RX6 10 "PileRecount" "now" "LPileRecount$Recount;" ∈ wsX6_finds := by decide +kernel
theorem hn_X6_finds_X6 : ∀ w ∈ wsX60, w ∈ wsX6_finds := fun _ h => List.mem_cons_of_mem _ (List.mem_append_left _ (List.mem_append_left _ (List.mem_append_left _ (List.mem_append_right _ h))))
set_option maxHeartbeats 4000000 in
set_option maxRecDepth 100000 in
theorem c_X6_finds_e (l : Launch) (D : va_G) (z : Nat) (cI cZ cP cR : ClassId) (N : Nat) (F : Nat → va_E) (n kk cw c0 : Nat) (wi rl sp : Int32) (pd : Nat → Nat → Int32) (bs od : Nat → Int32) (pi : Nat → Nat) (T : RD) (hn : Nat) (hb : Nat → Nat) (hd : Nat → RD) (sl : Nat → Option Nat) (sd : Nat → RD) (len : Nat) (pa : Nat → Int32) (v a b : Int32) (hR : isRec z cI cP F 1 (nI n) wi (nI kk) (nI cw) rl (nI c0) sp pd bs od) (hnn : n ≤ 10) (hkk : kk ≤ n) (hcw : cw < 2 ^ n) (hc0 : c0 < 2 ^ 31) (hcnt : cntB cw n = kk) (hsp : sp = 0 ∨ sp = 1) (hpi : piOK bs pi n) (hC : isCl z cI cP cR N F T hn hb hd sl sd len pa) (he : ¬ efF v a b (nI n) pd cw = 0) : gMi l yX6_finds wsX6_finds ({ frames := 2, cells := 0, slots := 0, locals := 45 }) D z cI cZ cP cR N F [.ref (z + 0), .int v, .int a, .int b] (gRes (efF v a b (nI n) pd cw) N (fun F2 => F2 = F)) 0 0 := by
  refine gMi.of (cc := cX6_finds) (maxL := 5) (ret := (some .int)) (by decide) rfl (Nat.le_of_ble_eq_true rfl) [(0, .ref (z + 0)), (1, .int v), (2, .int a), (3, .int b)] rfl ?_
  intro pg ev sg mg bel me cg C hR0
  have h2n := two_lt hnn
  obtain ⟨hT, hTr, hH, hn6, hB, hD, hPd, hlen, ⟨rpt, rhd, rnu, hRe⟩, ⟨owy, oso, hOd⟩, hN, hslb, hS, hdd⟩ := hC
  refine x_aload_n C (pc := 0) 0 dX6_finds_0 rfl ?_
  refine x_get C (pc := 1) (q := 0) (v := .ref (z + 1)) (ci := 6) rfl hn_X6_finds_X6 0 (by decide) fl_X6_finds_10 rfl (by omega) hT.1 rfl dX6_finds_1 ?_
  refine x_iload_n C (pc := 4) 1 dX6_finds_4 rfl ?_
  refine x_iload_n C (pc := 5) 2 dX6_finds_5 rfl ?_
  refine x_iload_n C (pc := 6) 3 dX6_finds_6 rfl ?_
  refine x_cViR C (pc := 7) (st := []) (c_X5_errorOfFind l D z cI cZ cP cR N F 1 n cw wi (nI kk) rl (nI c0) sp pd bs od v a b hR (by omega) (by omega) (by omega)) (cwV 3 C.2.2.2.2.1 gX6_finds_X5_errorOfFind rfl rfl rfl hd_X5_errorOfFind ⟨Nat.le_of_ble_eq_true rfl, Nat.le_of_ble_eq_true rfl⟩) (by omega) hR.ob rfl rfl rfl (Nat.le_of_ble_eq_true rfl) dX6_finds_7 ⟨Nat.le_of_ble_eq_true rfl, Nat.le_of_ble_eq_true rfl⟩ ?_
  refine x_istore C (pc := 10) [(4, .int (efF v a b (nI n) pd cw)), (0, .ref (z + 0)), (1, .int v), (2, .int a), (3, .int b)] dX6_finds_10 (by decide) rfl ?_
  refine x_iload C (pc := 12) 0 dX6_finds_12 rfl ?_
  refine x_if_eq C (pc := 14) (tgt := 20) dX6_finds_14 (by decide) (fun c_14 => absurd c_14 he) (fun c_14 => ?_)
  refine x_iload C (pc := 17) 0 dX6_finds_17 rfl ?_
  exact x_iret C hR0 rfl (Nat.le_of_ble_eq_true rfl) (Nat.le_of_ble_eq_true rfl) ⟨rfl, rfl, rfl⟩ dX6_finds_19
theorem fl_X6_finds_26 : Cond.fieldLink RX6 26 "PileRecount" "history" "LPileRecount$History;" ∈ wsX6_finds := by decide +kernel
theorem kc_X6_finds_65 : Cond.constant RX6 65 (100000) ∈ wsX6_finds := by decide +kernel
set_option maxHeartbeats 4000000 in
set_option maxRecDepth 100000 in
theorem c_X6_finds_s (l : Launch) (D : va_G) (z : Nat) (cI cZ cP cR : ClassId) (N : Nat) (F : Nat → va_E) (n kk cw c0 : Nat) (wi rl sp : Int32) (pd : Nat → Nat → Int32) (bs od : Nat → Int32) (pi : Nat → Nat) (T : RD) (hn : Nat) (hb : Nat → Nat) (hd : Nat → RD) (sl : Nat → Option Nat) (sd : Nat → RD) (len : Nat) (pa : Nat → Int32) (v : Nat) (a b : Int32) (hR : isRec z cI cP F 1 (nI n) wi (nI kk) (nI cw) rl (nI c0) sp pd bs od) (hnn : n ≤ 10) (hkk : kk ≤ n) (hcw : cw < 2 ^ n) (hc0 : c0 < 2 ^ 31) (hcnt : cntB cw n = kk) (hsp : sp = 0 ∨ sp = 1) (hpi : piOK bs pi n) (hC : isCl z cI cP cR N F T hn hb hd sl sd len pa) (he : efF (nI v) a b (nI n) pd cw = 0) (hvn : v < n) : gMi l yX6_finds wsX6_finds ({ frames := 3, cells := 0, slots := 0, locals := 64 }) D z cI cZ cP cR N F [.ref (z + 0), .int (nI v), .int a, .int b] (gRes (100000 + ((a - b) - (pd v 0 - pd v 1))) N (fun F2 => ∃ hb2 : Nat → Nat, isRec z cI cP F2 1 (nI n) wi (nI kk) (nI cw) rl (nI c0) sp (pdSet (pdSet pd v 3 a) v 4 b) bs od ∧ isCl z cI cP cR N F2 T (if hn < 6 then hn + 1 else 6) hb2 (recD hn hd (mkR (nI n) wi (nI kk) (nI cw) rl (nI c0) sp pd bs od)) sl sd len pa ∧ gFr 0 123 F F2)) 0 0 := by
  refine gMi.of (cc := cX6_finds) (maxL := 5) (ret := (some .int)) (by decide) rfl (Nat.le_of_ble_eq_true rfl) [(0, .ref (z + 0)), (1, .int (nI v)), (2, .int a), (3, .int b)] rfl ?_
  intro pg ev sg mg bel me cg C hR0
  have h2n := two_lt hnn
  obtain ⟨hT, hTr, hH, hn6, hB, hD, hPd, hlen, ⟨rpt, rhd, rnu, hRe⟩, ⟨owy, oso, hOd⟩, hN, hslb, hS, hdd⟩ := hC
  refine x_aload_n C (pc := 0) 0 dX6_finds_0 rfl ?_
  refine x_get C (pc := 1) (q := 0) (v := .ref (z + 1)) (ci := 6) rfl hn_X6_finds_X6 0 (by decide) fl_X6_finds_10 rfl (by omega) hT.1 rfl dX6_finds_1 ?_
  refine x_iload_n C (pc := 4) 1 dX6_finds_4 rfl ?_
  refine x_iload_n C (pc := 5) 2 dX6_finds_5 rfl ?_
  refine x_iload_n C (pc := 6) 3 dX6_finds_6 rfl ?_
  refine x_cViR C (pc := 7) (st := []) (c_X5_errorOfFind l D z cI cZ cP cR N F 1 n cw wi (nI kk) rl (nI c0) sp pd bs od (nI v) a b hR (by omega) (by omega) (by omega)) (cwV 3 C.2.2.2.2.1 gX6_finds_X5_errorOfFind rfl rfl rfl hd_X5_errorOfFind ⟨Nat.le_of_ble_eq_true rfl, Nat.le_of_ble_eq_true rfl⟩) (by omega) hR.ob rfl rfl rfl (Nat.le_of_ble_eq_true rfl) dX6_finds_7 ⟨Nat.le_of_ble_eq_true rfl, Nat.le_of_ble_eq_true rfl⟩ ?_
  refine x_istore C (pc := 10) [(4, .int (efF (nI v) a b (nI n) pd cw)), (0, .ref (z + 0)), (1, .int (nI v)), (2, .int a), (3, .int b)] dX6_finds_10 (by decide) rfl ?_
  refine x_iload C (pc := 12) 0 dX6_finds_12 rfl ?_
  refine x_if_eq C (pc := 14) (tgt := 20) dX6_finds_14 (by decide) (fun c_14 => ?_) (fun c_14 => absurd c_14 (not_not_intro he))
  refine x_aload_n C (pc := 20) 1 dX6_finds_20 rfl ?_
  refine x_get C (pc := 21) (q := 0) (v := .ref (z + 30)) (ci := 6) rfl hn_X6_finds_X6 3 (by decide) fl_X6_finds_26 rfl (by omega) hT.1 rfl dX6_finds_21 ?_
  refine x_aload_n C (pc := 24) 1 dX6_finds_24 rfl ?_
  refine x_get C (pc := 25) (q := 0) (v := .ref (z + 1)) (ci := 6) rfl hn_X6_finds_X6 0 (by decide) fl_X6_finds_10 rfl (by omega) hT.1 rfl dX6_finds_25 ?_
  refine x_cVvE C (pc := 28) (st := []) (c_X0_record l D z cI cZ cP cR N F 30 hn hb hd 1 (mkR (nI n) wi (nI kk) (nI cw) rl (nI c0) sp pd bs od) hH (by omega) hn6 hB hD hR (by omega) (by omega) hsp) (cwV 1 C.2.2.2.2.1 gX6_finds_X0_record rfl rfl rfl hd_X0_record ⟨Nat.le_of_ble_eq_true rfl, Nat.le_of_ble_eq_true rfl⟩) (by omega) hH.ob rfl rfl rfl (Nat.le_of_ble_eq_true rfl) dX6_finds_28 ⟨Nat.le_of_ble_eq_true rfl, Nat.le_of_ble_eq_true rfl⟩ (fun F_28 h_28 => ?_)
  obtain ⟨hb_28, hB_28, hH_28, hD_28, fr_28⟩ := h_28
  have hn6_28 : (if hn < 6 then hn + 1 else 6) ≤ 6 := by split <;> omega
  have hT_28 := hT.same (fr_28 0 (by omega)) (fr_28 29 (by omega))
  have hR_28 := hR.same (F2 := F_28) (fun q _ _ => fr_28 q (by omega))
  have hTr_28 := hTr.same (F2 := F_28) (fun q _ _ => fr_28 q (by omega))
  have hPd_28 := hPd.same (F2 := F_28) (fun q _ _ => fr_28 q (by omega))
  have hRe_28 := hRe.same (F2 := F_28) (fun q _ _ => fr_28 q (by omega))
  have hOd_28 := hOd.same (F2 := F_28) (fun q _ _ => fr_28 q (by omega))
  have hS_28 : ∀ i, i < 2 → ∀ q, sl i = some q → isRecD z cI cP F_28 q (sd i) := fun i hi q hq => (hS i hi q hq).same (fun q2 h1 h2 => fr_28 q2 (by have := hslb i hi q hq; omega))
  refine x_ldc C (pc := 31) (v := 100000) kc_X6_finds_65 dX6_finds_31 ?_
  refine x_aload_n C (pc := 33) 1 dX6_finds_33 rfl ?_
  refine x_get C (pc := 34) (q := 0) (v := .ref (z + 1)) (ci := 6) rfl hn_X6_finds_X6 0 (by decide) fl_X6_finds_10 rfl (by omega) hT_28.1 rfl dX6_finds_34 ?_
  refine x_iload_n C (pc := 37) 2 dX6_finds_37 rfl ?_
  refine x_iload_n C (pc := 38) 3 dX6_finds_38 rfl ?_
  refine x_iload_n C (pc := 39) 4 dX6_finds_39 rfl ?_
  refine x_cViE C (pc := 40) (st := [.int 100000]) (c_X5_setFound l D z cI cZ cP cR N F_28 1 (nI n) wi (nI kk) (nI cw) rl (nI c0) sp pd bs od v a b hR_28 (by omega) (by omega)) (cwV 3 C.2.2.2.2.1 gX6_finds_X5_setFound rfl rfl rfl hd_X5_setFound ⟨Nat.le_of_ble_eq_true rfl, Nat.le_of_ble_eq_true rfl⟩) (by omega) hR_28.ob rfl rfl rfl (Nat.le_of_ble_eq_true rfl) dX6_finds_40 ⟨Nat.le_of_ble_eq_true rfl, Nat.le_of_ble_eq_true rfl⟩ (fun F_40 h_40 => ?_)
  obtain ⟨hR_40, fr_40⟩ := h_40
  have hT_40 := hT_28.same (fr_40 0 (by omega)) (fr_40 29 (by omega))
  have hTr_40 := hTr_28.same (F2 := F_40) (fun q _ _ => fr_40 q (by omega))
  have hH_40 := hH_28.same (F2 := F_40) (fun q _ _ => fr_40 q (by omega))
  have hD_40 : ∀ i, i < 6 → isRecD z cI cP F_40 (hb_28 i) ((recD hn hd (mkR (nI n) wi (nI kk) (nI cw) rl (nI c0) sp pd bs od)) i) := fun i hi => (hD_28 i hi).same (fun q h1 h2 => fr_40 q (by have := (hB_28 i hi).1; omega))
  have hPd_40 := hPd_28.same (F2 := F_40) (fun q _ _ => fr_40 q (by omega))
  have hRe_40 := hRe_28.same (F2 := F_40) (fun q _ _ => fr_40 q (by omega))
  have hOd_40 := hOd_28.same (F2 := F_40) (fun q _ _ => fr_40 q (by omega))
  have hS_40 : ∀ i, i < 2 → ∀ q, sl i = some q → isRecD z cI cP F_40 q (sd i) := fun i hi q hq => (hS_28 i hi q hq).same (fun q2 h1 h2 => fr_40 q2 (by have := hslb i hi q hq; omega))
  refine x_iadd C (pc := 43) (v := 100000 + ((a - b) - (pd v 0 - pd v 1))) dX6_finds_43 rfl ?_
  exact x_iret C hR0 rfl (Nat.le_of_ble_eq_true rfl) (Nat.le_of_ble_eq_true rfl) ⟨rfl, rfl, ⟨hb_28, hR_40, ⟨hT_40, hTr_40, hH_40, hn6_28, hB_28, hD_40, hPd_40, hlen, ⟨_, _, _, hRe_40⟩, ⟨_, _, hOd_40⟩, hN, hslb, hS_40, hdd⟩, (gFr.t2 (gFr.wide (a := 0) (b := 123) fr_28 (by omega) (by omega)) (gFr.wide (a := 0) (b := 123) fr_40 (by omega) (by omega)))⟩⟩ dX6_finds_44
theorem fl_X6_draw_10 : Cond.fieldLink RX6 10 "PileRecount" "now" "LPileRecount$Recount;" ∈ wsX6_draw := by decide +kernel
theorem hn_X6_draw_X6 : ∀ w ∈ wsX60, w ∈ wsX6_draw := fun _ h => List.mem_cons_of_mem _ (List.mem_append_left _ (List.mem_append_left _ (List.mem_append_left _ (List.mem_append_right _ h))))
set_option maxHeartbeats 4000000 in
set_option maxRecDepth 100000 in
theorem c_X6_draw_e (l : Launch) (D : va_G) (z : Nat) (cI cZ cP cR : ClassId) (N : Nat) (F : Nat → va_E) (n kk cw c0 : Nat) (wi rl sp : Int32) (pd : Nat → Nat → Int32) (bs od : Nat → Int32) (pi : Nat → Nat) (T : RD) (hn : Nat) (hb : Nat → Nat) (hd : Nat → RD) (sl : Nat → Option Nat) (sd : Nat → RD) (len : Nat) (pa : Nat → Int32)  (hR : isRec z cI cP F 1 (nI n) wi (nI kk) (nI cw) rl (nI c0) sp pd bs od) (hnn : n ≤ 10) (hkk : kk ≤ n) (hcw : cw < 2 ^ n) (hc0 : c0 < 2 ^ 31) (hcnt : cntB cw n = kk) (hsp : sp = 0 ∨ sp = 1) (hpi : piOK bs pi n) (hC : isCl z cI cP cR N F T hn hb hd sl sd len pa) (he : opB wi sp = false ∨ kk = n) : gMi l yX6_draw wsX6_draw ({ frames := 2, cells := 0, slots := 0, locals := 40 }) D z cI cZ cP cR N F [.ref (z + 0)] (gRes (-5) N (fun F2 => F2 = F)) 0 0 := by
  refine gMi.of (cc := cX6_draw) (maxL := 1) (ret := (some .int)) (by decide) rfl (Nat.le_of_ble_eq_true rfl) [(0, .ref (z + 0))] rfl ?_
  intro pg ev sg mg bel me cg C hR0
  have h2n := two_lt hnn
  obtain ⟨hT, hTr, hH, hn6, hB, hD, hPd, hlen, ⟨rpt, rhd, rnu, hRe⟩, ⟨owy, oso, hOd⟩, hN, hslb, hS, hdd⟩ := hC
  refine x_aload_n C (pc := 0) 0 dX6_draw_0 rfl ?_
  refine x_get C (pc := 1) (q := 0) (v := .ref (z + 1)) (ci := 6) rfl hn_X6_draw_X6 0 (by decide) fl_X6_draw_10 rfl (by omega) hT.1 rfl dX6_draw_1 ?_
  refine x_cViR C (pc := 4) (st := []) (c_X5_isOpen l D z cI cZ cP cR N F 1 (nI n) wi (nI kk) (nI cw) rl (nI c0) sp pd bs od hR (by omega)) (cwV 0 C.2.2.2.2.1 gX6_draw_X5_isOpen rfl rfl rfl hd_X5_isOpen ⟨Nat.le_of_ble_eq_true rfl, Nat.le_of_ble_eq_true rfl⟩) (by omega) hR.ob rfl rfl rfl (Nat.le_of_ble_eq_true rfl) dX6_draw_4 ⟨Nat.le_of_ble_eq_true rfl, Nat.le_of_ble_eq_true rfl⟩ ?_
  refine x_bz_eq C (pc := 7) (tgt := 20) dX6_draw_7 (by decide) (fun c_7 => ?_) (fun c_7 => ?_)
  · refine x_bipush C (pc := 20) (v := (-5)) dX6_draw_20 (by decide) ?_
    exact x_iret C hR0 rfl (Nat.le_of_ble_eq_true rfl) (Nat.le_of_ble_eq_true rfl) ⟨rfl, rfl, rfl⟩ dX6_draw_22
  refine x_aload_n C (pc := 10) 0 dX6_draw_10 rfl ?_
  refine x_get C (pc := 11) (q := 0) (v := .ref (z + 1)) (ci := 6) rfl hn_X6_draw_X6 0 (by decide) fl_X6_draw_10 rfl (by omega) hT.1 rfl dX6_draw_11 ?_
  refine x_cViR C (pc := 14) (st := []) (c_X5_isAllCounted l D z cI cZ cP cR N F 1 (nI n) wi (nI kk) (nI cw) rl (nI c0) sp pd bs od hR (by omega)) (cwV 0 C.2.2.2.2.1 gX6_draw_X5_isAllCounted rfl rfl rfl hd_X5_isAllCounted ⟨Nat.le_of_ble_eq_true rfl, Nat.le_of_ble_eq_true rfl⟩) (by omega) hR.ob rfl rfl rfl (Nat.le_of_ble_eq_true rfl) dX6_draw_14 ⟨Nat.le_of_ble_eq_true rfl, Nat.le_of_ble_eq_true rfl⟩ ?_
  refine x_bz_eq C (pc := 17) (tgt := 23) dX6_draw_17 (by decide) (fun c_17 => absurd c_17 (fun q => he.elim (fun h => absurd (c_7.symm.trans h) (by decide)) (fun h => by rw [h] at q; simp at q))) (fun c_17 => ?_)
  refine x_bipush C (pc := 20) (v := (-5)) dX6_draw_20 (by decide) ?_
  exact x_iret C hR0 rfl (Nat.le_of_ble_eq_true rfl) (Nat.le_of_ble_eq_true rfl) ⟨rfl, rfl, rfl⟩ dX6_draw_22
theorem fl_X6_draw_26 : Cond.fieldLink RX6 26 "PileRecount" "history" "LPileRecount$History;" ∈ wsX6_draw := by decide +kernel
set_option maxHeartbeats 4000000 in
set_option maxRecDepth 100000 in
theorem c_X6_draw_s (l : Launch) (D : va_G) (z : Nat) (cI cZ cP cR : ClassId) (N : Nat) (F : Nat → va_E) (n kk cw c0 : Nat) (wi rl sp : Int32) (pd : Nat → Nat → Int32) (bs od : Nat → Int32) (pi : Nat → Nat) (T : RD) (hn : Nat) (hb : Nat → Nat) (hd : Nat → RD) (sl : Nat → Option Nat) (sd : Nat → RD) (len : Nat) (pa : Nat → Int32) (i : Nat) (hR : isRec z cI cP F 1 (nI n) wi (nI kk) (nI cw) rl (nI c0) sp pd bs od) (hnn : n ≤ 10) (hkk : kk ≤ n) (hcw : cw < 2 ^ n) (hc0 : c0 < 2 ^ 31) (hcnt : cntB cw n = kk) (hsp : sp = 0 ∨ sp = 1) (hpi : piOK bs pi n) (hC : isCl z cI cP cR N F T hn hb hd sl sd len pa) (ho : opB wi sp = true) (hk1 : kk < n) (hnc : ncG cw (lcgN c0 / 65536 % (n - kk)) n 0 0 = some i) : gMi l yX6_draw wsX6_draw ({ frames := 3, cells := 0, slots := 0, locals := 66 }) D z cI cZ cP cR N F [.ref (z + 0)] (gRes (nI i) N (fun F2 => ∃ hb2 : Nat → Nat, isRec z cI cP F2 1 (nI n) wi (nI (kk + 1)) (nI (cw ||| 2 ^ i)) rl (nI (lcgN c0)) sp pd bs (upd od kk (nI i)) ∧ isCl z cI cP cR N F2 T (if hn < 6 then hn + 1 else 6) hb2 (recD hn hd (mkR (nI n) wi (nI kk) (nI cw) rl (nI c0) sp pd bs od)) sl sd len pa ∧ gFr 0 123 F F2)) 0 0 := by
  refine gMi.of (cc := cX6_draw) (maxL := 1) (ret := (some .int)) (by decide) rfl (Nat.le_of_ble_eq_true rfl) [(0, .ref (z + 0))] rfl ?_
  intro pg ev sg mg bel me cg C hR0
  have h2n := two_lt hnn
  obtain ⟨hT, hTr, hH, hn6, hB, hD, hPd, hlen, ⟨rpt, rhd, rnu, hRe⟩, ⟨owy, oso, hOd⟩, hN, hslb, hS, hdd⟩ := hC
  refine x_aload_n C (pc := 0) 0 dX6_draw_0 rfl ?_
  refine x_get C (pc := 1) (q := 0) (v := .ref (z + 1)) (ci := 6) rfl hn_X6_draw_X6 0 (by decide) fl_X6_draw_10 rfl (by omega) hT.1 rfl dX6_draw_1 ?_
  refine x_cViR C (pc := 4) (st := []) (c_X5_isOpen l D z cI cZ cP cR N F 1 (nI n) wi (nI kk) (nI cw) rl (nI c0) sp pd bs od hR (by omega)) (cwV 0 C.2.2.2.2.1 gX6_draw_X5_isOpen rfl rfl rfl hd_X5_isOpen ⟨Nat.le_of_ble_eq_true rfl, Nat.le_of_ble_eq_true rfl⟩) (by omega) hR.ob rfl rfl rfl (Nat.le_of_ble_eq_true rfl) dX6_draw_4 ⟨Nat.le_of_ble_eq_true rfl, Nat.le_of_ble_eq_true rfl⟩ ?_
  refine x_bz_eq C (pc := 7) (tgt := 20) dX6_draw_7 (by decide) (fun c_7 => absurd c_7 (by rw [ho]; decide)) (fun c_7 => ?_)
  refine x_aload_n C (pc := 10) 0 dX6_draw_10 rfl ?_
  refine x_get C (pc := 11) (q := 0) (v := .ref (z + 1)) (ci := 6) rfl hn_X6_draw_X6 0 (by decide) fl_X6_draw_10 rfl (by omega) hT.1 rfl dX6_draw_11 ?_
  refine x_cViR C (pc := 14) (st := []) (c_X5_isAllCounted l D z cI cZ cP cR N F 1 (nI n) wi (nI kk) (nI cw) rl (nI c0) sp pd bs od hR (by omega)) (cwV 0 C.2.2.2.2.1 gX6_draw_X5_isAllCounted rfl rfl rfl hd_X5_isAllCounted ⟨Nat.le_of_ble_eq_true rfl, Nat.le_of_ble_eq_true rfl⟩) (by omega) hR.ob rfl rfl rfl (Nat.le_of_ble_eq_true rfl) dX6_draw_14 ⟨Nat.le_of_ble_eq_true rfl, Nat.le_of_ble_eq_true rfl⟩ ?_
  refine x_bz_eq C (pc := 17) (tgt := 23) dX6_draw_17 (by decide) (fun c_17 => ?_) (fun c_17 => absurd c_17 (fun q => by have q2 := of_decide_eq_true q; have := (nI_eq (by omega) (by omega)).mp q2; omega))
  refine x_aload_n C (pc := 23) 0 dX6_draw_23 rfl ?_
  refine x_get C (pc := 24) (q := 0) (v := .ref (z + 30)) (ci := 6) rfl hn_X6_draw_X6 3 (by decide) fl_X6_draw_26 rfl (by omega) hT.1 rfl dX6_draw_24 ?_
  refine x_aload_n C (pc := 27) 0 dX6_draw_27 rfl ?_
  refine x_get C (pc := 28) (q := 0) (v := .ref (z + 1)) (ci := 6) rfl hn_X6_draw_X6 0 (by decide) fl_X6_draw_10 rfl (by omega) hT.1 rfl dX6_draw_28 ?_
  refine x_cVvE C (pc := 31) (st := []) (c_X0_record l D z cI cZ cP cR N F 30 hn hb hd 1 (mkR (nI n) wi (nI kk) (nI cw) rl (nI c0) sp pd bs od) hH (by omega) hn6 hB hD hR (by omega) (by omega) hsp) (cwV 1 C.2.2.2.2.1 gX6_draw_X0_record rfl rfl rfl hd_X0_record ⟨Nat.le_of_ble_eq_true rfl, Nat.le_of_ble_eq_true rfl⟩) (by omega) hH.ob rfl rfl rfl (Nat.le_of_ble_eq_true rfl) dX6_draw_31 ⟨Nat.le_of_ble_eq_true rfl, Nat.le_of_ble_eq_true rfl⟩ (fun F_31 h_31 => ?_)
  obtain ⟨hb_31, hB_31, hH_31, hD_31, fr_31⟩ := h_31
  have hn6_31 : (if hn < 6 then hn + 1 else 6) ≤ 6 := by split <;> omega
  have hT_31 := hT.same (fr_31 0 (by omega)) (fr_31 29 (by omega))
  have hR_31 := hR.same (F2 := F_31) (fun q _ _ => fr_31 q (by omega))
  have hTr_31 := hTr.same (F2 := F_31) (fun q _ _ => fr_31 q (by omega))
  have hPd_31 := hPd.same (F2 := F_31) (fun q _ _ => fr_31 q (by omega))
  have hRe_31 := hRe.same (F2 := F_31) (fun q _ _ => fr_31 q (by omega))
  have hOd_31 := hOd.same (F2 := F_31) (fun q _ _ => fr_31 q (by omega))
  have hS_31 : ∀ i, i < 2 → ∀ q, sl i = some q → isRecD z cI cP F_31 q (sd i) := fun i hi q hq => (hS i hi q hq).same (fun q2 h1 h2 => fr_31 q2 (by have := hslb i hi q hq; omega))
  refine x_aload_n C (pc := 34) 0 dX6_draw_34 rfl ?_
  refine x_get C (pc := 35) (q := 0) (v := .ref (z + 1)) (ci := 6) rfl hn_X6_draw_X6 0 (by decide) fl_X6_draw_10 rfl (by omega) hT_31.1 rfl dX6_draw_35 ?_
  refine x_cViE C (pc := 38) (st := []) (c_X5_drawNext l D z cI cZ cP cR N F_31 1 n cw kk c0 wi rl sp pd bs od i hR_31 (by omega) (by omega) (by omega) (by omega) (by omega) hnc) (cwV 0 C.2.2.2.2.1 gX6_draw_X5_drawNext rfl rfl rfl hd_X5_drawNext ⟨Nat.le_of_ble_eq_true rfl, Nat.le_of_ble_eq_true rfl⟩) (by omega) hR_31.ob rfl rfl rfl (Nat.le_of_ble_eq_true rfl) dX6_draw_38 ⟨Nat.le_of_ble_eq_true rfl, Nat.le_of_ble_eq_true rfl⟩ (fun F_38 h_38 => ?_)
  obtain ⟨hR_38, fr_38⟩ := h_38
  have hT_38 := hT_31.same (fr_38 0 (by omega)) (fr_38 29 (by omega))
  have hTr_38 := hTr_31.same (F2 := F_38) (fun q _ _ => fr_38 q (by omega))
  have hH_38 := hH_31.same (F2 := F_38) (fun q _ _ => fr_38 q (by omega))
  have hD_38 : ∀ i, i < 6 → isRecD z cI cP F_38 (hb_31 i) ((recD hn hd (mkR (nI n) wi (nI kk) (nI cw) rl (nI c0) sp pd bs od)) i) := fun i hi => (hD_31 i hi).same (fun q h1 h2 => fr_38 q (by have := (hB_31 i hi).1; omega))
  have hPd_38 := hPd_31.same (F2 := F_38) (fun q _ _ => fr_38 q (by omega))
  have hRe_38 := hRe_31.same (F2 := F_38) (fun q _ _ => fr_38 q (by omega))
  have hOd_38 := hOd_31.same (F2 := F_38) (fun q _ _ => fr_38 q (by omega))
  have hS_38 : ∀ i, i < 2 → ∀ q, sl i = some q → isRecD z cI cP F_38 q (sd i) := fun i hi q hq => (hS_31 i hi q hq).same (fun q2 h1 h2 => fr_38 q2 (by have := hslb i hi q hq; omega))
  exact x_iret C hR0 rfl (Nat.le_of_ble_eq_true rfl) (Nat.le_of_ble_eq_true rfl) ⟨rfl, rfl, ⟨hb_31, hR_38, ⟨hT_38, hTr_38, hH_38, hn6_31, hB_31, hD_38, hPd_38, hlen, ⟨_, _, _, hRe_38⟩, ⟨_, _, hOd_38⟩, hN, hslb, hS_38, hdd⟩, (gFr.t2 (gFr.wide (a := 0) (b := 123) fr_31 (by omega) (by omega)) (gFr.wide (a := 0) (b := 123) fr_38 (by omega) (by omega)))⟩⟩ dX6_draw_41
theorem fl_X6_count_10 : Cond.fieldLink RX6 10 "PileRecount" "now" "LPileRecount$Recount;" ∈ wsX6_count := by decide +kernel
theorem hn_X6_count_X6 : ∀ w ∈ wsX60, w ∈ wsX6_count := fun _ h => List.mem_cons_of_mem _ (List.mem_append_left _ (List.mem_append_left _ (List.mem_append_left _ (List.mem_append_right _ h))))
set_option maxHeartbeats 4000000 in
set_option maxRecDepth 100000 in
theorem c_X6_count_e1 (l : Launch) (D : va_G) (z : Nat) (cI cZ cP cR : ClassId) (N : Nat) (F : Nat → va_E) (n kk cw c0 : Nat) (wi rl sp : Int32) (pd : Nat → Nat → Int32) (bs od : Nat → Int32) (pi : Nat → Nat) (T : RD) (hn : Nat) (hb : Nat → Nat) (hd : Nat → RD) (sl : Nat → Option Nat) (sd : Nat → RD) (len : Nat) (pa : Nat → Int32) (v : Int32) (hR : isRec z cI cP F 1 (nI n) wi (nI kk) (nI cw) rl (nI c0) sp pd bs od) (hnn : n ≤ 10) (hkk : kk ≤ n) (hcw : cw < 2 ^ n) (hc0 : c0 < 2 ^ 31) (hcnt : cntB cw n = kk) (hsp : sp = 0 ∨ sp = 1) (hpi : piOK bs pi n) (hC : isCl z cI cP cR N F T hn hb hd sl sd len pa) (hv : inP v (nI n) = false) : gMi l yX6_count wsX6_count ({ frames := 1, cells := 0, slots := 0, locals := 21 }) D z cI cZ cP cR N F [.ref (z + 0), .int v] (gRes (-1) N (fun F2 => F2 = F)) 0 0 := by
  refine gMi.of (cc := cX6_count) (maxL := 2) (ret := (some .int)) (by decide) rfl (Nat.le_of_ble_eq_true rfl) [(0, .ref (z + 0)), (1, .int v)] rfl ?_
  intro pg ev sg mg bel me cg C hR0
  have h2n := two_lt hnn
  obtain ⟨hT, hTr, hH, hn6, hB, hD, hPd, hlen, ⟨rpt, rhd, rnu, hRe⟩, ⟨owy, oso, hOd⟩, hN, hslb, hS, hdd⟩ := hC
  refine x_aload_n C (pc := 0) 0 dX6_count_0 rfl ?_
  refine x_get C (pc := 1) (q := 0) (v := .ref (z + 1)) (ci := 6) rfl hn_X6_count_X6 0 (by decide) fl_X6_count_10 rfl (by omega) hT.1 rfl dX6_count_1 ?_
  refine x_iload_n C (pc := 4) 1 dX6_count_4 rfl ?_
  refine x_cViR C (pc := 5) (st := []) (c_X5_hasPile l D z cI cZ cP cR N F 1 (nI n) wi (nI kk) (nI cw) rl (nI c0) sp pd bs od v hR (by omega)) (cwV 1 C.2.2.2.2.1 gX6_count_X5_hasPile rfl rfl rfl hd_X5_hasPile ⟨Nat.le_of_ble_eq_true rfl, Nat.le_of_ble_eq_true rfl⟩) (by omega) hR.ob rfl rfl rfl (Nat.le_of_ble_eq_true rfl) dX6_count_5 ⟨Nat.le_of_ble_eq_true rfl, Nat.le_of_ble_eq_true rfl⟩ ?_
  refine x_bz_ne C (pc := 8) (tgt := 13) dX6_count_8 (by decide) (fun c_8 => absurd c_8 (by rw [hv]; decide)) (fun c_8 => ?_)
  refine x_iconst C (pc := 11) (v := (-1)) dX6_count_11 (by decide) ?_
  exact x_iret C hR0 rfl (Nat.le_of_ble_eq_true rfl) (Nat.le_of_ble_eq_true rfl) ⟨rfl, rfl, rfl⟩ dX6_count_12
theorem fl_X6_count_94 : Cond.fieldLink RX6 94 "PileRecount$Recount" "countedSet" "I" ∈ wsX6_count := by decide +kernel
theorem hn_X6_count_X5 : ∀ w ∈ wsX50, w ∈ wsX6_count := fun _ h => List.mem_cons_of_mem _ (List.mem_append_left _ (List.mem_append_left _ (List.mem_append_right _ h)))
set_option maxHeartbeats 4000000 in
set_option maxRecDepth 100000 in
theorem c_X6_count_e2 (l : Launch) (D : va_G) (z : Nat) (cI cZ cP cR : ClassId) (N : Nat) (F : Nat → va_E) (n kk cw c0 : Nat) (wi rl sp : Int32) (pd : Nat → Nat → Int32) (bs od : Nat → Int32) (pi : Nat → Nat) (T : RD) (hn : Nat) (hb : Nat → Nat) (hd : Nat → RD) (sl : Nat → Option Nat) (sd : Nat → RD) (len : Nat) (pa : Nat → Int32) (v : Nat) (hR : isRec z cI cP F 1 (nI n) wi (nI kk) (nI cw) rl (nI c0) sp pd bs od) (hnn : n ≤ 10) (hkk : kk ≤ n) (hcw : cw < 2 ^ n) (hc0 : c0 < 2 ^ 31) (hcnt : cntB cw n = kk) (hsp : sp = 0 ∨ sp = 1) (hpi : piOK bs pi n) (hC : isCl z cI cP cR N F T hn hb hd sl sd len pa) (hv : inP (nI v) (nI n) = true) (hvn : v < n) (he : opB wi sp = false ∨ cw.testBit v = true) : gMi l yX6_count wsX6_count ({ frames := 2, cells := 0, slots := 0, locals := 40 }) D z cI cZ cP cR N F [.ref (z + 0), .int (nI v)] (gRes (-5) N (fun F2 => F2 = F)) 0 0 := by
  refine gMi.of (cc := cX6_count) (maxL := 2) (ret := (some .int)) (by decide) rfl (Nat.le_of_ble_eq_true rfl) [(0, .ref (z + 0)), (1, .int (nI v))] rfl ?_
  intro pg ev sg mg bel me cg C hR0
  have h2n := two_lt hnn
  obtain ⟨hT, hTr, hH, hn6, hB, hD, hPd, hlen, ⟨rpt, rhd, rnu, hRe⟩, ⟨owy, oso, hOd⟩, hN, hslb, hS, hdd⟩ := hC
  refine x_aload_n C (pc := 0) 0 dX6_count_0 rfl ?_
  refine x_get C (pc := 1) (q := 0) (v := .ref (z + 1)) (ci := 6) rfl hn_X6_count_X6 0 (by decide) fl_X6_count_10 rfl (by omega) hT.1 rfl dX6_count_1 ?_
  refine x_iload_n C (pc := 4) 1 dX6_count_4 rfl ?_
  refine x_cViR C (pc := 5) (st := []) (c_X5_hasPile l D z cI cZ cP cR N F 1 (nI n) wi (nI kk) (nI cw) rl (nI c0) sp pd bs od (nI v) hR (by omega)) (cwV 1 C.2.2.2.2.1 gX6_count_X5_hasPile rfl rfl rfl hd_X5_hasPile ⟨Nat.le_of_ble_eq_true rfl, Nat.le_of_ble_eq_true rfl⟩) (by omega) hR.ob rfl rfl rfl (Nat.le_of_ble_eq_true rfl) dX6_count_5 ⟨Nat.le_of_ble_eq_true rfl, Nat.le_of_ble_eq_true rfl⟩ ?_
  refine x_bz_ne C (pc := 8) (tgt := 13) dX6_count_8 (by decide) (fun c_8 => ?_) (fun c_8 => absurd c_8 (by rw [hv]; decide))
  refine x_aload_n C (pc := 13) 0 dX6_count_13 rfl ?_
  refine x_get C (pc := 14) (q := 0) (v := .ref (z + 1)) (ci := 6) rfl hn_X6_count_X6 0 (by decide) fl_X6_count_10 rfl (by omega) hT.1 rfl dX6_count_14 ?_
  refine x_cViR C (pc := 17) (st := []) (c_X5_isOpen l D z cI cZ cP cR N F 1 (nI n) wi (nI kk) (nI cw) rl (nI c0) sp pd bs od hR (by omega)) (cwV 0 C.2.2.2.2.1 gX6_count_X5_isOpen rfl rfl rfl hd_X5_isOpen ⟨Nat.le_of_ble_eq_true rfl, Nat.le_of_ble_eq_true rfl⟩) (by omega) hR.ob rfl rfl rfl (Nat.le_of_ble_eq_true rfl) dX6_count_17 ⟨Nat.le_of_ble_eq_true rfl, Nat.le_of_ble_eq_true rfl⟩ ?_
  refine x_bz_eq C (pc := 20) (tgt := 37) dX6_count_20 (by decide) (fun c_20 => ?_) (fun c_20 => ?_)
  · refine x_bipush C (pc := 37) (v := (-5)) dX6_count_37 (by decide) ?_
    exact x_iret C hR0 rfl (Nat.le_of_ble_eq_true rfl) (Nat.le_of_ble_eq_true rfl) ⟨rfl, rfl, rfl⟩ dX6_count_39
  refine x_aload_n C (pc := 23) 0 dX6_count_23 rfl ?_
  refine x_get C (pc := 24) (q := 0) (v := .ref (z + 1)) (ci := 6) rfl hn_X6_count_X6 0 (by decide) fl_X6_count_10 rfl (by omega) hT.1 rfl dX6_count_24 ?_
  refine x_get C (pc := 27) (q := 1) (v := .int (nI cw)) (ci := 5) rfl hn_X6_count_X5 6 (by decide) fl_X6_count_94 rfl (by omega) hR.ob rfl dX6_count_27 ?_
  refine x_iload_n C (pc := 30) 1 dX6_count_30 rfl ?_
  refine x_cSiR C (pc := 31) (st := []) (c_X6_has l D z cI cZ cP cR N F cw v (by omega) (by omega)) (va_cwS 2 C.2.2.2.2.1 gX6_count_X6_has rfl rfl rfl hd_X6_has.2 ⟨Nat.le_of_ble_eq_true rfl, Nat.le_of_ble_eq_true rfl⟩) rfl rfl (Nat.le_of_ble_eq_true rfl) dX6_count_31 ⟨Nat.le_of_ble_eq_true rfl, Nat.le_of_ble_eq_true rfl⟩ ?_
  refine x_bz_eq C (pc := 34) (tgt := 40) dX6_count_34 (by decide) (fun c_34 => absurd c_34 (fun q => he.elim (fun h => absurd (c_20.symm.trans h) (by decide)) (fun h => absurd (h.symm.trans q) (by decide)))) (fun c_34 => ?_)
  refine x_bipush C (pc := 37) (v := (-5)) dX6_count_37 (by decide) ?_
  exact x_iret C hR0 rfl (Nat.le_of_ble_eq_true rfl) (Nat.le_of_ble_eq_true rfl) ⟨rfl, rfl, rfl⟩ dX6_count_39
theorem fl_X6_count_26 : Cond.fieldLink RX6 26 "PileRecount" "history" "LPileRecount$History;" ∈ wsX6_count := by decide +kernel
theorem fl_X6_count_69 : Cond.fieldLink RX6 69 "PileRecount$Recount" "countedPiles" "I" ∈ wsX6_count := by decide +kernel
set_option maxHeartbeats 4000000 in
set_option maxRecDepth 100000 in
theorem c_X6_count_s (l : Launch) (D : va_G) (z : Nat) (cI cZ cP cR : ClassId) (N : Nat) (F : Nat → va_E) (n kk cw c0 : Nat) (wi rl sp : Int32) (pd : Nat → Nat → Int32) (bs od : Nat → Int32) (pi : Nat → Nat) (T : RD) (hn : Nat) (hb : Nat → Nat) (hd : Nat → RD) (sl : Nat → Option Nat) (sd : Nat → RD) (len : Nat) (pa : Nat → Int32) (v : Nat) (hR : isRec z cI cP F 1 (nI n) wi (nI kk) (nI cw) rl (nI c0) sp pd bs od) (hnn : n ≤ 10) (hkk : kk ≤ n) (hcw : cw < 2 ^ n) (hc0 : c0 < 2 ^ 31) (hcnt : cntB cw n = kk) (hsp : sp = 0 ∨ sp = 1) (hpi : piOK bs pi n) (hC : isCl z cI cP cR N F T hn hb hd sl sd len pa) (hv : inP (nI v) (nI n) = true) (hvn : v < n) (ho : opB wi sp = true) (hbt : cw.testBit v = false) : gMi l yX6_count wsX6_count ({ frames := 3, cells := 0, slots := 0, locals := 64 }) D z cI cZ cP cR N F [.ref (z + 0), .int (nI v)] (gRes (nI (kk + 1)) N (fun F2 => ∃ hb2 : Nat → Nat, isRec z cI cP F2 1 (nI n) wi (nI (kk + 1)) (nI (cw ||| 2 ^ v)) rl (nI c0) sp pd bs (upd od kk (nI v)) ∧ isCl z cI cP cR N F2 T (if hn < 6 then hn + 1 else 6) hb2 (recD hn hd (mkR (nI n) wi (nI kk) (nI cw) rl (nI c0) sp pd bs od)) sl sd len pa ∧ gFr 0 123 F F2)) 0 0 := by
  refine gMi.of (cc := cX6_count) (maxL := 2) (ret := (some .int)) (by decide) rfl (Nat.le_of_ble_eq_true rfl) [(0, .ref (z + 0)), (1, .int (nI v))] rfl ?_
  intro pg ev sg mg bel me cg C hR0
  have h2n := two_lt hnn
  obtain ⟨hT, hTr, hH, hn6, hB, hD, hPd, hlen, ⟨rpt, rhd, rnu, hRe⟩, ⟨owy, oso, hOd⟩, hN, hslb, hS, hdd⟩ := hC
  have hkn : kk < 10 := by have h3 := cntB_or hbt n; have h4 := cntB_le (cw ||| 2 ^ v) n; rw [if_pos hvn] at h3; omega
  refine x_aload_n C (pc := 0) 0 dX6_count_0 rfl ?_
  refine x_get C (pc := 1) (q := 0) (v := .ref (z + 1)) (ci := 6) rfl hn_X6_count_X6 0 (by decide) fl_X6_count_10 rfl (by omega) hT.1 rfl dX6_count_1 ?_
  refine x_iload_n C (pc := 4) 1 dX6_count_4 rfl ?_
  refine x_cViR C (pc := 5) (st := []) (c_X5_hasPile l D z cI cZ cP cR N F 1 (nI n) wi (nI kk) (nI cw) rl (nI c0) sp pd bs od (nI v) hR (by omega)) (cwV 1 C.2.2.2.2.1 gX6_count_X5_hasPile rfl rfl rfl hd_X5_hasPile ⟨Nat.le_of_ble_eq_true rfl, Nat.le_of_ble_eq_true rfl⟩) (by omega) hR.ob rfl rfl rfl (Nat.le_of_ble_eq_true rfl) dX6_count_5 ⟨Nat.le_of_ble_eq_true rfl, Nat.le_of_ble_eq_true rfl⟩ ?_
  refine x_bz_ne C (pc := 8) (tgt := 13) dX6_count_8 (by decide) (fun c_8 => ?_) (fun c_8 => absurd c_8 (by rw [hv]; decide))
  refine x_aload_n C (pc := 13) 0 dX6_count_13 rfl ?_
  refine x_get C (pc := 14) (q := 0) (v := .ref (z + 1)) (ci := 6) rfl hn_X6_count_X6 0 (by decide) fl_X6_count_10 rfl (by omega) hT.1 rfl dX6_count_14 ?_
  refine x_cViR C (pc := 17) (st := []) (c_X5_isOpen l D z cI cZ cP cR N F 1 (nI n) wi (nI kk) (nI cw) rl (nI c0) sp pd bs od hR (by omega)) (cwV 0 C.2.2.2.2.1 gX6_count_X5_isOpen rfl rfl rfl hd_X5_isOpen ⟨Nat.le_of_ble_eq_true rfl, Nat.le_of_ble_eq_true rfl⟩) (by omega) hR.ob rfl rfl rfl (Nat.le_of_ble_eq_true rfl) dX6_count_17 ⟨Nat.le_of_ble_eq_true rfl, Nat.le_of_ble_eq_true rfl⟩ ?_
  refine x_bz_eq C (pc := 20) (tgt := 37) dX6_count_20 (by decide) (fun c_20 => absurd c_20 (by rw [ho]; decide)) (fun c_20 => ?_)
  refine x_aload_n C (pc := 23) 0 dX6_count_23 rfl ?_
  refine x_get C (pc := 24) (q := 0) (v := .ref (z + 1)) (ci := 6) rfl hn_X6_count_X6 0 (by decide) fl_X6_count_10 rfl (by omega) hT.1 rfl dX6_count_24 ?_
  refine x_get C (pc := 27) (q := 1) (v := .int (nI cw)) (ci := 5) rfl hn_X6_count_X5 6 (by decide) fl_X6_count_94 rfl (by omega) hR.ob rfl dX6_count_27 ?_
  refine x_iload_n C (pc := 30) 1 dX6_count_30 rfl ?_
  refine x_cSiR C (pc := 31) (st := []) (c_X6_has l D z cI cZ cP cR N F cw v (by omega) (by omega)) (va_cwS 2 C.2.2.2.2.1 gX6_count_X6_has rfl rfl rfl hd_X6_has.2 ⟨Nat.le_of_ble_eq_true rfl, Nat.le_of_ble_eq_true rfl⟩) rfl rfl (Nat.le_of_ble_eq_true rfl) dX6_count_31 ⟨Nat.le_of_ble_eq_true rfl, Nat.le_of_ble_eq_true rfl⟩ ?_
  refine x_bz_eq C (pc := 34) (tgt := 40) dX6_count_34 (by decide) (fun c_34 => ?_) (fun c_34 => absurd c_34 (by rw [hbt]; decide))
  refine x_aload_n C (pc := 40) 0 dX6_count_40 rfl ?_
  refine x_get C (pc := 41) (q := 0) (v := .ref (z + 30)) (ci := 6) rfl hn_X6_count_X6 3 (by decide) fl_X6_count_26 rfl (by omega) hT.1 rfl dX6_count_41 ?_
  refine x_aload_n C (pc := 44) 0 dX6_count_44 rfl ?_
  refine x_get C (pc := 45) (q := 0) (v := .ref (z + 1)) (ci := 6) rfl hn_X6_count_X6 0 (by decide) fl_X6_count_10 rfl (by omega) hT.1 rfl dX6_count_45 ?_
  refine x_cVvE C (pc := 48) (st := []) (c_X0_record l D z cI cZ cP cR N F 30 hn hb hd 1 (mkR (nI n) wi (nI kk) (nI cw) rl (nI c0) sp pd bs od) hH (by omega) hn6 hB hD hR (by omega) (by omega) hsp) (cwV 1 C.2.2.2.2.1 gX6_count_X0_record rfl rfl rfl hd_X0_record ⟨Nat.le_of_ble_eq_true rfl, Nat.le_of_ble_eq_true rfl⟩) (by omega) hH.ob rfl rfl rfl (Nat.le_of_ble_eq_true rfl) dX6_count_48 ⟨Nat.le_of_ble_eq_true rfl, Nat.le_of_ble_eq_true rfl⟩ (fun F_48 h_48 => ?_)
  obtain ⟨hb_48, hB_48, hH_48, hD_48, fr_48⟩ := h_48
  have hn6_48 : (if hn < 6 then hn + 1 else 6) ≤ 6 := by split <;> omega
  have hT_48 := hT.same (fr_48 0 (by omega)) (fr_48 29 (by omega))
  have hR_48 := hR.same (F2 := F_48) (fun q _ _ => fr_48 q (by omega))
  have hTr_48 := hTr.same (F2 := F_48) (fun q _ _ => fr_48 q (by omega))
  have hPd_48 := hPd.same (F2 := F_48) (fun q _ _ => fr_48 q (by omega))
  have hRe_48 := hRe.same (F2 := F_48) (fun q _ _ => fr_48 q (by omega))
  have hOd_48 := hOd.same (F2 := F_48) (fun q _ _ => fr_48 q (by omega))
  have hS_48 : ∀ i, i < 2 → ∀ q, sl i = some q → isRecD z cI cP F_48 q (sd i) := fun i hi q hq => (hS i hi q hq).same (fun q2 h1 h2 => fr_48 q2 (by have := hslb i hi q hq; omega))
  refine x_aload_n C (pc := 51) 0 dX6_count_51 rfl ?_
  refine x_get C (pc := 52) (q := 0) (v := .ref (z + 1)) (ci := 6) rfl hn_X6_count_X6 0 (by decide) fl_X6_count_10 rfl (by omega) hT_48.1 rfl dX6_count_52 ?_
  refine x_iload_n C (pc := 55) 1 dX6_count_55 rfl ?_
  refine x_cVvE C (pc := 56) (st := []) (c_X5_countPile l D z cI cZ cP cR N F_48 1 cw kk (nI n) wi rl (nI c0) sp pd bs od v hR_48 (by omega) (by omega) (by omega) (by omega)) (cwV 1 C.2.2.2.2.1 gX6_count_X5_countPile rfl rfl rfl hd_X5_countPile ⟨Nat.le_of_ble_eq_true rfl, Nat.le_of_ble_eq_true rfl⟩) (by omega) hR_48.ob rfl rfl rfl (Nat.le_of_ble_eq_true rfl) dX6_count_56 ⟨Nat.le_of_ble_eq_true rfl, Nat.le_of_ble_eq_true rfl⟩ (fun F_56 h_56 => ?_)
  obtain ⟨hR_56, fr_56⟩ := h_56
  have hT_56 := hT_48.same (fr_56 0 (by omega)) (fr_56 29 (by omega))
  have hTr_56 := hTr_48.same (F2 := F_56) (fun q _ _ => fr_56 q (by omega))
  have hH_56 := hH_48.same (F2 := F_56) (fun q _ _ => fr_56 q (by omega))
  have hD_56 : ∀ i, i < 6 → isRecD z cI cP F_56 (hb_48 i) ((recD hn hd (mkR (nI n) wi (nI kk) (nI cw) rl (nI c0) sp pd bs od)) i) := fun i hi => (hD_48 i hi).same (fun q h1 h2 => fr_56 q (by have := (hB_48 i hi).1; omega))
  have hPd_56 := hPd_48.same (F2 := F_56) (fun q _ _ => fr_56 q (by omega))
  have hRe_56 := hRe_48.same (F2 := F_56) (fun q _ _ => fr_56 q (by omega))
  have hOd_56 := hOd_48.same (F2 := F_56) (fun q _ _ => fr_56 q (by omega))
  have hS_56 : ∀ i, i < 2 → ∀ q, sl i = some q → isRecD z cI cP F_56 q (sd i) := fun i hi q hq => (hS_48 i hi q hq).same (fun q2 h1 h2 => fr_56 q2 (by have := hslb i hi q hq; omega))
  refine x_aload_n C (pc := 59) 0 dX6_count_59 rfl ?_
  refine x_get C (pc := 60) (q := 0) (v := .ref (z + 1)) (ci := 6) rfl hn_X6_count_X6 0 (by decide) fl_X6_count_10 rfl (by omega) hT_56.1 rfl dX6_count_60 ?_
  refine x_get C (pc := 63) (q := 1) (v := .int (nI (kk + 1))) (ci := 5) rfl hn_X6_count_X5 5 (by decide) fl_X6_count_69 rfl (by omega) hR_56.ob rfl dX6_count_63 ?_
  exact x_iret C hR0 rfl (Nat.le_of_ble_eq_true rfl) (Nat.le_of_ble_eq_true rfl) ⟨rfl, rfl, ⟨hb_48, hR_56, ⟨hT_56, hTr_56, hH_56, hn6_48, hB_48, hD_56, hPd_56, hlen, ⟨_, _, _, hRe_56⟩, ⟨_, _, hOd_56⟩, hN, hslb, hS_56, hdd⟩, (gFr.t2 (gFr.wide (a := 0) (b := 123) fr_48 (by omega) (by omega)) (gFr.wide (a := 0) (b := 123) fr_56 (by omega) (by omega)))⟩⟩ dX6_count_66
theorem fl_X6_stop_10 : Cond.fieldLink RX6 10 "PileRecount" "now" "LPileRecount$Recount;" ∈ wsX6_stop := by decide +kernel
theorem hn_X6_stop_X6 : ∀ w ∈ wsX60, w ∈ wsX6_stop := fun _ h => List.mem_cons_of_mem _ (List.mem_append_left _ (List.mem_append_left _ (List.mem_append_left _ (List.mem_append_right _ h))))
set_option maxHeartbeats 4000000 in
set_option maxRecDepth 100000 in
theorem c_X6_stop_e (l : Launch) (D : va_G) (z : Nat) (cI cZ cP cR : ClassId) (N : Nat) (F : Nat → va_E) (n kk cw c0 : Nat) (wi rl sp : Int32) (pd : Nat → Nat → Int32) (bs od : Nat → Int32) (pi : Nat → Nat) (T : RD) (hn : Nat) (hb : Nat → Nat) (hd : Nat → RD) (sl : Nat → Option Nat) (sd : Nat → RD) (len : Nat) (pa : Nat → Int32)  (hR : isRec z cI cP F 1 (nI n) wi (nI kk) (nI cw) rl (nI c0) sp pd bs od) (hnn : n ≤ 10) (hkk : kk ≤ n) (hcw : cw < 2 ^ n) (hc0 : c0 < 2 ^ 31) (hcnt : cntB cw n = kk) (hsp : sp = 0 ∨ sp = 1) (hpi : piOK bs pi n) (hC : isCl z cI cP cR N F T hn hb hd sl sd len pa) (he : opB wi sp = false ∨ decide (rbF wi pd pi n cw cw ≤ rl) = false) : gMi l yX6_stop wsX6_stop ({ frames := 5, cells := 0, slots := 0, locals := 112 }) D z cI cZ cP cR N F [.ref (z + 0)] (gRes (-5) N (fun F2 => F2 = F)) 0 0 := by
  refine gMi.of (cc := cX6_stop) (maxL := 1) (ret := (some .int)) (by decide) rfl (Nat.le_of_ble_eq_true rfl) [(0, .ref (z + 0))] rfl ?_
  intro pg ev sg mg bel me cg C hR0
  have h2n := two_lt hnn
  obtain ⟨hT, hTr, hH, hn6, hB, hD, hPd, hlen, ⟨rpt, rhd, rnu, hRe⟩, ⟨owy, oso, hOd⟩, hN, hslb, hS, hdd⟩ := hC
  refine x_aload_n C (pc := 0) 0 dX6_stop_0 rfl ?_
  refine x_get C (pc := 1) (q := 0) (v := .ref (z + 1)) (ci := 6) rfl hn_X6_stop_X6 0 (by decide) fl_X6_stop_10 rfl (by omega) hT.1 rfl dX6_stop_1 ?_
  refine x_cViR C (pc := 4) (st := []) (c_X5_isOpen l D z cI cZ cP cR N F 1 (nI n) wi (nI kk) (nI cw) rl (nI c0) sp pd bs od hR (by omega)) (cwV 0 C.2.2.2.2.1 gX6_stop_X5_isOpen rfl rfl rfl hd_X5_isOpen ⟨Nat.le_of_ble_eq_true rfl, Nat.le_of_ble_eq_true rfl⟩) (by omega) hR.ob rfl rfl rfl (Nat.le_of_ble_eq_true rfl) dX6_stop_4 ⟨Nat.le_of_ble_eq_true rfl, Nat.le_of_ble_eq_true rfl⟩ ?_
  refine x_bz_eq C (pc := 7) (tgt := 20) dX6_stop_7 (by decide) (fun c_7 => ?_) (fun c_7 => ?_)
  · refine x_bipush C (pc := 20) (v := (-5)) dX6_stop_20 (by decide) ?_
    exact x_iret C hR0 rfl (Nat.le_of_ble_eq_true rfl) (Nat.le_of_ble_eq_true rfl) ⟨rfl, rfl, rfl⟩ dX6_stop_22
  refine x_aload_n C (pc := 10) 0 dX6_stop_10 rfl ?_
  refine x_get C (pc := 11) (q := 0) (v := .ref (z + 1)) (ci := 6) rfl hn_X6_stop_X6 0 (by decide) fl_X6_stop_10 rfl (by omega) hT.1 rfl dX6_stop_11 ?_
  refine x_cViR C (pc := 14) (st := []) (c_X5_mayStopNow l D z cI cZ cP cR N F 1 n cw wi (nI kk) rl (nI c0) sp pd bs od hR (by omega) (by omega) (by omega) pi hpi) (cwV 0 C.2.2.2.2.1 gX6_stop_X5_mayStopNow rfl rfl rfl hd_X5_mayStopNow ⟨Nat.le_of_ble_eq_true rfl, Nat.le_of_ble_eq_true rfl⟩) (by omega) hR.ob rfl rfl rfl (Nat.le_of_ble_eq_true rfl) dX6_stop_14 ⟨Nat.le_of_ble_eq_true rfl, Nat.le_of_ble_eq_true rfl⟩ ?_
  refine x_bz_ne C (pc := 17) (tgt := 23) dX6_stop_17 (by decide) (fun c_17 => absurd c_17 (fun q => he.elim (fun h => absurd (c_7.symm.trans h) (by decide)) (fun h => absurd (h.symm.trans q) (by decide)))) (fun c_17 => ?_)
  refine x_bipush C (pc := 20) (v := (-5)) dX6_stop_20 (by decide) ?_
  exact x_iret C hR0 rfl (Nat.le_of_ble_eq_true rfl) (Nat.le_of_ble_eq_true rfl) ⟨rfl, rfl, rfl⟩ dX6_stop_22
theorem fl_X6_stop_114 : Cond.fieldLink RX6 114 "PileRecount$Recount" "stopped" "Z" ∈ wsX6_stop := by decide +kernel
theorem fl_X6_stop_26 : Cond.fieldLink RX6 26 "PileRecount" "history" "LPileRecount$History;" ∈ wsX6_stop := by decide +kernel
theorem hn_X6_stop_X5 : ∀ w ∈ wsX50, w ∈ wsX6_stop := fun _ h => List.mem_cons_of_mem _ (List.mem_append_left _ (List.mem_append_left _ (List.mem_append_right _ h)))
set_option maxHeartbeats 4000000 in
set_option maxRecDepth 100000 in
theorem c_X6_stop_s (l : Launch) (D : va_G) (z : Nat) (cI cZ cP cR : ClassId) (N : Nat) (F : Nat → va_E) (n kk cw c0 : Nat) (wi rl sp : Int32) (pd : Nat → Nat → Int32) (bs od : Nat → Int32) (pi : Nat → Nat) (T : RD) (hn : Nat) (hb : Nat → Nat) (hd : Nat → RD) (sl : Nat → Option Nat) (sd : Nat → RD) (len : Nat) (pa : Nat → Int32)  (hR : isRec z cI cP F 1 (nI n) wi (nI kk) (nI cw) rl (nI c0) sp pd bs od) (hnn : n ≤ 10) (hkk : kk ≤ n) (hcw : cw < 2 ^ n) (hc0 : c0 < 2 ^ 31) (hcnt : cntB cw n = kk) (hsp : sp = 0 ∨ sp = 1) (hpi : piOK bs pi n) (hC : isCl z cI cP cR N F T hn hb hd sl sd len pa) (ho : opB wi sp = true) (hm : decide (rbF wi pd pi n cw cw ≤ rl) = true) : gMi l yX6_stop wsX6_stop ({ frames := 5, cells := 0, slots := 0, locals := 112 }) D z cI cZ cP cR N F [.ref (z + 0)] (gRes (bz (decide (0 < leadF wi pd n (2 ^ n - 1)))) N (fun F2 => ∃ hb2 : Nat → Nat, isRec z cI cP F2 1 (nI n) wi (nI kk) (nI cw) rl (nI c0) 1 pd bs od ∧ isCl z cI cP cR N F2 T (if hn < 6 then hn + 1 else 6) hb2 (recD hn hd (mkR (nI n) wi (nI kk) (nI cw) rl (nI c0) sp pd bs od)) sl sd len pa ∧ gFr 0 123 F F2)) 0 0 := by
  refine gMi.of (cc := cX6_stop) (maxL := 1) (ret := (some .int)) (by decide) rfl (Nat.le_of_ble_eq_true rfl) [(0, .ref (z + 0))] rfl ?_
  intro pg ev sg mg bel me cg C hR0
  have h2n := two_lt hnn
  obtain ⟨hT, hTr, hH, hn6, hB, hD, hPd, hlen, ⟨rpt, rhd, rnu, hRe⟩, ⟨owy, oso, hOd⟩, hN, hslb, hS, hdd⟩ := hC
  refine x_aload_n C (pc := 0) 0 dX6_stop_0 rfl ?_
  refine x_get C (pc := 1) (q := 0) (v := .ref (z + 1)) (ci := 6) rfl hn_X6_stop_X6 0 (by decide) fl_X6_stop_10 rfl (by omega) hT.1 rfl dX6_stop_1 ?_
  refine x_cViR C (pc := 4) (st := []) (c_X5_isOpen l D z cI cZ cP cR N F 1 (nI n) wi (nI kk) (nI cw) rl (nI c0) sp pd bs od hR (by omega)) (cwV 0 C.2.2.2.2.1 gX6_stop_X5_isOpen rfl rfl rfl hd_X5_isOpen ⟨Nat.le_of_ble_eq_true rfl, Nat.le_of_ble_eq_true rfl⟩) (by omega) hR.ob rfl rfl rfl (Nat.le_of_ble_eq_true rfl) dX6_stop_4 ⟨Nat.le_of_ble_eq_true rfl, Nat.le_of_ble_eq_true rfl⟩ ?_
  refine x_bz_eq C (pc := 7) (tgt := 20) dX6_stop_7 (by decide) (fun c_7 => absurd c_7 (by rw [ho]; decide)) (fun c_7 => ?_)
  refine x_aload_n C (pc := 10) 0 dX6_stop_10 rfl ?_
  refine x_get C (pc := 11) (q := 0) (v := .ref (z + 1)) (ci := 6) rfl hn_X6_stop_X6 0 (by decide) fl_X6_stop_10 rfl (by omega) hT.1 rfl dX6_stop_11 ?_
  refine x_cViR C (pc := 14) (st := []) (c_X5_mayStopNow l D z cI cZ cP cR N F 1 n cw wi (nI kk) rl (nI c0) sp pd bs od hR (by omega) (by omega) (by omega) pi hpi) (cwV 0 C.2.2.2.2.1 gX6_stop_X5_mayStopNow rfl rfl rfl hd_X5_mayStopNow ⟨Nat.le_of_ble_eq_true rfl, Nat.le_of_ble_eq_true rfl⟩) (by omega) hR.ob rfl rfl rfl (Nat.le_of_ble_eq_true rfl) dX6_stop_14 ⟨Nat.le_of_ble_eq_true rfl, Nat.le_of_ble_eq_true rfl⟩ ?_
  refine x_bz_ne C (pc := 17) (tgt := 23) dX6_stop_17 (by decide) (fun c_17 => ?_) (fun c_17 => absurd c_17 (by rw [hm]; decide))
  refine x_aload_n C (pc := 23) 0 dX6_stop_23 rfl ?_
  refine x_get C (pc := 24) (q := 0) (v := .ref (z + 30)) (ci := 6) rfl hn_X6_stop_X6 3 (by decide) fl_X6_stop_26 rfl (by omega) hT.1 rfl dX6_stop_24 ?_
  refine x_aload_n C (pc := 27) 0 dX6_stop_27 rfl ?_
  refine x_get C (pc := 28) (q := 0) (v := .ref (z + 1)) (ci := 6) rfl hn_X6_stop_X6 0 (by decide) fl_X6_stop_10 rfl (by omega) hT.1 rfl dX6_stop_28 ?_
  refine x_cVvE C (pc := 31) (st := []) (c_X0_record l D z cI cZ cP cR N F 30 hn hb hd 1 (mkR (nI n) wi (nI kk) (nI cw) rl (nI c0) sp pd bs od) hH (by omega) hn6 hB hD hR (by omega) (by omega) hsp) (cwV 1 C.2.2.2.2.1 gX6_stop_X0_record rfl rfl rfl hd_X0_record ⟨Nat.le_of_ble_eq_true rfl, Nat.le_of_ble_eq_true rfl⟩) (by omega) hH.ob rfl rfl rfl (Nat.le_of_ble_eq_true rfl) dX6_stop_31 ⟨Nat.le_of_ble_eq_true rfl, Nat.le_of_ble_eq_true rfl⟩ (fun F_31 h_31 => ?_)
  obtain ⟨hb_31, hB_31, hH_31, hD_31, fr_31⟩ := h_31
  have hn6_31 : (if hn < 6 then hn + 1 else 6) ≤ 6 := by split <;> omega
  have hT_31 := hT.same (fr_31 0 (by omega)) (fr_31 29 (by omega))
  have hR_31 := hR.same (F2 := F_31) (fun q _ _ => fr_31 q (by omega))
  have hTr_31 := hTr.same (F2 := F_31) (fun q _ _ => fr_31 q (by omega))
  have hPd_31 := hPd.same (F2 := F_31) (fun q _ _ => fr_31 q (by omega))
  have hRe_31 := hRe.same (F2 := F_31) (fun q _ _ => fr_31 q (by omega))
  have hOd_31 := hOd.same (F2 := F_31) (fun q _ _ => fr_31 q (by omega))
  have hS_31 : ∀ i, i < 2 → ∀ q, sl i = some q → isRecD z cI cP F_31 q (sd i) := fun i hi q hq => (hS i hi q hq).same (fun q2 h1 h2 => fr_31 q2 (by have := hslb i hi q hq; omega))
  refine x_aload_n C (pc := 34) 0 dX6_stop_34 rfl ?_
  refine x_get C (pc := 35) (q := 0) (v := .ref (z + 1)) (ci := 6) rfl hn_X6_stop_X6 0 (by decide) fl_X6_stop_10 rfl (by omega) hT_31.1 rfl dX6_stop_35 ?_
  refine x_iconst C (pc := 38) (v := 1) dX6_stop_38 (by decide) ?_
  refine xw_X5_9 C (pc := 39) hn_X6_stop_X5 fl_X6_stop_114 hR_31 (by omega) (Or.inr rfl) dX6_stop_39 (fun F_39 hR_39 fr_39 => ?_)
  have hT_39 := hT_31.same (fr_39 0 (by omega)) (fr_39 29 (by omega))
  have hTr_39 := hTr_31.same (F2 := F_39) (fun q _ _ => fr_39 q (by omega))
  have hH_39 := hH_31.same (F2 := F_39) (fun q _ _ => fr_39 q (by omega))
  have hD_39 : ∀ i, i < 6 → isRecD z cI cP F_39 (hb_31 i) ((recD hn hd (mkR (nI n) wi (nI kk) (nI cw) rl (nI c0) sp pd bs od)) i) := fun i hi => (hD_31 i hi).same (fun q h1 h2 => fr_39 q (by have := (hB_31 i hi).1; omega))
  have hPd_39 := hPd_31.same (F2 := F_39) (fun q _ _ => fr_39 q (by omega))
  have hRe_39 := hRe_31.same (F2 := F_39) (fun q _ _ => fr_39 q (by omega))
  have hOd_39 := hOd_31.same (F2 := F_39) (fun q _ _ => fr_39 q (by omega))
  have hS_39 : ∀ i, i < 2 → ∀ q, sl i = some q → isRecD z cI cP F_39 q (sd i) := fun i hi q hq => (hS_31 i hi q hq).same (fun q2 h1 h2 => fr_39 q2 (by have := hslb i hi q hq; omega))
  refine x_aload_n C (pc := 42) 0 dX6_stop_42 rfl ?_
  refine x_get C (pc := 43) (q := 0) (v := .ref (z + 1)) (ci := 6) rfl hn_X6_stop_X6 0 (by decide) fl_X6_stop_10 rfl (by omega) hT_39.1 rfl dX6_stop_43 ?_
  refine x_cViR C (pc := 46) (st := []) (c_X5_isRight l D z cI cZ cP cR N F_39 1 n wi (nI kk) (nI cw) rl (nI c0) 1 pd bs od hR_39 (by omega) (by omega)) (cwV 0 C.2.2.2.2.1 gX6_stop_X5_isRight rfl rfl rfl hd_X5_isRight ⟨Nat.le_of_ble_eq_true rfl, Nat.le_of_ble_eq_true rfl⟩) (by omega) hR_39.ob rfl rfl rfl (Nat.le_of_ble_eq_true rfl) dX6_stop_46 ⟨Nat.le_of_ble_eq_true rfl, Nat.le_of_ble_eq_true rfl⟩ ?_
  refine x_bz_eq C (pc := 49) (tgt := 56) dX6_stop_49 (by decide) (fun c_49 => ?_) (fun c_49 => ?_)
  · refine x_iconst C (pc := 56) (v := 0) dX6_stop_56 (by decide) ?_
    exact x_iret C hR0 rfl (Nat.le_of_ble_eq_true rfl) (Nat.le_of_ble_eq_true rfl) ⟨(by rw [c_49]; rfl), rfl, ⟨hb_31, hR_39, ⟨hT_39, hTr_39, hH_39, hn6_31, hB_31, hD_39, hPd_39, hlen, ⟨_, _, _, hRe_39⟩, ⟨_, _, hOd_39⟩, hN, hslb, hS_39, hdd⟩, (gFr.t2 (gFr.wide (a := 0) (b := 123) fr_31 (by omega) (by omega)) (gFr.wide (a := 0) (b := 123) fr_39 (by omega) (by omega)))⟩⟩ dX6_stop_57
  refine x_iconst C (pc := 52) (v := 1) dX6_stop_52 (by decide) ?_
  refine x_goto C (pc := 53) (tgt := 57) dX6_stop_53 (by decide) ?_
  exact x_iret C hR0 rfl (Nat.le_of_ble_eq_true rfl) (Nat.le_of_ble_eq_true rfl) ⟨(by rw [c_49]; rfl), rfl, ⟨hb_31, hR_39, ⟨hT_39, hTr_39, hH_39, hn6_31, hB_31, hD_39, hPd_39, hlen, ⟨_, _, _, hRe_39⟩, ⟨_, _, hOd_39⟩, hN, hslb, hS_39, hdd⟩, (gFr.t2 (gFr.wide (a := 0) (b := 123) fr_31 (by omega) (by omega)) (gFr.wide (a := 0) (b := 123) fr_39 (by omega) (by omega)))⟩⟩ dX6_stop_57
