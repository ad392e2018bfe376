theorem fltG_le {cd : Nat → Nat} {len : Nat} : ∀ (f i : Nat) (s : RS) {m : Nat}, i + f = len → fltG cd len f i s = some m → m ≤ len := by
  intro f
  induction f with
  | zero =>
    intro i s m _ h
    simp only [fltG] at h
    split at h
    · cases h
    · simp at h; omega
  | succ f ih =>
    intro i s m hi h
    simp only [fltG] at h
    split at h
    · simp at h; omega
    · exact ih (i + 1) _ (by omega) h
theorem fl_X6_make_33 : Cond.fieldLink RX6 33 "PileRecount" "pad" "LPileRecount$Pad;" ∈ wsX6_make := by decide +kernel
theorem fl_X6_make_40 : Cond.fieldLink RX6 40 "PileRecount" "reader" "LPileRecount$Reader;" ∈ wsX6_make := by decide +kernel
theorem hn_X6_make_X6 : ∀ w ∈ wsX60, w ∈ wsX6_make := fun _ h => List.mem_cons_of_mem _ (List.mem_append_left _ (List.mem_append_left _ (List.mem_append_left _ (List.mem_append_left _ (List.mem_append_left _ (List.mem_append_right _ h))))))
set_option maxHeartbeats 4000000 in
set_option maxRecDepth 100000 in
theorem c_X6_make_e (l : Launch) (D : va_G) (z : Nat) (cI cZ cP cR : ClassId) (N : Nat) (F : Nat → va_E) (n kk cw c0 : Nat) (wi rl sp : Int32) (pd : Nat → Nat → Int32) (bs od : Nat → Int32) (pi : Nat → Nat) (T : RD) (hn : Nat) (hb : Nat → Nat) (hd : Nat → RD) (sl : Nat → Option Nat) (sd : Nat → RD) (len : Nat) (pa : Nat → Int32) (cd : Nat → Nat) (hR : isRec z cI cP F 1 (nI n) wi (nI kk) (nI cw) rl (nI c0) sp pd bs od) (hnn : n ≤ 10) (hkk : kk ≤ n) (hcw : cw < 2 ^ n) (hc0 : c0 < 2 ^ 31) (hcnt : cntB cw n = kk) (hsp : sp = 0 ∨ sp = 1) (hpi : piOK bs pi n) (hC : isCl z cI cP cR N F T hn hb hd sl sd len pa) (hcd : cdOK pa cd len) (hf : ¬ fltG cd len len 0 rs0 = none) : gMi l yX6_make wsX6_make ({ frames := 5, cells := 0, slots := 0, locals := 108 }) D z cI cZ cP cR N F [.ref (z + 0)] (gRes (-3) N (fun F2 => isRec z cI cP F2 1 (nI n) wi (nI kk) (nI cw) rl (nI c0) sp pd bs od ∧ isCl z cI cP cR N F2 T hn hb hd sl sd len pa ∧ gFr 0 123 F F2)) 0 0 := by
  refine gMi.of (cc := cX6_make) (maxL := 2) (ret := (some .int)) (by decide) rfl (Nat.le_of_ble_eq_true rfl) [(0, .ref (z + 0))] rfl ?_
  intro pg ev sg mg bel me cg C hR0
  have h2n := two_lt hnn
  obtain ⟨hT, hTr, hH, hn6, hB, hD, hPd, hlen, ⟨rpt, rhd, rnu, hRe⟩, ⟨owy, oso, hOd⟩, hN, hslb, hS, hdd⟩ := hC
  refine x_aload_n C (pc := 0) 0 dX6_make_0 rfl ?_
  refine x_get C (pc := 1) (q := 0) (v := .ref (z + 118)) (ci := 6) rfl hn_X6_make_X6 5 (by decide) fl_X6_make_40 rfl (by omega) hT.1 rfl dX6_make_1 ?_
  refine x_aload_n C (pc := 4) 0 dX6_make_4 rfl ?_
  refine x_get C (pc := 5) (q := 0) (v := .ref (z + 116)) (ci := 6) rfl hn_X6_make_X6 4 (by decide) fl_X6_make_33 rfl (by omega) hT.1 rfl dX6_make_5 ?_
  refine x_cViE C (pc := 8) (st := []) (c_X4_faultOf l D z cI cZ cP cR N F 118 116 len rpt rhd rnu pa cd hRe (by omega) hPd (by omega) hlen hcd (by omega)) (cwV 1 C.2.2.2.2.1 gX6_make_X4_faultOf rfl rfl rfl hd_X4_faultOf ⟨Nat.le_of_ble_eq_true rfl, Nat.le_of_ble_eq_true rfl⟩) (by omega) hRe.ob rfl rfl rfl (Nat.le_of_ble_eq_true rfl) dX6_make_8 ⟨Nat.le_of_ble_eq_true rfl, Nat.le_of_ble_eq_true rfl⟩ (fun F_8 h_8 => ?_)
  obtain ⟨⟨t_8, hRe_8, ht_8⟩, fr_8⟩ := h_8
  have hT_8 := hT.same (fr_8 0 (by omega)) (fr_8 29 (by omega))
  have hR_8 := hR.same (F2 := F_8) (fun q _ _ => fr_8 q (by omega))
  have hTr_8 := hTr.same (F2 := F_8) (fun q _ _ => fr_8 q (by omega))
  have hH_8 := hH.same (F2 := F_8) (fun q _ _ => fr_8 q (by omega))
  have hD_8 : ∀ i, i < 6 → isRecD z cI cP F_8 (hb i) (hd i) := fun i hi => (hD i hi).same (fun q h1 h2 => fr_8 q (by have := (hB i hi).1; omega))
  have hPd_8 := hPd.same (F2 := F_8) (fun q _ _ => fr_8 q (by omega))
  have hOd_8 := hOd.same (F2 := F_8) (fun q _ _ => fr_8 q (by omega))
  have hS_8 : ∀ i, i < 2 → ∀ q, sl i = some q → isRecD z cI cP F_8 q (sd i) := fun i hi q hq => (hS i hi q hq).same (fun q2 h1 h2 => fr_8 q2 (by have := hslb i hi q hq; omega))
  refine x_bipush C (pc := 11) (v := (-6)) dX6_make_11 (by decide) ?_
  refine x_icmp_eq C (pc := 13) (tgt := 19) dX6_make_13 (by decide) (fun c_13 => absurd c_13 (fun q => hf (opI_n (n := 80) (by decide) (fun m hm => Nat.le_trans (fltG_le _ _ _ (Nat.zero_add _) hm) hlen) q))) (fun c_13 => ?_)
  refine x_bipush C (pc := 16) (v := (-3)) dX6_make_16 (by decide) ?_
  exact x_iret C hR0 rfl (Nat.le_of_ble_eq_true rfl) (Nat.le_of_ble_eq_true rfl) ⟨rfl, rfl, ⟨hR_8, ⟨hT_8, hTr_8, hH_8, hn6, hB, hD_8, hPd_8, hlen, ⟨_, _, _, hRe_8⟩, ⟨_, _, hOd_8⟩, hN, hslb, hS_8, hdd⟩, (gFr.wide (a := 0) (b := 123) fr_8 (by omega) (by omega))⟩⟩ dX6_make_18
theorem fl_X6_make_10 : Cond.fieldLink RX6 10 "PileRecount" "now" "LPileRecount$Recount;" ∈ wsX6_make := by decide +kernel
theorem fl_X6_make_177 : Cond.fieldLink RX6 177 "PileRecount$Pad" "length" "I" ∈ wsX6_make := by decide +kernel
theorem fl_X6_make_26 : Cond.fieldLink RX6 26 "PileRecount" "history" "LPileRecount$History;" ∈ wsX6_make := by decide +kernel
theorem hn_X6_make_X2 : ∀ w ∈ wsX20, w ∈ wsX6_make := fun _ h => List.mem_cons_of_mem _ (List.mem_append_left _ (List.mem_append_left _ (List.mem_append_left _ (List.mem_append_left _ (List.mem_append_right _ h)))))
set_option maxHeartbeats 4000000 in
set_option maxRecDepth 100000 in
theorem c_X6_make_s (l : Launch) (D : va_G) (z : Nat) (cI cZ cP cR : ClassId) (N : Nat) (F : Nat → va_E) (n kk cw c0 : Nat) (wi rl sp : Int32) (pd : Nat → Nat → Int32) (bs od : Nat → Int32) (pi : Nat → Nat) (T : RD) (hn : Nat) (hb : Nat → Nat) (hd : Nat → RD) (sl : Nat → Option Nat) (sd : Nat → RD) (len : Nat) (pa : Nat → Int32) (cd : Nat → Nat) (hR : isRec z cI cP F 1 (nI n) wi (nI kk) (nI cw) rl (nI c0) sp pd bs od) (hnn : n ≤ 10) (hkk : kk ≤ n) (hcw : cw < 2 ^ n) (hc0 : c0 < 2 ^ 31) (hcnt : cntB cw n = kk) (hsp : sp = 0 ∨ sp = 1) (hpi : piOK bs pi n) (hC : isCl z cI cP cR N F T hn hb hd sl sd len pa) (hcd : cdOK pa cd len) (hf : fltG cd len len 0 rs0 = none) (hwi : wi = winF pd n) (hrk : rkOK (fun i => swF wi (pd i)) n bs) : gMi l yX6_make wsX6_make ({ frames := 6, cells := 0, slots := 0, locals := 138 }) D z cI cZ cP cR N F [.ref (z + 0)] (gRes (nI (mkC cd len kk cw (len + 1) 0 rs0 0 (n, pd)).1) N (fun F2 => ∃ (hb2 : Nat → Nat) (b2 : Nat → Int32) (w2 : Int32), isRec z cI cP F2 1 (nI (mkC cd len kk cw (len + 1) 0 rs0 0 (n, pd)).2.1) w2 (nI kk) (nI cw) rl (nI c0) sp ((mkC cd len kk cw (len + 1) 0 rs0 0 (n, pd)).2.2) b2 od ∧ w2 = winF (mkC cd len kk cw (len + 1) 0 rs0 0 (n, pd)).2.2 (mkC cd len kk cw (len + 1) 0 rs0 0 (n, pd)).2.1 ∧ rkOK (fun i => swF w2 ((mkC cd len kk cw (len + 1) 0 rs0 0 (n, pd)).2.2 i)) (mkC cd len kk cw (len + 1) 0 rs0 0 (n, pd)).2.1 b2 ∧ isCl z cI cP cR N F2 T (if hn < 6 then hn + 1 else 6) hb2 (recD hn hd (mkR (nI n) wi (nI kk) (nI cw) rl (nI c0) sp pd bs od)) sl sd 0 pa ∧ gFr 0 123 F F2)) 0 0 := by
  refine gMi.of (cc := cX6_make) (maxL := 2) (ret := (some .int)) (by decide) rfl (Nat.le_of_ble_eq_true rfl) [(0, .ref (z + 0))] rfl ?_
  intro pg ev sg mg bel me cg C hR0
  have h2n := two_lt hnn
  obtain ⟨hT, hTr, hH, hn6, hB, hD, hPd, hlen, ⟨rpt, rhd, rnu, hRe⟩, ⟨owy, oso, hOd⟩, hN, hslb, hS, hdd⟩ := hC
  refine x_aload_n C (pc := 0) 0 dX6_make_0 rfl ?_
  refine x_get C (pc := 1) (q := 0) (v := .ref (z + 118)) (ci := 6) rfl hn_X6_make_X6 5 (by decide) fl_X6_make_40 rfl (by omega) hT.1 rfl dX6_make_1 ?_
  refine x_aload_n C (pc := 4) 0 dX6_make_4 rfl ?_
  refine x_get C (pc := 5) (q := 0) (v := .ref (z + 116)) (ci := 6) rfl hn_X6_make_X6 4 (by decide) fl_X6_make_33 rfl (by omega) hT.1 rfl dX6_make_5 ?_
  refine x_cViE C (pc := 8) (st := []) (c_X4_faultOf l D z cI cZ cP cR N F 118 116 len rpt rhd rnu pa cd hRe (by omega) hPd (by omega) hlen hcd (by omega)) (cwV 1 C.2.2.2.2.1 gX6_make_X4_faultOf rfl rfl rfl hd_X4_faultOf ⟨Nat.le_of_ble_eq_true rfl, Nat.le_of_ble_eq_true rfl⟩) (by omega) hRe.ob rfl rfl rfl (Nat.le_of_ble_eq_true rfl) dX6_make_8 ⟨Nat.le_of_ble_eq_true rfl, Nat.le_of_ble_eq_true rfl⟩ (fun F_8 h_8 => ?_)
  obtain ⟨⟨t_8, hRe_8, ht_8⟩, fr_8⟩ := h_8
  have hT_8 := hT.same (fr_8 0 (by omega)) (fr_8 29 (by omega))
  have hR_8 := hR.same (F2 := F_8) (fun q _ _ => fr_8 q (by omega))
  have hTr_8 := hTr.same (F2 := F_8) (fun q _ _ => fr_8 q (by omega))
  have hH_8 := hH.same (F2 := F_8) (fun q _ _ => fr_8 q (by omega))
  have hD_8 : ∀ i, i < 6 → isRecD z cI cP F_8 (hb i) (hd i) := fun i hi => (hD i hi).same (fun q h1 h2 => fr_8 q (by have := (hB i hi).1; omega))
  have hPd_8 := hPd.same (F2 := F_8) (fun q _ _ => fr_8 q (by omega))
  have hOd_8 := hOd.same (F2 := F_8) (fun q _ _ => fr_8 q (by omega))
  have hS_8 : ∀ i, i < 2 → ∀ q, sl i = some q → isRecD z cI cP F_8 q (sd i) := fun i hi q hq => (hS i hi q hq).same (fun q2 h1 h2 => fr_8 q2 (by have := hslb i hi q hq; omega))
  refine x_bipush C (pc := 11) (v := (-6)) dX6_make_11 (by decide) ?_
  refine x_icmp_eq C (pc := 13) (tgt := 19) dX6_make_13 (by decide) (fun c_13 => ?_) (fun c_13 => absurd c_13 (not_not_intro (by rw [hf]; rfl)))
  refine x_aload_n C (pc := 19) 0 dX6_make_19 rfl ?_
  refine x_get C (pc := 20) (q := 0) (v := .ref (z + 30)) (ci := 6) rfl hn_X6_make_X6 3 (by decide) fl_X6_make_26 rfl (by omega) hT_8.1 rfl dX6_make_20 ?_
  refine x_aload_n C (pc := 23) 0 dX6_make_23 rfl ?_
  refine x_get C (pc := 24) (q := 0) (v := .ref (z + 1)) (ci := 6) rfl hn_X6_make_X6 0 (by decide) fl_X6_make_10 rfl (by omega) hT_8.1 rfl dX6_make_24 ?_
  refine x_cVvE C (pc := 27) (st := []) (c_X0_record l D z cI cZ cP cR N F_8 30 hn hb hd 1 (mkR (nI n) wi (nI kk) (nI cw) rl (nI c0) sp pd bs od) hH_8 (by omega) hn6 hB hD_8 hR_8 (by omega) (by omega) hsp) (cwV 1 C.2.2.2.2.1 gX6_make_X0_record rfl rfl rfl hd_X0_record ⟨Nat.le_of_ble_eq_true rfl, Nat.le_of_ble_eq_true rfl⟩) (by omega) hH_8.ob rfl rfl rfl (Nat.le_of_ble_eq_true rfl) dX6_make_27 ⟨Nat.le_of_ble_eq_true rfl, Nat.le_of_ble_eq_true rfl⟩ (fun F_27 h_27 => ?_)
  obtain ⟨hb_27, hB_27, hH_27, hD_27, fr_27⟩ := h_27
  have hn6_27 : (if hn < 6 then hn + 1 else 6) ≤ 6 := by split <;> omega
  have hT_27 := hT_8.same (fr_27 0 (by omega)) (fr_27 29 (by omega))
  have hR_27 := hR_8.same (F2 := F_27) (fun q _ _ => fr_27 q (by omega))
  have hTr_27 := hTr_8.same (F2 := F_27) (fun q _ _ => fr_27 q (by omega))
  have hPd_27 := hPd_8.same (F2 := F_27) (fun q _ _ => fr_27 q (by omega))
  have hRe_27 := hRe_8.same (F2 := F_27) (fun q _ _ => fr_27 q (by omega))
  have hOd_27 := hOd_8.same (F2 := F_27) (fun q _ _ => fr_27 q (by omega))
  have hS_27 : ∀ i, i < 2 → ∀ q, sl i = some q → isRecD z cI cP F_27 q (sd i) := fun i hi q hq => (hS_8 i hi q hq).same (fun q2 h1 h2 => fr_27 q2 (by have := hslb i hi q hq; omega))
  refine x_aload_n C (pc := 30) 0 dX6_make_30 rfl ?_
  refine x_cVi C (pc := 31) (st := []) (c_X6_makePiles l D z cI cZ cP cR N F_27 n kk cw c0 len wi rl sp pd bs od sl t_8 pa cd hT_27 hR_27 hRe_27 hPd_27 (by omega) hlen hcd hnn hkk hcw hwi hrk) (cwV 0 C.2.2.2.2.1 gX6_make_X6_makePiles rfl rfl rfl hd_X6_makePiles ⟨Nat.le_of_ble_eq_true rfl, Nat.le_of_ble_eq_true rfl⟩) (by omega) hT_27.1 rfl rfl rfl (Nat.le_of_ble_eq_true rfl) dX6_make_31 ⟨Nat.le_of_ble_eq_true rfl, Nat.le_of_ble_eq_true rfl⟩ (fun r_31 N_31 F_31 h_31 => ?_)
  obtain ⟨hNe, rfl, ⟨b2, w2, hR_31, hw2, hrk2⟩, ⟨t2, hRe_31⟩, fr_31⟩ := h_31
  obtain rfl := hNe.symm
  have hT_31 := hT_27.same (fr_31 0 (by omega)) (fr_31 29 (by omega))
  have hTr_31 := hTr_27.same (F2 := F_31) (fun q _ _ => fr_31 q (by omega))
  have hH_31 := hH_27.same (F2 := F_31) (fun q _ _ => fr_31 q (by omega))
  have hD_31 : ∀ i, i < 6 → isRecD z cI cP F_31 (hb_27 i) ((recD hn hd (mkR (nI n) wi (nI kk) (nI cw) rl (nI c0) sp pd bs od)) i) := fun i hi => (hD_27 i hi).same (fun q h1 h2 => fr_31 q (by have := (hB_27 i hi).1; omega))
  have hPd_31 := hPd_27.same (F2 := F_31) (fun q _ _ => fr_31 q (by omega))
  have hOd_31 := hOd_27.same (F2 := F_31) (fun q _ _ => fr_31 q (by omega))
  have hS_31 : ∀ i, i < 2 → ∀ q, sl i = some q → isRecD z cI cP F_31 q (sd i) := fun i hi q hq => (hS_27 i hi q hq).same (fun q2 h1 h2 => fr_31 q2 (by have := hslb i hi q hq; omega))
  generalize eq_31 : mkC cd len kk cw (len + 1) 0 rs0 0 (n, pd) = M at *
  have gr_31 : gFr 0 123 F_27 F_31 := fun x hx => fr_31 x (by omega)
  refine x_istore_n C (pc := 34) [(1, .int (nI M.1)), (0, .ref (z + 0))] dX6_make_34 (by decide) rfl ?_
  refine x_aload_n C (pc := 35) 1 dX6_make_35 rfl ?_
  refine x_get C (pc := 36) (q := 0) (v := .ref (z + 116)) (ci := 6) rfl hn_X6_make_X6 4 (by decide) fl_X6_make_33 rfl (by omega) hT_31.1 rfl dX6_make_36 ?_
  refine x_iconst C (pc := 39) (v := 0) dX6_make_39 (by decide) ?_
  refine xw_X2_1 C (pc := 40) hn_X6_make_X2 fl_X6_make_177 hPd_31 (by omega) dX6_make_40 (fun F_40 hPd_40 fr_40 => ?_)
  have hT_40 := hT_31.same (fr_40 0 (by omega)) (fr_40 29 (by omega))
  have hR_40 := hR_31.same (F2 := F_40) (fun q _ _ => fr_40 q (by omega))
  have hTr_40 := hTr_31.same (F2 := F_40) (fun q _ _ => fr_40 q (by omega))
  have hH_40 := hH_31.same (F2 := F_40) (fun q _ _ => fr_40 q (by omega))
  have hD_40 : ∀ i, i < 6 → isRecD z cI cP F_40 (hb_27 i) ((recD hn hd (mkR (nI n) wi (nI kk) (nI cw) rl (nI c0) sp pd bs od)) i) := fun i hi => (hD_31 i hi).same (fun q h1 h2 => fr_40 q (by have := (hB_27 i hi).1; omega))
  have hRe_40 := hRe_31.same (F2 := F_40) (fun q _ _ => fr_40 q (by omega))
  have hOd_40 := hOd_31.same (F2 := F_40) (fun q _ _ => fr_40 q (by omega))
  have hS_40 : ∀ i, i < 2 → ∀ q, sl i = some q → isRecD z cI cP F_40 q (sd i) := fun i hi q hq => (hS_31 i hi q hq).same (fun q2 h1 h2 => fr_40 q2 (by have := hslb i hi q hq; omega))
  refine x_iload_n C (pc := 43) 0 dX6_make_43 rfl ?_
  exact x_iret C hR0 rfl (Nat.le_of_ble_eq_true rfl) (Nat.le_of_ble_eq_true rfl) ⟨rfl, rfl, ⟨hb_27, b2, w2, hR_40, hw2, hrk2, ⟨hT_40, hTr_40, hH_40, hn6_27, hB_27, hD_40, hPd_40, (Nat.zero_le _), ⟨_, _, _, hRe_40⟩, ⟨_, _, hOd_40⟩, hN, hslb, hS_40, hdd⟩, (gFr.t2 (gFr.t2 (gFr.t2 (gFr.wide (a := 0) (b := 123) fr_8 (by omega) (by omega)) (gFr.wide (a := 0) (b := 123) fr_27 (by omega) (by omega))) gr_31) (gFr.wide (a := 0) (b := 123) fr_40 (by omega) (by omega)))⟩⟩ dX6_make_44
