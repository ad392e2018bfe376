theorem tab_out {x : Int32} {m : Nat} (hm : m < 100) (h : ∀ i, i < m + 1 → ¬ x = nI i) : x.toInt < 0 ∨ (m : Int) < x.toInt := by
  by_cases h0 : x.toInt < 0
  · exact Or.inl h0
  · refine Or.inr ?_
    by_cases h1 : (m : Int) < x.toInt
    · exact h1
    · exfalso
      refine h x.toInt.toNat (by omega) ?_
      apply Int32.toInt_inj.mp
      rw [nI_toInt (by omega)]
      omega
def ofpF (v kk cw : Nat) (wi : Int32) (pd : Nat → Nat → Int32) (od : Nat → Int32) (x : Int32) : Int32 :=
  if x = 0 then pd v 0 else if x = 1 then pd v 1 else if x = 2 then pd v 2 else if x = 3 then sizF (pd v) else if x = 4 then plG od (nI v) kk kk 0 else
  if x = 5 then (if cw.testBit v = true then pd v 3 else -6) else if x = 6 then (if cw.testBit v = true then pd v 4 else -6) else
  if x = 7 then bz (cw.testBit v && worB wi (pd v)) else if x = 8 then (if cw.testBit v = true then -6 else if hwB wi = false then -6 else swF wi (pd v)) else -2
def stF (n kk cw c0 : Nat) (wi rl sp : Int32) (pd : Nat → Nat → Int32) (pi : Nat → Nat) (len hn : Nat) (x : Int32) : Int32 :=
  if x = 0 then nI n else if x = 1 then nI kk else if x = 2 then wi else if x = 3 then (if hwB wi = true then 100000 + leadF wi pd n 0 else -6) else if x = 4 then (if hwB wi = true then 100000 + leadF wi pd n cw else -6) else
  if x = 5 then (if hwB wi = true then opI (ndR (fun i => swF wi (pd i)) pi n cw (leadF wi pd n cw)) else -6) else if x = 6 then rbF wi pd pi n cw cw else if x = 7 then nI (worF wi pd cw n) else
  if x = 8 then sp else if x = 9 then bz (decide (rbF wi pd pi n cw cw ≤ rl)) else if x = 10 then rl else if x = 11 then nI c0 else if x = 12 then nI len else if x = 13 then nI hn else -2
theorem fl_X6_ofPile_10 : Cond.fieldLink RX6 10 "PileRecount" "now" "LPileRecount$Recount;" ∈ wsX6_ofPile := by decide +kernel
theorem hn_X6_ofPile_X6 : ∀ w ∈ wsX60, w ∈ wsX6_ofPile := fun _ h => List.mem_cons_of_mem _ (List.mem_append_left _ (List.mem_append_left _ (List.mem_append_right _ h)))
set_option maxHeartbeats 4000000 in
set_option maxRecDepth 100000 in
theorem c_X6_ofPile_e (l : Launch) (D : va_G) (z : Nat) (cI cZ cP cR : ClassId) (N : Nat) (F : Nat → va_E) (n kk cw c0 : Nat) (wi rl sp : Int32) (pd : Nat → Nat → Int32) (bs od : Nat → Int32) (pi : Nat → Nat) (T : RD) (hn : Nat) (hb : Nat → Nat) (hd : Nat → RD) (sl : Nat → Option Nat) (sd : Nat → RD) (len : Nat) (pa : Nat → Int32) (v x : Int32) (hR : isRec z cI cP F 1 (nI n) wi (nI kk) (nI cw) rl (nI c0) sp pd bs od) (hnn : n ≤ 10) (hkk : kk ≤ n) (hcw : cw < 2 ^ n) (hc0 : c0 < 2 ^ 31) (hcnt : cntB cw n = kk) (hsp : sp = 0 ∨ sp = 1) (hpi : piOK bs pi n) (hC : isCl z cI cP cR N F T hn hb hd sl sd len pa) (hv : inP v (nI n) = false) : gMi l yX6_ofPile wsX6_ofPile ({ frames := 1, cells := 0, slots := 0, locals := 21 }) D z cI cZ cP cR N F [.ref (z + 0), .int v, .int x] (gRes (-1) N (fun F2 => F2 = F)) 0 0 := by
  refine gMi.of (cc := cX6_ofPile) (maxL := 5) (ret := (some .int)) (by decide) rfl (Nat.le_of_ble_eq_true rfl) [(0, .ref (z + 0)), (1, .int v), (2, .int x)] rfl ?_
  intro pg ev sg mg bel me cg C hR0
  have h2n := two_lt hnn
  obtain ⟨hT, hTr, hH, hn6, hB, hD, hPd, hlen, ⟨rpt, rhd, rnu, hRe⟩, ⟨owy, oso, hOd⟩, hN, hslb, hS, hdd⟩ := hC
  refine x_aload_n C (pc := 0) 0 dX6_ofPile_0 rfl ?_
  refine x_get C (pc := 1) (q := 0) (v := .ref (z + 1)) (ci := 6) rfl hn_X6_ofPile_X6 0 (by decide) fl_X6_ofPile_10 rfl (by omega) hT.1 rfl dX6_ofPile_1 ?_
  refine x_iload_n C (pc := 4) 1 dX6_ofPile_4 rfl ?_
  refine x_cViR C (pc := 5) (st := []) (c_X5_hasPile l D z cI cZ cP cR N F 1 (nI n) wi (nI kk) (nI cw) rl (nI c0) sp pd bs od v hR (by omega)) (cwV 1 C.2.2.2.2.1 gX6_ofPile_X5_hasPile rfl rfl rfl hd_X5_hasPile ⟨Nat.le_of_ble_eq_true rfl, Nat.le_of_ble_eq_true rfl⟩) (by omega) hR.ob rfl rfl rfl (Nat.le_of_ble_eq_true rfl) dX6_ofPile_5 ⟨Nat.le_of_ble_eq_true rfl, Nat.le_of_ble_eq_true rfl⟩ ?_
  refine x_bz_ne C (pc := 8) (tgt := 13) dX6_ofPile_8 (by decide) (fun c_8 => absurd c_8 (by rw [hv]; decide)) (fun c_8 => ?_)
  refine x_iconst C (pc := 11) (v := (-1)) dX6_ofPile_11 (by decide) ?_
  exact x_iret C hR0 rfl (Nat.le_of_ble_eq_true rfl) (Nat.le_of_ble_eq_true rfl) ⟨rfl, rfl, rfl⟩ dX6_ofPile_12
theorem fl_X6_ofPile_121 : Cond.fieldLink RX6 121 "PileRecount$Recount" "rows" "[LPileRecount$Pile;" ∈ wsX6_ofPile := by decide +kernel
theorem fl_X6_ofPile_125 : Cond.fieldLink RX6 125 "PileRecount$Pile" "zero" "I" ∈ wsX6_ofPile := by decide +kernel
theorem fl_X6_ofPile_130 : Cond.fieldLink RX6 130 "PileRecount$Pile" "one" "I" ∈ wsX6_ofPile := by decide +kernel
theorem fl_X6_ofPile_133 : Cond.fieldLink RX6 133 "PileRecount$Pile" "blanks" "I" ∈ wsX6_ofPile := by decide +kernel
theorem fl_X6_ofPile_143 : Cond.fieldLink RX6 143 "PileRecount$Pile" "foundZero" "I" ∈ wsX6_ofPile := by decide +kernel
theorem fl_X6_ofPile_146 : Cond.fieldLink RX6 146 "PileRecount$Pile" "foundOne" "I" ∈ wsX6_ofPile := by decide +kernel
theorem fl_X6_ofPile_149 : Cond.fieldLink RX6 149 "PileRecount$Recount" "winner" "I" ∈ wsX6_ofPile := by decide +kernel
theorem fl_X6_ofPile_94 : Cond.fieldLink RX6 94 "PileRecount$Recount" "countedSet" "I" ∈ wsX6_ofPile := by decide +kernel
theorem hn_X6_ofPile_X3 : ∀ w ∈ wsX30, w ∈ wsX6_ofPile := fun _ h => List.mem_cons_of_mem _ (List.mem_append_right _ h)
theorem hn_X6_ofPile_X5 : ∀ w ∈ wsX50, w ∈ wsX6_ofPile := fun _ h => List.mem_cons_of_mem _ (List.mem_append_left _ (List.mem_append_right _ h))
set_option maxHeartbeats 4000000 in
set_option maxRecDepth 100000 in
theorem c_X6_ofPile_s (l : Launch) (D : va_G) (z : Nat) (cI cZ cP cR : ClassId) (N : Nat) (F : Nat → va_E) (n kk cw c0 : Nat) (wi rl sp : Int32) (pd : Nat → Nat → Int32) (bs od : Nat → Int32) (pi : Nat → Nat) (T : RD) (hn : Nat) (hb : Nat → Nat) (hd : Nat → RD) (sl : Nat → Option Nat) (sd : Nat → RD) (len : Nat) (pa : Nat → Int32) (v : Nat) (x : Int32) (hR : isRec z cI cP F 1 (nI n) wi (nI kk) (nI cw) rl (nI c0) sp pd bs od) (hnn : n ≤ 10) (hkk : kk ≤ n) (hcw : cw < 2 ^ n) (hc0 : c0 < 2 ^ 31) (hcnt : cntB cw n = kk) (hsp : sp = 0 ∨ sp = 1) (hpi : piOK bs pi n) (hC : isCl z cI cP cR N F T hn hb hd sl sd len pa) (hv : inP (nI v) (nI n) = true) (hvn : v < n) : gMi l yX6_ofPile wsX6_ofPile ({ frames := 2, cells := 0, slots := 0, locals := 42 }) D z cI cZ cP cR N F [.ref (z + 0), .int (nI v), .int x] (gRes (ofpF v kk cw wi pd od x) N (fun F2 => F2 = F)) 0 0 := by
  refine gMi.of (cc := cX6_ofPile) (maxL := 5) (ret := (some .int)) (by decide) rfl (Nat.le_of_ble_eq_true rfl) [(0, .ref (z + 0)), (1, .int (nI v)), (2, .int x)] rfl ?_
  intro pg ev sg mg bel me cg C hR0
  have h2n := two_lt hnn
  obtain ⟨hT, hTr, hH, hn6, hB, hD, hPd, hlen, ⟨rpt, rhd, rnu, hRe⟩, ⟨owy, oso, hOd⟩, hN, hslb, hS, hdd⟩ := hC
  refine x_aload_n C (pc := 0) 0 dX6_ofPile_0 rfl ?_
  refine x_get C (pc := 1) (q := 0) (v := .ref (z + 1)) (ci := 6) rfl hn_X6_ofPile_X6 0 (by decide) fl_X6_ofPile_10 rfl (by omega) hT.1 rfl dX6_ofPile_1 ?_
  refine x_iload_n C (pc := 4) 1 dX6_ofPile_4 rfl ?_
  refine x_cViR C (pc := 5) (st := []) (c_X5_hasPile l D z cI cZ cP cR N F 1 (nI n) wi (nI kk) (nI cw) rl (nI c0) sp pd bs od (nI v) hR (by omega)) (cwV 1 C.2.2.2.2.1 gX6_ofPile_X5_hasPile rfl rfl rfl hd_X5_hasPile ⟨Nat.le_of_ble_eq_true rfl, Nat.le_of_ble_eq_true rfl⟩) (by omega) hR.ob rfl rfl rfl (Nat.le_of_ble_eq_true rfl) dX6_ofPile_5 ⟨Nat.le_of_ble_eq_true rfl, Nat.le_of_ble_eq_true rfl⟩ ?_
  refine x_bz_ne C (pc := 8) (tgt := 13) dX6_ofPile_8 (by decide) (fun c_8 => ?_) (fun c_8 => absurd c_8 (by rw [hv]; decide))
  refine x_aload_n C (pc := 13) 0 dX6_ofPile_13 rfl ?_
  refine x_get C (pc := 14) (q := 0) (v := .ref (z + 1)) (ci := 6) rfl hn_X6_ofPile_X6 0 (by decide) fl_X6_ofPile_10 rfl (by omega) hT.1 rfl dX6_ofPile_14 ?_
  refine x_get C (pc := 17) (q := 1) (v := .ref (z + (1 + 1))) (ci := 5) rfl hn_X6_ofPile_X5 0 (by decide) fl_X6_ofPile_121 rfl (by omega) hR.ob rfl dX6_ofPile_17 ?_
  refine x_iload_n C (pc := 20) 1 dX6_ofPile_20 rfl ?_
  refine xr_row C (pc := 21) (j := v) hR (by omega) rfl (by omega) dX6_ofPile_21 ?_
  refine x_astore_n C (pc := 22) [(3, .ref (z + (1 + 2 + v))), (0, .ref (z + 0)), (1, .int (nI v)), (2, .int x)] dX6_ofPile_22 (by decide) rfl ?_
  refine x_aload_n C (pc := 23) 1 dX6_ofPile_23 rfl ?_
  refine x_get C (pc := 24) (q := 0) (v := .ref (z + 1)) (ci := 6) rfl hn_X6_ofPile_X6 0 (by decide) fl_X6_ofPile_10 rfl (by omega) hT.1 rfl dX6_ofPile_24 ?_
  refine x_get C (pc := 27) (q := 1) (v := .int (nI cw)) (ci := 5) rfl hn_X6_ofPile_X5 6 (by decide) fl_X6_ofPile_94 rfl (by omega) hR.ob rfl dX6_ofPile_27 ?_
  refine x_iload_n C (pc := 30) 2 dX6_ofPile_30 rfl ?_
  refine x_cSiR C (pc := 31) (st := []) (c_X6_has l D z cI cZ cP cR N F cw v (by omega) (by omega)) (va_cwS 2 C.2.2.2.2.1 gX6_ofPile_X6_has rfl rfl rfl hd_X6_has.2 ⟨Nat.le_of_ble_eq_true rfl, Nat.le_of_ble_eq_true rfl⟩) rfl rfl (Nat.le_of_ble_eq_true rfl) dX6_ofPile_31 ⟨Nat.le_of_ble_eq_true rfl, Nat.le_of_ble_eq_true rfl⟩ ?_
  refine x_istore C (pc := 34) [(4, .int (bz ((cw).testBit v))), (3, .ref (z + (1 + 2 + v))), (0, .ref (z + 0)), (1, .int (nI v)), (2, .int x)] dX6_ofPile_34 (by decide) rfl ?_
  refine x_iload_n C (pc := 36) 4 dX6_ofPile_36 rfl ?_
  by_cases hs0 : x = 0
  · refine x_tableIn C (pc := 37) (off := 51) (tgt := 88) dX6_ofPile_37 (by rw [hs0]; decide) (by rw [hs0]; decide) (by rw [hs0]; rfl) (by decide) ?_
    refine x_aload_n C (pc := 88) 1 dX6_ofPile_88 rfl ?_
    refine x_get C (pc := 89) (q := 1 + 2 + v) (v := .int (pd v 0)) (ci := 3) rfl hn_X6_ofPile_X3 0 (by decide) fl_X6_ofPile_125 rfl (by omega) (hR.pile (by omega)) rfl dX6_ofPile_89 ?_
    exact x_iret C hR0 rfl (Nat.le_of_ble_eq_true rfl) (Nat.le_of_ble_eq_true rfl) ⟨(by rw [ofpF, if_pos hs0]), rfl, rfl⟩ dX6_ofPile_92
  by_cases hs1 : x = 1
  · refine x_tableIn C (pc := 37) (off := 56) (tgt := 93) dX6_ofPile_37 (by rw [hs1]; decide) (by rw [hs1]; decide) (by rw [hs1]; rfl) (by decide) ?_
    refine x_aload_n C (pc := 93) 1 dX6_ofPile_93 rfl ?_
    refine x_get C (pc := 94) (q := 1 + 2 + v) (v := .int (pd v 1)) (ci := 3) rfl hn_X6_ofPile_X3 1 (by decide) fl_X6_ofPile_130 rfl (by omega) (hR.pile (by omega)) rfl dX6_ofPile_94 ?_
    exact x_iret C hR0 rfl (Nat.le_of_ble_eq_true rfl) (Nat.le_of_ble_eq_true rfl) ⟨(by rw [ofpF, if_neg hs0, if_pos hs1]), rfl, rfl⟩ dX6_ofPile_97
  by_cases hs2 : x = 2
  · refine x_tableIn C (pc := 37) (off := 61) (tgt := 98) dX6_ofPile_37 (by rw [hs2]; decide) (by rw [hs2]; decide) (by rw [hs2]; rfl) (by decide) ?_
    refine x_aload_n C (pc := 98) 1 dX6_ofPile_98 rfl ?_
    refine x_get C (pc := 99) (q := 1 + 2 + v) (v := .int (pd v 2)) (ci := 3) rfl hn_X6_ofPile_X3 2 (by decide) fl_X6_ofPile_133 rfl (by omega) (hR.pile (by omega)) rfl dX6_ofPile_99 ?_
    exact x_iret C hR0 rfl (Nat.le_of_ble_eq_true rfl) (Nat.le_of_ble_eq_true rfl) ⟨(by rw [ofpF, if_neg hs0, if_neg hs1, if_pos hs2]), rfl, rfl⟩ dX6_ofPile_102
  by_cases hs3 : x = 3
  · refine x_tableIn C (pc := 37) (off := 66) (tgt := 103) dX6_ofPile_37 (by rw [hs3]; decide) (by rw [hs3]; decide) (by rw [hs3]; rfl) (by decide) ?_
    refine x_aload_n C (pc := 103) 1 dX6_ofPile_103 rfl ?_
    refine x_cViR C (pc := 104) (st := []) (c_X3_size l D z cI cZ cP cR N F (1 + 2 + v) (pd v) (by omega) (hR.pile (by omega))) (cwV 0 C.2.2.2.2.1 gX6_ofPile_X3_size rfl rfl rfl hd_X3_size ⟨Nat.le_of_ble_eq_true rfl, Nat.le_of_ble_eq_true rfl⟩) (by omega) (hR.pile (by omega)) rfl rfl rfl (Nat.le_of_ble_eq_true rfl) dX6_ofPile_104 ⟨Nat.le_of_ble_eq_true rfl, Nat.le_of_ble_eq_true rfl⟩ ?_
    exact x_iret C hR0 rfl (Nat.le_of_ble_eq_true rfl) (Nat.le_of_ble_eq_true rfl) ⟨(by rw [ofpF, if_neg hs0, if_neg hs1, if_neg hs2, if_pos hs3]), rfl, rfl⟩ dX6_ofPile_107
  by_cases hs4 : x = 4
  · refine x_tableIn C (pc := 37) (off := 71) (tgt := 108) dX6_ofPile_37 (by rw [hs4]; decide) (by rw [hs4]; decide) (by rw [hs4]; rfl) (by decide) ?_
    refine x_aload_n C (pc := 108) 2 dX6_ofPile_108 rfl ?_
    refine x_get C (pc := 109) (q := 0) (v := .ref (z + 1)) (ci := 6) rfl hn_X6_ofPile_X6 0 (by decide) fl_X6_ofPile_10 rfl (by omega) hT.1 rfl dX6_ofPile_109 ?_
    refine x_iload_n C (pc := 112) 3 dX6_ofPile_112 rfl ?_
    refine x_cViR C (pc := 113) (st := []) (c_X5_placeOf l D z cI cZ cP cR N F 1 kk (nI n) wi (nI cw) rl (nI c0) sp pd bs od (nI v) hR (by omega) (by omega)) (cwV 1 C.2.2.2.2.1 gX6_ofPile_X5_placeOf rfl rfl rfl hd_X5_placeOf ⟨Nat.le_of_ble_eq_true rfl, Nat.le_of_ble_eq_true rfl⟩) (by omega) hR.ob rfl rfl rfl (Nat.le_of_ble_eq_true rfl) dX6_ofPile_113 ⟨Nat.le_of_ble_eq_true rfl, Nat.le_of_ble_eq_true rfl⟩ ?_
    exact x_iret C hR0 rfl (Nat.le_of_ble_eq_true rfl) (Nat.le_of_ble_eq_true rfl) ⟨(by rw [ofpF, if_neg hs0, if_neg hs1, if_neg hs2, if_neg hs3, if_pos hs4]), rfl, rfl⟩ dX6_ofPile_116
  by_cases hs5 : x = 5
  · refine x_tableIn C (pc := 37) (off := 80) (tgt := 117) dX6_ofPile_37 (by rw [hs5]; decide) (by rw [hs5]; decide) (by rw [hs5]; rfl) (by decide) ?_
    refine x_iload C (pc := 117) 0 dX6_ofPile_117 rfl ?_
    refine x_bz_eq C (pc := 119) (tgt := 129) dX6_ofPile_119 (by decide) (fun c_119 => ?_) (fun c_119 => ?_)
    · refine x_bipush C (pc := 129) (v := (-6)) dX6_ofPile_129 (by decide) ?_
      exact x_iret C hR0 rfl (Nat.le_of_ble_eq_true rfl) (Nat.le_of_ble_eq_true rfl) ⟨(by rw [ofpF, if_neg hs0, if_neg hs1, if_neg hs2, if_neg hs3, if_neg hs4, if_pos hs5]; rw [if_neg (by rw [c_119]; decide)]), rfl, rfl⟩ dX6_ofPile_131
    refine x_aload_n C (pc := 122) 1 dX6_ofPile_122 rfl ?_
    refine x_get C (pc := 123) (q := 1 + 2 + v) (v := .int (pd v 3)) (ci := 3) rfl hn_X6_ofPile_X3 3 (by decide) fl_X6_ofPile_143 rfl (by omega) (hR.pile (by omega)) rfl dX6_ofPile_123 ?_
    refine x_goto C (pc := 126) (tgt := 131) dX6_ofPile_126 (by decide) ?_
    exact x_iret C hR0 rfl (Nat.le_of_ble_eq_true rfl) (Nat.le_of_ble_eq_true rfl) ⟨(by rw [ofpF, if_neg hs0, if_neg hs1, if_neg hs2, if_neg hs3, if_neg hs4, if_pos hs5]; rw [if_pos c_119]), rfl, rfl⟩ dX6_ofPile_131
  by_cases hs6 : x = 6
  · refine x_tableIn C (pc := 37) (off := 95) (tgt := 132) dX6_ofPile_37 (by rw [hs6]; decide) (by rw [hs6]; decide) (by rw [hs6]; rfl) (by decide) ?_
    refine x_iload C (pc := 132) 0 dX6_ofPile_132 rfl ?_
    refine x_bz_eq C (pc := 134) (tgt := 144) dX6_ofPile_134 (by decide) (fun c_134 => ?_) (fun c_134 => ?_)
    · refine x_bipush C (pc := 144) (v := (-6)) dX6_ofPile_144 (by decide) ?_
      exact x_iret C hR0 rfl (Nat.le_of_ble_eq_true rfl) (Nat.le_of_ble_eq_true rfl) ⟨(by rw [ofpF, if_neg hs0, if_neg hs1, if_neg hs2, if_neg hs3, if_neg hs4, if_neg hs5, if_pos hs6]; rw [if_neg (by rw [c_134]; decide)]), rfl, rfl⟩ dX6_ofPile_146
    refine x_aload_n C (pc := 137) 1 dX6_ofPile_137 rfl ?_
    refine x_get C (pc := 138) (q := 1 + 2 + v) (v := .int (pd v 4)) (ci := 3) rfl hn_X6_ofPile_X3 4 (by decide) fl_X6_ofPile_146 rfl (by omega) (hR.pile (by omega)) rfl dX6_ofPile_138 ?_
    refine x_goto C (pc := 141) (tgt := 146) dX6_ofPile_141 (by decide) ?_
    exact x_iret C hR0 rfl (Nat.le_of_ble_eq_true rfl) (Nat.le_of_ble_eq_true rfl) ⟨(by rw [ofpF, if_neg hs0, if_neg hs1, if_neg hs2, if_neg hs3, if_neg hs4, if_neg hs5, if_pos hs6]; rw [if_pos c_134]), rfl, rfl⟩ dX6_ofPile_146
  by_cases hs7 : x = 7
  · refine x_tableIn C (pc := 37) (off := 110) (tgt := 147) dX6_ofPile_37 (by rw [hs7]; decide) (by rw [hs7]; decide) (by rw [hs7]; rfl) (by decide) ?_
    refine x_iload C (pc := 147) 0 dX6_ofPile_147 rfl ?_
    refine x_bz_eq C (pc := 149) (tgt := 170) dX6_ofPile_149 (by decide) (fun c_149 => ?_) (fun c_149 => ?_)
    · refine x_iconst C (pc := 170) (v := 0) dX6_ofPile_170 (by decide) ?_
      exact x_iret C hR0 rfl (Nat.le_of_ble_eq_true rfl) (Nat.le_of_ble_eq_true rfl) ⟨(by rw [ofpF, if_neg hs0, if_neg hs1, if_neg hs2, if_neg hs3, if_neg hs4, if_neg hs5, if_neg hs6, if_pos hs7]; first | (rw [c_149, c_163]; rfl) | (rw [c_149]; rfl)), rfl, rfl⟩ dX6_ofPile_171
    refine x_aload_n C (pc := 152) 1 dX6_ofPile_152 rfl ?_
    refine x_aload_n C (pc := 153) 2 dX6_ofPile_153 rfl ?_
    refine x_get C (pc := 154) (q := 0) (v := .ref (z + 1)) (ci := 6) rfl hn_X6_ofPile_X6 0 (by decide) fl_X6_ofPile_10 rfl (by omega) hT.1 rfl dX6_ofPile_154 ?_
    refine x_get C (pc := 157) (q := 1) (v := .int wi) (ci := 5) rfl hn_X6_ofPile_X5 2 (by decide) fl_X6_ofPile_149 rfl (by omega) hR.ob rfl dX6_ofPile_157 ?_
    refine x_cViR C (pc := 160) (st := []) (c_X3_isWorse l D z cI cZ cP cR N F (1 + 2 + v) (pd v) (by omega) (hR.pile (by omega)) wi) (cwV 1 C.2.2.2.2.1 gX6_ofPile_X3_isWorse rfl rfl rfl hd_X3_isWorse ⟨Nat.le_of_ble_eq_true rfl, Nat.le_of_ble_eq_true rfl⟩) (by omega) (hR.pile (by omega)) rfl rfl rfl (Nat.le_of_ble_eq_true rfl) dX6_ofPile_160 ⟨Nat.le_of_ble_eq_true rfl, Nat.le_of_ble_eq_true rfl⟩ ?_
    refine x_bz_eq C (pc := 163) (tgt := 170) dX6_ofPile_163 (by decide) (fun c_163 => ?_) (fun c_163 => ?_)
    · refine x_iconst C (pc := 170) (v := 0) dX6_ofPile_170 (by decide) ?_
      exact x_iret C hR0 rfl (Nat.le_of_ble_eq_true rfl) (Nat.le_of_ble_eq_true rfl) ⟨(by rw [ofpF, if_neg hs0, if_neg hs1, if_neg hs2, if_neg hs3, if_neg hs4, if_neg hs5, if_neg hs6, if_pos hs7]; first | (rw [c_149, c_163]; rfl) | (rw [c_149]; rfl)), rfl, rfl⟩ dX6_ofPile_171
    refine x_iconst C (pc := 166) (v := 1) dX6_ofPile_166 (by decide) ?_
    refine x_goto C (pc := 167) (tgt := 171) dX6_ofPile_167 (by decide) ?_
    exact x_iret C hR0 rfl (Nat.le_of_ble_eq_true rfl) (Nat.le_of_ble_eq_true rfl) ⟨(by rw [ofpF, if_neg hs0, if_neg hs1, if_neg hs2, if_neg hs3, if_neg hs4, if_neg hs5, if_neg hs6, if_pos hs7]; first | (rw [c_149, c_163]; rfl) | (rw [c_149]; rfl)), rfl, rfl⟩ dX6_ofPile_171
  by_cases hs8 : x = 8
  · refine x_tableIn C (pc := 37) (off := 135) (tgt := 172) dX6_ofPile_37 (by rw [hs8]; decide) (by rw [hs8]; decide) (by rw [hs8]; rfl) (by decide) ?_
    refine x_iload C (pc := 172) 0 dX6_ofPile_172 rfl ?_
    refine x_bz_ne C (pc := 174) (tgt := 187) dX6_ofPile_174 (by decide) (fun c_174 => ?_) (fun c_174 => ?_)
    · refine x_bipush C (pc := 187) (v := (-6)) dX6_ofPile_187 (by decide) ?_
      refine x_goto C (pc := 189) (tgt := 203) dX6_ofPile_189 (by decide) ?_
      exact x_iret C hR0 rfl (Nat.le_of_ble_eq_true rfl) (Nat.le_of_ble_eq_true rfl) ⟨(by rw [ofpF, if_neg hs0, if_neg hs1, if_neg hs2, if_neg hs3, if_neg hs4, if_neg hs5, if_neg hs6, if_neg hs7, if_pos hs8]; first | (rw [if_pos c_174]) | (rw [if_neg (by rw [c_174]; decide), if_pos c_184]) | (rw [if_neg (by rw [c_174]; decide), if_neg (by rw [c_184]; decide)])), rfl, rfl⟩ dX6_ofPile_203
    refine x_aload_n C (pc := 177) 2 dX6_ofPile_177 rfl ?_
    refine x_get C (pc := 178) (q := 0) (v := .ref (z + 1)) (ci := 6) rfl hn_X6_ofPile_X6 0 (by decide) fl_X6_ofPile_10 rfl (by omega) hT.1 rfl dX6_ofPile_178 ?_
    refine x_cViR C (pc := 181) (st := []) (c_X5_hasWinner l D z cI cZ cP cR N F 1 (nI n) wi (nI kk) (nI cw) rl (nI c0) sp pd bs od hR (by omega)) (cwV 0 C.2.2.2.2.1 gX6_ofPile_X5_hasWinner rfl rfl rfl hd_X5_hasWinner ⟨Nat.le_of_ble_eq_true rfl, Nat.le_of_ble_eq_true rfl⟩) (by omega) hR.ob rfl rfl rfl (Nat.le_of_ble_eq_true rfl) dX6_ofPile_181 ⟨Nat.le_of_ble_eq_true rfl, Nat.le_of_ble_eq_true rfl⟩ ?_
    refine x_bz_ne C (pc := 184) (tgt := 192) dX6_ofPile_184 (by decide) (fun c_184 => ?_) (fun c_184 => ?_)
    · refine x_aload_n C (pc := 192) 1 dX6_ofPile_192 rfl ?_
      refine x_aload_n C (pc := 193) 2 dX6_ofPile_193 rfl ?_
      refine x_get C (pc := 194) (q := 0) (v := .ref (z + 1)) (ci := 6) rfl hn_X6_ofPile_X6 0 (by decide) fl_X6_ofPile_10 rfl (by omega) hT.1 rfl dX6_ofPile_194 ?_
      refine x_get C (pc := 197) (q := 1) (v := .int wi) (ci := 5) rfl hn_X6_ofPile_X5 2 (by decide) fl_X6_ofPile_149 rfl (by omega) hR.ob rfl dX6_ofPile_197 ?_
      refine x_cViR C (pc := 200) (st := []) (c_X3_swing l D z cI cZ cP cR N F (1 + 2 + v) (pd v) (by omega) (hR.pile (by omega)) wi) (cwV 1 C.2.2.2.2.1 gX6_ofPile_X3_swing rfl rfl rfl hd_X3_swing ⟨Nat.le_of_ble_eq_true rfl, Nat.le_of_ble_eq_true rfl⟩) (by omega) (hR.pile (by omega)) rfl rfl rfl (Nat.le_of_ble_eq_true rfl) dX6_ofPile_200 ⟨Nat.le_of_ble_eq_true rfl, Nat.le_of_ble_eq_true rfl⟩ ?_
      exact x_iret C hR0 rfl (Nat.le_of_ble_eq_true rfl) (Nat.le_of_ble_eq_true rfl) ⟨(by rw [ofpF, if_neg hs0, if_neg hs1, if_neg hs2, if_neg hs3, if_neg hs4, if_neg hs5, if_neg hs6, if_neg hs7, if_pos hs8]; first | (rw [if_pos c_174]) | (rw [if_neg (by rw [c_174]; decide), if_pos c_184]) | (rw [if_neg (by rw [c_174]; decide), if_neg (by rw [c_184]; decide)])), rfl, rfl⟩ dX6_ofPile_203
    refine x_bipush C (pc := 187) (v := (-6)) dX6_ofPile_187 (by decide) ?_
    refine x_goto C (pc := 189) (tgt := 203) dX6_ofPile_189 (by decide) ?_
    exact x_iret C hR0 rfl (Nat.le_of_ble_eq_true rfl) (Nat.le_of_ble_eq_true rfl) ⟨(by rw [ofpF, if_neg hs0, if_neg hs1, if_neg hs2, if_neg hs3, if_neg hs4, if_neg hs5, if_neg hs6, if_neg hs7, if_pos hs8]; first | (rw [if_pos c_174]) | (rw [if_neg (by rw [c_174]; decide), if_pos c_184]) | (rw [if_neg (by rw [c_174]; decide), if_neg (by rw [c_184]; decide)])), rfl, rfl⟩ dX6_ofPile_203
  refine x_tableOut C (pc := 37) (tgt := 204) dX6_ofPile_37 (tab_out (m := 8) (by decide) (fun i hi => by match i, hi with | 0, _ => exact hs0 | 1, _ => exact hs1 | 2, _ => exact hs2 | 3, _ => exact hs3 | 4, _ => exact hs4 | 5, _ => exact hs5 | 6, _ => exact hs6 | 7, _ => exact hs7 | 8, _ => exact hs8)) (by decide) ?_
  refine x_bipush C (pc := 204) (v := (-2)) dX6_ofPile_204 (by decide) ?_
  exact x_iret C hR0 rfl (Nat.le_of_ble_eq_true rfl) (Nat.le_of_ble_eq_true rfl) ⟨(by rw [ofpF, if_neg hs0, if_neg hs1, if_neg hs2, if_neg hs3, if_neg hs4, if_neg hs5, if_neg hs6, if_neg hs7, if_neg hs8]), rfl, rfl⟩ dX6_ofPile_206
theorem fl_X6_state_10 : Cond.fieldLink RX6 10 "PileRecount" "now" "LPileRecount$Recount;" ∈ wsX6_state := by decide +kernel
theorem fl_X6_state_114 : Cond.fieldLink RX6 114 "PileRecount$Recount" "stopped" "Z" ∈ wsX6_state := by decide +kernel
theorem fl_X6_state_149 : Cond.fieldLink RX6 149 "PileRecount$Recount" "winner" "I" ∈ wsX6_state := by decide +kernel
theorem fl_X6_state_161 : Cond.fieldLink RX6 161 "PileRecount$Recount" "piles" "I" ∈ wsX6_state := by decide +kernel
theorem fl_X6_state_177 : Cond.fieldLink RX6 177 "PileRecount$Pad" "length" "I" ∈ wsX6_state := by decide +kernel
theorem fl_X6_state_180 : Cond.fieldLink RX6 180 "PileRecount$History" "length" "I" ∈ wsX6_state := by decide +kernel
theorem fl_X6_state_26 : Cond.fieldLink RX6 26 "PileRecount" "history" "LPileRecount$History;" ∈ wsX6_state := by decide +kernel
theorem fl_X6_state_33 : Cond.fieldLink RX6 33 "PileRecount" "pad" "LPileRecount$Pad;" ∈ wsX6_state := by decide +kernel
theorem fl_X6_state_69 : Cond.fieldLink RX6 69 "PileRecount$Recount" "countedPiles" "I" ∈ wsX6_state := by decide +kernel
theorem fl_X6_state_73 : Cond.fieldLink RX6 73 "PileRecount$Recount" "riskLimit" "I" ∈ wsX6_state := by decide +kernel
theorem fl_X6_state_76 : Cond.fieldLink RX6 76 "PileRecount$Recount" "chooser" "I" ∈ wsX6_state := by decide +kernel
theorem fl_X6_state_94 : Cond.fieldLink RX6 94 "PileRecount$Recount" "countedSet" "I" ∈ wsX6_state := by decide +kernel
theorem hn_X6_state_X0 : ∀ w ∈ wsX00, w ∈ wsX6_state := fun _ h => List.mem_cons_of_mem _ (List.mem_append_left _ (List.mem_append_right _ h))
theorem hn_X6_state_X2 : ∀ w ∈ wsX20, w ∈ wsX6_state := fun _ h => List.mem_cons_of_mem _ (List.mem_append_left _ (List.mem_append_left _ (List.mem_append_right _ h)))
theorem hn_X6_state_X5 : ∀ w ∈ wsX50, w ∈ wsX6_state := fun _ h => List.mem_cons_of_mem _ (List.mem_append_left _ (List.mem_append_left _ (List.mem_append_left _ (List.mem_append_right _ h))))
theorem hn_X6_state_X6 : ∀ w ∈ wsX60, w ∈ wsX6_state := fun _ h => List.mem_cons_of_mem _ (List.mem_append_left _ (List.mem_append_left _ (List.mem_append_left _ (List.mem_append_left _ (List.mem_append_right _ h)))))
theorem kc_X6_state_65 : Cond.constant RX6 65 (100000) ∈ wsX6_state := by decide +kernel
set_option maxHeartbeats 4000000 in
set_option maxRecDepth 100000 in
theorem c_X6_state (l : Launch) (D : va_G) (z : Nat) (cI cZ cP cR : ClassId) (N : Nat) (F : Nat → va_E) (n kk cw c0 : Nat) (wi rl sp : Int32) (pd : Nat → Nat → Int32) (bs od : Nat → Int32) (pi : Nat → Nat) (T : RD) (hn : Nat) (hb : Nat → Nat) (hd : Nat → RD) (sl : Nat → Option Nat) (sd : Nat → RD) (len : Nat) (pa : Nat → Int32) (x : Int32) (hR : isRec z cI cP F 1 (nI n) wi (nI kk) (nI cw) rl (nI c0) sp pd bs od) (hnn : n ≤ 10) (hkk : kk ≤ n) (hcw : cw < 2 ^ n) (hc0 : c0 < 2 ^ 31) (hcnt : cntB cw n = kk) (hsp : sp = 0 ∨ sp = 1) (hpi : piOK bs pi n) (hC : isCl z cI cP cR N F T hn hb hd sl sd len pa)  : gMi l yX6_state wsX6_state ({ frames := 5, cells := 0, slots := 0, locals := 112 }) D z cI cZ cP cR N F [.ref (z + 0), .int x] (gRes (stF n kk cw c0 wi rl sp pd pi len hn x) N (fun F2 => F2 = F)) 0 0 := by
  refine gMi.of (cc := cX6_state) (maxL := 2) (ret := (some .int)) (by decide) rfl (Nat.le_of_ble_eq_true rfl) [(0, .ref (z + 0)), (1, .int x)] rfl ?_
  intro pg ev sg mg bel me cg C hR0
  have h2n := two_lt hnn
  obtain ⟨hT, hTr, hH, hn6, hB, hD, hPd, hlen, ⟨rpt, rhd, rnu, hRe⟩, ⟨owy, oso, hOd⟩, hN, hslb, hS, hdd⟩ := hC
  refine x_iload_n C (pc := 0) 1 dX6_state_0 rfl ?_
  by_cases hs0 : x = 0
  · refine x_tableIn C (pc := 1) (off := 71) (tgt := 72) dX6_state_1 (by rw [hs0]; decide) (by rw [hs0]; decide) (by rw [hs0]; rfl) (by decide) ?_
    refine x_aload_n C (pc := 72) 0 dX6_state_72 rfl ?_
    refine x_get C (pc := 73) (q := 0) (v := .ref (z + 1)) (ci := 6) rfl hn_X6_state_X6 0 (by decide) fl_X6_state_10 rfl (by omega) hT.1 rfl dX6_state_73 ?_
    refine x_get C (pc := 76) (q := 1) (v := .int (nI n)) (ci := 5) rfl hn_X6_state_X5 1 (by decide) fl_X6_state_161 rfl (by omega) hR.ob rfl dX6_state_76 ?_
    exact x_iret C hR0 rfl (Nat.le_of_ble_eq_true rfl) (Nat.le_of_ble_eq_true rfl) ⟨(by rw [stF, if_pos hs0]), rfl, rfl⟩ dX6_state_79
  by_cases hs1 : x = 1
  · refine x_tableIn C (pc := 1) (off := 79) (tgt := 80) dX6_state_1 (by rw [hs1]; decide) (by rw [hs1]; decide) (by rw [hs1]; rfl) (by decide) ?_
    refine x_aload_n C (pc := 80) 0 dX6_state_80 rfl ?_
    refine x_get C (pc := 81) (q := 0) (v := .ref (z + 1)) (ci := 6) rfl hn_X6_state_X6 0 (by decide) fl_X6_state_10 rfl (by omega) hT.1 rfl dX6_state_81 ?_
    refine x_get C (pc := 84) (q := 1) (v := .int (nI kk)) (ci := 5) rfl hn_X6_state_X5 5 (by decide) fl_X6_state_69 rfl (by omega) hR.ob rfl dX6_state_84 ?_
    exact x_iret C hR0 rfl (Nat.le_of_ble_eq_true rfl) (Nat.le_of_ble_eq_true rfl) ⟨(by rw [stF, if_neg hs0, if_pos hs1]), rfl, rfl⟩ dX6_state_87
  by_cases hs2 : x = 2
  · refine x_tableIn C (pc := 1) (off := 87) (tgt := 88) dX6_state_1 (by rw [hs2]; decide) (by rw [hs2]; decide) (by rw [hs2]; rfl) (by decide) ?_
    refine x_aload_n C (pc := 88) 0 dX6_state_88 rfl ?_
    refine x_get C (pc := 89) (q := 0) (v := .ref (z + 1)) (ci := 6) rfl hn_X6_state_X6 0 (by decide) fl_X6_state_10 rfl (by omega) hT.1 rfl dX6_state_89 ?_
    refine x_get C (pc := 92) (q := 1) (v := .int wi) (ci := 5) rfl hn_X6_state_X5 2 (by decide) fl_X6_state_149 rfl (by omega) hR.ob rfl dX6_state_92 ?_
    exact x_iret C hR0 rfl (Nat.le_of_ble_eq_true rfl) (Nat.le_of_ble_eq_true rfl) ⟨(by rw [stF, if_neg hs0, if_neg hs1, if_pos hs2]), rfl, rfl⟩ dX6_state_95
  by_cases hs3 : x = 3
  · refine x_tableIn C (pc := 1) (off := 95) (tgt := 96) dX6_state_1 (by rw [hs3]; decide) (by rw [hs3]; decide) (by rw [hs3]; rfl) (by decide) ?_
    refine x_aload_n C (pc := 96) 0 dX6_state_96 rfl ?_
    refine x_get C (pc := 97) (q := 0) (v := .ref (z + 1)) (ci := 6) rfl hn_X6_state_X6 0 (by decide) fl_X6_state_10 rfl (by omega) hT.1 rfl dX6_state_97 ?_
    refine x_cViR C (pc := 100) (st := []) (c_X5_hasWinner l D z cI cZ cP cR N F 1 (nI n) wi (nI kk) (nI cw) rl (nI c0) sp pd bs od hR (by omega)) (cwV 0 C.2.2.2.2.1 gX6_state_X5_hasWinner rfl rfl rfl hd_X5_hasWinner ⟨Nat.le_of_ble_eq_true rfl, Nat.le_of_ble_eq_true rfl⟩) (by omega) hR.ob rfl rfl rfl (Nat.le_of_ble_eq_true rfl) dX6_state_100 ⟨Nat.le_of_ble_eq_true rfl, Nat.le_of_ble_eq_true rfl⟩ ?_
    refine x_bz_eq C (pc := 103) (tgt := 120) dX6_state_103 (by decide) (fun c_103 => ?_) (fun c_103 => ?_)
    · refine x_bipush C (pc := 120) (v := (-6)) dX6_state_120 (by decide) ?_
      exact x_iret C hR0 rfl (Nat.le_of_ble_eq_true rfl) (Nat.le_of_ble_eq_true rfl) ⟨(by rw [stF, if_neg hs0, if_neg hs1, if_neg hs2, if_pos hs3]; rw [if_neg (by rw [c_103]; decide)]), rfl, rfl⟩ dX6_state_122
    refine x_ldc C (pc := 106) (v := 100000) kc_X6_state_65 dX6_state_106 ?_
    refine x_aload_n C (pc := 108) 0 dX6_state_108 rfl ?_
    refine x_get C (pc := 109) (q := 0) (v := .ref (z + 1)) (ci := 6) rfl hn_X6_state_X6 0 (by decide) fl_X6_state_10 rfl (by omega) hT.1 rfl dX6_state_109 ?_
    refine x_iconst C (pc := 112) (v := 0) dX6_state_112 (by decide) ?_
    refine x_cViR C (pc := 113) (st := [.int 100000]) (c_X5_leadBy l D z cI cZ cP cR N F 1 n wi (nI kk) (nI cw) rl (nI c0) sp pd bs od 0 hR (by omega) (by omega) (by decide)) (cwV 1 C.2.2.2.2.1 gX6_state_X5_leadBy rfl rfl rfl hd_X5_leadBy ⟨Nat.le_of_ble_eq_true rfl, Nat.le_of_ble_eq_true rfl⟩) (by omega) hR.ob rfl rfl rfl (Nat.le_of_ble_eq_true rfl) dX6_state_113 ⟨Nat.le_of_ble_eq_true rfl, Nat.le_of_ble_eq_true rfl⟩ ?_
    refine x_iadd C (pc := 116) (v := 100000 + (leadF wi pd n 0)) dX6_state_116 rfl ?_
    refine x_goto C (pc := 117) (tgt := 122) dX6_state_117 (by decide) ?_
    exact x_iret C hR0 rfl (Nat.le_of_ble_eq_true rfl) (Nat.le_of_ble_eq_true rfl) ⟨(by rw [stF, if_neg hs0, if_neg hs1, if_neg hs2, if_pos hs3]; rw [if_pos c_103]), rfl, rfl⟩ dX6_state_122
  by_cases hs4 : x = 4
  · refine x_tableIn C (pc := 1) (off := 122) (tgt := 123) dX6_state_1 (by rw [hs4]; decide) (by rw [hs4]; decide) (by rw [hs4]; rfl) (by decide) ?_
    refine x_aload_n C (pc := 123) 0 dX6_state_123 rfl ?_
    refine x_get C (pc := 124) (q := 0) (v := .ref (z + 1)) (ci := 6) rfl hn_X6_state_X6 0 (by decide) fl_X6_state_10 rfl (by omega) hT.1 rfl dX6_state_124 ?_
    refine x_cViR C (pc := 127) (st := []) (c_X5_hasWinner l D z cI cZ cP cR N F 1 (nI n) wi (nI kk) (nI cw) rl (nI c0) sp pd bs od hR (by omega)) (cwV 0 C.2.2.2.2.1 gX6_state_X5_hasWinner rfl rfl rfl hd_X5_hasWinner ⟨Nat.le_of_ble_eq_true rfl, Nat.le_of_ble_eq_true rfl⟩) (by omega) hR.ob rfl rfl rfl (Nat.le_of_ble_eq_true rfl) dX6_state_127 ⟨Nat.le_of_ble_eq_true rfl, Nat.le_of_ble_eq_true rfl⟩ ?_
    refine x_bz_eq C (pc := 130) (tgt := 153) dX6_state_130 (by decide) (fun c_130 => ?_) (fun c_130 => ?_)
    · refine x_bipush C (pc := 153) (v := (-6)) dX6_state_153 (by decide) ?_
      exact x_iret C hR0 rfl (Nat.le_of_ble_eq_true rfl) (Nat.le_of_ble_eq_true rfl) ⟨(by rw [stF, if_neg hs0, if_neg hs1, if_neg hs2, if_neg hs3, if_pos hs4]; rw [if_neg (by rw [c_130]; decide)]), rfl, rfl⟩ dX6_state_155
    refine x_ldc C (pc := 133) (v := 100000) kc_X6_state_65 dX6_state_133 ?_
    refine x_aload_n C (pc := 135) 0 dX6_state_135 rfl ?_
    refine x_get C (pc := 136) (q := 0) (v := .ref (z + 1)) (ci := 6) rfl hn_X6_state_X6 0 (by decide) fl_X6_state_10 rfl (by omega) hT.1 rfl dX6_state_136 ?_
    refine x_aload_n C (pc := 139) 0 dX6_state_139 rfl ?_
    refine x_get C (pc := 140) (q := 0) (v := .ref (z + 1)) (ci := 6) rfl hn_X6_state_X6 0 (by decide) fl_X6_state_10 rfl (by omega) hT.1 rfl dX6_state_140 ?_
    refine x_get C (pc := 143) (q := 1) (v := .int (nI cw)) (ci := 5) rfl hn_X6_state_X5 6 (by decide) fl_X6_state_94 rfl (by omega) hR.ob rfl dX6_state_143 ?_
    refine x_cViR C (pc := 146) (st := [.int 100000]) (c_X5_leadBy l D z cI cZ cP cR N F 1 n wi (nI kk) (nI cw) rl (nI c0) sp pd bs od cw hR (by omega) (by omega) (by omega)) (cwV 1 C.2.2.2.2.1 gX6_state_X5_leadBy rfl rfl rfl hd_X5_leadBy ⟨Nat.le_of_ble_eq_true rfl, Nat.le_of_ble_eq_true rfl⟩) (by omega) hR.ob rfl rfl rfl (Nat.le_of_ble_eq_true rfl) dX6_state_146 ⟨Nat.le_of_ble_eq_true rfl, Nat.le_of_ble_eq_true rfl⟩ ?_
    refine x_iadd C (pc := 149) (v := 100000 + (leadF wi pd n cw)) dX6_state_149 rfl ?_
    refine x_goto C (pc := 150) (tgt := 155) dX6_state_150 (by decide) ?_
    exact x_iret C hR0 rfl (Nat.le_of_ble_eq_true rfl) (Nat.le_of_ble_eq_true rfl) ⟨(by rw [stF, if_neg hs0, if_neg hs1, if_neg hs2, if_neg hs3, if_pos hs4]; rw [if_pos c_130]), rfl, rfl⟩ dX6_state_155
  by_cases hs5 : x = 5
  · refine x_tableIn C (pc := 1) (off := 155) (tgt := 156) dX6_state_1 (by rw [hs5]; decide) (by rw [hs5]; decide) (by rw [hs5]; rfl) (by decide) ?_
    refine x_aload_n C (pc := 156) 0 dX6_state_156 rfl ?_
    refine x_get C (pc := 157) (q := 0) (v := .ref (z + 1)) (ci := 6) rfl hn_X6_state_X6 0 (by decide) fl_X6_state_10 rfl (by omega) hT.1 rfl dX6_state_157 ?_
    refine x_cViR C (pc := 160) (st := []) (c_X5_hasWinner l D z cI cZ cP cR N F 1 (nI n) wi (nI kk) (nI cw) rl (nI c0) sp pd bs od hR (by omega)) (cwV 0 C.2.2.2.2.1 gX6_state_X5_hasWinner rfl rfl rfl hd_X5_hasWinner ⟨Nat.le_of_ble_eq_true rfl, Nat.le_of_ble_eq_true rfl⟩) (by omega) hR.ob rfl rfl rfl (Nat.le_of_ble_eq_true rfl) dX6_state_160 ⟨Nat.le_of_ble_eq_true rfl, Nat.le_of_ble_eq_true rfl⟩ ?_
    refine x_bz_eq C (pc := 163) (tgt := 176) dX6_state_163 (by decide) (fun c_163 => ?_) (fun c_163 => ?_)
    · refine x_bipush C (pc := 176) (v := (-6)) dX6_state_176 (by decide) ?_
      exact x_iret C hR0 rfl (Nat.le_of_ble_eq_true rfl) (Nat.le_of_ble_eq_true rfl) ⟨(by rw [stF, if_neg hs0, if_neg hs1, if_neg hs2, if_neg hs3, if_neg hs4, if_pos hs5]; rw [if_neg (by rw [c_163]; decide)]), rfl, rfl⟩ dX6_state_178
    refine x_aload_n C (pc := 166) 0 dX6_state_166 rfl ?_
    refine x_get C (pc := 167) (q := 0) (v := .ref (z + 1)) (ci := 6) rfl hn_X6_state_X6 0 (by decide) fl_X6_state_10 rfl (by omega) hT.1 rfl dX6_state_167 ?_
    refine x_cViR C (pc := 170) (st := []) (c_X5_needNow l D z cI cZ cP cR N F 1 n cw wi (nI kk) rl (nI c0) sp pd bs od hR (by omega) (by omega) (by omega) pi hpi) (cwV 0 C.2.2.2.2.1 gX6_state_X5_needNow rfl rfl rfl hd_X5_needNow ⟨Nat.le_of_ble_eq_true rfl, Nat.le_of_ble_eq_true rfl⟩) (by omega) hR.ob rfl rfl rfl (Nat.le_of_ble_eq_true rfl) dX6_state_170 ⟨Nat.le_of_ble_eq_true rfl, Nat.le_of_ble_eq_true rfl⟩ ?_
    refine x_goto C (pc := 173) (tgt := 178) dX6_state_173 (by decide) ?_
    exact x_iret C hR0 rfl (Nat.le_of_ble_eq_true rfl) (Nat.le_of_ble_eq_true rfl) ⟨(by rw [stF, if_neg hs0, if_neg hs1, if_neg hs2, if_neg hs3, if_neg hs4, if_pos hs5]; rw [if_pos c_163]), rfl, rfl⟩ dX6_state_178
  by_cases hs6 : x = 6
  · refine x_tableIn C (pc := 1) (off := 178) (tgt := 179) dX6_state_1 (by rw [hs6]; decide) (by rw [hs6]; decide) (by rw [hs6]; rfl) (by decide) ?_
    refine x_aload_n C (pc := 179) 0 dX6_state_179 rfl ?_
    refine x_get C (pc := 180) (q := 0) (v := .ref (z + 1)) (ci := 6) rfl hn_X6_state_X6 0 (by decide) fl_X6_state_10 rfl (by omega) hT.1 rfl dX6_state_180 ?_
    refine x_aload_n C (pc := 183) 0 dX6_state_183 rfl ?_
    refine x_get C (pc := 184) (q := 0) (v := .ref (z + 1)) (ci := 6) rfl hn_X6_state_X6 0 (by decide) fl_X6_state_10 rfl (by omega) hT.1 rfl dX6_state_184 ?_
    refine x_get C (pc := 187) (q := 1) (v := .int (nI cw)) (ci := 5) rfl hn_X6_state_X5 6 (by decide) fl_X6_state_94 rfl (by omega) hR.ob rfl dX6_state_187 ?_
    refine x_aload_n C (pc := 190) 0 dX6_state_190 rfl ?_
    refine x_get C (pc := 191) (q := 0) (v := .ref (z + 1)) (ci := 6) rfl hn_X6_state_X6 0 (by decide) fl_X6_state_10 rfl (by omega) hT.1 rfl dX6_state_191 ?_
    refine x_get C (pc := 194) (q := 1) (v := .int (nI cw)) (ci := 5) rfl hn_X6_state_X5 6 (by decide) fl_X6_state_94 rfl (by omega) hR.ob rfl dX6_state_194 ?_
    refine x_cViR C (pc := 197) (st := []) (c_X5_riskBehind l D z cI cZ cP cR N F 1 n wi (nI kk) (nI cw) rl (nI c0) sp pd bs od cw cw hR (by omega) (by omega) (by omega) (by omega) pi hpi) (cwV 2 C.2.2.2.2.1 gX6_state_X5_riskBehind rfl rfl rfl hd_X5_riskBehind ⟨Nat.le_of_ble_eq_true rfl, Nat.le_of_ble_eq_true rfl⟩) (by omega) hR.ob rfl rfl rfl (Nat.le_of_ble_eq_true rfl) dX6_state_197 ⟨Nat.le_of_ble_eq_true rfl, Nat.le_of_ble_eq_true rfl⟩ ?_
    exact x_iret C hR0 rfl (Nat.le_of_ble_eq_true rfl) (Nat.le_of_ble_eq_true rfl) ⟨(by rw [stF, if_neg hs0, if_neg hs1, if_neg hs2, if_neg hs3, if_neg hs4, if_neg hs5, if_pos hs6]), rfl, rfl⟩ dX6_state_200
  by_cases hs7 : x = 7
  · refine x_tableIn C (pc := 1) (off := 200) (tgt := 201) dX6_state_1 (by rw [hs7]; decide) (by rw [hs7]; decide) (by rw [hs7]; rfl) (by decide) ?_
    refine x_aload_n C (pc := 201) 0 dX6_state_201 rfl ?_
    refine x_get C (pc := 202) (q := 0) (v := .ref (z + 1)) (ci := 6) rfl hn_X6_state_X6 0 (by decide) fl_X6_state_10 rfl (by omega) hT.1 rfl dX6_state_202 ?_
    refine x_aload_n C (pc := 205) 0 dX6_state_205 rfl ?_
    refine x_get C (pc := 206) (q := 0) (v := .ref (z + 1)) (ci := 6) rfl hn_X6_state_X6 0 (by decide) fl_X6_state_10 rfl (by omega) hT.1 rfl dX6_state_206 ?_
    refine x_get C (pc := 209) (q := 1) (v := .int (nI cw)) (ci := 5) rfl hn_X6_state_X5 6 (by decide) fl_X6_state_94 rfl (by omega) hR.ob rfl dX6_state_209 ?_
    refine x_cViR C (pc := 212) (st := []) (c_X5_worseOf l D z cI cZ cP cR N F 1 n wi (nI kk) (nI cw) rl (nI c0) sp pd bs od cw hR (by omega) (by omega) (by omega)) (cwV 1 C.2.2.2.2.1 gX6_state_X5_worseOf rfl rfl rfl hd_X5_worseOf ⟨Nat.le_of_ble_eq_true rfl, Nat.le_of_ble_eq_true rfl⟩) (by omega) hR.ob rfl rfl rfl (Nat.le_of_ble_eq_true rfl) dX6_state_212 ⟨Nat.le_of_ble_eq_true rfl, Nat.le_of_ble_eq_true rfl⟩ ?_
    exact x_iret C hR0 rfl (Nat.le_of_ble_eq_true rfl) (Nat.le_of_ble_eq_true rfl) ⟨(by rw [stF, if_neg hs0, if_neg hs1, if_neg hs2, if_neg hs3, if_neg hs4, if_neg hs5, if_neg hs6, if_pos hs7]), rfl, rfl⟩ dX6_state_215
  by_cases hs8 : x = 8
  · refine x_tableIn C (pc := 1) (off := 215) (tgt := 216) dX6_state_1 (by rw [hs8]; decide) (by rw [hs8]; decide) (by rw [hs8]; rfl) (by decide) ?_
    refine x_aload_n C (pc := 216) 0 dX6_state_216 rfl ?_
    refine x_get C (pc := 217) (q := 0) (v := .ref (z + 1)) (ci := 6) rfl hn_X6_state_X6 0 (by decide) fl_X6_state_10 rfl (by omega) hT.1 rfl dX6_state_217 ?_
    refine x_get C (pc := 220) (q := 1) (v := .int sp) (ci := 5) rfl hn_X6_state_X5 9 (by decide) fl_X6_state_114 rfl (by omega) hR.ob rfl dX6_state_220 ?_
    refine x_if_eq C (pc := 223) (tgt := 230) dX6_state_223 (by decide) (fun c_223 => ?_) (fun c_223 => ?_)
    · refine x_iconst C (pc := 230) (v := 0) dX6_state_230 (by decide) ?_
      exact x_iret C hR0 rfl (Nat.le_of_ble_eq_true rfl) (Nat.le_of_ble_eq_true rfl) ⟨(by rw [stF, if_neg hs0, if_neg hs1, if_neg hs2, if_neg hs3, if_neg hs4, if_neg hs5, if_neg hs6, if_neg hs7, if_pos hs8]; exact c_223.symm), rfl, rfl⟩ dX6_state_231
    refine x_iconst C (pc := 226) (v := 1) dX6_state_226 (by decide) ?_
    refine x_goto C (pc := 227) (tgt := 231) dX6_state_227 (by decide) ?_
    exact x_iret C hR0 rfl (Nat.le_of_ble_eq_true rfl) (Nat.le_of_ble_eq_true rfl) ⟨(by rw [stF, if_neg hs0, if_neg hs1, if_neg hs2, if_neg hs3, if_neg hs4, if_neg hs5, if_neg hs6, if_neg hs7, if_pos hs8]; exact (hsp.resolve_left c_223).symm), rfl, rfl⟩ dX6_state_231
  by_cases hs9 : x = 9
  · refine x_tableIn C (pc := 1) (off := 231) (tgt := 232) dX6_state_1 (by rw [hs9]; decide) (by rw [hs9]; decide) (by rw [hs9]; rfl) (by decide) ?_
    refine x_aload_n C (pc := 232) 0 dX6_state_232 rfl ?_
    refine x_get C (pc := 233) (q := 0) (v := .ref (z + 1)) (ci := 6) rfl hn_X6_state_X6 0 (by decide) fl_X6_state_10 rfl (by omega) hT.1 rfl dX6_state_233 ?_
    refine x_cViR C (pc := 236) (st := []) (c_X5_mayStopNow l D z cI cZ cP cR N F 1 n cw wi (nI kk) rl (nI c0) sp pd bs od hR (by omega) (by omega) (by omega) pi hpi) (cwV 0 C.2.2.2.2.1 gX6_state_X5_mayStopNow rfl rfl rfl hd_X5_mayStopNow ⟨Nat.le_of_ble_eq_true rfl, Nat.le_of_ble_eq_true rfl⟩) (by omega) hR.ob rfl rfl rfl (Nat.le_of_ble_eq_true rfl) dX6_state_236 ⟨Nat.le_of_ble_eq_true rfl, Nat.le_of_ble_eq_true rfl⟩ ?_
    refine x_bz_eq C (pc := 239) (tgt := 246) dX6_state_239 (by decide) (fun c_239 => ?_) (fun c_239 => ?_)
    · refine x_iconst C (pc := 246) (v := 0) dX6_state_246 (by decide) ?_
      exact x_iret C hR0 rfl (Nat.le_of_ble_eq_true rfl) (Nat.le_of_ble_eq_true rfl) ⟨(by rw [stF, if_neg hs0, if_neg hs1, if_neg hs2, if_neg hs3, if_neg hs4, if_neg hs5, if_neg hs6, if_neg hs7, if_neg hs8, if_pos hs9]; rw [c_239]; rfl), rfl, rfl⟩ dX6_state_247
    refine x_iconst C (pc := 242) (v := 1) dX6_state_242 (by decide) ?_
    refine x_goto C (pc := 243) (tgt := 247) dX6_state_243 (by decide) ?_
    exact x_iret C hR0 rfl (Nat.le_of_ble_eq_true rfl) (Nat.le_of_ble_eq_true rfl) ⟨(by rw [stF, if_neg hs0, if_neg hs1, if_neg hs2, if_neg hs3, if_neg hs4, if_neg hs5, if_neg hs6, if_neg hs7, if_neg hs8, if_pos hs9]; rw [c_239]; rfl), rfl, rfl⟩ dX6_state_247
  by_cases hs10 : x = 10
  · refine x_tableIn C (pc := 1) (off := 247) (tgt := 248) dX6_state_1 (by rw [hs10]; decide) (by rw [hs10]; decide) (by rw [hs10]; rfl) (by decide) ?_
    refine x_aload_n C (pc := 248) 0 dX6_state_248 rfl ?_
    refine x_get C (pc := 249) (q := 0) (v := .ref (z + 1)) (ci := 6) rfl hn_X6_state_X6 0 (by decide) fl_X6_state_10 rfl (by omega) hT.1 rfl dX6_state_249 ?_
    refine x_get C (pc := 252) (q := 1) (v := .int rl) (ci := 5) rfl hn_X6_state_X5 7 (by decide) fl_X6_state_73 rfl (by omega) hR.ob rfl dX6_state_252 ?_
    exact x_iret C hR0 rfl (Nat.le_of_ble_eq_true rfl) (Nat.le_of_ble_eq_true rfl) ⟨(by rw [stF, if_neg hs0, if_neg hs1, if_neg hs2, if_neg hs3, if_neg hs4, if_neg hs5, if_neg hs6, if_neg hs7, if_neg hs8, if_neg hs9, if_pos hs10]), rfl, rfl⟩ dX6_state_255
  by_cases hs11 : x = 11
  · refine x_tableIn C (pc := 1) (off := 255) (tgt := 256) dX6_state_1 (by rw [hs11]; decide) (by rw [hs11]; decide) (by rw [hs11]; rfl) (by decide) ?_
    refine x_aload_n C (pc := 256) 0 dX6_state_256 rfl ?_
    refine x_get C (pc := 257) (q := 0) (v := .ref (z + 1)) (ci := 6) rfl hn_X6_state_X6 0 (by decide) fl_X6_state_10 rfl (by omega) hT.1 rfl dX6_state_257 ?_
    refine x_get C (pc := 260) (q := 1) (v := .int (nI c0)) (ci := 5) rfl hn_X6_state_X5 8 (by decide) fl_X6_state_76 rfl (by omega) hR.ob rfl dX6_state_260 ?_
    exact x_iret C hR0 rfl (Nat.le_of_ble_eq_true rfl) (Nat.le_of_ble_eq_true rfl) ⟨(by rw [stF, if_neg hs0, if_neg hs1, if_neg hs2, if_neg hs3, if_neg hs4, if_neg hs5, if_neg hs6, if_neg hs7, if_neg hs8, if_neg hs9, if_neg hs10, if_pos hs11]), rfl, rfl⟩ dX6_state_263
  by_cases hs12 : x = 12
  · refine x_tableIn C (pc := 1) (off := 263) (tgt := 264) dX6_state_1 (by rw [hs12]; decide) (by rw [hs12]; decide) (by rw [hs12]; rfl) (by decide) ?_
    refine x_aload_n C (pc := 264) 0 dX6_state_264 rfl ?_
    refine x_get C (pc := 265) (q := 0) (v := .ref (z + 116)) (ci := 6) rfl hn_X6_state_X6 4 (by decide) fl_X6_state_33 rfl (by omega) hT.1 rfl dX6_state_265 ?_
    refine x_get C (pc := 268) (q := 116) (v := .int (nI len)) (ci := 2) rfl hn_X6_state_X2 1 (by decide) fl_X6_state_177 rfl (by omega) hPd.ob rfl dX6_state_268 ?_
    exact x_iret C hR0 rfl (Nat.le_of_ble_eq_true rfl) (Nat.le_of_ble_eq_true rfl) ⟨(by rw [stF, if_neg hs0, if_neg hs1, if_neg hs2, if_neg hs3, if_neg hs4, if_neg hs5, if_neg hs6, if_neg hs7, if_neg hs8, if_neg hs9, if_neg hs10, if_neg hs11, if_pos hs12]), rfl, rfl⟩ dX6_state_271
  by_cases hs13 : x = 13
  · refine x_tableIn C (pc := 1) (off := 271) (tgt := 272) dX6_state_1 (by rw [hs13]; decide) (by rw [hs13]; decide) (by rw [hs13]; rfl) (by decide) ?_
    refine x_aload_n C (pc := 272) 0 dX6_state_272 rfl ?_
    refine x_get C (pc := 273) (q := 0) (v := .ref (z + 30)) (ci := 6) rfl hn_X6_state_X6 3 (by decide) fl_X6_state_26 rfl (by omega) hT.1 rfl dX6_state_273 ?_
    refine x_get C (pc := 276) (q := 30) (v := .int (nI hn)) (ci := 0) rfl hn_X6_state_X0 1 (by decide) fl_X6_state_180 rfl (by omega) hH.ob rfl dX6_state_276 ?_
    exact x_iret C hR0 rfl (Nat.le_of_ble_eq_true rfl) (Nat.le_of_ble_eq_true rfl) ⟨(by rw [stF, if_neg hs0, if_neg hs1, if_neg hs2, if_neg hs3, if_neg hs4, if_neg hs5, if_neg hs6, if_neg hs7, if_neg hs8, if_neg hs9, if_neg hs10, if_neg hs11, if_neg hs12, if_pos hs13]), rfl, rfl⟩ dX6_state_279
  refine x_tableOut C (pc := 1) (tgt := 280) dX6_state_1 (tab_out (m := 13) (by decide) (fun i hi => by match i, hi with | 0, _ => exact hs0 | 1, _ => exact hs1 | 2, _ => exact hs2 | 3, _ => exact hs3 | 4, _ => exact hs4 | 5, _ => exact hs5 | 6, _ => exact hs6 | 7, _ => exact hs7 | 8, _ => exact hs8 | 9, _ => exact hs9 | 10, _ => exact hs10 | 11, _ => exact hs11 | 12, _ => exact hs12 | 13, _ => exact hs13)) (by decide) ?_
  refine x_bipush C (pc := 280) (v := (-2)) dX6_state_280 (by decide) ?_
  exact x_iret C hR0 rfl (Nat.le_of_ble_eq_true rfl) (Nat.le_of_ble_eq_true rfl) ⟨(by rw [stF, if_neg hs0, if_neg hs1, if_neg hs2, if_neg hs3, if_neg hs4, if_neg hs5, if_neg hs6, if_neg hs7, if_neg hs8, if_neg hs9, if_neg hs10, if_neg hs11, if_neg hs12, if_neg hs13]), rfl, rfl⟩ dX6_state_282
theorem fl_X6_counted_10 : Cond.fieldLink RX6 10 "PileRecount" "now" "LPileRecount$Recount;" ∈ wsX6_counted := by decide +kernel
theorem fl_X6_counted_69 : Cond.fieldLink RX6 69 "PileRecount$Recount" "countedPiles" "I" ∈ wsX6_counted := by decide +kernel
theorem hn_X6_counted_X5 : ∀ w ∈ wsX50, w ∈ wsX6_counted := fun _ h => List.mem_cons_of_mem _ (List.mem_append_right _ h)
theorem hn_X6_counted_X6 : ∀ w ∈ wsX60, w ∈ wsX6_counted := fun _ h => List.mem_cons_of_mem _ (List.mem_append_left _ (List.mem_append_right _ h))
set_option maxHeartbeats 4000000 in
set_option maxRecDepth 100000 in
theorem c_X6_counted_e (l : Launch) (D : va_G) (z : Nat) (cI cZ cP cR : ClassId) (N : Nat) (F : Nat → va_E) (n kk cw c0 : Nat) (wi rl sp : Int32) (pd : Nat → Nat → Int32) (bs od : Nat → Int32) (pi : Nat → Nat) (T : RD) (hn : Nat) (hb : Nat → Nat) (hd : Nat → RD) (sl : Nat → Option Nat) (sd : Nat → RD) (len : Nat) (pa : Nat → Int32) (v : Int32) (hR : isRec z cI cP F 1 (nI n) wi (nI kk) (nI cw) rl (nI c0) sp pd bs od) (hnn : n ≤ 10) (hkk : kk ≤ n) (hcw : cw < 2 ^ n) (hc0 : c0 < 2 ^ 31) (hcnt : cntB cw n = kk) (hsp : sp = 0 ∨ sp = 1) (hpi : piOK bs pi n) (hC : isCl z cI cP cR N F T hn hb hd sl sd len pa) (hv : inP v (nI kk) = false) : gMi l yX6_counted wsX6_counted ({ frames := 0, cells := 0, slots := 0, locals := 0 }) D z cI cZ cP cR N F [.ref (z + 0), .int v] (gRes (-1) N (fun F2 => F2 = F)) 0 0 := by
  refine gMi.of (cc := cX6_counted) (maxL := 2) (ret := (some .int)) (by decide) rfl (Nat.le_of_ble_eq_true rfl) [(0, .ref (z + 0)), (1, .int v)] rfl ?_
  intro pg ev sg mg bel me cg C hR0
  have h2n := two_lt hnn
  obtain ⟨hT, hTr, hH, hn6, hB, hD, hPd, hlen, ⟨rpt, rhd, rnu, hRe⟩, ⟨owy, oso, hOd⟩, hN, hslb, hS, hdd⟩ := hC
  refine x_iload_n C (pc := 0) 1 dX6_counted_0 rfl ?_
  refine x_if_lt C (pc := 1) (tgt := 15) dX6_counted_1 (by decide) (fun c_1 => ?_) (fun c_1 => ?_)
  · refine x_iconst C (pc := 15) (v := (-1)) dX6_counted_15 (by decide) ?_
    exact x_iret C hR0 rfl (Nat.le_of_ble_eq_true rfl) (Nat.le_of_ble_eq_true rfl) ⟨rfl, rfl, rfl⟩ dX6_counted_16
  refine x_iload_n C (pc := 4) 1 dX6_counted_4 rfl ?_
  refine x_aload_n C (pc := 5) 0 dX6_counted_5 rfl ?_
  refine x_get C (pc := 6) (q := 0) (v := .ref (z + 1)) (ci := 6) rfl hn_X6_counted_X6 0 (by decide) fl_X6_counted_10 rfl (by omega) hT.1 rfl dX6_counted_6 ?_
  refine x_get C (pc := 9) (q := 1) (v := .int (nI kk)) (ci := 5) rfl hn_X6_counted_X5 5 (by decide) fl_X6_counted_69 rfl (by omega) hR.ob rfl dX6_counted_9 ?_
  refine x_icmp_lt C (pc := 12) (tgt := 17) dX6_counted_12 (by decide) (fun c_12 => absurd c_12 (fun q => by rw [inP, decide_eq_true (Int32.not_lt.mp c_1), decide_eq_true q] at hv; cases hv)) (fun c_12 => ?_)
  refine x_iconst C (pc := 15) (v := (-1)) dX6_counted_15 (by decide) ?_
  exact x_iret C hR0 rfl (Nat.le_of_ble_eq_true rfl) (Nat.le_of_ble_eq_true rfl) ⟨rfl, rfl, rfl⟩ dX6_counted_16
theorem fl_X6_counted_181 : Cond.fieldLink RX6 181 "PileRecount$Recount" "order" "[I" ∈ wsX6_counted := by decide +kernel
set_option maxHeartbeats 4000000 in
set_option maxRecDepth 100000 in
theorem c_X6_counted_s (l : Launch) (D : va_G) (z : Nat) (cI cZ cP cR : ClassId) (N : Nat) (F : Nat → va_E) (n kk cw c0 : Nat) (wi rl sp : Int32) (pd : Nat → Nat → Int32) (bs od : Nat → Int32) (pi : Nat → Nat) (T : RD) (hn : Nat) (hb : Nat → Nat) (hd : Nat → RD) (sl : Nat → Option Nat) (sd : Nat → RD) (len : Nat) (pa : Nat → Int32) (v : Nat) (hR : isRec z cI cP F 1 (nI n) wi (nI kk) (nI cw) rl (nI c0) sp pd bs od) (hnn : n ≤ 10) (hkk : kk ≤ n) (hcw : cw < 2 ^ n) (hc0 : c0 < 2 ^ 31) (hcnt : cntB cw n = kk) (hsp : sp = 0 ∨ sp = 1) (hpi : piOK bs pi n) (hC : isCl z cI cP cR N F T hn hb hd sl sd len pa) (hvk : v < kk) : gMi l yX6_counted wsX6_counted ({ frames := 0, cells := 0, slots := 0, locals := 0 }) D z cI cZ cP cR N F [.ref (z + 0), .int (nI v)] (gRes (od v) N (fun F2 => F2 = F)) 0 0 := by
  refine gMi.of (cc := cX6_counted) (maxL := 2) (ret := (some .int)) (by decide) rfl (Nat.le_of_ble_eq_true rfl) [(0, .ref (z + 0)), (1, .int (nI v))] rfl ?_
  intro pg ev sg mg bel me cg C hR0
  have h2n := two_lt hnn
  obtain ⟨hT, hTr, hH, hn6, hB, hD, hPd, hlen, ⟨rpt, rhd, rnu, hRe⟩, ⟨owy, oso, hOd⟩, hN, hslb, hS, hdd⟩ := hC
  refine x_iload_n C (pc := 0) 1 dX6_counted_0 rfl ?_
  refine x_ifN_lt C (a := v) (pc := 1) (tgt := 15) (by omega) dX6_counted_1 (by decide) (fun c_1 => absurd c_1 (by omega)) (fun c_1 => ?_)
  refine x_iload_n C (pc := 4) 1 dX6_counted_4 rfl ?_
  refine x_aload_n C (pc := 5) 0 dX6_counted_5 rfl ?_
  refine x_get C (pc := 6) (q := 0) (v := .ref (z + 1)) (ci := 6) rfl hn_X6_counted_X6 0 (by decide) fl_X6_counted_10 rfl (by omega) hT.1 rfl dX6_counted_6 ?_
  refine x_get C (pc := 9) (q := 1) (v := .int (nI kk)) (ci := 5) rfl hn_X6_counted_X5 5 (by decide) fl_X6_counted_69 rfl (by omega) hR.ob rfl dX6_counted_9 ?_
  refine x_icmpN_lt C (a := v) (b := kk) (pc := 12) (tgt := 17) (by omega) (by omega) dX6_counted_12 (by decide) (fun c_12 => ?_) (fun c_12 => absurd c_12 (by omega))
  refine x_aload_n C (pc := 17) 0 dX6_counted_17 rfl ?_
  refine x_get C (pc := 18) (q := 0) (v := .ref (z + 1)) (ci := 6) rfl hn_X6_counted_X6 0 (by decide) fl_X6_counted_10 rfl (by omega) hT.1 rfl dX6_counted_18 ?_
  refine x_get C (pc := 21) (q := 1) (v := .ref (z + (1 + 13))) (ci := 5) rfl hn_X6_counted_X5 4 (by decide) fl_X6_counted_181 rfl (by omega) hR.ob rfl dX6_counted_21 ?_
  refine x_iload_n C (pc := 24) 1 dX6_counted_24 rfl ?_
  refine x_ialdE C (pc := 25) (q := 1 + 13) (j := v) (f := od) (by omega) hR.od rfl (by omega) (by decide) dX6_counted_25 ?_
  exact x_iret C hR0 rfl (Nat.le_of_ble_eq_true rfl) (Nat.le_of_ble_eq_true rfl) ⟨rfl, rfl, rfl⟩ dX6_counted_26
set_option maxHeartbeats 4000000 in
set_option maxRecDepth 100000 in
theorem c_X6_riskOf_e (l : Launch) (D : va_G) (z : Nat) (cI cZ cP cR : ClassId) (N : Nat) (F : Nat → va_E) (n kk cw c0 : Nat) (wi rl sp : Int32) (pd : Nat → Nat → Int32) (bs od : Nat → Int32) (pi : Nat → Nat) (T : RD) (hn : Nat) (hb : Nat → Nat) (hd : Nat → RD) (sl : Nat → Option Nat) (sd : Nat → RD) (len : Nat) (pa : Nat → Int32) (p c d : Int32) (hR : isRec z cI cP F 1 (nI n) wi (nI kk) (nI cw) rl (nI c0) sp pd bs od) (hnn : n ≤ 10) (hkk : kk ≤ n) (hcw : cw < 2 ^ n) (hc0 : c0 < 2 ^ 31) (hcnt : cntB cw n = kk) (hsp : sp = 0 ∨ sp = 1) (hpi : piOK bs pi n) (hC : isCl z cI cP cR N F T hn hb hd sl sd len pa) (hv : (inB p 1 20 && inB c 0 p && inB d 1 p) = false) : gMi l yX6_riskOf wsX6_riskOf ({ frames := 0, cells := 0, slots := 0, locals := 0 }) D z cI cZ cP cR N F [.ref (z + 0), .int p, .int c, .int d] (gRes (-2) N (fun F2 => F2 = F)) 0 0 := by
  refine gMi.of (cc := cX6_riskOf) (maxL := 4) (ret := (some .int)) (by decide) rfl (Nat.le_of_ble_eq_true rfl) [(0, .ref (z + 0)), (1, .int p), (2, .int c), (3, .int d)] rfl ?_
  intro pg ev sg mg bel me cg C hR0
  have h2n := two_lt hnn
  obtain ⟨hT, hTr, hH, hn6, hB, hD, hPd, hlen, ⟨rpt, rhd, rnu, hRe⟩, ⟨owy, oso, hOd⟩, hN, hslb, hS, hdd⟩ := hC
  refine x_iload_n C (pc := 0) 1 dX6_riskOf_0 rfl ?_
  refine x_iconst C (pc := 1) (v := 1) dX6_riskOf_1 (by decide) ?_
  refine x_icmp_lt C (pc := 2) (tgt := 11) dX6_riskOf_2 (by decide) (fun c_2 => ?_) (fun c_2 => ?_)
  · refine x_bipush C (pc := 11) (v := (-2)) dX6_riskOf_11 (by decide) ?_
    exact x_iret C hR0 rfl (Nat.le_of_ble_eq_true rfl) (Nat.le_of_ble_eq_true rfl) ⟨rfl, rfl, rfl⟩ dX6_riskOf_13
  refine x_iload_n C (pc := 5) 1 dX6_riskOf_5 rfl ?_
  refine x_bipush C (pc := 6) (v := 20) dX6_riskOf_6 (by decide) ?_
  refine x_icmp_le C (pc := 8) (tgt := 14) dX6_riskOf_8 (by decide) (fun c_8 => ?_) (fun c_8 => ?_)
  · refine x_iload_n C (pc := 14) 2 dX6_riskOf_14 rfl ?_
    refine x_if_lt C (pc := 15) (tgt := 33) dX6_riskOf_15 (by decide) (fun c_15 => ?_) (fun c_15 => ?_)
    · refine x_bipush C (pc := 33) (v := (-2)) dX6_riskOf_33 (by decide) ?_
      exact x_iret C hR0 rfl (Nat.le_of_ble_eq_true rfl) (Nat.le_of_ble_eq_true rfl) ⟨rfl, rfl, rfl⟩ dX6_riskOf_35
    refine x_iload_n C (pc := 18) 2 dX6_riskOf_18 rfl ?_
    refine x_iload_n C (pc := 19) 1 dX6_riskOf_19 rfl ?_
    refine x_icmp_gt C (pc := 20) (tgt := 33) dX6_riskOf_20 (by decide) (fun c_20 => ?_) (fun c_20 => ?_)
    · refine x_bipush C (pc := 33) (v := (-2)) dX6_riskOf_33 (by decide) ?_
      exact x_iret C hR0 rfl (Nat.le_of_ble_eq_true rfl) (Nat.le_of_ble_eq_true rfl) ⟨rfl, rfl, rfl⟩ dX6_riskOf_35
    refine x_iload_n C (pc := 23) 3 dX6_riskOf_23 rfl ?_
    refine x_iconst C (pc := 24) (v := 1) dX6_riskOf_24 (by decide) ?_
    refine x_icmp_lt C (pc := 25) (tgt := 33) dX6_riskOf_25 (by decide) (fun c_25 => ?_) (fun c_25 => ?_)
    · refine x_bipush C (pc := 33) (v := (-2)) dX6_riskOf_33 (by decide) ?_
      exact x_iret C hR0 rfl (Nat.le_of_ble_eq_true rfl) (Nat.le_of_ble_eq_true rfl) ⟨rfl, rfl, rfl⟩ dX6_riskOf_35
    refine x_iload_n C (pc := 28) 3 dX6_riskOf_28 rfl ?_
    refine x_iload_n C (pc := 29) 1 dX6_riskOf_29 rfl ?_
    refine x_icmp_le C (pc := 30) (tgt := 36) dX6_riskOf_30 (by decide) (fun c_30 => absurd c_30 (fun q => by rw [inB_t c_2 (Int32.not_lt.mpr c_8), inB_t c_15 c_20, inB_t c_25 (Int32.not_lt.mpr q)] at hv; cases hv)) (fun c_30 => ?_)
    refine x_bipush C (pc := 33) (v := (-2)) dX6_riskOf_33 (by decide) ?_
    exact x_iret C hR0 rfl (Nat.le_of_ble_eq_true rfl) (Nat.le_of_ble_eq_true rfl) ⟨rfl, rfl, rfl⟩ dX6_riskOf_35
  refine x_bipush C (pc := 11) (v := (-2)) dX6_riskOf_11 (by decide) ?_
  exact x_iret C hR0 rfl (Nat.le_of_ble_eq_true rfl) (Nat.le_of_ble_eq_true rfl) ⟨rfl, rfl, rfl⟩ dX6_riskOf_13
set_option maxHeartbeats 4000000 in
set_option maxRecDepth 100000 in
theorem c_X6_riskOf_s (l : Launch) (D : va_G) (z : Nat) (cI cZ cP cR : ClassId) (N : Nat) (F : Nat → va_E) (n kk cw c0 : Nat) (wi rl sp : Int32) (pd : Nat → Nat → Int32) (bs od : Nat → Int32) (pi : Nat → Nat) (T : RD) (hn : Nat) (hb : Nat → Nat) (hd : Nat → RD) (sl : Nat → Option Nat) (sd : Nat → RD) (len : Nat) (pa : Nat → Int32) (p c d : Nat) (hR : isRec z cI cP F 1 (nI n) wi (nI kk) (nI cw) rl (nI c0) sp pd bs od) (hnn : n ≤ 10) (hkk : kk ≤ n) (hcw : cw < 2 ^ n) (hc0 : c0 < 2 ^ 31) (hcnt : cntB cw n = kk) (hsp : sp = 0 ∨ sp = 1) (hpi : piOK bs pi n) (hC : isCl z cI cP cR N F T hn hb hd sl sd len pa) (h1 : 1 ≤ p) (h2 : p ≤ 20) (h3 : c ≤ p) (h4 : 1 ≤ d) (h5 : d ≤ p) : gMi l yX6_riskOf wsX6_riskOf ({ frames := 2, cells := 0, slots := 0, locals := 50 }) D z cI cZ cP cR N F [.ref (z + 0), .int (nI p), .int (nI c), .int (nI d)] (gRes (rkF p c d) N (fun F2 => F2 = F)) 0 0 := by
  refine gMi.of (cc := cX6_riskOf) (maxL := 4) (ret := (some .int)) (by decide) rfl (Nat.le_of_ble_eq_true rfl) [(0, .ref (z + 0)), (1, .int (nI p)), (2, .int (nI c)), (3, .int (nI d))] rfl ?_
  intro pg ev sg mg bel me cg C hR0
  have h2n := two_lt hnn
  obtain ⟨hT, hTr, hH, hn6, hB, hD, hPd, hlen, ⟨rpt, rhd, rnu, hRe⟩, ⟨owy, oso, hOd⟩, hN, hslb, hS, hdd⟩ := hC
  refine x_iload_n C (pc := 0) 1 dX6_riskOf_0 rfl ?_
  refine x_iconst C (pc := 1) (v := 1) dX6_riskOf_1 (by decide) ?_
  refine x_icmpN_lt C (a := p) (b := 1) (pc := 2) (tgt := 11) (by omega) (by omega) dX6_riskOf_2 (by decide) (fun c_2 => absurd c_2 (by omega)) (fun c_2 => ?_)
  refine x_iload_n C (pc := 5) 1 dX6_riskOf_5 rfl ?_
  refine x_bipush C (pc := 6) (v := 20) dX6_riskOf_6 (by decide) ?_
  refine x_icmpN_le C (a := p) (b := 20) (pc := 8) (tgt := 14) (by omega) (by omega) dX6_riskOf_8 (by decide) (fun c_8 => ?_) (fun c_8 => absurd c_8 (by omega))
  refine x_iload_n C (pc := 14) 2 dX6_riskOf_14 rfl ?_
  refine x_ifN_lt C (a := c) (pc := 15) (tgt := 33) (by omega) dX6_riskOf_15 (by decide) (fun c_15 => absurd c_15 (by omega)) (fun c_15 => ?_)
  refine x_iload_n C (pc := 18) 2 dX6_riskOf_18 rfl ?_
  refine x_iload_n C (pc := 19) 1 dX6_riskOf_19 rfl ?_
  refine x_icmpN_gt C (a := c) (b := p) (pc := 20) (tgt := 33) (by omega) (by omega) dX6_riskOf_20 (by decide) (fun c_20 => absurd c_20 (by omega)) (fun c_20 => ?_)
  refine x_iload_n C (pc := 23) 3 dX6_riskOf_23 rfl ?_
  refine x_iconst C (pc := 24) (v := 1) dX6_riskOf_24 (by decide) ?_
  refine x_icmpN_lt C (a := d) (b := 1) (pc := 25) (tgt := 33) (by omega) (by omega) dX6_riskOf_25 (by decide) (fun c_25 => absurd c_25 (by omega)) (fun c_25 => ?_)
  refine x_iload_n C (pc := 28) 3 dX6_riskOf_28 rfl ?_
  refine x_iload_n C (pc := 29) 1 dX6_riskOf_29 rfl ?_
  refine x_icmpN_le C (a := d) (b := p) (pc := 30) (tgt := 36) (by omega) (by omega) dX6_riskOf_30 (by decide) (fun c_30 => ?_) (fun c_30 => absurd c_30 (by omega))
  refine x_iload_n C (pc := 36) 1 dX6_riskOf_36 rfl ?_
  refine x_iload_n C (pc := 37) 2 dX6_riskOf_37 rfl ?_
  refine x_iload_n C (pc := 38) 3 dX6_riskOf_38 rfl ?_
  refine x_cSiR C (pc := 39) (st := []) (c_X6_riskThatAllAreMissed l D z cI cZ cP cR N F p c d (by omega) (by omega) (by omega)) (va_cwS 3 C.2.2.2.2.1 gX6_riskOf_X6_riskThatAllAreMissed rfl rfl rfl hd_X6_riskThatAllAreMissed.2 ⟨Nat.le_of_ble_eq_true rfl, Nat.le_of_ble_eq_true rfl⟩) rfl rfl (Nat.le_of_ble_eq_true rfl) dX6_riskOf_39 ⟨Nat.le_of_ble_eq_true rfl, Nat.le_of_ble_eq_true rfl⟩ ?_
  exact x_iret C hR0 rfl (Nat.le_of_ble_eq_true rfl) (Nat.le_of_ble_eq_true rfl) ⟨rfl, rfl, rfl⟩ dX6_riskOf_42
theorem fl_X6_atLeast_10 : Cond.fieldLink RX6 10 "PileRecount" "now" "LPileRecount$Recount;" ∈ wsX6_atLeast := by decide +kernel
theorem hn_X6_atLeast_X6 : ∀ w ∈ wsX60, w ∈ wsX6_atLeast := fun _ h => List.mem_cons_of_mem _ (List.mem_append_left _ (List.mem_append_left _ (List.mem_append_right _ h)))
set_option maxHeartbeats 4000000 in
set_option maxRecDepth 100000 in
theorem c_X6_atLeast_e (l : Launch) (D : va_G) (z : Nat) (cI cZ cP cR : ClassId) (N : Nat) (F : Nat → va_E) (n kk cw c0 : Nat) (wi rl sp : Int32) (pd : Nat → Nat → Int32) (bs od : Nat → Int32) (pi : Nat → Nat) (T : RD) (hn : Nat) (hb : Nat → Nat) (hd : Nat → RD) (sl : Nat → Option Nat) (sd : Nat → RD) (len : Nat) (pa : Nat → Int32)  (hR : isRec z cI cP F 1 (nI n) wi (nI kk) (nI cw) rl (nI c0) sp pd bs od) (hnn : n ≤ 10) (hkk : kk ≤ n) (hcw : cw < 2 ^ n) (hc0 : c0 < 2 ^ 31) (hcnt : cntB cw n = kk) (hsp : sp = 0 ∨ sp = 1) (hpi : piOK bs pi n) (hC : isCl z cI cP cR N F T hn hb hd sl sd len pa) (hw : hwB wi = false) : gMi l yX6_atLeast wsX6_atLeast ({ frames := 1, cells := 0, slots := 0, locals := 20 }) D z cI cZ cP cR N F [.ref (z + 0)] (gRes (-5) N (fun F2 => F2 = F)) 0 0 := by
  refine gMi.of (cc := cX6_atLeast) (maxL := 1) (ret := (some .int)) (by decide) rfl (Nat.le_of_ble_eq_true rfl) [(0, .ref (z + 0))] rfl ?_
  intro pg ev sg mg bel me cg C hR0
  have h2n := two_lt hnn
  obtain ⟨hT, hTr, hH, hn6, hB, hD, hPd, hlen, ⟨rpt, rhd, rnu, hRe⟩, ⟨owy, oso, hOd⟩, hN, hslb, hS, hdd⟩ := hC
  refine x_aload_n C (pc := 0) 0 dX6_atLeast_0 rfl ?_
  refine x_get C (pc := 1) (q := 0) (v := .ref (z + 1)) (ci := 6) rfl hn_X6_atLeast_X6 0 (by decide) fl_X6_atLeast_10 rfl (by omega) hT.1 rfl dX6_atLeast_1 ?_
  refine x_cViR C (pc := 4) (st := []) (c_X5_hasWinner l D z cI cZ cP cR N F 1 (nI n) wi (nI kk) (nI cw) rl (nI c0) sp pd bs od hR (by omega)) (cwV 0 C.2.2.2.2.1 gX6_atLeast_X5_hasWinner rfl rfl rfl hd_X5_hasWinner ⟨Nat.le_of_ble_eq_true rfl, Nat.le_of_ble_eq_true rfl⟩) (by omega) hR.ob rfl rfl rfl (Nat.le_of_ble_eq_true rfl) dX6_atLeast_4 ⟨Nat.le_of_ble_eq_true rfl, Nat.le_of_ble_eq_true rfl⟩ ?_
  refine x_bz_ne C (pc := 7) (tgt := 13) dX6_atLeast_7 (by decide) (fun c_7 => absurd c_7 (by rw [hw]; decide)) (fun c_7 => ?_)
  refine x_bipush C (pc := 10) (v := (-5)) dX6_atLeast_10 (by decide) ?_
  exact x_iret C hR0 rfl (Nat.le_of_ble_eq_true rfl) (Nat.le_of_ble_eq_true rfl) ⟨rfl, rfl, rfl⟩ dX6_atLeast_12
set_option maxHeartbeats 4000000 in
set_option maxRecDepth 100000 in
theorem c_X6_atLeast_s (l : Launch) (D : va_G) (z : Nat) (cI cZ cP cR : ClassId) (N : Nat) (F : Nat → va_E) (n kk cw c0 : Nat) (wi rl sp : Int32) (pd : Nat → Nat → Int32) (bs od : Nat → Int32) (pi : Nat → Nat) (T : RD) (hn : Nat) (hb : Nat → Nat) (hd : Nat → RD) (sl : Nat → Option Nat) (sd : Nat → RD) (len : Nat) (pa : Nat → Int32)  (hR : isRec z cI cP F 1 (nI n) wi (nI kk) (nI cw) rl (nI c0) sp pd bs od) (hnn : n ≤ 10) (hkk : kk ≤ n) (hcw : cw < 2 ^ n) (hc0 : c0 < 2 ^ 31) (hcnt : cntB cw n = kk) (hsp : sp = 0 ∨ sp = 1) (hpi : piOK bs pi n) (hC : isCl z cI cP cR N F T hn hb hd sl sd len pa) (hw : hwB wi = true) : gMi l yX6_atLeast wsX6_atLeast ({ frames := 5, cells := 0, slots := 0, locals := 115 }) D z cI cZ cP cR N F [.ref (z + 0)] (gRes (lsG (rfG wi pd pi n cw rl (2 ^ n)) (n - kk) (n - kk + 1) 0) N (fun F2 => F2 = F)) 0 0 := by
  refine gMi.of (cc := cX6_atLeast) (maxL := 1) (ret := (some .int)) (by decide) rfl (Nat.le_of_ble_eq_true rfl) [(0, .ref (z + 0))] rfl ?_
  intro pg ev sg mg bel me cg C hR0
  have h2n := two_lt hnn
  obtain ⟨hT, hTr, hH, hn6, hB, hD, hPd, hlen, ⟨rpt, rhd, rnu, hRe⟩, ⟨owy, oso, hOd⟩, hN, hslb, hS, hdd⟩ := hC
  refine x_aload_n C (pc := 0) 0 dX6_atLeast_0 rfl ?_
  refine x_get C (pc := 1) (q := 0) (v := .ref (z + 1)) (ci := 6) rfl hn_X6_atLeast_X6 0 (by decide) fl_X6_atLeast_10 rfl (by omega) hT.1 rfl dX6_atLeast_1 ?_
  refine x_cViR C (pc := 4) (st := []) (c_X5_hasWinner l D z cI cZ cP cR N F 1 (nI n) wi (nI kk) (nI cw) rl (nI c0) sp pd bs od hR (by omega)) (cwV 0 C.2.2.2.2.1 gX6_atLeast_X5_hasWinner rfl rfl rfl hd_X5_hasWinner ⟨Nat.le_of_ble_eq_true rfl, Nat.le_of_ble_eq_true rfl⟩) (by omega) hR.ob rfl rfl rfl (Nat.le_of_ble_eq_true rfl) dX6_atLeast_4 ⟨Nat.le_of_ble_eq_true rfl, Nat.le_of_ble_eq_true rfl⟩ ?_
  refine x_bz_ne C (pc := 7) (tgt := 13) dX6_atLeast_7 (by decide) (fun c_7 => ?_) (fun c_7 => absurd c_7 (by rw [hw]; decide))
  refine x_aload_n C (pc := 13) 0 dX6_atLeast_13 rfl ?_
  refine x_get C (pc := 14) (q := 0) (v := .ref (z + 1)) (ci := 6) rfl hn_X6_atLeast_X6 0 (by decide) fl_X6_atLeast_10 rfl (by omega) hT.1 rfl dX6_atLeast_14 ?_
  refine x_cViR C (pc := 17) (st := []) (c_X5_leastToStop l D z cI cZ cP cR N F 1 n cw kk wi rl (nI c0) sp pd bs od hR (by omega) (by omega) (by omega) (by omega) pi hpi) (cwV 0 C.2.2.2.2.1 gX6_atLeast_X5_leastToStop rfl rfl rfl hd_X5_leastToStop ⟨Nat.le_of_ble_eq_true rfl, Nat.le_of_ble_eq_true rfl⟩) (by omega) hR.ob rfl rfl rfl (Nat.le_of_ble_eq_true rfl) dX6_atLeast_17 ⟨Nat.le_of_ble_eq_true rfl, Nat.le_of_ble_eq_true rfl⟩ ?_
  exact x_iret C hR0 rfl (Nat.le_of_ble_eq_true rfl) (Nat.le_of_ble_eq_true rfl) ⟨rfl, rfl, rfl⟩ dX6_atLeast_20
set_option maxHeartbeats 4000000 in
set_option maxRecDepth 100000 in
theorem c_X6_orders_e1 (l : Launch) (D : va_G) (z : Nat) (cI cZ cP cR : ClassId) (N : Nat) (F : Nat → va_E) (n kk cw c0 : Nat) (wi rl sp : Int32) (pd : Nat → Nat → Int32) (bs od : Nat → Int32) (pi : Nat → Nat) (T : RD) (hn : Nat) (hb : Nat → Nat) (hd : Nat → RD) (sl : Nat → Option Nat) (sd : Nat → RD) (len : Nat) (pa : Nat → Int32) (v : Int32) (hR : isRec z cI cP F 1 (nI n) wi (nI kk) (nI cw) rl (nI c0) sp pd bs od) (hnn : n ≤ 10) (hkk : kk ≤ n) (hcw : cw < 2 ^ n) (hc0 : c0 < 2 ^ 31) (hcnt : cntB cw n = kk) (hsp : sp = 0 ∨ sp = 1) (hpi : piOK bs pi n) (hC : isCl z cI cP cR N F T hn hb hd sl sd len pa) (hv : inB v 0 10 = false) : gMi l yX6_orders wsX6_orders ({ frames := 0, cells := 0, slots := 0, locals := 0 }) D z cI cZ cP cR N F [.ref (z + 0), .int v] (gRes (-2) N (fun F2 => F2 = F)) 0 0 := by
  refine gMi.of (cc := cX6_orders) (maxL := 2) (ret := (some .int)) (by decide) rfl (Nat.le_of_ble_eq_true rfl) [(0, .ref (z + 0)), (1, .int v)] rfl ?_
  intro pg ev sg mg bel me cg C hR0
  have h2n := two_lt hnn
  obtain ⟨hT, hTr, hH, hn6, hB, hD, hPd, hlen, ⟨rpt, rhd, rnu, hRe⟩, ⟨owy, oso, hOd⟩, hN, hslb, hS, hdd⟩ := hC
  refine x_iload_n C (pc := 0) 1 dX6_orders_0 rfl ?_
  refine x_if_lt C (pc := 1) (tgt := 10) dX6_orders_1 (by decide) (fun c_1 => ?_) (fun c_1 => ?_)
  · refine x_bipush C (pc := 10) (v := (-2)) dX6_orders_10 (by decide) ?_
    exact x_iret C hR0 rfl (Nat.le_of_ble_eq_true rfl) (Nat.le_of_ble_eq_true rfl) ⟨rfl, rfl, rfl⟩ dX6_orders_12
  refine x_iload_n C (pc := 4) 1 dX6_orders_4 rfl ?_
  refine x_bipush C (pc := 5) (v := 10) dX6_orders_5 (by decide) ?_
  refine x_icmp_le C (pc := 7) (tgt := 13) dX6_orders_7 (by decide) (fun c_7 => absurd c_7 (fun q => by rw [inB_t c_1 (Int32.not_lt.mpr q)] at hv; cases hv)) (fun c_7 => ?_)
  refine x_bipush C (pc := 10) (v := (-2)) dX6_orders_10 (by decide) ?_
  exact x_iret C hR0 rfl (Nat.le_of_ble_eq_true rfl) (Nat.le_of_ble_eq_true rfl) ⟨rfl, rfl, rfl⟩ dX6_orders_12
theorem fl_X6_orders_10 : Cond.fieldLink RX6 10 "PileRecount" "now" "LPileRecount$Recount;" ∈ wsX6_orders := by decide +kernel
theorem hn_X6_orders_X6 : ∀ w ∈ wsX60, w ∈ wsX6_orders := fun _ h => List.mem_cons_of_mem _ (List.mem_append_left _ (List.mem_append_left _ (List.mem_append_left _ (List.mem_append_right _ h))))
set_option maxHeartbeats 4000000 in
set_option maxRecDepth 100000 in
theorem c_X6_orders_e2 (l : Launch) (D : va_G) (z : Nat) (cI cZ cP cR : ClassId) (N : Nat) (F : Nat → va_E) (n kk cw c0 : Nat) (wi rl sp : Int32) (pd : Nat → Nat → Int32) (bs od : Nat → Int32) (pi : Nat → Nat) (T : RD) (hn : Nat) (hb : Nat → Nat) (hd : Nat → RD) (sl : Nat → Option Nat) (sd : Nat → RD) (len : Nat) (pa : Nat → Int32) (v : Nat) (hR : isRec z cI cP F 1 (nI n) wi (nI kk) (nI cw) rl (nI c0) sp pd bs od) (hnn : n ≤ 10) (hkk : kk ≤ n) (hcw : cw < 2 ^ n) (hc0 : c0 < 2 ^ 31) (hcnt : cntB cw n = kk) (hsp : sp = 0 ∨ sp = 1) (hpi : piOK bs pi n) (hC : isCl z cI cP cR N F T hn hb hd sl sd len pa) (hv : v ≤ 10) (hw : hwB wi = false) : gMi l yX6_orders wsX6_orders ({ frames := 1, cells := 0, slots := 0, locals := 20 }) D z cI cZ cP cR N F [.ref (z + 0), .int (nI v)] (gRes (-5) N (fun F2 => F2 = F)) 0 0 := by
  refine gMi.of (cc := cX6_orders) (maxL := 2) (ret := (some .int)) (by decide) rfl (Nat.le_of_ble_eq_true rfl) [(0, .ref (z + 0)), (1, .int (nI v))] rfl ?_
  intro pg ev sg mg bel me cg C hR0
  have h2n := two_lt hnn
  obtain ⟨hT, hTr, hH, hn6, hB, hD, hPd, hlen, ⟨rpt, rhd, rnu, hRe⟩, ⟨owy, oso, hOd⟩, hN, hslb, hS, hdd⟩ := hC
  refine x_iload_n C (pc := 0) 1 dX6_orders_0 rfl ?_
  refine x_ifN_lt C (a := v) (pc := 1) (tgt := 10) (by omega) dX6_orders_1 (by decide) (fun c_1 => absurd c_1 (by omega)) (fun c_1 => ?_)
  refine x_iload_n C (pc := 4) 1 dX6_orders_4 rfl ?_
  refine x_bipush C (pc := 5) (v := 10) dX6_orders_5 (by decide) ?_
  refine x_icmpN_le C (a := v) (b := 10) (pc := 7) (tgt := 13) (by omega) (by omega) dX6_orders_7 (by decide) (fun c_7 => ?_) (fun c_7 => absurd c_7 (by omega))
  refine x_aload_n C (pc := 13) 0 dX6_orders_13 rfl ?_
  refine x_get C (pc := 14) (q := 0) (v := .ref (z + 1)) (ci := 6) rfl hn_X6_orders_X6 0 (by decide) fl_X6_orders_10 rfl (by omega) hT.1 rfl dX6_orders_14 ?_
  refine x_cViR C (pc := 17) (st := []) (c_X5_hasWinner l D z cI cZ cP cR N F 1 (nI n) wi (nI kk) (nI cw) rl (nI c0) sp pd bs od hR (by omega)) (cwV 0 C.2.2.2.2.1 gX6_orders_X5_hasWinner rfl rfl rfl hd_X5_hasWinner ⟨Nat.le_of_ble_eq_true rfl, Nat.le_of_ble_eq_true rfl⟩) (by omega) hR.ob rfl rfl rfl (Nat.le_of_ble_eq_true rfl) dX6_orders_17 ⟨Nat.le_of_ble_eq_true rfl, Nat.le_of_ble_eq_true rfl⟩ ?_
  refine x_bz_ne C (pc := 20) (tgt := 26) dX6_orders_20 (by decide) (fun c_20 => absurd c_20 (by rw [hw]; decide)) (fun c_20 => ?_)
  refine x_bipush C (pc := 23) (v := (-5)) dX6_orders_23 (by decide) ?_
  exact x_iret C hR0 rfl (Nat.le_of_ble_eq_true rfl) (Nat.le_of_ble_eq_true rfl) ⟨rfl, rfl, rfl⟩ dX6_orders_25
theorem fl_X6_orders_194 : Cond.fieldLink RX6 194 "PileRecount$Odds" "stops" "[I" ∈ wsX6_orders := by decide +kernel
theorem fl_X6_orders_47 : Cond.fieldLink RX6 47 "PileRecount" "odds" "LPileRecount$Odds;" ∈ wsX6_orders := by decide +kernel
theorem hn_X6_orders_X1 : ∀ w ∈ wsX10, w ∈ wsX6_orders := fun _ h => List.mem_cons_of_mem _ (List.mem_append_left _ (List.mem_append_left _ (List.mem_append_right _ h)))
set_option maxHeartbeats 4000000 in
set_option maxRecDepth 100000 in
theorem c_X6_orders_s (l : Launch) (D : va_G) (z : Nat) (cI cZ cP cR : ClassId) (N : Nat) (F : Nat → va_E) (n kk cw c0 : Nat) (wi rl sp : Int32) (pd : Nat → Nat → Int32) (bs od : Nat → Int32) (pi : Nat → Nat) (T : RD) (hn : Nat) (hb : Nat → Nat) (hd : Nat → RD) (sl : Nat → Option Nat) (sd : Nat → RD) (len : Nat) (pa : Nat → Int32) (v : Nat) (hR : isRec z cI cP F 1 (nI n) wi (nI kk) (nI cw) rl (nI c0) sp pd bs od) (hnn : n ≤ 10) (hkk : kk ≤ n) (hcw : cw < 2 ^ n) (hc0 : c0 < 2 ^ 31) (hcnt : cntB cw n = kk) (hsp : sp = 0 ∨ sp = 1) (hpi : piOK bs pi n) (hC : isCl z cI cP cR N F T hn hb hd sl sd len pa) (hv : v ≤ 10) (hw : hwB wi = true) : gMi l yX6_orders wsX6_orders ({ frames := 6, cells := 0, slots := 0, locals := 139 }) D z cI cZ cP cR N F [.ref (z + 0), .int (nI v)] (gRes ((folG (fun w => decide (rbF wi pd pi n w w ≤ rl)) n kk cw (2 ^ n)).2 v) N (fun F2 => isRec z cI cP F2 1 (nI n) wi (nI kk) (nI cw) rl (nI c0) sp pd bs od ∧ isCl z cI cP cR N F2 T hn hb hd sl sd len pa ∧ gFr 0 123 F F2)) 0 0 := by
  refine gMi.of (cc := cX6_orders) (maxL := 2) (ret := (some .int)) (by decide) rfl (Nat.le_of_ble_eq_true rfl) [(0, .ref (z + 0)), (1, .int (nI v))] rfl ?_
  intro pg ev sg mg bel me cg C hR0
  have h2n := two_lt hnn
  obtain ⟨hT, hTr, hH, hn6, hB, hD, hPd, hlen, ⟨rpt, rhd, rnu, hRe⟩, ⟨owy, oso, hOd⟩, hN, hslb, hS, hdd⟩ := hC
  refine x_iload_n C (pc := 0) 1 dX6_orders_0 rfl ?_
  refine x_ifN_lt C (a := v) (pc := 1) (tgt := 10) (by omega) dX6_orders_1 (by decide) (fun c_1 => absurd c_1 (by omega)) (fun c_1 => ?_)
  refine x_iload_n C (pc := 4) 1 dX6_orders_4 rfl ?_
  refine x_bipush C (pc := 5) (v := 10) dX6_orders_5 (by decide) ?_
  refine x_icmpN_le C (a := v) (b := 10) (pc := 7) (tgt := 13) (by omega) (by omega) dX6_orders_7 (by decide) (fun c_7 => ?_) (fun c_7 => absurd c_7 (by omega))
  refine x_aload_n C (pc := 13) 0 dX6_orders_13 rfl ?_
  refine x_get C (pc := 14) (q := 0) (v := .ref (z + 1)) (ci := 6) rfl hn_X6_orders_X6 0 (by decide) fl_X6_orders_10 rfl (by omega) hT.1 rfl dX6_orders_14 ?_
  refine x_cViR C (pc := 17) (st := []) (c_X5_hasWinner l D z cI cZ cP cR N F 1 (nI n) wi (nI kk) (nI cw) rl (nI c0) sp pd bs od hR (by omega)) (cwV 0 C.2.2.2.2.1 gX6_orders_X5_hasWinner rfl rfl rfl hd_X5_hasWinner ⟨Nat.le_of_ble_eq_true rfl, Nat.le_of_ble_eq_true rfl⟩) (by omega) hR.ob rfl rfl rfl (Nat.le_of_ble_eq_true rfl) dX6_orders_17 ⟨Nat.le_of_ble_eq_true rfl, Nat.le_of_ble_eq_true rfl⟩ ?_
  refine x_bz_ne C (pc := 20) (tgt := 26) dX6_orders_20 (by decide) (fun c_20 => ?_) (fun c_20 => absurd c_20 (by rw [hw]; decide))
  refine x_aload_n C (pc := 26) 0 dX6_orders_26 rfl ?_
  refine x_get C (pc := 27) (q := 0) (v := .ref (z + 120)) (ci := 6) rfl hn_X6_orders_X6 6 (by decide) fl_X6_orders_47 rfl (by omega) hT.1 rfl dX6_orders_27 ?_
  refine x_aload_n C (pc := 30) 0 dX6_orders_30 rfl ?_
  refine x_get C (pc := 31) (q := 0) (v := .ref (z + 1)) (ci := 6) rfl hn_X6_orders_X6 0 (by decide) fl_X6_orders_10 rfl (by omega) hT.1 rfl dX6_orders_31 ?_
  refine x_cVvE C (pc := 34) (st := []) (c_X1_follow l D z cI cZ cP cR N F 120 n cw kk 1 owy oso wi rl (nI c0) sp pd bs od hOd (by omega) hR (by omega) (by omega) (by omega) (by omega) (by omega) pi hpi hcnt) (cwV 1 C.2.2.2.2.1 gX6_orders_X1_follow rfl rfl rfl hd_X1_follow ⟨Nat.le_of_ble_eq_true rfl, Nat.le_of_ble_eq_true rfl⟩) (by omega) hOd.ob rfl rfl rfl (Nat.le_of_ble_eq_true rfl) dX6_orders_34 ⟨Nat.le_of_ble_eq_true rfl, Nat.le_of_ble_eq_true rfl⟩ (fun F_34 h_34 => ?_)
  obtain ⟨hOd_34, fr_34⟩ := h_34
  have hT_34 := hT.same (fr_34 0 (by omega)) (fr_34 29 (by omega))
  have hR_34 := hR.same (F2 := F_34) (fun q _ _ => fr_34 q (by omega))
  have hTr_34 := hTr.same (F2 := F_34) (fun q _ _ => fr_34 q (by omega))
  have hH_34 := hH.same (F2 := F_34) (fun q _ _ => fr_34 q (by omega))
  have hD_34 : ∀ i, i < 6 → isRecD z cI cP F_34 (hb i) (hd i) := fun i hi => (hD i hi).same (fun q h1 h2 => fr_34 q (by have := (hB i hi).1; omega))
  have hPd_34 := hPd.same (F2 := F_34) (fun q _ _ => fr_34 q (by omega))
  have hRe_34 := hRe.same (F2 := F_34) (fun q _ _ => fr_34 q (by omega))
  have hS_34 : ∀ i, i < 2 → ∀ q, sl i = some q → isRecD z cI cP F_34 q (sd i) := fun i hi q hq => (hS i hi q hq).same (fun q2 h1 h2 => fr_34 q2 (by have := hslb i hi q hq; omega))
  refine x_aload_n C (pc := 37) 0 dX6_orders_37 rfl ?_
  refine x_get C (pc := 38) (q := 0) (v := .ref (z + 120)) (ci := 6) rfl hn_X6_orders_X6 6 (by decide) fl_X6_orders_47 rfl (by omega) hT_34.1 rfl dX6_orders_38 ?_
  refine x_get C (pc := 41) (q := 120) (v := .ref (z + (120 + 2))) (ci := 1) rfl hn_X6_orders_X1 1 (by decide) fl_X6_orders_194 rfl (by omega) hOd_34.ob rfl dX6_orders_41 ?_
  refine x_iload_n C (pc := 44) 1 dX6_orders_44 rfl ?_
  refine x_ialdE C (pc := 45) (q := 120 + 2) (j := v) (f := (folG (fun w => decide (rbF wi pd pi n w w ≤ rl)) n kk cw (2 ^ n)).2) (by omega) hOd_34.so rfl (by omega) (by decide) dX6_orders_45 ?_
  exact x_iret C hR0 rfl (Nat.le_of_ble_eq_true rfl) (Nat.le_of_ble_eq_true rfl) ⟨rfl, rfl, ⟨hR_34, ⟨hT_34, hTr_34, hH_34, hn6, hB, hD_34, hPd_34, hlen, ⟨_, _, _, hRe_34⟩, ⟨_, _, hOd_34⟩, hN, hslb, hS_34, hdd⟩, (gFr.wide (a := 0) (b := 123) fr_34 (by omega) (by omega))⟩⟩ dX6_orders_46
theorem fl_X6_wrongOrders_10 : Cond.fieldLink RX6 10 "PileRecount" "now" "LPileRecount$Recount;" ∈ wsX6_wrongOrders := by decide +kernel
theorem hn_X6_wrongOrders_X6 : ∀ w ∈ wsX60, w ∈ wsX6_wrongOrders := fun _ h => List.mem_cons_of_mem _ (List.mem_append_left _ (List.mem_append_left _ (List.mem_append_left _ (List.mem_append_right _ h))))
set_option maxHeartbeats 4000000 in
set_option maxRecDepth 100000 in
theorem c_X6_wrongOrders_e (l : Launch) (D : va_G) (z : Nat) (cI cZ cP cR : ClassId) (N : Nat) (F : Nat → va_E) (n kk cw c0 : Nat) (wi rl sp : Int32) (pd : Nat → Nat → Int32) (bs od : Nat → Int32) (pi : Nat → Nat) (T : RD) (hn : Nat) (hb : Nat → Nat) (hd : Nat → RD) (sl : Nat → Option Nat) (sd : Nat → RD) (len : Nat) (pa : Nat → Int32)  (hR : isRec z cI cP F 1 (nI n) wi (nI kk) (nI cw) rl (nI c0) sp pd bs od) (hnn : n ≤ 10) (hkk : kk ≤ n) (hcw : cw < 2 ^ n) (hc0 : c0 < 2 ^ 31) (hcnt : cntB cw n = kk) (hsp : sp = 0 ∨ sp = 1) (hpi : piOK bs pi n) (hC : isCl z cI cP cR N F T hn hb hd sl sd len pa) (hw : hwB wi = false) : gMi l yX6_wrongOrders wsX6_wrongOrders ({ frames := 1, cells := 0, slots := 0, locals := 20 }) D z cI cZ cP cR N F [.ref (z + 0)] (gRes (-5) N (fun F2 => F2 = F)) 0 0 := by
  refine gMi.of (cc := cX6_wrongOrders) (maxL := 1) (ret := (some .int)) (by decide) rfl (Nat.le_of_ble_eq_true rfl) [(0, .ref (z + 0))] rfl ?_
  intro pg ev sg mg bel me cg C hR0
  have h2n := two_lt hnn
  obtain ⟨hT, hTr, hH, hn6, hB, hD, hPd, hlen, ⟨rpt, rhd, rnu, hRe⟩, ⟨owy, oso, hOd⟩, hN, hslb, hS, hdd⟩ := hC
  refine x_aload_n C (pc := 0) 0 dX6_wrongOrders_0 rfl ?_
  refine x_get C (pc := 1) (q := 0) (v := .ref (z + 1)) (ci := 6) rfl hn_X6_wrongOrders_X6 0 (by decide) fl_X6_wrongOrders_10 rfl (by omega) hT.1 rfl dX6_wrongOrders_1 ?_
  refine x_cViR C (pc := 4) (st := []) (c_X5_hasWinner l D z cI cZ cP cR N F 1 (nI n) wi (nI kk) (nI cw) rl (nI c0) sp pd bs od hR (by omega)) (cwV 0 C.2.2.2.2.1 gX6_wrongOrders_X5_hasWinner rfl rfl rfl hd_X5_hasWinner ⟨Nat.le_of_ble_eq_true rfl, Nat.le_of_ble_eq_true rfl⟩) (by omega) hR.ob rfl rfl rfl (Nat.le_of_ble_eq_true rfl) dX6_wrongOrders_4 ⟨Nat.le_of_ble_eq_true rfl, Nat.le_of_ble_eq_true rfl⟩ ?_
  refine x_bz_ne C (pc := 7) (tgt := 13) dX6_wrongOrders_7 (by decide) (fun c_7 => absurd c_7 (by rw [hw]; decide)) (fun c_7 => ?_)
  refine x_bipush C (pc := 10) (v := (-5)) dX6_wrongOrders_10 (by decide) ?_
  exact x_iret C hR0 rfl (Nat.le_of_ble_eq_true rfl) (Nat.le_of_ble_eq_true rfl) ⟨rfl, rfl, rfl⟩ dX6_wrongOrders_12
set_option maxHeartbeats 4000000 in
set_option maxRecDepth 100000 in
theorem c_X6_wrongOrders_z (l : Launch) (D : va_G) (z : Nat) (cI cZ cP cR : ClassId) (N : Nat) (F : Nat → va_E) (n kk cw c0 : Nat) (wi rl sp : Int32) (pd : Nat → Nat → Int32) (bs od : Nat → Int32) (pi : Nat → Nat) (T : RD) (hn : Nat) (hb : Nat → Nat) (hd : Nat → RD) (sl : Nat → Option Nat) (sd : Nat → RD) (len : Nat) (pa : Nat → Int32)  (hR : isRec z cI cP F 1 (nI n) wi (nI kk) (nI cw) rl (nI c0) sp pd bs od) (hnn : n ≤ 10) (hkk : kk ≤ n) (hcw : cw < 2 ^ n) (hc0 : c0 < 2 ^ 31) (hcnt : cntB cw n = kk) (hsp : sp = 0 ∨ sp = 1) (hpi : piOK bs pi n) (hC : isCl z cI cP cR N F T hn hb hd sl sd len pa) (hw : hwB wi = true) (hr : decide (0 < leadF wi pd n (2 ^ n - 1)) = true) : gMi l yX6_wrongOrders wsX6_wrongOrders ({ frames := 3, cells := 0, slots := 0, locals := 64 }) D z cI cZ cP cR N F [.ref (z + 0)] (gRes 0 N (fun F2 => F2 = F)) 0 0 := by
  refine gMi.of (cc := cX6_wrongOrders) (maxL := 1) (ret := (some .int)) (by decide) rfl (Nat.le_of_ble_eq_true rfl) [(0, .ref (z + 0))] rfl ?_
  intro pg ev sg mg bel me cg C hR0
  have h2n := two_lt hnn
  obtain ⟨hT, hTr, hH, hn6, hB, hD, hPd, hlen, ⟨rpt, rhd, rnu, hRe⟩, ⟨owy, oso, hOd⟩, hN, hslb, hS, hdd⟩ := hC
  refine x_aload_n C (pc := 0) 0 dX6_wrongOrders_0 rfl ?_
  refine x_get C (pc := 1) (q := 0) (v := .ref (z + 1)) (ci := 6) rfl hn_X6_wrongOrders_X6 0 (by decide) fl_X6_wrongOrders_10 rfl (by omega) hT.1 rfl dX6_wrongOrders_1 ?_
  refine x_cViR C (pc := 4) (st := []) (c_X5_hasWinner l D z cI cZ cP cR N F 1 (nI n) wi (nI kk) (nI cw) rl (nI c0) sp pd bs od hR (by omega)) (cwV 0 C.2.2.2.2.1 gX6_wrongOrders_X5_hasWinner rfl rfl rfl hd_X5_hasWinner ⟨Nat.le_of_ble_eq_true rfl, Nat.le_of_ble_eq_true rfl⟩) (by omega) hR.ob rfl rfl rfl (Nat.le_of_ble_eq_true rfl) dX6_wrongOrders_4 ⟨Nat.le_of_ble_eq_true rfl, Nat.le_of_ble_eq_true rfl⟩ ?_
  refine x_bz_ne C (pc := 7) (tgt := 13) dX6_wrongOrders_7 (by decide) (fun c_7 => ?_) (fun c_7 => absurd c_7 (by rw [hw]; decide))
  refine x_aload_n C (pc := 13) 0 dX6_wrongOrders_13 rfl ?_
  refine x_get C (pc := 14) (q := 0) (v := .ref (z + 1)) (ci := 6) rfl hn_X6_wrongOrders_X6 0 (by decide) fl_X6_wrongOrders_10 rfl (by omega) hT.1 rfl dX6_wrongOrders_14 ?_
  refine x_cViR C (pc := 17) (st := []) (c_X5_isRight l D z cI cZ cP cR N F 1 n wi (nI kk) (nI cw) rl (nI c0) sp pd bs od hR (by omega) (by omega)) (cwV 0 C.2.2.2.2.1 gX6_wrongOrders_X5_isRight rfl rfl rfl hd_X5_isRight ⟨Nat.le_of_ble_eq_true rfl, Nat.le_of_ble_eq_true rfl⟩) (by omega) hR.ob rfl rfl rfl (Nat.le_of_ble_eq_true rfl) dX6_wrongOrders_17 ⟨Nat.le_of_ble_eq_true rfl, Nat.le_of_ble_eq_true rfl⟩ ?_
  refine x_bz_eq C (pc := 20) (tgt := 25) dX6_wrongOrders_20 (by decide) (fun c_20 => absurd c_20 (by rw [hr]; decide)) (fun c_20 => ?_)
  refine x_iconst C (pc := 23) (v := 0) dX6_wrongOrders_23 (by decide) ?_
  exact x_iret C hR0 rfl (Nat.le_of_ble_eq_true rfl) (Nat.le_of_ble_eq_true rfl) ⟨rfl, rfl, rfl⟩ dX6_wrongOrders_24
theorem fl_X6_wrongOrders_47 : Cond.fieldLink RX6 47 "PileRecount" "odds" "LPileRecount$Odds;" ∈ wsX6_wrongOrders := by decide +kernel
set_option maxHeartbeats 4000000 in
set_option maxRecDepth 100000 in
theorem c_X6_wrongOrders_s (l : Launch) (D : va_G) (z : Nat) (cI cZ cP cR : ClassId) (N : Nat) (F : Nat → va_E) (n kk cw c0 : Nat) (wi rl sp : Int32) (pd : Nat → Nat → Int32) (bs od : Nat → Int32) (pi : Nat → Nat) (T : RD) (hn : Nat) (hb : Nat → Nat) (hd : Nat → RD) (sl : Nat → Option Nat) (sd : Nat → RD) (len : Nat) (pa : Nat → Int32)  (hR : isRec z cI cP F 1 (nI n) wi (nI kk) (nI cw) rl (nI c0) sp pd bs od) (hnn : n ≤ 10) (hkk : kk ≤ n) (hcw : cw < 2 ^ n) (hc0 : c0 < 2 ^ 31) (hcnt : cntB cw n = kk) (hsp : sp = 0 ∨ sp = 1) (hpi : piOK bs pi n) (hC : isCl z cI cP cR N F T hn hb hd sl sd len pa) (hw : hwB wi = true) (hr : decide (0 < leadF wi pd n (2 ^ n - 1)) = false) : gMi l yX6_wrongOrders wsX6_wrongOrders ({ frames := 6, cells := 0, slots := 0, locals := 139 }) D z cI cZ cP cR N F [.ref (z + 0)] (gRes (gSum (folG (fun w => decide (rbF wi pd pi n w w ≤ rl)) n kk cw (2 ^ n)).2 11) N (fun F2 => isRec z cI cP F2 1 (nI n) wi (nI kk) (nI cw) rl (nI c0) sp pd bs od ∧ isCl z cI cP cR N F2 T hn hb hd sl sd len pa ∧ gFr 0 123 F F2)) 0 0 := by
  refine gMi.of (cc := cX6_wrongOrders) (maxL := 1) (ret := (some .int)) (by decide) rfl (Nat.le_of_ble_eq_true rfl) [(0, .ref (z + 0))] rfl ?_
  intro pg ev sg mg bel me cg C hR0
  have h2n := two_lt hnn
  obtain ⟨hT, hTr, hH, hn6, hB, hD, hPd, hlen, ⟨rpt, rhd, rnu, hRe⟩, ⟨owy, oso, hOd⟩, hN, hslb, hS, hdd⟩ := hC
  refine x_aload_n C (pc := 0) 0 dX6_wrongOrders_0 rfl ?_
  refine x_get C (pc := 1) (q := 0) (v := .ref (z + 1)) (ci := 6) rfl hn_X6_wrongOrders_X6 0 (by decide) fl_X6_wrongOrders_10 rfl (by omega) hT.1 rfl dX6_wrongOrders_1 ?_
  refine x_cViR C (pc := 4) (st := []) (c_X5_hasWinner l D z cI cZ cP cR N F 1 (nI n) wi (nI kk) (nI cw) rl (nI c0) sp pd bs od hR (by omega)) (cwV 0 C.2.2.2.2.1 gX6_wrongOrders_X5_hasWinner rfl rfl rfl hd_X5_hasWinner ⟨Nat.le_of_ble_eq_true rfl, Nat.le_of_ble_eq_true rfl⟩) (by omega) hR.ob rfl rfl rfl (Nat.le_of_ble_eq_true rfl) dX6_wrongOrders_4 ⟨Nat.le_of_ble_eq_true rfl, Nat.le_of_ble_eq_true rfl⟩ ?_
  refine x_bz_ne C (pc := 7) (tgt := 13) dX6_wrongOrders_7 (by decide) (fun c_7 => ?_) (fun c_7 => absurd c_7 (by rw [hw]; decide))
  refine x_aload_n C (pc := 13) 0 dX6_wrongOrders_13 rfl ?_
  refine x_get C (pc := 14) (q := 0) (v := .ref (z + 1)) (ci := 6) rfl hn_X6_wrongOrders_X6 0 (by decide) fl_X6_wrongOrders_10 rfl (by omega) hT.1 rfl dX6_wrongOrders_14 ?_
  refine x_cViR C (pc := 17) (st := []) (c_X5_isRight l D z cI cZ cP cR N F 1 n wi (nI kk) (nI cw) rl (nI c0) sp pd bs od hR (by omega) (by omega)) (cwV 0 C.2.2.2.2.1 gX6_wrongOrders_X5_isRight rfl rfl rfl hd_X5_isRight ⟨Nat.le_of_ble_eq_true rfl, Nat.le_of_ble_eq_true rfl⟩) (by omega) hR.ob rfl rfl rfl (Nat.le_of_ble_eq_true rfl) dX6_wrongOrders_17 ⟨Nat.le_of_ble_eq_true rfl, Nat.le_of_ble_eq_true rfl⟩ ?_
  refine x_bz_eq C (pc := 20) (tgt := 25) dX6_wrongOrders_20 (by decide) (fun c_20 => ?_) (fun c_20 => absurd c_20 (by rw [hr]; decide))
  refine x_aload_n C (pc := 25) 0 dX6_wrongOrders_25 rfl ?_
  refine x_get C (pc := 26) (q := 0) (v := .ref (z + 120)) (ci := 6) rfl hn_X6_wrongOrders_X6 6 (by decide) fl_X6_wrongOrders_47 rfl (by omega) hT.1 rfl dX6_wrongOrders_26 ?_
  refine x_aload_n C (pc := 29) 0 dX6_wrongOrders_29 rfl ?_
  refine x_get C (pc := 30) (q := 0) (v := .ref (z + 1)) (ci := 6) rfl hn_X6_wrongOrders_X6 0 (by decide) fl_X6_wrongOrders_10 rfl (by omega) hT.1 rfl dX6_wrongOrders_30 ?_
  refine x_cVvE C (pc := 33) (st := []) (c_X1_follow l D z cI cZ cP cR N F 120 n cw kk 1 owy oso wi rl (nI c0) sp pd bs od hOd (by omega) hR (by omega) (by omega) (by omega) (by omega) (by omega) pi hpi hcnt) (cwV 1 C.2.2.2.2.1 gX6_wrongOrders_X1_follow rfl rfl rfl hd_X1_follow ⟨Nat.le_of_ble_eq_true rfl, Nat.le_of_ble_eq_true rfl⟩) (by omega) hOd.ob rfl rfl rfl (Nat.le_of_ble_eq_true rfl) dX6_wrongOrders_33 ⟨Nat.le_of_ble_eq_true rfl, Nat.le_of_ble_eq_true rfl⟩ (fun F_33 h_33 => ?_)
  obtain ⟨hOd_33, fr_33⟩ := h_33
  have hT_33 := hT.same (fr_33 0 (by omega)) (fr_33 29 (by omega))
  have hR_33 := hR.same (F2 := F_33) (fun q _ _ => fr_33 q (by omega))
  have hTr_33 := hTr.same (F2 := F_33) (fun q _ _ => fr_33 q (by omega))
  have hH_33 := hH.same (F2 := F_33) (fun q _ _ => fr_33 q (by omega))
  have hD_33 : ∀ i, i < 6 → isRecD z cI cP F_33 (hb i) (hd i) := fun i hi => (hD i hi).same (fun q h1 h2 => fr_33 q (by have := (hB i hi).1; omega))
  have hPd_33 := hPd.same (F2 := F_33) (fun q _ _ => fr_33 q (by omega))
  have hRe_33 := hRe.same (F2 := F_33) (fun q _ _ => fr_33 q (by omega))
  have hS_33 : ∀ i, i < 2 → ∀ q, sl i = some q → isRecD z cI cP F_33 q (sd i) := fun i hi q hq => (hS i hi q hq).same (fun q2 h1 h2 => fr_33 q2 (by have := hslb i hi q hq; omega))
  refine x_aload_n C (pc := 36) 0 dX6_wrongOrders_36 rfl ?_
  refine x_get C (pc := 37) (q := 0) (v := .ref (z + 120)) (ci := 6) rfl hn_X6_wrongOrders_X6 6 (by decide) fl_X6_wrongOrders_47 rfl (by omega) hT_33.1 rfl dX6_wrongOrders_37 ?_
  refine x_cViR C (pc := 40) (st := []) (c_X1_allStops l D z cI cZ cP cR N F_33 120 ((folG (fun w => decide (rbF wi pd pi n w w ≤ rl)) n kk cw (2 ^ n)).1) ((folG (fun w => decide (rbF wi pd pi n w w ≤ rl)) n kk cw (2 ^ n)).2) hOd_33 (by omega)) (cwV 0 C.2.2.2.2.1 gX6_wrongOrders_X1_allStops rfl rfl rfl hd_X1_allStops ⟨Nat.le_of_ble_eq_true rfl, Nat.le_of_ble_eq_true rfl⟩) (by omega) hOd_33.ob rfl rfl rfl (Nat.le_of_ble_eq_true rfl) dX6_wrongOrders_40 ⟨Nat.le_of_ble_eq_true rfl, Nat.le_of_ble_eq_true rfl⟩ ?_
  exact x_iret C hR0 rfl (Nat.le_of_ble_eq_true rfl) (Nat.le_of_ble_eq_true rfl) ⟨rfl, rfl, ⟨hR_33, ⟨hT_33, hTr_33, hH_33, hn6, hB, hD_33, hPd_33, hlen, ⟨_, _, _, hRe_33⟩, ⟨_, _, hOd_33⟩, hN, hslb, hS_33, hdd⟩, (gFr.wide (a := 0) (b := 123) fr_33 (by omega) (by omega))⟩⟩ dX6_wrongOrders_43
theorem fl_X6_suspects_10 : Cond.fieldLink RX6 10 "PileRecount" "now" "LPileRecount$Recount;" ∈ wsX6_suspects := by decide +kernel
theorem hn_X6_suspects_X6 : ∀ w ∈ wsX60, w ∈ wsX6_suspects := fun _ h => List.mem_cons_of_mem _ (List.mem_append_left _ (List.mem_append_left _ (List.mem_append_right _ h)))
set_option maxHeartbeats 4000000 in
set_option maxRecDepth 100000 in
theorem c_X6_suspects_e (l : Launch) (D : va_G) (z : Nat) (cI cZ cP cR : ClassId) (N : Nat) (F : Nat → va_E) (n kk cw c0 : Nat) (wi rl sp : Int32) (pd : Nat → Nat → Int32) (bs od : Nat → Int32) (pi : Nat → Nat) (T : RD) (hn : Nat) (hb : Nat → Nat) (hd : Nat → RD) (sl : Nat → Option Nat) (sd : Nat → RD) (len : Nat) (pa : Nat → Int32)  (hR : isRec z cI cP F 1 (nI n) wi (nI kk) (nI cw) rl (nI c0) sp pd bs od) (hnn : n ≤ 10) (hkk : kk ≤ n) (hcw : cw < 2 ^ n) (hc0 : c0 < 2 ^ 31) (hcnt : cntB cw n = kk) (hsp : sp = 0 ∨ sp = 1) (hpi : piOK bs pi n) (hC : isCl z cI cP cR N F T hn hb hd sl sd len pa) (hw : hwB wi = false) : gMi l yX6_suspects wsX6_suspects ({ frames := 1, cells := 0, slots := 0, locals := 20 }) D z cI cZ cP cR N F [.ref (z + 0)] (gRes (-5) N (fun F2 => F2 = F)) 0 0 := by
  refine gMi.of (cc := cX6_suspects) (maxL := 2) (ret := (some .int)) (by decide) rfl (Nat.le_of_ble_eq_true rfl) [(0, .ref (z + 0))] rfl ?_
  intro pg ev sg mg bel me cg C hR0
  have h2n := two_lt hnn
  obtain ⟨hT, hTr, hH, hn6, hB, hD, hPd, hlen, ⟨rpt, rhd, rnu, hRe⟩, ⟨owy, oso, hOd⟩, hN, hslb, hS, hdd⟩ := hC
  refine x_aload_n C (pc := 0) 0 dX6_suspects_0 rfl ?_
  refine x_get C (pc := 1) (q := 0) (v := .ref (z + 1)) (ci := 6) rfl hn_X6_suspects_X6 0 (by decide) fl_X6_suspects_10 rfl (by omega) hT.1 rfl dX6_suspects_1 ?_
  refine x_cViR C (pc := 4) (st := []) (c_X5_hasWinner l D z cI cZ cP cR N F 1 (nI n) wi (nI kk) (nI cw) rl (nI c0) sp pd bs od hR (by omega)) (cwV 0 C.2.2.2.2.1 gX6_suspects_X5_hasWinner rfl rfl rfl hd_X5_hasWinner ⟨Nat.le_of_ble_eq_true rfl, Nat.le_of_ble_eq_true rfl⟩) (by omega) hR.ob rfl rfl rfl (Nat.le_of_ble_eq_true rfl) dX6_suspects_4 ⟨Nat.le_of_ble_eq_true rfl, Nat.le_of_ble_eq_true rfl⟩ ?_
  refine x_bz_ne C (pc := 7) (tgt := 13) dX6_suspects_7 (by decide) (fun c_7 => absurd c_7 (by rw [hw]; decide)) (fun c_7 => ?_)
  refine x_bipush C (pc := 10) (v := (-5)) dX6_suspects_10 (by decide) ?_
  exact x_iret C hR0 rfl (Nat.le_of_ble_eq_true rfl) (Nat.le_of_ble_eq_true rfl) ⟨rfl, rfl, rfl⟩ dX6_suspects_12
set_option maxHeartbeats 4000000 in
set_option maxRecDepth 100000 in
theorem c_X6_suspects_n (l : Launch) (D : va_G) (z : Nat) (cI cZ cP cR : ClassId) (N : Nat) (F : Nat → va_E) (n kk cw c0 : Nat) (wi rl sp : Int32) (pd : Nat → Nat → Int32) (bs od : Nat → Int32) (pi : Nat → Nat) (T : RD) (hn : Nat) (hb : Nat → Nat) (hd : Nat → RD) (sl : Nat → Option Nat) (sd : Nat → RD) (len : Nat) (pa : Nat → Int32)  (hR : isRec z cI cP F 1 (nI n) wi (nI kk) (nI cw) rl (nI c0) sp pd bs od) (hnn : n ≤ 10) (hkk : kk ≤ n) (hcw : cw < 2 ^ n) (hc0 : c0 < 2 ^ 31) (hcnt : cntB cw n = kk) (hsp : sp = 0 ∨ sp = 1) (hpi : piOK bs pi n) (hC : isCl z cI cP cR N F T hn hb hd sl sd len pa) (hw : hwB wi = true) (hnd : ndR (fun i => swF wi (pd i)) pi n cw (leadF wi pd n cw) = none) : gMi l yX6_suspects wsX6_suspects ({ frames := 4, cells := 0, slots := 0, locals := 88 }) D z cI cZ cP cR N F [.ref (z + 0)] (gRes (-6) N (fun F2 => F2 = F)) 0 0 := by
  refine gMi.of (cc := cX6_suspects) (maxL := 2) (ret := (some .int)) (by decide) rfl (Nat.le_of_ble_eq_true rfl) [(0, .ref (z + 0))] rfl ?_
  intro pg ev sg mg bel me cg C hR0
  have h2n := two_lt hnn
  obtain ⟨hT, hTr, hH, hn6, hB, hD, hPd, hlen, ⟨rpt, rhd, rnu, hRe⟩, ⟨owy, oso, hOd⟩, hN, hslb, hS, hdd⟩ := hC
  refine x_aload_n C (pc := 0) 0 dX6_suspects_0 rfl ?_
  refine x_get C (pc := 1) (q := 0) (v := .ref (z + 1)) (ci := 6) rfl hn_X6_suspects_X6 0 (by decide) fl_X6_suspects_10 rfl (by omega) hT.1 rfl dX6_suspects_1 ?_
  refine x_cViR C (pc := 4) (st := []) (c_X5_hasWinner l D z cI cZ cP cR N F 1 (nI n) wi (nI kk) (nI cw) rl (nI c0) sp pd bs od hR (by omega)) (cwV 0 C.2.2.2.2.1 gX6_suspects_X5_hasWinner rfl rfl rfl hd_X5_hasWinner ⟨Nat.le_of_ble_eq_true rfl, Nat.le_of_ble_eq_true rfl⟩) (by omega) hR.ob rfl rfl rfl (Nat.le_of_ble_eq_true rfl) dX6_suspects_4 ⟨Nat.le_of_ble_eq_true rfl, Nat.le_of_ble_eq_true rfl⟩ ?_
  refine x_bz_ne C (pc := 7) (tgt := 13) dX6_suspects_7 (by decide) (fun c_7 => ?_) (fun c_7 => absurd c_7 (by rw [hw]; decide))
  refine x_aload_n C (pc := 13) 0 dX6_suspects_13 rfl ?_
  refine x_get C (pc := 14) (q := 0) (v := .ref (z + 1)) (ci := 6) rfl hn_X6_suspects_X6 0 (by decide) fl_X6_suspects_10 rfl (by omega) hT.1 rfl dX6_suspects_14 ?_
  refine x_cViR C (pc := 17) (st := []) (c_X5_needNow l D z cI cZ cP cR N F 1 n cw wi (nI kk) rl (nI c0) sp pd bs od hR (by omega) (by omega) (by omega) pi hpi) (cwV 0 C.2.2.2.2.1 gX6_suspects_X5_needNow rfl rfl rfl hd_X5_needNow ⟨Nat.le_of_ble_eq_true rfl, Nat.le_of_ble_eq_true rfl⟩) (by omega) hR.ob rfl rfl rfl (Nat.le_of_ble_eq_true rfl) dX6_suspects_17 ⟨Nat.le_of_ble_eq_true rfl, Nat.le_of_ble_eq_true rfl⟩ ?_
  refine x_istore_n C (pc := 20) [(1, .int (opI (ndR (fun i => swF wi (pd i)) pi n cw (leadF wi pd n cw)))), (0, .ref (z + 0))] dX6_suspects_20 (by decide) rfl ?_
  refine x_eqL [(1, .int (-6)), (0, .ref (z + 0))] (by rw [hnd]; rfl) ?_
  refine x_iload_n C (pc := 21) 0 dX6_suspects_21 rfl ?_
  refine x_bipush C (pc := 22) (v := (-6)) dX6_suspects_22 (by decide) ?_
  refine x_icmp_ne C (pc := 24) (tgt := 32) dX6_suspects_24 (by decide) (fun c_24 => absurd c_24 (not_not_intro rfl)) (fun c_24 => ?_)
  refine x_bipush C (pc := 27) (v := (-6)) dX6_suspects_27 (by decide) ?_
  refine x_goto C (pc := 29) (tgt := 40) dX6_suspects_29 (by decide) ?_
  exact x_iret C hR0 rfl (Nat.le_of_ble_eq_true rfl) (Nat.le_of_ble_eq_true rfl) ⟨rfl, rfl, rfl⟩ dX6_suspects_40
set_option maxHeartbeats 4000000 in
set_option maxRecDepth 100000 in
theorem c_X6_suspects_s (l : Launch) (D : va_G) (z : Nat) (cI cZ cP cR : ClassId) (N : Nat) (F : Nat → va_E) (n kk cw c0 : Nat) (wi rl sp : Int32) (pd : Nat → Nat → Int32) (bs od : Nat → Int32) (pi : Nat → Nat) (T : RD) (hn : Nat) (hb : Nat → Nat) (hd : Nat → RD) (sl : Nat → Option Nat) (sd : Nat → RD) (len : Nat) (pa : Nat → Int32) (mm : Nat) (hR : isRec z cI cP F 1 (nI n) wi (nI kk) (nI cw) rl (nI c0) sp pd bs od) (hnn : n ≤ 10) (hkk : kk ≤ n) (hcw : cw < 2 ^ n) (hc0 : c0 < 2 ^ 31) (hcnt : cntB cw n = kk) (hsp : sp = 0 ∨ sp = 1) (hpi : piOK bs pi n) (hC : isCl z cI cP cR N F T hn hb hd sl sd len pa) (hw : hwB wi = true) (hnd : ndR (fun i => swF wi (pd i)) pi n cw (leadF wi pd n cw) = some mm) : gMi l yX6_suspects wsX6_suspects ({ frames := 4, cells := 0, slots := 0, locals := 88 }) D z cI cZ cP cR N F [.ref (z + 0)] (gRes (nI (gsG pi cw n 0 mm 0)) N (fun F2 => F2 = F)) 0 0 := by
  refine gMi.of (cc := cX6_suspects) (maxL := 2) (ret := (some .int)) (by decide) rfl (Nat.le_of_ble_eq_true rfl) [(0, .ref (z + 0))] rfl ?_
  intro pg ev sg mg bel me cg C hR0
  have h2n := two_lt hnn
  obtain ⟨hT, hTr, hH, hn6, hB, hD, hPd, hlen, ⟨rpt, rhd, rnu, hRe⟩, ⟨owy, oso, hOd⟩, hN, hslb, hS, hdd⟩ := hC
  have hmm := ndR_le hnd
  refine x_aload_n C (pc := 0) 0 dX6_suspects_0 rfl ?_
  refine x_get C (pc := 1) (q := 0) (v := .ref (z + 1)) (ci := 6) rfl hn_X6_suspects_X6 0 (by decide) fl_X6_suspects_10 rfl (by omega) hT.1 rfl dX6_suspects_1 ?_
  refine x_cViR C (pc := 4) (st := []) (c_X5_hasWinner l D z cI cZ cP cR N F 1 (nI n) wi (nI kk) (nI cw) rl (nI c0) sp pd bs od hR (by omega)) (cwV 0 C.2.2.2.2.1 gX6_suspects_X5_hasWinner rfl rfl rfl hd_X5_hasWinner ⟨Nat.le_of_ble_eq_true rfl, Nat.le_of_ble_eq_true rfl⟩) (by omega) hR.ob rfl rfl rfl (Nat.le_of_ble_eq_true rfl) dX6_suspects_4 ⟨Nat.le_of_ble_eq_true rfl, Nat.le_of_ble_eq_true rfl⟩ ?_
  refine x_bz_ne C (pc := 7) (tgt := 13) dX6_suspects_7 (by decide) (fun c_7 => ?_) (fun c_7 => absurd c_7 (by rw [hw]; decide))
  refine x_aload_n C (pc := 13) 0 dX6_suspects_13 rfl ?_
  refine x_get C (pc := 14) (q := 0) (v := .ref (z + 1)) (ci := 6) rfl hn_X6_suspects_X6 0 (by decide) fl_X6_suspects_10 rfl (by omega) hT.1 rfl dX6_suspects_14 ?_
  refine x_cViR C (pc := 17) (st := []) (c_X5_needNow l D z cI cZ cP cR N F 1 n cw wi (nI kk) rl (nI c0) sp pd bs od hR (by omega) (by omega) (by omega) pi hpi) (cwV 0 C.2.2.2.2.1 gX6_suspects_X5_needNow rfl rfl rfl hd_X5_needNow ⟨Nat.le_of_ble_eq_true rfl, Nat.le_of_ble_eq_true rfl⟩) (by omega) hR.ob rfl rfl rfl (Nat.le_of_ble_eq_true rfl) dX6_suspects_17 ⟨Nat.le_of_ble_eq_true rfl, Nat.le_of_ble_eq_true rfl⟩ ?_
  refine x_istore_n C (pc := 20) [(1, .int (opI (ndR (fun i => swF wi (pd i)) pi n cw (leadF wi pd n cw)))), (0, .ref (z + 0))] dX6_suspects_20 (by decide) rfl ?_
  refine x_eqL [(1, .int (nI mm)), (0, .ref (z + 0))] (by rw [hnd]; rfl) ?_
  refine x_iload_n C (pc := 21) 0 dX6_suspects_21 rfl ?_
  refine x_bipush C (pc := 22) (v := (-6)) dX6_suspects_22 (by decide) ?_
  refine x_icmp_ne C (pc := 24) (tgt := 32) dX6_suspects_24 (by decide) (fun c_24 => ?_) (fun c_24 => absurd c_24 (nI_nm6 (by omega)))
  refine x_aload_n C (pc := 32) 1 dX6_suspects_32 rfl ?_
  refine x_get C (pc := 33) (q := 0) (v := .ref (z + 1)) (ci := 6) rfl hn_X6_suspects_X6 0 (by decide) fl_X6_suspects_10 rfl (by omega) hT.1 rfl dX6_suspects_33 ?_
  refine x_iload_n C (pc := 36) 0 dX6_suspects_36 rfl ?_
  refine x_cViR C (pc := 37) (st := []) (c_X5_greatestSwings l D z cI cZ cP cR N F 1 n cw wi (nI kk) rl (nI c0) sp pd bs od mm hR (by omega) (by omega) (by omega) (by omega) pi hpi) (cwV 1 C.2.2.2.2.1 gX6_suspects_X5_greatestSwings rfl rfl rfl hd_X5_greatestSwings ⟨Nat.le_of_ble_eq_true rfl, Nat.le_of_ble_eq_true rfl⟩) (by omega) hR.ob rfl rfl rfl (Nat.le_of_ble_eq_true rfl) dX6_suspects_37 ⟨Nat.le_of_ble_eq_true rfl, Nat.le_of_ble_eq_true rfl⟩ ?_
  exact x_iret C hR0 rfl (Nat.le_of_ble_eq_true rfl) (Nat.le_of_ble_eq_true rfl) ⟨rfl, rfl, rfl⟩ dX6_suspects_40
theorem fl_X6_finish_10 : Cond.fieldLink RX6 10 "PileRecount" "now" "LPileRecount$Recount;" ∈ wsX6_finish := by decide +kernel
theorem hn_X6_finish_X6 : ∀ w ∈ wsX60, w ∈ wsX6_finish := fun _ h => List.mem_cons_of_mem _ (List.mem_append_left _ (List.mem_append_left _ (List.mem_append_left _ (List.mem_append_right _ h))))
set_option maxHeartbeats 4000000 in
set_option maxRecDepth 100000 in
theorem c_X6_finish_e1 (l : Launch) (D : va_G) (z : Nat) (cI cZ cP cR : ClassId) (N : Nat) (F : Nat → va_E) (n kk cw c0 : Nat) (wi rl sp : Int32) (pd : Nat → Nat → Int32) (bs od : Nat → Int32) (pi : Nat → Nat) (T : RD) (hn : Nat) (hb : Nat → Nat) (hd : Nat → RD) (sl : Nat → Option Nat) (sd : Nat → RD) (len : Nat) (pa : Nat → Int32)  (hR : isRec z cI cP F 1 (nI n) wi (nI kk) (nI cw) rl (nI c0) sp pd bs od) (hnn : n ≤ 10) (hkk : kk ≤ n) (hcw : cw < 2 ^ n) (hc0 : c0 < 2 ^ 31) (hcnt : cntB cw n = kk) (hsp : sp = 0 ∨ sp = 1) (hpi : piOK bs pi n) (hC : isCl z cI cP cR N F T hn hb hd sl sd len pa) (he : opB wi sp = false) : gMi l yX6_finish wsX6_finish ({ frames := 2, cells := 0, slots := 0, locals := 40 }) D z cI cZ cP cR N F [.ref (z + 0)] (gRes (-5) N (fun F2 => F2 = F)) 0 0 := by
  refine gMi.of (cc := cX6_finish) (maxL := 2) (ret := (some .int)) (by decide) rfl (Nat.le_of_ble_eq_true rfl) [(0, .ref (z + 0))] rfl ?_
  intro pg ev sg mg bel me cg C hR0
  have h2n := two_lt hnn
  obtain ⟨hT, hTr, hH, hn6, hB, hD, hPd, hlen, ⟨rpt, rhd, rnu, hRe⟩, ⟨owy, oso, hOd⟩, hN, hslb, hS, hdd⟩ := hC
  refine x_aload_n C (pc := 0) 0 dX6_finish_0 rfl ?_
  refine x_get C (pc := 1) (q := 0) (v := .ref (z + 1)) (ci := 6) rfl hn_X6_finish_X6 0 (by decide) fl_X6_finish_10 rfl (by omega) hT.1 rfl dX6_finish_1 ?_
  refine x_cViR C (pc := 4) (st := []) (c_X5_isOpen l D z cI cZ cP cR N F 1 (nI n) wi (nI kk) (nI cw) rl (nI c0) sp pd bs od hR (by omega)) (cwV 0 C.2.2.2.2.1 gX6_finish_X5_isOpen rfl rfl rfl hd_X5_isOpen ⟨Nat.le_of_ble_eq_true rfl, Nat.le_of_ble_eq_true rfl⟩) (by omega) hR.ob rfl rfl rfl (Nat.le_of_ble_eq_true rfl) dX6_finish_4 ⟨Nat.le_of_ble_eq_true rfl, Nat.le_of_ble_eq_true rfl⟩ ?_
  refine x_bz_ne C (pc := 7) (tgt := 13) dX6_finish_7 (by decide) (fun c_7 => absurd c_7 (by rw [he]; decide)) (fun c_7 => ?_)
  refine x_bipush C (pc := 10) (v := (-5)) dX6_finish_10 (by decide) ?_
  exact x_iret C hR0 rfl (Nat.le_of_ble_eq_true rfl) (Nat.le_of_ble_eq_true rfl) ⟨rfl, rfl, rfl⟩ dX6_finish_12
theorem fl_X6_finish_16 : Cond.fieldLink RX6 16 "PileRecount" "trial" "LPileRecount$Recount;" ∈ wsX6_finish := by decide +kernel
set_option maxHeartbeats 4000000 in
set_option maxRecDepth 100000 in
theorem c_X6_finish_e2 (l : Launch) (D : va_G) (z : Nat) (cI cZ cP cR : ClassId) (N : Nat) (F : Nat → va_E) (n kk cw c0 : Nat) (wi rl sp : Int32) (pd : Nat → Nat → Int32) (bs od : Nat → Int32) (pi : Nat → Nat) (T : RD) (hn : Nat) (hb : Nat → Nat) (hd : Nat → RD) (sl : Nat → Option Nat) (sd : Nat → RD) (len : Nat) (pa : Nat → Int32)  (hR : isRec z cI cP F 1 (nI n) wi (nI kk) (nI cw) rl (nI c0) sp pd bs od) (hnn : n ≤ 10) (hkk : kk ≤ n) (hcw : cw < 2 ^ n) (hc0 : c0 < 2 ^ 31) (hcnt : cntB cw n = kk) (hsp : sp = 0 ∨ sp = 1) (hpi : piOK bs pi n) (hC : isCl z cI cP cR N F T hn hb hd sl sd len pa) (ho : opB wi sp = true) (hm : decide (rbF wi pd pi n (duG (fun w => decide (rbF wi pd pi n w w ≤ rl)) n (n - kk) kk cw c0 od).2.1 (duG (fun w => decide (rbF wi pd pi n w w ≤ rl)) n (n - kk) kk cw c0 od).2.1 ≤ rl) = false) : gMi l yX6_finish wsX6_finish ({ frames := 6, cells := 0, slots := 0, locals := 134 }) D z cI cZ cP cR N F [.ref (z + 0)] (gRes (-5) N (fun F2 => ∃ T2 : RD, isRec z cI cP F2 1 (nI n) wi (nI kk) (nI cw) rl (nI c0) sp pd bs od ∧ isCl z cI cP cR N F2 T2 hn hb hd sl sd len pa ∧ gFr 0 123 F F2)) 0 0 := by
  refine gMi.of (cc := cX6_finish) (maxL := 2) (ret := (some .int)) (by decide) rfl (Nat.le_of_ble_eq_true rfl) [(0, .ref (z + 0))] rfl ?_
  intro pg ev sg mg bel me cg C hR0
  have h2n := two_lt hnn
  obtain ⟨hT, hTr, hH, hn6, hB, hD, hPd, hlen, ⟨rpt, rhd, rnu, hRe⟩, ⟨owy, oso, hOd⟩, hN, hslb, hS, hdd⟩ := hC
  obtain ⟨hd1, hd2, hd3, hd4, hd5⟩ := duG_ok (fun w => decide (rbF wi pd pi n w w ≤ rl)) n (n - kk) kk cw c0 od rfl hkk hcnt hcw hc0
  refine x_aload_n C (pc := 0) 0 dX6_finish_0 rfl ?_
  refine x_get C (pc := 1) (q := 0) (v := .ref (z + 1)) (ci := 6) rfl hn_X6_finish_X6 0 (by decide) fl_X6_finish_10 rfl (by omega) hT.1 rfl dX6_finish_1 ?_
  refine x_cViR C (pc := 4) (st := []) (c_X5_isOpen l D z cI cZ cP cR N F 1 (nI n) wi (nI kk) (nI cw) rl (nI c0) sp pd bs od hR (by omega)) (cwV 0 C.2.2.2.2.1 gX6_finish_X5_isOpen rfl rfl rfl hd_X5_isOpen ⟨Nat.le_of_ble_eq_true rfl, Nat.le_of_ble_eq_true rfl⟩) (by omega) hR.ob rfl rfl rfl (Nat.le_of_ble_eq_true rfl) dX6_finish_4 ⟨Nat.le_of_ble_eq_true rfl, Nat.le_of_ble_eq_true rfl⟩ ?_
  refine x_bz_ne C (pc := 7) (tgt := 13) dX6_finish_7 (by decide) (fun c_7 => ?_) (fun c_7 => absurd c_7 (by rw [ho]; decide))
  refine x_aload_n C (pc := 13) 0 dX6_finish_13 rfl ?_
  refine x_get C (pc := 14) (q := 0) (v := .ref (z + 15)) (ci := 6) rfl hn_X6_finish_X6 1 (by decide) fl_X6_finish_16 rfl (by omega) hT.1 rfl dX6_finish_14 ?_
  refine x_aload_n C (pc := 17) 0 dX6_finish_17 rfl ?_
  refine x_get C (pc := 18) (q := 0) (v := .ref (z + 1)) (ci := 6) rfl hn_X6_finish_X6 0 (by decide) fl_X6_finish_10 rfl (by omega) hT.1 rfl dX6_finish_18 ?_
  refine x_cVvE C (pc := 21) (st := []) (c_X5_copyFrom l D z cI cZ cP cR N F 15 (T.1 0) (T.1 1) (T.1 2) (T.1 3) (T.1 4) (T.1 5) (T.1 6) T.2.1 T.2.2.1 T.2.2.2 1 (nI n) wi (nI kk) (nI cw) rl (nI c0) sp pd bs od hTr (by omega) hR (by omega) (by omega) hsp) (cwV 1 C.2.2.2.2.1 gX6_finish_X5_copyFrom rfl rfl rfl hd_X5_copyFrom ⟨Nat.le_of_ble_eq_true rfl, Nat.le_of_ble_eq_true rfl⟩) (by omega) hTr.ob rfl rfl rfl (Nat.le_of_ble_eq_true rfl) dX6_finish_21 ⟨Nat.le_of_ble_eq_true rfl, Nat.le_of_ble_eq_true rfl⟩ (fun F_21 h_21 => ?_)
  obtain ⟨hTr_21, fr_21⟩ := h_21
  have hT_21 := hT.same (fr_21 0 (by omega)) (fr_21 29 (by omega))
  have hR_21 := hR.same (F2 := F_21) (fun q _ _ => fr_21 q (by omega))
  have hH_21 := hH.same (F2 := F_21) (fun q _ _ => fr_21 q (by omega))
  have hD_21 : ∀ i, i < 6 → isRecD z cI cP F_21 (hb i) (hd i) := fun i hi => (hD i hi).same (fun q h1 h2 => fr_21 q (by have := (hB i hi).1; omega))
  have hPd_21 := hPd.same (F2 := F_21) (fun q _ _ => fr_21 q (by omega))
  have hRe_21 := hRe.same (F2 := F_21) (fun q _ _ => fr_21 q (by omega))
  have hOd_21 := hOd.same (F2 := F_21) (fun q _ _ => fr_21 q (by omega))
  have hS_21 : ∀ i, i < 2 → ∀ q, sl i = some q → isRecD z cI cP F_21 q (sd i) := fun i hi q hq => (hS i hi q hq).same (fun q2 h1 h2 => fr_21 q2 (by have := hslb i hi q hq; omega))
  refine x_aload_n C (pc := 24) 0 dX6_finish_24 rfl ?_
  refine x_get C (pc := 25) (q := 0) (v := .ref (z + 15)) (ci := 6) rfl hn_X6_finish_X6 1 (by decide) fl_X6_finish_16 rfl (by omega) hT_21.1 rfl dX6_finish_25 ?_
  refine x_cViE C (pc := 28) (st := []) (c_X5_drawUntilStop l D z cI cZ cP cR N F_21 15 n cw kk c0 wi rl sp pd bs od hTr_21 (by omega) (by omega) hcw hkk hc0 hcnt pi hpi) (cwV 0 C.2.2.2.2.1 gX6_finish_X5_drawUntilStop rfl rfl rfl hd_X5_drawUntilStop ⟨Nat.le_of_ble_eq_true rfl, Nat.le_of_ble_eq_true rfl⟩) (by omega) hTr_21.ob rfl rfl rfl (Nat.le_of_ble_eq_true rfl) dX6_finish_28 ⟨Nat.le_of_ble_eq_true rfl, Nat.le_of_ble_eq_true rfl⟩ (fun F_28 h_28 => ?_)
  obtain ⟨hTr_28, fr_28⟩ := h_28
  have hT_28 := hT_21.same (fr_28 0 (by omega)) (fr_28 29 (by omega))
  have hR_28 := hR_21.same (F2 := F_28) (fun q _ _ => fr_28 q (by omega))
  have hH_28 := hH_21.same (F2 := F_28) (fun q _ _ => fr_28 q (by omega))
  have hD_28 : ∀ i, i < 6 → isRecD z cI cP F_28 (hb i) (hd i) := fun i hi => (hD_21 i hi).same (fun q h1 h2 => fr_28 q (by have := (hB i hi).1; omega))
  have hPd_28 := hPd_21.same (F2 := F_28) (fun q _ _ => fr_28 q (by omega))
  have hRe_28 := hRe_21.same (F2 := F_28) (fun q _ _ => fr_28 q (by omega))
  have hOd_28 := hOd_21.same (F2 := F_28) (fun q _ _ => fr_28 q (by omega))
  have hS_28 : ∀ i, i < 2 → ∀ q, sl i = some q → isRecD z cI cP F_28 q (sd i) := fun i hi q hq => (hS_21 i hi q hq).same (fun q2 h1 h2 => fr_28 q2 (by have := hslb i hi q hq; omega))
  refine x_istore_n C (pc := 31) [(1, .int (nI ((duG (fun w => decide (rbF wi pd pi n w w ≤ rl)) n (n - kk) kk cw c0 od).1 - kk))), (0, .ref (z + 0))] dX6_finish_31 (by decide) rfl ?_
  refine x_aload_n C (pc := 32) 1 dX6_finish_32 rfl ?_
  refine x_get C (pc := 33) (q := 0) (v := .ref (z + 15)) (ci := 6) rfl hn_X6_finish_X6 1 (by decide) fl_X6_finish_16 rfl (by omega) hT_28.1 rfl dX6_finish_33 ?_
  refine x_cViR C (pc := 36) (st := []) (c_X5_mayStopNow l D z cI cZ cP cR N F_28 15 n ((duG (fun w => decide (rbF wi pd pi n w w ≤ rl)) n (n - kk) kk cw c0 od).2.1) wi (nI ((duG (fun w => decide (rbF wi pd pi n w w ≤ rl)) n (n - kk) kk cw c0 od).1)) rl (nI ((duG (fun w => decide (rbF wi pd pi n w w ≤ rl)) n (n - kk) kk cw c0 od).2.2.1)) sp pd bs ((duG (fun w => decide (rbF wi pd pi n w w ≤ rl)) n (n - kk) kk cw c0 od).2.2.2) hTr_28 (by omega) (by omega) hd4 pi hpi) (cwV 0 C.2.2.2.2.1 gX6_finish_X5_mayStopNow rfl rfl rfl hd_X5_mayStopNow ⟨Nat.le_of_ble_eq_true rfl, Nat.le_of_ble_eq_true rfl⟩) (by omega) hTr_28.ob rfl rfl rfl (Nat.le_of_ble_eq_true rfl) dX6_finish_36 ⟨Nat.le_of_ble_eq_true rfl, Nat.le_of_ble_eq_true rfl⟩ ?_
  refine x_bz_ne C (pc := 39) (tgt := 45) dX6_finish_39 (by decide) (fun c_39 => absurd c_39 (by rw [hm]; decide)) (fun c_39 => ?_)
  refine x_bipush C (pc := 42) (v := (-5)) dX6_finish_42 (by decide) ?_
  exact x_iret C hR0 rfl (Nat.le_of_ble_eq_true rfl) (Nat.le_of_ble_eq_true rfl) ⟨rfl, rfl, ⟨(mkR (nI n) wi (nI ((duG (fun w => decide (rbF wi pd pi n w w ≤ rl)) n (n - kk) kk cw c0 od).1)) (nI ((duG (fun w => decide (rbF wi pd pi n w w ≤ rl)) n (n - kk) kk cw c0 od).2.1)) rl (nI ((duG (fun w => decide (rbF wi pd pi n w w ≤ rl)) n (n - kk) kk cw c0 od).2.2.1)) sp pd bs ((duG (fun w => decide (rbF wi pd pi n w w ≤ rl)) n (n - kk) kk cw c0 od).2.2.2)), hR_28, ⟨hT_28, hTr_28, hH_28, hn6, hB, hD_28, hPd_28, hlen, ⟨_, _, _, hRe_28⟩, ⟨_, _, hOd_28⟩, hN, hslb, hS_28, hdd⟩, (gFr.t2 (gFr.wide (a := 0) (b := 123) fr_21 (by omega) (by omega)) (gFr.wide (a := 0) (b := 123) fr_28 (by omega) (by omega)))⟩⟩ dX6_finish_44
theorem fl_X6_finish_114 : Cond.fieldLink RX6 114 "PileRecount$Recount" "stopped" "Z" ∈ wsX6_finish := by decide +kernel
theorem fl_X6_finish_26 : Cond.fieldLink RX6 26 "PileRecount" "history" "LPileRecount$History;" ∈ wsX6_finish := by decide +kernel
theorem hn_X6_finish_X5 : ∀ w ∈ wsX50, w ∈ wsX6_finish := fun _ h => List.mem_cons_of_mem _ (List.mem_append_left _ (List.mem_append_left _ (List.mem_append_right _ h)))
set_option maxHeartbeats 4000000 in
set_option maxRecDepth 100000 in
theorem c_X6_finish_s (l : Launch) (D : va_G) (z : Nat) (cI cZ cP cR : ClassId) (N : Nat) (F : Nat → va_E) (n kk cw c0 : Nat) (wi rl sp : Int32) (pd : Nat → Nat → Int32) (bs od : Nat → Int32) (pi : Nat → Nat) (T : RD) (hn : Nat) (hb : Nat → Nat) (hd : Nat → RD) (sl : Nat → Option Nat) (sd : Nat → RD) (len : Nat) (pa : Nat → Int32)  (hR : isRec z cI cP F 1 (nI n) wi (nI kk) (nI cw) rl (nI c0) sp pd bs od) (hnn : n ≤ 10) (hkk : kk ≤ n) (hcw : cw < 2 ^ n) (hc0 : c0 < 2 ^ 31) (hcnt : cntB cw n = kk) (hsp : sp = 0 ∨ sp = 1) (hpi : piOK bs pi n) (hC : isCl z cI cP cR N F T hn hb hd sl sd len pa) (ho : opB wi sp = true) (hm : decide (rbF wi pd pi n (duG (fun w => decide (rbF wi pd pi n w w ≤ rl)) n (n - kk) kk cw c0 od).2.1 (duG (fun w => decide (rbF wi pd pi n w w ≤ rl)) n (n - kk) kk cw c0 od).2.1 ≤ rl) = true) : gMi l yX6_finish wsX6_finish ({ frames := 6, cells := 0, slots := 0, locals := 134 }) D z cI cZ cP cR N F [.ref (z + 0)] (gRes (nI ((duG (fun w => decide (rbF wi pd pi n w w ≤ rl)) n (n - kk) kk cw c0 od).1 - kk)) N (fun F2 => ∃ (hb2 : Nat → Nat) (T2 : RD), isRec z cI cP F2 1 (nI n) wi (nI (duG (fun w => decide (rbF wi pd pi n w w ≤ rl)) n (n - kk) kk cw c0 od).1) (nI (duG (fun w => decide (rbF wi pd pi n w w ≤ rl)) n (n - kk) kk cw c0 od).2.1) rl (nI (duG (fun w => decide (rbF wi pd pi n w w ≤ rl)) n (n - kk) kk cw c0 od).2.2.1) 1 pd bs ((duG (fun w => decide (rbF wi pd pi n w w ≤ rl)) n (n - kk) kk cw c0 od).2.2.2) ∧ isCl z cI cP cR N F2 T2 (if hn < 6 then hn + 1 else 6) hb2 (recD hn hd (mkR (nI n) wi (nI kk) (nI cw) rl (nI c0) sp pd bs od)) sl sd len pa ∧ gFr 0 123 F F2)) 0 0 := by
  refine gMi.of (cc := cX6_finish) (maxL := 2) (ret := (some .int)) (by decide) rfl (Nat.le_of_ble_eq_true rfl) [(0, .ref (z + 0))] rfl ?_
  intro pg ev sg mg bel me cg C hR0
  have h2n := two_lt hnn
  obtain ⟨hT, hTr, hH, hn6, hB, hD, hPd, hlen, ⟨rpt, rhd, rnu, hRe⟩, ⟨owy, oso, hOd⟩, hN, hslb, hS, hdd⟩ := hC
  obtain ⟨hd1, hd2, hd3, hd4, hd5⟩ := duG_ok (fun w => decide (rbF wi pd pi n w w ≤ rl)) n (n - kk) kk cw c0 od rfl hkk hcnt hcw hc0
  refine x_aload_n C (pc := 0) 0 dX6_finish_0 rfl ?_
  refine x_get C (pc := 1) (q := 0) (v := .ref (z + 1)) (ci := 6) rfl hn_X6_finish_X6 0 (by decide) fl_X6_finish_10 rfl (by omega) hT.1 rfl dX6_finish_1 ?_
  refine x_cViR C (pc := 4) (st := []) (c_X5_isOpen l D z cI cZ cP cR N F 1 (nI n) wi (nI kk) (nI cw) rl (nI c0) sp pd bs od hR (by omega)) (cwV 0 C.2.2.2.2.1 gX6_finish_X5_isOpen rfl rfl rfl hd_X5_isOpen ⟨Nat.le_of_ble_eq_true rfl, Nat.le_of_ble_eq_true rfl⟩) (by omega) hR.ob rfl rfl rfl (Nat.le_of_ble_eq_true rfl) dX6_finish_4 ⟨Nat.le_of_ble_eq_true rfl, Nat.le_of_ble_eq_true rfl⟩ ?_
  refine x_bz_ne C (pc := 7) (tgt := 13) dX6_finish_7 (by decide) (fun c_7 => ?_) (fun c_7 => absurd c_7 (by rw [ho]; decide))
  refine x_aload_n C (pc := 13) 0 dX6_finish_13 rfl ?_
  refine x_get C (pc := 14) (q := 0) (v := .ref (z + 15)) (ci := 6) rfl hn_X6_finish_X6 1 (by decide) fl_X6_finish_16 rfl (by omega) hT.1 rfl dX6_finish_14 ?_
  refine x_aload_n C (pc := 17) 0 dX6_finish_17 rfl ?_
  refine x_get C (pc := 18) (q := 0) (v := .ref (z + 1)) (ci := 6) rfl hn_X6_finish_X6 0 (by decide) fl_X6_finish_10 rfl (by omega) hT.1 rfl dX6_finish_18 ?_
  refine x_cVvE C (pc := 21) (st := []) (c_X5_copyFrom l D z cI cZ cP cR N F 15 (T.1 0) (T.1 1) (T.1 2) (T.1 3) (T.1 4) (T.1 5) (T.1 6) T.2.1 T.2.2.1 T.2.2.2 1 (nI n) wi (nI kk) (nI cw) rl (nI c0) sp pd bs od hTr (by omega) hR (by omega) (by omega) hsp) (cwV 1 C.2.2.2.2.1 gX6_finish_X5_copyFrom rfl rfl rfl hd_X5_copyFrom ⟨Nat.le_of_ble_eq_true rfl, Nat.le_of_ble_eq_true rfl⟩) (by omega) hTr.ob rfl rfl rfl (Nat.le_of_ble_eq_true rfl) dX6_finish_21 ⟨Nat.le_of_ble_eq_true rfl, Nat.le_of_ble_eq_true rfl⟩ (fun F_21 h_21 => ?_)
  obtain ⟨hTr_21, fr_21⟩ := h_21
  have hT_21 := hT.same (fr_21 0 (by omega)) (fr_21 29 (by omega))
  have hR_21 := hR.same (F2 := F_21) (fun q _ _ => fr_21 q (by omega))
  have hH_21 := hH.same (F2 := F_21) (fun q _ _ => fr_21 q (by omega))
  have hD_21 : ∀ i, i < 6 → isRecD z cI cP F_21 (hb i) (hd i) := fun i hi => (hD i hi).same (fun q h1 h2 => fr_21 q (by have := (hB i hi).1; omega))
  have hPd_21 := hPd.same (F2 := F_21) (fun q _ _ => fr_21 q (by omega))
  have hRe_21 := hRe.same (F2 := F_21) (fun q _ _ => fr_21 q (by omega))
  have hOd_21 := hOd.same (F2 := F_21) (fun q _ _ => fr_21 q (by omega))
  have hS_21 : ∀ i, i < 2 → ∀ q, sl i = some q → isRecD z cI cP F_21 q (sd i) := fun i hi q hq => (hS i hi q hq).same (fun q2 h1 h2 => fr_21 q2 (by have := hslb i hi q hq; omega))
  refine x_aload_n C (pc := 24) 0 dX6_finish_24 rfl ?_
  refine x_get C (pc := 25) (q := 0) (v := .ref (z + 15)) (ci := 6) rfl hn_X6_finish_X6 1 (by decide) fl_X6_finish_16 rfl (by omega) hT_21.1 rfl dX6_finish_25 ?_
  refine x_cViE C (pc := 28) (st := []) (c_X5_drawUntilStop l D z cI cZ cP cR N F_21 15 n cw kk c0 wi rl sp pd bs od hTr_21 (by omega) (by omega) hcw hkk hc0 hcnt pi hpi) (cwV 0 C.2.2.2.2.1 gX6_finish_X5_drawUntilStop rfl rfl rfl hd_X5_drawUntilStop ⟨Nat.le_of_ble_eq_true rfl, Nat.le_of_ble_eq_true rfl⟩) (by omega) hTr_21.ob rfl rfl rfl (Nat.le_of_ble_eq_true rfl) dX6_finish_28 ⟨Nat.le_of_ble_eq_true rfl, Nat.le_of_ble_eq_true rfl⟩ (fun F_28 h_28 => ?_)
  obtain ⟨hTr_28, fr_28⟩ := h_28
  have hT_28 := hT_21.same (fr_28 0 (by omega)) (fr_28 29 (by omega))
  have hR_28 := hR_21.same (F2 := F_28) (fun q _ _ => fr_28 q (by omega))
  have hH_28 := hH_21.same (F2 := F_28) (fun q _ _ => fr_28 q (by omega))
  have hD_28 : ∀ i, i < 6 → isRecD z cI cP F_28 (hb i) (hd i) := fun i hi => (hD_21 i hi).same (fun q h1 h2 => fr_28 q (by have := (hB i hi).1; omega))
  have hPd_28 := hPd_21.same (F2 := F_28) (fun q _ _ => fr_28 q (by omega))
  have hRe_28 := hRe_21.same (F2 := F_28) (fun q _ _ => fr_28 q (by omega))
  have hOd_28 := hOd_21.same (F2 := F_28) (fun q _ _ => fr_28 q (by omega))
  have hS_28 : ∀ i, i < 2 → ∀ q, sl i = some q → isRecD z cI cP F_28 q (sd i) := fun i hi q hq => (hS_21 i hi q hq).same (fun q2 h1 h2 => fr_28 q2 (by have := hslb i hi q hq; omega))
  refine x_istore_n C (pc := 31) [(1, .int (nI ((duG (fun w => decide (rbF wi pd pi n w w ≤ rl)) n (n - kk) kk cw c0 od).1 - kk))), (0, .ref (z + 0))] dX6_finish_31 (by decide) rfl ?_
  refine x_aload_n C (pc := 32) 1 dX6_finish_32 rfl ?_
  refine x_get C (pc := 33) (q := 0) (v := .ref (z + 15)) (ci := 6) rfl hn_X6_finish_X6 1 (by decide) fl_X6_finish_16 rfl (by omega) hT_28.1 rfl dX6_finish_33 ?_
  refine x_cViR C (pc := 36) (st := []) (c_X5_mayStopNow l D z cI cZ cP cR N F_28 15 n ((duG (fun w => decide (rbF wi pd pi n w w ≤ rl)) n (n - kk) kk cw c0 od).2.1) wi (nI ((duG (fun w => decide (rbF wi pd pi n w w ≤ rl)) n (n - kk) kk cw c0 od).1)) rl (nI ((duG (fun w => decide (rbF wi pd pi n w w ≤ rl)) n (n - kk) kk cw c0 od).2.2.1)) sp pd bs ((duG (fun w => decide (rbF wi pd pi n w w ≤ rl)) n (n - kk) kk cw c0 od).2.2.2) hTr_28 (by omega) (by omega) hd4 pi hpi) (cwV 0 C.2.2.2.2.1 gX6_finish_X5_mayStopNow rfl rfl rfl hd_X5_mayStopNow ⟨Nat.le_of_ble_eq_true rfl, Nat.le_of_ble_eq_true rfl⟩) (by omega) hTr_28.ob rfl rfl rfl (Nat.le_of_ble_eq_true rfl) dX6_finish_36 ⟨Nat.le_of_ble_eq_true rfl, Nat.le_of_ble_eq_true rfl⟩ ?_
  refine x_bz_ne C (pc := 39) (tgt := 45) dX6_finish_39 (by decide) (fun c_39 => ?_) (fun c_39 => absurd c_39 (by rw [hm]; decide))
  refine x_aload_n C (pc := 45) 1 dX6_finish_45 rfl ?_
  refine x_get C (pc := 46) (q := 0) (v := .ref (z + 30)) (ci := 6) rfl hn_X6_finish_X6 3 (by decide) fl_X6_finish_26 rfl (by omega) hT_28.1 rfl dX6_finish_46 ?_
  refine x_aload_n C (pc := 49) 1 dX6_finish_49 rfl ?_
  refine x_get C (pc := 50) (q := 0) (v := .ref (z + 1)) (ci := 6) rfl hn_X6_finish_X6 0 (by decide) fl_X6_finish_10 rfl (by omega) hT_28.1 rfl dX6_finish_50 ?_
  refine x_cVvE C (pc := 53) (st := []) (c_X0_record l D z cI cZ cP cR N F_28 30 hn hb hd 1 (mkR (nI n) wi (nI kk) (nI cw) rl (nI c0) sp pd bs od) hH_28 (by omega) hn6 hB hD_28 hR_28 (by omega) (by omega) hsp) (cwV 1 C.2.2.2.2.1 gX6_finish_X0_record rfl rfl rfl hd_X0_record ⟨Nat.le_of_ble_eq_true rfl, Nat.le_of_ble_eq_true rfl⟩) (by omega) hH_28.ob rfl rfl rfl (Nat.le_of_ble_eq_true rfl) dX6_finish_53 ⟨Nat.le_of_ble_eq_true rfl, Nat.le_of_ble_eq_true rfl⟩ (fun F_53 h_53 => ?_)
  obtain ⟨hb_53, hB_53, hH_53, hD_53, fr_53⟩ := h_53
  have hn6_53 : (if hn < 6 then hn + 1 else 6) ≤ 6 := by split <;> omega
  have hT_53 := hT_28.same (fr_53 0 (by omega)) (fr_53 29 (by omega))
  have hR_53 := hR_28.same (F2 := F_53) (fun q _ _ => fr_53 q (by omega))
  have hTr_53 := hTr_28.same (F2 := F_53) (fun q _ _ => fr_53 q (by omega))
  have hPd_53 := hPd_28.same (F2 := F_53) (fun q _ _ => fr_53 q (by omega))
  have hRe_53 := hRe_28.same (F2 := F_53) (fun q _ _ => fr_53 q (by omega))
  have hOd_53 := hOd_28.same (F2 := F_53) (fun q _ _ => fr_53 q (by omega))
  have hS_53 : ∀ i, i < 2 → ∀ q, sl i = some q → isRecD z cI cP F_53 q (sd i) := fun i hi q hq => (hS_28 i hi q hq).same (fun q2 h1 h2 => fr_53 q2 (by have := hslb i hi q hq; omega))
  refine x_aload_n C (pc := 56) 1 dX6_finish_56 rfl ?_
  refine x_get C (pc := 57) (q := 0) (v := .ref (z + 15)) (ci := 6) rfl hn_X6_finish_X6 1 (by decide) fl_X6_finish_16 rfl (by omega) hT_53.1 rfl dX6_finish_57 ?_
  refine x_iconst C (pc := 60) (v := 1) dX6_finish_60 (by decide) ?_
  refine xw_X5_9 C (pc := 61) hn_X6_finish_X5 fl_X6_finish_114 hTr_53 (by omega) (Or.inr rfl) dX6_finish_61 (fun F_61 hTr_61 fr_61 => ?_)
  have hT_61 := hT_53.same (fr_61 0 (by omega)) (fr_61 29 (by omega))
  have hR_61 := hR_53.same (F2 := F_61) (fun q _ _ => fr_61 q (by omega))
  have hH_61 := hH_53.same (F2 := F_61) (fun q _ _ => fr_61 q (by omega))
  have hD_61 : ∀ i, i < 6 → isRecD z cI cP F_61 (hb_53 i) ((recD hn hd (mkR (nI n) wi (nI kk) (nI cw) rl (nI c0) sp pd bs od)) i) := fun i hi => (hD_53 i hi).same (fun q h1 h2 => fr_61 q (by have := (hB_53 i hi).1; omega))
  have hPd_61 := hPd_53.same (F2 := F_61) (fun q _ _ => fr_61 q (by omega))
  have hRe_61 := hRe_53.same (F2 := F_61) (fun q _ _ => fr_61 q (by omega))
  have hOd_61 := hOd_53.same (F2 := F_61) (fun q _ _ => fr_61 q (by omega))
  have hS_61 : ∀ i, i < 2 → ∀ q, sl i = some q → isRecD z cI cP F_61 q (sd i) := fun i hi q hq => (hS_53 i hi q hq).same (fun q2 h1 h2 => fr_61 q2 (by have := hslb i hi q hq; omega))
  refine x_aload_n C (pc := 64) 1 dX6_finish_64 rfl ?_
  refine x_get C (pc := 65) (q := 0) (v := .ref (z + 1)) (ci := 6) rfl hn_X6_finish_X6 0 (by decide) fl_X6_finish_10 rfl (by omega) hT_61.1 rfl dX6_finish_65 ?_
  refine x_aload_n C (pc := 68) 1 dX6_finish_68 rfl ?_
  refine x_get C (pc := 69) (q := 0) (v := .ref (z + 15)) (ci := 6) rfl hn_X6_finish_X6 1 (by decide) fl_X6_finish_16 rfl (by omega) hT_61.1 rfl dX6_finish_69 ?_
  refine x_cVvE C (pc := 72) (st := []) (c_X5_copyFrom l D z cI cZ cP cR N F_61 1 (nI n) wi (nI kk) (nI cw) rl (nI c0) sp pd bs od 15 (nI n) wi (nI ((duG (fun w => decide (rbF wi pd pi n w w ≤ rl)) n (n - kk) kk cw c0 od).1)) (nI ((duG (fun w => decide (rbF wi pd pi n w w ≤ rl)) n (n - kk) kk cw c0 od).2.1)) rl (nI ((duG (fun w => decide (rbF wi pd pi n w w ≤ rl)) n (n - kk) kk cw c0 od).2.2.1)) 1 pd bs ((duG (fun w => decide (rbF wi pd pi n w w ≤ rl)) n (n - kk) kk cw c0 od).2.2.2) hR_61 (by omega) hTr_61 (by omega) (by omega) (Or.inr rfl)) (cwV 1 C.2.2.2.2.1 gX6_finish_X5_copyFrom rfl rfl rfl hd_X5_copyFrom ⟨Nat.le_of_ble_eq_true rfl, Nat.le_of_ble_eq_true rfl⟩) (by omega) hR_61.ob rfl rfl rfl (Nat.le_of_ble_eq_true rfl) dX6_finish_72 ⟨Nat.le_of_ble_eq_true rfl, Nat.le_of_ble_eq_true rfl⟩ (fun F_72 h_72 => ?_)
  obtain ⟨hR_72, fr_72⟩ := h_72
  have hT_72 := hT_61.same (fr_72 0 (by omega)) (fr_72 29 (by omega))
  have hTr_72 := hTr_61.same (F2 := F_72) (fun q _ _ => fr_72 q (by omega))
  have hH_72 := hH_61.same (F2 := F_72) (fun q _ _ => fr_72 q (by omega))
  have hD_72 : ∀ i, i < 6 → isRecD z cI cP F_72 (hb_53 i) ((recD hn hd (mkR (nI n) wi (nI kk) (nI cw) rl (nI c0) sp pd bs od)) i) := fun i hi => (hD_61 i hi).same (fun q h1 h2 => fr_72 q (by have := (hB_53 i hi).1; omega))
  have hPd_72 := hPd_61.same (F2 := F_72) (fun q _ _ => fr_72 q (by omega))
  have hRe_72 := hRe_61.same (F2 := F_72) (fun q _ _ => fr_72 q (by omega))
  have hOd_72 := hOd_61.same (F2 := F_72) (fun q _ _ => fr_72 q (by omega))
  have hS_72 : ∀ i, i < 2 → ∀ q, sl i = some q → isRecD z cI cP F_72 q (sd i) := fun i hi q hq => (hS_61 i hi q hq).same (fun q2 h1 h2 => fr_72 q2 (by have := hslb i hi q hq; omega))
  refine x_iload_n C (pc := 75) 0 dX6_finish_75 rfl ?_
  exact x_iret C hR0 rfl (Nat.le_of_ble_eq_true rfl) (Nat.le_of_ble_eq_true rfl) ⟨rfl, rfl, ⟨hb_53, (mkR (nI n) wi (nI ((duG (fun w => decide (rbF wi pd pi n w w ≤ rl)) n (n - kk) kk cw c0 od).1)) (nI ((duG (fun w => decide (rbF wi pd pi n w w ≤ rl)) n (n - kk) kk cw c0 od).2.1)) rl (nI ((duG (fun w => decide (rbF wi pd pi n w w ≤ rl)) n (n - kk) kk cw c0 od).2.2.1)) 1 pd bs ((duG (fun w => decide (rbF wi pd pi n w w ≤ rl)) n (n - kk) kk cw c0 od).2.2.2)), hR_72, ⟨hT_72, hTr_72, hH_72, hn6_53, hB_53, hD_72, hPd_72, hlen, ⟨_, _, _, hRe_72⟩, ⟨_, _, hOd_72⟩, hN, hslb, hS_72, hdd⟩, (gFr.t2 (gFr.t2 (gFr.t2 (gFr.t2 (gFr.wide (a := 0) (b := 123) fr_21 (by omega) (by omega)) (gFr.wide (a := 0) (b := 123) fr_28 (by omega) (by omega))) (gFr.wide (a := 0) (b := 123) fr_53 (by omega) (by omega))) (gFr.wide (a := 0) (b := 123) fr_61 (by omega) (by omega))) (gFr.wide (a := 0) (b := 123) fr_72 (by omega) (by omega)))⟩⟩ dX6_finish_76
theorem fl_X6_undo_180 : Cond.fieldLink RX6 180 "PileRecount$History" "length" "I" ∈ wsX6_undo := by decide +kernel
theorem fl_X6_undo_26 : Cond.fieldLink RX6 26 "PileRecount" "history" "LPileRecount$History;" ∈ wsX6_undo := by decide +kernel
theorem hn_X6_undo_X0 : ∀ w ∈ wsX00, w ∈ wsX6_undo := fun _ h => List.mem_cons_of_mem _ (List.mem_append_left _ (List.mem_append_left _ (List.mem_append_right _ h)))
theorem hn_X6_undo_X6 : ∀ w ∈ wsX60, w ∈ wsX6_undo := fun _ h => List.mem_cons_of_mem _ (List.mem_append_left _ (List.mem_append_left _ (List.mem_append_left _ (List.mem_append_right _ h))))
set_option maxHeartbeats 4000000 in
set_option maxRecDepth 100000 in
theorem c_X6_undo_e (l : Launch) (D : va_G) (z : Nat) (cI cZ cP cR : ClassId) (N : Nat) (F : Nat → va_E) (n kk cw c0 : Nat) (wi rl sp : Int32) (pd : Nat → Nat → Int32) (bs od : Nat → Int32) (pi : Nat → Nat) (T : RD) (hn : Nat) (hb : Nat → Nat) (hd : Nat → RD) (sl : Nat → Option Nat) (sd : Nat → RD) (len : Nat) (pa : Nat → Int32)  (hR : isRec z cI cP F 1 (nI n) wi (nI kk) (nI cw) rl (nI c0) sp pd bs od) (hnn : n ≤ 10) (hkk : kk ≤ n) (hcw : cw < 2 ^ n) (hc0 : c0 < 2 ^ 31) (hcnt : cntB cw n = kk) (hsp : sp = 0 ∨ sp = 1) (hpi : piOK bs pi n) (hC : isCl z cI cP cR N F T hn hb hd sl sd len pa) (hn0 : hn = 0) : gMi l yX6_undo wsX6_undo ({ frames := 0, cells := 0, slots := 0, locals := 0 }) D z cI cZ cP cR N F [.ref (z + 0)] (gRes (-5) N (fun F2 => F2 = F)) 0 0 := by
  refine gMi.of (cc := cX6_undo) (maxL := 1) (ret := (some .int)) (by decide) rfl (Nat.le_of_ble_eq_true rfl) [(0, .ref (z + 0))] rfl ?_
  intro pg ev sg mg bel me cg C hR0
  have h2n := two_lt hnn
  obtain ⟨hT, hTr, hH, hn6, hB, hD, hPd, hlen, ⟨rpt, rhd, rnu, hRe⟩, ⟨owy, oso, hOd⟩, hN, hslb, hS, hdd⟩ := hC
  refine x_aload_n C (pc := 0) 0 dX6_undo_0 rfl ?_
  refine x_get C (pc := 1) (q := 0) (v := .ref (z + 30)) (ci := 6) rfl hn_X6_undo_X6 3 (by decide) fl_X6_undo_26 rfl (by omega) hT.1 rfl dX6_undo_1 ?_
  refine x_get C (pc := 4) (q := 30) (v := .int (nI hn)) (ci := 0) rfl hn_X6_undo_X0 1 (by decide) fl_X6_undo_180 rfl (by omega) hH.ob rfl dX6_undo_4 ?_
  refine x_ifN_ne C (a := hn) (pc := 7) (tgt := 13) (by omega) dX6_undo_7 (by decide) (fun c_7 => absurd c_7 (by omega)) (fun c_7 => ?_)
  refine x_bipush C (pc := 10) (v := (-5)) dX6_undo_10 (by decide) ?_
  exact x_iret C hR0 rfl (Nat.le_of_ble_eq_true rfl) (Nat.le_of_ble_eq_true rfl) ⟨rfl, rfl, rfl⟩ dX6_undo_12
theorem fl_X6_undo_10 : Cond.fieldLink RX6 10 "PileRecount" "now" "LPileRecount$Recount;" ∈ wsX6_undo := by decide +kernel
set_option maxHeartbeats 4000000 in
set_option maxRecDepth 100000 in
theorem c_X6_undo_s (l : Launch) (D : va_G) (z : Nat) (cI cZ cP cR : ClassId) (N : Nat) (F : Nat → va_E) (n kk cw c0 : Nat) (wi rl sp : Int32) (pd : Nat → Nat → Int32) (bs od : Nat → Int32) (pi : Nat → Nat) (T : RD) (hn : Nat) (hb : Nat → Nat) (hd : Nat → RD) (sl : Nat → Option Nat) (sd : Nat → RD) (len : Nat) (pa : Nat → Int32)  (hR : isRec z cI cP F 1 (nI n) wi (nI kk) (nI cw) rl (nI c0) sp pd bs od) (hnn : n ≤ 10) (hkk : kk ≤ n) (hcw : cw < 2 ^ n) (hc0 : c0 < 2 ^ 31) (hcnt : cntB cw n = kk) (hsp : sp = 0 ∨ sp = 1) (hpi : piOK bs pi n) (hC : isCl z cI cP cR N F T hn hb hd sl sd len pa) (hn0 : 0 < hn) (hds : ∀ i, i < 6 → (hd i).1 6 = 0 ∨ (hd i).1 6 = 1) : gMi l yX6_undo wsX6_undo ({ frames := 3, cells := 0, slots := 0, locals := 64 }) D z cI cZ cP cR N F [.ref (z + 0)] (gRes (nI (hn - 1)) N (fun F2 => isRecD z cI cP F2 1 (hd (hn - 1)) ∧ isCl z cI cP cR N F2 T (hn - 1) hb hd sl sd len pa ∧ gFr 0 123 F F2)) 0 0 := by
  refine gMi.of (cc := cX6_undo) (maxL := 1) (ret := (some .int)) (by decide) rfl (Nat.le_of_ble_eq_true rfl) [(0, .ref (z + 0))] rfl ?_
  intro pg ev sg mg bel me cg C hR0
  have h2n := two_lt hnn
  obtain ⟨hT, hTr, hH, hn6, hB, hD, hPd, hlen, ⟨rpt, rhd, rnu, hRe⟩, ⟨owy, oso, hOd⟩, hN, hslb, hS, hdd⟩ := hC
  refine x_aload_n C (pc := 0) 0 dX6_undo_0 rfl ?_
  refine x_get C (pc := 1) (q := 0) (v := .ref (z + 30)) (ci := 6) rfl hn_X6_undo_X6 3 (by decide) fl_X6_undo_26 rfl (by omega) hT.1 rfl dX6_undo_1 ?_
  refine x_get C (pc := 4) (q := 30) (v := .int (nI hn)) (ci := 0) rfl hn_X6_undo_X0 1 (by decide) fl_X6_undo_180 rfl (by omega) hH.ob rfl dX6_undo_4 ?_
  refine x_ifN_ne C (a := hn) (pc := 7) (tgt := 13) (by omega) dX6_undo_7 (by decide) (fun c_7 => ?_) (fun c_7 => absurd c_7 (by omega))
  refine x_aload_n C (pc := 13) 0 dX6_undo_13 rfl ?_
  refine x_get C (pc := 14) (q := 0) (v := .ref (z + 30)) (ci := 6) rfl hn_X6_undo_X6 3 (by decide) fl_X6_undo_26 rfl (by omega) hT.1 rfl dX6_undo_14 ?_
  refine x_aload_n C (pc := 17) 0 dX6_undo_17 rfl ?_
  refine x_get C (pc := 18) (q := 0) (v := .ref (z + 1)) (ci := 6) rfl hn_X6_undo_X6 0 (by decide) fl_X6_undo_10 rfl (by omega) hT.1 rfl dX6_undo_18 ?_
  refine x_cVvE C (pc := 21) (st := []) (c_X0_takeBack l D z cI cZ cP cR N F 30 hn hb hd 1 (mkR (nI n) wi (nI kk) (nI cw) rl (nI c0) sp pd bs od) hH (by omega) hn6 hB hD hR (by omega) (by omega) hds hn0) (cwV 1 C.2.2.2.2.1 gX6_undo_X0_takeBack rfl rfl rfl hd_X0_takeBack ⟨Nat.le_of_ble_eq_true rfl, Nat.le_of_ble_eq_true rfl⟩) (by omega) hH.ob rfl rfl rfl (Nat.le_of_ble_eq_true rfl) dX6_undo_21 ⟨Nat.le_of_ble_eq_true rfl, Nat.le_of_ble_eq_true rfl⟩ (fun F_21 h_21 => ?_)
  obtain ⟨hH_21, hR_21, hD_21, hq_21⟩ := h_21
  have fr_21 : gFr 0 116 F F_21 := fun q hq => hq_21 q (by omega) (by omega)
  have hT_21 := hT.same (hq_21 0 (by omega) (by omega)) (hq_21 29 (by omega) (by omega))
  have hTr_21 := hTr.same (F2 := F_21) (fun q _ _ => hq_21 q (by omega) (by omega))
  have hPd_21 := hPd.same (F2 := F_21) (fun q _ _ => fr_21 q (by omega))
  have hRe_21 := hRe.same (F2 := F_21) (fun q _ _ => fr_21 q (by omega))
  have hOd_21 := hOd.same (F2 := F_21) (fun q _ _ => fr_21 q (by omega))
  have hS_21 : ∀ i, i < 2 → ∀ q, sl i = some q → isRecD z cI cP F_21 q (sd i) := fun i hi q hq => (hS i hi q hq).same (fun q2 h1 h2 => fr_21 q2 (by have := hslb i hi q hq; omega))
  refine x_aload_n C (pc := 24) 0 dX6_undo_24 rfl ?_
  refine x_get C (pc := 25) (q := 0) (v := .ref (z + 30)) (ci := 6) rfl hn_X6_undo_X6 3 (by decide) fl_X6_undo_26 rfl (by omega) hT_21.1 rfl dX6_undo_25 ?_
  refine x_get C (pc := 28) (q := 30) (v := .int (nI (hn - 1))) (ci := 0) rfl hn_X6_undo_X0 1 (by decide) fl_X6_undo_180 rfl (by omega) hH_21.ob rfl dX6_undo_28 ?_
  exact x_iret C hR0 rfl (Nat.le_of_ble_eq_true rfl) (Nat.le_of_ble_eq_true rfl) ⟨rfl, rfl, ⟨hR_21, ⟨hT_21, hTr_21, hH_21, (by omega), hB, hD_21, hPd_21, hlen, ⟨_, _, _, hRe_21⟩, ⟨_, _, hOd_21⟩, hN, hslb, hS_21, hdd⟩, (gFr.wide (a := 0) (b := 123) fr_21 (by omega) (by omega))⟩⟩ dX6_undo_31
theorem fl_X6_wipe_177 : Cond.fieldLink RX6 177 "PileRecount$Pad" "length" "I" ∈ wsX6_wipe := by decide +kernel
theorem fl_X6_wipe_33 : Cond.fieldLink RX6 33 "PileRecount" "pad" "LPileRecount$Pad;" ∈ wsX6_wipe := by decide +kernel
theorem hn_X6_wipe_X2 : ∀ w ∈ wsX20, w ∈ wsX6_wipe := fun _ h => List.mem_cons_of_mem _ (List.mem_append_right _ h)
theorem hn_X6_wipe_X6 : ∀ w ∈ wsX60, w ∈ wsX6_wipe := fun _ h => List.mem_cons_of_mem _ (List.mem_append_left _ (List.mem_append_right _ h))
set_option maxHeartbeats 4000000 in
set_option maxRecDepth 100000 in
theorem c_X6_wipe (l : Launch) (D : va_G) (z : Nat) (cI cZ cP cR : ClassId) (N : Nat) (F : Nat → va_E) (n kk cw c0 : Nat) (wi rl sp : Int32) (pd : Nat → Nat → Int32) (bs od : Nat → Int32) (pi : Nat → Nat) (T : RD) (hn : Nat) (hb : Nat → Nat) (hd : Nat → RD) (sl : Nat → Option Nat) (sd : Nat → RD) (len : Nat) (pa : Nat → Int32)  (hR : isRec z cI cP F 1 (nI n) wi (nI kk) (nI cw) rl (nI c0) sp pd bs od) (hnn : n ≤ 10) (hkk : kk ≤ n) (hcw : cw < 2 ^ n) (hc0 : c0 < 2 ^ 31) (hcnt : cntB cw n = kk) (hsp : sp = 0 ∨ sp = 1) (hpi : piOK bs pi n) (hC : isCl z cI cP cR N F T hn hb hd sl sd len pa)  : gMi l yX6_wipe wsX6_wipe ({ frames := 0, cells := 0, slots := 0, locals := 0 }) D z cI cZ cP cR N F [.ref (z + 0)] (gRes (nI len) N (fun F2 => isRec z cI cP F2 1 (nI n) wi (nI kk) (nI cw) rl (nI c0) sp pd bs od ∧ isCl z cI cP cR N F2 T hn hb hd sl sd 0 pa ∧ gFr 0 123 F F2)) 0 0 := by
  refine gMi.of (cc := cX6_wipe) (maxL := 2) (ret := (some .int)) (by decide) rfl (Nat.le_of_ble_eq_true rfl) [(0, .ref (z + 0))] rfl ?_
  intro pg ev sg mg bel me cg C hR0
  have h2n := two_lt hnn
  obtain ⟨hT, hTr, hH, hn6, hB, hD, hPd, hlen, ⟨rpt, rhd, rnu, hRe⟩, ⟨owy, oso, hOd⟩, hN, hslb, hS, hdd⟩ := hC
  refine x_aload_n C (pc := 0) 0 dX6_wipe_0 rfl ?_
  refine x_get C (pc := 1) (q := 0) (v := .ref (z + 116)) (ci := 6) rfl hn_X6_wipe_X6 4 (by decide) fl_X6_wipe_33 rfl (by omega) hT.1 rfl dX6_wipe_1 ?_
  refine x_get C (pc := 4) (q := 116) (v := .int (nI len)) (ci := 2) rfl hn_X6_wipe_X2 1 (by decide) fl_X6_wipe_177 rfl (by omega) hPd.ob rfl dX6_wipe_4 ?_
  refine x_istore_n C (pc := 7) [(1, .int (nI len)), (0, .ref (z + 0))] dX6_wipe_7 (by decide) rfl ?_
  refine x_aload_n C (pc := 8) 1 dX6_wipe_8 rfl ?_
  refine x_get C (pc := 9) (q := 0) (v := .ref (z + 116)) (ci := 6) rfl hn_X6_wipe_X6 4 (by decide) fl_X6_wipe_33 rfl (by omega) hT.1 rfl dX6_wipe_9 ?_
  refine x_iconst C (pc := 12) (v := 0) dX6_wipe_12 (by decide) ?_
  refine xw_X2_1 C (pc := 13) hn_X6_wipe_X2 fl_X6_wipe_177 hPd (by omega) dX6_wipe_13 (fun F_13 hPd_13 fr_13 => ?_)
  have hT_13 := hT.same (fr_13 0 (by omega)) (fr_13 29 (by omega))
  have hR_13 := hR.same (F2 := F_13) (fun q _ _ => fr_13 q (by omega))
  have hTr_13 := hTr.same (F2 := F_13) (fun q _ _ => fr_13 q (by omega))
  have hH_13 := hH.same (F2 := F_13) (fun q _ _ => fr_13 q (by omega))
  have hD_13 : ∀ i, i < 6 → isRecD z cI cP F_13 (hb i) (hd i) := fun i hi => (hD i hi).same (fun q h1 h2 => fr_13 q (by have := (hB i hi).1; omega))
  have hRe_13 := hRe.same (F2 := F_13) (fun q _ _ => fr_13 q (by omega))
  have hOd_13 := hOd.same (F2 := F_13) (fun q _ _ => fr_13 q (by omega))
  have hS_13 : ∀ i, i < 2 → ∀ q, sl i = some q → isRecD z cI cP F_13 q (sd i) := fun i hi q hq => (hS i hi q hq).same (fun q2 h1 h2 => fr_13 q2 (by have := hslb i hi q hq; omega))
  refine x_iload_n C (pc := 16) 0 dX6_wipe_16 rfl ?_
  exact x_iret C hR0 rfl (Nat.le_of_ble_eq_true rfl) (Nat.le_of_ble_eq_true rfl) ⟨rfl, rfl, ⟨hR_13, ⟨hT_13, hTr_13, hH_13, hn6, hB, hD_13, hPd_13, (Nat.zero_le _), ⟨_, _, _, hRe_13⟩, ⟨_, _, hOd_13⟩, hN, hslb, hS_13, hdd⟩, (gFr.wide (a := 0) (b := 123) fr_13 (by omega) (by omega))⟩⟩ dX6_wipe_17
