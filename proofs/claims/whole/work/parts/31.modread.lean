theorem fl_X7_of_7 : Cond.fieldLink RX7 7 "PileRecountModel" "at" "[I" ∈ wsX7_of := by decide +kernel
theorem hn_X7_of_X7 : ∀ w ∈ wsX70, w ∈ wsX7_of := fun _ h => List.mem_cons_of_mem _ (List.mem_append_right _ h)
set_option maxHeartbeats 4000000 in
set_option maxRecDepth 100000 in
theorem c_X7_of (l : Launch) (D : va_G) (z : Nat) (cI cZ cP cR : ClassId) (N : Nat) (F : Nat → va_E) (k : Nat) (pf pm pn spt wrg rd : Int32) (a ps sl sv sd wy pa nu : Nat → Int32) (p q : Nat) (hM : isMod z cI cZ F k pf pm pn spt wrg rd a ps sl sv sd wy pa nu) (hk : k + 9 ≤ N) (hp : p < 10) (hq : q < 6) : gMi l yX7_of wsX7_of ({ frames := 0, cells := 0, slots := 0, locals := 0 }) D z cI cZ cP cR N F [.ref (z + k), .int (nI p), .int (nI q)] (gRes (a (5 + 6 * p + q)) N (fun F2 => F2 = F)) 0 0 := by
  refine gMi.of (cc := cX7_of) (maxL := 3) (ret := (some .int)) (by decide) rfl (Nat.le_of_ble_eq_true rfl) [(0, .ref (z + k)), (1, .int (nI p)), (2, .int (nI q))] rfl ?_
  intro pg ev sg mg bel me cg C hR0
  refine x_aload_n C (pc := 0) 0 dX7_of_0 rfl ?_
  refine x_get C (pc := 1) (q := k) (v := .ref (z + (k + 1))) (ci := 7) rfl hn_X7_of_X7 0 (by decide) fl_X7_of_7 rfl (by omega) hM.ob rfl dX7_of_1 ?_
  refine x_iconst C (pc := 4) (v := 5) dX7_of_4 (by decide) ?_
  refine x_bipush C (pc := 5) (v := 6) dX7_of_5 (by decide) ?_
  refine x_iload_n C (pc := 7) 1 dX7_of_7 rfl ?_
  refine x_imul C (pc := 8) (v := nI (6 * p)) dX7_of_8 (pk_mul 6 p) ?_
  refine x_iadd C (pc := 9) (v := nI (5 + 6 * p)) dX7_of_9 (nI_add 5 (6 * p)) ?_
  refine x_iload_n C (pc := 10) 2 dX7_of_10 rfl ?_
  refine x_iadd C (pc := 11) (v := nI (5 + 6 * p + q)) dX7_of_11 (nI_add (5 + 6 * p) q) ?_
  refine x_ialdE C (pc := 12) (q := k + 1) (j := 5 + 6 * p + q) (f := a) (by omega) hM.a rfl (by omega) (by decide) dX7_of_12 ?_
  exact x_iret C hR0 rfl (Nat.le_of_ble_eq_true rfl) (Nat.le_of_ble_eq_true rfl) ⟨rfl, rfl, rfl⟩ dX7_of_13
set_option maxHeartbeats 4000000 in
set_option maxRecDepth 100000 in
theorem c_X7_ofd (l : Launch) (D : va_G) (z : Nat) (cI cZ cP cR : ClassId) (N : Nat) (F : Nat → va_E) (k : Nat) (pf pm pn spt wrg rd : Int32) (a ps sl sv sd wy pa nu : Nat → Int32) (n kk cw c0 : Nat) (wi rl sp : Int32) (pd : Nat → Nat → Int32) (od : Nat → Int32) (p q : Nat) (hM : isMod z cI cZ F k pf pm pn spt wrg rd a ps sl sv sd wy pa nu) (hk : k + 9 ≤ N) (hA : mA a n kk cw c0 wi rl sp pd od) (hp : p < n) (hq : q < 5) : gMi l yX7_of wsX7_of ({ frames := 0, cells := 0, slots := 0, locals := 0 }) D z cI cZ cP cR N F [.ref (z + k), .int (nI p), .int (nI q)] (gRes (pd p q) N (fun F2 => F2 = F)) 0 0 := by
  refine gMi.of (cc := cX7_of) (maxL := 3) (ret := (some .int)) (by decide) rfl (Nat.le_of_ble_eq_true rfl) [(0, .ref (z + k)), (1, .int (nI p)), (2, .int (nI q))] rfl ?_
  intro pg ev sg mg bel me cg C hR0
  obtain ⟨ha0, ha1, ha2, ha3, ha4, hpd, hpl, hn, hkk, hcw, hcnt, hc0, hsp, hrl, hwi, hod⟩ := id hA
  have h2n := two_lt hn
  refine x_aload_n C (pc := 0) 0 dX7_of_0 rfl ?_
  refine x_get C (pc := 1) (q := k) (v := .ref (z + (k + 1))) (ci := 7) rfl hn_X7_of_X7 0 (by decide) fl_X7_of_7 rfl (by omega) hM.ob rfl dX7_of_1 ?_
  refine x_iconst C (pc := 4) (v := 5) dX7_of_4 (by decide) ?_
  refine x_bipush C (pc := 5) (v := 6) dX7_of_5 (by decide) ?_
  refine x_iload_n C (pc := 7) 1 dX7_of_7 rfl ?_
  refine x_imul C (pc := 8) (v := nI (6 * p)) dX7_of_8 (pk_mul 6 p) ?_
  refine x_iadd C (pc := 9) (v := nI (5 + 6 * p)) dX7_of_9 (nI_add 5 (6 * p)) ?_
  refine x_iload_n C (pc := 10) 2 dX7_of_10 rfl ?_
  refine x_iadd C (pc := 11) (v := nI (5 + 6 * p + q)) dX7_of_11 (nI_add (5 + 6 * p) q) ?_
  refine x_ialdE C (pc := 12) (q := k + 1) (j := 5 + 6 * p + q) (f := a) (by omega) hM.a rfl (by omega) (by decide) dX7_of_12 ?_
  exact x_iret C hR0 rfl (Nat.le_of_ble_eq_true rfl) (Nat.le_of_ble_eq_true rfl) ⟨(hpd p hp q hq), rfl, rfl⟩ dX7_of_13
theorem fl_X7_isPile_7 : Cond.fieldLink RX7 7 "PileRecountModel" "at" "[I" ∈ wsX7_isPile := by decide +kernel
theorem hn_X7_isPile_X7 : ∀ w ∈ wsX70, w ∈ wsX7_isPile := fun _ h => List.mem_cons_of_mem _ (List.mem_append_right _ h)
set_option maxHeartbeats 4000000 in
set_option maxRecDepth 100000 in
theorem c_X7_isPile (l : Launch) (D : va_G) (z : Nat) (cI cZ cP cR : ClassId) (N : Nat) (F : Nat → va_E) (k : Nat) (pf pm pn spt wrg rd : Int32) (a ps sl sv sd wy pa nu : Nat → Int32) (n kk cw c0 : Nat) (wi rl sp : Int32) (pd : Nat → Nat → Int32) (od : Nat → Int32) (x : Int32) (hM : isMod z cI cZ F k pf pm pn spt wrg rd a ps sl sv sd wy pa nu) (hk : k + 9 ≤ N) (hA : mA a n kk cw c0 wi rl sp pd od) : gMi l yX7_isPile wsX7_isPile ({ frames := 1, cells := 0, slots := 0, locals := 22 }) D z cI cZ cP cR N F [.ref (z + k), .int x] (gRes (bz (inP x (nI n))) N (fun F2 => F2 = F)) 0 0 := by
  refine gMi.of (cc := cX7_isPile) (maxL := 2) (ret := (some .boolean)) (by decide) rfl (Nat.le_of_ble_eq_true rfl) [(0, .ref (z + k)), (1, .int x)] rfl ?_
  intro pg ev sg mg bel me cg C hR0
  obtain ⟨ha0, ha1, ha2, ha3, ha4, hpd, hpl, hn, hkk, hcw, hcnt, hc0, hsp, hrl, hwi, hod⟩ := id hA
  have h2n := two_lt hn
  refine x_iload_n C (pc := 0) 1 dX7_isPile_0 rfl ?_
  refine x_iconst C (pc := 1) (v := 0) dX7_isPile_1 (by decide) ?_
  refine x_aload_n C (pc := 2) 0 dX7_isPile_2 rfl ?_
  refine x_get C (pc := 3) (q := k) (v := .ref (z + (k + 1))) (ci := 7) rfl hn_X7_isPile_X7 0 (by decide) fl_X7_isPile_7 rfl (by omega) hM.ob rfl dX7_isPile_3 ?_
  refine x_iconst C (pc := 6) (v := 0) dX7_isPile_6 (by decide) ?_
  refine x_ialdE C (pc := 7) (q := k + 1) (j := 0) (f := a) (by omega) hM.a rfl (by omega) (by decide) dX7_isPile_7 ?_
  refine x_eqi hA.1 ?_
  refine x_iconst C (pc := 8) (v := 1) dX7_isPile_8 (by decide) ?_
  refine x_isub C (pc := 9) (v := (nI n) - 1) dX7_isPile_9 rfl ?_
  refine x_cSiR C (pc := 10) (st := []) (c_X7_in l D z cI cZ cP cR N F x 0 ((nI n) - 1)) (va_cwS 3 C.2.2.2.2.1 gX7_isPile_X7_in rfl rfl rfl hd_X7_in.2 ⟨Nat.le_of_ble_eq_true rfl, Nat.le_of_ble_eq_true rfl⟩) rfl rfl (Nat.le_of_ble_eq_true rfl) dX7_isPile_10 ⟨Nat.le_of_ble_eq_true rfl, Nat.le_of_ble_eq_true rfl⟩ ?_
  exact x_iret C hR0 (nar_bz _) (Nat.le_of_ble_eq_true rfl) (Nat.le_of_ble_eq_true rfl) ⟨(by rw [inP_in hn]), rfl, rfl⟩ dX7_isPile_13
set_option maxHeartbeats 4000000 in
set_option maxRecDepth 100000 in
theorem c_X7_isCounted (l : Launch) (D : va_G) (z : Nat) (cI cZ cP cR : ClassId) (N : Nat) (F : Nat → va_E) (k : Nat) (pf pm pn spt wrg rd : Int32) (a ps sl sv sd wy pa nu : Nat → Int32) (n kk cw c0 : Nat) (wi rl sp : Int32) (pd : Nat → Nat → Int32) (od : Nat → Int32) (p : Nat) (hM : isMod z cI cZ F k pf pm pn spt wrg rd a ps sl sv sd wy pa nu) (hk : k + 9 ≤ N) (hA : mA a n kk cw c0 wi rl sp pd od) (hp : p < n) : gMi l yX7_isCounted wsX7_isCounted ({ frames := 1, cells := 0, slots := 0, locals := 22 }) D z cI cZ cP cR N F [.ref (z + k), .int (nI p)] (gRes (bz (cw.testBit p)) N (fun F2 => F2 = F)) 0 0 := by
  refine gMi.of (cc := cX7_isCounted) (maxL := 2) (ret := (some .boolean)) (by decide) rfl (Nat.le_of_ble_eq_true rfl) [(0, .ref (z + k)), (1, .int (nI p))] rfl ?_
  intro pg ev sg mg bel me cg C hR0
  obtain ⟨ha0, ha1, ha2, ha3, ha4, hpd, hpl, hn, hkk, hcw, hcnt, hc0, hsp, hrl, hwi, hod⟩ := id hA
  have h2n := two_lt hn
  refine x_aload_n C (pc := 0) 0 dX7_isCounted_0 rfl ?_
  refine x_iload_n C (pc := 1) 1 dX7_isCounted_1 rfl ?_
  refine x_iconst C (pc := 2) (v := 5) dX7_isCounted_2 (by decide) ?_
  refine x_cViR C (pc := 3) (st := []) (c_X7_of l D z cI cZ cP cR N F k pf pm pn spt wrg rd a ps sl sv sd wy pa nu p 5 hM (by omega) (by omega) (by omega)) (cwV 2 C.2.2.2.2.1 gX7_isCounted_X7_of rfl rfl rfl hd_X7_of ⟨Nat.le_of_ble_eq_true rfl, Nat.le_of_ble_eq_true rfl⟩) (by omega) hM.ob rfl rfl rfl (Nat.le_of_ble_eq_true rfl) dX7_isCounted_3 ⟨Nat.le_of_ble_eq_true rfl, Nat.le_of_ble_eq_true rfl⟩ ?_
  refine x_if_lt C (pc := 6) (tgt := 13) dX7_isCounted_6 (by decide) (fun c_6 => ?_) (fun c_6 => ?_)
  · refine x_iconst C (pc := 13) (v := 0) dX7_isCounted_13 (by decide) ?_
    exact x_iret C hR0 rfl (Nat.le_of_ble_eq_true rfl) (Nat.le_of_ble_eq_true rfl) ⟨(by rw [mA_cf hA hp c_6]; rfl), rfl, rfl⟩ dX7_isCounted_14
  refine x_iconst C (pc := 9) (v := 1) dX7_isCounted_9 (by decide) ?_
  refine x_goto C (pc := 10) (tgt := 14) dX7_isCounted_10 (by decide) ?_
  exact x_iret C hR0 rfl (Nat.le_of_ble_eq_true rfl) (Nat.le_of_ble_eq_true rfl) ⟨(by rw [mA_ct hA hp c_6]; rfl), rfl, rfl⟩ dX7_isCounted_14
theorem fl_X7_countedSet_7 : Cond.fieldLink RX7 7 "PileRecountModel" "at" "[I" ∈ wsX7_countedSet := by decide +kernel
theorem hn_X7_countedSet_X7 : ∀ w ∈ wsX70, w ∈ wsX7_countedSet := fun _ h => List.mem_cons_of_mem _ (List.mem_append_right _ h)
set_option maxHeartbeats 4000000 in
set_option maxRecDepth 100000 in
theorem c_X7_countedSet (l : Launch) (D : va_G) (z : Nat) (cI cZ cP cR : ClassId) (N : Nat) (F : Nat → va_E) (k : Nat) (pf pm pn spt wrg rd : Int32) (a ps sl sv sd wy pa nu : Nat → Int32) (n kk cw c0 : Nat) (wi rl sp : Int32) (pd : Nat → Nat → Int32) (od : Nat → Int32) (hM : isMod z cI cZ F k pf pm pn spt wrg rd a ps sl sv sd wy pa nu) (hk : k + 9 ≤ N) (hA : mA a n kk cw c0 wi rl sp pd od) : gMi l yX7_countedSet wsX7_countedSet ({ frames := 2, cells := 0, slots := 0, locals := 43 }) D z cI cZ cP cR N F [.ref (z + k)] (gRes (nI cw) N (fun F2 => F2 = F)) 0 0 := by
  refine gMi.of (cc := cX7_countedSet) (maxL := 3) (ret := (some .int)) (by decide) rfl (Nat.le_of_ble_eq_true rfl) [(0, .ref (z + k))] rfl ?_
  intro pg ev sg mg bel me cg C hR0
  obtain ⟨ha0, ha1, ha2, ha3, ha4, hpd, hpl, hn, hkk, hcw, hcnt, hc0, hsp, hrl, hwi, hod⟩ := id hA
  have h2n := two_lt hn
  refine x_iconst C (pc := 0) (v := 0) dX7_countedSet_0 (by decide) ?_
  refine x_istore_n C (pc := 1) [(1, .int 0), (0, .ref (z + k))] dX7_countedSet_1 (by decide) rfl ?_
  refine x_eqL [(1, .int (nI (cw % 2 ^ 0))), (0, .ref (z + k))] (by rw [Nat.pow_zero, Nat.mod_one]; rfl) ?_
  refine x_iconst C (pc := 2) (v := 0) dX7_countedSet_2 (by decide) ?_
  refine x_istore_n C (pc := 3) [(2, .int 0), (1, .int (nI (cw % 2 ^ 0))), (0, .ref (z + k))] dX7_countedSet_3 (by decide) rfl ?_
  refine x_sub [2, 1, 0] _ rfl ?_
  refine x_loop1 (A1 := Nat) (pc := 4) (st := []) (fun j => n - j) (fun j => (j ≤ n)) (fun j => N) (fun j => F) (fun j => 0) (fun j => 0) (fun j => [(0, .ref (z + k)), (1, .int (nI (cw % 2 ^ j))), (2, .int (nI j))]) 0 (Nat.zero_le _) rfl rfl rfl rfl rfl ?_
  rintro j hj ih_4
  try dsimp only at ih_4
  refine x_iload_n C (pc := 4) 2 dX7_countedSet_4 rfl ?_
  refine x_aload_n C (pc := 5) 0 dX7_countedSet_5 rfl ?_
  refine x_get C (pc := 6) (q := k) (v := .ref (z + (k + 1))) (ci := 7) rfl hn_X7_countedSet_X7 0 (by decide) fl_X7_countedSet_7 rfl (by omega) hM.ob rfl dX7_countedSet_6 ?_
  refine x_iconst C (pc := 9) (v := 0) dX7_countedSet_9 (by decide) ?_
  refine x_ialdE C (pc := 10) (q := k + 1) (j := 0) (f := a) (by omega) hM.a rfl (by omega) (by decide) dX7_countedSet_10 ?_
  refine x_eqi hA.1 ?_
  refine x_icmpN_ge C (a := j) (b := n) (pc := 11) (tgt := 38) (by omega) (by omega) dX7_countedSet_11 (by decide) (fun c_11 => ?_) (fun c_11 => ?_)
  · refine x_iload_n C (pc := 38) 1 dX7_countedSet_38 rfl ?_
    exact x_iret C hR0 rfl (Nat.le_of_ble_eq_true rfl) (Nat.le_of_ble_eq_true rfl) ⟨(by rw [show j = n by omega, Nat.mod_eq_of_lt hcw]), rfl, rfl⟩ dX7_countedSet_39
  refine x_iload_n C (pc := 14) 1 dX7_countedSet_14 rfl ?_
  refine x_aload_n C (pc := 15) 0 dX7_countedSet_15 rfl ?_
  refine x_iload_n C (pc := 16) 2 dX7_countedSet_16 rfl ?_
  refine x_cViR C (pc := 17) (st := [.int (nI (cw % 2 ^ j))]) (c_X7_isCounted l D z cI cZ cP cR N F k pf pm pn spt wrg rd a ps sl sv sd wy pa nu n kk cw c0 wi rl sp pd od j hM (by omega) hA (by omega)) (cwV 1 C.2.2.2.2.1 gX7_countedSet_X7_isCounted rfl rfl rfl hd_X7_isCounted ⟨Nat.le_of_ble_eq_true rfl, Nat.le_of_ble_eq_true rfl⟩) (by omega) hM.ob rfl rfl rfl (Nat.le_of_ble_eq_true rfl) dX7_countedSet_17 ⟨Nat.le_of_ble_eq_true rfl, Nat.le_of_ble_eq_true rfl⟩ ?_
  refine x_bz_eq C (pc := 20) (tgt := 29) dX7_countedSet_20 (by decide) (fun c_20 => ?_) (fun c_20 => ?_)
  · refine x_iconst C (pc := 29) (v := 0) dX7_countedSet_29 (by decide) ?_
    refine x_ior C (pc := 30) (v := nI (cw % 2 ^ (j + 1))) dX7_countedSet_30 (cs_or0 (by omega) c_20) ?_
    refine x_istore_n C (pc := 31) [(1, .int (nI (cw % 2 ^ (j + 1)))), (0, .ref (z + k)), (2, .int (nI j))] dX7_countedSet_31 (by decide) rfl ?_
    refine x_iinc C (pc := 32) 2 [(2, .int (nI (j + 1))), (1, .int (nI (cw % 2 ^ (j + 1)))), (0, .ref (z + k))] dX7_countedSet_32 rfl (nI_inc j) (by decide) rfl ?_
    refine x_goto C (pc := 35) (tgt := 4) dX7_countedSet_35 (by decide) ?_
    exact x_sub [2, 1, 0] _ rfl (ih_4 (j + 1) (by omega) (by omega))
  refine x_iconst C (pc := 23) (v := 1) dX7_countedSet_23 (by decide) ?_
  refine x_iload_n C (pc := 24) 2 dX7_countedSet_24 rfl ?_
  refine x_ishl C (pc := 25) (v := nI (2 ^ j)) dX7_countedSet_25 (pkshl (by omega)) ?_
  refine x_goto C (pc := 26) (tgt := 30) dX7_countedSet_26 (by decide) ?_
  refine x_ior C (pc := 30) (v := nI (cw % 2 ^ (j + 1))) dX7_countedSet_30 (cs_or1 (by omega) c_20) ?_
  refine x_istore_n C (pc := 31) [(1, .int (nI (cw % 2 ^ (j + 1)))), (0, .ref (z + k)), (2, .int (nI j))] dX7_countedSet_31 (by decide) rfl ?_
  refine x_iinc C (pc := 32) 2 [(2, .int (nI (j + 1))), (1, .int (nI (cw % 2 ^ (j + 1)))), (0, .ref (z + k))] dX7_countedSet_32 rfl (nI_inc j) (by decide) rfl ?_
  refine x_goto C (pc := 35) (tgt := 4) dX7_countedSet_35 (by decide) ?_
  exact x_sub [2, 1, 0] _ rfl (ih_4 (j + 1) (by omega) (by omega))
theorem fl_X7_allSet_7 : Cond.fieldLink RX7 7 "PileRecountModel" "at" "[I" ∈ wsX7_allSet := by decide +kernel
theorem hn_X7_allSet_X7 : ∀ w ∈ wsX70, w ∈ wsX7_allSet := fun _ h => List.mem_cons_of_mem _ (List.mem_append_right _ h)
set_option maxHeartbeats 4000000 in
set_option maxRecDepth 100000 in
theorem c_X7_allSet (l : Launch) (D : va_G) (z : Nat) (cI cZ cP cR : ClassId) (N : Nat) (F : Nat → va_E) (k : Nat) (pf pm pn spt wrg rd : Int32) (a ps sl sv sd wy pa nu : Nat → Int32) (n kk cw c0 : Nat) (wi rl sp : Int32) (pd : Nat → Nat → Int32) (od : Nat → Int32) (hM : isMod z cI cZ F k pf pm pn spt wrg rd a ps sl sv sd wy pa nu) (hk : k + 9 ≤ N) (hA : mA a n kk cw c0 wi rl sp pd od) : gMi l yX7_allSet wsX7_allSet ({ frames := 0, cells := 0, slots := 0, locals := 0 }) D z cI cZ cP cR N F [.ref (z + k)] (gRes (nI (2 ^ n - 1)) N (fun F2 => F2 = F)) 0 0 := by
  refine gMi.of (cc := cX7_allSet) (maxL := 1) (ret := (some .int)) (by decide) rfl (Nat.le_of_ble_eq_true rfl) [(0, .ref (z + k))] rfl ?_
  intro pg ev sg mg bel me cg C hR0
  obtain ⟨ha0, ha1, ha2, ha3, ha4, hpd, hpl, hn, hkk, hcw, hcnt, hc0, hsp, hrl, hwi, hod⟩ := id hA
  have h2n := two_lt hn
  refine x_iconst C (pc := 0) (v := 1) dX7_allSet_0 (by decide) ?_
  refine x_aload_n C (pc := 1) 0 dX7_allSet_1 rfl ?_
  refine x_get C (pc := 2) (q := k) (v := .ref (z + (k + 1))) (ci := 7) rfl hn_X7_allSet_X7 0 (by decide) fl_X7_allSet_7 rfl (by omega) hM.ob rfl dX7_allSet_2 ?_
  refine x_iconst C (pc := 5) (v := 0) dX7_allSet_5 (by decide) ?_
  refine x_ialdE C (pc := 6) (q := k + 1) (j := 0) (f := a) (by omega) hM.a rfl (by omega) (by decide) dX7_allSet_6 ?_
  refine x_eqi hA.1 ?_
  refine x_ishl C (pc := 7) (v := nI (2 ^ n)) dX7_allSet_7 (pkshl (by omega)) ?_
  refine x_iconst C (pc := 8) (v := 1) dX7_allSet_8 (by decide) ?_
  refine x_isub C (pc := 9) (v := nI (2 ^ n - 1)) dX7_allSet_9 (pk_sub (two_pos n)) ?_
  exact x_iret C hR0 rfl (Nat.le_of_ble_eq_true rfl) (Nat.le_of_ble_eq_true rfl) ⟨rfl, rfl, rfl⟩ dX7_allSet_10
theorem fl_X7_winner_7 : Cond.fieldLink RX7 7 "PileRecountModel" "at" "[I" ∈ wsX7_winner := by decide +kernel
theorem hn_X7_winner_X7 : ∀ w ∈ wsX70, w ∈ wsX7_winner := fun _ h => List.mem_cons_of_mem _ (List.mem_append_right _ h)
set_option maxHeartbeats 4000000 in
set_option maxRecDepth 100000 in
theorem c_X7_winner (l : Launch) (D : va_G) (z : Nat) (cI cZ cP cR : ClassId) (N : Nat) (F : Nat → va_E) (k : Nat) (pf pm pn spt wrg rd : Int32) (a ps sl sv sd wy pa nu : Nat → Int32) (n kk cw c0 : Nat) (wi rl sp : Int32) (pd : Nat → Nat → Int32) (od : Nat → Int32) (hM : isMod z cI cZ F k pf pm pn spt wrg rd a ps sl sv sd wy pa nu) (hk : k + 9 ≤ N) (hA : mA a n kk cw c0 wi rl sp pd od) : gMi l yX7_winner wsX7_winner ({ frames := 1, cells := 0, slots := 0, locals := 22 }) D z cI cZ cP cR N F [.ref (z + k)] (gRes wi N (fun F2 => F2 = F)) 0 0 := by
  refine gMi.of (cc := cX7_winner) (maxL := 3) (ret := (some .int)) (by decide) rfl (Nat.le_of_ble_eq_true rfl) [(0, .ref (z + k))] rfl ?_
  intro pg ev sg mg bel me cg C hR0
  obtain ⟨ha0, ha1, ha2, ha3, ha4, hpd, hpl, hn, hkk, hcw, hcnt, hc0, hsp, hrl, hwi, hod⟩ := id hA
  have h2n := two_lt hn
  refine x_iconst C (pc := 0) (v := 0) dX7_winner_0 (by decide) ?_
  refine x_istore_n C (pc := 1) [(1, .int 0), (0, .ref (z + k))] dX7_winner_1 (by decide) rfl ?_
  refine x_iconst C (pc := 2) (v := 0) dX7_winner_2 (by decide) ?_
  refine x_istore_n C (pc := 3) [(2, .int 0), (1, .int 0), (0, .ref (z + k))] dX7_winner_3 (by decide) rfl ?_
  refine x_sub [2, 1, 0] _ rfl ?_
  refine x_loop2 (A1 := Nat) (A2 := Int32) (pc := 4) (st := []) (fun j acc => n - j) (fun j acc => (j ≤ n) ∧ (acc = gSum (fun i => repF 0 (pd i)) j)) (fun j acc => N) (fun j acc => F) (fun j acc => 0) (fun j acc => 0) (fun j acc => [(0, .ref (z + k)), (1, .int acc), (2, .int (nI j))]) 0 0 ⟨(Nat.zero_le _), rfl⟩ rfl rfl rfl rfl rfl ?_
  rintro j acc ⟨hj, hacc⟩ ih_4
  try dsimp only at ih_4
  refine x_iload_n C (pc := 4) 2 dX7_winner_4 rfl ?_
  refine x_aload_n C (pc := 5) 0 dX7_winner_5 rfl ?_
  refine x_get C (pc := 6) (q := k) (v := .ref (z + (k + 1))) (ci := 7) rfl hn_X7_winner_X7 0 (by decide) fl_X7_winner_7 rfl (by omega) hM.ob rfl dX7_winner_6 ?_
  refine x_iconst C (pc := 9) (v := 0) dX7_winner_9 (by decide) ?_
  refine x_ialdE C (pc := 10) (q := k + 1) (j := 0) (f := a) (by omega) hM.a rfl (by omega) (by decide) dX7_winner_10 ?_
  refine x_eqi hA.1 ?_
  refine x_icmpN_ge C (a := j) (b := n) (pc := 11) (tgt := 36) (by omega) (by omega) dX7_winner_11 (by decide) (fun c_11 => ?_) (fun c_11 => ?_)
  · have hjn : j = n := by omega
    have hwin : winS acc = wi := by rw [hacc, hjn, hwi]; rfl
    refine x_iload_n C (pc := 36) 1 dX7_winner_36 rfl ?_
    refine x_if_le C (pc := 37) (tgt := 44) dX7_winner_37 (by decide) (fun c_37 => ?_) (fun c_37 => ?_)
    · refine x_iload_n C (pc := 44) 1 dX7_winner_44 rfl ?_
      refine x_if_ge C (pc := 45) (tgt := 52) dX7_winner_45 (by decide) (fun c_45 => ?_) (fun c_45 => ?_)
      · refine x_bipush C (pc := 52) (v := (-6)) dX7_winner_52 (by decide) ?_
        exact x_iret C hR0 rfl (Nat.le_of_ble_eq_true rfl) (Nat.le_of_ble_eq_true rfl) ⟨(by rw [← hwin, winS]; rw [if_neg (Int32.not_lt.mpr c_37), if_neg (Int32.not_lt.mpr c_45)]), rfl, rfl⟩ dX7_winner_54
      refine x_iconst C (pc := 48) (v := 1) dX7_winner_48 (by decide) ?_
      refine x_goto C (pc := 49) (tgt := 54) dX7_winner_49 (by decide) ?_
      exact x_iret C hR0 rfl (Nat.le_of_ble_eq_true rfl) (Nat.le_of_ble_eq_true rfl) ⟨(by rw [← hwin, winS]; rw [if_neg (Int32.not_lt.mpr c_37), if_pos (Int32.not_le.mp c_45)]), rfl, rfl⟩ dX7_winner_54
    refine x_iconst C (pc := 40) (v := 0) dX7_winner_40 (by decide) ?_
    refine x_goto C (pc := 41) (tgt := 54) dX7_winner_41 (by decide) ?_
    exact x_iret C hR0 rfl (Nat.le_of_ble_eq_true rfl) (Nat.le_of_ble_eq_true rfl) ⟨(by rw [← hwin, winS]; rw [if_pos (Int32.not_le.mp c_37)]), rfl, rfl⟩ dX7_winner_54
  refine x_iload_n C (pc := 14) 1 dX7_winner_14 rfl ?_
  refine x_aload_n C (pc := 15) 0 dX7_winner_15 rfl ?_
  refine x_iload_n C (pc := 16) 2 dX7_winner_16 rfl ?_
  refine x_iconst C (pc := 17) (v := 0) dX7_winner_17 (by decide) ?_
  refine x_cViR C (pc := 18) (st := [.int acc]) (c_X7_ofd l D z cI cZ cP cR N F k pf pm pn spt wrg rd a ps sl sv sd wy pa nu n kk cw c0 wi rl sp pd od j 0 hM (by omega) hA (by omega) (by omega)) (cwV 2 C.2.2.2.2.1 gX7_winner_X7_of rfl rfl rfl hd_X7_of ⟨Nat.le_of_ble_eq_true rfl, Nat.le_of_ble_eq_true rfl⟩) (by omega) hM.ob rfl rfl rfl (Nat.le_of_ble_eq_true rfl) dX7_winner_18 ⟨Nat.le_of_ble_eq_true rfl, Nat.le_of_ble_eq_true rfl⟩ ?_
  refine x_aload_n C (pc := 21) 0 dX7_winner_21 rfl ?_
  refine x_iload_n C (pc := 22) 2 dX7_winner_22 rfl ?_
  refine x_iconst C (pc := 23) (v := 1) dX7_winner_23 (by decide) ?_
  refine x_cViR C (pc := 24) (st := [.int (pd j 0), .int acc]) (c_X7_ofd l D z cI cZ cP cR N F k pf pm pn spt wrg rd a ps sl sv sd wy pa nu n kk cw c0 wi rl sp pd od j 1 hM (by omega) hA (by omega) (by omega)) (cwV 2 C.2.2.2.2.1 gX7_winner_X7_of rfl rfl rfl hd_X7_of ⟨Nat.le_of_ble_eq_true rfl, Nat.le_of_ble_eq_true rfl⟩) (by omega) hM.ob rfl rfl rfl (Nat.le_of_ble_eq_true rfl) dX7_winner_24 ⟨Nat.le_of_ble_eq_true rfl, Nat.le_of_ble_eq_true rfl⟩ ?_
  refine x_isub C (pc := 27) (v := (pd j 0) - (pd j 1)) dX7_winner_27 rfl ?_
  refine x_iadd C (pc := 28) (v := acc + ((pd j 0) - (pd j 1))) dX7_winner_28 rfl ?_
  refine x_istore_n C (pc := 29) [(1, .int (acc + ((pd j 0) - (pd j 1)))), (0, .ref (z + k)), (2, .int (nI j))] dX7_winner_29 (by decide) rfl ?_
  refine x_iinc C (pc := 30) 2 [(2, .int (nI (j + 1))), (1, .int (acc + ((pd j 0) - (pd j 1)))), (0, .ref (z + k))] dX7_winner_30 rfl (nI_inc j) (by decide) rfl ?_
  refine x_goto C (pc := 33) (tgt := 4) dX7_winner_33 (by decide) ?_
  exact x_sub [2, 1, 0] _ rfl (ih_4 (j + 1) (acc + ((pd j 0) - (pd j 1))) ⟨(by omega), (by rw [hacc]; rfl)⟩ (by omega))
set_option maxHeartbeats 4000000 in
set_option maxRecDepth 100000 in
theorem c_X7_size (l : Launch) (D : va_G) (z : Nat) (cI cZ cP cR : ClassId) (N : Nat) (F : Nat → va_E) (k : Nat) (pf pm pn spt wrg rd : Int32) (a ps sl sv sd wy pa nu : Nat → Int32) (n kk cw c0 : Nat) (wi rl sp : Int32) (pd : Nat → Nat → Int32) (od : Nat → Int32) (p : Nat) (hM : isMod z cI cZ F k pf pm pn spt wrg rd a ps sl sv sd wy pa nu) (hk : k + 9 ≤ N) (hA : mA a n kk cw c0 wi rl sp pd od) (hp : p < n) : gMi l yX7_size wsX7_size ({ frames := 1, cells := 0, slots := 0, locals := 22 }) D z cI cZ cP cR N F [.ref (z + k), .int (nI p)] (gRes (sizF (pd p)) N (fun F2 => F2 = F)) 0 0 := by
  refine gMi.of (cc := cX7_size) (maxL := 2) (ret := (some .int)) (by decide) rfl (Nat.le_of_ble_eq_true rfl) [(0, .ref (z + k)), (1, .int (nI p))] rfl ?_
  intro pg ev sg mg bel me cg C hR0
  obtain ⟨ha0, ha1, ha2, ha3, ha4, hpd, hpl, hn, hkk, hcw, hcnt, hc0, hsp, hrl, hwi, hod⟩ := id hA
  have h2n := two_lt hn
  refine x_aload_n C (pc := 0) 0 dX7_size_0 rfl ?_
  refine x_iload_n C (pc := 1) 1 dX7_size_1 rfl ?_
  refine x_iconst C (pc := 2) (v := 0) dX7_size_2 (by decide) ?_
  refine x_cViR C (pc := 3) (st := []) (c_X7_ofd l D z cI cZ cP cR N F k pf pm pn spt wrg rd a ps sl sv sd wy pa nu n kk cw c0 wi rl sp pd od p 0 hM (by omega) hA (by omega) (by omega)) (cwV 2 C.2.2.2.2.1 gX7_size_X7_of rfl rfl rfl hd_X7_of ⟨Nat.le_of_ble_eq_true rfl, Nat.le_of_ble_eq_true rfl⟩) (by omega) hM.ob rfl rfl rfl (Nat.le_of_ble_eq_true rfl) dX7_size_3 ⟨Nat.le_of_ble_eq_true rfl, Nat.le_of_ble_eq_true rfl⟩ ?_
  refine x_aload_n C (pc := 6) 0 dX7_size_6 rfl ?_
  refine x_iload_n C (pc := 7) 1 dX7_size_7 rfl ?_
  refine x_iconst C (pc := 8) (v := 1) dX7_size_8 (by decide) ?_
  refine x_cViR C (pc := 9) (st := [.int (pd p 0)]) (c_X7_ofd l D z cI cZ cP cR N F k pf pm pn spt wrg rd a ps sl sv sd wy pa nu n kk cw c0 wi rl sp pd od p 1 hM (by omega) hA (by omega) (by omega)) (cwV 2 C.2.2.2.2.1 gX7_size_X7_of rfl rfl rfl hd_X7_of ⟨Nat.le_of_ble_eq_true rfl, Nat.le_of_ble_eq_true rfl⟩) (by omega) hM.ob rfl rfl rfl (Nat.le_of_ble_eq_true rfl) dX7_size_9 ⟨Nat.le_of_ble_eq_true rfl, Nat.le_of_ble_eq_true rfl⟩ ?_
  refine x_iadd C (pc := 12) (v := (pd p 0) + (pd p 1)) dX7_size_12 rfl ?_
  refine x_aload_n C (pc := 13) 0 dX7_size_13 rfl ?_
  refine x_iload_n C (pc := 14) 1 dX7_size_14 rfl ?_
  refine x_iconst C (pc := 15) (v := 2) dX7_size_15 (by decide) ?_
  refine x_cViR C (pc := 16) (st := [.int ((pd p 0) + (pd p 1))]) (c_X7_ofd l D z cI cZ cP cR N F k pf pm pn spt wrg rd a ps sl sv sd wy pa nu n kk cw c0 wi rl sp pd od p 2 hM (by omega) hA (by omega) (by omega)) (cwV 2 C.2.2.2.2.1 gX7_size_X7_of rfl rfl rfl hd_X7_of ⟨Nat.le_of_ble_eq_true rfl, Nat.le_of_ble_eq_true rfl⟩) (by omega) hM.ob rfl rfl rfl (Nat.le_of_ble_eq_true rfl) dX7_size_16 ⟨Nat.le_of_ble_eq_true rfl, Nat.le_of_ble_eq_true rfl⟩ ?_
  refine x_iadd C (pc := 19) (v := ((pd p 0) + (pd p 1)) + (pd p 2)) dX7_size_19 rfl ?_
  exact x_iret C hR0 rfl (Nat.le_of_ble_eq_true rfl) (Nat.le_of_ble_eq_true rfl) ⟨rfl, rfl, rfl⟩ dX7_size_20
set_option maxHeartbeats 4000000 in
set_option maxRecDepth 100000 in
theorem c_X7_forWinner (l : Launch) (D : va_G) (z : Nat) (cI cZ cP cR : ClassId) (N : Nat) (F : Nat → va_E) (k : Nat) (pf pm pn spt wrg rd : Int32) (a ps sl sv sd wy pa nu : Nat → Int32) (n kk cw c0 : Nat) (wi rl sp : Int32) (pd : Nat → Nat → Int32) (od : Nat → Int32) (x : Int32) (hM : isMod z cI cZ F k pf pm pn spt wrg rd a ps sl sv sd wy pa nu) (hk : k + 9 ≤ N) (hA : mA a n kk cw c0 wi rl sp pd od) : gMi l yX7_forWinner wsX7_forWinner ({ frames := 2, cells := 0, slots := 0, locals := 44 }) D z cI cZ cP cR N F [.ref (z + k), .int x] (gRes (fwF wi x) N (fun F2 => F2 = F)) 0 0 := by
  refine gMi.of (cc := cX7_forWinner) (maxL := 2) (ret := (some .int)) (by decide) rfl (Nat.le_of_ble_eq_true rfl) [(0, .ref (z + k)), (1, .int x)] rfl ?_
  intro pg ev sg mg bel me cg C hR0
  obtain ⟨ha0, ha1, ha2, ha3, ha4, hpd, hpl, hn, hkk, hcw, hcnt, hc0, hsp, hrl, hwi, hod⟩ := id hA
  have h2n := two_lt hn
  refine x_aload_n C (pc := 0) 0 dX7_forWinner_0 rfl ?_
  refine x_cViR C (pc := 1) (st := []) (c_X7_winner l D z cI cZ cP cR N F k pf pm pn spt wrg rd a ps sl sv sd wy pa nu n kk cw c0 wi rl sp pd od  hM (by omega) hA ) (cwV 0 C.2.2.2.2.1 gX7_forWinner_X7_winner rfl rfl rfl hd_X7_winner ⟨Nat.le_of_ble_eq_true rfl, Nat.le_of_ble_eq_true rfl⟩) (by omega) hM.ob rfl rfl rfl (Nat.le_of_ble_eq_true rfl) dX7_forWinner_1 ⟨Nat.le_of_ble_eq_true rfl, Nat.le_of_ble_eq_true rfl⟩ ?_
  refine x_if_ne C (pc := 4) (tgt := 11) dX7_forWinner_4 (by decide) (fun c_4 => ?_) (fun c_4 => ?_)
  · refine x_iload_n C (pc := 11) 1 dX7_forWinner_11 rfl ?_
    refine x_ineg C (pc := 12) (v := -x) dX7_forWinner_12 rfl ?_
    exact x_iret C hR0 rfl (Nat.le_of_ble_eq_true rfl) (Nat.le_of_ble_eq_true rfl) ⟨(by rw [fwF, if_neg c_4]), rfl, rfl⟩ dX7_forWinner_13
  refine x_iload_n C (pc := 7) 1 dX7_forWinner_7 rfl ?_
  refine x_goto C (pc := 8) (tgt := 13) dX7_forWinner_8 (by decide) ?_
  exact x_iret C hR0 rfl (Nat.le_of_ble_eq_true rfl) (Nat.le_of_ble_eq_true rfl) ⟨(by rw [fwF, if_pos c_4]), rfl, rfl⟩ dX7_forWinner_13
set_option maxHeartbeats 4000000 in
set_option maxRecDepth 100000 in
theorem c_X7_reported (l : Launch) (D : va_G) (z : Nat) (cI cZ cP cR : ClassId) (N : Nat) (F : Nat → va_E) (k : Nat) (pf pm pn spt wrg rd : Int32) (a ps sl sv sd wy pa nu : Nat → Int32) (n kk cw c0 : Nat) (wi rl sp : Int32) (pd : Nat → Nat → Int32) (od : Nat → Int32) (p : Nat) (hM : isMod z cI cZ F k pf pm pn spt wrg rd a ps sl sv sd wy pa nu) (hk : k + 9 ≤ N) (hA : mA a n kk cw c0 wi rl sp pd od) (hp : p < n) : gMi l yX7_reported wsX7_reported ({ frames := 3, cells := 0, slots := 0, locals := 65 }) D z cI cZ cP cR N F [.ref (z + k), .int (nI p)] (gRes (repF wi (pd p)) N (fun F2 => F2 = F)) 0 0 := by
  refine gMi.of (cc := cX7_reported) (maxL := 2) (ret := (some .int)) (by decide) rfl (Nat.le_of_ble_eq_true rfl) [(0, .ref (z + k)), (1, .int (nI p))] rfl ?_
  intro pg ev sg mg bel me cg C hR0
  obtain ⟨ha0, ha1, ha2, ha3, ha4, hpd, hpl, hn, hkk, hcw, hcnt, hc0, hsp, hrl, hwi, hod⟩ := id hA
  have h2n := two_lt hn
  refine x_aload_n C (pc := 0) 0 dX7_reported_0 rfl ?_
  refine x_aload_n C (pc := 1) 0 dX7_reported_1 rfl ?_
  refine x_iload_n C (pc := 2) 1 dX7_reported_2 rfl ?_
  refine x_iconst C (pc := 3) (v := 0) dX7_reported_3 (by decide) ?_
  refine x_cViR C (pc := 4) (st := [.ref (z + k)]) (c_X7_ofd l D z cI cZ cP cR N F k pf pm pn spt wrg rd a ps sl sv sd wy pa nu n kk cw c0 wi rl sp pd od p 0 hM (by omega) hA (by omega) (by omega)) (cwV 2 C.2.2.2.2.1 gX7_reported_X7_of rfl rfl rfl hd_X7_of ⟨Nat.le_of_ble_eq_true rfl, Nat.le_of_ble_eq_true rfl⟩) (by omega) hM.ob rfl rfl rfl (Nat.le_of_ble_eq_true rfl) dX7_reported_4 ⟨Nat.le_of_ble_eq_true rfl, Nat.le_of_ble_eq_true rfl⟩ ?_
  refine x_aload_n C (pc := 7) 0 dX7_reported_7 rfl ?_
  refine x_iload_n C (pc := 8) 1 dX7_reported_8 rfl ?_
  refine x_iconst C (pc := 9) (v := 1) dX7_reported_9 (by decide) ?_
  refine x_cViR C (pc := 10) (st := [.int (pd p 0), .ref (z + k)]) (c_X7_ofd l D z cI cZ cP cR N F k pf pm pn spt wrg rd a ps sl sv sd wy pa nu n kk cw c0 wi rl sp pd od p 1 hM (by omega) hA (by omega) (by omega)) (cwV 2 C.2.2.2.2.1 gX7_reported_X7_of rfl rfl rfl hd_X7_of ⟨Nat.le_of_ble_eq_true rfl, Nat.le_of_ble_eq_true rfl⟩) (by omega) hM.ob rfl rfl rfl (Nat.le_of_ble_eq_true rfl) dX7_reported_10 ⟨Nat.le_of_ble_eq_true rfl, Nat.le_of_ble_eq_true rfl⟩ ?_
  refine x_isub C (pc := 13) (v := (pd p 0) - (pd p 1)) dX7_reported_13 rfl ?_
  refine x_cViR C (pc := 14) (st := []) (c_X7_forWinner l D z cI cZ cP cR N F k pf pm pn spt wrg rd a ps sl sv sd wy pa nu n kk cw c0 wi rl sp pd od ((pd p 0) - (pd p 1)) hM (by omega) hA ) (cwV 1 C.2.2.2.2.1 gX7_reported_X7_forWinner rfl rfl rfl hd_X7_forWinner ⟨Nat.le_of_ble_eq_true rfl, Nat.le_of_ble_eq_true rfl⟩) (by omega) hM.ob rfl rfl rfl (Nat.le_of_ble_eq_true rfl) dX7_reported_14 ⟨Nat.le_of_ble_eq_true rfl, Nat.le_of_ble_eq_true rfl⟩ ?_
  exact x_iret C hR0 rfl (Nat.le_of_ble_eq_true rfl) (Nat.le_of_ble_eq_true rfl) ⟨(fw_rep wi (pd p)), rfl, rfl⟩ dX7_reported_17
set_option maxHeartbeats 4000000 in
set_option maxRecDepth 100000 in
theorem c_X7_found (l : Launch) (D : va_G) (z : Nat) (cI cZ cP cR : ClassId) (N : Nat) (F : Nat → va_E) (k : Nat) (pf pm pn spt wrg rd : Int32) (a ps sl sv sd wy pa nu : Nat → Int32) (n kk cw c0 : Nat) (wi rl sp : Int32) (pd : Nat → Nat → Int32) (od : Nat → Int32) (p : Nat) (hM : isMod z cI cZ F k pf pm pn spt wrg rd a ps sl sv sd wy pa nu) (hk : k + 9 ≤ N) (hA : mA a n kk cw c0 wi rl sp pd od) (hp : p < n) : gMi l yX7_found wsX7_found ({ frames := 3, cells := 0, slots := 0, locals := 65 }) D z cI cZ cP cR N F [.ref (z + k), .int (nI p)] (gRes (fouF wi (pd p)) N (fun F2 => F2 = F)) 0 0 := by
  refine gMi.of (cc := cX7_found) (maxL := 2) (ret := (some .int)) (by decide) rfl (Nat.le_of_ble_eq_true rfl) [(0, .ref (z + k)), (1, .int (nI p))] rfl ?_
  intro pg ev sg mg bel me cg C hR0
  obtain ⟨ha0, ha1, ha2, ha3, ha4, hpd, hpl, hn, hkk, hcw, hcnt, hc0, hsp, hrl, hwi, hod⟩ := id hA
  have h2n := two_lt hn
  refine x_aload_n C (pc := 0) 0 dX7_found_0 rfl ?_
  refine x_aload_n C (pc := 1) 0 dX7_found_1 rfl ?_
  refine x_iload_n C (pc := 2) 1 dX7_found_2 rfl ?_
  refine x_iconst C (pc := 3) (v := 3) dX7_found_3 (by decide) ?_
  refine x_cViR C (pc := 4) (st := [.ref (z + k)]) (c_X7_ofd l D z cI cZ cP cR N F k pf pm pn spt wrg rd a ps sl sv sd wy pa nu n kk cw c0 wi rl sp pd od p 3 hM (by omega) hA (by omega) (by omega)) (cwV 2 C.2.2.2.2.1 gX7_found_X7_of rfl rfl rfl hd_X7_of ⟨Nat.le_of_ble_eq_true rfl, Nat.le_of_ble_eq_true rfl⟩) (by omega) hM.ob rfl rfl rfl (Nat.le_of_ble_eq_true rfl) dX7_found_4 ⟨Nat.le_of_ble_eq_true rfl, Nat.le_of_ble_eq_true rfl⟩ ?_
  refine x_aload_n C (pc := 7) 0 dX7_found_7 rfl ?_
  refine x_iload_n C (pc := 8) 1 dX7_found_8 rfl ?_
  refine x_iconst C (pc := 9) (v := 4) dX7_found_9 (by decide) ?_
  refine x_cViR C (pc := 10) (st := [.int (pd p 3), .ref (z + k)]) (c_X7_ofd l D z cI cZ cP cR N F k pf pm pn spt wrg rd a ps sl sv sd wy pa nu n kk cw c0 wi rl sp pd od p 4 hM (by omega) hA (by omega) (by omega)) (cwV 2 C.2.2.2.2.1 gX7_found_X7_of rfl rfl rfl hd_X7_of ⟨Nat.le_of_ble_eq_true rfl, Nat.le_of_ble_eq_true rfl⟩) (by omega) hM.ob rfl rfl rfl (Nat.le_of_ble_eq_true rfl) dX7_found_10 ⟨Nat.le_of_ble_eq_true rfl, Nat.le_of_ble_eq_true rfl⟩ ?_
  refine x_isub C (pc := 13) (v := (pd p 3) - (pd p 4)) dX7_found_13 rfl ?_
  refine x_cViR C (pc := 14) (st := []) (c_X7_forWinner l D z cI cZ cP cR N F k pf pm pn spt wrg rd a ps sl sv sd wy pa nu n kk cw c0 wi rl sp pd od ((pd p 3) - (pd p 4)) hM (by omega) hA ) (cwV 1 C.2.2.2.2.1 gX7_found_X7_forWinner rfl rfl rfl hd_X7_forWinner ⟨Nat.le_of_ble_eq_true rfl, Nat.le_of_ble_eq_true rfl⟩) (by omega) hM.ob rfl rfl rfl (Nat.le_of_ble_eq_true rfl) dX7_found_14 ⟨Nat.le_of_ble_eq_true rfl, Nat.le_of_ble_eq_true rfl⟩ ?_
  exact x_iret C hR0 rfl (Nat.le_of_ble_eq_true rfl) (Nat.le_of_ble_eq_true rfl) ⟨(fw_fou wi (pd p)), rfl, rfl⟩ dX7_found_17
set_option maxHeartbeats 4000000 in
set_option maxRecDepth 100000 in
theorem c_X7_swing (l : Launch) (D : va_G) (z : Nat) (cI cZ cP cR : ClassId) (N : Nat) (F : Nat → va_E) (k : Nat) (pf pm pn spt wrg rd : Int32) (a ps sl sv sd wy pa nu : Nat → Int32) (n kk cw c0 : Nat) (wi rl sp : Int32) (pd : Nat → Nat → Int32) (od : Nat → Int32) (p : Nat) (hM : isMod z cI cZ F k pf pm pn spt wrg rd a ps sl sv sd wy pa nu) (hk : k + 9 ≤ N) (hA : mA a n kk cw c0 wi rl sp pd od) (hp : p < n) : gMi l yX7_swing wsX7_swing ({ frames := 4, cells := 0, slots := 0, locals := 86 }) D z cI cZ cP cR N F [.ref (z + k), .int (nI p)] (gRes (swF wi (pd p)) N (fun F2 => F2 = F)) 0 0 := by
  refine gMi.of (cc := cX7_swing) (maxL := 2) (ret := (some .int)) (by decide) rfl (Nat.le_of_ble_eq_true rfl) [(0, .ref (z + k)), (1, .int (nI p))] rfl ?_
  intro pg ev sg mg bel me cg C hR0
  obtain ⟨ha0, ha1, ha2, ha3, ha4, hpd, hpl, hn, hkk, hcw, hcnt, hc0, hsp, hrl, hwi, hod⟩ := id hA
  have h2n := two_lt hn
  refine x_aload_n C (pc := 0) 0 dX7_swing_0 rfl ?_
  refine x_iload_n C (pc := 1) 1 dX7_swing_1 rfl ?_
  refine x_cViR C (pc := 2) (st := []) (c_X7_reported l D z cI cZ cP cR N F k pf pm pn spt wrg rd a ps sl sv sd wy pa nu n kk cw c0 wi rl sp pd od p hM (by omega) hA (by omega)) (cwV 1 C.2.2.2.2.1 gX7_swing_X7_reported rfl rfl rfl hd_X7_reported ⟨Nat.le_of_ble_eq_true rfl, Nat.le_of_ble_eq_true rfl⟩) (by omega) hM.ob rfl rfl rfl (Nat.le_of_ble_eq_true rfl) dX7_swing_2 ⟨Nat.le_of_ble_eq_true rfl, Nat.le_of_ble_eq_true rfl⟩ ?_
  refine x_aload_n C (pc := 5) 0 dX7_swing_5 rfl ?_
  refine x_iload_n C (pc := 6) 1 dX7_swing_6 rfl ?_
  refine x_cViR C (pc := 7) (st := [.int (repF wi (pd p))]) (c_X7_size l D z cI cZ cP cR N F k pf pm pn spt wrg rd a ps sl sv sd wy pa nu n kk cw c0 wi rl sp pd od p hM (by omega) hA (by omega)) (cwV 1 C.2.2.2.2.1 gX7_swing_X7_size rfl rfl rfl hd_X7_size ⟨Nat.le_of_ble_eq_true rfl, Nat.le_of_ble_eq_true rfl⟩) (by omega) hM.ob rfl rfl rfl (Nat.le_of_ble_eq_true rfl) dX7_swing_7 ⟨Nat.le_of_ble_eq_true rfl, Nat.le_of_ble_eq_true rfl⟩ ?_
  refine x_iadd C (pc := 10) (v := (repF wi (pd p)) + (sizF (pd p))) dX7_swing_10 rfl ?_
  exact x_iret C hR0 rfl (Nat.le_of_ble_eq_true rfl) (Nat.le_of_ble_eq_true rfl) ⟨rfl, rfl, rfl⟩ dX7_swing_11
set_option maxHeartbeats 4000000 in
set_option maxRecDepth 100000 in
theorem c_X7_seen (l : Launch) (D : va_G) (z : Nat) (cI cZ cP cR : ClassId) (N : Nat) (F : Nat → va_E) (k : Nat) (pf pm pn spt wrg rd : Int32) (a ps sl sv sd wy pa nu : Nat → Int32) (n kk cw c0 : Nat) (wi rl sp : Int32) (pd : Nat → Nat → Int32) (od : Nat → Int32) (p : Nat) (ar : Bool) (hM : isMod z cI cZ F k pf pm pn spt wrg rd a ps sl sv sd wy pa nu) (hk : k + 9 ≤ N) (hA : mA a n kk cw c0 wi rl sp pd od) (hp : p < n) : gMi l yX7_seen wsX7_seen ({ frames := 4, cells := 0, slots := 0, locals := 86 }) D z cI cZ cP cR N F [.ref (z + k), .int (nI p), .int (bz ar)] (gRes (seF ar wi pd cw p) N (fun F2 => F2 = F)) 0 0 := by
  refine gMi.of (cc := cX7_seen) (maxL := 3) (ret := (some .int)) (by decide) rfl (Nat.le_of_ble_eq_true rfl) [(0, .ref (z + k)), (1, .int (nI p)), (2, .int (bz ar))] rfl ?_
  intro pg ev sg mg bel me cg C hR0
  obtain ⟨ha0, ha1, ha2, ha3, ha4, hpd, hpl, hn, hkk, hcw, hcnt, hc0, hsp, hrl, hwi, hod⟩ := id hA
  have h2n := two_lt hn
  refine x_iload_n C (pc := 0) 2 dX7_seen_0 rfl ?_
  refine x_bz_eq C (pc := 1) (tgt := 20) dX7_seen_1 (by decide) (fun c_1 => ?_) (fun c_1 => ?_)
  · refine x_aload_n C (pc := 20) 0 dX7_seen_20 rfl ?_
    refine x_iload_n C (pc := 21) 1 dX7_seen_21 rfl ?_
    refine x_cViR C (pc := 22) (st := []) (c_X7_found l D z cI cZ cP cR N F k pf pm pn spt wrg rd a ps sl sv sd wy pa nu n kk cw c0 wi rl sp pd od p hM (by omega) hA (by omega)) (cwV 1 C.2.2.2.2.1 gX7_seen_X7_found rfl rfl rfl hd_X7_found ⟨Nat.le_of_ble_eq_true rfl, Nat.le_of_ble_eq_true rfl⟩) (by omega) hM.ob rfl rfl rfl (Nat.le_of_ble_eq_true rfl) dX7_seen_22 ⟨Nat.le_of_ble_eq_true rfl, Nat.le_of_ble_eq_true rfl⟩ ?_
    exact x_iret C hR0 rfl (Nat.le_of_ble_eq_true rfl) (Nat.le_of_ble_eq_true rfl) ⟨(by unfold seF; first | (rw [c_1, c_9]; rfl) | (rw [c_1]; rfl)), rfl, rfl⟩ dX7_seen_25
  refine x_aload_n C (pc := 4) 0 dX7_seen_4 rfl ?_
  refine x_iload_n C (pc := 5) 1 dX7_seen_5 rfl ?_
  refine x_cViR C (pc := 6) (st := []) (c_X7_isCounted l D z cI cZ cP cR N F k pf pm pn spt wrg rd a ps sl sv sd wy pa nu n kk cw c0 wi rl sp pd od p hM (by omega) hA (by omega)) (cwV 1 C.2.2.2.2.1 gX7_seen_X7_isCounted rfl rfl rfl hd_X7_isCounted ⟨Nat.le_of_ble_eq_true rfl, Nat.le_of_ble_eq_true rfl⟩) (by omega) hM.ob rfl rfl rfl (Nat.le_of_ble_eq_true rfl) dX7_seen_6 ⟨Nat.le_of_ble_eq_true rfl, Nat.le_of_ble_eq_true rfl⟩ ?_
  refine x_bz_ne C (pc := 9) (tgt := 20) dX7_seen_9 (by decide) (fun c_9 => ?_) (fun c_9 => ?_)
  · refine x_aload_n C (pc := 20) 0 dX7_seen_20 rfl ?_
    refine x_iload_n C (pc := 21) 1 dX7_seen_21 rfl ?_
    refine x_cViR C (pc := 22) (st := []) (c_X7_found l D z cI cZ cP cR N F k pf pm pn spt wrg rd a ps sl sv sd wy pa nu n kk cw c0 wi rl sp pd od p hM (by omega) hA (by omega)) (cwV 1 C.2.2.2.2.1 gX7_seen_X7_found rfl rfl rfl hd_X7_found ⟨Nat.le_of_ble_eq_true rfl, Nat.le_of_ble_eq_true rfl⟩) (by omega) hM.ob rfl rfl rfl (Nat.le_of_ble_eq_true rfl) dX7_seen_22 ⟨Nat.le_of_ble_eq_true rfl, Nat.le_of_ble_eq_true rfl⟩ ?_
    exact x_iret C hR0 rfl (Nat.le_of_ble_eq_true rfl) (Nat.le_of_ble_eq_true rfl) ⟨(by unfold seF; first | (rw [c_1, c_9]; rfl) | (rw [c_1]; rfl)), rfl, rfl⟩ dX7_seen_25
  refine x_aload_n C (pc := 12) 0 dX7_seen_12 rfl ?_
  refine x_iload_n C (pc := 13) 1 dX7_seen_13 rfl ?_
  refine x_cViR C (pc := 14) (st := []) (c_X7_reported l D z cI cZ cP cR N F k pf pm pn spt wrg rd a ps sl sv sd wy pa nu n kk cw c0 wi rl sp pd od p hM (by omega) hA (by omega)) (cwV 1 C.2.2.2.2.1 gX7_seen_X7_reported rfl rfl rfl hd_X7_reported ⟨Nat.le_of_ble_eq_true rfl, Nat.le_of_ble_eq_true rfl⟩) (by omega) hM.ob rfl rfl rfl (Nat.le_of_ble_eq_true rfl) dX7_seen_14 ⟨Nat.le_of_ble_eq_true rfl, Nat.le_of_ble_eq_true rfl⟩ ?_
  refine x_goto C (pc := 17) (tgt := 25) dX7_seen_17 (by decide) ?_
  exact x_iret C hR0 rfl (Nat.le_of_ble_eq_true rfl) (Nat.le_of_ble_eq_true rfl) ⟨(by unfold seF; rw [c_1, c_9]; rfl), rfl, rfl⟩ dX7_seen_25
theorem fl_X7_lead_7 : Cond.fieldLink RX7 7 "PileRecountModel" "at" "[I" ∈ wsX7_lead := by decide +kernel
theorem hn_X7_lead_X7 : ∀ w ∈ wsX70, w ∈ wsX7_lead := fun _ h => List.mem_cons_of_mem _ (List.mem_append_right _ h)
set_option maxHeartbeats 4000000 in
set_option maxRecDepth 100000 in
theorem c_X7_lead (l : Launch) (D : va_G) (z : Nat) (cI cZ cP cR : ClassId) (N : Nat) (F : Nat → va_E) (k : Nat) (pf pm pn spt wrg rd : Int32) (a ps sl sv sd wy pa nu : Nat → Int32) (n kk cw c0 : Nat) (wi rl sp : Int32) (pd : Nat → Nat → Int32) (od : Nat → Int32) (w : Nat) (ar : Bool) (hM : isMod z cI cZ F k pf pm pn spt wrg rd a ps sl sv sd wy pa nu) (hk : k + 9 ≤ N) (hA : mA a n kk cw c0 wi rl sp pd od) (hw : w < 2 ^ n) : gMi l yX7_lead wsX7_lead ({ frames := 5, cells := 0, slots := 0, locals := 108 }) D z cI cZ cP cR N F [.ref (z + k), .int (nI w), .int (bz ar)] (gRes (leadF wi pd n (fsN ar w cw)) N (fun F2 => F2 = F)) 0 0 := by
  refine gMi.of (cc := cX7_lead) (maxL := 5) (ret := (some .int)) (by decide) rfl (Nat.le_of_ble_eq_true rfl) [(0, .ref (z + k)), (1, .int (nI w)), (2, .int (bz ar))] rfl ?_
  intro pg ev sg mg bel me cg C hR0
  obtain ⟨ha0, ha1, ha2, ha3, ha4, hpd, hpl, hn, hkk, hcw, hcnt, hc0, hsp, hrl, hwi, hod⟩ := id hA
  have h2n := two_lt hn
  refine x_iconst C (pc := 0) (v := 0) dX7_lead_0 (by decide) ?_
  refine x_istore_n C (pc := 1) [(3, .int 0), (0, .ref (z + k)), (1, .int (nI w)), (2, .int (bz ar))] dX7_lead_1 (by decide) rfl ?_
  refine x_iconst C (pc := 2) (v := 0) dX7_lead_2 (by decide) ?_
  refine x_istore C (pc := 3) [(4, .int 0), (3, .int 0), (0, .ref (z + k)), (1, .int (nI w)), (2, .int (bz ar))] dX7_lead_3 (by decide) rfl ?_
  refine x_sub [2, 3, 4, 1, 0] _ rfl ?_
  refine x_loop2 (A1 := Nat) (A2 := Int32) (pc := 5) (st := []) (fun j acc => n - j) (fun j acc => (j ≤ n) ∧ (acc = gSum (fun i => if (fsN ar w cw).testBit i = true then fouF wi (pd i) else repF wi (pd i)) j)) (fun j acc => N) (fun j acc => F) (fun j acc => 0) (fun j acc => 0) (fun j acc => [(0, .ref (z + k)), (1, .int (nI w)), (2, .int (bz ar)), (3, .int acc), (4, .int (nI j))]) 0 0 ⟨(Nat.zero_le _), rfl⟩ rfl rfl rfl rfl rfl ?_
  rintro j acc ⟨hj, hacc⟩ ih_5
  try dsimp only at ih_5
  refine x_iload C (pc := 5) 4 dX7_lead_5 rfl ?_
  refine x_aload_n C (pc := 7) 0 dX7_lead_7 rfl ?_
  refine x_get C (pc := 8) (q := k) (v := .ref (z + (k + 1))) (ci := 7) rfl hn_X7_lead_X7 0 (by decide) fl_X7_lead_7 rfl (by omega) hM.ob rfl dX7_lead_8 ?_
  refine x_iconst C (pc := 11) (v := 0) dX7_lead_11 (by decide) ?_
  refine x_ialdE C (pc := 12) (q := k + 1) (j := 0) (f := a) (by omega) hM.a rfl (by omega) (by decide) dX7_lead_12 ?_
  refine x_eqi hA.1 ?_
  refine x_icmpN_ge C (a := j) (b := n) (pc := 13) (tgt := 50) (by omega) (by omega) dX7_lead_13 (by decide) (fun c_13 => ?_) (fun c_13 => ?_)
  · refine x_iload_n C (pc := 50) 3 dX7_lead_50 rfl ?_
    exact x_iret C hR0 rfl (Nat.le_of_ble_eq_true rfl) (Nat.le_of_ble_eq_true rfl) ⟨(by rw [hacc, show j = n by omega]; rfl), rfl, rfl⟩ dX7_lead_51
  refine x_iload_n C (pc := 16) 3 dX7_lead_16 rfl ?_
  refine x_iload_n C (pc := 17) 1 dX7_lead_17 rfl ?_
  refine x_iload C (pc := 18) 4 dX7_lead_18 rfl ?_
  refine x_cSiR C (pc := 20) (st := [.int acc]) (c_X7_has l D z cI cZ cP cR N F w j (by omega) (by omega)) (va_cwS 2 C.2.2.2.2.1 gX7_lead_X7_has rfl rfl rfl hd_X7_has.2 ⟨Nat.le_of_ble_eq_true rfl, Nat.le_of_ble_eq_true rfl⟩) rfl rfl (Nat.le_of_ble_eq_true rfl) dX7_lead_20 ⟨Nat.le_of_ble_eq_true rfl, Nat.le_of_ble_eq_true rfl⟩ ?_
  refine x_bz_eq C (pc := 23) (tgt := 36) dX7_lead_23 (by decide) (fun c_23 => ?_) (fun c_23 => ?_)
  · refine x_aload_n C (pc := 36) 0 dX7_lead_36 rfl ?_
    refine x_iload C (pc := 37) 4 dX7_lead_37 rfl ?_
    refine x_cViR C (pc := 39) (st := [.int acc]) (c_X7_reported l D z cI cZ cP cR N F k pf pm pn spt wrg rd a ps sl sv sd wy pa nu n kk cw c0 wi rl sp pd od j hM (by omega) hA (by omega)) (cwV 1 C.2.2.2.2.1 gX7_lead_X7_reported rfl rfl rfl hd_X7_reported ⟨Nat.le_of_ble_eq_true rfl, Nat.le_of_ble_eq_true rfl⟩) (by omega) hM.ob rfl rfl rfl (Nat.le_of_ble_eq_true rfl) dX7_lead_39 ⟨Nat.le_of_ble_eq_true rfl, Nat.le_of_ble_eq_true rfl⟩ ?_
    refine x_iadd C (pc := 42) (v := acc + (repF wi (pd j))) dX7_lead_42 rfl ?_
    refine x_istore_n C (pc := 43) [(3, .int (acc + (repF wi (pd j)))), (0, .ref (z + k)), (1, .int (nI w)), (2, .int (bz ar)), (4, .int (nI j))] dX7_lead_43 (by decide) rfl ?_
    refine x_iinc C (pc := 44) 4 [(4, .int (nI (j + 1))), (3, .int (acc + (repF wi (pd j)))), (0, .ref (z + k)), (1, .int (nI w)), (2, .int (bz ar))] dX7_lead_44 rfl (nI_inc j) (by decide) rfl ?_
    refine x_goto C (pc := 47) (tgt := 5) dX7_lead_47 (by decide) ?_
    exact x_sub [2, 3, 4, 1, 0] _ rfl (ih_5 (j + 1) (acc + (repF wi (pd j))) ⟨(by omega), (by rw [hacc]; show _ = gSum _ j + _; dsimp only; first | rw [se_t c_23] | rw [se_f c_23])⟩ (by omega))
  refine x_aload_n C (pc := 26) 0 dX7_lead_26 rfl ?_
  refine x_iload C (pc := 27) 4 dX7_lead_27 rfl ?_
  refine x_iload_n C (pc := 29) 2 dX7_lead_29 rfl ?_
  refine x_cViR C (pc := 30) (st := [.int acc]) (c_X7_seen l D z cI cZ cP cR N F k pf pm pn spt wrg rd a ps sl sv sd wy pa nu n kk cw c0 wi rl sp pd od j ar hM (by omega) hA (by omega)) (cwV 2 C.2.2.2.2.1 gX7_lead_X7_seen rfl rfl rfl hd_X7_seen ⟨Nat.le_of_ble_eq_true rfl, Nat.le_of_ble_eq_true rfl⟩) (by omega) hM.ob rfl rfl rfl (Nat.le_of_ble_eq_true rfl) dX7_lead_30 ⟨Nat.le_of_ble_eq_true rfl, Nat.le_of_ble_eq_true rfl⟩ ?_
  refine x_goto C (pc := 33) (tgt := 42) dX7_lead_33 (by decide) ?_
  refine x_iadd C (pc := 42) (v := acc + (seF ar wi pd cw j)) dX7_lead_42 rfl ?_
  refine x_istore_n C (pc := 43) [(3, .int (acc + (seF ar wi pd cw j))), (0, .ref (z + k)), (1, .int (nI w)), (2, .int (bz ar)), (4, .int (nI j))] dX7_lead_43 (by decide) rfl ?_
  refine x_iinc C (pc := 44) 4 [(4, .int (nI (j + 1))), (3, .int (acc + (seF ar wi pd cw j))), (0, .ref (z + k)), (1, .int (nI w)), (2, .int (bz ar))] dX7_lead_44 rfl (nI_inc j) (by decide) rfl ?_
  refine x_goto C (pc := 47) (tgt := 5) dX7_lead_47 (by decide) ?_
  exact x_sub [2, 3, 4, 1, 0] _ rfl (ih_5 (j + 1) (acc + (seF ar wi pd cw j)) ⟨(by omega), (by rw [hacc]; show _ = gSum _ j + _; dsimp only; first | rw [se_t c_23] | rw [se_f c_23])⟩ (by omega))
theorem fl_X7_worse_7 : Cond.fieldLink RX7 7 "PileRecountModel" "at" "[I" ∈ wsX7_worse := by decide +kernel
theorem hn_X7_worse_X7 : ∀ w ∈ wsX70, w ∈ wsX7_worse := fun _ h => List.mem_cons_of_mem _ (List.mem_append_right _ h)
set_option maxHeartbeats 4000000 in
set_option maxRecDepth 100000 in
theorem c_X7_worse (l : Launch) (D : va_G) (z : Nat) (cI cZ cP cR : ClassId) (N : Nat) (F : Nat → va_E) (k : Nat) (pf pm pn spt wrg rd : Int32) (a ps sl sv sd wy pa nu : Nat → Int32) (n kk cw c0 : Nat) (wi rl sp : Int32) (pd : Nat → Nat → Int32) (od : Nat → Int32) (w : Nat) (ar : Bool) (hM : isMod z cI cZ F k pf pm pn spt wrg rd a ps sl sv sd wy pa nu) (hk : k + 9 ≤ N) (hA : mA a n kk cw c0 wi rl sp pd od) (hw : w < 2 ^ n) : gMi l yX7_worse wsX7_worse ({ frames := 5, cells := 0, slots := 0, locals := 108 }) D z cI cZ cP cR N F [.ref (z + k), .int (nI w), .int (bz ar)] (gRes (nI (worF wi pd (fsN ar w cw) n)) N (fun F2 => F2 = F)) 0 0 := by
  refine gMi.of (cc := cX7_worse) (maxL := 5) (ret := (some .int)) (by decide) rfl (Nat.le_of_ble_eq_true rfl) [(0, .ref (z + k)), (1, .int (nI w)), (2, .int (bz ar))] rfl ?_
  intro pg ev sg mg bel me cg C hR0
  obtain ⟨ha0, ha1, ha2, ha3, ha4, hpd, hpl, hn, hkk, hcw, hcnt, hc0, hsp, hrl, hwi, hod⟩ := id hA
  have h2n := two_lt hn
  refine x_iconst C (pc := 0) (v := 0) dX7_worse_0 (by decide) ?_
  refine x_istore_n C (pc := 1) [(3, .int 0), (0, .ref (z + k)), (1, .int (nI w)), (2, .int (bz ar))] dX7_worse_1 (by decide) rfl ?_
  refine x_iconst C (pc := 2) (v := 0) dX7_worse_2 (by decide) ?_
  refine x_istore C (pc := 3) [(4, .int 0), (3, .int 0), (0, .ref (z + k)), (1, .int (nI w)), (2, .int (bz ar))] dX7_worse_3 (by decide) rfl ?_
  refine x_sub [2, 3, 4, 1, 0] _ rfl ?_
  refine x_loop2 (A1 := Nat) (A2 := Nat) (pc := 5) (st := []) (fun j acc => n - j) (fun j acc => (j ≤ n) ∧ (acc = worF wi pd (fsN ar w cw) j)) (fun j acc => N) (fun j acc => F) (fun j acc => 0) (fun j acc => 0) (fun j acc => [(0, .ref (z + k)), (1, .int (nI w)), (2, .int (bz ar)), (3, .int (nI acc)), (4, .int (nI j))]) 0 0 ⟨(Nat.zero_le _), rfl⟩ rfl rfl rfl rfl rfl ?_
  rintro j acc ⟨hj, hacc⟩ ih_5
  try dsimp only at ih_5
  refine x_iload C (pc := 5) 4 dX7_worse_5 rfl ?_
  refine x_aload_n C (pc := 7) 0 dX7_worse_7 rfl ?_
  refine x_get C (pc := 8) (q := k) (v := .ref (z + (k + 1))) (ci := 7) rfl hn_X7_worse_X7 0 (by decide) fl_X7_worse_7 rfl (by omega) hM.ob rfl dX7_worse_8 ?_
  refine x_iconst C (pc := 11) (v := 0) dX7_worse_11 (by decide) ?_
  refine x_ialdE C (pc := 12) (q := k + 1) (j := 0) (f := a) (by omega) hM.a rfl (by omega) (by decide) dX7_worse_12 ?_
  refine x_eqi hA.1 ?_
  refine x_icmpN_ge C (a := j) (b := n) (pc := 13) (tgt := 55) (by omega) (by omega) dX7_worse_13 (by decide) (fun c_13 => ?_) (fun c_13 => ?_)
  · refine x_iload_n C (pc := 55) 3 dX7_worse_55 rfl ?_
    exact x_iret C hR0 rfl (Nat.le_of_ble_eq_true rfl) (Nat.le_of_ble_eq_true rfl) ⟨(by rw [hacc, show j = n by omega]), rfl, rfl⟩ dX7_worse_56
  refine x_iload_n C (pc := 16) 3 dX7_worse_16 rfl ?_
  refine x_iload_n C (pc := 17) 1 dX7_worse_17 rfl ?_
  refine x_iload C (pc := 18) 4 dX7_worse_18 rfl ?_
  refine x_cSiR C (pc := 20) (st := [.int (nI acc)]) (c_X7_has l D z cI cZ cP cR N F w j (by omega) (by omega)) (va_cwS 2 C.2.2.2.2.1 gX7_worse_X7_has rfl rfl rfl hd_X7_has.2 ⟨Nat.le_of_ble_eq_true rfl, Nat.le_of_ble_eq_true rfl⟩) rfl rfl (Nat.le_of_ble_eq_true rfl) dX7_worse_20 ⟨Nat.le_of_ble_eq_true rfl, Nat.le_of_ble_eq_true rfl⟩ ?_
  refine x_bz_eq C (pc := 23) (tgt := 46) dX7_worse_23 (by decide) (fun c_23 => ?_) (fun c_23 => ?_)
  · refine x_iconst C (pc := 46) (v := 0) dX7_worse_46 (by decide) ?_
    refine x_iadd C (pc := 47) (v := nI (acc + 0)) dX7_worse_47 (nI_add acc 0) ?_
    refine x_istore_n C (pc := 48) [(3, .int (nI (acc + 0))), (0, .ref (z + k)), (1, .int (nI w)), (2, .int (bz ar)), (4, .int (nI j))] dX7_worse_48 (by decide) rfl ?_
    refine x_iinc C (pc := 49) 4 [(4, .int (nI (j + 1))), (3, .int (nI (acc + 0))), (0, .ref (z + k)), (1, .int (nI w)), (2, .int (bz ar))] dX7_worse_49 rfl (nI_inc j) (by decide) rfl ?_
    refine x_goto C (pc := 52) (tgt := 5) dX7_worse_52 (by decide) ?_
    exact x_sub [2, 3, 4, 1, 0] _ rfl (ih_5 (j + 1) (acc + 0) ⟨(by omega), (by rw [hacc]; show _ = worF wi pd _ j + _; first | rw [wo_t c_23 c_39] | rw [wo_n c_23 c_39] | rw [wo_f c_23])⟩ (by omega))
  refine x_aload_n C (pc := 26) 0 dX7_worse_26 rfl ?_
  refine x_iload C (pc := 27) 4 dX7_worse_27 rfl ?_
  refine x_iload_n C (pc := 29) 2 dX7_worse_29 rfl ?_
  refine x_cViR C (pc := 30) (st := [.int (nI acc)]) (c_X7_seen l D z cI cZ cP cR N F k pf pm pn spt wrg rd a ps sl sv sd wy pa nu n kk cw c0 wi rl sp pd od j ar hM (by omega) hA (by omega)) (cwV 2 C.2.2.2.2.1 gX7_worse_X7_seen rfl rfl rfl hd_X7_seen ⟨Nat.le_of_ble_eq_true rfl, Nat.le_of_ble_eq_true rfl⟩) (by omega) hM.ob rfl rfl rfl (Nat.le_of_ble_eq_true rfl) dX7_worse_30 ⟨Nat.le_of_ble_eq_true rfl, Nat.le_of_ble_eq_true rfl⟩ ?_
  refine x_aload_n C (pc := 33) 0 dX7_worse_33 rfl ?_
  refine x_iload C (pc := 34) 4 dX7_worse_34 rfl ?_
  refine x_cViR C (pc := 36) (st := [.int (seF ar wi pd cw j), .int (nI acc)]) (c_X7_reported l D z cI cZ cP cR N F k pf pm pn spt wrg rd a ps sl sv sd wy pa nu n kk cw c0 wi rl sp pd od j hM (by omega) hA (by omega)) (cwV 1 C.2.2.2.2.1 gX7_worse_X7_reported rfl rfl rfl hd_X7_reported ⟨Nat.le_of_ble_eq_true rfl, Nat.le_of_ble_eq_true rfl⟩) (by omega) hM.ob rfl rfl rfl (Nat.le_of_ble_eq_true rfl) dX7_worse_36 ⟨Nat.le_of_ble_eq_true rfl, Nat.le_of_ble_eq_true rfl⟩ ?_
  refine x_icmp_ge C (pc := 39) (tgt := 46) dX7_worse_39 (by decide) (fun c_39 => ?_) (fun c_39 => ?_)
  · refine x_iconst C (pc := 46) (v := 0) dX7_worse_46 (by decide) ?_
    refine x_iadd C (pc := 47) (v := nI (acc + 0)) dX7_worse_47 (nI_add acc 0) ?_
    refine x_istore_n C (pc := 48) [(3, .int (nI (acc + 0))), (0, .ref (z + k)), (1, .int (nI w)), (2, .int (bz ar)), (4, .int (nI j))] dX7_worse_48 (by decide) rfl ?_
    refine x_iinc C (pc := 49) 4 [(4, .int (nI (j + 1))), (3, .int (nI (acc + 0))), (0, .ref (z + k)), (1, .int (nI w)), (2, .int (bz ar))] dX7_worse_49 rfl (nI_inc j) (by decide) rfl ?_
    refine x_goto C (pc := 52) (tgt := 5) dX7_worse_52 (by decide) ?_
    exact x_sub [2, 3, 4, 1, 0] _ rfl (ih_5 (j + 1) (acc + 0) ⟨(by omega), (by rw [hacc]; show _ = worF wi pd _ j + _; first | rw [wo_t c_23 c_39] | rw [wo_n c_23 c_39] | rw [wo_f c_23])⟩ (by omega))
  refine x_iconst C (pc := 42) (v := 1) dX7_worse_42 (by decide) ?_
  refine x_goto C (pc := 43) (tgt := 47) dX7_worse_43 (by decide) ?_
  refine x_iadd C (pc := 47) (v := nI (acc + 1)) dX7_worse_47 (nI_add acc 1) ?_
  refine x_istore_n C (pc := 48) [(3, .int (nI (acc + 1))), (0, .ref (z + k)), (1, .int (nI w)), (2, .int (bz ar)), (4, .int (nI j))] dX7_worse_48 (by decide) rfl ?_
  refine x_iinc C (pc := 49) 4 [(4, .int (nI (j + 1))), (3, .int (nI (acc + 1))), (0, .ref (z + k)), (1, .int (nI w)), (2, .int (bz ar))] dX7_worse_49 rfl (nI_inc j) (by decide) rfl ?_
  refine x_goto C (pc := 52) (tgt := 5) dX7_worse_52 (by decide) ?_
  exact x_sub [2, 3, 4, 1, 0] _ rfl (ih_5 (j + 1) (acc + 1) ⟨(by omega), (by rw [hacc]; show _ = worF wi pd _ j + _; first | rw [wo_t c_23 c_39] | rw [wo_n c_23 c_39] | rw [wo_f c_23])⟩ (by omega))
theorem fl_X7_greatest_7 : Cond.fieldLink RX7 7 "PileRecountModel" "at" "[I" ∈ wsX7_greatest := by decide +kernel
theorem hn_X7_greatest_X7 : ∀ w ∈ wsX70, w ∈ wsX7_greatest := fun _ h => List.mem_cons_of_mem _ (List.mem_append_right _ h)
set_option maxHeartbeats 4000000 in
set_option maxRecDepth 100000 in
theorem c_X7_greatest (l : Launch) (D : va_G) (z : Nat) (cI cZ cP cR : ClassId) (N : Nat) (F : Nat → va_E) (k : Nat) (pf pm pn spt wrg rd : Int32) (a ps sl sv sd wy pa nu : Nat → Int32) (n kk cw c0 : Nat) (wi rl sp : Int32) (pd : Nat → Nat → Int32) (od : Nat → Int32) (w t : Nat) (hM : isMod z cI cZ F k pf pm pn spt wrg rd a ps sl sv sd wy pa nu) (hk : k + 9 ≤ N) (hA : mA a n kk cw c0 wi rl sp pd od) (hw : w < 2 ^ n) (ht : t < 2 ^ n) : gMi l yX7_greatest wsX7_greatest ({ frames := 5, cells := 0, slots := 0, locals := 107 }) D z cI cZ cP cR N F [.ref (z + k), .int (nI w), .int (nI t)] (gRes (opI (grG (fun i => swF wi (pd i)) w t n)) N (fun F2 => F2 = F)) 0 0 := by
  refine gMi.of (cc := cX7_greatest) (maxL := 6) (ret := (some .int)) (by decide) rfl (Nat.le_of_ble_eq_true rfl) [(0, .ref (z + k)), (1, .int (nI w)), (2, .int (nI t))] rfl ?_
  intro pg ev sg mg bel me cg C hR0
  obtain ⟨ha0, ha1, ha2, ha3, ha4, hpd, hpl, hn, hkk, hcw, hcnt, hc0, hsp, hrl, hwi, hod⟩ := id hA
  have h2n := two_lt hn
  refine x_bipush C (pc := 0) (v := (-6)) dX7_greatest_0 (by decide) ?_
  refine x_istore_n C (pc := 2) [(3, .int (-6)), (0, .ref (z + k)), (1, .int (nI w)), (2, .int (nI t))] dX7_greatest_2 (by decide) rfl ?_
  refine x_iconst C (pc := 3) (v := 0) dX7_greatest_3 (by decide) ?_
  refine x_istore C (pc := 4) [(4, .int 0), (3, .int (-6)), (0, .ref (z + k)), (1, .int (nI w)), (2, .int (nI t))] dX7_greatest_4 (by decide) rfl ?_
  refine x_sub [2, 3, 4, 1, 0] _ rfl ?_
  refine x_loop2 (A1 := Nat) (A2 := Option Nat) (pc := 6) (st := []) (fun j g => n - j) (fun j g => (j ≤ n) ∧ (g = grG (fun i => swF wi (pd i)) w t j)) (fun j g => N) (fun j g => F) (fun j g => 0) (fun j g => 0) (fun j g => [(0, .ref (z + k)), (1, .int (nI w)), (2, .int (nI t)), (3, .int (opI g)), (4, .int (nI j))]) 0 none ⟨(Nat.zero_le _), rfl⟩ rfl rfl rfl rfl rfl ?_
  rintro j g ⟨hj, hg⟩ ih_6
  try dsimp only at ih_6
  refine x_iload C (pc := 6) 4 dX7_greatest_6 rfl ?_
  refine x_aload_n C (pc := 8) 0 dX7_greatest_8 rfl ?_
  refine x_get C (pc := 9) (q := k) (v := .ref (z + (k + 1))) (ci := 7) rfl hn_X7_greatest_X7 0 (by decide) fl_X7_greatest_7 rfl (by omega) hM.ob rfl dX7_greatest_9 ?_
  refine x_iconst C (pc := 12) (v := 0) dX7_greatest_12 (by decide) ?_
  refine x_ialdE C (pc := 13) (q := k + 1) (j := 0) (f := a) (by omega) hM.a rfl (by omega) (by decide) dX7_greatest_13 ?_
  refine x_eqi hA.1 ?_
  refine x_icmpN_ge C (a := j) (b := n) (pc := 14) (tgt := 78) (by omega) (by omega) dX7_greatest_14 (by decide) (fun c_14 => ?_) (fun c_14 => ?_)
  · refine x_iload_n C (pc := 78) 3 dX7_greatest_78 rfl ?_
    exact x_iret C hR0 rfl (Nat.le_of_ble_eq_true rfl) (Nat.le_of_ble_eq_true rfl) ⟨(by rw [hg, show j = n by omega]), rfl, rfl⟩ dX7_greatest_79
  refine x_iload_n C (pc := 17) 1 dX7_greatest_17 rfl ?_
  refine x_iload C (pc := 18) 4 dX7_greatest_18 rfl ?_
  refine x_cSiR C (pc := 20) (st := []) (c_X7_has l D z cI cZ cP cR N F w j (by omega) (by omega)) (va_cwS 2 C.2.2.2.2.1 gX7_greatest_X7_has rfl rfl rfl hd_X7_has.2 ⟨Nat.le_of_ble_eq_true rfl, Nat.le_of_ble_eq_true rfl⟩) rfl rfl (Nat.le_of_ble_eq_true rfl) dX7_greatest_20 ⟨Nat.le_of_ble_eq_true rfl, Nat.le_of_ble_eq_true rfl⟩ ?_
  refine x_bz_ne C (pc := 23) (tgt := 39) dX7_greatest_23 (by decide) (fun c_23 => ?_) (fun c_23 => ?_)
  · refine x_iconst C (pc := 39) (v := 0) dX7_greatest_39 (by decide) ?_
    refine x_istore C (pc := 40) [(5, .int 0), (0, .ref (z + k)), (1, .int (nI w)), (2, .int (nI t)), (3, .int (opI g)), (4, .int (nI j))] dX7_greatest_40 (by decide) rfl ?_
    refine x_iload C (pc := 42) 0 dX7_greatest_42 rfl ?_
    refine x_ifN_eq C (a := 0) (pc := 44) (tgt := 70) (by decide) dX7_greatest_44 (by decide) (fun h_ => ?_) (fun h_ => absurd h_ (by decide))
    refine x_iload_n C (pc := 70) 4 dX7_greatest_70 rfl ?_
    refine x_istore_n C (pc := 71) [(3, .int (opI g)), (5, .int 0), (0, .ref (z + k)), (1, .int (nI w)), (2, .int (nI t)), (4, .int (nI j))] dX7_greatest_71 (by decide) rfl ?_
    refine x_iinc C (pc := 72) 5 [(4, .int (nI (j + 1))), (3, .int (opI g)), (5, .int 0), (0, .ref (z + k)), (1, .int (nI w)), (2, .int (nI t))] dX7_greatest_72 rfl (nI_inc j) (by decide) rfl ?_
    refine x_goto C (pc := 75) (tgt := 6) dX7_greatest_75 (by decide) ?_
    exact x_sub [3, 4, 5, 1, 0] _ rfl (ih_6 (j + 1) g ⟨(by omega), (by rw [grG, if_neg (by first | (simp [askB, c_23]; done) | (simp [askB, c_32]; done))]; exact hg)⟩ (by omega))
  refine x_iload_n C (pc := 26) 2 dX7_greatest_26 rfl ?_
  refine x_iload C (pc := 27) 4 dX7_greatest_27 rfl ?_
  refine x_cSiR C (pc := 29) (st := []) (c_X7_has l D z cI cZ cP cR N F t j (by omega) (by omega)) (va_cwS 2 C.2.2.2.2.1 gX7_greatest_X7_has rfl rfl rfl hd_X7_has.2 ⟨Nat.le_of_ble_eq_true rfl, Nat.le_of_ble_eq_true rfl⟩) rfl rfl (Nat.le_of_ble_eq_true rfl) dX7_greatest_29 ⟨Nat.le_of_ble_eq_true rfl, Nat.le_of_ble_eq_true rfl⟩ ?_
  refine x_bz_ne C (pc := 32) (tgt := 39) dX7_greatest_32 (by decide) (fun c_32 => ?_) (fun c_32 => ?_)
  · refine x_iconst C (pc := 39) (v := 0) dX7_greatest_39 (by decide) ?_
    refine x_istore C (pc := 40) [(5, .int 0), (0, .ref (z + k)), (1, .int (nI w)), (2, .int (nI t)), (3, .int (opI g)), (4, .int (nI j))] dX7_greatest_40 (by decide) rfl ?_
    refine x_iload C (pc := 42) 0 dX7_greatest_42 rfl ?_
    refine x_ifN_eq C (a := 0) (pc := 44) (tgt := 70) (by decide) dX7_greatest_44 (by decide) (fun h_ => ?_) (fun h_ => absurd h_ (by decide))
    refine x_iload_n C (pc := 70) 4 dX7_greatest_70 rfl ?_
    refine x_istore_n C (pc := 71) [(3, .int (opI g)), (5, .int 0), (0, .ref (z + k)), (1, .int (nI w)), (2, .int (nI t)), (4, .int (nI j))] dX7_greatest_71 (by decide) rfl ?_
    refine x_iinc C (pc := 72) 5 [(4, .int (nI (j + 1))), (3, .int (opI g)), (5, .int 0), (0, .ref (z + k)), (1, .int (nI w)), (2, .int (nI t))] dX7_greatest_72 rfl (nI_inc j) (by decide) rfl ?_
    refine x_goto C (pc := 75) (tgt := 6) dX7_greatest_75 (by decide) ?_
    exact x_sub [3, 4, 5, 1, 0] _ rfl (ih_6 (j + 1) g ⟨(by omega), (by rw [grG, if_neg (by first | (simp [askB, c_23]; done) | (simp [askB, c_32]; done))]; exact hg)⟩ (by omega))
  refine x_iconst C (pc := 35) (v := 1) dX7_greatest_35 (by decide) ?_
  refine x_goto C (pc := 36) (tgt := 40) dX7_greatest_36 (by decide) ?_
  refine x_istore C (pc := 40) [(5, .int 1), (0, .ref (z + k)), (1, .int (nI w)), (2, .int (nI t)), (3, .int (opI g)), (4, .int (nI j))] dX7_greatest_40 (by decide) rfl ?_
  refine x_iload C (pc := 42) 0 dX7_greatest_42 rfl ?_
  refine x_ifN_eq C (a := 1) (pc := 44) (tgt := 70) (by decide) dX7_greatest_44 (by decide) (fun h_ => absurd h_ (by decide)) (fun _ => ?_)
  refine x_iload_n C (pc := 47) 4 dX7_greatest_47 rfl ?_
  refine x_if_lt C (pc := 48) (tgt := 65) dX7_greatest_48 (by decide) (fun c_48 => ?_) (fun c_48 => ?_)
  · have hno : g = none := opI_lt (fun b hb => by have := grG_lt (hg.symm.trans hb); omega) c_48
    refine x_iload C (pc := 65) 5 dX7_greatest_65 rfl ?_
    refine x_goto C (pc := 67) (tgt := 71) dX7_greatest_67 (by decide) ?_
    refine x_istore_n C (pc := 71) [(3, .int (nI j)), (5, .int 1), (0, .ref (z + k)), (1, .int (nI w)), (2, .int (nI t)), (4, .int (nI j))] dX7_greatest_71 (by decide) rfl ?_
    refine x_iinc C (pc := 72) 5 [(4, .int (nI (j + 1))), (3, .int (nI j)), (5, .int 1), (0, .ref (z + k)), (1, .int (nI w)), (2, .int (nI t))] dX7_greatest_72 rfl (nI_inc j) (by decide) rfl ?_
    refine x_goto C (pc := 75) (tgt := 6) dX7_greatest_75 (by decide) ?_
    exact x_sub [3, 4, 5, 1, 0] _ rfl (ih_6 (j + 1) (some j) ⟨(by omega), (by rw [grG, if_pos (by rw [askB, c_23, c_32]; rfl), ← hg]; first | (rw [hno]; done) | (rw [hb]; dsimp only; rw [if_pos (Int32.not_le.mp c_62)]))⟩ (by omega))
  obtain ⟨b, hb⟩ := opI_ge c_48
  have hbj := grG_lt (hg.symm.trans hb)
  refine x_eqL [(5, .int 1), (0, .ref (z + k)), (1, .int (nI w)), (2, .int (nI t)), (3, .int (nI b)), (4, .int (nI j))] (by rw [hb]; rfl) ?_
  refine x_aload_n C (pc := 51) 1 dX7_greatest_51 rfl ?_
  refine x_iload C (pc := 52) 5 dX7_greatest_52 rfl ?_
  refine x_cViR C (pc := 54) (st := []) (c_X7_swing l D z cI cZ cP cR N F k pf pm pn spt wrg rd a ps sl sv sd wy pa nu n kk cw c0 wi rl sp pd od j hM (by omega) hA (by omega)) (cwV 1 C.2.2.2.2.1 gX7_greatest_X7_swing rfl rfl rfl hd_X7_swing ⟨Nat.le_of_ble_eq_true rfl, Nat.le_of_ble_eq_true rfl⟩) (by omega) hM.ob rfl rfl rfl (Nat.le_of_ble_eq_true rfl) dX7_greatest_54 ⟨Nat.le_of_ble_eq_true rfl, Nat.le_of_ble_eq_true rfl⟩ ?_
  refine x_aload_n C (pc := 57) 1 dX7_greatest_57 rfl ?_
  refine x_iload_n C (pc := 58) 4 dX7_greatest_58 rfl ?_
  refine x_cViR C (pc := 59) (st := [.int (swF wi (pd j))]) (c_X7_swing l D z cI cZ cP cR N F k pf pm pn spt wrg rd a ps sl sv sd wy pa nu n kk cw c0 wi rl sp pd od b hM (by omega) hA (by omega)) (cwV 1 C.2.2.2.2.1 gX7_greatest_X7_swing rfl rfl rfl hd_X7_swing ⟨Nat.le_of_ble_eq_true rfl, Nat.le_of_ble_eq_true rfl⟩) (by omega) hM.ob rfl rfl rfl (Nat.le_of_ble_eq_true rfl) dX7_greatest_59 ⟨Nat.le_of_ble_eq_true rfl, Nat.le_of_ble_eq_true rfl⟩ ?_
  refine x_icmp_le C (pc := 62) (tgt := 70) dX7_greatest_62 (by decide) (fun c_62 => ?_) (fun c_62 => ?_)
  · refine x_iload_n C (pc := 70) 4 dX7_greatest_70 rfl ?_
    refine x_istore_n C (pc := 71) [(3, .int (nI b)), (5, .int 1), (0, .ref (z + k)), (1, .int (nI w)), (2, .int (nI t)), (4, .int (nI j))] dX7_greatest_71 (by decide) rfl ?_
    refine x_iinc C (pc := 72) 5 [(4, .int (nI (j + 1))), (3, .int (nI b)), (5, .int 1), (0, .ref (z + k)), (1, .int (nI w)), (2, .int (nI t))] dX7_greatest_72 rfl (nI_inc j) (by decide) rfl ?_
    refine x_goto C (pc := 75) (tgt := 6) dX7_greatest_75 (by decide) ?_
    exact x_sub [3, 4, 5, 1, 0] _ rfl (ih_6 (j + 1) (some b) ⟨(by omega), (by rw [grG, if_pos (by rw [askB, c_23, c_32]; rfl), ← hg, hb]; dsimp only; rw [if_neg (Int32.not_lt.mpr c_62)])⟩ (by omega))
  refine x_iload C (pc := 65) 5 dX7_greatest_65 rfl ?_
  refine x_goto C (pc := 67) (tgt := 71) dX7_greatest_67 (by decide) ?_
  refine x_istore_n C (pc := 71) [(3, .int (nI j)), (5, .int 1), (0, .ref (z + k)), (1, .int (nI w)), (2, .int (nI t)), (4, .int (nI j))] dX7_greatest_71 (by decide) rfl ?_
  refine x_iinc C (pc := 72) 5 [(4, .int (nI (j + 1))), (3, .int (nI j)), (5, .int 1), (0, .ref (z + k)), (1, .int (nI w)), (2, .int (nI t))] dX7_greatest_72 rfl (nI_inc j) (by decide) rfl ?_
  refine x_goto C (pc := 75) (tgt := 6) dX7_greatest_75 (by decide) ?_
  exact x_sub [3, 4, 5, 1, 0] _ rfl (ih_6 (j + 1) (some j) ⟨(by omega), (by rw [grG, if_pos (by rw [askB, c_23, c_32]; rfl), ← hg]; first | (rw [hno]; done) | (rw [hb]; dsimp only; rw [if_pos (Int32.not_le.mp c_62)]))⟩ (by omega))
set_option maxHeartbeats 4000000 in
set_option maxRecDepth 100000 in
theorem c_X7_wrongFor (l : Launch) (D : va_G) (z : Nat) (cI cZ cP cR : ClassId) (N : Nat) (F : Nat → va_E) (k : Nat) (pf pm pn spt wrg rd : Int32) (a ps sl sv sd wy pa nu : Nat → Int32) (n kk cw c0 : Nat) (wi rl sp : Int32) (pd : Nat → Nat → Int32) (od : Nat → Int32) (w : Nat) (lead : Int32) (pi : Nat → Nat) (hM : isMod z cI cZ F k pf pm pn spt wrg rd a ps sl sv sd wy pa nu) (hk : k + 9 ≤ N) (hA : mA a n kk cw c0 wi rl sp pd od) (hw : w < 2 ^ n) (hpi : rkPi (fun i => swF wi (pd i)) n pi) : gMi l yX7_wrongFor wsX7_wrongFor ({ frames := 6, cells := 0, slots := 0, locals := 132 }) D z cI cZ cP cR N F [.ref (z + k), .int (nI w), .int lead] (gRes (opI (wkR (fun i => swF wi (pd i)) pi n w lead)) N (fun F2 => F2 = F)) 0 0 := by
  refine gMi.of (cc := cX7_wrongFor) (maxL := 6) (ret := (some .int)) (by decide) rfl (Nat.le_of_ble_eq_true rfl) [(0, .ref (z + k)), (1, .int (nI w)), (2, .int lead)] rfl ?_
  intro pg ev sg mg bel me cg C hR0
  obtain ⟨ha0, ha1, ha2, ha3, ha4, hpd, hpl, hn, hkk, hcw, hcnt, hc0, hsp, hrl, hwi, hod⟩ := id hA
  have h2n := two_lt hn
  refine x_iconst C (pc := 0) (v := 0) dX7_wrongFor_0 (by decide) ?_
  refine x_istore_n C (pc := 1) [(3, .int 0), (0, .ref (z + k)), (1, .int (nI w)), (2, .int lead)] dX7_wrongFor_1 (by decide) rfl ?_
  refine x_iconst C (pc := 2) (v := 0) dX7_wrongFor_2 (by decide) ?_
  refine x_istore C (pc := 3) [(4, .int 0), (3, .int 0), (0, .ref (z + k)), (1, .int (nI w)), (2, .int lead)] dX7_wrongFor_3 (by decide) rfl ?_
  refine x_sub [2, 3, 4, 1, 0] _ rfl ?_
  refine x_loop3 (A1 := Nat) (A2 := Nat) (A3 := Int32) (pc := 5) (st := []) (fun r t s => n - r) (fun r t s => (r ≤ n) ∧ (t < 2 ^ n) ∧ (tkOK pi w n r t) ∧ (wkR (fun i => swF wi (pd i)) pi n w lead = if lead ≤ s then some t else wkG (fun i => swF wi (pd i)) pi w lead (n - r) r s t)) (fun r t s => N) (fun r t s => F) (fun r t s => 0) (fun r t s => 0) (fun r t s => [(0, .ref (z + k)), (1, .int (nI w)), (2, .int lead), (3, .int (nI t)), (4, .int s)]) 0 0 0 ⟨(Nat.zero_le _), (two_pos n), (tkOK_0 pi w n), (by rw [wkR, Nat.sub_zero])⟩ rfl rfl rfl rfl rfl ?_
  rintro r t s ⟨hr, htl, htk, hwk⟩ ih_5
  try dsimp only at ih_5
  refine x_iload C (pc := 5) 4 dX7_wrongFor_5 rfl ?_
  refine x_iload_n C (pc := 7) 2 dX7_wrongFor_7 rfl ?_
  refine x_icmp_ge C (pc := 8) (tgt := 48) dX7_wrongFor_8 (by decide) (fun c_8 => ?_) (fun c_8 => ?_)
  · refine x_iload_n C (pc := 48) 3 dX7_wrongFor_48 rfl ?_
    exact x_iret C hR0 rfl (Nat.le_of_ble_eq_true rfl) (Nat.le_of_ble_eq_true rfl) ⟨(by rw [hwk, if_pos c_8]; rfl), rfl, rfl⟩ dX7_wrongFor_49
  refine x_aload_n C (pc := 11) 0 dX7_wrongFor_11 rfl ?_
  refine x_iload_n C (pc := 12) 1 dX7_wrongFor_12 rfl ?_
  refine x_iload_n C (pc := 13) 3 dX7_wrongFor_13 rfl ?_
  refine x_cViR C (pc := 14) (st := []) (c_X7_greatest l D z cI cZ cP cR N F k pf pm pn spt wrg rd a ps sl sv sd wy pa nu n kk cw c0 wi rl sp pd od w t hM (by omega) hA (by omega) (by omega)) (cwV 2 C.2.2.2.2.1 gX7_wrongFor_X7_greatest rfl rfl rfl hd_X7_greatest ⟨Nat.le_of_ble_eq_true rfl, Nat.le_of_ble_eq_true rfl⟩) (by omega) hM.ob rfl rfl rfl (Nat.le_of_ble_eq_true rfl) dX7_wrongFor_14 ⟨Nat.le_of_ble_eq_true rfl, Nat.le_of_ble_eq_true rfl⟩ ?_
  refine x_istore C (pc := 17) [(5, .int (opI (grG (fun i => swF wi (pd i)) w t n))), (0, .ref (z + k)), (1, .int (nI w)), (2, .int lead), (3, .int (nI t)), (4, .int s)] dX7_wrongFor_17 (by decide) rfl ?_
  refine x_iload C (pc := 19) 0 dX7_wrongFor_19 rfl ?_
  refine x_if_ge C (pc := 21) (tgt := 27) dX7_wrongFor_21 (by decide) (fun c_21 => ?_) (fun c_21 => ?_)
  · rcases gr_next hpi lead s (n - r) r rfl hr htk with ⟨hgn, hwn⟩ | ⟨r2, hr1, hr2, hwb, hgs, htk2, hst⟩
    · exfalso; rw [hgn] at c_21; exact absurd c_21 (by decide)
    have hp2 := hpi.1 r2 hr2
    have h2p : 2 ^ pi r2 < 2 ^ n := Nat.pow_lt_pow_right (by decide) hp2
    have htn : t ||| 2 ^ pi r2 < 2 ^ n := Nat.or_lt_two_pow htl h2p
    refine x_eqL [(5, .int (nI (pi r2))), (0, .ref (z + k)), (1, .int (nI w)), (2, .int lead), (3, .int (nI t)), (4, .int s)] (by rw [hgs]; rfl) ?_
    refine x_iload_n C (pc := 27) 4 dX7_wrongFor_27 rfl ?_
    refine x_iconst C (pc := 28) (v := 1) dX7_wrongFor_28 (by decide) ?_
    refine x_iload C (pc := 29) 0 dX7_wrongFor_29 rfl ?_
    refine x_ishl C (pc := 31) (v := nI (2 ^ pi r2)) dX7_wrongFor_31 (pkshl (by omega)) ?_
    refine x_ior C (pc := 32) (v := nI (t ||| 2 ^ pi r2)) dX7_wrongFor_32 (pkor (by omega) (by omega)) ?_
    refine x_istore_n C (pc := 33) [(3, .int (nI (t ||| 2 ^ pi r2))), (5, .int (nI (pi r2))), (0, .ref (z + k)), (1, .int (nI w)), (2, .int lead), (4, .int s)] dX7_wrongFor_33 (by decide) rfl ?_
    refine x_iload C (pc := 34) 5 dX7_wrongFor_34 rfl ?_
    refine x_aload_n C (pc := 36) 2 dX7_wrongFor_36 rfl ?_
    refine x_iload C (pc := 37) 1 dX7_wrongFor_37 rfl ?_
    refine x_cViR C (pc := 39) (st := [.int s]) (c_X7_swing l D z cI cZ cP cR N F k pf pm pn spt wrg rd a ps sl sv sd wy pa nu n kk cw c0 wi rl sp pd od (pi r2) hM (by omega) hA (by omega)) (cwV 1 C.2.2.2.2.1 gX7_wrongFor_X7_swing rfl rfl rfl hd_X7_swing ⟨Nat.le_of_ble_eq_true rfl, Nat.le_of_ble_eq_true rfl⟩) (by omega) hM.ob rfl rfl rfl (Nat.le_of_ble_eq_true rfl) dX7_wrongFor_39 ⟨Nat.le_of_ble_eq_true rfl, Nat.le_of_ble_eq_true rfl⟩ ?_
    refine x_iadd C (pc := 42) (v := s + (swF wi (pd (pi r2)))) dX7_wrongFor_42 rfl ?_
    refine x_istore C (pc := 43) [(4, .int (s + (swF wi (pd (pi r2))))), (3, .int (nI (t ||| 2 ^ pi r2))), (5, .int (nI (pi r2))), (0, .ref (z + k)), (1, .int (nI w)), (2, .int lead)] dX7_wrongFor_43 (by decide) rfl ?_
    refine x_goto C (pc := 45) (tgt := 5) dX7_wrongFor_45 (by decide) ?_
    exact x_sub [3, 4, 5, 1, 0] _ rfl (ih_5 (r2 + 1) (t ||| 2 ^ pi r2) (s + swF wi (pd (pi r2))) ⟨(by omega), htn, htk2, (by rw [hwk, if_neg (Int32.not_le.mpr (Int32.not_le.mp c_8)), hst])⟩ (by omega))
  refine x_bipush C (pc := 24) (v := (-6)) dX7_wrongFor_24 (by decide) ?_
  exact x_iret C hR0 rfl (Nat.le_of_ble_eq_true rfl) (Nat.le_of_ble_eq_true rfl) ⟨(by rw [wf_none hpi hr htk hwk c_8 (opI_lt (fun b hb => by have := grG_lt hb; omega) (Int32.not_le.mp c_21))]; rfl), rfl, rfl⟩ dX7_wrongFor_26
theorem fl_X7_risk_7 : Cond.fieldLink RX7 7 "PileRecountModel" "at" "[I" ∈ wsX7_risk := by decide +kernel
theorem hn_X7_risk_X7 : ∀ w ∈ wsX70, w ∈ wsX7_risk := fun _ h => List.mem_cons_of_mem _ (List.mem_append_right _ h)
set_option maxHeartbeats 4000000 in
set_option maxRecDepth 100000 in
theorem c_X7_risk (l : Launch) (D : va_G) (z : Nat) (cI cZ cP cR : ClassId) (N : Nat) (F : Nat → va_E) (k : Nat) (pf pm pn spt wrg rd : Int32) (a ps sl sv sd wy pa nu : Nat → Int32) (n kk cw c0 : Nat) (wi rl sp : Int32) (pd : Nat → Nat → Int32) (od : Nat → Int32) (w : Nat) (ar : Bool) (pi : Nat → Nat) (hM : isMod z cI cZ F k pf pm pn spt wrg rd a ps sl sv sd wy pa nu) (hk : k + 9 ≤ N) (hA : mA a n kk cw c0 wi rl sp pd od) (hw : w < 2 ^ n) (hwb : hwB wi = true) (hpi : rkPi (fun i => swF wi (pd i)) n pi) : gMi l yX7_risk wsX7_risk ({ frames := 7, cells := 0, slots := 0, locals := 157 }) D z cI cZ cP cR N F [.ref (z + k), .int (nI w), .int (bz ar)] (gRes (rbF wi pd pi n w (fsN ar w cw)) N (fun F2 => F2 = F)) 0 0 := by
  refine gMi.of (cc := cX7_risk) (maxL := 5) (ret := (some .int)) (by decide) rfl (Nat.le_of_ble_eq_true rfl) [(0, .ref (z + k)), (1, .int (nI w)), (2, .int (bz ar))] rfl ?_
  intro pg ev sg mg bel me cg C hR0
  obtain ⟨ha0, ha1, ha2, ha3, ha4, hpd, hpl, hn, hkk, hcw, hcnt, hc0, hsp, hrl, hwi, hod⟩ := id hA
  have h2n := two_lt hn
  have hwle := worF_le wi pd (fsN ar w cw) n
  refine x_aload_n C (pc := 0) 0 dX7_risk_0 rfl ?_
  refine x_iload_n C (pc := 1) 1 dX7_risk_1 rfl ?_
  refine x_iload_n C (pc := 2) 2 dX7_risk_2 rfl ?_
  refine x_cViR C (pc := 3) (st := []) (c_X7_lead l D z cI cZ cP cR N F k pf pm pn spt wrg rd a ps sl sv sd wy pa nu n kk cw c0 wi rl sp pd od w ar hM (by omega) hA (by omega)) (cwV 2 C.2.2.2.2.1 gX7_risk_X7_lead rfl rfl rfl hd_X7_lead ⟨Nat.le_of_ble_eq_true rfl, Nat.le_of_ble_eq_true rfl⟩) (by omega) hM.ob rfl rfl rfl (Nat.le_of_ble_eq_true rfl) dX7_risk_3 ⟨Nat.le_of_ble_eq_true rfl, Nat.le_of_ble_eq_true rfl⟩ ?_
  refine x_istore_n C (pc := 6) [(3, .int (leadF wi pd n (fsN ar w cw))), (0, .ref (z + k)), (1, .int (nI w)), (2, .int (bz ar))] dX7_risk_6 (by decide) rfl ?_
  refine x_iload_n C (pc := 7) 2 dX7_risk_7 rfl ?_
  refine x_aload_n C (pc := 8) 1 dX7_risk_8 rfl ?_
  refine x_cViR C (pc := 9) (st := [.int (nI w)]) (c_X7_allSet l D z cI cZ cP cR N F k pf pm pn spt wrg rd a ps sl sv sd wy pa nu n kk cw c0 wi rl sp pd od  hM (by omega) hA ) (cwV 0 C.2.2.2.2.1 gX7_risk_X7_allSet rfl rfl rfl hd_X7_allSet ⟨Nat.le_of_ble_eq_true rfl, Nat.le_of_ble_eq_true rfl⟩) (by omega) hM.ob rfl rfl rfl (Nat.le_of_ble_eq_true rfl) dX7_risk_9 ⟨Nat.le_of_ble_eq_true rfl, Nat.le_of_ble_eq_true rfl⟩ ?_
  refine x_icmpN_ne C (a := w) (b := 2 ^ n - 1) (pc := 12) (tgt := 27) (by omega) (by omega) dX7_risk_12 (by decide) (fun c_12 => ?_) (fun c_12 => ?_)
  · refine x_iload_n C (pc := 27) 0 dX7_risk_27 rfl ?_
    refine x_if_le C (pc := 28) (tgt := 40) dX7_risk_28 (by decide) (fun c_28 => ?_) (fun c_28 => ?_)
    · refine x_sipush C (pc := 40) (v := 10000) dX7_risk_40 (by decide) ?_
      exact x_iret C hR0 rfl (Nat.le_of_ble_eq_true rfl) (Nat.le_of_ble_eq_true rfl) ⟨(by first | exact rb_all0 hwb c_12 c_16 | exact rb_lead hwb c_12 c_28 | exact rb_wor hwb c_12 c_37), rfl, rfl⟩ dX7_risk_43
    refine x_aload_n C (pc := 31) 1 dX7_risk_31 rfl ?_
    refine x_iload_n C (pc := 32) 2 dX7_risk_32 rfl ?_
    refine x_iload_n C (pc := 33) 3 dX7_risk_33 rfl ?_
    refine x_cViR C (pc := 34) (st := []) (c_X7_worse l D z cI cZ cP cR N F k pf pm pn spt wrg rd a ps sl sv sd wy pa nu n kk cw c0 wi rl sp pd od w ar hM (by omega) hA (by omega)) (cwV 2 C.2.2.2.2.1 gX7_risk_X7_worse rfl rfl rfl hd_X7_worse ⟨Nat.le_of_ble_eq_true rfl, Nat.le_of_ble_eq_true rfl⟩) (by omega) hM.ob rfl rfl rfl (Nat.le_of_ble_eq_true rfl) dX7_risk_34 ⟨Nat.le_of_ble_eq_true rfl, Nat.le_of_ble_eq_true rfl⟩ ?_
    refine x_ifN_le C (a := worF wi pd (fsN ar w cw) n) (pc := 37) (tgt := 44) (by omega) dX7_risk_37 (by decide) (fun c_37 => ?_) (fun c_37 => ?_)
    · refine x_aload_n C (pc := 44) 1 dX7_risk_44 rfl ?_
      refine x_iload_n C (pc := 45) 2 dX7_risk_45 rfl ?_
      refine x_iload_n C (pc := 46) 0 dX7_risk_46 rfl ?_
      refine x_cViR C (pc := 47) (st := []) (c_X7_wrongFor l D z cI cZ cP cR N F k pf pm pn spt wrg rd a ps sl sv sd wy pa nu n kk cw c0 wi rl sp pd od w (leadF wi pd n (fsN ar w cw)) pi hM (by omega) hA (by omega) hpi) (cwV 2 C.2.2.2.2.1 gX7_risk_X7_wrongFor rfl rfl rfl hd_X7_wrongFor ⟨Nat.le_of_ble_eq_true rfl, Nat.le_of_ble_eq_true rfl⟩) (by omega) hM.ob rfl rfl rfl (Nat.le_of_ble_eq_true rfl) dX7_risk_47 ⟨Nat.le_of_ble_eq_true rfl, Nat.le_of_ble_eq_true rfl⟩ ?_
      refine x_istore C (pc := 50) [(4, .int (opI (wkR (fun i => swF wi (pd i)) pi n w (leadF wi pd n (fsN ar w cw))))), (3, .int (leadF wi pd n (fsN ar w cw))), (0, .ref (z + k)), (1, .int (nI w)), (2, .int (bz ar))] dX7_risk_50 (by decide) rfl ?_
      refine x_iload C (pc := 52) 0 dX7_risk_52 rfl ?_
      refine x_if_ge C (pc := 54) (tgt := 61) dX7_risk_54 (by decide) (fun c_54 => ?_) (fun c_54 => ?_)
      · obtain ⟨t, ht⟩ := opI_ge (Int32.not_lt.mpr c_54)
        have htl := wkR_lt hpi ht
        have hc1 := cntB_lt hw hn
        have hc2 := cntB_lt htl hn
        refine x_eqL [(4, .int (nI t)), (3, .int (leadF wi pd n (fsN ar w cw))), (0, .ref (z + k)), (1, .int (nI w)), (2, .int (bz ar))] (by rw [ht]; rfl) ?_
        refine x_aload_n C (pc := 61) 2 dX7_risk_61 rfl ?_
        refine x_get C (pc := 62) (q := k) (v := .ref (z + (k + 1))) (ci := 7) rfl hn_X7_risk_X7 0 (by decide) fl_X7_risk_7 rfl (by omega) hM.ob rfl dX7_risk_62 ?_
        refine x_iconst C (pc := 65) (v := 0) dX7_risk_65 (by decide) ?_
        refine x_ialdE C (pc := 66) (q := k + 1) (j := 0) (f := a) (by omega) hM.a rfl (by omega) (by decide) dX7_risk_66 ?_
        refine x_eqi hA.1 ?_
        refine x_iload_n C (pc := 67) 3 dX7_risk_67 rfl ?_
        refine x_cSiR C (pc := 68) (st := [.int (nI n)]) (c_X7_many l D z cI cZ cP cR N F w (by omega)) (va_cwS 1 C.2.2.2.2.1 gX7_risk_X7_many rfl rfl rfl hd_X7_many.2 ⟨Nat.le_of_ble_eq_true rfl, Nat.le_of_ble_eq_true rfl⟩) rfl rfl (Nat.le_of_ble_eq_true rfl) dX7_risk_68 ⟨Nat.le_of_ble_eq_true rfl, Nat.le_of_ble_eq_true rfl⟩ ?_
        refine x_iload C (pc := 71) 0 dX7_risk_71 rfl ?_
        refine x_cSiR C (pc := 73) (st := [.int (nI (cntB w 10)), .int (nI n)]) (c_X7_many l D z cI cZ cP cR N F t (by omega)) (va_cwS 1 C.2.2.2.2.1 gX7_risk_X7_many rfl rfl rfl hd_X7_many.2 ⟨Nat.le_of_ble_eq_true rfl, Nat.le_of_ble_eq_true rfl⟩) rfl rfl (Nat.le_of_ble_eq_true rfl) dX7_risk_73 ⟨Nat.le_of_ble_eq_true rfl, Nat.le_of_ble_eq_true rfl⟩ ?_
        refine x_cSiR C (pc := 76) (st := []) (c_X7_byNumbers l D z cI cZ cP cR N F n (cntB w 10) (cntB t 10) (by omega) (by omega) (by omega)) (va_cwS 3 C.2.2.2.2.1 gX7_risk_X7_byNumbers rfl rfl rfl hd_X7_byNumbers.2 ⟨Nat.le_of_ble_eq_true rfl, Nat.le_of_ble_eq_true rfl⟩) rfl rfl (Nat.le_of_ble_eq_true rfl) dX7_risk_76 ⟨Nat.le_of_ble_eq_true rfl, Nat.le_of_ble_eq_true rfl⟩ ?_
        exact x_iret C hR0 rfl (Nat.le_of_ble_eq_true rfl) (Nat.le_of_ble_eq_true rfl) ⟨(rb_some hwb c_12 (Int32.not_le.mp c_28) (Nat.le_zero.mp c_37) hpi hn ht), rfl, rfl⟩ dX7_risk_79
      refine x_iconst C (pc := 57) (v := 0) dX7_risk_57 (by decide) ?_
      refine x_goto C (pc := 58) (tgt := 79) dX7_risk_58 (by decide) ?_
      exact x_iret C hR0 rfl (Nat.le_of_ble_eq_true rfl) (Nat.le_of_ble_eq_true rfl) ⟨(by first | exact rb_all1 hwb c_12 (Int32.not_le.mp c_16) | exact rb_none hwb c_12 (Int32.not_le.mp c_28) (Nat.le_zero.mp c_37) hpi hn (opI_lt (fun b hb => by have := wkR_lt hpi hb; omega) (Int32.not_le.mp c_54))), rfl, rfl⟩ dX7_risk_79
    refine x_sipush C (pc := 40) (v := 10000) dX7_risk_40 (by decide) ?_
    exact x_iret C hR0 rfl (Nat.le_of_ble_eq_true rfl) (Nat.le_of_ble_eq_true rfl) ⟨(by first | exact rb_all0 hwb c_12 c_16 | exact rb_lead hwb c_12 c_28 | exact rb_wor hwb c_12 c_37), rfl, rfl⟩ dX7_risk_43
  refine x_iload_n C (pc := 15) 0 dX7_risk_15 rfl ?_
  refine x_if_le C (pc := 16) (tgt := 23) dX7_risk_16 (by decide) (fun c_16 => ?_) (fun c_16 => ?_)
  · refine x_sipush C (pc := 23) (v := 10000) dX7_risk_23 (by decide) ?_
    exact x_iret C hR0 rfl (Nat.le_of_ble_eq_true rfl) (Nat.le_of_ble_eq_true rfl) ⟨(by first | exact rb_all0 hwb c_12 c_16 | exact rb_lead hwb c_12 c_28 | exact rb_wor hwb c_12 c_37), rfl, rfl⟩ dX7_risk_26
  refine x_iconst C (pc := 19) (v := 0) dX7_risk_19 (by decide) ?_
  refine x_goto C (pc := 20) (tgt := 26) dX7_risk_20 (by decide) ?_
  exact x_iret C hR0 rfl (Nat.le_of_ble_eq_true rfl) (Nat.le_of_ble_eq_true rfl) ⟨(by first | exact rb_all1 hwb c_12 (Int32.not_le.mp c_16) | exact rb_none hwb c_12 (Int32.not_le.mp c_28) (Nat.le_zero.mp c_37) hpi hn (opI_lt (fun b hb => by have := wkR_lt hpi hb; omega) (Int32.not_le.mp c_54))), rfl, rfl⟩ dX7_risk_26
set_option maxHeartbeats 4000000 in
set_option maxRecDepth 100000 in
theorem c_X7_riskNow (l : Launch) (D : va_G) (z : Nat) (cI cZ cP cR : ClassId) (N : Nat) (F : Nat → va_E) (k : Nat) (pf pm pn spt wrg rd : Int32) (a ps sl sv sd wy pa nu : Nat → Int32) (n kk cw c0 : Nat) (wi rl sp : Int32) (pd : Nat → Nat → Int32) (od : Nat → Int32) (pi : Nat → Nat) (hM : isMod z cI cZ F k pf pm pn spt wrg rd a ps sl sv sd wy pa nu) (hk : k + 9 ≤ N) (hA : mA a n kk cw c0 wi rl sp pd od) (hpi : rkPi (fun i => swF wi (pd i)) n pi) : gMi l yX7_riskNow wsX7_riskNow ({ frames := 8, cells := 0, slots := 0, locals := 181 }) D z cI cZ cP cR N F [.ref (z + k)] (gRes (rbF wi pd pi n cw cw) N (fun F2 => F2 = F)) 0 0 := by
  refine gMi.of (cc := cX7_riskNow) (maxL := 1) (ret := (some .int)) (by decide) rfl (Nat.le_of_ble_eq_true rfl) [(0, .ref (z + k))] rfl ?_
  intro pg ev sg mg bel me cg C hR0
  obtain ⟨ha0, ha1, ha2, ha3, ha4, hpd, hpl, hn, hkk, hcw, hcnt, hc0, hsp, hrl, hwi, hod⟩ := id hA
  have h2n := two_lt hn
  refine x_aload_n C (pc := 0) 0 dX7_riskNow_0 rfl ?_
  refine x_cViR C (pc := 1) (st := []) (c_X7_winner l D z cI cZ cP cR N F k pf pm pn spt wrg rd a ps sl sv sd wy pa nu n kk cw c0 wi rl sp pd od  hM (by omega) hA ) (cwV 0 C.2.2.2.2.1 gX7_riskNow_X7_winner rfl rfl rfl hd_X7_winner ⟨Nat.le_of_ble_eq_true rfl, Nat.le_of_ble_eq_true rfl⟩) (by omega) hM.ob rfl rfl rfl (Nat.le_of_ble_eq_true rfl) dX7_riskNow_1 ⟨Nat.le_of_ble_eq_true rfl, Nat.le_of_ble_eq_true rfl⟩ ?_
  refine x_if_ge C (pc := 4) (tgt := 13) dX7_riskNow_4 (by decide) (fun c_4 => ?_) (fun c_4 => ?_)
  · refine x_aload_n C (pc := 13) 0 dX7_riskNow_13 rfl ?_
    refine x_aload_n C (pc := 14) 0 dX7_riskNow_14 rfl ?_
    refine x_cViR C (pc := 15) (st := [.ref (z + k)]) (c_X7_countedSet l D z cI cZ cP cR N F k pf pm pn spt wrg rd a ps sl sv sd wy pa nu n kk cw c0 wi rl sp pd od  hM (by omega) hA ) (cwV 0 C.2.2.2.2.1 gX7_riskNow_X7_countedSet rfl rfl rfl hd_X7_countedSet ⟨Nat.le_of_ble_eq_true rfl, Nat.le_of_ble_eq_true rfl⟩) (by omega) hM.ob rfl rfl rfl (Nat.le_of_ble_eq_true rfl) dX7_riskNow_15 ⟨Nat.le_of_ble_eq_true rfl, Nat.le_of_ble_eq_true rfl⟩ ?_
    refine x_iconst C (pc := 18) (v := 0) dX7_riskNow_18 (by decide) ?_
    refine x_cViR C (pc := 19) (st := []) (c_X7_risk l D z cI cZ cP cR N F k pf pm pn spt wrg rd a ps sl sv sd wy pa nu n kk cw c0 wi rl sp pd od cw false pi hM (by omega) hA hcw (win_t hwi (Int32.not_lt.mpr c_4)) hpi) (cwV 2 C.2.2.2.2.1 gX7_riskNow_X7_risk rfl rfl rfl hd_X7_risk ⟨Nat.le_of_ble_eq_true rfl, Nat.le_of_ble_eq_true rfl⟩) (by omega) hM.ob rfl rfl rfl (Nat.le_of_ble_eq_true rfl) dX7_riskNow_19 ⟨Nat.le_of_ble_eq_true rfl, Nat.le_of_ble_eq_true rfl⟩ ?_
    exact x_iret C hR0 rfl (Nat.le_of_ble_eq_true rfl) (Nat.le_of_ble_eq_true rfl) ⟨rfl, rfl, rfl⟩ dX7_riskNow_22
  refine x_sipush C (pc := 7) (v := 10000) dX7_riskNow_7 (by decide) ?_
  refine x_goto C (pc := 10) (tgt := 22) dX7_riskNow_10 (by decide) ?_
  exact x_iret C hR0 rfl (Nat.le_of_ble_eq_true rfl) (Nat.le_of_ble_eq_true rfl) ⟨(by rw [rbF, if_pos ((win_lt hwi).mp (Int32.not_le.mp c_4))]), rfl, rfl⟩ dX7_riskNow_22
theorem fl_X7_mayStop_7 : Cond.fieldLink RX7 7 "PileRecountModel" "at" "[I" ∈ wsX7_mayStop := by decide +kernel
theorem hn_X7_mayStop_X7 : ∀ w ∈ wsX70, w ∈ wsX7_mayStop := fun _ h => List.mem_cons_of_mem _ (List.mem_append_right _ h)
set_option maxHeartbeats 4000000 in
set_option maxRecDepth 100000 in
theorem c_X7_mayStop (l : Launch) (D : va_G) (z : Nat) (cI cZ cP cR : ClassId) (N : Nat) (F : Nat → va_E) (k : Nat) (pf pm pn spt wrg rd : Int32) (a ps sl sv sd wy pa nu : Nat → Int32) (n kk cw c0 : Nat) (wi rl sp : Int32) (pd : Nat → Nat → Int32) (od : Nat → Int32) (pi : Nat → Nat) (hM : isMod z cI cZ F k pf pm pn spt wrg rd a ps sl sv sd wy pa nu) (hk : k + 9 ≤ N) (hA : mA a n kk cw c0 wi rl sp pd od) (hpi : rkPi (fun i => swF wi (pd i)) n pi) : gMi l yX7_mayStop wsX7_mayStop ({ frames := 9, cells := 0, slots := 0, locals := 201 }) D z cI cZ cP cR N F [.ref (z + k)] (gRes (bz (decide (rbF wi pd pi n cw cw ≤ rl))) N (fun F2 => F2 = F)) 0 0 := by
  refine gMi.of (cc := cX7_mayStop) (maxL := 1) (ret := (some .boolean)) (by decide) rfl (Nat.le_of_ble_eq_true rfl) [(0, .ref (z + k))] rfl ?_
  intro pg ev sg mg bel me cg C hR0
  obtain ⟨ha0, ha1, ha2, ha3, ha4, hpd, hpl, hn, hkk, hcw, hcnt, hc0, hsp, hrl, hwi, hod⟩ := id hA
  have h2n := two_lt hn
  refine x_aload_n C (pc := 0) 0 dX7_mayStop_0 rfl ?_
  refine x_cViR C (pc := 1) (st := []) (c_X7_winner l D z cI cZ cP cR N F k pf pm pn spt wrg rd a ps sl sv sd wy pa nu n kk cw c0 wi rl sp pd od  hM (by omega) hA ) (cwV 0 C.2.2.2.2.1 gX7_mayStop_X7_winner rfl rfl rfl hd_X7_winner ⟨Nat.le_of_ble_eq_true rfl, Nat.le_of_ble_eq_true rfl⟩) (by omega) hM.ob rfl rfl rfl (Nat.le_of_ble_eq_true rfl) dX7_mayStop_1 ⟨Nat.le_of_ble_eq_true rfl, Nat.le_of_ble_eq_true rfl⟩ ?_
  refine x_if_lt C (pc := 4) (tgt := 24) dX7_mayStop_4 (by decide) (fun c_4 => ?_) (fun c_4 => ?_)
  · refine x_iconst C (pc := 24) (v := 0) dX7_mayStop_24 (by decide) ?_
    exact x_iret C hR0 rfl (Nat.le_of_ble_eq_true rfl) (Nat.le_of_ble_eq_true rfl) ⟨(by first | (rw [decide_eq_false (Int32.not_le.mpr c_17)]; rfl) | (rw [decide_eq_false (rb_no hwi c_4 hrl.2)]; rfl)), rfl, rfl⟩ dX7_mayStop_25
  refine x_aload_n C (pc := 7) 0 dX7_mayStop_7 rfl ?_
  refine x_cViR C (pc := 8) (st := []) (c_X7_riskNow l D z cI cZ cP cR N F k pf pm pn spt wrg rd a ps sl sv sd wy pa nu n kk cw c0 wi rl sp pd od pi hM (by omega) hA hpi) (cwV 0 C.2.2.2.2.1 gX7_mayStop_X7_riskNow rfl rfl rfl hd_X7_riskNow ⟨Nat.le_of_ble_eq_true rfl, Nat.le_of_ble_eq_true rfl⟩) (by omega) hM.ob rfl rfl rfl (Nat.le_of_ble_eq_true rfl) dX7_mayStop_8 ⟨Nat.le_of_ble_eq_true rfl, Nat.le_of_ble_eq_true rfl⟩ ?_
  refine x_aload_n C (pc := 11) 0 dX7_mayStop_11 rfl ?_
  refine x_get C (pc := 12) (q := k) (v := .ref (z + (k + 1))) (ci := 7) rfl hn_X7_mayStop_X7 0 (by decide) fl_X7_mayStop_7 rfl (by omega) hM.ob rfl dX7_mayStop_12 ?_
  refine x_iconst C (pc := 15) (v := 1) dX7_mayStop_15 (by decide) ?_
  refine x_ialdE C (pc := 16) (q := k + 1) (j := 1) (f := a) (by omega) hM.a rfl (by omega) (by decide) dX7_mayStop_16 ?_
  refine x_eqi hA.2.1 ?_
  refine x_icmp_gt C (pc := 17) (tgt := 24) dX7_mayStop_17 (by decide) (fun c_17 => ?_) (fun c_17 => ?_)
  · refine x_iconst C (pc := 24) (v := 0) dX7_mayStop_24 (by decide) ?_
    exact x_iret C hR0 rfl (Nat.le_of_ble_eq_true rfl) (Nat.le_of_ble_eq_true rfl) ⟨(by first | (rw [decide_eq_false (Int32.not_le.mpr c_17)]; rfl) | (rw [decide_eq_false (rb_no hwi c_4 hrl.2)]; rfl)), rfl, rfl⟩ dX7_mayStop_25
  refine x_iconst C (pc := 20) (v := 1) dX7_mayStop_20 (by decide) ?_
  refine x_goto C (pc := 21) (tgt := 25) dX7_mayStop_21 (by decide) ?_
  exact x_iret C hR0 rfl (Nat.le_of_ble_eq_true rfl) (Nat.le_of_ble_eq_true rfl) ⟨(by rw [decide_eq_true (Int32.not_lt.mp c_17)]; rfl), rfl, rfl⟩ dX7_mayStop_25
set_option maxHeartbeats 4000000 in
set_option maxRecDepth 100000 in
theorem c_X7_isRight (l : Launch) (D : va_G) (z : Nat) (cI cZ cP cR : ClassId) (N : Nat) (F : Nat → va_E) (k : Nat) (pf pm pn spt wrg rd : Int32) (a ps sl sv sd wy pa nu : Nat → Int32) (n kk cw c0 : Nat) (wi rl sp : Int32) (pd : Nat → Nat → Int32) (od : Nat → Int32) (hM : isMod z cI cZ F k pf pm pn spt wrg rd a ps sl sv sd wy pa nu) (hk : k + 9 ≤ N) (hA : mA a n kk cw c0 wi rl sp pd od) : gMi l yX7_isRight wsX7_isRight ({ frames := 6, cells := 0, slots := 0, locals := 132 }) D z cI cZ cP cR N F [.ref (z + k)] (gRes (bz (decide (0 < leadF wi pd n (2 ^ n - 1)))) N (fun F2 => F2 = F)) 0 0 := by
  refine gMi.of (cc := cX7_isRight) (maxL := 1) (ret := (some .boolean)) (by decide) rfl (Nat.le_of_ble_eq_true rfl) [(0, .ref (z + k))] rfl ?_
  intro pg ev sg mg bel me cg C hR0
  obtain ⟨ha0, ha1, ha2, ha3, ha4, hpd, hpl, hn, hkk, hcw, hcnt, hc0, hsp, hrl, hwi, hod⟩ := id hA
  have h2n := two_lt hn
  refine x_aload_n C (pc := 0) 0 dX7_isRight_0 rfl ?_
  refine x_aload_n C (pc := 1) 0 dX7_isRight_1 rfl ?_
  refine x_cViR C (pc := 2) (st := [.ref (z + k)]) (c_X7_allSet l D z cI cZ cP cR N F k pf pm pn spt wrg rd a ps sl sv sd wy pa nu n kk cw c0 wi rl sp pd od  hM (by omega) hA ) (cwV 0 C.2.2.2.2.1 gX7_isRight_X7_allSet rfl rfl rfl hd_X7_allSet ⟨Nat.le_of_ble_eq_true rfl, Nat.le_of_ble_eq_true rfl⟩) (by omega) hM.ob rfl rfl rfl (Nat.le_of_ble_eq_true rfl) dX7_isRight_2 ⟨Nat.le_of_ble_eq_true rfl, Nat.le_of_ble_eq_true rfl⟩ ?_
  refine x_iconst C (pc := 5) (v := 0) dX7_isRight_5 (by decide) ?_
  refine x_cViR C (pc := 6) (st := []) (c_X7_lead l D z cI cZ cP cR N F k pf pm pn spt wrg rd a ps sl sv sd wy pa nu n kk cw c0 wi rl sp pd od (2 ^ n - 1) false hM (by omega) hA (by have := two_pos n; omega)) (cwV 2 C.2.2.2.2.1 gX7_isRight_X7_lead rfl rfl rfl hd_X7_lead ⟨Nat.le_of_ble_eq_true rfl, Nat.le_of_ble_eq_true rfl⟩) (by omega) hM.ob rfl rfl rfl (Nat.le_of_ble_eq_true rfl) dX7_isRight_6 ⟨Nat.le_of_ble_eq_true rfl, Nat.le_of_ble_eq_true rfl⟩ ?_
  refine x_if_le C (pc := 9) (tgt := 16) dX7_isRight_9 (by decide) (fun c_9 => ?_) (fun c_9 => ?_)
  · refine x_iconst C (pc := 16) (v := 0) dX7_isRight_16 (by decide) ?_
    exact x_iret C hR0 rfl (Nat.le_of_ble_eq_true rfl) (Nat.le_of_ble_eq_true rfl) ⟨(by rw [show leadF wi pd n (2 ^ n - 1) = leadF wi pd n (fsN false (2 ^ n - 1) cw) from rfl, decide_eq_false (Int32.not_lt.mpr c_9)]; rfl), rfl, rfl⟩ dX7_isRight_17
  refine x_iconst C (pc := 12) (v := 1) dX7_isRight_12 (by decide) ?_
  refine x_goto C (pc := 13) (tgt := 17) dX7_isRight_13 (by decide) ?_
  exact x_iret C hR0 rfl (Nat.le_of_ble_eq_true rfl) (Nat.le_of_ble_eq_true rfl) ⟨(by rw [show leadF wi pd n (2 ^ n - 1) = leadF wi pd n (fsN false (2 ^ n - 1) cw) from rfl, decide_eq_true (Int32.not_le.mp c_9)]; rfl), rfl, rfl⟩ dX7_isRight_17
