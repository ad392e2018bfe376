theorem fl_X7_isOver_7 : Cond.fieldLink RX7 7 "PileRecountModel" "at" "[I" ∈ wsX7_isOver := by decide +kernel
theorem hn_X7_isOver_X7 : ∀ w ∈ wsX70, w ∈ wsX7_isOver := fun _ h => List.mem_cons_of_mem _ (List.mem_append_right _ h)
set_option maxHeartbeats 4000000 in
set_option maxRecDepth 100000 in
theorem c_X7_isOver (l : Launch) (D : va_G) (z : Nat) (cI cZ cP cR : ClassId) (N : Nat) (F : Nat → va_E) (k : Nat) (pf pm pn spt wrg rd : Int32) (a ps sl sv sd wy pa nu : Nat → Int32) (n kk cw c0 : Nat) (wi rl sp : Int32) (pd : Nat → Nat → Int32) (od : Nat → Int32) (hM : isMod z cI cZ F k pf pm pn spt wrg rd a ps sl sv sd wy pa nu) (hk : k + 9 ≤ N) (hA : mA a n kk cw c0 wi rl sp pd od) : gMi l yX7_isOver wsX7_isOver ({ frames := 2, cells := 0, slots := 0, locals := 44 }) D z cI cZ cP cR N F [.ref (z + k)] (gRes (bz (!opB wi sp)) N (fun F2 => F2 = F)) 0 0 := by
  refine gMi.of (cc := cX7_isOver) (maxL := 1) (ret := (some .boolean)) (by decide) rfl (Nat.le_of_ble_eq_true rfl) [(0, .ref (z + k))] rfl ?_
  intro pg ev sg mg bel me cg C hR0
  obtain ⟨ha0, ha1, ha2, ha3, ha4, hpd, hpl, hn, hkk, hcw, hcnt, hc0, hsp, hrl, hwi, hod⟩ := id hA
  have h2n := two_lt hn
  refine x_aload_n C (pc := 0) 0 dX7_isOver_0 rfl ?_
  refine x_cViR C (pc := 1) (st := []) (c_X7_winner l D z cI cZ cP cR N F k pf pm pn spt wrg rd a ps sl sv sd wy pa nu n kk cw c0 wi rl sp pd od  hM (by omega) hA ) (cwV 0 C.2.2.2.2.1 gX7_isOver_X7_winner rfl rfl rfl hd_X7_winner ⟨Nat.le_of_ble_eq_true rfl, Nat.le_of_ble_eq_true rfl⟩) (by omega) hM.ob rfl rfl rfl (Nat.le_of_ble_eq_true rfl) dX7_isOver_1 ⟨Nat.le_of_ble_eq_true rfl, Nat.le_of_ble_eq_true rfl⟩ ?_
  refine x_if_lt C (pc := 4) (tgt := 17) dX7_isOver_4 (by decide) (fun c_4 => ?_) (fun c_4 => ?_)
  · refine x_iconst C (pc := 17) (v := 1) dX7_isOver_17 (by decide) ?_
    refine x_goto C (pc := 18) (tgt := 22) dX7_isOver_18 (by decide) ?_
    exact x_iret C hR0 rfl (Nat.le_of_ble_eq_true rfl) (Nat.le_of_ble_eq_true rfl) ⟨(by first | (rw [opB_over hwi c_4]; rfl) | (rw [opB, c_14, show decide ((1 : Int32) = 0) = false from by decide, Bool.and_false]; rfl)), rfl, rfl⟩ dX7_isOver_22
  refine x_aload_n C (pc := 7) 0 dX7_isOver_7 rfl ?_
  refine x_get C (pc := 8) (q := k) (v := .ref (z + (k + 1))) (ci := 7) rfl hn_X7_isOver_X7 0 (by decide) fl_X7_isOver_7 rfl (by omega) hM.ob rfl dX7_isOver_8 ?_
  refine x_iconst C (pc := 11) (v := 3) dX7_isOver_11 (by decide) ?_
  refine x_ialdE C (pc := 12) (q := k + 1) (j := 3) (f := a) (by omega) hM.a rfl (by omega) (by decide) dX7_isOver_12 ?_
  refine x_eqi hA.2.2.2.1 ?_
  refine x_iconst C (pc := 13) (v := 1) dX7_isOver_13 (by decide) ?_
  refine x_icmp_ne C (pc := 14) (tgt := 21) dX7_isOver_14 (by decide) (fun c_14 => ?_) (fun c_14 => ?_)
  · refine x_iconst C (pc := 21) (v := 0) dX7_isOver_21 (by decide) ?_
    exact x_iret C hR0 rfl (Nat.le_of_ble_eq_true rfl) (Nat.le_of_ble_eq_true rfl) ⟨(by rw [opB, win_t hwi c_4, hsp.resolve_right c_14]; rfl), rfl, rfl⟩ dX7_isOver_22
  refine x_iconst C (pc := 17) (v := 1) dX7_isOver_17 (by decide) ?_
  refine x_goto C (pc := 18) (tgt := 22) dX7_isOver_18 (by decide) ?_
  exact x_iret C hR0 rfl (Nat.le_of_ble_eq_true rfl) (Nat.le_of_ble_eq_true rfl) ⟨(by first | (rw [opB_over hwi c_4]; rfl) | (rw [opB, c_14, show decide ((1 : Int32) = 0) = false from by decide, Bool.and_false]; rfl)), rfl, rfl⟩ dX7_isOver_22
theorem fl_X7_draw_7 : Cond.fieldLink RX7 7 "PileRecountModel" "at" "[I" ∈ wsX7_draw := by decide +kernel
theorem hn_X7_draw_X7 : ∀ w ∈ wsX70, w ∈ wsX7_draw := fun _ h => List.mem_cons_of_mem _ (List.mem_append_right _ h)
set_option maxHeartbeats 4000000 in
set_option maxRecDepth 100000 in
theorem c_X7_draw_e (l : Launch) (D : va_G) (z : Nat) (cI cZ cP cR : ClassId) (N : Nat) (F : Nat → va_E) (k f0 hm : Nat) (pn spt wrg rd : Int32) (a ps sl sv sd wy pa nu : Nat → Int32) (n kk cw c0 : Nat) (wi rl sp : Int32) (pd : Nat → Nat → Int32) (od : Nat → Int32) (hM : isMod z cI cZ F k (nI f0) (nI hm) pn spt wrg rd a ps sl sv sd wy pa nu) (hk : k + 9 ≤ N) (hf0 : f0 < 6) (hm6 : hm ≤ 6) (hA : mA a n kk cw c0 wi rl sp pd od) (he : opB wi sp = false ∨ kk = n) : gMi l yX7_draw wsX7_draw ({ frames := 3, cells := 0, slots := 0, locals := 64 }) D z cI cZ cP cR N F [.ref (z + k)] (gRes (-5) N (fun F2 => F2 = F)) 0 0 := by
  refine gMi.of (cc := cX7_draw) (maxL := 1) (ret := (some .int)) (by decide) rfl (Nat.le_of_ble_eq_true rfl) [(0, .ref (z + k))] rfl ?_
  intro pg ev sg mg bel me cg C hR0
  obtain ⟨ha0, ha1, ha2, ha3, ha4, hpd, hpl, hn, hkk, hcw, hcnt, hc0, hsp, hrl, hwi, hod⟩ := id hA
  have h2n := two_lt hn
  refine x_aload_n C (pc := 0) 0 dX7_draw_0 rfl ?_
  refine x_cViR C (pc := 1) (st := []) (c_X7_isOver l D z cI cZ cP cR N F k (nI f0) (nI hm) pn spt wrg rd a ps sl sv sd wy pa nu n kk cw c0 wi rl sp pd od  hM (by omega) hA ) (cwV 0 C.2.2.2.2.1 gX7_draw_X7_isOver rfl rfl rfl hd_X7_isOver ⟨Nat.le_of_ble_eq_true rfl, Nat.le_of_ble_eq_true rfl⟩) (by omega) hM.ob rfl rfl rfl (Nat.le_of_ble_eq_true rfl) dX7_draw_1 ⟨Nat.le_of_ble_eq_true rfl, Nat.le_of_ble_eq_true rfl⟩ ?_
  refine x_bz_ne C (pc := 4) (tgt := 22) dX7_draw_4 (by decide) (fun c_4 => ?_) (fun c_4 => ?_)
  · refine x_bipush C (pc := 22) (v := (-5)) dX7_draw_22 (by decide) ?_
    exact x_iret C hR0 rfl (Nat.le_of_ble_eq_true rfl) (Nat.le_of_ble_eq_true rfl) ⟨rfl, rfl, rfl⟩ dX7_draw_24
  refine x_aload_n C (pc := 7) 0 dX7_draw_7 rfl ?_
  refine x_get C (pc := 8) (q := k) (v := .ref (z + (k + 1))) (ci := 7) rfl hn_X7_draw_X7 0 (by decide) fl_X7_draw_7 rfl (by omega) hM.ob rfl dX7_draw_8 ?_
  refine x_iconst C (pc := 11) (v := 4) dX7_draw_11 (by decide) ?_
  refine x_ialdE C (pc := 12) (q := k + 1) (j := 4) (f := a) (by omega) hM.a rfl (by omega) (by decide) dX7_draw_12 ?_
  refine x_eqi hA.2.2.2.2.1 ?_
  refine x_aload_n C (pc := 13) 0 dX7_draw_13 rfl ?_
  refine x_get C (pc := 14) (q := k) (v := .ref (z + (k + 1))) (ci := 7) rfl hn_X7_draw_X7 0 (by decide) fl_X7_draw_7 rfl (by omega) hM.ob rfl dX7_draw_14 ?_
  refine x_iconst C (pc := 17) (v := 0) dX7_draw_17 (by decide) ?_
  refine x_ialdE C (pc := 18) (q := k + 1) (j := 0) (f := a) (by omega) hM.a rfl (by omega) (by decide) dX7_draw_18 ?_
  refine x_eqi hA.1 ?_
  refine x_icmpN_ne C (a := kk) (b := n) (pc := 19) (tgt := 25) (by omega) (by omega) dX7_draw_19 (by decide) (fun c_19 => absurd c_19 (fun q => he.elim (fun h => by rw [h] at c_4; cases c_4) (fun h => q h))) (fun c_19 => ?_)
  refine x_bipush C (pc := 22) (v := (-5)) dX7_draw_22 (by decide) ?_
  exact x_iret C hR0 rfl (Nat.le_of_ble_eq_true rfl) (Nat.le_of_ble_eq_true rfl) ⟨rfl, rfl, rfl⟩ dX7_draw_24
set_option maxHeartbeats 4000000 in
set_option maxRecDepth 100000 in
theorem c_X7_draw_s (l : Launch) (D : va_G) (z : Nat) (cI cZ cP cR : ClassId) (N : Nat) (F : Nat → va_E) (k f0 hm : Nat) (pn spt wrg rd : Int32) (a ps sl sv sd wy pa nu : Nat → Int32) (n kk cw c0 : Nat) (wi rl sp : Int32) (pd : Nat → Nat → Int32) (od : Nat → Int32) (i : Nat) (hM : isMod z cI cZ F k (nI f0) (nI hm) pn spt wrg rd a ps sl sv sd wy pa nu) (hk : k + 9 ≤ N) (hf0 : f0 < 6) (hm6 : hm ≤ 6) (hA : mA a n kk cw c0 wi rl sp pd od) (ho : opB wi sp = true) (hk1 : kk < n) (hnc : ncG cw (lcgN c0 / 65536 % (n - kk)) n 0 0 = some i) : gMi l yX7_draw wsX7_draw ({ frames := 3, cells := 0, slots := 0, locals := 65 }) D z cI cZ cP cR N F [.ref (z + k)] (gRes (nI i) N (fun F2 => ∃ a2 : Nat → Int32, isMod z cI cZ F2 k (nI (kpF true f0 hm)) (nI (kpM true hm)) pn spt wrg rd a2 (kpP true ps f0 hm a) sl sv sd wy pa nu ∧ mA a2 n (kk + 1) (cw ||| 2 ^ i) (lcgN c0) wi rl sp pd (upd od kk (nI i)) ∧ gFr k (k + 9) F F2)) 0 0 := by
  refine gMi.of (cc := cX7_draw) (maxL := 1) (ret := (some .int)) (by decide) rfl (Nat.le_of_ble_eq_true rfl) [(0, .ref (z + k))] rfl ?_
  intro pg ev sg mg bel me cg C hR0
  obtain ⟨ha0, ha1, ha2, ha3, ha4, hpd, hpl, hn, hkk, hcw, hcnt, hc0, hsp, hrl, hwi, hod⟩ := id hA
  have h2n := two_lt hn
  refine x_aload_n C (pc := 0) 0 dX7_draw_0 rfl ?_
  refine x_cViR C (pc := 1) (st := []) (c_X7_isOver l D z cI cZ cP cR N F k (nI f0) (nI hm) pn spt wrg rd a ps sl sv sd wy pa nu n kk cw c0 wi rl sp pd od  hM (by omega) hA ) (cwV 0 C.2.2.2.2.1 gX7_draw_X7_isOver rfl rfl rfl hd_X7_isOver ⟨Nat.le_of_ble_eq_true rfl, Nat.le_of_ble_eq_true rfl⟩) (by omega) hM.ob rfl rfl rfl (Nat.le_of_ble_eq_true rfl) dX7_draw_1 ⟨Nat.le_of_ble_eq_true rfl, Nat.le_of_ble_eq_true rfl⟩ ?_
  refine x_bz_ne C (pc := 4) (tgt := 22) dX7_draw_4 (by decide) (fun c_4 => absurd c_4 (by rw [ho]; decide)) (fun c_4 => ?_)
  refine x_aload_n C (pc := 7) 0 dX7_draw_7 rfl ?_
  refine x_get C (pc := 8) (q := k) (v := .ref (z + (k + 1))) (ci := 7) rfl hn_X7_draw_X7 0 (by decide) fl_X7_draw_7 rfl (by omega) hM.ob rfl dX7_draw_8 ?_
  refine x_iconst C (pc := 11) (v := 4) dX7_draw_11 (by decide) ?_
  refine x_ialdE C (pc := 12) (q := k + 1) (j := 4) (f := a) (by omega) hM.a rfl (by omega) (by decide) dX7_draw_12 ?_
  refine x_eqi hA.2.2.2.2.1 ?_
  refine x_aload_n C (pc := 13) 0 dX7_draw_13 rfl ?_
  refine x_get C (pc := 14) (q := k) (v := .ref (z + (k + 1))) (ci := 7) rfl hn_X7_draw_X7 0 (by decide) fl_X7_draw_7 rfl (by omega) hM.ob rfl dX7_draw_14 ?_
  refine x_iconst C (pc := 17) (v := 0) dX7_draw_17 (by decide) ?_
  refine x_ialdE C (pc := 18) (q := k + 1) (j := 0) (f := a) (by omega) hM.a rfl (by omega) (by decide) dX7_draw_18 ?_
  refine x_eqi hA.1 ?_
  refine x_icmpN_ne C (a := kk) (b := n) (pc := 19) (tgt := 25) (by omega) (by omega) dX7_draw_19 (by decide) (fun c_19 => ?_) (fun c_19 => absurd c_19 (by omega))
  refine x_aload_n C (pc := 25) 0 dX7_draw_25 rfl ?_
  refine x_cVvE C (pc := 26) (st := []) (c_X7_keep l D z cI cZ cP cR N F k f0 hm pn spt wrg rd a ps sl sv sd wy pa nu   hM (by omega) (by omega) (by omega)  ) (cwV 0 C.2.2.2.2.1 gX7_draw_X7_keep rfl rfl rfl hd_X7_keep ⟨Nat.le_of_ble_eq_true rfl, Nat.le_of_ble_eq_true rfl⟩) (by omega) hM.ob rfl rfl rfl (Nat.le_of_ble_eq_true rfl) dX7_draw_26 ⟨Nat.le_of_ble_eq_true rfl, Nat.le_of_ble_eq_true rfl⟩ (fun F_26 h_26 => ?_)
  obtain ⟨hM_26, fr_26⟩ := h_26
  have kp_26 := kp_lt true (f0 := f0) (hm := hm) (by omega) (by omega)
  refine x_aload_n C (pc := 29) 0 dX7_draw_29 rfl ?_
  refine x_cViE C (pc := 30) (st := []) (c_X7_drawOne l D z cI cZ cP cR N F_26 k (nI (kpF true f0 hm)) (nI (kpM true hm)) pn spt wrg rd a (kpP true ps f0 hm a) sl sv sd wy pa nu n kk cw c0 wi rl sp pd od i hM_26 (by omega) hA hk1 hnc) (cwV 0 C.2.2.2.2.1 gX7_draw_X7_drawOne rfl rfl rfl hd_X7_drawOne ⟨Nat.le_of_ble_eq_true rfl, Nat.le_of_ble_eq_true rfl⟩) (by omega) hM_26.ob rfl rfl rfl (Nat.le_of_ble_eq_true rfl) dX7_draw_30 ⟨Nat.le_of_ble_eq_true rfl, Nat.le_of_ble_eq_true rfl⟩ (fun F_30 h_30 => ?_)
  obtain ⟨a_30, hM_30, hA_30, fr_30⟩ := h_30
  exact x_iret C hR0 rfl (Nat.le_of_ble_eq_true rfl) (Nat.le_of_ble_eq_true rfl) ⟨rfl, rfl, ⟨_, hM_30, hA_30, (gFr.t2 fr_26 fr_30)⟩⟩ dX7_draw_33
set_option maxHeartbeats 4000000 in
set_option maxRecDepth 100000 in
theorem c_X7_count_e1 (l : Launch) (D : va_G) (z : Nat) (cI cZ cP cR : ClassId) (N : Nat) (F : Nat → va_E) (k f0 hm : Nat) (pn spt wrg rd : Int32) (a ps sl sv sd wy pa nu : Nat → Int32) (n kk cw c0 : Nat) (wi rl sp : Int32) (pd : Nat → Nat → Int32) (od : Nat → Int32) (v : Int32) (hM : isMod z cI cZ F k (nI f0) (nI hm) pn spt wrg rd a ps sl sv sd wy pa nu) (hk : k + 9 ≤ N) (hf0 : f0 < 6) (hm6 : hm ≤ 6) (hA : mA a n kk cw c0 wi rl sp pd od) (hv : inP v (nI n) = false) : gMi l yX7_count wsX7_count ({ frames := 2, cells := 0, slots := 0, locals := 43 }) D z cI cZ cP cR N F [.ref (z + k), .int v] (gRes (-1) N (fun F2 => F2 = F)) 0 0 := by
  refine gMi.of (cc := cX7_count) (maxL := 2) (ret := (some .int)) (by decide) rfl (Nat.le_of_ble_eq_true rfl) [(0, .ref (z + k)), (1, .int v)] rfl ?_
  intro pg ev sg mg bel me cg C hR0
  obtain ⟨ha0, ha1, ha2, ha3, ha4, hpd, hpl, hn, hkk, hcw, hcnt, hc0, hsp, hrl, hwi, hod⟩ := id hA
  have h2n := two_lt hn
  refine x_aload_n C (pc := 0) 0 dX7_count_0 rfl ?_
  refine x_iload_n C (pc := 1) 1 dX7_count_1 rfl ?_
  refine x_cViR C (pc := 2) (st := []) (c_X7_isPile l D z cI cZ cP cR N F k (nI f0) (nI hm) pn spt wrg rd a ps sl sv sd wy pa nu n kk cw c0 wi rl sp pd od v hM (by omega) hA ) (cwV 1 C.2.2.2.2.1 gX7_count_X7_isPile rfl rfl rfl hd_X7_isPile ⟨Nat.le_of_ble_eq_true rfl, Nat.le_of_ble_eq_true rfl⟩) (by omega) hM.ob rfl rfl rfl (Nat.le_of_ble_eq_true rfl) dX7_count_2 ⟨Nat.le_of_ble_eq_true rfl, Nat.le_of_ble_eq_true rfl⟩ ?_
  refine x_bz_ne C (pc := 5) (tgt := 10) dX7_count_5 (by decide) (fun c_5 => absurd c_5 (by rw [hv]; decide)) (fun c_5 => ?_)
  refine x_iconst C (pc := 8) (v := (-1)) dX7_count_8 (by decide) ?_
  exact x_iret C hR0 rfl (Nat.le_of_ble_eq_true rfl) (Nat.le_of_ble_eq_true rfl) ⟨rfl, rfl, rfl⟩ dX7_count_9
set_option maxHeartbeats 4000000 in
set_option maxRecDepth 100000 in
theorem c_X7_count_e2 (l : Launch) (D : va_G) (z : Nat) (cI cZ cP cR : ClassId) (N : Nat) (F : Nat → va_E) (k f0 hm : Nat) (pn spt wrg rd : Int32) (a ps sl sv sd wy pa nu : Nat → Int32) (n kk cw c0 : Nat) (wi rl sp : Int32) (pd : Nat → Nat → Int32) (od : Nat → Int32) (v : Nat) (hM : isMod z cI cZ F k (nI f0) (nI hm) pn spt wrg rd a ps sl sv sd wy pa nu) (hk : k + 9 ≤ N) (hf0 : f0 < 6) (hm6 : hm ≤ 6) (hA : mA a n kk cw c0 wi rl sp pd od) (hv : inP (nI v) (nI n) = true) (hvn : v < n) (he : opB wi sp = false ∨ cw.testBit v = true) : gMi l yX7_count wsX7_count ({ frames := 3, cells := 0, slots := 0, locals := 64 }) D z cI cZ cP cR N F [.ref (z + k), .int (nI v)] (gRes (-5) N (fun F2 => F2 = F)) 0 0 := by
  refine gMi.of (cc := cX7_count) (maxL := 2) (ret := (some .int)) (by decide) rfl (Nat.le_of_ble_eq_true rfl) [(0, .ref (z + k)), (1, .int (nI v))] rfl ?_
  intro pg ev sg mg bel me cg C hR0
  obtain ⟨ha0, ha1, ha2, ha3, ha4, hpd, hpl, hn, hkk, hcw, hcnt, hc0, hsp, hrl, hwi, hod⟩ := id hA
  have h2n := two_lt hn
  refine x_aload_n C (pc := 0) 0 dX7_count_0 rfl ?_
  refine x_iload_n C (pc := 1) 1 dX7_count_1 rfl ?_
  refine x_cViR C (pc := 2) (st := []) (c_X7_isPile l D z cI cZ cP cR N F k (nI f0) (nI hm) pn spt wrg rd a ps sl sv sd wy pa nu n kk cw c0 wi rl sp pd od (nI v) hM (by omega) hA ) (cwV 1 C.2.2.2.2.1 gX7_count_X7_isPile rfl rfl rfl hd_X7_isPile ⟨Nat.le_of_ble_eq_true rfl, Nat.le_of_ble_eq_true rfl⟩) (by omega) hM.ob rfl rfl rfl (Nat.le_of_ble_eq_true rfl) dX7_count_2 ⟨Nat.le_of_ble_eq_true rfl, Nat.le_of_ble_eq_true rfl⟩ ?_
  refine x_bz_ne C (pc := 5) (tgt := 10) dX7_count_5 (by decide) (fun c_5 => ?_) (fun c_5 => absurd c_5 (by rw [hv]; decide))
  refine x_aload_n C (pc := 10) 0 dX7_count_10 rfl ?_
  refine x_cViR C (pc := 11) (st := []) (c_X7_isOver l D z cI cZ cP cR N F k (nI f0) (nI hm) pn spt wrg rd a ps sl sv sd wy pa nu n kk cw c0 wi rl sp pd od  hM (by omega) hA ) (cwV 0 C.2.2.2.2.1 gX7_count_X7_isOver rfl rfl rfl hd_X7_isOver ⟨Nat.le_of_ble_eq_true rfl, Nat.le_of_ble_eq_true rfl⟩) (by omega) hM.ob rfl rfl rfl (Nat.le_of_ble_eq_true rfl) dX7_count_11 ⟨Nat.le_of_ble_eq_true rfl, Nat.le_of_ble_eq_true rfl⟩ ?_
  refine x_bz_ne C (pc := 14) (tgt := 25) dX7_count_14 (by decide) (fun c_14 => ?_) (fun c_14 => ?_)
  · refine x_bipush C (pc := 25) (v := (-5)) dX7_count_25 (by decide) ?_
    exact x_iret C hR0 rfl (Nat.le_of_ble_eq_true rfl) (Nat.le_of_ble_eq_true rfl) ⟨rfl, rfl, rfl⟩ dX7_count_27
  refine x_aload_n C (pc := 17) 0 dX7_count_17 rfl ?_
  refine x_iload_n C (pc := 18) 1 dX7_count_18 rfl ?_
  refine x_cViR C (pc := 19) (st := []) (c_X7_isCounted l D z cI cZ cP cR N F k (nI f0) (nI hm) pn spt wrg rd a ps sl sv sd wy pa nu n kk cw c0 wi rl sp pd od v hM (by omega) hA (by omega)) (cwV 1 C.2.2.2.2.1 gX7_count_X7_isCounted rfl rfl rfl hd_X7_isCounted ⟨Nat.le_of_ble_eq_true rfl, Nat.le_of_ble_eq_true rfl⟩) (by omega) hM.ob rfl rfl rfl (Nat.le_of_ble_eq_true rfl) dX7_count_19 ⟨Nat.le_of_ble_eq_true rfl, Nat.le_of_ble_eq_true rfl⟩ ?_
  refine x_bz_eq C (pc := 22) (tgt := 28) dX7_count_22 (by decide) (fun c_22 => absurd c_22 (fun q => he.elim (fun h => by rw [h] at c_14; cases c_14) (fun h => by rw [h] at q; cases q))) (fun c_22 => ?_)
  refine x_bipush C (pc := 25) (v := (-5)) dX7_count_25 (by decide) ?_
  exact x_iret C hR0 rfl (Nat.le_of_ble_eq_true rfl) (Nat.le_of_ble_eq_true rfl) ⟨rfl, rfl, rfl⟩ dX7_count_27
theorem fl_X7_count_7 : Cond.fieldLink RX7 7 "PileRecountModel" "at" "[I" ∈ wsX7_count := by decide +kernel
theorem hn_X7_count_X7 : ∀ w ∈ wsX70, w ∈ wsX7_count := fun _ h => List.mem_cons_of_mem _ (List.mem_append_right _ h)
set_option maxHeartbeats 4000000 in
set_option maxRecDepth 100000 in
theorem c_X7_count_s (l : Launch) (D : va_G) (z : Nat) (cI cZ cP cR : ClassId) (N : Nat) (F : Nat → va_E) (k f0 hm : Nat) (pn spt wrg rd : Int32) (a ps sl sv sd wy pa nu : Nat → Int32) (n kk cw c0 : Nat) (wi rl sp : Int32) (pd : Nat → Nat → Int32) (od : Nat → Int32) (v : Nat) (hM : isMod z cI cZ F k (nI f0) (nI hm) pn spt wrg rd a ps sl sv sd wy pa nu) (hk : k + 9 ≤ N) (hf0 : f0 < 6) (hm6 : hm ≤ 6) (hA : mA a n kk cw c0 wi rl sp pd od) (hv : inP (nI v) (nI n) = true) (hvn : v < n) (ho : opB wi sp = true) (hb : cw.testBit v = false) : gMi l yX7_count wsX7_count ({ frames := 3, cells := 0, slots := 0, locals := 64 }) D z cI cZ cP cR N F [.ref (z + k), .int (nI v)] (gRes (nI (kk + 1)) N (fun F2 => ∃ a2 : Nat → Int32, isMod z cI cZ F2 k (nI (kpF true f0 hm)) (nI (kpM true hm)) pn spt wrg rd a2 (kpP true ps f0 hm a) sl sv sd wy pa nu ∧ mA a2 n (kk + 1) (cw ||| 2 ^ v) c0 wi rl sp pd (upd od kk (nI v)) ∧ gFr k (k + 9) F F2)) 0 0 := by
  refine gMi.of (cc := cX7_count) (maxL := 2) (ret := (some .int)) (by decide) rfl (Nat.le_of_ble_eq_true rfl) [(0, .ref (z + k)), (1, .int (nI v))] rfl ?_
  intro pg ev sg mg bel me cg C hR0
  obtain ⟨ha0, ha1, ha2, ha3, ha4, hpd, hpl, hn, hkk, hcw, hcnt, hc0, hsp, hrl, hwi, hod⟩ := id hA
  have h2n := two_lt hn
  refine x_aload_n C (pc := 0) 0 dX7_count_0 rfl ?_
  refine x_iload_n C (pc := 1) 1 dX7_count_1 rfl ?_
  refine x_cViR C (pc := 2) (st := []) (c_X7_isPile l D z cI cZ cP cR N F k (nI f0) (nI hm) pn spt wrg rd a ps sl sv sd wy pa nu n kk cw c0 wi rl sp pd od (nI v) hM (by omega) hA ) (cwV 1 C.2.2.2.2.1 gX7_count_X7_isPile rfl rfl rfl hd_X7_isPile ⟨Nat.le_of_ble_eq_true rfl, Nat.le_of_ble_eq_true rfl⟩) (by omega) hM.ob rfl rfl rfl (Nat.le_of_ble_eq_true rfl) dX7_count_2 ⟨Nat.le_of_ble_eq_true rfl, Nat.le_of_ble_eq_true rfl⟩ ?_
  refine x_bz_ne C (pc := 5) (tgt := 10) dX7_count_5 (by decide) (fun c_5 => ?_) (fun c_5 => absurd c_5 (by rw [hv]; decide))
  refine x_aload_n C (pc := 10) 0 dX7_count_10 rfl ?_
  refine x_cViR C (pc := 11) (st := []) (c_X7_isOver l D z cI cZ cP cR N F k (nI f0) (nI hm) pn spt wrg rd a ps sl sv sd wy pa nu n kk cw c0 wi rl sp pd od  hM (by omega) hA ) (cwV 0 C.2.2.2.2.1 gX7_count_X7_isOver rfl rfl rfl hd_X7_isOver ⟨Nat.le_of_ble_eq_true rfl, Nat.le_of_ble_eq_true rfl⟩) (by omega) hM.ob rfl rfl rfl (Nat.le_of_ble_eq_true rfl) dX7_count_11 ⟨Nat.le_of_ble_eq_true rfl, Nat.le_of_ble_eq_true rfl⟩ ?_
  refine x_bz_ne C (pc := 14) (tgt := 25) dX7_count_14 (by decide) (fun c_14 => absurd c_14 (by rw [ho]; decide)) (fun c_14 => ?_)
  refine x_aload_n C (pc := 17) 0 dX7_count_17 rfl ?_
  refine x_iload_n C (pc := 18) 1 dX7_count_18 rfl ?_
  refine x_cViR C (pc := 19) (st := []) (c_X7_isCounted l D z cI cZ cP cR N F k (nI f0) (nI hm) pn spt wrg rd a ps sl sv sd wy pa nu n kk cw c0 wi rl sp pd od v hM (by omega) hA (by omega)) (cwV 1 C.2.2.2.2.1 gX7_count_X7_isCounted rfl rfl rfl hd_X7_isCounted ⟨Nat.le_of_ble_eq_true rfl, Nat.le_of_ble_eq_true rfl⟩) (by omega) hM.ob rfl rfl rfl (Nat.le_of_ble_eq_true rfl) dX7_count_19 ⟨Nat.le_of_ble_eq_true rfl, Nat.le_of_ble_eq_true rfl⟩ ?_
  refine x_bz_eq C (pc := 22) (tgt := 28) dX7_count_22 (by decide) (fun c_22 => ?_) (fun c_22 => absurd c_22 (by rw [hb]; decide))
  refine x_aload_n C (pc := 28) 0 dX7_count_28 rfl ?_
  refine x_cVvE C (pc := 29) (st := []) (c_X7_keep l D z cI cZ cP cR N F k f0 hm pn spt wrg rd a ps sl sv sd wy pa nu   hM (by omega) (by omega) (by omega)  ) (cwV 0 C.2.2.2.2.1 gX7_count_X7_keep rfl rfl rfl hd_X7_keep ⟨Nat.le_of_ble_eq_true rfl, Nat.le_of_ble_eq_true rfl⟩) (by omega) hM.ob rfl rfl rfl (Nat.le_of_ble_eq_true rfl) dX7_count_29 ⟨Nat.le_of_ble_eq_true rfl, Nat.le_of_ble_eq_true rfl⟩ (fun F_29 h_29 => ?_)
  obtain ⟨hM_29, fr_29⟩ := h_29
  have kp_29 := kp_lt true (f0 := f0) (hm := hm) (by omega) (by omega)
  refine x_aload_n C (pc := 32) 0 dX7_count_32 rfl ?_
  refine x_iload_n C (pc := 33) 1 dX7_count_33 rfl ?_
  refine x_cVvE C (pc := 34) (st := []) (c_X7_countOne l D z cI cZ cP cR N F_29 k (nI (kpF true f0 hm)) (nI (kpM true hm)) pn spt wrg rd a (kpP true ps f0 hm a) sl sv sd wy pa nu n kk cw c0 wi rl sp pd od v hM_29 (by omega) hA (by omega) hb) (cwV 1 C.2.2.2.2.1 gX7_count_X7_countOne rfl rfl rfl hd_X7_countOne ⟨Nat.le_of_ble_eq_true rfl, Nat.le_of_ble_eq_true rfl⟩) (by omega) hM_29.ob rfl rfl rfl (Nat.le_of_ble_eq_true rfl) dX7_count_34 ⟨Nat.le_of_ble_eq_true rfl, Nat.le_of_ble_eq_true rfl⟩ (fun F_34 h_34 => ?_)
  obtain ⟨a_34, hM_34, hA_34, fr_34⟩ := h_34
  refine x_aload_n C (pc := 37) 0 dX7_count_37 rfl ?_
  refine x_get C (pc := 38) (q := k) (v := .ref (z + (k + 1))) (ci := 7) rfl hn_X7_count_X7 0 (by decide) fl_X7_count_7 rfl (by omega) hM_34.ob rfl dX7_count_38 ?_
  refine x_iconst C (pc := 41) (v := 4) dX7_count_41 (by decide) ?_
  refine x_ialdE C (pc := 42) (q := k + 1) (j := 4) (f := a_34) (by omega) hM_34.a rfl (by omega) (by decide) dX7_count_42 ?_
  refine x_eqi hA_34.2.2.2.2.1 ?_
  exact x_iret C hR0 rfl (Nat.le_of_ble_eq_true rfl) (Nat.le_of_ble_eq_true rfl) ⟨rfl, rfl, ⟨_, hM_34, hA_34, (gFr.t2 fr_29 fr_34)⟩⟩ dX7_count_43
theorem fl_X7_drawOn_7 : Cond.fieldLink RX7 7 "PileRecountModel" "at" "[I" ∈ wsX7_drawOn := by decide +kernel
theorem hn_X7_drawOn_X7 : ∀ w ∈ wsX70, w ∈ wsX7_drawOn := fun _ h => List.mem_cons_of_mem _ (List.mem_append_right _ h)
set_option maxHeartbeats 4000000 in
set_option maxRecDepth 100000 in
theorem c_X7_drawOn (l : Launch) (D : va_G) (z : Nat) (cI cZ cP cR : ClassId) (N : Nat) (F : Nat → va_E) (k : Nat) (pf pm pn spt wrg rd : Int32) (a ps sl sv sd wy pa nu : Nat → Int32) (n kk cw c0 : Nat) (wi rl sp : Int32) (pd : Nat → Nat → Int32) (od : Nat → Int32) (pi : Nat → Nat) (hM : isMod z cI cZ F k pf pm pn spt wrg rd a ps sl sv sd wy pa nu) (hk : k + 9 ≤ N) (hA : mA a n kk cw c0 wi rl sp pd od) (hpi : rkPi (fun i => swF wi (pd i)) n pi) : gMi l yX7_drawOn wsX7_drawOn ({ frames := 10, cells := 0, slots := 0, locals := 221 }) D z cI cZ cP cR N F [.ref (z + k)] (gRes (nI ((duG (fun w => decide (rbF wi pd pi n w w ≤ rl)) n (n - kk) kk cw c0 od).1 - kk)) N (fun F2 => ∃ a2 : Nat → Int32, isMod z cI cZ F2 k pf pm pn spt wrg rd a2 ps sl sv sd wy pa nu ∧ mA a2 n ((duG (fun w => decide (rbF wi pd pi n w w ≤ rl)) n (n - kk) kk cw c0 od).1) ((duG (fun w => decide (rbF wi pd pi n w w ≤ rl)) n (n - kk) kk cw c0 od).2.1) ((duG (fun w => decide (rbF wi pd pi n w w ≤ rl)) n (n - kk) kk cw c0 od).2.2.1) wi rl sp pd ((duG (fun w => decide (rbF wi pd pi n w w ≤ rl)) n (n - kk) kk cw c0 od).2.2.2) ∧ gFr k (k + 9) F F2)) 0 0 := by
  refine gMi.of (cc := cX7_drawOn) (maxL := 2) (ret := (some .int)) (by decide) rfl (Nat.le_of_ble_eq_true rfl) [(0, .ref (z + k))] rfl ?_
  intro pg ev sg mg bel me cg C hR0
  obtain ⟨ha0, ha1, ha2, ha3, ha4, hpd, hpl, hn, hkk, hcw, hcnt, hc0, hsp, hrl, hwi, hod⟩ := id hA
  have h2n := two_lt hn
  refine x_iconst C (pc := 0) (v := 0) dX7_drawOn_0 (by decide) ?_
  refine x_istore_n C (pc := 1) [(1, .int 0), (0, .ref (z + k))] dX7_drawOn_1 (by decide) rfl ?_
  refine x_sub [1, 0] _ rfl ?_
  refine x_loop6 (A1 := Nat) (A2 := Nat) (A3 := Nat) (A4 := Nat → Int32) (A5 := Nat → Int32) (A6 := Nat → va_E) (pc := 2) (st := []) (fun d w c o b G => n - (kk + d)) (fun d w c o b G => (kk + d ≤ n) ∧ (isMod z cI cZ G k pf pm pn spt wrg rd b ps sl sv sd wy pa nu) ∧ (mA b n (kk + d) w c wi rl sp pd o) ∧ (gFr k (k + 9) F G) ∧ (duG (fun w => decide (rbF wi pd pi n w w ≤ rl)) n (n - (kk + d)) (kk + d) w c o = duG (fun w => decide (rbF wi pd pi n w w ≤ rl)) n (n - kk) kk cw c0 od)) (fun d w c o b G => N) (fun d w c o b G => G) (fun d w c o b G => 0) (fun d w c o b G => 0) (fun d w c o b G => [(0, .ref (z + k)), (1, .int (nI d))]) 0 cw c0 od a F ⟨hkk, hM, hA, gFr.rf, rfl⟩ rfl rfl rfl rfl rfl ?_
  rintro d w c o b G ⟨hd, hG, hA2, hfr, hdu⟩ ih_2
  try dsimp only at ih_2
  have hcnt2 := hA2.2.2.2.2.2.2.2.2.2.2.1
  refine x_aload_n C (pc := 2) 0 dX7_drawOn_2 rfl ?_
  refine x_cViR C (pc := 3) (st := []) (c_X7_mayStop l D z cI cZ cP cR N G k pf pm pn spt wrg rd b ps sl sv sd wy pa nu n (kk + d) w c wi rl sp pd o pi hG (by omega) hA2 hpi) (cwV 0 C.2.2.2.2.1 gX7_drawOn_X7_mayStop rfl rfl rfl hd_X7_mayStop ⟨Nat.le_of_ble_eq_true rfl, Nat.le_of_ble_eq_true rfl⟩) (by omega) hG.ob rfl rfl rfl (Nat.le_of_ble_eq_true rfl) dX7_drawOn_3 ⟨Nat.le_of_ble_eq_true rfl, Nat.le_of_ble_eq_true rfl⟩ ?_
  refine x_bz_ne C (pc := 6) (tgt := 35) dX7_drawOn_6 (by decide) (fun c_6 => ?_) (fun c_6 => ?_)
  · have hfin : (kk + d, w, c, o) = duG (fun w => decide (rbF wi pd pi n w w ≤ rl)) n (n - kk) kk cw c0 od := by rw [← hdu]; cases hq : n - (kk + d) with
      | zero => rfl
      | succ f => rw [duG, if_pos c_6]
    refine x_iload_n C (pc := 35) 1 dX7_drawOn_35 rfl ?_
    exact x_iret C hR0 rfl (Nat.le_of_ble_eq_true rfl) (Nat.le_of_ble_eq_true rfl) ⟨(by rw [← hfin]; show nI d = nI (kk + d - kk); rw [Nat.add_sub_cancel_left]), rfl, (by rw [← hfin]; exact ⟨_, hG, hA2, hfr⟩)⟩ dX7_drawOn_36
  refine x_aload_n C (pc := 9) 0 dX7_drawOn_9 rfl ?_
  refine x_get C (pc := 10) (q := k) (v := .ref (z + (k + 1))) (ci := 7) rfl hn_X7_drawOn_X7 0 (by decide) fl_X7_drawOn_7 rfl (by omega) hG.ob rfl dX7_drawOn_10 ?_
  refine x_iconst C (pc := 13) (v := 4) dX7_drawOn_13 (by decide) ?_
  refine x_ialdE C (pc := 14) (q := k + 1) (j := 4) (f := b) (by omega) hG.a rfl (by omega) (by decide) dX7_drawOn_14 ?_
  refine x_eqi hA2.2.2.2.2.1 ?_
  refine x_aload_n C (pc := 15) 0 dX7_drawOn_15 rfl ?_
  refine x_get C (pc := 16) (q := k) (v := .ref (z + (k + 1))) (ci := 7) rfl hn_X7_drawOn_X7 0 (by decide) fl_X7_drawOn_7 rfl (by omega) hG.ob rfl dX7_drawOn_16 ?_
  refine x_iconst C (pc := 19) (v := 0) dX7_drawOn_19 (by decide) ?_
  refine x_ialdE C (pc := 20) (q := k + 1) (j := 0) (f := b) (by omega) hG.a rfl (by omega) (by decide) dX7_drawOn_20 ?_
  refine x_eqi hA2.1 ?_
  refine x_icmpN_ge C (a := (kk + d)) (b := n) (pc := 21) (tgt := 35) (by omega) (by omega) dX7_drawOn_21 (by decide) (fun c_21 => ?_) (fun c_21 => ?_)
  · have hfin : (kk + d, w, c, o) = duG (fun w => decide (rbF wi pd pi n w w ≤ rl)) n (n - kk) kk cw c0 od := by rw [← hdu, show n - (kk + d) = 0 by omega]; rfl
    refine x_iload_n C (pc := 35) 1 dX7_drawOn_35 rfl ?_
    exact x_iret C hR0 rfl (Nat.le_of_ble_eq_true rfl) (Nat.le_of_ble_eq_true rfl) ⟨(by rw [← hfin]; show nI d = nI (kk + d - kk); rw [Nat.add_sub_cancel_left]), rfl, (by rw [← hfin]; exact ⟨_, hG, hA2, hfr⟩)⟩ dX7_drawOn_36
  obtain ⟨i, hnc, hin, hti⟩ := ncG_ex0 (pl := lcgN c / 65536 % (n - (kk + d))) hcnt2 (Nat.mod_lt _ (by omega))
  have hst : duG (fun w => decide (rbF wi pd pi n w w ≤ rl)) n (n - (kk + d)) (kk + d) w c o = duG (fun w => decide (rbF wi pd pi n w w ≤ rl)) n (n - (kk + (d + 1))) (kk + (d + 1)) (w ||| 2 ^ i) (lcgN c) (upd o (kk + d) (nI i)) := by rw [show n - (kk + d) = n - (kk + (d + 1)) + 1 by omega, duG, if_neg (by rw [c_6]; decide), hnc]; rfl
  refine x_aload_n C (pc := 24) 0 dX7_drawOn_24 rfl ?_
  refine x_cViE C (pc := 25) (st := []) (c_X7_drawOne l D z cI cZ cP cR N G k pf pm pn spt wrg rd b ps sl sv sd wy pa nu n (kk + d) w c wi rl sp pd o i hG (by omega) hA2 (by omega) hnc) (cwV 0 C.2.2.2.2.1 gX7_drawOn_X7_drawOne rfl rfl rfl hd_X7_drawOne ⟨Nat.le_of_ble_eq_true rfl, Nat.le_of_ble_eq_true rfl⟩) (by omega) hG.ob rfl rfl rfl (Nat.le_of_ble_eq_true rfl) dX7_drawOn_25 ⟨Nat.le_of_ble_eq_true rfl, Nat.le_of_ble_eq_true rfl⟩ (fun F_25 h_25 => ?_)
  obtain ⟨a_25, hG_25, hA_25, fr_25⟩ := h_25
  refine x_pop C (pc := 28) dX7_drawOn_28 rfl ?_
  refine x_iinc C (pc := 29) 1 [(1, .int (nI (d + 1))), (0, .ref (z + k))] dX7_drawOn_29 rfl (nI_inc d) (by decide) rfl ?_
  refine x_goto C (pc := 32) (tgt := 2) dX7_drawOn_32 (by decide) ?_
  exact x_sub [1, 0] _ rfl (ih_2 (d + 1) (w ||| 2 ^ i) (lcgN c) (upd o (kk + d) (nI i)) a_25 F_25 ⟨(by omega), hG_25, hA_25, (gFr.t2 hfr fr_25), (hst.symm.trans hdu)⟩ (by omega))
set_option maxHeartbeats 4000000 in
set_option maxRecDepth 100000 in
theorem c_X7_finish_e1 (l : Launch) (D : va_G) (z : Nat) (cI cZ cP cR : ClassId) (N : Nat) (F : Nat → va_E) (k f0 hm : Nat) (pn spt wrg rd : Int32) (a ps sl sv sd wy pa nu : Nat → Int32) (n kk cw c0 : Nat) (wi rl sp : Int32) (pd : Nat → Nat → Int32) (od : Nat → Int32) (pi : Nat → Nat) (hM : isMod z cI cZ F k (nI f0) (nI hm) pn spt wrg rd a ps sl sv sd wy pa nu) (hk : k + 9 ≤ N) (hf0 : f0 < 6) (hm6 : hm ≤ 6) (hA : mA a n kk cw c0 wi rl sp pd od) (hpi : rkPi (fun i => swF wi (pd i)) n pi) (he : opB wi sp = false) : gMi l yX7_finish wsX7_finish ({ frames := 3, cells := 0, slots := 0, locals := 64 }) D z cI cZ cP cR N F [.ref (z + k)] (gRes (-5) N (fun F2 => F2 = F)) 0 0 := by
  refine gMi.of (cc := cX7_finish) (maxL := 3) (ret := (some .int)) (by decide) rfl (Nat.le_of_ble_eq_true rfl) [(0, .ref (z + k))] rfl ?_
  intro pg ev sg mg bel me cg C hR0
  obtain ⟨ha0, ha1, ha2, ha3, ha4, hpd, hpl, hn, hkk, hcw, hcnt, hc0, hsp, hrl, hwi, hod⟩ := id hA
  have h2n := two_lt hn
  refine x_aload_n C (pc := 0) 0 dX7_finish_0 rfl ?_
  refine x_cViR C (pc := 1) (st := []) (c_X7_isOver l D z cI cZ cP cR N F k (nI f0) (nI hm) pn spt wrg rd a ps sl sv sd wy pa nu n kk cw c0 wi rl sp pd od  hM (by omega) hA ) (cwV 0 C.2.2.2.2.1 gX7_finish_X7_isOver rfl rfl rfl hd_X7_isOver ⟨Nat.le_of_ble_eq_true rfl, Nat.le_of_ble_eq_true rfl⟩) (by omega) hM.ob rfl rfl rfl (Nat.le_of_ble_eq_true rfl) dX7_finish_1 ⟨Nat.le_of_ble_eq_true rfl, Nat.le_of_ble_eq_true rfl⟩ ?_
  refine x_bz_eq C (pc := 4) (tgt := 10) dX7_finish_4 (by decide) (fun c_4 => absurd c_4 (by rw [he]; decide)) (fun c_4 => ?_)
  refine x_bipush C (pc := 7) (v := (-5)) dX7_finish_7 (by decide) ?_
  exact x_iret C hR0 rfl (Nat.le_of_ble_eq_true rfl) (Nat.le_of_ble_eq_true rfl) ⟨rfl, rfl, rfl⟩ dX7_finish_9
set_option maxHeartbeats 4000000 in
set_option maxRecDepth 100000 in
theorem c_X7_finish_e2 (l : Launch) (D : va_G) (z : Nat) (cI cZ cP cR : ClassId) (N : Nat) (F : Nat → va_E) (k f0 hm : Nat) (pn spt wrg rd : Int32) (a ps sl sv sd wy pa nu : Nat → Int32) (n kk cw c0 : Nat) (wi rl sp : Int32) (pd : Nat → Nat → Int32) (od : Nat → Int32) (pi : Nat → Nat) (hM : isMod z cI cZ F k (nI f0) (nI hm) pn spt wrg rd a ps sl sv sd wy pa nu) (hk : k + 9 ≤ N) (hf0 : f0 < 6) (hm6 : hm ≤ 6) (hA : mA a n kk cw c0 wi rl sp pd od) (hpi : rkPi (fun i => swF wi (pd i)) n pi) (ho : opB wi sp = true) (hm_ : decide (rbF wi pd pi n (duG (fun w => decide (rbF wi pd pi n w w ≤ rl)) n (n - kk) kk cw c0 od).2.1 (duG (fun w => decide (rbF wi pd pi n w w ≤ rl)) n (n - kk) kk cw c0 od).2.1 ≤ rl) = false) : gMi l yX7_finish wsX7_finish ({ frames := 11, cells := 0, slots := 0, locals := 242 }) D z cI cZ cP cR N F [.ref (z + k)] (gRes (-5) N (fun F2 => ∃ sd2 : Nat → Int32, isMod z cI cZ F2 k (nI f0) (nI hm) pn spt wrg rd a ps sl sv sd2 wy pa nu ∧ gFr k (k + 9) F F2)) 0 0 := by
  refine gMi.of (cc := cX7_finish) (maxL := 3) (ret := (some .int)) (by decide) rfl (Nat.le_of_ble_eq_true rfl) [(0, .ref (z + k))] rfl ?_
  intro pg ev sg mg bel me cg C hR0
  obtain ⟨ha0, ha1, ha2, ha3, ha4, hpd, hpl, hn, hkk, hcw, hcnt, hc0, hsp, hrl, hwi, hod⟩ := id hA
  have h2n := two_lt hn
  refine x_aload_n C (pc := 0) 0 dX7_finish_0 rfl ?_
  refine x_cViR C (pc := 1) (st := []) (c_X7_isOver l D z cI cZ cP cR N F k (nI f0) (nI hm) pn spt wrg rd a ps sl sv sd wy pa nu n kk cw c0 wi rl sp pd od  hM (by omega) hA ) (cwV 0 C.2.2.2.2.1 gX7_finish_X7_isOver rfl rfl rfl hd_X7_isOver ⟨Nat.le_of_ble_eq_true rfl, Nat.le_of_ble_eq_true rfl⟩) (by omega) hM.ob rfl rfl rfl (Nat.le_of_ble_eq_true rfl) dX7_finish_1 ⟨Nat.le_of_ble_eq_true rfl, Nat.le_of_ble_eq_true rfl⟩ ?_
  refine x_bz_eq C (pc := 4) (tgt := 10) dX7_finish_4 (by decide) (fun c_4 => ?_) (fun c_4 => absurd c_4 (by rw [ho]; decide))
  refine x_aload_n C (pc := 10) 0 dX7_finish_10 rfl ?_
  refine x_cVvE C (pc := 11) (st := []) (c_X7_layAside l D z cI cZ cP cR N F k (nI f0) (nI hm) pn spt wrg rd a ps sl sv sd wy pa nu hM (by omega)) (cwV 0 C.2.2.2.2.1 gX7_finish_X7_layAside rfl rfl rfl hd_X7_layAside ⟨Nat.le_of_ble_eq_true rfl, Nat.le_of_ble_eq_true rfl⟩) (by omega) hM.ob rfl rfl rfl (Nat.le_of_ble_eq_true rfl) dX7_finish_11 ⟨Nat.le_of_ble_eq_true rfl, Nat.le_of_ble_eq_true rfl⟩ (fun F_11 h_11 => ?_)
  obtain ⟨hM_11, fr_11⟩ := h_11
  refine x_aload_n C (pc := 14) 0 dX7_finish_14 rfl ?_
  refine x_cViE C (pc := 15) (st := []) (c_X7_drawOn l D z cI cZ cP cR N F_11 k (nI f0) (nI hm) pn spt wrg rd a ps sl sv (cpA sd a 65) wy pa nu n kk cw c0 wi rl sp pd od pi hM_11 (by omega) hA hpi) (cwV 0 C.2.2.2.2.1 gX7_finish_X7_drawOn rfl rfl rfl hd_X7_drawOn ⟨Nat.le_of_ble_eq_true rfl, Nat.le_of_ble_eq_true rfl⟩) (by omega) hM_11.ob rfl rfl rfl (Nat.le_of_ble_eq_true rfl) dX7_finish_15 ⟨Nat.le_of_ble_eq_true rfl, Nat.le_of_ble_eq_true rfl⟩ (fun F_15 h_15 => ?_)
  obtain ⟨a_15, hM_15, hA_15, fr_15⟩ := h_15
  refine x_pop C (pc := 18) dX7_finish_18 rfl ?_
  refine x_aload_n C (pc := 19) 0 dX7_finish_19 rfl ?_
  refine x_cViR C (pc := 20) (st := []) (c_X7_mayStop l D z cI cZ cP cR N F_15 k (nI f0) (nI hm) pn spt wrg rd a_15 ps sl sv (cpA sd a 65) wy pa nu n ((duG (fun w => decide (rbF wi pd pi n w w ≤ rl)) n (n - kk) kk cw c0 od).1) ((duG (fun w => decide (rbF wi pd pi n w w ≤ rl)) n (n - kk) kk cw c0 od).2.1) ((duG (fun w => decide (rbF wi pd pi n w w ≤ rl)) n (n - kk) kk cw c0 od).2.2.1) wi rl sp pd ((duG (fun w => decide (rbF wi pd pi n w w ≤ rl)) n (n - kk) kk cw c0 od).2.2.2) pi hM_15 (by omega) hA_15 hpi) (cwV 0 C.2.2.2.2.1 gX7_finish_X7_mayStop rfl rfl rfl hd_X7_mayStop ⟨Nat.le_of_ble_eq_true rfl, Nat.le_of_ble_eq_true rfl⟩) (by omega) hM_15.ob rfl rfl rfl (Nat.le_of_ble_eq_true rfl) dX7_finish_20 ⟨Nat.le_of_ble_eq_true rfl, Nat.le_of_ble_eq_true rfl⟩ ?_
  refine x_istore_n C (pc := 23) [(1, .int (bz (decide (rbF wi pd pi n ((duG (fun w => decide (rbF wi pd pi n w w ≤ rl)) n (n - kk) kk cw c0 od).2.1) ((duG (fun w => decide (rbF wi pd pi n w w ≤ rl)) n (n - kk) kk cw c0 od).2.1) ≤ rl)))), (0, .ref (z + k))] dX7_finish_23 (by decide) rfl ?_
  refine x_aload_n C (pc := 24) 1 dX7_finish_24 rfl ?_
  refine x_cVvE C (pc := 25) (st := []) (c_X7_layBack l D z cI cZ cP cR N F_15 k (nI f0) (nI hm) pn spt wrg rd a_15 ps sl sv (cpA sd a 65) wy pa nu hM_15 (by omega)) (cwV 0 C.2.2.2.2.1 gX7_finish_X7_layBack rfl rfl rfl hd_X7_layBack ⟨Nat.le_of_ble_eq_true rfl, Nat.le_of_ble_eq_true rfl⟩) (by omega) hM_15.ob rfl rfl rfl (Nat.le_of_ble_eq_true rfl) dX7_finish_25 ⟨Nat.le_of_ble_eq_true rfl, Nat.le_of_ble_eq_true rfl⟩ (fun F_25 h_25 => ?_)
  obtain ⟨hM_25, fr_25⟩ := h_25
  have hE_28 := hM_25.ext_a (a' := a) (fun i hi => (cpA_lt hi).trans (cpA_lt hi))
  refine x_iload_n C (pc := 28) 0 dX7_finish_28 rfl ?_
  refine x_bz_ne C (pc := 29) (tgt := 35) dX7_finish_29 (by decide) (fun c_29 => absurd c_29 (by rw [hm_]; decide)) (fun c_29 => ?_)
  refine x_bipush C (pc := 32) (v := (-5)) dX7_finish_32 (by decide) ?_
  exact x_iret C hR0 rfl (Nat.le_of_ble_eq_true rfl) (Nat.le_of_ble_eq_true rfl) ⟨rfl, rfl, ⟨_, hE_28, (gFr.t2 (gFr.t2 fr_11 fr_15) fr_25)⟩⟩ dX7_finish_34
theorem fl_X7_finish_7 : Cond.fieldLink RX7 7 "PileRecountModel" "at" "[I" ∈ wsX7_finish := by decide +kernel
theorem hn_X7_finish_X7 : ∀ w ∈ wsX70, w ∈ wsX7_finish := fun _ h => List.mem_cons_of_mem _ (List.mem_append_right _ h)
set_option maxHeartbeats 4000000 in
set_option maxRecDepth 100000 in
theorem c_X7_finish_s (l : Launch) (D : va_G) (z : Nat) (cI cZ cP cR : ClassId) (N : Nat) (F : Nat → va_E) (k f0 hm : Nat) (pn spt wrg rd : Int32) (a ps sl sv sd wy pa nu : Nat → Int32) (n kk cw c0 : Nat) (wi rl sp : Int32) (pd : Nat → Nat → Int32) (od : Nat → Int32) (pi : Nat → Nat) (hM : isMod z cI cZ F k (nI f0) (nI hm) pn spt wrg rd a ps sl sv sd wy pa nu) (hk : k + 9 ≤ N) (hf0 : f0 < 6) (hm6 : hm ≤ 6) (hA : mA a n kk cw c0 wi rl sp pd od) (hpi : rkPi (fun i => swF wi (pd i)) n pi) (ho : opB wi sp = true) (hm_ : decide (rbF wi pd pi n (duG (fun w => decide (rbF wi pd pi n w w ≤ rl)) n (n - kk) kk cw c0 od).2.1 (duG (fun w => decide (rbF wi pd pi n w w ≤ rl)) n (n - kk) kk cw c0 od).2.1 ≤ rl) = true) : gMi l yX7_finish wsX7_finish ({ frames := 11, cells := 0, slots := 0, locals := 242 }) D z cI cZ cP cR N F [.ref (z + k)] (gRes (nI ((duG (fun w => decide (rbF wi pd pi n w w ≤ rl)) n (n - kk) kk cw c0 od).1 - kk)) N (fun F2 => ∃ a2 sd2 : Nat → Int32, isMod z cI cZ F2 k (nI (kpF true f0 hm)) (nI (kpM true hm)) pn spt wrg rd a2 (kpP true ps f0 hm a) sl sv sd2 wy pa nu ∧ mA a2 n ((duG (fun w => decide (rbF wi pd pi n w w ≤ rl)) n (n - kk) kk cw c0 od).1) ((duG (fun w => decide (rbF wi pd pi n w w ≤ rl)) n (n - kk) kk cw c0 od).2.1) ((duG (fun w => decide (rbF wi pd pi n w w ≤ rl)) n (n - kk) kk cw c0 od).2.2.1) wi rl 1 pd ((duG (fun w => decide (rbF wi pd pi n w w ≤ rl)) n (n - kk) kk cw c0 od).2.2.2) ∧ gFr k (k + 9) F F2)) 0 0 := by
  refine gMi.of (cc := cX7_finish) (maxL := 3) (ret := (some .int)) (by decide) rfl (Nat.le_of_ble_eq_true rfl) [(0, .ref (z + k))] rfl ?_
  intro pg ev sg mg bel me cg C hR0
  obtain ⟨ha0, ha1, ha2, ha3, ha4, hpd, hpl, hn, hkk, hcw, hcnt, hc0, hsp, hrl, hwi, hod⟩ := id hA
  have h2n := two_lt hn
  refine x_aload_n C (pc := 0) 0 dX7_finish_0 rfl ?_
  refine x_cViR C (pc := 1) (st := []) (c_X7_isOver l D z cI cZ cP cR N F k (nI f0) (nI hm) pn spt wrg rd a ps sl sv sd wy pa nu n kk cw c0 wi rl sp pd od  hM (by omega) hA ) (cwV 0 C.2.2.2.2.1 gX7_finish_X7_isOver rfl rfl rfl hd_X7_isOver ⟨Nat.le_of_ble_eq_true rfl, Nat.le_of_ble_eq_true rfl⟩) (by omega) hM.ob rfl rfl rfl (Nat.le_of_ble_eq_true rfl) dX7_finish_1 ⟨Nat.le_of_ble_eq_true rfl, Nat.le_of_ble_eq_true rfl⟩ ?_
  refine x_bz_eq C (pc := 4) (tgt := 10) dX7_finish_4 (by decide) (fun c_4 => ?_) (fun c_4 => absurd c_4 (by rw [ho]; decide))
  refine x_aload_n C (pc := 10) 0 dX7_finish_10 rfl ?_
  refine x_cVvE C (pc := 11) (st := []) (c_X7_layAside l D z cI cZ cP cR N F k (nI f0) (nI hm) pn spt wrg rd a ps sl sv sd wy pa nu hM (by omega)) (cwV 0 C.2.2.2.2.1 gX7_finish_X7_layAside rfl rfl rfl hd_X7_layAside ⟨Nat.le_of_ble_eq_true rfl, Nat.le_of_ble_eq_true rfl⟩) (by omega) hM.ob rfl rfl rfl (Nat.le_of_ble_eq_true rfl) dX7_finish_11 ⟨Nat.le_of_ble_eq_true rfl, Nat.le_of_ble_eq_true rfl⟩ (fun F_11 h_11 => ?_)
  obtain ⟨hM_11, fr_11⟩ := h_11
  refine x_aload_n C (pc := 14) 0 dX7_finish_14 rfl ?_
  refine x_cViE C (pc := 15) (st := []) (c_X7_drawOn l D z cI cZ cP cR N F_11 k (nI f0) (nI hm) pn spt wrg rd a ps sl sv (cpA sd a 65) wy pa nu n kk cw c0 wi rl sp pd od pi hM_11 (by omega) hA hpi) (cwV 0 C.2.2.2.2.1 gX7_finish_X7_drawOn rfl rfl rfl hd_X7_drawOn ⟨Nat.le_of_ble_eq_true rfl, Nat.le_of_ble_eq_true rfl⟩) (by omega) hM_11.ob rfl rfl rfl (Nat.le_of_ble_eq_true rfl) dX7_finish_15 ⟨Nat.le_of_ble_eq_true rfl, Nat.le_of_ble_eq_true rfl⟩ (fun F_15 h_15 => ?_)
  obtain ⟨a_15, hM_15, hA_15, fr_15⟩ := h_15
  refine x_pop C (pc := 18) dX7_finish_18 rfl ?_
  refine x_aload_n C (pc := 19) 0 dX7_finish_19 rfl ?_
  refine x_cViR C (pc := 20) (st := []) (c_X7_mayStop l D z cI cZ cP cR N F_15 k (nI f0) (nI hm) pn spt wrg rd a_15 ps sl sv (cpA sd a 65) wy pa nu n ((duG (fun w => decide (rbF wi pd pi n w w ≤ rl)) n (n - kk) kk cw c0 od).1) ((duG (fun w => decide (rbF wi pd pi n w w ≤ rl)) n (n - kk) kk cw c0 od).2.1) ((duG (fun w => decide (rbF wi pd pi n w w ≤ rl)) n (n - kk) kk cw c0 od).2.2.1) wi rl sp pd ((duG (fun w => decide (rbF wi pd pi n w w ≤ rl)) n (n - kk) kk cw c0 od).2.2.2) pi hM_15 (by omega) hA_15 hpi) (cwV 0 C.2.2.2.2.1 gX7_finish_X7_mayStop rfl rfl rfl hd_X7_mayStop ⟨Nat.le_of_ble_eq_true rfl, Nat.le_of_ble_eq_true rfl⟩) (by omega) hM_15.ob rfl rfl rfl (Nat.le_of_ble_eq_true rfl) dX7_finish_20 ⟨Nat.le_of_ble_eq_true rfl, Nat.le_of_ble_eq_true rfl⟩ ?_
  refine x_istore_n C (pc := 23) [(1, .int (bz (decide (rbF wi pd pi n ((duG (fun w => decide (rbF wi pd pi n w w ≤ rl)) n (n - kk) kk cw c0 od).2.1) ((duG (fun w => decide (rbF wi pd pi n w w ≤ rl)) n (n - kk) kk cw c0 od).2.1) ≤ rl)))), (0, .ref (z + k))] dX7_finish_23 (by decide) rfl ?_
  refine x_aload_n C (pc := 24) 1 dX7_finish_24 rfl ?_
  refine x_cVvE C (pc := 25) (st := []) (c_X7_layBack l D z cI cZ cP cR N F_15 k (nI f0) (nI hm) pn spt wrg rd a_15 ps sl sv (cpA sd a 65) wy pa nu hM_15 (by omega)) (cwV 0 C.2.2.2.2.1 gX7_finish_X7_layBack rfl rfl rfl hd_X7_layBack ⟨Nat.le_of_ble_eq_true rfl, Nat.le_of_ble_eq_true rfl⟩) (by omega) hM_15.ob rfl rfl rfl (Nat.le_of_ble_eq_true rfl) dX7_finish_25 ⟨Nat.le_of_ble_eq_true rfl, Nat.le_of_ble_eq_true rfl⟩ (fun F_25 h_25 => ?_)
  obtain ⟨hM_25, fr_25⟩ := h_25
  have hE_28 := hM_25.ext_a (a' := a) (fun i hi => (cpA_lt hi).trans (cpA_lt hi))
  refine x_iload_n C (pc := 28) 0 dX7_finish_28 rfl ?_
  refine x_bz_ne C (pc := 29) (tgt := 35) dX7_finish_29 (by decide) (fun c_29 => ?_) (fun c_29 => absurd c_29 (by rw [hm_]; decide))
  refine x_aload_n C (pc := 35) 1 dX7_finish_35 rfl ?_
  refine x_cVvE C (pc := 36) (st := []) (c_X7_keep l D z cI cZ cP cR N F_25 k f0 hm pn spt wrg rd a ps sl sv (cpA sd a 65) wy pa nu   hE_28 (by omega) (by omega) (by omega)  ) (cwV 0 C.2.2.2.2.1 gX7_finish_X7_keep rfl rfl rfl hd_X7_keep ⟨Nat.le_of_ble_eq_true rfl, Nat.le_of_ble_eq_true rfl⟩) (by omega) hE_28.ob rfl rfl rfl (Nat.le_of_ble_eq_true rfl) dX7_finish_36 ⟨Nat.le_of_ble_eq_true rfl, Nat.le_of_ble_eq_true rfl⟩ (fun F_36 h_36 => ?_)
  obtain ⟨hE_36, fr_36⟩ := h_36
  have kp_36 := kp_lt true (f0 := f0) (hm := hm) (by omega) (by omega)
  refine x_aload_n C (pc := 39) 1 dX7_finish_39 rfl ?_
  refine x_cViE C (pc := 40) (st := []) (c_X7_drawOn l D z cI cZ cP cR N F_36 k (nI (kpF true f0 hm)) (nI (kpM true hm)) pn spt wrg rd a (kpP true ps f0 hm a) sl sv (cpA sd a 65) wy pa nu n kk cw c0 wi rl sp pd od pi hE_36 (by omega) hA hpi) (cwV 0 C.2.2.2.2.1 gX7_finish_X7_drawOn rfl rfl rfl hd_X7_drawOn ⟨Nat.le_of_ble_eq_true rfl, Nat.le_of_ble_eq_true rfl⟩) (by omega) hE_36.ob rfl rfl rfl (Nat.le_of_ble_eq_true rfl) dX7_finish_40 ⟨Nat.le_of_ble_eq_true rfl, Nat.le_of_ble_eq_true rfl⟩ (fun F_40 h_40 => ?_)
  obtain ⟨a_40, hE_40, hA_40, fr_40⟩ := h_40
  refine x_istore_n C (pc := 43) [(2, .int (nI ((duG (fun w => decide (rbF wi pd pi n w w ≤ rl)) n (n - kk) kk cw c0 od).1 - kk))), (1, .int (bz (decide (rbF wi pd pi n ((duG (fun w => decide (rbF wi pd pi n w w ≤ rl)) n (n - kk) kk cw c0 od).2.1) ((duG (fun w => decide (rbF wi pd pi n w w ≤ rl)) n (n - kk) kk cw c0 od).2.1) ≤ rl)))), (0, .ref (z + k))] dX7_finish_43 (by decide) rfl ?_
  refine x_aload_n C (pc := 44) 2 dX7_finish_44 rfl ?_
  refine x_get C (pc := 45) (q := k) (v := .ref (z + (k + 1))) (ci := 7) rfl hn_X7_finish_X7 0 (by decide) fl_X7_finish_7 rfl (by omega) hE_40.ob rfl dX7_finish_45 ?_
  refine x_iconst C (pc := 48) (v := 3) dX7_finish_48 (by decide) ?_
  refine x_iconst C (pc := 49) (v := 1) dX7_finish_49 (by decide) ?_
  refine xw_isMod_a C (pc := 50) (j := 3) hE_40 (by omega) rfl (by omega) dX7_finish_50 (fun F_50 hE_50 fr_50 => ?_)
  refine x_iload_n C (pc := 51) 0 dX7_finish_51 rfl ?_
  exact x_iret C hR0 rfl (Nat.le_of_ble_eq_true rfl) (Nat.le_of_ble_eq_true rfl) ⟨rfl, rfl, ⟨_, _, hE_50, mA_stop hA_40, (gFr.t2 (gFr.t2 (gFr.t2 (gFr.t2 (gFr.t2 fr_11 fr_15) fr_25) fr_36) fr_40) fr_50)⟩⟩ dX7_finish_52
set_option maxHeartbeats 4000000 in
set_option maxRecDepth 100000 in
theorem c_X7_stop_e (l : Launch) (D : va_G) (z : Nat) (cI cZ cP cR : ClassId) (N : Nat) (F : Nat → va_E) (k f0 hm : Nat) (pn spt wrg rd : Int32) (a ps sl sv sd wy pa nu : Nat → Int32) (n kk cw c0 : Nat) (wi rl sp : Int32) (pd : Nat → Nat → Int32) (od : Nat → Int32) (pi : Nat → Nat) (hM : isMod z cI cZ F k (nI f0) (nI hm) pn spt wrg rd a ps sl sv sd wy pa nu) (hk : k + 9 ≤ N) (hf0 : f0 < 6) (hm6 : hm ≤ 6) (hA : mA a n kk cw c0 wi rl sp pd od) (hpi : rkPi (fun i => swF wi (pd i)) n pi) (he : opB wi sp = false ∨ decide (rbF wi pd pi n cw cw ≤ rl) = false) : gMi l yX7_stop wsX7_stop ({ frames := 10, cells := 0, slots := 0, locals := 221 }) D z cI cZ cP cR N F [.ref (z + k)] (gRes (-5) N (fun F2 => F2 = F)) 0 0 := by
  refine gMi.of (cc := cX7_stop) (maxL := 1) (ret := (some .int)) (by decide) rfl (Nat.le_of_ble_eq_true rfl) [(0, .ref (z + k))] rfl ?_
  intro pg ev sg mg bel me cg C hR0
  obtain ⟨ha0, ha1, ha2, ha3, ha4, hpd, hpl, hn, hkk, hcw, hcnt, hc0, hsp, hrl, hwi, hod⟩ := id hA
  have h2n := two_lt hn
  refine x_aload_n C (pc := 0) 0 dX7_stop_0 rfl ?_
  refine x_cViR C (pc := 1) (st := []) (c_X7_isOver l D z cI cZ cP cR N F k (nI f0) (nI hm) pn spt wrg rd a ps sl sv sd wy pa nu n kk cw c0 wi rl sp pd od  hM (by omega) hA ) (cwV 0 C.2.2.2.2.1 gX7_stop_X7_isOver rfl rfl rfl hd_X7_isOver ⟨Nat.le_of_ble_eq_true rfl, Nat.le_of_ble_eq_true rfl⟩) (by omega) hM.ob rfl rfl rfl (Nat.le_of_ble_eq_true rfl) dX7_stop_1 ⟨Nat.le_of_ble_eq_true rfl, Nat.le_of_ble_eq_true rfl⟩ ?_
  refine x_bz_ne C (pc := 4) (tgt := 14) dX7_stop_4 (by decide) (fun c_4 => ?_) (fun c_4 => ?_)
  · refine x_bipush C (pc := 14) (v := (-5)) dX7_stop_14 (by decide) ?_
    exact x_iret C hR0 rfl (Nat.le_of_ble_eq_true rfl) (Nat.le_of_ble_eq_true rfl) ⟨rfl, rfl, rfl⟩ dX7_stop_16
  refine x_aload_n C (pc := 7) 0 dX7_stop_7 rfl ?_
  refine x_cViR C (pc := 8) (st := []) (c_X7_mayStop l D z cI cZ cP cR N F k (nI f0) (nI hm) pn spt wrg rd a ps sl sv sd wy pa nu n kk cw c0 wi rl sp pd od pi hM (by omega) hA hpi) (cwV 0 C.2.2.2.2.1 gX7_stop_X7_mayStop rfl rfl rfl hd_X7_mayStop ⟨Nat.le_of_ble_eq_true rfl, Nat.le_of_ble_eq_true rfl⟩) (by omega) hM.ob rfl rfl rfl (Nat.le_of_ble_eq_true rfl) dX7_stop_8 ⟨Nat.le_of_ble_eq_true rfl, Nat.le_of_ble_eq_true rfl⟩ ?_
  refine x_bz_ne C (pc := 11) (tgt := 17) dX7_stop_11 (by decide) (fun c_11 => absurd c_11 (fun q => he.elim (fun h => by rw [h] at c_4; cases c_4) (fun h => by rw [h] at q; cases q))) (fun c_11 => ?_)
  refine x_bipush C (pc := 14) (v := (-5)) dX7_stop_14 (by decide) ?_
  exact x_iret C hR0 rfl (Nat.le_of_ble_eq_true rfl) (Nat.le_of_ble_eq_true rfl) ⟨rfl, rfl, rfl⟩ dX7_stop_16
theorem fl_X7_stop_7 : Cond.fieldLink RX7 7 "PileRecountModel" "at" "[I" ∈ wsX7_stop := by decide +kernel
theorem hn_X7_stop_X7 : ∀ w ∈ wsX70, w ∈ wsX7_stop := fun _ h => List.mem_cons_of_mem _ (List.mem_append_right _ h)
set_option maxHeartbeats 4000000 in
set_option maxRecDepth 100000 in
theorem c_X7_stop_s (l : Launch) (D : va_G) (z : Nat) (cI cZ cP cR : ClassId) (N : Nat) (F : Nat → va_E) (k f0 hm : Nat) (pn spt wrg rd : Int32) (a ps sl sv sd wy pa nu : Nat → Int32) (n kk cw c0 : Nat) (wi rl sp : Int32) (pd : Nat → Nat → Int32) (od : Nat → Int32) (pi : Nat → Nat) (hM : isMod z cI cZ F k (nI f0) (nI hm) pn spt wrg rd a ps sl sv sd wy pa nu) (hk : k + 9 ≤ N) (hf0 : f0 < 6) (hm6 : hm ≤ 6) (hA : mA a n kk cw c0 wi rl sp pd od) (hpi : rkPi (fun i => swF wi (pd i)) n pi) (ho : opB wi sp = true) (hms : decide (rbF wi pd pi n cw cw ≤ rl) = true) : gMi l yX7_stop wsX7_stop ({ frames := 10, cells := 0, slots := 0, locals := 221 }) D z cI cZ cP cR N F [.ref (z + k)] (gRes (bz (decide (0 < leadF wi pd n (2 ^ n - 1)))) N (fun F2 => ∃ a2 : Nat → Int32, isMod z cI cZ F2 k (nI (kpF true f0 hm)) (nI (kpM true hm)) pn spt wrg rd a2 (kpP true ps f0 hm a) sl sv sd wy pa nu ∧ mA a2 n kk cw c0 wi rl 1 pd od ∧ gFr k (k + 9) F F2)) 0 0 := by
  refine gMi.of (cc := cX7_stop) (maxL := 1) (ret := (some .int)) (by decide) rfl (Nat.le_of_ble_eq_true rfl) [(0, .ref (z + k))] rfl ?_
  intro pg ev sg mg bel me cg C hR0
  obtain ⟨ha0, ha1, ha2, ha3, ha4, hpd, hpl, hn, hkk, hcw, hcnt, hc0, hsp, hrl, hwi, hod⟩ := id hA
  have h2n := two_lt hn
  refine x_aload_n C (pc := 0) 0 dX7_stop_0 rfl ?_
  refine x_cViR C (pc := 1) (st := []) (c_X7_isOver l D z cI cZ cP cR N F k (nI f0) (nI hm) pn spt wrg rd a ps sl sv sd wy pa nu n kk cw c0 wi rl sp pd od  hM (by omega) hA ) (cwV 0 C.2.2.2.2.1 gX7_stop_X7_isOver rfl rfl rfl hd_X7_isOver ⟨Nat.le_of_ble_eq_true rfl, Nat.le_of_ble_eq_true rfl⟩) (by omega) hM.ob rfl rfl rfl (Nat.le_of_ble_eq_true rfl) dX7_stop_1 ⟨Nat.le_of_ble_eq_true rfl, Nat.le_of_ble_eq_true rfl⟩ ?_
  refine x_bz_ne C (pc := 4) (tgt := 14) dX7_stop_4 (by decide) (fun c_4 => absurd c_4 (by rw [ho]; decide)) (fun c_4 => ?_)
  refine x_aload_n C (pc := 7) 0 dX7_stop_7 rfl ?_
  refine x_cViR C (pc := 8) (st := []) (c_X7_mayStop l D z cI cZ cP cR N F k (nI f0) (nI hm) pn spt wrg rd a ps sl sv sd wy pa nu n kk cw c0 wi rl sp pd od pi hM (by omega) hA hpi) (cwV 0 C.2.2.2.2.1 gX7_stop_X7_mayStop rfl rfl rfl hd_X7_mayStop ⟨Nat.le_of_ble_eq_true rfl, Nat.le_of_ble_eq_true rfl⟩) (by omega) hM.ob rfl rfl rfl (Nat.le_of_ble_eq_true rfl) dX7_stop_8 ⟨Nat.le_of_ble_eq_true rfl, Nat.le_of_ble_eq_true rfl⟩ ?_
  refine x_bz_ne C (pc := 11) (tgt := 17) dX7_stop_11 (by decide) (fun c_11 => ?_) (fun c_11 => absurd c_11 (by rw [hms]; decide))
  refine x_aload_n C (pc := 17) 0 dX7_stop_17 rfl ?_
  refine x_cVvE C (pc := 18) (st := []) (c_X7_keep l D z cI cZ cP cR N F k f0 hm pn spt wrg rd a ps sl sv sd wy pa nu   hM (by omega) (by omega) (by omega)  ) (cwV 0 C.2.2.2.2.1 gX7_stop_X7_keep rfl rfl rfl hd_X7_keep ⟨Nat.le_of_ble_eq_true rfl, Nat.le_of_ble_eq_true rfl⟩) (by omega) hM.ob rfl rfl rfl (Nat.le_of_ble_eq_true rfl) dX7_stop_18 ⟨Nat.le_of_ble_eq_true rfl, Nat.le_of_ble_eq_true rfl⟩ (fun F_18 h_18 => ?_)
  obtain ⟨hM_18, fr_18⟩ := h_18
  have kp_18 := kp_lt true (f0 := f0) (hm := hm) (by omega) (by omega)
  refine x_aload_n C (pc := 21) 0 dX7_stop_21 rfl ?_
  refine x_get C (pc := 22) (q := k) (v := .ref (z + (k + 1))) (ci := 7) rfl hn_X7_stop_X7 0 (by decide) fl_X7_stop_7 rfl (by omega) hM_18.ob rfl dX7_stop_22 ?_
  refine x_iconst C (pc := 25) (v := 3) dX7_stop_25 (by decide) ?_
  refine x_iconst C (pc := 26) (v := 1) dX7_stop_26 (by decide) ?_
  refine xw_isMod_a C (pc := 27) (j := 3) hM_18 (by omega) rfl (by omega) dX7_stop_27 (fun F_27 hM_27 fr_27 => ?_)
  have hA_28 := mA_stop hA
  refine x_aload_n C (pc := 28) 0 dX7_stop_28 rfl ?_
  refine x_cViR C (pc := 29) (st := []) (c_X7_isRight l D z cI cZ cP cR N F_27 k (nI (kpF true f0 hm)) (nI (kpM true hm)) pn spt wrg rd (upd a 3 1) (kpP true ps f0 hm a) sl sv sd wy pa nu n kk cw c0 wi rl 1 pd od  hM_27 (by omega) hA_28 ) (cwV 0 C.2.2.2.2.1 gX7_stop_X7_isRight rfl rfl rfl hd_X7_isRight ⟨Nat.le_of_ble_eq_true rfl, Nat.le_of_ble_eq_true rfl⟩) (by omega) hM_27.ob rfl rfl rfl (Nat.le_of_ble_eq_true rfl) dX7_stop_29 ⟨Nat.le_of_ble_eq_true rfl, Nat.le_of_ble_eq_true rfl⟩ ?_
  refine x_bz_eq C (pc := 32) (tgt := 39) dX7_stop_32 (by decide) (fun c_32 => ?_) (fun c_32 => ?_)
  · refine x_iconst C (pc := 39) (v := 0) dX7_stop_39 (by decide) ?_
    exact x_iret C hR0 rfl (Nat.le_of_ble_eq_true rfl) (Nat.le_of_ble_eq_true rfl) ⟨(by rw [c_32]; rfl), rfl, ⟨_, hM_27, hA_28, (gFr.t2 fr_18 fr_27)⟩⟩ dX7_stop_40
  refine x_iconst C (pc := 35) (v := 1) dX7_stop_35 (by decide) ?_
  refine x_goto C (pc := 36) (tgt := 40) dX7_stop_36 (by decide) ?_
  exact x_iret C hR0 rfl (Nat.le_of_ble_eq_true rfl) (Nat.le_of_ble_eq_true rfl) ⟨(by rw [c_32]; rfl), rfl, ⟨_, hM_27, hA_28, (gFr.t2 fr_18 fr_27)⟩⟩ dX7_stop_40
theorem fl_X7_undo_47 : Cond.fieldLink RX7 47 "PileRecountModel" "pastMany" "I" ∈ wsX7_undo := by decide +kernel
theorem hn_X7_undo_X7 : ∀ w ∈ wsX70, w ∈ wsX7_undo := fun _ h => List.mem_cons_of_mem _ (List.mem_append_right _ h)
set_option maxHeartbeats 4000000 in
set_option maxRecDepth 100000 in
theorem c_X7_undo_e (l : Launch) (D : va_G) (z : Nat) (cI cZ cP cR : ClassId) (N : Nat) (F : Nat → va_E) (k f0 hm : Nat) (pn spt wrg rd : Int32) (a ps sl sv sd wy pa nu : Nat → Int32) (hM : isMod z cI cZ F k (nI f0) (nI hm) pn spt wrg rd a ps sl sv sd wy pa nu) (hk : k + 9 ≤ N) (hf0 : f0 < 6) (hm6 : hm ≤ 6) (hm0 : hm = 0) : gMi l yX7_undo wsX7_undo ({ frames := 0, cells := 0, slots := 0, locals := 0 }) D z cI cZ cP cR N F [.ref (z + k)] (gRes (-5) N (fun F2 => F2 = F)) 0 0 := by
  refine gMi.of (cc := cX7_undo) (maxL := 3) (ret := (some .int)) (by decide) rfl (Nat.le_of_ble_eq_true rfl) [(0, .ref (z + k))] rfl ?_
  intro pg ev sg mg bel me cg C hR0
  refine x_aload_n C (pc := 0) 0 dX7_undo_0 rfl ?_
  refine x_get C (pc := 1) (q := k) (v := .int (nI hm)) (ci := 7) rfl hn_X7_undo_X7 3 (by decide) fl_X7_undo_47 rfl (by omega) hM.ob rfl dX7_undo_1 ?_
  refine x_ifN_ne C (a := hm) (pc := 4) (tgt := 10) (by omega) dX7_undo_4 (by decide) (fun c_4 => absurd c_4 (by omega)) (fun c_4 => ?_)
  refine x_bipush C (pc := 7) (v := (-5)) dX7_undo_7 (by decide) ?_
  exact x_iret C hR0 rfl (Nat.le_of_ble_eq_true rfl) (Nat.le_of_ble_eq_true rfl) ⟨rfl, rfl, rfl⟩ dX7_undo_9
theorem fl_X7_undo_13 : Cond.fieldLink RX7 13 "PileRecountModel" "past" "[I" ∈ wsX7_undo := by decide +kernel
theorem fl_X7_undo_51 : Cond.fieldLink RX7 51 "PileRecountModel" "pastFirst" "I" ∈ wsX7_undo := by decide +kernel
theorem fl_X7_undo_7 : Cond.fieldLink RX7 7 "PileRecountModel" "at" "[I" ∈ wsX7_undo := by decide +kernel
set_option maxHeartbeats 4000000 in
set_option maxRecDepth 100000 in
theorem c_X7_undo_s (l : Launch) (D : va_G) (z : Nat) (cI cZ cP cR : ClassId) (N : Nat) (F : Nat → va_E) (k f0 hm : Nat) (pn spt wrg rd : Int32) (a ps sl sv sd wy pa nu : Nat → Int32) (hM : isMod z cI cZ F k (nI f0) (nI hm) pn spt wrg rd a ps sl sv sd wy pa nu) (hk : k + 9 ≤ N) (hf0 : f0 < 6) (hm6 : hm ≤ 6) (hm0 : 0 < hm) : gMi l yX7_undo wsX7_undo ({ frames := 0, cells := 0, slots := 0, locals := 0 }) D z cI cZ cP cR N F [.ref (z + k)] (gRes (nI (hm - 1)) N (fun F2 => isMod z cI cZ F2 k (nI f0) (nI (hm - 1)) pn spt wrg rd (cpA a (fun x => ps (65 * ((f0 + (hm - 1)) % 6) + x)) 65) ps sl sv sd wy pa nu ∧ gFr k (k + 9) F F2)) 0 0 := by
  refine gMi.of (cc := cX7_undo) (maxL := 3) (ret := (some .int)) (by decide) rfl (Nat.le_of_ble_eq_true rfl) [(0, .ref (z + k))] rfl ?_
  intro pg ev sg mg bel me cg C hR0
  refine x_aload_n C (pc := 0) 0 dX7_undo_0 rfl ?_
  refine x_get C (pc := 1) (q := k) (v := .int (nI hm)) (ci := 7) rfl hn_X7_undo_X7 3 (by decide) fl_X7_undo_47 rfl (by omega) hM.ob rfl dX7_undo_1 ?_
  refine x_ifN_ne C (a := hm) (pc := 4) (tgt := 10) (by omega) dX7_undo_4 (by decide) (fun c_4 => ?_) (fun c_4 => absurd c_4 (by omega))
  refine x_aload_n C (pc := 10) 0 dX7_undo_10 rfl ?_
  refine x_dup C (pc := 11) dX7_undo_11 rfl ?_
  refine x_get C (pc := 12) (q := k) (v := .int (nI hm)) (ci := 7) rfl hn_X7_undo_X7 3 (by decide) fl_X7_undo_47 rfl (by omega) hM.ob rfl dX7_undo_12 ?_
  refine x_iconst C (pc := 15) (v := 1) dX7_undo_15 (by decide) ?_
  refine x_isub C (pc := 16) (v := nI (hm - 1)) dX7_undo_16 (pk_sub (a := hm) (b := 1) (by omega)) ?_
  refine xw_X7_3 C (pc := 17) hn_X7_undo_X7 fl_X7_undo_47 hM (by omega) dX7_undo_17 (fun F_17 hM_17 fr_17 => ?_)
  refine x_aload_n C (pc := 20) 0 dX7_undo_20 rfl ?_
  refine x_get C (pc := 21) (q := k) (v := .int (nI f0)) (ci := 7) rfl hn_X7_undo_X7 2 (by decide) fl_X7_undo_51 rfl (by omega) hM_17.ob rfl dX7_undo_21 ?_
  refine x_aload_n C (pc := 24) 0 dX7_undo_24 rfl ?_
  refine x_get C (pc := 25) (q := k) (v := .int (nI (hm - 1))) (ci := 7) rfl hn_X7_undo_X7 3 (by decide) fl_X7_undo_47 rfl (by omega) hM_17.ob rfl dX7_undo_25 ?_
  refine x_iadd C (pc := 28) (v := nI (f0 + (hm - 1))) dX7_undo_28 (nI_add f0 (hm - 1)) ?_
  refine x_bipush C (pc := 29) (v := 6) dX7_undo_29 (by decide) ?_
  refine x_irem C (pc := 31) (v := nI ((f0 + (hm - 1)) % 6)) dX7_undo_31 (by decide) (pk_rem (by omega) (by decide) (by decide)) ?_
  refine x_istore_n C (pc := 32) [(1, .int (nI ((f0 + (hm - 1)) % 6))), (0, .ref (z + k))] dX7_undo_32 (by decide) rfl ?_
  refine x_iconst C (pc := 33) (v := 0) dX7_undo_33 (by decide) ?_
  refine x_istore_n C (pc := 34) [(2, .int 0), (1, .int (nI ((f0 + (hm - 1)) % 6))), (0, .ref (z + k))] dX7_undo_34 (by decide) rfl ?_
  refine x_sub [2, 1, 0] _ rfl ?_
  refine x_loop2 (A1 := Nat) (A2 := Nat → va_E) (pc := 35) (st := []) (fun i G => 65 - i) (fun i G => (i ≤ 65) ∧ (isMod z cI cZ G k (nI f0) (nI (hm - 1)) pn spt wrg rd (cpA a (fun x => ps (65 * ((f0 + (hm - 1)) % 6) + x)) i) ps sl sv sd wy pa nu) ∧ (gFr k (k + 9) F G)) (fun i G => N) (fun i G => G) (fun i G => 0) (fun i G => 0) (fun i G => [(0, .ref (z + k)), (1, .int (nI ((f0 + (hm - 1)) % 6))), (2, .int (nI i))]) 0 F_17 ⟨(Nat.zero_le _), (by rw [cpA_0]; exact hM_17), fr_17⟩ rfl rfl rfl rfl rfl ?_
  rintro i G ⟨hi, hG, hfr⟩ ih_35
  try dsimp only at ih_35
  refine x_iload_n C (pc := 35) 2 dX7_undo_35 rfl ?_
  refine x_bipush C (pc := 36) (v := 65) dX7_undo_36 (by decide) ?_
  refine x_icmpN_ge C (a := i) (b := 65) (pc := 38) (tgt := 64) (by omega) (by omega) dX7_undo_38 (by decide) (fun c_38 => ?_) (fun c_38 => ?_)
  · refine x_aload_n C (pc := 64) 0 dX7_undo_64 rfl ?_
    refine x_get C (pc := 65) (q := k) (v := .int (nI (hm - 1))) (ci := 7) rfl hn_X7_undo_X7 3 (by decide) fl_X7_undo_47 rfl (by omega) hG.ob rfl dX7_undo_65 ?_
    exact x_iret C hR0 rfl (Nat.le_of_ble_eq_true rfl) (Nat.le_of_ble_eq_true rfl) ⟨rfl, rfl, (by have h9 := hG; rw [show i = 65 by omega] at h9; exact ⟨h9, hfr⟩)⟩ dX7_undo_68
  refine x_aload_n C (pc := 41) 0 dX7_undo_41 rfl ?_
  refine x_get C (pc := 42) (q := k) (v := .ref (z + (k + 1))) (ci := 7) rfl hn_X7_undo_X7 0 (by decide) fl_X7_undo_7 rfl (by omega) hG.ob rfl dX7_undo_42 ?_
  refine x_iload_n C (pc := 45) 2 dX7_undo_45 rfl ?_
  refine x_aload_n C (pc := 46) 0 dX7_undo_46 rfl ?_
  refine x_get C (pc := 47) (q := k) (v := .ref (z + (k + 2))) (ci := 7) rfl hn_X7_undo_X7 1 (by decide) fl_X7_undo_13 rfl (by omega) hG.ob rfl dX7_undo_47 ?_
  refine x_bipush C (pc := 50) (v := 65) dX7_undo_50 (by decide) ?_
  refine x_iload_n C (pc := 52) 1 dX7_undo_52 rfl ?_
  refine x_imul C (pc := 53) (v := nI (65 * ((f0 + (hm - 1)) % 6))) dX7_undo_53 (pk_mul 65 ((f0 + (hm - 1)) % 6)) ?_
  refine x_iload_n C (pc := 54) 2 dX7_undo_54 rfl ?_
  refine x_iadd C (pc := 55) (v := nI (65 * ((f0 + (hm - 1)) % 6) + i)) dX7_undo_55 (nI_add (65 * ((f0 + (hm - 1)) % 6)) i) ?_
  refine x_ialdE C (pc := 56) (q := k + 2) (j := 65 * ((f0 + (hm - 1)) % 6) + i) (f := ps) (by omega) hG.ps rfl (by omega) (by decide) dX7_undo_56 ?_
  refine xw_isMod_a C (pc := 57) (j := i) hG (by omega) rfl (by omega) dX7_undo_57 (fun F_57 hG_57 fr_57 => ?_)
  refine x_iinc C (pc := 58) 2 [(2, .int (nI (i + 1))), (0, .ref (z + k)), (1, .int (nI ((f0 + (hm - 1)) % 6)))] dX7_undo_58 rfl (nI_inc i) (by decide) rfl ?_
  refine x_goto C (pc := 61) (tgt := 35) dX7_undo_61 (by decide) ?_
  exact x_sub [1, 2, 0] _ rfl (ih_35 (i + 1) F_57 ⟨(by omega), (by rw [← cpA_up]; exact hG_57), (gFr.t2 hfr fr_57)⟩ (by omega))
theorem in2 : ∀ v, v < 2 → inB (nI v) 0 1 = true := by decide +kernel
set_option maxHeartbeats 4000000 in
set_option maxRecDepth 100000 in
theorem c_X7_save_e (l : Launch) (D : va_G) (z : Nat) (cI cZ cP cR : ClassId) (N : Nat) (F : Nat → va_E) (k : Nat) (pf pm pn spt wrg rd : Int32) (a ps sl sv sd wy pa nu : Nat → Int32) (n kk cw c0 : Nat) (wi rl sp : Int32) (pd : Nat → Nat → Int32) (od : Nat → Int32) (v : Int32) (hM : isMod z cI cZ F k pf pm pn spt wrg rd a ps sl sv sd wy pa nu) (hk : k + 9 ≤ N) (hA : mA a n kk cw c0 wi rl sp pd od) (hv : inB v 0 1 = false) : gMi l yX7_save wsX7_save ({ frames := 1, cells := 0, slots := 0, locals := 22 }) D z cI cZ cP cR N F [.ref (z + k), .int v] (gRes (-2) N (fun F2 => F2 = F)) 0 0 := by
  refine gMi.of (cc := cX7_save) (maxL := 3) (ret := (some .int)) (by decide) rfl (Nat.le_of_ble_eq_true rfl) [(0, .ref (z + k)), (1, .int v)] rfl ?_
  intro pg ev sg mg bel me cg C hR0
  obtain ⟨ha0, ha1, ha2, ha3, ha4, hpd, hpl, hn, hkk, hcw, hcnt, hc0, hsp, hrl, hwi, hod⟩ := id hA
  have h2n := two_lt hn
  refine x_iload_n C (pc := 0) 1 dX7_save_0 rfl ?_
  refine x_iconst C (pc := 1) (v := 0) dX7_save_1 (by decide) ?_
  refine x_iconst C (pc := 2) (v := 1) dX7_save_2 (by decide) ?_
  refine x_cSiR C (pc := 3) (st := []) (c_X7_in l D z cI cZ cP cR N F v 0 1) (va_cwS 3 C.2.2.2.2.1 gX7_save_X7_in rfl rfl rfl hd_X7_in.2 ⟨Nat.le_of_ble_eq_true rfl, Nat.le_of_ble_eq_true rfl⟩) rfl rfl (Nat.le_of_ble_eq_true rfl) dX7_save_3 ⟨Nat.le_of_ble_eq_true rfl, Nat.le_of_ble_eq_true rfl⟩ ?_
  refine x_bz_ne C (pc := 6) (tgt := 12) dX7_save_6 (by decide) (fun c_6 => absurd c_6 (by rw [hv]; decide)) (fun c_6 => ?_)
  refine x_bipush C (pc := 9) (v := (-2)) dX7_save_9 (by decide) ?_
  exact x_iret C hR0 rfl (Nat.le_of_ble_eq_true rfl) (Nat.le_of_ble_eq_true rfl) ⟨rfl, rfl, rfl⟩ dX7_save_11
theorem fl_X7_save_16 : Cond.fieldLink RX7 16 "PileRecountModel" "slots" "[I" ∈ wsX7_save := by decide +kernel
theorem fl_X7_save_19 : Cond.fieldLink RX7 19 "PileRecountModel" "isSaved" "[Z" ∈ wsX7_save := by decide +kernel
theorem fl_X7_save_7 : Cond.fieldLink RX7 7 "PileRecountModel" "at" "[I" ∈ wsX7_save := by decide +kernel
theorem hn_X7_save_X7 : ∀ w ∈ wsX70, w ∈ wsX7_save := fun _ h => List.mem_cons_of_mem _ (List.mem_append_right _ h)
set_option maxHeartbeats 4000000 in
set_option maxRecDepth 100000 in
theorem c_X7_save_s (l : Launch) (D : va_G) (z : Nat) (cI cZ cP cR : ClassId) (N : Nat) (F : Nat → va_E) (k : Nat) (pf pm pn spt wrg rd : Int32) (a ps sl sv sd wy pa nu : Nat → Int32) (n kk cw c0 : Nat) (wi rl sp : Int32) (pd : Nat → Nat → Int32) (od : Nat → Int32) (v : Nat) (hM : isMod z cI cZ F k pf pm pn spt wrg rd a ps sl sv sd wy pa nu) (hk : k + 9 ≤ N) (hA : mA a n kk cw c0 wi rl sp pd od) (hv : v < 2) : gMi l yX7_save wsX7_save ({ frames := 1, cells := 0, slots := 0, locals := 22 }) D z cI cZ cP cR N F [.ref (z + k), .int (nI v)] (gRes (nI kk) N (fun F2 => isMod z cI cZ F2 k pf pm pn spt wrg rd a ps (blkA sl v a 65) (upd sv v 1) sd wy pa nu ∧ gFr k (k + 9) F F2)) 0 0 := by
  refine gMi.of (cc := cX7_save) (maxL := 3) (ret := (some .int)) (by decide) rfl (Nat.le_of_ble_eq_true rfl) [(0, .ref (z + k)), (1, .int (nI v))] rfl ?_
  intro pg ev sg mg bel me cg C hR0
  obtain ⟨ha0, ha1, ha2, ha3, ha4, hpd, hpl, hn, hkk, hcw, hcnt, hc0, hsp, hrl, hwi, hod⟩ := id hA
  have h2n := two_lt hn
  refine x_iload_n C (pc := 0) 1 dX7_save_0 rfl ?_
  refine x_iconst C (pc := 1) (v := 0) dX7_save_1 (by decide) ?_
  refine x_iconst C (pc := 2) (v := 1) dX7_save_2 (by decide) ?_
  refine x_cSiR C (pc := 3) (st := []) (c_X7_in l D z cI cZ cP cR N F (nI v) 0 1) (va_cwS 3 C.2.2.2.2.1 gX7_save_X7_in rfl rfl rfl hd_X7_in.2 ⟨Nat.le_of_ble_eq_true rfl, Nat.le_of_ble_eq_true rfl⟩) rfl rfl (Nat.le_of_ble_eq_true rfl) dX7_save_3 ⟨Nat.le_of_ble_eq_true rfl, Nat.le_of_ble_eq_true rfl⟩ ?_
  refine x_bz_ne C (pc := 6) (tgt := 12) dX7_save_6 (by decide) (fun c_6 => ?_) (fun c_6 => absurd c_6 (by rw [in2 v hv]; decide))
  refine x_iconst C (pc := 12) (v := 0) dX7_save_12 (by decide) ?_
  refine x_istore_n C (pc := 13) [(2, .int 0), (0, .ref (z + k)), (1, .int (nI v))] dX7_save_13 (by decide) rfl ?_
  refine x_sub [1, 2, 0] _ rfl ?_
  refine x_loop2 (A1 := Nat) (A2 := Nat → va_E) (pc := 14) (st := []) (fun i G => 65 - i) (fun i G => (i ≤ 65) ∧ (isMod z cI cZ G k pf pm pn spt wrg rd a ps (blkA sl v a i) sv sd wy pa nu) ∧ (gFr k (k + 9) F G)) (fun i G => N) (fun i G => G) (fun i G => 0) (fun i G => 0) (fun i G => [(0, .ref (z + k)), (1, .int (nI v)), (2, .int (nI i))]) 0 F ⟨(Nat.zero_le _), (by rw [blkA_0]; exact hM), gFr.rf⟩ rfl rfl rfl rfl rfl ?_
  rintro i G ⟨hi, hG, hfr⟩ ih_14
  try dsimp only at ih_14
  refine x_iload_n C (pc := 14) 2 dX7_save_14 rfl ?_
  refine x_bipush C (pc := 15) (v := 65) dX7_save_15 (by decide) ?_
  refine x_icmpN_ge C (a := i) (b := 65) (pc := 17) (tgt := 43) (by omega) (by omega) dX7_save_17 (by decide) (fun c_17 => ?_) (fun c_17 => ?_)
  · have hi65 : i = 65 := by omega
    subst hi65
    refine x_aload_n C (pc := 43) 0 dX7_save_43 rfl ?_
    refine x_get C (pc := 44) (q := k) (v := .ref (z + (k + 4))) (ci := 7) rfl hn_X7_save_X7 5 (by decide) fl_X7_save_19 rfl (by omega) hG.ob rfl dX7_save_44 ?_
    refine x_iload_n C (pc := 47) 1 dX7_save_47 rfl ?_
    refine x_iconst C (pc := 48) (v := 1) dX7_save_48 (by decide) ?_
    refine xw_isMod_sv C (pc := 49) (j := v) hG (by omega) rfl (by omega) (Or.inr rfl) dX7_save_49 (fun F_49 hG_49 fr_49 => ?_)
    refine x_aload_n C (pc := 50) 0 dX7_save_50 rfl ?_
    refine x_get C (pc := 51) (q := k) (v := .ref (z + (k + 1))) (ci := 7) rfl hn_X7_save_X7 0 (by decide) fl_X7_save_7 rfl (by omega) hG_49.ob rfl dX7_save_51 ?_
    refine x_iconst C (pc := 54) (v := 4) dX7_save_54 (by decide) ?_
    refine x_ialdE C (pc := 55) (q := k + 1) (j := 4) (f := a) (by omega) hG_49.a rfl (by omega) (by decide) dX7_save_55 ?_
    refine x_eqi hA.2.2.2.2.1 ?_
    exact x_iret C hR0 rfl (Nat.le_of_ble_eq_true rfl) (Nat.le_of_ble_eq_true rfl) ⟨rfl, rfl, ⟨hG_49, (gFr.t2 hfr fr_49)⟩⟩ dX7_save_56
  refine x_aload_n C (pc := 20) 0 dX7_save_20 rfl ?_
  refine x_get C (pc := 21) (q := k) (v := .ref (z + (k + 3))) (ci := 7) rfl hn_X7_save_X7 4 (by decide) fl_X7_save_16 rfl (by omega) hG.ob rfl dX7_save_21 ?_
  refine x_bipush C (pc := 24) (v := 65) dX7_save_24 (by decide) ?_
  refine x_iload_n C (pc := 26) 1 dX7_save_26 rfl ?_
  refine x_imul C (pc := 27) (v := nI (65 * v)) dX7_save_27 (pk_mul 65 v) ?_
  refine x_iload_n C (pc := 28) 2 dX7_save_28 rfl ?_
  refine x_iadd C (pc := 29) (v := nI (65 * v + i)) dX7_save_29 (nI_add (65 * v) i) ?_
  refine x_aload_n C (pc := 30) 0 dX7_save_30 rfl ?_
  refine x_get C (pc := 31) (q := k) (v := .ref (z + (k + 1))) (ci := 7) rfl hn_X7_save_X7 0 (by decide) fl_X7_save_7 rfl (by omega) hG.ob rfl dX7_save_31 ?_
  refine x_iload_n C (pc := 34) 2 dX7_save_34 rfl ?_
  refine x_ialdE C (pc := 35) (q := k + 1) (j := i) (f := a) (by omega) hG.a rfl (by omega) (by decide) dX7_save_35 ?_
  refine xw_isMod_sl C (pc := 36) (j := 65 * v + i) hG (by omega) rfl (by omega) dX7_save_36 (fun F_36 hG_36 fr_36 => ?_)
  refine x_iinc C (pc := 37) 2 [(2, .int (nI (i + 1))), (0, .ref (z + k)), (1, .int (nI v))] dX7_save_37 rfl (nI_inc i) (by decide) rfl ?_
  refine x_goto C (pc := 40) (tgt := 14) dX7_save_40 (by decide) ?_
  exact x_sub [1, 2, 0] _ rfl (ih_14 (i + 1) F_36 ⟨(by omega), (by rw [← blkA_up]; exact hG_36), (gFr.t2 hfr fr_36)⟩ (by omega))
set_option maxHeartbeats 4000000 in
set_option maxRecDepth 100000 in
theorem c_X7_restore_e1 (l : Launch) (D : va_G) (z : Nat) (cI cZ cP cR : ClassId) (N : Nat) (F : Nat → va_E) (k f0 hm : Nat) (pn spt wrg rd : Int32) (a ps sl sv sd wy pa nu : Nat → Int32) (v : Int32) (hM : isMod z cI cZ F k (nI f0) (nI hm) pn spt wrg rd a ps sl sv sd wy pa nu) (hk : k + 9 ≤ N) (hf0 : f0 < 6) (hm6 : hm ≤ 6) (hv : inB v 0 1 = false) : gMi l yX7_restore wsX7_restore ({ frames := 1, cells := 0, slots := 0, locals := 22 }) D z cI cZ cP cR N F [.ref (z + k), .int v] (gRes (-2) N (fun F2 => F2 = F)) 0 0 := by
  refine gMi.of (cc := cX7_restore) (maxL := 3) (ret := (some .int)) (by decide) rfl (Nat.le_of_ble_eq_true rfl) [(0, .ref (z + k)), (1, .int v)] rfl ?_
  intro pg ev sg mg bel me cg C hR0
  refine x_iload_n C (pc := 0) 1 dX7_restore_0 rfl ?_
  refine x_iconst C (pc := 1) (v := 0) dX7_restore_1 (by decide) ?_
  refine x_iconst C (pc := 2) (v := 1) dX7_restore_2 (by decide) ?_
  refine x_cSiR C (pc := 3) (st := []) (c_X7_in l D z cI cZ cP cR N F v 0 1) (va_cwS 3 C.2.2.2.2.1 gX7_restore_X7_in rfl rfl rfl hd_X7_in.2 ⟨Nat.le_of_ble_eq_true rfl, Nat.le_of_ble_eq_true rfl⟩) rfl rfl (Nat.le_of_ble_eq_true rfl) dX7_restore_3 ⟨Nat.le_of_ble_eq_true rfl, Nat.le_of_ble_eq_true rfl⟩ ?_
  refine x_bz_ne C (pc := 6) (tgt := 12) dX7_restore_6 (by decide) (fun c_6 => absurd c_6 (by rw [hv]; decide)) (fun c_6 => ?_)
  refine x_bipush C (pc := 9) (v := (-2)) dX7_restore_9 (by decide) ?_
  exact x_iret C hR0 rfl (Nat.le_of_ble_eq_true rfl) (Nat.le_of_ble_eq_true rfl) ⟨rfl, rfl, rfl⟩ dX7_restore_11
theorem fl_X7_restore_19 : Cond.fieldLink RX7 19 "PileRecountModel" "isSaved" "[Z" ∈ wsX7_restore := by decide +kernel
theorem hn_X7_restore_X7 : ∀ w ∈ wsX70, w ∈ wsX7_restore := fun _ h => List.mem_cons_of_mem _ (List.mem_append_right _ h)
set_option maxHeartbeats 4000000 in
set_option maxRecDepth 100000 in
theorem c_X7_restore_e2 (l : Launch) (D : va_G) (z : Nat) (cI cZ cP cR : ClassId) (N : Nat) (F : Nat → va_E) (k f0 hm : Nat) (pn spt wrg rd : Int32) (a ps sl sv sd wy pa nu : Nat → Int32) (v : Nat) (hM : isMod z cI cZ F k (nI f0) (nI hm) pn spt wrg rd a ps sl sv sd wy pa nu) (hk : k + 9 ≤ N) (hf0 : f0 < 6) (hm6 : hm ≤ 6) (hv : v < 2) (hsv : sv v = 0) : gMi l yX7_restore wsX7_restore ({ frames := 1, cells := 0, slots := 0, locals := 22 }) D z cI cZ cP cR N F [.ref (z + k), .int (nI v)] (gRes (-5) N (fun F2 => F2 = F)) 0 0 := by
  refine gMi.of (cc := cX7_restore) (maxL := 3) (ret := (some .int)) (by decide) rfl (Nat.le_of_ble_eq_true rfl) [(0, .ref (z + k)), (1, .int (nI v))] rfl ?_
  intro pg ev sg mg bel me cg C hR0
  refine x_iload_n C (pc := 0) 1 dX7_restore_0 rfl ?_
  refine x_iconst C (pc := 1) (v := 0) dX7_restore_1 (by decide) ?_
  refine x_iconst C (pc := 2) (v := 1) dX7_restore_2 (by decide) ?_
  refine x_cSiR C (pc := 3) (st := []) (c_X7_in l D z cI cZ cP cR N F (nI v) 0 1) (va_cwS 3 C.2.2.2.2.1 gX7_restore_X7_in rfl rfl rfl hd_X7_in.2 ⟨Nat.le_of_ble_eq_true rfl, Nat.le_of_ble_eq_true rfl⟩) rfl rfl (Nat.le_of_ble_eq_true rfl) dX7_restore_3 ⟨Nat.le_of_ble_eq_true rfl, Nat.le_of_ble_eq_true rfl⟩ ?_
  refine x_bz_ne C (pc := 6) (tgt := 12) dX7_restore_6 (by decide) (fun c_6 => ?_) (fun c_6 => absurd c_6 (by rw [in2 v hv]; decide))
  refine x_aload_n C (pc := 12) 0 dX7_restore_12 rfl ?_
  refine x_get C (pc := 13) (q := k) (v := .ref (z + (k + 4))) (ci := 7) rfl hn_X7_restore_X7 5 (by decide) fl_X7_restore_19 rfl (by omega) hM.ob rfl dX7_restore_13 ?_
  refine x_iload_n C (pc := 16) 1 dX7_restore_16 rfl ?_
  refine x_zaldE C (pc := 17) (q := k + 4) (j := v) (f := sv) (by omega) hM.sv rfl (by omega) (by decide) dX7_restore_17 ?_
  refine x_if_ne C (pc := 18) (tgt := 24) dX7_restore_18 (by decide) (fun c_18 => absurd c_18 (not_not_intro hsv)) (fun c_18 => ?_)
  refine x_bipush C (pc := 21) (v := (-5)) dX7_restore_21 (by decide) ?_
  exact x_iret C hR0 rfl (Nat.le_of_ble_eq_true rfl) (Nat.le_of_ble_eq_true rfl) ⟨rfl, rfl, rfl⟩ dX7_restore_23
theorem fl_X7_restore_16 : Cond.fieldLink RX7 16 "PileRecountModel" "slots" "[I" ∈ wsX7_restore := by decide +kernel
theorem fl_X7_restore_7 : Cond.fieldLink RX7 7 "PileRecountModel" "at" "[I" ∈ wsX7_restore := by decide +kernel
set_option maxHeartbeats 4000000 in
set_option maxRecDepth 100000 in
theorem c_X7_restore_s (l : Launch) (D : va_G) (z : Nat) (cI cZ cP cR : ClassId) (N : Nat) (F : Nat → va_E) (k f0 hm : Nat) (pn spt wrg rd : Int32) (a ps sl sv sd wy pa nu : Nat → Int32) (v : Nat) (hM : isMod z cI cZ F k (nI f0) (nI hm) pn spt wrg rd a ps sl sv sd wy pa nu) (hk : k + 9 ≤ N) (hf0 : f0 < 6) (hm6 : hm ≤ 6) (hv : v < 2) (hsv : ¬ sv v = 0) : gMi l yX7_restore wsX7_restore ({ frames := 1, cells := 0, slots := 0, locals := 22 }) D z cI cZ cP cR N F [.ref (z + k), .int (nI v)] (gRes (sl (65 * v + 4)) N (fun F2 => isMod z cI cZ F2 k (nI (kpF true f0 hm)) (nI (kpM true hm)) pn spt wrg rd (cpA a (fun x => sl (65 * v + x)) 65) (kpP true ps f0 hm a) sl sv sd wy pa nu ∧ gFr k (k + 9) F F2)) 0 0 := by
  refine gMi.of (cc := cX7_restore) (maxL := 3) (ret := (some .int)) (by decide) rfl (Nat.le_of_ble_eq_true rfl) [(0, .ref (z + k)), (1, .int (nI v))] rfl ?_
  intro pg ev sg mg bel me cg C hR0
  refine x_iload_n C (pc := 0) 1 dX7_restore_0 rfl ?_
  refine x_iconst C (pc := 1) (v := 0) dX7_restore_1 (by decide) ?_
  refine x_iconst C (pc := 2) (v := 1) dX7_restore_2 (by decide) ?_
  refine x_cSiR C (pc := 3) (st := []) (c_X7_in l D z cI cZ cP cR N F (nI v) 0 1) (va_cwS 3 C.2.2.2.2.1 gX7_restore_X7_in rfl rfl rfl hd_X7_in.2 ⟨Nat.le_of_ble_eq_true rfl, Nat.le_of_ble_eq_true rfl⟩) rfl rfl (Nat.le_of_ble_eq_true rfl) dX7_restore_3 ⟨Nat.le_of_ble_eq_true rfl, Nat.le_of_ble_eq_true rfl⟩ ?_
  refine x_bz_ne C (pc := 6) (tgt := 12) dX7_restore_6 (by decide) (fun c_6 => ?_) (fun c_6 => absurd c_6 (by rw [in2 v hv]; decide))
  refine x_aload_n C (pc := 12) 0 dX7_restore_12 rfl ?_
  refine x_get C (pc := 13) (q := k) (v := .ref (z + (k + 4))) (ci := 7) rfl hn_X7_restore_X7 5 (by decide) fl_X7_restore_19 rfl (by omega) hM.ob rfl dX7_restore_13 ?_
  refine x_iload_n C (pc := 16) 1 dX7_restore_16 rfl ?_
  refine x_zaldE C (pc := 17) (q := k + 4) (j := v) (f := sv) (by omega) hM.sv rfl (by omega) (by decide) dX7_restore_17 ?_
  refine x_if_ne C (pc := 18) (tgt := 24) dX7_restore_18 (by decide) (fun c_18 => ?_) (fun c_18 => absurd c_18 hsv)
  refine x_aload_n C (pc := 24) 0 dX7_restore_24 rfl ?_
  refine x_cVvE C (pc := 25) (st := []) (c_X7_keep l D z cI cZ cP cR N F k f0 hm pn spt wrg rd a ps sl sv sd wy pa nu   hM (by omega) (by omega) (by omega)  ) (cwV 0 C.2.2.2.2.1 gX7_restore_X7_keep rfl rfl rfl hd_X7_keep ⟨Nat.le_of_ble_eq_true rfl, Nat.le_of_ble_eq_true rfl⟩) (by omega) hM.ob rfl rfl rfl (Nat.le_of_ble_eq_true rfl) dX7_restore_25 ⟨Nat.le_of_ble_eq_true rfl, Nat.le_of_ble_eq_true rfl⟩ (fun F_25 h_25 => ?_)
  obtain ⟨hM_25, fr_25⟩ := h_25
  have kp_25 := kp_lt true (f0 := f0) (hm := hm) (by omega) (by omega)
  refine x_iconst C (pc := 28) (v := 0) dX7_restore_28 (by decide) ?_
  refine x_istore_n C (pc := 29) [(2, .int 0), (0, .ref (z + k)), (1, .int (nI v))] dX7_restore_29 (by decide) rfl ?_
  refine x_sub [1, 2, 0] _ rfl ?_
  refine x_loop2 (A1 := Nat) (A2 := Nat → va_E) (pc := 30) (st := []) (fun i G => 65 - i) (fun i G => (i ≤ 65) ∧ (isMod z cI cZ G k (nI (kpF true f0 hm)) (nI (kpM true hm)) pn spt wrg rd (cpA a (fun x => sl (65 * v + x)) i) (kpP true ps f0 hm a) sl sv sd wy pa nu) ∧ (gFr k (k + 9) F G)) (fun i G => N) (fun i G => G) (fun i G => 0) (fun i G => 0) (fun i G => [(0, .ref (z + k)), (1, .int (nI v)), (2, .int (nI i))]) 0 F_25 ⟨(Nat.zero_le _), (by rw [cpA_0]; exact hM_25), fr_25⟩ rfl rfl rfl rfl rfl ?_
  rintro i G ⟨hi, hG, hfr⟩ ih_30
  try dsimp only at ih_30
  refine x_iload_n C (pc := 30) 2 dX7_restore_30 rfl ?_
  refine x_bipush C (pc := 31) (v := 65) dX7_restore_31 (by decide) ?_
  refine x_icmpN_ge C (a := i) (b := 65) (pc := 33) (tgt := 59) (by omega) (by omega) dX7_restore_33 (by decide) (fun c_33 => ?_) (fun c_33 => ?_)
  · have hi65 : i = 65 := by omega
    subst hi65
    refine x_aload_n C (pc := 59) 0 dX7_restore_59 rfl ?_
    refine x_get C (pc := 60) (q := k) (v := .ref (z + (k + 1))) (ci := 7) rfl hn_X7_restore_X7 0 (by decide) fl_X7_restore_7 rfl (by omega) hG.ob rfl dX7_restore_60 ?_
    refine x_iconst C (pc := 63) (v := 4) dX7_restore_63 (by decide) ?_
    refine x_ialdE C (pc := 64) (q := k + 1) (j := 4) (f := cpA a (fun x => sl (65 * v + x)) 65) (by omega) hG.a rfl (by omega) (by decide) dX7_restore_64 ?_
    refine x_eqi (cpA_lt (by decide)) ?_
    exact x_iret C hR0 rfl (Nat.le_of_ble_eq_true rfl) (Nat.le_of_ble_eq_true rfl) ⟨rfl, rfl, ⟨hG, hfr⟩⟩ dX7_restore_65
  refine x_aload_n C (pc := 36) 0 dX7_restore_36 rfl ?_
  refine x_get C (pc := 37) (q := k) (v := .ref (z + (k + 1))) (ci := 7) rfl hn_X7_restore_X7 0 (by decide) fl_X7_restore_7 rfl (by omega) hG.ob rfl dX7_restore_37 ?_
  refine x_iload_n C (pc := 40) 2 dX7_restore_40 rfl ?_
  refine x_aload_n C (pc := 41) 0 dX7_restore_41 rfl ?_
  refine x_get C (pc := 42) (q := k) (v := .ref (z + (k + 3))) (ci := 7) rfl hn_X7_restore_X7 4 (by decide) fl_X7_restore_16 rfl (by omega) hG.ob rfl dX7_restore_42 ?_
  refine x_bipush C (pc := 45) (v := 65) dX7_restore_45 (by decide) ?_
  refine x_iload_n C (pc := 47) 1 dX7_restore_47 rfl ?_
  refine x_imul C (pc := 48) (v := nI (65 * v)) dX7_restore_48 (pk_mul 65 v) ?_
  refine x_iload_n C (pc := 49) 2 dX7_restore_49 rfl ?_
  refine x_iadd C (pc := 50) (v := nI (65 * v + i)) dX7_restore_50 (nI_add (65 * v) i) ?_
  refine x_ialdE C (pc := 51) (q := k + 3) (j := 65 * v + i) (f := sl) (by omega) hG.sl rfl (by omega) (by decide) dX7_restore_51 ?_
  refine xw_isMod_a C (pc := 52) (j := i) hG (by omega) rfl (by omega) dX7_restore_52 (fun F_52 hG_52 fr_52 => ?_)
  refine x_iinc C (pc := 53) 2 [(2, .int (nI (i + 1))), (0, .ref (z + k)), (1, .int (nI v))] dX7_restore_53 rfl (nI_inc i) (by decide) rfl ?_
  refine x_goto C (pc := 56) (tgt := 30) dX7_restore_56 (by decide) ?_
  exact x_sub [1, 2, 0] _ rfl (ih_30 (i + 1) F_52 ⟨(by omega), (by rw [← cpA_up]; exact hG_52), (gFr.t2 hfr fr_52)⟩ (by omega))
