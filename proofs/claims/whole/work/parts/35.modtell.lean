theorem plG_eq {od : Nat → Int32} {x : Int32} {kk t : Nat} (ht : t < kk) (e : od t = x) (hu : ∀ s, s < t → ¬ od s = x) : ∀ f c, f = kk - c → c ≤ t → plG od x kk f c = nI t := by
  intro f
  induction f with
  | zero => intro c h1 h2; omega
  | succ f ih =>
    intro c h1 h2
    rw [plG]
    by_cases h : c = t
    · rw [h, if_pos e]
    · rw [if_neg (hu c (by omega))]; exact ih (c + 1) (by omega) (by omega)
theorem plG_no {od : Nat → Int32} {x : Int32} {kk : Nat} (hu : ∀ s, s < kk → ¬ od s = x) : ∀ f c, f = kk - c → plG od x kk f c = -6 := by
  intro f
  induction f with
  | zero => intro c h1; rfl
  | succ f ih =>
    intro c h1
    rw [plG, if_neg (hu c (by omega))]; exact ih (c + 1) (by omega)
theorem pl_eq {a : Nat → Int32} {n kk cw c0 : Nat} {wi rl sp : Int32} {pd : Nat → Nat → Int32} {od : Nat → Int32} (h : mA a n kk cw c0 wi rl sp pd od) {p : Nat} (hp : p < n) : a (5 + 6 * p + 5) = plG od (nI p) kk kk 0 := by
  obtain ⟨-, -, -, -, -, -, h6, h7, h8, -, -, -, -, -, -, h15⟩ := h
  cases hb : cw.testBit p with
  | true =>
    obtain ⟨t, ht, e1, e2⟩ := (h6 p hp).2 hb
    rw [e1, plG_eq ht e2 (fun s hs hq => ?_) kk 0 (by omega) (Nat.zero_le _)]
    obtain ⟨p2, hp2, q1, q2⟩ := h15 s (by omega)
    have e3 : p2 = p := (nI_eq (by omega) (by omega)).mp (q1.symm.trans hq)
    rw [e3] at q2
    have := (nI_eq (by omega) (by omega)).mp (q2.symm.trans e1)
    omega
  | false =>
    rw [(h6 p hp).1 hb, plG_no (fun s hs hq => ?_) kk 0 (by omega)]
    obtain ⟨p2, hp2, q1, q2⟩ := h15 s hs
    have e3 : p2 = p := (nI_eq (by omega) (by omega)).mp (q1.symm.trans hq)
    rw [e3, (h6 p hp).1 hb] at q2
    exact nI_nm6 (by omega) q2.symm
set_option maxHeartbeats 4000000 in
set_option maxRecDepth 100000 in
theorem c_X7_ofPile_e (l : Launch) (D : va_G) (z : Nat) (cI cZ cP cR : ClassId) (N : Nat) (F : Nat → va_E) (k : Nat) (pf pm pn spt wrg rd : Int32) (a ps sl sv sd wy pa nu : Nat → Int32) (n kk cw c0 : Nat) (wi rl sp : Int32) (pd : Nat → Nat → Int32) (od : Nat → Int32) (v x : Int32) (hM : isMod z cI cZ F k pf pm pn spt wrg rd a ps sl sv sd wy pa nu) (hk : k + 9 ≤ N) (hA : mA a n kk cw c0 wi rl sp pd od) (hv : inP v (nI n) = false) : gMi l yX7_ofPile wsX7_ofPile ({ frames := 2, cells := 0, slots := 0, locals := 43 }) D z cI cZ cP cR N F [.ref (z + k), .int v, .int x] (gRes (-1) N (fun F2 => F2 = F)) 0 0 := by
  refine gMi.of (cc := cX7_ofPile) (maxL := 4) (ret := (some .int)) (by decide) rfl (Nat.le_of_ble_eq_true rfl) [(0, .ref (z + k)), (1, .int v), (2, .int x)] rfl ?_
  intro pg ev sg mg bel me cg C hR0
  obtain ⟨ha0, ha1, ha2, ha3, ha4, hpd, hpl, hn, hkk, hcw, hcnt, hc0, hsp, hrl, hwi, hod⟩ := id hA
  have h2n := two_lt hn
  refine x_aload_n C (pc := 0) 0 dX7_ofPile_0 rfl ?_
  refine x_iload_n C (pc := 1) 1 dX7_ofPile_1 rfl ?_
  refine x_cViR C (pc := 2) (st := []) (c_X7_isPile l D z cI cZ cP cR N F k pf pm pn spt wrg rd a ps sl sv sd wy pa nu n kk cw c0 wi rl sp pd od v hM (by omega) hA ) (cwV 1 C.2.2.2.2.1 gX7_ofPile_X7_isPile rfl rfl rfl hd_X7_isPile ⟨Nat.le_of_ble_eq_true rfl, Nat.le_of_ble_eq_true rfl⟩) (by omega) hM.ob rfl rfl rfl (Nat.le_of_ble_eq_true rfl) dX7_ofPile_2 ⟨Nat.le_of_ble_eq_true rfl, Nat.le_of_ble_eq_true rfl⟩ ?_
  refine x_bz_ne C (pc := 5) (tgt := 10) dX7_ofPile_5 (by decide) (fun c_5 => absurd c_5 (by rw [hv]; decide)) (fun c_5 => ?_)
  refine x_iconst C (pc := 8) (v := (-1)) dX7_ofPile_8 (by decide) ?_
  exact x_iret C hR0 rfl (Nat.le_of_ble_eq_true rfl) (Nat.le_of_ble_eq_true rfl) ⟨rfl, rfl, rfl⟩ dX7_ofPile_9
set_option maxHeartbeats 4000000 in
set_option maxRecDepth 100000 in
theorem c_X7_ofPile_s (l : Launch) (D : va_G) (z : Nat) (cI cZ cP cR : ClassId) (N : Nat) (F : Nat → va_E) (k : Nat) (pf pm pn spt wrg rd : Int32) (a ps sl sv sd wy pa nu : Nat → Int32) (n kk cw c0 : Nat) (wi rl sp : Int32) (pd : Nat → Nat → Int32) (od : Nat → Int32) (v : Nat) (x : Int32) (hM : isMod z cI cZ F k pf pm pn spt wrg rd a ps sl sv sd wy pa nu) (hk : k + 9 ≤ N) (hA : mA a n kk cw c0 wi rl sp pd od) (hv : inP (nI v) (nI n) = true) (hvn : v < n) : gMi l yX7_ofPile wsX7_ofPile ({ frames := 5, cells := 0, slots := 0, locals := 107 }) D z cI cZ cP cR N F [.ref (z + k), .int (nI v), .int x] (gRes (ofpF v kk cw wi pd od x) N (fun F2 => F2 = F)) 0 0 := by
  refine gMi.of (cc := cX7_ofPile) (maxL := 4) (ret := (some .int)) (by decide) rfl (Nat.le_of_ble_eq_true rfl) [(0, .ref (z + k)), (1, .int (nI v)), (2, .int x)] rfl ?_
  intro pg ev sg mg bel me cg C hR0
  obtain ⟨ha0, ha1, ha2, ha3, ha4, hpd, hpl, hn, hkk, hcw, hcnt, hc0, hsp, hrl, hwi, hod⟩ := id hA
  have h2n := two_lt hn
  refine x_aload_n C (pc := 0) 0 dX7_ofPile_0 rfl ?_
  refine x_iload_n C (pc := 1) 1 dX7_ofPile_1 rfl ?_
  refine x_cViR C (pc := 2) (st := []) (c_X7_isPile l D z cI cZ cP cR N F k pf pm pn spt wrg rd a ps sl sv sd wy pa nu n kk cw c0 wi rl sp pd od (nI v) hM (by omega) hA ) (cwV 1 C.2.2.2.2.1 gX7_ofPile_X7_isPile rfl rfl rfl hd_X7_isPile ⟨Nat.le_of_ble_eq_true rfl, Nat.le_of_ble_eq_true rfl⟩) (by omega) hM.ob rfl rfl rfl (Nat.le_of_ble_eq_true rfl) dX7_ofPile_2 ⟨Nat.le_of_ble_eq_true rfl, Nat.le_of_ble_eq_true rfl⟩ ?_
  refine x_bz_ne C (pc := 5) (tgt := 10) dX7_ofPile_5 (by decide) (fun c_5 => ?_) (fun c_5 => absurd c_5 (by rw [hv]; decide))
  refine x_aload_n C (pc := 10) 0 dX7_ofPile_10 rfl ?_
  refine x_iload_n C (pc := 11) 1 dX7_ofPile_11 rfl ?_
  refine x_cViR C (pc := 12) (st := []) (c_X7_isCounted l D z cI cZ cP cR N F k pf pm pn spt wrg rd a ps sl sv sd wy pa nu n kk cw c0 wi rl sp pd od v hM (by omega) hA (by omega)) (cwV 1 C.2.2.2.2.1 gX7_ofPile_X7_isCounted rfl rfl rfl hd_X7_isCounted ⟨Nat.le_of_ble_eq_true rfl, Nat.le_of_ble_eq_true rfl⟩) (by omega) hM.ob rfl rfl rfl (Nat.le_of_ble_eq_true rfl) dX7_ofPile_12 ⟨Nat.le_of_ble_eq_true rfl, Nat.le_of_ble_eq_true rfl⟩ ?_
  refine x_istore_n C (pc := 15) [(3, .int (bz ((cw).testBit v))), (0, .ref (z + k)), (1, .int (nI v)), (2, .int x)] dX7_ofPile_15 (by decide) rfl ?_
  refine x_iload_n C (pc := 16) 3 dX7_ofPile_16 rfl ?_
  by_cases hs0 : x = 0
  · refine x_tableIn C (pc := 17) (off := 51) (tgt := 68) dX7_ofPile_17 (by rw [hs0]; decide) (by rw [hs0]; decide) (by rw [hs0]; rfl) (by decide) ?_
    refine x_eqL [(3, .int (bz ((cw).testBit v))), (0, .ref (z + k)), (1, .int (nI v)), (2, .int 0)] (by rw [hs0]) ?_
    refine x_aload_n C (pc := 68) 1 dX7_ofPile_68 rfl ?_
    refine x_iload_n C (pc := 69) 2 dX7_ofPile_69 rfl ?_
    refine x_iload_n C (pc := 70) 3 dX7_ofPile_70 rfl ?_
    refine x_cViR C (pc := 71) (st := []) (c_X7_ofd l D z cI cZ cP cR N F k pf pm pn spt wrg rd a ps sl sv sd wy pa nu n kk cw c0 wi rl sp pd od v 0 hM (by omega) hA (by omega) (by omega)) (cwV 2 C.2.2.2.2.1 gX7_ofPile_X7_of rfl rfl rfl hd_X7_of ⟨Nat.le_of_ble_eq_true rfl, Nat.le_of_ble_eq_true rfl⟩) (by omega) hM.ob rfl rfl rfl (Nat.le_of_ble_eq_true rfl) dX7_ofPile_71 ⟨Nat.le_of_ble_eq_true rfl, Nat.le_of_ble_eq_true rfl⟩ ?_
    exact x_iret C hR0 rfl (Nat.le_of_ble_eq_true rfl) (Nat.le_of_ble_eq_true rfl) ⟨(by rw [ofpF, if_pos hs0]), rfl, rfl⟩ dX7_ofPile_74
  by_cases hs1 : x = 1
  · refine x_tableIn C (pc := 17) (off := 51) (tgt := 68) dX7_ofPile_17 (by rw [hs1]; decide) (by rw [hs1]; decide) (by rw [hs1]; rfl) (by decide) ?_
    refine x_eqL [(3, .int (bz ((cw).testBit v))), (0, .ref (z + k)), (1, .int (nI v)), (2, .int 1)] (by rw [hs1]) ?_
    refine x_aload_n C (pc := 68) 1 dX7_ofPile_68 rfl ?_
    refine x_iload_n C (pc := 69) 2 dX7_ofPile_69 rfl ?_
    refine x_iload_n C (pc := 70) 3 dX7_ofPile_70 rfl ?_
    refine x_cViR C (pc := 71) (st := []) (c_X7_ofd l D z cI cZ cP cR N F k pf pm pn spt wrg rd a ps sl sv sd wy pa nu n kk cw c0 wi rl sp pd od v 1 hM (by omega) hA (by omega) (by omega)) (cwV 2 C.2.2.2.2.1 gX7_ofPile_X7_of rfl rfl rfl hd_X7_of ⟨Nat.le_of_ble_eq_true rfl, Nat.le_of_ble_eq_true rfl⟩) (by omega) hM.ob rfl rfl rfl (Nat.le_of_ble_eq_true rfl) dX7_ofPile_71 ⟨Nat.le_of_ble_eq_true rfl, Nat.le_of_ble_eq_true rfl⟩ ?_
    exact x_iret C hR0 rfl (Nat.le_of_ble_eq_true rfl) (Nat.le_of_ble_eq_true rfl) ⟨(by rw [ofpF, if_neg hs0, if_pos hs1]), rfl, rfl⟩ dX7_ofPile_74
  by_cases hs2 : x = 2
  · refine x_tableIn C (pc := 17) (off := 51) (tgt := 68) dX7_ofPile_17 (by rw [hs2]; decide) (by rw [hs2]; decide) (by rw [hs2]; rfl) (by decide) ?_
    refine x_eqL [(3, .int (bz ((cw).testBit v))), (0, .ref (z + k)), (1, .int (nI v)), (2, .int 2)] (by rw [hs2]) ?_
    refine x_aload_n C (pc := 68) 1 dX7_ofPile_68 rfl ?_
    refine x_iload_n C (pc := 69) 2 dX7_ofPile_69 rfl ?_
    refine x_iload_n C (pc := 70) 3 dX7_ofPile_70 rfl ?_
    refine x_cViR C (pc := 71) (st := []) (c_X7_ofd l D z cI cZ cP cR N F k pf pm pn spt wrg rd a ps sl sv sd wy pa nu n kk cw c0 wi rl sp pd od v 2 hM (by omega) hA (by omega) (by omega)) (cwV 2 C.2.2.2.2.1 gX7_ofPile_X7_of rfl rfl rfl hd_X7_of ⟨Nat.le_of_ble_eq_true rfl, Nat.le_of_ble_eq_true rfl⟩) (by omega) hM.ob rfl rfl rfl (Nat.le_of_ble_eq_true rfl) dX7_ofPile_71 ⟨Nat.le_of_ble_eq_true rfl, Nat.le_of_ble_eq_true rfl⟩ ?_
    exact x_iret C hR0 rfl (Nat.le_of_ble_eq_true rfl) (Nat.le_of_ble_eq_true rfl) ⟨(by rw [ofpF, if_neg hs0, if_neg hs1, if_pos hs2]), rfl, rfl⟩ dX7_ofPile_74
  by_cases hs3 : x = 3
  · refine x_tableIn C (pc := 17) (off := 58) (tgt := 75) dX7_ofPile_17 (by rw [hs3]; decide) (by rw [hs3]; decide) (by rw [hs3]; rfl) (by decide) ?_
    refine x_aload_n C (pc := 75) 1 dX7_ofPile_75 rfl ?_
    refine x_iload_n C (pc := 76) 2 dX7_ofPile_76 rfl ?_
    refine x_cViR C (pc := 77) (st := []) (c_X7_size l D z cI cZ cP cR N F k pf pm pn spt wrg rd a ps sl sv sd wy pa nu n kk cw c0 wi rl sp pd od v hM (by omega) hA (by omega)) (cwV 1 C.2.2.2.2.1 gX7_ofPile_X7_size rfl rfl rfl hd_X7_size ⟨Nat.le_of_ble_eq_true rfl, Nat.le_of_ble_eq_true rfl⟩) (by omega) hM.ob rfl rfl rfl (Nat.le_of_ble_eq_true rfl) dX7_ofPile_77 ⟨Nat.le_of_ble_eq_true rfl, Nat.le_of_ble_eq_true rfl⟩ ?_
    exact x_iret C hR0 rfl (Nat.le_of_ble_eq_true rfl) (Nat.le_of_ble_eq_true rfl) ⟨(by rw [ofpF, if_neg hs0, if_neg hs1, if_neg hs2, if_pos hs3]), rfl, rfl⟩ dX7_ofPile_80
  by_cases hs4 : x = 4
  · refine x_tableIn C (pc := 17) (off := 64) (tgt := 81) dX7_ofPile_17 (by rw [hs4]; decide) (by rw [hs4]; decide) (by rw [hs4]; rfl) (by decide) ?_
    refine x_aload_n C (pc := 81) 1 dX7_ofPile_81 rfl ?_
    refine x_iload_n C (pc := 82) 2 dX7_ofPile_82 rfl ?_
    refine x_iconst C (pc := 83) (v := 5) dX7_ofPile_83 (by decide) ?_
    refine x_cViR C (pc := 84) (st := []) (c_X7_of l D z cI cZ cP cR N F k pf pm pn spt wrg rd a ps sl sv sd wy pa nu v 5 hM (by omega) (by omega) (by omega)) (cwV 2 C.2.2.2.2.1 gX7_ofPile_X7_of rfl rfl rfl hd_X7_of ⟨Nat.le_of_ble_eq_true rfl, Nat.le_of_ble_eq_true rfl⟩) (by omega) hM.ob rfl rfl rfl (Nat.le_of_ble_eq_true rfl) dX7_ofPile_84 ⟨Nat.le_of_ble_eq_true rfl, Nat.le_of_ble_eq_true rfl⟩ ?_
    exact x_iret C hR0 rfl (Nat.le_of_ble_eq_true rfl) (Nat.le_of_ble_eq_true rfl) ⟨(by rw [ofpF, if_neg hs0, if_neg hs1, if_neg hs2, if_neg hs3, if_pos hs4]; exact pl_eq hA hvn), rfl, rfl⟩ dX7_ofPile_87
  by_cases hs5 : x = 5
  · refine x_tableIn C (pc := 17) (off := 71) (tgt := 88) dX7_ofPile_17 (by rw [hs5]; decide) (by rw [hs5]; decide) (by rw [hs5]; rfl) (by decide) ?_
    refine x_eqL [(3, .int (bz ((cw).testBit v))), (0, .ref (z + k)), (1, .int (nI v)), (2, .int 5)] (by rw [hs5]) ?_
    refine x_iload_n C (pc := 88) 0 dX7_ofPile_88 rfl ?_
    refine x_bz_eq C (pc := 89) (tgt := 103) dX7_ofPile_89 (by decide) (fun c_89 => ?_) (fun c_89 => ?_)
    · refine x_bipush C (pc := 103) (v := (-6)) dX7_ofPile_103 (by decide) ?_
      exact x_iret C hR0 rfl (Nat.le_of_ble_eq_true rfl) (Nat.le_of_ble_eq_true rfl) ⟨(by rw [ofpF, if_neg hs0, if_neg hs1, if_neg hs2, if_neg hs3, if_neg hs4, if_pos hs5]; rw [if_neg (by rw [c_89]; decide)]), rfl, rfl⟩ dX7_ofPile_105
    refine x_aload_n C (pc := 92) 1 dX7_ofPile_92 rfl ?_
    refine x_iload_n C (pc := 93) 2 dX7_ofPile_93 rfl ?_
    refine x_iload_n C (pc := 94) 3 dX7_ofPile_94 rfl ?_
    refine x_iconst C (pc := 95) (v := 2) dX7_ofPile_95 (by decide) ?_
    refine x_isub C (pc := 96) (v := 3) dX7_ofPile_96 (by decide) ?_
    refine x_cViR C (pc := 97) (st := []) (c_X7_ofd l D z cI cZ cP cR N F k pf pm pn spt wrg rd a ps sl sv sd wy pa nu n kk cw c0 wi rl sp pd od v 3 hM (by omega) hA (by omega) (by omega)) (cwV 2 C.2.2.2.2.1 gX7_ofPile_X7_of rfl rfl rfl hd_X7_of ⟨Nat.le_of_ble_eq_true rfl, Nat.le_of_ble_eq_true rfl⟩) (by omega) hM.ob rfl rfl rfl (Nat.le_of_ble_eq_true rfl) dX7_ofPile_97 ⟨Nat.le_of_ble_eq_true rfl, Nat.le_of_ble_eq_true rfl⟩ ?_
    refine x_goto C (pc := 100) (tgt := 105) dX7_ofPile_100 (by decide) ?_
    exact x_iret C hR0 rfl (Nat.le_of_ble_eq_true rfl) (Nat.le_of_ble_eq_true rfl) ⟨(by rw [ofpF, if_neg hs0, if_neg hs1, if_neg hs2, if_neg hs3, if_neg hs4, if_pos hs5]; rw [if_pos c_89]), rfl, rfl⟩ dX7_ofPile_105
  by_cases hs6 : x = 6
  · refine x_tableIn C (pc := 17) (off := 71) (tgt := 88) dX7_ofPile_17 (by rw [hs6]; decide) (by rw [hs6]; decide) (by rw [hs6]; rfl) (by decide) ?_
    refine x_eqL [(3, .int (bz ((cw).testBit v))), (0, .ref (z + k)), (1, .int (nI v)), (2, .int 6)] (by rw [hs6]) ?_
    refine x_iload_n C (pc := 88) 0 dX7_ofPile_88 rfl ?_
    refine x_bz_eq C (pc := 89) (tgt := 103) dX7_ofPile_89 (by decide) (fun c_89 => ?_) (fun c_89 => ?_)
    · refine x_bipush C (pc := 103) (v := (-6)) dX7_ofPile_103 (by decide) ?_
      exact x_iret C hR0 rfl (Nat.le_of_ble_eq_true rfl) (Nat.le_of_ble_eq_true rfl) ⟨(by rw [ofpF, if_neg hs0, if_neg hs1, if_neg hs2, if_neg hs3, if_neg hs4, if_neg hs5, if_pos hs6]; rw [if_neg (by rw [c_89]; decide)]), rfl, rfl⟩ dX7_ofPile_105
    refine x_aload_n C (pc := 92) 1 dX7_ofPile_92 rfl ?_
    refine x_iload_n C (pc := 93) 2 dX7_ofPile_93 rfl ?_
    refine x_iload_n C (pc := 94) 3 dX7_ofPile_94 rfl ?_
    refine x_iconst C (pc := 95) (v := 2) dX7_ofPile_95 (by decide) ?_
    refine x_isub C (pc := 96) (v := 4) dX7_ofPile_96 (by decide) ?_
    refine x_cViR C (pc := 97) (st := []) (c_X7_ofd l D z cI cZ cP cR N F k pf pm pn spt wrg rd a ps sl sv sd wy pa nu n kk cw c0 wi rl sp pd od v 4 hM (by omega) hA (by omega) (by omega)) (cwV 2 C.2.2.2.2.1 gX7_ofPile_X7_of rfl rfl rfl hd_X7_of ⟨Nat.le_of_ble_eq_true rfl, Nat.le_of_ble_eq_true rfl⟩) (by omega) hM.ob rfl rfl rfl (Nat.le_of_ble_eq_true rfl) dX7_ofPile_97 ⟨Nat.le_of_ble_eq_true rfl, Nat.le_of_ble_eq_true rfl⟩ ?_
    refine x_goto C (pc := 100) (tgt := 105) dX7_ofPile_100 (by decide) ?_
    exact x_iret C hR0 rfl (Nat.le_of_ble_eq_true rfl) (Nat.le_of_ble_eq_true rfl) ⟨(by rw [ofpF, if_neg hs0, if_neg hs1, if_neg hs2, if_neg hs3, if_neg hs4, if_neg hs5, if_pos hs6]; rw [if_pos c_89]), rfl, rfl⟩ dX7_ofPile_105
  by_cases hs7 : x = 7
  · refine x_tableIn C (pc := 17) (off := 89) (tgt := 106) dX7_ofPile_17 (by rw [hs7]; decide) (by rw [hs7]; decide) (by rw [hs7]; rfl) (by decide) ?_
    refine x_iload_n C (pc := 106) 0 dX7_ofPile_106 rfl ?_
    refine x_bz_eq C (pc := 107) (tgt := 127) dX7_ofPile_107 (by decide) (fun c_107 => ?_) (fun c_107 => ?_)
    · refine x_iconst C (pc := 127) (v := 0) dX7_ofPile_127 (by decide) ?_
      exact x_iret C hR0 rfl (Nat.le_of_ble_eq_true rfl) (Nat.le_of_ble_eq_true rfl) ⟨(by rw [ofpF, if_neg hs0, if_neg hs1, if_neg hs2, if_neg hs3, if_neg hs4, if_neg hs5, if_neg hs6, if_pos hs7]; first | (rw [c_107, worB, decide_eq_false (Int32.not_lt.mpr c_120)]; rfl) | (rw [c_107]; rfl)), rfl, rfl⟩ dX7_ofPile_128
    refine x_aload_n C (pc := 110) 1 dX7_ofPile_110 rfl ?_
    refine x_iload_n C (pc := 111) 2 dX7_ofPile_111 rfl ?_
    refine x_cViR C (pc := 112) (st := []) (c_X7_found l D z cI cZ cP cR N F k pf pm pn spt wrg rd a ps sl sv sd wy pa nu n kk cw c0 wi rl sp pd od v hM (by omega) hA (by omega)) (cwV 1 C.2.2.2.2.1 gX7_ofPile_X7_found rfl rfl rfl hd_X7_found ⟨Nat.le_of_ble_eq_true rfl, Nat.le_of_ble_eq_true rfl⟩) (by omega) hM.ob rfl rfl rfl (Nat.le_of_ble_eq_true rfl) dX7_ofPile_112 ⟨Nat.le_of_ble_eq_true rfl, Nat.le_of_ble_eq_true rfl⟩ ?_
    refine x_aload_n C (pc := 115) 1 dX7_ofPile_115 rfl ?_
    refine x_iload_n C (pc := 116) 2 dX7_ofPile_116 rfl ?_
    refine x_cViR C (pc := 117) (st := [.int (fouF wi (pd v))]) (c_X7_reported l D z cI cZ cP cR N F k pf pm pn spt wrg rd a ps sl sv sd wy pa nu n kk cw c0 wi rl sp pd od v hM (by omega) hA (by omega)) (cwV 1 C.2.2.2.2.1 gX7_ofPile_X7_reported rfl rfl rfl hd_X7_reported ⟨Nat.le_of_ble_eq_true rfl, Nat.le_of_ble_eq_true rfl⟩) (by omega) hM.ob rfl rfl rfl (Nat.le_of_ble_eq_true rfl) dX7_ofPile_117 ⟨Nat.le_of_ble_eq_true rfl, Nat.le_of_ble_eq_true rfl⟩ ?_
    refine x_icmp_ge C (pc := 120) (tgt := 127) dX7_ofPile_120 (by decide) (fun c_120 => ?_) (fun c_120 => ?_)
    · refine x_iconst C (pc := 127) (v := 0) dX7_ofPile_127 (by decide) ?_
      exact x_iret C hR0 rfl (Nat.le_of_ble_eq_true rfl) (Nat.le_of_ble_eq_true rfl) ⟨(by rw [ofpF, if_neg hs0, if_neg hs1, if_neg hs2, if_neg hs3, if_neg hs4, if_neg hs5, if_neg hs6, if_pos hs7]; first | (rw [c_107, worB, decide_eq_false (Int32.not_lt.mpr c_120)]; rfl) | (rw [c_107]; rfl)), rfl, rfl⟩ dX7_ofPile_128
    refine x_iconst C (pc := 123) (v := 1) dX7_ofPile_123 (by decide) ?_
    refine x_goto C (pc := 124) (tgt := 128) dX7_ofPile_124 (by decide) ?_
    exact x_iret C hR0 rfl (Nat.le_of_ble_eq_true rfl) (Nat.le_of_ble_eq_true rfl) ⟨(by rw [ofpF, if_neg hs0, if_neg hs1, if_neg hs2, if_neg hs3, if_neg hs4, if_neg hs5, if_neg hs6, if_pos hs7]; rw [c_107, worB, decide_eq_true (Int32.not_le.mp c_120)]; rfl), rfl, rfl⟩ dX7_ofPile_128
  by_cases hs8 : x = 8
  · refine x_tableIn C (pc := 17) (off := 112) (tgt := 129) dX7_ofPile_17 (by rw [hs8]; decide) (by rw [hs8]; decide) (by rw [hs8]; rfl) (by decide) ?_
    refine x_iload_n C (pc := 129) 0 dX7_ofPile_129 rfl ?_
    refine x_bz_ne C (pc := 130) (tgt := 140) dX7_ofPile_130 (by decide) (fun c_130 => ?_) (fun c_130 => ?_)
    · refine x_bipush C (pc := 140) (v := (-6)) dX7_ofPile_140 (by decide) ?_
      refine x_goto C (pc := 142) (tgt := 150) dX7_ofPile_142 (by decide) ?_
      exact x_iret C hR0 rfl (Nat.le_of_ble_eq_true rfl) (Nat.le_of_ble_eq_true rfl) ⟨(by rw [ofpF, if_neg hs0, if_neg hs1, if_neg hs2, if_neg hs3, if_neg hs4, if_neg hs5, if_neg hs6, if_neg hs7, if_pos hs8]; first | (rw [if_pos c_130]) | (rw [if_neg (by rw [c_130]; decide), if_pos ((win_lt hwi).mp (Int32.not_le.mp c_137))]) | (rw [if_neg (by rw [c_130]; decide), if_neg (by rw [win_t hwi (Int32.not_lt.mpr c_137)]; decide)])), rfl, rfl⟩ dX7_ofPile_150
    refine x_aload_n C (pc := 133) 1 dX7_ofPile_133 rfl ?_
    refine x_cViR C (pc := 134) (st := []) (c_X7_winner l D z cI cZ cP cR N F k pf pm pn spt wrg rd a ps sl sv sd wy pa nu n kk cw c0 wi rl sp pd od  hM (by omega) hA ) (cwV 0 C.2.2.2.2.1 gX7_ofPile_X7_winner rfl rfl rfl hd_X7_winner ⟨Nat.le_of_ble_eq_true rfl, Nat.le_of_ble_eq_true rfl⟩) (by omega) hM.ob rfl rfl rfl (Nat.le_of_ble_eq_true rfl) dX7_ofPile_134 ⟨Nat.le_of_ble_eq_true rfl, Nat.le_of_ble_eq_true rfl⟩ ?_
    refine x_if_ge C (pc := 137) (tgt := 145) dX7_ofPile_137 (by decide) (fun c_137 => ?_) (fun c_137 => ?_)
    · refine x_aload_n C (pc := 145) 1 dX7_ofPile_145 rfl ?_
      refine x_iload_n C (pc := 146) 2 dX7_ofPile_146 rfl ?_
      refine x_cViR C (pc := 147) (st := []) (c_X7_swing l D z cI cZ cP cR N F k pf pm pn spt wrg rd a ps sl sv sd wy pa nu n kk cw c0 wi rl sp pd od v hM (by omega) hA (by omega)) (cwV 1 C.2.2.2.2.1 gX7_ofPile_X7_swing rfl rfl rfl hd_X7_swing ⟨Nat.le_of_ble_eq_true rfl, Nat.le_of_ble_eq_true rfl⟩) (by omega) hM.ob rfl rfl rfl (Nat.le_of_ble_eq_true rfl) dX7_ofPile_147 ⟨Nat.le_of_ble_eq_true rfl, Nat.le_of_ble_eq_true rfl⟩ ?_
      exact x_iret C hR0 rfl (Nat.le_of_ble_eq_true rfl) (Nat.le_of_ble_eq_true rfl) ⟨(by rw [ofpF, if_neg hs0, if_neg hs1, if_neg hs2, if_neg hs3, if_neg hs4, if_neg hs5, if_neg hs6, if_neg hs7, if_pos hs8]; first | (rw [if_pos c_130]) | (rw [if_neg (by rw [c_130]; decide), if_pos ((win_lt hwi).mp (Int32.not_le.mp c_137))]) | (rw [if_neg (by rw [c_130]; decide), if_neg (by rw [win_t hwi (Int32.not_lt.mpr c_137)]; decide)])), rfl, rfl⟩ dX7_ofPile_150
    refine x_bipush C (pc := 140) (v := (-6)) dX7_ofPile_140 (by decide) ?_
    refine x_goto C (pc := 142) (tgt := 150) dX7_ofPile_142 (by decide) ?_
    exact x_iret C hR0 rfl (Nat.le_of_ble_eq_true rfl) (Nat.le_of_ble_eq_true rfl) ⟨(by rw [ofpF, if_neg hs0, if_neg hs1, if_neg hs2, if_neg hs3, if_neg hs4, if_neg hs5, if_neg hs6, if_neg hs7, if_pos hs8]; first | (rw [if_pos c_130]) | (rw [if_neg (by rw [c_130]; decide), if_pos ((win_lt hwi).mp (Int32.not_le.mp c_137))]) | (rw [if_neg (by rw [c_130]; decide), if_neg (by rw [win_t hwi (Int32.not_lt.mpr c_137)]; decide)])), rfl, rfl⟩ dX7_ofPile_150
  refine x_tableOut C (pc := 17) (tgt := 151) dX7_ofPile_17 (tab_out (m := 8) (by decide) (fun i hi => by match i, hi with | 0, _ => exact hs0 | 1, _ => exact hs1 | 2, _ => exact hs2 | 3, _ => exact hs3 | 4, _ => exact hs4 | 5, _ => exact hs5 | 6, _ => exact hs6 | 7, _ => exact hs7 | 8, _ => exact hs8)) (by decide) ?_
  refine x_bipush C (pc := 151) (v := (-2)) dX7_ofPile_151 (by decide) ?_
  exact x_iret C hR0 rfl (Nat.le_of_ble_eq_true rfl) (Nat.le_of_ble_eq_true rfl) ⟨(by rw [ofpF, if_neg hs0, if_neg hs1, if_neg hs2, if_neg hs3, if_neg hs4, if_neg hs5, if_neg hs6, if_neg hs7, if_neg hs8]), rfl, rfl⟩ dX7_ofPile_153
set_option maxHeartbeats 4000000 in
set_option maxRecDepth 100000 in
theorem c_X7_needNow (l : Launch) (D : va_G) (z : Nat) (cI cZ cP cR : ClassId) (N : Nat) (F : Nat → va_E) (k : Nat) (pf pm pn spt wrg rd : Int32) (a ps sl sv sd wy pa nu : Nat → Int32) (n kk cw c0 : Nat) (wi rl sp : Int32) (pd : Nat → Nat → Int32) (od : Nat → Int32) (pi : Nat → Nat) (hM : isMod z cI cZ F k pf pm pn spt wrg rd a ps sl sv sd wy pa nu) (hk : k + 9 ≤ N) (hA : mA a n kk cw c0 wi rl sp pd od) (hpi : rkPi (fun i => swF wi (pd i)) n pi) : gMi l yX7_needNow wsX7_needNow ({ frames := 7, cells := 0, slots := 0, locals := 157 }) D z cI cZ cP cR N F [.ref (z + k)] (gRes (if hwB wi = true then opI (ndR (fun i => swF wi (pd i)) pi n cw (leadF wi pd n cw)) else -6) N (fun F2 => F2 = F)) 0 0 := by
  refine gMi.of (cc := cX7_needNow) (maxL := 3) (ret := (some .int)) (by decide) rfl (Nat.le_of_ble_eq_true rfl) [(0, .ref (z + k))] rfl ?_
  intro pg ev sg mg bel me cg C hR0
  obtain ⟨ha0, ha1, ha2, ha3, ha4, hpd, hpl, hn, hkk, hcw, hcnt, hc0, hsp, hrl, hwi, hod⟩ := id hA
  have h2n := two_lt hn
  refine x_aload_n C (pc := 0) 0 dX7_needNow_0 rfl ?_
  refine x_cViR C (pc := 1) (st := []) (c_X7_countedSet l D z cI cZ cP cR N F k pf pm pn spt wrg rd a ps sl sv sd wy pa nu n kk cw c0 wi rl sp pd od  hM (by omega) hA ) (cwV 0 C.2.2.2.2.1 gX7_needNow_X7_countedSet rfl rfl rfl hd_X7_countedSet ⟨Nat.le_of_ble_eq_true rfl, Nat.le_of_ble_eq_true rfl⟩) (by omega) hM.ob rfl rfl rfl (Nat.le_of_ble_eq_true rfl) dX7_needNow_1 ⟨Nat.le_of_ble_eq_true rfl, Nat.le_of_ble_eq_true rfl⟩ ?_
  refine x_istore_n C (pc := 4) [(1, .int (nI cw)), (0, .ref (z + k))] dX7_needNow_4 (by decide) rfl ?_
  refine x_aload_n C (pc := 5) 1 dX7_needNow_5 rfl ?_
  refine x_cViR C (pc := 6) (st := []) (c_X7_winner l D z cI cZ cP cR N F k pf pm pn spt wrg rd a ps sl sv sd wy pa nu n kk cw c0 wi rl sp pd od  hM (by omega) hA ) (cwV 0 C.2.2.2.2.1 gX7_needNow_X7_winner rfl rfl rfl hd_X7_winner ⟨Nat.le_of_ble_eq_true rfl, Nat.le_of_ble_eq_true rfl⟩) (by omega) hM.ob rfl rfl rfl (Nat.le_of_ble_eq_true rfl) dX7_needNow_6 ⟨Nat.le_of_ble_eq_true rfl, Nat.le_of_ble_eq_true rfl⟩ ?_
  refine x_if_ge C (pc := 9) (tgt := 17) dX7_needNow_9 (by decide) (fun c_9 => ?_) (fun c_9 => ?_)
  · refine x_aload_n C (pc := 17) 1 dX7_needNow_17 rfl ?_
    refine x_iload_n C (pc := 18) 0 dX7_needNow_18 rfl ?_
    refine x_aload_n C (pc := 19) 1 dX7_needNow_19 rfl ?_
    refine x_iload_n C (pc := 20) 0 dX7_needNow_20 rfl ?_
    refine x_iconst C (pc := 21) (v := 0) dX7_needNow_21 (by decide) ?_
    refine x_cViR C (pc := 22) (st := [.int (nI cw), .ref (z + k)]) (c_X7_lead l D z cI cZ cP cR N F k pf pm pn spt wrg rd a ps sl sv sd wy pa nu n kk cw c0 wi rl sp pd od cw false hM (by omega) hA hcw) (cwV 2 C.2.2.2.2.1 gX7_needNow_X7_lead rfl rfl rfl hd_X7_lead ⟨Nat.le_of_ble_eq_true rfl, Nat.le_of_ble_eq_true rfl⟩) (by omega) hM.ob rfl rfl rfl (Nat.le_of_ble_eq_true rfl) dX7_needNow_22 ⟨Nat.le_of_ble_eq_true rfl, Nat.le_of_ble_eq_true rfl⟩ ?_
    refine x_cViR C (pc := 25) (st := []) (c_X7_wrongFor l D z cI cZ cP cR N F k pf pm pn spt wrg rd a ps sl sv sd wy pa nu n kk cw c0 wi rl sp pd od cw (leadF wi pd n cw) pi hM (by omega) hA hcw hpi) (cwV 2 C.2.2.2.2.1 gX7_needNow_X7_wrongFor rfl rfl rfl hd_X7_wrongFor ⟨Nat.le_of_ble_eq_true rfl, Nat.le_of_ble_eq_true rfl⟩) (by omega) hM.ob rfl rfl rfl (Nat.le_of_ble_eq_true rfl) dX7_needNow_25 ⟨Nat.le_of_ble_eq_true rfl, Nat.le_of_ble_eq_true rfl⟩ ?_
    refine x_istore_n C (pc := 28) [(2, .int (opI (wkR (fun i => swF wi (pd i)) pi n cw (leadF wi pd n cw)))), (1, .int (nI cw)), (0, .ref (z + k))] dX7_needNow_28 (by decide) rfl ?_
    refine x_iload_n C (pc := 29) 0 dX7_needNow_29 rfl ?_
    refine x_if_ge C (pc := 30) (tgt := 38) dX7_needNow_30 (by decide) (fun c_30 => ?_) (fun c_30 => ?_)
    · obtain ⟨t, ht⟩ := opI_ge (Int32.not_lt.mpr c_30)
      have htl := wkR_lt hpi ht
      refine x_eqL [(2, .int (nI t)), (1, .int (nI cw)), (0, .ref (z + k))] (by rw [ht]; rfl) ?_
      refine x_iload_n C (pc := 38) 0 dX7_needNow_38 rfl ?_
      refine x_cSiR C (pc := 39) (st := []) (c_X7_many l D z cI cZ cP cR N F t (by omega)) (va_cwS 1 C.2.2.2.2.1 gX7_needNow_X7_many rfl rfl rfl hd_X7_many.2 ⟨Nat.le_of_ble_eq_true rfl, Nat.le_of_ble_eq_true rfl⟩) rfl rfl (Nat.le_of_ble_eq_true rfl) dX7_needNow_39 ⟨Nat.le_of_ble_eq_true rfl, Nat.le_of_ble_eq_true rfl⟩ ?_
      exact x_iret C hR0 rfl (Nat.le_of_ble_eq_true rfl) (Nat.le_of_ble_eq_true rfl) ⟨(by rw [if_pos (win_t hwi (Int32.not_lt.mpr c_9)), ndR_wk hpi hn]; rw [ht]; rfl), rfl, rfl⟩ dX7_needNow_42
    refine x_bipush C (pc := 33) (v := (-6)) dX7_needNow_33 (by decide) ?_
    refine x_goto C (pc := 35) (tgt := 42) dX7_needNow_35 (by decide) ?_
    exact x_iret C hR0 rfl (Nat.le_of_ble_eq_true rfl) (Nat.le_of_ble_eq_true rfl) ⟨(by first | (rw [if_neg (by rw [(win_lt hwi).mp (Int32.not_le.mp c_9)]; decide)]; done) | (rw [if_pos (win_t hwi (Int32.not_lt.mpr c_9)), ndR_wk hpi hn]; rw [opI_lt (fun b hb => by have := wkR_lt hpi hb; omega) (Int32.not_le.mp c_30)]; rfl)), rfl, rfl⟩ dX7_needNow_42
  refine x_bipush C (pc := 12) (v := (-6)) dX7_needNow_12 (by decide) ?_
  refine x_goto C (pc := 14) (tgt := 28) dX7_needNow_14 (by decide) ?_
  refine x_istore_n C (pc := 28) [(2, .int (-6)), (1, .int (nI cw)), (0, .ref (z + k))] dX7_needNow_28 (by decide) rfl ?_
  refine x_iload_n C (pc := 29) 0 dX7_needNow_29 rfl ?_
  refine x_if_ge C (pc := 30) (tgt := 38) dX7_needNow_30 (by decide) (fun c_30 => absurd c_30 (by decide)) (fun c_30 => ?_)
  refine x_bipush C (pc := 33) (v := (-6)) dX7_needNow_33 (by decide) ?_
  refine x_goto C (pc := 35) (tgt := 42) dX7_needNow_35 (by decide) ?_
  exact x_iret C hR0 rfl (Nat.le_of_ble_eq_true rfl) (Nat.le_of_ble_eq_true rfl) ⟨(by first | (rw [if_neg (by rw [(win_lt hwi).mp (Int32.not_le.mp c_9)]; decide)]; done) | (rw [if_pos (win_t hwi (Int32.not_lt.mpr c_9)), ndR_wk hpi hn]; rw [opI_lt (fun b hb => by have := wkR_lt hpi hb; omega) (Int32.not_le.mp c_30)]; rfl)), rfl, rfl⟩ dX7_needNow_42
theorem fl_X7_state_173 : Cond.fieldLink RX7 173 "PileRecountModel" "padMany" "I" ∈ wsX7_state := by decide +kernel
theorem fl_X7_state_47 : Cond.fieldLink RX7 47 "PileRecountModel" "pastMany" "I" ∈ wsX7_state := by decide +kernel
theorem fl_X7_state_7 : Cond.fieldLink RX7 7 "PileRecountModel" "at" "[I" ∈ wsX7_state := by decide +kernel
theorem hn_X7_state_X7 : ∀ w ∈ wsX70, w ∈ wsX7_state := fun _ h => List.mem_cons_of_mem _ (List.mem_append_right _ h)
theorem kc_X7_state_133 : Cond.constant RX7 133 (100000) ∈ wsX7_state := by decide +kernel
set_option maxHeartbeats 4000000 in
set_option maxRecDepth 100000 in
theorem c_X7_state (l : Launch) (D : va_G) (z : Nat) (cI cZ cP cR : ClassId) (N : Nat) (F : Nat → va_E) (k f0 hm : Nat) (pn spt wrg rd : Int32) (a ps sl sv sd wy pa nu : Nat → Int32) (n kk cw c0 : Nat) (wi rl sp : Int32) (pd : Nat → Nat → Int32) (od : Nat → Int32) (len : Nat) (x : Int32) (pi : Nat → Nat) (hM : isMod z cI cZ F k (nI f0) (nI hm) pn spt wrg rd a ps sl sv sd wy pa nu) (hk : k + 9 ≤ N) (hf0 : f0 < 6) (hm6 : hm ≤ 6) (hA : mA a n kk cw c0 wi rl sp pd od) (hpi : rkPi (fun i => swF wi (pd i)) n pi) (hpn : pn = nI len) : gMi l yX7_state wsX7_state ({ frames := 10, cells := 0, slots := 0, locals := 221 }) D z cI cZ cP cR N F [.ref (z + k), .int x] (gRes (stF n kk cw c0 wi rl sp pd pi len hm x) N (fun F2 => F2 = F)) 0 0 := by
  refine gMi.of (cc := cX7_state) (maxL := 2) (ret := (some .int)) (by decide) rfl (Nat.le_of_ble_eq_true rfl) [(0, .ref (z + k)), (1, .int x)] rfl ?_
  intro pg ev sg mg bel me cg C hR0
  obtain ⟨ha0, ha1, ha2, ha3, ha4, hpd, hpl, hn, hkk, hcw, hcnt, hc0, hsp, hrl, hwi, hod⟩ := id hA
  have h2n := two_lt hn
  refine x_iload_n C (pc := 0) 1 dX7_state_0 rfl ?_
  by_cases hs0 : x = 0
  · refine x_tableIn C (pc := 1) (off := 71) (tgt := 72) dX7_state_1 (by rw [hs0]; decide) (by rw [hs0]; decide) (by rw [hs0]; rfl) (by decide) ?_
    refine x_aload_n C (pc := 72) 0 dX7_state_72 rfl ?_
    refine x_get C (pc := 73) (q := k) (v := .ref (z + (k + 1))) (ci := 7) rfl hn_X7_state_X7 0 (by decide) fl_X7_state_7 rfl (by omega) hM.ob rfl dX7_state_73 ?_
    refine x_iconst C (pc := 76) (v := 0) dX7_state_76 (by decide) ?_
    refine x_ialdE C (pc := 77) (q := k + 1) (j := 0) (f := a) (by omega) hM.a rfl (by omega) (by decide) dX7_state_77 ?_
    refine x_eqi hA.1 ?_
    exact x_iret C hR0 rfl (Nat.le_of_ble_eq_true rfl) (Nat.le_of_ble_eq_true rfl) ⟨(by rw [stF, if_pos hs0]), rfl, rfl⟩ dX7_state_78
  by_cases hs1 : x = 1
  · refine x_tableIn C (pc := 1) (off := 78) (tgt := 79) dX7_state_1 (by rw [hs1]; decide) (by rw [hs1]; decide) (by rw [hs1]; rfl) (by decide) ?_
    refine x_aload_n C (pc := 79) 0 dX7_state_79 rfl ?_
    refine x_get C (pc := 80) (q := k) (v := .ref (z + (k + 1))) (ci := 7) rfl hn_X7_state_X7 0 (by decide) fl_X7_state_7 rfl (by omega) hM.ob rfl dX7_state_80 ?_
    refine x_iconst C (pc := 83) (v := 4) dX7_state_83 (by decide) ?_
    refine x_ialdE C (pc := 84) (q := k + 1) (j := 4) (f := a) (by omega) hM.a rfl (by omega) (by decide) dX7_state_84 ?_
    refine x_eqi hA.2.2.2.2.1 ?_
    exact x_iret C hR0 rfl (Nat.le_of_ble_eq_true rfl) (Nat.le_of_ble_eq_true rfl) ⟨(by rw [stF, if_neg hs0, if_pos hs1]), rfl, rfl⟩ dX7_state_85
  by_cases hs2 : x = 2
  · refine x_tableIn C (pc := 1) (off := 85) (tgt := 86) dX7_state_1 (by rw [hs2]; decide) (by rw [hs2]; decide) (by rw [hs2]; rfl) (by decide) ?_
    refine x_aload_n C (pc := 86) 0 dX7_state_86 rfl ?_
    refine x_cViR C (pc := 87) (st := []) (c_X7_winner l D z cI cZ cP cR N F k (nI f0) (nI hm) pn spt wrg rd a ps sl sv sd wy pa nu n kk cw c0 wi rl sp pd od  hM (by omega) hA ) (cwV 0 C.2.2.2.2.1 gX7_state_X7_winner rfl rfl rfl hd_X7_winner ⟨Nat.le_of_ble_eq_true rfl, Nat.le_of_ble_eq_true rfl⟩) (by omega) hM.ob rfl rfl rfl (Nat.le_of_ble_eq_true rfl) dX7_state_87 ⟨Nat.le_of_ble_eq_true rfl, Nat.le_of_ble_eq_true rfl⟩ ?_
    exact x_iret C hR0 rfl (Nat.le_of_ble_eq_true rfl) (Nat.le_of_ble_eq_true rfl) ⟨(by rw [stF, if_neg hs0, if_neg hs1, if_pos hs2]), rfl, rfl⟩ dX7_state_90
  by_cases hs3 : x = 3
  · refine x_tableIn C (pc := 1) (off := 90) (tgt := 91) dX7_state_1 (by rw [hs3]; decide) (by rw [hs3]; decide) (by rw [hs3]; rfl) (by decide) ?_
    refine x_aload_n C (pc := 91) 0 dX7_state_91 rfl ?_
    refine x_cViR C (pc := 92) (st := []) (c_X7_winner l D z cI cZ cP cR N F k (nI f0) (nI hm) pn spt wrg rd a ps sl sv sd wy pa nu n kk cw c0 wi rl sp pd od  hM (by omega) hA ) (cwV 0 C.2.2.2.2.1 gX7_state_X7_winner rfl rfl rfl hd_X7_winner ⟨Nat.le_of_ble_eq_true rfl, Nat.le_of_ble_eq_true rfl⟩) (by omega) hM.ob rfl rfl rfl (Nat.le_of_ble_eq_true rfl) dX7_state_92 ⟨Nat.le_of_ble_eq_true rfl, Nat.le_of_ble_eq_true rfl⟩ ?_
    refine x_if_ge C (pc := 95) (tgt := 103) dX7_state_95 (by decide) (fun c_95 => ?_) (fun c_95 => ?_)
    · refine x_ldc C (pc := 103) (v := 100000) kc_X7_state_133 dX7_state_103 ?_
      refine x_aload_n C (pc := 105) 0 dX7_state_105 rfl ?_
      refine x_iconst C (pc := 106) (v := 0) dX7_state_106 (by decide) ?_
      refine x_iconst C (pc := 107) (v := 0) dX7_state_107 (by decide) ?_
      refine x_cViR C (pc := 108) (st := [.int 100000]) (c_X7_lead l D z cI cZ cP cR N F k (nI f0) (nI hm) pn spt wrg rd a ps sl sv sd wy pa nu n kk cw c0 wi rl sp pd od 0 false hM (by omega) hA (two_pos n)) (cwV 2 C.2.2.2.2.1 gX7_state_X7_lead rfl rfl rfl hd_X7_lead ⟨Nat.le_of_ble_eq_true rfl, Nat.le_of_ble_eq_true rfl⟩) (by omega) hM.ob rfl rfl rfl (Nat.le_of_ble_eq_true rfl) dX7_state_108 ⟨Nat.le_of_ble_eq_true rfl, Nat.le_of_ble_eq_true rfl⟩ ?_
      refine x_iadd C (pc := 111) (v := 100000 + (leadF wi pd n 0)) dX7_state_111 rfl ?_
      exact x_iret C hR0 rfl (Nat.le_of_ble_eq_true rfl) (Nat.le_of_ble_eq_true rfl) ⟨(by rw [stF, if_neg hs0, if_neg hs1, if_neg hs2, if_pos hs3]; rw [if_pos (win_t hwi (Int32.not_lt.mpr c_95))]), rfl, rfl⟩ dX7_state_112
    refine x_bipush C (pc := 98) (v := (-6)) dX7_state_98 (by decide) ?_
    refine x_goto C (pc := 100) (tgt := 112) dX7_state_100 (by decide) ?_
    exact x_iret C hR0 rfl (Nat.le_of_ble_eq_true rfl) (Nat.le_of_ble_eq_true rfl) ⟨(by rw [stF, if_neg hs0, if_neg hs1, if_neg hs2, if_pos hs3]; rw [if_neg (by rw [(win_lt hwi).mp (Int32.not_le.mp c_95)]; decide)]), rfl, rfl⟩ dX7_state_112
  by_cases hs4 : x = 4
  · refine x_tableIn C (pc := 1) (off := 112) (tgt := 113) dX7_state_1 (by rw [hs4]; decide) (by rw [hs4]; decide) (by rw [hs4]; rfl) (by decide) ?_
    refine x_aload_n C (pc := 113) 0 dX7_state_113 rfl ?_
    refine x_cViR C (pc := 114) (st := []) (c_X7_winner l D z cI cZ cP cR N F k (nI f0) (nI hm) pn spt wrg rd a ps sl sv sd wy pa nu n kk cw c0 wi rl sp pd od  hM (by omega) hA ) (cwV 0 C.2.2.2.2.1 gX7_state_X7_winner rfl rfl rfl hd_X7_winner ⟨Nat.le_of_ble_eq_true rfl, Nat.le_of_ble_eq_true rfl⟩) (by omega) hM.ob rfl rfl rfl (Nat.le_of_ble_eq_true rfl) dX7_state_114 ⟨Nat.le_of_ble_eq_true rfl, Nat.le_of_ble_eq_true rfl⟩ ?_
    refine x_if_ge C (pc := 117) (tgt := 125) dX7_state_117 (by decide) (fun c_117 => ?_) (fun c_117 => ?_)
    · refine x_ldc C (pc := 125) (v := 100000) kc_X7_state_133 dX7_state_125 ?_
      refine x_aload_n C (pc := 127) 0 dX7_state_127 rfl ?_
      refine x_aload_n C (pc := 128) 0 dX7_state_128 rfl ?_
      refine x_cViR C (pc := 129) (st := [.ref (z + k), .int 100000]) (c_X7_countedSet l D z cI cZ cP cR N F k (nI f0) (nI hm) pn spt wrg rd a ps sl sv sd wy pa nu n kk cw c0 wi rl sp pd od  hM (by omega) hA ) (cwV 0 C.2.2.2.2.1 gX7_state_X7_countedSet rfl rfl rfl hd_X7_countedSet ⟨Nat.le_of_ble_eq_true rfl, Nat.le_of_ble_eq_true rfl⟩) (by omega) hM.ob rfl rfl rfl (Nat.le_of_ble_eq_true rfl) dX7_state_129 ⟨Nat.le_of_ble_eq_true rfl, Nat.le_of_ble_eq_true rfl⟩ ?_
      refine x_iconst C (pc := 132) (v := 0) dX7_state_132 (by decide) ?_
      refine x_cViR C (pc := 133) (st := [.int 100000]) (c_X7_lead l D z cI cZ cP cR N F k (nI f0) (nI hm) pn spt wrg rd a ps sl sv sd wy pa nu n kk cw c0 wi rl sp pd od cw false hM (by omega) hA hcw) (cwV 2 C.2.2.2.2.1 gX7_state_X7_lead rfl rfl rfl hd_X7_lead ⟨Nat.le_of_ble_eq_true rfl, Nat.le_of_ble_eq_true rfl⟩) (by omega) hM.ob rfl rfl rfl (Nat.le_of_ble_eq_true rfl) dX7_state_133 ⟨Nat.le_of_ble_eq_true rfl, Nat.le_of_ble_eq_true rfl⟩ ?_
      refine x_iadd C (pc := 136) (v := 100000 + (leadF wi pd n cw)) dX7_state_136 rfl ?_
      exact x_iret C hR0 rfl (Nat.le_of_ble_eq_true rfl) (Nat.le_of_ble_eq_true rfl) ⟨(by rw [stF, if_neg hs0, if_neg hs1, if_neg hs2, if_neg hs3, if_pos hs4]; rw [if_pos (win_t hwi (Int32.not_lt.mpr c_117))]), rfl, rfl⟩ dX7_state_137
    refine x_bipush C (pc := 120) (v := (-6)) dX7_state_120 (by decide) ?_
    refine x_goto C (pc := 122) (tgt := 137) dX7_state_122 (by decide) ?_
    exact x_iret C hR0 rfl (Nat.le_of_ble_eq_true rfl) (Nat.le_of_ble_eq_true rfl) ⟨(by rw [stF, if_neg hs0, if_neg hs1, if_neg hs2, if_neg hs3, if_pos hs4]; rw [if_neg (by rw [(win_lt hwi).mp (Int32.not_le.mp c_117)]; decide)]), rfl, rfl⟩ dX7_state_137
  by_cases hs5 : x = 5
  · refine x_tableIn C (pc := 1) (off := 137) (tgt := 138) dX7_state_1 (by rw [hs5]; decide) (by rw [hs5]; decide) (by rw [hs5]; rfl) (by decide) ?_
    refine x_aload_n C (pc := 138) 0 dX7_state_138 rfl ?_
    refine x_cViR C (pc := 139) (st := []) (c_X7_needNow l D z cI cZ cP cR N F k (nI f0) (nI hm) pn spt wrg rd a ps sl sv sd wy pa nu n kk cw c0 wi rl sp pd od pi hM (by omega) hA hpi) (cwV 0 C.2.2.2.2.1 gX7_state_X7_needNow rfl rfl rfl hd_X7_needNow ⟨Nat.le_of_ble_eq_true rfl, Nat.le_of_ble_eq_true rfl⟩) (by omega) hM.ob rfl rfl rfl (Nat.le_of_ble_eq_true rfl) dX7_state_139 ⟨Nat.le_of_ble_eq_true rfl, Nat.le_of_ble_eq_true rfl⟩ ?_
    exact x_iret C hR0 rfl (Nat.le_of_ble_eq_true rfl) (Nat.le_of_ble_eq_true rfl) ⟨(by rw [stF, if_neg hs0, if_neg hs1, if_neg hs2, if_neg hs3, if_neg hs4, if_pos hs5]), rfl, rfl⟩ dX7_state_142
  by_cases hs6 : x = 6
  · refine x_tableIn C (pc := 1) (off := 142) (tgt := 143) dX7_state_1 (by rw [hs6]; decide) (by rw [hs6]; decide) (by rw [hs6]; rfl) (by decide) ?_
    refine x_aload_n C (pc := 143) 0 dX7_state_143 rfl ?_
    refine x_cViR C (pc := 144) (st := []) (c_X7_riskNow l D z cI cZ cP cR N F k (nI f0) (nI hm) pn spt wrg rd a ps sl sv sd wy pa nu n kk cw c0 wi rl sp pd od pi hM (by omega) hA hpi) (cwV 0 C.2.2.2.2.1 gX7_state_X7_riskNow rfl rfl rfl hd_X7_riskNow ⟨Nat.le_of_ble_eq_true rfl, Nat.le_of_ble_eq_true rfl⟩) (by omega) hM.ob rfl rfl rfl (Nat.le_of_ble_eq_true rfl) dX7_state_144 ⟨Nat.le_of_ble_eq_true rfl, Nat.le_of_ble_eq_true rfl⟩ ?_
    exact x_iret C hR0 rfl (Nat.le_of_ble_eq_true rfl) (Nat.le_of_ble_eq_true rfl) ⟨(by rw [stF, if_neg hs0, if_neg hs1, if_neg hs2, if_neg hs3, if_neg hs4, if_neg hs5, if_pos hs6]), rfl, rfl⟩ dX7_state_147
  by_cases hs7 : x = 7
  · refine x_tableIn C (pc := 1) (off := 147) (tgt := 148) dX7_state_1 (by rw [hs7]; decide) (by rw [hs7]; decide) (by rw [hs7]; rfl) (by decide) ?_
    refine x_aload_n C (pc := 148) 0 dX7_state_148 rfl ?_
    refine x_aload_n C (pc := 149) 0 dX7_state_149 rfl ?_
    refine x_cViR C (pc := 150) (st := [.ref (z + k)]) (c_X7_countedSet l D z cI cZ cP cR N F k (nI f0) (nI hm) pn spt wrg rd a ps sl sv sd wy pa nu n kk cw c0 wi rl sp pd od  hM (by omega) hA ) (cwV 0 C.2.2.2.2.1 gX7_state_X7_countedSet rfl rfl rfl hd_X7_countedSet ⟨Nat.le_of_ble_eq_true rfl, Nat.le_of_ble_eq_true rfl⟩) (by omega) hM.ob rfl rfl rfl (Nat.le_of_ble_eq_true rfl) dX7_state_150 ⟨Nat.le_of_ble_eq_true rfl, Nat.le_of_ble_eq_true rfl⟩ ?_
    refine x_iconst C (pc := 153) (v := 0) dX7_state_153 (by decide) ?_
    refine x_cViR C (pc := 154) (st := []) (c_X7_worse l D z cI cZ cP cR N F k (nI f0) (nI hm) pn spt wrg rd a ps sl sv sd wy pa nu n kk cw c0 wi rl sp pd od cw false hM (by omega) hA hcw) (cwV 2 C.2.2.2.2.1 gX7_state_X7_worse rfl rfl rfl hd_X7_worse ⟨Nat.le_of_ble_eq_true rfl, Nat.le_of_ble_eq_true rfl⟩) (by omega) hM.ob rfl rfl rfl (Nat.le_of_ble_eq_true rfl) dX7_state_154 ⟨Nat.le_of_ble_eq_true rfl, Nat.le_of_ble_eq_true rfl⟩ ?_
    exact x_iret C hR0 rfl (Nat.le_of_ble_eq_true rfl) (Nat.le_of_ble_eq_true rfl) ⟨(by rw [stF, if_neg hs0, if_neg hs1, if_neg hs2, if_neg hs3, if_neg hs4, if_neg hs5, if_neg hs6, if_pos hs7]; rfl), rfl, rfl⟩ dX7_state_157
  by_cases hs8 : x = 8
  · refine x_tableIn C (pc := 1) (off := 157) (tgt := 158) dX7_state_1 (by rw [hs8]; decide) (by rw [hs8]; decide) (by rw [hs8]; rfl) (by decide) ?_
    refine x_aload_n C (pc := 158) 0 dX7_state_158 rfl ?_
    refine x_get C (pc := 159) (q := k) (v := .ref (z + (k + 1))) (ci := 7) rfl hn_X7_state_X7 0 (by decide) fl_X7_state_7 rfl (by omega) hM.ob rfl dX7_state_159 ?_
    refine x_iconst C (pc := 162) (v := 3) dX7_state_162 (by decide) ?_
    refine x_ialdE C (pc := 163) (q := k + 1) (j := 3) (f := a) (by omega) hM.a rfl (by omega) (by decide) dX7_state_163 ?_
    refine x_eqi hA.2.2.2.1 ?_
    exact x_iret C hR0 rfl (Nat.le_of_ble_eq_true rfl) (Nat.le_of_ble_eq_true rfl) ⟨(by rw [stF, if_neg hs0, if_neg hs1, if_neg hs2, if_neg hs3, if_neg hs4, if_neg hs5, if_neg hs6, if_neg hs7, if_pos hs8]), rfl, rfl⟩ dX7_state_164
  by_cases hs9 : x = 9
  · refine x_tableIn C (pc := 1) (off := 164) (tgt := 165) dX7_state_1 (by rw [hs9]; decide) (by rw [hs9]; decide) (by rw [hs9]; rfl) (by decide) ?_
    refine x_aload_n C (pc := 165) 0 dX7_state_165 rfl ?_
    refine x_cViR C (pc := 166) (st := []) (c_X7_mayStop l D z cI cZ cP cR N F k (nI f0) (nI hm) pn spt wrg rd a ps sl sv sd wy pa nu n kk cw c0 wi rl sp pd od pi hM (by omega) hA hpi) (cwV 0 C.2.2.2.2.1 gX7_state_X7_mayStop rfl rfl rfl hd_X7_mayStop ⟨Nat.le_of_ble_eq_true rfl, Nat.le_of_ble_eq_true rfl⟩) (by omega) hM.ob rfl rfl rfl (Nat.le_of_ble_eq_true rfl) dX7_state_166 ⟨Nat.le_of_ble_eq_true rfl, Nat.le_of_ble_eq_true rfl⟩ ?_
    refine x_bz_eq C (pc := 169) (tgt := 176) dX7_state_169 (by decide) (fun c_169 => ?_) (fun c_169 => ?_)
    · refine x_iconst C (pc := 176) (v := 0) dX7_state_176 (by decide) ?_
      exact x_iret C hR0 rfl (Nat.le_of_ble_eq_true rfl) (Nat.le_of_ble_eq_true rfl) ⟨(by rw [stF, if_neg hs0, if_neg hs1, if_neg hs2, if_neg hs3, if_neg hs4, if_neg hs5, if_neg hs6, if_neg hs7, if_neg hs8, if_pos hs9]; rw [c_169]; rfl), rfl, rfl⟩ dX7_state_177
    refine x_iconst C (pc := 172) (v := 1) dX7_state_172 (by decide) ?_
    refine x_goto C (pc := 173) (tgt := 177) dX7_state_173 (by decide) ?_
    exact x_iret C hR0 rfl (Nat.le_of_ble_eq_true rfl) (Nat.le_of_ble_eq_true rfl) ⟨(by rw [stF, if_neg hs0, if_neg hs1, if_neg hs2, if_neg hs3, if_neg hs4, if_neg hs5, if_neg hs6, if_neg hs7, if_neg hs8, if_pos hs9]; rw [c_169]; rfl), rfl, rfl⟩ dX7_state_177
  by_cases hs10 : x = 10
  · refine x_tableIn C (pc := 1) (off := 177) (tgt := 178) dX7_state_1 (by rw [hs10]; decide) (by rw [hs10]; decide) (by rw [hs10]; rfl) (by decide) ?_
    refine x_aload_n C (pc := 178) 0 dX7_state_178 rfl ?_
    refine x_get C (pc := 179) (q := k) (v := .ref (z + (k + 1))) (ci := 7) rfl hn_X7_state_X7 0 (by decide) fl_X7_state_7 rfl (by omega) hM.ob rfl dX7_state_179 ?_
    refine x_iconst C (pc := 182) (v := 1) dX7_state_182 (by decide) ?_
    refine x_ialdE C (pc := 183) (q := k + 1) (j := 1) (f := a) (by omega) hM.a rfl (by omega) (by decide) dX7_state_183 ?_
    refine x_eqi hA.2.1 ?_
    exact x_iret C hR0 rfl (Nat.le_of_ble_eq_true rfl) (Nat.le_of_ble_eq_true rfl) ⟨(by rw [stF, if_neg hs0, if_neg hs1, if_neg hs2, if_neg hs3, if_neg hs4, if_neg hs5, if_neg hs6, if_neg hs7, if_neg hs8, if_neg hs9, if_pos hs10]), rfl, rfl⟩ dX7_state_184
  by_cases hs11 : x = 11
  · refine x_tableIn C (pc := 1) (off := 184) (tgt := 185) dX7_state_1 (by rw [hs11]; decide) (by rw [hs11]; decide) (by rw [hs11]; rfl) (by decide) ?_
    refine x_aload_n C (pc := 185) 0 dX7_state_185 rfl ?_
    refine x_get C (pc := 186) (q := k) (v := .ref (z + (k + 1))) (ci := 7) rfl hn_X7_state_X7 0 (by decide) fl_X7_state_7 rfl (by omega) hM.ob rfl dX7_state_186 ?_
    refine x_iconst C (pc := 189) (v := 2) dX7_state_189 (by decide) ?_
    refine x_ialdE C (pc := 190) (q := k + 1) (j := 2) (f := a) (by omega) hM.a rfl (by omega) (by decide) dX7_state_190 ?_
    refine x_eqi hA.2.2.1 ?_
    exact x_iret C hR0 rfl (Nat.le_of_ble_eq_true rfl) (Nat.le_of_ble_eq_true rfl) ⟨(by rw [stF, if_neg hs0, if_neg hs1, if_neg hs2, if_neg hs3, if_neg hs4, if_neg hs5, if_neg hs6, if_neg hs7, if_neg hs8, if_neg hs9, if_neg hs10, if_pos hs11]), rfl, rfl⟩ dX7_state_191
  by_cases hs12 : x = 12
  · refine x_tableIn C (pc := 1) (off := 191) (tgt := 192) dX7_state_1 (by rw [hs12]; decide) (by rw [hs12]; decide) (by rw [hs12]; rfl) (by decide) ?_
    refine x_aload_n C (pc := 192) 0 dX7_state_192 rfl ?_
    refine x_get C (pc := 193) (q := k) (v := .int pn) (ci := 7) rfl hn_X7_state_X7 9 (by decide) fl_X7_state_173 rfl (by omega) hM.ob rfl dX7_state_193 ?_
    exact x_iret C hR0 rfl (Nat.le_of_ble_eq_true rfl) (Nat.le_of_ble_eq_true rfl) ⟨(by rw [stF, if_neg hs0, if_neg hs1, if_neg hs2, if_neg hs3, if_neg hs4, if_neg hs5, if_neg hs6, if_neg hs7, if_neg hs8, if_neg hs9, if_neg hs10, if_neg hs11, if_pos hs12]; exact hpn), rfl, rfl⟩ dX7_state_196
  by_cases hs13 : x = 13
  · refine x_tableIn C (pc := 1) (off := 196) (tgt := 197) dX7_state_1 (by rw [hs13]; decide) (by rw [hs13]; decide) (by rw [hs13]; rfl) (by decide) ?_
    refine x_aload_n C (pc := 197) 0 dX7_state_197 rfl ?_
    refine x_get C (pc := 198) (q := k) (v := .int (nI hm)) (ci := 7) rfl hn_X7_state_X7 3 (by decide) fl_X7_state_47 rfl (by omega) hM.ob rfl dX7_state_198 ?_
    exact x_iret C hR0 rfl (Nat.le_of_ble_eq_true rfl) (Nat.le_of_ble_eq_true rfl) ⟨(by rw [stF, if_neg hs0, if_neg hs1, if_neg hs2, if_neg hs3, if_neg hs4, if_neg hs5, if_neg hs6, if_neg hs7, if_neg hs8, if_neg hs9, if_neg hs10, if_neg hs11, if_neg hs12, if_pos hs13]), rfl, rfl⟩ dX7_state_201
  refine x_tableOut C (pc := 1) (tgt := 202) dX7_state_1 (tab_out (m := 13) (by decide) (fun i hi => by match i, hi with | 0, _ => exact hs0 | 1, _ => exact hs1 | 2, _ => exact hs2 | 3, _ => exact hs3 | 4, _ => exact hs4 | 5, _ => exact hs5 | 6, _ => exact hs6 | 7, _ => exact hs7 | 8, _ => exact hs8 | 9, _ => exact hs9 | 10, _ => exact hs10 | 11, _ => exact hs11 | 12, _ => exact hs12 | 13, _ => exact hs13)) (by decide) ?_
  refine x_bipush C (pc := 202) (v := (-2)) dX7_state_202 (by decide) ?_
  exact x_iret C hR0 rfl (Nat.le_of_ble_eq_true rfl) (Nat.le_of_ble_eq_true rfl) ⟨(by rw [stF, if_neg hs0, if_neg hs1, if_neg hs2, if_neg hs3, if_neg hs4, if_neg hs5, if_neg hs6, if_neg hs7, if_neg hs8, if_neg hs9, if_neg hs10, if_neg hs11, if_neg hs12, if_neg hs13]), rfl, rfl⟩ dX7_state_204
theorem inP_lt {t kk : Nat} (hk : kk < 2 ^ 30) (h : t < kk) : inP (nI t) (nI kk) = true := by
  unfold inP
  rw [decide_eq_true (Int32.not_lt.mp (nI_nn (t := t) (by omega))), decide_eq_true ((nI_ltI (by omega) (by omega)).mpr h)]
  rfl
theorem fl_X7_counted_7 : Cond.fieldLink RX7 7 "PileRecountModel" "at" "[I" ∈ wsX7_counted := by decide +kernel
theorem hn_X7_counted_X7 : ∀ w ∈ wsX70, w ∈ wsX7_counted := fun _ h => List.mem_cons_of_mem _ (List.mem_append_right _ h)
set_option maxHeartbeats 4000000 in
set_option maxRecDepth 100000 in
theorem c_X7_counted_e (l : Launch) (D : va_G) (z : Nat) (cI cZ cP cR : ClassId) (N : Nat) (F : Nat → va_E) (k : Nat) (pf pm pn spt wrg rd : Int32) (a ps sl sv sd wy pa nu : Nat → Int32) (n kk cw c0 : Nat) (wi rl sp : Int32) (pd : Nat → Nat → Int32) (od : Nat → Int32) (v : Int32) (hM : isMod z cI cZ F k pf pm pn spt wrg rd a ps sl sv sd wy pa nu) (hk : k + 9 ≤ N) (hA : mA a n kk cw c0 wi rl sp pd od) (hv : inP v (nI kk) = false) : gMi l yX7_counted wsX7_counted ({ frames := 2, cells := 0, slots := 0, locals := 43 }) D z cI cZ cP cR N F [.ref (z + k), .int v] (gRes (-1) N (fun F2 => F2 = F)) 0 0 := by
  refine gMi.of (cc := cX7_counted) (maxL := 3) (ret := (some .int)) (by decide) rfl (Nat.le_of_ble_eq_true rfl) [(0, .ref (z + k)), (1, .int v)] rfl ?_
  intro pg ev sg mg bel me cg C hR0
  obtain ⟨ha0, ha1, ha2, ha3, ha4, hpd, hpl, hn, hkk, hcw, hcnt, hc0, hsp, hrl, hwi, hod⟩ := id hA
  have h2n := two_lt hn
  refine x_iconst C (pc := 0) (v := 0) dX7_counted_0 (by decide) ?_
  refine x_istore_n C (pc := 1) [(2, .int 0), (0, .ref (z + k)), (1, .int v)] dX7_counted_1 (by decide) rfl ?_
  refine x_sub [1, 2, 0] _ rfl ?_
  refine x_loop1 (A1 := Nat) (pc := 2) (st := []) (fun j => n - j) (fun j => (j ≤ n)) (fun j => N) (fun j => F) (fun j => 0) (fun j => 0) (fun j => [(0, .ref (z + k)), (1, .int v), (2, .int (nI j))]) 0 (Nat.zero_le _) rfl rfl rfl rfl rfl ?_
  rintro j hj ih_2
  try dsimp only at ih_2
  refine x_iload_n C (pc := 2) 2 dX7_counted_2 rfl ?_
  refine x_aload_n C (pc := 3) 0 dX7_counted_3 rfl ?_
  refine x_get C (pc := 4) (q := k) (v := .ref (z + (k + 1))) (ci := 7) rfl hn_X7_counted_X7 0 (by decide) fl_X7_counted_7 rfl (by omega) hM.ob rfl dX7_counted_4 ?_
  refine x_iconst C (pc := 7) (v := 0) dX7_counted_7 (by decide) ?_
  refine x_ialdE C (pc := 8) (q := k + 1) (j := 0) (f := a) (by omega) hM.a rfl (by omega) (by decide) dX7_counted_8 ?_
  refine x_eqi hA.1 ?_
  refine x_icmpN_ge C (a := j) (b := n) (pc := 9) (tgt := 38) (by omega) (by omega) dX7_counted_9 (by decide) (fun c_9 => ?_) (fun c_9 => ?_)
  · refine x_iconst C (pc := 38) (v := (-1)) dX7_counted_38 (by decide) ?_
    exact x_iret C hR0 rfl (Nat.le_of_ble_eq_true rfl) (Nat.le_of_ble_eq_true rfl) ⟨rfl, rfl, rfl⟩ dX7_counted_39
  refine x_aload_n C (pc := 12) 0 dX7_counted_12 rfl ?_
  refine x_iload_n C (pc := 13) 2 dX7_counted_13 rfl ?_
  refine x_cViR C (pc := 14) (st := []) (c_X7_isCounted l D z cI cZ cP cR N F k pf pm pn spt wrg rd a ps sl sv sd wy pa nu n kk cw c0 wi rl sp pd od j hM (by omega) hA (by omega)) (cwV 1 C.2.2.2.2.1 gX7_counted_X7_isCounted rfl rfl rfl hd_X7_isCounted ⟨Nat.le_of_ble_eq_true rfl, Nat.le_of_ble_eq_true rfl⟩) (by omega) hM.ob rfl rfl rfl (Nat.le_of_ble_eq_true rfl) dX7_counted_14 ⟨Nat.le_of_ble_eq_true rfl, Nat.le_of_ble_eq_true rfl⟩ ?_
  refine x_bz_eq C (pc := 17) (tgt := 32) dX7_counted_17 (by decide) (fun c_17 => ?_) (fun c_17 => ?_)
  · refine x_iinc C (pc := 32) 2 [(2, .int (nI (j + 1))), (0, .ref (z + k)), (1, .int v)] dX7_counted_32 rfl (nI_inc j) (by decide) rfl ?_
    refine x_goto C (pc := 35) (tgt := 2) dX7_counted_35 (by decide) ?_
    exact x_sub [1, 2, 0] _ rfl (ih_2 (j + 1) (by omega) (by omega))
  refine x_aload_n C (pc := 20) 0 dX7_counted_20 rfl ?_
  refine x_iload_n C (pc := 21) 2 dX7_counted_21 rfl ?_
  refine x_iconst C (pc := 22) (v := 5) dX7_counted_22 (by decide) ?_
  refine x_cViR C (pc := 23) (st := []) (c_X7_of l D z cI cZ cP cR N F k pf pm pn spt wrg rd a ps sl sv sd wy pa nu j 5 hM (by omega) (by omega) (by omega)) (cwV 2 C.2.2.2.2.1 gX7_counted_X7_of rfl rfl rfl hd_X7_of ⟨Nat.le_of_ble_eq_true rfl, Nat.le_of_ble_eq_true rfl⟩) (by omega) hM.ob rfl rfl rfl (Nat.le_of_ble_eq_true rfl) dX7_counted_23 ⟨Nat.le_of_ble_eq_true rfl, Nat.le_of_ble_eq_true rfl⟩ ?_
  refine x_iload_n C (pc := 26) 1 dX7_counted_26 rfl ?_
  refine x_icmp_ne C (pc := 27) (tgt := 32) dX7_counted_27 (by decide) (fun c_27 => ?_) (fun c_27 => ?_)
  · refine x_iinc C (pc := 32) 2 [(2, .int (nI (j + 1))), (0, .ref (z + k)), (1, .int v)] dX7_counted_32 rfl (nI_inc j) (by decide) rfl ?_
    refine x_goto C (pc := 35) (tgt := 2) dX7_counted_35 (by decide) ?_
    exact x_sub [1, 2, 0] _ rfl (ih_2 (j + 1) (by omega) (by omega))
  exact absurd hv (by obtain ⟨t, ht, e1, e2⟩ := (hpl j (by omega)).2 c_17; rw [← c_27, e1, inP_lt (by omega) ht]; decide)
set_option maxHeartbeats 4000000 in
set_option maxRecDepth 100000 in
theorem c_X7_counted_s (l : Launch) (D : va_G) (z : Nat) (cI cZ cP cR : ClassId) (N : Nat) (F : Nat → va_E) (k : Nat) (pf pm pn spt wrg rd : Int32) (a ps sl sv sd wy pa nu : Nat → Int32) (n kk cw c0 : Nat) (wi rl sp : Int32) (pd : Nat → Nat → Int32) (od : Nat → Int32) (v : Nat) (hM : isMod z cI cZ F k pf pm pn spt wrg rd a ps sl sv sd wy pa nu) (hk : k + 9 ≤ N) (hA : mA a n kk cw c0 wi rl sp pd od) (hvk : v < kk) : gMi l yX7_counted wsX7_counted ({ frames := 2, cells := 0, slots := 0, locals := 43 }) D z cI cZ cP cR N F [.ref (z + k), .int (nI v)] (gRes (od v) N (fun F2 => F2 = F)) 0 0 := by
  refine gMi.of (cc := cX7_counted) (maxL := 3) (ret := (some .int)) (by decide) rfl (Nat.le_of_ble_eq_true rfl) [(0, .ref (z + k)), (1, .int (nI v))] rfl ?_
  intro pg ev sg mg bel me cg C hR0
  obtain ⟨ha0, ha1, ha2, ha3, ha4, hpd, hpl, hn, hkk, hcw, hcnt, hc0, hsp, hrl, hwi, hod⟩ := id hA
  have h2n := two_lt hn
  refine x_iconst C (pc := 0) (v := 0) dX7_counted_0 (by decide) ?_
  refine x_istore_n C (pc := 1) [(2, .int 0), (0, .ref (z + k)), (1, .int (nI v))] dX7_counted_1 (by decide) rfl ?_
  refine x_sub [1, 2, 0] _ rfl ?_
  refine x_loop1 (A1 := Nat) (pc := 2) (st := []) (fun j => n - j) (fun j => (j ≤ n) ∧ (∀ q, q < j → ¬ a (5 + 6 * q + 5) = nI v)) (fun j => N) (fun j => F) (fun j => 0) (fun j => 0) (fun j => [(0, .ref (z + k)), (1, .int (nI v)), (2, .int (nI j))]) 0 ⟨(Nat.zero_le _), (fun q h => absurd h (Nat.not_lt_zero q))⟩ rfl rfl rfl rfl rfl ?_
  rintro j ⟨hj, hno⟩ ih_2
  try dsimp only at ih_2
  refine x_iload_n C (pc := 2) 2 dX7_counted_2 rfl ?_
  refine x_aload_n C (pc := 3) 0 dX7_counted_3 rfl ?_
  refine x_get C (pc := 4) (q := k) (v := .ref (z + (k + 1))) (ci := 7) rfl hn_X7_counted_X7 0 (by decide) fl_X7_counted_7 rfl (by omega) hM.ob rfl dX7_counted_4 ?_
  refine x_iconst C (pc := 7) (v := 0) dX7_counted_7 (by decide) ?_
  refine x_ialdE C (pc := 8) (q := k + 1) (j := 0) (f := a) (by omega) hM.a rfl (by omega) (by decide) dX7_counted_8 ?_
  refine x_eqi hA.1 ?_
  refine x_icmpN_ge C (a := j) (b := n) (pc := 9) (tgt := 38) (by omega) (by omega) dX7_counted_9 (by decide) (fun c_9 => ?_) (fun c_9 => ?_)
  · exfalso; obtain ⟨p, hp, e1, e2⟩ := hod v hvk; exact hno p (by omega) e2
  refine x_aload_n C (pc := 12) 0 dX7_counted_12 rfl ?_
  refine x_iload_n C (pc := 13) 2 dX7_counted_13 rfl ?_
  refine x_cViR C (pc := 14) (st := []) (c_X7_isCounted l D z cI cZ cP cR N F k pf pm pn spt wrg rd a ps sl sv sd wy pa nu n kk cw c0 wi rl sp pd od j hM (by omega) hA (by omega)) (cwV 1 C.2.2.2.2.1 gX7_counted_X7_isCounted rfl rfl rfl hd_X7_isCounted ⟨Nat.le_of_ble_eq_true rfl, Nat.le_of_ble_eq_true rfl⟩) (by omega) hM.ob rfl rfl rfl (Nat.le_of_ble_eq_true rfl) dX7_counted_14 ⟨Nat.le_of_ble_eq_true rfl, Nat.le_of_ble_eq_true rfl⟩ ?_
  refine x_bz_eq C (pc := 17) (tgt := 32) dX7_counted_17 (by decide) (fun c_17 => ?_) (fun c_17 => ?_)
  · refine x_iinc C (pc := 32) 2 [(2, .int (nI (j + 1))), (0, .ref (z + k)), (1, .int (nI v))] dX7_counted_32 rfl (nI_inc j) (by decide) rfl ?_
    refine x_goto C (pc := 35) (tgt := 2) dX7_counted_35 (by decide) ?_
    exact x_sub [1, 2, 0] _ rfl (ih_2 (j + 1) ⟨(by omega), (fun q hq => by
      by_cases e : q = j
      · rw [e]; first | exact c_27 | (rw [(hpl j (by omega)).1 c_17]; exact fun h => nI_nm6 (by omega) h.symm)
      · exact hno q (by omega))⟩ (by omega))
  refine x_aload_n C (pc := 20) 0 dX7_counted_20 rfl ?_
  refine x_iload_n C (pc := 21) 2 dX7_counted_21 rfl ?_
  refine x_iconst C (pc := 22) (v := 5) dX7_counted_22 (by decide) ?_
  refine x_cViR C (pc := 23) (st := []) (c_X7_of l D z cI cZ cP cR N F k pf pm pn spt wrg rd a ps sl sv sd wy pa nu j 5 hM (by omega) (by omega) (by omega)) (cwV 2 C.2.2.2.2.1 gX7_counted_X7_of rfl rfl rfl hd_X7_of ⟨Nat.le_of_ble_eq_true rfl, Nat.le_of_ble_eq_true rfl⟩) (by omega) hM.ob rfl rfl rfl (Nat.le_of_ble_eq_true rfl) dX7_counted_23 ⟨Nat.le_of_ble_eq_true rfl, Nat.le_of_ble_eq_true rfl⟩ ?_
  refine x_iload_n C (pc := 26) 1 dX7_counted_26 rfl ?_
  refine x_icmp_ne C (pc := 27) (tgt := 32) dX7_counted_27 (by decide) (fun c_27 => ?_) (fun c_27 => ?_)
  · refine x_iinc C (pc := 32) 2 [(2, .int (nI (j + 1))), (0, .ref (z + k)), (1, .int (nI v))] dX7_counted_32 rfl (nI_inc j) (by decide) rfl ?_
    refine x_goto C (pc := 35) (tgt := 2) dX7_counted_35 (by decide) ?_
    exact x_sub [1, 2, 0] _ rfl (ih_2 (j + 1) ⟨(by omega), (fun q hq => by
      by_cases e : q = j
      · rw [e]; first | exact c_27 | (rw [(hpl j (by omega)).1 c_17]; exact fun h => nI_nm6 (by omega) h.symm)
      · exact hno q (by omega))⟩ (by omega))
  refine x_iload_n C (pc := 30) 2 dX7_counted_30 rfl ?_
  exact x_iret C hR0 rfl (Nat.le_of_ble_eq_true rfl) (Nat.le_of_ble_eq_true rfl) ⟨(by obtain ⟨t, ht, e1, e2⟩ := (hpl j (by omega)).2 c_17; rw [← e2]; congr 1; exact (nI_eq (by omega) (by omega)).mp (e1.symm.trans c_27)), rfl, rfl⟩ dX7_counted_31
set_option maxHeartbeats 4000000 in
set_option maxRecDepth 100000 in
theorem c_X7_riskOf_e (l : Launch) (D : va_G) (z : Nat) (cI cZ cP cR : ClassId) (N : Nat) (F : Nat → va_E) (k : Nat) (pf pm pn spt wrg rd : Int32) (a ps sl sv sd wy pa nu : Nat → Int32) (n kk cw c0 : Nat) (wi rl sp : Int32) (pd : Nat → Nat → Int32) (od : Nat → Int32) (p c d : Int32) (hM : isMod z cI cZ F k pf pm pn spt wrg rd a ps sl sv sd wy pa nu) (hk : k + 9 ≤ N) (hA : mA a n kk cw c0 wi rl sp pd od) (hv : (inB p 1 20 && inB c 0 p && inB d 1 p) = false) : gMi l yX7_riskOf wsX7_riskOf ({ frames := 1, cells := 0, slots := 0, locals := 22 }) D z cI cZ cP cR N F [.ref (z + k), .int p, .int c, .int d] (gRes (-2) N (fun F2 => F2 = F)) 0 0 := by
  refine gMi.of (cc := cX7_riskOf) (maxL := 4) (ret := (some .int)) (by decide) rfl (Nat.le_of_ble_eq_true rfl) [(0, .ref (z + k)), (1, .int p), (2, .int c), (3, .int d)] rfl ?_
  intro pg ev sg mg bel me cg C hR0
  obtain ⟨ha0, ha1, ha2, ha3, ha4, hpd, hpl, hn, hkk, hcw, hcnt, hc0, hsp, hrl, hwi, hod⟩ := id hA
  have h2n := two_lt hn
  refine x_iload_n C (pc := 0) 1 dX7_riskOf_0 rfl ?_
  refine x_iconst C (pc := 1) (v := 1) dX7_riskOf_1 (by decide) ?_
  refine x_bipush C (pc := 2) (v := 20) dX7_riskOf_2 (by decide) ?_
  refine x_cSiR C (pc := 4) (st := []) (c_X7_in l D z cI cZ cP cR N F p 1 20) (va_cwS 3 C.2.2.2.2.1 gX7_riskOf_X7_in rfl rfl rfl hd_X7_in.2 ⟨Nat.le_of_ble_eq_true rfl, Nat.le_of_ble_eq_true rfl⟩) rfl rfl (Nat.le_of_ble_eq_true rfl) dX7_riskOf_4 ⟨Nat.le_of_ble_eq_true rfl, Nat.le_of_ble_eq_true rfl⟩ ?_
  refine x_bz_eq C (pc := 7) (tgt := 37) dX7_riskOf_7 (by decide) (fun c_7 => ?_) (fun c_7 => ?_)
  · refine x_bipush C (pc := 37) (v := (-2)) dX7_riskOf_37 (by decide) ?_
    exact x_iret C hR0 rfl (Nat.le_of_ble_eq_true rfl) (Nat.le_of_ble_eq_true rfl) ⟨rfl, rfl, rfl⟩ dX7_riskOf_39
  refine x_iload_n C (pc := 10) 2 dX7_riskOf_10 rfl ?_
  refine x_iconst C (pc := 11) (v := 0) dX7_riskOf_11 (by decide) ?_
  refine x_iload_n C (pc := 12) 1 dX7_riskOf_12 rfl ?_
  refine x_cSiR C (pc := 13) (st := []) (c_X7_in l D z cI cZ cP cR N F c 0 p) (va_cwS 3 C.2.2.2.2.1 gX7_riskOf_X7_in rfl rfl rfl hd_X7_in.2 ⟨Nat.le_of_ble_eq_true rfl, Nat.le_of_ble_eq_true rfl⟩) rfl rfl (Nat.le_of_ble_eq_true rfl) dX7_riskOf_13 ⟨Nat.le_of_ble_eq_true rfl, Nat.le_of_ble_eq_true rfl⟩ ?_
  refine x_bz_eq C (pc := 16) (tgt := 37) dX7_riskOf_16 (by decide) (fun c_16 => ?_) (fun c_16 => ?_)
  · refine x_bipush C (pc := 37) (v := (-2)) dX7_riskOf_37 (by decide) ?_
    exact x_iret C hR0 rfl (Nat.le_of_ble_eq_true rfl) (Nat.le_of_ble_eq_true rfl) ⟨rfl, rfl, rfl⟩ dX7_riskOf_39
  refine x_iload_n C (pc := 19) 3 dX7_riskOf_19 rfl ?_
  refine x_iconst C (pc := 20) (v := 1) dX7_riskOf_20 (by decide) ?_
  refine x_iload_n C (pc := 21) 1 dX7_riskOf_21 rfl ?_
  refine x_cSiR C (pc := 22) (st := []) (c_X7_in l D z cI cZ cP cR N F d 1 p) (va_cwS 3 C.2.2.2.2.1 gX7_riskOf_X7_in rfl rfl rfl hd_X7_in.2 ⟨Nat.le_of_ble_eq_true rfl, Nat.le_of_ble_eq_true rfl⟩) rfl rfl (Nat.le_of_ble_eq_true rfl) dX7_riskOf_22 ⟨Nat.le_of_ble_eq_true rfl, Nat.le_of_ble_eq_true rfl⟩ ?_
  refine x_bz_eq C (pc := 25) (tgt := 37) dX7_riskOf_25 (by decide) (fun c_25 => ?_) (fun c_25 => absurd c_25 (fun q => by rw [c_7, c_16, q] at hv; cases hv))
  refine x_bipush C (pc := 37) (v := (-2)) dX7_riskOf_37 (by decide) ?_
  exact x_iret C hR0 rfl (Nat.le_of_ble_eq_true rfl) (Nat.le_of_ble_eq_true rfl) ⟨rfl, rfl, rfl⟩ dX7_riskOf_39
theorem inB_nat {x lo hi : Nat} (h1 : lo ≤ x) (h2 : x ≤ hi) (h3 : hi < 2 ^ 30) : inB (nI x) (nI lo) (nI hi) = true := by
  unfold inB
  rw [decide_eq_true ((nI_leI (by omega) (by omega)).mpr h1), decide_eq_true ((nI_leI (by omega) (by omega)).mpr h2)]
  rfl
set_option maxHeartbeats 4000000 in
set_option maxRecDepth 100000 in
theorem c_X7_riskOf_s (l : Launch) (D : va_G) (z : Nat) (cI cZ cP cR : ClassId) (N : Nat) (F : Nat → va_E) (k : Nat) (pf pm pn spt wrg rd : Int32) (a ps sl sv sd wy pa nu : Nat → Int32) (n kk cw c0 : Nat) (wi rl sp : Int32) (pd : Nat → Nat → Int32) (od : Nat → Int32) (p c d : Nat) (hM : isMod z cI cZ F k pf pm pn spt wrg rd a ps sl sv sd wy pa nu) (hk : k + 9 ≤ N) (hA : mA a n kk cw c0 wi rl sp pd od) (h1 : 1 ≤ p) (h2 : p ≤ 20) (h3 : c ≤ p) (h4 : 1 ≤ d) (h5 : d ≤ p) : gMi l yX7_riskOf wsX7_riskOf ({ frames := 2, cells := 0, slots := 0, locals := 48 }) D z cI cZ cP cR N F [.ref (z + k), .int (nI p), .int (nI c), .int (nI d)] (gRes (rkF p c d) N (fun F2 => F2 = F)) 0 0 := by
  refine gMi.of (cc := cX7_riskOf) (maxL := 4) (ret := (some .int)) (by decide) rfl (Nat.le_of_ble_eq_true rfl) [(0, .ref (z + k)), (1, .int (nI p)), (2, .int (nI c)), (3, .int (nI d))] rfl ?_
  intro pg ev sg mg bel me cg C hR0
  obtain ⟨ha0, ha1, ha2, ha3, ha4, hpd, hpl, hn, hkk, hcw, hcnt, hc0, hsp, hrl, hwi, hod⟩ := id hA
  have h2n := two_lt hn
  refine x_iload_n C (pc := 0) 1 dX7_riskOf_0 rfl ?_
  refine x_iconst C (pc := 1) (v := 1) dX7_riskOf_1 (by decide) ?_
  refine x_bipush C (pc := 2) (v := 20) dX7_riskOf_2 (by decide) ?_
  refine x_cSiR C (pc := 4) (st := []) (c_X7_in l D z cI cZ cP cR N F (nI p) 1 20) (va_cwS 3 C.2.2.2.2.1 gX7_riskOf_X7_in rfl rfl rfl hd_X7_in.2 ⟨Nat.le_of_ble_eq_true rfl, Nat.le_of_ble_eq_true rfl⟩) rfl rfl (Nat.le_of_ble_eq_true rfl) dX7_riskOf_4 ⟨Nat.le_of_ble_eq_true rfl, Nat.le_of_ble_eq_true rfl⟩ ?_
  refine x_bz_eq C (pc := 7) (tgt := 37) dX7_riskOf_7 (by decide) (fun c_7 => absurd c_7 (fun q => absurd ((inB_nat (x := p) (lo := 1) (hi := 20) (by omega) (by omega) (by omega)).symm.trans q) (by decide))) (fun c_7 => ?_)
  refine x_iload_n C (pc := 10) 2 dX7_riskOf_10 rfl ?_
  refine x_iconst C (pc := 11) (v := 0) dX7_riskOf_11 (by decide) ?_
  refine x_iload_n C (pc := 12) 1 dX7_riskOf_12 rfl ?_
  refine x_cSiR C (pc := 13) (st := []) (c_X7_in l D z cI cZ cP cR N F (nI c) 0 (nI p)) (va_cwS 3 C.2.2.2.2.1 gX7_riskOf_X7_in rfl rfl rfl hd_X7_in.2 ⟨Nat.le_of_ble_eq_true rfl, Nat.le_of_ble_eq_true rfl⟩) rfl rfl (Nat.le_of_ble_eq_true rfl) dX7_riskOf_13 ⟨Nat.le_of_ble_eq_true rfl, Nat.le_of_ble_eq_true rfl⟩ ?_
  refine x_bz_eq C (pc := 16) (tgt := 37) dX7_riskOf_16 (by decide) (fun c_16 => absurd c_16 (fun q => absurd ((inB_nat (x := c) (lo := 0) (hi := p) (by omega) (by omega) (by omega)).symm.trans q) (by decide))) (fun c_16 => ?_)
  refine x_iload_n C (pc := 19) 3 dX7_riskOf_19 rfl ?_
  refine x_iconst C (pc := 20) (v := 1) dX7_riskOf_20 (by decide) ?_
  refine x_iload_n C (pc := 21) 1 dX7_riskOf_21 rfl ?_
  refine x_cSiR C (pc := 22) (st := []) (c_X7_in l D z cI cZ cP cR N F (nI d) 1 (nI p)) (va_cwS 3 C.2.2.2.2.1 gX7_riskOf_X7_in rfl rfl rfl hd_X7_in.2 ⟨Nat.le_of_ble_eq_true rfl, Nat.le_of_ble_eq_true rfl⟩) rfl rfl (Nat.le_of_ble_eq_true rfl) dX7_riskOf_22 ⟨Nat.le_of_ble_eq_true rfl, Nat.le_of_ble_eq_true rfl⟩ ?_
  refine x_bz_eq C (pc := 25) (tgt := 37) dX7_riskOf_25 (by decide) (fun c_25 => absurd c_25 (fun q => absurd ((inB_nat (x := d) (lo := 1) (hi := p) (by omega) (by omega) (by omega)).symm.trans q) (by decide))) (fun c_25 => ?_)
  refine x_iload_n C (pc := 28) 1 dX7_riskOf_28 rfl ?_
  refine x_iload_n C (pc := 29) 2 dX7_riskOf_29 rfl ?_
  refine x_iload_n C (pc := 30) 3 dX7_riskOf_30 rfl ?_
  refine x_cSiR C (pc := 31) (st := []) (c_X7_byNumbers l D z cI cZ cP cR N F p c d (by omega) (by omega) (by omega)) (va_cwS 3 C.2.2.2.2.1 gX7_riskOf_X7_byNumbers rfl rfl rfl hd_X7_byNumbers.2 ⟨Nat.le_of_ble_eq_true rfl, Nat.le_of_ble_eq_true rfl⟩) rfl rfl (Nat.le_of_ble_eq_true rfl) dX7_riskOf_31 ⟨Nat.le_of_ble_eq_true rfl, Nat.le_of_ble_eq_true rfl⟩ ?_
  refine x_goto C (pc := 34) (tgt := 39) dX7_riskOf_34 (by decide) ?_
  exact x_iret C hR0 rfl (Nat.le_of_ble_eq_true rfl) (Nat.le_of_ble_eq_true rfl) ⟨rfl, rfl, rfl⟩ dX7_riskOf_39
def msA (cw t s : Nat) : Bool := decide (s &&& cw = cw) && decide (cntB s 10 = cntB cw 10 + t)
def msP (wi : Int32) (pd : Nat → Nat → Int32) (pi : Nat → Nat) (n cw : Nat) (rl : Int32) (t : Nat) : Nat → Bool
  | 0 => true
  | s + 1 => msP wi pd pi n cw rl t s && (!msA cw t s || decide (rbF wi pd pi n s (fsN true s cw) ≤ rl))
theorem msP_false {wi : Int32} {pd : Nat → Nat → Int32} {pi : Nat → Nat} {n cw : Nat} {rl : Int32} {t : Nat} {j : Nat} (h : msP wi pd pi n cw rl t j = false) : ∀ m, j ≤ m → msP wi pd pi n cw rl t m = false := by
  intro m hm
  induction m with
  | zero => rw [show j = 0 by omega] at h; exact h
  | succ m ih =>
    by_cases e : j = m + 1
    · rw [e] at h; exact h
    · rw [msP, ih (by omega)]; rfl
theorem fl_X7_mayStopBehind_7 : Cond.fieldLink RX7 7 "PileRecountModel" "at" "[I" ∈ wsX7_mayStopBehind := by decide +kernel
theorem hn_X7_mayStopBehind_X7 : ∀ w ∈ wsX70, w ∈ wsX7_mayStopBehind := fun _ h => List.mem_cons_of_mem _ (List.mem_append_right _ h)
set_option maxHeartbeats 4000000 in
set_option maxRecDepth 100000 in
theorem c_X7_mayStopBehind (l : Launch) (D : va_G) (z : Nat) (cI cZ cP cR : ClassId) (N : Nat) (F : Nat → va_E) (k : Nat) (pf pm pn spt wrg rd : Int32) (a ps sl sv sd wy pa nu : Nat → Int32) (n kk cw c0 : Nat) (wi rl sp : Int32) (pd : Nat → Nat → Int32) (od : Nat → Int32) (t : Nat) (pi : Nat → Nat) (hM : isMod z cI cZ F k pf pm pn spt wrg rd a ps sl sv sd wy pa nu) (hk : k + 9 ≤ N) (hA : mA a n kk cw c0 wi rl sp pd od) (ht : t ≤ 10) (hwb : hwB wi = true) (hpi : rkPi (fun i => swF wi (pd i)) n pi) : gMi l yX7_mayStopBehind wsX7_mayStopBehind ({ frames := 8, cells := 0, slots := 0, locals := 181 }) D z cI cZ cP cR N F [.ref (z + k), .int (nI t)] (gRes (bz (msP wi pd pi n cw rl t (2 ^ n))) N (fun F2 => F2 = F)) 0 0 := by
  refine gMi.of (cc := cX7_mayStopBehind) (maxL := 6) (ret := (some .boolean)) (by decide) rfl (Nat.le_of_ble_eq_true rfl) [(0, .ref (z + k)), (1, .int (nI t))] rfl ?_
  intro pg ev sg mg bel me cg C hR0
  obtain ⟨ha0, ha1, ha2, ha3, ha4, hpd, hpl, hn, hkk, hcw, hcnt, hc0, hsp, hrl, hwi, hod⟩ := id hA
  have h2n := two_lt hn
  have hcc := cntB_le cw 10
  refine x_aload_n C (pc := 0) 0 dX7_mayStopBehind_0 rfl ?_
  refine x_cViR C (pc := 1) (st := []) (c_X7_countedSet l D z cI cZ cP cR N F k pf pm pn spt wrg rd a ps sl sv sd wy pa nu n kk cw c0 wi rl sp pd od  hM (by omega) hA ) (cwV 0 C.2.2.2.2.1 gX7_mayStopBehind_X7_countedSet rfl rfl rfl hd_X7_countedSet ⟨Nat.le_of_ble_eq_true rfl, Nat.le_of_ble_eq_true rfl⟩) (by omega) hM.ob rfl rfl rfl (Nat.le_of_ble_eq_true rfl) dX7_mayStopBehind_1 ⟨Nat.le_of_ble_eq_true rfl, Nat.le_of_ble_eq_true rfl⟩ ?_
  refine x_istore_n C (pc := 4) [(2, .int (nI cw)), (0, .ref (z + k)), (1, .int (nI t))] dX7_mayStopBehind_4 (by decide) rfl ?_
  refine x_iconst C (pc := 5) (v := 1) dX7_mayStopBehind_5 (by decide) ?_
  refine x_istore_n C (pc := 6) [(3, .int 1), (2, .int (nI cw)), (0, .ref (z + k)), (1, .int (nI t))] dX7_mayStopBehind_6 (by decide) rfl ?_
  refine x_iconst C (pc := 7) (v := 0) dX7_mayStopBehind_7 (by decide) ?_
  refine x_istore C (pc := 8) [(4, .int 0), (3, .int 1), (2, .int (nI cw)), (0, .ref (z + k)), (1, .int (nI t))] dX7_mayStopBehind_8 (by decide) rfl ?_
  refine x_sub [3, 4, 2, 1, 0] _ rfl ?_
  refine x_loop2 (A1 := Nat) (A2 := Bool) (pc := 10) (st := []) (fun j b => 2 ^ n - j) (fun j b => (j ≤ 2 ^ n) ∧ (b = msP wi pd pi n cw rl t j)) (fun j b => N) (fun j b => F) (fun j b => 0) (fun j b => 0) (fun j b => [(0, .ref (z + k)), (1, .int (nI t)), (2, .int (nI cw)), (3, .int (bz b)), (4, .int (nI j))]) 0 true ⟨(Nat.zero_le _), rfl⟩ rfl rfl rfl rfl rfl ?_
  rintro j b ⟨hj, hb⟩ ih_10
  try dsimp only at ih_10
  have hcj := cntB_le j 10
  refine x_iload C (pc := 10) 4 dX7_mayStopBehind_10 rfl ?_
  refine x_aload_n C (pc := 12) 0 dX7_mayStopBehind_12 rfl ?_
  refine x_cViR C (pc := 13) (st := [.int (nI j)]) (c_X7_allSet l D z cI cZ cP cR N F k pf pm pn spt wrg rd a ps sl sv sd wy pa nu n kk cw c0 wi rl sp pd od  hM (by omega) hA ) (cwV 0 C.2.2.2.2.1 gX7_mayStopBehind_X7_allSet rfl rfl rfl hd_X7_allSet ⟨Nat.le_of_ble_eq_true rfl, Nat.le_of_ble_eq_true rfl⟩) (by omega) hM.ob rfl rfl rfl (Nat.le_of_ble_eq_true rfl) dX7_mayStopBehind_13 ⟨Nat.le_of_ble_eq_true rfl, Nat.le_of_ble_eq_true rfl⟩ ?_
  have hp1 := two_pos n
  refine x_icmpN_gt C (a := j) (b := 2 ^ n - 1) (pc := 16) (tgt := 85) (by omega) (by omega) dX7_mayStopBehind_16 (by decide) (fun c_16 => ?_) (fun c_16 => ?_)
  · refine x_iload_n C (pc := 85) 3 dX7_mayStopBehind_85 rfl ?_
    exact x_iret C hR0 (nar_bz _) (Nat.le_of_ble_eq_true rfl) (Nat.le_of_ble_eq_true rfl) ⟨(by first | (rw [hb, show j = 2 ^ n by (have hp1 := two_pos n; omega)]; done) | (rw [msP_false (hb.symm.trans c_20) _ hj, c_20]; done)), rfl, rfl⟩ dX7_mayStopBehind_86
  refine x_iload_n C (pc := 19) 3 dX7_mayStopBehind_19 rfl ?_
  refine x_bz_eq C (pc := 20) (tgt := 85) dX7_mayStopBehind_20 (by decide) (fun c_20 => ?_) (fun c_20 => ?_)
  · refine x_iload_n C (pc := 85) 3 dX7_mayStopBehind_85 rfl ?_
    exact x_iret C hR0 (nar_bz _) (Nat.le_of_ble_eq_true rfl) (Nat.le_of_ble_eq_true rfl) ⟨(by first | (rw [hb, show j = 2 ^ n by (have hp1 := two_pos n; omega)]; done) | (rw [msP_false (hb.symm.trans c_20) _ hj, c_20]; done)), rfl, rfl⟩ dX7_mayStopBehind_86
  refine x_iload C (pc := 23) 4 dX7_mayStopBehind_23 rfl ?_
  refine x_iload_n C (pc := 25) 2 dX7_mayStopBehind_25 rfl ?_
  refine x_iand C (pc := 26) (v := nI (j &&& cw)) dX7_mayStopBehind_26 (pkand (by omega) (by omega)) ?_
  refine x_iload_n C (pc := 27) 2 dX7_mayStopBehind_27 rfl ?_
  have hjc : j &&& cw ≤ j := Nat.and_le_left
  refine x_icmpN_ne C (a := j &&& cw) (b := cw) (pc := 28) (tgt := 49) (by omega) (by omega) dX7_mayStopBehind_28 (by decide) (fun c_28 => ?_) (fun c_28 => ?_)
  · refine x_iconst C (pc := 49) (v := 0) dX7_mayStopBehind_49 (by decide) ?_
    refine x_istore C (pc := 50) [(5, .int 0), (0, .ref (z + k)), (1, .int (nI t)), (2, .int (nI cw)), (3, .int (bz b)), (4, .int (nI j))] dX7_mayStopBehind_50 (by decide) rfl ?_
    refine x_iload C (pc := 52) 0 dX7_mayStopBehind_52 rfl ?_
    refine x_ifN_eq C (a := 0) (pc := 54) (tgt := 73) (by decide) dX7_mayStopBehind_54 (by decide) (fun h_ => ?_) (fun h_ => absurd h_ (by decide))
    refine x_iconst C (pc := 73) (v := 1) dX7_mayStopBehind_73 (by decide) ?_
    refine x_goto C (pc := 74) (tgt := 78) dX7_mayStopBehind_74 (by decide) ?_
    refine x_istore_n C (pc := 78) [(3, .int 1), (5, .int 0), (0, .ref (z + k)), (1, .int (nI t)), (2, .int (nI cw)), (4, .int (nI j))] dX7_mayStopBehind_78 (by decide) rfl ?_
    refine x_iinc C (pc := 79) 5 [(4, .int (nI (j + 1))), (3, .int 1), (5, .int 0), (0, .ref (z + k)), (1, .int (nI t)), (2, .int (nI cw))] dX7_mayStopBehind_79 rfl (nI_inc j) (by decide) rfl ?_
    refine x_goto C (pc := 82) (tgt := 10) dX7_mayStopBehind_82 (by decide) ?_
    exact x_sub [3, 4, 5, 1, 0] _ rfl (ih_10 (j + 1) true ⟨(by omega), (by rw [msP, ← hb, c_20]; first | (rw [show msA cw t j = false by (first | (rw [msA, decide_eq_false c_28]; rfl) | (rw [msA, decide_eq_false c_42, Bool.and_false]))]; rfl) | (rw [decide_eq_true (Int32.not_lt.mp c_70), Bool.or_true]; rfl))⟩ (by omega))
  refine x_iload C (pc := 31) 4 dX7_mayStopBehind_31 rfl ?_
  refine x_cSiR C (pc := 33) (st := []) (c_X7_many l D z cI cZ cP cR N F j (by omega)) (va_cwS 1 C.2.2.2.2.1 gX7_mayStopBehind_X7_many rfl rfl rfl hd_X7_many.2 ⟨Nat.le_of_ble_eq_true rfl, Nat.le_of_ble_eq_true rfl⟩) rfl rfl (Nat.le_of_ble_eq_true rfl) dX7_mayStopBehind_33 ⟨Nat.le_of_ble_eq_true rfl, Nat.le_of_ble_eq_true rfl⟩ ?_
  refine x_iload_n C (pc := 36) 2 dX7_mayStopBehind_36 rfl ?_
  refine x_cSiR C (pc := 37) (st := [.int (nI (cntB j 10))]) (c_X7_many l D z cI cZ cP cR N F cw (by omega)) (va_cwS 1 C.2.2.2.2.1 gX7_mayStopBehind_X7_many rfl rfl rfl hd_X7_many.2 ⟨Nat.le_of_ble_eq_true rfl, Nat.le_of_ble_eq_true rfl⟩) rfl rfl (Nat.le_of_ble_eq_true rfl) dX7_mayStopBehind_37 ⟨Nat.le_of_ble_eq_true rfl, Nat.le_of_ble_eq_true rfl⟩ ?_
  refine x_iload_n C (pc := 40) 1 dX7_mayStopBehind_40 rfl ?_
  refine x_iadd C (pc := 41) (v := nI (cntB cw 10 + t)) dX7_mayStopBehind_41 (nI_add (cntB cw 10) t) ?_
  refine x_icmpN_ne C (a := cntB j 10) (b := cntB cw 10 + t) (pc := 42) (tgt := 49) (by omega) (by omega) dX7_mayStopBehind_42 (by decide) (fun c_42 => ?_) (fun c_42 => ?_)
  · refine x_iconst C (pc := 49) (v := 0) dX7_mayStopBehind_49 (by decide) ?_
    refine x_istore C (pc := 50) [(5, .int 0), (0, .ref (z + k)), (1, .int (nI t)), (2, .int (nI cw)), (3, .int (bz b)), (4, .int (nI j))] dX7_mayStopBehind_50 (by decide) rfl ?_
    refine x_iload C (pc := 52) 0 dX7_mayStopBehind_52 rfl ?_
    refine x_ifN_eq C (a := 0) (pc := 54) (tgt := 73) (by decide) dX7_mayStopBehind_54 (by decide) (fun h_ => ?_) (fun h_ => absurd h_ (by decide))
    refine x_iconst C (pc := 73) (v := 1) dX7_mayStopBehind_73 (by decide) ?_
    refine x_goto C (pc := 74) (tgt := 78) dX7_mayStopBehind_74 (by decide) ?_
    refine x_istore_n C (pc := 78) [(3, .int 1), (5, .int 0), (0, .ref (z + k)), (1, .int (nI t)), (2, .int (nI cw)), (4, .int (nI j))] dX7_mayStopBehind_78 (by decide) rfl ?_
    refine x_iinc C (pc := 79) 5 [(4, .int (nI (j + 1))), (3, .int 1), (5, .int 0), (0, .ref (z + k)), (1, .int (nI t)), (2, .int (nI cw))] dX7_mayStopBehind_79 rfl (nI_inc j) (by decide) rfl ?_
    refine x_goto C (pc := 82) (tgt := 10) dX7_mayStopBehind_82 (by decide) ?_
    exact x_sub [3, 4, 5, 1, 0] _ rfl (ih_10 (j + 1) true ⟨(by omega), (by rw [msP, ← hb, c_20]; first | (rw [show msA cw t j = false by (first | (rw [msA, decide_eq_false c_28]; rfl) | (rw [msA, decide_eq_false c_42, Bool.and_false]))]; rfl) | (rw [decide_eq_true (Int32.not_lt.mp c_70), Bool.or_true]; rfl))⟩ (by omega))
  refine x_iconst C (pc := 45) (v := 1) dX7_mayStopBehind_45 (by decide) ?_
  refine x_goto C (pc := 46) (tgt := 50) dX7_mayStopBehind_46 (by decide) ?_
  refine x_istore C (pc := 50) [(5, .int 1), (0, .ref (z + k)), (1, .int (nI t)), (2, .int (nI cw)), (3, .int (bz b)), (4, .int (nI j))] dX7_mayStopBehind_50 (by decide) rfl ?_
  refine x_iload C (pc := 52) 0 dX7_mayStopBehind_52 rfl ?_
  refine x_ifN_eq C (a := 1) (pc := 54) (tgt := 73) (by decide) dX7_mayStopBehind_54 (by decide) (fun h_ => absurd h_ (by decide)) (fun _ => ?_)
  refine x_aload_n C (pc := 57) 1 dX7_mayStopBehind_57 rfl ?_
  refine x_iload C (pc := 58) 5 dX7_mayStopBehind_58 rfl ?_
  refine x_iconst C (pc := 60) (v := 1) dX7_mayStopBehind_60 (by decide) ?_
  refine x_cViR C (pc := 61) (st := []) (c_X7_risk l D z cI cZ cP cR N F k pf pm pn spt wrg rd a ps sl sv sd wy pa nu n kk cw c0 wi rl sp pd od j true pi hM (by omega) hA (by omega) hwb hpi) (cwV 2 C.2.2.2.2.1 gX7_mayStopBehind_X7_risk rfl rfl rfl hd_X7_risk ⟨Nat.le_of_ble_eq_true rfl, Nat.le_of_ble_eq_true rfl⟩) (by omega) hM.ob rfl rfl rfl (Nat.le_of_ble_eq_true rfl) dX7_mayStopBehind_61 ⟨Nat.le_of_ble_eq_true rfl, Nat.le_of_ble_eq_true rfl⟩ ?_
  refine x_aload_n C (pc := 64) 1 dX7_mayStopBehind_64 rfl ?_
  refine x_get C (pc := 65) (q := k) (v := .ref (z + (k + 1))) (ci := 7) rfl hn_X7_mayStopBehind_X7 0 (by decide) fl_X7_mayStopBehind_7 rfl (by omega) hM.ob rfl dX7_mayStopBehind_65 ?_
  refine x_iconst C (pc := 68) (v := 1) dX7_mayStopBehind_68 (by decide) ?_
  refine x_ialdE C (pc := 69) (q := k + 1) (j := 1) (f := a) (by omega) hM.a rfl (by omega) (by decide) dX7_mayStopBehind_69 ?_
  refine x_eqi hA.2.1 ?_
  refine x_icmp_gt C (pc := 70) (tgt := 77) dX7_mayStopBehind_70 (by decide) (fun c_70 => ?_) (fun c_70 => ?_)
  · refine x_iconst C (pc := 77) (v := 0) dX7_mayStopBehind_77 (by decide) ?_
    refine x_istore_n C (pc := 78) [(3, .int 0), (5, .int 1), (0, .ref (z + k)), (1, .int (nI t)), (2, .int (nI cw)), (4, .int (nI j))] dX7_mayStopBehind_78 (by decide) rfl ?_
    refine x_iinc C (pc := 79) 5 [(4, .int (nI (j + 1))), (3, .int 0), (5, .int 1), (0, .ref (z + k)), (1, .int (nI t)), (2, .int (nI cw))] dX7_mayStopBehind_79 rfl (nI_inc j) (by decide) rfl ?_
    refine x_goto C (pc := 82) (tgt := 10) dX7_mayStopBehind_82 (by decide) ?_
    exact x_sub [3, 4, 5, 1, 0] _ rfl (ih_10 (j + 1) false ⟨(by omega), (by rw [msP, show msA cw t j = true by (rw [msA, decide_eq_true c_28, decide_eq_true c_42]; rfl), decide_eq_false (Int32.not_le.mpr c_70)]; simp)⟩ (by omega))
  refine x_iconst C (pc := 73) (v := 1) dX7_mayStopBehind_73 (by decide) ?_
  refine x_goto C (pc := 74) (tgt := 78) dX7_mayStopBehind_74 (by decide) ?_
  refine x_istore_n C (pc := 78) [(3, .int 1), (5, .int 1), (0, .ref (z + k)), (1, .int (nI t)), (2, .int (nI cw)), (4, .int (nI j))] dX7_mayStopBehind_78 (by decide) rfl ?_
  refine x_iinc C (pc := 79) 5 [(4, .int (nI (j + 1))), (3, .int 1), (5, .int 1), (0, .ref (z + k)), (1, .int (nI t)), (2, .int (nI cw))] dX7_mayStopBehind_79 rfl (nI_inc j) (by decide) rfl ?_
  refine x_goto C (pc := 82) (tgt := 10) dX7_mayStopBehind_82 (by decide) ?_
  exact x_sub [3, 4, 5, 1, 0] _ rfl (ih_10 (j + 1) true ⟨(by omega), (by rw [msP, ← hb, c_20]; first | (rw [show msA cw t j = false by (first | (rw [msA, decide_eq_false c_28]; rfl) | (rw [msA, decide_eq_false c_42, Bool.and_false]))]; rfl) | (rw [decide_eq_true (Int32.not_lt.mp c_70), Bool.or_true]; rfl))⟩ (by omega))
def lsM (g : Nat → Bool) : Nat → Nat → Int32
  | 0, _ => -6
  | f + 1, t => if g t = true then nI t else lsM g f (t + 1)
theorem win_ge {wi : Int32} {pd : Nat → Nat → Int32} {n : Nat} (h : wi = winF pd n) (hw : hwB wi = true) : 0 ≤ wi := by
  apply Int32.not_lt.mp
  intro q
  rw [(win_lt h).mp q] at hw
  cases hw
set_option maxHeartbeats 4000000 in
set_option maxRecDepth 100000 in
theorem c_X7_atLeast_e (l : Launch) (D : va_G) (z : Nat) (cI cZ cP cR : ClassId) (N : Nat) (F : Nat → va_E) (k : Nat) (pf pm pn spt wrg rd : Int32) (a ps sl sv sd wy pa nu : Nat → Int32) (n kk cw c0 : Nat) (wi rl sp : Int32) (pd : Nat → Nat → Int32) (od : Nat → Int32) (hM : isMod z cI cZ F k pf pm pn spt wrg rd a ps sl sv sd wy pa nu) (hk : k + 9 ≤ N) (hA : mA a n kk cw c0 wi rl sp pd od) (hw : hwB wi = false) : gMi l yX7_atLeast wsX7_atLeast ({ frames := 2, cells := 0, slots := 0, locals := 44 }) D z cI cZ cP cR N F [.ref (z + k)] (gRes (-5) N (fun F2 => F2 = F)) 0 0 := by
  refine gMi.of (cc := cX7_atLeast) (maxL := 2) (ret := (some .int)) (by decide) rfl (Nat.le_of_ble_eq_true rfl) [(0, .ref (z + k))] rfl ?_
  intro pg ev sg mg bel me cg C hR0
  obtain ⟨ha0, ha1, ha2, ha3, ha4, hpd, hpl, hn, hkk, hcw, hcnt, hc0, hsp, hrl, hwi, hod⟩ := id hA
  have h2n := two_lt hn
  refine x_aload_n C (pc := 0) 0 dX7_atLeast_0 rfl ?_
  refine x_cViR C (pc := 1) (st := []) (c_X7_winner l D z cI cZ cP cR N F k pf pm pn spt wrg rd a ps sl sv sd wy pa nu n kk cw c0 wi rl sp pd od  hM (by omega) hA ) (cwV 0 C.2.2.2.2.1 gX7_atLeast_X7_winner rfl rfl rfl hd_X7_winner ⟨Nat.le_of_ble_eq_true rfl, Nat.le_of_ble_eq_true rfl⟩) (by omega) hM.ob rfl rfl rfl (Nat.le_of_ble_eq_true rfl) dX7_atLeast_1 ⟨Nat.le_of_ble_eq_true rfl, Nat.le_of_ble_eq_true rfl⟩ ?_
  refine x_if_ge C (pc := 4) (tgt := 10) dX7_atLeast_4 (by decide) (fun c_4 => absurd c_4 (Int32.not_le.mpr ((win_lt hwi).mpr hw))) (fun c_4 => ?_)
  refine x_bipush C (pc := 7) (v := (-5)) dX7_atLeast_7 (by decide) ?_
  exact x_iret C hR0 rfl (Nat.le_of_ble_eq_true rfl) (Nat.le_of_ble_eq_true rfl) ⟨rfl, rfl, rfl⟩ dX7_atLeast_9
theorem fl_X7_atLeast_7 : Cond.fieldLink RX7 7 "PileRecountModel" "at" "[I" ∈ wsX7_atLeast := by decide +kernel
theorem hn_X7_atLeast_X7 : ∀ w ∈ wsX70, w ∈ wsX7_atLeast := fun _ h => List.mem_cons_of_mem _ (List.mem_append_right _ h)
set_option maxHeartbeats 4000000 in
set_option maxRecDepth 100000 in
theorem c_X7_atLeast_s (l : Launch) (D : va_G) (z : Nat) (cI cZ cP cR : ClassId) (N : Nat) (F : Nat → va_E) (k : Nat) (pf pm pn spt wrg rd : Int32) (a ps sl sv sd wy pa nu : Nat → Int32) (n kk cw c0 : Nat) (wi rl sp : Int32) (pd : Nat → Nat → Int32) (od : Nat → Int32) (pi : Nat → Nat) (hM : isMod z cI cZ F k pf pm pn spt wrg rd a ps sl sv sd wy pa nu) (hk : k + 9 ≤ N) (hA : mA a n kk cw c0 wi rl sp pd od) (hwb : hwB wi = true) (hpi : rkPi (fun i => swF wi (pd i)) n pi) : gMi l yX7_atLeast wsX7_atLeast ({ frames := 9, cells := 0, slots := 0, locals := 206 }) D z cI cZ cP cR N F [.ref (z + k)] (gRes (lsM (fun t => msP wi pd pi n cw rl t (2 ^ n)) (n - kk + 1) 0) N (fun F2 => F2 = F)) 0 0 := by
  refine gMi.of (cc := cX7_atLeast) (maxL := 2) (ret := (some .int)) (by decide) rfl (Nat.le_of_ble_eq_true rfl) [(0, .ref (z + k))] rfl ?_
  intro pg ev sg mg bel me cg C hR0
  obtain ⟨ha0, ha1, ha2, ha3, ha4, hpd, hpl, hn, hkk, hcw, hcnt, hc0, hsp, hrl, hwi, hod⟩ := id hA
  have h2n := two_lt hn
  refine x_aload_n C (pc := 0) 0 dX7_atLeast_0 rfl ?_
  refine x_cViR C (pc := 1) (st := []) (c_X7_winner l D z cI cZ cP cR N F k pf pm pn spt wrg rd a ps sl sv sd wy pa nu n kk cw c0 wi rl sp pd od  hM (by omega) hA ) (cwV 0 C.2.2.2.2.1 gX7_atLeast_X7_winner rfl rfl rfl hd_X7_winner ⟨Nat.le_of_ble_eq_true rfl, Nat.le_of_ble_eq_true rfl⟩) (by omega) hM.ob rfl rfl rfl (Nat.le_of_ble_eq_true rfl) dX7_atLeast_1 ⟨Nat.le_of_ble_eq_true rfl, Nat.le_of_ble_eq_true rfl⟩ ?_
  refine x_if_ge C (pc := 4) (tgt := 10) dX7_atLeast_4 (by decide) (fun c_4 => ?_) (fun c_4 => absurd c_4 (not_not_intro (win_ge hwi hwb)))
  refine x_iconst C (pc := 10) (v := 0) dX7_atLeast_10 (by decide) ?_
  refine x_istore_n C (pc := 11) [(1, .int 0), (0, .ref (z + k))] dX7_atLeast_11 (by decide) rfl ?_
  refine x_sub [1, 0] _ rfl ?_
  refine x_loop1 (A1 := Nat) (pc := 12) (st := []) (fun t => n - kk + 1 - t) (fun t => (t ≤ n - kk + 1) ∧ (lsM (fun t => msP wi pd pi n cw rl t (2 ^ n)) (n - kk + 1 - t) t = lsM (fun t => msP wi pd pi n cw rl t (2 ^ n)) (n - kk + 1) 0)) (fun t => N) (fun t => F) (fun t => 0) (fun t => 0) (fun t => [(0, .ref (z + k)), (1, .int (nI t))]) 0 ⟨(Nat.zero_le _), rfl⟩ rfl rfl rfl rfl rfl ?_
  rintro t ⟨ht, hls⟩ ih_12
  try dsimp only at ih_12
  refine x_iload_n C (pc := 12) 1 dX7_atLeast_12 rfl ?_
  refine x_aload_n C (pc := 13) 0 dX7_atLeast_13 rfl ?_
  refine x_get C (pc := 14) (q := k) (v := .ref (z + (k + 1))) (ci := 7) rfl hn_X7_atLeast_X7 0 (by decide) fl_X7_atLeast_7 rfl (by omega) hM.ob rfl dX7_atLeast_14 ?_
  refine x_iconst C (pc := 17) (v := 0) dX7_atLeast_17 (by decide) ?_
  refine x_ialdE C (pc := 18) (q := k + 1) (j := 0) (f := a) (by omega) hM.a rfl (by omega) (by decide) dX7_atLeast_18 ?_
  refine x_eqi hA.1 ?_
  refine x_aload_n C (pc := 19) 0 dX7_atLeast_19 rfl ?_
  refine x_get C (pc := 20) (q := k) (v := .ref (z + (k + 1))) (ci := 7) rfl hn_X7_atLeast_X7 0 (by decide) fl_X7_atLeast_7 rfl (by omega) hM.ob rfl dX7_atLeast_20 ?_
  refine x_iconst C (pc := 23) (v := 4) dX7_atLeast_23 (by decide) ?_
  refine x_ialdE C (pc := 24) (q := k + 1) (j := 4) (f := a) (by omega) hM.a rfl (by omega) (by decide) dX7_atLeast_24 ?_
  refine x_eqi hA.2.2.2.2.1 ?_
  refine x_isub C (pc := 25) (v := nI (n - kk)) dX7_atLeast_25 (pk_sub (a := n) (b := kk) (by omega)) ?_
  refine x_icmpN_gt C (a := t) (b := n - kk) (pc := 26) (tgt := 45) (by omega) (by omega) dX7_atLeast_26 (by decide) (fun c_26 => ?_) (fun c_26 => ?_)
  · refine x_bipush C (pc := 45) (v := (-6)) dX7_atLeast_45 (by decide) ?_
    exact x_iret C hR0 rfl (Nat.le_of_ble_eq_true rfl) (Nat.le_of_ble_eq_true rfl) ⟨(by rw [← hls, show n - kk + 1 - t = 0 by omega]; rfl), rfl, rfl⟩ dX7_atLeast_47
  refine x_aload_n C (pc := 29) 0 dX7_atLeast_29 rfl ?_
  refine x_iload_n C (pc := 30) 1 dX7_atLeast_30 rfl ?_
  refine x_cViR C (pc := 31) (st := []) (c_X7_mayStopBehind l D z cI cZ cP cR N F k pf pm pn spt wrg rd a ps sl sv sd wy pa nu n kk cw c0 wi rl sp pd od t pi hM (by omega) hA (by omega) hwb hpi) (cwV 1 C.2.2.2.2.1 gX7_atLeast_X7_mayStopBehind rfl rfl rfl hd_X7_mayStopBehind ⟨Nat.le_of_ble_eq_true rfl, Nat.le_of_ble_eq_true rfl⟩) (by omega) hM.ob rfl rfl rfl (Nat.le_of_ble_eq_true rfl) dX7_atLeast_31 ⟨Nat.le_of_ble_eq_true rfl, Nat.le_of_ble_eq_true rfl⟩ ?_
  refine x_bz_eq C (pc := 34) (tgt := 39) dX7_atLeast_34 (by decide) (fun c_34 => ?_) (fun c_34 => ?_)
  · refine x_iinc C (pc := 39) 1 [(1, .int (nI (t + 1))), (0, .ref (z + k))] dX7_atLeast_39 rfl (nI_inc t) (by decide) rfl ?_
    refine x_goto C (pc := 42) (tgt := 12) dX7_atLeast_42 (by decide) ?_
    exact x_sub [1, 0] _ rfl (ih_12 (t + 1) ⟨(by omega), (by rw [← hls, show n - kk + 1 - t = n - kk + 1 - (t + 1) + 1 by omega, lsM]; rw [if_neg (by rw [c_34]; decide)])⟩ (by omega))
  refine x_iload_n C (pc := 37) 1 dX7_atLeast_37 rfl ?_
  exact x_iret C hR0 rfl (Nat.le_of_ble_eq_true rfl) (Nat.le_of_ble_eq_true rfl) ⟨(by rw [← hls, show n - kk + 1 - t = n - kk + 1 - (t + 1) + 1 by omega, lsM]; rw [if_pos c_34]), rfl, rfl⟩ dX7_atLeast_38
set_option maxHeartbeats 4000000 in
set_option maxRecDepth 100000 in
theorem c_X7_suspectsOf (l : Launch) (D : va_G) (z : Nat) (cI cZ cP cR : ClassId) (N : Nat) (F : Nat → va_E) (k : Nat) (pf pm pn spt wrg rd : Int32) (a ps sl sv sd wy pa nu : Nat → Int32) (n kk cw c0 : Nat) (wi rl sp : Int32) (pd : Nat → Nat → Int32) (od : Nat → Int32) (pi : Nat → Nat) (hM : isMod z cI cZ F k pf pm pn spt wrg rd a ps sl sv sd wy pa nu) (hk : k + 9 ≤ N) (hA : mA a n kk cw c0 wi rl sp pd od) (hpi : rkPi (fun i => swF wi (pd i)) n pi) : gMi l yX7_suspectsOf wsX7_suspectsOf ({ frames := 7, cells := 0, slots := 0, locals := 157 }) D z cI cZ cP cR N F [.ref (z + k), .int (nI cw)] (gRes (opI (wkR (fun i => swF wi (pd i)) pi n cw (leadF wi pd n cw))) N (fun F2 => F2 = F)) 0 0 := by
  refine gMi.of (cc := cX7_suspectsOf) (maxL := 2) (ret := (some .int)) (by decide) rfl (Nat.le_of_ble_eq_true rfl) [(0, .ref (z + k)), (1, .int (nI cw))] rfl ?_
  intro pg ev sg mg bel me cg C hR0
  obtain ⟨ha0, ha1, ha2, ha3, ha4, hpd, hpl, hn, hkk, hcw, hcnt, hc0, hsp, hrl, hwi, hod⟩ := id hA
  have h2n := two_lt hn
  refine x_aload_n C (pc := 0) 0 dX7_suspectsOf_0 rfl ?_
  refine x_iload_n C (pc := 1) 1 dX7_suspectsOf_1 rfl ?_
  refine x_aload_n C (pc := 2) 0 dX7_suspectsOf_2 rfl ?_
  refine x_iload_n C (pc := 3) 1 dX7_suspectsOf_3 rfl ?_
  refine x_iconst C (pc := 4) (v := 0) dX7_suspectsOf_4 (by decide) ?_
  refine x_cViR C (pc := 5) (st := [.int (nI cw), .ref (z + k)]) (c_X7_lead l D z cI cZ cP cR N F k pf pm pn spt wrg rd a ps sl sv sd wy pa nu n kk cw c0 wi rl sp pd od cw false hM (by omega) hA hcw) (cwV 2 C.2.2.2.2.1 gX7_suspectsOf_X7_lead rfl rfl rfl hd_X7_lead ⟨Nat.le_of_ble_eq_true rfl, Nat.le_of_ble_eq_true rfl⟩) (by omega) hM.ob rfl rfl rfl (Nat.le_of_ble_eq_true rfl) dX7_suspectsOf_5 ⟨Nat.le_of_ble_eq_true rfl, Nat.le_of_ble_eq_true rfl⟩ ?_
  refine x_cViR C (pc := 8) (st := []) (c_X7_wrongFor l D z cI cZ cP cR N F k pf pm pn spt wrg rd a ps sl sv sd wy pa nu n kk cw c0 wi rl sp pd od cw (leadF wi pd n cw) pi hM (by omega) hA hcw hpi) (cwV 2 C.2.2.2.2.1 gX7_suspectsOf_X7_wrongFor rfl rfl rfl hd_X7_wrongFor ⟨Nat.le_of_ble_eq_true rfl, Nat.le_of_ble_eq_true rfl⟩) (by omega) hM.ob rfl rfl rfl (Nat.le_of_ble_eq_true rfl) dX7_suspectsOf_8 ⟨Nat.le_of_ble_eq_true rfl, Nat.le_of_ble_eq_true rfl⟩ ?_
  exact x_iret C hR0 rfl (Nat.le_of_ble_eq_true rfl) (Nat.le_of_ble_eq_true rfl) ⟨rfl, rfl, rfl⟩ dX7_suspectsOf_11
set_option maxHeartbeats 4000000 in
set_option maxRecDepth 100000 in
theorem c_X7_suspects_e (l : Launch) (D : va_G) (z : Nat) (cI cZ cP cR : ClassId) (N : Nat) (F : Nat → va_E) (k : Nat) (pf pm pn spt wrg rd : Int32) (a ps sl sv sd wy pa nu : Nat → Int32) (n kk cw c0 : Nat) (wi rl sp : Int32) (pd : Nat → Nat → Int32) (od : Nat → Int32) (hM : isMod z cI cZ F k pf pm pn spt wrg rd a ps sl sv sd wy pa nu) (hk : k + 9 ≤ N) (hA : mA a n kk cw c0 wi rl sp pd od) (hw : hwB wi = false) : gMi l yX7_suspects wsX7_suspects ({ frames := 3, cells := 0, slots := 0, locals := 65 }) D z cI cZ cP cR N F [.ref (z + k)] (gRes (-5) N (fun F2 => F2 = F)) 0 0 := by
  refine gMi.of (cc := cX7_suspects) (maxL := 2) (ret := (some .int)) (by decide) rfl (Nat.le_of_ble_eq_true rfl) [(0, .ref (z + k))] rfl ?_
  intro pg ev sg mg bel me cg C hR0
  obtain ⟨ha0, ha1, ha2, ha3, ha4, hpd, hpl, hn, hkk, hcw, hcnt, hc0, hsp, hrl, hwi, hod⟩ := id hA
  have h2n := two_lt hn
  refine x_aload_n C (pc := 0) 0 dX7_suspects_0 rfl ?_
  refine x_cViR C (pc := 1) (st := []) (c_X7_countedSet l D z cI cZ cP cR N F k pf pm pn spt wrg rd a ps sl sv sd wy pa nu n kk cw c0 wi rl sp pd od  hM (by omega) hA ) (cwV 0 C.2.2.2.2.1 gX7_suspects_X7_countedSet rfl rfl rfl hd_X7_countedSet ⟨Nat.le_of_ble_eq_true rfl, Nat.le_of_ble_eq_true rfl⟩) (by omega) hM.ob rfl rfl rfl (Nat.le_of_ble_eq_true rfl) dX7_suspects_1 ⟨Nat.le_of_ble_eq_true rfl, Nat.le_of_ble_eq_true rfl⟩ ?_
  refine x_istore_n C (pc := 4) [(1, .int (nI cw)), (0, .ref (z + k))] dX7_suspects_4 (by decide) rfl ?_
  refine x_aload_n C (pc := 5) 1 dX7_suspects_5 rfl ?_
  refine x_cViR C (pc := 6) (st := []) (c_X7_winner l D z cI cZ cP cR N F k pf pm pn spt wrg rd a ps sl sv sd wy pa nu n kk cw c0 wi rl sp pd od  hM (by omega) hA ) (cwV 0 C.2.2.2.2.1 gX7_suspects_X7_winner rfl rfl rfl hd_X7_winner ⟨Nat.le_of_ble_eq_true rfl, Nat.le_of_ble_eq_true rfl⟩) (by omega) hM.ob rfl rfl rfl (Nat.le_of_ble_eq_true rfl) dX7_suspects_6 ⟨Nat.le_of_ble_eq_true rfl, Nat.le_of_ble_eq_true rfl⟩ ?_
  refine x_if_ge C (pc := 9) (tgt := 17) dX7_suspects_9 (by decide) (fun c_9 => absurd c_9 (Int32.not_le.mpr ((win_lt hwi).mpr hw))) (fun c_9 => ?_)
  refine x_bipush C (pc := 12) (v := (-5)) dX7_suspects_12 (by decide) ?_
  refine x_goto C (pc := 14) (tgt := 22) dX7_suspects_14 (by decide) ?_
  exact x_iret C hR0 rfl (Nat.le_of_ble_eq_true rfl) (Nat.le_of_ble_eq_true rfl) ⟨rfl, rfl, rfl⟩ dX7_suspects_22
set_option maxHeartbeats 4000000 in
set_option maxRecDepth 100000 in
theorem c_X7_suspects_s (l : Launch) (D : va_G) (z : Nat) (cI cZ cP cR : ClassId) (N : Nat) (F : Nat → va_E) (k : Nat) (pf pm pn spt wrg rd : Int32) (a ps sl sv sd wy pa nu : Nat → Int32) (n kk cw c0 : Nat) (wi rl sp : Int32) (pd : Nat → Nat → Int32) (od : Nat → Int32) (pi : Nat → Nat) (hM : isMod z cI cZ F k pf pm pn spt wrg rd a ps sl sv sd wy pa nu) (hk : k + 9 ≤ N) (hA : mA a n kk cw c0 wi rl sp pd od) (hwb : hwB wi = true) (hpi : rkPi (fun i => swF wi (pd i)) n pi) : gMi l yX7_suspects wsX7_suspects ({ frames := 8, cells := 0, slots := 0, locals := 178 }) D z cI cZ cP cR N F [.ref (z + k)] (gRes (opI (wkR (fun i => swF wi (pd i)) pi n cw (leadF wi pd n cw))) N (fun F2 => F2 = F)) 0 0 := by
  refine gMi.of (cc := cX7_suspects) (maxL := 2) (ret := (some .int)) (by decide) rfl (Nat.le_of_ble_eq_true rfl) [(0, .ref (z + k))] rfl ?_
  intro pg ev sg mg bel me cg C hR0
  obtain ⟨ha0, ha1, ha2, ha3, ha4, hpd, hpl, hn, hkk, hcw, hcnt, hc0, hsp, hrl, hwi, hod⟩ := id hA
  have h2n := two_lt hn
  refine x_aload_n C (pc := 0) 0 dX7_suspects_0 rfl ?_
  refine x_cViR C (pc := 1) (st := []) (c_X7_countedSet l D z cI cZ cP cR N F k pf pm pn spt wrg rd a ps sl sv sd wy pa nu n kk cw c0 wi rl sp pd od  hM (by omega) hA ) (cwV 0 C.2.2.2.2.1 gX7_suspects_X7_countedSet rfl rfl rfl hd_X7_countedSet ⟨Nat.le_of_ble_eq_true rfl, Nat.le_of_ble_eq_true rfl⟩) (by omega) hM.ob rfl rfl rfl (Nat.le_of_ble_eq_true rfl) dX7_suspects_1 ⟨Nat.le_of_ble_eq_true rfl, Nat.le_of_ble_eq_true rfl⟩ ?_
  refine x_istore_n C (pc := 4) [(1, .int (nI cw)), (0, .ref (z + k))] dX7_suspects_4 (by decide) rfl ?_
  refine x_aload_n C (pc := 5) 1 dX7_suspects_5 rfl ?_
  refine x_cViR C (pc := 6) (st := []) (c_X7_winner l D z cI cZ cP cR N F k pf pm pn spt wrg rd a ps sl sv sd wy pa nu n kk cw c0 wi rl sp pd od  hM (by omega) hA ) (cwV 0 C.2.2.2.2.1 gX7_suspects_X7_winner rfl rfl rfl hd_X7_winner ⟨Nat.le_of_ble_eq_true rfl, Nat.le_of_ble_eq_true rfl⟩) (by omega) hM.ob rfl rfl rfl (Nat.le_of_ble_eq_true rfl) dX7_suspects_6 ⟨Nat.le_of_ble_eq_true rfl, Nat.le_of_ble_eq_true rfl⟩ ?_
  refine x_if_ge C (pc := 9) (tgt := 17) dX7_suspects_9 (by decide) (fun c_9 => ?_) (fun c_9 => absurd c_9 (not_not_intro (win_ge hwi hwb)))
  refine x_aload_n C (pc := 17) 1 dX7_suspects_17 rfl ?_
  refine x_iload_n C (pc := 18) 0 dX7_suspects_18 rfl ?_
  refine x_cViR C (pc := 19) (st := []) (c_X7_suspectsOf l D z cI cZ cP cR N F k pf pm pn spt wrg rd a ps sl sv sd wy pa nu n kk cw c0 wi rl sp pd od pi hM (by omega) hA hpi) (cwV 1 C.2.2.2.2.1 gX7_suspects_X7_suspectsOf rfl rfl rfl hd_X7_suspectsOf ⟨Nat.le_of_ble_eq_true rfl, Nat.le_of_ble_eq_true rfl⟩) (by omega) hM.ob rfl rfl rfl (Nat.le_of_ble_eq_true rfl) dX7_suspects_19 ⟨Nat.le_of_ble_eq_true rfl, Nat.le_of_ble_eq_true rfl⟩ ?_
  exact x_iret C hR0 rfl (Nat.le_of_ble_eq_true rfl) (Nat.le_of_ble_eq_true rfl) ⟨rfl, rfl, rfl⟩ dX7_suspects_22
