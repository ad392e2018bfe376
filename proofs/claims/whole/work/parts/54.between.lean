/-! what holds between two calls of the law -/
def mR (a : Nat → Int32) (R : RD) : Prop := ∃ (n kk cw c0 : Nat) (pi : Nat → Nat), R.1 0 = nI n ∧ R.1 2 = nI kk ∧ R.1 3 = nI cw ∧ R.1 5 = nI c0 ∧ mA a n kk cw c0 (R.1 1) (R.1 4) (R.1 6) R.2.1 R.2.2.2 ∧ piOK R.2.2.1 pi n ∧ rkPi (fun i => swF (R.1 1) (R.2.1 i)) n pi
theorem mR.mk {a : Nat → Int32} {n kk cw c0 : Nat} {wi rl sp : Int32} {pd : PD} {bs od : Nat → Int32} {pi : Nat → Nat} (hA : mA a n kk cw c0 wi rl sp pd od) (hpi : piOK bs pi n) (hrk : rkPi (fun i => swF wi (pd i)) n pi) : mR a (mkR (nI n) wi (nI kk) (nI cw) rl (nI c0) sp pd bs od) :=
  ⟨n, kk, cw, c0, pi, rfl, rfl, rfl, rfl, hA, hpi, hrk⟩
theorem mR.ext {a b : Nat → Int32} {R : RD} (h : mR a R) (e : ∀ x, x < 65 → b x = a x) : mR b R := by
  obtain ⟨n, kk, cw, c0, pi, h0, h2, h3, h5, hA, hpi, hrk⟩ := h
  exact ⟨n, kk, cw, c0, pi, h0, h2, h3, h5, hA.ext e, hpi, hrk⟩
def psOK (ps : Nat → Int32) (f0 hn : Nat) (hd : Nat → RD) : Prop := f0 < 6 ∧ hn ≤ 6 ∧ ∀ i, i < hn → mR (fun x => ps (65 * ((f0 + i) % 6) + x)) (hd i)
def hdsOK (hd : Nat → RD) : Prop := ∀ i, i < 6 → (hd i).1 6 = 0 ∨ (hd i).1 6 = 1
def slOK (slr sv : Nat → Int32) (sl : Nat → Option Nat) (sd : Nat → RD) : Prop := ∀ i, i < 2 → (sl i = none ∧ sv i = 0) ∨ (∃ q, sl i = some q ∧ ¬ sv i = 0 ∧ mR (fun x => slr (65 * i + x)) (sd i))
theorem ps_keep {ps a : Nat → Int32} {f0 hn : Nat} {hd : Nat → RD} {R : RD} (h : psOK ps f0 hn hd) (hR : mR a R) : psOK (kpP true ps f0 hn a) (kpF true f0 hn) (kpM true hn) (recD hn hd R) := by
  obtain ⟨hf, hh, hp⟩ := h
  by_cases h6 : hn < 6
  · obtain ⟨e1, e2, e3⟩ := kp_tn (f0 := f0) (ps := ps) (a := a) h6
    rw [e1, e2, e3]
    refine ⟨hf, by omega, fun i hi => ?_⟩
    rw [recD, if_pos h6]
    by_cases e : i = hn
    · subst e
      rw [va_up_self]
      exact hR.ext (fun x hx => blkA_in hx)
    · rw [va_up_ne _ _ e]
      exact (hp i (by omega)).ext (fun x hx => blkA_out hx (by omega))
  · have e6 : hn = 6 := by omega
    subst e6
    obtain ⟨e1, e2, e3⟩ := kp_t6 (f0 := f0) (ps := ps) (a := a)
    rw [e1, e2, e3]
    refine ⟨by omega, by omega, fun i hi => ?_⟩
    rw [recD, if_neg (by omega)]
    by_cases e : i = 5
    · subst e
      rw [va_up_self]
      exact hR.ext (fun x hx => blkA_in hx)
    · rw [va_up_ne _ _ e, rotB, if_neg e]
      refine (hp (i + 1) (by omega)).ext (fun x hx => ?_)
      have h9 := blkA_out (ps := ps) (pl := ((f0 + 1) % 6 + (6 - 1)) % 6) (pl2 := ((f0 + 1) % 6 + i) % 6) (a := a) hx (by omega)
      rw [h9, show ((f0 + 1) % 6 + i) % 6 = (f0 + (i + 1)) % 6 by omega]
theorem hds_keep {hd : Nat → RD} {hn : Nat} {R : RD} (h : hdsOK hd) (hR : R.1 6 = 0 ∨ R.1 6 = 1) : hdsOK (recD hn hd R) := fun i hi => by
  unfold recD
  split
  · by_cases e : i = hn
    · subst e; rw [va_up_self]; exact hR
    · rw [va_up_ne _ _ e]; exact h i hi
  · by_cases e : i = 5
    · subst e; rw [va_up_self]; exact hR
    · rw [va_up_ne _ _ e, rotB, if_neg e]; exact h (i + 1) (by omega)
theorem ps_undo {ps : Nat → Int32} {f0 hn : Nat} {hd : Nat → RD} (h : psOK ps f0 hn hd) (h0 : 0 < hn) : psOK ps f0 (hn - 1) hd ∧ mR (fun x => ps (65 * ((f0 + (hn - 1)) % 6) + x)) (hd (hn - 1)) :=
  ⟨⟨h.1, by have := h.2.1; omega, fun i hi => h.2.2 i (by omega)⟩, h.2.2 (hn - 1) (by omega)⟩
theorem isCl_same {z : Nat} {cI cP cR : ClassId} {N : Nat} {F F2 : Nat → va_E} {T : RD} {hn : Nat} {hb : Nat → Nat} {hd : Nat → RD} {sl : Nat → Option Nat} {sd : Nat → RD} {len : Nat} {pa : Nat → Int32} (h : isCl z cI cP cR N F T hn hb hd sl sd len pa) (f : ∀ q, q < 123 ∨ 132 ≤ q → F2 q = F q) : isCl z cI cP cR N F2 T hn hb hd sl sd len pa := by
  obtain ⟨hT, hTr, hH, hn6, hB, hD, hPd, hlen, ⟨pt, hdd, nu, hRe⟩, ⟨wy, so, hOd⟩, hN, hslb, hS, hdis⟩ := h
  exact ⟨hT.same (f 0 (by omega)) (f 29 (by omega)), hTr.same (fun q _ _ => f q (by omega)), hH.same (fun q _ _ => f q (by omega)), hn6, hB, fun i hi => (hD i hi).same (fun q _ _ => f q (by have := (hB i hi).1; omega)), hPd.same (fun q _ _ => f q (by omega)), hlen, ⟨pt, hdd, nu, hRe.same (fun q _ _ => f q (by omega))⟩, ⟨wy, so, hOd.same (fun q _ _ => f q (by omega))⟩, hN, hslb, fun i hi q hq => (hS i hi q hq).same (fun x _ _ => f x (by have := hslb i hi q hq; omega)), hdis⟩
def LI (z : Nat) (cI cZ cP cR : ClassId) (kq : Nat) (F : Nat → va_E) : Prop := ∃ (n kk cw c0 : Nat) (wi rl sp : Int32) (pd : PD) (bs od : Nat → Int32) (pi : Nat → Nat) (T : RD) (hn : Nat) (hb : Nat → Nat) (hd : Nat → RD) (sl : Nat → Option Nat) (sd : Nat → RD) (len : Nat) (pa : Nat → Int32) (f0 : Nat) (spt wrg rd : Int32) (a ps slr sv sda wy pa2 nu : Nat → Int32) (cd : Nat → Nat),
  isRec z cI cP F 1 (nI n) wi (nI kk) (nI cw) rl (nI c0) sp pd bs od ∧ isCl z cI cP cR (132 + 14 * kq) F T hn hb hd sl sd len pa ∧ isMod z cI cZ F 123 (nI f0) (nI hn) (nI len) spt wrg rd a ps slr sv sda wy pa2 nu ∧ mA a n kk cw c0 wi rl sp pd od ∧ piOK bs pi n ∧ rkPi (fun i => swF wi (pd i)) n pi ∧ psOK ps f0 hn hd ∧ hdsOK hd ∧ slOK slr sv sl sd ∧ cdOK pa cd len ∧ cdOK pa2 cd len
section LIM
variable {z : Nat} {cI cZ cP cR : ClassId} {kq : Nat} {F : Nat → va_E} {n kk cw c0 : Nat} {wi rl sp : Int32} {pd : PD} {bs od : Nat → Int32} {pi : Nat → Nat} {T : RD} {hn : Nat} {hb : Nat → Nat} {hd : Nat → RD} {sl : Nat → Option Nat} {sd : Nat → RD} {len : Nat} {pa : Nat → Int32} {f0 : Nat} {spt wrg rd : Int32} {a ps slr sv sda wy pa2 nu : Nat → Int32} {cd : Nat → Nat}
theorem LI.mk (hR : isRec z cI cP F 1 (nI n) wi (nI kk) (nI cw) rl (nI c0) sp pd bs od) (hC : isCl z cI cP cR (132 + 14 * kq) F T hn hb hd sl sd len pa) (hM : isMod z cI cZ F 123 (nI f0) (nI hn) (nI len) spt wrg rd a ps slr sv sda wy pa2 nu) (hA : mA a n kk cw c0 wi rl sp pd od) (hpi : piOK bs pi n) (hrk : rkPi (fun i => swF wi (pd i)) n pi) (hps : psOK ps f0 hn hd) (hds : hdsOK hd) (hsl : slOK slr sv sl sd) (hcd : cdOK pa cd len) (hcd2 : cdOK pa2 cd len) : LI z cI cZ cP cR kq F :=
  ⟨n, kk, cw, c0, wi, rl, sp, pd, bs, od, pi, T, hn, hb, hd, sl, sd, len, pa, f0, spt, wrg, rd, a, ps, slr, sv, sda, wy, pa2, nu, cd, hR, hC, hM, hA, hpi, hrk, hps, hds, hsl, hcd, hcd2⟩
theorem LI.mkD {R : RD} (hR : isRecD z cI cP F 1 R) (hC : isCl z cI cP cR (132 + 14 * kq) F T hn hb hd sl sd len pa) (hM : isMod z cI cZ F 123 (nI f0) (nI hn) (nI len) spt wrg rd a ps slr sv sda wy pa2 nu) (hm : mR a R) (hps : psOK ps f0 hn hd) (hds : hdsOK hd) (hsl : slOK slr sv sl sd) (hcd : cdOK pa cd len) (hcd2 : cdOK pa2 cd len) : LI z cI cZ cP cR kq F := by
  obtain ⟨n, kk, cw, c0, pi, h0, h2, h3, h5, hA, hpi, hrk⟩ := hm
  have h := hR
  unfold isRecD at h
  rw [h0, h2, h3, h5] at h
  exact LI.mk h hC hM hA hpi hrk hps hds hsl hcd hcd2
end LIM
theorem kpM_eq (hn : Nat) : kpM true hn = if hn < 6 then hn + 1 else 6 := by rw [kpM, if_pos rfl]
theorem flt_eq {cd : Nat → Nat} {len : Nat} (nu : Nat → Int32) : opI (fltG cd len len 0 rs0) = ftI (FTG cd len nu) := by
  obtain ⟨h1, h2⟩ := text_eq (cd := cd) (len := len) (kk := 0) (cw := 0) nu
  rw [ftI]
  cases hw : (FTG cd len nu).1.2.1 with
  | true => rw [h1 hw, if_pos rfl]; rfl
  | false => rw [(h2 hw).1, if_neg (by decide)]; rfl
theorem ptA_cd {pa : Nat → Int32} {cd : Nat → Nat} {len X : Nat} (h : cdOK pa cd len) (hm : ¬ chN X = 0) : cdOK (ptA pa len X (chN X) (chN X)) (fun x => if len ≤ x then byN X (chN X - 1 - (x - len)) else cd x) (len + chN X) := fun x hx => by
  obtain ⟨-, -, -, hp⟩ := chN_pos hm
  by_cases hl : len ≤ x
  · dsimp only
    rw [ptA, if_pos ⟨hl, hx⟩, if_pos hl]
    have := hp (chN X - 1 - (x - len)) (by omega)
    exact ⟨rfl, by omega⟩
  · dsimp only
    rw [ptA, if_neg (fun q => hl q.1), if_neg hl]
    exact h x (by omega)
theorem efF_in {x a b : Int32} {n cw : Nat} {pd : PD} (h : efF x a b (nI n) pd cw = 0) : inP x (nI n) = true := by
  cases hq : inP x (nI n) with
  | true => rfl
  | false => rw [efF, if_pos hq] at h; exact absurd h (by decide)
theorem rk_nats {x y w : Int32} (h : (inB x 1 20 && inB y 0 x && inB w 1 x) = true) : ∃ p c d : Nat, x = nI p ∧ y = nI c ∧ w = nI d ∧ 1 ≤ p ∧ p ≤ 20 ∧ c ≤ p ∧ 1 ≤ d ∧ d ≤ p := by
  simp only [Bool.and_eq_true] at h
  obtain ⟨⟨h1, h2⟩, h3⟩ := h
  have l1 : ∀ {u : Int32}, (1 : Int32) ≤ u → (0 : Int32) ≤ u := fun q => Int32.le_trans (by decide) q
  have g1 : (1 : Int32) ≤ x ∧ x ≤ 20 := by simpa [inB] using h1
  have g3 : (1 : Int32) ≤ w ∧ w ≤ x := by simpa [inB] using h3
  obtain ⟨p, hp, rfl⟩ := nI_of (Int32.not_lt.mpr (l1 g1.1))
  obtain ⟨c, hc, rfl⟩ := nI_of (inB_ok h2).1
  obtain ⟨d, hd, rfl⟩ := nI_of (Int32.not_lt.mpr (l1 g3.1))
  have p1 := (nI_leI (a := 1) (by decide) hp).mp g1.1
  have p2 := (nI_leI (b := 20) hp (by decide)).mp g1.2
  have c1 := Nat.not_lt.mp (fun q => (inB_ok h2).2 ((nI_ltI hp hc).mpr q))
  have d1 := (nI_leI (a := 1) (by decide) hd).mp g3.1
  have d2 := (nI_leI hd hp).mp g3.2
  exact ⟨p, c, d, rfl, rfl, rfl, p1, p2, c1, d1, d2⟩
theorem sl_save {slr sv a : Nat → Int32} {sl sl2 : Nat → Option Nat} {sd : Nat → RD} {v q : Nat} {R : RD} (h : slOK slr sv sl sd) (hv : v < 2) (h1 : sl2 v = some q) (h2 : ∀ i, i ≠ v → sl2 i = sl i) (hR : mR a R) : slOK (blkA slr v a 65) (upd sv v 1) sl2 (sdU sd v R) := fun i hi => by
  by_cases e : i = v
  · subst e
    exact Or.inr ⟨q, h1, by rw [pk_us]; decide, by rw [sdU, va_up_self]; exact hR.ext (fun x hx => blkA_in hx)⟩
  · rw [h2 i e, pk_un e, sdU, va_up_ne _ _ e]
    rcases h i hi with h3 | ⟨q2, g1, g2, g3⟩
    · exact Or.inl h3
    · exact Or.inr ⟨q2, g1, g2, g3.ext (fun x hx => blkA_out hx e)⟩
theorem mR_cp {a : Nat → Int32} {R : RD} (h : mR a R) : R.1 2 = a 4 := by
  obtain ⟨n, kk, cw, c0, pi, h0, h2, h3, h5, hA, hpi, hrk⟩ := h
  rw [h2, hA.2.2.2.2.1]
theorem mR_sp {a : Nat → Int32} {R : RD} (h : mR a R) : R.1 6 = 0 ∨ R.1 6 = 1 := by
  obtain ⟨n, kk, cw, c0, pi, h0, h2, h3, h5, hA, hpi, hrk⟩ := h
  exact hA.2.2.2.2.2.2.2.2.2.2.2.2.1
theorem su_n {wi : Int32} {pd : PD} {pi : Nat → Nat} {n cw : Nat} {lead : Int32} (hrk : rkPi (fun i => swF wi (pd i)) n pi) (hn : n ≤ 10) (h : ndR (fun i => swF wi (pd i)) pi n cw lead = none) : (-6 : Int32) = opI (wkR (fun i => swF wi (pd i)) pi n cw lead) := by
  rw [ndR_wk hrk hn] at h
  cases hq : wkR (fun i => swF wi (pd i)) pi n cw lead with
  | none => rfl
  | some x => rw [hq] at h; cases h
theorem su_s {wi : Int32} {pd : PD} {pi : Nat → Nat} {n cw mm : Nat} {lead : Int32} (hrk : rkPi (fun i => swF wi (pd i)) n pi) (hn : n ≤ 10) (h : ndR (fun i => swF wi (pd i)) pi n cw lead = some mm) : nI (gsG pi cw n 0 mm 0) = opI (wkR (fun i => swF wi (pd i)) pi n cw lead) := by
  rw [ndR_wk hrk hn] at h
  cases hq : wkR (fun i => swF wi (pd i)) pi n cw lead with
  | none => rw [hq] at h; cases h
  | some x =>
    rw [hq, Option.map_some] at h
    have e : cntB x 10 = mm := Option.some.inj h
    rw [← e, gs_wkR hrk hn hq]
    rfl
theorem law_in : ∀ L, L < 2049 → (nI L - 4).toInt = (L : Int) - 4 := by decide +kernel
theorem law_lt {L i : Nat} (hL : L ≤ 2048) (hi : i ≤ 2051) (h : ¬ nI L - 4 < nI i) : i + 4 ≤ L := by
  have h1 := law_in L (by omega)
  have h2 : (nI i).toInt = i := nI_toInt (by omega)
  by_cases e : i + 4 ≤ L
  · exact e
  · exfalso
    apply h
    rw [Int32.lt_iff_toInt_lt, h1, h2]
    omega
section GXL
variable {p : Program} {l : Launch} {e : Env} {R : Room} {s : State} {m : MethodId} {args : Array Value} {below : List Frame} {meth : Method} {c : Code} {nL z : Nat} {D : va_G} {Q : State → Prop} {N : Nat} {F : Nat → va_E} {cells slots : Nat} {L : List (Nat × Value)} {pc : Nat} {st : List Value} {own : String} {cc : ByteArray} {Ts : List Cond} {cI cZ cP cR : ClassId}
theorem x_sld (C : gC p s m args c own cc nL Ts z D cI cZ cP cR) {b n j : Nat} {xs : Nat → Int32} (hX : va_X b n xs s s.heap) (hb : b < s.heap.size) (hz : z = s.heap.size) (hj : j < n) (hn : n ≤ 2048) (hdg : decode cc pc = .ok (.iaload, 1)) (kk : gX p l e R s m args below meth c nL z D Q N F cells slots L (pc + 1) (.int (xs j) :: st)) : gX p l e R s m args below meth c nL z D Q N F cells slots L pc (.int (nI j) :: .ref b :: st) := fun H locs ls hE hS hL => by
  have hk := kk H locs ls hE hS hL
  have ej : (nI j).toNatClampNeg = j := nI_clamp (by omega)
  refine va_sld C.1 C.2.1 hX hb (A := gA z) (by rw [hz]; exact Nat.not_le.mpr hb) hS (i := nI j) ?_ hdg ?_
  · rintro (h | h)
    · exact nI_nn (by omega) h
    · rw [ej] at h; omega
  · rw [ej]; exact hk
theorem x_slen (C : gC p s m args c own cc nL Ts z D cI cZ cP cR) {b n : Nat} {xs : Nat → Int32} (hX : va_X b n xs s s.heap) (hb : b < s.heap.size) (hz : z = s.heap.size) (hdg : decode cc pc = .ok (.arraylength, 1)) (kk : gX p l e R s m args below meth c nL z D Q N F cells slots L (pc + 1) (.int (nI n) :: st)) : gX p l e R s m args below meth c nL z D Q N F cells slots L pc (.ref b :: st) := fun H locs ls hE hS hL => by
  have hk := kk H locs ls hE hS hL
  exact va_slen C.1 C.2.1 hX hb (A := gA z) (by rw [hz]; exact Nat.not_le.mpr hb) hS hdg hk
theorem x_eqSt {st2 : List Value} (h : st = st2) (k : gX p l e R s m args below meth c nL z D Q N F cells slots L pc st2) : gX p l e R s m args below meth c nL z D Q N F cells slots L pc st := h ▸ k
end GXL
