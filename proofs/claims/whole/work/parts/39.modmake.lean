abbrev PD : Type := Nat → Nat → Int32
def pd1 (nu : Nat → Int32) (j n : Nat) (pd : PD) : PD := va_up pd n (pileD (nu (6 * j)) (nu (6 * j + 1)) (nu (6 * j + 2)))
def mkS (nu : Nat → Int32) (kk cw j n : Nat) (pd : PD) : Bool × Nat × PD :=
  if ¬ epF (nu (6 * j)) (nu (6 * j + 1)) (nu (6 * j + 2)) n (nI kk) = 0 then (false, n, pd) else
  if nu (6 * j + 3) = 0 then (true, n + 1, pd1 nu j n pd) else
  if ¬ efF (nI n) (nu (6 * j + 4)) (nu (6 * j + 5)) (nI (n + 1)) (pd1 nu j n pd) cw = 0 then (false, n + 1, pd1 nu j n pd) else
  (true, n + 1, pdSet (pdSet (pd1 nu j n pd) n 3 (nu (6 * j + 4))) n 4 (nu (6 * j + 5)))
def mkM (nu : Nat → Int32) (kk cw : Nat) : Nat → Nat → Nat → PD → Nat × Nat × PD
  | 0, j, n, pd => (j, n, pd)
  | f + 1, j, n, pd => if (mkS nu kk cw j n pd).1 = true then mkM nu kk cw f (j + 1) (mkS nu kk cw j n pd).2.1 (mkS nu kk cw j n pd).2.2 else (j, (mkS nu kk cw j n pd).2.1, (mkS nu kk cw j n pd).2.2)
theorem epF_neg {a b c : Int32} {n : Nat} {cp : Int32} (h : ¬ epF a b c n cp = 0) : epF a b c n cp < 0 := by
  unfold epF at h ⊢
  split
  · decide
  · rename_i h1
    rw [if_neg h1] at h
    split
    · decide
    · rename_i h2
      rw [if_neg h2] at h
      split
      · decide
      · rename_i h3
        rw [if_neg h3] at h; exact absurd rfl h
theorem efF_neg {x a b pl : Int32} {pd : PD} {cw : Nat} (h : ¬ efF x a b pl pd cw = 0) : efF x a b pl pd cw < 0 := by
  unfold efF at h ⊢
  split
  · decide
  · rename_i h1
    rw [if_neg h1] at h
    split
    · decide
    · rename_i h2
      rw [if_neg h2] at h
      split
      · decide
      · rename_i h3
        rw [if_neg h3] at h; exact absurd rfl h
theorem inB_of {x : Int32} {m : Nat} (hm : m < 2 ^ 30) (h : inB x 0 (nI m) = true) : ∃ a, a ≤ m ∧ x = nI a := by
  have h2 := inB_ok h
  obtain ⟨a, ha, rfl⟩ := nI_of h2.1
  exact ⟨a, Nat.not_lt.mp fun q => h2.2 ((nI_ltI (by omega) ha).mpr q), rfl⟩
theorem mo_pos {u v b x y : Int32} (h1 : inB u 0 200 = true) (h2 : inB v 0 200 = true) (h3 : inB b 0 200 = true) (h4 : inB x 0 (u + v + b) = true) (h5 : inB y 0 (u + v + b - x) = true) : ¬ 100000 + ((x - y) - (u - v)) < 0 := by
  obtain ⟨u, hu, rfl⟩ := inB_of (m := 200) (by decide) h1
  obtain ⟨v, hv, rfl⟩ := inB_of (m := 200) (by decide) h2
  obtain ⟨b, hb, rfl⟩ := inB_of (m := 200) (by decide) h3
  rw [nI_add, nI_add] at h4 h5
  obtain ⟨x, hx, rfl⟩ := inB_of (by omega) h4
  rw [pk_sub hx] at h5
  obtain ⟨y, hy, rfl⟩ := inB_of (by omega) h5
  have e : nI (100000 + x + v - y - u) + nI y + nI u = nI 100000 + nI x + nI v := by
    rw [nI_add, nI_add, nI_add, nI_add, show 100000 + x + v - y - u + y + u = 100000 + x + v by omega]
  have e3 : nI 100000 = (100000 : Int32) := by decide
  rw [e3] at e
  have e2 : (100000 : Int32) + ((nI x - nI y) - (nI u - nI v)) = nI (100000 + x + v - y - u) := by grind
  rw [e2]
  exact nI_nn (by omega)
theorem mA_wi {a : Nat → Int32} {n kk cw c0 : Nat} {wi rl sp : Int32} {pd : Nat → Nat → Int32} {od : Nat → Int32} (h : mA a n kk cw c0 wi rl sp pd od) : wi = winF pd n := h.2.2.2.2.2.2.2.2.2.2.2.2.2.2.1
theorem fl_X7_makeOne_32 : Cond.fieldLink RX7 32 "PileRecountModel" "numbers" "[I" ∈ wsX7_makeOne := by decide +kernel
theorem hn_X7_makeOne_X7 : ∀ w ∈ wsX70, w ∈ wsX7_makeOne := fun _ h => List.mem_cons_of_mem _ (List.mem_append_right _ h)
set_option maxHeartbeats 4000000 in
set_option maxRecDepth 100000 in
theorem c_X7_makeOne (l : Launch) (D : va_G) (z : Nat) (cI cZ cP cR : ClassId) (N : Nat) (F : Nat → va_E) (k f0 hm : Nat) (pn spt wrg rd : Int32) (a ps sl sv sd wy pa nu : Nat → Int32) (n kk cw c0 : Nat) (wi rl sp : Int32) (pd : Nat → Nat → Int32) (od : Nat → Int32) (j : Nat) (hM : isMod z cI cZ F k (nI f0) (nI hm) pn spt wrg rd a ps sl sv sd wy pa nu) (hk : k + 9 ≤ N) (hf0 : f0 < 6) (hm6 : hm ≤ 6) (hA : mA a n kk cw c0 wi rl sp pd od) (hj : j ≤ 21) : gMi l yX7_makeOne wsX7_makeOne ({ frames := 3, cells := 0, slots := 0, locals := 68 }) D z cI cZ cP cR N F [.ref (z + k), .int (nI j)] (fun (r : Int32) (N2 : Nat) (F2 : Nat → va_E) => N2 = N ∧ (((mkS nu kk cw j n pd).1 = true → ¬ r < 0) ∧ ((mkS nu kk cw j n pd).1 = false → r < 0)) ∧ ∃ a2 : Nat → Int32, isMod z cI cZ F2 k (nI f0) (nI hm) pn spt wrg rd a2 ps sl sv sd wy pa nu ∧ mA a2 (mkS nu kk cw j n pd).2.1 kk cw c0 (winF (mkS nu kk cw j n pd).2.2 (mkS nu kk cw j n pd).2.1) rl sp (mkS nu kk cw j n pd).2.2 od ∧ gFr k (k + 9) F F2) 0 0 := by
  refine gMi.of (cc := cX7_makeOne) (maxL := 4) (ret := (some .int)) (by decide) rfl (Nat.le_of_ble_eq_true rfl) [(0, .ref (z + k)), (1, .int (nI j))] rfl ?_
  intro pg ev sg mg bel me cg C hR0
  obtain ⟨ha0, ha1, ha2, ha3, ha4, hpd, hpl, hn, hkk, hcw, hcnt, hc0, hsp, hrl, hwi, hod⟩ := id hA
  have h2n := two_lt hn
  refine x_bipush C (pc := 0) (v := 6) dX7_makeOne_0 (by decide) ?_
  refine x_iload_n C (pc := 2) 1 dX7_makeOne_2 rfl ?_
  refine x_imul C (pc := 3) (v := nI (6 * j)) dX7_makeOne_3 (pk_mul 6 j) ?_
  refine x_istore_n C (pc := 4) [(2, .int (nI (6 * j))), (0, .ref (z + k)), (1, .int (nI j))] dX7_makeOne_4 (by decide) rfl ?_
  refine x_aload_n C (pc := 5) 1 dX7_makeOne_5 rfl ?_
  refine x_aload_n C (pc := 6) 1 dX7_makeOne_6 rfl ?_
  refine x_get C (pc := 7) (q := k) (v := .ref (z + (k + 8))) (ci := 7) rfl hn_X7_makeOne_X7 13 (by decide) fl_X7_makeOne_32 rfl (by omega) hM.ob rfl dX7_makeOne_7 ?_
  refine x_iload_n C (pc := 10) 0 dX7_makeOne_10 rfl ?_
  refine x_ialdE C (pc := 11) (q := k + 8) (j := 6 * j) (f := nu) (by omega) hM.nu rfl (by omega) (by decide) dX7_makeOne_11 ?_
  refine x_aload_n C (pc := 12) 1 dX7_makeOne_12 rfl ?_
  refine x_get C (pc := 13) (q := k) (v := .ref (z + (k + 8))) (ci := 7) rfl hn_X7_makeOne_X7 13 (by decide) fl_X7_makeOne_32 rfl (by omega) hM.ob rfl dX7_makeOne_13 ?_
  refine x_iload_n C (pc := 16) 0 dX7_makeOne_16 rfl ?_
  refine x_iconst C (pc := 17) (v := 1) dX7_makeOne_17 (by decide) ?_
  refine x_iadd C (pc := 18) (v := nI (6 * j + 1)) dX7_makeOne_18 (nI_add (6 * j) 1) ?_
  refine x_ialdE C (pc := 19) (q := k + 8) (j := 6 * j + 1) (f := nu) (by omega) hM.nu rfl (by omega) (by decide) dX7_makeOne_19 ?_
  refine x_aload_n C (pc := 20) 1 dX7_makeOne_20 rfl ?_
  refine x_get C (pc := 21) (q := k) (v := .ref (z + (k + 8))) (ci := 7) rfl hn_X7_makeOne_X7 13 (by decide) fl_X7_makeOne_32 rfl (by omega) hM.ob rfl dX7_makeOne_21 ?_
  refine x_iload_n C (pc := 24) 0 dX7_makeOne_24 rfl ?_
  refine x_iconst C (pc := 25) (v := 2) dX7_makeOne_25 (by decide) ?_
  refine x_iadd C (pc := 26) (v := nI (6 * j + 2)) dX7_makeOne_26 (nI_add (6 * j) 2) ?_
  refine x_ialdE C (pc := 27) (q := k + 8) (j := 6 * j + 2) (f := nu) (by omega) hM.nu rfl (by omega) (by decide) dX7_makeOne_27 ?_
  refine x_iconst C (pc := 28) (v := 0) dX7_makeOne_28 (by decide) ?_
  by_cases he : epF (nu (6 * j)) (nu (6 * j + 1)) (nu (6 * j + 2)) n (nI kk) = 0
  · refine x_cViE C (pc := 29) (st := []) (c_X7_tryPile_s l D z cI cZ cP cR N F k f0 hm pn spt wrg rd a ps sl sv sd wy pa nu n kk cw c0 wi rl sp pd od (nu (6 * j)) (nu (6 * j + 1)) (nu (6 * j + 2)) false hM (by omega) (by omega) (by omega) hA he) (cwV 4 C.2.2.2.2.1 gX7_makeOne_X7_tryPile rfl rfl rfl hd_X7_tryPile ⟨Nat.le_of_ble_eq_true rfl, Nat.le_of_ble_eq_true rfl⟩) (by omega) hM.ob rfl rfl rfl (Nat.le_of_ble_eq_true rfl) dX7_makeOne_29 ⟨Nat.le_of_ble_eq_true rfl, Nat.le_of_ble_eq_true rfl⟩ (fun F_29 h_29 => ?_)
    obtain ⟨a_29, hM_29, hA_29, fr_29⟩ := h_29
    have kp_29 := kp_lt false (f0 := f0) (hm := hm) (by omega) (by omega)
    have hM_29r : isMod z cI cZ F_29 k (nI f0) (nI hm) pn spt wrg rd a_29 ps sl sv sd wy pa nu := hM_29
    refine x_istore_n C (pc := 32) [(3, .int (nI n)), (2, .int (nI (6 * j))), (0, .ref (z + k)), (1, .int (nI j))] dX7_makeOne_32 (by decide) rfl ?_
    refine x_iload_n C (pc := 33) 0 dX7_makeOne_33 rfl ?_
    refine x_ifN_lt C (a := n) (pc := 34) (tgt := 48) (by omega) dX7_makeOne_34 (by decide) (fun c_34 => absurd c_34 (by omega)) (fun c_34 => ?_)
    refine x_aload_n C (pc := 37) 2 dX7_makeOne_37 rfl ?_
    refine x_get C (pc := 38) (q := k) (v := .ref (z + (k + 8))) (ci := 7) rfl hn_X7_makeOne_X7 13 (by decide) fl_X7_makeOne_32 rfl (by omega) hM_29r.ob rfl dX7_makeOne_38 ?_
    refine x_iload_n C (pc := 41) 1 dX7_makeOne_41 rfl ?_
    refine x_iconst C (pc := 42) (v := 3) dX7_makeOne_42 (by decide) ?_
    refine x_iadd C (pc := 43) (v := nI (6 * j + 3)) dX7_makeOne_43 (nI_add (6 * j) 3) ?_
    refine x_ialdE C (pc := 44) (q := k + 8) (j := 6 * j + 3) (f := nu) (by omega) hM_29r.nu rfl (by omega) (by decide) dX7_makeOne_44 ?_
    refine x_if_ne C (pc := 45) (tgt := 52) dX7_makeOne_45 (by decide) (fun c_45 => ?_) (fun c_45 => ?_)
    · refine x_aload_n C (pc := 52) 2 dX7_makeOne_52 rfl ?_
      refine x_iload_n C (pc := 53) 0 dX7_makeOne_53 rfl ?_
      refine x_aload_n C (pc := 54) 2 dX7_makeOne_54 rfl ?_
      refine x_get C (pc := 55) (q := k) (v := .ref (z + (k + 8))) (ci := 7) rfl hn_X7_makeOne_X7 13 (by decide) fl_X7_makeOne_32 rfl (by omega) hM_29r.ob rfl dX7_makeOne_55 ?_
      refine x_iload_n C (pc := 58) 1 dX7_makeOne_58 rfl ?_
      refine x_iconst C (pc := 59) (v := 4) dX7_makeOne_59 (by decide) ?_
      refine x_iadd C (pc := 60) (v := nI (6 * j + 4)) dX7_makeOne_60 (nI_add (6 * j) 4) ?_
      refine x_ialdE C (pc := 61) (q := k + 8) (j := 6 * j + 4) (f := nu) (by omega) hM_29r.nu rfl (by omega) (by decide) dX7_makeOne_61 ?_
      refine x_aload_n C (pc := 62) 2 dX7_makeOne_62 rfl ?_
      refine x_get C (pc := 63) (q := k) (v := .ref (z + (k + 8))) (ci := 7) rfl hn_X7_makeOne_X7 13 (by decide) fl_X7_makeOne_32 rfl (by omega) hM_29r.ob rfl dX7_makeOne_63 ?_
      refine x_iload_n C (pc := 66) 1 dX7_makeOne_66 rfl ?_
      refine x_iconst C (pc := 67) (v := 5) dX7_makeOne_67 (by decide) ?_
      refine x_iadd C (pc := 68) (v := nI (6 * j + 5)) dX7_makeOne_68 (nI_add (6 * j) 5) ?_
      refine x_ialdE C (pc := 69) (q := k + 8) (j := 6 * j + 5) (f := nu) (by omega) hM_29r.nu rfl (by omega) (by decide) dX7_makeOne_69 ?_
      refine x_iconst C (pc := 70) (v := 0) dX7_makeOne_70 (by decide) ?_
      by_cases hf : efF (nI n) (nu (6 * j + 4)) (nu (6 * j + 5)) (nI (n + 1)) (pd1 nu j n pd) cw = 0
      · obtain ⟨g1, g2, g3, g4, g5⟩ := epF_0 hn hkk he
        have hpos : ¬ 100000 + (((nu (6 * j + 4)) - (nu (6 * j + 5))) - ((pd1 nu j n pd) n 0 - (pd1 nu j n pd) n 1)) < 0 := by
          obtain ⟨i1, i2, i3, i4⟩ := efF_0 (n := n + 1) (by omega) (by omega) hf
          rw [pd1, va_up_self] at i2 i3 ⊢
          exact mo_pos g1 g2 g3 i2 i3
        refine x_cViE C (pc := 71) (st := []) (c_X7_tryFinds_s l D z cI cZ cP cR N F_29 k f0 hm pn spt wrg rd a_29 ps sl sv sd wy pa nu (n + 1) kk cw c0 (winF (va_up pd n (pileD (nu (6 * j)) (nu (6 * j + 1)) (nu (6 * j + 2)))) (n + 1)) rl sp (va_up pd n (pileD (nu (6 * j)) (nu (6 * j + 1)) (nu (6 * j + 2)))) od n (nu (6 * j + 4)) (nu (6 * j + 5)) false hM_29r (by omega) (by omega) (by omega) hA_29 hf (by omega)) (cwV 4 C.2.2.2.2.1 gX7_makeOne_X7_tryFinds rfl rfl rfl hd_X7_tryFinds ⟨Nat.le_of_ble_eq_true rfl, Nat.le_of_ble_eq_true rfl⟩) (by omega) hM_29r.ob rfl rfl rfl (Nat.le_of_ble_eq_true rfl) dX7_makeOne_71 ⟨Nat.le_of_ble_eq_true rfl, Nat.le_of_ble_eq_true rfl⟩ (fun F_71 h_71 => ?_)
        obtain ⟨a_71, hM_71, hA_71, fr_71⟩ := h_71
        have kp_71 := kp_lt false (f0 := f0) (hm := hm) (by omega) (by omega)
        have hM_71r : isMod z cI cZ F_71 k (nI f0) (nI hm) pn spt wrg rd a_71 ps sl sv sd wy pa nu := hM_71
        refine x_iret (post := (fun (r : Int32) (N2 : Nat) (F2 : Nat → va_E) => N2 = N ∧ (((mkS nu kk cw j n pd).1 = true → ¬ r < 0) ∧ ((mkS nu kk cw j n pd).1 = false → r < 0)) ∧ ∃ a2 : Nat → Int32, isMod z cI cZ F2 k (nI f0) (nI hm) pn spt wrg rd a2 ps sl sv sd wy pa nu ∧ mA a2 (mkS nu kk cw j n pd).2.1 kk cw c0 (winF (mkS nu kk cw j n pd).2.2 (mkS nu kk cw j n pd).2.1) rl sp (mkS nu kk cw j n pd).2.2 od ∧ gFr k (k + 9) F F2)) C hR0 rfl (Nat.le_of_ble_eq_true rfl) (Nat.le_of_ble_eq_true rfl) ?_ dX7_makeOne_74
        have e : mkS nu kk cw j n pd = (true, n + 1, pdSet (pdSet (pd1 nu j n pd) n 3 (nu (6 * j + 4))) n 4 (nu (6 * j + 5))) := by rw [mkS, if_neg (not_not_intro he), if_neg c_45, if_neg (not_not_intro hf)]
        rw [e]
        exact ⟨rfl, ⟨fun _ => hpos, fun q => (by cases q)⟩, _, hM_71r, (by have h9 := hA_71; rw [mA_wi h9] at h9; exact h9), (gFr.t2 fr_29 fr_71)⟩
      refine x_cViR C (pc := 71) (st := []) (c_X7_tryFinds_e l D z cI cZ cP cR N F_29 k f0 hm pn spt wrg rd a_29 ps sl sv sd wy pa nu (n + 1) kk cw c0 (winF (va_up pd n (pileD (nu (6 * j)) (nu (6 * j + 1)) (nu (6 * j + 2)))) (n + 1)) rl sp (va_up pd n (pileD (nu (6 * j)) (nu (6 * j + 1)) (nu (6 * j + 2)))) od (nI n) (nu (6 * j + 4)) (nu (6 * j + 5)) false hM_29r (by omega) (by omega) (by omega) hA_29 hf) (cwV 4 C.2.2.2.2.1 gX7_makeOne_X7_tryFinds rfl rfl rfl hd_X7_tryFinds ⟨Nat.le_of_ble_eq_true rfl, Nat.le_of_ble_eq_true rfl⟩) (by omega) hM_29r.ob rfl rfl rfl (Nat.le_of_ble_eq_true rfl) dX7_makeOne_71 ⟨Nat.le_of_ble_eq_true rfl, Nat.le_of_ble_eq_true rfl⟩ ?_
      refine x_iret (post := (fun (r : Int32) (N2 : Nat) (F2 : Nat → va_E) => N2 = N ∧ (((mkS nu kk cw j n pd).1 = true → ¬ r < 0) ∧ ((mkS nu kk cw j n pd).1 = false → r < 0)) ∧ ∃ a2 : Nat → Int32, isMod z cI cZ F2 k (nI f0) (nI hm) pn spt wrg rd a2 ps sl sv sd wy pa nu ∧ mA a2 (mkS nu kk cw j n pd).2.1 kk cw c0 (winF (mkS nu kk cw j n pd).2.2 (mkS nu kk cw j n pd).2.1) rl sp (mkS nu kk cw j n pd).2.2 od ∧ gFr k (k + 9) F F2)) C hR0 rfl (Nat.le_of_ble_eq_true rfl) (Nat.le_of_ble_eq_true rfl) ?_ dX7_makeOne_74
      have e : mkS nu kk cw j n pd = (false, n + 1, pd1 nu j n pd) := by rw [mkS, if_neg (not_not_intro he), if_neg c_45, if_pos hf]
      rw [e]
      exact ⟨rfl, ⟨fun q => (by cases q), fun _ => efF_neg hf⟩, _, hM_29r, hA_29, fr_29⟩
    refine x_iload_n C (pc := 48) 0 dX7_makeOne_48 rfl ?_
    refine x_goto C (pc := 49) (tgt := 74) dX7_makeOne_49 (by decide) ?_
    refine x_iret (post := (fun (r : Int32) (N2 : Nat) (F2 : Nat → va_E) => N2 = N ∧ (((mkS nu kk cw j n pd).1 = true → ¬ r < 0) ∧ ((mkS nu kk cw j n pd).1 = false → r < 0)) ∧ ∃ a2 : Nat → Int32, isMod z cI cZ F2 k (nI f0) (nI hm) pn spt wrg rd a2 ps sl sv sd wy pa nu ∧ mA a2 (mkS nu kk cw j n pd).2.1 kk cw c0 (winF (mkS nu kk cw j n pd).2.2 (mkS nu kk cw j n pd).2.1) rl sp (mkS nu kk cw j n pd).2.2 od ∧ gFr k (k + 9) F F2)) C hR0 rfl (Nat.le_of_ble_eq_true rfl) (Nat.le_of_ble_eq_true rfl) ?_ dX7_makeOne_74
    have e : mkS nu kk cw j n pd = (true, n + 1, pd1 nu j n pd) := by rw [mkS, if_neg (not_not_intro he), if_pos c_45]
    rw [e]
    exact ⟨rfl, ⟨fun _ => nI_nn (by omega), fun q => by cases q⟩, _, hM_29r, hA_29, fr_29⟩
  refine x_cViR C (pc := 29) (st := []) (c_X7_tryPile_e l D z cI cZ cP cR N F k f0 hm pn spt wrg rd a ps sl sv sd wy pa nu n kk cw c0 wi rl sp pd od (nu (6 * j)) (nu (6 * j + 1)) (nu (6 * j + 2)) false hM (by omega) (by omega) (by omega) hA he) (cwV 4 C.2.2.2.2.1 gX7_makeOne_X7_tryPile rfl rfl rfl hd_X7_tryPile ⟨Nat.le_of_ble_eq_true rfl, Nat.le_of_ble_eq_true rfl⟩) (by omega) hM.ob rfl rfl rfl (Nat.le_of_ble_eq_true rfl) dX7_makeOne_29 ⟨Nat.le_of_ble_eq_true rfl, Nat.le_of_ble_eq_true rfl⟩ ?_
  refine x_istore_n C (pc := 32) [(3, .int (epF (nu (6 * j)) (nu (6 * j + 1)) (nu (6 * j + 2)) n (nI kk))), (2, .int (nI (6 * j))), (0, .ref (z + k)), (1, .int (nI j))] dX7_makeOne_32 (by decide) rfl ?_
  refine x_iload_n C (pc := 33) 0 dX7_makeOne_33 rfl ?_
  refine x_if_lt C (pc := 34) (tgt := 48) dX7_makeOne_34 (by decide) (fun c_34 => ?_) (fun c_34 => absurd c_34 (not_not_intro (epF_neg he)))
  refine x_iload_n C (pc := 48) 0 dX7_makeOne_48 rfl ?_
  refine x_goto C (pc := 49) (tgt := 74) dX7_makeOne_49 (by decide) ?_
  refine x_iret (post := (fun (r : Int32) (N2 : Nat) (F2 : Nat → va_E) => N2 = N ∧ (((mkS nu kk cw j n pd).1 = true → ¬ r < 0) ∧ ((mkS nu kk cw j n pd).1 = false → r < 0)) ∧ ∃ a2 : Nat → Int32, isMod z cI cZ F2 k (nI f0) (nI hm) pn spt wrg rd a2 ps sl sv sd wy pa nu ∧ mA a2 (mkS nu kk cw j n pd).2.1 kk cw c0 (winF (mkS nu kk cw j n pd).2.2 (mkS nu kk cw j n pd).2.1) rl sp (mkS nu kk cw j n pd).2.2 od ∧ gFr k (k + 9) F F2)) C hR0 rfl (Nat.le_of_ble_eq_true rfl) (Nat.le_of_ble_eq_true rfl) ?_ dX7_makeOne_74
  have e : mkS nu kk cw j n pd = (false, n, pd) := if_pos he
  rw [e]
  exact ⟨rfl, ⟨fun q => (by cases q), fun _ => epF_neg he⟩, a, hM, (by have h9 := hA; rw [hwi] at h9; exact h9), gFr.rf⟩
theorem ftI_t {T : PSt × Nat} (h : T.1.2.1 = true) (hl : T.1.1 ≤ 80) : ¬ ftI T < 0 := by
  rw [ftI, if_pos h]; exact nI_nn (by omega)
theorem ftI_f {T : PSt × Nat} (h : T.1.2.1 = false) : ftI T < 0 := by
  rw [ftI, if_neg (by rw [h]; decide)]; decide
set_option maxHeartbeats 4000000 in
set_option maxRecDepth 100000 in
theorem c_X7_make_e (l : Launch) (D : va_G) (z : Nat) (cI cZ cP cR : ClassId) (N : Nat) (F : Nat → va_E) (k f0 hm len : Nat) (spt wrg rd : Int32) (cd : Nat → Nat) (a ps sl sv sd wy pa nu : Nat → Int32) (n kk cw c0 : Nat) (wi rl sp : Int32) (pd : Nat → Nat → Int32) (od : Nat → Int32) (hM : isMod z cI cZ F k (nI f0) (nI hm) (nI len) spt wrg rd a ps sl sv sd wy pa nu) (hk : k + 9 ≤ N) (hf0 : f0 < 6) (hm6 : hm ≤ 6) (hA : mA a n kk cw c0 wi rl sp pd od) (hcd : cdOK pa cd len) (hlen : len ≤ 80) (hw : (FTG cd len nu).1.2.1 = true) : gMi l yX7_make wsX7_make ({ frames := 4, cells := 0, slots := 0, locals := 84 }) D z cI cZ cP cR N F [.ref (z + k)] (gRes (-3) N (fun F2 => ∃ (s2 w2 r2 : Int32) (nu2 : Nat → Int32), isMod z cI cZ F2 k (nI f0) (nI hm) (nI len) s2 w2 r2 a ps sl sv sd wy pa nu2 ∧ gFr k (k + 9) F F2)) 0 0 := by
  refine gMi.of (cc := cX7_make) (maxL := 2) (ret := (some .int)) (by decide) rfl (Nat.le_of_ble_eq_true rfl) [(0, .ref (z + k))] rfl ?_
  intro pg ev sg mg bel me cg C hR0
  obtain ⟨ha0, ha1, ha2, ha3, ha4, hpd, hpl, hn, hkk, hcw, hcnt, hc0, hsp, hrl, hwi, hod⟩ := id hA
  have h2n := two_lt hn
  refine x_aload_n C (pc := 0) 0 dX7_make_0 rfl ?_
  refine x_cViE C (pc := 1) (st := []) (c_X7_fault l D z cI cZ cP cR N F k len (nI f0) (nI hm) spt wrg rd cd a ps sl sv sd wy pa nu hM (by omega) hcd hlen) (cwV 0 C.2.2.2.2.1 gX7_make_X7_fault rfl rfl rfl hd_X7_fault ⟨Nat.le_of_ble_eq_true rfl, Nat.le_of_ble_eq_true rfl⟩) (by omega) hM.ob rfl rfl rfl (Nat.le_of_ble_eq_true rfl) dX7_make_1 ⟨Nat.le_of_ble_eq_true rfl, Nat.le_of_ble_eq_true rfl⟩ (fun F_1 h_1 => ?_)
  obtain ⟨T_1, eT_1, hM_1, hTl_1, hTr_1, fr_1⟩ := h_1
  refine x_if_lt C (pc := 4) (tgt := 10) dX7_make_4 (by decide) (fun c_4 => absurd c_4 (by rw [← eT_1] at hw ⊢; exact ftI_t hw (by omega))) (fun c_4 => ?_)
  refine x_bipush C (pc := 7) (v := (-3)) dX7_make_7 (by decide) ?_
  exact x_iret C hR0 rfl (Nat.le_of_ble_eq_true rfl) (Nat.le_of_ble_eq_true rfl) ⟨rfl, rfl, ⟨_, _, _, _, hM_1, fr_1⟩⟩ dX7_make_9
theorem fl_X7_make_173 : Cond.fieldLink RX7 173 "PileRecountModel" "padMany" "I" ∈ wsX7_make := by decide +kernel
theorem fl_X7_make_200 : Cond.fieldLink RX7 200 "PileRecountModel" "read" "I" ∈ wsX7_make := by decide +kernel
theorem hn_X7_make_X7 : ∀ w ∈ wsX70, w ∈ wsX7_make := fun _ h => List.mem_cons_of_mem _ (List.mem_append_right _ h)
set_option maxHeartbeats 4000000 in
set_option maxRecDepth 100000 in
theorem c_X7_make_s (l : Launch) (D : va_G) (z : Nat) (cI cZ cP cR : ClassId) (N : Nat) (F : Nat → va_E) (k f0 hm len : Nat) (spt wrg rd : Int32) (cd : Nat → Nat) (a ps sl sv sd wy pa nu : Nat → Int32) (n kk cw c0 : Nat) (wi rl sp : Int32) (pd : Nat → Nat → Int32) (od : Nat → Int32) (hM : isMod z cI cZ F k (nI f0) (nI hm) (nI len) spt wrg rd a ps sl sv sd wy pa nu) (hk : k + 9 ≤ N) (hf0 : f0 < 6) (hm6 : hm ≤ 6) (hA : mA a n kk cw c0 wi rl sp pd od) (hcd : cdOK pa cd len) (hlen : len ≤ 80) (hw : (FTG cd len nu).1.2.1 = false) : gMi l yX7_make wsX7_make ({ frames := 4, cells := 0, slots := 0, locals := 91 }) D z cI cZ cP cR N F [.ref (z + k)] (gRes (nI (mkM (FTG cd len nu).1.2.2 kk cw (FTG cd len nu).2 0 n pd).1) N (fun F2 => ∃ (s2 w2 r2 : Int32) (nu2 a2 : Nat → Int32), isMod z cI cZ F2 k (nI (kpF true f0 hm)) (nI (kpM true hm)) 0 s2 w2 r2 a2 (kpP true ps f0 hm a) sl sv sd wy pa nu2 ∧ mA a2 (mkM (FTG cd len nu).1.2.2 kk cw (FTG cd len nu).2 0 n pd).2.1 kk cw c0 (winF (mkM (FTG cd len nu).1.2.2 kk cw (FTG cd len nu).2 0 n pd).2.2 (mkM (FTG cd len nu).1.2.2 kk cw (FTG cd len nu).2 0 n pd).2.1) rl sp (mkM (FTG cd len nu).1.2.2 kk cw (FTG cd len nu).2 0 n pd).2.2 od ∧ gFr k (k + 9) F F2)) 0 0 := by
  refine gMi.of (cc := cX7_make) (maxL := 2) (ret := (some .int)) (by decide) rfl (Nat.le_of_ble_eq_true rfl) [(0, .ref (z + k))] rfl ?_
  intro pg ev sg mg bel me cg C hR0
  obtain ⟨ha0, ha1, ha2, ha3, ha4, hpd, hpl, hn, hkk, hcw, hcnt, hc0, hsp, hrl, hwi, hod⟩ := id hA
  have h2n := two_lt hn
  refine x_aload_n C (pc := 0) 0 dX7_make_0 rfl ?_
  refine x_cViE C (pc := 1) (st := []) (c_X7_fault l D z cI cZ cP cR N F k len (nI f0) (nI hm) spt wrg rd cd a ps sl sv sd wy pa nu hM (by omega) hcd hlen) (cwV 0 C.2.2.2.2.1 gX7_make_X7_fault rfl rfl rfl hd_X7_fault ⟨Nat.le_of_ble_eq_true rfl, Nat.le_of_ble_eq_true rfl⟩) (by omega) hM.ob rfl rfl rfl (Nat.le_of_ble_eq_true rfl) dX7_make_1 ⟨Nat.le_of_ble_eq_true rfl, Nat.le_of_ble_eq_true rfl⟩ (fun F_1 h_1 => ?_)
  obtain ⟨T_1, eT_1, hM_1, hTl_1, hTr_1, fr_1⟩ := h_1
  refine x_if_lt C (pc := 4) (tgt := 10) dX7_make_4 (by decide) (fun c_4 => ?_) (fun c_4 => absurd c_4 (by rw [← eT_1] at hw ⊢; exact not_not_intro (ftI_f hw)))
  refine x_aload_n C (pc := 10) 0 dX7_make_10 rfl ?_
  refine x_cVvE C (pc := 11) (st := []) (c_X7_keep l D z cI cZ cP cR N F_1 k f0 hm (nI len) (nI T_1.1.1) (bz T_1.1.2.1) (nI T_1.2) a ps sl sv sd wy pa T_1.1.2.2   hM_1 (by omega) (by omega) (by omega)  ) (cwV 0 C.2.2.2.2.1 gX7_make_X7_keep rfl rfl rfl hd_X7_keep ⟨Nat.le_of_ble_eq_true rfl, Nat.le_of_ble_eq_true rfl⟩) (by omega) hM_1.ob rfl rfl rfl (Nat.le_of_ble_eq_true rfl) dX7_make_11 ⟨Nat.le_of_ble_eq_true rfl, Nat.le_of_ble_eq_true rfl⟩ (fun F_11 h_11 => ?_)
  obtain ⟨hM_11, fr_11⟩ := h_11
  have kp_11 := kp_lt true (f0 := f0) (hm := hm) (by omega) (by omega)
  refine x_iconst C (pc := 14) (v := 0) dX7_make_14 (by decide) ?_
  refine x_istore_n C (pc := 15) [(1, .int 0), (0, .ref (z + k))] dX7_make_15 (by decide) rfl ?_
  refine x_sub [1, 0] _ rfl ?_
  refine x_loop5 (A1 := Nat) (A2 := Nat) (A3 := PD) (A4 := Nat → Int32) (A5 := Nat → va_E) (pc := 16) (st := []) (fun j n2 p2 b G => T_1.2 - j) (fun j n2 p2 b G => (j ≤ T_1.2) ∧ (isMod z cI cZ G k (nI (kpF true f0 hm)) (nI (kpM true hm)) (nI len) (nI T_1.1.1) (bz T_1.1.2.1) (nI T_1.2) b (kpP true ps f0 hm a) sl sv sd wy pa T_1.1.2.2) ∧ (mA b n2 kk cw c0 (winF p2 n2) rl sp p2 od) ∧ (gFr k (k + 9) F G) ∧ (mkM T_1.1.2.2 kk cw (T_1.2 - j) j n2 p2 = mkM T_1.1.2.2 kk cw T_1.2 0 n pd)) (fun j n2 p2 b G => N) (fun j n2 p2 b G => G) (fun j n2 p2 b G => 0) (fun j n2 p2 b G => 0) (fun j n2 p2 b G => [(0, .ref (z + k)), (1, .int (nI j))]) 0 n pd a F_11 ⟨(Nat.zero_le _), hM_11, (by have h9 := hA; rw [hwi] at h9; exact h9), (gFr.t2 fr_1 fr_11), rfl⟩ rfl rfl rfl rfl rfl ?_
  rintro j n2 p2 b G ⟨hj, hG, hA2, hfr, hmk⟩ ih_16
  try dsimp only at ih_16
  refine x_iload_n C (pc := 16) 1 dX7_make_16 rfl ?_
  refine x_aload_n C (pc := 17) 0 dX7_make_17 rfl ?_
  refine x_get C (pc := 18) (q := k) (v := .int (nI T_1.2)) (ci := 7) rfl hn_X7_make_X7 12 (by decide) fl_X7_make_200 rfl (by omega) hG.ob rfl dX7_make_18 ?_
  refine x_icmpN_ge C (a := j) (b := T_1.2) (pc := 21) (tgt := 38) (by omega) (by omega) dX7_make_21 (by decide) (fun c_21 => ?_) (fun c_21 => ?_)
  · have hfin : ((j, n2, p2) : Nat × Nat × PD) = mkM T_1.1.2.2 kk cw T_1.2 0 n pd := by rw [← hmk, show T_1.2 - j = 0 by omega]; rfl
    refine x_aload_n C (pc := 38) 0 dX7_make_38 rfl ?_
    refine x_iconst C (pc := 39) (v := 0) dX7_make_39 (by decide) ?_
    refine xw_X7_9 C (pc := 40) hn_X7_make_X7 fl_X7_make_173 hG (by omega) dX7_make_40 (fun F_40 hG_40 fr_40 => ?_)
    refine x_iload_n C (pc := 43) 1 dX7_make_43 rfl ?_
    exact x_iret C hR0 rfl (Nat.le_of_ble_eq_true rfl) (Nat.le_of_ble_eq_true rfl) ⟨(by rw [← eT_1, ← hfin]), rfl, ⟨_, _, _, _, _, hG_40, (by rw [← eT_1, ← hfin]; exact hA2), (gFr.t2 hfr fr_40)⟩⟩ dX7_make_44
  refine x_aload_n C (pc := 24) 0 dX7_make_24 rfl ?_
  refine x_iload_n C (pc := 25) 1 dX7_make_25 rfl ?_
  refine x_cVi C (pc := 26) (st := []) (c_X7_makeOne l D z cI cZ cP cR N G k (kpF true f0 hm) (kpM true hm) (nI len) (nI T_1.1.1) (bz T_1.1.2.1) (nI T_1.2) b (kpP true ps f0 hm a) sl sv sd wy pa T_1.1.2.2 n2 kk cw c0 (winF p2 n2) rl sp p2 od j hG (by omega) (by omega) (by omega) hA2 (by omega)) (cwV 1 C.2.2.2.2.1 gX7_make_X7_makeOne rfl rfl rfl hd_X7_makeOne ⟨Nat.le_of_ble_eq_true rfl, Nat.le_of_ble_eq_true rfl⟩) (by omega) hG.ob rfl rfl rfl (Nat.le_of_ble_eq_true rfl) dX7_make_26 ⟨Nat.le_of_ble_eq_true rfl, Nat.le_of_ble_eq_true rfl⟩ (fun r_26 N_26 F_26 h_26 => ?_)
  obtain ⟨rfl, ⟨hok1, hok2⟩, a_26, hM_26, hA_26, fr_26⟩ := h_26
  generalize eq_26 : mkS T_1.1.2.2 kk cw j n2 p2 = q_26 at *
  refine x_if_lt C (pc := 29) (tgt := 38) dX7_make_29 (by decide) (fun c_29 => ?_) (fun c_29 => ?_)
  · have hok : q_26.1 = false := by cases hq : q_26.1 with | false => rfl | true => exact absurd c_29 (hok1 hq)
    have hfin : ((j, q_26.2.1, q_26.2.2) : Nat × Nat × PD) = mkM T_1.1.2.2 kk cw T_1.2 0 n pd := by rw [← hmk, show T_1.2 - j = T_1.2 - (j + 1) + 1 by omega, mkM, eq_26, if_neg (by rw [hok]; decide)]
    refine x_aload_n C (pc := 38) 0 dX7_make_38 rfl ?_
    refine x_iconst C (pc := 39) (v := 0) dX7_make_39 (by decide) ?_
    refine xw_X7_9 C (pc := 40) hn_X7_make_X7 fl_X7_make_173 hM_26 (by omega) dX7_make_40 (fun F_40 hM_40 fr_40 => ?_)
    refine x_iload_n C (pc := 43) 1 dX7_make_43 rfl ?_
    exact x_iret C hR0 rfl (Nat.le_of_ble_eq_true rfl) (Nat.le_of_ble_eq_true rfl) ⟨(by rw [← eT_1, ← hfin]), rfl, ⟨_, _, _, _, _, hM_40, (by rw [← eT_1, ← hfin]; exact hA_26), (gFr.t2 (gFr.t2 hfr fr_26) fr_40)⟩⟩ dX7_make_44
  have hok : (mkS T_1.1.2.2 kk cw j n2 p2).1 = true := by rw [eq_26]; cases hq : q_26.1 with | true => rfl | false => exact absurd (hok2 hq) c_29
  refine x_iinc C (pc := 32) 1 [(1, .int (nI (j + 1))), (0, .ref (z + k))] dX7_make_32 rfl (nI_inc j) (by decide) rfl ?_
  refine x_goto C (pc := 35) (tgt := 16) dX7_make_35 (by decide) ?_
  exact x_sub [1, 0] _ rfl (ih_16 (j + 1) q_26.2.1 q_26.2.2 a_26 F_26 ⟨(by omega), hM_26, hA_26, (gFr.t2 hfr fr_26), (by rw [← hmk, show T_1.2 - j = T_1.2 - (j + 1) + 1 by omega, mkM, if_pos hok, ← eq_26])⟩ (by omega))
theorem fl_X7_wipe_173 : Cond.fieldLink RX7 173 "PileRecountModel" "padMany" "I" ∈ wsX7_wipe := by decide +kernel
theorem hn_X7_wipe_X7 : ∀ w ∈ wsX70, w ∈ wsX7_wipe := fun _ h => List.mem_cons_of_mem _ (List.mem_append_right _ h)
set_option maxHeartbeats 4000000 in
set_option maxRecDepth 100000 in
theorem c_X7_wipe (l : Launch) (D : va_G) (z : Nat) (cI cZ cP cR : ClassId) (N : Nat) (F : Nat → va_E) (k len : Nat) (pf pm spt wrg rd : Int32) (a ps sl sv sd wy pa nu : Nat → Int32) (hM : isMod z cI cZ F k pf pm (nI len) spt wrg rd a ps sl sv sd wy pa nu) (hk : k + 9 ≤ N) : gMi l yX7_wipe wsX7_wipe ({ frames := 0, cells := 0, slots := 0, locals := 0 }) D z cI cZ cP cR N F [.ref (z + k)] (gRes (nI len) N (fun F2 => isMod z cI cZ F2 k pf pm 0 spt wrg rd a ps sl sv sd wy pa nu ∧ gFr k (k + 9) F F2)) 0 0 := by
  refine gMi.of (cc := cX7_wipe) (maxL := 2) (ret := (some .int)) (by decide) rfl (Nat.le_of_ble_eq_true rfl) [(0, .ref (z + k))] rfl ?_
  intro pg ev sg mg bel me cg C hR0
  refine x_aload_n C (pc := 0) 0 dX7_wipe_0 rfl ?_
  refine x_get C (pc := 1) (q := k) (v := .int (nI len)) (ci := 7) rfl hn_X7_wipe_X7 9 (by decide) fl_X7_wipe_173 rfl (by omega) hM.ob rfl dX7_wipe_1 ?_
  refine x_istore_n C (pc := 4) [(1, .int (nI len)), (0, .ref (z + k))] dX7_wipe_4 (by decide) rfl ?_
  refine x_aload_n C (pc := 5) 1 dX7_wipe_5 rfl ?_
  refine x_iconst C (pc := 6) (v := 0) dX7_wipe_6 (by decide) ?_
  refine xw_X7_9 C (pc := 7) hn_X7_wipe_X7 fl_X7_wipe_173 hM (by omega) dX7_wipe_7 (fun F_7 hM_7 fr_7 => ?_)
  refine x_iload_n C (pc := 10) 0 dX7_wipe_10 rfl ?_
  exact x_iret C hR0 rfl (Nat.le_of_ble_eq_true rfl) (Nat.le_of_ble_eq_true rfl) ⟨rfl, rfl, ⟨hM_7, fr_7⟩⟩ dX7_wipe_11
