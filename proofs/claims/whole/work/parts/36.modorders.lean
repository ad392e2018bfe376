def w0G (wy : Nat → Int32) (cw m : Nat) : Nat → Int32 := cpA wy (fun x => if x = cw then 1 else 0) m
theorem w0G_up1 {wy : Nat → Int32} {cw m : Nat} (h : m = cw) : upd (w0G wy cw m) m 1 = w0G wy cw (m + 1) := by
  rw [w0G, w0G, ← cpA_up, if_pos h]
theorem w0G_up0 {wy : Nat → Int32} {cw m : Nat} (h : ¬ m = cw) : upd (w0G wy cw m) m 0 = w0G wy cw (m + 1) := by
  rw [w0G, w0G, ← cpA_up, if_neg h]
def moG (stop : Nat → Bool) (sel : Nat → Bool) (n kk : Nat) (w0 : Nat → Int32) : Nat → (Nat → Int32) × Int32
  | 0 => (w0, 0)
  | s + 1 => if (moG stop sel n kk w0 s).1 s = 0 then moG stop sel n kk w0 s else
      if stop s = true then ((moG stop sel n kk w0 s).1, (moG stop sel n kk w0 s).2 + (if sel (cntB s 10 - kk) = true then (moG stop sel n kk w0 s).1 s * facF (n - cntB s 10 - 1) else 0)) else
      (goW s s (moG stop sel n kk w0 s).1 n, (moG stop sel n kk w0 s).2)
theorem goW_has {s i : Nat} {wy : Nat → Int32} (h : s.testBit i = true) : upd (goW s s wy i) (s ||| 2 ^ i) (goW s s wy i (s ||| 2 ^ i) + 0) = goW s s wy (i + 1) := by
  rw [goW, if_pos h, Int32.add_zero]
  funext x
  by_cases e : x = s ||| 2 ^ i
  · rw [e, pk_us]
  · rw [pk_un e]
theorem goW_not {s i : Nat} {wy : Nat → Int32} (h : s.testBit i = false) : upd (goW s s wy i) (s ||| 2 ^ i) (goW s s wy i (s ||| 2 ^ i) + goW s s wy i s) = goW s s wy (i + 1) := by
  rw [goW, if_neg (by rw [h]; decide)]
/-- only sets that hold cw are met -/
theorem goW_sup {cw s : Nat} {wy : Nat → Int32} (hs : s &&& cw = cw) (h : ∀ x, x < 1024 → ¬ wy x = 0 → x &&& cw = cw) : ∀ i x, x < 1024 → ¬ goW s s wy i x = 0 → x &&& cw = cw := by
  intro i
  induction i with
  | zero => exact h
  | succ i ih =>
    intro x hx hq
    simp only [goW] at hq
    split at hq
    · exact ih x hx hq
    · by_cases e : x = s ||| 2 ^ i
      · subst e
        apply Nat.eq_of_testBit_eq
        intro j
        have h1 : (s &&& cw).testBit j = cw.testBit j := by rw [hs]
        rw [Nat.testBit_and] at h1
        rw [Nat.testBit_and, Nat.testBit_or]
        cases hc : cw.testBit j
        · simp
        · rw [hc] at h1; simp at h1; simp [h1]
      · rw [pk_un e] at hq
        exact ih x hx hq
theorem moG_sup (stop sel : Nat → Bool) (n kk cw : Nat) (w0 : Nat → Int32) (h0 : ∀ x, x < 2 ^ n → ¬ w0 x = 0 → x &&& cw = cw) (hn : n ≤ 10) : ∀ m, m ≤ 2 ^ n → ∀ x, x < 2 ^ n → ¬ (moG stop sel n kk w0 m).1 x = 0 → x &&& cw = cw := by
  intro m
  induction m with
  | zero => exact fun _ => h0
  | succ m ih =>
    intro hm x hx hq
    simp only [moG] at hq
    split at hq
    · exact ih (by omega) x hx hq
    · rename_i hp
      split at hq
      · exact ih (by omega) x hx hq
      · have hs := ih (by omega) m (by omega) hp
        have key : ∀ i, i ≤ n → ∀ x, x < 2 ^ n → ¬ goW m m (moG stop sel n kk w0 m).1 i x = 0 → x &&& cw = cw := by
          intro i
          induction i with
          | zero => exact fun _ => ih (by omega)
          | succ i ihi =>
            intro hi x hx hq
            simp only [goW] at hq
            split at hq
            · exact ihi (by omega) x hx hq
            · by_cases e : x = m ||| 2 ^ i
              · subst e
                apply Nat.eq_of_testBit_eq
                intro j
                have h1 : (m &&& cw).testBit j = cw.testBit j := by rw [hs]
                rw [Nat.testBit_and] at h1
                rw [Nat.testBit_and, Nat.testBit_or]
                cases hc : cw.testBit j
                · simp
                · rw [hc] at h1; simp at h1; simp [h1]
              · rw [pk_un e] at hq
                exact ihi (by omega) x hx hq
        exact key n (Nat.le_refl n) x hx hq
theorem w0G_sup {wy : Nat → Int32} {cw n : Nat} : ∀ x, x < 2 ^ n → ¬ w0G wy cw (2 ^ n) x = 0 → x &&& cw = cw := by
  intro x hx h
  rw [w0G, cpA_lt hx] at h
  by_cases e : x = cw
  · rw [e, Nat.and_self]
  · rw [if_neg e] at h; exact absurd rfl h
theorem cnt_sup {x cw : Nat} (h : x &&& cw = cw) : ∀ n, cntB cw n ≤ cntB x n := by
  intro n
  induction n with
  | zero => exact Nat.le_refl 0
  | succ n ih =>
    show cntB cw n + (if cw.testBit n = true then 1 else 0) ≤ cntB x n + (if x.testBit n = true then 1 else 0)
    have h1 : (x &&& cw).testBit n = cw.testBit n := by rw [h]
    rw [Nat.testBit_and] at h1
    cases hc : cw.testBit n
    · simp; omega
    · rw [hc] at h1; simp at h1; rw [h1]; simp; omega
theorem fl_X7_ordersThat_26 : Cond.fieldLink RX7 26 "PileRecountModel" "ways" "[I" ∈ wsX7_ordersThat := by decide +kernel
theorem fl_X7_ordersThat_7 : Cond.fieldLink RX7 7 "PileRecountModel" "at" "[I" ∈ wsX7_ordersThat := by decide +kernel
theorem hn_X7_ordersThat_X7 : ∀ w ∈ wsX70, w ∈ wsX7_ordersThat := fun _ h => List.mem_cons_of_mem _ (List.mem_append_right _ h)
set_option maxHeartbeats 4000000 in
set_option maxRecDepth 100000 in
theorem c_X7_ordersThat (l : Launch) (D : va_G) (z : Nat) (cI cZ cP cR : ClassId) (N : Nat) (F : Nat → va_E) (k : Nat) (pf pm pn spt wrg rd : Int32) (a ps sl sv sd wy pa nu : Nat → Int32) (n kk cw c0 : Nat) (wi rl sp : Int32) (pd : Nat → Nat → Int32) (od : Nat → Int32) (d : Int32) (pi : Nat → Nat) (hM : isMod z cI cZ F k pf pm pn spt wrg rd a ps sl sv sd wy pa nu) (hk : k + 9 ≤ N) (hA : mA a n kk cw c0 wi rl sp pd od) (hwb : hwB wi = true) (hpi : rkPi (fun i => swF wi (pd i)) n pi) : gMi l yX7_ordersThat wsX7_ordersThat ({ frames := 8, cells := 0, slots := 0, locals := 181 }) D z cI cZ cP cR N F [.ref (z + k), .int d] (gRes ((moG (fun w => decide (rbF wi pd pi n w w ≤ rl)) (fun v => decide (d = -6) || decide (d = nI v)) n kk (w0G wy cw (2 ^ n)) (2 ^ n)).2) N (fun F2 => ∃ wy2 : Nat → Int32, isMod z cI cZ F2 k pf pm pn spt wrg rd a ps sl sv sd wy2 pa nu ∧ gFr k (k + 9) F F2)) 0 0 := by
  refine gMi.of (cc := cX7_ordersThat) (maxL := 8) (ret := (some .int)) (by decide) rfl (Nat.le_of_ble_eq_true rfl) [(0, .ref (z + k)), (1, .int d)] rfl ?_
  intro pg ev sg mg bel me cg C hR0
  obtain ⟨ha0, ha1, ha2, ha3, ha4, hpd, hpl, hn, hkk, hcw, hcnt, hc0, hsp, hrl, hwi, hod⟩ := id hA
  have h2n := two_lt hn
  have hp1 := two_pos n
  have hck : cntB cw 10 = kk := (cntB_hi hcw 10 hn).trans hcnt
  refine x_aload_n C (pc := 0) 0 dX7_ordersThat_0 rfl ?_
  refine x_cViR C (pc := 1) (st := []) (c_X7_countedSet l D z cI cZ cP cR N F k pf pm pn spt wrg rd a ps sl sv sd wy pa nu n kk cw c0 wi rl sp pd od  hM (by omega) hA ) (cwV 0 C.2.2.2.2.1 gX7_ordersThat_X7_countedSet rfl rfl rfl hd_X7_countedSet ⟨Nat.le_of_ble_eq_true rfl, Nat.le_of_ble_eq_true rfl⟩) (by omega) hM.ob rfl rfl rfl (Nat.le_of_ble_eq_true rfl) dX7_ordersThat_1 ⟨Nat.le_of_ble_eq_true rfl, Nat.le_of_ble_eq_true rfl⟩ ?_
  refine x_istore_n C (pc := 4) [(2, .int (nI cw)), (0, .ref (z + k)), (1, .int d)] dX7_ordersThat_4 (by decide) rfl ?_
  refine x_iload_n C (pc := 5) 0 dX7_ordersThat_5 rfl ?_
  refine x_cSiR C (pc := 6) (st := []) (c_X7_many l D z cI cZ cP cR N F cw (by omega)) (va_cwS 1 C.2.2.2.2.1 gX7_ordersThat_X7_many rfl rfl rfl hd_X7_many.2 ⟨Nat.le_of_ble_eq_true rfl, Nat.le_of_ble_eq_true rfl⟩) rfl rfl (Nat.le_of_ble_eq_true rfl) dX7_ordersThat_6 ⟨Nat.le_of_ble_eq_true rfl, Nat.le_of_ble_eq_true rfl⟩ ?_
  refine x_istore_n C (pc := 9) [(3, .int (nI (cntB cw 10))), (2, .int (nI cw)), (0, .ref (z + k)), (1, .int d)] dX7_ordersThat_9 (by decide) rfl ?_
  refine x_eqL [(3, .int (nI kk)), (2, .int (nI cw)), (0, .ref (z + k)), (1, .int d)] (by rw [hck]) ?_
  refine x_iconst C (pc := 10) (v := 0) dX7_ordersThat_10 (by decide) ?_
  refine x_istore C (pc := 11) [(4, .int 0), (3, .int (nI kk)), (2, .int (nI cw)), (0, .ref (z + k)), (1, .int d)] dX7_ordersThat_11 (by decide) rfl ?_
  refine x_iconst C (pc := 13) (v := 0) dX7_ordersThat_13 (by decide) ?_
  refine x_istore C (pc := 14) [(5, .int 0), (4, .int 0), (3, .int (nI kk)), (2, .int (nI cw)), (0, .ref (z + k)), (1, .int d)] dX7_ordersThat_14 (by decide) rfl ?_
  refine x_sub [4, 5, 3, 2, 1, 0] _ rfl ?_
  refine x_loop2 (A1 := Nat) (A2 := Nat → va_E) (pc := 16) (st := []) (fun j G => 2 ^ n - j) (fun j G => (j ≤ 2 ^ n) ∧ (isMod z cI cZ G k pf pm pn spt wrg rd a ps sl sv sd (w0G wy cw j) pa nu) ∧ (gFr k (k + 9) F G)) (fun j G => N) (fun j G => G) (fun j G => 0) (fun j G => 0) (fun j G => [(0, .ref (z + k)), (1, .int d), (2, .int (nI cw)), (3, .int (nI kk)), (4, .int 0), (5, .int (nI j))]) 0 F ⟨(Nat.zero_le _), (by rw [w0G, cpA_0]; exact hM), gFr.rf⟩ rfl rfl rfl rfl rfl ?_
  rintro j G ⟨hj, hG, hfr⟩ ih_16
  try dsimp only at ih_16
  refine x_iload C (pc := 16) 5 dX7_ordersThat_16 rfl ?_
  refine x_aload_n C (pc := 18) 0 dX7_ordersThat_18 rfl ?_
  refine x_cViR C (pc := 19) (st := [.int (nI j)]) (c_X7_allSet l D z cI cZ cP cR N G k pf pm pn spt wrg rd a ps sl sv sd (w0G wy cw j) pa nu n kk cw c0 wi rl sp pd od  hG (by omega) hA ) (cwV 0 C.2.2.2.2.1 gX7_ordersThat_X7_allSet rfl rfl rfl hd_X7_allSet ⟨Nat.le_of_ble_eq_true rfl, Nat.le_of_ble_eq_true rfl⟩) (by omega) hG.ob rfl rfl rfl (Nat.le_of_ble_eq_true rfl) dX7_ordersThat_19 ⟨Nat.le_of_ble_eq_true rfl, Nat.le_of_ble_eq_true rfl⟩ ?_
  refine x_icmpN_gt C (a := j) (b := 2 ^ n - 1) (pc := 22) (tgt := 49) (by omega) (by omega) dX7_ordersThat_22 (by decide) (fun c_22 => ?_) (fun c_22 => ?_)
  · refine x_iconst C (pc := 49) (v := 0) dX7_ordersThat_49 (by decide) ?_
    refine x_istore C (pc := 50) [(5, .int 0), (0, .ref (z + k)), (1, .int d), (2, .int (nI cw)), (3, .int (nI kk)), (4, .int 0)] dX7_ordersThat_50 (by decide) rfl ?_
    refine x_sub [1, 2, 3, 4, 5, 0] _ rfl ?_
    refine x_loop4 (A1 := Nat) (A2 := Nat → Int32) (A3 := Int32) (A4 := Nat → va_E) (pc := 52) (st := []) (fun s b u G => 2 ^ n - s) (fun s b u G => (s ≤ 2 ^ n) ∧ (isMod z cI cZ G k pf pm pn spt wrg rd a ps sl sv sd b pa nu) ∧ ((b, u) = moG (fun w => decide (rbF wi pd pi n w w ≤ rl)) (fun v => decide (d = -6) || decide (d = nI v)) n kk (w0G wy cw (2 ^ n)) s) ∧ (gFr k (k + 9) F G)) (fun s b u G => N) (fun s b u G => G) (fun s b u G => 0) (fun s b u G => 0) (fun s b u G => [(0, .ref (z + k)), (1, .int d), (2, .int (nI cw)), (3, .int (nI kk)), (4, .int u), (5, .int (nI s))]) 0 (w0G wy cw (2 ^ n)) 0 G ⟨(Nat.zero_le _), (by have h9 := hG; rw [show j = 2 ^ n by (have := two_pos n; omega)] at h9; exact h9), rfl, hfr⟩ rfl rfl rfl rfl rfl ?_
    rintro s b u G ⟨hs, hG, hbu, hfr⟩ ih_52
    try dsimp only at ih_52
    have hb1 : (moG (fun w => decide (rbF wi pd pi n w w ≤ rl)) (fun v => decide (d = -6) || decide (d = nI v)) n kk (w0G wy cw (2 ^ n)) s).1 = b := by rw [← hbu]
    have hu1 : (moG (fun w => decide (rbF wi pd pi n w w ≤ rl)) (fun v => decide (d = -6) || decide (d = nI v)) n kk (w0G wy cw (2 ^ n)) s).2 = u := by rw [← hbu]
    have hcs := cntB_le s 10
    refine x_iload C (pc := 52) 5 dX7_ordersThat_52 rfl ?_
    refine x_aload_n C (pc := 54) 0 dX7_ordersThat_54 rfl ?_
    refine x_cViR C (pc := 55) (st := [.int (nI s)]) (c_X7_allSet l D z cI cZ cP cR N G k pf pm pn spt wrg rd a ps sl sv sd b pa nu n kk cw c0 wi rl sp pd od  hG (by omega) hA ) (cwV 0 C.2.2.2.2.1 gX7_ordersThat_X7_allSet rfl rfl rfl hd_X7_allSet ⟨Nat.le_of_ble_eq_true rfl, Nat.le_of_ble_eq_true rfl⟩) (by omega) hG.ob rfl rfl rfl (Nat.le_of_ble_eq_true rfl) dX7_ordersThat_55 ⟨Nat.le_of_ble_eq_true rfl, Nat.le_of_ble_eq_true rfl⟩ ?_
    refine x_icmpN_gt C (a := s) (b := 2 ^ n - 1) (pc := 58) (tgt := 208) (by omega) (by omega) dX7_ordersThat_58 (by decide) (fun c_58 => ?_) (fun c_58 => ?_)
    · refine x_iload C (pc := 208) 4 dX7_ordersThat_208 rfl ?_
      exact x_iret C hR0 rfl (Nat.le_of_ble_eq_true rfl) (Nat.le_of_ble_eq_true rfl) ⟨(by rw [← hu1, show s = 2 ^ n by omega]), rfl, ⟨_, hG, hfr⟩⟩ dX7_ordersThat_210
    refine x_aload_n C (pc := 61) 0 dX7_ordersThat_61 rfl ?_
    refine x_get C (pc := 62) (q := k) (v := .ref (z + (k + 6))) (ci := 7) rfl hn_X7_ordersThat_X7 7 (by decide) fl_X7_ordersThat_26 rfl (by omega) hG.ob rfl dX7_ordersThat_62 ?_
    refine x_iload C (pc := 65) 5 dX7_ordersThat_65 rfl ?_
    refine x_ialdE C (pc := 67) (q := k + 6) (j := s) (f := b) (by omega) hG.wy rfl (by omega) (by decide) dX7_ordersThat_67 ?_
    refine x_if_ne C (pc := 68) (tgt := 74) dX7_ordersThat_68 (by decide) (fun c_68 => ?_) (fun c_68 => ?_)
    · have hno : ¬ b s = 0 := c_68
      have hsup : s &&& cw = cw := moG_sup (fun w => decide (rbF wi pd pi n w w ≤ rl)) (fun v => decide (d = -6) || decide (d = nI v)) n kk cw _ w0G_sup hn s hs s (by omega) (by rw [hb1]; exact c_68)
      have hcc := cnt_sup hsup 10
      have hcn := cntB_lt (w := s) (n := n) (m := 10) (by omega) hn
      refine x_iload C (pc := 74) 5 dX7_ordersThat_74 rfl ?_
      refine x_cSiR C (pc := 76) (st := []) (c_X7_many l D z cI cZ cP cR N G s (by omega)) (va_cwS 1 C.2.2.2.2.1 gX7_ordersThat_X7_many rfl rfl rfl hd_X7_many.2 ⟨Nat.le_of_ble_eq_true rfl, Nat.le_of_ble_eq_true rfl⟩) rfl rfl (Nat.le_of_ble_eq_true rfl) dX7_ordersThat_76 ⟨Nat.le_of_ble_eq_true rfl, Nat.le_of_ble_eq_true rfl⟩ ?_
      refine x_iload_n C (pc := 79) 3 dX7_ordersThat_79 rfl ?_
      refine x_isub C (pc := 80) (v := nI (cntB s 10 - kk)) dX7_ordersThat_80 (pk_sub (a := cntB s 10) (b := kk) (by omega)) ?_
      refine x_istore C (pc := 81) [(6, .int (nI (cntB s 10 - kk))), (0, .ref (z + k)), (1, .int d), (2, .int (nI cw)), (3, .int (nI kk)), (4, .int u), (5, .int (nI s))] dX7_ordersThat_81 (by decide) rfl ?_
      refine x_aload_n C (pc := 83) 1 dX7_ordersThat_83 rfl ?_
      refine x_iload C (pc := 84) 6 dX7_ordersThat_84 rfl ?_
      refine x_iconst C (pc := 86) (v := 0) dX7_ordersThat_86 (by decide) ?_
      refine x_cViR C (pc := 87) (st := []) (c_X7_risk l D z cI cZ cP cR N G k pf pm pn spt wrg rd a ps sl sv sd b pa nu n kk cw c0 wi rl sp pd od s false pi hG (by omega) hA (by omega) hwb hpi) (cwV 2 C.2.2.2.2.1 gX7_ordersThat_X7_risk rfl rfl rfl hd_X7_risk ⟨Nat.le_of_ble_eq_true rfl, Nat.le_of_ble_eq_true rfl⟩) (by omega) hG.ob rfl rfl rfl (Nat.le_of_ble_eq_true rfl) dX7_ordersThat_87 ⟨Nat.le_of_ble_eq_true rfl, Nat.le_of_ble_eq_true rfl⟩ ?_
      refine x_aload_n C (pc := 90) 1 dX7_ordersThat_90 rfl ?_
      refine x_get C (pc := 91) (q := k) (v := .ref (z + (k + 1))) (ci := 7) rfl hn_X7_ordersThat_X7 0 (by decide) fl_X7_ordersThat_7 rfl (by omega) hG.ob rfl dX7_ordersThat_91 ?_
      refine x_iconst C (pc := 94) (v := 1) dX7_ordersThat_94 (by decide) ?_
      refine x_ialdE C (pc := 95) (q := k + 1) (j := 1) (f := a) (by omega) hG.a rfl (by omega) (by decide) dX7_ordersThat_95 ?_
      refine x_eqi hA.2.1 ?_
      refine x_icmp_gt C (pc := 96) (tgt := 146) dX7_ordersThat_96 (by decide) (fun c_96 => ?_) (fun c_96 => ?_)
      · refine x_iconst C (pc := 146) (v := 0) dX7_ordersThat_146 (by decide) ?_
        refine x_istore C (pc := 147) [(7, .int 0), (6, .int (nI (cntB s 10 - kk))), (0, .ref (z + k)), (1, .int d), (2, .int (nI cw)), (3, .int (nI kk)), (4, .int u), (5, .int (nI s))] dX7_ordersThat_147 (by decide) rfl ?_
        refine x_sub [2, 3, 4, 5, 6, 7, 1, 0] _ rfl ?_
        refine x_loop3 (A1 := Nat) (A2 := Nat → Int32) (A3 := Nat → va_E) (pc := 149) (st := []) (fun i c G2 => n - i) (fun i c G2 => (i ≤ n) ∧ (isMod z cI cZ G2 k pf pm pn spt wrg rd a ps sl sv sd c pa nu) ∧ (c = goW s s b i) ∧ (gFr k (k + 9) F G2)) (fun i c G2 => N) (fun i c G2 => G2) (fun i c G2 => 0) (fun i c G2 => 0) (fun i c G2 => [(0, .ref (z + k)), (1, .int d), (2, .int (nI cw)), (3, .int (nI kk)), (4, .int u), (5, .int (nI s)), (6, .int (nI (cntB s 10 - kk))), (7, .int (nI i))]) 0 b G ⟨(Nat.zero_le _), hG, rfl, hfr⟩ rfl rfl rfl rfl rfl ?_
        rintro i c G2 ⟨hi, hG2, hc, hfr2⟩ ih_149
        try dsimp only at ih_149
        refine x_iload C (pc := 149) 7 dX7_ordersThat_149 rfl ?_
        refine x_aload_n C (pc := 151) 0 dX7_ordersThat_151 rfl ?_
        refine x_get C (pc := 152) (q := k) (v := .ref (z + (k + 1))) (ci := 7) rfl hn_X7_ordersThat_X7 0 (by decide) fl_X7_ordersThat_7 rfl (by omega) hG2.ob rfl dX7_ordersThat_152 ?_
        refine x_iconst C (pc := 155) (v := 0) dX7_ordersThat_155 (by decide) ?_
        refine x_ialdE C (pc := 156) (q := k + 1) (j := 0) (f := a) (by omega) hG2.a rfl (by omega) (by decide) dX7_ordersThat_156 ?_
        refine x_eqi hA.1 ?_
        refine x_icmpN_ge C (a := i) (b := n) (pc := 157) (tgt := 202) (by omega) (by omega) dX7_ordersThat_157 (by decide) (fun c_157 => ?_) (fun c_157 => ?_)
        · have hst : (c, u) = moG (fun w => decide (rbF wi pd pi n w w ≤ rl)) (fun v => decide (d = -6) || decide (d = nI v)) n kk (w0G wy cw (2 ^ n)) (s + 1) := by rw [moG, hb1, hu1, if_neg hno, if_neg (show ¬ (fun w => decide (rbF wi pd pi n w w ≤ rl)) s = true from fun q => absurd (of_decide_eq_true q) (Int32.not_le.mpr c_96)), hc, show i = n by omega]
          refine x_iinc C (pc := 202) 5 [(5, .int (nI (s + 1))), (0, .ref (z + k)), (1, .int d), (2, .int (nI cw)), (3, .int (nI kk)), (4, .int u), (6, .int (nI (cntB s 10 - kk))), (7, .int (nI i))] dX7_ordersThat_202 rfl (nI_inc s) (by decide) rfl ?_
          refine x_goto C (pc := 205) (tgt := 52) dX7_ordersThat_205 (by decide) ?_
          exact x_sub [1, 2, 3, 4, 5, 0] _ rfl (ih_52 (s + 1) c u G2 ⟨(by omega), hG2, hst, hfr2⟩ (by omega))
        refine x_aload_n C (pc := 160) 0 dX7_ordersThat_160 rfl ?_
        refine x_get C (pc := 161) (q := k) (v := .ref (z + (k + 6))) (ci := 7) rfl hn_X7_ordersThat_X7 7 (by decide) fl_X7_ordersThat_26 rfl (by omega) hG2.ob rfl dX7_ordersThat_161 ?_
        refine x_iload C (pc := 164) 5 dX7_ordersThat_164 rfl ?_
        refine x_iconst C (pc := 166) (v := 1) dX7_ordersThat_166 (by decide) ?_
        refine x_iload C (pc := 167) 7 dX7_ordersThat_167 rfl ?_
        refine x_ishl C (pc := 169) (v := nI (2 ^ i)) dX7_ordersThat_169 (pkshl (by omega)) ?_
        have h2i : 2 ^ i < 2 ^ n := Nat.pow_lt_pow_right (by decide) (by omega)
        have hsi : s ||| 2 ^ i < 2 ^ n := por_lt n (by omega) h2i
        refine x_ior C (pc := 170) (v := nI (s ||| 2 ^ i)) dX7_ordersThat_170 (pkor (by omega) (by omega)) ?_
        refine x_dup2 C (pc := 171) dX7_ordersThat_171 rfl rfl ?_
        refine x_ialdE C (pc := 172) (q := k + 6) (j := s ||| 2 ^ i) (f := c) (by omega) hG2.wy rfl (by omega) (by decide) dX7_ordersThat_172 ?_
        refine x_iload C (pc := 173) 5 dX7_ordersThat_173 rfl ?_
        refine x_iload C (pc := 175) 7 dX7_ordersThat_175 rfl ?_
        refine x_cSiR C (pc := 177) (st := [.int (c (s ||| 2 ^ i)), .int (nI (s ||| 2 ^ i)), .ref (z + (k + 6))]) (c_X7_has l D z cI cZ cP cR N G2 s i (by omega) (by omega)) (va_cwS 2 C.2.2.2.2.1 gX7_ordersThat_X7_has rfl rfl rfl hd_X7_has.2 ⟨Nat.le_of_ble_eq_true rfl, Nat.le_of_ble_eq_true rfl⟩) rfl rfl (Nat.le_of_ble_eq_true rfl) dX7_ordersThat_177 ⟨Nat.le_of_ble_eq_true rfl, Nat.le_of_ble_eq_true rfl⟩ ?_
        refine x_bz_eq C (pc := 180) (tgt := 187) dX7_ordersThat_180 (by decide) (fun c_180 => ?_) (fun c_180 => ?_)
        · refine x_aload_n C (pc := 187) 0 dX7_ordersThat_187 rfl ?_
          refine x_get C (pc := 188) (q := k) (v := .ref (z + (k + 6))) (ci := 7) rfl hn_X7_ordersThat_X7 7 (by decide) fl_X7_ordersThat_26 rfl (by omega) hG2.ob rfl dX7_ordersThat_188 ?_
          refine x_iload C (pc := 191) 5 dX7_ordersThat_191 rfl ?_
          refine x_ialdE C (pc := 193) (q := k + 6) (j := s) (f := c) (by omega) hG2.wy rfl (by omega) (by decide) dX7_ordersThat_193 ?_
          refine x_iadd C (pc := 194) (v := (c (s ||| 2 ^ i)) + (c s)) dX7_ordersThat_194 rfl ?_
          refine xw_isMod_wy C (pc := 195) (j := s ||| 2 ^ i) hG2 (by omega) rfl (by omega) dX7_ordersThat_195 (fun F_195 hG2_195 fr_195 => ?_)
          refine x_iinc C (pc := 196) 7 [(7, .int (nI (i + 1))), (0, .ref (z + k)), (1, .int d), (2, .int (nI cw)), (3, .int (nI kk)), (4, .int u), (5, .int (nI s)), (6, .int (nI (cntB s 10 - kk)))] dX7_ordersThat_196 rfl (nI_inc i) (by decide) rfl ?_
          refine x_goto C (pc := 199) (tgt := 149) dX7_ordersThat_199 (by decide) ?_
          exact x_sub [1, 2, 3, 4, 5, 6, 7, 0] _ rfl (ih_149 (i + 1) (upd c (s ||| 2 ^ i) ((c (s ||| 2 ^ i)) + (c s))) F_195 ⟨(by omega), hG2_195, (by rw [hc]; first | exact goW_has c_180 | exact goW_not c_180), (gFr.t2 hfr2 fr_195)⟩ (by omega))
        refine x_iconst C (pc := 183) (v := 0) dX7_ordersThat_183 (by decide) ?_
        refine x_goto C (pc := 184) (tgt := 194) dX7_ordersThat_184 (by decide) ?_
        refine x_iadd C (pc := 194) (v := (c (s ||| 2 ^ i)) + 0) dX7_ordersThat_194 rfl ?_
        refine xw_isMod_wy C (pc := 195) (j := s ||| 2 ^ i) hG2 (by omega) rfl (by omega) dX7_ordersThat_195 (fun F_195 hG2_195 fr_195 => ?_)
        refine x_iinc C (pc := 196) 7 [(7, .int (nI (i + 1))), (0, .ref (z + k)), (1, .int d), (2, .int (nI cw)), (3, .int (nI kk)), (4, .int u), (5, .int (nI s)), (6, .int (nI (cntB s 10 - kk)))] dX7_ordersThat_196 rfl (nI_inc i) (by decide) rfl ?_
        refine x_goto C (pc := 199) (tgt := 149) dX7_ordersThat_199 (by decide) ?_
        exact x_sub [1, 2, 3, 4, 5, 6, 7, 0] _ rfl (ih_149 (i + 1) (upd c (s ||| 2 ^ i) ((c (s ||| 2 ^ i)) + 0)) F_195 ⟨(by omega), hG2_195, (by rw [hc]; first | exact goW_has c_180 | exact goW_not c_180), (gFr.t2 hfr2 fr_195)⟩ (by omega))
      refine x_iload C (pc := 99) 5 dX7_ordersThat_99 rfl ?_
      refine x_iload_n C (pc := 101) 2 dX7_ordersThat_101 rfl ?_
      refine x_bipush C (pc := 102) (v := (-6)) dX7_ordersThat_102 (by decide) ?_
      refine x_icmp_eq C (pc := 104) (tgt := 113) dX7_ordersThat_104 (by decide) (fun c_104 => ?_) (fun c_104 => ?_)
      · refine x_aload_n C (pc := 113) 1 dX7_ordersThat_113 rfl ?_
        refine x_get C (pc := 114) (q := k) (v := .ref (z + (k + 6))) (ci := 7) rfl hn_X7_ordersThat_X7 7 (by decide) fl_X7_ordersThat_26 rfl (by omega) hG.ob rfl dX7_ordersThat_114 ?_
        refine x_iload C (pc := 117) 6 dX7_ordersThat_117 rfl ?_
        refine x_ialdE C (pc := 119) (q := k + 6) (j := s) (f := b) (by omega) hG.wy rfl (by omega) (by decide) dX7_ordersThat_119 ?_
        refine x_aload_n C (pc := 120) 1 dX7_ordersThat_120 rfl ?_
        refine x_get C (pc := 121) (q := k) (v := .ref (z + (k + 1))) (ci := 7) rfl hn_X7_ordersThat_X7 0 (by decide) fl_X7_ordersThat_7 rfl (by omega) hG.ob rfl dX7_ordersThat_121 ?_
        refine x_iconst C (pc := 124) (v := 0) dX7_ordersThat_124 (by decide) ?_
        refine x_ialdE C (pc := 125) (q := k + 1) (j := 0) (f := a) (by omega) hG.a rfl (by omega) (by decide) dX7_ordersThat_125 ?_
        refine x_eqi hA.1 ?_
        refine x_iload C (pc := 126) 6 dX7_ordersThat_126 rfl ?_
        refine x_cSiR C (pc := 128) (st := [.int (nI n), .int (b s), .int u]) (c_X7_many l D z cI cZ cP cR N G s (by omega)) (va_cwS 1 C.2.2.2.2.1 gX7_ordersThat_X7_many rfl rfl rfl hd_X7_many.2 ⟨Nat.le_of_ble_eq_true rfl, Nat.le_of_ble_eq_true rfl⟩) rfl rfl (Nat.le_of_ble_eq_true rfl) dX7_ordersThat_128 ⟨Nat.le_of_ble_eq_true rfl, Nat.le_of_ble_eq_true rfl⟩ ?_
        refine x_isub C (pc := 131) (v := nI (n - (cntB s 10))) dX7_ordersThat_131 (pk_sub (a := n) (b := cntB s 10) (by omega)) ?_
        refine x_cSiR C (pc := 132) (st := [.int (b s), .int u]) (c_X7_factorial l D z cI cZ cP cR N G (n - (cntB s 10)) (by omega)) (va_cwS 1 C.2.2.2.2.1 gX7_ordersThat_X7_factorial rfl rfl rfl hd_X7_factorial.2 ⟨Nat.le_of_ble_eq_true rfl, Nat.le_of_ble_eq_true rfl⟩) rfl rfl (Nat.le_of_ble_eq_true rfl) dX7_ordersThat_132 ⟨Nat.le_of_ble_eq_true rfl, Nat.le_of_ble_eq_true rfl⟩ ?_
        refine x_imul C (pc := 135) (v := (b s) * (facF (n - (cntB s 10) - 1))) dX7_ordersThat_135 rfl ?_
        refine x_goto C (pc := 136) (tgt := 140) dX7_ordersThat_136 (by decide) ?_
        have hst : (b, u + b s * facF (n - cntB s 10 - 1)) = moG (fun w => decide (rbF wi pd pi n w w ≤ rl)) (fun v => decide (d = -6) || decide (d = nI v)) n kk (w0G wy cw (2 ^ n)) (s + 1) := by rw [moG, hb1, hu1, if_neg hno, if_pos (show (fun w => decide (rbF wi pd pi n w w ≤ rl)) s = true from decide_eq_true (Int32.not_lt.mp c_96)), if_pos (show (fun v => decide (d = -6) || decide (d = nI v)) (cntB s 10 - kk) = true by dsimp only; first | (rw [decide_eq_true c_104]; rfl) | (rw [decide_eq_true c_110, Bool.or_true]))]
        refine x_iadd C (pc := 140) (v := u + ((b s) * (facF (n - (cntB s 10) - 1)))) dX7_ordersThat_140 rfl ?_
        refine x_istore C (pc := 141) [(4, .int (u + ((b s) * (facF (n - (cntB s 10) - 1))))), (6, .int (nI (cntB s 10 - kk))), (0, .ref (z + k)), (1, .int d), (2, .int (nI cw)), (3, .int (nI kk)), (5, .int (nI s))] dX7_ordersThat_141 (by decide) rfl ?_
        refine x_goto C (pc := 143) (tgt := 202) dX7_ordersThat_143 (by decide) ?_
        refine x_iinc C (pc := 202) 6 [(5, .int (nI (s + 1))), (4, .int (u + ((b s) * (facF (n - (cntB s 10) - 1))))), (6, .int (nI (cntB s 10 - kk))), (0, .ref (z + k)), (1, .int d), (2, .int (nI cw)), (3, .int (nI kk))] dX7_ordersThat_202 rfl (nI_inc s) (by decide) rfl ?_
        refine x_goto C (pc := 205) (tgt := 52) dX7_ordersThat_205 (by decide) ?_
        exact x_sub [3, 4, 5, 6, 1, 0] _ rfl (ih_52 (s + 1) b (u + ((b s) * (facF (n - (cntB s 10) - 1)))) G ⟨(by omega), hG, hst, hfr⟩ (by omega))
      refine x_iload_n C (pc := 107) 2 dX7_ordersThat_107 rfl ?_
      refine x_iload C (pc := 108) 0 dX7_ordersThat_108 rfl ?_
      refine x_icmp_ne C (pc := 110) (tgt := 139) dX7_ordersThat_110 (by decide) (fun c_110 => ?_) (fun c_110 => ?_)
      · refine x_iconst C (pc := 139) (v := 0) dX7_ordersThat_139 (by decide) ?_
        have hst : (b, u + 0) = moG (fun w => decide (rbF wi pd pi n w w ≤ rl)) (fun v => decide (d = -6) || decide (d = nI v)) n kk (w0G wy cw (2 ^ n)) (s + 1) := by rw [moG, hb1, hu1, if_neg hno, if_pos (show (fun w => decide (rbF wi pd pi n w w ≤ rl)) s = true from decide_eq_true (Int32.not_lt.mp c_96)), if_neg (show ¬ (fun v => decide (d = -6) || decide (d = nI v)) (cntB s 10 - kk) = true by dsimp only; rw [decide_eq_false c_104, decide_eq_false c_110]; decide)]
        refine x_iadd C (pc := 140) (v := u + 0) dX7_ordersThat_140 rfl ?_
        refine x_istore C (pc := 141) [(4, .int (u + 0)), (6, .int (nI (cntB s 10 - kk))), (0, .ref (z + k)), (1, .int d), (2, .int (nI cw)), (3, .int (nI kk)), (5, .int (nI s))] dX7_ordersThat_141 (by decide) rfl ?_
        refine x_goto C (pc := 143) (tgt := 202) dX7_ordersThat_143 (by decide) ?_
        refine x_iinc C (pc := 202) 6 [(5, .int (nI (s + 1))), (4, .int (u + 0)), (6, .int (nI (cntB s 10 - kk))), (0, .ref (z + k)), (1, .int d), (2, .int (nI cw)), (3, .int (nI kk))] dX7_ordersThat_202 rfl (nI_inc s) (by decide) rfl ?_
        refine x_goto C (pc := 205) (tgt := 52) dX7_ordersThat_205 (by decide) ?_
        exact x_sub [3, 4, 5, 6, 1, 0] _ rfl (ih_52 (s + 1) b (u + 0) G ⟨(by omega), hG, hst, hfr⟩ (by omega))
      refine x_aload_n C (pc := 113) 1 dX7_ordersThat_113 rfl ?_
      refine x_get C (pc := 114) (q := k) (v := .ref (z + (k + 6))) (ci := 7) rfl hn_X7_ordersThat_X7 7 (by decide) fl_X7_ordersThat_26 rfl (by omega) hG.ob rfl dX7_ordersThat_114 ?_
      refine x_iload C (pc := 117) 6 dX7_ordersThat_117 rfl ?_
      refine x_ialdE C (pc := 119) (q := k + 6) (j := s) (f := b) (by omega) hG.wy rfl (by omega) (by decide) dX7_ordersThat_119 ?_
      refine x_aload_n C (pc := 120) 1 dX7_ordersThat_120 rfl ?_
      refine x_get C (pc := 121) (q := k) (v := .ref (z + (k + 1))) (ci := 7) rfl hn_X7_ordersThat_X7 0 (by decide) fl_X7_ordersThat_7 rfl (by omega) hG.ob rfl dX7_ordersThat_121 ?_
      refine x_iconst C (pc := 124) (v := 0) dX7_ordersThat_124 (by decide) ?_
      refine x_ialdE C (pc := 125) (q := k + 1) (j := 0) (f := a) (by omega) hG.a rfl (by omega) (by decide) dX7_ordersThat_125 ?_
      refine x_eqi hA.1 ?_
      refine x_iload C (pc := 126) 6 dX7_ordersThat_126 rfl ?_
      refine x_cSiR C (pc := 128) (st := [.int (nI n), .int (b s), .int u]) (c_X7_many l D z cI cZ cP cR N G s (by omega)) (va_cwS 1 C.2.2.2.2.1 gX7_ordersThat_X7_many rfl rfl rfl hd_X7_many.2 ⟨Nat.le_of_ble_eq_true rfl, Nat.le_of_ble_eq_true rfl⟩) rfl rfl (Nat.le_of_ble_eq_true rfl) dX7_ordersThat_128 ⟨Nat.le_of_ble_eq_true rfl, Nat.le_of_ble_eq_true rfl⟩ ?_
      refine x_isub C (pc := 131) (v := nI (n - (cntB s 10))) dX7_ordersThat_131 (pk_sub (a := n) (b := cntB s 10) (by omega)) ?_
      refine x_cSiR C (pc := 132) (st := [.int (b s), .int u]) (c_X7_factorial l D z cI cZ cP cR N G (n - (cntB s 10)) (by omega)) (va_cwS 1 C.2.2.2.2.1 gX7_ordersThat_X7_factorial rfl rfl rfl hd_X7_factorial.2 ⟨Nat.le_of_ble_eq_true rfl, Nat.le_of_ble_eq_true rfl⟩) rfl rfl (Nat.le_of_ble_eq_true rfl) dX7_ordersThat_132 ⟨Nat.le_of_ble_eq_true rfl, Nat.le_of_ble_eq_true rfl⟩ ?_
      refine x_imul C (pc := 135) (v := (b s) * (facF (n - (cntB s 10) - 1))) dX7_ordersThat_135 rfl ?_
      refine x_goto C (pc := 136) (tgt := 140) dX7_ordersThat_136 (by decide) ?_
      have hst : (b, u + b s * facF (n - cntB s 10 - 1)) = moG (fun w => decide (rbF wi pd pi n w w ≤ rl)) (fun v => decide (d = -6) || decide (d = nI v)) n kk (w0G wy cw (2 ^ n)) (s + 1) := by rw [moG, hb1, hu1, if_neg hno, if_pos (show (fun w => decide (rbF wi pd pi n w w ≤ rl)) s = true from decide_eq_true (Int32.not_lt.mp c_96)), if_pos (show (fun v => decide (d = -6) || decide (d = nI v)) (cntB s 10 - kk) = true by dsimp only; first | (rw [decide_eq_true c_104]; rfl) | (rw [decide_eq_true c_110, Bool.or_true]))]
      refine x_iadd C (pc := 140) (v := u + ((b s) * (facF (n - (cntB s 10) - 1)))) dX7_ordersThat_140 rfl ?_
      refine x_istore C (pc := 141) [(4, .int (u + ((b s) * (facF (n - (cntB s 10) - 1))))), (6, .int (nI (cntB s 10 - kk))), (0, .ref (z + k)), (1, .int d), (2, .int (nI cw)), (3, .int (nI kk)), (5, .int (nI s))] dX7_ordersThat_141 (by decide) rfl ?_
      refine x_goto C (pc := 143) (tgt := 202) dX7_ordersThat_143 (by decide) ?_
      refine x_iinc C (pc := 202) 6 [(5, .int (nI (s + 1))), (4, .int (u + ((b s) * (facF (n - (cntB s 10) - 1))))), (6, .int (nI (cntB s 10 - kk))), (0, .ref (z + k)), (1, .int d), (2, .int (nI cw)), (3, .int (nI kk))] dX7_ordersThat_202 rfl (nI_inc s) (by decide) rfl ?_
      refine x_goto C (pc := 205) (tgt := 52) dX7_ordersThat_205 (by decide) ?_
      exact x_sub [3, 4, 5, 6, 1, 0] _ rfl (ih_52 (s + 1) b (u + ((b s) * (facF (n - (cntB s 10) - 1)))) G ⟨(by omega), hG, hst, hfr⟩ (by omega))
    have hst : (b, u) = moG (fun w => decide (rbF wi pd pi n w w ≤ rl)) (fun v => decide (d = -6) || decide (d = nI v)) n kk (w0G wy cw (2 ^ n)) (s + 1) := by rw [moG, hb1, if_pos c_68]; exact hbu
    refine x_goto C (pc := 71) (tgt := 202) dX7_ordersThat_71 (by decide) ?_
    refine x_iinc C (pc := 202) 5 [(5, .int (nI (s + 1))), (0, .ref (z + k)), (1, .int d), (2, .int (nI cw)), (3, .int (nI kk)), (4, .int u)] dX7_ordersThat_202 rfl (nI_inc s) (by decide) rfl ?_
    refine x_goto C (pc := 205) (tgt := 52) dX7_ordersThat_205 (by decide) ?_
    exact x_sub [1, 2, 3, 4, 5, 0] _ rfl (ih_52 (s + 1) b u G ⟨(by omega), hG, hst, hfr⟩ (by omega))
  refine x_aload_n C (pc := 25) 0 dX7_ordersThat_25 rfl ?_
  refine x_get C (pc := 26) (q := k) (v := .ref (z + (k + 6))) (ci := 7) rfl hn_X7_ordersThat_X7 7 (by decide) fl_X7_ordersThat_26 rfl (by omega) hG.ob rfl dX7_ordersThat_26 ?_
  refine x_iload C (pc := 29) 5 dX7_ordersThat_29 rfl ?_
  refine x_iload C (pc := 31) 5 dX7_ordersThat_31 rfl ?_
  refine x_iload_n C (pc := 33) 2 dX7_ordersThat_33 rfl ?_
  refine x_icmpN_ne C (a := j) (b := cw) (pc := 34) (tgt := 41) (by omega) (by omega) dX7_ordersThat_34 (by decide) (fun c_34 => ?_) (fun c_34 => ?_)
  · refine x_iconst C (pc := 41) (v := 0) dX7_ordersThat_41 (by decide) ?_
    refine xw_isMod_wy C (pc := 42) (j := j) hG (by omega) rfl (by omega) dX7_ordersThat_42 (fun F_42 hG_42 fr_42 => ?_)
    refine x_iinc C (pc := 43) 5 [(5, .int (nI (j + 1))), (0, .ref (z + k)), (1, .int d), (2, .int (nI cw)), (3, .int (nI kk)), (4, .int 0)] dX7_ordersThat_43 rfl (nI_inc j) (by decide) rfl ?_
    refine x_goto C (pc := 46) (tgt := 16) dX7_ordersThat_46 (by decide) ?_
    exact x_sub [1, 2, 3, 4, 5, 0] _ rfl (ih_16 (j + 1) F_42 ⟨(by omega), (by first | (rw [← w0G_up1 c_34]; exact hG_42) | (rw [← w0G_up0 c_34]; exact hG_42)), (gFr.t2 hfr fr_42)⟩ (by omega))
  refine x_iconst C (pc := 37) (v := 1) dX7_ordersThat_37 (by decide) ?_
  refine x_goto C (pc := 38) (tgt := 42) dX7_ordersThat_38 (by decide) ?_
  refine xw_isMod_wy C (pc := 42) (j := j) hG (by omega) rfl (by omega) dX7_ordersThat_42 (fun F_42 hG_42 fr_42 => ?_)
  refine x_iinc C (pc := 43) 5 [(5, .int (nI (j + 1))), (0, .ref (z + k)), (1, .int d), (2, .int (nI cw)), (3, .int (nI kk)), (4, .int 0)] dX7_ordersThat_43 rfl (nI_inc j) (by decide) rfl ?_
  refine x_goto C (pc := 46) (tgt := 16) dX7_ordersThat_46 (by decide) ?_
  exact x_sub [1, 2, 3, 4, 5, 0] _ rfl (ih_16 (j + 1) F_42 ⟨(by omega), (by first | (rw [← w0G_up1 c_34]; exact hG_42) | (rw [← w0G_up0 c_34]; exact hG_42)), (gFr.t2 hfr fr_42)⟩ (by omega))
set_option maxHeartbeats 4000000 in
set_option maxRecDepth 100000 in
theorem c_X7_orders_e1 (l : Launch) (D : va_G) (z : Nat) (cI cZ cP cR : ClassId) (N : Nat) (F : Nat → va_E) (k : Nat) (pf pm pn spt wrg rd : Int32) (a ps sl sv sd wy pa nu : Nat → Int32) (n kk cw c0 : Nat) (wi rl sp : Int32) (pd : Nat → Nat → Int32) (od : Nat → Int32) (d : Int32) (hM : isMod z cI cZ F k pf pm pn spt wrg rd a ps sl sv sd wy pa nu) (hk : k + 9 ≤ N) (hA : mA a n kk cw c0 wi rl sp pd od) (hv : inB d 0 10 = false) : gMi l yX7_orders wsX7_orders ({ frames := 1, cells := 0, slots := 0, locals := 22 }) D z cI cZ cP cR N F [.ref (z + k), .int d] (gRes (-2) N (fun F2 => F2 = F)) 0 0 := by
  refine gMi.of (cc := cX7_orders) (maxL := 2) (ret := (some .int)) (by decide) rfl (Nat.le_of_ble_eq_true rfl) [(0, .ref (z + k)), (1, .int d)] rfl ?_
  intro pg ev sg mg bel me cg C hR0
  obtain ⟨ha0, ha1, ha2, ha3, ha4, hpd, hpl, hn, hkk, hcw, hcnt, hc0, hsp, hrl, hwi, hod⟩ := id hA
  have h2n := two_lt hn
  refine x_iload_n C (pc := 0) 1 dX7_orders_0 rfl ?_
  refine x_iconst C (pc := 1) (v := 0) dX7_orders_1 (by decide) ?_
  refine x_bipush C (pc := 2) (v := 10) dX7_orders_2 (by decide) ?_
  refine x_cSiR C (pc := 4) (st := []) (c_X7_in l D z cI cZ cP cR N F d 0 10) (va_cwS 3 C.2.2.2.2.1 gX7_orders_X7_in rfl rfl rfl hd_X7_in.2 ⟨Nat.le_of_ble_eq_true rfl, Nat.le_of_ble_eq_true rfl⟩) rfl rfl (Nat.le_of_ble_eq_true rfl) dX7_orders_4 ⟨Nat.le_of_ble_eq_true rfl, Nat.le_of_ble_eq_true rfl⟩ ?_
  refine x_bz_ne C (pc := 7) (tgt := 13) dX7_orders_7 (by decide) (fun c_7 => absurd c_7 (by rw [hv]; decide)) (fun c_7 => ?_)
  refine x_bipush C (pc := 10) (v := (-2)) dX7_orders_10 (by decide) ?_
  exact x_iret C hR0 rfl (Nat.le_of_ble_eq_true rfl) (Nat.le_of_ble_eq_true rfl) ⟨rfl, rfl, rfl⟩ dX7_orders_12
set_option maxHeartbeats 4000000 in
set_option maxRecDepth 100000 in
theorem c_X7_orders_e2 (l : Launch) (D : va_G) (z : Nat) (cI cZ cP cR : ClassId) (N : Nat) (F : Nat → va_E) (k : Nat) (pf pm pn spt wrg rd : Int32) (a ps sl sv sd wy pa nu : Nat → Int32) (n kk cw c0 : Nat) (wi rl sp : Int32) (pd : Nat → Nat → Int32) (od : Nat → Int32) (d : Int32) (hM : isMod z cI cZ F k pf pm pn spt wrg rd a ps sl sv sd wy pa nu) (hk : k + 9 ≤ N) (hA : mA a n kk cw c0 wi rl sp pd od) (hv : inB d 0 10 = true) (hw : hwB wi = false) : gMi l yX7_orders wsX7_orders ({ frames := 2, cells := 0, slots := 0, locals := 44 }) D z cI cZ cP cR N F [.ref (z + k), .int d] (gRes (-5) N (fun F2 => F2 = F)) 0 0 := by
  refine gMi.of (cc := cX7_orders) (maxL := 2) (ret := (some .int)) (by decide) rfl (Nat.le_of_ble_eq_true rfl) [(0, .ref (z + k)), (1, .int d)] rfl ?_
  intro pg ev sg mg bel me cg C hR0
  obtain ⟨ha0, ha1, ha2, ha3, ha4, hpd, hpl, hn, hkk, hcw, hcnt, hc0, hsp, hrl, hwi, hod⟩ := id hA
  have h2n := two_lt hn
  refine x_iload_n C (pc := 0) 1 dX7_orders_0 rfl ?_
  refine x_iconst C (pc := 1) (v := 0) dX7_orders_1 (by decide) ?_
  refine x_bipush C (pc := 2) (v := 10) dX7_orders_2 (by decide) ?_
  refine x_cSiR C (pc := 4) (st := []) (c_X7_in l D z cI cZ cP cR N F d 0 10) (va_cwS 3 C.2.2.2.2.1 gX7_orders_X7_in rfl rfl rfl hd_X7_in.2 ⟨Nat.le_of_ble_eq_true rfl, Nat.le_of_ble_eq_true rfl⟩) rfl rfl (Nat.le_of_ble_eq_true rfl) dX7_orders_4 ⟨Nat.le_of_ble_eq_true rfl, Nat.le_of_ble_eq_true rfl⟩ ?_
  refine x_bz_ne C (pc := 7) (tgt := 13) dX7_orders_7 (by decide) (fun c_7 => ?_) (fun c_7 => absurd c_7 (by rw [hv]; decide))
  refine x_aload_n C (pc := 13) 0 dX7_orders_13 rfl ?_
  refine x_cViR C (pc := 14) (st := []) (c_X7_winner l D z cI cZ cP cR N F k pf pm pn spt wrg rd a ps sl sv sd wy pa nu n kk cw c0 wi rl sp pd od  hM (by omega) hA ) (cwV 0 C.2.2.2.2.1 gX7_orders_X7_winner rfl rfl rfl hd_X7_winner ⟨Nat.le_of_ble_eq_true rfl, Nat.le_of_ble_eq_true rfl⟩) (by omega) hM.ob rfl rfl rfl (Nat.le_of_ble_eq_true rfl) dX7_orders_14 ⟨Nat.le_of_ble_eq_true rfl, Nat.le_of_ble_eq_true rfl⟩ ?_
  refine x_if_ge C (pc := 17) (tgt := 25) dX7_orders_17 (by decide) (fun c_17 => absurd c_17 (Int32.not_le.mpr ((win_lt hwi).mpr hw))) (fun c_17 => ?_)
  refine x_bipush C (pc := 20) (v := (-5)) dX7_orders_20 (by decide) ?_
  refine x_goto C (pc := 22) (tgt := 30) dX7_orders_22 (by decide) ?_
  exact x_iret C hR0 rfl (Nat.le_of_ble_eq_true rfl) (Nat.le_of_ble_eq_true rfl) ⟨rfl, rfl, rfl⟩ dX7_orders_30
set_option maxHeartbeats 4000000 in
set_option maxRecDepth 100000 in
theorem c_X7_orders_s (l : Launch) (D : va_G) (z : Nat) (cI cZ cP cR : ClassId) (N : Nat) (F : Nat → va_E) (k : Nat) (pf pm pn spt wrg rd : Int32) (a ps sl sv sd wy pa nu : Nat → Int32) (n kk cw c0 : Nat) (wi rl sp : Int32) (pd : Nat → Nat → Int32) (od : Nat → Int32) (d : Int32) (pi : Nat → Nat) (hM : isMod z cI cZ F k pf pm pn spt wrg rd a ps sl sv sd wy pa nu) (hk : k + 9 ≤ N) (hA : mA a n kk cw c0 wi rl sp pd od) (hv : inB d 0 10 = true) (hwb : hwB wi = true) (hpi : rkPi (fun i => swF wi (pd i)) n pi) : gMi l yX7_orders wsX7_orders ({ frames := 9, cells := 0, slots := 0, locals := 208 }) D z cI cZ cP cR N F [.ref (z + k), .int d] (gRes ((moG (fun w => decide (rbF wi pd pi n w w ≤ rl)) (fun v => decide (d = -6) || decide (d = nI v)) n kk (w0G wy cw (2 ^ n)) (2 ^ n)).2) N (fun F2 => ∃ wy2 : Nat → Int32, isMod z cI cZ F2 k pf pm pn spt wrg rd a ps sl sv sd wy2 pa nu ∧ gFr k (k + 9) F F2)) 0 0 := by
  refine gMi.of (cc := cX7_orders) (maxL := 2) (ret := (some .int)) (by decide) rfl (Nat.le_of_ble_eq_true rfl) [(0, .ref (z + k)), (1, .int d)] rfl ?_
  intro pg ev sg mg bel me cg C hR0
  obtain ⟨ha0, ha1, ha2, ha3, ha4, hpd, hpl, hn, hkk, hcw, hcnt, hc0, hsp, hrl, hwi, hod⟩ := id hA
  have h2n := two_lt hn
  refine x_iload_n C (pc := 0) 1 dX7_orders_0 rfl ?_
  refine x_iconst C (pc := 1) (v := 0) dX7_orders_1 (by decide) ?_
  refine x_bipush C (pc := 2) (v := 10) dX7_orders_2 (by decide) ?_
  refine x_cSiR C (pc := 4) (st := []) (c_X7_in l D z cI cZ cP cR N F d 0 10) (va_cwS 3 C.2.2.2.2.1 gX7_orders_X7_in rfl rfl rfl hd_X7_in.2 ⟨Nat.le_of_ble_eq_true rfl, Nat.le_of_ble_eq_true rfl⟩) rfl rfl (Nat.le_of_ble_eq_true rfl) dX7_orders_4 ⟨Nat.le_of_ble_eq_true rfl, Nat.le_of_ble_eq_true rfl⟩ ?_
  refine x_bz_ne C (pc := 7) (tgt := 13) dX7_orders_7 (by decide) (fun c_7 => ?_) (fun c_7 => absurd c_7 (by rw [hv]; decide))
  refine x_aload_n C (pc := 13) 0 dX7_orders_13 rfl ?_
  refine x_cViR C (pc := 14) (st := []) (c_X7_winner l D z cI cZ cP cR N F k pf pm pn spt wrg rd a ps sl sv sd wy pa nu n kk cw c0 wi rl sp pd od  hM (by omega) hA ) (cwV 0 C.2.2.2.2.1 gX7_orders_X7_winner rfl rfl rfl hd_X7_winner ⟨Nat.le_of_ble_eq_true rfl, Nat.le_of_ble_eq_true rfl⟩) (by omega) hM.ob rfl rfl rfl (Nat.le_of_ble_eq_true rfl) dX7_orders_14 ⟨Nat.le_of_ble_eq_true rfl, Nat.le_of_ble_eq_true rfl⟩ ?_
  refine x_if_ge C (pc := 17) (tgt := 25) dX7_orders_17 (by decide) (fun c_17 => ?_) (fun c_17 => absurd c_17 (not_not_intro (win_ge hwi hwb)))
  refine x_aload_n C (pc := 25) 0 dX7_orders_25 rfl ?_
  refine x_iload_n C (pc := 26) 1 dX7_orders_26 rfl ?_
  refine x_cViE C (pc := 27) (st := []) (c_X7_ordersThat l D z cI cZ cP cR N F k pf pm pn spt wrg rd a ps sl sv sd wy pa nu n kk cw c0 wi rl sp pd od d pi hM (by omega) hA hwb hpi) (cwV 1 C.2.2.2.2.1 gX7_orders_X7_ordersThat rfl rfl rfl hd_X7_ordersThat ⟨Nat.le_of_ble_eq_true rfl, Nat.le_of_ble_eq_true rfl⟩) (by omega) hM.ob rfl rfl rfl (Nat.le_of_ble_eq_true rfl) dX7_orders_27 ⟨Nat.le_of_ble_eq_true rfl, Nat.le_of_ble_eq_true rfl⟩ (fun F_27 h_27 => ?_)
  obtain ⟨wy_27, hM_27, fr_27⟩ := h_27
  exact x_iret C hR0 rfl (Nat.le_of_ble_eq_true rfl) (Nat.le_of_ble_eq_true rfl) ⟨rfl, rfl, ⟨_, hM_27, fr_27⟩⟩ dX7_orders_30
set_option maxHeartbeats 4000000 in
set_option maxRecDepth 100000 in
theorem c_X7_wrongOrders_e (l : Launch) (D : va_G) (z : Nat) (cI cZ cP cR : ClassId) (N : Nat) (F : Nat → va_E) (k : Nat) (pf pm pn spt wrg rd : Int32) (a ps sl sv sd wy pa nu : Nat → Int32) (n kk cw c0 : Nat) (wi rl sp : Int32) (pd : Nat → Nat → Int32) (od : Nat → Int32) (hM : isMod z cI cZ F k pf pm pn spt wrg rd a ps sl sv sd wy pa nu) (hk : k + 9 ≤ N) (hA : mA a n kk cw c0 wi rl sp pd od) (hw : hwB wi = false) : gMi l yX7_wrongOrders wsX7_wrongOrders ({ frames := 2, cells := 0, slots := 0, locals := 44 }) D z cI cZ cP cR N F [.ref (z + k)] (gRes (-5) N (fun F2 => F2 = F)) 0 0 := by
  refine gMi.of (cc := cX7_wrongOrders) (maxL := 1) (ret := (some .int)) (by decide) rfl (Nat.le_of_ble_eq_true rfl) [(0, .ref (z + k))] rfl ?_
  intro pg ev sg mg bel me cg C hR0
  obtain ⟨ha0, ha1, ha2, ha3, ha4, hpd, hpl, hn, hkk, hcw, hcnt, hc0, hsp, hrl, hwi, hod⟩ := id hA
  have h2n := two_lt hn
  refine x_aload_n C (pc := 0) 0 dX7_wrongOrders_0 rfl ?_
  refine x_cViR C (pc := 1) (st := []) (c_X7_winner l D z cI cZ cP cR N F k pf pm pn spt wrg rd a ps sl sv sd wy pa nu n kk cw c0 wi rl sp pd od  hM (by omega) hA ) (cwV 0 C.2.2.2.2.1 gX7_wrongOrders_X7_winner rfl rfl rfl hd_X7_winner ⟨Nat.le_of_ble_eq_true rfl, Nat.le_of_ble_eq_true rfl⟩) (by omega) hM.ob rfl rfl rfl (Nat.le_of_ble_eq_true rfl) dX7_wrongOrders_1 ⟨Nat.le_of_ble_eq_true rfl, Nat.le_of_ble_eq_true rfl⟩ ?_
  refine x_if_ge C (pc := 4) (tgt := 12) dX7_wrongOrders_4 (by decide) (fun c_4 => absurd c_4 (Int32.not_le.mpr ((win_lt hwi).mpr hw))) (fun c_4 => ?_)
  refine x_bipush C (pc := 7) (v := (-5)) dX7_wrongOrders_7 (by decide) ?_
  refine x_goto C (pc := 9) (tgt := 29) dX7_wrongOrders_9 (by decide) ?_
  exact x_iret C hR0 rfl (Nat.le_of_ble_eq_true rfl) (Nat.le_of_ble_eq_true rfl) ⟨rfl, rfl, rfl⟩ dX7_wrongOrders_29
set_option maxHeartbeats 4000000 in
set_option maxRecDepth 100000 in
theorem c_X7_wrongOrders_z (l : Launch) (D : va_G) (z : Nat) (cI cZ cP cR : ClassId) (N : Nat) (F : Nat → va_E) (k : Nat) (pf pm pn spt wrg rd : Int32) (a ps sl sv sd wy pa nu : Nat → Int32) (n kk cw c0 : Nat) (wi rl sp : Int32) (pd : Nat → Nat → Int32) (od : Nat → Int32) (hM : isMod z cI cZ F k pf pm pn spt wrg rd a ps sl sv sd wy pa nu) (hk : k + 9 ≤ N) (hA : mA a n kk cw c0 wi rl sp pd od) (hwb : hwB wi = true) (hr : decide (0 < leadF wi pd n (2 ^ n - 1)) = true) : gMi l yX7_wrongOrders wsX7_wrongOrders ({ frames := 7, cells := 0, slots := 0, locals := 152 }) D z cI cZ cP cR N F [.ref (z + k)] (gRes 0 N (fun F2 => F2 = F)) 0 0 := by
  refine gMi.of (cc := cX7_wrongOrders) (maxL := 1) (ret := (some .int)) (by decide) rfl (Nat.le_of_ble_eq_true rfl) [(0, .ref (z + k))] rfl ?_
  intro pg ev sg mg bel me cg C hR0
  obtain ⟨ha0, ha1, ha2, ha3, ha4, hpd, hpl, hn, hkk, hcw, hcnt, hc0, hsp, hrl, hwi, hod⟩ := id hA
  have h2n := two_lt hn
  refine x_aload_n C (pc := 0) 0 dX7_wrongOrders_0 rfl ?_
  refine x_cViR C (pc := 1) (st := []) (c_X7_winner l D z cI cZ cP cR N F k pf pm pn spt wrg rd a ps sl sv sd wy pa nu n kk cw c0 wi rl sp pd od  hM (by omega) hA ) (cwV 0 C.2.2.2.2.1 gX7_wrongOrders_X7_winner rfl rfl rfl hd_X7_winner ⟨Nat.le_of_ble_eq_true rfl, Nat.le_of_ble_eq_true rfl⟩) (by omega) hM.ob rfl rfl rfl (Nat.le_of_ble_eq_true rfl) dX7_wrongOrders_1 ⟨Nat.le_of_ble_eq_true rfl, Nat.le_of_ble_eq_true rfl⟩ ?_
  refine x_if_ge C (pc := 4) (tgt := 12) dX7_wrongOrders_4 (by decide) (fun c_4 => ?_) (fun c_4 => absurd c_4 (not_not_intro (win_ge hwi hwb)))
  refine x_aload_n C (pc := 12) 0 dX7_wrongOrders_12 rfl ?_
  refine x_cViR C (pc := 13) (st := []) (c_X7_isRight l D z cI cZ cP cR N F k pf pm pn spt wrg rd a ps sl sv sd wy pa nu n kk cw c0 wi rl sp pd od  hM (by omega) hA ) (cwV 0 C.2.2.2.2.1 gX7_wrongOrders_X7_isRight rfl rfl rfl hd_X7_isRight ⟨Nat.le_of_ble_eq_true rfl, Nat.le_of_ble_eq_true rfl⟩) (by omega) hM.ob rfl rfl rfl (Nat.le_of_ble_eq_true rfl) dX7_wrongOrders_13 ⟨Nat.le_of_ble_eq_true rfl, Nat.le_of_ble_eq_true rfl⟩ ?_
  refine x_bz_eq C (pc := 16) (tgt := 23) dX7_wrongOrders_16 (by decide) (fun c_16 => absurd c_16 (by rw [hr]; decide)) (fun c_16 => ?_)
  refine x_iconst C (pc := 19) (v := 0) dX7_wrongOrders_19 (by decide) ?_
  refine x_goto C (pc := 20) (tgt := 29) dX7_wrongOrders_20 (by decide) ?_
  exact x_iret C hR0 rfl (Nat.le_of_ble_eq_true rfl) (Nat.le_of_ble_eq_true rfl) ⟨rfl, rfl, rfl⟩ dX7_wrongOrders_29
set_option maxHeartbeats 4000000 in
set_option maxRecDepth 100000 in
theorem c_X7_wrongOrders_s (l : Launch) (D : va_G) (z : Nat) (cI cZ cP cR : ClassId) (N : Nat) (F : Nat → va_E) (k : Nat) (pf pm pn spt wrg rd : Int32) (a ps sl sv sd wy pa nu : Nat → Int32) (n kk cw c0 : Nat) (wi rl sp : Int32) (pd : Nat → Nat → Int32) (od : Nat → Int32) (pi : Nat → Nat) (hM : isMod z cI cZ F k pf pm pn spt wrg rd a ps sl sv sd wy pa nu) (hk : k + 9 ≤ N) (hA : mA a n kk cw c0 wi rl sp pd od) (hwb : hwB wi = true) (hr : decide (0 < leadF wi pd n (2 ^ n - 1)) = false) (hpi : rkPi (fun i => swF wi (pd i)) n pi) : gMi l yX7_wrongOrders wsX7_wrongOrders ({ frames := 9, cells := 0, slots := 0, locals := 208 }) D z cI cZ cP cR N F [.ref (z + k)] (gRes ((moG (fun w => decide (rbF wi pd pi n w w ≤ rl)) (fun v => decide ((-6 : Int32) = -6) || decide ((-6 : Int32) = nI v)) n kk (w0G wy cw (2 ^ n)) (2 ^ n)).2) N (fun F2 => ∃ wy2 : Nat → Int32, isMod z cI cZ F2 k pf pm pn spt wrg rd a ps sl sv sd wy2 pa nu ∧ gFr k (k + 9) F F2)) 0 0 := by
  refine gMi.of (cc := cX7_wrongOrders) (maxL := 1) (ret := (some .int)) (by decide) rfl (Nat.le_of_ble_eq_true rfl) [(0, .ref (z + k))] rfl ?_
  intro pg ev sg mg bel me cg C hR0
  obtain ⟨ha0, ha1, ha2, ha3, ha4, hpd, hpl, hn, hkk, hcw, hcnt, hc0, hsp, hrl, hwi, hod⟩ := id hA
  have h2n := two_lt hn
  refine x_aload_n C (pc := 0) 0 dX7_wrongOrders_0 rfl ?_
  refine x_cViR C (pc := 1) (st := []) (c_X7_winner l D z cI cZ cP cR N F k pf pm pn spt wrg rd a ps sl sv sd wy pa nu n kk cw c0 wi rl sp pd od  hM (by omega) hA ) (cwV 0 C.2.2.2.2.1 gX7_wrongOrders_X7_winner rfl rfl rfl hd_X7_winner ⟨Nat.le_of_ble_eq_true rfl, Nat.le_of_ble_eq_true rfl⟩) (by omega) hM.ob rfl rfl rfl (Nat.le_of_ble_eq_true rfl) dX7_wrongOrders_1 ⟨Nat.le_of_ble_eq_true rfl, Nat.le_of_ble_eq_true rfl⟩ ?_
  refine x_if_ge C (pc := 4) (tgt := 12) dX7_wrongOrders_4 (by decide) (fun c_4 => ?_) (fun c_4 => absurd c_4 (not_not_intro (win_ge hwi hwb)))
  refine x_aload_n C (pc := 12) 0 dX7_wrongOrders_12 rfl ?_
  refine x_cViR C (pc := 13) (st := []) (c_X7_isRight l D z cI cZ cP cR N F k pf pm pn spt wrg rd a ps sl sv sd wy pa nu n kk cw c0 wi rl sp pd od  hM (by omega) hA ) (cwV 0 C.2.2.2.2.1 gX7_wrongOrders_X7_isRight rfl rfl rfl hd_X7_isRight ⟨Nat.le_of_ble_eq_true rfl, Nat.le_of_ble_eq_true rfl⟩) (by omega) hM.ob rfl rfl rfl (Nat.le_of_ble_eq_true rfl) dX7_wrongOrders_13 ⟨Nat.le_of_ble_eq_true rfl, Nat.le_of_ble_eq_true rfl⟩ ?_
  refine x_bz_eq C (pc := 16) (tgt := 23) dX7_wrongOrders_16 (by decide) (fun c_16 => ?_) (fun c_16 => absurd c_16 (by rw [hr]; decide))
  refine x_aload_n C (pc := 23) 0 dX7_wrongOrders_23 rfl ?_
  refine x_bipush C (pc := 24) (v := (-6)) dX7_wrongOrders_24 (by decide) ?_
  refine x_cViE C (pc := 26) (st := []) (c_X7_ordersThat l D z cI cZ cP cR N F k pf pm pn spt wrg rd a ps sl sv sd wy pa nu n kk cw c0 wi rl sp pd od (-6) pi hM (by omega) hA hwb hpi) (cwV 1 C.2.2.2.2.1 gX7_wrongOrders_X7_ordersThat rfl rfl rfl hd_X7_ordersThat ⟨Nat.le_of_ble_eq_true rfl, Nat.le_of_ble_eq_true rfl⟩) (by omega) hM.ob rfl rfl rfl (Nat.le_of_ble_eq_true rfl) dX7_wrongOrders_26 ⟨Nat.le_of_ble_eq_true rfl, Nat.le_of_ble_eq_true rfl⟩ (fun F_26 h_26 => ?_)
  obtain ⟨wy_26, hM_26, fr_26⟩ := h_26
  exact x_iret C hR0 rfl (Nat.le_of_ble_eq_true rfl) (Nat.le_of_ble_eq_true rfl) ⟨rfl, rfl, ⟨_, hM_26, fr_26⟩⟩ dX7_wrongOrders_29
