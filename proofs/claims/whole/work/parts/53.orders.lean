/-! the class's orders are the reference's -/
def wrel (n cw : Nat) (WM WC : Nat → Int32) : Prop := ∀ w, w < 2 ^ n → WM w = if w &&& cw = cw then WC (w ^^^ cw) else 0
def sumS (sel : Nat → Bool) (O : Nat → Int32) : Nat → Int32
  | 0 => 0
  | v + 1 => sumS sel O v + (if sel v = true then O v else 0)
theorem sumS_up {sel : Nat → Bool} {O : Nat → Int32} {c : Nat} {x : Int32} : ∀ m, sumS sel (upd O c (O c + x)) m = sumS sel O m + (if c < m ∧ sel c = true then x else 0) := by
  intro m
  induction m with
  | zero => rw [if_neg (by omega), Int32.add_zero]; rfl
  | succ m ih =>
    rw [sumS, sumS, ih]
    by_cases e : m = c
    · subst e
      have e1 : (if m < m ∧ sel m = true then x else 0) = 0 := if_neg (fun q => Nat.lt_irrefl _ q.1)
      rw [e1, pk_us]
      by_cases hs : sel m = true
      · have e3 : (if m < m + 1 ∧ sel m = true then x else 0) = x := if_pos ⟨Nat.lt_succ_self m, hs⟩
        rw [e3, if_pos hs, if_pos hs, Int32.add_zero, Int32.add_assoc]
      · have e3 : (if m < m + 1 ∧ sel m = true then x else 0) = 0 := if_neg (fun q => hs q.2)
        rw [e3, if_neg hs, if_neg hs]
        first | done | simp only [Int32.add_zero]
    · have e2 : (if c < m + 1 ∧ sel c = true then x else 0) = (if c < m ∧ sel c = true then x else 0) := by
        by_cases h : c < m ∧ sel c = true
        · exact (if_pos ⟨Nat.lt_succ_of_lt h.1, h.2⟩).trans (if_pos h).symm
        · exact (if_neg (fun q => h ⟨by omega, q.2⟩)).trans (if_neg h).symm
      rw [pk_un e, e2]
      generalize (if c < m ∧ sel c = true then x else 0) = B
      generalize (if sel m = true then O m else 0) = D
      rw [Int32.add_assoc, Int32.add_comm B D, ← Int32.add_assoc]
theorem or_or2 (a b c : Nat) : (a ||| b) ||| c = a ||| (b ||| c) := Nat.or_assoc a b c
theorem goW_rel {n cw s : Nat} {WM WC : Nat → Int32} (hn : n ≤ 10) (hcw : cw < 2 ^ n) (hs : s < 2 ^ n) (hd : s &&& cw = 0) (h : wrel n cw WM WC) : ∀ i, i ≤ n → wrel n cw (goW (cw ||| s) (cw ||| s) WM i) (goW (cw ||| s) s WC i) := by
  intro i
  induction i with
  | zero => exact fun _ => h
  | succ i ih =>
    intro hi w hw
    have ihi := ih (by omega)
    rw [goW, goW]
    by_cases hb : (cw ||| s).testBit i = true
    · rw [if_pos hb, if_pos hb]; exact ihi w hw
    · rw [if_neg hb, if_neg hb]
      obtain ⟨g1, g2⟩ := dis_or hd
      have hbn : cw.testBit i = false ∧ s.testBit i = false := by
        rw [Nat.testBit_or] at hb
        cases h1 : cw.testBit i <;> cases h2 : s.testBit i <;> simp_all
      have h2i : 2 ^ i < 2 ^ n := Nat.pow_lt_pow_right (by decide) (by omega)
      have hd2 : (s ||| 2 ^ i) &&& cw = 0 := by
        apply Nat.eq_of_testBit_eq
        intro q
        have h3 : (s &&& cw).testBit q = false := by rw [hd, Nat.zero_testBit]
        rw [Nat.testBit_and] at h3
        rw [Nat.testBit_and, Nat.testBit_or, Nat.testBit_two_pow, Nat.zero_testBit]
        by_cases e : i = q
        · subst e; rw [hbn.1]; simp
        · simp [e]; simpa using h3
      obtain ⟨k1, k2⟩ := dis_or hd2
      rw [← or_or2] at k1 k2
      have hor : cw ||| s ||| 2 ^ i < 2 ^ n := Nat.or_lt_two_pow (Nat.or_lt_two_pow hcw hs) h2i
      by_cases e : w = cw ||| s ||| 2 ^ i
      · subst e
        rw [pk_us, if_pos k1, k2, pk_us, ihi _ hor, if_pos k1, k2, ihi _ (Nat.or_lt_two_pow hcw hs), if_pos g1, g2]
      · rw [pk_un e, ihi w hw]
        by_cases hwc : w &&& cw = cw
        · rw [if_pos hwc, if_pos hwc, pk_un]
          intro q
          apply e
          have := (sup_xor hwc).2
          rw [q, ← or_or2] at this
          exact this.symm
        · rw [if_neg hwc, if_neg hwc]
theorem mod_step (w j : Nat) : w % 2 ^ (j + 1) = w % 2 ^ j + (if w.testBit j = true then 2 ^ j else 0) := by
  rw [Nat.mod_pow_succ, Nat.testBit_eq_decide_div_mod_eq]
  have h : w / 2 ^ j % 2 = 0 ∨ w / 2 ^ j % 2 = 1 := by omega
  rcases h with h | h <;> rw [h] <;> simp
theorem or_mod {s cw : Nat} (h : s &&& cw = 0) : ∀ j, (cw ||| s) % 2 ^ j = cw % 2 ^ j + s % 2 ^ j := by
  intro j
  induction j with
  | zero => rw [Nat.pow_zero, Nat.mod_one, Nat.mod_one, Nat.mod_one]
  | succ j ih =>
    have h2 : (s &&& cw).testBit j = false := by rw [h, Nat.zero_testBit]
    rw [Nat.testBit_and] at h2
    rw [mod_step, mod_step cw, mod_step s, ih, Nat.testBit_or]
    cases hc : cw.testBit j <;> cases hs : s.testBit j
    · simp
    · simp; omega
    · simp; omega
    · rw [hc, hs] at h2; cases h2
theorem or_add {s cw : Nat} (h : s &&& cw = 0) : cw ||| s = cw + s := by
  have e := or_mod h ((cw ||| s) + cw + s)
  have l : ∀ x, x ≤ (cw ||| s) + cw + s → x < 2 ^ ((cw ||| s) + cw + s) := fun x hx => Nat.lt_of_le_of_lt hx Nat.lt_two_pow_self
  rw [Nat.mod_eq_of_lt (l _ (by omega)), Nat.mod_eq_of_lt (l _ (by omega)), Nat.mod_eq_of_lt (l _ (by omega))] at e
  exact e
theorem sumS_0 {sel : Nat → Bool} : ∀ m, sumS sel (fun _ => 0) m = 0 := by
  intro m
  induction m with
  | zero => rfl
  | succ m ih =>
    rw [sumS, ih, Int32.zero_add]
    split <;> rfl
theorem or_lt_iff {s t cw : Nat} (hs : s &&& cw = 0) (ht : t &&& cw = 0) : cw ||| s < cw ||| t ↔ s < t := by
  rw [or_add hs, or_add ht]; omega
section FO
variable (stop : Nat → Bool) (sel : Nat → Bool) {n kk cw : Nat} (wy : Nat → Int32)
theorem fo_rel (hn : n ≤ 10) (hcw : cw < 2 ^ n) (hcnt : cntB cw n = kk) : ∀ k m j, m + j ≤ k → m ≤ 2 ^ n → j ≤ 2 ^ n → (∀ s, s < 2 ^ n → s &&& cw = 0 → (s < j ↔ cw ||| s < m)) →
    wrel n cw (moG stop sel n kk (w0G wy cw (2 ^ n)) m).1 (folG stop n kk cw j).1 ∧ (moG stop sel n kk (w0G wy cw (2 ^ n)) m).2 = sumS sel (folG stop n kk cw j).2 11 := by
  have hc10 : ∀ {w : Nat}, w < 2 ^ n → cntB w 10 = cntB w n := fun {w} hw => cntB_hi hw 10 hn
  have hp1 := two_pos n
  have base : wrel n cw (moG stop sel n kk (w0G wy cw (2 ^ n)) 0).1 (folG stop n kk cw 0).1 ∧ (moG stop sel n kk (w0G wy cw (2 ^ n)) 0).2 = sumS sel (folG stop n kk cw 0).2 11 := by
    refine ⟨fun w hw => ?_, (sumS_0 11).symm⟩
    show w0G wy cw (2 ^ n) w = if w &&& cw = cw then upd (fun _ => (0 : Int32)) 0 1 (w ^^^ cw) else 0
    rw [w0G, cpA_lt hw]
    by_cases e : w = cw
    · rw [if_pos e, e, if_pos (Nat.and_self cw), Nat.xor_self]; exact pk_us.symm
    · rw [if_neg e]
      by_cases hs : w &&& cw = cw
      · rw [if_pos hs]
        refine (show upd (fun _ => (0 : Int32)) 0 1 (w ^^^ cw) = (fun _ => (0 : Int32)) (w ^^^ cw) from pk_un (fun q => e ?_)).symm
        have := (sup_xor hs).2
        rw [q, Nat.or_zero] at this; exact this.symm
      · rw [if_neg hs]
  intro k
  induction k with
  | zero =>
    intro m j hk hm hj hr
    have e1 : m = 0 := by omega
    have e2 : j = 0 := by omega
    subst e1; subst e2
    exact base
  | succ k ih =>
    intro m j hk hm hj hr
    by_cases h00 : m = 0 ∧ j = 0
    · rw [h00.1, h00.2]; exact base
    -- the class's last set is no set of piles that are not counted
    by_cases hjd : 0 < j ∧ ¬ (j - 1) &&& cw = 0
    · obtain ⟨j, rfl⟩ : ∃ j', j = j' + 1 := ⟨j - 1, by omega⟩
      rw [Nat.add_sub_cancel] at hjd
      have hz : (folG stop n kk cw j).1 j = 0 := by
        by_cases e : (folG stop n kk cw j).1 j = 0
        · exact e
        · exact absurd (folG_dis stop n kk cw j j e) hjd.2
      have hst : folG stop n kk cw (j + 1) = folG stop n kk cw j := by rw [folG, hz, if_neg (by decide)]
      rw [hst]
      refine ih m j (by omega) hm (by omega) (fun s hs hd => ?_)
      rw [← hr s hs hd]
      have : s ≠ j := fun e => hjd.2 (e ▸ hd)
      omega
    · have hjd' : j = 0 ∨ (j - 1) &&& cw = 0 := by
        by_cases e : j = 0
        · exact Or.inl e
        · right
          by_cases e2 : (j - 1) &&& cw = 0
          · exact e2
          · exact absurd ⟨by omega, e2⟩ hjd
      have hm0 : 0 < m := by
        by_cases e : m = 0
        · exfalso
          rcases hjd' with h | h
          · omega
          · have h0 : 0 < j := by omega
            have := (hr (j - 1) (by omega) h).mp (by omega)
            omega
        · omega
      obtain ⟨m, rfl⟩ : ∃ m', m = m' + 1 := ⟨m - 1, by omega⟩
      by_cases hmc : m &&& cw = cw
      · -- both go on
        obtain ⟨g1, g2⟩ := sup_xor hmc
        have hsl : m ^^^ cw < 2 ^ n := Nat.xor_lt_two_pow (by omega) hcw
        have hlt : m ^^^ cw < j := (hr _ hsl g1).mpr (by rw [g2]; omega)
        have hj1 : (j - 1) &&& cw = 0 := by
          rcases hjd' with h | h
          · omega
          · exact h
        have hj2 : cw ||| (j - 1) < m + 1 := (hr (j - 1) (by omega) hj1).mp (by omega)
        have e1 : m ^^^ cw = j - 1 := by
          have h3 : ¬ m ^^^ cw < j - 1 := fun q => by
            have := (or_lt_iff g1 hj1).mpr q
            rw [g2] at this; omega
          omega
        obtain ⟨j, rfl⟩ : ∃ j', j = j' + 1 := ⟨j - 1, by omega⟩
        rw [Nat.add_sub_cancel] at hj1 e1
        rw [e1] at g2 hsl
        obtain ⟨ih1, ih2⟩ := ih m j (by omega) (by omega) (by omega) (fun s hs hd => by
          have := or_lt_iff hd hj1
          rw [g2] at this; exact this.symm)
        have hW : (moG stop sel n kk (w0G wy cw (2 ^ n)) m).1 m = (folG stop n kk cw j).1 j := by rw [ih1 m (by omega), if_pos hmc, e1]
        rw [moG, folG, hW]
        by_cases hz : (folG stop n kk cw j).1 j = 0
        · rw [if_pos hz, hz, if_neg (by decide)]; exact ⟨ih1, ih2⟩
        · have hpos := bo_pos hn (folG_bo stop (kk := kk) (cw := cw) hn j (by omega)) hsl hz
          rw [if_neg hz, if_pos hpos, g2]
          have hcm : cntB m 10 = kk + cntB j 10 := by
            have := cntB_add (and_comm0 hj1) 10
            rw [g2, hc10 hcw, hcnt] at this
            exact this
          by_cases hs : stop m = true
          · rw [if_pos hs, if_pos hs]
            refine ⟨ih1, ?_⟩
            dsimp only
            rw [sumS_up, ih2, hcm, Nat.add_sub_cancel_left, show n - (kk + cntB j 10) - 1 = n - kk - cntB j 10 - 1 by omega]
            have hj10 := cntB_le j 10
            cases hsel : sel (cntB j 10)
            · rw [if_neg (by decide), if_neg (by simp)]
            · rw [if_pos rfl, if_pos ⟨by omega, rfl⟩]
          · rw [if_neg hs, if_neg hs]
            refine ⟨?_, ih2⟩
            have := goW_rel hn hcw hsl hj1 ih1 n (Nat.le_refl n)
            rw [g2] at this
            exact this
      · have hz : (moG stop sel n kk (w0G wy cw (2 ^ n)) m).1 m = 0 := by
          by_cases e : (moG stop sel n kk (w0G wy cw (2 ^ n)) m).1 m = 0
          · exact e
          · exact absurd (moG_sup stop sel n kk cw _ w0G_sup hn m (by omega) m (by omega) e) hmc
        have hst : moG stop sel n kk (w0G wy cw (2 ^ n)) (m + 1) = moG stop sel n kk (w0G wy cw (2 ^ n)) m := by rw [moG, if_pos hz]
        rw [hst]
        refine ih m j (by omega) (by omega) hj (fun s hs hd => ?_)
        rw [hr s hs hd]
        have : cw ||| s ≠ m := fun e => hmc (by rw [← e]; exact (dis_or hd).1)
        omega
theorem fo_sum (hn : n ≤ 10) (hcw : cw < 2 ^ n) (hcnt : cntB cw n = kk) : (moG stop sel n kk (w0G wy cw (2 ^ n)) (2 ^ n)).2 = sumS sel (folG stop n kk cw (2 ^ n)).2 11 :=
  (fo_rel stop sel wy hn hcw hcnt _ (2 ^ n) (2 ^ n) (Nat.le_refl _) (Nat.le_refl _) (Nat.le_refl _) (fun s hs hd => ⟨fun _ => Nat.or_lt_two_pow hcw hs, fun _ => hs⟩)).2
end FO
theorem sumS_one {O : Nat → Int32} {v : Nat} (hv : v ≤ 10) : ∀ m, m ≤ 11 → sumS (fun w => decide (nI v = -6) || decide (nI v = nI w)) O m = if v < m then O v else 0 := by
  intro m
  induction m with
  | zero => intro _; rw [if_neg (by omega)]; rfl
  | succ m ih =>
    intro hm
    rw [sumS, ih (by omega)]
    rw [decide_eq_false (fun h => nI_nm6 (by omega) h), Bool.false_or]
    by_cases e : v = m
    · subst e
      rw [if_neg (by omega), decide_eq_true rfl, if_pos rfl, if_pos (by omega), Int32.zero_add]
    · rw [decide_eq_false (fun h => e ((nI_eq (by omega) (by omega)).mp h)), if_neg (show ¬ false = true by decide), Int32.add_zero]
      by_cases h : v < m
      · rw [if_pos h, if_pos (by omega)]
      · rw [if_neg h, if_neg (by omega)]
theorem sumS_all {O : Nat → Int32} : ∀ m, sumS (fun w => decide ((-6 : Int32) = -6) || decide ((-6 : Int32) = nI w)) O m = gSum O m := by
  intro m
  induction m with
  | zero => rfl
  | succ m ih =>
    rw [sumS, ih, gSum]
    rfl
