/-! the class's orders are the reference's -/
def wrel (n cw : Nat) (WM WC : Nat → Int32) : Prop := ∀ w, w < 2 ^ n → WM w = if w &&& cw = cw then WC (w ^^^ cw) else 0
def sumS (sel : Nat → Bool) (O : Nat → Int32) : Nat → Int32
  | 0 => 0
  | v + 1 => sumS sel O v + (if sel v = true then O v else 0)
theorem sumS_up {sel : Nat → Bool} {O : Nat → Int32} {c : Nat} {x : Int32} : ∀ m, sumS sel (upd O c (O c + x)) m = sumS sel O m + (if c < m ∧ sel c = true then x else 0) := by
  intro m
  induction m with
  | zero => rw [if_neg (by omega), Int32.add_zero]; rfl
  | succ m ih =>
    rw [sumS, sumS, ih]
    by_cases e : m = c
    · subst e
      rw [pk_us, if_neg (by omega), Int32.add_zero]
      cases hs : sel m
      · rw [if_neg (by decide), if_neg (by decide), if_neg (by simp), Int32.add_zero]
      · rw [if_pos rfl, if_pos rfl, if_pos ⟨by omega, rfl⟩, Int32.add_assoc]
    · rw [pk_un e]
      by_cases h : c < m ∧ sel c = true
      · rw [if_pos h, if_pos ⟨by omega, h.2⟩, Int32.add_assoc, Int32.add_assoc, Int32.add_comm x]
      · rw [if_neg h, if_neg (fun q => h ⟨by omega, q.2⟩), Int32.add_zero, Int32.add_zero]
theorem or_or2 (a b c : Nat) : (a ||| b) ||| c = a ||| (b ||| c) := Nat.or_assoc a b c
theorem goW_rel {n cw s : Nat} {WM WC : Nat → Int32} (hn : n ≤ 10) (hcw : cw < 2 ^ n) (hs : s < 2 ^ n) (hd : s &&& cw = 0) (h : wrel n cw WM WC) : ∀ i, i ≤ n → wrel n cw (goW (cw ||| s) (cw ||| s) WM i) (goW (cw ||| s) s WC i) := by
  intro i
  induction i with
  | zero => exact fun _ => h
  | succ i ih =>
    intro hi w hw
    have ihi := ih (by omega)
    rw [goW, goW]
    by_cases hb : (cw ||| s).testBit i = true
    · rw [if_pos hb, if_pos hb]; exact ihi w hw
    · rw [if_neg hb, if_neg hb]
      obtain ⟨g1, g2⟩ := dis_or hd
      have hbn : cw.testBit i = false ∧ s.testBit i = false := by
        rw [Nat.testBit_or] at hb
        cases h1 : cw.testBit i <;> cases h2 : s.testBit i <;> simp_all
      have h2i : 2 ^ i < 2 ^ n := Nat.pow_lt_pow_right (by decide) (by omega)
      have hd2 : (s ||| 2 ^ i) &&& cw = 0 := by
        apply Nat.eq_of_testBit_eq
        intro q
        have h3 : (s &&& cw).testBit q = false := by rw [hd, Nat.zero_testBit]
        rw [Nat.testBit_and] at h3
        rw [Nat.testBit_and, Nat.testBit_or, Nat.testBit_two_pow, Nat.zero_testBit]
        by_cases e : i = q
        · subst e; rw [hbn.1]; simp
        · simp [e]; simpa using h3
      obtain ⟨k1, k2⟩ := dis_or hd2
      rw [← or_or2] at k1 k2
      have hor : cw ||| s ||| 2 ^ i < 2 ^ n := Nat.or_lt_two_pow (Nat.or_lt_two_pow hcw hs) h2i
      by_cases e : w = cw ||| s ||| 2 ^ i
      · subst e
        rw [pk_us, if_pos k1, k2, pk_us, ihi _ hor, if_pos k1, k2, ihi _ (Nat.or_lt_two_pow hcw hs), if_pos g1, g2]
      · rw [pk_un e, ihi w hw]
        by_cases hwc : w &&& cw = cw
        · rw [if_pos hwc, if_pos hwc, pk_un]
          intro q
          apply e
          have := (sup_xor hwc).2
          rw [q, ← or_or2] at this
          exact this.symm
        · rw [if_neg hwc, if_neg hwc]
theorem or_add {s cw : Nat} (h : s &&& cw = 0) : cw ||| s = cw + s := by
  have := Nat.and_add_or cw s
  rw [and_comm0 h] at this
  omega
theorem or_lt_iff {s t cw : Nat} (hs : s &&& cw = 0) (ht : t &&& cw = 0) : cw ||| s < cw ||| t ↔ s < t := by
  rw [or_add hs, or_add ht]; omega
section FO
variable (stop : Nat → Bool) (sel : Nat → Bool) {n kk cw : Nat} (wy : Nat → Int32)
theorem fo_rel (hn : n ≤ 10) (hcw : cw < 2 ^ n) (hcnt : cntB cw n = kk) : ∀ k m j, k = m + j → m ≤ 2 ^ n → j ≤ 2 ^ n → (∀ s, s < 2 ^ n → s &&& cw = 0 → (s < j ↔ cw ||| s < m)) →
    wrel n cw (moG stop sel n kk (w0G wy cw (2 ^ n)) m).1 (folG stop n kk cw j).1 ∧ (moG stop sel n kk (w0G wy cw (2 ^ n)) m).2 = sumS sel (folG stop n kk cw j).2 11 := by
  have hc10 : ∀ {w : Nat}, w < 2 ^ n → cntB w 10 = cntB w n := fun {w} hw => cntB_hi hw 10 hn
  have hp1 := two_pos n
  intro k
  induction k with
  | zero =>
    intro m j hk hm hj hr
    have e1 : m = 0 := by omega
    have e2 : j = 0 := by omega
    subst e1; subst e2
    refine ⟨fun w hw => ?_, rfl⟩
    show w0G wy cw (2 ^ n) w = _
    rw [w0G, cpA_lt hw]
    by_cases e : w = cw
    · rw [if_pos e, e, if_pos (Nat.and_self cw), Nat.xor_self]; exact pk_us.symm
    · rw [if_neg e]
      by_cases hs : w &&& cw = cw
      · rw [if_pos hs]
        refine (pk_un (fun q => e ?_)).symm
        have := (sup_xor hs).2
        rw [q, Nat.or_zero] at this; exact this.symm
      · rw [if_neg hs]
  | succ k ih =>
    intro m j hk hm hj hr
    -- the class's last set is no set of piles that are not counted
    by_cases hjd : 0 < j ∧ ¬ (j - 1) &&& cw = 0
    · obtain ⟨j, rfl⟩ : ∃ j', j = j' + 1 := ⟨j - 1, by omega⟩
      rw [Nat.add_sub_cancel] at hjd
      have hz : (folG stop n kk cw j).1 j = 0 := by
        by_cases e : (folG stop n kk cw j).1 j = 0
        · exact e
        · exact absurd (folG_dis stop n kk cw j j e) hjd.2
      have hst : folG stop n kk cw (j + 1) = folG stop n kk cw j := by rw [folG, hz, if_neg (by decide)]
      rw [hst]
      refine ih m j (by omega) hm (by omega) (fun s hs hd => ?_)
      rw [← hr s hs hd]
      have : s ≠ j := fun e => hjd.2 (e ▸ hd)
      omega
    · have hjd' : j = 0 ∨ (j - 1) &&& cw = 0 := by
        by_cases e : j = 0
        · exact Or.inl e
        · right
          by_cases e2 : (j - 1) &&& cw = 0
          · exact e2
          · exact absurd ⟨by omega, e2⟩ hjd
      have hm0 : 0 < m := by
        by_cases e : m = 0
        · exfalso
          rcases hjd' with h | h
          · omega
          · have h0 : 0 < j := by omega
            have := (hr (j - 1) (by omega) h).mp (by omega)
            omega
        · omega
      obtain ⟨m, rfl⟩ : ∃ m', m = m' + 1 := ⟨m - 1, by omega⟩
      by_cases hmc : m &&& cw = cw
      · -- both go on
        obtain ⟨g1, g2⟩ := sup_xor hmc
        have hsl : m ^^^ cw < 2 ^ n := Nat.xor_lt_two_pow (by omega) hcw
        have hlt : m ^^^ cw < j := (hr _ hsl g1).mpr (by rw [g2]; omega)
        have hj1 : (j - 1) &&& cw = 0 := by
          rcases hjd' with h | h
          · omega
          · exact h
        have hj2 : cw ||| (j - 1) < m + 1 := (hr (j - 1) (by omega) hj1).mp (by omega)
        have e1 : m ^^^ cw = j - 1 := by
          have h3 : ¬ m ^^^ cw < j - 1 := fun q => by
            have := (or_lt_iff g1 hj1).mpr q
            rw [g2] at this; omega
          omega
        obtain ⟨j, rfl⟩ : ∃ j', j = j' + 1 := ⟨j - 1, by omega⟩
        rw [Nat.add_sub_cancel] at hj1 e1
        rw [e1] at g2 hsl
        obtain ⟨ih1, ih2⟩ := ih m j (by omega) (by omega) (by omega) (fun s hs hd => by
          have := or_lt_iff hd hj1
          rw [g2] at this; omega)
        have hW : (moG stop sel n kk (w0G wy cw (2 ^ n)) m).1 m = (folG stop n kk cw j).1 j := by rw [ih1 m (by omega), if_pos hmc, e1]
        rw [moG, folG, hW]
        by_cases hz : (folG stop n kk cw j).1 j = 0
        · rw [if_pos hz, hz, if_neg (by decide)]; exact ⟨ih1, ih2⟩
        · have hpos := bo_pos hn (folG_bo stop (kk := kk) (cw := cw) hn j (by omega)) hsl hz
          rw [if_neg hz, if_pos hpos, g2]
          have hcm : cntB m 10 = kk + cntB j 10 := by
            have := cntB_add (and_comm0 hj1) 10
            rw [g2, hc10 hcw, hcnt] at this
            exact this
          by_cases hs : stop m = true
          · rw [if_pos hs, if_pos hs]
            refine ⟨ih1, ?_⟩
            dsimp only
            rw [sumS_up, ih2, hcm, Nat.add_sub_cancel_left, show n - (kk + cntB j 10) - 1 = n - kk - cntB j 10 - 1 by omega]
            have hj10 := cntB_le j 10
            cases hsel : sel (cntB j 10)
            · rw [if_neg (by decide), if_neg (by simp)]
            · rw [if_pos rfl, if_pos ⟨by omega, rfl⟩]
          · rw [if_neg hs, if_neg hs]
            refine ⟨?_, ih2⟩
            have := goW_rel hn hcw hsl hj1 ih1 n (Nat.le_refl n)
            rw [g2] at this
            exact this
      · have hz : (moG stop sel n kk (w0G wy cw (2 ^ n)) m).1 m = 0 := by
          by_cases e : (moG stop sel n kk (w0G wy cw (2 ^ n)) m).1 m = 0
          · exact e
          · exact absurd (moG_sup stop sel n kk cw _ w0G_sup hn m (by omega) m (by omega) e) hmc
        have hst : moG stop sel n kk (w0G wy cw (2 ^ n)) (m + 1) = moG stop sel n kk (w0G wy cw (2 ^ n)) m := by rw [moG, if_pos hz]
        rw [hst]
        refine ih m j (by omega) (by omega) hj (fun s hs hd => ?_)
        rw [hr s hs hd]
        have : cw ||| s ≠ m := fun e => hmc (by rw [← e]; exact (dis_or hd).1)
        omega
theorem fo_sum (hn : n ≤ 10) (hcw : cw < 2 ^ n) (hcnt : cntB cw n = kk) : (moG stop sel n kk (w0G wy cw (2 ^ n)) (2 ^ n)).2 = sumS sel (folG stop n kk cw (2 ^ n)).2 11 :=
  (fo_rel stop sel wy hn hcw hcnt _ (2 ^ n) (2 ^ n) rfl (Nat.le_refl _) (Nat.le_refl _) (fun s hs hd => ⟨fun _ => Nat.or_lt_two_pow hcw hs, fun _ => hs⟩)).2
end FO
theorem sumS_one {O : Nat → Int32} {v : Nat} (hv : v ≤ 10) : ∀ m, m ≤ 11 → sumS (fun w => decide (nI v = -6) || decide (nI v = nI w)) O m = if v < m then O v else 0 := by
  intro m
  induction m with
  | zero => intro _; rw [if_neg (by omega)]; rfl
  | succ m ih =>
    intro hm
    rw [sumS, ih (by omega)]
    dsimp only
    rw [decide_eq_false (fun h => nI_nm6 (by omega) h), Bool.false_or]
    by_cases e : v = m
    · subst e
      rw [if_neg (by omega), decide_eq_true rfl, if_pos rfl, if_pos (by omega), Int32.zero_add]
    · rw [decide_eq_false (fun h => e ((nI_eq (by omega) (by omega)).mp h)), if_neg (by decide), Int32.add_zero]
      by_cases h : v < m
      · rw [if_pos h, if_pos (by omega)]
      · rw [if_neg h, if_neg (by omega)]
theorem sumS_all {O : Nat → Int32} : ∀ m, sumS (fun w => decide ((-6 : Int32) = -6) || decide ((-6 : Int32) = nI w)) O m = gSum O m := by
  intro m
  induction m with
  | zero => rfl
  | succ m ih =>
    rw [sumS, ih, gSum]
    rfl
