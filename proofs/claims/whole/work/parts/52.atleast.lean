/-! how many more at least; the orders: the class's sets are those of the piles that are not counted, the reference's hold the counted ones -/
theorem cntB_add {a b : Nat} (h : a &&& b = 0) : ∀ n, cntB (a ||| b) n = cntB a n + cntB b n := by
  intro n
  induction n with
  | zero => rfl
  | succ n ih =>
    show cntB (a ||| b) n + (if (a ||| b).testBit n = true then 1 else 0) = cntB a n + (if a.testBit n = true then 1 else 0) + (cntB b n + (if b.testBit n = true then 1 else 0))
    have h2 : (a &&& b).testBit n = false := by rw [h, Nat.zero_testBit]
    rw [Nat.testBit_and] at h2
    rw [ih, Nat.testBit_or]
    cases ha : a.testBit n <;> cases hb : b.testBit n
    · simp
    · simp; omega
    · simp; omega
    · rw [ha, hb] at h2; cases h2
theorem sup_xor {s cw : Nat} (h : s &&& cw = cw) : (s ^^^ cw) &&& cw = 0 ∧ cw ||| (s ^^^ cw) = s := by
  have hb : ∀ i, cw.testBit i = true → s.testBit i = true := fun i hi => by
    have : (s &&& cw).testBit i = cw.testBit i := by rw [h]
    rw [Nat.testBit_and, hi, Bool.and_true] at this; exact this
  constructor
  · apply Nat.eq_of_testBit_eq
    intro i
    rw [Nat.testBit_and, Nat.testBit_xor, Nat.zero_testBit]
    cases hc : cw.testBit i
    · simp
    · rw [hb i hc]; rfl
  · apply Nat.eq_of_testBit_eq
    intro i
    rw [Nat.testBit_or, Nat.testBit_xor]
    cases hc : cw.testBit i
    · simp
    · rw [hb i hc]; rfl
theorem dis_or {s cw : Nat} (h : s &&& cw = 0) : (cw ||| s) &&& cw = cw ∧ (cw ||| s) ^^^ cw = s := by
  have hb : ∀ i, cw.testBit i = true → s.testBit i = false := fun i hi => by
    have : (s &&& cw).testBit i = false := by rw [h, Nat.zero_testBit]
    rw [Nat.testBit_and, hi, Bool.and_true] at this; exact this
  constructor
  · apply Nat.eq_of_testBit_eq
    intro i
    rw [Nat.testBit_and, Nat.testBit_or]
    cases hc : cw.testBit i <;> simp
  · apply Nat.eq_of_testBit_eq
    intro i
    rw [Nat.testBit_xor, Nat.testBit_or]
    cases hc : cw.testBit i
    · simp
    · rw [hb i hc]; rfl
theorem and_comm0 {a b : Nat} (h : a &&& b = 0) : b &&& a = 0 := by rw [Nat.and_comm]; exact h
section AT1
variable {wi : Int32} {pd : Nat → Nat → Int32} {pi : Nat → Nat} {n cw : Nat} {rl : Int32}
theorem rfG_bit {t : Nat} : ∀ m, (rfG wi pd pi n cw rl m).testBit t = true ↔ ∃ s, s < m ∧ s &&& cw = 0 ∧ rl < rbF wi pd pi n (cw ||| s) cw ∧ cntB s 10 = t := by
  intro m
  induction m with
  | zero => exact ⟨fun h => (by rw [rfG, Nat.zero_testBit] at h; cases h), fun ⟨s, h, _⟩ => absurd h (Nat.not_lt_zero s)⟩
  | succ m ih =>
    rw [rfG]
    by_cases hc : m &&& cw = 0 ∧ rl < rbF wi pd pi n (cw ||| m) cw
    · rw [if_pos hc, Nat.testBit_or, Nat.testBit_two_pow, Bool.or_eq_true, ih, decide_eq_true_eq]
      constructor
      · rintro (⟨s, h1, h2⟩ | e)
        · exact ⟨s, by omega, h2⟩
        · exact ⟨m, by omega, hc.1, hc.2, e⟩
      · rintro ⟨s, h1, h2, h3, h4⟩
        by_cases e : s = m
        · subst e; exact Or.inr h4
        · exact Or.inl ⟨s, by omega, h2, h3, h4⟩
    · rw [if_neg hc, ih]
      constructor
      · rintro ⟨s, h1, h2⟩; exact ⟨s, by omega, h2⟩
      · rintro ⟨s, h1, h2, h3, h4⟩
        by_cases e : s = m
        · subst e; exact absurd ⟨h2, h3⟩ hc
        · exact ⟨s, by omega, h2, h3, h4⟩
theorem msP_bit {t : Nat} : ∀ m, msP wi pd pi n cw rl t m = false ↔ ∃ s, s < m ∧ msA cw t s = true ∧ rl < rbF wi pd pi n s (fsN true s cw) := by
  intro m
  induction m with
  | zero => exact ⟨fun h => (by cases h), fun ⟨s, h, _⟩ => absurd h (Nat.not_lt_zero s)⟩
  | succ m ih =>
    rw [msP, Bool.and_eq_false_iff, ih]
    constructor
    · rintro (⟨s, h1, h2⟩ | h)
      · exact ⟨s, by omega, h2⟩
      · rw [Bool.or_eq_false_iff] at h
        exact ⟨m, by omega, by simpa using h.1, Int32.not_le.mp (of_decide_eq_false h.2)⟩
    · rintro ⟨s, h1, h2, h3⟩
      by_cases e : s = m
      · subst e; right; rw [h2, decide_eq_false (Int32.not_le.mpr h3)]; rfl
      · left; exact ⟨s, by omega, h2, h3⟩
theorem at_bit {t : Nat} (hcw : cw < 2 ^ n) : msP wi pd pi n cw rl t (2 ^ n) = !(rfG wi pd pi n cw rl (2 ^ n)).testBit t := by
  have key : msP wi pd pi n cw rl t (2 ^ n) = false ↔ (rfG wi pd pi n cw rl (2 ^ n)).testBit t = true := by
    rw [msP_bit, rfG_bit]
    constructor
    · rintro ⟨s, h1, h2, h3⟩
      simp only [msA, Bool.and_eq_true, decide_eq_true_eq] at h2
      obtain ⟨g1, g2⟩ := sup_xor h2.1
      refine ⟨s ^^^ cw, Nat.xor_lt_two_pow h1 hcw, g1, ?_, ?_⟩
      · rw [g2]
        rw [show fsN true s cw = s &&& cw from rfl, h2.1] at h3
        exact h3
      · have := cntB_add (and_comm0 g1) 10
        rw [g2] at this
        omega
    · rintro ⟨s, h1, h2, h3, h4⟩
      obtain ⟨g1, g2⟩ := dis_or h2
      refine ⟨cw ||| s, Nat.or_lt_two_pow hcw h1, ?_, ?_⟩
      · have := cntB_add (and_comm0 h2) 10
        simp only [msA, Bool.and_eq_true, decide_eq_true_eq]
        exact ⟨g1, by omega⟩
      · rw [show fsN true (cw ||| s) cw = (cw ||| s) &&& cw from rfl, g1]; exact h3
  cases h1 : msP wi pd pi n cw rl t (2 ^ n)
  · rw [key.mp h1]; rfl
  · cases h2 : (rfG wi pd pi n cw rl (2 ^ n)).testBit t
    · rfl
    · rw [key.mpr h2] at h1; cases h1
theorem ls_eq (hcw : cw < 2 ^ n) (k : Nat) : ∀ f t, lsG (rfG wi pd pi n cw rl (2 ^ n)) k f t = lsM (fun t => msP wi pd pi n cw rl t (2 ^ n)) f t := by
  intro f
  induction f with
  | zero => intro t; rfl
  | succ f ih =>
    intro t
    rw [lsG, lsM, at_bit hcw, ih]
    cases (rfG wi pd pi n cw rl (2 ^ n)).testBit t <;> rfl
end AT1
/-! the counts of orders are too few to wrap around -/
def fct : Nat → Nat
  | 0 => 1
  | n + 1 => (n + 1) * fct n
def sumN (f : Nat → Nat) : Nat → Nat
  | 0 => 0
  | n + 1 => sumN f n + f n
theorem sumN_le {f g : Nat → Nat} : ∀ n, (∀ i, i < n → f i ≤ g i) → sumN f n ≤ sumN g n := by
  intro n
  induction n with
  | zero => intro _; exact Nat.le_refl 0
  | succ n ih => intro h; show sumN f n + f n ≤ sumN g n + g n; have := ih (fun i hi => h i (by omega)); have := h n (by omega); omega
theorem sumN_lt {f g : Nat → Nat} {k : Nat} : ∀ n, k < n → (∀ i, i < n → f i ≤ g i) → f k < g k → sumN f n < sumN g n := by
  intro n
  induction n with
  | zero => intro h; omega
  | succ n ih =>
    intro hk h hlt
    show sumN f n + f n < sumN g n + g n
    by_cases e : k = n
    · subst e; have := sumN_le k (fun i hi => h i (by omega)); omega
    · have := ih (by omega) (fun i hi => h i (by omega)) hlt; have := h n (by omega); omega
/-- the ways into s that are gone already: from s without i, the sets below j, and j itself for the piles below i0 -/
def inF (j i0 s i : Nat) : Nat := if s.testBit i = true ∧ (s ^^^ 2 ^ i < j ∨ (s ^^^ 2 ^ i = j ∧ i < i0)) then 1 else 0
theorem inF_le (j i0 s i : Nat) : inF j i0 s i ≤ (if s.testBit i = true then 1 else 0) := by
  unfold inF
  by_cases h : s.testBit i = true
  · rw [if_pos h]; split <;> omega
  · rw [if_neg h, if_neg (fun q => h q.1)]; exact Nat.le_refl 0
theorem in_cnt (j i0 s n : Nat) : sumN (inF j i0 s) n ≤ cntB s n := by
  induction n with
  | zero => exact Nat.le_refl 0
  | succ n ih =>
    show sumN (inF j i0 s) n + inF j i0 s n ≤ cntB s n + (if s.testBit n = true then 1 else 0)
    have := inF_le j i0 s n; omega
def boG (n j i0 : Nat) (W : Nat → Int32) : Prop := ∀ s, s < 2 ^ n → ∃ v : Nat, W s = nI v ∧ (s = 0 → v ≤ 1) ∧ (0 < s → v ≤ sumN (inF j i0 s) n * fct (cntB s n - 1))
theorem fct_mono {a b : Nat} (h : a ≤ b) : fct a ≤ fct b := by
  induction b with
  | zero => rw [show a = 0 by omega]; exact Nat.le_refl _
  | succ b ih =>
    by_cases e : a = b + 1
    · rw [e]; exact Nat.le_refl _
    · have := ih (by omega)
      show fct a ≤ (b + 1) * fct b
      exact Nat.le_trans this (Nat.le_mul_of_pos_left _ (by omega))
theorem cnt_pos {s n : Nat} (h : s < 2 ^ n) (h0 : 0 < s) : 0 < cntB s n := by
  cases hc : cntB s n with
  | zero => have := cw_zero h hc; omega
  | succ k => omega
theorem bo_le {n j i0 : Nat} {W : Nat → Int32} (h : boG n j i0 W) {s : Nat} (hs : s < 2 ^ n) : ∃ v, W s = nI v ∧ v ≤ fct (cntB s n) := by
  obtain ⟨v, h1, h2, h3⟩ := h s hs
  refine ⟨v, h1, ?_⟩
  by_cases e : s = 0
  · subst e
    have : fct 0 ≤ fct (cntB 0 n) := fct_mono (Nat.zero_le _)
    have := h2 rfl
    have e1 : fct 0 = 1 := rfl
    omega
  · have h4 := h3 (by omega)
    have h5 := in_cnt j i0 s n
    have h6 := cnt_pos hs (by omega)
    obtain ⟨c, hc⟩ : ∃ c, cntB s n = c + 1 := ⟨cntB s n - 1, by omega⟩
    rw [hc] at h4 h5 ⊢
    rw [Nat.add_sub_cancel] at h4
    exact Nat.le_trans h4 (Nat.mul_le_mul_right _ h5)
theorem fct_10 : fct 10 = 3628800 := by decide
theorem bo_pos {n j i0 : Nat} {W : Nat → Int32} (hn : n ≤ 10) (h : boG n j i0 W) {s : Nat} (hs : s < 2 ^ n) (h0 : ¬ W s = 0) : 0 < W s := by
  obtain ⟨v, h1, h2⟩ := bo_le h hs
  have h3 := cntB_le s n
  have h4 := fct_mono (show cntB s n ≤ 10 by omega)
  rw [fct_10] at h4
  rw [h1] at h0 ⊢
  have hv : 0 < v := by
    by_cases e : v = 0
    · subst e; exact absurd rfl h0
    · omega
  exact (nI_ltI (a := 0) (by decide) (by omega)).mpr hv
theorem bo_mono {n j i0 j2 i2 : Nat} {W : Nat → Int32} (h : boG n j i0 W) (hle : ∀ s i, inF j i0 s i ≤ inF j2 i2 s i) : boG n j2 i2 W := fun s hs => by
  obtain ⟨v, h1, h2, h3⟩ := h s hs
  exact ⟨v, h1, h2, fun h0 => Nat.le_trans (h3 h0) (Nat.mul_le_mul_right _ (sumN_le n (fun i _ => hle s i)))⟩
theorem inF_up (j i0 s i : Nat) : inF j i0 s i ≤ inF j (i0 + 1) s i := by
  unfold inF
  split
  · rename_i h; rw [if_pos ⟨h.1, by omega⟩]; exact Nat.le_refl 1
  · exact Nat.zero_le _
theorem inF_next (j i0 s i : Nat) : inF j i0 s i ≤ inF (j + 1) 0 s i := by
  unfold inF
  split
  · rename_i h; rw [if_pos ⟨h.1, by omega⟩]; exact Nat.le_refl 1
  · exact Nat.zero_le _
theorem or_xor_bit {j i : Nat} (h : j.testBit i = false) : (j ||| 2 ^ i) ^^^ 2 ^ i = j := by
  apply Nat.eq_of_testBit_eq
  intro q
  rw [Nat.testBit_xor, Nat.testBit_or, Nat.testBit_two_pow]
  by_cases e : i = q
  · subst e; rw [h]; simp
  · simp [e]
theorem or_inj {j i i2 : Nat} (h : j.testBit i = false) (e : j ||| 2 ^ i2 = j ||| 2 ^ i) : i2 = i := by
  have h1 : (j ||| 2 ^ i2).testBit i = true := by rw [e, Nat.testBit_or, Nat.testBit_two_pow]; simp
  rw [Nat.testBit_or, h, Nat.testBit_two_pow] at h1
  simpa using h1
theorem goW_bo {cw j n : Nat} {W : Nat → Int32} (hn : n ≤ 10) (hj : j < 2 ^ n) (h : boG n j 0 W) : ∀ i, i ≤ n → boG n j i (goW (cw ||| j) j W i) ∧ goW (cw ||| j) j W i j = W j := by
  intro i
  induction i with
  | zero => exact fun _ => ⟨h, rfl⟩
  | succ i ih =>
    intro hi
    obtain ⟨ih1, ih2⟩ := ih (by omega)
    rw [goW]
    by_cases hb : (cw ||| j).testBit i = true
    · rw [if_pos hb]; exact ⟨bo_mono ih1 (fun s q => inF_up j i s q), ih2⟩
    · rw [if_neg hb]
      have hjb : j.testBit i = false := by
        cases hq : j.testBit i
        · rfl
        · rw [Nat.testBit_or, hq] at hb; simp at hb
      have hne : j ≠ j ||| 2 ^ i := fun e => by
        have : (j ||| 2 ^ i).testBit i = true := by rw [Nat.testBit_or, Nat.testBit_two_pow]; simp
        rw [← e, hjb] at this; cases this
      have h2i : 2 ^ i < 2 ^ n := Nat.pow_lt_pow_right (by decide) (by omega)
      have hor : j ||| 2 ^ i < 2 ^ n := Nat.or_lt_two_pow hj h2i
      refine ⟨fun s hs => ?_, by rw [pk_un hne]; exact ih2⟩
      by_cases e : s = j ||| 2 ^ i
      · subst e
        rw [pk_us]
        obtain ⟨v1, a1, -, a3⟩ := ih1 (j ||| 2 ^ i) hs
        obtain ⟨v2, b1, b2⟩ := bo_le ih1 hj
        have hpos : 0 < j ||| 2 ^ i := Nat.lt_of_lt_of_le (two_pos i) Nat.right_le_or
        have hc : cntB (j ||| 2 ^ i) n = cntB j n + 1 := by rw [cntB_or hjb, if_pos (by omega)]
        refine ⟨v1 + v2, by rw [a1, b1, nI_add], fun q => by omega, fun _ => ?_⟩
        have h5 := a3 hpos
        rw [hc, Nat.add_sub_cancel] at h5 ⊢
        have h6 : sumN (inF j i (j ||| 2 ^ i)) n < sumN (inF j (i + 1) (j ||| 2 ^ i)) n := by
          refine sumN_lt (k := i) n (by omega) (fun q _ => inF_up j i _ q) ?_
          have hbit : (j ||| 2 ^ i).testBit i = true := by rw [Nat.testBit_or, Nat.testBit_two_pow]; simp
          have e0 : inF j i (j ||| 2 ^ i) i = 0 := by
            rw [inF, or_xor_bit hjb, if_neg]
            intro q; have := q.2; omega
          have e1 : inF j (i + 1) (j ||| 2 ^ i) i = 1 := by
            rw [inF, or_xor_bit hjb, if_pos ⟨hbit, Or.inr ⟨rfl, by omega⟩⟩]
          omega
        have h7 : (sumN (inF j i (j ||| 2 ^ i)) n + 1) * fct (cntB j n) ≤ sumN (inF j (i + 1) (j ||| 2 ^ i)) n * fct (cntB j n) := Nat.mul_le_mul_right _ h6
        rw [Nat.add_mul, Nat.one_mul] at h7
        omega
      · rw [pk_un e]
        exact bo_mono ih1 (fun s q => inF_up j i s q) s hs
theorem folG_bo (stop : Nat → Bool) {n kk cw : Nat} (hn : n ≤ 10) : ∀ j, j ≤ 2 ^ n → boG n j 0 (folG stop n kk cw j).1 := by
  intro j
  induction j with
  | zero =>
    intro _ s hs
    by_cases e : s = 0
    · subst e; exact ⟨1, (show upd (fun _ => (0 : Int32)) 0 1 0 = nI 1 from pk_us), fun _ => Nat.le_refl 1, fun h => by omega⟩
    · exact ⟨0, (show upd (fun _ => (0 : Int32)) 0 1 s = nI 0 from pk_un e), fun _ => Nat.zero_le _, fun _ => Nat.zero_le _⟩
  | succ j ih =>
    intro hj
    have h := ih (by omega)
    simp only [folG]
    split
    · split
      · exact bo_mono h (fun s i => inF_next j 0 s i)
      · exact bo_mono (goW_bo hn (by omega) h n (Nat.le_refl n)).1 (fun s i => inF_next j n s i)
    · exact bo_mono h (fun s i => inF_next j 0 s i)
