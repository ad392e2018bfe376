/-! draws; the order of the swings -/
def lcgN (c : Nat) : Nat := (c * 1103515245 + 12345) % 2147483648
theorem lcgN_lt (c : Nat) : lcgN c < 2147483648 := Nat.mod_lt _ (by decide)
theorem lN2 {a : Nat} (h : a < 2 ^ 31) : lN a < 2147483648 → True := fun _ => trivial
def ncG (cw pl : Nat) : Nat → Nat → Nat → Option Nat
  | 0, _, _ => none
  | f + 1, i, b => if cw.testBit i = true then ncG cw pl f (i + 1) b else if b = pl then some i else ncG cw pl f (i + 1) (b + 1)
theorem ncG_some {cw pl : Nat} : ∀ (f i b x : Nat), ncG cw pl f i b = some x → i ≤ x ∧ x < i + f ∧ cw.testBit x = false := by
  intro f
  induction f with
  | zero => intro i b x h; simp [ncG] at h
  | succ f ih =>
    intro i b x h
    simp only [ncG] at h
    split at h
    · have := ih _ _ _ h; exact ⟨by omega, by omega, this.2.2⟩
    · rename_i ht
      split at h
      · simp at h; subst h; exact ⟨Nat.le_refl _, by omega, by simpa using ht⟩
      · have := ih _ _ _ h; exact ⟨by omega, by omega, this.2.2⟩
/-- how many of the places from i on, f of them, are not in cw -/
theorem ncG_ex {cw pl : Nat} : ∀ (f i b : Nat), b ≤ pl → pl - b < f - (cntB cw (i + f) - cntB cw i) → ∃ x, ncG cw pl f i b = some x := by
  intro f
  induction f with
  | zero => intro i b h1 h2; omega
  | succ f ih =>
    intro i b h1 h2
    simp only [ncG]
    have e1 : i + (f + 1) = (i + 1) + f := by omega
    have e2 : cntB cw (i + 1) = cntB cw i + (if cw.testBit i = true then 1 else 0) := rfl
    have mono : ∀ g j, cntB cw j ≤ cntB cw (j + g) := by
      intro g j
      induction g with
      | zero => exact Nat.le_refl _
      | succ g ihg =>
        have : cntB cw (j + (g + 1)) = cntB cw (j + g) + (if cw.testBit (j + g) = true then 1 else 0) := rfl
        omega
    have m1 := mono f (i + 1)
    split
    · rename_i ht
      rw [if_pos ht] at e2
      exact ih (i + 1) b h1 (by rw [e1] at h2; omega)
    · rename_i ht
      rw [if_neg ht] at e2
      split
      · exact ⟨i, rfl⟩
      · exact ih (i + 1) (b + 1) (by omega) (by rw [e1] at h2; omega)
theorem ncG_ex0 {cw pl n kk : Nat} (hc : cntB cw n = kk) (hp : pl < n - kk) : ∃ x, ncG cw pl n 0 0 = some x ∧ x < n ∧ cw.testBit x = false := by
  obtain ⟨x, hx⟩ := ncG_ex (cw := cw) (pl := pl) n 0 0 (Nat.zero_le _) (by rw [Nat.zero_add, hc]; show pl - 0 < n - (kk - 0); omega)
  have := ncG_some _ _ _ _ hx
  exact ⟨x, hx, by omega, this.2.2⟩
theorem cntB_or {cw i : Nat} (h : cw.testBit i = false) : ∀ n, cntB (cw ||| 2 ^ i) n = cntB cw n + (if i < n then 1 else 0) := by
  intro n
  induction n with
  | zero => rfl
  | succ n ih =>
    show cntB (cw ||| 2 ^ i) n + (if (cw ||| 2 ^ i).testBit n = true then 1 else 0) = cntB cw n + (if cw.testBit n = true then 1 else 0) + _
    rw [ih, Nat.testBit_or, Nat.testBit_two_pow]
    by_cases hin : i = n
    · subst hin
      simp [h]
    · by_cases h2 : i < n
      · simp [hin, h2, Nat.lt_succ_of_lt h2]; omega
      · simp [hin, h2, show ¬ i < n + 1 by omega]
def duG (stopB : Nat → Bool) (n : Nat) : Nat → Nat → Nat → Nat → (Nat → Int32) → Nat × Nat × Nat × (Nat → Int32)
  | 0, kk, cw, c, od => (kk, cw, c, od)
  | f + 1, kk, cw, c, od => if stopB cw = true then (kk, cw, c, od) else
      duG stopB n f (kk + 1) (cw ||| 2 ^ ((ncG cw (lcgN c / 65536 % (n - kk)) n 0 0).getD 0)) (lcgN c) (upd od kk (nI ((ncG cw (lcgN c / 65536 % (n - kk)) n 0 0).getD 0)))
def winS (s : Int32) : Int32 := if 0 < s then 0 else if s < 0 then 1 else -6
def winF (pd : Nat → Nat → Int32) (n : Nat) : Int32 := winS (gSum (fun i => repF 0 (pd i)) n)
/-- one pile is ahead of another -/
def ordB (sw : Nat → Int32) (i j : Nat) : Prop := sw j < sw i ∨ (sw i = sw j ∧ i < j)
def rkPi (sw : Nat → Int32) (n : Nat) (pi : Nat → Nat) : Prop := (∀ r, r < n → pi r < n) ∧ (∀ r r', r < r' → r' < n → ordB sw (pi r) (pi r')) ∧ (∀ p, p < n → ∃ r, r < n ∧ pi r = p)
def rkOK (sw : Nat → Int32) (n : Nat) (bs : Nat → Int32) : Prop := ∃ pi : Nat → Nat, piOK bs pi n ∧ rkPi sw n pi
theorem rkOK_0 (sw : Nat → Int32) (bs : Nat → Int32) : rkOK sw 0 bs := ⟨fun _ => 0, fun r h => absurd h (Nat.not_lt_zero r), fun r h => absurd h (Nat.not_lt_zero r), fun r r' _ h => absurd h (Nat.not_lt_zero r'), fun p h => absurd h (Nat.not_lt_zero p)⟩
theorem lt_tr {a b c : Int32} (h1 : a < b) (h2 : b < c) : a < c := Int32.lt_trans h1 h2
theorem lt_le_tr {a b c : Int32} (h1 : a < b) (h2 : b ≤ c) : a < c := by
  rw [Int32.lt_iff_toInt_lt] at *
  rw [Int32.le_iff_toInt_le] at h2
  omega
theorem le_lt_or {a b : Int32} (h : a ≤ b) : a < b ∨ a = b := by
  rw [Int32.le_iff_toInt_le] at h
  rw [Int32.lt_iff_toInt_lt]
  by_cases q : a.toInt = b.toInt
  · exact Or.inr (Int32.toInt_inj.mp q)
  · exact Or.inl (by omega)
theorem rk_ins {sw : Nat → Int32} {i r : Nat} {pi : Nat → Nat} {b : Nat → Int32} (hr : r ≤ i) (hp : rkPi sw i pi) (h1 : ∀ q, q < r → b q = nI (pi q)) (h2 : ∀ q, r < q → q ≤ i → b q = nI (pi (q - 1)))
    (h3 : ∀ q, r ≤ q → q < i → sw (pi q) < sw i) (h4 : r = 0 ∨ sw i ≤ sw (pi (r - 1))) : rkOK sw (i + 1) (upd b r (nI i)) := by
  obtain ⟨p1, p2, p3⟩ := hp
  have hlo : ∀ q, q < r → sw i ≤ sw (pi q) := by
    intro q hq
    rcases h4 with h4 | h4
    · omega
    · by_cases e : q = r - 1
      · rw [e]; exact h4
      · rcases p2 q (r - 1) (by omega) (by omega) with h | ⟨h, -⟩
        · have := h4; exact Int32.not_lt.mp fun z => Int32.lt_irrefl (lt_le_tr (lt_le_tr z h4) (Int32.le_of_lt h))
        · rw [h]; exact h4
  refine ⟨fun q => if q < r then pi q else if q = r then i else pi (q - 1), ?_, ?_, ?_, ?_⟩
  · intro q hq
    dsimp only
    by_cases a : q < r
    · rw [if_pos a, pk_un (by omega)]
      exact ⟨h1 q a, by have := p1 q (by omega); omega⟩
    · rw [if_neg a]
      by_cases c : q = r
      · rw [if_pos c, c]; exact ⟨pk_us, by omega⟩
      · rw [if_neg c, pk_un c]
        exact ⟨h2 q (by omega) (by omega), by have := p1 (q - 1) (by omega); omega⟩
  · intro q hq
    dsimp only
    split
    · have := p1 q (by omega); omega
    · split
      · omega
      · have := p1 (q - 1) (by omega); omega
  · intro q q' hqq hq'
    dsimp only
    by_cases a : q < r
    · rw [if_pos a]
      by_cases a' : q' < r
      · rw [if_pos a']; exact p2 q q' hqq (by omega)
      · rw [if_neg a']
        by_cases c' : q' = r
        · rw [if_pos c']
          have hp := p1 q (by omega)
          rcases le_lt_or (hlo q a) with h | h
          · exact Or.inl h
          · exact Or.inr ⟨h.symm, hp⟩
        · rw [if_neg c']; exact p2 q (q' - 1) (by omega) (by omega)
    · rw [if_neg a]
      by_cases c : q = r
      · rw [if_pos c, if_neg (by omega), if_neg (by omega)]
        exact Or.inl (h3 (q' - 1) (by omega) (by omega))
      · rw [if_neg c, if_neg (by omega), if_neg (by omega)]
        exact p2 (q - 1) (q' - 1) (by omega) (by omega)
  · intro p hp
    by_cases e : p = i
    · exact ⟨r, by omega, by dsimp only; rw [if_neg (by omega), if_pos rfl, e]⟩
    · obtain ⟨q, hq, hpq⟩ := p3 p (by omega)
      by_cases a : q < r
      · exact ⟨q, by omega, by dsimp only; rw [if_pos a, hpq]⟩
      · exact ⟨q + 1, by omega, by dsimp only; rw [if_neg (by omega), if_neg (by omega), Nat.add_sub_cancel, hpq]⟩
theorem duG_ok (stopB : Nat → Bool) (n : Nat) : ∀ (f kk cw c : Nat) (od : Nat → Int32), f = n - kk → kk ≤ n → cntB cw n = kk → cw < 2 ^ n → c < 2 ^ 31 →
    kk ≤ (duG stopB n f kk cw c od).1 ∧ (duG stopB n f kk cw c od).1 ≤ n ∧ cntB (duG stopB n f kk cw c od).2.1 n = (duG stopB n f kk cw c od).1 ∧ (duG stopB n f kk cw c od).2.1 < 2 ^ n ∧ (duG stopB n f kk cw c od).2.2.1 < 2 ^ 31 := by
  intro f
  induction f with
  | zero => intro kk cw c od _ h2 h3 h4 h5; exact ⟨Nat.le_refl _, h2, h3, h4, h5⟩
  | succ f ih =>
    intro kk cw c od h1 h2 h3 h4 h5
    simp only [duG]
    split
    · exact ⟨Nat.le_refl _, h2, h3, h4, h5⟩
    · obtain ⟨x, hx, hxn, hxt⟩ := ncG_ex0 (pl := lcgN c / 65536 % (n - kk)) h3 (Nat.mod_lt _ (by omega))
      rw [hx]
      have hl := lcgN_lt c
      have := ih (kk + 1) (cw ||| 2 ^ x) (lcgN c) (upd od kk (nI x)) (by omega) (by omega) (by rw [cntB_or hxt, h3, if_pos hxn]) (Nat.or_lt_two_pow h4 (Nat.pow_lt_pow_right (by decide) hxn)) (by omega)
      exact ⟨by have := this.1; simp only [Option.getD_some] at *; omega, this.2⟩
