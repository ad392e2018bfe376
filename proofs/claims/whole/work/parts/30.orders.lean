/-! the reference: the greatest swing of those that are in neither set, and the piles that would have to be wrong -/
def askB (w t p : Nat) : Bool := !w.testBit p && !t.testBit p
def grG (sw : Nat → Int32) (w t : Nat) : Nat → Option Nat
  | 0 => none
  | p + 1 => if askB w t p = true then (match grG sw w t p with
      | none => some p
      | some b => if sw b < sw p then some p else some b) else grG sw w t p
theorem ordB_tr {sw : Nat → Int32} {a b c : Nat} (h1 : ordB sw a b) (h2 : ordB sw b c) : ordB sw a c := by
  rcases h1 with h1 | ⟨e1, h1⟩ <;> rcases h2 with h2 | ⟨e2, h2⟩
  · exact Or.inl (lt_tr h2 h1)
  · exact Or.inl (e2 ▸ h1)
  · exact Or.inl (e1.symm ▸ h2)
  · exact Or.inr ⟨e1.trans e2, by omega⟩
theorem ordB_as {sw : Nat → Int32} {a b : Nat} (h1 : ordB sw a b) (h2 : ordB sw b a) : False := by
  rcases ordB_tr h1 h2 with h | ⟨-, h⟩
  · exact Int32.lt_irrefl h
  · omega
theorem grG_spec (sw : Nat → Int32) (w t : Nat) : ∀ n, (grG sw w t n = none → ∀ p, p < n → askB w t p = false) ∧ (∀ b, grG sw w t n = some b → b < n ∧ askB w t b = true ∧ ∀ p, p < n → askB w t p = true → p = b ∨ ordB sw b p) := by
  intro n
  induction n with
  | zero => exact ⟨fun _ p h => absurd h (Nat.not_lt_zero p), fun b h => by simp [grG] at h⟩
  | succ n ih =>
    obtain ⟨ih1, ih2⟩ := ih
    have step : ∀ p, p < n + 1 → p = n ∨ p < n := fun p h => by omega
    by_cases ha : askB w t n = true
    · rw [grG, if_pos ha]
      cases hg : grG sw w t n with
      | none =>
        dsimp only
        refine ⟨fun h => (by simp at h), fun b h => ?_⟩
        simp at h; subst h
        refine ⟨by omega, ha, fun p hp hap => ?_⟩
        rcases step p hp with h | h
        · exact Or.inl h
        · rw [ih1 hg p h] at hap; cases hap
      | some b0 =>
        dsimp only
        obtain ⟨hb, hab, hall⟩ := ih2 b0 hg
        by_cases hs : sw b0 < sw n
        · rw [if_pos hs]
          refine ⟨fun h => (by simp at h), fun b h => ?_⟩
          simp at h; subst h
          refine ⟨by omega, ha, fun p hp hap => ?_⟩
          rcases step p hp with h | h
          · exact Or.inl h
          · refine Or.inr ?_
            rcases hall p h hap with e | o
            · rw [e]; exact Or.inl hs
            · exact ordB_tr (Or.inl hs) o
        · rw [if_neg hs]
          refine ⟨fun h => (by simp at h), fun b h => ?_⟩
          simp at h; subst h
          refine ⟨by omega, hab, fun p hp hap => ?_⟩
          rcases step p hp with h | h
          · refine Or.inr ?_
            rw [h]
            rcases le_lt_or (Int32.not_lt.mp hs) with q | q
            · exact Or.inl q
            · exact Or.inr ⟨q.symm, hb⟩
          · exact hall p h hap
    · rw [grG, if_neg ha]
      refine ⟨fun h p hp => ?_, fun b h => ?_⟩
      · rcases step p hp with e | e
        · rw [e]; simpa using ha
        · exact ih1 h p e
      · obtain ⟨hb, hab, hall⟩ := ih2 b h
        refine ⟨by omega, hab, fun p hp hap => ?_⟩
        rcases step p hp with e | e
        · rw [e] at hap; exact absurd hap ha
        · exact hall p e hap
theorem grG_lt {sw : Nat → Int32} {w t n b : Nat} (h : grG sw w t n = some b) : b < n := ((grG_spec sw w t n).2 b h).1
/-- along the order, the mask of what is taken -/
def wkG (sw : Nat → Int32) (pi : Nat → Nat) (w : Nat) (lead : Int32) : Nat → Nat → Int32 → Nat → Option Nat
  | 0, _, _, _ => none
  | f + 1, r, tog, set => if w.testBit (pi r) = true then wkG sw pi w lead f (r + 1) tog set else
      if lead ≤ tog + sw (pi r) then some (set ||| 2 ^ pi r) else wkG sw pi w lead f (r + 1) (tog + sw (pi r)) (set ||| 2 ^ pi r)
def wkR (sw : Nat → Int32) (pi : Nat → Nat) (n w : Nat) (lead : Int32) : Option Nat := if lead ≤ 0 then some 0 else wkG sw pi w lead n 0 0 0
/-- t holds just the piles of the first r ranks that are not in w -/
def tkOK (pi : Nat → Nat) (w n r t : Nat) : Prop := ∀ p, t.testBit p = true ↔ ∃ q, q < r ∧ q < n ∧ pi q = p ∧ w.testBit p = false
theorem tkOK_0 (pi : Nat → Nat) (w n : Nat) : tkOK pi w n 0 0 := fun p => ⟨fun h => by simp at h, fun ⟨q, h, _⟩ => absurd h (Nat.not_lt_zero q)⟩
theorem tkOK_skip {pi : Nat → Nat} {w n r t : Nat} (h : tkOK pi w n r t) (hw : r < n → w.testBit (pi r) = true) : tkOK pi w n (r + 1) t := fun p => by
  rw [h p]
  constructor
  · rintro ⟨q, h1, h2, h3, h4⟩; exact ⟨q, by omega, h2, h3, h4⟩
  · rintro ⟨q, h1, h2, h3, h4⟩
    by_cases e : q = r
    · subst e; rw [← h3, hw h2] at h4; cases h4
    · exact ⟨q, by omega, h2, h3, h4⟩
theorem tkOK_take {pi : Nat → Nat} {w n r t : Nat} (h : tkOK pi w n r t) (hr : r < n) (hw : w.testBit (pi r) = false) : tkOK pi w n (r + 1) (t ||| 2 ^ pi r) := fun p => by
  rw [Nat.testBit_or, Nat.testBit_two_pow, Bool.or_eq_true, h p, decide_eq_true_eq]
  constructor
  · rintro (⟨q, h1, h2, h3, h4⟩ | e)
    · exact ⟨q, by omega, h2, h3, h4⟩
    · exact ⟨r, by omega, hr, e, e ▸ hw⟩
  · rintro ⟨q, h1, h2, h3, h4⟩
    by_cases e : q = r
    · subst e; exact Or.inr h3
    · exact Or.inl ⟨q, by omega, h2, h3, h4⟩
theorem rk_inj {sw : Nat → Int32} {n : Nat} {pi : Nat → Nat} (h : rkPi sw n pi) {q r : Nat} (hq : q < n) (hr : r < n) (e : pi q = pi r) : q = r := by
  by_cases h1 : q < r
  · have o := h.2.1 q r h1 hr; rw [e] at o; exact absurd (ordB_as o o) id
  · by_cases h2 : r < q
    · have o := h.2.1 r q h2 hq; rw [e] at o; exact absurd (ordB_as o o) id
    · omega
theorem tk_new {sw : Nat → Int32} {n : Nat} {pi : Nat → Nat} (h : rkPi sw n pi) {w r t : Nat} (ht : tkOK pi w n r t) {q : Nat} (hq : q < n) (hr : r ≤ q) : t.testBit (pi q) = false := by
  cases hb : t.testBit (pi q) with
  | false => rfl
  | true =>
    obtain ⟨q', h1, h2, h3, -⟩ := (ht _).mp hb
    have := rk_inj h h2 hq h3
    omega
theorem gr_at {sw : Nat → Int32} {n : Nat} {pi : Nat → Nat} (h : rkPi sw n pi) {w r t : Nat} (ht : tkOK pi w n r t) (hr : r < n) (hw : w.testBit (pi r) = false) : grG sw w t n = some (pi r) := by
  have hask : askB w t (pi r) = true := by rw [askB, hw, tk_new h ht hr (Nat.le_refl r)]; rfl
  cases hg : grG sw w t n with
  | none => have := (grG_spec sw w t n).1 hg (pi r) (h.1 r hr); rw [hask] at this; cases this
  | some b =>
    obtain ⟨hb, hab, hall⟩ := (grG_spec sw w t n).2 b hg
    rcases hall (pi r) (h.1 r hr) hask with e | o
    · rw [e]
    · exfalso
      obtain ⟨q, hq, rfl⟩ := h.2.2 b hb
      by_cases hqr : q < r
      · have : t.testBit (pi q) = true := (ht _).mpr ⟨q, hqr, hq, rfl, by simp [askB] at hab; exact hab.1⟩
        simp [askB, this] at hab
      · by_cases e : q = r
        · subst e; exact ordB_as o o
        · exact ordB_as o (h.2.1 r q (by omega) hq)
theorem gr_none {sw : Nat → Int32} {n : Nat} {pi : Nat → Nat} (h : rkPi sw n pi) {w t : Nat} (ht : tkOK pi w n n t) : grG sw w t n = none := by
  cases hg : grG sw w t n with
  | none => rfl
  | some b =>
    obtain ⟨hb, hab, -⟩ := (grG_spec sw w t n).2 b hg
    obtain ⟨q, hq, rfl⟩ := h.2.2 b hb
    have : t.testBit (pi q) = true := (ht _).mpr ⟨q, hq, hq, rfl, by simp [askB] at hab; exact hab.1⟩
    simp [askB, this] at hab
theorem gr_next {sw : Nat → Int32} {n : Nat} {pi : Nat → Nat} (h : rkPi sw n pi) {w t : Nat} (lead s : Int32) : ∀ (f r : Nat), f = n - r → r ≤ n → tkOK pi w n r t →
    (grG sw w t n = none ∧ wkG sw pi w lead (n - r) r s t = none) ∨ (∃ r', r ≤ r' ∧ r' < n ∧ w.testBit (pi r') = false ∧ grG sw w t n = some (pi r') ∧ tkOK pi w n (r' + 1) (t ||| 2 ^ pi r') ∧
      wkG sw pi w lead (n - r) r s t = (if lead ≤ s + sw (pi r') then some (t ||| 2 ^ pi r') else wkG sw pi w lead (n - (r' + 1)) (r' + 1) (s + sw (pi r')) (t ||| 2 ^ pi r'))) := by
  intro f
  induction f with
  | zero =>
    intro r hf hr ht
    have e : r = n := by omega
    subst e
    refine Or.inl ⟨gr_none h ht, ?_⟩
    rw [Nat.sub_self]; rfl
  | succ f ih =>
    intro r hf hr ht
    have hr' : r < n := by omega
    have hfe : n - r = (n - (r + 1)) + 1 := by omega
    cases hw : w.testBit (pi r) with
    | true =>
      have e : wkG sw pi w lead (n - r) r s t = wkG sw pi w lead (n - (r + 1)) (r + 1) s t := by rw [hfe, wkG, if_pos hw]
      rcases ih (r + 1) (by omega) (by omega) (tkOK_skip ht (fun _ => hw)) with ⟨h1, h2⟩ | ⟨r', h1, h2, h3, h4, h5, h6⟩
      · exact Or.inl ⟨h1, e.trans h2⟩
      · exact Or.inr ⟨r', by omega, h2, h3, h4, h5, e.trans h6⟩
    | false =>
      refine Or.inr ⟨r, Nat.le_refl r, hr', hw, gr_at h ht hr' hw, tkOK_take ht hr' hw, ?_⟩
      rw [hfe, wkG, if_neg (by rw [hw]; decide)]
/-! the same, told by how many -/
theorem nd_wk {sw : Nat → Int32} {n : Nat} {pi : Nat → Nat} (h : rkPi sw n pi) (hn : n ≤ 10) {w : Nat} {lead : Int32} : ∀ (f r : Nat) (s : Int32) (tak t : Nat), f = n - r → r ≤ n → tkOK pi w n r t → cntB t 10 = tak →
    ndG sw pi w lead f r s tak = (wkG sw pi w lead f r s t).map (fun x => cntB x 10) := by
  intro f
  induction f with
  | zero => intro r s tak t _ _ _ _; rfl
  | succ f ih =>
    intro r s tak t hf hr ht hc
    have hr' : r < n := by omega
    rw [ndG, wkG]
    cases hw : w.testBit (pi r) with
    | true => exact ih (r + 1) s tak t (by omega) (by omega) (tkOK_skip ht (fun _ => hw)) hc
    | false =>
      have h1 := tk_new h ht hr' (Nat.le_refl r)
      have h2 : cntB (t ||| 2 ^ pi r) 10 = tak + 1 := by
        have := h.1 r hr'
        rw [cntB_or h1, hc, if_pos (by omega)]
      simp only [Bool.false_eq_true, if_false]
      by_cases hl : lead ≤ s + sw (pi r)
      · rw [if_pos hl, if_pos hl, Option.map_some, h2]
      · rw [if_neg hl, if_neg hl]
        exact ih (r + 1) _ (tak + 1) _ (by omega) (by omega) (tkOK_take ht hr' hw) h2
theorem ndR_wk {sw : Nat → Int32} {n : Nat} {pi : Nat → Nat} (h : rkPi sw n pi) (hn : n ≤ 10) {w : Nat} {lead : Int32} : ndR sw pi n w lead = (wkR sw pi n w lead).map (fun x => cntB x 10) := by
  unfold ndR wkR
  split
  · rfl
  · exact nd_wk h hn n 0 0 0 0 rfl (Nat.zero_le _) (tkOK_0 pi w n) (by decide)
theorem wkG_lt {sw : Nat → Int32} {n : Nat} {pi : Nat → Nat} (h : rkPi sw n pi) {w : Nat} {lead : Int32} : ∀ (f r : Nat) (s : Int32) (t x : Nat), f = n - r → r ≤ n → t < 2 ^ n → wkG sw pi w lead f r s t = some x → x < 2 ^ n ∧ x ≠ 0 := by
  intro f
  induction f with
  | zero => intro r s t x _ _ _ h; simp [wkG] at h
  | succ f ih =>
    intro r s t x hf hr ht hx
    have h2 : t ||| 2 ^ pi r < 2 ^ n := Nat.or_lt_two_pow ht (Nat.pow_lt_pow_right (by decide) (h.1 r (by omega)))
    simp only [wkG] at hx
    split at hx
    · exact ih _ _ _ _ (by omega) (by omega) ht hx
    · split at hx
      · simp at hx; subst hx
        refine ⟨h2, fun e => ?_⟩
        have h3 : (t ||| 2 ^ pi r).testBit (pi r) = true := by rw [Nat.testBit_or, Nat.testBit_two_pow]; simp
        rw [e, Nat.zero_testBit] at h3; cases h3
      · exact ih _ _ _ _ (by omega) (by omega) h2 hx
theorem wkR_lt {sw : Nat → Int32} {n : Nat} {pi : Nat → Nat} (h : rkPi sw n pi) {w : Nat} {lead : Int32} {x : Nat} (hx : wkR sw pi n w lead = some x) : x < 2 ^ n := by
  unfold wkR at hx
  split at hx
  · simp at hx; subst hx; exact two_pos n
  · exact (wkG_lt h n 0 0 0 x rfl (Nat.zero_le _) (two_pos n) hx).1
/-- how many are taken: so many along the order -/
theorem gs_wk {sw : Nat → Int32} {n : Nat} {pi : Nat → Nat} (h : rkPi sw n pi) (hn : n ≤ 10) {w : Nat} {lead : Int32} : ∀ (f r : Nat) (s : Int32) (t x : Nat), f = n - r → r ≤ n → tkOK pi w n r t → wkG sw pi w lead f r s t = some x →
    cntB t 10 < cntB x 10 ∧ gsG pi w f r (cntB x 10 - cntB t 10) t = x := by
  intro f
  induction f with
  | zero => intro r s t x _ _ _ hx; simp [wkG] at hx
  | succ f ih =>
    intro r s t x hf hr ht hx
    have hr' : r < n := by omega
    simp only [wkG] at hx
    cases hw : w.testBit (pi r) with
    | true =>
      rw [hw, if_pos rfl] at hx
      obtain ⟨h1, h2⟩ := ih (r + 1) s t x (by omega) (by omega) (tkOK_skip ht (fun _ => hw)) hx
      exact ⟨h1, by rw [gsG, if_neg (by omega), if_pos hw]; exact h2⟩
    | false =>
      rw [hw, if_neg (by decide)] at hx
      have h1 := tk_new h ht hr' (Nat.le_refl r)
      have h3 : cntB (t ||| 2 ^ pi r) 10 = cntB t 10 + 1 := by
        have := h.1 r hr'
        rw [cntB_or h1, if_pos (by omega)]
      split at hx
      · simp at hx
        have h4 : cntB x 10 = cntB t 10 + 1 := hx ▸ h3
        refine ⟨by omega, ?_⟩
        rw [gsG, if_neg (by omega), if_neg (by rw [hw]; decide), h4, show cntB t 10 + 1 - cntB t 10 - 1 = 0 by omega, hx]
        cases f with
        | zero => rfl
        | succ f => rw [gsG, if_pos rfl]
      · obtain ⟨h5, h6⟩ := ih (r + 1) _ _ x (by omega) (by omega) (tkOK_take ht hr' hw) hx
        rw [h3] at h5 h6
        refine ⟨by omega, ?_⟩
        rw [gsG, if_neg (by omega), if_neg (by rw [hw]; decide), show cntB x 10 - cntB t 10 - 1 = cntB x 10 - (cntB t 10 + 1) by omega]
        exact h6
theorem gsG_0 (pi : Nat → Nat) (w f r t : Nat) : gsG pi w f r 0 t = t := by
  cases f with
  | zero => rfl
  | succ f => rw [gsG, if_pos rfl]
theorem gs_wkR {sw : Nat → Int32} {n : Nat} {pi : Nat → Nat} (h : rkPi sw n pi) (hn : n ≤ 10) {w : Nat} {lead : Int32} {x : Nat} (hx : wkR sw pi n w lead = some x) : gsG pi w n 0 (cntB x 10) 0 = x := by
  unfold wkR at hx
  split at hx
  · simp at hx; subst hx; exact gsG_0 _ _ _ _ _
  · have := (gs_wk h hn n 0 0 0 x rfl (Nat.zero_le _) (tkOK_0 pi w n) hx).2
    rwa [show cntB 0 10 = 0 from by decide, Nat.sub_zero] at this
/-- the row of numbers of the reference, and what it tells -/
def mA (a : Nat → Int32) (n kk cw c0 : Nat) (wi rl sp : Int32) (pd : Nat → Nat → Int32) (od : Nat → Int32) : Prop :=
  a 0 = nI n ∧ a 1 = rl ∧ a 2 = nI c0 ∧ a 3 = sp ∧ a 4 = nI kk ∧ (∀ p, p < n → ∀ q, q < 5 → a (5 + 6 * p + q) = pd p q) ∧
  (∀ p, p < n → (cw.testBit p = false → a (5 + 6 * p + 5) = -6) ∧ (cw.testBit p = true → ∃ t, t < kk ∧ a (5 + 6 * p + 5) = nI t ∧ od t = nI p)) ∧
  n ≤ 10 ∧ kk ≤ n ∧ cw < 2 ^ n ∧ cntB cw n = kk ∧ c0 < 2 ^ 31 ∧ (sp = 0 ∨ sp = 1) ∧ (1 ≤ rl ∧ rl ≤ 9999) ∧ wi = winF pd n ∧
  (∀ t, t < kk → ∃ p, p < n ∧ od t = nI p ∧ a (5 + 6 * p + 5) = nI t)
theorem mA.ext {a b : Nat → Int32} {n kk cw c0 : Nat} {wi rl sp : Int32} {pd : Nat → Nat → Int32} {od : Nat → Int32} (h : mA a n kk cw c0 wi rl sp pd od) (e : ∀ i, i < 65 → b i = a i) : mA b n kk cw c0 wi rl sp pd od := by
  obtain ⟨h0, h1, h2, h3, h4, h5, h6, h7, h8⟩ := h
  refine ⟨(e _ (by decide)).trans h0, (e _ (by decide)).trans h1, (e _ (by decide)).trans h2, (e _ (by decide)).trans h3, (e _ (by decide)).trans h4, fun p hp q hq => (e _ (by omega)).trans (h5 p hp q hq), fun p hp => ?_, h7, h8.1, h8.2.1, h8.2.2.1, h8.2.2.2.1, h8.2.2.2.2.1, h8.2.2.2.2.2.1, h8.2.2.2.2.2.2.1, fun t ht => ?_⟩
  · rw [e _ (by omega)]; exact h6 p hp
  · obtain ⟨p, hp, q1, q2⟩ := h8.2.2.2.2.2.2.2 t ht
    exact ⟨p, hp, q1, by rw [e _ (by omega)]; exact q2⟩
theorem winS_or (s : Int32) : winS s = 0 ∨ winS s = 1 ∨ winS s = -6 := by
  unfold winS
  split
  · exact Or.inl rfl
  · split
    · exact Or.inr (Or.inl rfl)
    · exact Or.inr (Or.inr rfl)
theorem win_lt {wi : Int32} {pd : Nat → Nat → Int32} {n : Nat} (h : wi = winF pd n) : (wi < 0 ↔ hwB wi = false) := by
  rw [h]
  rcases winS_or (gSum (fun i => repF 0 (pd i)) n) with e | e | e <;> (show winS _ < 0 ↔ hwB (winS _) = false) <;> rw [e] <;> decide
/-- those of a set that are taken as found -/
def fsN (ar : Bool) (w cw : Nat) : Nat := if ar = true then w &&& cw else w
theorem fsN_lt {ar : Bool} {w cw n : Nat} (h : w < 2 ^ n) : fsN ar w cw < 2 ^ n := by
  unfold fsN
  split
  · exact Nat.lt_of_le_of_lt Nat.and_le_left h
  · exact h
theorem fsN_bit (ar : Bool) (w cw i : Nat) : (fsN ar w cw).testBit i = (w.testBit i && (!ar || cw.testBit i)) := by
  unfold fsN
  cases ar <;> simp [Nat.testBit_and]
def seF (ar : Bool) (wi : Int32) (pd : Nat → Nat → Int32) (cw p : Nat) : Int32 := if (ar && !cw.testBit p) = true then repF wi (pd p) else fouF wi (pd p)
theorem opI_ge {o : Option Nat} (h : ¬ opI o < 0) : ∃ b, o = some b := by
  cases o with
  | none => exact absurd (by decide) h
  | some b => exact ⟨b, rfl⟩
theorem opI_lt {o : Option Nat} (hb : ∀ b, o = some b → b < 2 ^ 30) (h : opI o < 0) : o = none := by
  cases o with
  | none => rfl
  | some b =>
    exfalso
    have h1 : (nI b).toInt = b := nI_toInt (by have := hb b rfl; omega)
    have h2 : (nI b).toInt < (0 : Int32).toInt := Int32.lt_iff_toInt_lt.mp h
    have h3 : (0 : Int32).toInt = 0 := by decide
    omega
theorem lt_opI {o : Option Nat} (h : opI o < 0) (hb : ∀ b, o = some b → b < 2 ^ 30) : o = none := opI_lt hb h
theorem cs_step {cw j : Nat} : (cw % 2 ^ j) ||| (if cw.testBit j = true then 2 ^ j else 0) = cw % 2 ^ (j + 1) := by
  apply Nat.eq_of_testBit_eq
  intro i
  rw [Nat.testBit_or, Nat.testBit_mod_two_pow, Nat.testBit_mod_two_pow]
  by_cases e : i = j
  · subst e
    split
    · rename_i h; rw [Nat.testBit_two_pow]; simp [h]
    · rename_i h; simp [h]
  · have h1 : (if cw.testBit j = true then 2 ^ j else 0 : Nat).testBit i = false := by
      split
      · rw [Nat.testBit_two_pow]; simp; omega
      · exact Nat.zero_testBit i
    rw [h1, Bool.or_false]
    by_cases h2 : i < j
    · simp [h2, show i < j + 1 by omega]
    · simp [h2, show ¬ i < j + 1 by omega]
theorem Int32_neg_sub (a b : Int32) : -(a - b) = b - a := by
  apply Int32.toBitVec_inj.mp
  have ha := a.toBitVec.isLt
  have hb := b.toBitVec.isLt
  apply BitVec.eq_of_toNat_eq
  simp only [Int32.toBitVec_neg, Int32.toBitVec_sub, BitVec.toNat_neg, BitVec.toNat_sub]
  omega
theorem inP_in {x : Int32} {n : Nat} (hn : n ≤ 10) : inB x 0 (nI n - 1) = inP x (nI n) := by
  have h1 : (nI n - 1).toInt = (n : Int) - 1 := by
    have : ∀ n, n < 11 → (nI n - 1).toInt = (n : Int) - 1 := by decide +kernel
    exact this n (by omega)
  have h2 : (nI n).toInt = n := nI_toInt (by omega)
  unfold inB inP
  congr 1
  apply decide_eq_decide.mpr
  rw [Int32.le_iff_toInt_le, Int32.lt_iff_toInt_lt, h1, h2]
  omega
theorem nI_nn {t : Nat} (h : t < 2 ^ 30) : ¬ nI t < 0 := fun q => by
  have h1 : (nI t).toInt = t := nI_toInt (by omega)
  have h2 := Int32.lt_iff_toInt_lt.mp q
  have h3 : (0 : Int32).toInt = 0 := by decide
  omega
theorem mA_ct {a : Nat → Int32} {n kk cw c0 : Nat} {wi rl sp : Int32} {pd : Nat → Nat → Int32} {od : Nat → Int32} (h : mA a n kk cw c0 wi rl sp pd od) {p : Nat} (hp : p < n) (hc : ¬ a (5 + 6 * p + 5) < 0) : cw.testBit p = true := by
  obtain ⟨-, -, -, -, -, -, h6, -⟩ := h
  cases hb : cw.testBit p with
  | true => rfl
  | false => rw [(h6 p hp).1 hb] at hc; exact absurd (by decide) hc
theorem mA_cf {a : Nat → Int32} {n kk cw c0 : Nat} {wi rl sp : Int32} {pd : Nat → Nat → Int32} {od : Nat → Int32} (h : mA a n kk cw c0 wi rl sp pd od) {p : Nat} (hp : p < n) (hc : a (5 + 6 * p + 5) < 0) : cw.testBit p = false := by
  obtain ⟨-, -, -, -, -, -, h6, h7, h8, -⟩ := h
  cases hb : cw.testBit p with
  | false => rfl
  | true =>
    obtain ⟨t, ht, e, -⟩ := (h6 p hp).2 hb
    rw [e] at hc
    exact absurd hc (nI_nn (by omega))
theorem cs_or1 {cw j : Nat} (hj : j < 10) (hb : cw.testBit j = true) : nI (cw % 2 ^ j) ||| nI (2 ^ j) = nI (cw % 2 ^ (j + 1)) := by
  have h1 : 2 ^ j < 2 ^ 10 := Nat.pow_lt_pow_right (by decide) hj
  have h2 := Nat.mod_lt cw (two_pos j)
  rw [pkor (by omega) (by omega), ← cs_step, if_pos hb]
theorem cs_or0 {cw j : Nat} (hj : j < 10) (hb : cw.testBit j = false) : nI (cw % 2 ^ j) ||| 0 = nI (cw % 2 ^ (j + 1)) := by
  have h1 : 2 ^ j < 2 ^ 10 := Nat.pow_lt_pow_right (by decide) hj
  have h2 := Nat.mod_lt cw (two_pos j)
  rw [show (0 : Int32) = nI 0 from rfl, pkor (by omega) (by decide), ← cs_step, if_neg (by rw [hb]; decide)]
def fwF (wi x : Int32) : Int32 := if wi = 0 then x else -x
theorem fw_rep (wi : Int32) (d : Nat → Int32) : fwF wi (d 0 - d 1) = repF wi d := by
  unfold fwF repF
  split
  · rfl
  · exact Int32_neg_sub _ _
theorem fw_fou (wi : Int32) (d : Nat → Int32) : fwF wi (d 3 - d 4) = fouF wi d := by
  unfold fwF fouF
  split
  · rfl
  · exact Int32_neg_sub _ _
theorem se_t {ar : Bool} {wi : Int32} {pd : Nat → Nat → Int32} {w cw j : Nat} (h : w.testBit j = true) : seF ar wi pd cw j = if (fsN ar w cw).testBit j = true then fouF wi (pd j) else repF wi (pd j) := by
  unfold seF
  rw [fsN_bit, h]
  cases ar <;> cases cw.testBit j <;> rfl
theorem se_f {ar : Bool} {wi : Int32} {pd : Nat → Nat → Int32} {w cw j : Nat} (h : w.testBit j = false) : (if (fsN ar w cw).testBit j = true then fouF wi (pd j) else repF wi (pd j)) = repF wi (pd j) := by
  rw [fsN_bit, h]
  rfl
theorem wo_t {ar : Bool} {wi : Int32} {pd : Nat → Nat → Int32} {w cw j : Nat} (h : w.testBit j = true) (h2 : ¬ repF wi (pd j) ≤ seF ar wi pd cw j) : (if ((fsN ar w cw).testBit j && worB wi (pd j)) = true then 1 else 0 : Nat) = 1 := by
  rw [se_t h] at h2
  cases hb : (fsN ar w cw).testBit j with
  | true => rw [hb, if_pos rfl] at h2; rw [if_pos]; simp [worB, Int32.not_le.mp h2]
  | false => rw [hb, if_neg (by decide)] at h2; exact absurd (Int32.le_refl _) h2
theorem wo_n {ar : Bool} {wi : Int32} {pd : Nat → Nat → Int32} {w cw j : Nat} (h : w.testBit j = true) (h2 : repF wi (pd j) ≤ seF ar wi pd cw j) : (if ((fsN ar w cw).testBit j && worB wi (pd j)) = true then 1 else 0 : Nat) = 0 := by
  rw [se_t h] at h2
  cases hb : (fsN ar w cw).testBit j with
  | true => rw [hb, if_pos rfl] at h2; rw [if_neg]; simp [worB, Int32.not_lt.mpr h2]
  | false => rfl
theorem wo_f {ar : Bool} {wi : Int32} {pd : Nat → Nat → Int32} {w cw j : Nat} (h : w.testBit j = false) : (if ((fsN ar w cw).testBit j && worB wi (pd j)) = true then 1 else 0 : Nat) = 0 := by
  rw [fsN_bit, h]
  rfl
theorem wf_none {sw : Nat → Int32} {n : Nat} {pi : Nat → Nat} (h : rkPi sw n pi) {w t r : Nat} {lead s : Int32} {o : Option Nat} (hr : r ≤ n) (ht : tkOK pi w n r t) (hwk : o = if lead ≤ s then some t else wkG sw pi w lead (n - r) r s t) (h8 : ¬ lead ≤ s) (hg : grG sw w t n = none) : o = none := by
  rcases gr_next h lead s (n - r) r rfl hr ht with ⟨-, h2⟩ | ⟨r2, -, -, -, h4, -⟩
  · rw [hwk, if_neg h8, h2]
  · rw [hg] at h4; cases h4
theorem ndG_pos (sw : Nat → Int32) (pi : Nat → Nat) (w : Nat) (lead : Int32) : ∀ (f r : Nat) (tog : Int32) (tak m : Nat), ndG sw pi w lead f r tog tak = some m → 0 < m := by
  intro f
  induction f with
  | zero => intro r tog tak m h; simp [ndG] at h
  | succ f ih =>
    intro r tog tak m h
    simp only [ndG] at h
    split at h
    · exact ih _ _ _ _ h
    · split at h
      · simp at h; omega
      · exact ih _ _ _ _ h
section RB1
variable {wi : Int32} {pd : Nat → Nat → Int32} {pi : Nat → Nat} {n w f : Nat}
theorem rb_all1 (hwb : hwB wi = true) (h12 : w = 2 ^ n - 1) (h : 0 < leadF wi pd n f) : (0 : Int32) = rbF wi pd pi n w f := by rw [rbF, if_neg (by rw [hwb]; decide), if_pos h12, if_pos h]
theorem rb_all0 (hwb : hwB wi = true) (h12 : w = 2 ^ n - 1) (h : leadF wi pd n f ≤ 0) : (10000 : Int32) = rbF wi pd pi n w f := by rw [rbF, if_neg (by rw [hwb]; decide), if_pos h12, if_neg (Int32.not_lt.mpr h)]
theorem rb_lead (hwb : hwB wi = true) (h12 : w ≠ 2 ^ n - 1) (h : leadF wi pd n f ≤ 0) : (10000 : Int32) = rbF wi pd pi n w f := by
  rw [rbF, if_neg (by rw [hwb]; decide), if_neg h12, ndR, if_pos h]
  dsimp only
  rw [if_pos (Or.inl rfl)]
theorem rb_wor (hwb : hwB wi = true) (h12 : w ≠ 2 ^ n - 1) (h : 0 < worF wi pd f n) : (10000 : Int32) = rbF wi pd pi n w f := by
  rw [rbF, if_neg (by rw [hwb]; decide), if_neg h12]
  split
  · rw [if_pos h]
  · rw [if_pos (Or.inr h)]
theorem rb_none (hwb : hwB wi = true) (h12 : w ≠ 2 ^ n - 1) (h28 : 0 < leadF wi pd n f) (h : worF wi pd f n = 0) (hpi : rkPi (fun i => swF wi (pd i)) n pi) (hn : n ≤ 10) (ht : wkR (fun i => swF wi (pd i)) pi n w (leadF wi pd n f) = none) : (0 : Int32) = rbF wi pd pi n w f := by
  rw [rbF, if_neg (by rw [hwb]; decide), if_neg h12, ndR_wk hpi hn, ht]
  simp only [Option.map_none]
  rw [if_neg (by omega)]
theorem rb_some (hwb : hwB wi = true) (h12 : w ≠ 2 ^ n - 1) (h28 : 0 < leadF wi pd n f) (h : worF wi pd f n = 0) (hpi : rkPi (fun i => swF wi (pd i)) n pi) (hn : n ≤ 10) {t : Nat} (ht : wkR (fun i => swF wi (pd i)) pi n w (leadF wi pd n f) = some t) : rkF n (cntB w 10) (cntB t 10) = rbF wi pd pi n w f := by
  have e := ndR_wk hpi hn (w := w) (lead := leadF wi pd n f)
  rw [ht, Option.map_some] at e
  have hm : 0 < cntB t 10 := by
    have e2 := e
    rw [ndR, if_neg (Int32.not_le.mpr h28)] at e2
    exact ndG_pos _ _ _ _ _ _ _ _ _ e2
  rw [rbF, if_neg (by rw [hwb]; decide), if_neg h12, e]
  dsimp only
  rw [if_neg (by omega)]
end RB1
theorem win_t {wi : Int32} {pd : Nat → Nat → Int32} {n : Nat} (h : wi = winF pd n) (h2 : ¬ wi < 0) : hwB wi = true := by
  cases hb : hwB wi with
  | true => rfl
  | false => exact absurd ((win_lt h).mpr hb) h2
theorem rb_no {wi rl : Int32} {pd : Nat → Nat → Int32} {pi : Nat → Nat} {n w f : Nat} (h : wi = winF pd n) (h2 : wi < 0) (hr : rl ≤ 9999) : ¬ rbF wi pd pi n w f ≤ rl := by
  rw [rbF, if_pos ((win_lt h).mp h2)]
  intro q
  exact absurd (Int32.le_trans q hr) (by decide)
