/-! the reference: what its changes do to the row of numbers, and to the rows that are kept -/
def kpF (kf : Bool) (f0 hm : Nat) : Nat := if kf = true ∧ hm = 6 then (f0 + 1) % 6 else f0
def kpM (kf : Bool) (hm : Nat) : Nat := if kf = true then (if hm < 6 then hm + 1 else 6) else hm
def blkA (ps : Nat → Int32) (pl : Nat) (a : Nat → Int32) (i : Nat) : Nat → Int32 := fun x => if 65 * pl ≤ x ∧ x < 65 * pl + i then a (x - 65 * pl) else ps x
def kpP (kf : Bool) (ps : Nat → Int32) (f0 hm : Nat) (a : Nat → Int32) : Nat → Int32 := if kf = true then blkA ps ((kpF kf f0 hm + (kpM kf hm - 1)) % 6) a 65 else ps
theorem blkA_0 {ps : Nat → Int32} {pl : Nat} {a : Nat → Int32} : blkA ps pl a 0 = ps := by
  funext x
  rw [blkA, if_neg (by omega)]
theorem blkA_up {ps : Nat → Int32} {pl i : Nat} {a : Nat → Int32} : upd (blkA ps pl a i) (65 * pl + i) (a i) = blkA ps pl a (i + 1) := by
  funext x
  by_cases e : x = 65 * pl + i
  · subst e
    rw [pk_us, blkA, if_pos (by omega), Nat.add_sub_cancel_left]
  · rw [pk_un e]
    by_cases h : 65 * pl ≤ x ∧ x < 65 * pl + i
    · rw [blkA, blkA, if_pos h, if_pos (by omega)]
    · rw [blkA, blkA, if_neg h, if_neg (by omega)]
theorem blkA_in {ps : Nat → Int32} {pl i : Nat} {a : Nat → Int32} (h : i < 65) : blkA ps pl a 65 (65 * pl + i) = a i := by
  rw [blkA, if_pos (by omega), Nat.add_sub_cancel_left]
theorem blkA_out {ps : Nat → Int32} {pl pl2 i : Nat} {a : Nat → Int32} (h : i < 65) (hp : pl2 ≠ pl) : blkA ps pl a 65 (65 * pl2 + i) = ps (65 * pl2 + i) := by
  rw [blkA, if_neg (by omega)]
theorem kp_f {f0 hm : Nat} {ps a : Nat → Int32} {kf : Bool} (h : kf = false) : kpF kf f0 hm = f0 ∧ kpM kf hm = hm ∧ kpP kf ps f0 hm a = ps := by
  subst h
  exact ⟨if_neg (by simp), if_neg (by simp), if_neg (by simp)⟩
theorem kp_t6 {f0 : Nat} {ps a : Nat → Int32} : kpF true f0 6 = (f0 + 1) % 6 ∧ kpM true 6 = 6 - 1 + 1 ∧ kpP true ps f0 6 a = blkA ps (((f0 + 1) % 6 + (6 - 1)) % 6) a 65 := by
  refine ⟨rfl, rfl, rfl⟩
theorem kp_tn {f0 hm : Nat} {ps a : Nat → Int32} (h : hm < 6) : kpF true f0 hm = f0 ∧ kpM true hm = hm + 1 ∧ kpP true ps f0 hm a = blkA ps ((f0 + hm) % 6) a 65 := by
  have h1 : kpF true f0 hm = f0 := if_neg (by omega)
  have h2 : kpM true hm = hm + 1 := by rw [kpM, if_pos rfl, if_pos h]
  refine ⟨h1, h2, ?_⟩
  rw [kpP, if_pos rfl, h1, h2, Nat.add_sub_cancel]
section MA1
variable {a : Nat → Int32} {n kk cw c0 : Nat} {wi rl sp : Int32} {pd : Nat → Nat → Int32} {od : Nat → Int32}
theorem mA_limit (h : mA a n kk cw c0 wi rl sp pd od) {v : Int32} (hv : inB v 1 9999 = true) : mA (upd a 1 v) n kk cw c0 wi v sp pd od := by
  obtain ⟨h0, h1, h2, h3, h4, h5, h6, h7, h8, h9, h10, h11, h12, h13, h14, h15⟩ := h
  simp only [inB, Bool.and_eq_true, decide_eq_true_eq] at hv
  refine ⟨(pk_un (by decide)).trans h0, pk_us, (pk_un (by decide)).trans h2, (pk_un (by decide)).trans h3, (pk_un (by decide)).trans h4, fun p hp q hq => (pk_un (by omega)).trans (h5 p hp q hq), fun p hp => ?_, h7, h8, h9, h10, h11, h12, hv, h14, fun t ht => ?_⟩
  · rw [pk_un (by omega)]; exact h6 p hp
  · obtain ⟨p, q1, q2, q3⟩ := h15 t ht; exact ⟨p, q1, q2, by rw [pk_un (by omega)]; exact q3⟩
theorem mA_seed (h : mA a n kk cw c0 wi rl sp pd od) {v : Nat} (hv : v < 2 ^ 31) : mA (upd a 2 (nI v)) n kk cw v wi rl sp pd od := by
  obtain ⟨h0, h1, h2, h3, h4, h5, h6, h7, h8, h9, h10, h11, h12, h13, h14, h15⟩ := h
  refine ⟨(pk_un (by decide)).trans h0, (pk_un (by decide)).trans h1, pk_us, (pk_un (by decide)).trans h3, (pk_un (by decide)).trans h4, fun p hp q hq => (pk_un (by omega)).trans (h5 p hp q hq), fun p hp => ?_, h7, h8, h9, h10, hv, h12, h13, h14, fun t ht => ?_⟩
  · rw [pk_un (by omega)]; exact h6 p hp
  · obtain ⟨p, q1, q2, q3⟩ := h15 t ht; exact ⟨p, q1, q2, by rw [pk_un (by omega)]; exact q3⟩
theorem mA_stop (h : mA a n kk cw c0 wi rl sp pd od) : mA (upd a 3 1) n kk cw c0 wi rl 1 pd od := by
  obtain ⟨h0, h1, h2, h3, h4, h5, h6, h7, h8, h9, h10, h11, h12, h13, h14, h15⟩ := h
  refine ⟨(pk_un (by decide)).trans h0, (pk_un (by decide)).trans h1, (pk_un (by decide)).trans h2, pk_us, (pk_un (by decide)).trans h4, fun p hp q hq => (pk_un (by omega)).trans (h5 p hp q hq), fun p hp => ?_, h7, h8, h9, h10, h11, Or.inr rfl, h13, h14, fun t ht => ?_⟩
  · rw [pk_un (by omega)]; exact h6 p hp
  · obtain ⟨p, q1, q2, q3⟩ := h15 t ht; exact ⟨p, q1, q2, by rw [pk_un (by omega)]; exact q3⟩
theorem pos_lt {cw kk n p : Nat} (hc : cntB cw n = kk) (hp : p < n) (hb : cw.testBit p = false) : kk < n := by
  have h1 := cntB_or hb n
  have h2 := cntB_le (cw ||| 2 ^ p) n
  rw [if_pos hp] at h1
  omega
theorem mA_count (h : mA a n kk cw c0 wi rl sp pd od) {p : Nat} (hp : p < n) (hb : cw.testBit p = false) : mA (upd (upd a (5 + 6 * p + 5) (nI kk)) 4 (nI (kk + 1))) n (kk + 1) (cw ||| 2 ^ p) c0 wi rl sp pd (upd od kk (nI p)) := by
  obtain ⟨h0, h1, h2, h3, h4, h5, h6, h7, h8, h9, h10, h11, h12, h13, h14, h15⟩ := h
  have hlt := pos_lt h10 hp hb
  have tb : ∀ i, (cw ||| 2 ^ p).testBit i = (cw.testBit i || decide (p = i)) := fun i => by rw [Nat.testBit_or, Nat.testBit_two_pow]
  refine ⟨?_, ?_, ?_, ?_, pk_us, fun q hq r hr => ?_, fun q hq => ⟨fun hf => ?_, fun ht => ?_⟩, h7, by omega, Nat.or_lt_two_pow h9 (Nat.pow_lt_pow_right (by decide) hp), ?_, h11, h12, h13, h14, fun t ht => ?_⟩
  · rw [pk_un (by decide), pk_un (by omega)]; exact h0
  · rw [pk_un (by decide), pk_un (by omega)]; exact h1
  · rw [pk_un (by decide), pk_un (by omega)]; exact h2
  · rw [pk_un (by decide), pk_un (by omega)]; exact h3
  · rw [pk_un (by omega), pk_un (by omega)]; exact h5 q hq r hr
  · rw [tb] at hf
    simp only [Bool.or_eq_false_iff, decide_eq_false_iff_not] at hf
    rw [pk_un (by omega), pk_un (by omega)]; exact (h6 q hq).1 hf.1
  · by_cases e : p = q
    · subst e
      exact ⟨kk, by omega, by rw [pk_un (by omega), pk_us], pk_us⟩
    · rw [tb, decide_eq_false e, Bool.or_false] at ht
      obtain ⟨t, q1, q2, q3⟩ := (h6 q hq).2 ht
      exact ⟨t, by omega, by rw [pk_un (by omega), pk_un (by omega)]; exact q2, by rw [pk_un (by omega)]; exact q3⟩
  · rw [cntB_or hb, h10, if_pos hp]
  · by_cases e : t = kk
    · subst e; exact ⟨p, hp, pk_us, by rw [pk_un (by omega), pk_us]⟩
    · obtain ⟨q, q1, q2, q3⟩ := h15 t (by omega)
      have hne : q ≠ p := fun e2 => by
        subst e2
        have := (h6 q q1).1 hb
        rw [q3] at this
        exact nI_nm6 (by omega) this
      exact ⟨q, q1, by rw [pk_un e]; exact q2, by rw [pk_un (by omega), pk_un (by omega)]; exact q3⟩
theorem mA_found (h : mA a n kk cw c0 wi rl sp pd od) {p : Nat} (hp : p < n) (x y : Int32) : mA (upd (upd a (5 + 6 * p + 3) x) (5 + 6 * p + 4) y) n kk cw c0 wi rl sp (pdSet (pdSet pd p 3 x) p 4 y) od := by
  obtain ⟨h0, h1, h2, h3, h4, h5, h6, h7, h8, h9, h10, h11, h12, h13, h14, h15⟩ := h
  have hpd : ∀ q r, pdSet (pdSet pd p 3 x) p 4 y q r = if q = p ∧ r = 4 then y else if q = p ∧ r = 3 then x else pd q r := fun q r => by
    by_cases e : q = p
    · subst e
      rw [pdSet_eq, pdSet_eq]
      by_cases e4 : r = 4
      · subst e4; rw [pk_us, if_pos ⟨rfl, rfl⟩]
      · rw [pk_un e4, if_neg (by simp [e4])]
        by_cases e3 : r = 3
        · subst e3; rw [pk_us, if_pos ⟨rfl, rfl⟩]
        · rw [pk_un e3, if_neg (by simp [e3])]
    · rw [pdSet_ne e, pdSet_ne e, if_neg (by simp [e]), if_neg (by simp [e])]
  refine ⟨?_, ?_, ?_, ?_, ?_, fun q hq r hr => ?_, fun q hq => ?_, h7, h8, h9, h10, h11, h12, h13, ?_, fun t ht => ?_⟩
  · rw [pk_un (by omega), pk_un (by omega)]; exact h0
  · rw [pk_un (by omega), pk_un (by omega)]; exact h1
  · rw [pk_un (by omega), pk_un (by omega)]; exact h2
  · rw [pk_un (by omega), pk_un (by omega)]; exact h3
  · rw [pk_un (by omega), pk_un (by omega)]; exact h4
  · rw [hpd]
    by_cases e : q = p ∧ r = 4
    · rw [if_pos e, e.1, e.2, pk_us]
    · rw [if_neg e]
      have e' : ¬ (5 + 6 * q + r = 5 + 6 * p + 4) := by omega
      rw [pk_un e']
      by_cases e3 : q = p ∧ r = 3
      · rw [if_pos e3, e3.1, e3.2, pk_us]
      · rw [if_neg e3, pk_un (by omega)]; exact h5 q hq r hr
  · rw [pk_un (by omega), pk_un (by omega)]; exact h6 q hq
  · rw [h14]
    unfold winF
    congr 1
    apply gSum_congr
    intro i _
    have e : ∀ r, r < 3 → pdSet (pdSet pd p 3 x) p 4 y i r = pd i r := fun r hr => by rw [hpd, if_neg (by omega), if_neg (by omega)]
    unfold repF
    rw [e 0 (by decide), e 1 (by decide)]
  · obtain ⟨q, q1, q2, q3⟩ := h15 t ht; exact ⟨q, q1, q2, by rw [pk_un (by omega), pk_un (by omega)]; exact q3⟩
theorem cw_zero {cw n : Nat} (h1 : cw < 2 ^ n) (h2 : cntB cw n = 0) : cw = 0 := by
  apply Nat.eq_of_testBit_eq
  intro i
  rw [Nat.zero_testBit]
  have key : ∀ m, cntB cw m = 0 → ∀ i, i < m → cw.testBit i = false := by
    intro m
    induction m with
    | zero => intro _ i h; omega
    | succ m ih =>
      intro hm i hi
      have e : cntB cw (m + 1) = cntB cw m + (if cw.testBit m = true then 1 else 0) := rfl
      rw [e] at hm
      by_cases e2 : i = m
      · subst e2
        cases hb : cw.testBit i with
        | false => rfl
        | true => rw [hb] at hm; simp at hm
      · exact ih (by omega) i (by omega)
  by_cases hi : i < n
  · exact key n h2 i hi
  · exact Nat.testBit_lt_two_pow (Nat.lt_of_lt_of_le h1 (Nat.pow_le_pow_right (by decide) (by omega)))
theorem mA_pile (h : mA a n kk cw c0 wi rl sp pd od) (hn : n < 10) (hk : kk = 0) (x y b : Int32) :
    mA (upd (upd (upd (upd (upd (upd (upd a (5 + 6 * n + 0) x) (5 + 6 * n + 1) y) (5 + 6 * n + 2) b) (5 + 6 * n + 3) x) (5 + 6 * n + 4) y) (5 + 6 * n + 5) (-6)) 0 (nI (n + 1))) (n + 1) kk cw c0 (winF (va_up pd n (pileD x y b)) (n + 1)) rl sp (va_up pd n (pileD x y b)) od := by
  obtain ⟨h0, h1, h2, h3, h4, h5, h6, h7, h8, h9, h10, h11, h12, h13, h14, h15⟩ := h
  have hcw : cw = 0 := cw_zero h9 (h10.trans hk)
  subst hcw
  subst hk
  have s7 : ∀ i, 0 < i → (i < 5 + 6 * n ∨ 5 + 6 * n + 5 < i) → upd (upd (upd (upd (upd (upd (upd a (5 + 6 * n + 0) x) (5 + 6 * n + 1) y) (5 + 6 * n + 2) b) (5 + 6 * n + 3) x) (5 + 6 * n + 4) y) (5 + 6 * n + 5) (-6)) 0 (nI (n + 1)) i = a i := fun i hi h => by
    rw [pk_un (by omega), pk_un (by omega), pk_un (by omega), pk_un (by omega), pk_un (by omega), pk_un (by omega), pk_un (by omega)]
  refine ⟨pk_us, (s7 1 (by decide) (by omega)).trans h1, (s7 2 (by decide) (by omega)).trans h2, (s7 3 (by decide) (by omega)).trans h3, (s7 4 (by decide) (by omega)).trans h4, fun q hq r hr => ?_, fun q hq => ⟨fun _ => ?_, fun hb => by simp at hb⟩, by omega, by omega, two_pos _, ?_, h11, h12, h13, rfl, fun t ht => absurd ht (Nat.not_lt_zero t)⟩
  · by_cases e : q = n
    · subst e
      rw [va_up_self, pk_un (by omega)]
      match r, hr with
      | 0, _ => rw [pk_un (by omega), pk_un (by omega), pk_un (by omega), pk_un (by omega), pk_un (by omega), pk_us]; rfl
      | 1, _ => rw [pk_un (by omega), pk_un (by omega), pk_un (by omega), pk_un (by omega), pk_us]; rfl
      | 2, _ => rw [pk_un (by omega), pk_un (by omega), pk_un (by omega), pk_us]; rfl
      | 3, _ => rw [pk_un (by omega), pk_un (by omega), pk_us]; rfl
      | 4, _ => rw [pk_un (by omega), pk_us]; rfl
    · rw [va_up_ne _ _ e, s7 _ (by omega) (by omega)]; exact h5 q (by omega) r hr
  · by_cases e : q = n
    · subst e; rw [pk_un (by omega), pk_us]
    · rw [s7 _ (by omega) (by omega)]; exact (h6 q (by omega)).1 (Nat.zero_testBit q)
  · have : ∀ m, cntB 0 m = 0 := fun m => by
      induction m with
      | zero => rfl
      | succ m ih => show cntB 0 m + _ = 0; rw [ih, Nat.zero_testBit]; rfl
    exact this _
end MA1
theorem epF_0 {a b c : Int32} {n kk : Nat} (hn : n ≤ 10) (hk : kk ≤ n) (h : epF a b c n (nI kk) = 0) : inB a 0 200 = true ∧ inB b 0 200 = true ∧ inB c 0 200 = true ∧ n < 10 ∧ kk = 0 := by
  unfold epF at h
  split at h
  · exact absurd h (by decide)
  · rename_i h1
    split at h
    · exact absurd h (by decide)
    · rename_i h2
      split at h
      · exact absurd h (by decide)
      · rename_i h3
        simp only [Bool.not_eq_false, Bool.and_eq_true] at h1
        refine ⟨h1.1.1, h1.1.2, h1.2, by omega, ?_⟩
        by_cases e : kk = 0
        · exact e
        · exfalso; apply h3
          have : nI 0 < nI kk := (nI_ltI (by decide) (by omega)).mpr (by omega)
          exact this
theorem epF_is0 {a b c : Int32} {n kk : Nat} (h1 : inB a 0 200 = true) (h2 : inB b 0 200 = true) (h3 : inB c 0 200 = true) (hn : n < 10) (hk : kk = 0) : epF a b c n (nI kk) = 0 := by
  subst hk
  unfold epF
  rw [h1, h2, h3, if_neg (by decide), if_neg (by omega), if_neg (by decide)]
theorem inB_not {a s : Int32} (h : inB a 0 s = false) : a < 0 ∨ s < a := by
  by_cases h1 : a < 0
  · exact Or.inl h1
  · by_cases h2 : s < a
    · exact Or.inr h2
    · rw [inB_t h1 h2] at h; cases h
theorem inB_ok {a s : Int32} (h : inB a 0 s = true) : ¬ a < 0 ∧ ¬ s < a := by
  simp only [inB, Bool.and_eq_true, decide_eq_true_eq] at h
  exact ⟨Int32.not_lt.mpr h.1, Int32.not_lt.mpr h.2⟩
theorem fo_eq (x y u v : Int32) : 100000 + x - y - u + v = 100000 + ((x - y) - (u - v)) := by grind
theorem opB_over {wi sp : Int32} {pd : Nat → Nat → Int32} {n : Nat} (hwi : wi = winF pd n) (h : wi < 0) : opB wi sp = false := by rw [opB, (win_lt hwi).mp h]; rfl
