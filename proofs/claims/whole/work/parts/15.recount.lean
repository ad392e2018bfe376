/-! what a Recount answers, as functions of its piles' numbers -/
def sizF (d : Nat → Int32) : Int32 := d 0 + d 1 + d 2
def repF (wi : Int32) (d : Nat → Int32) : Int32 := if wi = 0 then d 0 - d 1 else d 1 - d 0
def fouF (wi : Int32) (d : Nat → Int32) : Int32 := if wi = 0 then d 3 - d 4 else d 4 - d 3
def swF (wi : Int32) (d : Nat → Int32) : Int32 := repF wi d + sizF d
def worB (wi : Int32) (d : Nat → Int32) : Bool := decide (fouF wi d < repF wi d)
def hwB (wi : Int32) : Bool := decide (wi ≠ -6)
def opB (wi sp : Int32) : Bool := hwB wi && decide (sp = 0)
def inP (x pl : Int32) : Bool := decide (0 ≤ x) && decide (x < pl)
def opI (o : Option Nat) : Int32 := match o with
  | none => -6
  | some m => nI m
def epF (a b c : Int32) (n : Nat) (cp : Int32) : Int32 := if (inB a 0 200 && inB b 0 200 && inB c 0 200) = false then -2 else if 10 ≤ n then -4 else if 0 < cp then -5 else 0
def efF (x a b pl : Int32) (pd : Nat → Nat → Int32) (cw : Nat) : Int32 :=
  if inP x pl = false then -1 else
  if a < 0 ∨ b < 0 ∨ sizF (pd x.toNatClampNeg) < a ∨ sizF (pd x.toNatClampNeg) - a < b then -2 else
  if cw.testBit x.toNatClampNeg = true then -5 else 0
def leadF (wi : Int32) (pd : Nat → Nat → Int32) (n w : Nat) : Int32 := gSum (fun i => if w.testBit i = true then fouF wi (pd i) else repF wi (pd i)) n
def worF (wi : Int32) (pd : Nat → Nat → Int32) (w : Nat) : Nat → Nat
  | 0 => 0
  | n + 1 => worF wi pd w n + (if (w.testBit n && worB wi (pd n)) = true then 1 else 0)
theorem worF_le (wi : Int32) (pd : Nat → Nat → Int32) (w n : Nat) : worF wi pd w n ≤ n := by
  induction n with
  | zero => exact Nat.le_refl 0
  | succ n ih =>
    show worF wi pd w n + _ ≤ n + 1
    split <;> omega
/-- the fewest piles, along an order pi of the piles: from the rank r on, with f ranks left -/
def ndG (sw : Nat → Int32) (pi : Nat → Nat) (w : Nat) (lead : Int32) : Nat → Nat → Int32 → Nat → Option Nat
  | 0, _, _, _ => none
  | f + 1, r, tog, tak => if w.testBit (pi r) = true then ndG sw pi w lead f (r + 1) tog tak else
      if lead ≤ tog + sw (pi r) then some (tak + 1) else ndG sw pi w lead f (r + 1) (tog + sw (pi r)) (tak + 1)
def ndR (sw : Nat → Int32) (pi : Nat → Nat) (n w : Nat) (lead : Int32) : Option Nat := if lead ≤ 0 then some 0 else ndG sw pi w lead n 0 0 0
theorem ndG_le (sw : Nat → Int32) (pi : Nat → Nat) (w : Nat) (lead : Int32) : ∀ (f r : Nat) (tog : Int32) (tak m : Nat), ndG sw pi w lead f r tog tak = some m → m ≤ tak + f := by
  intro f
  induction f with
  | zero => intro r tog tak m h; simp [ndG] at h
  | succ f ih =>
    intro r tog tak m h
    simp only [ndG] at h
    split at h
    · have := ih _ _ _ _ h; omega
    · split at h
      · simp at h; omega
      · have := ih _ _ _ _ h; omega
theorem ndR_le {sw : Nat → Int32} {pi : Nat → Nat} {n w : Nat} {lead : Int32} {m : Nat} (h : ndR sw pi n w lead = some m) : m ≤ n := by
  unfold ndR at h
  split at h
  · simp at h; omega
  · have := ndG_le _ _ _ _ _ _ _ _ _ h; omega
theorem opI_0 {o : Option Nat} {n : Nat} (hn : n < 2 ^ 30) (hb : ∀ m, o = some m → m ≤ n) (h : opI o = 0) : o = some 0 := by
  cases o with
  | none => exact absurd h (by decide)
  | some m =>
    have := (nI_eq (a := m) (b := 0) (by have := hb m rfl; omega) (by decide)).mp h
    rw [this]
theorem opI_n {o : Option Nat} {n : Nat} (hn : n < 2 ^ 30) (hb : ∀ m, o = some m → m ≤ n) (h : opI o = -6) : o = none := by
  cases o with
  | none => rfl
  | some m =>
    exfalso
    have h1 : (nI m).toInt = m := nI_toInt (by have := hb m rfl; omega)
    rw [show nI m = -6 from h] at h1
    have h2 : (-6 : Int32).toInt = -6 := by decide
    omega
theorem opI_nn {o : Option Nat} (h : ¬ opI o = -6) : ∃ m, o = some m := by
  cases o with
  | none => exact absurd rfl h
  | some m => exact ⟨m, rfl⟩
/-- the risk behind a set w of piles, those of f by what was found -/
def rbF (wi : Int32) (pd : Nat → Nat → Int32) (pi : Nat → Nat) (n w f : Nat) : Int32 :=
  if hwB wi = false then 10000 else
  if w = 2 ^ n - 1 then (if 0 < leadF wi pd n f then 0 else 10000) else
  match ndR (fun i => swF wi (pd i)) pi n w (leadF wi pd n f) with
  | none => if 0 < worF wi pd f n then 10000 else 0
  | some m => if m = 0 ∨ 0 < worF wi pd f n then 10000 else rkF n (cntB w 10) m
/-- piles taken along the order, until there are many -/
def gsG (pi : Nat → Nat) (cw : Nat) : Nat → Nat → Nat → Nat → Nat
  | 0, _, _, set => set
  | f + 1, r, left, set => if left = 0 then set else if cw.testBit (pi r) = true then gsG pi cw f (r + 1) left set else gsG pi cw f (r + 1) (left - 1) (set ||| 2 ^ pi r)
def piOK (bs : Nat → Int32) (pi : Nat → Nat) (n : Nat) : Prop := ∀ r, r < n → bs r = nI (pi r) ∧ pi r < n
/-- the numbers of piles that were refused, over the sets below s -/
def rfG (wi : Int32) (pd : Nat → Nat → Int32) (pi : Nat → Nat) (n cw : Nat) (rl : Int32) : Nat → Nat
  | 0 => 0
  | s + 1 => if s &&& cw = 0 ∧ rl < rbF wi pd pi n (cw ||| s) cw then rfG wi pd pi n cw rl s ||| 2 ^ cntB s 10 else rfG wi pd pi n cw rl s
def lsG (rf k : Nat) : Nat → Nat → Int32
  | 0, _ => -6
  | f + 1, t => if rf.testBit t = true then lsG rf k f (t + 1) else nI t
theorem bitc0 : ∀ w, w < 1024 → cntB w 10 ≤ 10 := fun w _ => cntB_le w 10
theorem cntB_lt {w n m : Nat} (h : w < 2 ^ n) (hm : n ≤ m) : cntB w m ≤ n := by
  induction m with
  | zero => exact Nat.zero_le _
  | succ m ih =>
    by_cases hnm : n ≤ m
    · have h1 : w.testBit m = false := Nat.testBit_lt_two_pow (Nat.lt_of_lt_of_le h (Nat.pow_le_pow_right (by decide) hnm))
      show cntB w m + _ ≤ n
      rw [h1]
      exact ih hnm
    · have h2 : n = m + 1 := by omega
      rw [h2]
      exact cntB_le w (m + 1)
theorem por_lt {a b : Nat} (n : Nat) (ha : a < 2 ^ n) (hb : b < 2 ^ n) : a ||| b < 2 ^ n := Nat.or_lt_two_pow ha hb
theorem pkor {a b : Nat} (ha : a < 2 ^ 30) (hb : b < 2 ^ 30) : nI a ||| nI b = nI (a ||| b) := by
  apply Int32.toBitVec_inj.mp
  apply BitVec.eq_of_toNat_eq
  rw [pk_tn (Nat.lt_of_lt_of_le (por_lt 30 ha hb) (by decide)), Int32.toBitVec_or, BitVec.toNat_or, pk_tn (by omega), pk_tn (by omega)]
theorem pkand {a b : Nat} (ha : a < 2 ^ 30) (hb : b < 2 ^ 30) : nI a &&& nI b = nI (a &&& b) := by
  apply Int32.toBitVec_inj.mp
  apply BitVec.eq_of_toNat_eq
  rw [pk_tn (Nat.lt_of_lt_of_le (Nat.and_lt_two_pow a hb) (by decide)), Int32.toBitVec_and, BitVec.toNat_and, pk_tn (by omega), pk_tn (by omega)]
theorem pkshl {k : Nat} (hk : k < 30) : (1 : Int32) <<< (nI k &&& 31) = nI (2 ^ k) := by
  have h := pk_shlN (n := 1) (nI k &&& 31) k (shiftArg k (by omega)) (by
    have : 2 ^ k ≤ 2 ^ 30 := Nat.pow_le_pow_right (by decide) (by omega)
    omega)
  rw [Nat.one_mul] at h
  exact h
theorem two_lt {n : Nat} (h : n ≤ 10) : 2 ^ n ≤ 1024 := Nat.pow_le_pow_right (by decide) h
theorem two_pos (n : Nat) : 0 < 2 ^ n := Nat.pow_pos (by decide)
section GX4
variable {p : Program} {l : Launch} {e : Env} {R : Room} {s : State} {m : MethodId} {args : Array Value} {below : List Frame} {meth : Method} {c : Code} {nL z : Nat} {D : va_G} {Q : State → Prop} {N : Nat} {F : Nat → va_E} {cells slots : Nat} {L : List (Nat × Value)} {pc : Nat} {st : List Value}
theorem x_eqL (L2 : List (Nat × Value)) (h : L = L2) (k : gX p l e R s m args below meth c nL z D Q N F cells slots L2 pc st) : gX p l e R s m args below meth c nL z D Q N F cells slots L pc st := h ▸ k
end GX4
