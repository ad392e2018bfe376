/-! numbers: sums, sets of piles as naturals, ways to choose -/
def gSum (f : Nat → Int32) : Nat → Int32
  | 0 => 0
  | n + 1 => gSum f n + f n
theorem gSum_congr {f g : Nat → Int32} {n : Nat} (h : ∀ i, i < n → f i = g i) : gSum f n = gSum g n := by
  induction n with
  | zero => rfl
  | succ n ih =>
    show gSum f n + f n = gSum g n + g n
    rw [ih (fun i hi => h i (by omega)), h n (by omega)]
/-- how many of the first n bits are set -/
def cntB (w : Nat) : Nat → Nat
  | 0 => 0
  | n + 1 => cntB w n + (if w.testBit n = true then 1 else 0)
theorem cntB_le (w n : Nat) : cntB w n ≤ n := by
  induction n with
  | zero => exact Nat.le_refl 0
  | succ n ih =>
    show cntB w n + _ ≤ n + 1
    split <;> omega
def facF : Nat → Int32
  | 0 => 1
  | k + 1 => facF k * nI (k + 2)
def chL (m : Nat) : Nat → Int64
  | 0 => 1
  | i + 1 => chL m i * lN (m + (i + 1)) / lN (i + 1)
def chF (n k : Nat) : Int64 := if n < k then 0 else chL (n - k) k
def rkF (p c nd : Nat) : Int32 := ((10000 * chF (p - nd) c + chF p c - 1) / chF p c).toInt32
theorem chF_pos0 : ∀ p, p < 21 → ∀ c, c < 21 → c ≤ p → (0 : Int64) < chF p c := by decide +kernel
theorem chF_pos {p c : Nat} (hp : p ≤ 20) (hc : c ≤ p) : (0 : Int64) < chF p c := chF_pos0 p (by omega) c (by omega) hc
theorem shiftArg : ∀ k, k < 32 → ((nI k &&& 31).toBitVec.smod 32).toNat = k := by decide +kernel
theorem bit_val {w k : Nat} (hw : w < 2 ^ 31) (hk : k < 32) : nI w >>> (nI k &&& 31) &&& 1 = bz (w.testBit k) := by
  rw [pk_shrN hw _ k (shiftArg k hk), pk_andN (by have := Nat.div_le_self w (2 ^ k); omega) 1 rfl, Nat.testBit_eq_decide_div_mod_eq]
  have h2 : w / 2 ^ k % 2 = 0 ∨ w / 2 ^ k % 2 = 1 := by omega
  show nI (w / 2 ^ k % 2) = _
  rcases h2 with h | h <;> rw [h] <;> rfl
theorem bz_1 {b : Bool} (h : bz b = 1) : b = true := by cases b <;> simp_all [bz]
theorem bz_n1 {b : Bool} (h : ¬ bz b = 1) : b = false := by cases b <;> simp_all [bz]
theorem lN_ne0 {i : Nat} (h : i < 2 ^ 31) (h0 : 0 < i) : ¬ lN i = 0 := fun q => by
  have := (lN_eq h (by decide : (0 : Nat) < 2 ^ 31)).mp q
  omega
theorem lcmp_le {x y : Int64} (h : lg_cmp x y ≤ 0) : ¬ y < x := fun q => by
  simp [lg_cmp, q] at h
theorem lcmp_gt {x y : Int64} (h : ¬ lg_cmp x y ≤ 0) : y < x := by
  by_cases q : y < x
  · exact q
  · exfalso
    apply h
    simp only [lg_cmp, q, if_false]
    split <;> decide
def inB (v lo hi : Int32) : Bool := decide (lo ≤ v) && decide (v ≤ hi)
theorem inB_t {v lo hi : Int32} (h1 : ¬ v < lo) (h2 : ¬ hi < v) : inB v lo hi = true := by simp [inB, Int32.not_lt.mp h1, Int32.not_lt.mp h2]
theorem inB_f1 {v lo hi : Int32} (h1 : v < lo) : inB v lo hi = false := by simp [inB, Int32.not_le.mpr h1]
theorem inB_f2 {v lo hi : Int32} (h1 : hi < v) : inB v lo hi = false := by simp [inB, Int32.not_le.mpr h1]
theorem cnt_step (w j : Nat) : nI (cntB w j) + bz (w.testBit j) = nI (cntB w (j + 1)) := by
  show _ = nI (cntB w j + _)
  rw [← nI_add]
  cases w.testBit j <;> rfl
theorem lcmp_pos {x : Int64} (h : 0 < x) : lg_cmp x 0 = 1 := by simp [lg_cmp, h]
theorem pos_ne {x : Int64} (h : 0 < x) : ¬ x = 0 := fun q => by
  subst q
  exact absurd h (by decide)
