/-! rows on long numbers (pasted from the kit's starting texts, the family wb), and the characters in a number -/
theorem wb_tb (n : Nat) : (lN n).toBitVec = BitVec.ofNat 64 n := rfl
theorem wb_inj {a b : Int64} (h : a.toBitVec = b.toBitVec) : a = b := Int64.toBitVec_inj.mp h
theorem wb_tn {n : Nat} (h : n < 2 ^ 64) : (lN n).toBitVec.toNat = n := by rw [wb_tb, BitVec.toNat_ofNat, Nat.mod_eq_of_lt h]
theorem wb_of (x : Int64) : ∃ n, n < 2 ^ 64 ∧ x = lN n := ⟨x.toBitVec.toNat, x.toBitVec.isLt, wb_inj (by rw [wb_tb]; simp)⟩
theorem wb_of32 (x : Int32) : ∃ n, n < 2 ^ 32 ∧ x = nI n := ⟨x.toBitVec.toNat, x.toBitVec.isLt, Int32.toBitVec_inj.mp (by show _ = BitVec.ofNat 32 _; simp)⟩
theorem wb_c : ∀ k, k < 64 → ((nI k).toInt64 &&& 63) = lN k := by decide +kernel
theorem wb_cu : ∀ k, k < 64 → ((nI k).toInt64.toUInt64 &&& Int64.toUInt64 63) = UInt64.ofNat k := by decide +kernel
theorem wb_sm : ∀ k, k < 64 → (BitVec.ofNat 64 k).smod 64 = BitVec.ofNat 64 k := by decide +kernel
theorem wb_pw {a b : Nat} (h : a ≤ b) : 2 ^ b = 2 ^ a * 2 ^ (b - a) := by rw [← Nat.pow_add]; congr 1; omega
theorem wb_lt2 {a b : Nat} (h : a < b) : 2 ^ a < 2 ^ b := Nat.pow_lt_pow_right (by decide) h
theorem wb_mod (n : Nat) : lN n = lN (n % 2 ^ 64) := wb_inj (by rw [wb_tb, wb_tb]; apply BitVec.eq_of_toNat_eq; rw [BitVec.toNat_ofNat, BitVec.toNat_ofNat, Nat.mod_mod])
theorem wb_shr {n k : Nat} (hn : n < 2 ^ 64) (hk : k < 64) : ((lN n).toUInt64 >>> ((nI k).toInt64.toUInt64 &&& Int64.toUInt64 63)).toInt64 = lN (n / 2 ^ k) := by
  rw [wb_cu k hk]
  apply wb_inj
  apply BitVec.eq_of_toNat_eq
  show ((lN n).toUInt64 >>> UInt64.ofNat k).toNat = (BitVec.ofNat 64 _).toNat
  have h1 : (UInt64.ofNat k).toNat = k := by
    show (BitVec.ofNat 64 k).toNat = k
    rw [BitVec.toNat_ofNat, Nat.mod_eq_of_lt (by omega)]
  have h2 : (lN n).toUInt64.toNat = n := wb_tn hn
  rw [UInt64.toNat_shiftRight, h1, h2, Nat.mod_eq_of_lt hk, Nat.shiftRight_eq_div_pow, BitVec.toNat_ofNat, Nat.mod_eq_of_lt (Nat.lt_of_le_of_lt (Nat.div_le_self _ _) hn)]
theorem wb_shl (n : Nat) {k : Nat} (hk : k < 64) : lN n <<< ((nI k).toInt64 &&& 63) = lN (n * 2 ^ k) := by
  rw [wb_c k hk]
  apply wb_inj
  rw [Int64.toBitVec_shiftLeft, wb_tb, wb_tb, wb_tb, wb_sm k hk]
  apply BitVec.eq_of_toNat_eq
  rw [BitVec.shiftLeft_eq', BitVec.toNat_shiftLeft, BitVec.toNat_ofNat, BitVec.toNat_ofNat, BitVec.toNat_ofNat, Nat.mod_eq_of_lt (show k < 2 ^ 64 by omega), Nat.shiftLeft_eq, Nat.mul_mod, Nat.mod_mod, ← Nat.mul_mod]
theorem wb_and {a b : Nat} (ha : a < 2 ^ 64) (hb : b < 2 ^ 64) : lN a &&& lN b = lN (a &&& b) := by
  apply wb_inj
  rw [Int64.toBitVec_and, wb_tb, wb_tb, wb_tb]
  apply BitVec.eq_of_toNat_eq
  rw [BitVec.toNat_and, BitVec.toNat_ofNat, BitVec.toNat_ofNat, BitVec.toNat_ofNat, Nat.mod_eq_of_lt ha, Nat.mod_eq_of_lt hb, Nat.mod_eq_of_lt (Nat.and_lt_two_pow _ hb)]
theorem wb_or {a b : Nat} (ha : a < 2 ^ 64) (hb : b < 2 ^ 64) : lN a ||| lN b = lN (a ||| b) := by
  apply wb_inj
  rw [Int64.toBitVec_or, wb_tb, wb_tb, wb_tb]
  apply BitVec.eq_of_toNat_eq
  rw [BitVec.toNat_or, BitVec.toNat_ofNat, BitVec.toNat_ofNat, BitVec.toNat_ofNat, Nat.mod_eq_of_lt ha, Nat.mod_eq_of_lt hb, Nat.mod_eq_of_lt (Nat.or_lt_two_pow ha hb)]
theorem wb_mask {n k : Nat} (hn : n < 2 ^ 64) (hk : k < 64) : lN n &&& lN (2 ^ k - 1) = lN (n % 2 ^ k) := by
  rw [wb_and hn (by have := wb_lt2 hk; omega), Nat.and_two_pow_sub_one_eq_mod]
theorem wb_a1 {n : Nat} (hn : n < 2 ^ 64) : lN n &&& 1 = lN (n % 2) := wb_mask (k := 1) hn (by decide)
theorem wb_bit {n k : Nat} (hn : n < 2 ^ 64) (hk : k < 64) : ((lN n).toUInt64 >>> ((nI k).toInt64.toUInt64 &&& Int64.toUInt64 63)).toInt64 &&& 1 = lN (n / 2 ^ k % 2) := by
  rw [wb_shr hn hk, wb_a1 (Nat.lt_of_le_of_lt (Nat.div_le_self _ _) hn)]
theorem dv_lt {C : Nat} (h : C < 2 ^ 64) (i : Nat) : C / 256 ^ i < 2 ^ 64 := Nat.lt_of_le_of_lt (Nat.div_le_self _ _) h
def byN (C i : Nat) : Nat := C / 256 ^ i % 256
theorem byN_lt (C i : Nat) : byN C i < 256 := Nat.mod_lt _ (by decide)
theorem lw_mask {X : Nat} (h : X < 2 ^ 64) : lN X &&& 255 = lN (X % 256) := wb_mask (k := 8) h (by decide)
theorem lw_next {C i : Nat} (h : C < 2 ^ 64) : ((lN (C / 256 ^ i) : Int64).toUInt64 >>> ((8 : Int32).toInt64.toUInt64 &&& Int64.toUInt64 63)).toInt64 = lN (C / 256 ^ (i + 1)) := by
  have e := wb_shr (k := 8) (dv_lt h i) (by decide)
  rw [Nat.div_div_eq_div_mul, show (2 : Nat) ^ 8 = 256 by decide, ← Nat.pow_succ] at e
  exact e
theorem p256 (k : Nat) : 2 ^ (8 * k) = 256 ^ k := by rw [Nat.pow_mul]
theorem lw_shrk {C k : Nat} (h : C < 2 ^ 64) (hk : k < 8) : ((lN C : Int64).toUInt64 >>> ((nI (8 * k) : Int32).toInt64.toUInt64 &&& Int64.toUInt64 63)).toInt64 = lN (C / 256 ^ k) := by
  rw [wb_shr h (by omega), p256]
theorem lw_sar {C k : Nat} (hC : C < 2 ^ 64) (hk : k ≤ 56) : lN C >>> ((nI k).toInt64 &&& 63) &&& 255 = lN (C / 2 ^ k % 256) := by
  rw [wb_c k (by omega)]
  apply wb_inj
  rw [Int64.toBitVec_and, Int64.toBitVec_shiftRight, wb_tb, wb_tb, wb_tb, wb_sm k (by omega)]
  apply BitVec.eq_of_getLsbD_eq
  intro i hi
  have h255 : ((255 : Int64).toBitVec).getLsbD i = decide (i < 8) := by
    rw [show (255 : Int64).toBitVec = BitVec.ofNat 64 (2 ^ 8 - 1) from rfl, BitVec.getLsbD_ofNat, Nat.testBit_two_pow_sub_one, decide_eq_true hi, Bool.true_and]
  have hkn : (BitVec.ofNat 64 k).toNat = k := by rw [BitVec.toNat_ofNat]; exact Nat.mod_eq_of_lt (by omega)
  rw [BitVec.getLsbD_and, h255, BitVec.sshiftRight_eq', hkn, BitVec.getLsbD_sshiftRight, BitVec.getLsbD_ofNat, BitVec.getLsbD_ofNat, show (256 : Nat) = 2 ^ 8 by decide, Nat.testBit_mod_two_pow, Nat.testBit_div_two_pow]
  by_cases h8 : i < 8
  · simp [h8, hi, show k + i < 64 by omega, Nat.add_comm]
  · simp [h8]
theorem lw_sarb {C m i : Nat} (hC : C < 2 ^ 64) (hm : m ≤ 8) (hi : i < m) : lN C >>> ((nI (8 * (m - 1 - i))).toInt64 &&& 63) &&& 255 = lN (byN C (m - 1 - i)) := by
  rw [lw_sar hC (by omega), p256]; rfl
theorem lc0 {X : Nat} (h : X < 2 ^ 64) : lg_cmp (lN X) 0 = 0 ↔ X = 0 := by
  have e1 : lN X = 0 ↔ X = 0 := by
    constructor
    · intro q
      have := wb_tn h
      rw [q] at this
      have h0 : (0 : Int64).toBitVec.toNat = 0 := by decide
      omega
    · rintro rfl; rfl
  unfold lg_cmp
  by_cases h1 : (0 : Int64) < lN X
  · rw [if_pos h1]
    exact ⟨fun q => absurd q (by decide), fun q => by rw [e1.mpr q] at h1; exact absurd h1 (by decide)⟩
  · rw [if_neg h1]
    by_cases h2 : lN X = 0
    · rw [if_pos h2]; exact ⟨fun _ => e1.mp h2, fun _ => rfl⟩
    · rw [if_neg h2]; exact ⟨fun q => absurd q (by decide), fun q => absurd (e1.mpr q) h2⟩
/-- how many characters stand in the number, from the i-th on; none if one of them can't stand -/
def chG (C : Nat) : Nat → Nat → Option Nat
  | 0, i => some i
  | f + 1, i => if byN C i = 0 then some i else if 33 ≤ byN C i ∧ byN C i ≤ 126 then chG C f (i + 1) else none
def chN (C : Nat) : Nat := match chG C 8 0 with
  | none => 0
  | some m => if C / 256 ^ m = 0 then m else 0
theorem chG_ok {C : Nat} : ∀ f i m, chG C f i = some m → i ≤ m ∧ m ≤ i + f ∧ ∀ j, i ≤ j → j < m → 33 ≤ byN C j ∧ byN C j ≤ 126 := by
  intro f
  induction f with
  | zero => intro i m h; simp [chG] at h; subst h; exact ⟨Nat.le_refl _, Nat.le_refl _, fun j h1 h2 => by omega⟩
  | succ f ih =>
    intro i m h
    simp only [chG] at h
    split at h
    · simp at h; subst h; exact ⟨Nat.le_refl _, by omega, fun j h1 h2 => by omega⟩
    · split at h
      · rename_i hb
        obtain ⟨h1, h2, h3⟩ := ih _ _ h
        refine ⟨by omega, by omega, fun j q1 q2 => ?_⟩
        by_cases e : j = i
        · rw [e]; exact hb
        · exact h3 j (by omega) q2
      · cases h
theorem chN_pos {C : Nat} (h : ¬ chN C = 0) : chG C 8 0 = some (chN C) ∧ C / 256 ^ chN C = 0 ∧ chN C ≤ 8 ∧ ∀ j, j < chN C → 33 ≤ byN C j ∧ byN C j ≤ 126 := by
  cases hg : chG C 8 0 with
  | none => rw [chN, hg] at h; exact absurd rfl h
  | some m =>
    have e : chN C = if C / 256 ^ m = 0 then m else 0 := by rw [chN, hg]
    by_cases hm : C / 256 ^ m = 0
    · rw [if_pos hm] at e
      have := chG_ok 8 0 m hg
      rw [e]
      exact ⟨rfl, hm, by omega, fun j hj => this.2.2 j (Nat.zero_le _) hj⟩
    · rw [if_neg hm] at e; exact absurd e h
theorem chN_of {C m : Nat} (h : chG C 8 0 = some m) (h2 : C / 256 ^ m = 0) : chN C = m := by rw [chN, h]; exact if_pos h2
theorem chN_no {C : Nat} (h : chG C 8 0 = none) : chN C = 0 := by rw [chN, h]
theorem chN_no2 {C m : Nat} (h : chG C 8 0 = some m) (h2 : ¬ C / 256 ^ m = 0) : chN C = 0 := by rw [chN, h]; exact if_neg h2
theorem d8 {C : Nat} (h : C < 2 ^ 64) : C / 256 ^ 8 = 0 := Nat.div_eq_of_lt (by rw [show (256 : Nat) ^ 8 = 2 ^ 64 by decide]; exact h)
theorem chr_in {x : Nat} (h : x < 256) : inB (nI x) 33 126 = (decide (33 ≤ x) && decide (x ≤ 126)) := by
  have key : ∀ x, x < 256 → inB (nI x) 33 126 = (decide (33 ≤ x) && decide (x ≤ 126)) := by decide +kernel
  exact key x h
/-- the characters of the number behind len -/
def ptA (pa : Nat → Int32) (len C m i : Nat) : Nat → Int32 := fun x => if len ≤ x ∧ x < len + i then nI (byN C (m - 1 - (x - len))) else pa x
theorem ptA_0 {pa : Nat → Int32} {len C m : Nat} : ptA pa len C m 0 = pa := by
  funext x
  rw [ptA, if_neg (by omega)]
theorem ptA_up {pa : Nat → Int32} {len C m i : Nat} : upd (ptA pa len C m i) (len + i) (nI (byN C (m - 1 - i))) = ptA pa len C m (i + 1) := by
  funext x
  by_cases e : x = len + i
  · subst e; rw [pk_us, ptA, if_pos (by omega), Nat.add_sub_cancel_left]
  · rw [pk_un e, ptA, ptA]
    by_cases h : len ≤ x ∧ x < len + i
    · rw [if_pos h, if_pos (by omega)]
    · rw [if_neg h, if_neg (by omega)]
