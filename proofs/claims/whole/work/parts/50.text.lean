/-! one text, read by the class from left to right, by the reference by what it waits for -/
def AFG (cd : Nat → Nat) (len s : Nat) (t : RS) : Option Nat := fltG cd len (len - s) s t
def RUN (cd : Nat → Nat) (len kk cw s : Nat) (t : RS) (s2 : Nat) (t2 : RS) : Prop := AFG cd len s t = AFG cd len s2 t2 ∧ ∀ m q, mkC cd len kk cw (len + 1 - s) s t m q = mkC cd len kk cw (len + 1 - s2) s2 t2 m q
theorem RUN.rf {cd : Nat → Nat} {len kk cw s : Nat} {t : RS} : RUN cd len kk cw s t s t := ⟨rfl, fun _ _ => rfl⟩
theorem RUN.tr {cd : Nat → Nat} {len kk cw s1 s2 s3 : Nat} {t1 t2 t3 : RS} (h1 : RUN cd len kk cw s1 t1 s2 t2) (h2 : RUN cd len kk cw s2 t2 s3 t3) : RUN cd len kk cw s1 t1 s3 t3 := ⟨h1.1.trans h2.1, fun m q => (h1.2 m q).trans (h2.2 m q)⟩
theorem AFG_step {cd : Nat → Nat} {len s : Nat} {t t2 : RS} (hs : s < len) (h : rsT t (cd s) = some t2) : AFG cd len s t = AFG cd len (s + 1) t2 := by
  rw [AFG, show len - s = len - (s + 1) + 1 by omega, fltG, h]; rfl
theorem AFG_none {cd : Nat → Nat} {len s : Nat} {t : RS} (hs : s < len) (h : rsT t (cd s) = none) : AFG cd len s t = some s := by
  rw [AFG, show len - s = len - (s + 1) + 1 by omega, fltG, h]
theorem AFG_end {cd : Nat → Nat} {len : Nat} {t : RS} : AFG cd len len t = if (t.2.2 && mayE t.2.1) = true then none else some len := by
  rw [AFG, Nat.sub_self]; rfl
theorem RUN.step {cd : Nat → Nat} {len kk cw s : Nat} {t t2 : RS} (hs : s < len) (hc : ¬ cd s = 59) (h : rsT t (cd s) = some t2) : RUN cd len kk cw s t (s + 1) t2 := by
  refine ⟨AFG_step hs h, fun m q => ?_⟩
  rw [show len + 1 - s = len + 1 - (s + 1) + 1 by omega, mkC, if_neg (fun h => h.elim (fun h => by omega) hc), h]
  rfl
def NDG (cd : Nat → Nat) (len : Nat) (t : RS) (s : Nat) : Prop := s < len → 48 ≤ cd s ∧ cd s ≤ 57 → rsT t (cd s) = none
theorem nx_at {cd : Nat → Nat} {len s : Nat} (h : s < len) : nxG cd len s = cd s := if_pos h
theorem nx_end {cd : Nat → Nat} {len s : Nat} (h : len ≤ s) : nxG cd len s = 0 := if_neg (by omega)
theorem dig_f {x : Nat} (h : dig x = false) : ¬ (48 ≤ x ∧ x ≤ 57) := fun q => by simp [dig, q.1, q.2] at h
theorem tnL_sync {cd : Nat → Nat} {len kk cw p : Nat} {a : Nat → Nat} : ∀ (f v s : Nat), f = len - s → s ≤ len → v ≤ 999 →
    ((tnL cd len f v s).2.2 = true → AFG cd len s (va_up a p v, p, true) = some (tnL cd len f v s).2.1) ∧
    ((tnL cd len f v s).2.2 = false → (tnL cd len f v s).1 ≤ 999 ∧ (tnL cd len f v s).2.1 ≤ len ∧ RUN cd len kk cw s (va_up a p v, p, true) (tnL cd len f v s).2.1 (va_up a p (tnL cd len f v s).1, p, true) ∧ NDG cd len (va_up a p (tnL cd len f v s).1, p, true) (tnL cd len f v s).2.1) := by
  intro f
  induction f with
  | zero =>
    intro v s hf hs hv
    exact ⟨fun h => by simp [tnL] at h, fun _ => ⟨hv, hs, RUN.rf, fun h => absurd h (by show ¬ s < len; omega)⟩⟩
  | succ f ih =>
    intro v s hf hs hv
    have hsl : s < len := by omega
    rw [tnL]
    by_cases hd : 0 < v ∧ dig (nxG cd len s) = true
    · rw [if_pos hd]
      have hnx := nx_at (cd := cd) hsl
      rw [hnx] at hd ⊢
      have hdk := dig_ok hd.2
      by_cases h9 : 999 < 10 * v + cd s - 48
      · rw [if_pos h9]
        refine ⟨fun _ => AFG_none hsl ?_, fun h => by cases h⟩
        rw [rsT, if_pos ⟨hdk.1, hdk.2⟩, tdF]
        apply if_pos
        right
        dsimp only
        rw [va_up_self]
        omega
      · rw [if_neg h9]
        have hst : rsT (va_up a p v, p, true) (cd s) = some (va_up a p (10 * v + cd s - 48), p, true) := by
          rw [rsT, if_pos ⟨hdk.1, hdk.2⟩, tdF, if_neg]
          · dsimp only
            rw [va_up_self, show v * 10 + (cd s - 48) = 10 * v + cd s - 48 by omega]
            congr 2
            funext i
            by_cases e : i = p
            · rw [e, va_up_self, va_up_self]
            · rw [va_up_ne _ _ e, va_up_ne _ _ e, va_up_ne _ _ e]
          · dsimp only
            rw [va_up_self]
            omega
        obtain ⟨h1, h2⟩ := ih (10 * v + cd s - 48) (s + 1) (by omega) (by omega) (by omega)
        refine ⟨fun h => (AFG_step hsl hst).trans (h1 h), fun h => ?_⟩
        obtain ⟨g1, g2, g3, g4⟩ := h2 h
        exact ⟨g1, g2, (RUN.step hsl (by omega) hst).tr g3, g4⟩
    · rw [if_neg hd]
      refine ⟨fun h => (by cases h), fun _ => ⟨hv, hs, RUN.rf, fun _ hq => ?_⟩⟩
      have hv0 : v = 0 := by
        by_cases e : v = 0
        · exact e
        · exfalso
          apply hd
          rw [nx_at hsl]
          exact ⟨by omega, by simp [dig, hq.1, hq.2]⟩
      dsimp only
      rw [rsT, if_pos hq, tdF]
      apply if_pos
      left
      dsimp only
      rw [va_up_self]
      exact ⟨rfl, hv0⟩
theorem fN_sync {cd : Nat → Nat} {len kk cw r q s : Nat} {nu : Nat → Int32} {t : RS} (hs : s ≤ len) (h1 : t.2.2 = false) (h2 : t.1 t.2.1 = 0) :
    ((fN cd len r q (s, false, nu)).2.1 = true → AFG cd len s t = some (fN cd len r q (s, false, nu)).1) ∧
    ((fN cd len r q (s, false, nu)).2.1 = false → ∃ v s2, v ≤ 999 ∧ s2 ≤ len ∧ fN cd len r q (s, false, nu) = (s2, false, upd nu (6 * r + q) (nI v)) ∧ RUN cd len kk cw s t s2 (va_up t.1 t.2.1 v, t.2.1, true) ∧ NDG cd len (va_up t.1 t.2.1 v, t.2.1, true) s2) := by
  obtain ⟨a, p, hd⟩ := t
  dsimp only at h1 h2
  subst h1
  rw [fN, if_neg (by simp)]
  dsimp only
  cases hg : dig (nxG cd len s) with
  | false =>
    rw [if_pos rfl]
    refine ⟨fun _ => ?_, fun h => by cases h⟩
    by_cases hsl : s < len
    · rw [nx_at hsl] at hg
      apply AFG_none hsl
      rw [rsT, if_neg (dig_f hg), tsF]
      dsimp only
      split
      · rfl
      · exact if_pos rfl
    · have e : s = len := by omega
      subst e
      rw [AFG_end]; rfl
  | true =>
    rw [if_neg (by decide)]
    have hsl : s < len := nxG_pos (cd := cd) (by have := dig_ok hg; omega)
    rw [nx_at hsl] at hg ⊢
    have hdk := dig_ok hg
    have hst : rsT (a, p, false) (cd s) = some (va_up a p (cd s - 48), p, true) := by
      rw [rsT, if_pos ⟨hdk.1, hdk.2⟩, tdF, if_neg]
      · dsimp only
        rw [h2, Nat.zero_mul, Nat.zero_add]
      · dsimp only
        rw [h2]
        rintro (⟨q, -⟩ | q)
        · cases q
        · omega
    obtain ⟨g1, g2⟩ := tnL_sync (cd := cd) (len := len) (kk := kk) (cw := cw) (p := p) (a := a) (len - (s + 1)) (cd s - 48) (s + 1) rfl (by omega) (by omega)
    generalize tnL cd len (len - (s + 1)) (cd s - 48) (s + 1) = T at g1 g2 ⊢
    refine ⟨fun h => (AFG_step hsl hst).trans (g1 h), fun h => ?_⟩
    obtain ⟨k1, k2, k3, k4⟩ := g2 h
    refine ⟨T.1, T.2.1, k1, k2, ?_, (RUN.step hsl (by omega) hst).tr k3, k4⟩
    dsimp only at h
    rw [h]
/-- a sign that the reference waits for, the only one that the class takes there -/
theorem fS_sync {cd : Nat → Nat} {len kk cw c nx s : Nat} {nu : Nat → Int32} {t : RS} (hs : s ≤ len) (h1 : t.2.2 = true) (hnd : NDG cd len t s) (hc0 : 0 < c) (hcd : ¬ (48 ≤ c ∧ c ≤ 57)) (hc : ¬ c = 59) (hp : pbF t.2.1 c = some nx) (hx : ∀ c2, ¬ c2 = c → pbF t.2.1 c2 = none) (hm : mayE t.2.1 = false) (hnx : ¬ nx = 0) :
    ((fS cd len c (s, false, nu)).2.1 = true → AFG cd len s t = some (fS cd len c (s, false, nu)).1) ∧
    ((fS cd len c (s, false, nu)).2.1 = false → s + 1 ≤ len ∧ fS cd len c (s, false, nu) = (s + 1, false, nu) ∧ RUN cd len kk cw s t (s + 1) (t.1, nx, false)) := by
  rw [fS]
  dsimp only
  by_cases h : nxG cd len s = c
  · rw [if_neg (by simp [h])]
    have hsl : s < len := nxG_pos (cd := cd) (by omega)
    rw [nx_at hsl] at h
    refine ⟨fun q => (by cases q), fun _ => ⟨hsl, rfl, RUN.step hsl (by rw [h]; exact hc) ?_⟩⟩
    rw [rsT, if_neg (by rw [h]; exact hcd), h, tsF, hp]
    dsimp only
    rw [if_neg (by rw [h1]; decide), if_neg hnx]
  · rw [if_pos (Or.inr h)]
    refine ⟨fun _ => ?_, fun q => by cases q⟩
    by_cases hsl : s < len
    · rw [nx_at hsl] at h
      apply AFG_none hsl
      by_cases hq : 48 ≤ cd s ∧ cd s ≤ 57
      · exact hnd hsl hq
      · rw [rsT, if_neg hq, tsF, hx _ h]
    · have e : s = len := by omega
      subst e
      rw [AFG_end, hm, Bool.and_false]; rfl
theorem fJ_sync {cd : Nat → Nat} {len kk cw c nx s : Nat} {nu : Nat → Int32} {t : RS} (hs : s ≤ len) (h1 : t.2.2 = true) (hc0 : 0 < c) (hcd : ¬ (48 ≤ c ∧ c ≤ 57)) (hc : ¬ c = 59) (hp : pbF t.2.1 c = some nx) (hnx : ¬ nx = 0) :
    (fI cd len c (s, false, nu) = true → s + 1 ≤ len ∧ fJ cd len c (s, false, nu) = (s + 1, false, nu) ∧ RUN cd len kk cw s t (s + 1) (t.1, nx, false)) ∧
    (fI cd len c (s, false, nu) = false → fJ cd len c (s, false, nu) = (s, false, nu) ∧ (s < len → ¬ cd s = c)) := by
  constructor
  · intro h
    rw [fJ, if_pos h]
    have h2 : nxG cd len s = c := by simpa [fI] using h
    have hsl : s < len := nxG_pos (cd := cd) (by omega)
    rw [nx_at hsl] at h2
    refine ⟨hsl, rfl, RUN.step hsl (by rw [h2]; exact hc) ?_⟩
    rw [rsT, if_neg (by rw [h2]; exact hcd), h2, tsF, hp]
    dsimp only
    rw [if_neg (by rw [h1]; decide), if_neg hnx]
  · intro h
    refine ⟨by rw [fJ, if_neg (by rw [h]; decide)], fun hsl e => ?_⟩
    have : fI cd len c (s, false, nu) = true := by simp [fI, nx_at hsl, e]
    rw [h] at this; cases this
theorem fJ_w {cd : Nat → Nat} {len c : Nat} {P : PSt} (h : P.2.1 = true) : fJ cd len c P = P ∧ fI cd len c P = false := by
  have h2 : fI cd len c P = false := by rw [fI, h]; rfl
  exact ⟨by rw [fJ, if_neg (by rw [h2]; decide)], h2⟩
theorem fN_w {cd : Nat → Nat} {len r q : Nat} {P : PSt} (h : P.2.1 = true) : fN cd len r q P = P := if_pos h
theorem fS_w {cd : Nat → Nat} {len c : Nat} {P : PSt} (h : P.2.1 = true) : (fS cd len c P).1 = P.1 ∧ (fS cd len c P).2.1 = true := by
  rw [fS, if_pos (Or.inl h)]; exact ⟨rfl, rfl⟩
def rowOK (nu : Nat → Int32) (r : Nat) (T : RS) : Prop := nu (6 * r) = nI (T.1 0) ∧ nu (6 * r + 1) = nI (T.1 1) ∧ nu (6 * r + 2) = nI (T.1 2) ∧ nu (6 * r + 3) = (if T.2.1 = 4 then 1 else 0) ∧ (T.2.1 = 4 → nu (6 * r + 4) = nI (T.1 3) ∧ nu (6 * r + 5) = nI (T.1 4))
theorem mkS_row {nu : Nat → Int32} {r : Nat} {T : RS} (h : rowOK nu r T) (kk cw n : Nat) (pd : PD) : mkS nu kk cw r n pd = mkS (nuT T) kk cw 0 n pd := by
  obtain ⟨h0, h1, h2, h3, h4⟩ := h
  have e : pd1 nu r n pd = pd1 (nuT T) 0 n pd := by rw [pd1, pd1, h0, h1, h2]; rfl
  have e3 : nuT T (6 * 0 + 3) = (if T.2.1 = 4 then 1 else 0) := rfl
  unfold mkS
  rw [e, h0, h1, h2, h3, e3]
  by_cases h5 : T.2.1 = 4
  · rw [(h4 h5).1, (h4 h5).2]
    rfl
  · rw [if_neg h5, if_pos rfl, if_pos rfl]
    rfl
/-- what the class's reader is behind a pile -/
def pileEnd (cd : Nat → Nat) (len s : Nat) (T : RS) : Prop := T.2.2 = true ∧ mayE T.2.1 = true ∧ (s < len → ¬ cd s = 59 → rsT T (cd s) = none)
