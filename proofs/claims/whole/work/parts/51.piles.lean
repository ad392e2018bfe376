/-! a pile, and the whole text -/
def OUTP (cd : Nat → Nat) (len kk cw r s : Nat) (t : RS) (nu0 : Nat → Int32) (Q : PSt) : Prop := (Q.2.1 = true → AFG cd len s t = some Q.1) ∧ (Q.2.1 = false → ∃ s2 nu2 T, Q = (s2, false, nu2) ∧ s2 ≤ len ∧ RUN cd len kk cw s t s2 T ∧ pileEnd cd len s2 T ∧ rowOK nu2 r T ∧ ∀ x, x < 6 * r → nu2 x = nu0 x)
section OUT1
variable {cd : Nat → Nat} {len kk cw r s : Nat} {t : RS} {nu nu0 : Nat → Int32} {Q : PSt}
theorem OUTP.pre {s2 : Nat} {t2 : RS} (h : RUN cd len kk cw s t s2 t2) (o : OUTP cd len kk cw r s2 t2 nu0 Q) : OUTP cd len kk cw r s t nu0 Q :=
  ⟨fun q => h.1.trans (o.1 q), fun q => by
    obtain ⟨s3, nu3, T, e, h1, h2, h3⟩ := o.2 q
    exact ⟨s3, nu3, T, e, h1, h.tr h2, h3⟩⟩
theorem OUTP.num {nu1 : Nat → Int32} (o : OUTP cd len kk cw r s t nu1 Q) (h : ∀ x, x < 6 * r → nu1 x = nu0 x) : OUTP cd len kk cw r s t nu0 Q :=
  ⟨o.1, fun q => by
    obtain ⟨s3, nu3, T, e, h1, h2, h3, h4, h5⟩ := o.2 q
    exact ⟨s3, nu3, T, e, h1, h2, h3, h4, fun x hx => (h5 x hx).trans (h x hx)⟩⟩
theorem OUTP.w {P : PSt} (hA : AFG cd len s t = some P.1) (hQ : Q.1 = P.1 ∧ Q.2.1 = true) : OUTP cd len kk cw r s t nu0 Q :=
  ⟨fun _ => by rw [hQ.1]; exact hA, fun q => by rw [hQ.2] at q; cases q⟩
end OUT1
def g6 (cd : Nat → Nat) (len r : Nat) (P : PSt) : PSt := fN cd len r 5 (fS cd len 44 P)
def g5 (cd : Nat → Nat) (len r : Nat) (P : PSt) : PSt := if fI cd len 61 P = true then g6 cd len r (fN cd len r 4 (stN (6 * r + 3) 1 (fJ cd len 61 P))) else fJ cd len 61 P
def g4 (cd : Nat → Nat) (len r : Nat) (P : PSt) : PSt := g5 cd len r (if fI cd len 44 P = true then fN cd len r 2 (fJ cd len 44 P) else fJ cd len 44 P)
def g2 (cd : Nat → Nat) (len r : Nat) (P : PSt) : PSt := g4 cd len r (stN (6 * r + 3) 0 (stN (6 * r + 2) 0 (fN cd len r 1 P)))
def g1 (cd : Nat → Nat) (len r : Nat) (P : PSt) : PSt := g2 cd len r (fS cd len 44 P)
theorem fP_g (cd : Nat → Nat) (len r : Nat) (P : PSt) : fP cd len r P = g1 cd len r (fN cd len r 0 P) := rfl
section GW
variable {cd : Nat → Nat} {len r : Nat} {P : PSt}
theorem g6_w (h : P.2.1 = true) : (g6 cd len r P).1 = P.1 ∧ (g6 cd len r P).2.1 = true := by
  have h1 := fS_w (cd := cd) (len := len) (c := 44) h
  rw [g6, fN_w h1.2]; exact h1
theorem g5_w (h : P.2.1 = true) : (g5 cd len r P).1 = P.1 ∧ (g5 cd len r P).2.1 = true := by
  have h1 := fJ_w (cd := cd) (len := len) (c := 61) h
  rw [g5, if_neg (by rw [h1.2]; decide), h1.1]; exact ⟨rfl, h⟩
theorem g4_w (h : P.2.1 = true) : (g4 cd len r P).1 = P.1 ∧ (g4 cd len r P).2.1 = true := by
  have h1 := fJ_w (cd := cd) (len := len) (c := 44) h
  rw [g4, if_neg (by rw [h1.2]; decide), h1.1]; exact g5_w h
theorem g2_w (h : P.2.1 = true) : (g2 cd len r P).1 = P.1 ∧ (g2 cd len r P).2.1 = true := by
  rw [g2, fN_w h]
  exact g4_w (P := stN (6 * r + 3) 0 (stN (6 * r + 2) 0 P)) h
theorem g1_w (h : P.2.1 = true) : (g1 cd len r P).1 = P.1 ∧ (g1 cd len r P).2.1 = true := by
  have h1 := fS_w (cd := cd) (len := len) (c := 44) h
  have h2 := g2_w (cd := cd) (len := len) (r := r) h1.2
  rw [g1]; exact ⟨h2.1.trans h1.1, h2.2⟩
end GW
theorem pb_0 : ∀ c2, ¬ c2 = 44 → pbF 0 c2 = none := fun c2 h => by
  unfold pbF
  rw [if_neg h]
  split
  · rfl
  · split
    · rfl
    · rfl
theorem pb_3 : ∀ c2, ¬ c2 = 44 → pbF 3 c2 = none := fun c2 h => by
  unfold pbF
  rw [if_neg h]
  split
  · rfl
  · split
    · rfl
    · rfl
theorem pb_4 : ∀ c2, ¬ c2 = 59 → pbF 4 c2 = none := fun c2 h => by
  unfold pbF
  split
  · rfl
  · split
    · rfl
    · rfl
theorem pb_12 {p : Nat} (hp : p = 1 ∨ p = 2) : ∀ c2, ¬ c2 = 59 → ¬ c2 = 61 → (p = 1 → ¬ c2 = 44) → pbF p c2 = none := fun c2 h h1 h2 => by
  unfold pbF
  by_cases e : c2 = 44
  · rw [if_pos e, if_pos]
    rcases hp with rfl | rfl
    · exact absurd e (h2 rfl)
    · exact Or.inl rfl
  · rw [if_neg e, if_neg h1, if_neg h]
theorem ts_none {t : RS} {c : Nat} (h : pbF t.2.1 c = none) : tsF t c = none := by rw [tsF, h]
theorem end_none {cd : Nat → Nat} {len s : Nat} {t : RS} (hnd : NDG cd len t s) (h : s < len → ¬ cd s = 59 → pbF t.2.1 (cd s) = none) : s < len → ¬ cd s = 59 → rsT t (cd s) = none := fun hs h59 => by
  by_cases hq : 48 ≤ cd s ∧ cd s ≤ 57
  · exact hnd hs hq
  · rw [rsT, if_neg hq]; exact ts_none (h hs h59)
theorem g6_sync {cd : Nat → Nat} {len kk cw r s : Nat} {nu : Nat → Int32} {a : Nat → Nat} (hs : s ≤ len) (hnd : NDG cd len (a, 3, true) s) (ha4 : a 4 = 0)
    (h0 : nu (6 * r) = nI (a 0)) (h1 : nu (6 * r + 1) = nI (a 1)) (h2 : nu (6 * r + 2) = nI (a 2)) (h3 : nu (6 * r + 3) = 1) (h4 : nu (6 * r + 4) = nI (a 3)) : OUTP cd len kk cw r s (a, 3, true) nu (g6 cd len r (s, false, nu)) := by
  obtain ⟨w1, w2⟩ := fS_sync (kk := kk) (cw := cw) (c := 44) (nx := 4) (nu := nu) hs rfl hnd (by decide) (by decide) (by decide) rfl pb_3 rfl (by decide)
  rw [g6]
  cases hw : (fS cd len 44 (s, false, nu)).2.1 with
  | true => exact OUTP.w (w1 hw) (by rw [fN_w hw]; exact ⟨rfl, hw⟩)
  | false =>
    obtain ⟨k1, k2, k3⟩ := w2 hw
    rw [k2]
    refine OUTP.pre k3 ?_
    obtain ⟨v1, v2⟩ := fN_sync (kk := kk) (cw := cw) (r := r) (q := 5) (nu := nu) (t := (a, 4, false)) k1 rfl ha4
    dsimp only at v1 v2 ⊢
    refine ⟨v1, fun q => ?_⟩
    obtain ⟨v, s2, -, l2, e, hr, hn⟩ := v2 q
    refine ⟨s2, _, _, e, l2, hr, ⟨rfl, rfl, end_none hn (fun _ h => pb_4 _ h)⟩, ⟨?_, ?_, ?_, ?_, fun _ => ⟨?_, ?_⟩⟩, fun x hx => pk_un (by omega)⟩
    · rw [pk_un (by omega), h0]; dsimp only; rw [va_up_ne _ _ (by decide)]
    · rw [pk_un (by omega), h1]; dsimp only; rw [va_up_ne _ _ (by decide)]
    · rw [pk_un (by omega), h2]; dsimp only; rw [va_up_ne _ _ (by decide)]
    · rw [pk_un (by omega), h3]; rfl
    · rw [pk_un (by omega), h4]; dsimp only; rw [va_up_ne _ _ (by decide)]
    · rw [pk_us]; dsimp only; rw [va_up_self]
theorem g5_sync {cd : Nat → Nat} {len kk cw r s p : Nat} {nu : Nat → Int32} {a : Nat → Nat} (hs : s ≤ len) (hp : p = 1 ∨ p = 2) (hnd : NDG cd len (a, p, true) s) (h44 : p = 1 → s < len → ¬ cd s = 44) (ha3 : a 3 = 0) (ha4 : a 4 = 0)
    (h0 : nu (6 * r) = nI (a 0)) (h1 : nu (6 * r + 1) = nI (a 1)) (h2 : nu (6 * r + 2) = nI (a 2)) (h3 : nu (6 * r + 3) = 0) : OUTP cd len kk cw r s (a, p, true) nu (g5 cd len r (s, false, nu)) := by
  have hpb : pbF p 61 = some 3 := by rcases hp with rfl | rfl <;> rfl
  obtain ⟨w1, w2⟩ := fJ_sync (cd := cd) (kk := kk) (cw := cw) (c := 61) (nx := 3) (nu := nu) (t := (a, p, true)) hs rfl (by decide) (by decide) (by decide) hpb (by decide)
  rw [g5]
  cases hw : fI cd len 61 (s, false, nu) with
  | true =>
    obtain ⟨k1, k2, k3⟩ := w1 hw
    rw [if_pos rfl, k2]
    refine OUTP.pre k3 ?_
    have e9 : stN (6 * r + 3) 1 (s + 1, false, nu) = (s + 1, false, upd nu (6 * r + 3) 1) := rfl
    rw [e9]
    obtain ⟨v1, v2⟩ := fN_sync (kk := kk) (cw := cw) (r := r) (q := 4) (nu := upd nu (6 * r + 3) 1) (t := (a, 3, false)) k1 rfl ha3
    dsimp only at v1 v2 ⊢
    cases hw2 : (fN cd len r 4 (s + 1, false, upd nu (6 * r + 3) 1)).2.1 with
    | true => exact OUTP.w (v1 hw2) (g6_w hw2)
    | false =>
      obtain ⟨v, s2, -, l2, e, hr, hn⟩ := v2 hw2
      rw [e]
      refine OUTP.pre hr (OUTP.num (g6_sync l2 hn ?_ ?_ ?_ ?_ ?_ ?_) (fun x hx => by rw [pk_un (by omega), pk_un (by omega)]))
      · rw [va_up_ne _ _ (by decide)]; exact ha4
      · rw [pk_un (by omega), pk_un (by omega), h0, va_up_ne _ _ (by decide)]
      · rw [pk_un (by omega), pk_un (by omega), h1, va_up_ne _ _ (by decide)]
      · rw [pk_un (by omega), pk_un (by omega), h2, va_up_ne _ _ (by decide)]
      · rw [pk_un (by omega), pk_us]
      · rw [pk_us, va_up_self]
  | false =>
    obtain ⟨k1, k2⟩ := w2 hw
    rw [if_neg (by decide), k1]
    refine ⟨fun q => (by cases q), fun _ => ⟨s, nu, (a, p, true), rfl, hs, RUN.rf, ⟨rfl, ?_, end_none hnd (fun hl h => pb_12 hp _ h (k2 hl) (fun e => h44 e hl))⟩, ⟨h0, h1, h2, ?_, fun e => ?_⟩, fun x _ => rfl⟩⟩
    · rcases hp with rfl | rfl <;> rfl
    · rw [h3]; rcases hp with rfl | rfl <;> rfl
    · exfalso; dsimp only at e; omega
theorem g4_sync {cd : Nat → Nat} {len kk cw r s : Nat} {nu : Nat → Int32} {a : Nat → Nat} (hs : s ≤ len) (hnd : NDG cd len (a, 1, true) s) (ha2 : a 2 = 0) (ha3 : a 3 = 0) (ha4 : a 4 = 0)
    (h0 : nu (6 * r) = nI (a 0)) (h1 : nu (6 * r + 1) = nI (a 1)) (h2 : nu (6 * r + 2) = 0) (h3 : nu (6 * r + 3) = 0) : OUTP cd len kk cw r s (a, 1, true) nu (g4 cd len r (s, false, nu)) := by
  obtain ⟨w1, w2⟩ := fJ_sync (cd := cd) (kk := kk) (cw := cw) (c := 44) (nx := 2) (nu := nu) (t := (a, 1, true)) hs rfl (by decide) (by decide) (by decide) rfl (by decide)
  rw [g4]
  cases hw : fI cd len 44 (s, false, nu) with
  | true =>
    obtain ⟨k1, k2, k3⟩ := w1 hw
    rw [if_pos rfl, k2]
    refine OUTP.pre k3 ?_
    obtain ⟨v1, v2⟩ := fN_sync (kk := kk) (cw := cw) (r := r) (q := 2) (nu := nu) (t := (a, 2, false)) k1 rfl ha2
    dsimp only at v1 v2 ⊢
    cases hw2 : (fN cd len r 2 (s + 1, false, nu)).2.1 with
    | true => exact OUTP.w (v1 hw2) (g5_w hw2)
    | false =>
      obtain ⟨v, s2, -, l2, e, hr, hn⟩ := v2 hw2
      rw [e]
      refine OUTP.pre hr (OUTP.num (g5_sync l2 (Or.inr rfl) hn (fun h => by cases h) ?_ ?_ ?_ ?_ ?_ ?_) (fun x hx => pk_un (by omega)))
      · rw [va_up_ne _ _ (by decide)]; exact ha3
      · rw [va_up_ne _ _ (by decide)]; exact ha4
      · rw [pk_un (by omega), h0, va_up_ne _ _ (by decide)]
      · rw [pk_un (by omega), h1, va_up_ne _ _ (by decide)]
      · rw [pk_us, va_up_self]
      · rw [pk_un (by omega)]; exact h3
  | false =>
    obtain ⟨k1, k2⟩ := w2 hw
    rw [if_neg (by decide), k1]
    exact g5_sync hs (Or.inl rfl) hnd (fun _ => k2) ha3 ha4 h0 h1 (by rw [h2, ha2]; rfl) h3
theorem fP_sync {cd : Nat → Nat} {len kk cw r s : Nat} {nu : Nat → Int32} (hs : s ≤ len) : OUTP cd len kk cw r s rs0 nu (fP cd len r (s, false, nu)) := by
  rw [fP_g]
  obtain ⟨v1, v2⟩ := fN_sync (cd := cd) (kk := kk) (cw := cw) (r := r) (q := 0) (nu := nu) (t := rs0) hs rfl rfl
  cases hw : (fN cd len r 0 (s, false, nu)).2.1 with
  | true => exact OUTP.w (v1 hw) (g1_w hw)
  | false =>
    obtain ⟨v, s2, -, l2, e, hr, hn⟩ := v2 hw
    rw [e]
    refine OUTP.pre hr (OUTP.num (nu1 := upd nu (6 * r + 0) (nI v)) ?_ (fun x hx => pk_un (by omega)))
    have hn' : NDG cd len (va_up (fun _ => 0) 0 v, 0, true) s2 := hn
    show OUTP cd len kk cw r s2 (va_up (fun _ => 0) 0 v, 0, true) _ _
    obtain ⟨w1, w2⟩ := fS_sync (kk := kk) (cw := cw) (c := 44) (nx := 1) (nu := upd nu (6 * r + 0) (nI v)) (t := (va_up (fun _ => 0) 0 v, 0, true)) l2 rfl hn' (by decide) (by decide) (by decide) rfl pb_0 rfl (by decide)
    rw [g1]
    cases hw2 : (fS cd len 44 (s2, false, upd nu (6 * r + 0) (nI v))).2.1 with
    | true => exact OUTP.w (w1 hw2) (g2_w hw2)
    | false =>
      obtain ⟨k1, k2, k3⟩ := w2 hw2
      rw [k2]
      refine OUTP.pre k3 ?_
      dsimp only
      obtain ⟨x1, x2⟩ := fN_sync (cd := cd) (kk := kk) (cw := cw) (r := r) (q := 1) (nu := upd nu (6 * r + 0) (nI v)) (t := (va_up (fun _ => 0) 0 v, 1, false)) k1 rfl (show va_up (fun _ => 0) 0 v 1 = 0 from va_up_ne _ _ (by decide))
      dsimp only at x1 x2
      rw [g2]
      cases hw3 : (fN cd len r 1 (s2 + 1, false, upd nu (6 * r + 0) (nI v))).2.1 with
      | true => exact OUTP.w (x1 hw3) (g4_w (P := stN (6 * r + 3) 0 (stN (6 * r + 2) 0 (fN cd len r 1 (s2 + 1, false, upd nu (6 * r + 0) (nI v))))) hw3)
      | false =>
        obtain ⟨u, s3, -, l3, e3, hr3, hn3⟩ := x2 hw3
        rw [e3]
        have e9 : stN (6 * r + 3) 0 (stN (6 * r + 2) 0 (s3, false, upd (upd nu (6 * r + 0) (nI v)) (6 * r + 1) (nI u))) = (s3, false, upd (upd (upd (upd nu (6 * r + 0) (nI v)) (6 * r + 1) (nI u)) (6 * r + 2) 0) (6 * r + 3) 0) := rfl
        rw [e9]
        refine OUTP.pre hr3 (OUTP.num (g4_sync l3 hn3 ?_ ?_ ?_ ?_ ?_ ?_ ?_) (fun x hx => by rw [pk_un (by omega), pk_un (by omega), pk_un (by omega)]))
        · rw [va_up_ne _ _ (by decide), va_up_ne _ _ (by decide)]
        · rw [va_up_ne _ _ (by decide), va_up_ne _ _ (by decide)]
        · rw [va_up_ne _ _ (by decide), va_up_ne _ _ (by decide)]
        · rw [pk_un (by omega), pk_un (by omega), pk_un (by omega), show 6 * r + 0 = 6 * r from rfl, pk_us, va_up_ne _ _ (by decide), va_up_self]
        · rw [pk_un (by omega), pk_un (by omega), pk_us, va_up_self]
        · rw [pk_un (by omega), pk_us]
        · rw [pk_us]
theorem ts_59 {T : RS} (h1 : T.2.2 = true) (h2 : mayE T.2.1 = true) : rsT T 59 = some rs0 := by
  have hp : pbF T.2.1 59 = some 0 := by rw [pbF, if_neg (by decide), if_neg (by decide), if_pos rfl, if_pos h2]
  rw [rsT, if_neg (by decide), tsF, hp]
  dsimp only
  rw [if_neg (by rw [h1]; decide), if_pos rfl]
  rfl
theorem fF_sync {cd : Nat → Nat} {len kk cw : Nat} : ∀ (f r : Nat) (P : PSt) (T : RS), P.2.1 = false → P.1 ≤ len → len - P.1 ≤ f → pileEnd cd len P.1 T → rowOK P.2.2 r T →
    ((fF cd len f (r + 1) P).1.2.1 = true → AFG cd len P.1 T = some (fF cd len f (r + 1) P).1.1) ∧
    ((fF cd len f (r + 1) P).1.2.1 = false → AFG cd len P.1 T = none ∧ r + 1 ≤ (fF cd len f (r + 1) P).2 ∧ (∀ x, x < 6 * (r + 1) → (fF cd len f (r + 1) P).1.2.2 x = P.2.2 x) ∧
      ∀ q, mkC cd len kk cw (len + 1 - P.1) P.1 T r q = mkM (fF cd len f (r + 1) P).1.2.2 kk cw ((fF cd len f (r + 1) P).2 - r) r q.1 q.2) := by
  intro f
  induction f with
  | zero =>
    intro r P T hw hs hf hE hrow
    have e : P.1 = len := by omega
    show (P.2.1 = true → _) ∧ (P.2.1 = false → _)
    refine ⟨fun q => (by rw [hw] at q; cases q), fun _ => ⟨?_, Nat.le_refl _, fun _ _ => rfl, fun q => ?_⟩⟩
    · rw [e, AFG_end, hE.1, hE.2.1]; rfl
    · show mkC cd len kk cw (len + 1 - P.1) P.1 T r q = mkM P.2.2 kk cw (r + 1 - r) r q.1 q.2
      rw [e, show len + 1 - len = 0 + 1 by omega, show r + 1 - r = 0 + 1 by omega, mkC, mkM, if_pos (Or.inl rfl), mkS_row hrow]
      split
      · rfl
      · rfl
  | succ f ih =>
    intro r P T hw hs hf hE hrow
    by_cases e : len ≤ P.1
    · have e2 : P.1 = len := by omega
      rw [fF, if_pos (Or.inr e)]
      refine ⟨fun q => (by rw [hw] at q; cases q), fun _ => ⟨?_, Nat.le_refl _, fun _ _ => rfl, fun q => ?_⟩⟩
      · rw [e2, AFG_end, hE.1, hE.2.1]; rfl
      · dsimp only
        rw [e2, show len + 1 - len = 0 + 1 by omega, show r + 1 - r = 0 + 1 by omega, mkC, mkM, if_pos (Or.inl rfl), mkS_row hrow]
        split
        · rfl
        · rfl
    · have hsl : P.1 < len := by omega
      rw [fF, if_neg (fun h => h.elim (fun h => by rw [hw] at h; cases h) e)]
      by_cases h59 : cd P.1 = 59
      · have eS : fS cd len 59 P = (P.1 + 1, false, P.2.2) := by rw [fS, if_neg (by rw [hw, nx_at hsl]; simp [h59])]
        have hst : rsT T (cd P.1) = some rs0 := by rw [h59]; exact ts_59 hE.1 hE.2.1
        rw [eS, if_neg (by simp)]
        have hC : ∀ q, mkC cd len kk cw (len + 1 - P.1) P.1 T r q = if (mkS (nuT T) kk cw 0 q.1 q.2).1 = true then mkC cd len kk cw (len + 1 - (P.1 + 1)) (P.1 + 1) rs0 (r + 1) (mkS (nuT T) kk cw 0 q.1 q.2).2 else (r, (mkS (nuT T) kk cw 0 q.1 q.2).2) := fun q => by
          rw [show len + 1 - P.1 = len + 1 - (P.1 + 1) + 1 by omega, mkC, if_pos (Or.inr h59), if_neg (show ¬ P.1 = len by omega), hst]
          rfl
        obtain ⟨o1, o2⟩ := fP_sync (cd := cd) (kk := kk) (cw := cw) (r := r + 1) (nu := P.2.2) (show P.1 + 1 ≤ len by omega)
        have hAF := AFG_step hsl hst
        cases hw2 : (fP cd len (r + 1) (P.1 + 1, false, P.2.2)).2.1 with
        | true =>
          rw [rdN, if_pos hw2, fF_stop (Or.inl hw2)]
          exact ⟨fun _ => hAF.trans (o1 hw2), fun q => by rw [hw2] at q; cases q⟩
        | false =>
          obtain ⟨s2, nu2, T2, e2, l2, hr, hE2, hrow2, hold⟩ := o2 hw2
          have hge := fP_ge (cd := cd) (len := len) (r := r + 1) (P := (P.1 + 1, false, P.2.2))
          rw [e2] at hge
          rw [e2, rdN, if_neg (by simp)]
          dsimp only at hge
          obtain ⟨k1, k2⟩ := ih (r + 1) (s2, false, nu2) T2 rfl l2 (by dsimp only; omega) hE2 hrow2
          refine ⟨fun q => hAF.trans (hr.1.trans (k1 q)), fun q => ?_⟩
          obtain ⟨m1, m2, m3, m4⟩ := k2 q
          refine ⟨hAF.trans (hr.1.trans m1), by omega, fun x hx => (m3 x (by omega)).trans (hold x hx), fun q3 => ?_⟩
          have hrow3 : rowOK (fF cd len f (r + 1 + 1) (s2, false, nu2)).1.2.2 r T := by
            have hx : ∀ x, x < 6 * (r + 1) → (fF cd len f (r + 1 + 1) (s2, false, nu2)).1.2.2 x = P.2.2 x := fun x hx => (m3 x (by omega)).trans (hold x hx)
            obtain ⟨r0, r1, r2, r3, r4⟩ := hrow
            exact ⟨(hx _ (by omega)).trans r0, (hx _ (by omega)).trans r1, (hx _ (by omega)).trans r2, (hx _ (by omega)).trans r3, fun h => ⟨(hx _ (by omega)).trans (r4 h).1, (hx _ (by omega)).trans (r4 h).2⟩⟩
          rw [hC, show (fF cd len f (r + 1 + 1) (s2, false, nu2)).2 - r = (fF cd len f (r + 1 + 1) (s2, false, nu2)).2 - (r + 1) + 1 by omega, mkM, mkS_row hrow3]
          split
          · rw [hr.2, m4]
          · rfl
      · have hw3 : (fS cd len 59 P).2.1 = true := by rw [fS, if_pos (Or.inr (by rw [nx_at hsl]; exact h59))]
        have hs3 : (fS cd len 59 P).1 = P.1 := by rw [fS, if_pos (Or.inr (by rw [nx_at hsl]; exact h59))]
        rw [if_pos hw3]
        exact ⟨fun _ => by rw [hs3]; exact AFG_none hsl (hE.2.2 hsl h59), fun q => by rw [hw3] at q; cases q⟩
/-- the class and the reference read the same of a text -/
theorem text_eq {cd : Nat → Nat} {len kk cw : Nat} (nu : Nat → Int32) :
    ((FTG cd len nu).1.2.1 = true → fltG cd len len 0 rs0 = some (FTG cd len nu).1.1) ∧
    ((FTG cd len nu).1.2.1 = false → fltG cd len len 0 rs0 = none ∧ ∀ q, mkC cd len kk cw (len + 1) 0 rs0 0 q = mkM (FTG cd len nu).1.2.2 kk cw (FTG cd len nu).2 0 q.1 q.2) := by
  obtain ⟨o1, o2⟩ := fP_sync (cd := cd) (kk := kk) (cw := cw) (r := 0) (nu := nu) (Nat.zero_le len)
  rw [FTG]
  cases hw : (fP cd len 0 (0, false, nu)).2.1 with
  | true =>
    rw [rdN, if_pos hw, fF_stop (Or.inl hw)]
    exact ⟨fun _ => o1 hw, fun q => by rw [hw] at q; cases q⟩
  | false =>
    obtain ⟨s2, nu2, T2, e2, l2, hr, hE2, hrow2, hold⟩ := o2 hw
    rw [e2, rdN, if_neg (by simp)]
    obtain ⟨k1, k2⟩ := fF_sync (kk := kk) (cw := cw) len 0 (s2, false, nu2) T2 rfl l2 (by dsimp only; omega) hE2 hrow2
    refine ⟨fun q => hr.1.trans (k1 q), fun q => ?_⟩
    obtain ⟨m1, -, -, m4⟩ := k2 q
    exact ⟨hr.1.trans m1, fun q3 => (hr.2 0 q3).trans (m4 q3)⟩
