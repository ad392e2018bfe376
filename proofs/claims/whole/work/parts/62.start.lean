/-! the law's start -/
def R0 : RD := mkR 0 (-6) 0 0 500 1 0 (fun _ _ => 0) (fun _ => 0) (fun _ => 0)
theorem LI0 {z : Nat} {cI cZ cP cR : ClassId} {F : Nat → va_E} (hT : isTop z cR F (fun _ => none)) (h1 : isRec z cI cP F 1 0 (-6) 0 0 500 1 0 (fun _ _ => 0) (fun _ => 0) (fun _ => 0)) (h15 : isRec z cI cP F 15 0 (-6) 0 0 500 1 0 (fun _ _ => 0) (fun _ => 0) (fun _ => 0)) (hH : isHis z cR F 30 0 (fun q => 30 + 2 + 14 * q)) (hq : ∀ q, q < 6 → isRec z cI cP F (30 + 2 + 14 * q) 0 (-6) 0 0 500 1 0 (fun _ _ => 0) (fun _ => 0) (fun _ => 0)) (hP : isPad z cI F 116 0 (fun _ => 0)) (hRe : isRea z cI F 118 0 0 (fun _ => 0)) (hO : isOdd z cI F 120 (fun _ => 0) (fun _ => 0)) (hM : isMod z cI cZ F 123 0 0 0 0 0 0 (upd (upd (fun _ => 0) 1 500) 2 1) (fun _ => 0) (fun _ => 0) (fun _ => 0) (fun _ => 0) (fun _ => 0) (fun _ => 0) (fun _ => 0)) : LI z cI cZ cP cR 0 F := by
  refine LI.mk (n := 0) (kk := 0) (cw := 0) (c0 := 1) (pi := fun _ => 0) (T := R0) (hn := 0) (hb := fun q => 30 + 2 + 14 * q) (pa := fun _ => 0) (hd := fun _ => R0) (sl := fun _ => none) (sd := fun _ => R0) (len := 0) (f0 := 0) (cd := fun _ => 0) h1 ?_ hM ?_ ?_ ?_ ?_ ?_ ?_ ?_ ?_
  · have hB : hbOK 30 (fun q => 30 + 2 + 14 * q) := fun i hi => by
      refine ⟨by dsimp only; omega, fun j hj hij => by dsimp only; omega⟩
    exact ⟨hT, h15, hH, by decide, hB, hq, hP, by decide, ⟨_, _, _, hRe⟩, ⟨_, _, hO⟩, by decide, fun i _ q h => (by cases h), fun i _ q h => (by cases h), fun q0 q1 h => (by cases h)⟩
  · refine ⟨by decide, by decide, by decide, by decide, by decide, fun p h => absurd h (Nat.not_lt_zero p), fun p h => absurd h (Nat.not_lt_zero p), by decide, by decide, by decide, rfl, by decide, Or.inl rfl, by decide, by decide, fun t h => absurd h (Nat.not_lt_zero t)⟩
  · exact fun r h => absurd h (Nat.not_lt_zero r)
  · exact ⟨fun r h => absurd h (Nat.not_lt_zero r), fun r r' _ h => absurd h (Nat.not_lt_zero r'), fun p h => absurd h (Nat.not_lt_zero p)⟩
  · exact ⟨by decide, by decide, fun i h => absurd h (Nat.not_lt_zero i)⟩
  · exact fun i _ => Or.inl rfl
  · exact fun i _ => Or.inl ⟨rfl, rfl⟩
  · exact fun i h => absurd h (Nat.not_lt_zero i)
  · exact fun i h => absurd h (Nat.not_lt_zero i)
