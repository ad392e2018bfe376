theorem nI_nm6 {i : Nat} (h : i < 2 ^ 31) : ¬ nI i = -6 := fun q => by
  have e1 := congrArg Int32.toInt q
  rw [nI_toInt h] at e1
  have e2 : (-6 : Int32).toInt = -6 := by decide
  omega
def mixA {α : Type} (f g : Nat → α) (j : Nat) : Nat → α := fun q => if q < j then g q else f q
theorem mix_0 {α : Type} (f g : Nat → α) : mixA f g 0 = f := by funext q; simp [mixA]
theorem mix_up {α : Type} (f g : Nat → α) (j : Nat) : va_up (mixA f g j) j (g j) = mixA f g (j + 1) := by
  funext q
  by_cases h : q = j
  · subst h; simp [va_up, mixA]
  · by_cases h2 : q < j
    · simp [va_up, mixA, h, h2, show q < j + 1 by omega]
    · simp [va_up, mixA, h, h2, show ¬ q < j + 1 by omega]
theorem mix_upd (f g : Nat → Int32) (j : Nat) : upd (mixA f g j) j (g j) = mixA f g (j + 1) := mix_up f g j
theorem mix_lt {α : Type} {f g : Nat → α} {j q : Nat} (h : q < j) : mixA f g j q = g q := by simp [mixA, h]
theorem lt5 {P : Nat → Prop} (h0 : P 0) (h1 : P 1) (h2 : P 2) (h3 : P 3) (h4 : P 4) : ∀ j, j < 5 → P j := by
  intro j hj
  match j, hj with
  | 0, _ => exact h0
  | 1, _ => exact h1
  | 2, _ => exact h2
  | 3, _ => exact h3
  | 4, _ => exact h4
theorem pd5 {pd : Nat → Nat → Int32} {i : Nat} {a b c d e : Int32} {g : Nat → Int32} (h0 : a = g 0) (h1 : b = g 1) (h2 : c = g 2) (h3 : d = g 3) (h4 : e = g 4) : ∀ q, q < 10 → ∀ j, j < 5 → pdSet (pdSet (pdSet (pdSet (pdSet pd i 0 a) i 1 b) i 2 c) i 3 d) i 4 e q j = va_up pd i g q j := by
  subst h0 h1 h2 h3 h4
  intro q _
  by_cases h : q = i
  · subst h
    rw [va_up_self]
    refine lt5 ?_ ?_ ?_ ?_ ?_ <;> simp [pdSet_eq, upd]
  · intro j _
    rw [va_up_ne _ _ h, pdSet_ne h, pdSet_ne h, pdSet_ne h, pdSet_ne h, pdSet_ne h]
def pileD (a b c : Int32) : Nat → Int32 := fun j => if j = 0 then a else if j = 1 then b else if j = 2 then c else if j = 3 then a else b
theorem fl_X3_copyFrom_13 : Cond.fieldLink RX3 13 "PileRecount$Pile" "one" "I" ∈ wsX3_copyFrom := by decide +kernel
theorem fl_X3_copyFrom_16 : Cond.fieldLink RX3 16 "PileRecount$Pile" "blanks" "I" ∈ wsX3_copyFrom := by decide +kernel
theorem fl_X3_copyFrom_19 : Cond.fieldLink RX3 19 "PileRecount$Pile" "foundZero" "I" ∈ wsX3_copyFrom := by decide +kernel
theorem fl_X3_copyFrom_22 : Cond.fieldLink RX3 22 "PileRecount$Pile" "foundOne" "I" ∈ wsX3_copyFrom := by decide +kernel
theorem fl_X3_copyFrom_7 : Cond.fieldLink RX3 7 "PileRecount$Pile" "zero" "I" ∈ wsX3_copyFrom := by decide +kernel
theorem hn_X3_copyFrom_X3 : ∀ w ∈ wsX30, w ∈ wsX3_copyFrom := fun _ h => List.mem_cons_of_mem _ (List.mem_append_right _ h)
set_option maxHeartbeats 4000000 in
set_option maxRecDepth 100000 in
theorem c_X3_copyFrom (l : Launch) (D : va_G) (z : Nat) (cI cZ cP cR : ClassId) (N : Nat) (F : Nat → va_E) (k : Nat) (pl wi cp cs rl ch sp : Int32) (pd : Nat → Nat → Int32) (bs od : Nat → Int32) (k2 : Nat) (pl2 wi2 cp2 cs2 rl2 ch2 sp2 : Int32) (pd2 : Nat → Nat → Int32) (bs2 od2 : Nat → Int32) (i : Nat) (hR : isRec z cI cP F k pl wi cp cs rl ch sp pd bs od) (hk : k + 14 ≤ N) (hR2 : isRec z cI cP F k2 pl2 wi2 cp2 cs2 rl2 ch2 sp2 pd2 bs2 od2) (hk2 : k2 + 14 ≤ N) (hdis : k + 14 ≤ k2 ∨ k2 + 14 ≤ k) (hi : i < 10) : gMv l yX3_copyFrom wsX3_copyFrom ({ frames := 0, cells := 0, slots := 0, locals := 0 }) D z cI cZ cP cR N F [.ref (z + (k + 2 + i)), .ref (z + (k2 + 2 + i))] (gVoid N (fun F2 => isRec z cI cP F2 k pl wi cp cs rl ch sp (va_up pd i (pd2 i)) bs od ∧ gFr k (k + 14) F F2)) 0 0 := by
  refine gMv.of (cc := cX3_copyFrom) (maxL := 2) (ret := none) (by decide) rfl (Nat.le_of_ble_eq_true rfl) [(0, .ref (z + (k + 2 + i))), (1, .ref (z + (k2 + 2 + i)))] rfl ?_
  intro pg ev sg mg bel me cg C hR0
  refine x_aload_n C (pc := 0) 0 dX3_copyFrom_0 rfl ?_
  refine x_aload_n C (pc := 1) 1 dX3_copyFrom_1 rfl ?_
  refine x_get C (pc := 2) (q := k2 + 2 + i) (v := .int (pd2 i 0)) (ci := 3) rfl hn_X3_copyFrom_X3 0 (by decide) fl_X3_copyFrom_7 rfl (by omega) (hR2.pile (by omega)) rfl dX3_copyFrom_2 ?_
  refine xw_X3_0 C (pc := 5) (i := i) hn_X3_copyFrom_X3 fl_X3_copyFrom_7 hR (by omega) (by omega) dX3_copyFrom_5 (fun F_5 hR_5 fr_5 => ?_)
  have hR2_5 := hR2.same (F2 := F_5) (fun q _ _ => fr_5 q (by omega))
  refine x_aload_n C (pc := 8) 0 dX3_copyFrom_8 rfl ?_
  refine x_aload_n C (pc := 9) 1 dX3_copyFrom_9 rfl ?_
  refine x_get C (pc := 10) (q := k2 + 2 + i) (v := .int (pd2 i 1)) (ci := 3) rfl hn_X3_copyFrom_X3 1 (by decide) fl_X3_copyFrom_13 rfl (by omega) (hR2_5.pile (by omega)) rfl dX3_copyFrom_10 ?_
  refine xw_X3_1 C (pc := 13) (i := i) hn_X3_copyFrom_X3 fl_X3_copyFrom_13 hR_5 (by omega) (by omega) dX3_copyFrom_13 (fun F_13 hR_13 fr_13 => ?_)
  have hR2_13 := hR2_5.same (F2 := F_13) (fun q _ _ => fr_13 q (by omega))
  refine x_aload_n C (pc := 16) 0 dX3_copyFrom_16 rfl ?_
  refine x_aload_n C (pc := 17) 1 dX3_copyFrom_17 rfl ?_
  refine x_get C (pc := 18) (q := k2 + 2 + i) (v := .int (pd2 i 2)) (ci := 3) rfl hn_X3_copyFrom_X3 2 (by decide) fl_X3_copyFrom_16 rfl (by omega) (hR2_13.pile (by omega)) rfl dX3_copyFrom_18 ?_
  refine xw_X3_2 C (pc := 21) (i := i) hn_X3_copyFrom_X3 fl_X3_copyFrom_16 hR_13 (by omega) (by omega) dX3_copyFrom_21 (fun F_21 hR_21 fr_21 => ?_)
  have hR2_21 := hR2_13.same (F2 := F_21) (fun q _ _ => fr_21 q (by omega))
  refine x_aload_n C (pc := 24) 0 dX3_copyFrom_24 rfl ?_
  refine x_aload_n C (pc := 25) 1 dX3_copyFrom_25 rfl ?_
  refine x_get C (pc := 26) (q := k2 + 2 + i) (v := .int (pd2 i 3)) (ci := 3) rfl hn_X3_copyFrom_X3 3 (by decide) fl_X3_copyFrom_19 rfl (by omega) (hR2_21.pile (by omega)) rfl dX3_copyFrom_26 ?_
  refine xw_X3_3 C (pc := 29) (i := i) hn_X3_copyFrom_X3 fl_X3_copyFrom_19 hR_21 (by omega) (by omega) dX3_copyFrom_29 (fun F_29 hR_29 fr_29 => ?_)
  have hR2_29 := hR2_21.same (F2 := F_29) (fun q _ _ => fr_29 q (by omega))
  refine x_aload_n C (pc := 32) 0 dX3_copyFrom_32 rfl ?_
  refine x_aload_n C (pc := 33) 1 dX3_copyFrom_33 rfl ?_
  refine x_get C (pc := 34) (q := k2 + 2 + i) (v := .int (pd2 i 4)) (ci := 3) rfl hn_X3_copyFrom_X3 4 (by decide) fl_X3_copyFrom_22 rfl (by omega) (hR2_29.pile (by omega)) rfl dX3_copyFrom_34 ?_
  refine xw_X3_4 C (pc := 37) (i := i) hn_X3_copyFrom_X3 fl_X3_copyFrom_22 hR_29 (by omega) (by omega) dX3_copyFrom_37 (fun F_37 hR_37 fr_37 => ?_)
  have hR2_37 := hR2_29.same (F2 := F_37) (fun q _ _ => fr_37 q (by omega))
  exact x_vret C hR0 (Nat.le_of_ble_eq_true rfl) (Nat.le_of_ble_eq_true rfl) ⟨rfl, ⟨hR_37.ext_pd (pd5 rfl rfl rfl rfl rfl), (gFr.t2 (gFr.t2 (gFr.t2 (gFr.t2 fr_5 fr_13) fr_21) fr_29) fr_37)⟩⟩ dX3_copyFrom_40
theorem fl_X5_copyFrom_11 : Cond.fieldLink RX5 11 "PileRecount$Recount" "rows" "[LPileRecount$Pile;" ∈ wsX5_copyFrom := by decide +kernel
theorem fl_X5_copyFrom_18 : Cond.fieldLink RX5 18 "PileRecount$Recount" "winner" "I" ∈ wsX5_copyFrom := by decide +kernel
theorem fl_X5_copyFrom_22 : Cond.fieldLink RX5 22 "PileRecount$Recount" "bySwing" "[I" ∈ wsX5_copyFrom := by decide +kernel
theorem fl_X5_copyFrom_26 : Cond.fieldLink RX5 26 "PileRecount$Recount" "order" "[I" ∈ wsX5_copyFrom := by decide +kernel
theorem fl_X5_copyFrom_29 : Cond.fieldLink RX5 29 "PileRecount$Recount" "riskLimit" "I" ∈ wsX5_copyFrom := by decide +kernel
theorem fl_X5_copyFrom_32 : Cond.fieldLink RX5 32 "PileRecount$Recount" "chooser" "I" ∈ wsX5_copyFrom := by decide +kernel
theorem fl_X5_copyFrom_39 : Cond.fieldLink RX5 39 "PileRecount$Recount" "piles" "I" ∈ wsX5_copyFrom := by decide +kernel
theorem fl_X5_copyFrom_42 : Cond.fieldLink RX5 42 "PileRecount$Recount" "countedPiles" "I" ∈ wsX5_copyFrom := by decide +kernel
theorem fl_X5_copyFrom_45 : Cond.fieldLink RX5 45 "PileRecount$Recount" "countedSet" "I" ∈ wsX5_copyFrom := by decide +kernel
theorem fl_X5_copyFrom_48 : Cond.fieldLink RX5 48 "PileRecount$Recount" "stopped" "Z" ∈ wsX5_copyFrom := by decide +kernel
theorem hn_X5_copyFrom_X5 : ∀ w ∈ wsX50, w ∈ wsX5_copyFrom := fun _ h => List.mem_cons_of_mem _ (List.mem_append_left _ (List.mem_append_right _ h))
set_option maxHeartbeats 4000000 in
set_option maxRecDepth 100000 in
theorem c_X5_copyFrom (l : Launch) (D : va_G) (z : Nat) (cI cZ cP cR : ClassId) (N : Nat) (F : Nat → va_E) (k : Nat) (pl wi cp cs rl ch sp : Int32) (pd : Nat → Nat → Int32) (bs od : Nat → Int32) (k2 : Nat) (pl2 wi2 cp2 cs2 rl2 ch2 sp2 : Int32) (pd2 : Nat → Nat → Int32) (bs2 od2 : Nat → Int32) (hR : isRec z cI cP F k pl wi cp cs rl ch sp pd bs od) (hk : k + 14 ≤ N) (hR2 : isRec z cI cP F k2 pl2 wi2 cp2 cs2 rl2 ch2 sp2 pd2 bs2 od2) (hk2 : k2 + 14 ≤ N) (hdis : k + 14 ≤ k2 ∨ k2 + 14 ≤ k) (hsp : sp2 = 0 ∨ sp2 = 1) : gMv l yX5_copyFrom wsX5_copyFrom ({ frames := 1, cells := 0, slots := 0, locals := 21 }) D z cI cZ cP cR N F [.ref (z + k), .ref (z + k2)] (gVoid N (fun F2 => isRec z cI cP F2 k pl2 wi2 cp2 cs2 rl2 ch2 sp2 pd2 bs2 od2 ∧ gFr k (k + 14) F F2)) 0 0 := by
  refine gMv.of (cc := cX5_copyFrom) (maxL := 3) (ret := none) (by decide) rfl (Nat.le_of_ble_eq_true rfl) [(0, .ref (z + k)), (1, .ref (z + k2))] rfl ?_
  intro pg ev sg mg bel me cg C hR0
  refine x_iconst C (pc := 0) (v := 0) dX5_copyFrom_0 (by decide) ?_
  refine x_istore_n C (pc := 1) [(2, .int 0), (0, .ref (z + k)), (1, .ref (z + k2))] dX5_copyFrom_1 (by decide) rfl ?_
  refine x_sub [1, 2, 0] _ rfl ?_
  refine x_loop2 (A1 := Nat) (A2 := Nat → va_E) (pc := 2) (st := []) (fun j G => 10 - j) (fun j G => (j ≤ 10) ∧ (isRec z cI cP G k pl wi cp cs rl ch sp (mixA pd pd2 j) (mixA bs bs2 j) (mixA od od2 j)) ∧ (gFr k (k + 14) F G)) (fun j G => N) (fun j G => G) (fun j G => 0) (fun j G => 0) (fun j G => [(0, .ref (z + k)), (1, .ref (z + k2)), (2, .int (nI j))]) 0 F ⟨(Nat.zero_le _), (by rw [mix_0, mix_0, mix_0]; exact hR), gFr.rf⟩ rfl rfl rfl rfl rfl ?_
  rintro j G ⟨hj, hG, hfr⟩ ih_2
  try dsimp only at ih_2
  have hQ := hR2.same (F2 := G) (fun q _ _ => hfr q (by omega))
  refine x_iload_n C (pc := 2) 2 dX5_copyFrom_2 rfl ?_
  refine x_bipush C (pc := 3) (v := 10) dX5_copyFrom_3 (by decide) ?_
  refine x_icmpN_ge C (a := j) (b := 10) (pc := 5) (tgt := 53) (by omega) (by omega) dX5_copyFrom_5 (by decide) (fun c_5 => ?_) (fun c_5 => ?_)
  · have hj10 : j = 10 := by omega
    subst hj10
    refine x_aload_n C (pc := 53) 0 dX5_copyFrom_53 rfl ?_
    refine x_aload_n C (pc := 54) 1 dX5_copyFrom_54 rfl ?_
    refine x_get C (pc := 55) (q := k2) (v := .int pl2) (ci := 5) rfl hn_X5_copyFrom_X5 1 (by decide) fl_X5_copyFrom_39 rfl (by omega) hQ.ob rfl dX5_copyFrom_55 ?_
    refine xw_X5_1 C (pc := 58) hn_X5_copyFrom_X5 fl_X5_copyFrom_39 hG (by omega) dX5_copyFrom_58 (fun F_58 hG_58 fr_58 => ?_)
    have hQ_58 := hQ.same (F2 := F_58) (fun q _ _ => fr_58 q (by omega))
    refine x_aload_n C (pc := 61) 0 dX5_copyFrom_61 rfl ?_
    refine x_aload_n C (pc := 62) 1 dX5_copyFrom_62 rfl ?_
    refine x_get C (pc := 63) (q := k2) (v := .int wi2) (ci := 5) rfl hn_X5_copyFrom_X5 2 (by decide) fl_X5_copyFrom_18 rfl (by omega) hQ_58.ob rfl dX5_copyFrom_63 ?_
    refine xw_X5_2 C (pc := 66) hn_X5_copyFrom_X5 fl_X5_copyFrom_18 hG_58 (by omega) dX5_copyFrom_66 (fun F_66 hG_66 fr_66 => ?_)
    have hQ_66 := hQ_58.same (F2 := F_66) (fun q _ _ => fr_66 q (by omega))
    refine x_aload_n C (pc := 69) 0 dX5_copyFrom_69 rfl ?_
    refine x_aload_n C (pc := 70) 1 dX5_copyFrom_70 rfl ?_
    refine x_get C (pc := 71) (q := k2) (v := .int cp2) (ci := 5) rfl hn_X5_copyFrom_X5 5 (by decide) fl_X5_copyFrom_42 rfl (by omega) hQ_66.ob rfl dX5_copyFrom_71 ?_
    refine xw_X5_5 C (pc := 74) hn_X5_copyFrom_X5 fl_X5_copyFrom_42 hG_66 (by omega) dX5_copyFrom_74 (fun F_74 hG_74 fr_74 => ?_)
    have hQ_74 := hQ_66.same (F2 := F_74) (fun q _ _ => fr_74 q (by omega))
    refine x_aload_n C (pc := 77) 0 dX5_copyFrom_77 rfl ?_
    refine x_aload_n C (pc := 78) 1 dX5_copyFrom_78 rfl ?_
    refine x_get C (pc := 79) (q := k2) (v := .int cs2) (ci := 5) rfl hn_X5_copyFrom_X5 6 (by decide) fl_X5_copyFrom_45 rfl (by omega) hQ_74.ob rfl dX5_copyFrom_79 ?_
    refine xw_X5_6 C (pc := 82) hn_X5_copyFrom_X5 fl_X5_copyFrom_45 hG_74 (by omega) dX5_copyFrom_82 (fun F_82 hG_82 fr_82 => ?_)
    have hQ_82 := hQ_74.same (F2 := F_82) (fun q _ _ => fr_82 q (by omega))
    refine x_aload_n C (pc := 85) 0 dX5_copyFrom_85 rfl ?_
    refine x_aload_n C (pc := 86) 1 dX5_copyFrom_86 rfl ?_
    refine x_get C (pc := 87) (q := k2) (v := .int rl2) (ci := 5) rfl hn_X5_copyFrom_X5 7 (by decide) fl_X5_copyFrom_29 rfl (by omega) hQ_82.ob rfl dX5_copyFrom_87 ?_
    refine xw_X5_7 C (pc := 90) hn_X5_copyFrom_X5 fl_X5_copyFrom_29 hG_82 (by omega) dX5_copyFrom_90 (fun F_90 hG_90 fr_90 => ?_)
    have hQ_90 := hQ_82.same (F2 := F_90) (fun q _ _ => fr_90 q (by omega))
    refine x_aload_n C (pc := 93) 0 dX5_copyFrom_93 rfl ?_
    refine x_aload_n C (pc := 94) 1 dX5_copyFrom_94 rfl ?_
    refine x_get C (pc := 95) (q := k2) (v := .int ch2) (ci := 5) rfl hn_X5_copyFrom_X5 8 (by decide) fl_X5_copyFrom_32 rfl (by omega) hQ_90.ob rfl dX5_copyFrom_95 ?_
    refine xw_X5_8 C (pc := 98) hn_X5_copyFrom_X5 fl_X5_copyFrom_32 hG_90 (by omega) dX5_copyFrom_98 (fun F_98 hG_98 fr_98 => ?_)
    have hQ_98 := hQ_90.same (F2 := F_98) (fun q _ _ => fr_98 q (by omega))
    refine x_aload_n C (pc := 101) 0 dX5_copyFrom_101 rfl ?_
    refine x_aload_n C (pc := 102) 1 dX5_copyFrom_102 rfl ?_
    refine x_get C (pc := 103) (q := k2) (v := .int sp2) (ci := 5) rfl hn_X5_copyFrom_X5 9 (by decide) fl_X5_copyFrom_48 rfl (by omega) hQ_98.ob rfl dX5_copyFrom_103 ?_
    refine xw_X5_9 C (pc := 106) hn_X5_copyFrom_X5 fl_X5_copyFrom_48 hG_98 (by omega) hsp dX5_copyFrom_106 (fun F_106 hG_106 fr_106 => ?_)
    have hQ_106 := hQ_98.same (F2 := F_106) (fun q _ _ => fr_106 q (by omega))
    exact x_vret C hR0 (Nat.le_of_ble_eq_true rfl) (Nat.le_of_ble_eq_true rfl) ⟨rfl, ⟨((hG_106.ext_pd (fun q hq i _ => by rw [mix_lt hq])).ext_bs (fun q hq => mix_lt hq)).ext_od (fun q hq => mix_lt hq), (gFr.t2 (gFr.t2 (gFr.t2 (gFr.t2 (gFr.t2 (gFr.t2 (gFr.t2 hfr fr_58) fr_66) fr_74) fr_82) fr_90) fr_98) fr_106)⟩⟩ dX5_copyFrom_109
  refine x_aload_n C (pc := 8) 0 dX5_copyFrom_8 rfl ?_
  refine x_get C (pc := 9) (q := k) (v := .ref (z + (k + 1))) (ci := 5) rfl hn_X5_copyFrom_X5 0 (by decide) fl_X5_copyFrom_11 rfl (by omega) hG.ob rfl dX5_copyFrom_9 ?_
  refine x_iload_n C (pc := 12) 2 dX5_copyFrom_12 rfl ?_
  refine xr_row C (pc := 13) (j := j) hG (by omega) rfl (by omega) dX5_copyFrom_13 ?_
  refine x_aload_n C (pc := 14) 1 dX5_copyFrom_14 rfl ?_
  refine x_get C (pc := 15) (q := k2) (v := .ref (z + (k2 + 1))) (ci := 5) rfl hn_X5_copyFrom_X5 0 (by decide) fl_X5_copyFrom_11 rfl (by omega) hQ.ob rfl dX5_copyFrom_15 ?_
  refine x_iload_n C (pc := 18) 2 dX5_copyFrom_18 rfl ?_
  refine xr_row C (pc := 19) (j := j) hQ (by omega) rfl (by omega) dX5_copyFrom_19 ?_
  refine x_cVvE C (pc := 20) (st := []) (c_X3_copyFrom l D z cI cZ cP cR N G k pl wi cp cs rl ch sp (mixA pd pd2 j) (mixA bs bs2 j) (mixA od od2 j) k2 pl2 wi2 cp2 cs2 rl2 ch2 sp2 pd2 bs2 od2 j hG (by omega) hQ (by omega) (by omega) (by omega)) (cwV 1 C.2.2.2.2.1 gX5_copyFrom_X3_copyFrom rfl rfl rfl hd_X3_copyFrom ⟨Nat.le_of_ble_eq_true rfl, Nat.le_of_ble_eq_true rfl⟩) (by omega) (hG.pile (by omega)) rfl rfl rfl (Nat.le_of_ble_eq_true rfl) dX5_copyFrom_20 ⟨Nat.le_of_ble_eq_true rfl, Nat.le_of_ble_eq_true rfl⟩ (fun F_20 h_20 => ?_)
  obtain ⟨hG_20, fr_20⟩ := h_20
  have hQ_20 := hQ.same (F2 := F_20) (fun q _ _ => fr_20 q (by omega))
  refine x_aload_n C (pc := 23) 0 dX5_copyFrom_23 rfl ?_
  refine x_get C (pc := 24) (q := k) (v := .ref (z + (k + 12))) (ci := 5) rfl hn_X5_copyFrom_X5 3 (by decide) fl_X5_copyFrom_22 rfl (by omega) hG_20.ob rfl dX5_copyFrom_24 ?_
  refine x_iload_n C (pc := 27) 2 dX5_copyFrom_27 rfl ?_
  refine x_aload_n C (pc := 28) 1 dX5_copyFrom_28 rfl ?_
  refine x_get C (pc := 29) (q := k2) (v := .ref (z + (k2 + 12))) (ci := 5) rfl hn_X5_copyFrom_X5 3 (by decide) fl_X5_copyFrom_22 rfl (by omega) hQ_20.ob rfl dX5_copyFrom_29 ?_
  refine x_iload_n C (pc := 32) 2 dX5_copyFrom_32 rfl ?_
  refine x_ialdE C (pc := 33) (q := k2 + 12) (j := j) (f := bs2) (by omega) hQ_20.bs rfl (by omega) (by decide) dX5_copyFrom_33 ?_
  refine xw_isRec_bs C (pc := 34) (j := j) hG_20 (by omega) rfl (by omega) dX5_copyFrom_34 (fun F_34 hG_34 fr_34 => ?_)
  have hQ_34 := hQ_20.same (F2 := F_34) (fun q _ _ => fr_34 q (by omega))
  refine x_aload_n C (pc := 35) 0 dX5_copyFrom_35 rfl ?_
  refine x_get C (pc := 36) (q := k) (v := .ref (z + (k + 13))) (ci := 5) rfl hn_X5_copyFrom_X5 4 (by decide) fl_X5_copyFrom_26 rfl (by omega) hG_34.ob rfl dX5_copyFrom_36 ?_
  refine x_iload_n C (pc := 39) 2 dX5_copyFrom_39 rfl ?_
  refine x_aload_n C (pc := 40) 1 dX5_copyFrom_40 rfl ?_
  refine x_get C (pc := 41) (q := k2) (v := .ref (z + (k2 + 13))) (ci := 5) rfl hn_X5_copyFrom_X5 4 (by decide) fl_X5_copyFrom_26 rfl (by omega) hQ_34.ob rfl dX5_copyFrom_41 ?_
  refine x_iload_n C (pc := 44) 2 dX5_copyFrom_44 rfl ?_
  refine x_ialdE C (pc := 45) (q := k2 + 13) (j := j) (f := od2) (by omega) hQ_34.od rfl (by omega) (by decide) dX5_copyFrom_45 ?_
  refine xw_isRec_od C (pc := 46) (j := j) hG_34 (by omega) rfl (by omega) dX5_copyFrom_46 (fun F_46 hG_46 fr_46 => ?_)
  have hQ_46 := hQ_34.same (F2 := F_46) (fun q _ _ => fr_46 q (by omega))
  refine x_iinc C (pc := 47) 2 [(2, .int (nI (j + 1))), (0, .ref (z + k)), (1, .ref (z + k2))] dX5_copyFrom_47 rfl (nI_inc j) (by decide) rfl ?_
  refine x_goto C (pc := 50) (tgt := 2) dX5_copyFrom_50 (by decide) ?_
  exact x_sub [1, 2, 0] _ rfl (ih_2 (j + 1) F_46 ⟨(by omega), (by rw [← mix_up, ← mix_upd, ← mix_upd]; exact hG_46), (gFr.t2 (gFr.t2 (gFr.t2 hfr fr_20) fr_34) fr_46)⟩ (by omega))
theorem fl_X5_findWinner_11 : Cond.fieldLink RX5 11 "PileRecount$Recount" "rows" "[LPileRecount$Pile;" ∈ wsX5_findWinner := by decide +kernel
theorem fl_X5_findWinner_18 : Cond.fieldLink RX5 18 "PileRecount$Recount" "winner" "I" ∈ wsX5_findWinner := by decide +kernel
theorem fl_X5_findWinner_39 : Cond.fieldLink RX5 39 "PileRecount$Recount" "piles" "I" ∈ wsX5_findWinner := by decide +kernel
theorem hn_X5_findWinner_X5 : ∀ w ∈ wsX50, w ∈ wsX5_findWinner := fun _ h => List.mem_cons_of_mem _ (List.mem_append_left _ (List.mem_append_right _ h))
set_option maxHeartbeats 4000000 in
set_option maxRecDepth 100000 in
theorem c_X5_findWinner (l : Launch) (D : va_G) (z : Nat) (cI cZ cP cR : ClassId) (N : Nat) (F : Nat → va_E) (k n : Nat) (wi cp cs rl ch sp : Int32) (pd : Nat → Nat → Int32) (bs od : Nat → Int32) (hR : isRec z cI cP F k (nI n) wi cp cs rl ch sp pd bs od) (hk : k + 14 ≤ N) (hn : n ≤ 10) : gMv l yX5_findWinner wsX5_findWinner ({ frames := 1, cells := 0, slots := 0, locals := 21 }) D z cI cZ cP cR N F [.ref (z + k)] (gVoid N (fun F2 => isRec z cI cP F2 k (nI n) (winF pd n) cp cs rl ch sp pd bs od ∧ gFr k (k + 14) F F2)) 0 0 := by
  refine gMv.of (cc := cX5_findWinner) (maxL := 3) (ret := none) (by decide) rfl (Nat.le_of_ble_eq_true rfl) [(0, .ref (z + k))] rfl ?_
  intro pg ev sg mg bel me cg C hR0
  refine x_iconst C (pc := 0) (v := 0) dX5_findWinner_0 (by decide) ?_
  refine x_istore_n C (pc := 1) [(1, .int 0), (0, .ref (z + k))] dX5_findWinner_1 (by decide) rfl ?_
  refine x_iconst C (pc := 2) (v := 0) dX5_findWinner_2 (by decide) ?_
  refine x_istore_n C (pc := 3) [(2, .int 0), (1, .int 0), (0, .ref (z + k))] dX5_findWinner_3 (by decide) rfl ?_
  refine x_sub [2, 1, 0] _ rfl ?_
  refine x_loop2 (A1 := Nat) (A2 := Int32) (pc := 4) (st := []) (fun j acc => n - j) (fun j acc => (j ≤ n) ∧ (acc = gSum (fun i => repF 0 (pd i)) j)) (fun j acc => N) (fun j acc => F) (fun j acc => 0) (fun j acc => 0) (fun j acc => [(0, .ref (z + k)), (1, .int acc), (2, .int (nI j))]) 0 0 ⟨(Nat.zero_le _), rfl⟩ rfl rfl rfl rfl rfl ?_
  rintro j acc ⟨hj, hacc⟩ ih_4
  try dsimp only at ih_4
  refine x_iload_n C (pc := 4) 2 dX5_findWinner_4 rfl ?_
  refine x_aload_n C (pc := 5) 0 dX5_findWinner_5 rfl ?_
  refine x_get C (pc := 6) (q := k) (v := .int (nI n)) (ci := 5) rfl hn_X5_findWinner_X5 1 (by decide) fl_X5_findWinner_39 rfl (by omega) hR.ob rfl dX5_findWinner_6 ?_
  refine x_icmpN_ge C (a := j) (b := n) (pc := 9) (tgt := 31) (by omega) (by omega) dX5_findWinner_9 (by decide) (fun c_9 => ?_) (fun c_9 => ?_)
  · have hjn : j = n := by omega
    subst hjn
    have hwin : winS acc = winF pd j := by rw [hacc]; rfl
    refine x_aload_n C (pc := 31) 0 dX5_findWinner_31 rfl ?_
    refine x_iload_n C (pc := 32) 1 dX5_findWinner_32 rfl ?_
    refine x_if_le C (pc := 33) (tgt := 40) dX5_findWinner_33 (by decide) (fun c_33 => ?_) (fun c_33 => ?_)
    · refine x_iload_n C (pc := 40) 1 dX5_findWinner_40 rfl ?_
      refine x_if_ge C (pc := 41) (tgt := 48) dX5_findWinner_41 (by decide) (fun c_41 => ?_) (fun c_41 => ?_)
      · refine x_bipush C (pc := 48) (v := (-6)) dX5_findWinner_48 (by decide) ?_
        refine xw_X5_2 C (pc := 50) hn_X5_findWinner_X5 fl_X5_findWinner_18 hR (by omega) dX5_findWinner_50 (fun F_50 hR_50 fr_50 => ?_)
        exact x_vret C hR0 (Nat.le_of_ble_eq_true rfl) (Nat.le_of_ble_eq_true rfl) ⟨rfl, ⟨(by rw [← hwin, winS]; rw [if_neg (Int32.not_lt.mpr c_33), if_neg (Int32.not_lt.mpr c_41)]; exact hR_50), fr_50⟩⟩ dX5_findWinner_53
      refine x_iconst C (pc := 44) (v := 1) dX5_findWinner_44 (by decide) ?_
      refine x_goto C (pc := 45) (tgt := 50) dX5_findWinner_45 (by decide) ?_
      refine xw_X5_2 C (pc := 50) hn_X5_findWinner_X5 fl_X5_findWinner_18 hR (by omega) dX5_findWinner_50 (fun F_50 hR_50 fr_50 => ?_)
      exact x_vret C hR0 (Nat.le_of_ble_eq_true rfl) (Nat.le_of_ble_eq_true rfl) ⟨rfl, ⟨(by rw [← hwin, winS]; rw [if_neg (Int32.not_lt.mpr c_33), if_pos (Int32.not_le.mp c_41)]; exact hR_50), fr_50⟩⟩ dX5_findWinner_53
    refine x_iconst C (pc := 36) (v := 0) dX5_findWinner_36 (by decide) ?_
    refine x_goto C (pc := 37) (tgt := 50) dX5_findWinner_37 (by decide) ?_
    refine xw_X5_2 C (pc := 50) hn_X5_findWinner_X5 fl_X5_findWinner_18 hR (by omega) dX5_findWinner_50 (fun F_50 hR_50 fr_50 => ?_)
    exact x_vret C hR0 (Nat.le_of_ble_eq_true rfl) (Nat.le_of_ble_eq_true rfl) ⟨rfl, ⟨(by rw [← hwin, winS]; rw [if_pos (Int32.not_le.mp c_33)]; exact hR_50), fr_50⟩⟩ dX5_findWinner_53
  refine x_iload_n C (pc := 12) 1 dX5_findWinner_12 rfl ?_
  refine x_aload_n C (pc := 13) 0 dX5_findWinner_13 rfl ?_
  refine x_get C (pc := 14) (q := k) (v := .ref (z + (k + 1))) (ci := 5) rfl hn_X5_findWinner_X5 0 (by decide) fl_X5_findWinner_11 rfl (by omega) hR.ob rfl dX5_findWinner_14 ?_
  refine x_iload_n C (pc := 17) 2 dX5_findWinner_17 rfl ?_
  refine xr_row C (pc := 18) (j := j) hR (by omega) rfl (by omega) dX5_findWinner_18 ?_
  refine x_iconst C (pc := 19) (v := 0) dX5_findWinner_19 (by decide) ?_
  refine x_cViR C (pc := 20) (st := [.int acc]) (c_X3_reportedLead l D z cI cZ cP cR N F (k + 2 + j) (pd j) (by omega) (hR.pile (by omega)) 0) (cwV 1 C.2.2.2.2.1 gX5_findWinner_X3_reportedLead rfl rfl rfl hd_X3_reportedLead ⟨Nat.le_of_ble_eq_true rfl, Nat.le_of_ble_eq_true rfl⟩) (by omega) (hR.pile (by omega)) rfl rfl rfl (Nat.le_of_ble_eq_true rfl) dX5_findWinner_20 ⟨Nat.le_of_ble_eq_true rfl, Nat.le_of_ble_eq_true rfl⟩ ?_
  refine x_iadd C (pc := 23) (v := acc + (repF 0 (pd j))) dX5_findWinner_23 rfl ?_
  refine x_istore_n C (pc := 24) [(1, .int (acc + (repF 0 (pd j)))), (0, .ref (z + k)), (2, .int (nI j))] dX5_findWinner_24 (by decide) rfl ?_
  refine x_iinc C (pc := 25) 2 [(2, .int (nI (j + 1))), (1, .int (acc + (repF 0 (pd j)))), (0, .ref (z + k))] dX5_findWinner_25 rfl (nI_inc j) (by decide) rfl ?_
  refine x_goto C (pc := 28) (tgt := 4) dX5_findWinner_28 (by decide) ?_
  exact x_sub [2, 1, 0] _ rfl (ih_4 (j + 1) (acc + (repF 0 (pd j))) ⟨(by omega), (by rw [hacc]; rfl)⟩ (by omega))
theorem fl_X5_rankSwings_11 : Cond.fieldLink RX5 11 "PileRecount$Recount" "rows" "[LPileRecount$Pile;" ∈ wsX5_rankSwings := by decide +kernel
theorem fl_X5_rankSwings_18 : Cond.fieldLink RX5 18 "PileRecount$Recount" "winner" "I" ∈ wsX5_rankSwings := by decide +kernel
theorem fl_X5_rankSwings_22 : Cond.fieldLink RX5 22 "PileRecount$Recount" "bySwing" "[I" ∈ wsX5_rankSwings := by decide +kernel
theorem fl_X5_rankSwings_39 : Cond.fieldLink RX5 39 "PileRecount$Recount" "piles" "I" ∈ wsX5_rankSwings := by decide +kernel
theorem hn_X5_rankSwings_X5 : ∀ w ∈ wsX50, w ∈ wsX5_rankSwings := fun _ h => List.mem_cons_of_mem _ (List.mem_append_left _ (List.mem_append_right _ h))
set_option maxHeartbeats 4000000 in
set_option maxRecDepth 100000 in
theorem c_X5_rankSwings (l : Launch) (D : va_G) (z : Nat) (cI cZ cP cR : ClassId) (N : Nat) (F : Nat → va_E) (k n : Nat) (wi cp cs rl ch sp : Int32) (pd : Nat → Nat → Int32) (bs od : Nat → Int32) (hR : isRec z cI cP F k (nI n) wi cp cs rl ch sp pd bs od) (hk : k + 14 ≤ N) (hn : n ≤ 10) : gMv l yX5_rankSwings wsX5_rankSwings ({ frames := 2, cells := 0, slots := 0, locals := 42 }) D z cI cZ cP cR N F [.ref (z + k)] (gVoid N (fun F2 => ∃ b : Nat → Int32, isRec z cI cP F2 k (nI n) wi cp cs rl ch sp pd b od ∧ rkOK (fun i => swF wi (pd i)) n b ∧ gFr k (k + 14) F F2)) 0 0 := by
  refine gMv.of (cc := cX5_rankSwings) (maxL := 4) (ret := none) (by decide) rfl (Nat.le_of_ble_eq_true rfl) [(0, .ref (z + k))] rfl ?_
  intro pg ev sg mg bel me cg C hR0
  refine x_iconst C (pc := 0) (v := 0) dX5_rankSwings_0 (by decide) ?_
  refine x_istore_n C (pc := 1) [(1, .int 0), (0, .ref (z + k))] dX5_rankSwings_1 (by decide) rfl ?_
  refine x_sub [1, 0] _ rfl ?_
  refine x_loop3 (A1 := Nat) (A2 := Nat → va_E) (A3 := Nat → Int32) (pc := 2) (st := []) (fun i G b => n - i) (fun i G b => (i ≤ n) ∧ (isRec z cI cP G k (nI n) wi cp cs rl ch sp pd b od) ∧ (gFr k (k + 14) F G) ∧ (rkOK (fun i => swF wi (pd i)) i b)) (fun i G b => N) (fun i G b => G) (fun i G b => 0) (fun i G b => 0) (fun i G b => [(0, .ref (z + k)), (1, .int (nI i))]) 0 F bs ⟨(Nat.zero_le _), hR, gFr.rf, (rkOK_0 _ _)⟩ rfl rfl rfl rfl rfl ?_
  rintro i G b ⟨hi, hG, hfr, hrk⟩ ih_2
  try dsimp only at ih_2
  refine x_iload_n C (pc := 2) 1 dX5_rankSwings_2 rfl ?_
  refine x_aload_n C (pc := 3) 0 dX5_rankSwings_3 rfl ?_
  refine x_get C (pc := 4) (q := k) (v := .int (nI n)) (ci := 5) rfl hn_X5_rankSwings_X5 1 (by decide) fl_X5_rankSwings_39 rfl (by omega) hG.ob rfl dX5_rankSwings_4 ?_
  refine x_icmpN_ge C (a := i) (b := n) (pc := 7) (tgt := 87) (by omega) (by omega) dX5_rankSwings_7 (by decide) (fun c_7 => ?_) (fun c_7 => ?_)
  · exact x_vret C hR0 (Nat.le_of_ble_eq_true rfl) (Nat.le_of_ble_eq_true rfl) ⟨rfl, ⟨b, hG, (by rw [show n = i by omega]; exact hrk), hfr⟩⟩ dX5_rankSwings_87
  obtain ⟨pi, hpo, hpp⟩ := id hrk
  refine x_iload_n C (pc := 10) 1 dX5_rankSwings_10 rfl ?_
  refine x_istore_n C (pc := 11) [(2, .int (nI i)), (0, .ref (z + k)), (1, .int (nI i))] dX5_rankSwings_11 (by decide) rfl ?_
  refine x_aload_n C (pc := 12) 1 dX5_rankSwings_12 rfl ?_
  refine x_get C (pc := 13) (q := k) (v := .ref (z + (k + 1))) (ci := 5) rfl hn_X5_rankSwings_X5 0 (by decide) fl_X5_rankSwings_11 rfl (by omega) hG.ob rfl dX5_rankSwings_13 ?_
  refine x_iload_n C (pc := 16) 2 dX5_rankSwings_16 rfl ?_
  refine xr_row C (pc := 17) (j := i) hG (by omega) rfl (by omega) dX5_rankSwings_17 ?_
  refine x_aload_n C (pc := 18) 1 dX5_rankSwings_18 rfl ?_
  refine x_get C (pc := 19) (q := k) (v := .int wi) (ci := 5) rfl hn_X5_rankSwings_X5 2 (by decide) fl_X5_rankSwings_18 rfl (by omega) hG.ob rfl dX5_rankSwings_19 ?_
  refine x_cViR C (pc := 22) (st := []) (c_X3_swing l D z cI cZ cP cR N G (k + 2 + i) (pd i) (by omega) (hG.pile (by omega)) wi) (cwV 1 C.2.2.2.2.1 gX5_rankSwings_X3_swing rfl rfl rfl hd_X3_swing ⟨Nat.le_of_ble_eq_true rfl, Nat.le_of_ble_eq_true rfl⟩) (by omega) (hG.pile (by omega)) rfl rfl rfl (Nat.le_of_ble_eq_true rfl) dX5_rankSwings_22 ⟨Nat.le_of_ble_eq_true rfl, Nat.le_of_ble_eq_true rfl⟩ ?_
  refine x_istore_n C (pc := 25) [(3, .int (swF wi (pd i))), (2, .int (nI i)), (0, .ref (z + k)), (1, .int (nI i))] dX5_rankSwings_25 (by decide) rfl ?_
  refine x_sub [2, 3, 1, 0] _ rfl ?_
  refine x_loop3 (A1 := Nat) (A2 := Nat → va_E) (A3 := Nat → Int32) (pc := 26) (st := []) (fun r G2 b2 => r) (fun r G2 b2 => (r ≤ i) ∧ (isRec z cI cP G2 k (nI n) wi cp cs rl ch sp pd b2 od) ∧ (gFr k (k + 14) F G2) ∧ (∀ q, q < r → b2 q = nI (pi q)) ∧ (∀ q, r < q → q ≤ i → b2 q = nI (pi (q - 1))) ∧ (∀ q, r ≤ q → q < i → (fun i => swF wi (pd i)) (pi q) < (fun i => swF wi (pd i)) i)) (fun r G2 b2 => N) (fun r G2 b2 => G2) (fun r G2 b2 => 0) (fun r G2 b2 => 0) (fun r G2 b2 => [(0, .ref (z + k)), (1, .int (nI i)), (2, .int (nI r)), (3, .int (swF wi (pd i)))]) i G b ⟨(Nat.le_refl _), hG, hfr, (fun q hq => (hpo q hq).1), (fun q h h' => by omega), (fun q h h' => by omega)⟩ rfl rfl rfl rfl rfl ?_
  rintro r G2 b2 ⟨hr, hG2, hfr2, h1, h2, h3⟩ ih_26
  try dsimp only at ih_26
  refine x_iload_n C (pc := 26) 2 dX5_rankSwings_26 rfl ?_
  refine x_ifN_le C (a := r) (pc := 27) (tgt := 74) (by omega) dX5_rankSwings_27 (by decide) (fun c_27 => ?_) (fun c_27 => ?_)
  · have hnew : rkOK (fun i => swF wi (pd i)) (i + 1) (upd b2 r (nI i)) := rk_ins hr hpp h1 h2 h3 (Or.inl (by omega))
    refine x_aload_n C (pc := 74) 0 dX5_rankSwings_74 rfl ?_
    refine x_get C (pc := 75) (q := k) (v := .ref (z + (k + 12))) (ci := 5) rfl hn_X5_rankSwings_X5 3 (by decide) fl_X5_rankSwings_22 rfl (by omega) hG2.ob rfl dX5_rankSwings_75 ?_
    refine x_iload_n C (pc := 78) 2 dX5_rankSwings_78 rfl ?_
    refine x_iload_n C (pc := 79) 1 dX5_rankSwings_79 rfl ?_
    refine xw_isRec_bs C (pc := 80) (j := r) hG2 (by omega) rfl (by omega) dX5_rankSwings_80 (fun F_80 hG2_80 fr_80 => ?_)
    refine x_iinc C (pc := 81) 1 [(1, .int (nI (i + 1))), (0, .ref (z + k)), (2, .int (nI r)), (3, .int (swF wi (pd i)))] dX5_rankSwings_81 rfl (nI_inc i) (by decide) rfl ?_
    refine x_goto C (pc := 84) (tgt := 2) dX5_rankSwings_84 (by decide) ?_
    exact x_sub [1, 0] _ rfl (ih_2 (i + 1) F_80 (upd b2 r (nI i)) ⟨(by omega), hG2_80, (gFr.t2 hfr2 fr_80), hnew⟩ (by omega))
  have hb : b2 (r - 1) = nI (pi (r - 1)) := h1 (r - 1) (by omega)
  have hpl : pi (r - 1) < i := hpp.1 (r - 1) (by omega)
  refine x_aload_n C (pc := 30) 0 dX5_rankSwings_30 rfl ?_
  refine x_get C (pc := 31) (q := k) (v := .ref (z + (k + 1))) (ci := 5) rfl hn_X5_rankSwings_X5 0 (by decide) fl_X5_rankSwings_11 rfl (by omega) hG2.ob rfl dX5_rankSwings_31 ?_
  refine x_aload_n C (pc := 34) 0 dX5_rankSwings_34 rfl ?_
  refine x_get C (pc := 35) (q := k) (v := .ref (z + (k + 12))) (ci := 5) rfl hn_X5_rankSwings_X5 3 (by decide) fl_X5_rankSwings_22 rfl (by omega) hG2.ob rfl dX5_rankSwings_35 ?_
  refine x_iload_n C (pc := 38) 2 dX5_rankSwings_38 rfl ?_
  refine x_iconst C (pc := 39) (v := 1) dX5_rankSwings_39 (by decide) ?_
  refine x_isub C (pc := 40) (v := nI (r - 1)) dX5_rankSwings_40 (pk_sub (a := r) (b := 1) (by omega)) ?_
  refine x_ialdE C (pc := 41) (q := k + 12) (j := r - 1) (f := b2) (by omega) hG2.bs rfl (by omega) (by decide) dX5_rankSwings_41 ?_
  refine x_eqi hb ?_
  refine xr_row C (pc := 42) (j := pi (r - 1)) hG2 (by omega) rfl (by omega) dX5_rankSwings_42 ?_
  refine x_aload_n C (pc := 43) 0 dX5_rankSwings_43 rfl ?_
  refine x_get C (pc := 44) (q := k) (v := .int wi) (ci := 5) rfl hn_X5_rankSwings_X5 2 (by decide) fl_X5_rankSwings_18 rfl (by omega) hG2.ob rfl dX5_rankSwings_44 ?_
  refine x_cViR C (pc := 47) (st := []) (c_X3_swing l D z cI cZ cP cR N G2 (k + 2 + (pi (r - 1))) (pd (pi (r - 1))) (by omega) (hG2.pile (by omega)) wi) (cwV 1 C.2.2.2.2.1 gX5_rankSwings_X3_swing rfl rfl rfl hd_X3_swing ⟨Nat.le_of_ble_eq_true rfl, Nat.le_of_ble_eq_true rfl⟩) (by omega) (hG2.pile (by omega)) rfl rfl rfl (Nat.le_of_ble_eq_true rfl) dX5_rankSwings_47 ⟨Nat.le_of_ble_eq_true rfl, Nat.le_of_ble_eq_true rfl⟩ ?_
  refine x_iload_n C (pc := 50) 3 dX5_rankSwings_50 rfl ?_
  refine x_icmp_ge C (pc := 51) (tgt := 74) dX5_rankSwings_51 (by decide) (fun c_51 => ?_) (fun c_51 => ?_)
  · have hnew : rkOK (fun i => swF wi (pd i)) (i + 1) (upd b2 r (nI i)) := rk_ins hr hpp h1 h2 h3 (Or.inr c_51)
    refine x_aload_n C (pc := 74) 0 dX5_rankSwings_74 rfl ?_
    refine x_get C (pc := 75) (q := k) (v := .ref (z + (k + 12))) (ci := 5) rfl hn_X5_rankSwings_X5 3 (by decide) fl_X5_rankSwings_22 rfl (by omega) hG2.ob rfl dX5_rankSwings_75 ?_
    refine x_iload_n C (pc := 78) 2 dX5_rankSwings_78 rfl ?_
    refine x_iload_n C (pc := 79) 1 dX5_rankSwings_79 rfl ?_
    refine xw_isRec_bs C (pc := 80) (j := r) hG2 (by omega) rfl (by omega) dX5_rankSwings_80 (fun F_80 hG2_80 fr_80 => ?_)
    refine x_iinc C (pc := 81) 1 [(1, .int (nI (i + 1))), (0, .ref (z + k)), (2, .int (nI r)), (3, .int (swF wi (pd i)))] dX5_rankSwings_81 rfl (nI_inc i) (by decide) rfl ?_
    refine x_goto C (pc := 84) (tgt := 2) dX5_rankSwings_84 (by decide) ?_
    exact x_sub [1, 0] _ rfl (ih_2 (i + 1) F_80 (upd b2 r (nI i)) ⟨(by omega), hG2_80, (gFr.t2 hfr2 fr_80), hnew⟩ (by omega))
  refine x_aload_n C (pc := 54) 0 dX5_rankSwings_54 rfl ?_
  refine x_get C (pc := 55) (q := k) (v := .ref (z + (k + 12))) (ci := 5) rfl hn_X5_rankSwings_X5 3 (by decide) fl_X5_rankSwings_22 rfl (by omega) hG2.ob rfl dX5_rankSwings_55 ?_
  refine x_iload_n C (pc := 58) 2 dX5_rankSwings_58 rfl ?_
  refine x_aload_n C (pc := 59) 0 dX5_rankSwings_59 rfl ?_
  refine x_get C (pc := 60) (q := k) (v := .ref (z + (k + 12))) (ci := 5) rfl hn_X5_rankSwings_X5 3 (by decide) fl_X5_rankSwings_22 rfl (by omega) hG2.ob rfl dX5_rankSwings_60 ?_
  refine x_iload_n C (pc := 63) 2 dX5_rankSwings_63 rfl ?_
  refine x_iconst C (pc := 64) (v := 1) dX5_rankSwings_64 (by decide) ?_
  refine x_isub C (pc := 65) (v := nI (r - 1)) dX5_rankSwings_65 (pk_sub (a := r) (b := 1) (by omega)) ?_
  refine x_ialdE C (pc := 66) (q := k + 12) (j := r - 1) (f := b2) (by omega) hG2.bs rfl (by omega) (by decide) dX5_rankSwings_66 ?_
  refine x_eqi hb ?_
  refine xw_isRec_bs C (pc := 67) (j := r) hG2 (by omega) rfl (by omega) dX5_rankSwings_67 (fun F_67 hG2_67 fr_67 => ?_)
  refine x_iinc C (pc := 68) 2 [(2, .int (nI (r - 1))), (0, .ref (z + k)), (1, .int (nI i)), (3, .int (swF wi (pd i)))] dX5_rankSwings_68 rfl (nI_dec r (by omega)) (by decide) rfl ?_
  refine x_goto C (pc := 71) (tgt := 26) dX5_rankSwings_71 (by decide) ?_
  exact x_sub [1, 2, 0, 3] _ rfl (ih_26 (r - 1) F_67 (upd b2 r (nI (pi (r - 1)))) ⟨(by omega), hG2_67, (gFr.t2 hfr2 fr_67), (fun q hq => by rw [pk_un (by omega)]; exact h1 q (by omega)), (fun q hq hq2 => by
          by_cases e : q = r
          · rw [e, pk_us]
          · rw [pk_un e]; exact h2 q (by omega) hq2), (fun q hq hq2 => by
          by_cases e : q = r - 1
          · rw [e]; exact Int32.not_le.mp c_51
          · exact h3 q (by omega) hq2)⟩ (by omega))
theorem fl_X5_addPile_11 : Cond.fieldLink RX5 11 "PileRecount$Recount" "rows" "[LPileRecount$Pile;" ∈ wsX5_addPile := by decide +kernel
theorem fl_X5_addPile_39 : Cond.fieldLink RX5 39 "PileRecount$Recount" "piles" "I" ∈ wsX5_addPile := by decide +kernel
theorem fl_X5_addPile_60 : Cond.fieldLink RX5 60 "PileRecount$Pile" "zero" "I" ∈ wsX5_addPile := by decide +kernel
theorem fl_X5_addPile_63 : Cond.fieldLink RX5 63 "PileRecount$Pile" "one" "I" ∈ wsX5_addPile := by decide +kernel
theorem fl_X5_addPile_66 : Cond.fieldLink RX5 66 "PileRecount$Pile" "blanks" "I" ∈ wsX5_addPile := by decide +kernel
theorem fl_X5_addPile_69 : Cond.fieldLink RX5 69 "PileRecount$Pile" "foundZero" "I" ∈ wsX5_addPile := by decide +kernel
theorem fl_X5_addPile_72 : Cond.fieldLink RX5 72 "PileRecount$Pile" "foundOne" "I" ∈ wsX5_addPile := by decide +kernel
theorem hn_X5_addPile_X3 : ∀ w ∈ wsX30, w ∈ wsX5_addPile := fun _ h => List.mem_cons_of_mem _ (List.mem_append_right _ h)
theorem hn_X5_addPile_X5 : ∀ w ∈ wsX50, w ∈ wsX5_addPile := fun _ h => List.mem_cons_of_mem _ (List.mem_append_left _ (List.mem_append_right _ h))
set_option maxHeartbeats 4000000 in
set_option maxRecDepth 100000 in
theorem c_X5_addPile (l : Launch) (D : va_G) (z : Nat) (cI cZ cP cR : ClassId) (N : Nat) (F : Nat → va_E) (k n : Nat) (wi cp cs rl ch sp : Int32) (pd : Nat → Nat → Int32) (bs od : Nat → Int32) (a b x : Int32) (hR : isRec z cI cP F k (nI n) wi cp cs rl ch sp pd bs od) (hk : k + 14 ≤ N) (hn : n < 10) : gMi l yX5_addPile wsX5_addPile ({ frames := 3, cells := 0, slots := 0, locals := 65 }) D z cI cZ cP cR N F [.ref (z + k), .int a, .int b, .int x] (gRes (nI n) N (fun F2 => ∃ bn : Nat → Int32, isRec z cI cP F2 k (nI (n + 1)) (winF (va_up pd n (pileD a b x)) (n + 1)) cp cs rl ch sp (va_up pd n (pileD a b x)) bn od ∧ rkOK (fun i => swF (winF (va_up pd n (pileD a b x)) (n + 1)) ((va_up pd n (pileD a b x)) i)) (n + 1) bn ∧ gFr k (k + 14) F F2)) 0 0 := by
  refine gMi.of (cc := cX5_addPile) (maxL := 5) (ret := (some .int)) (by decide) rfl (Nat.le_of_ble_eq_true rfl) [(0, .ref (z + k)), (1, .int a), (2, .int b), (3, .int x)] rfl ?_
  intro pg ev sg mg bel me cg C hR0
  refine x_aload_n C (pc := 0) 0 dX5_addPile_0 rfl ?_
  refine x_get C (pc := 1) (q := k) (v := .ref (z + (k + 1))) (ci := 5) rfl hn_X5_addPile_X5 0 (by decide) fl_X5_addPile_11 rfl (by omega) hR.ob rfl dX5_addPile_1 ?_
  refine x_aload_n C (pc := 4) 0 dX5_addPile_4 rfl ?_
  refine x_get C (pc := 5) (q := k) (v := .int (nI n)) (ci := 5) rfl hn_X5_addPile_X5 1 (by decide) fl_X5_addPile_39 rfl (by omega) hR.ob rfl dX5_addPile_5 ?_
  refine xr_row C (pc := 8) (j := n) hR (by omega) rfl (by omega) dX5_addPile_8 ?_
  refine x_astore C (pc := 9) [(4, .ref (z + (k + 2 + n))), (0, .ref (z + k)), (1, .int a), (2, .int b), (3, .int x)] dX5_addPile_9 (by decide) rfl ?_
  refine x_aload C (pc := 11) 0 dX5_addPile_11 rfl ?_
  refine x_iload_n C (pc := 13) 2 dX5_addPile_13 rfl ?_
  refine xw_X3_0 C (pc := 14) (i := n) hn_X5_addPile_X3 fl_X5_addPile_60 hR (by omega) (by omega) dX5_addPile_14 (fun F_14 hR_14 fr_14 => ?_)
  refine x_aload C (pc := 17) 0 dX5_addPile_17 rfl ?_
  refine x_iload_n C (pc := 19) 3 dX5_addPile_19 rfl ?_
  refine xw_X3_1 C (pc := 20) (i := n) hn_X5_addPile_X3 fl_X5_addPile_63 hR_14 (by omega) (by omega) dX5_addPile_20 (fun F_20 hR_20 fr_20 => ?_)
  refine x_aload C (pc := 23) 0 dX5_addPile_23 rfl ?_
  refine x_iload_n C (pc := 25) 4 dX5_addPile_25 rfl ?_
  refine xw_X3_2 C (pc := 26) (i := n) hn_X5_addPile_X3 fl_X5_addPile_66 hR_20 (by omega) (by omega) dX5_addPile_26 (fun F_26 hR_26 fr_26 => ?_)
  refine x_aload C (pc := 29) 0 dX5_addPile_29 rfl ?_
  refine x_iload_n C (pc := 31) 2 dX5_addPile_31 rfl ?_
  refine xw_X3_3 C (pc := 32) (i := n) hn_X5_addPile_X3 fl_X5_addPile_69 hR_26 (by omega) (by omega) dX5_addPile_32 (fun F_32 hR_32 fr_32 => ?_)
  refine x_aload C (pc := 35) 0 dX5_addPile_35 rfl ?_
  refine x_iload_n C (pc := 37) 3 dX5_addPile_37 rfl ?_
  refine xw_X3_4 C (pc := 38) (i := n) hn_X5_addPile_X3 fl_X5_addPile_72 hR_32 (by omega) (by omega) dX5_addPile_38 (fun F_38 hR_38 fr_38 => ?_)
  have hE_41 := hR_38.ext_pd (pd5 (g := pileD a b x) rfl rfl rfl rfl rfl)
  refine x_aload_n C (pc := 41) 1 dX5_addPile_41 rfl ?_
  refine x_dup C (pc := 42) dX5_addPile_42 rfl ?_
  refine x_get C (pc := 43) (q := k) (v := .int (nI n)) (ci := 5) rfl hn_X5_addPile_X5 1 (by decide) fl_X5_addPile_39 rfl (by omega) hE_41.ob rfl dX5_addPile_43 ?_
  refine x_iconst C (pc := 46) (v := 1) dX5_addPile_46 (by decide) ?_
  refine x_iadd C (pc := 47) (v := nI (n + 1)) dX5_addPile_47 (nI_add n 1) ?_
  refine xw_X5_1 C (pc := 48) hn_X5_addPile_X5 fl_X5_addPile_39 hE_41 (by omega) dX5_addPile_48 (fun F_48 hE_48 fr_48 => ?_)
  refine x_aload_n C (pc := 51) 1 dX5_addPile_51 rfl ?_
  refine x_cVvE C (pc := 52) (st := []) (c_X5_findWinner l D z cI cZ cP cR N F_48 k (n + 1) wi cp cs rl ch sp (va_up pd n (pileD a b x)) bs od hE_48 (by omega) (by omega)) (cwV 0 C.2.2.2.2.1 gX5_addPile_X5_findWinner rfl rfl rfl hd_X5_findWinner ⟨Nat.le_of_ble_eq_true rfl, Nat.le_of_ble_eq_true rfl⟩) (by omega) hE_48.ob rfl rfl rfl (Nat.le_of_ble_eq_true rfl) dX5_addPile_52 ⟨Nat.le_of_ble_eq_true rfl, Nat.le_of_ble_eq_true rfl⟩ (fun F_52 h_52 => ?_)
  obtain ⟨hE_52, fr_52⟩ := h_52
  refine x_aload_n C (pc := 55) 1 dX5_addPile_55 rfl ?_
  refine x_cVvE C (pc := 56) (st := []) (c_X5_rankSwings l D z cI cZ cP cR N F_52 k (n + 1) (winF (va_up pd n (pileD a b x)) (n + 1)) cp cs rl ch sp (va_up pd n (pileD a b x)) bs od hE_52 (by omega) (by omega)) (cwV 0 C.2.2.2.2.1 gX5_addPile_X5_rankSwings rfl rfl rfl hd_X5_rankSwings ⟨Nat.le_of_ble_eq_true rfl, Nat.le_of_ble_eq_true rfl⟩) (by omega) hE_52.ob rfl rfl rfl (Nat.le_of_ble_eq_true rfl) dX5_addPile_56 ⟨Nat.le_of_ble_eq_true rfl, Nat.le_of_ble_eq_true rfl⟩ (fun F_56 h_56 => ?_)
  obtain ⟨bsn, hE_56, hrkn, fr_56⟩ := h_56
  refine x_aload_n C (pc := 59) 1 dX5_addPile_59 rfl ?_
  refine x_get C (pc := 60) (q := k) (v := .int (nI (n + 1))) (ci := 5) rfl hn_X5_addPile_X5 1 (by decide) fl_X5_addPile_39 rfl (by omega) hE_56.ob rfl dX5_addPile_60 ?_
  refine x_iconst C (pc := 63) (v := 1) dX5_addPile_63 (by decide) ?_
  refine x_isub C (pc := 64) (v := nI n) dX5_addPile_64 (pk_sub (a := n + 1) (b := 1) (by omega)) ?_
  exact x_iret C hR0 rfl (Nat.le_of_ble_eq_true rfl) (Nat.le_of_ble_eq_true rfl) ⟨rfl, rfl, ⟨bsn, hE_56, hrkn, (gFr.t2 (gFr.t2 (gFr.t2 (gFr.t2 (gFr.t2 (gFr.t2 (gFr.t2 fr_14 fr_20) fr_26) fr_32) fr_38) fr_48) fr_52) fr_56)⟩⟩ dX5_addPile_65
theorem fl_X5_setFound_11 : Cond.fieldLink RX5 11 "PileRecount$Recount" "rows" "[LPileRecount$Pile;" ∈ wsX5_setFound := by decide +kernel
theorem fl_X5_setFound_69 : Cond.fieldLink RX5 69 "PileRecount$Pile" "foundZero" "I" ∈ wsX5_setFound := by decide +kernel
theorem fl_X5_setFound_72 : Cond.fieldLink RX5 72 "PileRecount$Pile" "foundOne" "I" ∈ wsX5_setFound := by decide +kernel
theorem hn_X5_setFound_X3 : ∀ w ∈ wsX30, w ∈ wsX5_setFound := fun _ h => List.mem_cons_of_mem _ (List.mem_append_right _ h)
theorem hn_X5_setFound_X5 : ∀ w ∈ wsX50, w ∈ wsX5_setFound := fun _ h => List.mem_cons_of_mem _ (List.mem_append_left _ (List.mem_append_right _ h))
set_option maxHeartbeats 4000000 in
set_option maxRecDepth 100000 in
theorem c_X5_setFound (l : Launch) (D : va_G) (z : Nat) (cI cZ cP cR : ClassId) (N : Nat) (F : Nat → va_E) (k : Nat) (pl wi cp cs rl ch sp : Int32) (pd : Nat → Nat → Int32) (bs od : Nat → Int32) (i : Nat) (a b : Int32) (hR : isRec z cI cP F k pl wi cp cs rl ch sp pd bs od) (hk : k + 14 ≤ N) (hi : i < 10) : gMi l yX5_setFound wsX5_setFound ({ frames := 1, cells := 0, slots := 0, locals := 21 }) D z cI cZ cP cR N F [.ref (z + k), .int (nI i), .int a, .int b] (gRes ((a - b) - (pd i 0 - pd i 1)) N (fun F2 => isRec z cI cP F2 k pl wi cp cs rl ch sp (pdSet (pdSet pd i 3 a) i 4 b) bs od ∧ gFr k (k + 14) F F2)) 0 0 := by
  refine gMi.of (cc := cX5_setFound) (maxL := 5) (ret := (some .int)) (by decide) rfl (Nat.le_of_ble_eq_true rfl) [(0, .ref (z + k)), (1, .int (nI i)), (2, .int a), (3, .int b)] rfl ?_
  intro pg ev sg mg bel me cg C hR0
  refine x_aload_n C (pc := 0) 0 dX5_setFound_0 rfl ?_
  refine x_get C (pc := 1) (q := k) (v := .ref (z + (k + 1))) (ci := 5) rfl hn_X5_setFound_X5 0 (by decide) fl_X5_setFound_11 rfl (by omega) hR.ob rfl dX5_setFound_1 ?_
  refine x_iload_n C (pc := 4) 1 dX5_setFound_4 rfl ?_
  refine xr_row C (pc := 5) (j := i) hR (by omega) rfl (by omega) dX5_setFound_5 ?_
  refine x_astore C (pc := 6) [(4, .ref (z + (k + 2 + i))), (0, .ref (z + k)), (1, .int (nI i)), (2, .int a), (3, .int b)] dX5_setFound_6 (by decide) rfl ?_
  refine x_aload C (pc := 8) 0 dX5_setFound_8 rfl ?_
  refine x_iload_n C (pc := 10) 3 dX5_setFound_10 rfl ?_
  refine xw_X3_3 C (pc := 11) (i := i) hn_X5_setFound_X3 fl_X5_setFound_69 hR (by omega) (by omega) dX5_setFound_11 (fun F_11 hR_11 fr_11 => ?_)
  refine x_aload C (pc := 14) 0 dX5_setFound_14 rfl ?_
  refine x_iload_n C (pc := 16) 4 dX5_setFound_16 rfl ?_
  refine xw_X3_4 C (pc := 17) (i := i) hn_X5_setFound_X3 fl_X5_setFound_72 hR_11 (by omega) (by omega) dX5_setFound_17 (fun F_17 hR_17 fr_17 => ?_)
  refine x_aload C (pc := 20) 0 dX5_setFound_20 rfl ?_
  refine x_iconst C (pc := 22) (v := 0) dX5_setFound_22 (by decide) ?_
  refine x_cViR C (pc := 23) (st := []) (c_X3_foundLead l D z cI cZ cP cR N F_17 (k + 2 + i) ((pdSet (pdSet pd i 3 a) i 4 b) i) (by omega) (hR_17.pile (by omega)) 0) (cwV 1 C.2.2.2.2.1 gX5_setFound_X3_foundLead rfl rfl rfl hd_X3_foundLead ⟨Nat.le_of_ble_eq_true rfl, Nat.le_of_ble_eq_true rfl⟩) (by omega) (hR_17.pile (by omega)) rfl rfl rfl (Nat.le_of_ble_eq_true rfl) dX5_setFound_23 ⟨Nat.le_of_ble_eq_true rfl, Nat.le_of_ble_eq_true rfl⟩ ?_
  refine x_aload C (pc := 26) 0 dX5_setFound_26 rfl ?_
  refine x_iconst C (pc := 28) (v := 0) dX5_setFound_28 (by decide) ?_
  refine x_cViR C (pc := 29) (st := [.int (fouF 0 ((pdSet (pdSet pd i 3 a) i 4 b) i))]) (c_X3_reportedLead l D z cI cZ cP cR N F_17 (k + 2 + i) ((pdSet (pdSet pd i 3 a) i 4 b) i) (by omega) (hR_17.pile (by omega)) 0) (cwV 1 C.2.2.2.2.1 gX5_setFound_X3_reportedLead rfl rfl rfl hd_X3_reportedLead ⟨Nat.le_of_ble_eq_true rfl, Nat.le_of_ble_eq_true rfl⟩) (by omega) (hR_17.pile (by omega)) rfl rfl rfl (Nat.le_of_ble_eq_true rfl) dX5_setFound_29 ⟨Nat.le_of_ble_eq_true rfl, Nat.le_of_ble_eq_true rfl⟩ ?_
  refine x_isub C (pc := 32) (v := (fouF 0 ((pdSet (pdSet pd i 3 a) i 4 b) i)) - (repF 0 ((pdSet (pdSet pd i 3 a) i 4 b) i))) dX5_setFound_32 rfl ?_
  exact x_iret C hR0 rfl (Nat.le_of_ble_eq_true rfl) (Nat.le_of_ble_eq_true rfl) ⟨(by simp [fouF, repF, pdSet_eq, upd]), rfl, ⟨hR_17, (gFr.t2 fr_11 fr_17)⟩⟩ dX5_setFound_33
theorem fl_X5_countPile_26 : Cond.fieldLink RX5 26 "PileRecount$Recount" "order" "[I" ∈ wsX5_countPile := by decide +kernel
theorem fl_X5_countPile_42 : Cond.fieldLink RX5 42 "PileRecount$Recount" "countedPiles" "I" ∈ wsX5_countPile := by decide +kernel
theorem fl_X5_countPile_45 : Cond.fieldLink RX5 45 "PileRecount$Recount" "countedSet" "I" ∈ wsX5_countPile := by decide +kernel
theorem hn_X5_countPile_X5 : ∀ w ∈ wsX50, w ∈ wsX5_countPile := fun _ h => List.mem_cons_of_mem _ (List.mem_append_right _ h)
set_option maxHeartbeats 4000000 in
set_option maxRecDepth 100000 in
theorem c_X5_countPile (l : Launch) (D : va_G) (z : Nat) (cI cZ cP cR : ClassId) (N : Nat) (F : Nat → va_E) (k cw kk : Nat) (pl wi rl ch sp : Int32) (pd : Nat → Nat → Int32) (bs od : Nat → Int32) (i : Nat) (hR : isRec z cI cP F k pl wi (nI kk) (nI cw) rl ch sp pd bs od) (hk : k + 14 ≤ N) (hi : i < 10) (hcw : cw < 1024) (hkk : kk < 10) : gMv l yX5_countPile wsX5_countPile ({ frames := 0, cells := 0, slots := 0, locals := 0 }) D z cI cZ cP cR N F [.ref (z + k), .int (nI i)] (gVoid N (fun F2 => isRec z cI cP F2 k pl wi (nI (kk + 1)) (nI (cw ||| 2 ^ i)) rl ch sp pd bs (upd od kk (nI i)) ∧ gFr k (k + 14) F F2)) 0 0 := by
  refine gMv.of (cc := cX5_countPile) (maxL := 2) (ret := none) (by decide) rfl (Nat.le_of_ble_eq_true rfl) [(0, .ref (z + k)), (1, .int (nI i))] rfl ?_
  intro pg ev sg mg bel me cg C hR0
  refine x_aload_n C (pc := 0) 0 dX5_countPile_0 rfl ?_
  refine x_get C (pc := 1) (q := k) (v := .ref (z + (k + 13))) (ci := 5) rfl hn_X5_countPile_X5 4 (by decide) fl_X5_countPile_26 rfl (by omega) hR.ob rfl dX5_countPile_1 ?_
  refine x_aload_n C (pc := 4) 0 dX5_countPile_4 rfl ?_
  refine x_get C (pc := 5) (q := k) (v := .int (nI kk)) (ci := 5) rfl hn_X5_countPile_X5 5 (by decide) fl_X5_countPile_42 rfl (by omega) hR.ob rfl dX5_countPile_5 ?_
  refine x_iload_n C (pc := 8) 1 dX5_countPile_8 rfl ?_
  refine xw_isRec_od C (pc := 9) (j := kk) hR (by omega) rfl (by omega) dX5_countPile_9 (fun F_9 hR_9 fr_9 => ?_)
  refine x_aload_n C (pc := 10) 0 dX5_countPile_10 rfl ?_
  refine x_dup C (pc := 11) dX5_countPile_11 rfl ?_
  refine x_get C (pc := 12) (q := k) (v := .int (nI kk)) (ci := 5) rfl hn_X5_countPile_X5 5 (by decide) fl_X5_countPile_42 rfl (by omega) hR_9.ob rfl dX5_countPile_12 ?_
  refine x_iconst C (pc := 15) (v := 1) dX5_countPile_15 (by decide) ?_
  refine x_iadd C (pc := 16) (v := nI (kk + 1)) dX5_countPile_16 (nI_add kk 1) ?_
  refine xw_X5_5 C (pc := 17) hn_X5_countPile_X5 fl_X5_countPile_42 hR_9 (by omega) dX5_countPile_17 (fun F_17 hR_17 fr_17 => ?_)
  refine x_aload_n C (pc := 20) 0 dX5_countPile_20 rfl ?_
  refine x_dup C (pc := 21) dX5_countPile_21 rfl ?_
  refine x_get C (pc := 22) (q := k) (v := .int (nI cw)) (ci := 5) rfl hn_X5_countPile_X5 6 (by decide) fl_X5_countPile_45 rfl (by omega) hR_17.ob rfl dX5_countPile_22 ?_
  refine x_iconst C (pc := 25) (v := 1) dX5_countPile_25 (by decide) ?_
  refine x_iload_n C (pc := 26) 1 dX5_countPile_26 rfl ?_
  refine x_ishl C (pc := 27) (v := nI (2 ^ i)) dX5_countPile_27 (pkshl (by omega)) ?_
  have h2i : 2 ^ i < 1024 := Nat.lt_of_lt_of_le (Nat.pow_lt_pow_right (a := 2) (by decide) hi) (by decide)
  refine x_ior C (pc := 28) (v := nI (cw ||| 2 ^ i)) dX5_countPile_28 (pkor (by omega) (by omega)) ?_
  refine xw_X5_6 C (pc := 29) hn_X5_countPile_X5 fl_X5_countPile_45 hR_17 (by omega) dX5_countPile_29 (fun F_29 hR_29 fr_29 => ?_)
  exact x_vret C hR0 (Nat.le_of_ble_eq_true rfl) (Nat.le_of_ble_eq_true rfl) ⟨rfl, ⟨hR_29, (gFr.t2 (gFr.t2 fr_9 fr_17) fr_29)⟩⟩ dX5_countPile_32
theorem fl_X5_notCountedIn_39 : Cond.fieldLink RX5 39 "PileRecount$Recount" "piles" "I" ∈ wsX5_notCountedIn := by decide +kernel
theorem fl_X5_notCountedIn_45 : Cond.fieldLink RX5 45 "PileRecount$Recount" "countedSet" "I" ∈ wsX5_notCountedIn := by decide +kernel
theorem hn_X5_notCountedIn_X5 : ∀ w ∈ wsX50, w ∈ wsX5_notCountedIn := fun _ h => List.mem_cons_of_mem _ (List.mem_append_right _ h)
theorem ni_X5_notCountedIn_RX6 : Cond.initialized RX6 ∈ wsX5_notCountedIn := by decide +kernel
theorem ns_X5_notCountedIn_X6_has : Cond.static yX6_has ∈ wsX5_notCountedIn := by decide +kernel
set_option maxHeartbeats 4000000 in
set_option maxRecDepth 100000 in
theorem c_X5_notCountedIn (l : Launch) (D : va_G) (z : Nat) (cI cZ cP cR : ClassId) (N : Nat) (F : Nat → va_E) (k n cw : Nat) (wi cp rl ch sp : Int32) (pd : Nat → Nat → Int32) (bs od : Nat → Int32) (pl0 : Nat) (hR : isRec z cI cP F k (nI n) wi cp (nI cw) rl ch sp pd bs od) (hk : k + 14 ≤ N) (hn : n ≤ 10) (hcw : cw < 1024) (hpl : pl0 < 2 ^ 30) : gMi l yX5_notCountedIn wsX5_notCountedIn ({ frames := 1, cells := 0, slots := 0, locals := 21 }) D z cI cZ cP cR N F [.ref (z + k), .int (nI pl0)] (gRes (opI (ncG cw pl0 n 0 0)) N (fun F2 => F2 = F)) 0 0 := by
  refine gMi.of (cc := cX5_notCountedIn) (maxL := 4) (ret := (some .int)) (by decide) rfl (Nat.le_of_ble_eq_true rfl) [(0, .ref (z + k)), (1, .int (nI pl0))] rfl ?_
  intro pg ev sg mg bel me cg C hR0
  refine x_iconst C (pc := 0) (v := 0) dX5_notCountedIn_0 (by decide) ?_
  refine x_istore_n C (pc := 1) [(2, .int 0), (0, .ref (z + k)), (1, .int (nI pl0))] dX5_notCountedIn_1 (by decide) rfl ?_
  refine x_iconst C (pc := 2) (v := 0) dX5_notCountedIn_2 (by decide) ?_
  refine x_istore_n C (pc := 3) [(3, .int 0), (2, .int 0), (0, .ref (z + k)), (1, .int (nI pl0))] dX5_notCountedIn_3 (by decide) rfl ?_
  refine x_sub [2, 3, 1, 0] _ rfl ?_
  refine x_loop2 (A1 := Nat) (A2 := Nat) (pc := 4) (st := []) (fun i b => n - i) (fun i b => (i ≤ n) ∧ (b ≤ i) ∧ (ncG cw pl0 (n - i) i b = ncG cw pl0 n 0 0)) (fun i b => N) (fun i b => F) (fun i b => 0) (fun i b => 0) (fun i b => [(0, .ref (z + k)), (1, .int (nI pl0)), (2, .int (nI b)), (3, .int (nI i))]) 0 0 ⟨(Nat.zero_le _), (Nat.le_refl _), rfl⟩ rfl rfl rfl rfl rfl ?_
  rintro i b ⟨hi, hbi, hnc⟩ ih_4
  try dsimp only at ih_4
  refine x_iload_n C (pc := 4) 3 dX5_notCountedIn_4 rfl ?_
  refine x_aload_n C (pc := 5) 0 dX5_notCountedIn_5 rfl ?_
  refine x_get C (pc := 6) (q := k) (v := .int (nI n)) (ci := 5) rfl hn_X5_notCountedIn_X5 1 (by decide) fl_X5_notCountedIn_39 rfl (by omega) hR.ob rfl dX5_notCountedIn_6 ?_
  refine x_icmpN_ge C (a := i) (b := n) (pc := 9) (tgt := 39) (by omega) (by omega) dX5_notCountedIn_9 (by decide) (fun c_9 => ?_) (fun c_9 => ?_)
  · refine x_bipush C (pc := 39) (v := (-6)) dX5_notCountedIn_39 (by decide) ?_
    exact x_iret C hR0 rfl (Nat.le_of_ble_eq_true rfl) (Nat.le_of_ble_eq_true rfl) ⟨(by rw [← hnc, show n - i = 0 by omega]; rfl), rfl, rfl⟩ dX5_notCountedIn_41
  have hf : n - i = n - (i + 1) + 1 := by omega
  refine x_aload_n C (pc := 12) 0 dX5_notCountedIn_12 rfl ?_
  refine x_get C (pc := 13) (q := k) (v := .int (nI cw)) (ci := 5) rfl hn_X5_notCountedIn_X5 6 (by decide) fl_X5_notCountedIn_45 rfl (by omega) hR.ob rfl dX5_notCountedIn_13 ?_
  refine x_iload_n C (pc := 16) 3 dX5_notCountedIn_16 rfl ?_
  refine x_cSNiR C (pc := 17) (st := []) (c_X6_has l D z cI cZ cP cR N F cw i (by omega) (by omega)) ⟨va_cnB 2 C.2.2.2.2.1 gX5_notCountedIn_X6_has_n88 rfl rfl rfl (C.2.2.2.2.2.1.2.1 _ (List.mem_of_getElem? (i := 8) rfl)) (C.2.2.2.2.1 _ ni_X5_notCountedIn_RX6) hd_X6_has.2 ⟨Nat.le_of_ble_eq_true rfl, Nat.le_of_ble_eq_true rfl⟩, C.2.2.2.2.1 _ ns_X5_notCountedIn_X6_has, trivial⟩ rfl rfl (Nat.le_of_ble_eq_true rfl) dX5_notCountedIn_17 ⟨Nat.le_of_ble_eq_true rfl, Nat.le_of_ble_eq_true rfl⟩ ?_
  refine x_bz_ne C (pc := 20) (tgt := 33) dX5_notCountedIn_20 (by decide) (fun c_20 => ?_) (fun c_20 => ?_)
  · have hst : ncG cw pl0 (n - i) i b = ncG cw pl0 (n - (i + 1)) (i + 1) b := by rw [hf, ncG, if_pos c_20]
    refine x_iinc C (pc := 33) 3 [(3, .int (nI (i + 1))), (0, .ref (z + k)), (1, .int (nI pl0)), (2, .int (nI b))] dX5_notCountedIn_33 rfl (nI_inc i) (by decide) rfl ?_
    refine x_goto C (pc := 36) (tgt := 4) dX5_notCountedIn_36 (by decide) ?_
    exact x_sub [1, 2, 3, 0] _ rfl (ih_4 (i + 1) b ⟨(by omega), (by omega), (hst.symm.trans hnc)⟩ (by omega))
  refine x_iload_n C (pc := 23) 2 dX5_notCountedIn_23 rfl ?_
  refine x_iload_n C (pc := 24) 1 dX5_notCountedIn_24 rfl ?_
  refine x_icmpN_ne C (a := b) (b := pl0) (pc := 25) (tgt := 30) (by omega) (by omega) dX5_notCountedIn_25 (by decide) (fun c_25 => ?_) (fun c_25 => ?_)
  · have hst : ncG cw pl0 (n - i) i b = ncG cw pl0 (n - (i + 1)) (i + 1) (b + 1) := by rw [hf, ncG, if_neg (by rw [c_20]; decide), if_neg c_25]
    refine x_iinc C (pc := 30) 2 [(2, .int (nI (b + 1))), (0, .ref (z + k)), (1, .int (nI pl0)), (3, .int (nI i))] dX5_notCountedIn_30 rfl (nI_inc b) (by decide) rfl ?_
    refine x_iinc C (pc := 33) 3 [(3, .int (nI (i + 1))), (2, .int (nI (b + 1))), (0, .ref (z + k)), (1, .int (nI pl0))] dX5_notCountedIn_33 rfl (nI_inc i) (by decide) rfl ?_
    refine x_goto C (pc := 36) (tgt := 4) dX5_notCountedIn_36 (by decide) ?_
    exact x_sub [2, 3, 1, 0] _ rfl (ih_4 (i + 1) (b + 1) ⟨(by omega), (by omega), (hst.symm.trans hnc)⟩ (by omega))
  refine x_iload_n C (pc := 28) 3 dX5_notCountedIn_28 rfl ?_
  exact x_iret C hR0 rfl (Nat.le_of_ble_eq_true rfl) (Nat.le_of_ble_eq_true rfl) ⟨(by rw [← hnc, hf, ncG, if_neg (by rw [c_20]; decide), if_pos c_25]; rfl), rfl, rfl⟩ dX5_notCountedIn_29
theorem fl_X5_drawNext_32 : Cond.fieldLink RX5 32 "PileRecount$Recount" "chooser" "I" ∈ wsX5_drawNext := by decide +kernel
theorem fl_X5_drawNext_39 : Cond.fieldLink RX5 39 "PileRecount$Recount" "piles" "I" ∈ wsX5_drawNext := by decide +kernel
theorem fl_X5_drawNext_42 : Cond.fieldLink RX5 42 "PileRecount$Recount" "countedPiles" "I" ∈ wsX5_drawNext := by decide +kernel
theorem hn_X5_drawNext_X5 : ∀ w ∈ wsX50, w ∈ wsX5_drawNext := fun _ h => List.mem_cons_of_mem _ (List.mem_append_right _ h)
theorem kc_X5_drawNext_130 : Cond.constantLong RX5 130 (1103515245) ∈ wsX5_drawNext := by decide +kernel
theorem kc_X5_drawNext_132 : Cond.constantLong RX5 132 (12345) ∈ wsX5_drawNext := by decide +kernel
theorem kc_X5_drawNext_134 : Cond.constantLong RX5 134 (2147483648) ∈ wsX5_drawNext := by decide +kernel
theorem kc_X5_drawNext_136 : Cond.constant RX5 136 (65536) ∈ wsX5_drawNext := by decide +kernel
set_option maxHeartbeats 4000000 in
set_option maxRecDepth 100000 in
theorem c_X5_drawNext (l : Launch) (D : va_G) (z : Nat) (cI cZ cP cR : ClassId) (N : Nat) (F : Nat → va_E) (k n cw kk c0 : Nat) (wi rl sp : Int32) (pd : Nat → Nat → Int32) (bs od : Nat → Int32) (i : Nat) (hR : isRec z cI cP F k (nI n) wi (nI kk) (nI cw) rl (nI c0) sp pd bs od) (hk : k + 14 ≤ N) (hn : n ≤ 10) (hcw : cw < 1024) (hkk : kk < n) (hc0 : c0 < 2 ^ 31) (hnc : ncG cw (lcgN c0 / 65536 % (n - kk)) n 0 0 = some i) : gMi l yX5_drawNext wsX5_drawNext ({ frames := 2, cells := 0, slots := 0, locals := 44 }) D z cI cZ cP cR N F [.ref (z + k)] (gRes (nI i) N (fun F2 => isRec z cI cP F2 k (nI n) wi (nI (kk + 1)) (nI (cw ||| 2 ^ i)) rl (nI (lcgN c0)) sp pd bs (upd od kk (nI i)) ∧ gFr k (k + 14) F F2)) 0 0 := by
  refine gMi.of (cc := cX5_drawNext) (maxL := 3) (ret := (some .int)) (by decide) rfl (Nat.le_of_ble_eq_true rfl) [(0, .ref (z + k))] rfl ?_
  intro pg ev sg mg bel me cg C hR0
  have hin := ncG_some _ _ _ _ hnc
  have hlc := lcgN_lt c0
  have hml : lcgN c0 / 65536 % (n - kk) < n - kk := Nat.mod_lt _ (by omega)
  have hdv : lcgN c0 / 65536 ≤ lcgN c0 := Nat.div_le_self _ _
  refine x_aload_n C (pc := 0) 0 dX5_drawNext_0 rfl ?_
  refine x_get C (pc := 1) (q := k) (v := .int (nI n)) (ci := 5) rfl hn_X5_drawNext_X5 1 (by decide) fl_X5_drawNext_39 rfl (by omega) hR.ob rfl dX5_drawNext_1 ?_
  refine x_aload_n C (pc := 4) 0 dX5_drawNext_4 rfl ?_
  refine x_get C (pc := 5) (q := k) (v := .int (nI kk)) (ci := 5) rfl hn_X5_drawNext_X5 5 (by decide) fl_X5_drawNext_42 rfl (by omega) hR.ob rfl dX5_drawNext_5 ?_
  refine x_isub C (pc := 8) (v := nI (n - kk)) dX5_drawNext_8 (pk_sub (a := n) (b := kk) (by omega)) ?_
  refine x_istore_n C (pc := 9) [(1, .int (nI (n - kk))), (0, .ref (z + k))] dX5_drawNext_9 (by decide) rfl ?_
  refine x_iload_n C (pc := 10) 0 dX5_drawNext_10 rfl ?_
  refine x_ifN_gt C (a := n - kk) (pc := 11) (tgt := 17) (by omega) dX5_drawNext_11 (by decide) (fun c_11 => ?_) (fun c_11 => absurd c_11 (by omega))
  refine x_aload_n C (pc := 17) 1 dX5_drawNext_17 rfl ?_
  refine x_aload_n C (pc := 18) 1 dX5_drawNext_18 rfl ?_
  refine x_get C (pc := 19) (q := k) (v := .int (nI c0)) (ci := 5) rfl hn_X5_drawNext_X5 8 (by decide) fl_X5_drawNext_32 rfl (by omega) hR.ob rfl dX5_drawNext_19 ?_
  refine x_i2l C (pc := 22) (v := lN c0) dX5_drawNext_22 (nI_l hc0) ?_
  refine x_ldc2 C (pc := 23) (v := 1103515245) kc_X5_drawNext_130 dX5_drawNext_23 ?_
  refine x_lmul C (pc := 26) (v := lN (c0 * 1103515245)) dX5_drawNext_26 (lN_mul c0 1103515245) ?_
  refine x_ldc2 C (pc := 27) (v := 12345) kc_X5_drawNext_132 dX5_drawNext_27 ?_
  refine x_ladd C (pc := 30) (v := lN (c0 * 1103515245 + 12345)) dX5_drawNext_30 (lN_add _ 12345) ?_
  refine x_ldc2 C (pc := 31) (v := 2147483648) kc_X5_drawNext_134 dX5_drawNext_31 ?_
  refine x_lrem C (pc := 34) (v := lN (lcgN c0)) dX5_drawNext_34 (by decide) (pk_lRem (b := 2147483648) (by omega) (by decide) (by decide)) ?_
  refine x_l2i C (pc := 35) (v := nI (lcgN c0)) dX5_drawNext_35 (lN_i _) ?_
  refine xw_X5_8 C (pc := 36) hn_X5_drawNext_X5 fl_X5_drawNext_32 hR (by omega) dX5_drawNext_36 (fun F_36 hR_36 fr_36 => ?_)
  refine x_aload_n C (pc := 39) 1 dX5_drawNext_39 rfl ?_
  refine x_aload_n C (pc := 40) 1 dX5_drawNext_40 rfl ?_
  refine x_get C (pc := 41) (q := k) (v := .int (nI (lcgN c0))) (ci := 5) rfl hn_X5_drawNext_X5 8 (by decide) fl_X5_drawNext_32 rfl (by omega) hR_36.ob rfl dX5_drawNext_41 ?_
  refine x_ldc C (pc := 44) (v := 65536) kc_X5_drawNext_136 dX5_drawNext_44 ?_
  refine x_idiv C (pc := 46) (v := nI (lcgN c0 / 65536)) dX5_drawNext_46 (by decide) (pk_div (d := 65536) (by omega) (by decide) (by decide)) ?_
  refine x_iload_n C (pc := 47) 0 dX5_drawNext_47 rfl ?_
  refine x_irem C (pc := 48) (v := nI (lcgN c0 / 65536 % (n - kk))) dX5_drawNext_48 (nI_ne0 (by omega) (by omega)) (pk_rem (by omega) (by omega) (by omega)) ?_
  refine x_cViR C (pc := 49) (st := []) (c_X5_notCountedIn l D z cI cZ cP cR N F_36 k n cw wi (nI kk) rl (nI (lcgN c0)) sp pd bs od (lcgN c0 / 65536 % (n - kk)) hR_36 (by omega) (by omega) (by omega) (by omega)) (cwV 1 C.2.2.2.2.1 gX5_drawNext_X5_notCountedIn rfl rfl rfl hd_X5_notCountedIn ⟨Nat.le_of_ble_eq_true rfl, Nat.le_of_ble_eq_true rfl⟩) (by omega) hR_36.ob rfl rfl rfl (Nat.le_of_ble_eq_true rfl) dX5_drawNext_49 ⟨Nat.le_of_ble_eq_true rfl, Nat.le_of_ble_eq_true rfl⟩ ?_
  refine x_eqi (y := nI i) (by rw [hnc]; rfl) ?_
  refine x_istore_n C (pc := 52) [(2, .int (nI i)), (1, .int (nI (n - kk))), (0, .ref (z + k))] dX5_drawNext_52 (by decide) rfl ?_
  refine x_iload_n C (pc := 53) 0 dX5_drawNext_53 rfl ?_
  refine x_bipush C (pc := 54) (v := (-6)) dX5_drawNext_54 (by decide) ?_
  refine x_icmp_eq C (pc := 56) (tgt := 64) dX5_drawNext_56 (by decide) (fun c_56 => absurd c_56 (nI_nm6 (by omega))) (fun c_56 => ?_)
  refine x_aload_n C (pc := 59) 2 dX5_drawNext_59 rfl ?_
  refine x_iload_n C (pc := 60) 0 dX5_drawNext_60 rfl ?_
  refine x_cVvE C (pc := 61) (st := []) (c_X5_countPile l D z cI cZ cP cR N F_36 k cw kk (nI n) wi rl (nI (lcgN c0)) sp pd bs od i hR_36 (by omega) (by omega) (by omega) (by omega)) (cwV 1 C.2.2.2.2.1 gX5_drawNext_X5_countPile rfl rfl rfl hd_X5_countPile ⟨Nat.le_of_ble_eq_true rfl, Nat.le_of_ble_eq_true rfl⟩) (by omega) hR_36.ob rfl rfl rfl (Nat.le_of_ble_eq_true rfl) dX5_drawNext_61 ⟨Nat.le_of_ble_eq_true rfl, Nat.le_of_ble_eq_true rfl⟩ (fun F_61 h_61 => ?_)
  obtain ⟨hR_61, fr_61⟩ := h_61
  refine x_iload_n C (pc := 64) 0 dX5_drawNext_64 rfl ?_
  exact x_iret C hR0 rfl (Nat.le_of_ble_eq_true rfl) (Nat.le_of_ble_eq_true rfl) ⟨rfl, rfl, ⟨hR_61, (gFr.t2 fr_36 fr_61)⟩⟩ dX5_drawNext_65
theorem fl_X5_drawUntilStop_39 : Cond.fieldLink RX5 39 "PileRecount$Recount" "piles" "I" ∈ wsX5_drawUntilStop := by decide +kernel
theorem fl_X5_drawUntilStop_42 : Cond.fieldLink RX5 42 "PileRecount$Recount" "countedPiles" "I" ∈ wsX5_drawUntilStop := by decide +kernel
theorem hn_X5_drawUntilStop_X5 : ∀ w ∈ wsX50, w ∈ wsX5_drawUntilStop := fun _ h => List.mem_cons_of_mem _ (List.mem_append_left _ (List.mem_append_right _ h))
set_option maxHeartbeats 4000000 in
set_option maxRecDepth 100000 in
theorem c_X5_drawUntilStop (l : Launch) (D : va_G) (z : Nat) (cI cZ cP cR : ClassId) (N : Nat) (F : Nat → va_E) (k n cw0 k0 c0 : Nat) (wi rl sp : Int32) (pd : Nat → Nat → Int32) (bs od : Nat → Int32) (hR : isRec z cI cP F k (nI n) wi (nI k0) (nI cw0) rl (nI c0) sp pd bs od) (hk : k + 14 ≤ N) (hn : n ≤ 10) (hcw0 : cw0 < 2 ^ n) (hk0 : k0 ≤ n) (hc0 : c0 < 2 ^ 31) (hcnt0 : cntB cw0 n = k0) (pi : Nat → Nat) (hpi : piOK bs pi n) : gMi l yX5_drawUntilStop wsX5_drawUntilStop ({ frames := 5, cells := 0, slots := 0, locals := 112 }) D z cI cZ cP cR N F [.ref (z + k)] (gRes (nI ((duG (fun w => decide (rbF wi pd pi n w w ≤ rl)) n (n - k0) k0 cw0 c0 od).1 - k0)) N (fun F2 => isRec z cI cP F2 k (nI n) wi (nI (duG (fun w => decide (rbF wi pd pi n w w ≤ rl)) n (n - k0) k0 cw0 c0 od).1) (nI (duG (fun w => decide (rbF wi pd pi n w w ≤ rl)) n (n - k0) k0 cw0 c0 od).2.1) rl (nI (duG (fun w => decide (rbF wi pd pi n w w ≤ rl)) n (n - k0) k0 cw0 c0 od).2.2.1) sp pd bs ((duG (fun w => decide (rbF wi pd pi n w w ≤ rl)) n (n - k0) k0 cw0 c0 od).2.2.2) ∧ gFr k (k + 14) F F2)) 0 0 := by
  refine gMi.of (cc := cX5_drawUntilStop) (maxL := 3) (ret := (some .int)) (by decide) rfl (Nat.le_of_ble_eq_true rfl) [(0, .ref (z + k))] rfl ?_
  intro pg ev sg mg bel me cg C hR0
  have h2n := two_lt hn
  refine x_iconst C (pc := 0) (v := 0) dX5_drawUntilStop_0 (by decide) ?_
  refine x_istore_n C (pc := 1) [(1, .int 0), (0, .ref (z + k))] dX5_drawUntilStop_1 (by decide) rfl ?_
  refine x_aload_n C (pc := 2) 1 dX5_drawUntilStop_2 rfl ?_
  refine x_get C (pc := 3) (q := k) (v := .int (nI k0)) (ci := 5) rfl hn_X5_drawUntilStop_X5 5 (by decide) fl_X5_drawUntilStop_42 rfl (by omega) hR.ob rfl dX5_drawUntilStop_3 ?_
  refine x_istore_n C (pc := 6) [(2, .int (nI k0)), (1, .int 0), (0, .ref (z + k))] dX5_drawUntilStop_6 (by decide) rfl ?_
  refine x_sub [2, 1, 0] _ rfl ?_
  refine x_loop5 (A1 := Nat) (A2 := Nat) (A3 := Nat) (A4 := Nat → Int32) (A5 := Nat → va_E) (pc := 7) (st := []) (fun d cw c o G => n - (k0 + d)) (fun d cw c o G => (k0 + d ≤ n) ∧ (cntB cw n = k0 + d) ∧ (cw < 2 ^ n) ∧ (c < 2 ^ 31) ∧ (isRec z cI cP G k (nI n) wi (nI (k0 + d)) (nI cw) rl (nI c) sp pd bs o) ∧ (gFr k (k + 14) F G) ∧ (duG (fun w => decide (rbF wi pd pi n w w ≤ rl)) n (n - (k0 + d)) (k0 + d) cw c o = duG (fun w => decide (rbF wi pd pi n w w ≤ rl)) n (n - k0) k0 cw0 c0 od)) (fun d cw c o G => N) (fun d cw c o G => G) (fun d cw c o G => 0) (fun d cw c o G => 0) (fun d cw c o G => [(0, .ref (z + k)), (1, .int (nI d)), (2, .int (nI (k0 + d)))]) 0 cw0 c0 od F ⟨hk0, hcnt0, hcw0, hc0, hR, gFr.rf, rfl⟩ rfl rfl rfl rfl rfl ?_
  rintro d cw c o G ⟨hd, hcnt, hcw, hc, hG, hfr, hdu⟩ ih_7
  try dsimp only at ih_7
  refine x_iload_n C (pc := 7) 2 dX5_drawUntilStop_7 rfl ?_
  refine x_aload_n C (pc := 8) 0 dX5_drawUntilStop_8 rfl ?_
  refine x_get C (pc := 9) (q := k) (v := .int (nI n)) (ci := 5) rfl hn_X5_drawUntilStop_X5 1 (by decide) fl_X5_drawUntilStop_39 rfl (by omega) hG.ob rfl dX5_drawUntilStop_9 ?_
  refine x_icmpN_ge C (a := k0 + d) (b := n) (pc := 12) (tgt := 36) (by omega) (by omega) dX5_drawUntilStop_12 (by decide) (fun c_12 => ?_) (fun c_12 => ?_)
  · have hfin : (k0 + d, cw, c, o) = duG (fun w => decide (rbF wi pd pi n w w ≤ rl)) n (n - k0) k0 cw0 c0 od := by rw [← hdu, show n - (k0 + d) = 0 by omega]; rfl
    refine x_iload_n C (pc := 36) 1 dX5_drawUntilStop_36 rfl ?_
    exact x_iret C hR0 rfl (Nat.le_of_ble_eq_true rfl) (Nat.le_of_ble_eq_true rfl) ⟨(by rw [← hfin]; show nI d = nI (k0 + d - k0); rw [Nat.add_sub_cancel_left]), rfl, (by rw [← hfin]; exact ⟨hG, hfr⟩)⟩ dX5_drawUntilStop_37
  refine x_aload_n C (pc := 15) 0 dX5_drawUntilStop_15 rfl ?_
  refine x_cViR C (pc := 16) (st := []) (c_X5_mayStopNow l D z cI cZ cP cR N G k n cw wi (nI (k0 + d)) rl (nI c) sp pd bs o hG (by omega) (by omega) (by omega) pi hpi) (cwV 0 C.2.2.2.2.1 gX5_drawUntilStop_X5_mayStopNow rfl rfl rfl hd_X5_mayStopNow ⟨Nat.le_of_ble_eq_true rfl, Nat.le_of_ble_eq_true rfl⟩) (by omega) hG.ob rfl rfl rfl (Nat.le_of_ble_eq_true rfl) dX5_drawUntilStop_16 ⟨Nat.le_of_ble_eq_true rfl, Nat.le_of_ble_eq_true rfl⟩ ?_
  refine x_bz_ne C (pc := 19) (tgt := 36) dX5_drawUntilStop_19 (by decide) (fun c_19 => ?_) (fun c_19 => ?_)
  · have hfin : (k0 + d, cw, c, o) = duG (fun w => decide (rbF wi pd pi n w w ≤ rl)) n (n - k0) k0 cw0 c0 od := by rw [← hdu]; cases hq : n - (k0 + d) with
      | zero => rfl
      | succ f => rw [duG, if_pos c_19]
    refine x_iload_n C (pc := 36) 1 dX5_drawUntilStop_36 rfl ?_
    exact x_iret C hR0 rfl (Nat.le_of_ble_eq_true rfl) (Nat.le_of_ble_eq_true rfl) ⟨(by rw [← hfin]; show nI d = nI (k0 + d - k0); rw [Nat.add_sub_cancel_left]), rfl, (by rw [← hfin]; exact ⟨hG, hfr⟩)⟩ dX5_drawUntilStop_37
  obtain ⟨i, hnc, hin, hti⟩ := ncG_ex0 (pl := lcgN c / 65536 % (n - (k0 + d))) hcnt (Nat.mod_lt _ (by omega))
  have hst : duG (fun w => decide (rbF wi pd pi n w w ≤ rl)) n (n - (k0 + d)) (k0 + d) cw c o = duG (fun w => decide (rbF wi pd pi n w w ≤ rl)) n (n - (k0 + (d + 1))) (k0 + (d + 1)) (cw ||| 2 ^ i) (lcgN c) (upd o (k0 + d) (nI i)) := by rw [show n - (k0 + d) = n - (k0 + (d + 1)) + 1 by omega, duG, if_neg (by rw [c_19]; decide), hnc]; rfl
  refine x_aload_n C (pc := 22) 0 dX5_drawUntilStop_22 rfl ?_
  refine x_cViE C (pc := 23) (st := []) (c_X5_drawNext l D z cI cZ cP cR N G k n cw (k0 + d) c wi rl sp pd bs o i hG (by omega) (by omega) (by omega) (by omega) (by omega) hnc) (cwV 0 C.2.2.2.2.1 gX5_drawUntilStop_X5_drawNext rfl rfl rfl hd_X5_drawNext ⟨Nat.le_of_ble_eq_true rfl, Nat.le_of_ble_eq_true rfl⟩) (by omega) hG.ob rfl rfl rfl (Nat.le_of_ble_eq_true rfl) dX5_drawUntilStop_23 ⟨Nat.le_of_ble_eq_true rfl, Nat.le_of_ble_eq_true rfl⟩ (fun F_23 h_23 => ?_)
  obtain ⟨hG_23, fr_23⟩ := h_23
  refine x_pop C (pc := 26) dX5_drawUntilStop_26 rfl ?_
  refine x_iinc C (pc := 27) 1 [(1, .int (nI (d + 1))), (0, .ref (z + k)), (2, .int (nI (k0 + d)))] dX5_drawUntilStop_27 rfl (nI_inc d) (by decide) rfl ?_
  refine x_iinc C (pc := 30) 2 [(2, .int (nI (k0 + d + 1))), (1, .int (nI (d + 1))), (0, .ref (z + k))] dX5_drawUntilStop_30 rfl (nI_inc (k0 + d)) (by decide) rfl ?_
  refine x_goto C (pc := 33) (tgt := 7) dX5_drawUntilStop_33 (by decide) ?_
  exact x_sub [2, 1, 0] _ rfl (ih_7 (d + 1) (cw ||| 2 ^ i) (lcgN c) (upd o (k0 + d) (nI i)) F_23 ⟨(by omega), (by rw [cntB_or hti, hcnt, if_pos hin]; rfl), (Nat.or_lt_two_pow hcw (Nat.pow_lt_pow_right (by decide) hin)), (by have := lcgN_lt c; omega), hG_23, (gFr.t2 hfr fr_23), (hst.symm.trans hdu)⟩ (by omega))
