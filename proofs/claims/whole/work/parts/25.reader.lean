abbrev RS : Type := (Nat → Nat) × Nat × Bool
abbrev isReaS (z : Nat) (cI : ClassId) (F : Nat → va_E) (k : Nat) (s : RS) : Prop := isRea z cI F k (nI s.2.1) (bz s.2.2) (fun i => nI (s.1 i))
def rs0 : RS := (fun _ => 0, 0, false)
def rsOK (s : RS) : Prop := s.2.1 < 5 ∧ ∀ i, s.1 i ≤ 999
def mayE (pt : Nat) : Bool := decide (pt = 1) || decide (pt = 2) || decide (pt = 4)
def pbF (pt c : Nat) : Option Nat := if c = 44 then (if pt = 2 ∨ pt = 4 then none else some (pt + 1)) else if c = 61 then (if pt = 1 ∨ pt = 2 then some 3 else none) else if c = 59 then (if mayE pt = true then some 0 else none) else none
def tdF (s : RS) (d : Nat) : Option RS := if (s.2.2 = true ∧ s.1 s.2.1 = 0) ∨ 999 < s.1 s.2.1 * 10 + d then none else some (va_up s.1 s.2.1 (s.1 s.2.1 * 10 + d), s.2.1, true)
def tsF (s : RS) (c : Nat) : Option RS := match pbF s.2.1 c with
  | none => none
  | some nx => if s.2.2 = false then none else some (if nx = 0 then (fun _ => 0) else s.1, nx, false)
def rsT (s : RS) (c : Nat) : Option RS := if 48 ≤ c ∧ c ≤ 57 then tdF s (c - 48) else tsF s c
theorem pbF_lt {pt c nx : Nat} (hp : pt < 5) (h : pbF pt c = some nx) : nx < 5 := by
  unfold pbF at h
  split at h
  · split at h
    · simp at h
    · simp at h; omega
  · split at h
    · split at h
      · simp at h; omega
      · simp at h
    · split at h
      · split at h
        · simp at h; omega
        · simp at h
      · simp at h
theorem tdF_ok {s t : RS} {d : Nat} (hs : rsOK s) (h : tdF s d = some t) : rsOK t := by
  unfold tdF at h
  split at h
  · simp at h
  · rename_i hn
    simp at h; subst h
    refine ⟨hs.1, fun i => ?_⟩
    by_cases e : i = s.2.1
    · dsimp only; rw [e, va_up_self]; omega
    · dsimp only; rw [va_up_ne _ _ e]; exact hs.2 i
theorem tsF_ok {s t : RS} {c : Nat} (hs : rsOK s) (h : tsF s c = some t) : rsOK t := by
  unfold tsF at h
  split at h
  · simp at h
  · rename_i nx hx
    split at h
    · simp at h
    · simp at h; subst h
      refine ⟨pbF_lt hs.1 hx, fun i => ?_⟩
      dsimp only
      split
      · exact Nat.zero_le _
      · exact hs.2 i
theorem rsT_ok {s t : RS} {c : Nat} (hs : rsOK s) (h : rsT s c = some t) : rsOK t := by
  unfold rsT at h
  split at h
  · exact tdF_ok hs h
  · exact tsF_ok hs h
theorem rs0_ok : rsOK rs0 := ⟨by decide, fun _ => Nat.zero_le _⟩
def sND (o : Option RS) (s : RS) : RS := o.getD s
theorem sND_ok {o : Option RS} {s : RS} (hs : rsOK s) (h : ∀ t, o = some t → rsOK t) : rsOK (sND o s) := by
  cases o with
  | none => exact hs
  | some t => exact h t rfl
theorem updN {v : Nat → Nat} {j x : Nat} : upd (fun i => nI (v i)) j (nI x) = fun i => nI (va_up v j x i) := by
  funext i
  by_cases e : i = j
  · subst e; rw [pk_us, va_up_self]
  · rw [pk_un e, va_up_ne _ _ e]
def fltG (cd : Nat → Nat) (len : Nat) : Nat → Nat → RS → Option Nat
  | 0, _, s => if (s.2.2 && mayE s.2.1) = true then none else some len
  | f + 1, i, s => match rsT s (cd i) with
    | none => some i
    | some t => fltG cd len f (i + 1) t
def cdOK (pa : Nat → Int32) (cd : Nat → Nat) (len : Nat) : Prop := ∀ i, i < len → pa i = nI (cd i) ∧ cd i < 128
theorem fl_X2_append_15 : Cond.fieldLink RX2 15 "PileRecount$Pad" "length" "I" ∈ wsX2_append := by decide +kernel
theorem fl_X2_append_9 : Cond.fieldLink RX2 9 "PileRecount$Pad" "codes" "[I" ∈ wsX2_append := by decide +kernel
theorem hn_X2_append_X2 : ∀ w ∈ wsX20, w ∈ wsX2_append := fun _ h => List.mem_cons_of_mem _ (List.mem_append_right _ h)
set_option maxHeartbeats 4000000 in
set_option maxRecDepth 100000 in
theorem c_X2_append (l : Launch) (D : va_G) (z : Nat) (cI cZ cP cR : ClassId) (N : Nat) (F : Nat → va_E) (k n : Nat) (pa : Nat → Int32) (x : Int32) (hR : isPad z cI F k (nI n) pa) (hk : k + 2 ≤ N) (hn : n < 80) : gMv l yX2_append wsX2_append ({ frames := 0, cells := 0, slots := 0, locals := 0 }) D z cI cZ cP cR N F [.ref (z + k), .int x] (gVoid N (fun F2 => isPad z cI F2 k (nI (n + 1)) (upd pa n x) ∧ gFr k (k + 2) F F2)) 0 0 := by
  refine gMv.of (cc := cX2_append) (maxL := 2) (ret := none) (by decide) rfl (Nat.le_of_ble_eq_true rfl) [(0, .ref (z + k)), (1, .int x)] rfl ?_
  intro pg ev sg mg bel me cg C hR0
  refine x_aload_n C (pc := 0) 0 dX2_append_0 rfl ?_
  refine x_get C (pc := 1) (q := k) (v := .int (nI n)) (ci := 2) rfl hn_X2_append_X2 1 (by decide) fl_X2_append_15 rfl (by omega) hR.ob rfl dX2_append_1 ?_
  refine x_bipush C (pc := 4) (v := 80) dX2_append_4 (by decide) ?_
  refine x_icmpN_ge C (a := n) (b := 80) (pc := 6) (tgt := 29) (by omega) (by omega) dX2_append_6 (by decide) (fun c_6 => absurd c_6 (by omega)) (fun c_6 => ?_)
  refine x_aload_n C (pc := 9) 0 dX2_append_9 rfl ?_
  refine x_get C (pc := 10) (q := k) (v := .ref (z + (k + 1))) (ci := 2) rfl hn_X2_append_X2 0 (by decide) fl_X2_append_9 rfl (by omega) hR.ob rfl dX2_append_10 ?_
  refine x_aload_n C (pc := 13) 0 dX2_append_13 rfl ?_
  refine x_get C (pc := 14) (q := k) (v := .int (nI n)) (ci := 2) rfl hn_X2_append_X2 1 (by decide) fl_X2_append_15 rfl (by omega) hR.ob rfl dX2_append_14 ?_
  refine x_iload_n C (pc := 17) 1 dX2_append_17 rfl ?_
  refine xw_isPad_pa C (pc := 18) (j := n) hR (by omega) rfl (by omega) dX2_append_18 (fun F_18 hR_18 fr_18 => ?_)
  refine x_aload_n C (pc := 19) 0 dX2_append_19 rfl ?_
  refine x_dup C (pc := 20) dX2_append_20 rfl ?_
  refine x_get C (pc := 21) (q := k) (v := .int (nI n)) (ci := 2) rfl hn_X2_append_X2 1 (by decide) fl_X2_append_15 rfl (by omega) hR_18.ob rfl dX2_append_21 ?_
  refine x_iconst C (pc := 24) (v := 1) dX2_append_24 (by decide) ?_
  refine x_iadd C (pc := 25) (v := nI (n + 1)) dX2_append_25 (nI_add n 1) ?_
  refine xw_X2_1 C (pc := 26) hn_X2_append_X2 fl_X2_append_15 hR_18 (by omega) dX2_append_26 (fun F_26 hR_26 fr_26 => ?_)
  exact x_vret C hR0 (Nat.le_of_ble_eq_true rfl) (Nat.le_of_ble_eq_true rfl) ⟨rfl, ⟨hR_26, (gFr.t2 fr_18 fr_26)⟩⟩ dX2_append_29
theorem fl_X4_start_11 : Cond.fieldLink RX4 11 "PileRecount$Reader" "numbers" "[I" ∈ wsX4_start := by decide +kernel
theorem fl_X4_start_21 : Cond.fieldLink RX4 21 "PileRecount$Reader" "part" "I" ∈ wsX4_start := by decide +kernel
theorem fl_X4_start_25 : Cond.fieldLink RX4 25 "PileRecount$Reader" "hasDigit" "Z" ∈ wsX4_start := by decide +kernel
theorem hn_X4_start_X4 : ∀ w ∈ wsX40, w ∈ wsX4_start := fun _ h => List.mem_cons_of_mem _ (List.mem_append_right _ h)
set_option maxHeartbeats 4000000 in
set_option maxRecDepth 100000 in
theorem c_X4_start (l : Launch) (D : va_G) (z : Nat) (cI cZ cP cR : ClassId) (N : Nat) (F : Nat → va_E) (k : Nat) (pt hd : Int32) (nu : Nat → Int32) (hR : isRea z cI F k pt hd nu) (hk : k + 2 ≤ N) : gMv l yX4_start wsX4_start ({ frames := 1, cells := 0, slots := 0, locals := 23 }) D z cI cZ cP cR N F [.ref (z + k)] (gVoid N (fun F2 => isReaS z cI F2 k rs0 ∧ gFr k (k + 2) F F2)) 0 0 := by
  refine gMv.of (cc := cX4_start) (maxL := 1) (ret := none) (by decide) rfl (Nat.le_of_ble_eq_true rfl) [(0, .ref (z + k))] rfl ?_
  intro pg ev sg mg bel me cg C hR0
  refine x_aload_n C (pc := 0) 0 dX4_start_0 rfl ?_
  refine x_get C (pc := 1) (q := k) (v := .ref (z + (k + 1))) (ci := 4) rfl hn_X4_start_X4 0 (by decide) fl_X4_start_11 rfl (by omega) hR.ob rfl dX4_start_1 ?_
  refine x_iconst C (pc := 4) (v := 0) dX4_start_4 (by decide) ?_
  refine x_cSvE C (pc := 5) (st := []) (c_J7_fill_53178 l D z cI cZ cP cR N F (k + 1) 5 nu 0 (by omega) hR.nu (by decide)) (va_cwS 2 C.2.2.2.2.1 gX4_start_J7_fill_53178 rfl rfl rfl hd_J7_fill_53178.2 ⟨Nat.le_of_ble_eq_true rfl, Nat.le_of_ble_eq_true rfl⟩) rfl rfl (Nat.le_of_ble_eq_true rfl) dX4_start_5 ⟨Nat.le_of_ble_eq_true rfl, Nat.le_of_ble_eq_true rfl⟩ (fun F_5 h_5 => ?_)
  obtain ⟨hA_5, fr_5⟩ := h_5
  have hR_5 : isRea z cI F_5 k pt hd (fun _ => 0) := ⟨(fr_5 _ (by omega)).trans hR.ob, hA_5⟩
  have gr_5 : gFr k (k + 2) F F_5 := fun q hq => fr_5 q (by omega)
  refine x_aload_n C (pc := 8) 0 dX4_start_8 rfl ?_
  refine x_iconst C (pc := 9) (v := 0) dX4_start_9 (by decide) ?_
  refine xw_X4_1 C (pc := 10) hn_X4_start_X4 fl_X4_start_21 hR_5 (by omega) dX4_start_10 (fun F_10 hR_10 fr_10 => ?_)
  refine x_aload_n C (pc := 13) 0 dX4_start_13 rfl ?_
  refine x_iconst C (pc := 14) (v := 0) dX4_start_14 (by decide) ?_
  refine xw_X4_2 C (pc := 15) hn_X4_start_X4 fl_X4_start_25 hR_10 (by omega) (Or.inl rfl) dX4_start_15 (fun F_15 hR_15 fr_15 => ?_)
  exact x_vret C hR0 (Nat.le_of_ble_eq_true rfl) (Nat.le_of_ble_eq_true rfl) ⟨rfl, ⟨hR_15, (gFr.t2 (gFr.t2 gr_5 fr_10) fr_15)⟩⟩ dX4_start_18
theorem fl_X4_takeDigit_11 : Cond.fieldLink RX4 11 "PileRecount$Reader" "numbers" "[I" ∈ wsX4_takeDigit := by decide +kernel
theorem fl_X4_takeDigit_21 : Cond.fieldLink RX4 21 "PileRecount$Reader" "part" "I" ∈ wsX4_takeDigit := by decide +kernel
theorem fl_X4_takeDigit_25 : Cond.fieldLink RX4 25 "PileRecount$Reader" "hasDigit" "Z" ∈ wsX4_takeDigit := by decide +kernel
theorem hn_X4_takeDigit_X4 : ∀ w ∈ wsX40, w ∈ wsX4_takeDigit := fun _ h => List.mem_cons_of_mem _ (List.mem_append_right _ h)
set_option maxHeartbeats 4000000 in
set_option maxRecDepth 100000 in
theorem c_X4_takeDigit (l : Launch) (D : va_G) (z : Nat) (cI cZ cP cR : ClassId) (N : Nat) (F : Nat → va_E) (k : Nat) (s : RS) (d : Nat) (hR : isReaS z cI F k s) (hk : k + 2 ≤ N) (hs : rsOK s) (hd9 : d ≤ 9) : gMi l yX4_takeDigit wsX4_takeDigit ({ frames := 0, cells := 0, slots := 0, locals := 0 }) D z cI cZ cP cR N F [.ref (z + k), .int (nI d)] (gRes (bz (tdF s d).isSome) N (fun F2 => isReaS z cI F2 k (sND (tdF s d) s) ∧ gFr k (k + 2) F F2)) 0 0 := by
  refine gMi.of (cc := cX4_takeDigit) (maxL := 4) (ret := (some .boolean)) (by decide) rfl (Nat.le_of_ble_eq_true rfl) [(0, .ref (z + k)), (1, .int (nI d))] rfl ?_
  intro pg ev sg mg bel me cg C hR0
  have hv := hs.2 s.2.1
  have hp5 := hs.1
  refine x_aload_n C (pc := 0) 0 dX4_takeDigit_0 rfl ?_
  refine x_get C (pc := 1) (q := k) (v := .ref (z + (k + 1))) (ci := 4) rfl hn_X4_takeDigit_X4 0 (by decide) fl_X4_takeDigit_11 rfl (by omega) hR.ob rfl dX4_takeDigit_1 ?_
  refine x_aload_n C (pc := 4) 0 dX4_takeDigit_4 rfl ?_
  refine x_get C (pc := 5) (q := k) (v := .int (nI s.2.1)) (ci := 4) rfl hn_X4_takeDigit_X4 1 (by decide) fl_X4_takeDigit_21 rfl (by omega) hR.ob rfl dX4_takeDigit_5 ?_
  refine x_ialdE C (pc := 8) (q := k + 1) (j := s.2.1) (f := (fun i => nI (s.1 i))) (by omega) hR.nu rfl (by omega) (by decide) dX4_takeDigit_8 ?_
  refine x_istore_n C (pc := 9) [(2, .int (nI (s.1 s.2.1))), (0, .ref (z + k)), (1, .int (nI d))] dX4_takeDigit_9 (by decide) rfl ?_
  refine x_aload_n C (pc := 10) 1 dX4_takeDigit_10 rfl ?_
  refine x_get C (pc := 11) (q := k) (v := .int (bz s.2.2)) (ci := 4) rfl hn_X4_takeDigit_X4 2 (by decide) fl_X4_takeDigit_25 rfl (by omega) hR.ob rfl dX4_takeDigit_11 ?_
  refine x_bz_eq C (pc := 14) (tgt := 25) dX4_takeDigit_14 (by decide) (fun c_14 => ?_) (fun c_14 => ?_)
  · refine x_iconst C (pc := 25) (v := 0) dX4_takeDigit_25 (by decide) ?_
    refine x_istore_n C (pc := 26) [(3, .int 0), (2, .int (nI (s.1 s.2.1))), (0, .ref (z + k)), (1, .int (nI d))] dX4_takeDigit_26 (by decide) rfl ?_
    refine x_iload_n C (pc := 27) 0 dX4_takeDigit_27 rfl ?_
    refine x_ifN_ne C (a := 0) (pc := 28) (tgt := 43) (by decide) dX4_takeDigit_28 (by decide) (fun h_ => absurd h_ (by decide)) (fun _ => ?_)
    refine x_iload_n C (pc := 31) 1 dX4_takeDigit_31 rfl ?_
    refine x_bipush C (pc := 32) (v := 10) dX4_takeDigit_32 (by decide) ?_
    refine x_imul C (pc := 34) (v := nI (s.1 s.2.1 * 10)) dX4_takeDigit_34 (pk_mul (s.1 s.2.1) 10) ?_
    refine x_iload_n C (pc := 35) 3 dX4_takeDigit_35 rfl ?_
    refine x_iadd C (pc := 36) (v := nI (s.1 s.2.1 * 10 + d)) dX4_takeDigit_36 (nI_add (s.1 s.2.1 * 10) d) ?_
    refine x_sipush C (pc := 37) (v := 999) dX4_takeDigit_37 (by decide) ?_
    refine x_icmpN_le C (a := s.1 s.2.1 * 10 + d) (b := 999) (pc := 40) (tgt := 45) (by omega) (by omega) dX4_takeDigit_40 (by decide) (fun c_40 => ?_) (fun c_40 => ?_)
    · have hso : tdF s d = some (va_up s.1 s.2.1 (s.1 s.2.1 * 10 + d), s.2.1, true) := by
        unfold tdF
        rw [if_neg]
        rintro (⟨q1, q2⟩ | q)
        · first | exact c_18 q2 | (rw [c_14] at q1; cases q1)
        · omega
      refine x_aload_n C (pc := 45) 2 dX4_takeDigit_45 rfl ?_
      refine x_get C (pc := 46) (q := k) (v := .ref (z + (k + 1))) (ci := 4) rfl hn_X4_takeDigit_X4 0 (by decide) fl_X4_takeDigit_11 rfl (by omega) hR.ob rfl dX4_takeDigit_46 ?_
      refine x_aload_n C (pc := 49) 2 dX4_takeDigit_49 rfl ?_
      refine x_get C (pc := 50) (q := k) (v := .int (nI s.2.1)) (ci := 4) rfl hn_X4_takeDigit_X4 1 (by decide) fl_X4_takeDigit_21 rfl (by omega) hR.ob rfl dX4_takeDigit_50 ?_
      refine x_iload_n C (pc := 53) 1 dX4_takeDigit_53 rfl ?_
      refine x_bipush C (pc := 54) (v := 10) dX4_takeDigit_54 (by decide) ?_
      refine x_imul C (pc := 56) (v := nI (s.1 s.2.1 * 10)) dX4_takeDigit_56 (pk_mul (s.1 s.2.1) 10) ?_
      refine x_iload_n C (pc := 57) 3 dX4_takeDigit_57 rfl ?_
      refine x_iadd C (pc := 58) (v := nI (s.1 s.2.1 * 10 + d)) dX4_takeDigit_58 (nI_add (s.1 s.2.1 * 10) d) ?_
      refine xw_isRea_nu C (pc := 59) (j := s.2.1) hR (by omega) rfl (by omega) dX4_takeDigit_59 (fun F_59 hR_59 fr_59 => ?_)
      refine x_aload_n C (pc := 60) 2 dX4_takeDigit_60 rfl ?_
      refine x_iconst C (pc := 61) (v := 1) dX4_takeDigit_61 (by decide) ?_
      refine xw_X4_2 C (pc := 62) hn_X4_takeDigit_X4 fl_X4_takeDigit_25 hR_59 (by omega) (Or.inr rfl) dX4_takeDigit_62 (fun F_62 hR_62 fr_62 => ?_)
      refine x_iconst C (pc := 65) (v := 1) dX4_takeDigit_65 (by decide) ?_
      exact x_iret C hR0 rfl (Nat.le_of_ble_eq_true rfl) (Nat.le_of_ble_eq_true rfl) ⟨(by rw [hso]; rfl), rfl, (by rw [hso]; exact ⟨(by have h9 := hR_62; rw [updN] at h9; exact h9), (gFr.t2 fr_59 fr_62)⟩)⟩ dX4_takeDigit_66
    have hno : tdF s d = none := by unfold tdF; rw [if_pos (by first | exact Or.inr (by omega) | exact Or.inl ⟨c_14, by omega⟩)]
    refine x_iconst C (pc := 43) (v := 0) dX4_takeDigit_43 (by decide) ?_
    exact x_iret C hR0 rfl (Nat.le_of_ble_eq_true rfl) (Nat.le_of_ble_eq_true rfl) ⟨(by rw [hno]; rfl), rfl, (by rw [hno]; exact ⟨hR, gFr.rf⟩)⟩ dX4_takeDigit_44
  refine x_iload_n C (pc := 17) 0 dX4_takeDigit_17 rfl ?_
  refine x_ifN_ne C (a := s.1 s.2.1) (pc := 18) (tgt := 25) (by omega) dX4_takeDigit_18 (by decide) (fun c_18 => ?_) (fun c_18 => ?_)
  · refine x_iconst C (pc := 25) (v := 0) dX4_takeDigit_25 (by decide) ?_
    refine x_istore_n C (pc := 26) [(3, .int 0), (2, .int (nI (s.1 s.2.1))), (0, .ref (z + k)), (1, .int (nI d))] dX4_takeDigit_26 (by decide) rfl ?_
    refine x_iload_n C (pc := 27) 0 dX4_takeDigit_27 rfl ?_
    refine x_ifN_ne C (a := 0) (pc := 28) (tgt := 43) (by decide) dX4_takeDigit_28 (by decide) (fun h_ => absurd h_ (by decide)) (fun _ => ?_)
    refine x_iload_n C (pc := 31) 1 dX4_takeDigit_31 rfl ?_
    refine x_bipush C (pc := 32) (v := 10) dX4_takeDigit_32 (by decide) ?_
    refine x_imul C (pc := 34) (v := nI (s.1 s.2.1 * 10)) dX4_takeDigit_34 (pk_mul (s.1 s.2.1) 10) ?_
    refine x_iload_n C (pc := 35) 3 dX4_takeDigit_35 rfl ?_
    refine x_iadd C (pc := 36) (v := nI (s.1 s.2.1 * 10 + d)) dX4_takeDigit_36 (nI_add (s.1 s.2.1 * 10) d) ?_
    refine x_sipush C (pc := 37) (v := 999) dX4_takeDigit_37 (by decide) ?_
    refine x_icmpN_le C (a := s.1 s.2.1 * 10 + d) (b := 999) (pc := 40) (tgt := 45) (by omega) (by omega) dX4_takeDigit_40 (by decide) (fun c_40 => ?_) (fun c_40 => ?_)
    · have hso : tdF s d = some (va_up s.1 s.2.1 (s.1 s.2.1 * 10 + d), s.2.1, true) := by
        unfold tdF
        rw [if_neg]
        rintro (⟨q1, q2⟩ | q)
        · first | exact c_18 q2 | (rw [c_14] at q1; cases q1)
        · omega
      refine x_aload_n C (pc := 45) 2 dX4_takeDigit_45 rfl ?_
      refine x_get C (pc := 46) (q := k) (v := .ref (z + (k + 1))) (ci := 4) rfl hn_X4_takeDigit_X4 0 (by decide) fl_X4_takeDigit_11 rfl (by omega) hR.ob rfl dX4_takeDigit_46 ?_
      refine x_aload_n C (pc := 49) 2 dX4_takeDigit_49 rfl ?_
      refine x_get C (pc := 50) (q := k) (v := .int (nI s.2.1)) (ci := 4) rfl hn_X4_takeDigit_X4 1 (by decide) fl_X4_takeDigit_21 rfl (by omega) hR.ob rfl dX4_takeDigit_50 ?_
      refine x_iload_n C (pc := 53) 1 dX4_takeDigit_53 rfl ?_
      refine x_bipush C (pc := 54) (v := 10) dX4_takeDigit_54 (by decide) ?_
      refine x_imul C (pc := 56) (v := nI (s.1 s.2.1 * 10)) dX4_takeDigit_56 (pk_mul (s.1 s.2.1) 10) ?_
      refine x_iload_n C (pc := 57) 3 dX4_takeDigit_57 rfl ?_
      refine x_iadd C (pc := 58) (v := nI (s.1 s.2.1 * 10 + d)) dX4_takeDigit_58 (nI_add (s.1 s.2.1 * 10) d) ?_
      refine xw_isRea_nu C (pc := 59) (j := s.2.1) hR (by omega) rfl (by omega) dX4_takeDigit_59 (fun F_59 hR_59 fr_59 => ?_)
      refine x_aload_n C (pc := 60) 2 dX4_takeDigit_60 rfl ?_
      refine x_iconst C (pc := 61) (v := 1) dX4_takeDigit_61 (by decide) ?_
      refine xw_X4_2 C (pc := 62) hn_X4_takeDigit_X4 fl_X4_takeDigit_25 hR_59 (by omega) (Or.inr rfl) dX4_takeDigit_62 (fun F_62 hR_62 fr_62 => ?_)
      refine x_iconst C (pc := 65) (v := 1) dX4_takeDigit_65 (by decide) ?_
      exact x_iret C hR0 rfl (Nat.le_of_ble_eq_true rfl) (Nat.le_of_ble_eq_true rfl) ⟨(by rw [hso]; rfl), rfl, (by rw [hso]; exact ⟨(by have h9 := hR_62; rw [updN] at h9; exact h9), (gFr.t2 fr_59 fr_62)⟩)⟩ dX4_takeDigit_66
    have hno : tdF s d = none := by unfold tdF; rw [if_pos (by first | exact Or.inr (by omega) | exact Or.inl ⟨c_14, by omega⟩)]
    refine x_iconst C (pc := 43) (v := 0) dX4_takeDigit_43 (by decide) ?_
    exact x_iret C hR0 rfl (Nat.le_of_ble_eq_true rfl) (Nat.le_of_ble_eq_true rfl) ⟨(by rw [hno]; rfl), rfl, (by rw [hno]; exact ⟨hR, gFr.rf⟩)⟩ dX4_takeDigit_44
  refine x_iconst C (pc := 21) (v := 1) dX4_takeDigit_21 (by decide) ?_
  refine x_goto C (pc := 22) (tgt := 26) dX4_takeDigit_22 (by decide) ?_
  refine x_istore_n C (pc := 26) [(3, .int 1), (2, .int (nI (s.1 s.2.1))), (0, .ref (z + k)), (1, .int (nI d))] dX4_takeDigit_26 (by decide) rfl ?_
  refine x_iload_n C (pc := 27) 0 dX4_takeDigit_27 rfl ?_
  refine x_ifN_ne C (a := 1) (pc := 28) (tgt := 43) (by decide) dX4_takeDigit_28 (by decide) (fun h_ => ?_) (fun h_ => absurd h_ (by decide))
  have hno : tdF s d = none := by unfold tdF; rw [if_pos (by first | exact Or.inr (by omega) | exact Or.inl ⟨c_14, by omega⟩)]
  refine x_iconst C (pc := 43) (v := 0) dX4_takeDigit_43 (by decide) ?_
  exact x_iret C hR0 rfl (Nat.le_of_ble_eq_true rfl) (Nat.le_of_ble_eq_true rfl) ⟨(by rw [hno]; rfl), rfl, (by rw [hno]; exact ⟨hR, gFr.rf⟩)⟩ dX4_takeDigit_44
set_option maxHeartbeats 4000000 in
set_option maxRecDepth 100000 in
theorem c_X4_mayEndBehind (l : Launch) (D : va_G) (z : Nat) (cI cZ cP cR : ClassId) (N : Nat) (F : Nat → va_E) (pt : Nat) (hp : pt < 5) : gMi l yX4_mayEndBehind wsX4_mayEndBehind ({ frames := 0, cells := 0, slots := 0, locals := 0 }) D z cI cZ cP cR N F [.int (nI pt)] (gRes (bz (mayE pt)) N (fun F2 => F2 = F)) 0 0 := by
  refine gMi.of (cc := cX4_mayEndBehind) (maxL := 1) (ret := (some .boolean)) (by decide) rfl (Nat.le_of_ble_eq_true rfl) [(0, .int (nI pt))] rfl ?_
  intro pg ev sg mg bel me cg C hR0
  refine x_iload_n C (pc := 0) 0 dX4_mayEndBehind_0 rfl ?_
  refine x_iconst C (pc := 1) (v := 1) dX4_mayEndBehind_1 (by decide) ?_
  refine x_icmpN_eq C (a := pt) (b := 1) (pc := 2) (tgt := 15) (by omega) (by omega) dX4_mayEndBehind_2 (by decide) (fun c_2 => ?_) (fun c_2 => ?_)
  · refine x_iconst C (pc := 15) (v := 1) dX4_mayEndBehind_15 (by decide) ?_
    refine x_goto C (pc := 16) (tgt := 20) dX4_mayEndBehind_16 (by decide) ?_
    exact x_iret C hR0 rfl (Nat.le_of_ble_eq_true rfl) (Nat.le_of_ble_eq_true rfl) ⟨(by simp [mayE, *, bz]), rfl, rfl⟩ dX4_mayEndBehind_20
  refine x_iload_n C (pc := 5) 0 dX4_mayEndBehind_5 rfl ?_
  refine x_iconst C (pc := 6) (v := 2) dX4_mayEndBehind_6 (by decide) ?_
  refine x_icmpN_eq C (a := pt) (b := 2) (pc := 7) (tgt := 15) (by omega) (by omega) dX4_mayEndBehind_7 (by decide) (fun c_7 => ?_) (fun c_7 => ?_)
  · refine x_iconst C (pc := 15) (v := 1) dX4_mayEndBehind_15 (by decide) ?_
    refine x_goto C (pc := 16) (tgt := 20) dX4_mayEndBehind_16 (by decide) ?_
    exact x_iret C hR0 rfl (Nat.le_of_ble_eq_true rfl) (Nat.le_of_ble_eq_true rfl) ⟨(by simp [mayE, *, bz]), rfl, rfl⟩ dX4_mayEndBehind_20
  refine x_iload_n C (pc := 10) 0 dX4_mayEndBehind_10 rfl ?_
  refine x_iconst C (pc := 11) (v := 4) dX4_mayEndBehind_11 (by decide) ?_
  refine x_icmpN_ne C (a := pt) (b := 4) (pc := 12) (tgt := 19) (by omega) (by omega) dX4_mayEndBehind_12 (by decide) (fun c_12 => ?_) (fun c_12 => ?_)
  · refine x_iconst C (pc := 19) (v := 0) dX4_mayEndBehind_19 (by decide) ?_
    exact x_iret C hR0 rfl (Nat.le_of_ble_eq_true rfl) (Nat.le_of_ble_eq_true rfl) ⟨(by simp [mayE, *, bz]), rfl, rfl⟩ dX4_mayEndBehind_20
  refine x_iconst C (pc := 15) (v := 1) dX4_mayEndBehind_15 (by decide) ?_
  refine x_goto C (pc := 16) (tgt := 20) dX4_mayEndBehind_16 (by decide) ?_
  exact x_iret C hR0 rfl (Nat.le_of_ble_eq_true rfl) (Nat.le_of_ble_eq_true rfl) ⟨(by simp [mayE, *, bz]), rfl, rfl⟩ dX4_mayEndBehind_20
theorem fl_X4_partBehind_21 : Cond.fieldLink RX4 21 "PileRecount$Reader" "part" "I" ∈ wsX4_partBehind := by decide +kernel
theorem hn_X4_partBehind_X4 : ∀ w ∈ wsX40, w ∈ wsX4_partBehind := fun _ h => List.mem_cons_of_mem _ (List.mem_append_right _ h)
set_option maxHeartbeats 4000000 in
set_option maxRecDepth 100000 in
theorem c_X4_partBehind (l : Launch) (D : va_G) (z : Nat) (cI cZ cP cR : ClassId) (N : Nat) (F : Nat → va_E) (k : Nat) (s : RS) (c : Nat) (hR : isReaS z cI F k s) (hk : k + 2 ≤ N) (hs : rsOK s) (hc : c < 128) : gMi l yX4_partBehind wsX4_partBehind ({ frames := 1, cells := 0, slots := 0, locals := 20 }) D z cI cZ cP cR N F [.ref (z + k), .int (nI c)] (gRes (opI (pbF s.2.1 c)) N (fun F2 => F2 = F)) 0 0 := by
  refine gMi.of (cc := cX4_partBehind) (maxL := 2) (ret := (some .int)) (by decide) rfl (Nat.le_of_ble_eq_true rfl) [(0, .ref (z + k)), (1, .int (nI c))] rfl ?_
  intro pg ev sg mg bel me cg C hR0
  have hv := hs.2 s.2.1
  have hp5 := hs.1
  refine x_iload_n C (pc := 0) 1 dX4_partBehind_0 rfl ?_
  by_cases h44 : c = 44
  · refine x_lookup C (pc := 1) (off := 35) (tgt := 36) dX4_partBehind_1 (by decide) (by rw [h44]; decide) (by decide) ?_
    refine x_aload_n C (pc := 36) 0 dX4_partBehind_36 rfl ?_
    refine x_get C (pc := 37) (q := k) (v := .int (nI s.2.1)) (ci := 4) rfl hn_X4_partBehind_X4 1 (by decide) fl_X4_partBehind_21 rfl (by omega) hR.ob rfl dX4_partBehind_37 ?_
    refine x_iconst C (pc := 40) (v := 2) dX4_partBehind_40 (by decide) ?_
    refine x_icmpN_eq C (a := s.2.1) (b := 2) (pc := 41) (tgt := 52) (by omega) (by omega) dX4_partBehind_41 (by decide) (fun c_41 => ?_) (fun c_41 => ?_)
    · refine x_bipush C (pc := 52) (v := (-6)) dX4_partBehind_52 (by decide) ?_
      refine x_goto C (pc := 54) (tgt := 63) dX4_partBehind_54 (by decide) ?_
      exact x_iret C hR0 rfl (Nat.le_of_ble_eq_true rfl) (Nat.le_of_ble_eq_true rfl) ⟨(by simp_all [pbF, opI] <;> rfl), rfl, rfl⟩ dX4_partBehind_63
    refine x_aload_n C (pc := 44) 0 dX4_partBehind_44 rfl ?_
    refine x_get C (pc := 45) (q := k) (v := .int (nI s.2.1)) (ci := 4) rfl hn_X4_partBehind_X4 1 (by decide) fl_X4_partBehind_21 rfl (by omega) hR.ob rfl dX4_partBehind_45 ?_
    refine x_iconst C (pc := 48) (v := 4) dX4_partBehind_48 (by decide) ?_
    refine x_icmpN_ne C (a := s.2.1) (b := 4) (pc := 49) (tgt := 57) (by omega) (by omega) dX4_partBehind_49 (by decide) (fun c_49 => ?_) (fun c_49 => ?_)
    · refine x_aload_n C (pc := 57) 0 dX4_partBehind_57 rfl ?_
      refine x_get C (pc := 58) (q := k) (v := .int (nI s.2.1)) (ci := 4) rfl hn_X4_partBehind_X4 1 (by decide) fl_X4_partBehind_21 rfl (by omega) hR.ob rfl dX4_partBehind_58 ?_
      refine x_iconst C (pc := 61) (v := 1) dX4_partBehind_61 (by decide) ?_
      refine x_iadd C (pc := 62) (v := nI (s.2.1 + 1)) dX4_partBehind_62 (nI_add s.2.1 1) ?_
      exact x_iret C hR0 rfl (Nat.le_of_ble_eq_true rfl) (Nat.le_of_ble_eq_true rfl) ⟨(by simp_all [pbF, opI] <;> rfl), rfl, rfl⟩ dX4_partBehind_63
    refine x_bipush C (pc := 52) (v := (-6)) dX4_partBehind_52 (by decide) ?_
    refine x_goto C (pc := 54) (tgt := 63) dX4_partBehind_54 (by decide) ?_
    exact x_iret C hR0 rfl (Nat.le_of_ble_eq_true rfl) (Nat.le_of_ble_eq_true rfl) ⟨(by simp_all [pbF, opI] <;> rfl), rfl, rfl⟩ dX4_partBehind_63
  by_cases h59 : c = 59
  · refine x_lookup C (pc := 1) (off := 86) (tgt := 87) dX4_partBehind_1 (by decide) (by rw [h59]; decide) (by decide) ?_
    refine x_aload_n C (pc := 87) 0 dX4_partBehind_87 rfl ?_
    refine x_get C (pc := 88) (q := k) (v := .int (nI s.2.1)) (ci := 4) rfl hn_X4_partBehind_X4 1 (by decide) fl_X4_partBehind_21 rfl (by omega) hR.ob rfl dX4_partBehind_88 ?_
    refine x_cSiR C (pc := 91) (st := []) (c_X4_mayEndBehind l D z cI cZ cP cR N F s.2.1 (by omega)) (va_cwS 1 C.2.2.2.2.1 gX4_partBehind_X4_mayEndBehind rfl rfl rfl hd_X4_mayEndBehind.2 ⟨Nat.le_of_ble_eq_true rfl, Nat.le_of_ble_eq_true rfl⟩) rfl rfl (Nat.le_of_ble_eq_true rfl) dX4_partBehind_91 ⟨Nat.le_of_ble_eq_true rfl, Nat.le_of_ble_eq_true rfl⟩ ?_
    refine x_bz_eq C (pc := 94) (tgt := 101) dX4_partBehind_94 (by decide) (fun c_94 => ?_) (fun c_94 => ?_)
    · refine x_bipush C (pc := 101) (v := (-6)) dX4_partBehind_101 (by decide) ?_
      exact x_iret C hR0 rfl (Nat.le_of_ble_eq_true rfl) (Nat.le_of_ble_eq_true rfl) ⟨(by simp_all [pbF, opI] <;> rfl), rfl, rfl⟩ dX4_partBehind_103
    refine x_iconst C (pc := 97) (v := 0) dX4_partBehind_97 (by decide) ?_
    refine x_goto C (pc := 98) (tgt := 103) dX4_partBehind_98 (by decide) ?_
    exact x_iret C hR0 rfl (Nat.le_of_ble_eq_true rfl) (Nat.le_of_ble_eq_true rfl) ⟨(by simp_all [pbF, opI] <;> rfl), rfl, rfl⟩ dX4_partBehind_103
  by_cases h61 : c = 61
  · refine x_lookup C (pc := 1) (off := 63) (tgt := 64) dX4_partBehind_1 (by decide) (by rw [h61]; decide) (by decide) ?_
    refine x_aload_n C (pc := 64) 0 dX4_partBehind_64 rfl ?_
    refine x_get C (pc := 65) (q := k) (v := .int (nI s.2.1)) (ci := 4) rfl hn_X4_partBehind_X4 1 (by decide) fl_X4_partBehind_21 rfl (by omega) hR.ob rfl dX4_partBehind_65 ?_
    refine x_iconst C (pc := 68) (v := 1) dX4_partBehind_68 (by decide) ?_
    refine x_icmpN_eq C (a := s.2.1) (b := 1) (pc := 69) (tgt := 80) (by omega) (by omega) dX4_partBehind_69 (by decide) (fun c_69 => ?_) (fun c_69 => ?_)
    · refine x_iconst C (pc := 80) (v := 3) dX4_partBehind_80 (by decide) ?_
      refine x_goto C (pc := 81) (tgt := 86) dX4_partBehind_81 (by decide) ?_
      exact x_iret C hR0 rfl (Nat.le_of_ble_eq_true rfl) (Nat.le_of_ble_eq_true rfl) ⟨(by simp_all [pbF, opI] <;> rfl), rfl, rfl⟩ dX4_partBehind_86
    refine x_aload_n C (pc := 72) 0 dX4_partBehind_72 rfl ?_
    refine x_get C (pc := 73) (q := k) (v := .int (nI s.2.1)) (ci := 4) rfl hn_X4_partBehind_X4 1 (by decide) fl_X4_partBehind_21 rfl (by omega) hR.ob rfl dX4_partBehind_73 ?_
    refine x_iconst C (pc := 76) (v := 2) dX4_partBehind_76 (by decide) ?_
    refine x_icmpN_ne C (a := s.2.1) (b := 2) (pc := 77) (tgt := 84) (by omega) (by omega) dX4_partBehind_77 (by decide) (fun c_77 => ?_) (fun c_77 => ?_)
    · refine x_bipush C (pc := 84) (v := (-6)) dX4_partBehind_84 (by decide) ?_
      exact x_iret C hR0 rfl (Nat.le_of_ble_eq_true rfl) (Nat.le_of_ble_eq_true rfl) ⟨(by simp_all [pbF, opI] <;> rfl), rfl, rfl⟩ dX4_partBehind_86
    refine x_iconst C (pc := 80) (v := 3) dX4_partBehind_80 (by decide) ?_
    refine x_goto C (pc := 81) (tgt := 86) dX4_partBehind_81 (by decide) ?_
    exact x_iret C hR0 rfl (Nat.le_of_ble_eq_true rfl) (Nat.le_of_ble_eq_true rfl) ⟨(by simp_all [pbF, opI] <;> rfl), rfl, rfl⟩ dX4_partBehind_86
  refine x_lookup C (pc := 1) (off := 103) (tgt := 104) dX4_partBehind_1 (by decide) ((lv_osw (k := 44) (fun q => h44 ((nI_eq (a := c) (b := 44) (by omega) (by decide)).mp q)) rfl).trans ((lv_osw (k := 59) (fun q => h59 ((nI_eq (a := c) (b := 59) (by omega) (by decide)).mp q)) rfl).trans (lv_osw (k := 61) (fun q => h61 ((nI_eq (a := c) (b := 61) (by omega) (by decide)).mp q)) rfl))) (by decide) ?_
  refine x_bipush C (pc := 104) (v := (-6)) dX4_partBehind_104 (by decide) ?_
  exact x_iret C hR0 rfl (Nat.le_of_ble_eq_true rfl) (Nat.le_of_ble_eq_true rfl) ⟨(by simp_all [pbF, opI] <;> rfl), rfl, rfl⟩ dX4_partBehind_106
theorem fl_X4_takeSign_21 : Cond.fieldLink RX4 21 "PileRecount$Reader" "part" "I" ∈ wsX4_takeSign := by decide +kernel
theorem fl_X4_takeSign_25 : Cond.fieldLink RX4 25 "PileRecount$Reader" "hasDigit" "Z" ∈ wsX4_takeSign := by decide +kernel
theorem hn_X4_takeSign_X4 : ∀ w ∈ wsX40, w ∈ wsX4_takeSign := fun _ h => List.mem_cons_of_mem _ (List.mem_append_right _ h)
set_option maxHeartbeats 4000000 in
set_option maxRecDepth 100000 in
theorem c_X4_takeSign (l : Launch) (D : va_G) (z : Nat) (cI cZ cP cR : ClassId) (N : Nat) (F : Nat → va_E) (k : Nat) (s : RS) (c : Nat) (hR : isReaS z cI F k s) (hk : k + 2 ≤ N) (hs : rsOK s) (hc : c < 128) : gMi l yX4_takeSign wsX4_takeSign ({ frames := 2, cells := 0, slots := 0, locals := 43 }) D z cI cZ cP cR N F [.ref (z + k), .int (nI c)] (gRes (bz (tsF s c).isSome) N (fun F2 => isReaS z cI F2 k (sND (tsF s c) s) ∧ gFr k (k + 2) F F2)) 0 0 := by
  refine gMi.of (cc := cX4_takeSign) (maxL := 3) (ret := (some .boolean)) (by decide) rfl (Nat.le_of_ble_eq_true rfl) [(0, .ref (z + k)), (1, .int (nI c))] rfl ?_
  intro pg ev sg mg bel me cg C hR0
  refine x_aload_n C (pc := 0) 0 dX4_takeSign_0 rfl ?_
  refine x_iload_n C (pc := 1) 1 dX4_takeSign_1 rfl ?_
  refine x_cViR C (pc := 2) (st := []) (c_X4_partBehind l D z cI cZ cP cR N F k s c hR (by omega) hs (by omega)) (cwV 1 C.2.2.2.2.1 gX4_takeSign_X4_partBehind rfl rfl rfl hd_X4_partBehind ⟨Nat.le_of_ble_eq_true rfl, Nat.le_of_ble_eq_true rfl⟩) (by omega) hR.ob rfl rfl rfl (Nat.le_of_ble_eq_true rfl) dX4_takeSign_2 ⟨Nat.le_of_ble_eq_true rfl, Nat.le_of_ble_eq_true rfl⟩ ?_
  refine x_istore_n C (pc := 5) [(2, .int (opI (pbF s.2.1 c))), (0, .ref (z + k)), (1, .int (nI c))] dX4_takeSign_5 (by decide) rfl ?_
  refine x_aload_n C (pc := 6) 1 dX4_takeSign_6 rfl ?_
  refine x_get C (pc := 7) (q := k) (v := .int (bz s.2.2)) (ci := 4) rfl hn_X4_takeSign_X4 2 (by decide) fl_X4_takeSign_25 rfl (by omega) hR.ob rfl dX4_takeSign_7 ?_
  refine x_bz_eq C (pc := 10) (tgt := 19) dX4_takeSign_10 (by decide) (fun c_10 => ?_) (fun c_10 => ?_)
  · have hno : tsF s c = none := by
      unfold tsF
      first
        | (rw [c_10]; split <;> rfl)
        | (split
           · rfl
           · rename_i nx hnx; rw [hnx] at c_16; exact absurd c_16 (nI_nm6 (by have := pbF_lt hs.1 hnx; omega)))
    refine x_iconst C (pc := 19) (v := 0) dX4_takeSign_19 (by decide) ?_
    exact x_iret C hR0 rfl (Nat.le_of_ble_eq_true rfl) (Nat.le_of_ble_eq_true rfl) ⟨(by rw [hno]; rfl), rfl, (by rw [hno]; exact ⟨hR, gFr.rf⟩)⟩ dX4_takeSign_20
  refine x_iload_n C (pc := 13) 0 dX4_takeSign_13 rfl ?_
  refine x_bipush C (pc := 14) (v := (-6)) dX4_takeSign_14 (by decide) ?_
  refine x_icmp_ne C (pc := 16) (tgt := 21) dX4_takeSign_16 (by decide) (fun c_16 => ?_) (fun c_16 => ?_)
  · obtain ⟨nx, hnx⟩ := opI_nn c_16
    have hn5 := pbF_lt hs.1 hnx
    refine x_eqL [(2, .int (nI nx)), (0, .ref (z + k)), (1, .int (nI c))] (by rw [hnx]; rfl) ?_
    refine x_iload_n C (pc := 21) 0 dX4_takeSign_21 rfl ?_
    refine x_ifN_ne C (a := nx) (pc := 22) (tgt := 29) (by omega) dX4_takeSign_22 (by decide) (fun c_22 => ?_) (fun c_22 => ?_)
    · have hso : tsF s c = some (if nx = 0 then (fun _ => 0) else s.1, nx, false) := by unfold tsF; rw [hnx]; dsimp only; rw [if_neg (by rw [c_10]; decide)]
      refine x_aload_n C (pc := 29) 1 dX4_takeSign_29 rfl ?_
      refine x_iload_n C (pc := 30) 0 dX4_takeSign_30 rfl ?_
      refine xw_X4_1 C (pc := 31) hn_X4_takeSign_X4 fl_X4_takeSign_21 hR (by omega) dX4_takeSign_31 (fun F_31 hR_31 fr_31 => ?_)
      refine x_aload_n C (pc := 34) 1 dX4_takeSign_34 rfl ?_
      refine x_iconst C (pc := 35) (v := 0) dX4_takeSign_35 (by decide) ?_
      refine xw_X4_2 C (pc := 36) hn_X4_takeSign_X4 fl_X4_takeSign_25 hR_31 (by omega) (Or.inl rfl) dX4_takeSign_36 (fun F_36 hR_36 fr_36 => ?_)
      refine x_iconst C (pc := 39) (v := 1) dX4_takeSign_39 (by decide) ?_
      exact x_iret C hR0 rfl (Nat.le_of_ble_eq_true rfl) (Nat.le_of_ble_eq_true rfl) ⟨(by rw [hso]; rfl), rfl, (by rw [hso]; simp only [sND, Option.getD_some, if_neg c_22]; exact ⟨hR_36, (gFr.t2 fr_31 fr_36)⟩)⟩ dX4_takeSign_40
    refine x_aload_n C (pc := 25) 1 dX4_takeSign_25 rfl ?_
    refine x_cVvE C (pc := 26) (st := []) (c_X4_start l D z cI cZ cP cR N F k (nI s.2.1) (bz s.2.2) (fun i => nI (s.1 i)) hR (by omega)) (cwV 0 C.2.2.2.2.1 gX4_takeSign_X4_start rfl rfl rfl hd_X4_start ⟨Nat.le_of_ble_eq_true rfl, Nat.le_of_ble_eq_true rfl⟩) (by omega) hR.ob rfl rfl rfl (Nat.le_of_ble_eq_true rfl) dX4_takeSign_26 ⟨Nat.le_of_ble_eq_true rfl, Nat.le_of_ble_eq_true rfl⟩ (fun F_26 h_26 => ?_)
    obtain ⟨hR_26, fr_26⟩ := h_26
    have hso : tsF s c = some (if nx = 0 then (fun _ => 0) else s.1, nx, false) := by unfold tsF; rw [hnx]; dsimp only; rw [if_neg (by rw [c_10]; decide)]
    refine x_aload_n C (pc := 29) 1 dX4_takeSign_29 rfl ?_
    refine x_iload_n C (pc := 30) 0 dX4_takeSign_30 rfl ?_
    refine xw_X4_1 C (pc := 31) hn_X4_takeSign_X4 fl_X4_takeSign_21 hR_26 (by omega) dX4_takeSign_31 (fun F_31 hR_31 fr_31 => ?_)
    refine x_aload_n C (pc := 34) 1 dX4_takeSign_34 rfl ?_
    refine x_iconst C (pc := 35) (v := 0) dX4_takeSign_35 (by decide) ?_
    refine xw_X4_2 C (pc := 36) hn_X4_takeSign_X4 fl_X4_takeSign_25 hR_31 (by omega) (Or.inl rfl) dX4_takeSign_36 (fun F_36 hR_36 fr_36 => ?_)
    refine x_iconst C (pc := 39) (v := 1) dX4_takeSign_39 (by decide) ?_
    exact x_iret C hR0 rfl (Nat.le_of_ble_eq_true rfl) (Nat.le_of_ble_eq_true rfl) ⟨(by rw [hso]; rfl), rfl, (by rw [hso]; simp only [sND, Option.getD_some, if_pos c_22]; exact ⟨hR_36, (gFr.t2 (gFr.t2 fr_26 fr_31) fr_36)⟩)⟩ dX4_takeSign_40
  have hno : tsF s c = none := by
    unfold tsF
    first
      | (rw [c_10]; split <;> rfl)
      | (split
         · rfl
         · rename_i nx hnx; rw [hnx] at c_16; exact absurd c_16 (nI_nm6 (by have := pbF_lt hs.1 hnx; omega)))
  refine x_iconst C (pc := 19) (v := 0) dX4_takeSign_19 (by decide) ?_
  exact x_iret C hR0 rfl (Nat.le_of_ble_eq_true rfl) (Nat.le_of_ble_eq_true rfl) ⟨(by rw [hno]; rfl), rfl, (by rw [hno]; exact ⟨hR, gFr.rf⟩)⟩ dX4_takeSign_20
set_option maxHeartbeats 4000000 in
set_option maxRecDepth 100000 in
theorem c_X4_take (l : Launch) (D : va_G) (z : Nat) (cI cZ cP cR : ClassId) (N : Nat) (F : Nat → va_E) (k : Nat) (s : RS) (c : Nat) (hR : isReaS z cI F k s) (hk : k + 2 ≤ N) (hs : rsOK s) (hc : c < 128) : gMi l yX4_take wsX4_take ({ frames := 3, cells := 0, slots := 0, locals := 65 }) D z cI cZ cP cR N F [.ref (z + k), .int (nI c)] (gRes (bz (rsT s c).isSome) N (fun F2 => isReaS z cI F2 k (sND (rsT s c) s) ∧ gFr k (k + 2) F F2)) 0 0 := by
  refine gMi.of (cc := cX4_take) (maxL := 2) (ret := (some .boolean)) (by decide) rfl (Nat.le_of_ble_eq_true rfl) [(0, .ref (z + k)), (1, .int (nI c))] rfl ?_
  intro pg ev sg mg bel me cg C hR0
  refine x_iload_n C (pc := 0) 1 dX4_take_0 rfl ?_
  refine x_bipush C (pc := 1) (v := 48) dX4_take_1 (by decide) ?_
  refine x_icmpN_lt C (a := c) (b := 48) (pc := 3) (tgt := 23) (by omega) (by omega) dX4_take_3 (by decide) (fun c_3 => ?_) (fun c_3 => ?_)
  · have hrs : rsT s c = tsF s c := by rw [rsT, if_neg (by omega)]
    refine x_aload_n C (pc := 23) 0 dX4_take_23 rfl ?_
    refine x_iload_n C (pc := 24) 1 dX4_take_24 rfl ?_
    refine x_cViE C (pc := 25) (st := []) (c_X4_takeSign l D z cI cZ cP cR N F k s c hR (by omega) hs (by omega)) (cwV 1 C.2.2.2.2.1 gX4_take_X4_takeSign rfl rfl rfl hd_X4_takeSign ⟨Nat.le_of_ble_eq_true rfl, Nat.le_of_ble_eq_true rfl⟩) (by omega) hR.ob rfl rfl rfl (Nat.le_of_ble_eq_true rfl) dX4_take_25 ⟨Nat.le_of_ble_eq_true rfl, Nat.le_of_ble_eq_true rfl⟩ (fun F_25 h_25 => ?_)
    obtain ⟨hR_25, fr_25⟩ := h_25
    exact x_iret C hR0 (nar_bz _) (Nat.le_of_ble_eq_true rfl) (Nat.le_of_ble_eq_true rfl) ⟨(by rw [hrs]), rfl, (by rw [hrs]; exact ⟨hR_25, fr_25⟩)⟩ dX4_take_28
  refine x_iload_n C (pc := 6) 1 dX4_take_6 rfl ?_
  refine x_bipush C (pc := 7) (v := 57) dX4_take_7 (by decide) ?_
  refine x_icmpN_gt C (a := c) (b := 57) (pc := 9) (tgt := 23) (by omega) (by omega) dX4_take_9 (by decide) (fun c_9 => ?_) (fun c_9 => ?_)
  · have hrs : rsT s c = tsF s c := by rw [rsT, if_neg (by omega)]
    refine x_aload_n C (pc := 23) 0 dX4_take_23 rfl ?_
    refine x_iload_n C (pc := 24) 1 dX4_take_24 rfl ?_
    refine x_cViE C (pc := 25) (st := []) (c_X4_takeSign l D z cI cZ cP cR N F k s c hR (by omega) hs (by omega)) (cwV 1 C.2.2.2.2.1 gX4_take_X4_takeSign rfl rfl rfl hd_X4_takeSign ⟨Nat.le_of_ble_eq_true rfl, Nat.le_of_ble_eq_true rfl⟩) (by omega) hR.ob rfl rfl rfl (Nat.le_of_ble_eq_true rfl) dX4_take_25 ⟨Nat.le_of_ble_eq_true rfl, Nat.le_of_ble_eq_true rfl⟩ (fun F_25 h_25 => ?_)
    obtain ⟨hR_25, fr_25⟩ := h_25
    exact x_iret C hR0 (nar_bz _) (Nat.le_of_ble_eq_true rfl) (Nat.le_of_ble_eq_true rfl) ⟨(by rw [hrs]), rfl, (by rw [hrs]; exact ⟨hR_25, fr_25⟩)⟩ dX4_take_28
  have hrs : rsT s c = tdF s (c - 48) := by rw [rsT, if_pos ⟨by omega, by omega⟩]
  refine x_aload_n C (pc := 12) 0 dX4_take_12 rfl ?_
  refine x_iload_n C (pc := 13) 1 dX4_take_13 rfl ?_
  refine x_bipush C (pc := 14) (v := 48) dX4_take_14 (by decide) ?_
  refine x_isub C (pc := 16) (v := nI (c - 48)) dX4_take_16 (pk_sub (a := c) (b := 48) (by omega)) ?_
  refine x_cViE C (pc := 17) (st := []) (c_X4_takeDigit l D z cI cZ cP cR N F k s (c - 48) hR (by omega) hs (by omega)) (cwV 1 C.2.2.2.2.1 gX4_take_X4_takeDigit rfl rfl rfl hd_X4_takeDigit ⟨Nat.le_of_ble_eq_true rfl, Nat.le_of_ble_eq_true rfl⟩) (by omega) hR.ob rfl rfl rfl (Nat.le_of_ble_eq_true rfl) dX4_take_17 ⟨Nat.le_of_ble_eq_true rfl, Nat.le_of_ble_eq_true rfl⟩ (fun F_17 h_17 => ?_)
  obtain ⟨hR_17, fr_17⟩ := h_17
  refine x_goto C (pc := 20) (tgt := 28) dX4_take_20 (by decide) ?_
  exact x_iret C hR0 (nar_bz _) (Nat.le_of_ble_eq_true rfl) (Nat.le_of_ble_eq_true rfl) ⟨(by rw [hrs]), rfl, (by rw [hrs]; exact ⟨hR_17, fr_17⟩)⟩ dX4_take_28
theorem fl_X4_faultOf_21 : Cond.fieldLink RX4 21 "PileRecount$Reader" "part" "I" ∈ wsX4_faultOf := by decide +kernel
theorem fl_X4_faultOf_25 : Cond.fieldLink RX4 25 "PileRecount$Reader" "hasDigit" "Z" ∈ wsX4_faultOf := by decide +kernel
theorem fl_X4_faultOf_32 : Cond.fieldLink RX4 32 "PileRecount$Pad" "length" "I" ∈ wsX4_faultOf := by decide +kernel
theorem fl_X4_faultOf_37 : Cond.fieldLink RX4 37 "PileRecount$Pad" "codes" "[I" ∈ wsX4_faultOf := by decide +kernel
theorem hn_X4_faultOf_X2 : ∀ w ∈ wsX20, w ∈ wsX4_faultOf := fun _ h => List.mem_cons_of_mem _ (List.mem_append_left _ (List.mem_append_right _ h))
theorem hn_X4_faultOf_X4 : ∀ w ∈ wsX40, w ∈ wsX4_faultOf := fun _ h => List.mem_cons_of_mem _ (List.mem_append_right _ h)
set_option maxHeartbeats 4000000 in
set_option maxRecDepth 100000 in
theorem c_X4_faultOf (l : Launch) (D : va_G) (z : Nat) (cI cZ cP cR : ClassId) (N : Nat) (F : Nat → va_E) (k k2 len : Nat) (pt hd : Int32) (nu pa : Nat → Int32) (cd : Nat → Nat) (hR : isRea z cI F k pt hd nu) (hk : k + 2 ≤ N) (hP : isPad z cI F k2 (nI len) pa) (hk2 : k2 + 2 ≤ N) (hlen : len ≤ 80) (hcd : cdOK pa cd len) (hdis : k + 2 ≤ k2 ∨ k2 + 2 ≤ k) : gMi l yX4_faultOf wsX4_faultOf ({ frames := 4, cells := 0, slots := 0, locals := 86 }) D z cI cZ cP cR N F [.ref (z + k), .ref (z + k2)] (gRes (opI (fltG cd len len 0 rs0)) N (fun F2 => (∃ t, isReaS z cI F2 k t ∧ rsOK t) ∧ gFr k (k + 2) F F2)) 0 0 := by
  refine gMi.of (cc := cX4_faultOf) (maxL := 3) (ret := (some .int)) (by decide) rfl (Nat.le_of_ble_eq_true rfl) [(0, .ref (z + k)), (1, .ref (z + k2))] rfl ?_
  intro pg ev sg mg bel me cg C hR0
  refine x_aload_n C (pc := 0) 0 dX4_faultOf_0 rfl ?_
  refine x_cVvE C (pc := 1) (st := []) (c_X4_start l D z cI cZ cP cR N F k pt hd nu hR (by omega)) (cwV 0 C.2.2.2.2.1 gX4_faultOf_X4_start rfl rfl rfl hd_X4_start ⟨Nat.le_of_ble_eq_true rfl, Nat.le_of_ble_eq_true rfl⟩) (by omega) hR.ob rfl rfl rfl (Nat.le_of_ble_eq_true rfl) dX4_faultOf_1 ⟨Nat.le_of_ble_eq_true rfl, Nat.le_of_ble_eq_true rfl⟩ (fun F_1 h_1 => ?_)
  obtain ⟨hR_1, fr_1⟩ := h_1
  have hP_1 := hP.same (F2 := F_1) (fun q _ _ => fr_1 q (by omega))
  refine x_iconst C (pc := 4) (v := 0) dX4_faultOf_4 (by decide) ?_
  refine x_istore_n C (pc := 5) [(2, .int 0), (0, .ref (z + k)), (1, .ref (z + k2))] dX4_faultOf_5 (by decide) rfl ?_
  refine x_sub [1, 2, 0] _ rfl ?_
  refine x_loop3 (A1 := Nat) (A2 := RS) (A3 := Nat → va_E) (pc := 6) (st := []) (fun i t G => len - i) (fun i t G => (i ≤ len) ∧ (isReaS z cI G k t) ∧ (rsOK t) ∧ (gFr k (k + 2) F G) ∧ (fltG cd len (len - i) i t = fltG cd len len 0 rs0)) (fun i t G => N) (fun i t G => G) (fun i t G => 0) (fun i t G => 0) (fun i t G => [(0, .ref (z + k)), (1, .ref (z + k2)), (2, .int (nI i))]) 0 rs0 F_1 ⟨(Nat.zero_le _), hR_1, rs0_ok, fr_1, rfl⟩ rfl rfl rfl rfl rfl ?_
  rintro i t G ⟨hi, hG, ht, hfr, hfl⟩ ih_6
  try dsimp only at ih_6
  have hQ := hP.same (F2 := G) (fun q _ _ => hfr q (by omega))
  refine x_iload_n C (pc := 6) 2 dX4_faultOf_6 rfl ?_
  refine x_aload_n C (pc := 7) 1 dX4_faultOf_7 rfl ?_
  refine x_get C (pc := 8) (q := k2) (v := .int (nI len)) (ci := 2) rfl hn_X4_faultOf_X2 1 (by decide) fl_X4_faultOf_32 rfl (by omega) hQ.ob rfl dX4_faultOf_8 ?_
  refine x_icmpN_ge C (a := i) (b := len) (pc := 11) (tgt := 35) (by omega) (by omega) dX4_faultOf_11 (by decide) (fun c_11 => ?_) (fun c_11 => ?_)
  · refine x_aload_n C (pc := 35) 0 dX4_faultOf_35 rfl ?_
    refine x_get C (pc := 36) (q := k) (v := .int (bz t.2.2)) (ci := 4) rfl hn_X4_faultOf_X4 2 (by decide) fl_X4_faultOf_25 rfl (by omega) hG.ob rfl dX4_faultOf_36 ?_
    refine x_bz_eq C (pc := 39) (tgt := 57) dX4_faultOf_39 (by decide) (fun c_39 => ?_) (fun c_39 => ?_)
    · refine x_aload_n C (pc := 57) 1 dX4_faultOf_57 rfl ?_
      refine x_get C (pc := 58) (q := k2) (v := .int (nI len)) (ci := 2) rfl hn_X4_faultOf_X2 1 (by decide) fl_X4_faultOf_32 rfl (by omega) hQ.ob rfl dX4_faultOf_58 ?_
      exact x_iret C hR0 rfl (Nat.le_of_ble_eq_true rfl) (Nat.le_of_ble_eq_true rfl) ⟨(by rw [← hfl, show len - i = 0 by omega, fltG]; first | (rw [c_39, c_49]; rfl) | (rw [c_39]; rfl)), rfl, ⟨⟨_, hG, ht⟩, hfr⟩⟩ dX4_faultOf_61
    refine x_aload_n C (pc := 42) 0 dX4_faultOf_42 rfl ?_
    have ht5 := ht.1
    refine x_get C (pc := 43) (q := k) (v := .int (nI t.2.1)) (ci := 4) rfl hn_X4_faultOf_X4 1 (by decide) fl_X4_faultOf_21 rfl (by omega) hG.ob rfl dX4_faultOf_43 ?_
    refine x_cSiR C (pc := 46) (st := []) (c_X4_mayEndBehind l D z cI cZ cP cR N G t.2.1 (by omega)) (va_cwS 1 C.2.2.2.2.1 gX4_faultOf_X4_mayEndBehind rfl rfl rfl hd_X4_mayEndBehind.2 ⟨Nat.le_of_ble_eq_true rfl, Nat.le_of_ble_eq_true rfl⟩) rfl rfl (Nat.le_of_ble_eq_true rfl) dX4_faultOf_46 ⟨Nat.le_of_ble_eq_true rfl, Nat.le_of_ble_eq_true rfl⟩ ?_
    refine x_bz_eq C (pc := 49) (tgt := 57) dX4_faultOf_49 (by decide) (fun c_49 => ?_) (fun c_49 => ?_)
    · refine x_aload_n C (pc := 57) 1 dX4_faultOf_57 rfl ?_
      refine x_get C (pc := 58) (q := k2) (v := .int (nI len)) (ci := 2) rfl hn_X4_faultOf_X2 1 (by decide) fl_X4_faultOf_32 rfl (by omega) hQ.ob rfl dX4_faultOf_58 ?_
      exact x_iret C hR0 rfl (Nat.le_of_ble_eq_true rfl) (Nat.le_of_ble_eq_true rfl) ⟨(by rw [← hfl, show len - i = 0 by omega, fltG]; first | (rw [c_39, c_49]; rfl) | (rw [c_39]; rfl)), rfl, ⟨⟨_, hG, ht⟩, hfr⟩⟩ dX4_faultOf_61
    refine x_bipush C (pc := 52) (v := (-6)) dX4_faultOf_52 (by decide) ?_
    refine x_goto C (pc := 54) (tgt := 61) dX4_faultOf_54 (by decide) ?_
    exact x_iret C hR0 rfl (Nat.le_of_ble_eq_true rfl) (Nat.le_of_ble_eq_true rfl) ⟨(by rw [← hfl, show len - i = 0 by omega, fltG, c_39, c_49]; rfl), rfl, ⟨⟨_, hG, ht⟩, hfr⟩⟩ dX4_faultOf_61
  obtain ⟨hpc, hc128⟩ := hcd i (by omega)
  refine x_aload_n C (pc := 14) 0 dX4_faultOf_14 rfl ?_
  refine x_aload_n C (pc := 15) 1 dX4_faultOf_15 rfl ?_
  refine x_get C (pc := 16) (q := k2) (v := .ref (z + (k2 + 1))) (ci := 2) rfl hn_X4_faultOf_X2 0 (by decide) fl_X4_faultOf_37 rfl (by omega) hQ.ob rfl dX4_faultOf_16 ?_
  refine x_iload_n C (pc := 19) 2 dX4_faultOf_19 rfl ?_
  refine x_ialdE C (pc := 20) (q := k2 + 1) (j := i) (f := pa) (by omega) hQ.pa rfl (by omega) (by decide) dX4_faultOf_20 ?_
  refine x_eqi hpc ?_
  refine x_cViE C (pc := 21) (st := []) (c_X4_take l D z cI cZ cP cR N G k t (cd i) hG (by omega) ht (by omega)) (cwV 1 C.2.2.2.2.1 gX4_faultOf_X4_take rfl rfl rfl hd_X4_take ⟨Nat.le_of_ble_eq_true rfl, Nat.le_of_ble_eq_true rfl⟩) (by omega) hG.ob rfl rfl rfl (Nat.le_of_ble_eq_true rfl) dX4_faultOf_21 ⟨Nat.le_of_ble_eq_true rfl, Nat.le_of_ble_eq_true rfl⟩ (fun F_21 h_21 => ?_)
  obtain ⟨hG_21, fr_21⟩ := h_21
  have hQ_21 := hQ.same (F2 := F_21) (fun q _ _ => fr_21 q (by omega))
  refine x_bz_ne C (pc := 24) (tgt := 29) dX4_faultOf_24 (by decide) (fun c_24 => ?_) (fun c_24 => ?_)
  · obtain ⟨u, hu⟩ := Option.isSome_iff_exists.mp c_24
    have hst : fltG cd len (len - i) i t = fltG cd len (len - (i + 1)) (i + 1) u := by rw [show len - i = len - (i + 1) + 1 by omega, fltG, hu]
    refine x_iinc C (pc := 29) 2 [(2, .int (nI (i + 1))), (0, .ref (z + k)), (1, .ref (z + k2))] dX4_faultOf_29 rfl (nI_inc i) (by decide) rfl ?_
    refine x_goto C (pc := 32) (tgt := 6) dX4_faultOf_32 (by decide) ?_
    exact x_sub [1, 2, 0] _ rfl (ih_6 (i + 1) u F_21 ⟨(by omega), (by have h9 := hG_21; rw [hu] at h9; exact h9), (rsT_ok ht hu), (gFr.t2 hfr fr_21), (hst.symm.trans hfl)⟩ (by omega))
  refine x_iload_n C (pc := 27) 2 dX4_faultOf_27 rfl ?_
  exact x_iret C hR0 rfl (Nat.le_of_ble_eq_true rfl) (Nat.le_of_ble_eq_true rfl) ⟨(by rw [← hfl, show len - i = len - (i + 1) + 1 by omega, fltG, Option.isSome_eq_false_iff.mp c_24 |> Option.isNone_iff_eq_none.mp]; rfl), rfl, ⟨⟨_, hG_21, (sND_ok ht (fun v hv => rsT_ok ht hv))⟩, (gFr.t2 hfr fr_21)⟩⟩ dX4_faultOf_28
