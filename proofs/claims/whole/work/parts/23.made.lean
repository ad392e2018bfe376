theorem oc_X3_init : Cond.code objectInit ⟨#[0xb1]⟩ 1 none ∈ wsX3_init := by decide +kernel
theorem oi_X3_init : Cond.instanceMethod objectInit ∈ wsX3_init := by decide +kernel
theorem ol_X3_init : Cond.methodLink RX3 1 objectInit ∈ wsX3_init := by decide +kernel
set_option maxHeartbeats 4000000 in
set_option maxRecDepth 100000 in
theorem c_X3_init (l : Launch) (D : va_G) (z : Nat) (cI cZ cP cR : ClassId) (N : Nat) (F : Nat → va_E) (q : Nat) (hq : q < N) (hF : F q = .inr (3, [.int 0, .int 0, .int 0, .int 0, .int 0])) : gMv l yX3_init wsX3_init ({ frames := 1, cells := 0, slots := 0, locals := 12 }) D z cI cZ cP cR N F [.ref (z + q)] (gVoid N (fun F2 => F2 = F)) 0 0 := by
  refine gMv.of (cc := cX3_init) (maxL := 1) (ret := none) (by decide) rfl (Nat.le_of_ble_eq_true rfl) [(0, .ref (z + q))] rfl ?_
  intro pg ev sg mg bel me cg C hR0
  refine x_aload_n C (pc := 0) 0 dX3_init_0 rfl ?_
  refine x_objInit C (pc := 1) ol_X3_init oi_X3_init oc_X3_init dX3_init_1 (Nat.le_of_ble_eq_true rfl) (Nat.le_of_ble_eq_true rfl) ?_
  exact x_vret C hR0 (Nat.le_of_ble_eq_true rfl) (Nat.le_of_ble_eq_true rfl) ⟨rfl, rfl⟩ dX3_init_4
theorem ac_X5_init_I : Cond.arrayClass .int ∈ wsX5_init := by decide +kernel
theorem ci_X5_init_RX3 : Cond.instantiable RX3 5 ∈ wsX5_init := by decide +kernel
theorem cl_X5_init_9 : Cond.classLink RX5 9 RX3 ∈ wsX5_init := by decide +kernel
theorem fl_X5_init_11 : Cond.fieldLink RX5 11 "PileRecount$Recount" "rows" "[LPileRecount$Pile;" ∈ wsX5_init := by decide +kernel
theorem fl_X5_init_18 : Cond.fieldLink RX5 18 "PileRecount$Recount" "winner" "I" ∈ wsX5_init := by decide +kernel
theorem fl_X5_init_22 : Cond.fieldLink RX5 22 "PileRecount$Recount" "bySwing" "[I" ∈ wsX5_init := by decide +kernel
theorem fl_X5_init_26 : Cond.fieldLink RX5 26 "PileRecount$Recount" "order" "[I" ∈ wsX5_init := by decide +kernel
theorem fl_X5_init_29 : Cond.fieldLink RX5 29 "PileRecount$Recount" "riskLimit" "I" ∈ wsX5_init := by decide +kernel
theorem fl_X5_init_32 : Cond.fieldLink RX5 32 "PileRecount$Recount" "chooser" "I" ∈ wsX5_init := by decide +kernel
theorem hn_X5_init_X3 : ∀ w ∈ wsX30, w ∈ wsX5_init := fun _ h => List.mem_cons_of_mem _ (List.mem_append_right _ h)
theorem hn_X5_init_X5 : ∀ w ∈ wsX50, w ∈ wsX5_init := fun _ h => List.mem_cons_of_mem _ (List.mem_append_left _ (List.mem_append_right _ h))
theorem ni_X5_init_RX3 : Cond.initialized RX3 ∈ wsX5_init := by decide +kernel
theorem nt_X5_init_X3_init : Cond.instanceMethod yX3_init ∈ wsX5_init := by decide +kernel
theorem oc_X5_init : Cond.code objectInit ⟨#[0xb1]⟩ 1 none ∈ wsX5_init := by decide +kernel
theorem oi_X5_init : Cond.instanceMethod objectInit ∈ wsX5_init := by decide +kernel
theorem ol_X5_init : Cond.methodLink RX5 3 objectInit ∈ wsX5_init := by decide +kernel
set_option maxHeartbeats 4000000 in
set_option maxRecDepth 100000 in
theorem c_X5_init (l : Launch) (D : va_G) (z : Nat) (cI cZ cP cR : ClassId) (N : Nat) (F : Nat → va_E) (k : Nat) (hN : N = k + 1) (hF : F k = .inr (5, [.null, .int 0, .int 0, .null, .null, .int 0, .int 0, .int 0, .int 0, .int 0])) : gMv l yX5_init wsX5_init ({ frames := 2, cells := 13, slots := 80, locals := 32 }) D z cI cZ cP cR (k + 1) F [.ref (z + k)] (gVoid (k + 14) (fun F2 => isRec z cI cP F2 k 0 (-6) 0 0 500 1 0 (fun _ _ => 0) (fun _ => 0) (fun _ => 0) ∧ ∀ q, q < k → F2 q = F q)) 13 80 := by
  refine gMv.of (cc := cX5_init) (maxL := 2) (ret := none) (by decide) rfl (Nat.le_of_ble_eq_true rfl) [(0, .ref (z + k))] rfl ?_
  intro pg ev sg mg bel me cg C hR0
  subst hN
  have hlow : ∀ q, q < k → F q = F q := fun _ _ => rfl
  refine x_aload_n C (pc := 0) 0 dX5_init_0 rfl ?_
  refine x_objInit C (pc := 1) ol_X5_init oi_X5_init oc_X5_init dX5_init_1 (Nat.le_of_ble_eq_true rfl) (Nat.le_of_ble_eq_true rfl) ?_
  refine x_aload_n C (pc := 4) 0 dX5_init_4 rfl ?_
  refine x_bipush C (pc := 5) (v := 10) dX5_init_5 (by decide) ?_
  refine x_newQ C (pc := 7) (k0 := 10) 2 rfl cl_X5_init_9 C.2.2.2.2.2.1.2.2.1 rfl (by decide) (by show 0 + 1 ≤ 13; omega) (by show 0 + 10 ≤ 80; omega) dX5_init_7 ?_
  refine x_nameF (fun F_7 e_7 => ?_)
  have fr_7 : ∀ q, q ≠ (k + 1) → F_7 q = F q := fun q h => by rw [e_7, va_up_ne _ _ h]
  have up_7 : F_7 (k + 1) = .inl (cP, 10, .inr (.inr (.inr (.inr (fun _ => none))))) := by rw [e_7]; exact va_up_self _ _ _
  have hF_7 := (fr_7 k (by omega)).trans hF
  have hlow_7 : ∀ q, q < k → F_7 q = F q := fun q hq => (fr_7 q (by omega)).trans (hlow q hq)
  have hO7 := up_7
  refine x_putF C (pc := 10) (q := k) (v := .ref (z + (k + 1))) (ci := 5) rfl hn_X5_init_X5 tyX5 tyX5_ok nmX5 0 (by decide) fl_X5_init_11 rfl rfl hR0.2.2 rfl (ty := tyX5 0) (tyX5_ok 0 (by decide)) rfl rfl (Nat.le_of_ble_eq_true rfl) (by omega) hF_7 dX5_init_10 ?_
  refine x_nameF (fun F_10 e_10 => ?_)
  have fr_10 : ∀ q, q ≠ k → F_10 q = F_7 q := fun q h => by rw [e_10, va_up_ne _ _ h]
  have up_10 : F_10 k = .inr (5, [.ref (z + (k + 1)), .int 0, .int 0, .null, .null, .int 0, .int 0, .int 0, .int 0, .int 0]) := by rw [e_10]; exact va_up_self _ _ _
  have hlow_10 : ∀ q, q < k → F_10 q = F q := fun q hq => (fr_10 q (by omega)).trans (hlow_7 q hq)
  have hO7_10 := (fr_10 (k + 1) (by omega)).trans hO7
  have hO10 := up_10
  refine x_iconst C (pc := 13) (v := 0) dX5_init_13 (by decide) ?_
  refine x_istore_n C (pc := 14) [(1, .int 0), (0, .ref (z + k))] dX5_init_14 (by decide) rfl ?_
  refine x_sub [1, 0] _ rfl ?_
  refine x_loop3 (A1 := Nat) (A2 := Nat → va_E) (A3 := Nat → Option Nat) (pc := 15) (st := []) (fun i G g => 10 - i) (fun i G g => (i ≤ 10) ∧ (G k = .inr (5, [.ref (z + (k + 1)), .int 0, .int 0, .null, .null, .int 0, .int 0, .int 0, .int 0, .int 0])) ∧ (G (k + 1) = .inl (cP, 10, .inr (.inr (.inr (.inr g))))) ∧ (∀ q, q < i → g q = some (z + (k + 2 + q))) ∧ (∀ q, q < i → G (k + 2 + q) = .inr (3, [.int 0, .int 0, .int 0, .int 0, .int 0])) ∧ (∀ q, q < k → G q = F q)) (fun i G g => k + 2 + i) (fun i G g => G) (fun i G g => 1 + i) (fun i G g => 10 + 5 * i) (fun i G g => [(0, .ref (z + k)), (1, .int (nI i))]) 0 F_10 (fun _ => none) ⟨(by omega), hO10, hO7_10, (fun q h => absurd h (Nat.not_lt_zero q)), (fun q h => absurd h (Nat.not_lt_zero q)), hlow_10⟩ rfl rfl rfl rfl rfl ?_
  rintro i G g ⟨hi, hk, hg, hgi, hpl, hlow⟩ ih_15
  try dsimp only at ih_15
  refine x_iload_n C (pc := 15) 1 dX5_init_15 rfl ?_
  refine x_bipush C (pc := 16) (v := 10) dX5_init_16 (by decide) ?_
  refine x_icmpN_ge C (a := i) (b := 10) (pc := 18) (tgt := 40) (by omega) (by omega) dX5_init_18 (by decide) (fun c_18 => ?_) (fun c_18 => ?_)
  · have hi10 : i = 10 := by omega
    subst hi10
    refine x_cs (N2 := k + 12) (c2 := 11) (s2 := 60) (by omega) (by omega) (by omega) ?_
    refine x_aload_n C (pc := 40) 0 dX5_init_40 rfl ?_
    refine x_bipush C (pc := 41) (v := (-6)) dX5_init_41 (by decide) ?_
    refine x_put C (pc := 43) (q := k) (v := .int (-6)) (ci := 5) rfl hn_X5_init_X5 tyX5 tyX5_ok nmX5 2 (by decide) fl_X5_init_18 rfl rfl (ty := tyX5 2) (tyX5_ok 2 (by decide)) rfl rfl (Nat.le_of_ble_eq_true rfl) (by omega) hk dX5_init_43 ?_
    refine x_nameF (fun F_43 e_43 => ?_)
    have fr_43 : ∀ q, q ≠ k → F_43 q = G q := fun q h => by rw [e_43, va_up_ne _ _ h]
    have up_43 : F_43 k = .inr (5, [.ref (z + (k + 1)), .int 0, .int (-6), .null, .null, .int 0, .int 0, .int 0, .int 0, .int 0]) := by rw [e_43]; exact va_up_self _ _ _
    have hg_43 := (fr_43 (k + 1) (by omega)).trans hg
    have hpl_43 : ∀ q, q < 10 → F_43 (k + 2 + q) = .inr (3, [.int 0, .int 0, .int 0, .int 0, .int 0]) := fun q hq => (fr_43 (k + 2 + q) (by omega)).trans (hpl q hq)
    have hlow_43 : ∀ q, q < k → F_43 q = F q := fun q hq => (fr_43 q (by omega)).trans (hlow q hq)
    have hO43 := up_43
    refine x_aload_n C (pc := 46) 0 dX5_init_46 rfl ?_
    refine x_bipush C (pc := 47) (v := 10) dX5_init_47 (by decide) ?_
    refine x_newI C (pc := 49) (k0 := 10) ac_X5_init_I rfl (by decide) (by show 11 + 1 ≤ 13; omega) (by show 60 + 10 ≤ 80; omega) dX5_init_49 ?_
    refine x_nameF (fun F_49 e_49 => ?_)
    have fr_49 : ∀ q, q ≠ k + 12 → F_49 q = F_43 q := fun q h => by rw [e_49, va_up_ne _ _ h]
    have up_49 : F_49 (k + 12) = .inl (cI, 10, .inl (fun _ => 0)) := by rw [e_49]; exact va_up_self _ _ _
    have hg_49 := (fr_49 (k + 1) (by omega)).trans hg_43
    have hpl_49 : ∀ q, q < 10 → F_49 (k + 2 + q) = .inr (3, [.int 0, .int 0, .int 0, .int 0, .int 0]) := fun q hq => (fr_49 (k + 2 + q) (by omega)).trans (hpl_43 q hq)
    have hlow_49 : ∀ q, q < k → F_49 q = F q := fun q hq => (fr_49 q (by omega)).trans (hlow_43 q hq)
    have hO43_49 := (fr_49 k (by omega)).trans hO43
    have hA49 := eArr.of up_49
    refine x_putF C (pc := 51) (q := k) (v := .ref (z + (k + 12))) (ci := 5) rfl hn_X5_init_X5 tyX5 tyX5_ok nmX5 3 (by decide) fl_X5_init_22 rfl rfl hR0.2.2 rfl (ty := tyX5 3) (tyX5_ok 3 (by decide)) rfl rfl (Nat.le_of_ble_eq_true rfl) (by omega) hO43_49 dX5_init_51 ?_
    refine x_nameF (fun F_51 e_51 => ?_)
    have fr_51 : ∀ q, q ≠ k → F_51 q = F_49 q := fun q h => by rw [e_51, va_up_ne _ _ h]
    have up_51 : F_51 k = .inr (5, [.ref (z + (k + 1)), .int 0, .int (-6), .ref (z + (k + 12)), .null, .int 0, .int 0, .int 0, .int 0, .int 0]) := by rw [e_51]; exact va_up_self _ _ _
    have hg_51 := (fr_51 (k + 1) (by omega)).trans hg_49
    have hpl_51 : ∀ q, q < 10 → F_51 (k + 2 + q) = .inr (3, [.int 0, .int 0, .int 0, .int 0, .int 0]) := fun q hq => (fr_51 (k + 2 + q) (by omega)).trans (hpl_49 q hq)
    have hlow_51 : ∀ q, q < k → F_51 q = F q := fun q hq => (fr_51 q (by omega)).trans (hlow_49 q hq)
    have hA49_51 := (fr_51 (k + 12) (by omega)).symm ▸ hA49
    have hO51 := up_51
    refine x_aload_n C (pc := 54) 0 dX5_init_54 rfl ?_
    refine x_bipush C (pc := 55) (v := 10) dX5_init_55 (by decide) ?_
    refine x_newI C (pc := 57) (k0 := 10) ac_X5_init_I rfl (by decide) (by show 11 + 1 + 1 ≤ 13; omega) (by show 60 + 10 + 10 ≤ 80; omega) dX5_init_57 ?_
    refine x_nameF (fun F_57 e_57 => ?_)
    have fr_57 : ∀ q, q ≠ k + 13 → F_57 q = F_51 q := fun q h => by rw [e_57, va_up_ne _ _ h]
    have up_57 : F_57 (k + 13) = .inl (cI, 10, .inl (fun _ => 0)) := by rw [e_57]; exact va_up_self _ _ _
    have hg_57 := (fr_57 (k + 1) (by omega)).trans hg_51
    have hpl_57 : ∀ q, q < 10 → F_57 (k + 2 + q) = .inr (3, [.int 0, .int 0, .int 0, .int 0, .int 0]) := fun q hq => (fr_57 (k + 2 + q) (by omega)).trans (hpl_51 q hq)
    have hlow_57 : ∀ q, q < k → F_57 q = F q := fun q hq => (fr_57 q (by omega)).trans (hlow_51 q hq)
    have hA49_57 := (fr_57 (k + 12) (by omega)).symm ▸ hA49_51
    have hO51_57 := (fr_57 k (by omega)).trans hO51
    have hA57 := eArr.of up_57
    refine x_putF C (pc := 59) (q := k) (v := .ref (z + (k + 13))) (ci := 5) rfl hn_X5_init_X5 tyX5 tyX5_ok nmX5 4 (by decide) fl_X5_init_26 rfl rfl hR0.2.2 rfl (ty := tyX5 4) (tyX5_ok 4 (by decide)) rfl rfl (Nat.le_of_ble_eq_true rfl) (by omega) hO51_57 dX5_init_59 ?_
    refine x_nameF (fun F_59 e_59 => ?_)
    have fr_59 : ∀ q, q ≠ k → F_59 q = F_57 q := fun q h => by rw [e_59, va_up_ne _ _ h]
    have up_59 : F_59 k = .inr (5, [.ref (z + (k + 1)), .int 0, .int (-6), .ref (z + (k + 12)), .ref (z + (k + 13)), .int 0, .int 0, .int 0, .int 0, .int 0]) := by rw [e_59]; exact va_up_self _ _ _
    have hg_59 := (fr_59 (k + 1) (by omega)).trans hg_57
    have hpl_59 : ∀ q, q < 10 → F_59 (k + 2 + q) = .inr (3, [.int 0, .int 0, .int 0, .int 0, .int 0]) := fun q hq => (fr_59 (k + 2 + q) (by omega)).trans (hpl_57 q hq)
    have hlow_59 : ∀ q, q < k → F_59 q = F q := fun q hq => (fr_59 q (by omega)).trans (hlow_57 q hq)
    have hA49_59 := (fr_59 (k + 12) (by omega)).symm ▸ hA49_57
    have hA57_59 := (fr_59 (k + 13) (by omega)).symm ▸ hA57
    have hO59 := up_59
    refine x_aload_n C (pc := 62) 0 dX5_init_62 rfl ?_
    refine x_sipush C (pc := 63) (v := 500) dX5_init_63 (by decide) ?_
    refine x_put C (pc := 66) (q := k) (v := .int 500) (ci := 5) rfl hn_X5_init_X5 tyX5 tyX5_ok nmX5 7 (by decide) fl_X5_init_29 rfl rfl (ty := tyX5 7) (tyX5_ok 7 (by decide)) rfl rfl (Nat.le_of_ble_eq_true rfl) (by omega) hO59 dX5_init_66 ?_
    refine x_nameF (fun F_66 e_66 => ?_)
    have fr_66 : ∀ q, q ≠ k → F_66 q = F_59 q := fun q h => by rw [e_66, va_up_ne _ _ h]
    have up_66 : F_66 k = .inr (5, [.ref (z + (k + 1)), .int 0, .int (-6), .ref (z + (k + 12)), .ref (z + (k + 13)), .int 0, .int 0, .int 500, .int 0, .int 0]) := by rw [e_66]; exact va_up_self _ _ _
    have hg_66 := (fr_66 (k + 1) (by omega)).trans hg_59
    have hpl_66 : ∀ q, q < 10 → F_66 (k + 2 + q) = .inr (3, [.int 0, .int 0, .int 0, .int 0, .int 0]) := fun q hq => (fr_66 (k + 2 + q) (by omega)).trans (hpl_59 q hq)
    have hlow_66 : ∀ q, q < k → F_66 q = F q := fun q hq => (fr_66 q (by omega)).trans (hlow_59 q hq)
    have hA49_66 := (fr_66 (k + 12) (by omega)).symm ▸ hA49_59
    have hA57_66 := (fr_66 (k + 13) (by omega)).symm ▸ hA57_59
    have hO66 := up_66
    refine x_aload_n C (pc := 69) 0 dX5_init_69 rfl ?_
    refine x_iconst C (pc := 70) (v := 1) dX5_init_70 (by decide) ?_
    refine x_put C (pc := 71) (q := k) (v := .int 1) (ci := 5) rfl hn_X5_init_X5 tyX5 tyX5_ok nmX5 8 (by decide) fl_X5_init_32 rfl rfl (ty := tyX5 8) (tyX5_ok 8 (by decide)) rfl rfl (Nat.le_of_ble_eq_true rfl) (by omega) hO66 dX5_init_71 ?_
    refine x_nameF (fun F_71 e_71 => ?_)
    have fr_71 : ∀ q, q ≠ k → F_71 q = F_66 q := fun q h => by rw [e_71, va_up_ne _ _ h]
    have up_71 : F_71 k = .inr (5, [.ref (z + (k + 1)), .int 0, .int (-6), .ref (z + (k + 12)), .ref (z + (k + 13)), .int 0, .int 0, .int 500, .int 1, .int 0]) := by rw [e_71]; exact va_up_self _ _ _
    have hg_71 := (fr_71 (k + 1) (by omega)).trans hg_66
    have hpl_71 : ∀ q, q < 10 → F_71 (k + 2 + q) = .inr (3, [.int 0, .int 0, .int 0, .int 0, .int 0]) := fun q hq => (fr_71 (k + 2 + q) (by omega)).trans (hpl_66 q hq)
    have hlow_71 : ∀ q, q < k → F_71 q = F q := fun q hq => (fr_71 q (by omega)).trans (hlow_66 q hq)
    have hA49_71 := (fr_71 (k + 12) (by omega)).symm ▸ hA49_66
    have hA57_71 := (fr_71 (k + 13) (by omega)).symm ▸ hA57_66
    have hO71 := up_71
    exact x_vret C hR0 (Nat.le_of_ble_eq_true rfl) (Nat.le_of_ble_eq_true rfl) ⟨rfl, ⟨⟨hO71, ⟨g, hg_71, fun q hq => hgi q (by omega)⟩, fun q hq => hpl_71 q (by omega), hA49_71, hA57_71⟩, hlow_71⟩⟩ dX5_init_74
  refine x_aload_n C (pc := 21) 0 dX5_init_21 rfl ?_
  refine x_get C (pc := 22) (q := k) (v := .ref (z + (k + 1))) (ci := 5) rfl hn_X5_init_X5 0 (by decide) fl_X5_init_11 rfl (by omega) hk rfl dX5_init_22 ?_
  refine x_iload_n C (pc := 25) 1 dX5_init_25 rfl ?_
  refine x_new C (pc := 26) (ci := 3) (fs := [.int 0, .int 0, .int 0, .int 0, .int 0]) rfl hn_X5_init_X3 tyX3 tyX3_ok cl_X5_init_9 ci_X5_init_RX3 ni_X5_init_RX3 (fun j hj => by match j, hj with | 0, _ => rfl | 1, _ => rfl | 2, _ => rfl | 3, _ => rfl | 4, _ => rfl) (by show 1 + i + 1 ≤ 13; omega) (by show 10 + 5 * i + 5 ≤ 80; omega) dX5_init_26 ?_
  refine x_nameF (fun F_26 e_26 => ?_)
  have fr_26 : ∀ q, q ≠ k + 2 + i → F_26 q = G q := fun q h => by rw [e_26, va_up_ne _ _ h]
  have up_26 : F_26 (k + 2 + i) = .inr (3, [.int 0, .int 0, .int 0, .int 0, .int 0]) := by rw [e_26]; exact va_up_self _ _ _
  have hk_26 := (fr_26 k (by omega)).trans hk
  have hg_26 := (fr_26 (k + 1) (by omega)).trans hg
  have hpl_26 : ∀ q, q < i → F_26 (k + 2 + q) = .inr (3, [.int 0, .int 0, .int 0, .int 0, .int 0]) := fun q hq => (fr_26 (k + 2 + q) (by omega)).trans (hpl q hq)
  have hlow_26 : ∀ q, q < k → F_26 q = F q := fun q hq => (fr_26 q (by omega)).trans (hlow q hq)
  have hO26 := up_26
  refine x_dup C (pc := 29) dX5_init_29 rfl ?_
  refine x_cINvR C (pc := 30) (st := [.ref (z + (k + 2 + i)), .int (nI i), .ref (z + (k + 1))]) (c_X3_init l D z cI cZ cP cR (k + 2 + i + 1) F_26 (k + 2 + i) (by omega) hO26) ⟨va_cnB 0 C.2.2.2.2.1 gX5_init_X3_init_n17 rfl rfl rfl (C.2.2.2.2.2.1.2.1 _ (List.mem_of_getElem? (i := 6) rfl)) (C.2.2.2.2.1 _ ni_X5_init_RX3) hd_X3_init.2 ⟨Nat.le_of_ble_eq_true rfl, Nat.le_of_ble_eq_true rfl⟩, rfl, C.2.2.2.2.1 _ nt_X5_init_X3_init⟩ rfl rfl (Nat.le_of_ble_eq_true rfl) dX5_init_30 ⟨(by show 1 + i + 1 + 0 ≤ 13; omega), (by show 10 + 5 * i + 5 + 0 ≤ 80; omega)⟩ ?_
  refine x_aast C (pc := 33) (q := k + 1) (j := i) (q2 := k + 2 + i) 2 rfl (by omega) hg_26 (by omega) hO26 (ci := 3) (r := (RX3, TX3, 5)) rfl rfl (by omega) (by decide) dX5_init_33 ?_
  refine x_nameF (fun F_33 e_33 => ?_)
  have fr_33 : ∀ q, q ≠ k + 1 → F_33 q = F_26 q := fun q h => by rw [e_33, va_up_ne _ _ h]
  have up_33 : F_33 (k + 1) = .inl (cP, 10, .inr (.inr (.inr (.inr (va_up g i (some (z + (k + 2 + i)))))))) := by rw [e_33]; exact va_up_self _ _ _
  have hk_33 := (fr_33 k (by omega)).trans hk_26
  have hpl_33 : ∀ q, q < i → F_33 (k + 2 + q) = .inr (3, [.int 0, .int 0, .int 0, .int 0, .int 0]) := fun q hq => (fr_33 (k + 2 + q) (by omega)).trans (hpl_26 q hq)
  have hlow_33 : ∀ q, q < k → F_33 q = F q := fun q hq => (fr_33 q (by omega)).trans (hlow_26 q hq)
  have hO26_33 := (fr_33 (k + 2 + i) (by omega)).trans hO26
  have hO33 := up_33
  refine x_iinc C (pc := 34) 1 [(1, .int (nI (i + 1))), (0, .ref (z + k))] dX5_init_34 rfl (nI_inc i) (by decide) rfl ?_
  refine x_goto C (pc := 37) (tgt := 15) dX5_init_37 (by decide) ?_
  exact x_sub [1, 0] _ rfl (ih_15 (i + 1) F_33 (va_up g i (some (z + (k + 2 + i)))) ⟨(by omega), hk_33, hO33, (fun q hq => by
          by_cases e : q = i
          · rw [e]; exact va_up_self _ _ _
          · exact (va_up_ne _ _ e).trans (hgi q (by omega))), (fun q hq => by
          by_cases e : q = i
          · rw [e]; exact hO26_33
          · exact hpl_33 q (by omega)), hlow_33⟩ (by omega))
