theorem oc_X3_init : Cond.code objectInit ⟨#[0xb1]⟩ 1 none ∈ wsX3_init := by decide +kernel
theorem oi_X3_init : Cond.instanceMethod objectInit ∈ wsX3_init := by decide +kernel
theorem ol_X3_init : Cond.methodLink RX3 1 objectInit ∈ wsX3_init := by decide +kernel
set_option maxHeartbeats 4000000 in
set_option maxRecDepth 100000 in
theorem c_X3_init (l : Launch) (D : va_G) (z : Nat) (cI cZ cP cR : ClassId) (N : Nat) (F : Nat → va_E) (q : Nat) (hq : q < N) (hF : F q = .inr (3, [.int 0, .int 0, .int 0, .int 0, .int 0])) : gMv l yX3_init wsX3_init ({ frames := 1, cells := 0, slots := 0, locals := 12 }) D z cI cZ cP cR N F [.ref (z + q)] (gVoid N (fun F2 => F2 = F)) 0 0 := by
  refine gMv.of (cc := cX3_init) (maxL := 1) (ret := none) (by decide) rfl (Nat.le_of_ble_eq_true rfl) [(0, .ref (z + q))] rfl ?_
  intro pg ev sg mg bel me cg C hR0
  refine x_aload_n C (pc := 0) 0 dX3_init_0 rfl ?_
  refine x_objInit C (pc := 1) ol_X3_init oi_X3_init oc_X3_init dX3_init_1 (Nat.le_of_ble_eq_true rfl) (Nat.le_of_ble_eq_true rfl) ?_
  exact x_vret C hR0 (Nat.le_of_ble_eq_true rfl) (Nat.le_of_ble_eq_true rfl) ⟨rfl, rfl⟩ dX3_init_4
theorem ac_X5_init_I : Cond.arrayClass .int ∈ wsX5_init := by decide +kernel
theorem ci_X5_init_RX3 : Cond.instantiable RX3 5 ∈ wsX5_init := by decide +kernel
theorem cl_X5_init_9 : Cond.classLink RX5 9 RX3 ∈ wsX5_init := by decide +kernel
theorem fl_X5_init_11 : Cond.fieldLink RX5 11 "PileRecount$Recount" "rows" "[LPileRecount$Pile;" ∈ wsX5_init := by decide +kernel
theorem fl_X5_init_18 : Cond.fieldLink RX5 18 "PileRecount$Recount" "winner" "I" ∈ wsX5_init := by decide +kernel
theorem fl_X5_init_22 : Cond.fieldLink RX5 22 "PileRecount$Recount" "bySwing" "[I" ∈ wsX5_init := by decide +kernel
theorem fl_X5_init_26 : Cond.fieldLink RX5 26 "PileRecount$Recount" "order" "[I" ∈ wsX5_init := by decide +kernel
theorem fl_X5_init_29 : Cond.fieldLink RX5 29 "PileRecount$Recount" "riskLimit" "I" ∈ wsX5_init := by decide +kernel
theorem fl_X5_init_32 : Cond.fieldLink RX5 32 "PileRecount$Recount" "chooser" "I" ∈ wsX5_init := by decide +kernel
theorem hn_X5_init_X3 : ∀ w ∈ wsX30, w ∈ wsX5_init := fun _ h => List.mem_cons_of_mem _ (List.mem_append_right _ h)
theorem hn_X5_init_X5 : ∀ w ∈ wsX50, w ∈ wsX5_init := fun _ h => List.mem_cons_of_mem _ (List.mem_append_left _ (List.mem_append_right _ h))
theorem ni_X5_init_RX3 : Cond.initialized RX3 ∈ wsX5_init := by decide +kernel
theorem nt_X5_init_X3_init : Cond.instanceMethod yX3_init ∈ wsX5_init := by decide +kernel
theorem oc_X5_init : Cond.code objectInit ⟨#[0xb1]⟩ 1 none ∈ wsX5_init := by decide +kernel
theorem oi_X5_init : Cond.instanceMethod objectInit ∈ wsX5_init := by decide +kernel
theorem ol_X5_init : Cond.methodLink RX5 3 objectInit ∈ wsX5_init := by decide +kernel
set_option maxHeartbeats 4000000 in
set_option maxRecDepth 100000 in
theorem c_X5_init (l : Launch) (D : va_G) (z : Nat) (cI cZ cP cR : ClassId) (N : Nat) (F : Nat → va_E) (k : Nat) (hN : N = k + 1) (hF : F k = .inr (5, [.null, .int 0, .int 0, .null, .null, .int 0, .int 0, .int 0, .int 0, .int 0])) : gMv l yX5_init wsX5_init ({ frames := 2, cells := 13, slots := 80, locals := 32 }) D z cI cZ cP cR (k + 1) F [.ref (z + k)] (gVoid (k + 14) (fun F2 => isRec z cI cP F2 k 0 (-6) 0 0 500 1 0 (fun _ _ => 0) (fun _ => 0) (fun _ => 0) ∧ ∀ q, q < k → F2 q = F q)) 13 80 := by
  refine gMv.of (cc := cX5_init) (maxL := 2) (ret := none) (by decide) rfl (Nat.le_of_ble_eq_true rfl) [(0, .ref (z + k))] rfl ?_
  intro pg ev sg mg bel me cg C hR0
  subst hN
  have hlow : ∀ q, q < k → F q = F q := fun _ _ => rfl
  refine x_aload_n C (pc := 0) 0 dX5_init_0 rfl ?_
  refine x_objInit C (pc := 1) ol_X5_init oi_X5_init oc_X5_init dX5_init_1 (Nat.le_of_ble_eq_true rfl) (Nat.le_of_ble_eq_true rfl) ?_
  refine x_aload_n C (pc := 4) 0 dX5_init_4 rfl ?_
  refine x_bipush C (pc := 5) (v := 10) dX5_init_5 (by decide) ?_
  refine x_newQ C (pc := 7) (k0 := 10) 2 rfl cl_X5_init_9 C.2.2.2.2.2.1.2.2.1 rfl (by decide) (by show 0 + 1 ≤ 13; omega) (by show 0 + 10 ≤ 80; omega) dX5_init_7 ?_
  refine x_nameF (fun F_7 e_7 => ?_)
  have fr_7 : ∀ q, q ≠ k + 1 → F_7 q = F q := fun q h => by rw [e_7, va_up_ne _ _ h]
  have up_7 : F_7 (k + 1) = .inl (cP, 10, .inr (.inr (.inr (.inr (fun _ => none))))) := by rw [e_7]; exact va_up_self _ _ _
  have hF_7 := (fr_7 k (by omega)).trans hF
  have hlow_7 : ∀ q, q < k → F_7 q = F q := fun q hq => (fr_7 q (by omega)).trans (hlow q hq)
  have hO7 := up_7
  refine x_putF C (pc := 10) (q := k) (v := .ref (z + (k + 1))) (ci := 5) rfl hn_X5_init_X5 tyX5 tyX5_ok nmX5 0 (by decide) fl_X5_init_11 rfl rfl hR0.2.2 rfl (ty := tyX5 0) (tyX5_ok 0 (by decide)) rfl rfl (Nat.le_of_ble_eq_true rfl) (by omega) hF_7 dX5_init_10 ?_
  refine x_nameF (fun F_10 e_10 => ?_)
  have fr_10 : ∀ q, q ≠ k → F_10 q = F_7 q := fun q h => by rw [e_10, va_up_ne _ _ h]
  have up_10 : F_10 k = .inr (5, [.ref (z + (k + 1)), .int 0, .int 0, .null, .null, .int 0, .int 0, .int 0, .int 0, .int 0]) := by rw [e_10]; exact va_up_self _ _ _
  have hlow_10 : ∀ q, q < k → F_10 q = F q := fun q hq => (fr_10 q (by omega)).trans (hlow_7 q hq)
  have hO7_10 := (fr_10 (k + 1) (by omega)).trans hO7
  have hO10 := up_10
  refine x_iconst C (pc := 13) (v := 0) dX5_init_13 (by decide) ?_
  refine x_istore_n C (pc := 14) [(1, .int 0), (0, .ref (z + k))] dX5_init_14 (by decide) rfl ?_
  refine x_sub [1, 0] _ rfl ?_
  refine x_loop3 (A1 := Nat) (A2 := Nat → va_E) (A3 := Nat → Option Nat) (pc := 15) (st := []) (fun i G g => 10 - i) (fun i G g => (i ≤ 10) ∧ (G k = .inr (5, [.ref (z + (k + 1)), .int 0, .int 0, .null, .null, .int 0, .int 0, .int 0, .int 0, .int 0])) ∧ (G (k + 1) = .inl (cP, 10, .inr (.inr (.inr (.inr g))))) ∧ (∀ q, q < i → g q = some (z + (k + 2 + q))) ∧ (∀ q, q < i → G (k + 2 + q) = .inr (3, [.int 0, .int 0, .int 0, .int 0, .int 0])) ∧ (∀ q, q < k → G q = F q)) (fun i G g => k + 2 + i) (fun i G g => G) (fun i G g => 1 + i) (fun i G g => 10 + 5 * i) (fun i G g => [(0, .ref (z + k)), (1, .int (nI i))]) 0 F_10 (fun _ => none) ⟨(by omega), hO10, hO7_10, (fun q h => absurd h (Nat.not_lt_zero q)), (fun q h => absurd h (Nat.not_lt_zero q)), hlow_10⟩ rfl rfl rfl rfl rfl ?_
  rintro i G g ⟨hi, hk, hg, hgi, hpl, hlow⟩ ih_15
  try dsimp only at ih_15
  refine x_iload_n C (pc := 15) 1 dX5_init_15 rfl ?_
  refine x_bipush C (pc := 16) (v := 10) dX5_init_16 (by decide) ?_
  refine x_icmpN_ge C (a := i) (b := 10) (pc := 18) (tgt := 40) (by omega) (by omega) dX5_init_18 (by decide) (fun c_18 => ?_) (fun c_18 => ?_)
  · have hi10 : i = 10 := by omega
    subst hi10
    refine x_cs (N2 := k + 12) (c2 := 11) (s2 := 60) (by omega) (by omega) (by omega) ?_
    refine x_aload_n C (pc := 40) 0 dX5_init_40 rfl ?_
    refine x_bipush C (pc := 41) (v := (-6)) dX5_init_41 (by decide) ?_
    refine x_put C (pc := 43) (q := k) (v := .int (-6)) (ci := 5) rfl hn_X5_init_X5 tyX5 tyX5_ok nmX5 2 (by decide) fl_X5_init_18 rfl rfl (ty := tyX5 2) (tyX5_ok 2 (by decide)) rfl rfl (Nat.le_of_ble_eq_true rfl) (by omega) hk dX5_init_43 ?_
    refine x_nameF (fun F_43 e_43 => ?_)
    have fr_43 : ∀ q, q ≠ k → F_43 q = G q := fun q h => by rw [e_43, va_up_ne _ _ h]
    have up_43 : F_43 k = .inr (5, [.ref (z + (k + 1)), .int 0, .int (-6), .null, .null, .int 0, .int 0, .int 0, .int 0, .int 0]) := by rw [e_43]; exact va_up_self _ _ _
    have hg_43 := (fr_43 (k + 1) (by omega)).trans hg
    have hpl_43 : ∀ q, q < 10 → F_43 (k + 2 + q) = .inr (3, [.int 0, .int 0, .int 0, .int 0, .int 0]) := fun q hq => (fr_43 (k + 2 + q) (by omega)).trans (hpl q hq)
    have hlow_43 : ∀ q, q < k → F_43 q = F q := fun q hq => (fr_43 q (by omega)).trans (hlow q hq)
    have hO43 := up_43
    refine x_aload_n C (pc := 46) 0 dX5_init_46 rfl ?_
    refine x_bipush C (pc := 47) (v := 10) dX5_init_47 (by decide) ?_
    refine x_newI C (pc := 49) (k0 := 10) ac_X5_init_I rfl (by decide) (by show 11 + 1 ≤ 13; omega) (by show 60 + 10 ≤ 80; omega) dX5_init_49 ?_
    refine x_nameF (fun F_49 e_49 => ?_)
    have fr_49 : ∀ q, q ≠ k + 12 → F_49 q = F_43 q := fun q h => by rw [e_49, va_up_ne _ _ h]
    have up_49 : F_49 (k + 12) = .inl (cI, 10, .inl (fun _ => 0)) := by rw [e_49]; exact va_up_self _ _ _
    have hg_49 := (fr_49 (k + 1) (by omega)).trans hg_43
    have hpl_49 : ∀ q, q < 10 → F_49 (k + 2 + q) = .inr (3, [.int 0, .int 0, .int 0, .int 0, .int 0]) := fun q hq => (fr_49 (k + 2 + q) (by omega)).trans (hpl_43 q hq)
    have hlow_49 : ∀ q, q < k → F_49 q = F q := fun q hq => (fr_49 q (by omega)).trans (hlow_43 q hq)
    have hO43_49 := (fr_49 k (by omega)).trans hO43
    have hA49 := eArr.of up_49
    refine x_putF C (pc := 51) (q := k) (v := .ref (z + (k + 12))) (ci := 5) rfl hn_X5_init_X5 tyX5 tyX5_ok nmX5 3 (by decide) fl_X5_init_22 rfl rfl hR0.2.2 rfl (ty := tyX5 3) (tyX5_ok 3 (by decide)) rfl rfl (Nat.le_of_ble_eq_true rfl) (by omega) hO43_49 dX5_init_51 ?_
    refine x_nameF (fun F_51 e_51 => ?_)
    have fr_51 : ∀ q, q ≠ k → F_51 q = F_49 q := fun q h => by rw [e_51, va_up_ne _ _ h]
    have up_51 : F_51 k = .inr (5, [.ref (z + (k + 1)), .int 0, .int (-6), .ref (z + (k + 12)), .null, .int 0, .int 0, .int 0, .int 0, .int 0]) := by rw [e_51]; exact va_up_self _ _ _
    have hg_51 := (fr_51 (k + 1) (by omega)).trans hg_49
    have hpl_51 : ∀ q, q < 10 → F_51 (k + 2 + q) = .inr (3, [.int 0, .int 0, .int 0, .int 0, .int 0]) := fun q hq => (fr_51 (k + 2 + q) (by omega)).trans (hpl_49 q hq)
    have hlow_51 : ∀ q, q < k → F_51 q = F q := fun q hq => (fr_51 q (by omega)).trans (hlow_49 q hq)
    have hA49_51 := (fr_51 (k + 12) (by omega)).symm ▸ hA49
    have hO51 := up_51
    refine x_aload_n C (pc := 54) 0 dX5_init_54 rfl ?_
    refine x_bipush C (pc := 55) (v := 10) dX5_init_55 (by decide) ?_
    refine x_newI C (pc := 57) (k0 := 10) ac_X5_init_I rfl (by decide) (by show 11 + 1 + 1 ≤ 13; omega) (by show 60 + 10 + 10 ≤ 80; omega) dX5_init_57 ?_
    refine x_nameF (fun F_57 e_57 => ?_)
    have fr_57 : ∀ q, q ≠ k + 13 → F_57 q = F_51 q := fun q h => by rw [e_57, va_up_ne _ _ h]
    have up_57 : F_57 (k + 13) = .inl (cI, 10, .inl (fun _ => 0)) := by rw [e_57]; exact va_up_self _ _ _
    have hg_57 := (fr_57 (k + 1) (by omega)).trans hg_51
    have hpl_57 : ∀ q, q < 10 → F_57 (k + 2 + q) = .inr (3, [.int 0, .int 0, .int 0, .int 0, .int 0]) := fun q hq => (fr_57 (k + 2 + q) (by omega)).trans (hpl_51 q hq)
    have hlow_57 : ∀ q, q < k → F_57 q = F q := fun q hq => (fr_57 q (by omega)).trans (hlow_51 q hq)
    have hA49_57 := (fr_57 (k + 12) (by omega)).symm ▸ hA49_51
    have hO51_57 := (fr_57 k (by omega)).trans hO51
    have hA57 := eArr.of up_57
    refine x_putF C (pc := 59) (q := k) (v := .ref (z + (k + 13))) (ci := 5) rfl hn_X5_init_X5 tyX5 tyX5_ok nmX5 4 (by decide) fl_X5_init_26 rfl rfl hR0.2.2 rfl (ty := tyX5 4) (tyX5_ok 4 (by decide)) rfl rfl (Nat.le_of_ble_eq_true rfl) (by omega) hO51_57 dX5_init_59 ?_
    refine x_nameF (fun F_59 e_59 => ?_)
    have fr_59 : ∀ q, q ≠ k → F_59 q = F_57 q := fun q h => by rw [e_59, va_up_ne _ _ h]
    have up_59 : F_59 k = .inr (5, [.ref (z + (k + 1)), .int 0, .int (-6), .ref (z + (k + 12)), .ref (z + (k + 13)), .int 0, .int 0, .int 0, .int 0, .int 0]) := by rw [e_59]; exact va_up_self _ _ _
    have hg_59 := (fr_59 (k + 1) (by omega)).trans hg_57
    have hpl_59 : ∀ q, q < 10 → F_59 (k + 2 + q) = .inr (3, [.int 0, .int 0, .int 0, .int 0, .int 0]) := fun q hq => (fr_59 (k + 2 + q) (by omega)).trans (hpl_57 q hq)
    have hlow_59 : ∀ q, q < k → F_59 q = F q := fun q hq => (fr_59 q (by omega)).trans (hlow_57 q hq)
    have hA49_59 := (fr_59 (k + 12) (by omega)).symm ▸ hA49_57
    have hA57_59 := (fr_59 (k + 13) (by omega)).symm ▸ hA57
    have hO59 := up_59
    refine x_aload_n C (pc := 62) 0 dX5_init_62 rfl ?_
    refine x_sipush C (pc := 63) (v := 500) dX5_init_63 (by decide) ?_
    refine x_put C (pc := 66) (q := k) (v := .int 500) (ci := 5) rfl hn_X5_init_X5 tyX5 tyX5_ok nmX5 7 (by decide) fl_X5_init_29 rfl rfl (ty := tyX5 7) (tyX5_ok 7 (by decide)) rfl rfl (Nat.le_of_ble_eq_true rfl) (by omega) hO59 dX5_init_66 ?_
    refine x_nameF (fun F_66 e_66 => ?_)
    have fr_66 : ∀ q, q ≠ k → F_66 q = F_59 q := fun q h => by rw [e_66, va_up_ne _ _ h]
    have up_66 : F_66 k = .inr (5, [.ref (z + (k + 1)), .int 0, .int (-6), .ref (z + (k + 12)), .ref (z + (k + 13)), .int 0, .int 0, .int 500, .int 0, .int 0]) := by rw [e_66]; exact va_up_self _ _ _
    have hg_66 := (fr_66 (k + 1) (by omega)).trans hg_59
    have hpl_66 : ∀ q, q < 10 → F_66 (k + 2 + q) = .inr (3, [.int 0, .int 0, .int 0, .int 0, .int 0]) := fun q hq => (fr_66 (k + 2 + q) (by omega)).trans (hpl_59 q hq)
    have hlow_66 : ∀ q, q < k → F_66 q = F q := fun q hq => (fr_66 q (by omega)).trans (hlow_59 q hq)
    have hA49_66 := (fr_66 (k + 12) (by omega)).symm ▸ hA49_59
    have hA57_66 := (fr_66 (k + 13) (by omega)).symm ▸ hA57_59
    have hO66 := up_66
    refine x_aload_n C (pc := 69) 0 dX5_init_69 rfl ?_
    refine x_iconst C (pc := 70) (v := 1) dX5_init_70 (by decide) ?_
    refine x_put C (pc := 71) (q := k) (v := .int 1) (ci := 5) rfl hn_X5_init_X5 tyX5 tyX5_ok nmX5 8 (by decide) fl_X5_init_32 rfl rfl (ty := tyX5 8) (tyX5_ok 8 (by decide)) rfl rfl (Nat.le_of_ble_eq_true rfl) (by omega) hO66 dX5_init_71 ?_
    refine x_nameF (fun F_71 e_71 => ?_)
    have fr_71 : ∀ q, q ≠ k → F_71 q = F_66 q := fun q h => by rw [e_71, va_up_ne _ _ h]
    have up_71 : F_71 k = .inr (5, [.ref (z + (k + 1)), .int 0, .int (-6), .ref (z + (k + 12)), .ref (z + (k + 13)), .int 0, .int 0, .int 500, .int 1, .int 0]) := by rw [e_71]; exact va_up_self _ _ _
    have hg_71 := (fr_71 (k + 1) (by omega)).trans hg_66
    have hpl_71 : ∀ q, q < 10 → F_71 (k + 2 + q) = .inr (3, [.int 0, .int 0, .int 0, .int 0, .int 0]) := fun q hq => (fr_71 (k + 2 + q) (by omega)).trans (hpl_66 q hq)
    have hlow_71 : ∀ q, q < k → F_71 q = F q := fun q hq => (fr_71 q (by omega)).trans (hlow_66 q hq)
    have hA49_71 := (fr_71 (k + 12) (by omega)).symm ▸ hA49_66
    have hA57_71 := (fr_71 (k + 13) (by omega)).symm ▸ hA57_66
    have hO71 := up_71
    exact x_vret C hR0 (Nat.le_of_ble_eq_true rfl) (Nat.le_of_ble_eq_true rfl) ⟨rfl, ⟨⟨hO71, ⟨g, hg_71, fun q hq => hgi q (by omega)⟩, fun q hq => hpl_71 q (by omega), hA49_71, hA57_71⟩, hlow_71⟩⟩ dX5_init_74
  refine x_aload_n C (pc := 21) 0 dX5_init_21 rfl ?_
  refine x_get C (pc := 22) (q := k) (v := .ref (z + (k + 1))) (ci := 5) rfl hn_X5_init_X5 0 (by decide) fl_X5_init_11 rfl (by omega) hk rfl dX5_init_22 ?_
  refine x_iload_n C (pc := 25) 1 dX5_init_25 rfl ?_
  refine x_new C (pc := 26) (ci := 3) (fs := [.int 0, .int 0, .int 0, .int 0, .int 0]) rfl hn_X5_init_X3 tyX3 tyX3_ok cl_X5_init_9 ci_X5_init_RX3 ni_X5_init_RX3 (fun j hj => by match j, hj with | 0, _ => rfl | 1, _ => rfl | 2, _ => rfl | 3, _ => rfl | 4, _ => rfl) (by show 1 + i + 1 ≤ 13; omega) (by show 10 + 5 * i + 5 ≤ 80; omega) dX5_init_26 ?_
  refine x_nameF (fun F_26 e_26 => ?_)
  have fr_26 : ∀ q, q ≠ k + 2 + i → F_26 q = G q := fun q h => by rw [e_26, va_up_ne _ _ h]
  have up_26 : F_26 (k + 2 + i) = .inr (3, [.int 0, .int 0, .int 0, .int 0, .int 0]) := by rw [e_26]; exact va_up_self _ _ _
  have hk_26 := (fr_26 k (by omega)).trans hk
  have hg_26 := (fr_26 (k + 1) (by omega)).trans hg
  have hpl_26 : ∀ q, q < i → F_26 (k + 2 + q) = .inr (3, [.int 0, .int 0, .int 0, .int 0, .int 0]) := fun q hq => (fr_26 (k + 2 + q) (by omega)).trans (hpl q hq)
  have hlow_26 : ∀ q, q < k → F_26 q = F q := fun q hq => (fr_26 q (by omega)).trans (hlow q hq)
  have hO26 := up_26
  refine x_dup C (pc := 29) dX5_init_29 rfl ?_
  refine x_cINvR C (pc := 30) (st := [.ref (z + (k + 2 + i)), .int (nI i), .ref (z + (k + 1))]) (c_X3_init l D z cI cZ cP cR (k + 2 + i + 1) F_26 (k + 2 + i) (by omega) hO26) ⟨va_cnB 0 C.2.2.2.2.1 gX5_init_X3_init_n17 rfl rfl rfl (C.2.2.2.2.2.1.2.1 _ (List.mem_of_getElem? (i := 6) rfl)) (C.2.2.2.2.1 _ ni_X5_init_RX3) hd_X3_init.2 ⟨Nat.le_of_ble_eq_true rfl, Nat.le_of_ble_eq_true rfl⟩, rfl, C.2.2.2.2.1 _ nt_X5_init_X3_init⟩ rfl rfl (Nat.le_of_ble_eq_true rfl) dX5_init_30 ⟨(by show 1 + i + 1 + 0 ≤ 13; omega), (by show 10 + 5 * i + 5 + 0 ≤ 80; omega)⟩ ?_
  refine x_aast C (pc := 33) (q := k + 1) (j := i) (q2 := k + 2 + i) 2 rfl (by omega) hg_26 (by omega) hO26 (ci := 3) (r := (RX3, TX3, 5)) rfl rfl (by omega) (by decide) dX5_init_33 ?_
  refine x_nameF (fun F_33 e_33 => ?_)
  have fr_33 : ∀ q, q ≠ k + 1 → F_33 q = F_26 q := fun q h => by rw [e_33, va_up_ne _ _ h]
  have up_33 : F_33 (k + 1) = .inl (cP, 10, .inr (.inr (.inr (.inr (va_up g i (some (z + (k + 2 + i)))))))) := by rw [e_33]; exact va_up_self _ _ _
  have hk_33 := (fr_33 k (by omega)).trans hk_26
  have hpl_33 : ∀ q, q < i → F_33 (k + 2 + q) = .inr (3, [.int 0, .int 0, .int 0, .int 0, .int 0]) := fun q hq => (fr_33 (k + 2 + q) (by omega)).trans (hpl_26 q hq)
  have hlow_33 : ∀ q, q < k → F_33 q = F q := fun q hq => (fr_33 q (by omega)).trans (hlow_26 q hq)
  have hO26_33 := (fr_33 (k + 2 + i) (by omega)).trans hO26
  have hO33 := up_33
  refine x_iinc C (pc := 34) 1 [(1, .int (nI (i + 1))), (0, .ref (z + k))] dX5_init_34 rfl (nI_inc i) (by decide) rfl ?_
  refine x_goto C (pc := 37) (tgt := 15) dX5_init_37 (by decide) ?_
  exact x_sub [1, 0] _ rfl (ih_15 (i + 1) F_33 (va_up g i (some (z + (k + 2 + i)))) ⟨(by omega), hk_33, hO33, (fun q hq => by
          by_cases e : q = i
          · rw [e]; exact va_up_self _ _ _
          · exact (va_up_ne _ _ e).trans (hgi q (by omega))), (fun q hq => by
          by_cases e : q = i
          · rw [e]; exact hO26_33
          · exact hpl_33 q (by omega)), hlow_33⟩ (by omega))
theorem ci_X0_init_RX5 : Cond.instantiable RX5 10 ∈ wsX0_init := by decide +kernel
theorem cl_X0_init_9 : Cond.classLink RX0 9 RX5 ∈ wsX0_init := by decide +kernel
theorem fl_X0_init_11 : Cond.fieldLink RX0 11 "PileRecount$History" "before" "[LPileRecount$Recount;" ∈ wsX0_init := by decide +kernel
theorem hn_X0_init_X0 : ∀ w ∈ wsX00, w ∈ wsX0_init := fun _ h => List.mem_cons_of_mem _ (List.mem_append_left _ (List.mem_append_left _ (List.mem_append_right _ h)))
theorem hn_X0_init_X5 : ∀ w ∈ wsX50, w ∈ wsX0_init := fun _ h => List.mem_cons_of_mem _ (List.mem_append_left _ (List.mem_append_right _ h))
theorem ni_X0_init_RX5 : Cond.initialized RX5 ∈ wsX0_init := by decide +kernel
theorem nl_X0_init_17 : Cond.methodLink RX0 17 yX5_init ∈ wsX0_init := by decide +kernel
theorem nt_X0_init_X5_init : Cond.instanceMethod yX5_init ∈ wsX0_init := by decide +kernel
theorem oc_X0_init : Cond.code objectInit ⟨#[0xb1]⟩ 1 none ∈ wsX0_init := by decide +kernel
theorem oi_X0_init : Cond.instanceMethod objectInit ∈ wsX0_init := by decide +kernel
theorem ol_X0_init : Cond.methodLink RX0 3 objectInit ∈ wsX0_init := by decide +kernel
set_option maxHeartbeats 4000000 in
set_option maxRecDepth 100000 in
theorem c_X0_init (l : Launch) (D : va_G) (z : Nat) (cI cZ cP cR : ClassId) (N : Nat) (F : Nat → va_E) (k : Nat) (hN : N = k + 1) (hF : F k = .inr (0, [.null, .int 0])) : gMv l yX0_init wsX0_init ({ frames := 3, cells := 85, slots := 546, locals := 53 }) D z cI cZ cP cR (k + 1) F [.ref (z + k)] (gVoid (k + 86) (fun F2 => isHis z cR F2 k 0 (fun q => k + 2 + 14 * q) ∧ (∀ q, q < 6 → isRec z cI cP F2 (k + 2 + 14 * q) 0 (-6) 0 0 500 1 0 (fun _ _ => 0) (fun _ => 0) (fun _ => 0)) ∧ ∀ q, q < k → F2 q = F q)) 85 546 := by
  refine gMv.of (cc := cX0_init) (maxL := 2) (ret := none) (by decide) rfl (Nat.le_of_ble_eq_true rfl) [(0, .ref (z + k))] rfl ?_
  intro pg ev sg mg bel me cg C hR0
  subst hN
  have hlow : ∀ q, q < k → F q = F q := fun _ _ => rfl
  refine x_aload_n C (pc := 0) 0 dX0_init_0 rfl ?_
  refine x_objInit C (pc := 1) ol_X0_init oi_X0_init oc_X0_init dX0_init_1 (Nat.le_of_ble_eq_true rfl) (Nat.le_of_ble_eq_true rfl) ?_
  refine x_aload_n C (pc := 4) 0 dX0_init_4 rfl ?_
  refine x_bipush C (pc := 5) (v := 6) dX0_init_5 (by decide) ?_
  refine x_newQ C (pc := 7) (k0 := 6) 3 rfl cl_X0_init_9 C.2.2.2.2.2.1.2.2.2 rfl (by decide) (by show 0 + 1 ≤ 85; omega) (by show 0 + 6 ≤ 546; omega) dX0_init_7 ?_
  refine x_nameF (fun F_7 e_7 => ?_)
  have fr_7 : ∀ q, q ≠ k + 1 → F_7 q = F q := fun q h => by rw [e_7, va_up_ne _ _ h]
  have up_7 : F_7 (k + 1) = .inl (cR, 6, .inr (.inr (.inr (.inr (fun _ => none))))) := by rw [e_7]; exact va_up_self _ _ _
  have hF_7 := (fr_7 k (by omega)).trans hF
  have hlow_7 : ∀ q, q < k → F_7 q = F q := fun q hq => (fr_7 q (by omega)).trans (hlow q hq)
  have hO7 := up_7
  refine x_putF C (pc := 10) (q := k) (v := .ref (z + (k + 1))) (ci := 0) rfl hn_X0_init_X0 tyX0 tyX0_ok nmX0 0 (by decide) fl_X0_init_11 rfl rfl hR0.2.2 rfl (ty := tyX0 0) (tyX0_ok 0 (by decide)) rfl rfl (Nat.le_of_ble_eq_true rfl) (by omega) hF_7 dX0_init_10 ?_
  refine x_nameF (fun F_10 e_10 => ?_)
  have fr_10 : ∀ q, q ≠ k → F_10 q = F_7 q := fun q h => by rw [e_10, va_up_ne _ _ h]
  have up_10 : F_10 k = .inr (0, [.ref (z + (k + 1)), .int 0]) := by rw [e_10]; exact va_up_self _ _ _
  have hlow_10 : ∀ q, q < k → F_10 q = F q := fun q hq => (fr_10 q (by omega)).trans (hlow_7 q hq)
  have hO7_10 := (fr_10 (k + 1) (by omega)).trans hO7
  have hO10 := up_10
  refine x_iconst C (pc := 13) (v := 0) dX0_init_13 (by decide) ?_
  refine x_istore_n C (pc := 14) [(1, .int 0), (0, .ref (z + k))] dX0_init_14 (by decide) rfl ?_
  refine x_sub [1, 0] _ rfl ?_
  refine x_loop3 (A1 := Nat) (A2 := Nat → va_E) (A3 := Nat → Option Nat) (pc := 15) (st := []) (fun i G g => 6 - i) (fun i G g => (i ≤ 6) ∧ (G k = .inr (0, [.ref (z + (k + 1)), .int 0])) ∧ (G (k + 1) = .inl (cR, 6, .inr (.inr (.inr (.inr g))))) ∧ (∀ q, q < i → g q = some (z + (k + 2 + 14 * q))) ∧ (∀ q, q < i → isRec z cI cP G (k + 2 + 14 * q) 0 (-6) 0 0 500 1 0 (fun _ _ => 0) (fun _ => 0) (fun _ => 0)) ∧ (∀ q, q < k → G q = F q)) (fun i G g => k + 2 + 14 * i) (fun i G g => G) (fun i G g => 1 + 14 * i) (fun i G g => 6 + 90 * i) (fun i G g => [(0, .ref (z + k)), (1, .int (nI i))]) 0 F_10 (fun _ => none) ⟨(by omega), hO10, hO7_10, (fun q h => absurd h (Nat.not_lt_zero q)), (fun q h => absurd h (Nat.not_lt_zero q)), hlow_10⟩ rfl rfl rfl rfl rfl ?_
  rintro i G g ⟨hi, hk, hg, hgi, hpl, hlow⟩ ih_15
  try dsimp only at ih_15
  refine x_iload_n C (pc := 15) 1 dX0_init_15 rfl ?_
  refine x_bipush C (pc := 16) (v := 6) dX0_init_16 (by decide) ?_
  refine x_icmpN_ge C (a := i) (b := 6) (pc := 18) (tgt := 40) (by omega) (by omega) dX0_init_18 (by decide) (fun c_18 => ?_) (fun c_18 => ?_)
  · have hi6 : i = 6 := by omega
    subst hi6
    refine x_cs (N2 := k + 86) (c2 := 85) (s2 := 546) (by omega) (by omega) (by omega) ?_
    exact x_vret C hR0 (Nat.le_of_ble_eq_true rfl) (Nat.le_of_ble_eq_true rfl) ⟨rfl, ⟨⟨hk, g, hg, fun q hq => hgi q (by omega)⟩, fun q hq => hpl q (by omega), hlow⟩⟩ dX0_init_40
  refine x_aload_n C (pc := 21) 0 dX0_init_21 rfl ?_
  refine x_get C (pc := 22) (q := k) (v := .ref (z + (k + 1))) (ci := 0) rfl hn_X0_init_X0 0 (by decide) fl_X0_init_11 rfl (by omega) hk rfl dX0_init_22 ?_
  refine x_iload_n C (pc := 25) 1 dX0_init_25 rfl ?_
  refine x_new C (pc := 26) (ci := 5) (fs := [.null, .int 0, .int 0, .null, .null, .int 0, .int 0, .int 0, .int 0, .int 0]) rfl hn_X0_init_X5 tyX5 tyX5_ok cl_X0_init_9 ci_X0_init_RX5 ni_X0_init_RX5 (fun j hj => by match j, hj with | 0, _ => rfl | 1, _ => rfl | 2, _ => rfl | 3, _ => rfl | 4, _ => rfl | 5, _ => rfl | 6, _ => rfl | 7, _ => rfl | 8, _ => rfl | 9, _ => rfl) (by show 1 + 14 * i + 1 ≤ 85; omega) (by show 6 + 90 * i + 10 ≤ 546; omega) dX0_init_26 ?_
  refine x_nameF (fun F_26 e_26 => ?_)
  have fr_26 : ∀ q, q ≠ k + 2 + 14 * i → F_26 q = G q := fun q h => by rw [e_26, va_up_ne _ _ h]
  have up_26 : F_26 (k + 2 + 14 * i) = .inr (5, [.null, .int 0, .int 0, .null, .null, .int 0, .int 0, .int 0, .int 0, .int 0]) := by rw [e_26]; exact va_up_self _ _ _
  have hk_26 := (fr_26 k (by omega)).trans hk
  have hg_26 := (fr_26 (k + 1) (by omega)).trans hg
  have hpl_26 : ∀ q, q < i → isRec z cI cP F_26 (k + 2 + 14 * q) 0 (-6) 0 0 500 1 0 (fun _ _ => 0) (fun _ => 0) (fun _ => 0) := fun q hq => (hpl q hq).same (fun q2 h1 h2 => fr_26 q2 (by omega))
  have hlow_26 : ∀ q, q < k → F_26 q = F q := fun q hq => (fr_26 q (by omega)).trans (hlow q hq)
  have hO26 := up_26
  refine x_dup C (pc := 29) dX0_init_29 rfl ?_
  refine x_cIvE C (pc := 30) (st := [.ref (z + (k + 2 + 14 * i)), .int (nI i), .ref (z + (k + 1))]) (c_X5_init l D z cI cZ cP cR (k + 2 + 14 * i + 1) F_26 (k + 2 + 14 * i) rfl hO26) (cwI 0 C.2.2.2.2.1 gX0_init_X5_init rfl rfl rfl (C.2.2.2.2.1 _ ni_X0_init_RX5) (C.2.2.2.2.1 _ nl_X0_init_17) (C.2.2.2.2.1 _ nt_X0_init_X5_init) rfl hd_X5_init.2 ⟨Nat.le_of_ble_eq_true rfl, Nat.le_of_ble_eq_true rfl⟩) rfl rfl (Nat.le_of_ble_eq_true rfl) dX0_init_30 ⟨(by show 1 + 14 * i + 1 + 13 ≤ 85; omega), (by show 6 + 90 * i + 10 + 80 ≤ 546; omega)⟩ (fun F_30 h_30 => ?_)
  obtain ⟨hP30, lo_30⟩ := h_30
  have fr_30 : ∀ q, q < k + 2 + 14 * i → F_30 q = F_26 q := lo_30
  have hk_30 := (fr_30 k (by omega)).trans hk_26
  have hg_30 := (fr_30 (k + 1) (by omega)).trans hg_26
  have hpl_30 : ∀ q, q < i → isRec z cI cP F_30 (k + 2 + 14 * q) 0 (-6) 0 0 500 1 0 (fun _ _ => 0) (fun _ => 0) (fun _ => 0) := fun q hq => (hpl_26 q hq).same (fun q2 h1 h2 => fr_30 q2 (by omega))
  have hlow_30 : ∀ q, q < k → F_30 q = F q := fun q hq => (fr_30 q (by omega)).trans (hlow_26 q hq)
  refine x_aast C (pc := 33) (q := k + 1) (j := i) (q2 := k + 2 + 14 * i) 3 rfl (by omega) hg_30 (by omega) hP30.ob (ci := 5) (r := (RX5, TX5, 10)) rfl rfl (by omega) (by decide) dX0_init_33 ?_
  refine x_nameF (fun F_33 e_33 => ?_)
  have fr_33 : ∀ q, q ≠ k + 1 → F_33 q = F_30 q := fun q h => by rw [e_33, va_up_ne _ _ h]
  have up_33 : F_33 (k + 1) = .inl (cR, 6, .inr (.inr (.inr (.inr (va_up g i (some (z + (k + 2 + 14 * i)))))))) := by rw [e_33]; exact va_up_self _ _ _
  have hk_33 := (fr_33 k (by omega)).trans hk_30
  have hpl_33 : ∀ q, q < i → isRec z cI cP F_33 (k + 2 + 14 * q) 0 (-6) 0 0 500 1 0 (fun _ _ => 0) (fun _ => 0) (fun _ => 0) := fun q hq => (hpl_30 q hq).same (fun q2 h1 h2 => fr_33 q2 (by omega))
  have hlow_33 : ∀ q, q < k → F_33 q = F q := fun q hq => (fr_33 q (by omega)).trans (hlow_30 q hq)
  have hP30_33 := hP30.same (F2 := F_33) (fun q h1 h2 => fr_33 q (by omega))
  have hO33 := up_33
  refine x_iinc C (pc := 34) 1 [(1, .int (nI (i + 1))), (0, .ref (z + k))] dX0_init_34 rfl (nI_inc i) (by decide) rfl ?_
  refine x_goto C (pc := 37) (tgt := 15) dX0_init_37 (by decide) ?_
  refine x_cs (N2 := k + 2 + 14 * (i + 1)) (c2 := 1 + 14 * (i + 1)) (s2 := 6 + 90 * (i + 1)) (by omega) (by omega) (by omega) ?_
  exact x_sub [1, 0] _ rfl (ih_15 (i + 1) F_33 (va_up g i (some (z + (k + 2 + 14 * i)))) ⟨(by omega), hk_33, hO33, (fun q hq => by
          by_cases e : q = i
          · rw [e]; exact va_up_self _ _ _
          · exact (va_up_ne _ _ e).trans (hgi q (by omega))), (fun q hq => by
          by_cases e : q = i
          · rw [e]; exact hP30_33
          · exact hpl_33 q (by omega)), hlow_33⟩ (by omega))
theorem ac_X2_init_I : Cond.arrayClass .int ∈ wsX2_init := by decide +kernel
theorem fl_X2_init_9 : Cond.fieldLink RX2 9 "PileRecount$Pad" "codes" "[I" ∈ wsX2_init := by decide +kernel
theorem hn_X2_init_X2 : ∀ w ∈ wsX20, w ∈ wsX2_init := fun _ h => List.mem_cons_of_mem _ (List.mem_append_right _ h)
theorem oc_X2_init : Cond.code objectInit ⟨#[0xb1]⟩ 1 none ∈ wsX2_init := by decide +kernel
theorem oi_X2_init : Cond.instanceMethod objectInit ∈ wsX2_init := by decide +kernel
theorem ol_X2_init : Cond.methodLink RX2 3 objectInit ∈ wsX2_init := by decide +kernel
set_option maxHeartbeats 4000000 in
set_option maxRecDepth 100000 in
theorem c_X2_init (l : Launch) (D : va_G) (z : Nat) (cI cZ cP cR : ClassId) (N : Nat) (F : Nat → va_E) (k : Nat) (hN : N = k + 1) (hF : F k = .inr (2, [.null, .int 0])) : gMv l yX2_init wsX2_init ({ frames := 1, cells := 1, slots := 80, locals := 12 }) D z cI cZ cP cR (k + 1) F [.ref (z + k)] (gVoid (k + 2) (fun F2 => isPad z cI F2 k 0 (fun _ => 0) ∧ ∀ q, q < k → F2 q = F q)) 1 80 := by
  refine gMv.of (cc := cX2_init) (maxL := 1) (ret := none) (by decide) rfl (Nat.le_of_ble_eq_true rfl) [(0, .ref (z + k))] rfl ?_
  intro pg ev sg mg bel me cg C hR0
  subst hN
  have hlow : ∀ q, q < k → F q = F q := fun _ _ => rfl
  refine x_aload_n C (pc := 0) 0 dX2_init_0 rfl ?_
  refine x_objInit C (pc := 1) ol_X2_init oi_X2_init oc_X2_init dX2_init_1 (Nat.le_of_ble_eq_true rfl) (Nat.le_of_ble_eq_true rfl) ?_
  refine x_aload_n C (pc := 4) 0 dX2_init_4 rfl ?_
  refine x_bipush C (pc := 5) (v := 80) dX2_init_5 (by decide) ?_
  refine x_newI C (pc := 7) (k0 := 80) ac_X2_init_I rfl (by decide) (by show 0 + 1 ≤ 1; omega) (by show 0 + 80 ≤ 80; omega) dX2_init_7 ?_
  refine x_nameF (fun F_7 e_7 => ?_)
  have fr_7 : ∀ q, q ≠ k + 1 → F_7 q = F q := fun q h => by rw [e_7, va_up_ne _ _ h]
  have up_7 : F_7 (k + 1) = .inl (cI, 80, .inl (fun _ => 0)) := by rw [e_7]; exact va_up_self _ _ _
  have hF_7 := (fr_7 k (by omega)).trans hF
  have hlow_7 : ∀ q, q < k → F_7 q = F q := fun q hq => (fr_7 q (by omega)).trans (hlow q hq)
  have hA7 := eArr.of up_7
  refine x_putF C (pc := 9) (q := k) (v := .ref (z + (k + 1))) (ci := 2) rfl hn_X2_init_X2 tyX2 tyX2_ok nmX2 0 (by decide) fl_X2_init_9 rfl rfl hR0.2.2 rfl (ty := tyX2 0) (tyX2_ok 0 (by decide)) rfl rfl (Nat.le_of_ble_eq_true rfl) (by omega) hF_7 dX2_init_9 ?_
  refine x_nameF (fun F_9 e_9 => ?_)
  have fr_9 : ∀ q, q ≠ k → F_9 q = F_7 q := fun q h => by rw [e_9, va_up_ne _ _ h]
  have up_9 : F_9 k = .inr (2, [.ref (z + (k + 1)), .int 0]) := by rw [e_9]; exact va_up_self _ _ _
  have hlow_9 : ∀ q, q < k → F_9 q = F q := fun q hq => (fr_9 q (by omega)).trans (hlow_7 q hq)
  have hA7_9 := (fr_9 (k + 1) (by omega)).symm ▸ hA7
  have hO9 := up_9
  exact x_vret C hR0 (Nat.le_of_ble_eq_true rfl) (Nat.le_of_ble_eq_true rfl) ⟨rfl, ⟨⟨hO9, hA7_9⟩, hlow_9⟩⟩ dX2_init_12
theorem ac_X4_init_I : Cond.arrayClass .int ∈ wsX4_init := by decide +kernel
theorem fl_X4_init_11 : Cond.fieldLink RX4 11 "PileRecount$Reader" "numbers" "[I" ∈ wsX4_init := by decide +kernel
theorem hn_X4_init_X4 : ∀ w ∈ wsX40, w ∈ wsX4_init := fun _ h => List.mem_cons_of_mem _ (List.mem_append_right _ h)
theorem oc_X4_init : Cond.code objectInit ⟨#[0xb1]⟩ 1 none ∈ wsX4_init := by decide +kernel
theorem oi_X4_init : Cond.instanceMethod objectInit ∈ wsX4_init := by decide +kernel
theorem ol_X4_init : Cond.methodLink RX4 3 objectInit ∈ wsX4_init := by decide +kernel
set_option maxHeartbeats 4000000 in
set_option maxRecDepth 100000 in
theorem c_X4_init (l : Launch) (D : va_G) (z : Nat) (cI cZ cP cR : ClassId) (N : Nat) (F : Nat → va_E) (k : Nat) (hN : N = k + 1) (hF : F k = .inr (4, [.null, .int 0, .int 0])) : gMv l yX4_init wsX4_init ({ frames := 1, cells := 1, slots := 5, locals := 12 }) D z cI cZ cP cR (k + 1) F [.ref (z + k)] (gVoid (k + 2) (fun F2 => isRea z cI F2 k 0 0 (fun _ => 0) ∧ ∀ q, q < k → F2 q = F q)) 1 5 := by
  refine gMv.of (cc := cX4_init) (maxL := 1) (ret := none) (by decide) rfl (Nat.le_of_ble_eq_true rfl) [(0, .ref (z + k))] rfl ?_
  intro pg ev sg mg bel me cg C hR0
  subst hN
  have hlow : ∀ q, q < k → F q = F q := fun _ _ => rfl
  refine x_aload_n C (pc := 0) 0 dX4_init_0 rfl ?_
  refine x_objInit C (pc := 1) ol_X4_init oi_X4_init oc_X4_init dX4_init_1 (Nat.le_of_ble_eq_true rfl) (Nat.le_of_ble_eq_true rfl) ?_
  refine x_aload_n C (pc := 4) 0 dX4_init_4 rfl ?_
  refine x_iconst C (pc := 5) (v := 5) dX4_init_5 (by decide) ?_
  refine x_newI C (pc := 6) (k0 := 5) ac_X4_init_I rfl (by decide) (by show 0 + 1 ≤ 1; omega) (by show 0 + 5 ≤ 5; omega) dX4_init_6 ?_
  refine x_nameF (fun F_6 e_6 => ?_)
  have fr_6 : ∀ q, q ≠ k + 1 → F_6 q = F q := fun q h => by rw [e_6, va_up_ne _ _ h]
  have up_6 : F_6 (k + 1) = .inl (cI, 5, .inl (fun _ => 0)) := by rw [e_6]; exact va_up_self _ _ _
  have hF_6 := (fr_6 k (by omega)).trans hF
  have hlow_6 : ∀ q, q < k → F_6 q = F q := fun q hq => (fr_6 q (by omega)).trans (hlow q hq)
  have hA6 := eArr.of up_6
  refine x_putF C (pc := 8) (q := k) (v := .ref (z + (k + 1))) (ci := 4) rfl hn_X4_init_X4 tyX4 tyX4_ok nmX4 0 (by decide) fl_X4_init_11 rfl rfl hR0.2.2 rfl (ty := tyX4 0) (tyX4_ok 0 (by decide)) rfl rfl (Nat.le_of_ble_eq_true rfl) (by omega) hF_6 dX4_init_8 ?_
  refine x_nameF (fun F_8 e_8 => ?_)
  have fr_8 : ∀ q, q ≠ k → F_8 q = F_6 q := fun q h => by rw [e_8, va_up_ne _ _ h]
  have up_8 : F_8 k = .inr (4, [.ref (z + (k + 1)), .int 0, .int 0]) := by rw [e_8]; exact va_up_self _ _ _
  have hlow_8 : ∀ q, q < k → F_8 q = F q := fun q hq => (fr_8 q (by omega)).trans (hlow_6 q hq)
  have hA6_8 := (fr_8 (k + 1) (by omega)).symm ▸ hA6
  have hO8 := up_8
  exact x_vret C hR0 (Nat.le_of_ble_eq_true rfl) (Nat.le_of_ble_eq_true rfl) ⟨rfl, ⟨⟨hO8, hA6_8⟩, hlow_8⟩⟩ dX4_init_11
theorem ac_X1_init_I : Cond.arrayClass .int ∈ wsX1_init := by decide +kernel
theorem fl_X1_init_15 : Cond.fieldLink RX1 15 "PileRecount$Odds" "stops" "[I" ∈ wsX1_init := by decide +kernel
theorem fl_X1_init_9 : Cond.fieldLink RX1 9 "PileRecount$Odds" "ways" "[I" ∈ wsX1_init := by decide +kernel
theorem hn_X1_init_X1 : ∀ w ∈ wsX10, w ∈ wsX1_init := fun _ h => List.mem_cons_of_mem _ (List.mem_append_right _ h)
theorem oc_X1_init : Cond.code objectInit ⟨#[0xb1]⟩ 1 none ∈ wsX1_init := by decide +kernel
theorem oi_X1_init : Cond.instanceMethod objectInit ∈ wsX1_init := by decide +kernel
theorem ol_X1_init : Cond.methodLink RX1 3 objectInit ∈ wsX1_init := by decide +kernel
set_option maxHeartbeats 4000000 in
set_option maxRecDepth 100000 in
theorem c_X1_init (l : Launch) (D : va_G) (z : Nat) (cI cZ cP cR : ClassId) (N : Nat) (F : Nat → va_E) (k : Nat) (hN : N = k + 1) (hF : F k = .inr (1, [.null, .null])) : gMv l yX1_init wsX1_init ({ frames := 1, cells := 2, slots := 1035, locals := 12 }) D z cI cZ cP cR (k + 1) F [.ref (z + k)] (gVoid (k + 3) (fun F2 => isOdd z cI F2 k (fun _ => 0) (fun _ => 0) ∧ ∀ q, q < k → F2 q = F q)) 2 1035 := by
  refine gMv.of (cc := cX1_init) (maxL := 1) (ret := none) (by decide) rfl (Nat.le_of_ble_eq_true rfl) [(0, .ref (z + k))] rfl ?_
  intro pg ev sg mg bel me cg C hR0
  subst hN
  have hlow : ∀ q, q < k → F q = F q := fun _ _ => rfl
  refine x_aload_n C (pc := 0) 0 dX1_init_0 rfl ?_
  refine x_objInit C (pc := 1) ol_X1_init oi_X1_init oc_X1_init dX1_init_1 (Nat.le_of_ble_eq_true rfl) (Nat.le_of_ble_eq_true rfl) ?_
  refine x_aload_n C (pc := 4) 0 dX1_init_4 rfl ?_
  refine x_sipush C (pc := 5) (v := 1024) dX1_init_5 (by decide) ?_
  refine x_newI C (pc := 8) (k0 := 1024) ac_X1_init_I rfl (by decide) (by show 0 + 1 ≤ 2; omega) (by show 0 + 1024 ≤ 1035; omega) dX1_init_8 ?_
  refine x_nameF (fun F_8 e_8 => ?_)
  have fr_8 : ∀ q, q ≠ k + 1 → F_8 q = F q := fun q h => by rw [e_8, va_up_ne _ _ h]
  have up_8 : F_8 (k + 1) = .inl (cI, 1024, .inl (fun _ => 0)) := by rw [e_8]; exact va_up_self _ _ _
  have hF_8 := (fr_8 k (by omega)).trans hF
  have hlow_8 : ∀ q, q < k → F_8 q = F q := fun q hq => (fr_8 q (by omega)).trans (hlow q hq)
  have hA8 := eArr.of up_8
  refine x_putF C (pc := 10) (q := k) (v := .ref (z + (k + 1))) (ci := 1) rfl hn_X1_init_X1 tyX1 tyX1_ok nmX1 0 (by decide) fl_X1_init_9 rfl rfl hR0.2.2 rfl (ty := tyX1 0) (tyX1_ok 0 (by decide)) rfl rfl (Nat.le_of_ble_eq_true rfl) (by omega) hF_8 dX1_init_10 ?_
  refine x_nameF (fun F_10 e_10 => ?_)
  have fr_10 : ∀ q, q ≠ k → F_10 q = F_8 q := fun q h => by rw [e_10, va_up_ne _ _ h]
  have up_10 : F_10 k = .inr (1, [.ref (z + (k + 1)), .null]) := by rw [e_10]; exact va_up_self _ _ _
  have hlow_10 : ∀ q, q < k → F_10 q = F q := fun q hq => (fr_10 q (by omega)).trans (hlow_8 q hq)
  have hA8_10 := (fr_10 (k + 1) (by omega)).symm ▸ hA8
  have hO10 := up_10
  refine x_aload_n C (pc := 13) 0 dX1_init_13 rfl ?_
  refine x_bipush C (pc := 14) (v := 11) dX1_init_14 (by decide) ?_
  refine x_newI C (pc := 16) (k0 := 11) ac_X1_init_I rfl (by decide) (by show 0 + 1 + 1 ≤ 2; omega) (by show 0 + 1024 + 11 ≤ 1035; omega) dX1_init_16 ?_
  refine x_nameF (fun F_16 e_16 => ?_)
  have fr_16 : ∀ q, q ≠ k + 2 → F_16 q = F_10 q := fun q h => by rw [e_16, va_up_ne _ _ h]
  have up_16 : F_16 (k + 2) = .inl (cI, 11, .inl (fun _ => 0)) := by rw [e_16]; exact va_up_self _ _ _
  have hlow_16 : ∀ q, q < k → F_16 q = F q := fun q hq => (fr_16 q (by omega)).trans (hlow_10 q hq)
  have hA8_16 := (fr_16 (k + 1) (by omega)).symm ▸ hA8_10
  have hO10_16 := (fr_16 k (by omega)).trans hO10
  have hA16 := eArr.of up_16
  refine x_putF C (pc := 18) (q := k) (v := .ref (z + (k + 2))) (ci := 1) rfl hn_X1_init_X1 tyX1 tyX1_ok nmX1 1 (by decide) fl_X1_init_15 rfl rfl hR0.2.2 rfl (ty := tyX1 1) (tyX1_ok 1 (by decide)) rfl rfl (Nat.le_of_ble_eq_true rfl) (by omega) hO10_16 dX1_init_18 ?_
  refine x_nameF (fun F_18 e_18 => ?_)
  have fr_18 : ∀ q, q ≠ k → F_18 q = F_16 q := fun q h => by rw [e_18, va_up_ne _ _ h]
  have up_18 : F_18 k = .inr (1, [.ref (z + (k + 1)), .ref (z + (k + 2))]) := by rw [e_18]; exact va_up_self _ _ _
  have hlow_18 : ∀ q, q < k → F_18 q = F q := fun q hq => (fr_18 q (by omega)).trans (hlow_16 q hq)
  have hA8_18 := (fr_18 (k + 1) (by omega)).symm ▸ hA8_16
  have hA16_18 := (fr_18 (k + 2) (by omega)).symm ▸ hA16
  have hO18 := up_18
  exact x_vret C hR0 (Nat.le_of_ble_eq_true rfl) (Nat.le_of_ble_eq_true rfl) ⟨rfl, ⟨⟨hO18, hA8_18, hA16_18⟩, hlow_18⟩⟩ dX1_init_21
def isTop (z : Nat) (cR : ClassId) (F : Nat → va_E) (sl : Nat → Option Nat) : Prop := F 0 = .inr (6, [.ref (z + 1), .ref (z + 15), .ref (z + 29), .ref (z + 30), .ref (z + 116), .ref (z + 118), .ref (z + 120)]) ∧ ∃ g : Nat → Option Nat, F 29 = .inl (cR, 2, .inr (.inr (.inr (.inr g)))) ∧ ∀ i, i < 2 → g i = (sl i).map (fun q => z + q)
theorem isTop.same {z : Nat} {cR : ClassId} {F F2 : Nat → va_E} {sl : Nat → Option Nat} (h : isTop z cR F sl) (h0 : F2 0 = F 0) (h1 : F2 29 = F 29) : isTop z cR F2 sl := by
  obtain ⟨a, g, b, d⟩ := h
  exact ⟨h0.trans a, g, h1.trans b, d⟩
theorem ci_X6_init_RX0 : Cond.instantiable RX0 2 ∈ wsX6_init := by decide +kernel
theorem ci_X6_init_RX1 : Cond.instantiable RX1 2 ∈ wsX6_init := by decide +kernel
theorem ci_X6_init_RX2 : Cond.instantiable RX2 2 ∈ wsX6_init := by decide +kernel
theorem ci_X6_init_RX4 : Cond.instantiable RX4 3 ∈ wsX6_init := by decide +kernel
theorem ci_X6_init_RX5 : Cond.instantiable RX5 10 ∈ wsX6_init := by decide +kernel
theorem cl_X6_init_23 : Cond.classLink RX6 23 RX0 ∈ wsX6_init := by decide +kernel
theorem cl_X6_init_30 : Cond.classLink RX6 30 RX2 ∈ wsX6_init := by decide +kernel
theorem cl_X6_init_37 : Cond.classLink RX6 37 RX4 ∈ wsX6_init := by decide +kernel
theorem cl_X6_init_44 : Cond.classLink RX6 44 RX1 ∈ wsX6_init := by decide +kernel
theorem cl_X6_init_7 : Cond.classLink RX6 7 RX5 ∈ wsX6_init := by decide +kernel
theorem fl_X6_init_10 : Cond.fieldLink RX6 10 "PileRecount" "now" "LPileRecount$Recount;" ∈ wsX6_init := by decide +kernel
theorem fl_X6_init_16 : Cond.fieldLink RX6 16 "PileRecount" "trial" "LPileRecount$Recount;" ∈ wsX6_init := by decide +kernel
theorem fl_X6_init_19 : Cond.fieldLink RX6 19 "PileRecount" "slots" "[LPileRecount$Recount;" ∈ wsX6_init := by decide +kernel
theorem fl_X6_init_26 : Cond.fieldLink RX6 26 "PileRecount" "history" "LPileRecount$History;" ∈ wsX6_init := by decide +kernel
theorem fl_X6_init_33 : Cond.fieldLink RX6 33 "PileRecount" "pad" "LPileRecount$Pad;" ∈ wsX6_init := by decide +kernel
theorem fl_X6_init_40 : Cond.fieldLink RX6 40 "PileRecount" "reader" "LPileRecount$Reader;" ∈ wsX6_init := by decide +kernel
theorem fl_X6_init_47 : Cond.fieldLink RX6 47 "PileRecount" "odds" "LPileRecount$Odds;" ∈ wsX6_init := by decide +kernel
theorem hn_X6_init_X0 : ∀ w ∈ wsX00, w ∈ wsX6_init := fun _ h => List.mem_cons_of_mem _ (List.mem_append_left _ (List.mem_append_left _ (List.mem_append_left _ (List.mem_append_left _ (List.mem_append_right _ h)))))
theorem hn_X6_init_X1 : ∀ w ∈ wsX10, w ∈ wsX6_init := fun _ h => List.mem_cons_of_mem _ (List.mem_append_left _ (List.mem_append_right _ h))
theorem hn_X6_init_X2 : ∀ w ∈ wsX20, w ∈ wsX6_init := fun _ h => List.mem_cons_of_mem _ (List.mem_append_left _ (List.mem_append_left _ (List.mem_append_left _ (List.mem_append_right _ h))))
theorem hn_X6_init_X4 : ∀ w ∈ wsX40, w ∈ wsX6_init := fun _ h => List.mem_cons_of_mem _ (List.mem_append_left _ (List.mem_append_left _ (List.mem_append_right _ h)))
theorem hn_X6_init_X5 : ∀ w ∈ wsX50, w ∈ wsX6_init := fun _ h => List.mem_cons_of_mem _ (List.mem_append_left _ (List.mem_append_left _ (List.mem_append_left _ (List.mem_append_left _ (List.mem_append_left _ (List.mem_append_left _ (List.mem_append_right _ h)))))))
theorem hn_X6_init_X6 : ∀ w ∈ wsX60, w ∈ wsX6_init := fun _ h => List.mem_cons_of_mem _ (List.mem_append_left _ (List.mem_append_left _ (List.mem_append_left _ (List.mem_append_left _ (List.mem_append_left _ (List.mem_append_right _ h))))))
theorem ni_X6_init_RX0 : Cond.initialized RX0 ∈ wsX6_init := by decide +kernel
theorem ni_X6_init_RX1 : Cond.initialized RX1 ∈ wsX6_init := by decide +kernel
theorem ni_X6_init_RX2 : Cond.initialized RX2 ∈ wsX6_init := by decide +kernel
theorem ni_X6_init_RX4 : Cond.initialized RX4 ∈ wsX6_init := by decide +kernel
theorem ni_X6_init_RX5 : Cond.initialized RX5 ∈ wsX6_init := by decide +kernel
theorem nl_X6_init_25 : Cond.methodLink RX6 25 yX0_init ∈ wsX6_init := by decide +kernel
theorem nl_X6_init_9 : Cond.methodLink RX6 9 yX5_init ∈ wsX6_init := by decide +kernel
theorem nt_X6_init_X0_init : Cond.instanceMethod yX0_init ∈ wsX6_init := by decide +kernel
theorem nt_X6_init_X1_init : Cond.instanceMethod yX1_init ∈ wsX6_init := by decide +kernel
theorem nt_X6_init_X2_init : Cond.instanceMethod yX2_init ∈ wsX6_init := by decide +kernel
theorem nt_X6_init_X4_init : Cond.instanceMethod yX4_init ∈ wsX6_init := by decide +kernel
theorem nt_X6_init_X5_init : Cond.instanceMethod yX5_init ∈ wsX6_init := by decide +kernel
theorem oc_X6_init : Cond.code objectInit ⟨#[0xb1]⟩ 1 none ∈ wsX6_init := by decide +kernel
theorem oi_X6_init : Cond.instanceMethod objectInit ∈ wsX6_init := by decide +kernel
theorem ol_X6_init : Cond.methodLink RX6 1 objectInit ∈ wsX6_init := by decide +kernel
set_option maxHeartbeats 4000000 in
set_option maxRecDepth 100000 in
theorem c_X6_init (l : Launch) (D : va_G) (z : Nat) (cI cZ cP cR : ClassId) (N : Nat) (F : Nat → va_E) (hN : N = 1) (hF : F 0 = .inr (6, [.null, .null, .null, .null, .null, .null, .null])) : gMv l yX6_init wsX6_init ({ frames := 4, cells := 122, slots := 1924, locals := 74 }) D z cI cZ cP cR 1 F [.ref (z + 0)] (gVoid 123 (fun F2 => isTop z cR F2 (fun _ => none) ∧ isRec z cI cP F2 1 0 (-6) 0 0 500 1 0 (fun _ _ => 0) (fun _ => 0) (fun _ => 0) ∧ isRec z cI cP F2 15 0 (-6) 0 0 500 1 0 (fun _ _ => 0) (fun _ => 0) (fun _ => 0) ∧ isHis z cR F2 30 0 (fun q => 30 + 2 + 14 * q) ∧ (∀ q, q < 6 → isRec z cI cP F2 (30 + 2 + 14 * q) 0 (-6) 0 0 500 1 0 (fun _ _ => 0) (fun _ => 0) (fun _ => 0)) ∧ isPad z cI F2 116 0 (fun _ => 0) ∧ isRea z cI F2 118 0 0 (fun _ => 0) ∧ isOdd z cI F2 120 (fun _ => 0) (fun _ => 0))) 122 1924 := by
  refine gMv.of (cc := cX6_init) (maxL := 1) (ret := none) (by decide) rfl (Nat.le_of_ble_eq_true rfl) [(0, .ref (z + 0))] rfl ?_
  intro pg ev sg mg bel me cg C hR0
  subst hN
  refine x_aload_n C (pc := 0) 0 dX6_init_0 rfl ?_
  refine x_objInit C (pc := 1) ol_X6_init oi_X6_init oc_X6_init dX6_init_1 (Nat.le_of_ble_eq_true rfl) (Nat.le_of_ble_eq_true rfl) ?_
  refine x_aload_n C (pc := 4) 0 dX6_init_4 rfl ?_
  refine x_new C (pc := 5) (ci := 5) (fs := [.null, .int 0, .int 0, .null, .null, .int 0, .int 0, .int 0, .int 0, .int 0]) rfl hn_X6_init_X5 tyX5 tyX5_ok cl_X6_init_7 ci_X6_init_RX5 ni_X6_init_RX5 (fun j hj => by match j, hj with | 0, _ => rfl | 1, _ => rfl | 2, _ => rfl | 3, _ => rfl | 4, _ => rfl | 5, _ => rfl | 6, _ => rfl | 7, _ => rfl | 8, _ => rfl | 9, _ => rfl) (by show 0 + 1 ≤ 122; omega) (by show 0 + 10 ≤ 1924; omega) dX6_init_5 ?_
  refine x_nameF (fun F_5 e_5 => ?_)
  have fr_5 : ∀ q, q ≠ 1 → F_5 q = F q := fun q h => by rw [e_5, va_up_ne _ _ h]
  have up_5 : F_5 1 = .inr (5, [.null, .int 0, .int 0, .null, .null, .int 0, .int 0, .int 0, .int 0, .int 0]) := by rw [e_5]; exact va_up_self _ _ _
  have hF_5 := (fr_5 0 (by omega)).trans hF
  have hO5 := up_5
  refine x_dup C (pc := 8) dX6_init_8 rfl ?_
  refine x_cIvE C (pc := 9) (st := [.ref (z + 1), .ref (z + 0)]) (c_X5_init l D z cI cZ cP cR 2 F_5 1 rfl hO5) (cwI 0 C.2.2.2.2.1 gX6_init_X5_init rfl rfl rfl (C.2.2.2.2.1 _ ni_X6_init_RX5) (C.2.2.2.2.1 _ nl_X6_init_9) (C.2.2.2.2.1 _ nt_X6_init_X5_init) rfl hd_X5_init.2 ⟨Nat.le_of_ble_eq_true rfl, Nat.le_of_ble_eq_true rfl⟩) rfl rfl (Nat.le_of_ble_eq_true rfl) dX6_init_9 ⟨Nat.le_of_ble_eq_true rfl, Nat.le_of_ble_eq_true rfl⟩ (fun F_9 h_9 => ?_)
  obtain ⟨hP9, lo_9⟩ := h_9
  have fr_9 : ∀ q, q < 1 → F_9 q = F_5 q := lo_9
  have hF_9 := (fr_9 0 (by omega)).trans hF_5
  refine x_putF C (pc := 12) (q := 0) (v := .ref (z + 1)) (ci := 6) rfl hn_X6_init_X6 tyX6 tyX6_ok nmX6 0 (by decide) fl_X6_init_10 rfl rfl hR0.2.2 rfl (ty := tyX6 0) (tyX6_ok 0 (by decide)) rfl rfl (Nat.le_of_ble_eq_true rfl) (by omega) hF_9 dX6_init_12 ?_
  refine x_nameF (fun F_12 e_12 => ?_)
  have fr_12 : ∀ q, q ≠ 0 → F_12 q = F_9 q := fun q h => by rw [e_12, va_up_ne _ _ h]
  have up_12 : F_12 0 = .inr (6, [.ref (z + 1), .null, .null, .null, .null, .null, .null]) := by rw [e_12]; exact va_up_self _ _ _
  have hP9_12 := hP9.same (F2 := F_12) (fun q h1 h2 => fr_12 q (by omega))
  have hO12 := up_12
  refine x_aload_n C (pc := 15) 0 dX6_init_15 rfl ?_
  refine x_new C (pc := 16) (ci := 5) (fs := [.null, .int 0, .int 0, .null, .null, .int 0, .int 0, .int 0, .int 0, .int 0]) rfl hn_X6_init_X5 tyX5 tyX5_ok cl_X6_init_7 ci_X6_init_RX5 ni_X6_init_RX5 (fun j hj => by match j, hj with | 0, _ => rfl | 1, _ => rfl | 2, _ => rfl | 3, _ => rfl | 4, _ => rfl | 5, _ => rfl | 6, _ => rfl | 7, _ => rfl | 8, _ => rfl | 9, _ => rfl) (by show 0 + 1 + 13 + 1 ≤ 122; omega) (by show 0 + 10 + 80 + 10 ≤ 1924; omega) dX6_init_16 ?_
  refine x_nameF (fun F_16 e_16 => ?_)
  have fr_16 : ∀ q, q ≠ 15 → F_16 q = F_12 q := fun q h => by rw [e_16, va_up_ne _ _ h]
  have up_16 : F_16 15 = .inr (5, [.null, .int 0, .int 0, .null, .null, .int 0, .int 0, .int 0, .int 0, .int 0]) := by rw [e_16]; exact va_up_self _ _ _
  have hP9_16 := hP9_12.same (F2 := F_16) (fun q h1 h2 => fr_16 q (by omega))
  have hO12_16 := (fr_16 0 (by omega)).trans hO12
  have hO16 := up_16
  refine x_dup C (pc := 19) dX6_init_19 rfl ?_
  refine x_cIvE C (pc := 20) (st := [.ref (z + 15), .ref (z + 0)]) (c_X5_init l D z cI cZ cP cR 16 F_16 15 rfl hO16) (cwI 0 C.2.2.2.2.1 gX6_init_X5_init rfl rfl rfl (C.2.2.2.2.1 _ ni_X6_init_RX5) (C.2.2.2.2.1 _ nl_X6_init_9) (C.2.2.2.2.1 _ nt_X6_init_X5_init) rfl hd_X5_init.2 ⟨Nat.le_of_ble_eq_true rfl, Nat.le_of_ble_eq_true rfl⟩) rfl rfl (Nat.le_of_ble_eq_true rfl) dX6_init_20 ⟨Nat.le_of_ble_eq_true rfl, Nat.le_of_ble_eq_true rfl⟩ (fun F_20 h_20 => ?_)
  obtain ⟨hP20, lo_20⟩ := h_20
  have fr_20 : ∀ q, q < 15 → F_20 q = F_16 q := lo_20
  have hP9_20 := hP9_16.same (F2 := F_20) (fun q h1 h2 => fr_20 q (by omega))
  have hO12_20 := (fr_20 0 (by omega)).trans hO12_16
  refine x_putF C (pc := 23) (q := 0) (v := .ref (z + 15)) (ci := 6) rfl hn_X6_init_X6 tyX6 tyX6_ok nmX6 1 (by decide) fl_X6_init_16 rfl rfl hR0.2.2 rfl (ty := tyX6 1) (tyX6_ok 1 (by decide)) rfl rfl (Nat.le_of_ble_eq_true rfl) (by omega) hO12_20 dX6_init_23 ?_
  refine x_nameF (fun F_23 e_23 => ?_)
  have fr_23 : ∀ q, q ≠ 0 → F_23 q = F_20 q := fun q h => by rw [e_23, va_up_ne _ _ h]
  have up_23 : F_23 0 = .inr (6, [.ref (z + 1), .ref (z + 15), .null, .null, .null, .null, .null]) := by rw [e_23]; exact va_up_self _ _ _
  have hP9_23 := hP9_20.same (F2 := F_23) (fun q h1 h2 => fr_23 q (by omega))
  have hP20_23 := hP20.same (F2 := F_23) (fun q h1 h2 => fr_23 q (by omega))
  have hO23 := up_23
  refine x_aload_n C (pc := 26) 0 dX6_init_26 rfl ?_
  refine x_iconst C (pc := 27) (v := 2) dX6_init_27 (by decide) ?_
  refine x_newQ C (pc := 28) (k0 := 2) 3 rfl cl_X6_init_7 C.2.2.2.2.2.1.2.2.2 rfl (by decide) (by show 0 + 1 + 13 + 1 + 13 + 1 ≤ 122; omega) (by show 0 + 10 + 80 + 10 + 80 + 2 ≤ 1924; omega) dX6_init_28 ?_
  refine x_nameF (fun F_28 e_28 => ?_)
  have fr_28 : ∀ q, q ≠ 29 → F_28 q = F_23 q := fun q h => by rw [e_28, va_up_ne _ _ h]
  have up_28 : F_28 29 = .inl (cR, 2, .inr (.inr (.inr (.inr (fun _ => none))))) := by rw [e_28]; exact va_up_self _ _ _
  have hP9_28 := hP9_23.same (F2 := F_28) (fun q h1 h2 => fr_28 q (by omega))
  have hP20_28 := hP20_23.same (F2 := F_28) (fun q h1 h2 => fr_28 q (by omega))
  have hO23_28 := (fr_28 0 (by omega)).trans hO23
  have hO28 := up_28
  refine x_putF C (pc := 31) (q := 0) (v := .ref (z + 29)) (ci := 6) rfl hn_X6_init_X6 tyX6 tyX6_ok nmX6 2 (by decide) fl_X6_init_19 rfl rfl hR0.2.2 rfl (ty := tyX6 2) (tyX6_ok 2 (by decide)) rfl rfl (Nat.le_of_ble_eq_true rfl) (by omega) hO23_28 dX6_init_31 ?_
  refine x_nameF (fun F_31 e_31 => ?_)
  have fr_31 : ∀ q, q ≠ 0 → F_31 q = F_28 q := fun q h => by rw [e_31, va_up_ne _ _ h]
  have up_31 : F_31 0 = .inr (6, [.ref (z + 1), .ref (z + 15), .ref (z + 29), .null, .null, .null, .null]) := by rw [e_31]; exact va_up_self _ _ _
  have hP9_31 := hP9_28.same (F2 := F_31) (fun q h1 h2 => fr_31 q (by omega))
  have hP20_31 := hP20_28.same (F2 := F_31) (fun q h1 h2 => fr_31 q (by omega))
  have hO28_31 := (fr_31 29 (by omega)).trans hO28
  have hO31 := up_31
  refine x_aload_n C (pc := 34) 0 dX6_init_34 rfl ?_
  refine x_new C (pc := 35) (ci := 0) (fs := [.null, .int 0]) rfl hn_X6_init_X0 tyX0 tyX0_ok cl_X6_init_23 ci_X6_init_RX0 ni_X6_init_RX0 (fun j hj => by match j, hj with | 0, _ => rfl | 1, _ => rfl) (by show 0 + 1 + 13 + 1 + 13 + 1 + 1 ≤ 122; omega) (by show 0 + 10 + 80 + 10 + 80 + 2 + 2 ≤ 1924; omega) dX6_init_35 ?_
  refine x_nameF (fun F_35 e_35 => ?_)
  have fr_35 : ∀ q, q ≠ 30 → F_35 q = F_31 q := fun q h => by rw [e_35, va_up_ne _ _ h]
  have up_35 : F_35 30 = .inr (0, [.null, .int 0]) := by rw [e_35]; exact va_up_self _ _ _
  have hP9_35 := hP9_31.same (F2 := F_35) (fun q h1 h2 => fr_35 q (by omega))
  have hP20_35 := hP20_31.same (F2 := F_35) (fun q h1 h2 => fr_35 q (by omega))
  have hO28_35 := (fr_35 29 (by omega)).trans hO28_31
  have hO31_35 := (fr_35 0 (by omega)).trans hO31
  have hO35 := up_35
  refine x_dup C (pc := 38) dX6_init_38 rfl ?_
  refine x_cIvE C (pc := 39) (st := [.ref (z + 30), .ref (z + 0)]) (c_X0_init l D z cI cZ cP cR 31 F_35 30 rfl hO35) (cwI 0 C.2.2.2.2.1 gX6_init_X0_init rfl rfl rfl (C.2.2.2.2.1 _ ni_X6_init_RX0) (C.2.2.2.2.1 _ nl_X6_init_25) (C.2.2.2.2.1 _ nt_X6_init_X0_init) rfl hd_X0_init.2 ⟨Nat.le_of_ble_eq_true rfl, Nat.le_of_ble_eq_true rfl⟩) rfl rfl (Nat.le_of_ble_eq_true rfl) dX6_init_39 ⟨Nat.le_of_ble_eq_true rfl, Nat.le_of_ble_eq_true rfl⟩ (fun F_39 h_39 => ?_)
  obtain ⟨hP39, hH39, lo_39⟩ := h_39
  have fr_39 : ∀ q, q < 30 → F_39 q = F_35 q := lo_39
  have hP9_39 := hP9_35.same (F2 := F_39) (fun q h1 h2 => fr_39 q (by omega))
  have hP20_39 := hP20_35.same (F2 := F_39) (fun q h1 h2 => fr_39 q (by omega))
  have hO28_39 := (fr_39 29 (by omega)).trans hO28_35
  have hO31_39 := (fr_39 0 (by omega)).trans hO31_35
  refine x_putF C (pc := 42) (q := 0) (v := .ref (z + 30)) (ci := 6) rfl hn_X6_init_X6 tyX6 tyX6_ok nmX6 3 (by decide) fl_X6_init_26 rfl rfl hR0.2.2 rfl (ty := tyX6 3) (tyX6_ok 3 (by decide)) rfl rfl (Nat.le_of_ble_eq_true rfl) (by omega) hO31_39 dX6_init_42 ?_
  refine x_nameF (fun F_42 e_42 => ?_)
  have fr_42 : ∀ q, q ≠ 0 → F_42 q = F_39 q := fun q h => by rw [e_42, va_up_ne _ _ h]
  have up_42 : F_42 0 = .inr (6, [.ref (z + 1), .ref (z + 15), .ref (z + 29), .ref (z + 30), .null, .null, .null]) := by rw [e_42]; exact va_up_self _ _ _
  have hP9_42 := hP9_39.same (F2 := F_42) (fun q h1 h2 => fr_42 q (by omega))
  have hP20_42 := hP20_39.same (F2 := F_42) (fun q h1 h2 => fr_42 q (by omega))
  have hO28_42 := (fr_42 29 (by omega)).trans hO28_39
  have hP39_42 := hP39.same (F2 := F_42) (fun q h1 h2 => fr_42 q (by omega))
  have hH39_42 : ∀ q, q < 6 → isRec z cI cP F_42 (30 + 2 + 14 * q) 0 (-6) 0 0 500 1 0 (fun _ _ => 0) (fun _ => 0) (fun _ => 0) := fun q hq => (hH39 q hq).same (fun q2 h1 h2 => fr_42 q2 (by omega))
  have hO42 := up_42
  refine x_aload_n C (pc := 45) 0 dX6_init_45 rfl ?_
  refine x_new C (pc := 46) (ci := 2) (fs := [.null, .int 0]) rfl hn_X6_init_X2 tyX2 tyX2_ok cl_X6_init_30 ci_X6_init_RX2 ni_X6_init_RX2 (fun j hj => by match j, hj with | 0, _ => rfl | 1, _ => rfl) (by show 0 + 1 + 13 + 1 + 13 + 1 + 1 + 85 + 1 ≤ 122; omega) (by show 0 + 10 + 80 + 10 + 80 + 2 + 2 + 546 + 2 ≤ 1924; omega) dX6_init_46 ?_
  refine x_nameF (fun F_46 e_46 => ?_)
  have fr_46 : ∀ q, q ≠ 116 → F_46 q = F_42 q := fun q h => by rw [e_46, va_up_ne _ _ h]
  have up_46 : F_46 116 = .inr (2, [.null, .int 0]) := by rw [e_46]; exact va_up_self _ _ _
  have hP9_46 := hP9_42.same (F2 := F_46) (fun q h1 h2 => fr_46 q (by omega))
  have hP20_46 := hP20_42.same (F2 := F_46) (fun q h1 h2 => fr_46 q (by omega))
  have hO28_46 := (fr_46 29 (by omega)).trans hO28_42
  have hP39_46 := hP39_42.same (F2 := F_46) (fun q h1 h2 => fr_46 q (by omega))
  have hH39_46 : ∀ q, q < 6 → isRec z cI cP F_46 (30 + 2 + 14 * q) 0 (-6) 0 0 500 1 0 (fun _ _ => 0) (fun _ => 0) (fun _ => 0) := fun q hq => (hH39_42 q hq).same (fun q2 h1 h2 => fr_46 q2 (by omega))
  have hO42_46 := (fr_46 0 (by omega)).trans hO42
  have hO46 := up_46
  refine x_dup C (pc := 49) dX6_init_49 rfl ?_
  refine x_cINvE C (pc := 50) (st := [.ref (z + 116), .ref (z + 0)]) (c_X2_init l D z cI cZ cP cR 117 F_46 116 rfl hO46) ⟨va_cnB 0 C.2.2.2.2.1 gX6_init_X2_init_n32 rfl rfl rfl (C.2.2.2.2.2.1.2.1 _ (List.mem_of_getElem? (i := 0) rfl)) (C.2.2.2.2.1 _ ni_X6_init_RX2) hd_X2_init.2 ⟨Nat.le_of_ble_eq_true rfl, Nat.le_of_ble_eq_true rfl⟩, rfl, C.2.2.2.2.1 _ nt_X6_init_X2_init⟩ rfl rfl (Nat.le_of_ble_eq_true rfl) dX6_init_50 ⟨Nat.le_of_ble_eq_true rfl, Nat.le_of_ble_eq_true rfl⟩ (fun F_50 h_50 => ?_)
  obtain ⟨hP50, lo_50⟩ := h_50
  have fr_50 : ∀ q, q < 116 → F_50 q = F_46 q := lo_50
  have hP9_50 := hP9_46.same (F2 := F_50) (fun q h1 h2 => fr_50 q (by omega))
  have hP20_50 := hP20_46.same (F2 := F_50) (fun q h1 h2 => fr_50 q (by omega))
  have hO28_50 := (fr_50 29 (by omega)).trans hO28_46
  have hP39_50 := hP39_46.same (F2 := F_50) (fun q h1 h2 => fr_50 q (by omega))
  have hH39_50 : ∀ q, q < 6 → isRec z cI cP F_50 (30 + 2 + 14 * q) 0 (-6) 0 0 500 1 0 (fun _ _ => 0) (fun _ => 0) (fun _ => 0) := fun q hq => (hH39_46 q hq).same (fun q2 h1 h2 => fr_50 q2 (by omega))
  have hO42_50 := (fr_50 0 (by omega)).trans hO42_46
  refine x_putF C (pc := 53) (q := 0) (v := .ref (z + 116)) (ci := 6) rfl hn_X6_init_X6 tyX6 tyX6_ok nmX6 4 (by decide) fl_X6_init_33 rfl rfl hR0.2.2 rfl (ty := tyX6 4) (tyX6_ok 4 (by decide)) rfl rfl (Nat.le_of_ble_eq_true rfl) (by omega) hO42_50 dX6_init_53 ?_
  refine x_nameF (fun F_53 e_53 => ?_)
  have fr_53 : ∀ q, q ≠ 0 → F_53 q = F_50 q := fun q h => by rw [e_53, va_up_ne _ _ h]
  have up_53 : F_53 0 = .inr (6, [.ref (z + 1), .ref (z + 15), .ref (z + 29), .ref (z + 30), .ref (z + 116), .null, .null]) := by rw [e_53]; exact va_up_self _ _ _
  have hP9_53 := hP9_50.same (F2 := F_53) (fun q h1 h2 => fr_53 q (by omega))
  have hP20_53 := hP20_50.same (F2 := F_53) (fun q h1 h2 => fr_53 q (by omega))
  have hO28_53 := (fr_53 29 (by omega)).trans hO28_50
  have hP39_53 := hP39_50.same (F2 := F_53) (fun q h1 h2 => fr_53 q (by omega))
  have hH39_53 : ∀ q, q < 6 → isRec z cI cP F_53 (30 + 2 + 14 * q) 0 (-6) 0 0 500 1 0 (fun _ _ => 0) (fun _ => 0) (fun _ => 0) := fun q hq => (hH39_50 q hq).same (fun q2 h1 h2 => fr_53 q2 (by omega))
  have hP50_53 := hP50.same (F2 := F_53) (fun q h1 h2 => fr_53 q (by omega))
  have hO53 := up_53
  refine x_aload_n C (pc := 56) 0 dX6_init_56 rfl ?_
  refine x_new C (pc := 57) (ci := 4) (fs := [.null, .int 0, .int 0]) rfl hn_X6_init_X4 tyX4 tyX4_ok cl_X6_init_37 ci_X6_init_RX4 ni_X6_init_RX4 (fun j hj => by match j, hj with | 0, _ => rfl | 1, _ => rfl | 2, _ => rfl) (by show 0 + 1 + 13 + 1 + 13 + 1 + 1 + 85 + 1 + 1 + 1 ≤ 122; omega) (by show 0 + 10 + 80 + 10 + 80 + 2 + 2 + 546 + 2 + 80 + 3 ≤ 1924; omega) dX6_init_57 ?_
  refine x_nameF (fun F_57 e_57 => ?_)
  have fr_57 : ∀ q, q ≠ 118 → F_57 q = F_53 q := fun q h => by rw [e_57, va_up_ne _ _ h]
  have up_57 : F_57 118 = .inr (4, [.null, .int 0, .int 0]) := by rw [e_57]; exact va_up_self _ _ _
  have hP9_57 := hP9_53.same (F2 := F_57) (fun q h1 h2 => fr_57 q (by omega))
  have hP20_57 := hP20_53.same (F2 := F_57) (fun q h1 h2 => fr_57 q (by omega))
  have hO28_57 := (fr_57 29 (by omega)).trans hO28_53
  have hP39_57 := hP39_53.same (F2 := F_57) (fun q h1 h2 => fr_57 q (by omega))
  have hH39_57 : ∀ q, q < 6 → isRec z cI cP F_57 (30 + 2 + 14 * q) 0 (-6) 0 0 500 1 0 (fun _ _ => 0) (fun _ => 0) (fun _ => 0) := fun q hq => (hH39_53 q hq).same (fun q2 h1 h2 => fr_57 q2 (by omega))
  have hP50_57 := hP50_53.same (F2 := F_57) (fun q h1 h2 => fr_57 q (by omega))
  have hO53_57 := (fr_57 0 (by omega)).trans hO53
  have hO57 := up_57
  refine x_dup C (pc := 60) dX6_init_60 rfl ?_
  refine x_cINvE C (pc := 61) (st := [.ref (z + 118), .ref (z + 0)]) (c_X4_init l D z cI cZ cP cR 119 F_57 118 rfl hO57) ⟨va_cnB 0 C.2.2.2.2.1 gX6_init_X4_init_n39 rfl rfl rfl (C.2.2.2.2.2.1.2.1 _ (List.mem_of_getElem? (i := 1) rfl)) (C.2.2.2.2.1 _ ni_X6_init_RX4) hd_X4_init.2 ⟨Nat.le_of_ble_eq_true rfl, Nat.le_of_ble_eq_true rfl⟩, rfl, C.2.2.2.2.1 _ nt_X6_init_X4_init⟩ rfl rfl (Nat.le_of_ble_eq_true rfl) dX6_init_61 ⟨Nat.le_of_ble_eq_true rfl, Nat.le_of_ble_eq_true rfl⟩ (fun F_61 h_61 => ?_)
  obtain ⟨hP61, lo_61⟩ := h_61
  have fr_61 : ∀ q, q < 118 → F_61 q = F_57 q := lo_61
  have hP9_61 := hP9_57.same (F2 := F_61) (fun q h1 h2 => fr_61 q (by omega))
  have hP20_61 := hP20_57.same (F2 := F_61) (fun q h1 h2 => fr_61 q (by omega))
  have hO28_61 := (fr_61 29 (by omega)).trans hO28_57
  have hP39_61 := hP39_57.same (F2 := F_61) (fun q h1 h2 => fr_61 q (by omega))
  have hH39_61 : ∀ q, q < 6 → isRec z cI cP F_61 (30 + 2 + 14 * q) 0 (-6) 0 0 500 1 0 (fun _ _ => 0) (fun _ => 0) (fun _ => 0) := fun q hq => (hH39_57 q hq).same (fun q2 h1 h2 => fr_61 q2 (by omega))
  have hP50_61 := hP50_57.same (F2 := F_61) (fun q h1 h2 => fr_61 q (by omega))
  have hO53_61 := (fr_61 0 (by omega)).trans hO53_57
  refine x_putF C (pc := 64) (q := 0) (v := .ref (z + 118)) (ci := 6) rfl hn_X6_init_X6 tyX6 tyX6_ok nmX6 5 (by decide) fl_X6_init_40 rfl rfl hR0.2.2 rfl (ty := tyX6 5) (tyX6_ok 5 (by decide)) rfl rfl (Nat.le_of_ble_eq_true rfl) (by omega) hO53_61 dX6_init_64 ?_
  refine x_nameF (fun F_64 e_64 => ?_)
  have fr_64 : ∀ q, q ≠ 0 → F_64 q = F_61 q := fun q h => by rw [e_64, va_up_ne _ _ h]
  have up_64 : F_64 0 = .inr (6, [.ref (z + 1), .ref (z + 15), .ref (z + 29), .ref (z + 30), .ref (z + 116), .ref (z + 118), .null]) := by rw [e_64]; exact va_up_self _ _ _
  have hP9_64 := hP9_61.same (F2 := F_64) (fun q h1 h2 => fr_64 q (by omega))
  have hP20_64 := hP20_61.same (F2 := F_64) (fun q h1 h2 => fr_64 q (by omega))
  have hO28_64 := (fr_64 29 (by omega)).trans hO28_61
  have hP39_64 := hP39_61.same (F2 := F_64) (fun q h1 h2 => fr_64 q (by omega))
  have hH39_64 : ∀ q, q < 6 → isRec z cI cP F_64 (30 + 2 + 14 * q) 0 (-6) 0 0 500 1 0 (fun _ _ => 0) (fun _ => 0) (fun _ => 0) := fun q hq => (hH39_61 q hq).same (fun q2 h1 h2 => fr_64 q2 (by omega))
  have hP50_64 := hP50_61.same (F2 := F_64) (fun q h1 h2 => fr_64 q (by omega))
  have hP61_64 := hP61.same (F2 := F_64) (fun q h1 h2 => fr_64 q (by omega))
  have hO64 := up_64
  refine x_aload_n C (pc := 67) 0 dX6_init_67 rfl ?_
  refine x_new C (pc := 68) (ci := 1) (fs := [.null, .null]) rfl hn_X6_init_X1 tyX1 tyX1_ok cl_X6_init_44 ci_X6_init_RX1 ni_X6_init_RX1 (fun j hj => by match j, hj with | 0, _ => rfl | 1, _ => rfl) (by show 0 + 1 + 13 + 1 + 13 + 1 + 1 + 85 + 1 + 1 + 1 + 1 + 1 ≤ 122; omega) (by show 0 + 10 + 80 + 10 + 80 + 2 + 2 + 546 + 2 + 80 + 3 + 5 + 2 ≤ 1924; omega) dX6_init_68 ?_
  refine x_nameF (fun F_68 e_68 => ?_)
  have fr_68 : ∀ q, q ≠ 120 → F_68 q = F_64 q := fun q h => by rw [e_68, va_up_ne _ _ h]
  have up_68 : F_68 120 = .inr (1, [.null, .null]) := by rw [e_68]; exact va_up_self _ _ _
  have hP9_68 := hP9_64.same (F2 := F_68) (fun q h1 h2 => fr_68 q (by omega))
  have hP20_68 := hP20_64.same (F2 := F_68) (fun q h1 h2 => fr_68 q (by omega))
  have hO28_68 := (fr_68 29 (by omega)).trans hO28_64
  have hP39_68 := hP39_64.same (F2 := F_68) (fun q h1 h2 => fr_68 q (by omega))
  have hH39_68 : ∀ q, q < 6 → isRec z cI cP F_68 (30 + 2 + 14 * q) 0 (-6) 0 0 500 1 0 (fun _ _ => 0) (fun _ => 0) (fun _ => 0) := fun q hq => (hH39_64 q hq).same (fun q2 h1 h2 => fr_68 q2 (by omega))
  have hP50_68 := hP50_64.same (F2 := F_68) (fun q h1 h2 => fr_68 q (by omega))
  have hP61_68 := hP61_64.same (F2 := F_68) (fun q h1 h2 => fr_68 q (by omega))
  have hO64_68 := (fr_68 0 (by omega)).trans hO64
  have hO68 := up_68
  refine x_dup C (pc := 71) dX6_init_71 rfl ?_
  refine x_cINvE C (pc := 72) (st := [.ref (z + 120), .ref (z + 0)]) (c_X1_init l D z cI cZ cP cR 121 F_68 120 rfl hO68) ⟨va_cnB 0 C.2.2.2.2.1 gX6_init_X1_init_n46 rfl rfl rfl (C.2.2.2.2.2.1.2.1 _ (List.mem_of_getElem? (i := 2) rfl)) (C.2.2.2.2.1 _ ni_X6_init_RX1) hd_X1_init.2 ⟨Nat.le_of_ble_eq_true rfl, Nat.le_of_ble_eq_true rfl⟩, rfl, C.2.2.2.2.1 _ nt_X6_init_X1_init⟩ rfl rfl (Nat.le_of_ble_eq_true rfl) dX6_init_72 ⟨Nat.le_of_ble_eq_true rfl, Nat.le_of_ble_eq_true rfl⟩ (fun F_72 h_72 => ?_)
  obtain ⟨hP72, lo_72⟩ := h_72
  have fr_72 : ∀ q, q < 120 → F_72 q = F_68 q := lo_72
  have hP9_72 := hP9_68.same (F2 := F_72) (fun q h1 h2 => fr_72 q (by omega))
  have hP20_72 := hP20_68.same (F2 := F_72) (fun q h1 h2 => fr_72 q (by omega))
  have hO28_72 := (fr_72 29 (by omega)).trans hO28_68
  have hP39_72 := hP39_68.same (F2 := F_72) (fun q h1 h2 => fr_72 q (by omega))
  have hH39_72 : ∀ q, q < 6 → isRec z cI cP F_72 (30 + 2 + 14 * q) 0 (-6) 0 0 500 1 0 (fun _ _ => 0) (fun _ => 0) (fun _ => 0) := fun q hq => (hH39_68 q hq).same (fun q2 h1 h2 => fr_72 q2 (by omega))
  have hP50_72 := hP50_68.same (F2 := F_72) (fun q h1 h2 => fr_72 q (by omega))
  have hP61_72 := hP61_68.same (F2 := F_72) (fun q h1 h2 => fr_72 q (by omega))
  have hO64_72 := (fr_72 0 (by omega)).trans hO64_68
  refine x_putF C (pc := 75) (q := 0) (v := .ref (z + 120)) (ci := 6) rfl hn_X6_init_X6 tyX6 tyX6_ok nmX6 6 (by decide) fl_X6_init_47 rfl rfl hR0.2.2 rfl (ty := tyX6 6) (tyX6_ok 6 (by decide)) rfl rfl (Nat.le_of_ble_eq_true rfl) (by omega) hO64_72 dX6_init_75 ?_
  refine x_nameF (fun F_75 e_75 => ?_)
  have fr_75 : ∀ q, q ≠ 0 → F_75 q = F_72 q := fun q h => by rw [e_75, va_up_ne _ _ h]
  have up_75 : F_75 0 = .inr (6, [.ref (z + 1), .ref (z + 15), .ref (z + 29), .ref (z + 30), .ref (z + 116), .ref (z + 118), .ref (z + 120)]) := by rw [e_75]; exact va_up_self _ _ _
  have hP9_75 := hP9_72.same (F2 := F_75) (fun q h1 h2 => fr_75 q (by omega))
  have hP20_75 := hP20_72.same (F2 := F_75) (fun q h1 h2 => fr_75 q (by omega))
  have hO28_75 := (fr_75 29 (by omega)).trans hO28_72
  have hP39_75 := hP39_72.same (F2 := F_75) (fun q h1 h2 => fr_75 q (by omega))
  have hH39_75 : ∀ q, q < 6 → isRec z cI cP F_75 (30 + 2 + 14 * q) 0 (-6) 0 0 500 1 0 (fun _ _ => 0) (fun _ => 0) (fun _ => 0) := fun q hq => (hH39_72 q hq).same (fun q2 h1 h2 => fr_75 q2 (by omega))
  have hP50_75 := hP50_72.same (F2 := F_75) (fun q h1 h2 => fr_75 q (by omega))
  have hP61_75 := hP61_72.same (F2 := F_75) (fun q h1 h2 => fr_75 q (by omega))
  have hP72_75 := hP72.same (F2 := F_75) (fun q h1 h2 => fr_75 q (by omega))
  have hO75 := up_75
  exact x_vret C hR0 (Nat.le_of_ble_eq_true rfl) (Nat.le_of_ble_eq_true rfl) ⟨rfl, ⟨⟨hO75, _, hO28_75, fun i hi => rfl⟩, hP9_75, hP20_75, hP39_75, hH39_75, hP50_75, hP61_75, hP72_75⟩⟩ dX6_init_78
