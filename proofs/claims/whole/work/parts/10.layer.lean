/-! the layer: a world of N cells from the address z on, by a function of the place; the judgement gX over it -/
def gw (z N : Nat) (F : Nat → va_E) : va_W := (List.range N).map (fun k => (z + k, F k))
theorem gw_at {z N : Nat} {F : Nat → va_E} {k : Nat} (h : k < N) : (gw z N F)[k]? = some (z + k, F k) := by
  simp [gw, h]
theorem gw_in {z N : Nat} {F : Nat → va_E} {k : Nat} {q : Nat × va_E} (h : (gw z N F)[k]? = some q) : k < N ∧ q = (z + k, F k) := by
  have h1 : k < (gw z N F).length := (List.getElem?_eq_some_iff.mp h).1
  have h2 : k < N := by simpa [gw] using h1
  rw [gw_at h2] at h
  exact ⟨h2, (Option.some.inj h).symm⟩
def gA (z : Nat) : Nat → Prop := fun q => z ≤ q
theorem gw_D (z N : Nat) (F : Nat → va_E) : va_D (gA z) (gw z N F) := by
  refine ⟨fun i j p q hi hj hpq => ?_, fun k q hk => ?_⟩
  · obtain ⟨-, rfl⟩ := gw_in hi
    obtain ⟨-, rfl⟩ := gw_in hj
    have : z + i = z + j := hpq
    omega
  · obtain ⟨-, rfl⟩ := gw_in hk
    exact Nat.le_add_right z k
theorem gw_set {z N : Nat} {F : Nat → va_E} {k : Nat} (h : k < N) (e : va_E) : (gw z N F).set k (z + k, e) = gw z N (va_up F k e) := by
  apply List.ext_getElem?
  intro j
  by_cases hj : j < N
  · rw [gw_at hj]
    by_cases hk : j = k
    · subst hk
      rw [List.getElem?_set_self (by simpa [gw] using hj), va_up_self]
    · rw [List.getElem?_set_ne (Ne.symm hk), gw_at hj, va_up_ne _ _ hk]
  · rw [List.getElem?_eq_none (by simp [gw]; omega), List.getElem?_eq_none (by simp [gw]; omega)]
theorem gw_push (z N : Nat) (F : Nat → va_E) (e : va_E) : gw z N F ++ [(z + N, e)] = gw z (N + 1) (va_up F N e) := by
  apply List.ext_getElem?
  intro j
  by_cases hj : j < N
  · rw [List.getElem?_append_left (by simpa [gw] using hj), gw_at hj, gw_at (by omega), va_up_ne _ _ (by omega)]
  · rw [List.getElem?_append_right (by simp [gw]; omega)]
    by_cases hk : j = N
    · subst hk
      rw [gw_at (by omega), va_up_self]
      simp [gw]
    · rw [List.getElem?_eq_none (by simp [gw]; omega), List.getElem?_eq_none (by simp [gw]; omega)]
theorem gw_congr {z N : Nat} {F G : Nat → va_E} (h : ∀ k, k < N → F k = G k) : gw z N F = gw z N G := by
  apply List.map_congr_left
  intro k hk
  rw [h k (List.mem_range.mp hk)]
/-- the array classes that the program makes, and the calls of a nest mate's private members -/
def gTy (cI cZ cP cR : ClassId) : List (ClassId × FieldType) := [(cI, .int), (cZ, .boolean), (cP, .object RX3), (cR, .object RX5)]
def gNest : List (String × Nat × MethodName × String) := [(RX6, 32, yX2_init, RX6), (RX6, 39, yX4_init, RX6), (RX6, 46, yX1_init, RX6), (RX1, 57, yX6_factorial, RX6), (RX1, 60, yX6_has, RX6), (RX5, 123, yX6_riskThatAllAreMissed, RX6), (RX5, 17, yX3_init, RX6), (RX5, 56, yX6_isVotes, RX6), (RX5, 88, yX6_has, RX6)]
def gK (D : va_G) (cI cZ cP cR : ClassId) (U : State) : Prop := va_K D vwCl (gTy cI cZ cP cR) U ∧ (∀ q ∈ gNest, va_Nw (.methodLinkNest q.1 q.2.1 q.2.2.1 q.2.2.2) U) ∧ va_AO RX3 U ∧ va_AO RX5 U
theorem gK.calling {D : va_G} {cI cZ cP cR : ClassId} {U : State} (h : gK D cI cZ cP cR U) (g : JFrame) (mk : MethodId) (a : Array Value) : gK D cI cZ cP cR (U.calling g mk a) :=
  ⟨va_K.moved (u := U) (U := U.calling g mk a) (Vm.Alike.refl U.vm) h.1, fun q hq => va_Nw.same rfl (u := U) (U := U.calling g mk a) rfl (h.2.1 q hq), va_AO.moved (u := U) (U := U.calling g mk a) (Vm.Alike.refl U.vm) h.2.2.1, va_AO.moved (u := U) (U := U.calling g mk a) (Vm.Alike.refl U.vm) h.2.2.2⟩
theorem gK.warm {D : va_G} {cI cZ cP cR : ClassId} {s U : State} (hW : s.WarmedH U.vm) (h : gK D cI cZ cP cR s) : gK D cI cZ cP cR U :=
  ⟨va_K.moved hW.alike h.1, fun q hq => va_Nw.warmM hW (h.2.1 q hq), va_AO.moved hW.alike h.2.2.1, va_AO.moved hW.alike h.2.2.2⟩
/-- the heap is the world -/
def gE (D : va_G) (z : Nat) (u : Nat × (Nat → va_E)) (H : Heap) : Prop := va_P D vwCl (gw z u.1 u.2) H ∧ H.size = z + u.1
def gPc (D : va_G) (z : Nat) (cI cZ cP cR : ClassId) (N : Nat) (F : Nat → va_E) (av : List Value) : Array Value → State → Prop := va_Pc av (fun U => gE D z (N, F) U.heap ∧ gK D cI cZ cP cR U)
theorem gPc.blind {D : va_G} {z : Nat} {cI cZ cP cR : ClassId} {N : Nat} {F : Nat → va_E} {av : List Value} : FrameBlind (gPc D z cI cZ cP cR N F av) := fun _ _ _ _ h => ⟨h.1, h.2.1, h.2.2.calling _ _ _⟩
def gMi (l : Launch) (y : MethodName) (ws : List Cond) (rm : Room) (D : va_G) (z : Nat) (cI cZ cP cR : ClassId) (N : Nat) (F : Nat → va_E) (av : List Value) (post : Int32 → Nat → (Nat → va_E) → Prop) (mc ms : Nat) : Prop := Met l y ws rm (gPc D z cI cZ cP cR N F av) (va_Qi (fun r u => post r u.1 u.2) (fun u t => gE D z u t.heap) (gA z)) mc ms (gA z)
def gMl (l : Launch) (y : MethodName) (ws : List Cond) (rm : Room) (D : va_G) (z : Nat) (cI cZ cP cR : ClassId) (N : Nat) (F : Nat → va_E) (av : List Value) (post : Int64 → Nat → (Nat → va_E) → Prop) (mc ms : Nat) : Prop := Met l y ws rm (gPc D z cI cZ cP cR N F av) (va_Ql (fun r u => post r u.1 u.2) (fun u t => gE D z u t.heap) (gA z)) mc ms (gA z)
def gMv (l : Launch) (y : MethodName) (ws : List Cond) (rm : Room) (D : va_G) (z : Nat) (cI cZ cP cR : ClassId) (N : Nat) (F : Nat → va_E) (av : List Value) (post : Nat → (Nat → va_E) → Prop) (mc ms : Nat) : Prop := Met l y ws rm (gPc D z cI cZ cP cR N F av) (va_Qv (fun u => post u.1 u.2) (fun u t => gE D z u t.heap) (gA z)) mc ms (gA z)
/-- what a walk of a method stands on -/
def gC (p : Program) (s : State) (m : MethodId) (args : Array Value) (c : Code) (own : String) (cc : ByteArray) (nL : Nat) (Ts : List Cond) (z : Nat) (D : va_G) (cI cZ cP cR : ClassId) : Prop := p.tables.exec = Jvm.exec ∧ c.code = cc ∧ c.maxLocals = nL ∧ s.vm.findClass own = some m.cls ∧ (∀ w ∈ Ts, w.before args s = true) ∧ gK D cI cZ cP cR s ∧ z ≤ s.heap.size
/-- the judgement: from the world F of N cells, at pc with the locals L and the stack st, the method comes to Q -/
def gX (p : Program) (l : Launch) (e : Env) (R : Room) (s : State) (m : MethodId) (args : Array Value) (below : List Frame) (meth : Method) (c : Code) (nL z : Nat) (D : va_G) (Q : State → Prop) (N : Nat) (F : Nat → va_E) (cells slots : Nat) (L : List (Nat × Value)) (pc : Nat) (st : List Value) : Prop :=
  ∀ (H : Heap) (locs : List Loc) (ls : Array Slot), gE D z (N, F) H → va_S (gA z) s.heap H locs → lv_has ls nL L → W p l e R s m args below meth c H locs cells slots Q (F0 m pc ls st)
/-- what a method's end stands on -/
def gR (meth : Method) (y : MethodName) (ret : Option FieldType) : Prop := meth.sig.returnType = ret ∧ meth.locks = false ∧ meth.name = y.name
