/-! THE CONSTRUCTORS (gen_init.py) -/
def nthL : List Nat → Nat → Nat
  | [], _ => 0
  | a :: _, 0 => a
  | _ :: l, k + 1 => nthL l k
/-- the private constructors, reached by nest mates -/
def o_Nn (U : State) : Prop := va_Nw (.methodLinkNest RX2 1 yX1_init "SchoolRow") U ∧ va_Nw (.methodLinkNest RX5 25 yX1_init "SchoolRow") U ∧ va_Nw (.methodLinkNest RX5 32 yX8_init "SchoolRow") U ∧ va_Nw (.methodLinkNest RX5 38 yX2_init "SchoolRow") U ∧ va_Nw (.methodLinkNest RX5 44 yX7_init "SchoolRow") U ∧ va_Nw (.methodLinkNest RX5 50 yX6_init "SchoolRow") U ∧ va_Nw (.methodLinkNest RX6 1 yX7_init "SchoolRow") U ∧ va_Nw (.methodLinkNest RX7 1 yX1_init "SchoolRow") U ∧ va_Nw (.methodLinkNest RX8 1 yX1_init "SchoolRow") U ∧ va_Nw (.methodLinkNest RX9 11 yX3_init "SchoolRow") U ∧ va_Nw (.methodLinkNest RX9 18 yX5_init "SchoolRow") U
theorem o_Nn.nX2_1 {U : State} (h : o_Nn U) : va_Nw (.methodLinkNest RX2 1 yX1_init "SchoolRow") U := h.1
theorem o_Nn.nX5_25 {U : State} (h : o_Nn U) : va_Nw (.methodLinkNest RX5 25 yX1_init "SchoolRow") U := h.2.1
theorem o_Nn.nX5_32 {U : State} (h : o_Nn U) : va_Nw (.methodLinkNest RX5 32 yX8_init "SchoolRow") U := h.2.2.1
theorem o_Nn.nX5_38 {U : State} (h : o_Nn U) : va_Nw (.methodLinkNest RX5 38 yX2_init "SchoolRow") U := h.2.2.2.1
theorem o_Nn.nX5_44 {U : State} (h : o_Nn U) : va_Nw (.methodLinkNest RX5 44 yX7_init "SchoolRow") U := h.2.2.2.2.1
theorem o_Nn.nX5_50 {U : State} (h : o_Nn U) : va_Nw (.methodLinkNest RX5 50 yX6_init "SchoolRow") U := h.2.2.2.2.2.1
theorem o_Nn.nX6_1 {U : State} (h : o_Nn U) : va_Nw (.methodLinkNest RX6 1 yX7_init "SchoolRow") U := h.2.2.2.2.2.2.1
theorem o_Nn.nX7_1 {U : State} (h : o_Nn U) : va_Nw (.methodLinkNest RX7 1 yX1_init "SchoolRow") U := h.2.2.2.2.2.2.2.1
theorem o_Nn.nX8_1 {U : State} (h : o_Nn U) : va_Nw (.methodLinkNest RX8 1 yX1_init "SchoolRow") U := h.2.2.2.2.2.2.2.2.1
theorem o_Nn.nX9_11 {U : State} (h : o_Nn U) : va_Nw (.methodLinkNest RX9 11 yX3_init "SchoolRow") U := h.2.2.2.2.2.2.2.2.2.1
theorem o_Nn.nX9_18 {U : State} (h : o_Nn U) : va_Nw (.methodLinkNest RX9 18 yX5_init "SchoolRow") U := h.2.2.2.2.2.2.2.2.2.2
def kK (D : va_G) (cI cB : ClassId) (U : State) : Prop := va_K D vwCl [(cI, .int), (cB, .byte)] U ∧ o_Nn U
theorem kK.warm {D : va_G} {cI cB : ClassId} {s U : State} (hW : s.WarmedH U.vm) (h : kK D cI cB s) : kK D cI cB U := ⟨va_K.moved hW.alike h.1, va_Nw.warmM hW h.2.nX2_1, va_Nw.warmM hW h.2.nX5_25, va_Nw.warmM hW h.2.nX5_32, va_Nw.warmM hW h.2.nX5_38, va_Nw.warmM hW h.2.nX5_44, va_Nw.warmM hW h.2.nX5_50, va_Nw.warmM hW h.2.nX6_1, va_Nw.warmM hW h.2.nX7_1, va_Nw.warmM hW h.2.nX8_1, va_Nw.warmM hW h.2.nX9_11, va_Nw.warmM hW h.2.nX9_18⟩
theorem kK.vm {D : va_G} {cI cB : ClassId} {s U : State} (hv : s.vm = U.vm) (h : kK D cI cB s) : kK D cI cB U := ⟨va_K.moved (by rw [hv]; exact Vm.Alike.refl U.vm) h.1, va_Nw.same rfl hv h.2.nX2_1, va_Nw.same rfl hv h.2.nX5_25, va_Nw.same rfl hv h.2.nX5_32, va_Nw.same rfl hv h.2.nX5_38, va_Nw.same rfl hv h.2.nX5_44, va_Nw.same rfl hv h.2.nX5_50, va_Nw.same rfl hv h.2.nX6_1, va_Nw.same rfl hv h.2.nX7_1, va_Nw.same rfl hv h.2.nX8_1, va_Nw.same rfl hv h.2.nX9_11, va_Nw.same rfl hv h.2.nX9_18⟩
abbrev kX0 (cI cB : ClassId) (h0 : Nat) (n : Nat) (u : List Nat) : va_W := [(h0, .inr (0, [.ref (nthL u 0)])), ((nthL u 0), .inl (cI, n, .inl (fun _ => 0)))]
set_option maxHeartbeats 4000000 in
set_option maxRecDepth 100000 in
theorem c_X0_init (l : Launch) (D : va_G) (cI cB : ClassId) (h0 sz : Nat) (n : Nat) (hn48 : n ≤ 48) : Met l yX0_init wsX0_init ({ frames := 1, cells := 1, slots := n, locals := 12 }) (va_Pc [.ref h0, .int (nI n)] (fun U => U.heap.size = sz ∧ va_P D vwCl [(h0, .inr (0, [.null]))] U.heap ∧ kK D cI cB U ∧ va_D (fun _ => True) [(h0, .inr (0, [.null]))])) (va_Qv (fun _ : List Nat => True) (fun u t => va_P D vwCl (kX0 cI cB h0 n u) t.heap ∧ va_D (va_A [(h0, .inr (0, [.null]))] sz) (kX0 cI cB h0 n u)) (va_A [(h0, .inr (0, [.null]))] sz)) 1 n (va_A [(h0, .inr (0, [.null]))] sz) := by
  refine Met.ofW (cc := cX0_init) (maxL := 2) (ret := none) (by decide) rfl ?_
  intro p e s m args below meth c s₁ B hml hv
  obtain ⟨rfl, hsz, hP, hK, hD0⟩ := hv
  have hx := B.exec
  have hb := B.bytes
  have hr := B.returns
  have hts := atoms_spec (ws := wsX0_init) B.pre
  have hown : s.vm.findClass RX0 = some m.cls := findClass_of_methodNamed B.named
  have hlocks := B.notSynchronized
  have hin : meth.name = "<init>" := (name_of_methodNamed B.named B.method).1
  subst hsz
  have hD := hD0.self (sz := s.heap.size)
  generalize hAe : va_A [(h0, .inr (0, [.null]))] s.heap.size = A at hD ⊢
  have hA : ∀ q : Nat, s.heap.size ≤ q → A q := fun q h => by rw [← hAe]; exact Or.inr h
  have hS : va_S A s.heap s.heap [] := va_S.rf
  have hP : va_P D vwCl [(h0, .inr (0, [.null]))] s.heap := hP
  have hl := lv_entry ([.ref h0, .int (nI n)]) (n := 2) (Nat.le_of_ble_eq_true rfl)
  rw [lg_entry_eq]
  generalize (lg_sl ([.ref h0, .int (nI n)]) ++ List.replicate (2 - (lg_sl ([.ref h0, .int (nI n)])).length) Slot.unset).toArray = ls at hl ⊢
  have hl : lv_has ls 2 [(0, .ref h0), (1, .int (nI n))] := hl
  refine lv_aload_n hx hb dX0_init_0 rfl (lv_at hl 0 rfl) ?_
  refine W.objInit hx hb hown (hts (.methodLink RX0 1 objectInit) (by decide +kernel)) (hts (.instanceMethod objectInit) (by decide +kernel)) (hts (.code objectInit ⟨#[0xb1]⟩ 1 none) (by decide +kernel)) rfl (by rw [hml]; exact hl.1) rfl dX0_init_1 (Nat.le_of_ble_eq_true rfl) (Nat.le_of_ble_eq_true rfl) ?_
  refine W.eq (g2 := F0 m 4 ls []) rfl ?_
  refine lv_aload_n hx hb dX0_init_4 rfl (lv_at hl 0 rfl) ?_
  refine lv_iload_n hx hb dX0_init_5 rfl (lv_at hl 1 rfl) ?_
  refine lv_if_ge hx hb dX0_init_6 (show ((6 : Nat) : Int) + 7 = ((13 : Nat) : Int) by decide) (fun _ => ?_) (fun z => absurd (nI_pos' (by omega)) z)
  refine lv_iload_n hx hb dX0_init_13 rfl (lv_at hl 1 rfl) ?_
  have hA1 : 1 ≤ 1 := by decide
  have hB1 : 0 + n ≤ n := by omega
  refine va_newa (atype := .int) (ty := .int) (a0 := (n, .inl (fun _ => 0))) (N' := n) hx hb (hts (.arrayClass .int) (by decide +kernel)) rfl hK.1 hP hD hS hA (fun _ => rfl) (nI_nneg (by omega)) (nI_clamp (by omega)) (show n * 4 ≤ 536870912 by omega) hA1 hB1 dX0_init_14 (fun q14 cA H hKA hP hD hS => ?_)
  obtain rfl : cI = cA := by
    have e1 := (hKA.2 0 (cI, .int) rfl).2
    have e2 := (hKA.2 2 (cA, .int) rfl).2
    exact Option.some.inj (e1.symm.trans e2)
  have hP : va_P D vwCl [(h0, .inr (0, [.null])), (q14, .inl (cI, n, .inl (fun _ => 0)))] H := hP
  have hD : va_D A [(h0, .inr (0, [.null])), (q14, .inl (cI, n, .inl (fun _ => 0)))] := hD
  refine W.widen (k := 1) (n := n) (by omega) (by omega) ?_
  refine va_putF (D := D) (ci := 0) (v := .ref q14) (ty := .array .int) (C := RX0) (T := TX0) (N := 1) hx hb hts (by decide +kernel) tyX0 tyX0_ok nmX0 hown hK.1 hP hD hS 0 rfl rfl 0 (by decide) (hts (.fieldLink RX0 7 "SchoolRow$Cells" "numbers" "[I") (by decide +kernel)) (fun _ h9 => h9) rfl hin rfl (by decide +kernel) rfl rfl (Nat.le_of_ble_eq_true rfl) dX0_init_16 (fun H locs hP hD hS => ?_)
  have hP : va_P D vwCl [(h0, .inr (0, [.ref q14])), (q14, .inl (cI, n, .inl (fun _ => 0)))] H := hP
  have hD : va_D A [(h0, .inr (0, [.ref q14])), (q14, .inl (cI, n, .inl (fun _ => 0)))] := hD
  exact W.vret hx hb hr (fun t ht hW => ⟨⟨[q14], rfl, trivial, by rw [ht]; exact hP, hD⟩, hS.F ht⟩) hS.2.2 dX0_init_19
abbrev kX1 (cI cB : ClassId) (h0 : Nat) (u : List Nat) : va_W := []
set_option maxHeartbeats 4000000 in
set_option maxRecDepth 100000 in
theorem c_X1_init (l : Launch) (D : va_G) (cI cB : ClassId) (h0 sz : Nat) : Met l yX1_init wsX1_init ({ frames := 1, cells := 0, slots := 0, locals := 12 }) (va_Pc [.ref h0] (fun U => U.heap.size = sz ∧ va_P D vwCl [] U.heap ∧ kK D cI cB U ∧ va_D (fun _ => True) [])) (va_Qv (fun _ : List Nat => True) (fun u t => va_P D vwCl (kX1 cI cB h0 u) t.heap ∧ va_D (va_A [] sz) (kX1 cI cB h0 u)) (va_A [] sz)) 0 0 (va_A [] sz) := by
  refine Met.ofW (cc := cX1_init) (maxL := 1) (ret := none) (by decide) rfl ?_
  intro p e s m args below meth c s₁ B hml hv
  obtain ⟨rfl, hsz, hP, hK, hD0⟩ := hv
  have hx := B.exec
  have hb := B.bytes
  have hr := B.returns
  have hts := atoms_spec (ws := wsX1_init) B.pre
  have hown : s.vm.findClass RX1 = some m.cls := findClass_of_methodNamed B.named
  have hlocks := B.notSynchronized
  have hin : meth.name = "<init>" := (name_of_methodNamed B.named B.method).1
  subst hsz
  have hD := hD0.self (sz := s.heap.size)
  generalize hAe : va_A [] s.heap.size = A at hD ⊢
  have hA : ∀ q : Nat, s.heap.size ≤ q → A q := fun q h => by rw [← hAe]; exact Or.inr h
  have hS : va_S A s.heap s.heap [] := va_S.rf
  have hP : va_P D vwCl [] s.heap := hP
  have hl := lv_entry ([.ref h0]) (n := 1) (Nat.le_of_ble_eq_true rfl)
  rw [lg_entry_eq]
  generalize (lg_sl ([.ref h0]) ++ List.replicate (1 - (lg_sl ([.ref h0])).length) Slot.unset).toArray = ls at hl ⊢
  have hl : lv_has ls 1 [(0, .ref h0)] := hl
  refine lv_aload_n hx hb dX1_init_0 rfl (lv_at hl 0 rfl) ?_
  refine W.objInit hx hb hown (hts (.methodLink RX1 1 objectInit) (by decide +kernel)) (hts (.instanceMethod objectInit) (by decide +kernel)) (hts (.code objectInit ⟨#[0xb1]⟩ 1 none) (by decide +kernel)) rfl (by rw [hml]; exact hl.1) rfl dX1_init_1 (Nat.le_of_ble_eq_true rfl) (Nat.le_of_ble_eq_true rfl) ?_
  refine W.eq (g2 := F0 m 4 ls []) rfl ?_
  exact W.vret hx hb hr (fun t ht hW => ⟨⟨[], rfl, trivial, by rw [ht]; exact hP, hD⟩, hS.F ht⟩) hS.2.2 dX1_init_4
abbrev kX2 (cI cB : ClassId) (h0 : Nat) (u : List Nat) : va_W := []
set_option maxHeartbeats 4000000 in
set_option maxRecDepth 100000 in
theorem c_X2_init (l : Launch) (D : va_G) (cI cB : ClassId) (h0 sz : Nat) : Met l yX2_init wsX2_init ({ frames := 2, cells := 0, slots := 0, locals := 32 }) (va_Pc [.ref h0] (fun U => U.heap.size = sz ∧ va_P D vwCl [] U.heap ∧ kK D cI cB U ∧ va_D (fun _ => True) [])) (va_Qv (fun _ : List Nat => True) (fun u t => va_P D vwCl (kX2 cI cB h0 u) t.heap ∧ va_D (va_A [] sz) (kX2 cI cB h0 u)) (va_A [] sz)) 0 0 (va_A [] sz) := by
  refine Met.ofW (cc := cX2_init) (maxL := 1) (ret := none) (by decide) rfl ?_
  intro p e s m args below meth c s₁ B hml hv
  obtain ⟨rfl, hsz, hP, hK, hD0⟩ := hv
  have hx := B.exec
  have hb := B.bytes
  have hr := B.returns
  have hts := atoms_spec (ws := wsX2_init) B.pre
  have hown : s.vm.findClass RX2 = some m.cls := findClass_of_methodNamed B.named
  have hlocks := B.notSynchronized
  have hin : meth.name = "<init>" := (name_of_methodNamed B.named B.method).1
  subst hsz
  have hD := hD0.self (sz := s.heap.size)
  generalize hAe : va_A [] s.heap.size = A at hD ⊢
  have hA : ∀ q : Nat, s.heap.size ≤ q → A q := fun q h => by rw [← hAe]; exact Or.inr h
  have hS : va_S A s.heap s.heap [] := va_S.rf
  have hP : va_P D vwCl [] s.heap := hP
  have hl := lv_entry ([.ref h0]) (n := 1) (Nat.le_of_ble_eq_true rfl)
  rw [lg_entry_eq]
  generalize (lg_sl ([.ref h0]) ++ List.replicate (1 - (lg_sl ([.ref h0])).length) Slot.unset).toArray = ls at hl ⊢
  have hl : lv_has ls 1 [(0, .ref h0)] := hl
  refine lv_aload_n hx hb dX2_init_0 rfl (lv_at hl 0 rfl) ?_
  have hA1 : 0+0 ≤ 0 := by decide
  have hB1 : 0+0 ≤ 0 := by decide
  have hPc := hP.sub (ws' := []) [] rfl
  have hDc := hD.sub (ws' := []) [] (by decide) rfl
  have hFc := va_free (wc := []) hD hS hA [] rfl
  refine va_callv (va_runIN (b := h0) (As := []) (rest := []) ⟨hx, hb, hml, hown, hts⟩ (c_X1_init l D cI cB h0 s.heap.size) ⟨va_cnB 0 hts gX2_init_X1_init_n1 rfl rfl rfl (hK.2.nX2_1) (hts (.initialized RX1) (by decide +kernel)) (by decide +kernel) ⟨Nat.le_of_ble_eq_true rfl, Nat.le_of_ble_eq_true rfl⟩, rfl, hts (.instanceMethod yX1_init) (by decide +kernel)⟩ ⟨fun a U g mk q => by obtain ⟨q0, q1, qP, qK, qD⟩ := q; exact ⟨q0, q1, qP, kK.vm (s := U) (U := U.calling g mk a) rfl qK, qD⟩, fun U hU hW => ⟨rfl, by rw [hU], by rw [hU]; exact hPc, kK.warm hW hK, hDc.weaken (fun _ _ _ _ => trivial)⟩⟩ rfl rfl hl.1 rfl (lv_room (Nat.le_of_ble_eq_true rfl)) dX2_init_1 ⟨hA1, hB1⟩) hS (fun q _ h => hFc q h) hFc (fun u1 t H1 locs ht hvm _ hB hz1 hk1 hS => ?_)
  obtain ⟨hP1, hD1⟩ := hB
  rw [ht] at hP1
  obtain ⟨hP, hD⟩ := va_join (wr := []) (w1 := []) hP hD [] [] rfl rfl (by decide) (by decide) hk1 hFc hP1 hD1
  generalize H1 = H at hP hS ⊢
  have hP : va_P D vwCl [] H := hP
  have hD : va_D A [] := hD
  refine W.widen (k := 0) (n := 0) (by omega) (by omega) ?_
  exact W.vret hx hb hr (fun t ht hW => ⟨⟨[], rfl, trivial, by rw [ht]; exact hP, hD⟩, hS.F ht⟩) hS.2.2 dX2_init_4
abbrev kX8 (cI cB : ClassId) (h0 : Nat) (u : List Nat) : va_W := []
set_option maxHeartbeats 4000000 in
set_option maxRecDepth 100000 in
theorem c_X8_init (l : Launch) (D : va_G) (cI cB : ClassId) (h0 sz : Nat) : Met l yX8_init wsX8_init ({ frames := 2, cells := 0, slots := 0, locals := 32 }) (va_Pc [.ref h0] (fun U => U.heap.size = sz ∧ va_P D vwCl [] U.heap ∧ kK D cI cB U ∧ va_D (fun _ => True) [])) (va_Qv (fun _ : List Nat => True) (fun u t => va_P D vwCl (kX8 cI cB h0 u) t.heap ∧ va_D (va_A [] sz) (kX8 cI cB h0 u)) (va_A [] sz)) 0 0 (va_A [] sz) := by
  refine Met.ofW (cc := cX8_init) (maxL := 1) (ret := none) (by decide) rfl ?_
  intro p e s m args below meth c s₁ B hml hv
  obtain ⟨rfl, hsz, hP, hK, hD0⟩ := hv
  have hx := B.exec
  have hb := B.bytes
  have hr := B.returns
  have hts := atoms_spec (ws := wsX8_init) B.pre
  have hown : s.vm.findClass RX8 = some m.cls := findClass_of_methodNamed B.named
  have hlocks := B.notSynchronized
  have hin : meth.name = "<init>" := (name_of_methodNamed B.named B.method).1
  subst hsz
  have hD := hD0.self (sz := s.heap.size)
  generalize hAe : va_A [] s.heap.size = A at hD ⊢
  have hA : ∀ q : Nat, s.heap.size ≤ q → A q := fun q h => by rw [← hAe]; exact Or.inr h
  have hS : va_S A s.heap s.heap [] := va_S.rf
  have hP : va_P D vwCl [] s.heap := hP
  have hl := lv_entry ([.ref h0]) (n := 1) (Nat.le_of_ble_eq_true rfl)
  rw [lg_entry_eq]
  generalize (lg_sl ([.ref h0]) ++ List.replicate (1 - (lg_sl ([.ref h0])).length) Slot.unset).toArray = ls at hl ⊢
  have hl : lv_has ls 1 [(0, .ref h0)] := hl
  refine lv_aload_n hx hb dX8_init_0 rfl (lv_at hl 0 rfl) ?_
  have hA1 : 0+0 ≤ 0 := by decide
  have hB1 : 0+0 ≤ 0 := by decide
  have hPc := hP.sub (ws' := []) [] rfl
  have hDc := hD.sub (ws' := []) [] (by decide) rfl
  have hFc := va_free (wc := []) hD hS hA [] rfl
  refine va_callv (va_runIN (b := h0) (As := []) (rest := []) ⟨hx, hb, hml, hown, hts⟩ (c_X1_init l D cI cB h0 s.heap.size) ⟨va_cnB 0 hts gX8_init_X1_init_n1 rfl rfl rfl (hK.2.nX8_1) (hts (.initialized RX1) (by decide +kernel)) (by decide +kernel) ⟨Nat.le_of_ble_eq_true rfl, Nat.le_of_ble_eq_true rfl⟩, rfl, hts (.instanceMethod yX1_init) (by decide +kernel)⟩ ⟨fun a U g mk q => by obtain ⟨q0, q1, qP, qK, qD⟩ := q; exact ⟨q0, q1, qP, kK.vm (s := U) (U := U.calling g mk a) rfl qK, qD⟩, fun U hU hW => ⟨rfl, by rw [hU], by rw [hU]; exact hPc, kK.warm hW hK, hDc.weaken (fun _ _ _ _ => trivial)⟩⟩ rfl rfl hl.1 rfl (lv_room (Nat.le_of_ble_eq_true rfl)) dX8_init_1 ⟨hA1, hB1⟩) hS (fun q _ h => hFc q h) hFc (fun u1 t H1 locs ht hvm _ hB hz1 hk1 hS => ?_)
  obtain ⟨hP1, hD1⟩ := hB
  rw [ht] at hP1
  obtain ⟨hP, hD⟩ := va_join (wr := []) (w1 := []) hP hD [] [] rfl rfl (by decide) (by decide) hk1 hFc hP1 hD1
  generalize H1 = H at hP hS ⊢
  have hP : va_P D vwCl [] H := hP
  have hD : va_D A [] := hD
  refine W.widen (k := 0) (n := 0) (by omega) (by omega) ?_
  exact W.vret hx hb hr (fun t ht hW => ⟨⟨[], rfl, trivial, by rw [ht]; exact hP, hD⟩, hS.F ht⟩) hS.2.2 dX8_init_4
abbrev kX7 (cI cB : ClassId) (h0 : Nat) (u : List Nat) : va_W := []
set_option maxHeartbeats 4000000 in
set_option maxRecDepth 100000 in
theorem c_X7_init (l : Launch) (D : va_G) (cI cB : ClassId) (h0 sz : Nat) : Met l yX7_init wsX7_init ({ frames := 2, cells := 0, slots := 0, locals := 32 }) (va_Pc [.ref h0] (fun U => U.heap.size = sz ∧ va_P D vwCl [] U.heap ∧ kK D cI cB U ∧ va_D (fun _ => True) [])) (va_Qv (fun _ : List Nat => True) (fun u t => va_P D vwCl (kX7 cI cB h0 u) t.heap ∧ va_D (va_A [] sz) (kX7 cI cB h0 u)) (va_A [] sz)) 0 0 (va_A [] sz) := by
  refine Met.ofW (cc := cX7_init) (maxL := 1) (ret := none) (by decide) rfl ?_
  intro p e s m args below meth c s₁ B hml hv
  obtain ⟨rfl, hsz, hP, hK, hD0⟩ := hv
  have hx := B.exec
  have hb := B.bytes
  have hr := B.returns
  have hts := atoms_spec (ws := wsX7_init) B.pre
  have hown : s.vm.findClass RX7 = some m.cls := findClass_of_methodNamed B.named
  have hlocks := B.notSynchronized
  have hin : meth.name = "<init>" := (name_of_methodNamed B.named B.method).1
  subst hsz
  have hD := hD0.self (sz := s.heap.size)
  generalize hAe : va_A [] s.heap.size = A at hD ⊢
  have hA : ∀ q : Nat, s.heap.size ≤ q → A q := fun q h => by rw [← hAe]; exact Or.inr h
  have hS : va_S A s.heap s.heap [] := va_S.rf
  have hP : va_P D vwCl [] s.heap := hP
  have hl := lv_entry ([.ref h0]) (n := 1) (Nat.le_of_ble_eq_true rfl)
  rw [lg_entry_eq]
  generalize (lg_sl ([.ref h0]) ++ List.replicate (1 - (lg_sl ([.ref h0])).length) Slot.unset).toArray = ls at hl ⊢
  have hl : lv_has ls 1 [(0, .ref h0)] := hl
  refine lv_aload_n hx hb dX7_init_0 rfl (lv_at hl 0 rfl) ?_
  have hA1 : 0+0 ≤ 0 := by decide
  have hB1 : 0+0 ≤ 0 := by decide
  have hPc := hP.sub (ws' := []) [] rfl
  have hDc := hD.sub (ws' := []) [] (by decide) rfl
  have hFc := va_free (wc := []) hD hS hA [] rfl
  refine va_callv (va_runIN (b := h0) (As := []) (rest := []) ⟨hx, hb, hml, hown, hts⟩ (c_X1_init l D cI cB h0 s.heap.size) ⟨va_cnB 0 hts gX7_init_X1_init_n1 rfl rfl rfl (hK.2.nX7_1) (hts (.initialized RX1) (by decide +kernel)) (by decide +kernel) ⟨Nat.le_of_ble_eq_true rfl, Nat.le_of_ble_eq_true rfl⟩, rfl, hts (.instanceMethod yX1_init) (by decide +kernel)⟩ ⟨fun a U g mk q => by obtain ⟨q0, q1, qP, qK, qD⟩ := q; exact ⟨q0, q1, qP, kK.vm (s := U) (U := U.calling g mk a) rfl qK, qD⟩, fun U hU hW => ⟨rfl, by rw [hU], by rw [hU]; exact hPc, kK.warm hW hK, hDc.weaken (fun _ _ _ _ => trivial)⟩⟩ rfl rfl hl.1 rfl (lv_room (Nat.le_of_ble_eq_true rfl)) dX7_init_1 ⟨hA1, hB1⟩) hS (fun q _ h => hFc q h) hFc (fun u1 t H1 locs ht hvm _ hB hz1 hk1 hS => ?_)
  obtain ⟨hP1, hD1⟩ := hB
  rw [ht] at hP1
  obtain ⟨hP, hD⟩ := va_join (wr := []) (w1 := []) hP hD [] [] rfl rfl (by decide) (by decide) hk1 hFc hP1 hD1
  generalize H1 = H at hP hS ⊢
  have hP : va_P D vwCl [] H := hP
  have hD : va_D A [] := hD
  refine W.widen (k := 0) (n := 0) (by omega) (by omega) ?_
  exact W.vret hx hb hr (fun t ht hW => ⟨⟨[], rfl, trivial, by rw [ht]; exact hP, hD⟩, hS.F ht⟩) hS.2.2 dX7_init_4
abbrev kX6 (cI cB : ClassId) (h0 : Nat) (u : List Nat) : va_W := []
set_option maxHeartbeats 4000000 in
set_option maxRecDepth 100000 in
theorem c_X6_init (l : Launch) (D : va_G) (cI cB : ClassId) (h0 sz : Nat) : Met l yX6_init wsX6_init ({ frames := 3, cells := 0, slots := 0, locals := 52 }) (va_Pc [.ref h0] (fun U => U.heap.size = sz ∧ va_P D vwCl [] U.heap ∧ kK D cI cB U ∧ va_D (fun _ => True) [])) (va_Qv (fun _ : List Nat => True) (fun u t => va_P D vwCl (kX6 cI cB h0 u) t.heap ∧ va_D (va_A [] sz) (kX6 cI cB h0 u)) (va_A [] sz)) 0 0 (va_A [] sz) := by
  refine Met.ofW (cc := cX6_init) (maxL := 1) (ret := none) (by decide) rfl ?_
  intro p e s m args below meth c s₁ B hml hv
  obtain ⟨rfl, hsz, hP, hK, hD0⟩ := hv
  have hx := B.exec
  have hb := B.bytes
  have hr := B.returns
  have hts := atoms_spec (ws := wsX6_init) B.pre
  have hown : s.vm.findClass RX6 = some m.cls := findClass_of_methodNamed B.named
  have hlocks := B.notSynchronized
  have hin : meth.name = "<init>" := (name_of_methodNamed B.named B.method).1
  subst hsz
  have hD := hD0.self (sz := s.heap.size)
  generalize hAe : va_A [] s.heap.size = A at hD ⊢
  have hA : ∀ q : Nat, s.heap.size ≤ q → A q := fun q h => by rw [← hAe]; exact Or.inr h
  have hS : va_S A s.heap s.heap [] := va_S.rf
  have hP : va_P D vwCl [] s.heap := hP
  have hl := lv_entry ([.ref h0]) (n := 1) (Nat.le_of_ble_eq_true rfl)
  rw [lg_entry_eq]
  generalize (lg_sl ([.ref h0]) ++ List.replicate (1 - (lg_sl ([.ref h0])).length) Slot.unset).toArray = ls at hl ⊢
  have hl : lv_has ls 1 [(0, .ref h0)] := hl
  refine lv_aload_n hx hb dX6_init_0 rfl (lv_at hl 0 rfl) ?_
  have hA1 : 0+0 ≤ 0 := by decide
  have hB1 : 0+0 ≤ 0 := by decide
  have hPc := hP.sub (ws' := []) [] rfl
  have hDc := hD.sub (ws' := []) [] (by decide) rfl
  have hFc := va_free (wc := []) hD hS hA [] rfl
  refine va_callv (va_runIN (b := h0) (As := []) (rest := []) ⟨hx, hb, hml, hown, hts⟩ (c_X7_init l D cI cB h0 s.heap.size) ⟨va_cnB 0 hts gX6_init_X7_init_n1 rfl rfl rfl (hK.2.nX6_1) (hts (.initialized RX7) (by decide +kernel)) (by decide +kernel) ⟨Nat.le_of_ble_eq_true rfl, Nat.le_of_ble_eq_true rfl⟩, rfl, hts (.instanceMethod yX7_init) (by decide +kernel)⟩ ⟨fun a U g mk q => by obtain ⟨q0, q1, qP, qK, qD⟩ := q; exact ⟨q0, q1, qP, kK.vm (s := U) (U := U.calling g mk a) rfl qK, qD⟩, fun U hU hW => ⟨rfl, by rw [hU], by rw [hU]; exact hPc, kK.warm hW hK, hDc.weaken (fun _ _ _ _ => trivial)⟩⟩ rfl rfl hl.1 rfl (lv_room (Nat.le_of_ble_eq_true rfl)) dX6_init_1 ⟨hA1, hB1⟩) hS (fun q _ h => hFc q h) hFc (fun u1 t H1 locs ht hvm _ hB hz1 hk1 hS => ?_)
  obtain ⟨hP1, hD1⟩ := hB
  rw [ht] at hP1
  obtain ⟨hP, hD⟩ := va_join (wr := []) (w1 := []) hP hD [] [] rfl rfl (by decide) (by decide) hk1 hFc hP1 hD1
  generalize H1 = H at hP hS ⊢
  have hP : va_P D vwCl [] H := hP
  have hD : va_D A [] := hD
  refine W.widen (k := 0) (n := 0) (by omega) (by omega) ?_
  exact W.vret hx hb hr (fun t ht hW => ⟨⟨[], rfl, trivial, by rw [ht]; exact hP, hD⟩, hS.F ht⟩) hS.2.2 dX6_init_4
abbrev kX3 (cI cB : ClassId) (h0 : Nat) (u : List Nat) : va_W := [(h0, .inr (3, [.ref (nthL u 0), .int 0])), ((nthL u 0), .inr (0, [.ref (nthL u 1)])), ((nthL u 1), .inl (cI, 14, .inl (fun _ => 0)))]
set_option maxHeartbeats 4000000 in
set_option maxRecDepth 100000 in
theorem c_X3_init (l : Launch) (D : va_G) (cI cB : ClassId) (h0 sz : Nat) : Met l yX3_init wsX3_init ({ frames := 2, cells := 2, slots := 15, locals := 33 }) (va_Pc [.ref h0] (fun U => U.heap.size = sz ∧ va_P D vwCl [(h0, .inr (3, [.null, .int 0]))] U.heap ∧ kK D cI cB U ∧ va_D (fun _ => True) [(h0, .inr (3, [.null, .int 0]))])) (va_Qv (fun _ : List Nat => True) (fun u t => va_P D vwCl (kX3 cI cB h0 u) t.heap ∧ va_D (va_A [(h0, .inr (3, [.null, .int 0]))] sz) (kX3 cI cB h0 u)) (va_A [(h0, .inr (3, [.null, .int 0]))] sz)) 2 15 (va_A [(h0, .inr (3, [.null, .int 0]))] sz) := by
  refine Met.ofW (cc := cX3_init) (maxL := 1) (ret := none) (by decide) rfl ?_
  intro p e s m args below meth c s₁ B hml hv
  obtain ⟨rfl, hsz, hP, hK, hD0⟩ := hv
  have hx := B.exec
  have hb := B.bytes
  have hr := B.returns
  have hts := atoms_spec (ws := wsX3_init) B.pre
  have hown : s.vm.findClass RX3 = some m.cls := findClass_of_methodNamed B.named
  have hlocks := B.notSynchronized
  have hin : meth.name = "<init>" := (name_of_methodNamed B.named B.method).1
  subst hsz
  have hD := hD0.self (sz := s.heap.size)
  generalize hAe : va_A [(h0, .inr (3, [.null, .int 0]))] s.heap.size = A at hD ⊢
  have hA : ∀ q : Nat, s.heap.size ≤ q → A q := fun q h => by rw [← hAe]; exact Or.inr h
  have hS : va_S A s.heap s.heap [] := va_S.rf
  have hP : va_P D vwCl [(h0, .inr (3, [.null, .int 0]))] s.heap := hP
  have hl := lv_entry ([.ref h0]) (n := 1) (Nat.le_of_ble_eq_true rfl)
  rw [lg_entry_eq]
  generalize (lg_sl ([.ref h0]) ++ List.replicate (1 - (lg_sl ([.ref h0])).length) Slot.unset).toArray = ls at hl ⊢
  have hl : lv_has ls 1 [(0, .ref h0)] := hl
  refine lv_aload_n hx hb dX3_init_0 rfl (lv_at hl 0 rfl) ?_
  refine W.objInit hx hb hown (hts (.methodLink RX3 3 objectInit) (by decide +kernel)) (hts (.instanceMethod objectInit) (by decide +kernel)) (hts (.code objectInit ⟨#[0xb1]⟩ 1 none) (by decide +kernel)) rfl (by rw [hml]; exact hl.1) rfl dX3_init_1 (Nat.le_of_ble_eq_true rfl) (Nat.le_of_ble_eq_true rfl) ?_
  refine W.eq (g2 := F0 m 4 ls []) rfl ?_
  refine lv_aload_n hx hb dX3_init_4 rfl (lv_at hl 0 rfl) ?_
  have hA1 : 1 ≤ 2 := by decide
  have hB1 : 1 ≤ 15 := by decide
  refine va_new (ci := 0) (fs := [.null]) (C := RX0) (T := TX0) (N := 1) hx hb hts (by decide +kernel) tyX0 tyX0_ok hown (hts (.classLink RX3 9 RX0) (by decide +kernel)) (hts (.instantiable RX0 1) (by decide +kernel)) (hts (.initialized RX0) (by decide +kernel)) hK.1 hP hD hS hA rfl (fun j hj => by rcases (show j = 0 by omega) with rfl <;> rfl) hA1 hB1 dX3_init_5 (fun q5 H hP hD hS => ?_)
  have hP : va_P D vwCl [(h0, .inr (3, [.null, .int 0])), (q5, .inr (0, [.null]))] H := hP
  have hD : va_D A [(h0, .inr (3, [.null, .int 0])), (q5, .inr (0, [.null]))] := hD
  refine W.widen (k := 1) (n := 1) (by omega) (by omega) ?_
  refine lv_dup hx hb dX3_init_8 rfl ?_
  refine lv_bipush (v := nI 14) hx hb dX3_init_9 (by decide) ?_
  have hA2 : 1+1 ≤ 2 := by decide
  have hB2 : 1+14 ≤ 15 := by decide
  have hPc := hP.sub (ws' := [(q5, .inr (0, [.null]))]) [1] rfl
  have hDc := hD.sub (ws' := [(q5, .inr (0, [.null]))]) [1] (by decide) rfl
  have hFc := va_free (wc := [(q5, .inr (0, [.null]))]) hD hS hA [1] rfl
  refine va_callv (va_runI (b := q5) (As := [.int (nI 14)]) (rest := [.ref q5, .ref h0]) ⟨hx, hb, hml, hown, hts⟩ (c_X0_init l D cI cB q5 H.size 14 (by omega)) (cwI 1 hts gX3_init_X0_init rfl rfl rfl (hts (.initialized RX0) (by decide +kernel)) (hts (.methodLink RX3 11 yX0_init) (by decide +kernel)) (hts (.instanceMethod yX0_init) (by decide +kernel)) rfl (by decide +kernel) ⟨Nat.le_of_ble_eq_true rfl, Nat.le_of_ble_eq_true rfl⟩) ⟨fun a U g mk q => by obtain ⟨q0, q1, qP, qK, qD⟩ := q; exact ⟨q0, q1, qP, kK.vm (s := U) (U := U.calling g mk a) rfl qK, qD⟩, fun U hU hW => ⟨rfl, by rw [hU], by rw [hU]; exact hPc, kK.warm hW hK, hDc.weaken (fun _ _ _ _ => trivial)⟩⟩ rfl rfl hl.1 rfl (lv_room (Nat.le_of_ble_eq_true rfl)) dX3_init_11 ⟨hA2, hB2⟩) hS (fun q _ h => hFc q h) hFc (fun u11 t H1 locs ht hvm _ hB hz1 hk1 hS => ?_)
  obtain ⟨hP1, hD1⟩ := hB
  rw [ht] at hP1
  obtain ⟨hP, hD⟩ := va_join (wr := [(h0, .inr (3, [.null, .int 0]))]) (w1 := [(q5, .inr (0, [.ref (nthL u11 0)])), ((nthL u11 0), .inl (cI, 14, .inl (fun _ => 0)))]) hP hD [1] [0] rfl rfl (by decide) (by decide) hk1 hFc hP1 hD1
  generalize H1 = H at hP hS ⊢
  have hP : va_P D vwCl [(h0, .inr (3, [.null, .int 0])), (q5, .inr (0, [.ref (nthL u11 0)])), ((nthL u11 0), .inl (cI, 14, .inl (fun _ => 0)))] H := hP
  have hD : va_D A [(h0, .inr (3, [.null, .int 0])), (q5, .inr (0, [.ref (nthL u11 0)])), ((nthL u11 0), .inl (cI, 14, .inl (fun _ => 0)))] := hD
  refine W.widen (k := 2) (n := 15) (by omega) (by omega) ?_
  refine va_putF (D := D) (ci := 3) (v := .ref q5) (ty := .object "SchoolRow$Cells") (C := RX3) (T := TX3) (N := 2) hx hb hts (by decide +kernel) tyX3 tyX3_ok nmX3 hown hK.1 hP hD hS 0 rfl rfl 0 (by decide) (hts (.fieldLink RX3 14 "SchoolRow$Page" "letters" "LSchoolRow$Cells;") (by decide +kernel)) (fun _ h9 => h9) rfl hin rfl (by decide +kernel) rfl rfl (Nat.le_of_ble_eq_true rfl) dX3_init_14 (fun H locs hP hD hS => ?_)
  have hP : va_P D vwCl [(h0, .inr (3, [.ref q5, .int 0])), (q5, .inr (0, [.ref (nthL u11 0)])), ((nthL u11 0), .inl (cI, 14, .inl (fun _ => 0)))] H := hP
  have hD : va_D A [(h0, .inr (3, [.ref q5, .int 0])), (q5, .inr (0, [.ref (nthL u11 0)])), ((nthL u11 0), .inl (cI, 14, .inl (fun _ => 0)))] := hD
  exact W.vret hx hb hr (fun t ht hW => ⟨⟨[q5, (nthL u11 0)], rfl, trivial, by rw [ht]; exact hP, hD⟩, hS.F ht⟩) hS.2.2 dX3_init_17
