/-! THE CONSTRUCTORS (gen_init.py) -/
def nthL : List Nat → Nat → Nat
  | [], _ => 0
  | a :: _, 0 => a
  | _ :: l, k + 1 => nthL l k
/-- the private constructors, reached by nest mates -/
def o_Nn (U : State) : Prop := va_Nw (.methodLinkNest RX2 1 yX1_init "SchoolRow") U ∧ va_Nw (.methodLinkNest RX5 25 yX1_init "SchoolRow") U ∧ va_Nw (.methodLinkNest RX5 32 yX8_init "SchoolRow") U ∧ va_Nw (.methodLinkNest RX5 38 yX2_init "SchoolRow") U ∧ va_Nw (.methodLinkNest RX5 44 yX7_init "SchoolRow") U ∧ va_Nw (.methodLinkNest RX5 50 yX6_init "SchoolRow") U ∧ va_Nw (.methodLinkNest RX6 1 yX7_init "SchoolRow") U ∧ va_Nw (.methodLinkNest RX7 1 yX1_init "SchoolRow") U ∧ va_Nw (.methodLinkNest RX8 1 yX1_init "SchoolRow") U ∧ va_Nw (.methodLinkNest RX9 11 yX3_init "SchoolRow") U ∧ va_Nw (.methodLinkNest RX9 18 yX5_init "SchoolRow") U
theorem o_Nn.nX2_1 {U : State} (h : o_Nn U) : va_Nw (.methodLinkNest RX2 1 yX1_init "SchoolRow") U := h.1
theorem o_Nn.nX5_25 {U : State} (h : o_Nn U) : va_Nw (.methodLinkNest RX5 25 yX1_init "SchoolRow") U := h.2.1
theorem o_Nn.nX5_32 {U : State} (h : o_Nn U) : va_Nw (.methodLinkNest RX5 32 yX8_init "SchoolRow") U := h.2.2.1
theorem o_Nn.nX5_38 {U : State} (h : o_Nn U) : va_Nw (.methodLinkNest RX5 38 yX2_init "SchoolRow") U := h.2.2.2.1
theorem o_Nn.nX5_44 {U : State} (h : o_Nn U) : va_Nw (.methodLinkNest RX5 44 yX7_init "SchoolRow") U := h.2.2.2.2.1
theorem o_Nn.nX5_50 {U : State} (h : o_Nn U) : va_Nw (.methodLinkNest RX5 50 yX6_init "SchoolRow") U := h.2.2.2.2.2.1
theorem o_Nn.nX6_1 {U : State} (h : o_Nn U) : va_Nw (.methodLinkNest RX6 1 yX7_init "SchoolRow") U := h.2.2.2.2.2.2.1
theorem o_Nn.nX7_1 {U : State} (h : o_Nn U) : va_Nw (.methodLinkNest RX7 1 yX1_init "SchoolRow") U := h.2.2.2.2.2.2.2.1
theorem o_Nn.nX8_1 {U : State} (h : o_Nn U) : va_Nw (.methodLinkNest RX8 1 yX1_init "SchoolRow") U := h.2.2.2.2.2.2.2.2.1
theorem o_Nn.nX9_11 {U : State} (h : o_Nn U) : va_Nw (.methodLinkNest RX9 11 yX3_init "SchoolRow") U := h.2.2.2.2.2.2.2.2.2.1
theorem o_Nn.nX9_18 {U : State} (h : o_Nn U) : va_Nw (.methodLinkNest RX9 18 yX5_init "SchoolRow") U := h.2.2.2.2.2.2.2.2.2.2
def kK (D : va_G) (cI cB : ClassId) (U : State) : Prop := va_K D vwCl [(cI, .int), (cB, .byte)] U ∧ o_Nn U
theorem kK.warm {D : va_G} {cI cB : ClassId} {s U : State} (hW : s.WarmedH U.vm) (h : kK D cI cB s) : kK D cI cB U := ⟨va_K.moved hW.alike h.1, va_Nw.warmM hW h.2.nX2_1, va_Nw.warmM hW h.2.nX5_25, va_Nw.warmM hW h.2.nX5_32, va_Nw.warmM hW h.2.nX5_38, va_Nw.warmM hW h.2.nX5_44, va_Nw.warmM hW h.2.nX5_50, va_Nw.warmM hW h.2.nX6_1, va_Nw.warmM hW h.2.nX7_1, va_Nw.warmM hW h.2.nX8_1, va_Nw.warmM hW h.2.nX9_11, va_Nw.warmM hW h.2.nX9_18⟩
theorem kK.vm {D : va_G} {cI cB : ClassId} {s U : State} (hv : s.vm = U.vm) (h : kK D cI cB s) : kK D cI cB U := ⟨va_K.moved (by rw [hv]; exact Vm.Alike.refl U.vm) h.1, va_Nw.same rfl hv h.2.nX2_1, va_Nw.same rfl hv h.2.nX5_25, va_Nw.same rfl hv h.2.nX5_32, va_Nw.same rfl hv h.2.nX5_38, va_Nw.same rfl hv h.2.nX5_44, va_Nw.same rfl hv h.2.nX5_50, va_Nw.same rfl hv h.2.nX6_1, va_Nw.same rfl hv h.2.nX7_1, va_Nw.same rfl hv h.2.nX8_1, va_Nw.same rfl hv h.2.nX9_11, va_Nw.same rfl hv h.2.nX9_18⟩
abbrev kX0 (cI cB : ClassId) (h0 : Nat) (n : Nat) (u : List Nat) : va_W := [(h0, .inr (0, [.ref (nthL u 0)])), ((nthL u 0), .inl (cI, n, .inl (fun _ => 0)))]
set_option maxHeartbeats 4000000 in
set_option maxRecDepth 100000 in
theorem c_X0_init (l : Launch) (D : va_G) (cI cB : ClassId) (h0 sz : Nat) (n : Nat) (hn48 : n ≤ 48) : Met l yX0_init wsX0_init ({ frames := 1, cells := 1, slots := n, locals := 12 }) (va_Pc [.ref h0, .int (nI n)] (fun U => U.heap.size = sz ∧ va_P D vwCl [(h0, .inr (0, [.null]))] U.heap ∧ kK D cI cB U ∧ va_D (fun _ => True) [(h0, .inr (0, [.null]))])) (va_Qv (fun _ : List Nat => True) (fun u t => va_P D vwCl (kX0 cI cB h0 n u) t.heap ∧ va_D (va_A [(h0, .inr (0, [.null]))] sz) (kX0 cI cB h0 n u)) (va_A [(h0, .inr (0, [.null]))] sz)) 1 n (va_A [(h0, .inr (0, [.null]))] sz) := by
  refine Met.ofW (cc := cX0_init) (maxL := 2) (ret := none) (by decide) rfl ?_
  intro p e s m args below meth c s₁ B hml hv
  obtain ⟨rfl, hsz, hP, hK, hD0⟩ := hv
  have hx := B.exec
  have hb := B.bytes
  have hr := B.returns
  have hts := atoms_spec (ws := wsX0_init) B.pre
  have hown : s.vm.findClass RX0 = some m.cls := findClass_of_methodNamed B.named
  have hlocks := B.notSynchronized
  have hin : meth.name = "<init>" := (name_of_methodNamed B.named B.method).1
  subst hsz
  have hD := hD0.self (sz := s.heap.size)
  generalize hAe : va_A [(h0, .inr (0, [.null]))] s.heap.size = A at hD ⊢
  have hA : ∀ q : Nat, s.heap.size ≤ q → A q := fun q h => by rw [← hAe]; exact Or.inr h
  have hS : va_S A s.heap s.heap [] := va_S.rf
  have hP : va_P D vwCl [(h0, .inr (0, [.null]))] s.heap := hP
  have hl := lv_entry ([.ref h0, .int (nI n)]) (n := 2) (Nat.le_of_ble_eq_true rfl)
  rw [lg_entry_eq]
  generalize (lg_sl ([.ref h0, .int (nI n)]) ++ List.replicate (2 - (lg_sl ([.ref h0, .int (nI n)])).length) Slot.unset).toArray = ls at hl ⊢
  have hl : lv_has ls 2 [(0, .ref h0), (1, .int (nI n))] := hl
  refine lv_aload_n hx hb dX0_init_0 rfl (lv_at hl 0 rfl) ?_
  refine W.objInit hx hb hown (hts (.methodLink RX0 1 objectInit) (by decide +kernel)) (hts (.instanceMethod objectInit) (by decide +kernel)) (hts (.code objectInit ⟨#[0xb1]⟩ 1 none) (by decide +kernel)) rfl (by rw [hml]; exact hl.1) rfl dX0_init_1 (Nat.le_of_ble_eq_true rfl) (Nat.le_of_ble_eq_true rfl) ?_
  refine W.eq (g2 := F0 m 4 ls []) rfl ?_
  refine lv_aload_n hx hb dX0_init_4 rfl (lv_at hl 0 rfl) ?_
  refine lv_iload_n hx hb dX0_init_5 rfl (lv_at hl 1 rfl) ?_
  refine lv_if_ge hx hb dX0_init_6 (show ((6 : Nat) : Int) + 7 = ((13 : Nat) : Int) by decide) (fun _ => ?_) (fun z => absurd (nI_pos' (by omega)) z)
  refine lv_iload_n hx hb dX0_init_13 rfl (lv_at hl 1 rfl) ?_
  have hA1 : 1 ≤ 1 := by decide
  have hB1 : 0 + n ≤ n := by omega
  refine va_newa (atype := .int) (ty := .int) (a0 := (n, .inl (fun _ => 0))) (N' := n) hx hb (hts (.arrayClass .int) (by decide +kernel)) rfl hK.1 hP hD hS hA (fun _ => rfl) (nI_nneg (by omega)) (nI_clamp (by omega)) (show n * 4 ≤ 536870912 by omega) hA1 hB1 dX0_init_14 (fun q14 cA H hKA hP hD hS => ?_)
  obtain rfl : cI = cA := by
    have e1 := (hKA.2 0 (cI, .int) rfl).2
    have e2 := (hKA.2 2 (cA, .int) rfl).2
    exact Option.some.inj (e1.symm.trans e2)
  have hP : va_P D vwCl [(h0, .inr (0, [.null])), (q14, .inl (cI, n, .inl (fun _ => 0)))] H := hP
  have hD : va_D A [(h0, .inr (0, [.null])), (q14, .inl (cI, n, .inl (fun _ => 0)))] := hD
  refine W.widen (k := 1) (n := n) (by omega) (by omega) ?_
  refine va_putF (D := D) (ci := 0) (v := .ref q14) (ty := .array .int) (C := RX0) (T := TX0) (N := 1) hx hb hts (by decide +kernel) tyX0 tyX0_ok nmX0 hown hK.1 hP hD hS 0 rfl rfl 0 (by decide) (hts (.fieldLink RX0 7 "SchoolRow$Cells" "numbers" "[I") (by decide +kernel)) (fun _ h9 => h9) rfl hin rfl (by decide +kernel) rfl rfl (Nat.le_of_ble_eq_true rfl) dX0_init_16 (fun H locs hP hD hS => ?_)
  have hP : va_P D vwCl [(h0, .inr (0, [.ref q14])), (q14, .inl (cI, n, .inl (fun _ => 0)))] H := hP
  have hD : va_D A [(h0, .inr (0, [.ref q14])), (q14, .inl (cI, n, .inl (fun _ => 0)))] := hD
  exact W.vret hx hb hr (fun t ht hW => ⟨⟨[q14], rfl, trivial, by rw [ht]; exact hP, hD⟩, hS.F ht⟩) hS.2.2 dX0_init_19
abbrev kX1 (cI cB : ClassId) (h0 : Nat) (u : List Nat) : va_W := []
set_option maxHeartbeats 4000000 in
set_option maxRecDepth 100000 in
theorem c_X1_init (l : Launch) (D : va_G) (cI cB : ClassId) (h0 sz : Nat) : Met l yX1_init wsX1_init ({ frames := 1, cells := 0, slots := 0, locals := 12 }) (va_Pc [.ref h0] (fun U => U.heap.size = sz ∧ va_P D vwCl [] U.heap ∧ kK D cI cB U ∧ va_D (fun _ => True) [])) (va_Qv (fun _ : List Nat => True) (fun u t => va_P D vwCl (kX1 cI cB h0 u) t.heap ∧ va_D (va_A [] sz) (kX1 cI cB h0 u)) (va_A [] sz)) 0 0 (va_A [] sz) := by
  refine Met.ofW (cc := cX1_init) (maxL := 1) (ret := none) (by decide) rfl ?_
  intro p e s m args below meth c s₁ B hml hv
  obtain ⟨rfl, hsz, hP, hK, hD0⟩ := hv
  have hx := B.exec
  have hb := B.bytes
  have hr := B.returns
  have hts := atoms_spec (ws := wsX1_init) B.pre
  have hown : s.vm.findClass RX1 = some m.cls := findClass_of_methodNamed B.named
  have hlocks := B.notSynchronized
  have hin : meth.name = "<init>" := (name_of_methodNamed B.named B.method).1
  subst hsz
  have hD := hD0.self (sz := s.heap.size)
  generalize hAe : va_A [] s.heap.size = A at hD ⊢
  have hA : ∀ q : Nat, s.heap.size ≤ q → A q := fun q h => by rw [← hAe]; exact Or.inr h
  have hS : va_S A s.heap s.heap [] := va_S.rf
  have hP : va_P D vwCl [] s.heap := hP
  have hl := lv_entry ([.ref h0]) (n := 1) (Nat.le_of_ble_eq_true rfl)
  rw [lg_entry_eq]
  generalize (lg_sl ([.ref h0]) ++ List.replicate (1 - (lg_sl ([.ref h0])).length) Slot.unset).toArray = ls at hl ⊢
  have hl : lv_has ls 1 [(0, .ref h0)] := hl
  refine lv_aload_n hx hb dX1_init_0 rfl (lv_at hl 0 rfl) ?_
  refine W.objInit hx hb hown (hts (.methodLink RX1 1 objectInit) (by decide +kernel)) (hts (.instanceMethod objectInit) (by decide +kernel)) (hts (.code objectInit ⟨#[0xb1]⟩ 1 none) (by decide +kernel)) rfl (by rw [hml]; exact hl.1) rfl dX1_init_1 (Nat.le_of_ble_eq_true rfl) (Nat.le_of_ble_eq_true rfl) ?_
  refine W.eq (g2 := F0 m 4 ls []) rfl ?_
  exact W.vret hx hb hr (fun t ht hW => ⟨⟨[], rfl, trivial, by rw [ht]; exact hP, hD⟩, hS.F ht⟩) hS.2.2 dX1_init_4
abbrev kX2 (cI cB : ClassId) (h0 : Nat) (u : List Nat) : va_W := []
set_option maxHeartbeats 4000000 in
set_option maxRecDepth 100000 in
theorem c_X2_init (l : Launch) (D : va_G) (cI cB : ClassId) (h0 sz : Nat) : Met l yX2_init wsX2_init ({ frames := 2, cells := 0, slots := 0, locals := 32 }) (va_Pc [.ref h0] (fun U => U.heap.size = sz ∧ va_P D vwCl [] U.heap ∧ kK D cI cB U ∧ va_D (fun _ => True) [])) (va_Qv (fun _ : List Nat => True) (fun u t => va_P D vwCl (kX2 cI cB h0 u) t.heap ∧ va_D (va_A [] sz) (kX2 cI cB h0 u)) (va_A [] sz)) 0 0 (va_A [] sz) := by
  refine Met.ofW (cc := cX2_init) (maxL := 1) (ret := none) (by decide) rfl ?_
  intro p e s m args below meth c s₁ B hml hv
  obtain ⟨rfl, hsz, hP, hK, hD0⟩ := hv
  have hx := B.exec
  have hb := B.bytes
  have hr := B.returns
  have hts := atoms_spec (ws := wsX2_init) B.pre
  have hown : s.vm.findClass RX2 = some m.cls := findClass_of_methodNamed B.named
  have hlocks := B.notSynchronized
  have hin : meth.name = "<init>" := (name_of_methodNamed B.named B.method).1
  subst hsz
  have hD := hD0.self (sz := s.heap.size)
  generalize hAe : va_A [] s.heap.size = A at hD ⊢
  have hA : ∀ q : Nat, s.heap.size ≤ q → A q := fun q h => by rw [← hAe]; exact Or.inr h
  have hS : va_S A s.heap s.heap [] := va_S.rf
  have hP : va_P D vwCl [] s.heap := hP
  have hl := lv_entry ([.ref h0]) (n := 1) (Nat.le_of_ble_eq_true rfl)
  rw [lg_entry_eq]
  generalize (lg_sl ([.ref h0]) ++ List.replicate (1 - (lg_sl ([.ref h0])).length) Slot.unset).toArray = ls at hl ⊢
  have hl : lv_has ls 1 [(0, .ref h0)] := hl
  refine lv_aload_n hx hb dX2_init_0 rfl (lv_at hl 0 rfl) ?_
  have hA1 : 0+0 ≤ 0 := by decide
  have hB1 : 0+0 ≤ 0 := by decide
  have hPc := hP.sub (ws' := []) [] rfl
  have hDc := hD.sub (ws' := []) [] (by decide) rfl
  have hFc := va_free (wc := []) hD hS hA [] rfl
  refine va_callv (va_runIN (b := h0) (As := []) (rest := []) ⟨hx, hb, hml, hown, hts⟩ (c_X1_init l D cI cB h0 s.heap.size) ⟨va_cnB 0 hts gX2_init_X1_init_n1 rfl rfl rfl (hK.2.nX2_1) (hts (.initialized RX1) (by decide +kernel)) (by decide +kernel) ⟨Nat.le_of_ble_eq_true rfl, Nat.le_of_ble_eq_true rfl⟩, rfl, hts (.instanceMethod yX1_init) (by decide +kernel)⟩ ⟨fun a U g mk q => by obtain ⟨q0, q1, qP, qK, qD⟩ := q; exact ⟨q0, q1, qP, kK.vm (s := U) (U := U.calling g mk a) rfl qK, qD⟩, fun U hU hW => ⟨rfl, by rw [hU], by rw [hU]; exact hPc, kK.warm hW hK, hDc.weaken (fun _ _ _ _ => trivial)⟩⟩ rfl rfl hl.1 rfl (lv_room (Nat.le_of_ble_eq_true rfl)) dX2_init_1 ⟨hA1, hB1⟩) hS (fun q _ h => hFc q h) hFc (fun u1 t H1 locs ht hvm _ hB hz1 hk1 hS => ?_)
  obtain ⟨hP1, hD1⟩ := hB
  rw [ht] at hP1
  obtain ⟨hP, hD⟩ := va_join (wr := []) (w1 := []) hP hD [] [] rfl rfl (by decide) (by decide) hk1 hFc hP1 hD1
  generalize H1 = H at hP hS ⊢
  have hP : va_P D vwCl [] H := hP
  have hD : va_D A [] := hD
  refine W.widen (k := 0) (n := 0) (by omega) (by omega) ?_
  exact W.vret hx hb hr (fun t ht hW => ⟨⟨[], rfl, trivial, by rw [ht]; exact hP, hD⟩, hS.F ht⟩) hS.2.2 dX2_init_4
abbrev kX8 (cI cB : ClassId) (h0 : Nat) (u : List Nat) : va_W := []
set_option maxHeartbeats 4000000 in
set_option maxRecDepth 100000 in
theorem c_X8_init (l : Launch) (D : va_G) (cI cB : ClassId) (h0 sz : Nat) : Met l yX8_init wsX8_init ({ frames := 2, cells := 0, slots := 0, locals := 32 }) (va_Pc [.ref h0] (fun U => U.heap.size = sz ∧ va_P D vwCl [] U.heap ∧ kK D cI cB U ∧ va_D (fun _ => True) [])) (va_Qv (fun _ : List Nat => True) (fun u t => va_P D vwCl (kX8 cI cB h0 u) t.heap ∧ va_D (va_A [] sz) (kX8 cI cB h0 u)) (va_A [] sz)) 0 0 (va_A [] sz) := by
  refine Met.ofW (cc := cX8_init) (maxL := 1) (ret := none) (by decide) rfl ?_
  intro p e s m args below meth c s₁ B hml hv
  obtain ⟨rfl, hsz, hP, hK, hD0⟩ := hv
  have hx := B.exec
  have hb := B.bytes
  have hr := B.returns
  have hts := atoms_spec (ws := wsX8_init) B.pre
  have hown : s.vm.findClass RX8 = some m.cls := findClass_of_methodNamed B.named
  have hlocks := B.notSynchronized
  have hin : meth.name = "<init>" := (name_of_methodNamed B.named B.method).1
  subst hsz
  have hD := hD0.self (sz := s.heap.size)
  generalize hAe : va_A [] s.heap.size = A at hD ⊢
  have hA : ∀ q : Nat, s.heap.size ≤ q → A q := fun q h => by rw [← hAe]; exact Or.inr h
  have hS : va_S A s.heap s.heap [] := va_S.rf
  have hP : va_P D vwCl [] s.heap := hP
  have hl := lv_entry ([.ref h0]) (n := 1) (Nat.le_of_ble_eq_true rfl)
  rw [lg_entry_eq]
  generalize (lg_sl ([.ref h0]) ++ List.replicate (1 - (lg_sl ([.ref h0])).length) Slot.unset).toArray = ls at hl ⊢
  have hl : lv_has ls 1 [(0, .ref h0)] := hl
  refine lv_aload_n hx hb dX8_init_0 rfl (lv_at hl 0 rfl) ?_
  have hA1 : 0+0 ≤ 0 := by decide
  have hB1 : 0+0 ≤ 0 := by decide
  have hPc := hP.sub (ws' := []) [] rfl
  have hDc := hD.sub (ws' := []) [] (by decide) rfl
  have hFc := va_free (wc := []) hD hS hA [] rfl
  refine va_callv (va_runIN (b := h0) (As := []) (rest := []) ⟨hx, hb, hml, hown, hts⟩ (c_X1_init l D cI cB h0 s.heap.size) ⟨va_cnB 0 hts gX8_init_X1_init_n1 rfl rfl rfl (hK.2.nX8_1) (hts (.initialized RX1) (by decide +kernel)) (by decide +kernel) ⟨Nat.le_of_ble_eq_true rfl, Nat.le_of_ble_eq_true rfl⟩, rfl, hts (.instanceMethod yX1_init) (by decide +kernel)⟩ ⟨fun a U g mk q => by obtain ⟨q0, q1, qP, qK, qD⟩ := q; exact ⟨q0, q1, qP, kK.vm (s := U) (U := U.calling g mk a) rfl qK, qD⟩, fun U hU hW => ⟨rfl, by rw [hU], by rw [hU]; exact hPc, kK.warm hW hK, hDc.weaken (fun _ _ _ _ => trivial)⟩⟩ rfl rfl hl.1 rfl (lv_room (Nat.le_of_ble_eq_true rfl)) dX8_init_1 ⟨hA1, hB1⟩) hS (fun q _ h => hFc q h) hFc (fun u1 t H1 locs ht hvm _ hB hz1 hk1 hS => ?_)
  obtain ⟨hP1, hD1⟩ := hB
  rw [ht] at hP1
  obtain ⟨hP, hD⟩ := va_join (wr := []) (w1 := []) hP hD [] [] rfl rfl (by decide) (by decide) hk1 hFc hP1 hD1
  generalize H1 = H at hP hS ⊢
  have hP : va_P D vwCl [] H := hP
  have hD : va_D A [] := hD
  refine W.widen (k := 0) (n := 0) (by omega) (by omega) ?_
  exact W.vret hx hb hr (fun t ht hW => ⟨⟨[], rfl, trivial, by rw [ht]; exact hP, hD⟩, hS.F ht⟩) hS.2.2 dX8_init_4
abbrev kX7 (cI cB : ClassId) (h0 : Nat) (u : List Nat) : va_W := []
set_option maxHeartbeats 4000000 in
set_option maxRecDepth 100000 in
theorem c_X7_init (l : Launch) (D : va_G) (cI cB : ClassId) (h0 sz : Nat) : Met l yX7_init wsX7_init ({ frames := 2, cells := 0, slots := 0, locals := 32 }) (va_Pc [.ref h0] (fun U => U.heap.size = sz ∧ va_P D vwCl [] U.heap ∧ kK D cI cB U ∧ va_D (fun _ => True) [])) (va_Qv (fun _ : List Nat => True) (fun u t => va_P D vwCl (kX7 cI cB h0 u) t.heap ∧ va_D (va_A [] sz) (kX7 cI cB h0 u)) (va_A [] sz)) 0 0 (va_A [] sz) := by
  refine Met.ofW (cc := cX7_init) (maxL := 1) (ret := none) (by decide) rfl ?_
  intro p e s m args below meth c s₁ B hml hv
  obtain ⟨rfl, hsz, hP, hK, hD0⟩ := hv
  have hx := B.exec
  have hb := B.bytes
  have hr := B.returns
  have hts := atoms_spec (ws := wsX7_init) B.pre
  have hown : s.vm.findClass RX7 = some m.cls := findClass_of_methodNamed B.named
  have hlocks := B.notSynchronized
  have hin : meth.name = "<init>" := (name_of_methodNamed B.named B.method).1
  subst hsz
  have hD := hD0.self (sz := s.heap.size)
  generalize hAe : va_A [] s.heap.size = A at hD ⊢
  have hA : ∀ q : Nat, s.heap.size ≤ q → A q := fun q h => by rw [← hAe]; exact Or.inr h
  have hS : va_S A s.heap s.heap [] := va_S.rf
  have hP : va_P D vwCl [] s.heap := hP
  have hl := lv_entry ([.ref h0]) (n := 1) (Nat.le_of_ble_eq_true rfl)
  rw [lg_entry_eq]
  generalize (lg_sl ([.ref h0]) ++ List.replicate (1 - (lg_sl ([.ref h0])).length) Slot.unset).toArray = ls at hl ⊢
  have hl : lv_has ls 1 [(0, .ref h0)] := hl
  refine lv_aload_n hx hb dX7_init_0 rfl (lv_at hl 0 rfl) ?_
  have hA1 : 0+0 ≤ 0 := by decide
  have hB1 : 0+0 ≤ 0 := by decide
  have hPc := hP.sub (ws' := []) [] rfl
  have hDc := hD.sub (ws' := []) [] (by decide) rfl
  have hFc := va_free (wc := []) hD hS hA [] rfl
  refine va_callv (va_runIN (b := h0) (As := []) (rest := []) ⟨hx, hb, hml, hown, hts⟩ (c_X1_init l D cI cB h0 s.heap.size) ⟨va_cnB 0 hts gX7_init_X1_init_n1 rfl rfl rfl (hK.2.nX7_1) (hts (.initialized RX1) (by decide +kernel)) (by decide +kernel) ⟨Nat.le_of_ble_eq_true rfl, Nat.le_of_ble_eq_true rfl⟩, rfl, hts (.instanceMethod yX1_init) (by decide +kernel)⟩ ⟨fun a U g mk q => by obtain ⟨q0, q1, qP, qK, qD⟩ := q; exact ⟨q0, q1, qP, kK.vm (s := U) (U := U.calling g mk a) rfl qK, qD⟩, fun U hU hW => ⟨rfl, by rw [hU], by rw [hU]; exact hPc, kK.warm hW hK, hDc.weaken (fun _ _ _ _ => trivial)⟩⟩ rfl rfl hl.1 rfl (lv_room (Nat.le_of_ble_eq_true rfl)) dX7_init_1 ⟨hA1, hB1⟩) hS (fun q _ h => hFc q h) hFc (fun u1 t H1 locs ht hvm _ hB hz1 hk1 hS => ?_)
  obtain ⟨hP1, hD1⟩ := hB
  rw [ht] at hP1
  obtain ⟨hP, hD⟩ := va_join (wr := []) (w1 := []) hP hD [] [] rfl rfl (by decide) (by decide) hk1 hFc hP1 hD1
  generalize H1 = H at hP hS ⊢
  have hP : va_P D vwCl [] H := hP
  have hD : va_D A [] := hD
  refine W.widen (k := 0) (n := 0) (by omega) (by omega) ?_
  exact W.vret hx hb hr (fun t ht hW => ⟨⟨[], rfl, trivial, by rw [ht]; exact hP, hD⟩, hS.F ht⟩) hS.2.2 dX7_init_4
abbrev kX6 (cI cB : ClassId) (h0 : Nat) (u : List Nat) : va_W := []
set_option maxHeartbeats 4000000 in
set_option maxRecDepth 100000 in
theorem c_X6_init (l : Launch) (D : va_G) (cI cB : ClassId) (h0 sz : Nat) : Met l yX6_init wsX6_init ({ frames := 3, cells := 0, slots := 0, locals := 52 }) (va_Pc [.ref h0] (fun U => U.heap.size = sz ∧ va_P D vwCl [] U.heap ∧ kK D cI cB U ∧ va_D (fun _ => True) [])) (va_Qv (fun _ : List Nat => True) (fun u t => va_P D vwCl (kX6 cI cB h0 u) t.heap ∧ va_D (va_A [] sz) (kX6 cI cB h0 u)) (va_A [] sz)) 0 0 (va_A [] sz) := by
  refine Met.ofW (cc := cX6_init) (maxL := 1) (ret := none) (by decide) rfl ?_
  intro p e s m args below meth c s₁ B hml hv
  obtain ⟨rfl, hsz, hP, hK, hD0⟩ := hv
  have hx := B.exec
  have hb := B.bytes
  have hr := B.returns
  have hts := atoms_spec (ws := wsX6_init) B.pre
  have hown : s.vm.findClass RX6 = some m.cls := findClass_of_methodNamed B.named
  have hlocks := B.notSynchronized
  have hin : meth.name = "<init>" := (name_of_methodNamed B.named B.method).1
  subst hsz
  have hD := hD0.self (sz := s.heap.size)
  generalize hAe : va_A [] s.heap.size = A at hD ⊢
  have hA : ∀ q : Nat, s.heap.size ≤ q → A q := fun q h => by rw [← hAe]; exact Or.inr h
  have hS : va_S A s.heap s.heap [] := va_S.rf
  have hP : va_P D vwCl [] s.heap := hP
  have hl := lv_entry ([.ref h0]) (n := 1) (Nat.le_of_ble_eq_true rfl)
  rw [lg_entry_eq]
  generalize (lg_sl ([.ref h0]) ++ List.replicate (1 - (lg_sl ([.ref h0])).length) Slot.unset).toArray = ls at hl ⊢
  have hl : lv_has ls 1 [(0, .ref h0)] := hl
  refine lv_aload_n hx hb dX6_init_0 rfl (lv_at hl 0 rfl) ?_
  have hA1 : 0+0 ≤ 0 := by decide
  have hB1 : 0+0 ≤ 0 := by decide
  have hPc := hP.sub (ws' := []) [] rfl
  have hDc := hD.sub (ws' := []) [] (by decide) rfl
  have hFc := va_free (wc := []) hD hS hA [] rfl
  refine va_callv (va_runIN (b := h0) (As := []) (rest := []) ⟨hx, hb, hml, hown, hts⟩ (c_X7_init l D cI cB h0 s.heap.size) ⟨va_cnB 0 hts gX6_init_X7_init_n1 rfl rfl rfl (hK.2.nX6_1) (hts (.initialized RX7) (by decide +kernel)) (by decide +kernel) ⟨Nat.le_of_ble_eq_true rfl, Nat.le_of_ble_eq_true rfl⟩, rfl, hts (.instanceMethod yX7_init) (by decide +kernel)⟩ ⟨fun a U g mk q => by obtain ⟨q0, q1, qP, qK, qD⟩ := q; exact ⟨q0, q1, qP, kK.vm (s := U) (U := U.calling g mk a) rfl qK, qD⟩, fun U hU hW => ⟨rfl, by rw [hU], by rw [hU]; exact hPc, kK.warm hW hK, hDc.weaken (fun _ _ _ _ => trivial)⟩⟩ rfl rfl hl.1 rfl (lv_room (Nat.le_of_ble_eq_true rfl)) dX6_init_1 ⟨hA1, hB1⟩) hS (fun q _ h => hFc q h) hFc (fun u1 t H1 locs ht hvm _ hB hz1 hk1 hS => ?_)
  obtain ⟨hP1, hD1⟩ := hB
  rw [ht] at hP1
  obtain ⟨hP, hD⟩ := va_join (wr := []) (w1 := []) hP hD [] [] rfl rfl (by decide) (by decide) hk1 hFc hP1 hD1
  generalize H1 = H at hP hS ⊢
  have hP : va_P D vwCl [] H := hP
  have hD : va_D A [] := hD
  refine W.widen (k := 0) (n := 0) (by omega) (by omega) ?_
  exact W.vret hx hb hr (fun t ht hW => ⟨⟨[], rfl, trivial, by rw [ht]; exact hP, hD⟩, hS.F ht⟩) hS.2.2 dX6_init_4
abbrev kX3 (cI cB : ClassId) (h0 : Nat) (u : List Nat) : va_W := [(h0, .inr (3, [.ref (nthL u 0), .int 0])), ((nthL u 0), .inr (0, [.ref (nthL u 1)])), ((nthL u 1), .inl (cI, 14, .inl (fun _ => 0)))]
set_option maxHeartbeats 4000000 in
set_option maxRecDepth 100000 in
theorem c_X3_init (l : Launch) (D : va_G) (cI cB : ClassId) (h0 sz : Nat) : Met l yX3_init wsX3_init ({ frames := 2, cells := 2, slots := 15, locals := 33 }) (va_Pc [.ref h0] (fun U => U.heap.size = sz ∧ va_P D vwCl [(h0, .inr (3, [.null, .int 0]))] U.heap ∧ kK D cI cB U ∧ va_D (fun _ => True) [(h0, .inr (3, [.null, .int 0]))])) (va_Qv (fun _ : List Nat => True) (fun u t => va_P D vwCl (kX3 cI cB h0 u) t.heap ∧ va_D (va_A [(h0, .inr (3, [.null, .int 0]))] sz) (kX3 cI cB h0 u)) (va_A [(h0, .inr (3, [.null, .int 0]))] sz)) 2 15 (va_A [(h0, .inr (3, [.null, .int 0]))] sz) := by
  refine Met.ofW (cc := cX3_init) (maxL := 1) (ret := none) (by decide) rfl ?_
  intro p e s m args below meth c s₁ B hml hv
  obtain ⟨rfl, hsz, hP, hK, hD0⟩ := hv
  have hx := B.exec
  have hb := B.bytes
  have hr := B.returns
  have hts := atoms_spec (ws := wsX3_init) B.pre
  have hown : s.vm.findClass RX3 = some m.cls := findClass_of_methodNamed B.named
  have hlocks := B.notSynchronized
  have hin : meth.name = "<init>" := (name_of_methodNamed B.named B.method).1
  subst hsz
  have hD := hD0.self (sz := s.heap.size)
  generalize hAe : va_A [(h0, .inr (3, [.null, .int 0]))] s.heap.size = A at hD ⊢
  have hA : ∀ q : Nat, s.heap.size ≤ q → A q := fun q h => by rw [← hAe]; exact Or.inr h
  have hS : va_S A s.heap s.heap [] := va_S.rf
  have hP : va_P D vwCl [(h0, .inr (3, [.null, .int 0]))] s.heap := hP
  have hl := lv_entry ([.ref h0]) (n := 1) (Nat.le_of_ble_eq_true rfl)
  rw [lg_entry_eq]
  generalize (lg_sl ([.ref h0]) ++ List.replicate (1 - (lg_sl ([.ref h0])).length) Slot.unset).toArray = ls at hl ⊢
  have hl : lv_has ls 1 [(0, .ref h0)] := hl
  refine lv_aload_n hx hb dX3_init_0 rfl (lv_at hl 0 rfl) ?_
  refine W.objInit hx hb hown (hts (.methodLink RX3 3 objectInit) (by decide +kernel)) (hts (.instanceMethod objectInit) (by decide +kernel)) (hts (.code objectInit ⟨#[0xb1]⟩ 1 none) (by decide +kernel)) rfl (by rw [hml]; exact hl.1) rfl dX3_init_1 (Nat.le_of_ble_eq_true rfl) (Nat.le_of_ble_eq_true rfl) ?_
  refine W.eq (g2 := F0 m 4 ls []) rfl ?_
  refine lv_aload_n hx hb dX3_init_4 rfl (lv_at hl 0 rfl) ?_
  have hA1 : 1 ≤ 2 := by decide
  have hB1 : 1 ≤ 15 := by decide
  refine va_new (ci := 0) (fs := [.null]) (C := RX0) (T := TX0) (N := 1) hx hb hts (by decide +kernel) tyX0 tyX0_ok hown (hts (.classLink RX3 9 RX0) (by decide +kernel)) (hts (.instantiable RX0 1) (by decide +kernel)) (hts (.initialized RX0) (by decide +kernel)) hK.1 hP hD hS hA rfl (fun j hj => by rcases (show j = 0 by omega) with rfl <;> rfl) hA1 hB1 dX3_init_5 (fun q5 H hP hD hS => ?_)
  have hP : va_P D vwCl [(h0, .inr (3, [.null, .int 0])), (q5, .inr (0, [.null]))] H := hP
  have hD : va_D A [(h0, .inr (3, [.null, .int 0])), (q5, .inr (0, [.null]))] := hD
  refine W.widen (k := 1) (n := 1) (by omega) (by omega) ?_
  refine lv_dup hx hb dX3_init_8 rfl ?_
  refine lv_bipush (v := nI 14) hx hb dX3_init_9 (by decide) ?_
  have hA2 : 1+1 ≤ 2 := by decide
  have hB2 : 1+14 ≤ 15 := by decide
  have hPc := hP.sub (ws' := [(q5, .inr (0, [.null]))]) [1] rfl
  have hDc := hD.sub (ws' := [(q5, .inr (0, [.null]))]) [1] (by decide) rfl
  have hFc := va_free (wc := [(q5, .inr (0, [.null]))]) hD hS hA [1] rfl
  refine va_callv (va_runI (b := q5) (As := [.int (nI 14)]) (rest := [.ref q5, .ref h0]) ⟨hx, hb, hml, hown, hts⟩ (c_X0_init l D cI cB q5 H.size 14 (by omega)) (cwI 1 hts gX3_init_X0_init rfl rfl rfl (hts (.initialized RX0) (by decide +kernel)) (hts (.methodLink RX3 11 yX0_init) (by decide +kernel)) (hts (.instanceMethod yX0_init) (by decide +kernel)) rfl (by decide +kernel) ⟨Nat.le_of_ble_eq_true rfl, Nat.le_of_ble_eq_true rfl⟩) ⟨fun a U g mk q => by obtain ⟨q0, q1, qP, qK, qD⟩ := q; exact ⟨q0, q1, qP, kK.vm (s := U) (U := U.calling g mk a) rfl qK, qD⟩, fun U hU hW => ⟨rfl, by rw [hU], by rw [hU]; exact hPc, kK.warm hW hK, hDc.weaken (fun _ _ _ _ => trivial)⟩⟩ rfl rfl hl.1 rfl (lv_room (Nat.le_of_ble_eq_true rfl)) dX3_init_11 ⟨hA2, hB2⟩) hS (fun q _ h => hFc q h) hFc (fun u11 t H1 locs ht hvm _ hB hz1 hk1 hS => ?_)
  obtain ⟨hP1, hD1⟩ := hB
  rw [ht] at hP1
  obtain ⟨hP, hD⟩ := va_join (wr := [(h0, .inr (3, [.null, .int 0]))]) (w1 := [(q5, .inr (0, [.ref (nthL u11 0)])), ((nthL u11 0), .inl (cI, 14, .inl (fun _ => 0)))]) hP hD [1] [0] rfl rfl (by decide) (by decide) hk1 hFc hP1 hD1
  generalize H1 = H at hP hS ⊢
  have hP : va_P D vwCl [(h0, .inr (3, [.null, .int 0])), (q5, .inr (0, [.ref (nthL u11 0)])), ((nthL u11 0), .inl (cI, 14, .inl (fun _ => 0)))] H := hP
  have hD : va_D A [(h0, .inr (3, [.null, .int 0])), (q5, .inr (0, [.ref (nthL u11 0)])), ((nthL u11 0), .inl (cI, 14, .inl (fun _ => 0)))] := hD
  refine W.widen (k := 2) (n := 15) (by omega) (by omega) ?_
  refine va_putF (D := D) (ci := 3) (v := .ref q5) (ty := .object "SchoolRow$Cells") (C := RX3) (T := TX3) (N := 2) hx hb hts (by decide +kernel) tyX3 tyX3_ok nmX3 hown hK.1 hP hD hS 0 rfl rfl 0 (by decide) (hts (.fieldLink RX3 14 "SchoolRow$Page" "letters" "LSchoolRow$Cells;") (by decide +kernel)) (fun _ h9 => h9) rfl hin rfl (by decide +kernel) rfl rfl (Nat.le_of_ble_eq_true rfl) dX3_init_14 (fun H locs hP hD hS => ?_)
  have hP : va_P D vwCl [(h0, .inr (3, [.ref q5, .int 0])), (q5, .inr (0, [.ref (nthL u11 0)])), ((nthL u11 0), .inl (cI, 14, .inl (fun _ => 0)))] H := hP
  have hD : va_D A [(h0, .inr (3, [.ref q5, .int 0])), (q5, .inr (0, [.ref (nthL u11 0)])), ((nthL u11 0), .inl (cI, 14, .inl (fun _ => 0)))] := hD
  exact W.vret hx hb hr (fun t ht hW => ⟨⟨[q5, (nthL u11 0)], rfl, trivial, by rw [ht]; exact hP, hD⟩, hS.F ht⟩) hS.2.2 dX3_init_17
abbrev kX4 (cI cB : ClassId) (h0 : Nat) (sc : Nat) (u : List Nat) : va_W := [(h0, .inr (4, [.ref sc, .ref (nthL u 0), .ref (nthL u 2), .ref (nthL u 4), .ref (nthL u 6), .int 0])), ((nthL u 0), .inr (0, [.ref (nthL u 1)])), ((nthL u 1), .inl (cI, 6, .inl (fun _ => 0))), ((nthL u 2), .inr (0, [.ref (nthL u 3)])), ((nthL u 3), .inl (cI, 24, .inl (fun _ => 0))), ((nthL u 4), .inr (0, [.ref (nthL u 5)])), ((nthL u 5), .inl (cI, 24, .inl (fun _ => 0))), ((nthL u 6), .inr (0, [.ref (nthL u 7)])), ((nthL u 7), .inl (cI, 6, .inl (fun _ => 0)))]
set_option maxHeartbeats 4000000 in
set_option maxRecDepth 100000 in
theorem c_X4_init (l : Launch) (D : va_G) (cI cB : ClassId) (h0 sz : Nat) (sc : Nat) : Met l yX4_init wsX4_init ({ frames := 2, cells := 8, slots := 64, locals := 33 }) (va_Pc [.ref h0, .ref sc] (fun U => U.heap.size = sz ∧ va_P D vwCl [(h0, .inr (4, [.null, .null, .null, .null, .null, .int 0]))] U.heap ∧ kK D cI cB U ∧ va_D (fun _ => True) [(h0, .inr (4, [.null, .null, .null, .null, .null, .int 0]))])) (va_Qv (fun _ : List Nat => True) (fun u t => va_P D vwCl (kX4 cI cB h0 sc u) t.heap ∧ va_D (va_A [(h0, .inr (4, [.null, .null, .null, .null, .null, .int 0]))] sz) (kX4 cI cB h0 sc u)) (va_A [(h0, .inr (4, [.null, .null, .null, .null, .null, .int 0]))] sz)) 8 64 (va_A [(h0, .inr (4, [.null, .null, .null, .null, .null, .int 0]))] sz) := by
  refine Met.ofW (cc := cX4_init) (maxL := 2) (ret := none) (by decide) rfl ?_
  intro p e s m args below meth c s₁ B hml hv
  obtain ⟨rfl, hsz, hP, hK, hD0⟩ := hv
  have hx := B.exec
  have hb := B.bytes
  have hr := B.returns
  have hts := atoms_spec (ws := wsX4_init) B.pre
  have hown : s.vm.findClass RX4 = some m.cls := findClass_of_methodNamed B.named
  have hlocks := B.notSynchronized
  have hin : meth.name = "<init>" := (name_of_methodNamed B.named B.method).1
  subst hsz
  have hD := hD0.self (sz := s.heap.size)
  generalize hAe : va_A [(h0, .inr (4, [.null, .null, .null, .null, .null, .int 0]))] s.heap.size = A at hD ⊢
  have hA : ∀ q : Nat, s.heap.size ≤ q → A q := fun q h => by rw [← hAe]; exact Or.inr h
  have hS : va_S A s.heap s.heap [] := va_S.rf
  have hP : va_P D vwCl [(h0, .inr (4, [.null, .null, .null, .null, .null, .int 0]))] s.heap := hP
  have hl := lv_entry ([.ref h0, .ref sc]) (n := 2) (Nat.le_of_ble_eq_true rfl)
  rw [lg_entry_eq]
  generalize (lg_sl ([.ref h0, .ref sc]) ++ List.replicate (2 - (lg_sl ([.ref h0, .ref sc])).length) Slot.unset).toArray = ls at hl ⊢
  have hl : lv_has ls 2 [(0, .ref h0), (1, .ref sc)] := hl
  refine lv_aload_n hx hb dX4_init_0 rfl (lv_at hl 0 rfl) ?_
  refine W.objInit hx hb hown (hts (.methodLink RX4 3 objectInit) (by decide +kernel)) (hts (.instanceMethod objectInit) (by decide +kernel)) (hts (.code objectInit ⟨#[0xb1]⟩ 1 none) (by decide +kernel)) rfl (by rw [hml]; exact hl.1) rfl dX4_init_1 (Nat.le_of_ble_eq_true rfl) (Nat.le_of_ble_eq_true rfl) ?_
  refine W.eq (g2 := F0 m 4 ls []) rfl ?_
  refine lv_aload_n hx hb dX4_init_4 rfl (lv_at hl 0 rfl) ?_
  have hA1 : 1 ≤ 8 := by decide
  have hB1 : 1 ≤ 64 := by decide
  refine va_new (ci := 0) (fs := [.null]) (C := RX0) (T := TX0) (N := 1) hx hb hts (by decide +kernel) tyX0 tyX0_ok hown (hts (.classLink RX4 9 RX0) (by decide +kernel)) (hts (.instantiable RX0 1) (by decide +kernel)) (hts (.initialized RX0) (by decide +kernel)) hK.1 hP hD hS hA rfl (fun j hj => by rcases (show j = 0 by omega) with rfl <;> rfl) hA1 hB1 dX4_init_5 (fun q5 H hP hD hS => ?_)
  have hP : va_P D vwCl [(h0, .inr (4, [.null, .null, .null, .null, .null, .int 0])), (q5, .inr (0, [.null]))] H := hP
  have hD : va_D A [(h0, .inr (4, [.null, .null, .null, .null, .null, .int 0])), (q5, .inr (0, [.null]))] := hD
  refine W.widen (k := 1) (n := 1) (by omega) (by omega) ?_
  refine lv_dup hx hb dX4_init_8 rfl ?_
  refine lv_bipush (v := nI 6) hx hb dX4_init_9 (by decide) ?_
  have hA2 : 1+1 ≤ 8 := by decide
  have hB2 : 1+6 ≤ 64 := by decide
  have hPc := hP.sub (ws' := [(q5, .inr (0, [.null]))]) [1] rfl
  have hDc := hD.sub (ws' := [(q5, .inr (0, [.null]))]) [1] (by decide) rfl
  have hFc := va_free (wc := [(q5, .inr (0, [.null]))]) hD hS hA [1] rfl
  refine va_callv (va_runI (b := q5) (As := [.int (nI 6)]) (rest := [.ref q5, .ref h0]) ⟨hx, hb, hml, hown, hts⟩ (c_X0_init l D cI cB q5 H.size 6 (by omega)) (cwI 1 hts gX4_init_X0_init rfl rfl rfl (hts (.initialized RX0) (by decide +kernel)) (hts (.methodLink RX4 11 yX0_init) (by decide +kernel)) (hts (.instanceMethod yX0_init) (by decide +kernel)) rfl (by decide +kernel) ⟨Nat.le_of_ble_eq_true rfl, Nat.le_of_ble_eq_true rfl⟩) ⟨fun a U g mk q => by obtain ⟨q0, q1, qP, qK, qD⟩ := q; exact ⟨q0, q1, qP, kK.vm (s := U) (U := U.calling g mk a) rfl qK, qD⟩, fun U hU hW => ⟨rfl, by rw [hU], by rw [hU]; exact hPc, kK.warm hW hK, hDc.weaken (fun _ _ _ _ => trivial)⟩⟩ rfl rfl hl.1 rfl (lv_room (Nat.le_of_ble_eq_true rfl)) dX4_init_11 ⟨hA2, hB2⟩) hS (fun q _ h => hFc q h) hFc (fun u11 t H1 locs ht hvm _ hB hz1 hk1 hS => ?_)
  obtain ⟨hP1, hD1⟩ := hB
  rw [ht] at hP1
  obtain ⟨hP, hD⟩ := va_join (wr := [(h0, .inr (4, [.null, .null, .null, .null, .null, .int 0]))]) (w1 := [(q5, .inr (0, [.ref (nthL u11 0)])), ((nthL u11 0), .inl (cI, 6, .inl (fun _ => 0)))]) hP hD [1] [0] rfl rfl (by decide) (by decide) hk1 hFc hP1 hD1
  generalize H1 = H at hP hS ⊢
  have hP : va_P D vwCl [(h0, .inr (4, [.null, .null, .null, .null, .null, .int 0])), (q5, .inr (0, [.ref (nthL u11 0)])), ((nthL u11 0), .inl (cI, 6, .inl (fun _ => 0)))] H := hP
  have hD : va_D A [(h0, .inr (4, [.null, .null, .null, .null, .null, .int 0])), (q5, .inr (0, [.ref (nthL u11 0)])), ((nthL u11 0), .inl (cI, 6, .inl (fun _ => 0)))] := hD
  refine W.widen (k := 2) (n := 7) (by omega) (by omega) ?_
  refine va_putF (D := D) (ci := 4) (v := .ref q5) (ty := .object "SchoolRow$Cells") (C := RX4) (T := TX4) (N := 6) hx hb hts (by decide +kernel) tyX4 tyX4_ok nmX4 hown hK.1 hP hD hS 0 rfl rfl 1 (by decide) (hts (.fieldLink RX4 14 "SchoolRow$Row" "seats" "LSchoolRow$Cells;") (by decide +kernel)) (fun _ h9 => h9) rfl hin rfl (by decide +kernel) rfl rfl (Nat.le_of_ble_eq_true rfl) dX4_init_14 (fun H locs hP hD hS => ?_)
  have hP : va_P D vwCl [(h0, .inr (4, [.null, .ref q5, .null, .null, .null, .int 0])), (q5, .inr (0, [.ref (nthL u11 0)])), ((nthL u11 0), .inl (cI, 6, .inl (fun _ => 0)))] H := hP
  have hD : va_D A [(h0, .inr (4, [.null, .ref q5, .null, .null, .null, .int 0])), (q5, .inr (0, [.ref (nthL u11 0)])), ((nthL u11 0), .inl (cI, 6, .inl (fun _ => 0)))] := hD
  refine lv_aload_n hx hb dX4_init_17 rfl (lv_at hl 0 rfl) ?_
  have hA3 : 3 ≤ 8 := by decide
  have hB3 : 8 ≤ 64 := by decide
  refine va_new (ci := 0) (fs := [.null]) (C := RX0) (T := TX0) (N := 1) hx hb hts (by decide +kernel) tyX0 tyX0_ok hown (hts (.classLink RX4 9 RX0) (by decide +kernel)) (hts (.instantiable RX0 1) (by decide +kernel)) (hts (.initialized RX0) (by decide +kernel)) hK.1 hP hD hS hA rfl (fun j hj => by rcases (show j = 0 by omega) with rfl <;> rfl) hA3 hB3 dX4_init_18 (fun q18 H hP hD hS => ?_)
  have hP : va_P D vwCl [(h0, .inr (4, [.null, .ref q5, .null, .null, .null, .int 0])), (q5, .inr (0, [.ref (nthL u11 0)])), ((nthL u11 0), .inl (cI, 6, .inl (fun _ => 0))), (q18, .inr (0, [.null]))] H := hP
  have hD : va_D A [(h0, .inr (4, [.null, .ref q5, .null, .null, .null, .int 0])), (q5, .inr (0, [.ref (nthL u11 0)])), ((nthL u11 0), .inl (cI, 6, .inl (fun _ => 0))), (q18, .inr (0, [.null]))] := hD
  refine W.widen (k := 3) (n := 8) (by omega) (by omega) ?_
  refine lv_dup hx hb dX4_init_21 rfl ?_
  refine lv_bipush (v := nI 24) hx hb dX4_init_22 (by decide) ?_
  have hA4 : 3+1 ≤ 8 := by decide
  have hB4 : 8+24 ≤ 64 := by decide
  have hPc := hP.sub (ws' := [(q18, .inr (0, [.null]))]) [3] rfl
  have hDc := hD.sub (ws' := [(q18, .inr (0, [.null]))]) [3] (by decide) rfl
  have hFc := va_free (wc := [(q18, .inr (0, [.null]))]) hD hS hA [3] rfl
  refine va_callv (va_runI (b := q18) (As := [.int (nI 24)]) (rest := [.ref q18, .ref h0]) ⟨hx, hb, hml, hown, hts⟩ (c_X0_init l D cI cB q18 H.size 24 (by omega)) (cwI 1 hts gX4_init_X0_init rfl rfl rfl (hts (.initialized RX0) (by decide +kernel)) (hts (.methodLink RX4 11 yX0_init) (by decide +kernel)) (hts (.instanceMethod yX0_init) (by decide +kernel)) rfl (by decide +kernel) ⟨Nat.le_of_ble_eq_true rfl, Nat.le_of_ble_eq_true rfl⟩) ⟨fun a U g mk q => by obtain ⟨q0, q1, qP, qK, qD⟩ := q; exact ⟨q0, q1, qP, kK.vm (s := U) (U := U.calling g mk a) rfl qK, qD⟩, fun U hU hW => ⟨rfl, by rw [hU], by rw [hU]; exact hPc, kK.warm hW hK, hDc.weaken (fun _ _ _ _ => trivial)⟩⟩ rfl rfl hl.1 rfl (lv_room (Nat.le_of_ble_eq_true rfl)) dX4_init_24 ⟨hA4, hB4⟩) hS (fun q _ h => hFc q h) hFc (fun u24 t H1 locs ht hvm _ hB hz1 hk1 hS => ?_)
  obtain ⟨hP1, hD1⟩ := hB
  rw [ht] at hP1
  obtain ⟨hP, hD⟩ := va_join (wr := [(h0, .inr (4, [.null, .ref q5, .null, .null, .null, .int 0])), (q5, .inr (0, [.ref (nthL u11 0)])), ((nthL u11 0), .inl (cI, 6, .inl (fun _ => 0)))]) (w1 := [(q18, .inr (0, [.ref (nthL u24 0)])), ((nthL u24 0), .inl (cI, 24, .inl (fun _ => 0)))]) hP hD [3] [0, 1, 2] rfl rfl (by decide) (by decide) hk1 hFc hP1 hD1
  generalize H1 = H at hP hS ⊢
  have hP : va_P D vwCl [(h0, .inr (4, [.null, .ref q5, .null, .null, .null, .int 0])), (q5, .inr (0, [.ref (nthL u11 0)])), ((nthL u11 0), .inl (cI, 6, .inl (fun _ => 0))), (q18, .inr (0, [.ref (nthL u24 0)])), ((nthL u24 0), .inl (cI, 24, .inl (fun _ => 0)))] H := hP
  have hD : va_D A [(h0, .inr (4, [.null, .ref q5, .null, .null, .null, .int 0])), (q5, .inr (0, [.ref (nthL u11 0)])), ((nthL u11 0), .inl (cI, 6, .inl (fun _ => 0))), (q18, .inr (0, [.ref (nthL u24 0)])), ((nthL u24 0), .inl (cI, 24, .inl (fun _ => 0)))] := hD
  refine W.widen (k := 4) (n := 32) (by omega) (by omega) ?_
  refine va_putF (D := D) (ci := 4) (v := .ref q18) (ty := .object "SchoolRow$Cells") (C := RX4) (T := TX4) (N := 6) hx hb hts (by decide +kernel) tyX4 tyX4_ok nmX4 hown hK.1 hP hD hS 0 rfl rfl 2 (by decide) (hts (.fieldLink RX4 20 "SchoolRow$Row" "parts" "LSchoolRow$Cells;") (by decide +kernel)) (fun _ h9 => h9) rfl hin rfl (by decide +kernel) rfl rfl (Nat.le_of_ble_eq_true rfl) dX4_init_27 (fun H locs hP hD hS => ?_)
  have hP : va_P D vwCl [(h0, .inr (4, [.null, .ref q5, .ref q18, .null, .null, .int 0])), (q5, .inr (0, [.ref (nthL u11 0)])), ((nthL u11 0), .inl (cI, 6, .inl (fun _ => 0))), (q18, .inr (0, [.ref (nthL u24 0)])), ((nthL u24 0), .inl (cI, 24, .inl (fun _ => 0)))] H := hP
  have hD : va_D A [(h0, .inr (4, [.null, .ref q5, .ref q18, .null, .null, .int 0])), (q5, .inr (0, [.ref (nthL u11 0)])), ((nthL u11 0), .inl (cI, 6, .inl (fun _ => 0))), (q18, .inr (0, [.ref (nthL u24 0)])), ((nthL u24 0), .inl (cI, 24, .inl (fun _ => 0)))] := hD
  refine lv_aload_n hx hb dX4_init_30 rfl (lv_at hl 0 rfl) ?_
  have hA5 : 5 ≤ 8 := by decide
  have hB5 : 33 ≤ 64 := by decide
  refine va_new (ci := 0) (fs := [.null]) (C := RX0) (T := TX0) (N := 1) hx hb hts (by decide +kernel) tyX0 tyX0_ok hown (hts (.classLink RX4 9 RX0) (by decide +kernel)) (hts (.instantiable RX0 1) (by decide +kernel)) (hts (.initialized RX0) (by decide +kernel)) hK.1 hP hD hS hA rfl (fun j hj => by rcases (show j = 0 by omega) with rfl <;> rfl) hA5 hB5 dX4_init_31 (fun q31 H hP hD hS => ?_)
  have hP : va_P D vwCl [(h0, .inr (4, [.null, .ref q5, .ref q18, .null, .null, .int 0])), (q5, .inr (0, [.ref (nthL u11 0)])), ((nthL u11 0), .inl (cI, 6, .inl (fun _ => 0))), (q18, .inr (0, [.ref (nthL u24 0)])), ((nthL u24 0), .inl (cI, 24, .inl (fun _ => 0))), (q31, .inr (0, [.null]))] H := hP
  have hD : va_D A [(h0, .inr (4, [.null, .ref q5, .ref q18, .null, .null, .int 0])), (q5, .inr (0, [.ref (nthL u11 0)])), ((nthL u11 0), .inl (cI, 6, .inl (fun _ => 0))), (q18, .inr (0, [.ref (nthL u24 0)])), ((nthL u24 0), .inl (cI, 24, .inl (fun _ => 0))), (q31, .inr (0, [.null]))] := hD
  refine W.widen (k := 5) (n := 33) (by omega) (by omega) ?_
  refine lv_dup hx hb dX4_init_34 rfl ?_
  refine lv_bipush (v := nI 24) hx hb dX4_init_35 (by decide) ?_
  have hA6 : 5+1 ≤ 8 := by decide
  have hB6 : 33+24 ≤ 64 := by decide
  have hPc := hP.sub (ws' := [(q31, .inr (0, [.null]))]) [5] rfl
  have hDc := hD.sub (ws' := [(q31, .inr (0, [.null]))]) [5] (by decide) rfl
  have hFc := va_free (wc := [(q31, .inr (0, [.null]))]) hD hS hA [5] rfl
  refine va_callv (va_runI (b := q31) (As := [.int (nI 24)]) (rest := [.ref q31, .ref h0]) ⟨hx, hb, hml, hown, hts⟩ (c_X0_init l D cI cB q31 H.size 24 (by omega)) (cwI 1 hts gX4_init_X0_init rfl rfl rfl (hts (.initialized RX0) (by decide +kernel)) (hts (.methodLink RX4 11 yX0_init) (by decide +kernel)) (hts (.instanceMethod yX0_init) (by decide +kernel)) rfl (by decide +kernel) ⟨Nat.le_of_ble_eq_true rfl, Nat.le_of_ble_eq_true rfl⟩) ⟨fun a U g mk q => by obtain ⟨q0, q1, qP, qK, qD⟩ := q; exact ⟨q0, q1, qP, kK.vm (s := U) (U := U.calling g mk a) rfl qK, qD⟩, fun U hU hW => ⟨rfl, by rw [hU], by rw [hU]; exact hPc, kK.warm hW hK, hDc.weaken (fun _ _ _ _ => trivial)⟩⟩ rfl rfl hl.1 rfl (lv_room (Nat.le_of_ble_eq_true rfl)) dX4_init_37 ⟨hA6, hB6⟩) hS (fun q _ h => hFc q h) hFc (fun u37 t H1 locs ht hvm _ hB hz1 hk1 hS => ?_)
  obtain ⟨hP1, hD1⟩ := hB
  rw [ht] at hP1
  obtain ⟨hP, hD⟩ := va_join (wr := [(h0, .inr (4, [.null, .ref q5, .ref q18, .null, .null, .int 0])), (q5, .inr (0, [.ref (nthL u11 0)])), ((nthL u11 0), .inl (cI, 6, .inl (fun _ => 0))), (q18, .inr (0, [.ref (nthL u24 0)])), ((nthL u24 0), .inl (cI, 24, .inl (fun _ => 0)))]) (w1 := [(q31, .inr (0, [.ref (nthL u37 0)])), ((nthL u37 0), .inl (cI, 24, .inl (fun _ => 0)))]) hP hD [5] [0, 1, 2, 3, 4] rfl rfl (by decide) (by decide) hk1 hFc hP1 hD1
  generalize H1 = H at hP hS ⊢
  have hP : va_P D vwCl [(h0, .inr (4, [.null, .ref q5, .ref q18, .null, .null, .int 0])), (q5, .inr (0, [.ref (nthL u11 0)])), ((nthL u11 0), .inl (cI, 6, .inl (fun _ => 0))), (q18, .inr (0, [.ref (nthL u24 0)])), ((nthL u24 0), .inl (cI, 24, .inl (fun _ => 0))), (q31, .inr (0, [.ref (nthL u37 0)])), ((nthL u37 0), .inl (cI, 24, .inl (fun _ => 0)))] H := hP
  have hD : va_D A [(h0, .inr (4, [.null, .ref q5, .ref q18, .null, .null, .int 0])), (q5, .inr (0, [.ref (nthL u11 0)])), ((nthL u11 0), .inl (cI, 6, .inl (fun _ => 0))), (q18, .inr (0, [.ref (nthL u24 0)])), ((nthL u24 0), .inl (cI, 24, .inl (fun _ => 0))), (q31, .inr (0, [.ref (nthL u37 0)])), ((nthL u37 0), .inl (cI, 24, .inl (fun _ => 0)))] := hD
  refine W.widen (k := 6) (n := 57) (by omega) (by omega) ?_
  refine va_putF (D := D) (ci := 4) (v := .ref q31) (ty := .object "SchoolRow$Cells") (C := RX4) (T := TX4) (N := 6) hx hb hts (by decide +kernel) tyX4 tyX4_ok nmX4 hown hK.1 hP hD hS 0 rfl rfl 3 (by decide) (hts (.fieldLink RX4 23 "SchoolRow$Row" "mistakes" "LSchoolRow$Cells;") (by decide +kernel)) (fun _ h9 => h9) rfl hin rfl (by decide +kernel) rfl rfl (Nat.le_of_ble_eq_true rfl) dX4_init_40 (fun H locs hP hD hS => ?_)
  have hP : va_P D vwCl [(h0, .inr (4, [.null, .ref q5, .ref q18, .ref q31, .null, .int 0])), (q5, .inr (0, [.ref (nthL u11 0)])), ((nthL u11 0), .inl (cI, 6, .inl (fun _ => 0))), (q18, .inr (0, [.ref (nthL u24 0)])), ((nthL u24 0), .inl (cI, 24, .inl (fun _ => 0))), (q31, .inr (0, [.ref (nthL u37 0)])), ((nthL u37 0), .inl (cI, 24, .inl (fun _ => 0)))] H := hP
  have hD : va_D A [(h0, .inr (4, [.null, .ref q5, .ref q18, .ref q31, .null, .int 0])), (q5, .inr (0, [.ref (nthL u11 0)])), ((nthL u11 0), .inl (cI, 6, .inl (fun _ => 0))), (q18, .inr (0, [.ref (nthL u24 0)])), ((nthL u24 0), .inl (cI, 24, .inl (fun _ => 0))), (q31, .inr (0, [.ref (nthL u37 0)])), ((nthL u37 0), .inl (cI, 24, .inl (fun _ => 0)))] := hD
  refine lv_aload_n hx hb dX4_init_43 rfl (lv_at hl 0 rfl) ?_
  have hA7 : 7 ≤ 8 := by decide
  have hB7 : 58 ≤ 64 := by decide
  refine va_new (ci := 0) (fs := [.null]) (C := RX0) (T := TX0) (N := 1) hx hb hts (by decide +kernel) tyX0 tyX0_ok hown (hts (.classLink RX4 9 RX0) (by decide +kernel)) (hts (.instantiable RX0 1) (by decide +kernel)) (hts (.initialized RX0) (by decide +kernel)) hK.1 hP hD hS hA rfl (fun j hj => by rcases (show j = 0 by omega) with rfl <;> rfl) hA7 hB7 dX4_init_44 (fun q44 H hP hD hS => ?_)
  have hP : va_P D vwCl [(h0, .inr (4, [.null, .ref q5, .ref q18, .ref q31, .null, .int 0])), (q5, .inr (0, [.ref (nthL u11 0)])), ((nthL u11 0), .inl (cI, 6, .inl (fun _ => 0))), (q18, .inr (0, [.ref (nthL u24 0)])), ((nthL u24 0), .inl (cI, 24, .inl (fun _ => 0))), (q31, .inr (0, [.ref (nthL u37 0)])), ((nthL u37 0), .inl (cI, 24, .inl (fun _ => 0))), (q44, .inr (0, [.null]))] H := hP
  have hD : va_D A [(h0, .inr (4, [.null, .ref q5, .ref q18, .ref q31, .null, .int 0])), (q5, .inr (0, [.ref (nthL u11 0)])), ((nthL u11 0), .inl (cI, 6, .inl (fun _ => 0))), (q18, .inr (0, [.ref (nthL u24 0)])), ((nthL u24 0), .inl (cI, 24, .inl (fun _ => 0))), (q31, .inr (0, [.ref (nthL u37 0)])), ((nthL u37 0), .inl (cI, 24, .inl (fun _ => 0))), (q44, .inr (0, [.null]))] := hD
  refine W.widen (k := 7) (n := 58) (by omega) (by omega) ?_
  refine lv_dup hx hb dX4_init_47 rfl ?_
  refine lv_bipush (v := nI 6) hx hb dX4_init_48 (by decide) ?_
  have hA8 : 7+1 ≤ 8 := by decide
  have hB8 : 58+6 ≤ 64 := by decide
  have hPc := hP.sub (ws' := [(q44, .inr (0, [.null]))]) [7] rfl
  have hDc := hD.sub (ws' := [(q44, .inr (0, [.null]))]) [7] (by decide) rfl
  have hFc := va_free (wc := [(q44, .inr (0, [.null]))]) hD hS hA [7] rfl
  refine va_callv (va_runI (b := q44) (As := [.int (nI 6)]) (rest := [.ref q44, .ref h0]) ⟨hx, hb, hml, hown, hts⟩ (c_X0_init l D cI cB q44 H.size 6 (by omega)) (cwI 1 hts gX4_init_X0_init rfl rfl rfl (hts (.initialized RX0) (by decide +kernel)) (hts (.methodLink RX4 11 yX0_init) (by decide +kernel)) (hts (.instanceMethod yX0_init) (by decide +kernel)) rfl (by decide +kernel) ⟨Nat.le_of_ble_eq_true rfl, Nat.le_of_ble_eq_true rfl⟩) ⟨fun a U g mk q => by obtain ⟨q0, q1, qP, qK, qD⟩ := q; exact ⟨q0, q1, qP, kK.vm (s := U) (U := U.calling g mk a) rfl qK, qD⟩, fun U hU hW => ⟨rfl, by rw [hU], by rw [hU]; exact hPc, kK.warm hW hK, hDc.weaken (fun _ _ _ _ => trivial)⟩⟩ rfl rfl hl.1 rfl (lv_room (Nat.le_of_ble_eq_true rfl)) dX4_init_50 ⟨hA8, hB8⟩) hS (fun q _ h => hFc q h) hFc (fun u50 t H1 locs ht hvm _ hB hz1 hk1 hS => ?_)
  obtain ⟨hP1, hD1⟩ := hB
  rw [ht] at hP1
  obtain ⟨hP, hD⟩ := va_join (wr := [(h0, .inr (4, [.null, .ref q5, .ref q18, .ref q31, .null, .int 0])), (q5, .inr (0, [.ref (nthL u11 0)])), ((nthL u11 0), .inl (cI, 6, .inl (fun _ => 0))), (q18, .inr (0, [.ref (nthL u24 0)])), ((nthL u24 0), .inl (cI, 24, .inl (fun _ => 0))), (q31, .inr (0, [.ref (nthL u37 0)])), ((nthL u37 0), .inl (cI, 24, .inl (fun _ => 0)))]) (w1 := [(q44, .inr (0, [.ref (nthL u50 0)])), ((nthL u50 0), .inl (cI, 6, .inl (fun _ => 0)))]) hP hD [7] [0, 1, 2, 3, 4, 5, 6] rfl rfl (by decide) (by decide) hk1 hFc hP1 hD1
  generalize H1 = H at hP hS ⊢
  have hP : va_P D vwCl [(h0, .inr (4, [.null, .ref q5, .ref q18, .ref q31, .null, .int 0])), (q5, .inr (0, [.ref (nthL u11 0)])), ((nthL u11 0), .inl (cI, 6, .inl (fun _ => 0))), (q18, .inr (0, [.ref (nthL u24 0)])), ((nthL u24 0), .inl (cI, 24, .inl (fun _ => 0))), (q31, .inr (0, [.ref (nthL u37 0)])), ((nthL u37 0), .inl (cI, 24, .inl (fun _ => 0))), (q44, .inr (0, [.ref (nthL u50 0)])), ((nthL u50 0), .inl (cI, 6, .inl (fun _ => 0)))] H := hP
  have hD : va_D A [(h0, .inr (4, [.null, .ref q5, .ref q18, .ref q31, .null, .int 0])), (q5, .inr (0, [.ref (nthL u11 0)])), ((nthL u11 0), .inl (cI, 6, .inl (fun _ => 0))), (q18, .inr (0, [.ref (nthL u24 0)])), ((nthL u24 0), .inl (cI, 24, .inl (fun _ => 0))), (q31, .inr (0, [.ref (nthL u37 0)])), ((nthL u37 0), .inl (cI, 24, .inl (fun _ => 0))), (q44, .inr (0, [.ref (nthL u50 0)])), ((nthL u50 0), .inl (cI, 6, .inl (fun _ => 0)))] := hD
  refine W.widen (k := 8) (n := 64) (by omega) (by omega) ?_
  refine va_putF (D := D) (ci := 4) (v := .ref q44) (ty := .object "SchoolRow$Cells") (C := RX4) (T := TX4) (N := 6) hx hb hts (by decide +kernel) tyX4 tyX4_ok nmX4 hown hK.1 hP hD hS 0 rfl rfl 4 (by decide) (hts (.fieldLink RX4 26 "SchoolRow$Row" "told" "LSchoolRow$Cells;") (by decide +kernel)) (fun _ h9 => h9) rfl hin rfl (by decide +kernel) rfl rfl (Nat.le_of_ble_eq_true rfl) dX4_init_53 (fun H locs hP hD hS => ?_)
  have hP : va_P D vwCl [(h0, .inr (4, [.null, .ref q5, .ref q18, .ref q31, .ref q44, .int 0])), (q5, .inr (0, [.ref (nthL u11 0)])), ((nthL u11 0), .inl (cI, 6, .inl (fun _ => 0))), (q18, .inr (0, [.ref (nthL u24 0)])), ((nthL u24 0), .inl (cI, 24, .inl (fun _ => 0))), (q31, .inr (0, [.ref (nthL u37 0)])), ((nthL u37 0), .inl (cI, 24, .inl (fun _ => 0))), (q44, .inr (0, [.ref (nthL u50 0)])), ((nthL u50 0), .inl (cI, 6, .inl (fun _ => 0)))] H := hP
  have hD : va_D A [(h0, .inr (4, [.null, .ref q5, .ref q18, .ref q31, .ref q44, .int 0])), (q5, .inr (0, [.ref (nthL u11 0)])), ((nthL u11 0), .inl (cI, 6, .inl (fun _ => 0))), (q18, .inr (0, [.ref (nthL u24 0)])), ((nthL u24 0), .inl (cI, 24, .inl (fun _ => 0))), (q31, .inr (0, [.ref (nthL u37 0)])), ((nthL u37 0), .inl (cI, 24, .inl (fun _ => 0))), (q44, .inr (0, [.ref (nthL u50 0)])), ((nthL u50 0), .inl (cI, 6, .inl (fun _ => 0)))] := hD
  refine lv_aload_n hx hb dX4_init_56 rfl (lv_at hl 0 rfl) ?_
  refine lv_aload_n hx hb dX4_init_57 rfl (lv_at hl 1 rfl) ?_
  refine va_putF (D := D) (ci := 4) (v := .ref sc) (ty := .object "SchoolRow$School") (C := RX4) (T := TX4) (N := 6) hx hb hts (by decide +kernel) tyX4 tyX4_ok nmX4 hown hK.1 hP hD hS 0 rfl rfl 0 (by decide) (hts (.fieldLink RX4 29 "SchoolRow$Row" "school" "LSchoolRow$School;") (by decide +kernel)) (fun _ h9 => h9) rfl hin rfl (by decide +kernel) rfl rfl (Nat.le_of_ble_eq_true rfl) dX4_init_58 (fun H locs hP hD hS => ?_)
  have hP : va_P D vwCl [(h0, .inr (4, [.ref sc, .ref q5, .ref q18, .ref q31, .ref q44, .int 0])), (q5, .inr (0, [.ref (nthL u11 0)])), ((nthL u11 0), .inl (cI, 6, .inl (fun _ => 0))), (q18, .inr (0, [.ref (nthL u24 0)])), ((nthL u24 0), .inl (cI, 24, .inl (fun _ => 0))), (q31, .inr (0, [.ref (nthL u37 0)])), ((nthL u37 0), .inl (cI, 24, .inl (fun _ => 0))), (q44, .inr (0, [.ref (nthL u50 0)])), ((nthL u50 0), .inl (cI, 6, .inl (fun _ => 0)))] H := hP
  have hD : va_D A [(h0, .inr (4, [.ref sc, .ref q5, .ref q18, .ref q31, .ref q44, .int 0])), (q5, .inr (0, [.ref (nthL u11 0)])), ((nthL u11 0), .inl (cI, 6, .inl (fun _ => 0))), (q18, .inr (0, [.ref (nthL u24 0)])), ((nthL u24 0), .inl (cI, 24, .inl (fun _ => 0))), (q31, .inr (0, [.ref (nthL u37 0)])), ((nthL u37 0), .inl (cI, 24, .inl (fun _ => 0))), (q44, .inr (0, [.ref (nthL u50 0)])), ((nthL u50 0), .inl (cI, 6, .inl (fun _ => 0)))] := hD
  exact W.vret hx hb hr (fun t ht hW => ⟨⟨[q5, (nthL u11 0), q18, (nthL u24 0), q31, (nthL u37 0), q44, (nthL u50 0)], rfl, trivial, by rw [ht]; exact hP, hD⟩, hS.F ht⟩) hS.2.2 dX4_init_61
abbrev kX5 (cI cB : ClassId) (h0 : Nat) (u : List Nat) : va_W := [(h0, .inr (5, [.ref (nthL u 0), .ref (nthL u 2), .ref (nthL u 4), .ref (nthL u 5), .ref (nthL u 6), .ref (nthL u 7), .ref (nthL u 8), .int 0])), ((nthL u 0), .inr (0, [.ref (nthL u 1)])), ((nthL u 1), .inl (cI, 6, .inl (fun _ => 0))), ((nthL u 2), .inr (0, [.ref (nthL u 3)])), ((nthL u 3), .inl (cI, 6, .inl (fun _ => 0))), ((nthL u 4), .inr (1, [])), ((nthL u 5), .inr (8, [])), ((nthL u 6), .inr (2, [])), ((nthL u 7), .inr (7, [])), ((nthL u 8), .inr (6, []))]
set_option maxHeartbeats 4000000 in
set_option maxRecDepth 100000 in
theorem c_X5_init (l : Launch) (D : va_G) (cI cB : ClassId) (h0 sz : Nat) : Met l yX5_init wsX5_init ({ frames := 4, cells := 9, slots := 14, locals := 72 }) (va_Pc [.ref h0] (fun U => U.heap.size = sz ∧ va_P D vwCl [(h0, .inr (5, [.null, .null, .null, .null, .null, .null, .null, .int 0]))] U.heap ∧ kK D cI cB U ∧ va_D (fun _ => True) [(h0, .inr (5, [.null, .null, .null, .null, .null, .null, .null, .int 0]))])) (va_Qv (fun _ : List Nat => True) (fun u t => va_P D vwCl (kX5 cI cB h0 u) t.heap ∧ va_D (va_A [(h0, .inr (5, [.null, .null, .null, .null, .null, .null, .null, .int 0]))] sz) (kX5 cI cB h0 u)) (va_A [(h0, .inr (5, [.null, .null, .null, .null, .null, .null, .null, .int 0]))] sz)) 9 14 (va_A [(h0, .inr (5, [.null, .null, .null, .null, .null, .null, .null, .int 0]))] sz) := by
  refine Met.ofW (cc := cX5_init) (maxL := 1) (ret := none) (by decide) rfl ?_
  intro p e s m args below meth c s₁ B hml hv
  obtain ⟨rfl, hsz, hP, hK, hD0⟩ := hv
  have hx := B.exec
  have hb := B.bytes
  have hr := B.returns
  have hts := atoms_spec (ws := wsX5_init) B.pre
  have hown : s.vm.findClass RX5 = some m.cls := findClass_of_methodNamed B.named
  have hlocks := B.notSynchronized
  have hin : meth.name = "<init>" := (name_of_methodNamed B.named B.method).1
  subst hsz
  have hD := hD0.self (sz := s.heap.size)
  generalize hAe : va_A [(h0, .inr (5, [.null, .null, .null, .null, .null, .null, .null, .int 0]))] s.heap.size = A at hD ⊢
  have hA : ∀ q : Nat, s.heap.size ≤ q → A q := fun q h => by rw [← hAe]; exact Or.inr h
  have hS : va_S A s.heap s.heap [] := va_S.rf
  have hP : va_P D vwCl [(h0, .inr (5, [.null, .null, .null, .null, .null, .null, .null, .int 0]))] s.heap := hP
  have hl := lv_entry ([.ref h0]) (n := 1) (Nat.le_of_ble_eq_true rfl)
  rw [lg_entry_eq]
  generalize (lg_sl ([.ref h0]) ++ List.replicate (1 - (lg_sl ([.ref h0])).length) Slot.unset).toArray = ls at hl ⊢
  have hl : lv_has ls 1 [(0, .ref h0)] := hl
  refine lv_aload_n hx hb dX5_init_0 rfl (lv_at hl 0 rfl) ?_
  refine W.objInit hx hb hown (hts (.methodLink RX5 3 objectInit) (by decide +kernel)) (hts (.instanceMethod objectInit) (by decide +kernel)) (hts (.code objectInit ⟨#[0xb1]⟩ 1 none) (by decide +kernel)) rfl (by rw [hml]; exact hl.1) rfl dX5_init_1 (Nat.le_of_ble_eq_true rfl) (Nat.le_of_ble_eq_true rfl) ?_
  refine W.eq (g2 := F0 m 4 ls []) rfl ?_
  refine lv_aload_n hx hb dX5_init_4 rfl (lv_at hl 0 rfl) ?_
  have hA1 : 1 ≤ 9 := by decide
  have hB1 : 1 ≤ 14 := by decide
  refine va_new (ci := 0) (fs := [.null]) (C := RX0) (T := TX0) (N := 1) hx hb hts (by decide +kernel) tyX0 tyX0_ok hown (hts (.classLink RX5 9 RX0) (by decide +kernel)) (hts (.instantiable RX0 1) (by decide +kernel)) (hts (.initialized RX0) (by decide +kernel)) hK.1 hP hD hS hA rfl (fun j hj => by rcases (show j = 0 by omega) with rfl <;> rfl) hA1 hB1 dX5_init_5 (fun q5 H hP hD hS => ?_)
  have hP : va_P D vwCl [(h0, .inr (5, [.null, .null, .null, .null, .null, .null, .null, .int 0])), (q5, .inr (0, [.null]))] H := hP
  have hD : va_D A [(h0, .inr (5, [.null, .null, .null, .null, .null, .null, .null, .int 0])), (q5, .inr (0, [.null]))] := hD
  refine W.widen (k := 1) (n := 1) (by omega) (by omega) ?_
  refine lv_dup hx hb dX5_init_8 rfl ?_
  refine lv_bipush (v := nI 6) hx hb dX5_init_9 (by decide) ?_
  have hA2 : 1+1 ≤ 9 := by decide
  have hB2 : 1+6 ≤ 14 := by decide
  have hPc := hP.sub (ws' := [(q5, .inr (0, [.null]))]) [1] rfl
  have hDc := hD.sub (ws' := [(q5, .inr (0, [.null]))]) [1] (by decide) rfl
  have hFc := va_free (wc := [(q5, .inr (0, [.null]))]) hD hS hA [1] rfl
  refine va_callv (va_runI (b := q5) (As := [.int (nI 6)]) (rest := [.ref q5, .ref h0]) ⟨hx, hb, hml, hown, hts⟩ (c_X0_init l D cI cB q5 H.size 6 (by omega)) (cwI 1 hts gX5_init_X0_init rfl rfl rfl (hts (.initialized RX0) (by decide +kernel)) (hts (.methodLink RX5 11 yX0_init) (by decide +kernel)) (hts (.instanceMethod yX0_init) (by decide +kernel)) rfl (by decide +kernel) ⟨Nat.le_of_ble_eq_true rfl, Nat.le_of_ble_eq_true rfl⟩) ⟨fun a U g mk q => by obtain ⟨q0, q1, qP, qK, qD⟩ := q; exact ⟨q0, q1, qP, kK.vm (s := U) (U := U.calling g mk a) rfl qK, qD⟩, fun U hU hW => ⟨rfl, by rw [hU], by rw [hU]; exact hPc, kK.warm hW hK, hDc.weaken (fun _ _ _ _ => trivial)⟩⟩ rfl rfl hl.1 rfl (lv_room (Nat.le_of_ble_eq_true rfl)) dX5_init_11 ⟨hA2, hB2⟩) hS (fun q _ h => hFc q h) hFc (fun u11 t H1 locs ht hvm _ hB hz1 hk1 hS => ?_)
  obtain ⟨hP1, hD1⟩ := hB
  rw [ht] at hP1
  obtain ⟨hP, hD⟩ := va_join (wr := [(h0, .inr (5, [.null, .null, .null, .null, .null, .null, .null, .int 0]))]) (w1 := [(q5, .inr (0, [.ref (nthL u11 0)])), ((nthL u11 0), .inl (cI, 6, .inl (fun _ => 0)))]) hP hD [1] [0] rfl rfl (by decide) (by decide) hk1 hFc hP1 hD1
  generalize H1 = H at hP hS ⊢
  have hP : va_P D vwCl [(h0, .inr (5, [.null, .null, .null, .null, .null, .null, .null, .int 0])), (q5, .inr (0, [.ref (nthL u11 0)])), ((nthL u11 0), .inl (cI, 6, .inl (fun _ => 0)))] H := hP
  have hD : va_D A [(h0, .inr (5, [.null, .null, .null, .null, .null, .null, .null, .int 0])), (q5, .inr (0, [.ref (nthL u11 0)])), ((nthL u11 0), .inl (cI, 6, .inl (fun _ => 0)))] := hD
  refine W.widen (k := 2) (n := 7) (by omega) (by omega) ?_
  refine va_putF (D := D) (ci := 5) (v := .ref q5) (ty := .object "SchoolRow$Cells") (C := RX5) (T := TX5) (N := 8) hx hb hts (by decide +kernel) tyX5 tyX5_ok nmX5 hown hK.1 hP hD hS 0 rfl rfl 0 (by decide) (hts (.fieldLink RX5 14 "SchoolRow$School" "digits" "LSchoolRow$Cells;") (by decide +kernel)) (fun _ h9 => h9) rfl hin rfl (by decide +kernel) rfl rfl (Nat.le_of_ble_eq_true rfl) dX5_init_14 (fun H locs hP hD hS => ?_)
  have hP : va_P D vwCl [(h0, .inr (5, [.ref q5, .null, .null, .null, .null, .null, .null, .int 0])), (q5, .inr (0, [.ref (nthL u11 0)])), ((nthL u11 0), .inl (cI, 6, .inl (fun _ => 0)))] H := hP
  have hD : va_D A [(h0, .inr (5, [.ref q5, .null, .null, .null, .null, .null, .null, .int 0])), (q5, .inr (0, [.ref (nthL u11 0)])), ((nthL u11 0), .inl (cI, 6, .inl (fun _ => 0)))] := hD
  refine lv_aload_n hx hb dX5_init_17 rfl (lv_at hl 0 rfl) ?_
  have hA3 : 3 ≤ 9 := by decide
  have hB3 : 8 ≤ 14 := by decide
  refine va_new (ci := 0) (fs := [.null]) (C := RX0) (T := TX0) (N := 1) hx hb hts (by decide +kernel) tyX0 tyX0_ok hown (hts (.classLink RX5 9 RX0) (by decide +kernel)) (hts (.instantiable RX0 1) (by decide +kernel)) (hts (.initialized RX0) (by decide +kernel)) hK.1 hP hD hS hA rfl (fun j hj => by rcases (show j = 0 by omega) with rfl <;> rfl) hA3 hB3 dX5_init_18 (fun q18 H hP hD hS => ?_)
  have hP : va_P D vwCl [(h0, .inr (5, [.ref q5, .null, .null, .null, .null, .null, .null, .int 0])), (q5, .inr (0, [.ref (nthL u11 0)])), ((nthL u11 0), .inl (cI, 6, .inl (fun _ => 0))), (q18, .inr (0, [.null]))] H := hP
  have hD : va_D A [(h0, .inr (5, [.ref q5, .null, .null, .null, .null, .null, .null, .int 0])), (q5, .inr (0, [.ref (nthL u11 0)])), ((nthL u11 0), .inl (cI, 6, .inl (fun _ => 0))), (q18, .inr (0, [.null]))] := hD
  refine W.widen (k := 3) (n := 8) (by omega) (by omega) ?_
  refine lv_dup hx hb dX5_init_21 rfl ?_
  refine lv_bipush (v := nI 6) hx hb dX5_init_22 (by decide) ?_
  have hA4 : 3+1 ≤ 9 := by decide
  have hB4 : 8+6 ≤ 14 := by decide
  have hPc := hP.sub (ws' := [(q18, .inr (0, [.null]))]) [3] rfl
  have hDc := hD.sub (ws' := [(q18, .inr (0, [.null]))]) [3] (by decide) rfl
  have hFc := va_free (wc := [(q18, .inr (0, [.null]))]) hD hS hA [3] rfl
  refine va_callv (va_runI (b := q18) (As := [.int (nI 6)]) (rest := [.ref q18, .ref h0]) ⟨hx, hb, hml, hown, hts⟩ (c_X0_init l D cI cB q18 H.size 6 (by omega)) (cwI 1 hts gX5_init_X0_init rfl rfl rfl (hts (.initialized RX0) (by decide +kernel)) (hts (.methodLink RX5 11 yX0_init) (by decide +kernel)) (hts (.instanceMethod yX0_init) (by decide +kernel)) rfl (by decide +kernel) ⟨Nat.le_of_ble_eq_true rfl, Nat.le_of_ble_eq_true rfl⟩) ⟨fun a U g mk q => by obtain ⟨q0, q1, qP, qK, qD⟩ := q; exact ⟨q0, q1, qP, kK.vm (s := U) (U := U.calling g mk a) rfl qK, qD⟩, fun U hU hW => ⟨rfl, by rw [hU], by rw [hU]; exact hPc, kK.warm hW hK, hDc.weaken (fun _ _ _ _ => trivial)⟩⟩ rfl rfl hl.1 rfl (lv_room (Nat.le_of_ble_eq_true rfl)) dX5_init_24 ⟨hA4, hB4⟩) hS (fun q _ h => hFc q h) hFc (fun u24 t H1 locs ht hvm _ hB hz1 hk1 hS => ?_)
  obtain ⟨hP1, hD1⟩ := hB
  rw [ht] at hP1
  obtain ⟨hP, hD⟩ := va_join (wr := [(h0, .inr (5, [.ref q5, .null, .null, .null, .null, .null, .null, .int 0])), (q5, .inr (0, [.ref (nthL u11 0)])), ((nthL u11 0), .inl (cI, 6, .inl (fun _ => 0)))]) (w1 := [(q18, .inr (0, [.ref (nthL u24 0)])), ((nthL u24 0), .inl (cI, 6, .inl (fun _ => 0)))]) hP hD [3] [0, 1, 2] rfl rfl (by decide) (by decide) hk1 hFc hP1 hD1
  generalize H1 = H at hP hS ⊢
  have hP : va_P D vwCl [(h0, .inr (5, [.ref q5, .null, .null, .null, .null, .null, .null, .int 0])), (q5, .inr (0, [.ref (nthL u11 0)])), ((nthL u11 0), .inl (cI, 6, .inl (fun _ => 0))), (q18, .inr (0, [.ref (nthL u24 0)])), ((nthL u24 0), .inl (cI, 6, .inl (fun _ => 0)))] H := hP
  have hD : va_D A [(h0, .inr (5, [.ref q5, .null, .null, .null, .null, .null, .null, .int 0])), (q5, .inr (0, [.ref (nthL u11 0)])), ((nthL u11 0), .inl (cI, 6, .inl (fun _ => 0))), (q18, .inr (0, [.ref (nthL u24 0)])), ((nthL u24 0), .inl (cI, 6, .inl (fun _ => 0)))] := hD
  refine W.widen (k := 4) (n := 14) (by omega) (by omega) ?_
  refine va_putF (D := D) (ci := 5) (v := .ref q18) (ty := .object "SchoolRow$Cells") (C := RX5) (T := TX5) (N := 8) hx hb hts (by decide +kernel) tyX5 tyX5_ok nmX5 hown hK.1 hP hD hS 0 rfl rfl 1 (by decide) (hts (.fieldLink RX5 20 "SchoolRow$School" "kindNumbers" "LSchoolRow$Cells;") (by decide +kernel)) (fun _ h9 => h9) rfl hin rfl (by decide +kernel) rfl rfl (Nat.le_of_ble_eq_true rfl) dX5_init_27 (fun H locs hP hD hS => ?_)
  have hP : va_P D vwCl [(h0, .inr (5, [.ref q5, .ref q18, .null, .null, .null, .null, .null, .int 0])), (q5, .inr (0, [.ref (nthL u11 0)])), ((nthL u11 0), .inl (cI, 6, .inl (fun _ => 0))), (q18, .inr (0, [.ref (nthL u24 0)])), ((nthL u24 0), .inl (cI, 6, .inl (fun _ => 0)))] H := hP
  have hD : va_D A [(h0, .inr (5, [.ref q5, .ref q18, .null, .null, .null, .null, .null, .int 0])), (q5, .inr (0, [.ref (nthL u11 0)])), ((nthL u11 0), .inl (cI, 6, .inl (fun _ => 0))), (q18, .inr (0, [.ref (nthL u24 0)])), ((nthL u24 0), .inl (cI, 6, .inl (fun _ => 0)))] := hD
  refine lv_aload_n hx hb dX5_init_30 rfl (lv_at hl 0 rfl) ?_
  have hA5 : 5 ≤ 9 := by decide
  have hB5 : 14 ≤ 14 := by decide
  refine va_new (ci := 1) (fs := []) (C := RX1) (T := TX1) (N := 0) hx hb hts (by decide +kernel) tyX1 tyX1_ok hown (hts (.classLink RX5 23 RX1) (by decide +kernel)) (hts (.instantiable RX1 0) (by decide +kernel)) (hts (.initialized RX1) (by decide +kernel)) hK.1 hP hD hS hA rfl (fun j hj => absurd hj (by omega)) hA5 hB5 dX5_init_31 (fun q31 H hP hD hS => ?_)
  have hP : va_P D vwCl [(h0, .inr (5, [.ref q5, .ref q18, .null, .null, .null, .null, .null, .int 0])), (q5, .inr (0, [.ref (nthL u11 0)])), ((nthL u11 0), .inl (cI, 6, .inl (fun _ => 0))), (q18, .inr (0, [.ref (nthL u24 0)])), ((nthL u24 0), .inl (cI, 6, .inl (fun _ => 0))), (q31, .inr (1, []))] H := hP
  have hD : va_D A [(h0, .inr (5, [.ref q5, .ref q18, .null, .null, .null, .null, .null, .int 0])), (q5, .inr (0, [.ref (nthL u11 0)])), ((nthL u11 0), .inl (cI, 6, .inl (fun _ => 0))), (q18, .inr (0, [.ref (nthL u24 0)])), ((nthL u24 0), .inl (cI, 6, .inl (fun _ => 0))), (q31, .inr (1, []))] := hD
  refine W.widen (k := 5) (n := 14) (by omega) (by omega) ?_
  refine lv_dup hx hb dX5_init_34 rfl ?_
  have hA6 : 5+0 ≤ 9 := by decide
  have hB6 : 14+0 ≤ 14 := by decide
  have hPc := hP.sub (ws' := []) [] rfl
  have hDc := hD.sub (ws' := []) [] (by decide) rfl
  have hFc := va_free (wc := []) hD hS hA [] rfl
  refine va_callv (va_runIN (b := q31) (As := []) (rest := [.ref q31, .ref h0]) ⟨hx, hb, hml, hown, hts⟩ (c_X1_init l D cI cB q31 H.size) ⟨va_cnB 0 hts gX5_init_X1_init_n25 rfl rfl rfl (hK.2.nX5_25) (hts (.initialized RX1) (by decide +kernel)) (by decide +kernel) ⟨Nat.le_of_ble_eq_true rfl, Nat.le_of_ble_eq_true rfl⟩, rfl, hts (.instanceMethod yX1_init) (by decide +kernel)⟩ ⟨fun a U g mk q => by obtain ⟨q0, q1, qP, qK, qD⟩ := q; exact ⟨q0, q1, qP, kK.vm (s := U) (U := U.calling g mk a) rfl qK, qD⟩, fun U hU hW => ⟨rfl, by rw [hU], by rw [hU]; exact hPc, kK.warm hW hK, hDc.weaken (fun _ _ _ _ => trivial)⟩⟩ rfl rfl hl.1 rfl (lv_room (Nat.le_of_ble_eq_true rfl)) dX5_init_35 ⟨hA6, hB6⟩) hS (fun q _ h => hFc q h) hFc (fun u35 t H1 locs ht hvm _ hB hz1 hk1 hS => ?_)
  obtain ⟨hP1, hD1⟩ := hB
  rw [ht] at hP1
  obtain ⟨hP, hD⟩ := va_join (wr := [(h0, .inr (5, [.ref q5, .ref q18, .null, .null, .null, .null, .null, .int 0])), (q5, .inr (0, [.ref (nthL u11 0)])), ((nthL u11 0), .inl (cI, 6, .inl (fun _ => 0))), (q18, .inr (0, [.ref (nthL u24 0)])), ((nthL u24 0), .inl (cI, 6, .inl (fun _ => 0))), (q31, .inr (1, []))]) (w1 := []) hP hD [] [0, 1, 2, 3, 4, 5] rfl rfl (by decide) (by decide) hk1 hFc hP1 hD1
  generalize H1 = H at hP hS ⊢
  have hP : va_P D vwCl [(h0, .inr (5, [.ref q5, .ref q18, .null, .null, .null, .null, .null, .int 0])), (q5, .inr (0, [.ref (nthL u11 0)])), ((nthL u11 0), .inl (cI, 6, .inl (fun _ => 0))), (q18, .inr (0, [.ref (nthL u24 0)])), ((nthL u24 0), .inl (cI, 6, .inl (fun _ => 0))), (q31, .inr (1, []))] H := hP
  have hD : va_D A [(h0, .inr (5, [.ref q5, .ref q18, .null, .null, .null, .null, .null, .int 0])), (q5, .inr (0, [.ref (nthL u11 0)])), ((nthL u11 0), .inl (cI, 6, .inl (fun _ => 0))), (q18, .inr (0, [.ref (nthL u24 0)])), ((nthL u24 0), .inl (cI, 6, .inl (fun _ => 0))), (q31, .inr (1, []))] := hD
  refine W.widen (k := 5) (n := 14) (by omega) (by omega) ?_
  refine va_putF (D := D) (ci := 5) (v := .ref q31) (ty := .object "SchoolRow$Child") (C := RX5) (T := TX5) (N := 8) hx hb hts (by decide +kernel) tyX5 tyX5_ok nmX5 hown hK.1 hP hD hS 0 rfl rfl 2 (by decide) (hts (.fieldLink RX5 26 "SchoolRow$School" "plainChild" "LSchoolRow$Child;") (by decide +kernel)) (fun _ h9 => h9) rfl hin rfl (by decide +kernel) rfl rfl (Nat.le_of_ble_eq_true rfl) dX5_init_38 (fun H locs hP hD hS => ?_)
  have hP : va_P D vwCl [(h0, .inr (5, [.ref q5, .ref q18, .ref q31, .null, .null, .null, .null, .int 0])), (q5, .inr (0, [.ref (nthL u11 0)])), ((nthL u11 0), .inl (cI, 6, .inl (fun _ => 0))), (q18, .inr (0, [.ref (nthL u24 0)])), ((nthL u24 0), .inl (cI, 6, .inl (fun _ => 0))), (q31, .inr (1, []))] H := hP
  have hD : va_D A [(h0, .inr (5, [.ref q5, .ref q18, .ref q31, .null, .null, .null, .null, .int 0])), (q5, .inr (0, [.ref (nthL u11 0)])), ((nthL u11 0), .inl (cI, 6, .inl (fun _ => 0))), (q18, .inr (0, [.ref (nthL u24 0)])), ((nthL u24 0), .inl (cI, 6, .inl (fun _ => 0))), (q31, .inr (1, []))] := hD
  refine lv_aload_n hx hb dX5_init_41 rfl (lv_at hl 0 rfl) ?_
  have hA7 : 6 ≤ 9 := by decide
  have hB7 : 14 ≤ 14 := by decide
  refine va_new (ci := 8) (fs := []) (C := RX8) (T := TX8) (N := 0) hx hb hts (by decide +kernel) tyX8 tyX8_ok hown (hts (.classLink RX5 30 RX8) (by decide +kernel)) (hts (.instantiable RX8 0) (by decide +kernel)) (hts (.initialized RX8) (by decide +kernel)) hK.1 hP hD hS hA rfl (fun j hj => absurd hj (by omega)) hA7 hB7 dX5_init_42 (fun q42 H hP hD hS => ?_)
  have hP : va_P D vwCl [(h0, .inr (5, [.ref q5, .ref q18, .ref q31, .null, .null, .null, .null, .int 0])), (q5, .inr (0, [.ref (nthL u11 0)])), ((nthL u11 0), .inl (cI, 6, .inl (fun _ => 0))), (q18, .inr (0, [.ref (nthL u24 0)])), ((nthL u24 0), .inl (cI, 6, .inl (fun _ => 0))), (q31, .inr (1, [])), (q42, .inr (8, []))] H := hP
  have hD : va_D A [(h0, .inr (5, [.ref q5, .ref q18, .ref q31, .null, .null, .null, .null, .int 0])), (q5, .inr (0, [.ref (nthL u11 0)])), ((nthL u11 0), .inl (cI, 6, .inl (fun _ => 0))), (q18, .inr (0, [.ref (nthL u24 0)])), ((nthL u24 0), .inl (cI, 6, .inl (fun _ => 0))), (q31, .inr (1, [])), (q42, .inr (8, []))] := hD
  refine W.widen (k := 6) (n := 14) (by omega) (by omega) ?_
  refine lv_dup hx hb dX5_init_45 rfl ?_
  have hA8 : 6+0 ≤ 9 := by decide
  have hB8 : 14+0 ≤ 14 := by decide
  have hPc := hP.sub (ws' := []) [] rfl
  have hDc := hD.sub (ws' := []) [] (by decide) rfl
  have hFc := va_free (wc := []) hD hS hA [] rfl
  refine va_callv (va_runIN (b := q42) (As := []) (rest := [.ref q42, .ref h0]) ⟨hx, hb, hml, hown, hts⟩ (c_X8_init l D cI cB q42 H.size) ⟨va_cnB 0 hts gX5_init_X8_init_n32 rfl rfl rfl (hK.2.nX5_32) (hts (.initialized RX8) (by decide +kernel)) (by decide +kernel) ⟨Nat.le_of_ble_eq_true rfl, Nat.le_of_ble_eq_true rfl⟩, rfl, hts (.instanceMethod yX8_init) (by decide +kernel)⟩ ⟨fun a U g mk q => by obtain ⟨q0, q1, qP, qK, qD⟩ := q; exact ⟨q0, q1, qP, kK.vm (s := U) (U := U.calling g mk a) rfl qK, qD⟩, fun U hU hW => ⟨rfl, by rw [hU], by rw [hU]; exact hPc, kK.warm hW hK, hDc.weaken (fun _ _ _ _ => trivial)⟩⟩ rfl rfl hl.1 rfl (lv_room (Nat.le_of_ble_eq_true rfl)) dX5_init_46 ⟨hA8, hB8⟩) hS (fun q _ h => hFc q h) hFc (fun u46 t H1 locs ht hvm _ hB hz1 hk1 hS => ?_)
  obtain ⟨hP1, hD1⟩ := hB
  rw [ht] at hP1
  obtain ⟨hP, hD⟩ := va_join (wr := [(h0, .inr (5, [.ref q5, .ref q18, .ref q31, .null, .null, .null, .null, .int 0])), (q5, .inr (0, [.ref (nthL u11 0)])), ((nthL u11 0), .inl (cI, 6, .inl (fun _ => 0))), (q18, .inr (0, [.ref (nthL u24 0)])), ((nthL u24 0), .inl (cI, 6, .inl (fun _ => 0))), (q31, .inr (1, [])), (q42, .inr (8, []))]) (w1 := []) hP hD [] [0, 1, 2, 3, 4, 5, 6] rfl rfl (by decide) (by decide) hk1 hFc hP1 hD1
  generalize H1 = H at hP hS ⊢
  have hP : va_P D vwCl [(h0, .inr (5, [.ref q5, .ref q18, .ref q31, .null, .null, .null, .null, .int 0])), (q5, .inr (0, [.ref (nthL u11 0)])), ((nthL u11 0), .inl (cI, 6, .inl (fun _ => 0))), (q18, .inr (0, [.ref (nthL u24 0)])), ((nthL u24 0), .inl (cI, 6, .inl (fun _ => 0))), (q31, .inr (1, [])), (q42, .inr (8, []))] H := hP
  have hD : va_D A [(h0, .inr (5, [.ref q5, .ref q18, .ref q31, .null, .null, .null, .null, .int 0])), (q5, .inr (0, [.ref (nthL u11 0)])), ((nthL u11 0), .inl (cI, 6, .inl (fun _ => 0))), (q18, .inr (0, [.ref (nthL u24 0)])), ((nthL u24 0), .inl (cI, 6, .inl (fun _ => 0))), (q31, .inr (1, [])), (q42, .inr (8, []))] := hD
  refine W.widen (k := 6) (n := 14) (by omega) (by omega) ?_
  refine va_putF (D := D) (ci := 5) (v := .ref q42) (ty := .object "SchoolRow$Child") (C := RX5) (T := TX5) (N := 8) hx hb hts (by decide +kernel) tyX5 tyX5_ok nmX5 hown hK.1 hP hD hS 0 rfl rfl 3 (by decide) (hts (.fieldLink RX5 33 "SchoolRow$School" "sister" "LSchoolRow$Child;") (by decide +kernel)) (fun _ h9 => h9) rfl hin rfl (by decide +kernel) rfl rfl (Nat.le_of_ble_eq_true rfl) dX5_init_49 (fun H locs hP hD hS => ?_)
  have hP : va_P D vwCl [(h0, .inr (5, [.ref q5, .ref q18, .ref q31, .ref q42, .null, .null, .null, .int 0])), (q5, .inr (0, [.ref (nthL u11 0)])), ((nthL u11 0), .inl (cI, 6, .inl (fun _ => 0))), (q18, .inr (0, [.ref (nthL u24 0)])), ((nthL u24 0), .inl (cI, 6, .inl (fun _ => 0))), (q31, .inr (1, [])), (q42, .inr (8, []))] H := hP
  have hD : va_D A [(h0, .inr (5, [.ref q5, .ref q18, .ref q31, .ref q42, .null, .null, .null, .int 0])), (q5, .inr (0, [.ref (nthL u11 0)])), ((nthL u11 0), .inl (cI, 6, .inl (fun _ => 0))), (q18, .inr (0, [.ref (nthL u24 0)])), ((nthL u24 0), .inl (cI, 6, .inl (fun _ => 0))), (q31, .inr (1, [])), (q42, .inr (8, []))] := hD
  refine lv_aload_n hx hb dX5_init_52 rfl (lv_at hl 0 rfl) ?_
  have hA9 : 7 ≤ 9 := by decide
  have hB9 : 14 ≤ 14 := by decide
  refine va_new (ci := 2) (fs := []) (C := RX2) (T := TX2) (N := 0) hx hb hts (by decide +kernel) tyX2 tyX2_ok hown (hts (.classLink RX5 36 RX2) (by decide +kernel)) (hts (.instantiable RX2 0) (by decide +kernel)) (hts (.initialized RX2) (by decide +kernel)) hK.1 hP hD hS hA rfl (fun j hj => absurd hj (by omega)) hA9 hB9 dX5_init_53 (fun q53 H hP hD hS => ?_)
  have hP : va_P D vwCl [(h0, .inr (5, [.ref q5, .ref q18, .ref q31, .ref q42, .null, .null, .null, .int 0])), (q5, .inr (0, [.ref (nthL u11 0)])), ((nthL u11 0), .inl (cI, 6, .inl (fun _ => 0))), (q18, .inr (0, [.ref (nthL u24 0)])), ((nthL u24 0), .inl (cI, 6, .inl (fun _ => 0))), (q31, .inr (1, [])), (q42, .inr (8, [])), (q53, .inr (2, []))] H := hP
  have hD : va_D A [(h0, .inr (5, [.ref q5, .ref q18, .ref q31, .ref q42, .null, .null, .null, .int 0])), (q5, .inr (0, [.ref (nthL u11 0)])), ((nthL u11 0), .inl (cI, 6, .inl (fun _ => 0))), (q18, .inr (0, [.ref (nthL u24 0)])), ((nthL u24 0), .inl (cI, 6, .inl (fun _ => 0))), (q31, .inr (1, [])), (q42, .inr (8, [])), (q53, .inr (2, []))] := hD
  refine W.widen (k := 7) (n := 14) (by omega) (by omega) ?_
  refine lv_dup hx hb dX5_init_56 rfl ?_
  have hA10 : 7+0 ≤ 9 := by decide
  have hB10 : 14+0 ≤ 14 := by decide
  have hPc := hP.sub (ws' := []) [] rfl
  have hDc := hD.sub (ws' := []) [] (by decide) rfl
  have hFc := va_free (wc := []) hD hS hA [] rfl
  refine va_callv (va_runIN (b := q53) (As := []) (rest := [.ref q53, .ref h0]) ⟨hx, hb, hml, hown, hts⟩ (c_X2_init l D cI cB q53 H.size) ⟨va_cnB 0 hts gX5_init_X2_init_n38 rfl rfl rfl (hK.2.nX5_38) (hts (.initialized RX2) (by decide +kernel)) (by decide +kernel) ⟨Nat.le_of_ble_eq_true rfl, Nat.le_of_ble_eq_true rfl⟩, rfl, hts (.instanceMethod yX2_init) (by decide +kernel)⟩ ⟨fun a U g mk q => by obtain ⟨q0, q1, qP, qK, qD⟩ := q; exact ⟨q0, q1, qP, kK.vm (s := U) (U := U.calling g mk a) rfl qK, qD⟩, fun U hU hW => ⟨rfl, by rw [hU], by rw [hU]; exact hPc, kK.warm hW hK, hDc.weaken (fun _ _ _ _ => trivial)⟩⟩ rfl rfl hl.1 rfl (lv_room (Nat.le_of_ble_eq_true rfl)) dX5_init_57 ⟨hA10, hB10⟩) hS (fun q _ h => hFc q h) hFc (fun u57 t H1 locs ht hvm _ hB hz1 hk1 hS => ?_)
  obtain ⟨hP1, hD1⟩ := hB
  rw [ht] at hP1
  obtain ⟨hP, hD⟩ := va_join (wr := [(h0, .inr (5, [.ref q5, .ref q18, .ref q31, .ref q42, .null, .null, .null, .int 0])), (q5, .inr (0, [.ref (nthL u11 0)])), ((nthL u11 0), .inl (cI, 6, .inl (fun _ => 0))), (q18, .inr (0, [.ref (nthL u24 0)])), ((nthL u24 0), .inl (cI, 6, .inl (fun _ => 0))), (q31, .inr (1, [])), (q42, .inr (8, [])), (q53, .inr (2, []))]) (w1 := []) hP hD [] [0, 1, 2, 3, 4, 5, 6, 7] rfl rfl (by decide) (by decide) hk1 hFc hP1 hD1
  generalize H1 = H at hP hS ⊢
  have hP : va_P D vwCl [(h0, .inr (5, [.ref q5, .ref q18, .ref q31, .ref q42, .null, .null, .null, .int 0])), (q5, .inr (0, [.ref (nthL u11 0)])), ((nthL u11 0), .inl (cI, 6, .inl (fun _ => 0))), (q18, .inr (0, [.ref (nthL u24 0)])), ((nthL u24 0), .inl (cI, 6, .inl (fun _ => 0))), (q31, .inr (1, [])), (q42, .inr (8, [])), (q53, .inr (2, []))] H := hP
  have hD : va_D A [(h0, .inr (5, [.ref q5, .ref q18, .ref q31, .ref q42, .null, .null, .null, .int 0])), (q5, .inr (0, [.ref (nthL u11 0)])), ((nthL u11 0), .inl (cI, 6, .inl (fun _ => 0))), (q18, .inr (0, [.ref (nthL u24 0)])), ((nthL u24 0), .inl (cI, 6, .inl (fun _ => 0))), (q31, .inr (1, [])), (q42, .inr (8, [])), (q53, .inr (2, []))] := hD
  refine W.widen (k := 7) (n := 14) (by omega) (by omega) ?_
  refine va_putF (D := D) (ci := 5) (v := .ref q53) (ty := .object "SchoolRow$Child") (C := RX5) (T := TX5) (N := 8) hx hb hts (by decide +kernel) tyX5 tyX5_ok nmX5 hown hK.1 hP hD hS 0 rfl rfl 4 (by decide) (hts (.fieldLink RX5 39 "SchoolRow$School" "doubter" "LSchoolRow$Child;") (by decide +kernel)) (fun _ h9 => h9) rfl hin rfl (by decide +kernel) rfl rfl (Nat.le_of_ble_eq_true rfl) dX5_init_60 (fun H locs hP hD hS => ?_)
  have hP : va_P D vwCl [(h0, .inr (5, [.ref q5, .ref q18, .ref q31, .ref q42, .ref q53, .null, .null, .int 0])), (q5, .inr (0, [.ref (nthL u11 0)])), ((nthL u11 0), .inl (cI, 6, .inl (fun _ => 0))), (q18, .inr (0, [.ref (nthL u24 0)])), ((nthL u24 0), .inl (cI, 6, .inl (fun _ => 0))), (q31, .inr (1, [])), (q42, .inr (8, [])), (q53, .inr (2, []))] H := hP
  have hD : va_D A [(h0, .inr (5, [.ref q5, .ref q18, .ref q31, .ref q42, .ref q53, .null, .null, .int 0])), (q5, .inr (0, [.ref (nthL u11 0)])), ((nthL u11 0), .inl (cI, 6, .inl (fun _ => 0))), (q18, .inr (0, [.ref (nthL u24 0)])), ((nthL u24 0), .inl (cI, 6, .inl (fun _ => 0))), (q31, .inr (1, [])), (q42, .inr (8, [])), (q53, .inr (2, []))] := hD
  refine lv_aload_n hx hb dX5_init_63 rfl (lv_at hl 0 rfl) ?_
  have hA11 : 8 ≤ 9 := by decide
  have hB11 : 14 ≤ 14 := by decide
  refine va_new (ci := 7) (fs := []) (C := RX7) (T := TX7) (N := 0) hx hb hts (by decide +kernel) tyX7 tyX7_ok hown (hts (.classLink RX5 42 RX7) (by decide +kernel)) (hts (.instantiable RX7 0) (by decide +kernel)) (hts (.initialized RX7) (by decide +kernel)) hK.1 hP hD hS hA rfl (fun j hj => absurd hj (by omega)) hA11 hB11 dX5_init_64 (fun q64 H hP hD hS => ?_)
  have hP : va_P D vwCl [(h0, .inr (5, [.ref q5, .ref q18, .ref q31, .ref q42, .ref q53, .null, .null, .int 0])), (q5, .inr (0, [.ref (nthL u11 0)])), ((nthL u11 0), .inl (cI, 6, .inl (fun _ => 0))), (q18, .inr (0, [.ref (nthL u24 0)])), ((nthL u24 0), .inl (cI, 6, .inl (fun _ => 0))), (q31, .inr (1, [])), (q42, .inr (8, [])), (q53, .inr (2, [])), (q64, .inr (7, []))] H := hP
  have hD : va_D A [(h0, .inr (5, [.ref q5, .ref q18, .ref q31, .ref q42, .ref q53, .null, .null, .int 0])), (q5, .inr (0, [.ref (nthL u11 0)])), ((nthL u11 0), .inl (cI, 6, .inl (fun _ => 0))), (q18, .inr (0, [.ref (nthL u24 0)])), ((nthL u24 0), .inl (cI, 6, .inl (fun _ => 0))), (q31, .inr (1, [])), (q42, .inr (8, [])), (q53, .inr (2, [])), (q64, .inr (7, []))] := hD
  refine W.widen (k := 8) (n := 14) (by omega) (by omega) ?_
  refine lv_dup hx hb dX5_init_67 rfl ?_
  have hA12 : 8+0 ≤ 9 := by decide
  have hB12 : 14+0 ≤ 14 := by decide
  have hPc := hP.sub (ws' := []) [] rfl
  have hDc := hD.sub (ws' := []) [] (by decide) rfl
  have hFc := va_free (wc := []) hD hS hA [] rfl
  refine va_callv (va_runIN (b := q64) (As := []) (rest := [.ref q64, .ref h0]) ⟨hx, hb, hml, hown, hts⟩ (c_X7_init l D cI cB q64 H.size) ⟨va_cnB 0 hts gX5_init_X7_init_n44 rfl rfl rfl (hK.2.nX5_44) (hts (.initialized RX7) (by decide +kernel)) (by decide +kernel) ⟨Nat.le_of_ble_eq_true rfl, Nat.le_of_ble_eq_true rfl⟩, rfl, hts (.instanceMethod yX7_init) (by decide +kernel)⟩ ⟨fun a U g mk q => by obtain ⟨q0, q1, qP, qK, qD⟩ := q; exact ⟨q0, q1, qP, kK.vm (s := U) (U := U.calling g mk a) rfl qK, qD⟩, fun U hU hW => ⟨rfl, by rw [hU], by rw [hU]; exact hPc, kK.warm hW hK, hDc.weaken (fun _ _ _ _ => trivial)⟩⟩ rfl rfl hl.1 rfl (lv_room (Nat.le_of_ble_eq_true rfl)) dX5_init_68 ⟨hA12, hB12⟩) hS (fun q _ h => hFc q h) hFc (fun u68 t H1 locs ht hvm _ hB hz1 hk1 hS => ?_)
  obtain ⟨hP1, hD1⟩ := hB
  rw [ht] at hP1
  obtain ⟨hP, hD⟩ := va_join (wr := [(h0, .inr (5, [.ref q5, .ref q18, .ref q31, .ref q42, .ref q53, .null, .null, .int 0])), (q5, .inr (0, [.ref (nthL u11 0)])), ((nthL u11 0), .inl (cI, 6, .inl (fun _ => 0))), (q18, .inr (0, [.ref (nthL u24 0)])), ((nthL u24 0), .inl (cI, 6, .inl (fun _ => 0))), (q31, .inr (1, [])), (q42, .inr (8, [])), (q53, .inr (2, [])), (q64, .inr (7, []))]) (w1 := []) hP hD [] [0, 1, 2, 3, 4, 5, 6, 7, 8] rfl rfl (by decide) (by decide) hk1 hFc hP1 hD1
  generalize H1 = H at hP hS ⊢
  have hP : va_P D vwCl [(h0, .inr (5, [.ref q5, .ref q18, .ref q31, .ref q42, .ref q53, .null, .null, .int 0])), (q5, .inr (0, [.ref (nthL u11 0)])), ((nthL u11 0), .inl (cI, 6, .inl (fun _ => 0))), (q18, .inr (0, [.ref (nthL u24 0)])), ((nthL u24 0), .inl (cI, 6, .inl (fun _ => 0))), (q31, .inr (1, [])), (q42, .inr (8, [])), (q53, .inr (2, [])), (q64, .inr (7, []))] H := hP
  have hD : va_D A [(h0, .inr (5, [.ref q5, .ref q18, .ref q31, .ref q42, .ref q53, .null, .null, .int 0])), (q5, .inr (0, [.ref (nthL u11 0)])), ((nthL u11 0), .inl (cI, 6, .inl (fun _ => 0))), (q18, .inr (0, [.ref (nthL u24 0)])), ((nthL u24 0), .inl (cI, 6, .inl (fun _ => 0))), (q31, .inr (1, [])), (q42, .inr (8, [])), (q53, .inr (2, [])), (q64, .inr (7, []))] := hD
  refine W.widen (k := 8) (n := 14) (by omega) (by omega) ?_
  refine va_putF (D := D) (ci := 5) (v := .ref q64) (ty := .object "SchoolRow$Child") (C := RX5) (T := TX5) (N := 8) hx hb hts (by decide +kernel) tyX5 tyX5_ok nmX5 hown hK.1 hP hD hS 0 rfl rfl 5 (by decide) (hts (.fieldLink RX5 45 "SchoolRow$School" "singer" "LSchoolRow$Child;") (by decide +kernel)) (fun _ h9 => h9) rfl hin rfl (by decide +kernel) rfl rfl (Nat.le_of_ble_eq_true rfl) dX5_init_71 (fun H locs hP hD hS => ?_)
  have hP : va_P D vwCl [(h0, .inr (5, [.ref q5, .ref q18, .ref q31, .ref q42, .ref q53, .ref q64, .null, .int 0])), (q5, .inr (0, [.ref (nthL u11 0)])), ((nthL u11 0), .inl (cI, 6, .inl (fun _ => 0))), (q18, .inr (0, [.ref (nthL u24 0)])), ((nthL u24 0), .inl (cI, 6, .inl (fun _ => 0))), (q31, .inr (1, [])), (q42, .inr (8, [])), (q53, .inr (2, [])), (q64, .inr (7, []))] H := hP
  have hD : va_D A [(h0, .inr (5, [.ref q5, .ref q18, .ref q31, .ref q42, .ref q53, .ref q64, .null, .int 0])), (q5, .inr (0, [.ref (nthL u11 0)])), ((nthL u11 0), .inl (cI, 6, .inl (fun _ => 0))), (q18, .inr (0, [.ref (nthL u24 0)])), ((nthL u24 0), .inl (cI, 6, .inl (fun _ => 0))), (q31, .inr (1, [])), (q42, .inr (8, [])), (q53, .inr (2, [])), (q64, .inr (7, []))] := hD
  refine lv_aload_n hx hb dX5_init_74 rfl (lv_at hl 0 rfl) ?_
  have hA13 : 9 ≤ 9 := by decide
  have hB13 : 14 ≤ 14 := by decide
  refine va_new (ci := 6) (fs := []) (C := RX6) (T := TX6) (N := 0) hx hb hts (by decide +kernel) tyX6 tyX6_ok hown (hts (.classLink RX5 48 RX6) (by decide +kernel)) (hts (.instantiable RX6 0) (by decide +kernel)) (hts (.initialized RX6) (by decide +kernel)) hK.1 hP hD hS hA rfl (fun j hj => absurd hj (by omega)) hA13 hB13 dX5_init_75 (fun q75 H hP hD hS => ?_)
  have hP : va_P D vwCl [(h0, .inr (5, [.ref q5, .ref q18, .ref q31, .ref q42, .ref q53, .ref q64, .null, .int 0])), (q5, .inr (0, [.ref (nthL u11 0)])), ((nthL u11 0), .inl (cI, 6, .inl (fun _ => 0))), (q18, .inr (0, [.ref (nthL u24 0)])), ((nthL u24 0), .inl (cI, 6, .inl (fun _ => 0))), (q31, .inr (1, [])), (q42, .inr (8, [])), (q53, .inr (2, [])), (q64, .inr (7, [])), (q75, .inr (6, []))] H := hP
  have hD : va_D A [(h0, .inr (5, [.ref q5, .ref q18, .ref q31, .ref q42, .ref q53, .ref q64, .null, .int 0])), (q5, .inr (0, [.ref (nthL u11 0)])), ((nthL u11 0), .inl (cI, 6, .inl (fun _ => 0))), (q18, .inr (0, [.ref (nthL u24 0)])), ((nthL u24 0), .inl (cI, 6, .inl (fun _ => 0))), (q31, .inr (1, [])), (q42, .inr (8, [])), (q53, .inr (2, [])), (q64, .inr (7, [])), (q75, .inr (6, []))] := hD
  refine W.widen (k := 9) (n := 14) (by omega) (by omega) ?_
  refine lv_dup hx hb dX5_init_78 rfl ?_
  have hA14 : 9+0 ≤ 9 := by decide
  have hB14 : 14+0 ≤ 14 := by decide
  have hPc := hP.sub (ws' := []) [] rfl
  have hDc := hD.sub (ws' := []) [] (by decide) rfl
  have hFc := va_free (wc := []) hD hS hA [] rfl
  refine va_callv (va_runIN (b := q75) (As := []) (rest := [.ref q75, .ref h0]) ⟨hx, hb, hml, hown, hts⟩ (c_X6_init l D cI cB q75 H.size) ⟨va_cnB 0 hts gX5_init_X6_init_n50 rfl rfl rfl (hK.2.nX5_50) (hts (.initialized RX6) (by decide +kernel)) (by decide +kernel) ⟨Nat.le_of_ble_eq_true rfl, Nat.le_of_ble_eq_true rfl⟩, rfl, hts (.instanceMethod yX6_init) (by decide +kernel)⟩ ⟨fun a U g mk q => by obtain ⟨q0, q1, qP, qK, qD⟩ := q; exact ⟨q0, q1, qP, kK.vm (s := U) (U := U.calling g mk a) rfl qK, qD⟩, fun U hU hW => ⟨rfl, by rw [hU], by rw [hU]; exact hPc, kK.warm hW hK, hDc.weaken (fun _ _ _ _ => trivial)⟩⟩ rfl rfl hl.1 rfl (lv_room (Nat.le_of_ble_eq_true rfl)) dX5_init_79 ⟨hA14, hB14⟩) hS (fun q _ h => hFc q h) hFc (fun u79 t H1 locs ht hvm _ hB hz1 hk1 hS => ?_)
  obtain ⟨hP1, hD1⟩ := hB
  rw [ht] at hP1
  obtain ⟨hP, hD⟩ := va_join (wr := [(h0, .inr (5, [.ref q5, .ref q18, .ref q31, .ref q42, .ref q53, .ref q64, .null, .int 0])), (q5, .inr (0, [.ref (nthL u11 0)])), ((nthL u11 0), .inl (cI, 6, .inl (fun _ => 0))), (q18, .inr (0, [.ref (nthL u24 0)])), ((nthL u24 0), .inl (cI, 6, .inl (fun _ => 0))), (q31, .inr (1, [])), (q42, .inr (8, [])), (q53, .inr (2, [])), (q64, .inr (7, [])), (q75, .inr (6, []))]) (w1 := []) hP hD [] [0, 1, 2, 3, 4, 5, 6, 7, 8, 9] rfl rfl (by decide) (by decide) hk1 hFc hP1 hD1
  generalize H1 = H at hP hS ⊢
  have hP : va_P D vwCl [(h0, .inr (5, [.ref q5, .ref q18, .ref q31, .ref q42, .ref q53, .ref q64, .null, .int 0])), (q5, .inr (0, [.ref (nthL u11 0)])), ((nthL u11 0), .inl (cI, 6, .inl (fun _ => 0))), (q18, .inr (0, [.ref (nthL u24 0)])), ((nthL u24 0), .inl (cI, 6, .inl (fun _ => 0))), (q31, .inr (1, [])), (q42, .inr (8, [])), (q53, .inr (2, [])), (q64, .inr (7, [])), (q75, .inr (6, []))] H := hP
  have hD : va_D A [(h0, .inr (5, [.ref q5, .ref q18, .ref q31, .ref q42, .ref q53, .ref q64, .null, .int 0])), (q5, .inr (0, [.ref (nthL u11 0)])), ((nthL u11 0), .inl (cI, 6, .inl (fun _ => 0))), (q18, .inr (0, [.ref (nthL u24 0)])), ((nthL u24 0), .inl (cI, 6, .inl (fun _ => 0))), (q31, .inr (1, [])), (q42, .inr (8, [])), (q53, .inr (2, [])), (q64, .inr (7, [])), (q75, .inr (6, []))] := hD
  refine W.widen (k := 9) (n := 14) (by omega) (by omega) ?_
  refine va_putF (D := D) (ci := 5) (v := .ref q75) (ty := .object "SchoolRow$Child") (C := RX5) (T := TX5) (N := 8) hx hb hts (by decide +kernel) tyX5 tyX5_ok nmX5 hown hK.1 hP hD hS 0 rfl rfl 6 (by decide) (hts (.fieldLink RX5 51 "SchoolRow$School" "shouter" "LSchoolRow$Child;") (by decide +kernel)) (fun _ h9 => h9) rfl hin rfl (by decide +kernel) rfl rfl (Nat.le_of_ble_eq_true rfl) dX5_init_82 (fun H locs hP hD hS => ?_)
  have hP : va_P D vwCl [(h0, .inr (5, [.ref q5, .ref q18, .ref q31, .ref q42, .ref q53, .ref q64, .ref q75, .int 0])), (q5, .inr (0, [.ref (nthL u11 0)])), ((nthL u11 0), .inl (cI, 6, .inl (fun _ => 0))), (q18, .inr (0, [.ref (nthL u24 0)])), ((nthL u24 0), .inl (cI, 6, .inl (fun _ => 0))), (q31, .inr (1, [])), (q42, .inr (8, [])), (q53, .inr (2, [])), (q64, .inr (7, [])), (q75, .inr (6, []))] H := hP
  have hD : va_D A [(h0, .inr (5, [.ref q5, .ref q18, .ref q31, .ref q42, .ref q53, .ref q64, .ref q75, .int 0])), (q5, .inr (0, [.ref (nthL u11 0)])), ((nthL u11 0), .inl (cI, 6, .inl (fun _ => 0))), (q18, .inr (0, [.ref (nthL u24 0)])), ((nthL u24 0), .inl (cI, 6, .inl (fun _ => 0))), (q31, .inr (1, [])), (q42, .inr (8, [])), (q53, .inr (2, [])), (q64, .inr (7, [])), (q75, .inr (6, []))] := hD
  exact W.vret hx hb hr (fun t ht hW => ⟨⟨[q5, (nthL u11 0), q18, (nthL u24 0), q31, q42, q53, q64, q75], rfl, trivial, by rw [ht]; exact hP, hD⟩, hS.F ht⟩) hS.2.2 dX5_init_85
