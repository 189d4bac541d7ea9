/-! THE CONSTRUCTORS (gen_init.py) -/
def nthL : List Nat → Nat → Nat
  | [], _ => 0
  | a :: _, 0 => a
  | _ :: l, k + 1 => nthL l k
/-- the private constructors, reached by nest mates -/
def o_Nn (U : State) : Prop := va_Nw (.methodLinkNest RX2 1 yX1_init "SchoolRow") U ∧ va_Nw (.methodLinkNest RX5 25 yX1_init "SchoolRow") U ∧ va_Nw (.methodLinkNest RX5 32 yX8_init "SchoolRow") U ∧ va_Nw (.methodLinkNest RX5 38 yX2_init "SchoolRow") U ∧ va_Nw (.methodLinkNest RX5 44 yX7_init "SchoolRow") U ∧ va_Nw (.methodLinkNest RX5 50 yX6_init "SchoolRow") U ∧ va_Nw (.methodLinkNest RX6 1 yX7_init "SchoolRow") U ∧ va_Nw (.methodLinkNest RX7 1 yX1_init "SchoolRow") U ∧ va_Nw (.methodLinkNest RX8 1 yX1_init "SchoolRow") U ∧ va_Nw (.methodLinkNest RX9 11 yX3_init "SchoolRow") U ∧ va_Nw (.methodLinkNest RX9 18 yX5_init "SchoolRow") U
theorem o_Nn.nX2_1 {U : State} (h : o_Nn U) : va_Nw (.methodLinkNest RX2 1 yX1_init "SchoolRow") U := h.1
theorem o_Nn.nX5_25 {U : State} (h : o_Nn U) : va_Nw (.methodLinkNest RX5 25 yX1_init "SchoolRow") U := h.2.1
theorem o_Nn.nX5_32 {U : State} (h : o_Nn U) : va_Nw (.methodLinkNest RX5 32 yX8_init "SchoolRow") U := h.2.2.1
theorem o_Nn.nX5_38 {U : State} (h : o_Nn U) : va_Nw (.methodLinkNest RX5 38 yX2_init "SchoolRow") U := h.2.2.2.1
theorem o_Nn.nX5_44 {U : State} (h : o_Nn U) : va_Nw (.methodLinkNest RX5 44 yX7_init "SchoolRow") U := h.2.2.2.2.1
theorem o_Nn.nX5_50 {U : State} (h : o_Nn U) : va_Nw (.methodLinkNest RX5 50 yX6_init "SchoolRow") U := h.2.2.2.2.2.1
theorem o_Nn.nX6_1 {U : State} (h : o_Nn U) : va_Nw (.methodLinkNest RX6 1 yX7_init "SchoolRow") U := h.2.2.2.2.2.2.1
theorem o_Nn.nX7_1 {U : State} (h : o_Nn U) : va_Nw (.methodLinkNest RX7 1 yX1_init "SchoolRow") U := h.2.2.2.2.2.2.2.1
theorem o_Nn.nX8_1 {U : State} (h : o_Nn U) : va_Nw (.methodLinkNest RX8 1 yX1_init "SchoolRow") U := h.2.2.2.2.2.2.2.2.1
theorem o_Nn.nX9_11 {U : State} (h : o_Nn U) : va_Nw (.methodLinkNest RX9 11 yX3_init "SchoolRow") U := h.2.2.2.2.2.2.2.2.2.1
theorem o_Nn.nX9_18 {U : State} (h : o_Nn U) : va_Nw (.methodLinkNest RX9 18 yX5_init "SchoolRow") U := h.2.2.2.2.2.2.2.2.2.2
def kK (D : va_G) (cI cB : ClassId) (U : State) : Prop := va_K D vwCl [(cI, .int), (cB, .byte)] U ∧ o_Nn U
theorem kK.warm {D : va_G} {cI cB : ClassId} {s U : State} (hW : s.WarmedH U.vm) (h : kK D cI cB s) : kK D cI cB U := ⟨va_K.moved hW.alike h.1, va_Nw.warmM hW h.2.nX2_1, va_Nw.warmM hW h.2.nX5_25, va_Nw.warmM hW h.2.nX5_32, va_Nw.warmM hW h.2.nX5_38, va_Nw.warmM hW h.2.nX5_44, va_Nw.warmM hW h.2.nX5_50, va_Nw.warmM hW h.2.nX6_1, va_Nw.warmM hW h.2.nX7_1, va_Nw.warmM hW h.2.nX8_1, va_Nw.warmM hW h.2.nX9_11, va_Nw.warmM hW h.2.nX9_18⟩
theorem kK.vm {D : va_G} {cI cB : ClassId} {s U : State} (hv : s.vm = U.vm) (h : kK D cI cB s) : kK D cI cB U := ⟨va_K.moved (by rw [hv]; exact Vm.Alike.refl U.vm) h.1, va_Nw.same rfl hv h.2.nX2_1, va_Nw.same rfl hv h.2.nX5_25, va_Nw.same rfl hv h.2.nX5_32, va_Nw.same rfl hv h.2.nX5_38, va_Nw.same rfl hv h.2.nX5_44, va_Nw.same rfl hv h.2.nX5_50, va_Nw.same rfl hv h.2.nX6_1, va_Nw.same rfl hv h.2.nX7_1, va_Nw.same rfl hv h.2.nX8_1, va_Nw.same rfl hv h.2.nX9_11, va_Nw.same rfl hv h.2.nX9_18⟩
abbrev kX0 (cI cB : ClassId) (h0 : Nat) (n : Nat) (u : List Nat) : va_W := [(h0, .inr (0, [.ref (nthL u 0)])), ((nthL u 0), .inl (cI, n, .inl (fun _ => 0)))]
set_option maxHeartbeats 4000000 in
set_option maxRecDepth 100000 in
theorem c_X0_init (l : Launch) (D : va_G) (cI cB : ClassId) (h0 sz : Nat) (n : Nat) (hn48 : n ≤ 48) : Met l yX0_init wsX0_init ({ frames := 1, cells := 1, slots := n, locals := 12 }) (va_Pc [.ref h0, .int (nI n)] (fun U => U.heap.size = sz ∧ va_P D vwCl [(h0, .inr (0, [.null]))] U.heap ∧ kK D cI cB U ∧ va_D (fun _ => True) [(h0, .inr (0, [.null]))])) (va_Qv (fun _ : List Nat => True) (fun u t => va_P D vwCl (kX0 cI cB h0 n u) t.heap ∧ va_D (va_A [(h0, .inr (0, [.null]))] sz) (kX0 cI cB h0 n u)) (va_A [(h0, .inr (0, [.null]))] sz)) 1 n (va_A [(h0, .inr (0, [.null]))] sz) := by
  refine Met.ofW (cc := cX0_init) (maxL := 2) (ret := none) (by decide) rfl ?_
  intro p e s m args below meth c s₁ B hml hv
  obtain ⟨rfl, hsz, hP, hK, hD0⟩ := hv
  have hx := B.exec
  have hb := B.bytes
  have hr := B.returns
  have hts := atoms_spec (ws := wsX0_init) B.pre
  have hown : s.vm.findClass RX0 = some m.cls := findClass_of_methodNamed B.named
  have hlocks := B.notSynchronized
  have hin : meth.name = "<init>" := (name_of_methodNamed B.named B.method).1
  subst hsz
  have hD := hD0.self (sz := s.heap.size)
  generalize hAe : va_A [(h0, .inr (0, [.null]))] s.heap.size = A at hD ⊢
  have hA : ∀ q : Nat, s.heap.size ≤ q → A q := fun q h => by rw [← hAe]; exact Or.inr h
  have hS : va_S A s.heap s.heap [] := va_S.rf
  have hP : va_P D vwCl [(h0, .inr (0, [.null]))] s.heap := hP
  have hl := lv_entry ([.ref h0, .int (nI n)]) (n := 2) (Nat.le_of_ble_eq_true rfl)
  rw [lg_entry_eq]
  generalize (lg_sl ([.ref h0, .int (nI n)]) ++ List.replicate (2 - (lg_sl ([.ref h0, .int (nI n)])).length) Slot.unset).toArray = ls at hl ⊢
  have hl : lv_has ls 2 [(0, .ref h0), (1, .int (nI n))] := hl
  refine lv_aload_n hx hb dX0_init_0 rfl (lv_at hl 0 rfl) ?_
  refine W.objInit hx hb hown (hts (.methodLink RX0 1 objectInit) (by decide +kernel)) (hts (.instanceMethod objectInit) (by decide +kernel)) (hts (.code objectInit ⟨#[0xb1]⟩ 1 none) (by decide +kernel)) rfl (by rw [hml]; exact hl.1) rfl dX0_init_1 (Nat.le_of_ble_eq_true rfl) (Nat.le_of_ble_eq_true rfl) ?_
  refine W.eq (g2 := F0 m 4 ls []) rfl ?_
  refine lv_aload_n hx hb dX0_init_4 rfl (lv_at hl 0 rfl) ?_
  refine lv_iload_n hx hb dX0_init_5 rfl (lv_at hl 1 rfl) ?_
  refine lv_if_ge hx hb dX0_init_6 (show ((6 : Nat) : Int) + 7 = ((13 : Nat) : Int) by decide) (fun _ => ?_) (fun z => absurd (nI_pos' (by omega)) z)
  refine lv_iload_n hx hb dX0_init_13 rfl (lv_at hl 1 rfl) ?_
  have hA1 : 1 ≤ 1 := by decide
  have hB1 : 0 + n ≤ n := by omega
  refine va_newa (atype := .int) (ty := .int) (a0 := (n, .inl (fun _ => 0))) (N' := n) hx hb (hts (.arrayClass .int) (by decide +kernel)) rfl hK.1 hP hD hS hA (fun _ => rfl) (nI_nneg (by omega)) (nI_clamp (by omega)) (show n * 4 ≤ 536870912 by omega) hA1 hB1 dX0_init_14 (fun q14 cA H hKA hP hD hS => ?_)
  obtain rfl : cI = cA := by
    have e1 := (hKA.2 0 (cI, .int) rfl).2
    have e2 := (hKA.2 2 (cA, .int) rfl).2
    exact Option.some.inj (e1.symm.trans e2)
  have hP : va_P D vwCl [(h0, .inr (0, [.null])), (q14, .inl (cI, n, .inl (fun _ => 0)))] H := hP
  have hD : va_D A [(h0, .inr (0, [.null])), (q14, .inl (cI, n, .inl (fun _ => 0)))] := hD
  refine W.widen (k := 1) (n := n) (by omega) (by omega) ?_
  refine va_putF (D := D) (ci := 0) (v := .ref q14) (ty := .array .int) (C := RX0) (T := TX0) (N := 1) hx hb hts (by decide +kernel) tyX0 tyX0_ok nmX0 hown hK.1 hP hD hS 0 rfl rfl 0 (by decide) (hts (.fieldLink RX0 7 "SchoolRow$Cells" "numbers" "[I") (by decide +kernel)) (fun _ h9 => h9) rfl hin rfl (by decide +kernel) rfl rfl (Nat.le_of_ble_eq_true rfl) dX0_init_16 (fun H locs hP hD hS => ?_)
  have hP : va_P D vwCl [(h0, .inr (0, [.ref q14])), (q14, .inl (cI, n, .inl (fun _ => 0)))] H := hP
  have hD : va_D A [(h0, .inr (0, [.ref q14])), (q14, .inl (cI, n, .inl (fun _ => 0)))] := hD
  exact W.vret hx hb hr (fun t ht hW => ⟨⟨[q14], rfl, trivial, by rw [ht]; exact hP, hD⟩, hS.F ht⟩) hS.2.2 dX0_init_19
