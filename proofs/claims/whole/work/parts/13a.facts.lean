/-! THE CLAIM OUT OF ONE WALK OF THE LAW'S BODY. Your part is whole_start (and what it stands on); all else here is the same for every law, but numbers. -/
def R_law : String := "SchoolRowLaw"
def lw_P (b : Addr) (xs : List Int32) (args : Array Value) (s : State) : Prop := args = #[.ref b] ∧ s.IntsAt b xs ∧ xs.length ≤ 256 ∧ (Jvm.Cond.and given_1 narrow_1).before args s = true
def lw_Q (_ : Array Value) (s : State) (o : Outcome) (t : State) : Prop := o = .returned (some (.int 1)) ∧ Framed s o t [] 600000 7302250
def lw_Z (below : List Frame) (a : Array Value) (s : State) : State → Prop := fun t => ∃ o, t.status = .running ∧ Ended t below o ∧ lw_Q a s o t
/-- the law's own end, with 1 on the stack, nothing written that was there before, its room as the claim has it -/
theorem lw_ret {p : Program} {l : Launch} {e : Env} {s : State} {m : MethodId} {below : List Frame} {meth : Method} {c : Code} {b : Nat} (hx : p.tables.exec = Jvm.exec) (hb : c.code = code) (hr : meth.sig.returnType = ret) (hlocks : meth.locks = false) {pc : Nat} {H : Heap} {ls : Array Slot} (hdg : decode code pc = .ok (.ireturn, 1)) : W p l e room_1 s m #[Value.ref b] below meth c H [] 600000 7302250 (lw_Z below #[Value.ref b] s) (F0 m pc ls [.int 1]) := by
  intro T hT X
  obtain ⟨fs, hret, hrun, hended, hW, hframe⟩ := X.leave (v := some (.int 1)) (hlocks := hlocks) (fun h => by rw [hr] at h; cases h)
  have hmeth' : T.vm.method? m = some meth := X.method'
  refine ⟨T.setFrames fs, ?_, .returned (some (.int 1)), hrun, hended, rfl, ⟨_, rfl⟩, hW, hframe⟩
  jvm_step X.here [X.here.top, hx, hb, hdg, hmeth', hr, ret, narrow_b1]
  (try refine ⟨rfl, ?_⟩); (try refine ⟨rfl, ?_⟩)
  first | (intro acts; rw [hret _ acts rfl rfl rfl]) | rw [hret _ _ rfl rfl rfl]
  exact Steps.refl _
/-- what holds at the law's entry: the machine, the code, the tables' words (any of lw_tbl by 'hts w (by decide +kernel)'), the script of L ints xs at the cell b, what the Statement gives of the start (any of its parts by flat_of_before) -/
def lw_At (p : Program) (s : State) (m : MethodId) (meth : Method) (c : Code) (b L : Nat) (xs : Nat → Int32) : Prop :=
  p.tables.exec = Jvm.exec ∧ c.code = code ∧ meth.sig.returnType = ret ∧ c.maxLocals = 4 ∧ s.vm.findClass R_law = some m.cls ∧ (∀ w ∈ lw_tbl, w.before #[Value.ref b] s = true) ∧ va_X b L xs s s.heap ∧ b < s.heap.size ∧ meth.locks = false ∧ (Jvm.Cond.and given_1 narrow_1).before #[Value.ref b] s = true
set_option maxRecDepth 100000 in
theorem li_X0 : ∀ w ∈ u_ws RX0 TX0 1, w ∈ lw_tbl := fun w h => (goodIn_r (big := lw_tbl) (u_ws RX0 TX0 1) [76] (by decide +kernel) (by decide +kernel) w h).1
set_option maxRecDepth 100000 in
theorem li_X1 : ∀ w ∈ u_ws RX1 TX1 0, w ∈ lw_tbl := fun w h => (goodIn_r (big := lw_tbl) (u_ws RX1 TX1 0) [] (by decide +kernel) (by decide +kernel) w h).1
set_option maxRecDepth 100000 in
theorem li_X2 : ∀ w ∈ u_ws RX2 TX2 0, w ∈ lw_tbl := fun w h => (goodIn_r (big := lw_tbl) (u_ws RX2 TX2 0) [] (by decide +kernel) (by decide +kernel) w h).1
set_option maxRecDepth 100000 in
theorem li_X3 : ∀ w ∈ u_ws RX3 TX3 2, w ∈ lw_tbl := fun w h => (goodIn_r (big := lw_tbl) (u_ws RX3 TX3 2) [82, 84] (by decide +kernel) (by decide +kernel) w h).1
set_option maxRecDepth 100000 in
theorem li_X4 : ∀ w ∈ u_ws RX4 TX4 6, w ∈ lw_tbl := fun w h => (goodIn_r (big := lw_tbl) (u_ws RX4 TX4 6) [169, 171, 173, 175, 177, 179] (by decide +kernel) (by decide +kernel) w h).1
set_option maxRecDepth 100000 in
theorem li_X5 : ∀ w ∈ u_ws RX5 TX5 8, w ∈ lw_tbl := fun w h => (goodIn_r (big := lw_tbl) (u_ws RX5 TX5 8) [138, 140, 142, 144, 146, 148, 150, 152] (by decide +kernel) (by decide +kernel) w h).1
set_option maxRecDepth 100000 in
theorem li_X6 : ∀ w ∈ u_ws RX6 TX6 0, w ∈ lw_tbl := fun w h => (goodIn_r (big := lw_tbl) (u_ws RX6 TX6 0) [] (by decide +kernel) (by decide +kernel) w h).1
set_option maxRecDepth 100000 in
theorem li_X7 : ∀ w ∈ u_ws RX7 TX7 0, w ∈ lw_tbl := fun w h => (goodIn_r (big := lw_tbl) (u_ws RX7 TX7 0) [] (by decide +kernel) (by decide +kernel) w h).1
set_option maxRecDepth 100000 in
theorem li_X8 : ∀ w ∈ u_ws RX8 TX8 0, w ∈ lw_tbl := fun w h => (goodIn_r (big := lw_tbl) (u_ws RX8 TX8 0) [] (by decide +kernel) (by decide +kernel) w h).1
set_option maxRecDepth 100000 in
theorem li_X9 : ∀ w ∈ u_ws RX9 TX9 9, w ∈ lw_tbl := fun w h => (goodIn_r (big := lw_tbl) (u_ws RX9 TX9 9) [191, 193, 195, 197, 199, 201, 203, 205, 207] (by decide +kernel) (by decide +kernel) w h).1
set_option maxRecDepth 100000 in
theorem li_X10 : ∀ w ∈ u_ws RX10 TX10 25, w ∈ lw_tbl := fun w h => (goodIn_r (big := lw_tbl) (u_ws RX10 TX10 25) [680, 682, 684, 686, 688, 690, 692, 694, 696, 698, 700, 702, 704, 706, 708, 710, 712, 714, 716, 718, 720, 722, 724, 726, 728] (by decide +kernel) (by decide +kernel) w h).1
theorem lw_arr {ty : FieldType} {args : Array Value} {s : State} (h : (Cond.arrayClass ty).before args s = true) : ∃ cA : ClassId, ArrOfT s cA ty ∧ s.vm.findClass ("[" ++ ty.toString) = some cA := by
  obtain ⟨cA, kA, comp, h1, h2, h3⟩ := Cond.arrayClass_spec h
  exact ⟨cA, fun n z => ⟨fun k h => (by cases h), kA, h2, comp, h3⟩, h1⟩
set_option maxHeartbeats 4000000 in
set_option maxRecDepth 100000 in
theorem lw_facts {b : Nat} {s : State} (hts : ∀ w ∈ lw_tbl, w.before #[Value.ref b] s = true) (hgv : (Jvm.Cond.and given_1 narrow_1).before #[Value.ref b] s = true) : ∃ (D : va_G) (cI cB : ClassId), kK D cI cB s ∧ o_K D cI cB s := by
  obtain ⟨c0, i0, k0⟩ := u_known (C := RX0) (T := TX0) (N := 1) (n := 1) hts li_X0 (hts _ (List.mem_of_getElem? (i := 70) (by decide +kernel) : Cond.instantiable RX0 1 ∈ lw_tbl))
  obtain ⟨c1, i1, k1⟩ := u_known (C := RX1) (T := TX1) (N := 0) (n := 0) hts li_X1 (hts _ (List.mem_of_getElem? (i := 96) (by decide +kernel) : Cond.instantiable RX1 0 ∈ lw_tbl))
  obtain ⟨c2, i2, k2⟩ := u_known (C := RX2) (T := TX2) (N := 0) (n := 0) hts li_X2 (hts _ (List.mem_of_getElem? (i := 110) (by decide +kernel) : Cond.instantiable RX2 0 ∈ lw_tbl))
  obtain ⟨c3, i3, k3⟩ := u_known (C := RX3) (T := TX3) (N := 2) (n := 2) hts li_X3 (hts _ (List.mem_of_getElem? (i := 64) (by decide +kernel) : Cond.instantiable RX3 2 ∈ lw_tbl))
  obtain ⟨c4, i4, k4⟩ := u_known (C := RX4) (T := TX4) (N := 6) (n := 6) hts li_X4 (hts _ (List.mem_of_getElem? (i := 156) (by decide +kernel) : Cond.instantiable RX4 6 ∈ lw_tbl))
  obtain ⟨c5, i5, k5⟩ := u_known (C := RX5) (T := TX5) (N := 8) (n := 8) hts li_X5 (hts _ (List.mem_of_getElem? (i := 88) (by decide +kernel) : Cond.instantiable RX5 8 ∈ lw_tbl))
  obtain ⟨c6, i6, k6⟩ := u_known (C := RX6) (T := TX6) (N := 0) (n := 0) hts li_X6 (hts _ (List.mem_of_getElem? (i := 124) (by decide +kernel) : Cond.instantiable RX6 0 ∈ lw_tbl))
  obtain ⟨c7, i7, k7⟩ := u_known (C := RX7) (T := TX7) (N := 0) (n := 0) hts li_X7 (hts _ (List.mem_of_getElem? (i := 117) (by decide +kernel) : Cond.instantiable RX7 0 ∈ lw_tbl))
  obtain ⟨c8, i8, k8⟩ := u_known (C := RX8) (T := TX8) (N := 0) (n := 0) hts li_X8 (hts _ (List.mem_of_getElem? (i := 103) (by decide +kernel) : Cond.instantiable RX8 0 ∈ lw_tbl))
  obtain ⟨c9, i9, k9⟩ := u_known (C := RX9) (T := TX9) (N := 9) (n := 9) hts li_X9 (hts _ (List.mem_of_getElem? (i := 56) (by decide +kernel) : Cond.instantiable RX9 9 ∈ lw_tbl))
  obtain ⟨c10, i10, k10⟩ := u_known (C := RX10) (T := TX10) (N := 25) (n := 25) hts li_X10 (hts _ (List.mem_of_getElem? (i := 650) (by decide +kernel) : Cond.instantiable RX10 25 ∈ lw_tbl))
  obtain ⟨cI, hI1, hI2⟩ := lw_arr (hts _ (List.mem_of_getElem? (i := 79) (by decide +kernel) : Cond.arrayClass .int ∈ lw_tbl))
  obtain ⟨cB, hB1, hB2⟩ := lw_arr (hts _ (List.mem_of_getElem? (i := 731) (by decide +kernel) : Cond.arrayClass .byte ∈ lw_tbl))
  have hK : va_K ((fun k => [c0, c1, c2, c3, c4, c5, c6, c7, c8, c9, c10].getD k c0, fun k => [i0, i1, i2, i3, i4, i5, i6, i7, i8, i9, i10].getD k i0) : va_G) vwCl [(cI, .int), (cB, .byte)] s := by
    refine ⟨fun k q hq => ?_, fun k q hq => ?_⟩
    · match k, hq with
      | 0, hq => cases hq; exact k0
      | 1, hq => cases hq; exact k1
      | 2, hq => cases hq; exact k2
      | 3, hq => cases hq; exact k3
      | 4, hq => cases hq; exact k4
      | 5, hq => cases hq; exact k5
      | 6, hq => cases hq; exact k6
      | 7, hq => cases hq; exact k7
      | 8, hq => cases hq; exact k8
      | 9, hq => cases hq; exact k9
      | 10, hq => cases hq; exact k10
      | k + 11, hq => simp [vwCl] at hq
    · match k, hq with
      | 0, hq => cases hq; exact ⟨hI1, hI2⟩
      | 1, hq => cases hq; exact ⟨hB1, hB2⟩
      | k + 2, hq => simp at hq
  have hs := flat_of_before _ hgv
  refine ⟨_, cI, cB, ⟨hK, va_Nw.of rfl (hts _ (List.mem_of_getElem? (i := 114) (by decide +kernel) : Cond.methodLinkNest RX2 1 yX1_init "SchoolRow" ∈ lw_tbl)), va_Nw.of rfl (hts _ (List.mem_of_getElem? (i := 97) (by decide +kernel) : Cond.methodLinkNest RX5 25 yX1_init "SchoolRow" ∈ lw_tbl)), va_Nw.of rfl (hts _ (List.mem_of_getElem? (i := 104) (by decide +kernel) : Cond.methodLinkNest RX5 32 yX8_init "SchoolRow" ∈ lw_tbl)), va_Nw.of rfl (hts _ (List.mem_of_getElem? (i := 111) (by decide +kernel) : Cond.methodLinkNest RX5 38 yX2_init "SchoolRow" ∈ lw_tbl)), va_Nw.of rfl (hts _ (List.mem_of_getElem? (i := 118) (by decide +kernel) : Cond.methodLinkNest RX5 44 yX7_init "SchoolRow" ∈ lw_tbl)), va_Nw.of rfl (hts _ (List.mem_of_getElem? (i := 125) (by decide +kernel) : Cond.methodLinkNest RX5 50 yX6_init "SchoolRow" ∈ lw_tbl)), va_Nw.of rfl (hts _ (List.mem_of_getElem? (i := 128) (by decide +kernel) : Cond.methodLinkNest RX6 1 yX7_init "SchoolRow" ∈ lw_tbl)), va_Nw.of rfl (hts _ (List.mem_of_getElem? (i := 121) (by decide +kernel) : Cond.methodLinkNest RX7 1 yX1_init "SchoolRow" ∈ lw_tbl)), va_Nw.of rfl (hts _ (List.mem_of_getElem? (i := 107) (by decide +kernel) : Cond.methodLinkNest RX8 1 yX1_init "SchoolRow" ∈ lw_tbl)), va_Nw.of rfl (hts _ (List.mem_of_getElem? (i := 65) (by decide +kernel) : Cond.methodLinkNest RX9 11 yX3_init "SchoolRow" ∈ lw_tbl)), va_Nw.of rfl (hts _ (List.mem_of_getElem? (i := 89) (by decide +kernel) : Cond.methodLinkNest RX9 18 yX5_init "SchoolRow" ∈ lw_tbl))⟩, ⟨hK, va_Nw.of rfl (hts _ (List.mem_of_getElem? (i := 308) (by decide +kernel) : Cond.methodLinkNest RX4 61 yX9_isIn "SchoolRow" ∈ lw_tbl)), va_Nw.of rfl (hts _ (List.mem_of_getElem? (i := 977) (by decide +kernel) : Cond.castable RX6 RX7 ∈ lw_tbl)), va_Nc.of (hs (Cond.not (.castable RX1 RX2)) (by decide +kernel)), va_Nc.of (hs (Cond.not (.castable RX1 RX6)) (by decide +kernel)), va_Nc.of (hs (Cond.not (.castable RX1 RX7)) (by decide +kernel)), va_Nc.of (hs (Cond.not (.castable RX1 RX8)) (by decide +kernel)), va_Nc.of (hs (Cond.not (.castable RX2 RX6)) (by decide +kernel)), va_Nc.of (hs (Cond.not (.castable RX2 RX7)) (by decide +kernel)), va_Nc.of (hs (Cond.not (.castable RX2 RX8)) (by decide +kernel)), va_Nc.of (hs (Cond.not (.castable RX6 RX2)) (by decide +kernel)), va_Nc.of (hs (Cond.not (.castable RX6 RX8)) (by decide +kernel)), va_Nc.of (hs (Cond.not (.castable RX7 RX2)) (by decide +kernel)), va_Nc.of (hs (Cond.not (.castable RX7 RX6)) (by decide +kernel)), va_Nc.of (hs (Cond.not (.castable RX7 RX8)) (by decide +kernel)), va_Nc.of (hs (Cond.not (.castable RX8 RX2)) (by decide +kernel)), va_Nc.of (hs (Cond.not (.castable RX8 RX6)) (by decide +kernel)), va_Nc.of (hs (Cond.not (.castable RX8 RX7)) (by decide +kernel))⟩⟩
/-- where each object lies, once both stand -/
def o_phi (q r : Nat) (u v : List Nat) : OI → Nat
  | (0, _, _) => q
  | (1, _, _) => nthL u 0
  | (2, _, _) => nthL u 3
  | (3, a, _) => nthL u (13 + 9 * a)
  | (4, a, b) => nthL u (14 + 9 * a + 2 * b)
  | (5, a, b) => nthL u (15 + 9 * a + 2 * b)
  | (6, _, b) => nthL u (8 + b)
  | (7, _, _) => r
  | (8, _, b) => nthL v b
  | (10, _, 0) => nthL u 1
  | (10, _, b + 1) => nthL u (4 + 2 * b)
  | (11, _, 0) => nthL u 2
  | (11, _, b + 1) => nthL u (5 + 2 * b)
  | _ => 0
def o_s0 : SS := (fun _ _ => 0, fun _ => 0)
theorem o_J_of {φ : OI → Nat} {cI cB : ClassId} {σ : SS} {A : Nat → Prop} (h : va_D A (o_wl φ cI cB σ)) : o_J φ := by
  intro i hi j hj e
  obtain ⟨a, ha⟩ := List.getElem?_of_mem hi
  obtain ⟨b, hb⟩ := List.getElem?_of_mem hj
  have h1 := h.1 a b _ _ (o_wl_get ha) (o_wl_get hb) e
  subst h1
  exact Option.some.inj (ha.symm.trans hb)
theorem o_A_new {φ : OI → Nat} {cI cB : ClassId} {σ : SS} {A : Nat → Prop} (h : va_D A (o_wl φ cI cB σ)) : ∀ q, o_A φ q → A q := by
  rintro q ⟨i, hi, rfl⟩
  obtain ⟨a, ha⟩ := List.getElem?_of_mem hi
  exact h.2 a _ (o_wl_get ha)
theorem lw_s0 : Inv 0 o_s0 := by
  refine ⟨0, 0, 0, fun _ => 0, fun _ => 0, Nat.le_refl _, ⟨by omega, rfl, rfl, fun k _ => ⟨Nat.zero_le _, rfl⟩, rfl, rfl, fun k _ => rfl, fun c h => absurd h (by omega)⟩, ⟨by omega, rfl, rfl, fun k h => absurd h (by omega)⟩, ?_, ⟨rfl, rfl, Or.inl ⟨rfl, Or.inl rfl⟩⟩, Or.inl rfl⟩
  exact ⟨⟨⟨fun _ => 0, ⟨fun k h => absurd h (by omega), fun c h => absurd h (by omega)⟩, fun k h => absurd h (by omega)⟩, fun k _ => ⟨⟨0, by omega, rfl⟩, rfl, ⟨0, by omega, rfl⟩, rfl, fun _ => ⟨rfl, rfl⟩⟩, fun c h => absurd h (by omega), ⟨0, by decide, rfl, fun c h => absurd h (by omega)⟩⟩, fun k h => absurd h (by omega)⟩
