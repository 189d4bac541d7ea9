theorem kw_X4_teachFromNothing_1 : Cond.fieldLink RX4 29 "SchoolRow$Row" "school" "LSchoolRow$School;" ∈ wsX4_teachFromNothing := List.mem_of_getElem? (i := 1) (by decide +kernel)
theorem ki_X4_teachFromNothing_X4 : ∀ w ∈ wsX40, w ∈ wsX4_teachFromNothing := fun _ h => List.mem_cons_of_mem _ (List.mem_append_left _ (List.mem_append_left _ (List.mem_append_right _ h)))
theorem hd_X4_teachFromNothing : yX4_teachFromNothing.cls = RX4 ∧ yX4_teachFromNothing.cls ≠ "java/lang/invoke/MethodHandle" ∧ yX4_teachFromNothing.cls ≠ "java/lang/invoke/VarHandle" ∧ (parseMethodDescriptor yX4_teachFromNothing.desc).map (fun d => d.parameters.length) = some 0 := by decide +kernel
set_option maxHeartbeats 4000000 in
set_option maxRecDepth 100000 in
theorem wb_X4_teachFromNothing_2 {X : OX} {r : Nat} {post : SS → Prop} {K2 : Int32 → SS → Prop} {x1 : Int32} {σ : SS} (hC : o_C X cX4_teachFromNothing RX4 wsX4_teachFromNothing 3 74 2) (hR : o_RV X cX4_teachFromNothing post) (hr : r < 4) (hK2 : ∀ (x1 : Int32) (σ : SS), K2 x1 σ → o_G X σ 2 [(0, .ref (ox_φ X (3, r, 0))), (1, .int x1)] []) (h : VB_X4_teachFromNothing_2 r post K2 x1 σ) : o_G X σ 2 [(0, .ref (ox_φ X (3, r, 0))), (1, .int x1)] [] := by
  unfold VB_X4_teachFromNothing_2 at h
  refine g_iload_n hC 1 dX4_teachFromNothing_2 rfl rfl ?_
  refine g_aload_n hC 0 dX4_teachFromNothing_3 rfl rfl ?_
  refine g_get (C := RX4) (T := TX4) (N := 6) (v := .ref (ox_φ X (2, 0, 0))) hC (o_in3 r hr) (o_eX4 _ _ _ _ _) rfl ki_X4_teachFromNothing_X4 0 (by decide) kw_X4_teachFromNothing_1 rfl dX4_teachFromNothing_4 ?_
  refine g_ri (r_V (C := RX5) (T := TX5) (N := 8) (As := []) (rest := [.int x1]) hC o_iX5 (o_eX5 _ _ _ _) rfl (c_X5_size (l := ox_l X) (φ := ox_φ X) (D := ox_D X) (cI := ox_I X) (cB := ox_B X) hC.J  h) gX4_teachFromNothing_X5_size rfl hd_X5_size ⟨Nat.le_of_ble_eq_true rfl, Nat.le_of_ble_eq_true rfl⟩ rfl rfl (Nat.le_of_ble_eq_true rfl) dX4_teachFromNothing_7) (fun v7 s7 h => ?_)
  refine g_icmp_ge hC 25 dX4_teachFromNothing_10 (by decide) (fun z => ?_) (fun z => ?_)
  · have h := h.1 z
    refine g_aload_n hC 0 dX4_teachFromNothing_25 rfl rfl ?_
    refine g_iconst (v := (0 : Int32)) hC dX4_teachFromNothing_26 (by decide) ?_
    refine g_iconst (v := (0 : Int32)) hC dX4_teachFromNothing_27 (by decide) ?_
    refine g_ri (r_V (C := RX4) (T := TX4) (N := 6) (As := [.int (0 : Int32), .int (0 : Int32)]) (rest := []) hC (o_in3 r hr) (o_eX4 _ _ _ _ _) rfl (c_X4_teachDown (l := ox_l X) (φ := ox_φ X) (D := ox_D X) (cI := ox_I X) (cB := ox_B X) hC.J hr h) gX4_teachFromNothing_X4_teachDown rfl hd_X4_teachDown ⟨Nat.le_of_ble_eq_true rfl, Nat.le_of_ble_eq_true rfl⟩ rfl rfl (Nat.le_of_ble_eq_true rfl) dX4_teachFromNothing_28) (fun v28 s28 h => ?_)
    refine g_pop hC dX4_teachFromNothing_31 rfl ?_
    exact hR _ _ _ dX4_teachFromNothing_32 h
  · have h := h.2 z
    refine g_aload_n hC 0 dX4_teachFromNothing_13 rfl rfl ?_
    refine g_iload_n hC 1 dX4_teachFromNothing_14 rfl rfl ?_
    refine g_iconst (v := (0 : Int32)) hC dX4_teachFromNothing_15 (by decide) ?_
    refine g_rv (r_V (C := RX4) (T := TX4) (N := 6) (As := [.int x1, .int (0 : Int32)]) (rest := []) hC (o_in3 r hr) (o_eX4 _ _ _ _ _) rfl (c_X4_wipeSlate (l := ox_l X) (φ := ox_φ X) (D := ox_D X) (cI := ox_I X) (cB := ox_B X) hC.J hr h) gX4_teachFromNothing_X4_wipeSlate rfl hd_X4_wipeSlate ⟨Nat.le_of_ble_eq_true rfl, Nat.le_of_ble_eq_true rfl⟩ rfl rfl (Nat.le_of_ble_eq_true rfl) dX4_teachFromNothing_16) (fun s16 h => ?_)
    refine g_iinc (v := (x1 + (1 : Int32))) hC 1 [(1, .int (x1 + (1 : Int32))), (0, .ref (ox_φ X (3, r, 0)))] dX4_teachFromNothing_19 rfl rfl (by decide) rfl ?_
    refine g_goto hC 2 dX4_teachFromNothing_22 (by decide) ?_
    refine g_sub [1, 0] rfl ?_
    exact hK2 _ _ h
set_option maxHeartbeats 4000000 in
set_option maxRecDepth 100000 in
theorem lp_X4_teachFromNothing_2 {X : OX} {r : Nat} {post : SS → Prop} (hC : o_C X cX4_teachFromNothing RX4 wsX4_teachFromNothing 3 74 2) (hR : o_RV X cX4_teachFromNothing post) (hr : r < 4) : ∀ (n : Nat) (a : Int32) (σ : SS), LP_X4_teachFromNothing_2 r post n a σ → o_G X σ 2 [(0, .ref (ox_φ X (3, r, 0))), (1, .int a)] [] :=
 o_lp_G (fun K hK a σ h => wb_X4_teachFromNothing_2 hC hR hr (fun x1 σ h => hK x1 σ h) h)
set_option maxHeartbeats 4000000 in
set_option maxRecDepth 100000 in
theorem wv_X4_teachFromNothing {X : OX} {r : Nat} {post : SS → Prop} {σ : SS} (hC : o_C X cX4_teachFromNothing RX4 wsX4_teachFromNothing 3 74 2) (hR : o_RV X cX4_teachFromNothing post) (hr : r < 4) (h : V_X4_teachFromNothing r σ post) : o_G X σ 0 [(0, .ref (ox_φ X (3, r, 0)))] [] := by
  unfold V_X4_teachFromNothing at h
  refine g_iconst (v := (0 : Int32)) hC dX4_teachFromNothing_0 (by decide) ?_
  refine g_istore_n hC [(1, .int (0 : Int32)), (0, .ref (ox_φ X (3, r, 0)))] dX4_teachFromNothing_1 rfl (by decide) rfl ?_
  refine g_sub [1, 0] rfl ?_
  obtain ⟨n, h⟩ := h
  exact lp_X4_teachFromNothing_2 hC hR hr n _ _ h
set_option maxRecDepth 100000 in
theorem c_X4_teachFromNothing {l : Launch} {φ : OI → Nat} {D : va_G} {cI cB : ClassId} (hJ : o_J φ) {r : Nat} (hr : r < 4) {σ : SS} {post : SS → Prop} (h : V_X4_teachFromNothing r σ post) : o_Mv l φ D cI cB yX4_teachFromNothing wsX4_teachFromNothing 3 74 [.ref (φ (3, r, 0))] σ post :=
 o_met_v hJ (by decide +kernel) rfl (Nat.le_of_ble_eq_true rfl) (fun p e s m args below meth c Q hC hR => wv_X4_teachFromNothing hC hR hr h)
theorem kw_X5_tenthsForgotten_1 : Cond.fieldLink RX5 14 "SchoolRow$School" "digits" "LSchoolRow$Cells;" ∈ wsX5_tenthsForgotten := List.mem_of_getElem? (i := 1) (by decide +kernel)
theorem ki_X5_tenthsForgotten_X5 : ∀ w ∈ wsX50, w ∈ wsX5_tenthsForgotten := fun _ h => List.mem_cons_of_mem _ (List.mem_append_left _ (List.mem_append_right _ h))
theorem hd_X5_tenthsForgotten : yX5_tenthsForgotten.cls = RX5 ∧ yX5_tenthsForgotten.cls ≠ "java/lang/invoke/MethodHandle" ∧ yX5_tenthsForgotten.cls ≠ "java/lang/invoke/VarHandle" ∧ (parseMethodDescriptor yX5_tenthsForgotten.desc).map (fun d => d.parameters.length) = some 0 := by decide +kernel
set_option maxHeartbeats 4000000 in
set_option maxRecDepth 100000 in
theorem wv_X5_tenthsForgotten {X : OX} {post : Int32 → SS → Prop} {σ : SS} (hC : o_C X cX5_tenthsForgotten RX5 wsX5_tenthsForgotten 1 21 1) (hR : o_RI X cX5_tenthsForgotten post) (h : V_X5_tenthsForgotten σ post) : o_G X σ 0 [(0, .ref (ox_φ X (2, 0, 0)))] [] := by
  unfold V_X5_tenthsForgotten at h
  refine g_aload_n hC 0 dX5_tenthsForgotten_0 rfl rfl ?_
  refine g_get (C := RX5) (T := TX5) (N := 8) (v := .ref (ox_φ X (10, 0, 1))) hC o_iX5 (o_eX5 _ _ _ _) rfl ki_X5_tenthsForgotten_X5 0 (by decide) kw_X5_tenthsForgotten_1 rfl dX5_tenthsForgotten_1 ?_
  refine g_iconst (v := (1 : Int32)) hC dX5_tenthsForgotten_4 (by decide) ?_
  refine g_ri (r_V (C := RX0) (T := TX0) (N := 1) (As := [.int (1 : Int32)]) (rest := []) hC (o_Cl10 1 (by decide)).1 ((o_Cl10 1 (by decide)).2.1 _ _ _ _) rfl (c_X0_at (l := ox_l X) (φ := ox_φ X) (D := ox_D X) (cI := ox_I X) (cB := ox_B X) hC.J (o_Cl10 1 (by decide)) h) gX5_tenthsForgotten_X0_at rfl hd_X0_at ⟨Nat.le_of_ble_eq_true rfl, Nat.le_of_ble_eq_true rfl⟩ rfl rfl (Nat.le_of_ble_eq_true rfl) dX5_tenthsForgotten_5) (fun v5 s5 h => ?_)
  exact hR _ _ _ _ dX5_tenthsForgotten_8 h
set_option maxRecDepth 100000 in
theorem c_X5_tenthsForgotten {l : Launch} {φ : OI → Nat} {D : va_G} {cI cB : ClassId} (hJ : o_J φ) {σ : SS} {post : Int32 → SS → Prop} (h : V_X5_tenthsForgotten σ post) : o_Mi l φ D cI cB yX5_tenthsForgotten wsX5_tenthsForgotten 1 21 [.ref (φ (2, 0, 0))] σ post :=
 o_met_i hJ (by decide +kernel) rfl (Nat.le_of_ble_eq_true rfl) (fun p e s m args below meth c Q hC hR => wv_X5_tenthsForgotten hC hR h)
theorem hd_X6_forgetsOf : yX6_forgetsOf.cls = RX6 ∧ yX6_forgetsOf.cls ≠ "java/lang/invoke/MethodHandle" ∧ yX6_forgetsOf.cls ≠ "java/lang/invoke/VarHandle" ∧ (parseMethodDescriptor yX6_forgetsOf.desc).map (fun d => d.parameters.length) = some 2 := by decide +kernel
set_option maxHeartbeats 4000000 in
set_option maxRecDepth 100000 in
theorem wv_X6_forgetsOf {X : OX} {j : Nat} {x1 : Int32} {x2 : Int32} {post : Int32 → SS → Prop} {σ : SS} (hC : o_C X cX6_forgetsOf RX6 wsX6_forgetsOf 0 0 3) (hR : o_RI X cX6_forgetsOf post) (hj : j < 5) (h : V_X6_forgetsOf j x1 x2 σ post) : o_G X σ 0 [(0, .ref (ox_φ X (6, 0, j))), (1, .int x1), (2, .int x2)] [] := by
  unfold V_X6_forgetsOf at h
  refine g_iconst (v := (0 : Int32)) hC dX6_forgetsOf_0 (by decide) ?_
  exact hR _ _ _ _ dX6_forgetsOf_1 h
set_option maxRecDepth 100000 in
theorem c_X6_forgetsOf {l : Launch} {φ : OI → Nat} {D : va_G} {cI cB : ClassId} (hJ : o_J φ) {j : Nat} {x1 : Int32} {x2 : Int32} (hj : j < 5) {σ : SS} {post : Int32 → SS → Prop} (h : V_X6_forgetsOf j x1 x2 σ post) : o_Mi l φ D cI cB yX6_forgetsOf wsX6_forgetsOf 0 0 [.ref (φ (6, 0, j)), .int x1, .int x2] σ post :=
 o_met_i hJ (by decide +kernel) rfl (Nat.le_of_ble_eq_true rfl) (fun p e s m args below meth c Q hC hR => wv_X6_forgetsOf hC hR hj h)
theorem hx_forgetsOf : ("SchoolRow$Child" : String) ≠ "java/lang/invoke/MethodHandle" ∧ ("SchoolRow$Child" : String) ≠ "java/lang/invoke/VarHandle" ∧ (parseMethodDescriptor (⟨"SchoolRow$Child", "forgetsOf", "(II)I"⟩ : MethodName).desc).map (fun d => d.parameters.length) = some 2 := by decide +kernel
set_option maxHeartbeats 4000000 in
set_option maxRecDepth 100000 in
theorem vc_X4_passSummer_forgetsOf {X : OX} {j : Nat} {x1 x2 : Int32} {σ : SS} {post : Int32 → SS → Prop} {pc : Nat} {lv : List (Nat × Value)} {st rest : List Value} (hC : o_C X cX4_passSummer RX4 wsX4_passSummer 2 43 7) (hj : j < 5) (hdg : decode cX4_passSummer pc = .ok (.invokevirtual 126, 3)) (hst : st = .int x2 :: .int x1 :: .ref (ox_φ X (6, 0, j)) :: rest) (hrm : (rest.map fun v => v.category).sum ≤ 8) (h : VV_forgetsOf j x1 x2 σ post) : o_R X σ pc lv st rest (va_Qi post (o_B (ox_φ X) (ox_D X) (ox_I X) (ox_B X)) (o_A (ox_φ X))) := match j, hj, hst, h with
  | 0, hj, hst, h => r_V (C := RX1) (T := TX1) (N := 0) (As := [.int x1, .int x2]) (rest := rest) hC (o_in6 0 hj) rfl rfl (c_X1_forgetsOf (l := ox_l X) (φ := ox_φ X) (D := ox_D X) (cI := ox_I X) (cB := ox_B X) hC.J hj h) gX4_passSummer_X1_forgetsOf rfl hd_X1_forgetsOf ⟨Nat.le_of_ble_eq_true rfl, Nat.le_of_ble_eq_true rfl⟩ rfl hst hrm hdg
  | 1, hj, hst, h => r_U (C := RX8) (T := TX8) (N := 0) (owner := "SchoolRow$Child") (x := ⟨"SchoolRow$Child", "forgetsOf", "(II)I"⟩) (As := [.int x1, .int x2]) (rest := rest) hC hj rfl (c_X1_forgetsOf (l := ox_l X) (φ := ox_φ X) (D := ox_D X) (cI := ox_I X) (cB := ox_B X) hC.J hj h) gX4_passSummer_X1_forgetsOf_u126X8 rfl rfl hx_forgetsOf ⟨Nat.le_of_ble_eq_true rfl, Nat.le_of_ble_eq_true rfl⟩ rfl hst hrm hdg
  | 2, hj, hst, h => r_U (C := RX2) (T := TX2) (N := 0) (owner := "SchoolRow$Child") (x := ⟨"SchoolRow$Child", "forgetsOf", "(II)I"⟩) (As := [.int x1, .int x2]) (rest := rest) hC hj rfl (c_X1_forgetsOf (l := ox_l X) (φ := ox_φ X) (D := ox_D X) (cI := ox_I X) (cB := ox_B X) hC.J hj h) gX4_passSummer_X1_forgetsOf_u126X2 rfl rfl hx_forgetsOf ⟨Nat.le_of_ble_eq_true rfl, Nat.le_of_ble_eq_true rfl⟩ rfl hst hrm hdg
  | 3, hj, hst, h => r_U (C := RX7) (T := TX7) (N := 0) (owner := "SchoolRow$Child") (x := ⟨"SchoolRow$Child", "forgetsOf", "(II)I"⟩) (As := [.int x1, .int x2]) (rest := rest) hC hj rfl (c_X1_forgetsOf (l := ox_l X) (φ := ox_φ X) (D := ox_D X) (cI := ox_I X) (cB := ox_B X) hC.J hj h) gX4_passSummer_X1_forgetsOf_u126X7 rfl rfl hx_forgetsOf ⟨Nat.le_of_ble_eq_true rfl, Nat.le_of_ble_eq_true rfl⟩ rfl hst hrm hdg
  | 4, hj, hst, h => r_O (C := RX6) (T := TX6) (N := 0) (owner := "SchoolRow$Child") (x := ⟨"SchoolRow$Child", "forgetsOf", "(II)I"⟩) (As := [.int x1, .int x2]) (rest := rest) hC hj rfl (c_X6_forgetsOf (l := ox_l X) (φ := ox_φ X) (D := ox_D X) (cI := ox_I X) (cB := ox_B X) hC.J hj h) gX4_passSummer_X6_forgetsOf_u126X6 rfl (List.mem_of_getElem? (i := 40) (by decide +kernel) : Cond.code yX1_forgetsOf cX1_forgetsOf 3 (some .int) ∈ wsX4_passSummer) hx_forgetsOf ⟨Nat.le_of_ble_eq_true rfl, Nat.le_of_ble_eq_true rfl⟩ rfl hst hrm hdg
  | k + 5, hj, _, _ => absurd hj (by omega)
theorem kw_X4_passSummer_1 : Cond.fieldLink RX4 29 "SchoolRow$Row" "school" "LSchoolRow$School;" ∈ wsX4_passSummer := List.mem_of_getElem? (i := 1) (by decide +kernel)
theorem kw_X4_passSummer_2 : Cond.fieldLink RX4 20 "SchoolRow$Row" "parts" "LSchoolRow$Cells;" ∈ wsX4_passSummer := List.mem_of_getElem? (i := 2) (by decide +kernel)
theorem kw_X4_passSummer_3 : Cond.fieldLink RX4 23 "SchoolRow$Row" "mistakes" "LSchoolRow$Cells;" ∈ wsX4_passSummer := List.mem_of_getElem? (i := 3) (by decide +kernel)
theorem ki_X4_passSummer_X4 : ∀ w ∈ wsX40, w ∈ wsX4_passSummer := fun _ h => List.mem_cons_of_mem _ (List.mem_append_left _ (List.mem_append_left _ (List.mem_append_right _ h)))
theorem hd_X4_passSummer : yX4_passSummer.cls = RX4 ∧ yX4_passSummer.cls ≠ "java/lang/invoke/MethodHandle" ∧ yX4_passSummer.cls ≠ "java/lang/invoke/VarHandle" ∧ (parseMethodDescriptor yX4_passSummer.desc).map (fun d => d.parameters.length) = some 0 := by decide +kernel
set_option maxHeartbeats 4000000 in
set_option maxRecDepth 100000 in
theorem wb_X4_passSummer_106 {X : OX} {r : Nat} {post : Int32 → SS → Prop} {K4 : Int32 → Int32 → SS → Prop} {K27 : Int32 → Int32 → Nat → Int32 → SS → Prop} {x1 : Int32} {x2 : Int32} {j3 : Nat} {x4 : Int32} {x6 : Int32} {σ : SS} (hC : o_C X cX4_passSummer RX4 wsX4_passSummer 2 43 7) (hR : o_RI X cX4_passSummer post) (hr : r < 4) (hK4 : ∀ (x1 : Int32) (x2 : Int32) (σ : SS), K4 x1 x2 σ → o_G X σ 4 [(0, .ref (ox_φ X (3, r, 0))), (1, .int x1), (2, .int x2)] []) (hK27 : ∀ (x1 : Int32) (x2 : Int32) (j3 : Nat) (x4 : Int32) (σ : SS), j3 < 5 → K27 x1 x2 j3 x4 σ → o_G X σ 27 [(0, .ref (ox_φ X (3, r, 0))), (1, .int x1), (2, .int x2), (3, .ref (ox_φ X (6, 0, j3))), (4, .int x4)] []) (hj3 : j3 < 5) (h : VB_X4_passSummer_106 r post K4 K27 x1 x2 j3 x4 x6 σ) : o_G X σ 106 [(0, .ref (ox_φ X (3, r, 0))), (1, .int x1), (2, .int x2), (3, .ref (ox_φ X (6, 0, j3))), (4, .int x4), (6, .int x6)] [] := by
  unfold VB_X4_passSummer_106 at h
  refine g_iload_n hC 1 dX4_passSummer_106 rfl rfl ?_
  refine g_iload hC 5 dX4_passSummer_107 rfl ?_
  refine g_iadd hC dX4_passSummer_109 ?_
  refine g_istore_n hC [(1, .int (x1 + x6)), (0, .ref (ox_φ X (3, r, 0))), (2, .int x2), (3, .ref (ox_φ X (6, 0, j3))), (4, .int x4), (6, .int x6)] dX4_passSummer_110 rfl (by decide) rfl ?_
  refine g_iinc (v := (x4 + (1 : Int32))) hC 4 [(4, .int (x4 + (1 : Int32))), (1, .int (x1 + x6)), (0, .ref (ox_φ X (3, r, 0))), (2, .int x2), (3, .ref (ox_φ X (6, 0, j3))), (6, .int x6)] dX4_passSummer_111 rfl rfl (by decide) rfl ?_
  refine g_goto hC 27 dX4_passSummer_114 (by decide) ?_
  refine g_sub [2, 1, 3, 4, 0] rfl ?_
  exact hK27 _ _ _ _ _ hj3 h
set_option maxHeartbeats 4000000 in
set_option maxRecDepth 100000 in
theorem wb_X4_passSummer_27 {X : OX} {r : Nat} {post : Int32 → SS → Prop} {K4 : Int32 → Int32 → SS → Prop} {K27 : Int32 → Int32 → Nat → Int32 → SS → Prop} {x1 : Int32} {x2 : Int32} {j3 : Nat} {x4 : Int32} {σ : SS} (hC : o_C X cX4_passSummer RX4 wsX4_passSummer 2 43 7) (hR : o_RI X cX4_passSummer post) (hr : r < 4) (hK4 : ∀ (x1 : Int32) (x2 : Int32) (σ : SS), K4 x1 x2 σ → o_G X σ 4 [(0, .ref (ox_φ X (3, r, 0))), (1, .int x1), (2, .int x2)] []) (hK27 : ∀ (x1 : Int32) (x2 : Int32) (j3 : Nat) (x4 : Int32) (σ : SS), j3 < 5 → K27 x1 x2 j3 x4 σ → o_G X σ 27 [(0, .ref (ox_φ X (3, r, 0))), (1, .int x1), (2, .int x2), (3, .ref (ox_φ X (6, 0, j3))), (4, .int x4)] []) (hj3 : j3 < 5) (h : VB_X4_passSummer_27 r post K4 K27 x1 x2 j3 x4 σ) : o_G X σ 27 [(0, .ref (ox_φ X (3, r, 0))), (1, .int x1), (2, .int x2), (3, .ref (ox_φ X (6, 0, j3))), (4, .int x4)] [] := by
  unfold VB_X4_passSummer_27 at h
  refine g_iload hC 4 dX4_passSummer_27 rfl ?_
  refine g_iconst (v := (4 : Int32)) hC dX4_passSummer_29 (by decide) ?_
  refine g_icmp_ge hC 117 dX4_passSummer_30 (by decide) (fun z => ?_) (fun z => ?_)
  · have h := h.1 z
    refine g_iinc (v := (x2 + (1 : Int32))) hC 2 [(2, .int (x2 + (1 : Int32))), (0, .ref (ox_φ X (3, r, 0))), (1, .int x1), (3, .ref (ox_φ X (6, 0, j3))), (4, .int x4)] dX4_passSummer_117 rfl rfl (by decide) rfl ?_
    refine g_goto hC 4 dX4_passSummer_120 (by decide) ?_
    refine g_sub [1, 2, 0] rfl ?_
    exact hK4 _ _ _ h
  · have h := h.2 z
    refine g_iload_n hC 2 dX4_passSummer_33 rfl rfl ?_
    refine g_iload hC 4 dX4_passSummer_34 rfl ?_
    refine g_ri (r_S (As := [.int x2, .int x4]) (rest := []) hC (c_X4_slateOf (l := ox_l X) (φ := ox_φ X) (D := ox_D X) (cI := ox_I X) (cB := ox_B X) hC.J  h) gX4_passSummer_X4_slateOf rfl hd_X4_slateOf ⟨Nat.le_of_ble_eq_true rfl, Nat.le_of_ble_eq_true rfl⟩ rfl rfl (Nat.le_of_ble_eq_true rfl) dX4_passSummer_36) (fun v36 s36 h => ?_)
    refine g_istore hC [(5, .int v36), (0, .ref (ox_φ X (3, r, 0))), (1, .int x1), (2, .int x2), (3, .ref (ox_φ X (6, 0, j3))), (4, .int x4)] dX4_passSummer_39 (by decide) rfl ?_
    refine g_aload_n hC 4 dX4_passSummer_41 rfl rfl ?_
    refine g_aload_n hC 1 dX4_passSummer_42 rfl rfl ?_
    refine g_get (C := RX4) (T := TX4) (N := 6) (v := .ref (ox_φ X (4, r, 1))) hC (o_in3 r hr) (o_eX4 _ _ _ _ _) rfl ki_X4_passSummer_X4 2 (by decide) kw_X4_passSummer_2 rfl dX4_passSummer_43 ?_
    refine g_iload hC 0 dX4_passSummer_46 rfl ?_
    refine g_ri (r_V (C := RX0) (T := TX0) (N := 1) (As := [.int v36]) (rest := [.ref (ox_φ X (6, 0, j3))]) hC (o_Cl4 r hr 1 (by decide)).1 ((o_Cl4 r hr 1 (by decide)).2.1 _ _ _ _) rfl (c_X0_at (l := ox_l X) (φ := ox_φ X) (D := ox_D X) (cI := ox_I X) (cB := ox_B X) hC.J (o_Cl4 r hr 1 (by decide)) h) gX4_passSummer_X0_at rfl hd_X0_at ⟨Nat.le_of_ble_eq_true rfl, Nat.le_of_ble_eq_true rfl⟩ rfl rfl (Nat.le_of_ble_eq_true rfl) dX4_passSummer_48) (fun v48 s48 h => ?_)
    refine g_aload_n hC 1 dX4_passSummer_51 rfl rfl ?_
    refine g_get (C := RX4) (T := TX4) (N := 6) (v := .ref (ox_φ X (2, 0, 0))) hC (o_in3 r hr) (o_eX4 _ _ _ _ _) rfl ki_X4_passSummer_X4 0 (by decide) kw_X4_passSummer_1 rfl dX4_passSummer_52 ?_
    refine g_ri (r_V (C := RX5) (T := TX5) (N := 8) (As := []) (rest := [.int v48, .ref (ox_φ X (6, 0, j3))]) hC o_iX5 (o_eX5 _ _ _ _) rfl (c_X5_tenthsForgotten (l := ox_l X) (φ := ox_φ X) (D := ox_D X) (cI := ox_I X) (cB := ox_B X) hC.J  h) gX4_passSummer_X5_tenthsForgotten rfl hd_X5_tenthsForgotten ⟨Nat.le_of_ble_eq_true rfl, Nat.le_of_ble_eq_true rfl⟩ rfl rfl (Nat.le_of_ble_eq_true rfl) dX4_passSummer_55) (fun v55 s55 h => ?_)
    refine g_ri (vc_X4_passSummer_forgetsOf hC hj3 dX4_passSummer_58 rfl (Nat.le_of_ble_eq_true rfl) h) (fun v58 s58 h => ?_)
    refine g_istore hC [(6, .int v58), (5, .int v36), (0, .ref (ox_φ X (3, r, 0))), (1, .int x1), (2, .int x2), (3, .ref (ox_φ X (6, 0, j3))), (4, .int x4)] dX4_passSummer_61 (by decide) rfl ?_
    refine g_aload_n hC 2 dX4_passSummer_63 rfl rfl ?_
    refine g_get (C := RX4) (T := TX4) (N := 6) (v := .ref (ox_φ X (4, r, 1))) hC (o_in3 r hr) (o_eX4 _ _ _ _ _) rfl ki_X4_passSummer_X4 2 (by decide) kw_X4_passSummer_2 rfl dX4_passSummer_64 ?_
    refine g_iload hC 1 dX4_passSummer_67 rfl ?_
    refine g_aload_n hC 2 dX4_passSummer_69 rfl rfl ?_
    refine g_get (C := RX4) (T := TX4) (N := 6) (v := .ref (ox_φ X (4, r, 1))) hC (o_in3 r hr) (o_eX4 _ _ _ _ _) rfl ki_X4_passSummer_X4 2 (by decide) kw_X4_passSummer_2 rfl dX4_passSummer_70 ?_
    refine g_iload hC 1 dX4_passSummer_73 rfl ?_
    refine g_ri (r_V (C := RX0) (T := TX0) (N := 1) (As := [.int v36]) (rest := [.int v36, .ref (ox_φ X (4, r, 1))]) hC (o_Cl4 r hr 1 (by decide)).1 ((o_Cl4 r hr 1 (by decide)).2.1 _ _ _ _) rfl (c_X0_at (l := ox_l X) (φ := ox_φ X) (D := ox_D X) (cI := ox_I X) (cB := ox_B X) hC.J (o_Cl4 r hr 1 (by decide)) h) gX4_passSummer_X0_at rfl hd_X0_at ⟨Nat.le_of_ble_eq_true rfl, Nat.le_of_ble_eq_true rfl⟩ rfl rfl (Nat.le_of_ble_eq_true rfl) dX4_passSummer_75) (fun v75 s75 h => ?_)
    refine g_iload hC 0 dX4_passSummer_78 rfl ?_
    refine g_isub hC dX4_passSummer_80 ?_
    refine g_rv (r_V (C := RX0) (T := TX0) (N := 1) (As := [.int v36, .int (v75 - v58)]) (rest := []) hC (o_Cl4 r hr 1 (by decide)).1 ((o_Cl4 r hr 1 (by decide)).2.1 _ _ _ _) rfl (c_X0_put (l := ox_l X) (φ := ox_φ X) (D := ox_D X) (cI := ox_I X) (cB := ox_B X) hC.J (o_Cl4 r hr 1 (by decide)) h) gX4_passSummer_X0_put rfl hd_X0_put ⟨Nat.le_of_ble_eq_true rfl, Nat.le_of_ble_eq_true rfl⟩ rfl rfl (Nat.le_of_ble_eq_true rfl) dX4_passSummer_81) (fun s81 h => ?_)
    refine g_aload_n hC 2 dX4_passSummer_84 rfl rfl ?_
    refine g_get (C := RX4) (T := TX4) (N := 6) (v := .ref (ox_φ X (4, r, 1))) hC (o_in3 r hr) (o_eX4 _ _ _ _ _) rfl ki_X4_passSummer_X4 2 (by decide) kw_X4_passSummer_2 rfl dX4_passSummer_85 ?_
    refine g_iload hC 1 dX4_passSummer_88 rfl ?_
    refine g_ri (r_V (C := RX0) (T := TX0) (N := 1) (As := [.int v36]) (rest := []) hC (o_Cl4 r hr 1 (by decide)).1 ((o_Cl4 r hr 1 (by decide)).2.1 _ _ _ _) rfl (c_X0_at (l := ox_l X) (φ := ox_φ X) (D := ox_D X) (cI := ox_I X) (cB := ox_B X) hC.J (o_Cl4 r hr 1 (by decide)) h) gX4_passSummer_X0_at rfl hd_X0_at ⟨Nat.le_of_ble_eq_true rfl, Nat.le_of_ble_eq_true rfl⟩ rfl rfl (Nat.le_of_ble_eq_true rfl) dX4_passSummer_90) (fun v90 s90 h => ?_)
    refine g_if_ne hC 106 dX4_passSummer_93 (by decide) (fun z => ?_) (fun z => ?_)
    · have h := h.1 z
      refine g_sub [2, 3, 4, 5, 6, 0] rfl ?_
      exact wb_X4_passSummer_106 hC hR hr hK4 hK27 hj3 h
    · have h := h.2 z
      refine g_aload_n hC 2 dX4_passSummer_96 rfl rfl ?_
      refine g_get (C := RX4) (T := TX4) (N := 6) (v := .ref (ox_φ X (4, r, 2))) hC (o_in3 r hr) (o_eX4 _ _ _ _ _) rfl ki_X4_passSummer_X4 3 (by decide) kw_X4_passSummer_3 rfl dX4_passSummer_97 ?_
      refine g_iload hC 1 dX4_passSummer_100 rfl ?_
      refine g_iconst (v := (0 : Int32)) hC dX4_passSummer_102 (by decide) ?_
      refine g_rv (r_V (C := RX0) (T := TX0) (N := 1) (As := [.int v36, .int (0 : Int32)]) (rest := []) hC (o_Cl4 r hr 2 (by decide)).1 ((o_Cl4 r hr 2 (by decide)).2.1 _ _ _ _) rfl (c_X0_put (l := ox_l X) (φ := ox_φ X) (D := ox_D X) (cI := ox_I X) (cB := ox_B X) hC.J (o_Cl4 r hr 2 (by decide)) h) gX4_passSummer_X0_put rfl hd_X0_put ⟨Nat.le_of_ble_eq_true rfl, Nat.le_of_ble_eq_true rfl⟩ rfl rfl (Nat.le_of_ble_eq_true rfl) dX4_passSummer_103) (fun s103 h => ?_)
      refine g_sub [2, 3, 4, 5, 6, 0] rfl ?_
      exact wb_X4_passSummer_106 hC hR hr hK4 hK27 hj3 h
set_option maxHeartbeats 4000000 in
set_option maxRecDepth 100000 in
theorem lp_X4_passSummer_27 {X : OX} {r : Nat} {post : Int32 → SS → Prop} {K4 : Int32 → Int32 → SS → Prop} (hC : o_C X cX4_passSummer RX4 wsX4_passSummer 2 43 7) (hR : o_RI X cX4_passSummer post) (hr : r < 4) (hK4 : ∀ (x1 : Int32) (x2 : Int32) (σ : SS), K4 x1 x2 σ → o_G X σ 4 [(0, .ref (ox_φ X (3, r, 0))), (1, .int x1), (2, .int x2)] []) : ∀ (n : Nat) (a : Int32 × Int32 × Nat × Int32) (σ : SS), a.2.2.1 < 5 → LP_X4_passSummer_27 r post K4 n a σ → o_G X σ 27 [(0, .ref (ox_φ X (3, r, 0))), (1, .int a.1), (2, .int a.2.1), (3, .ref (ox_φ X (6, 0, a.2.2.1))), (4, .int a.2.2.2)] [] :=
 o_lp_j (fun K hK a σ hj h => wb_X4_passSummer_27 hC hR hr hK4 (fun x1 x2 j3 x4 σ hj3 h => hK (x1, x2, j3, x4) σ hj3 h) hj h)
set_option maxHeartbeats 4000000 in
set_option maxRecDepth 100000 in
theorem wb_X4_passSummer_4 {X : OX} {r : Nat} {post : Int32 → SS → Prop} {K4 : Int32 → Int32 → SS → Prop} {x1 : Int32} {x2 : Int32} {σ : SS} (hC : o_C X cX4_passSummer RX4 wsX4_passSummer 2 43 7) (hR : o_RI X cX4_passSummer post) (hr : r < 4) (hK4 : ∀ (x1 : Int32) (x2 : Int32) (σ : SS), K4 x1 x2 σ → o_G X σ 4 [(0, .ref (ox_φ X (3, r, 0))), (1, .int x1), (2, .int x2)] []) (h : VB_X4_passSummer_4 r post K4 x1 x2 σ) : o_G X σ 4 [(0, .ref (ox_φ X (3, r, 0))), (1, .int x1), (2, .int x2)] [] := by
  unfold VB_X4_passSummer_4 at h
  refine g_iload_n hC 2 dX4_passSummer_4 rfl rfl ?_
  refine g_aload_n hC 0 dX4_passSummer_5 rfl rfl ?_
  refine g_get (C := RX4) (T := TX4) (N := 6) (v := .ref (ox_φ X (2, 0, 0))) hC (o_in3 r hr) (o_eX4 _ _ _ _ _) rfl ki_X4_passSummer_X4 0 (by decide) kw_X4_passSummer_1 rfl dX4_passSummer_6 ?_
  refine g_ri (r_V (C := RX5) (T := TX5) (N := 8) (As := []) (rest := [.int x2]) hC o_iX5 (o_eX5 _ _ _ _) rfl (c_X5_size (l := ox_l X) (φ := ox_φ X) (D := ox_D X) (cI := ox_I X) (cB := ox_B X) hC.J  h) gX4_passSummer_X5_size rfl hd_X5_size ⟨Nat.le_of_ble_eq_true rfl, Nat.le_of_ble_eq_true rfl⟩ rfl rfl (Nat.le_of_ble_eq_true rfl) dX4_passSummer_9) (fun v9 s9 h => ?_)
  refine g_icmp_ge hC 123 dX4_passSummer_12 (by decide) (fun z => ?_) (fun z => ?_)
  · have h := h.1 z
    refine g_iload_n hC 1 dX4_passSummer_123 rfl rfl ?_
    exact hR _ _ _ _ dX4_passSummer_124 h
  · have h := h.2 z
    refine g_aload_n hC 0 dX4_passSummer_15 rfl rfl ?_
    refine g_get (C := RX4) (T := TX4) (N := 6) (v := .ref (ox_φ X (2, 0, 0))) hC (o_in3 r hr) (o_eX4 _ _ _ _ _) rfl ki_X4_passSummer_X4 0 (by decide) kw_X4_passSummer_1 rfl dX4_passSummer_16 ?_
    refine g_iload_n hC 2 dX4_passSummer_19 rfl rfl ?_
    refine g_rr (r_V (C := RX5) (T := TX5) (N := 8) (As := [.int x2]) (rest := []) hC o_iX5 (o_eX5 _ _ _ _) rfl (c_X5_child (l := ox_l X) (φ := ox_φ X) (D := ox_D X) (cI := ox_I X) (cB := ox_B X) hC.J  h) gX4_passSummer_X5_child rfl hd_X5_child ⟨Nat.le_of_ble_eq_true rfl, Nat.le_of_ble_eq_true rfl⟩ rfl rfl (Nat.le_of_ble_eq_true rfl) dX4_passSummer_20) (fun v20 s20 hj20 h => ?_)
    refine g_astore_n hC [(3, .ref (ox_φ X (6, 0, v20))), (0, .ref (ox_φ X (3, r, 0))), (1, .int x1), (2, .int x2)] dX4_passSummer_23 rfl (by decide) rfl ?_
    refine g_iconst (v := (0 : Int32)) hC dX4_passSummer_24 (by decide) ?_
    refine g_istore hC [(4, .int (0 : Int32)), (3, .ref (ox_φ X (6, 0, v20))), (0, .ref (ox_φ X (3, r, 0))), (1, .int x1), (2, .int x2)] dX4_passSummer_25 (by decide) rfl ?_
    refine g_sub [2, 3, 4, 1, 0] rfl ?_
    obtain ⟨n, h⟩ := h
    exact lp_X4_passSummer_27 hC hR hr hK4 n _ _ hj20 h
set_option maxHeartbeats 4000000 in
set_option maxRecDepth 100000 in
theorem lp_X4_passSummer_4 {X : OX} {r : Nat} {post : Int32 → SS → Prop} (hC : o_C X cX4_passSummer RX4 wsX4_passSummer 2 43 7) (hR : o_RI X cX4_passSummer post) (hr : r < 4) : ∀ (n : Nat) (a : Int32 × Int32) (σ : SS), LP_X4_passSummer_4 r post n a σ → o_G X σ 4 [(0, .ref (ox_φ X (3, r, 0))), (1, .int a.1), (2, .int a.2)] [] :=
 o_lp_G (fun K hK a σ h => wb_X4_passSummer_4 hC hR hr (fun x1 x2 σ h => hK (x1, x2) σ h) h)
set_option maxHeartbeats 4000000 in
set_option maxRecDepth 100000 in
theorem wv_X4_passSummer {X : OX} {r : Nat} {post : Int32 → SS → Prop} {σ : SS} (hC : o_C X cX4_passSummer RX4 wsX4_passSummer 2 43 7) (hR : o_RI X cX4_passSummer post) (hr : r < 4) (h : V_X4_passSummer r σ post) : o_G X σ 0 [(0, .ref (ox_φ X (3, r, 0)))] [] := by
  unfold V_X4_passSummer at h
  refine g_iconst (v := (0 : Int32)) hC dX4_passSummer_0 (by decide) ?_
  refine g_istore_n hC [(1, .int (0 : Int32)), (0, .ref (ox_φ X (3, r, 0)))] dX4_passSummer_1 rfl (by decide) rfl ?_
  refine g_iconst (v := (0 : Int32)) hC dX4_passSummer_2 (by decide) ?_
  refine g_istore_n hC [(2, .int (0 : Int32)), (1, .int (0 : Int32)), (0, .ref (ox_φ X (3, r, 0)))] dX4_passSummer_3 rfl (by decide) rfl ?_
  refine g_sub [2, 1, 0] rfl ?_
  obtain ⟨n, h⟩ := h
  exact lp_X4_passSummer_4 hC hR hr n _ _ h
set_option maxRecDepth 100000 in
theorem c_X4_passSummer {l : Launch} {φ : OI → Nat} {D : va_G} {cI cB : ClassId} (hJ : o_J φ) {r : Nat} (hr : r < 4) {σ : SS} {post : Int32 → SS → Prop} (h : V_X4_passSummer r σ post) : o_Mi l φ D cI cB yX4_passSummer wsX4_passSummer 2 43 [.ref (φ (3, r, 0))] σ post :=
 o_met_i hJ (by decide +kernel) rfl (Nat.le_of_ble_eq_true rfl) (fun p e s m args below meth c Q hC hR => wv_X4_passSummer hC hR hr h)
theorem kw_X5_readFrom_1 : Cond.fieldLink RX5 14 "SchoolRow$School" "digits" "LSchoolRow$Cells;" ∈ wsX5_readFrom := List.mem_of_getElem? (i := 1) (by decide +kernel)
theorem kw_X5_readFrom_2 : Cond.fieldLink RX5 64 "SchoolRow$School" "size" "I" ∈ wsX5_readFrom := List.mem_of_getElem? (i := 2) (by decide +kernel)
theorem kw_X5_readFrom_3 : Cond.fieldLink RX5 20 "SchoolRow$School" "kindNumbers" "LSchoolRow$Cells;" ∈ wsX5_readFrom := List.mem_of_getElem? (i := 3) (by decide +kernel)
theorem ki_X5_readFrom_X5 : ∀ w ∈ wsX50, w ∈ wsX5_readFrom := fun _ h => List.mem_cons_of_mem _ (List.mem_append_left _ (List.mem_append_left _ (List.mem_append_right _ h)))
theorem hd_X5_readFrom : yX5_readFrom.cls = RX5 ∧ yX5_readFrom.cls ≠ "java/lang/invoke/MethodHandle" ∧ yX5_readFrom.cls ≠ "java/lang/invoke/VarHandle" ∧ (parseMethodDescriptor yX5_readFrom.desc).map (fun d => d.parameters.length) = some 1 := by decide +kernel
set_option maxHeartbeats 4000000 in
set_option maxRecDepth 100000 in
theorem wb_X5_readFrom_38 {X : OX} {post : SS → Prop} {K38 : Int32 → SS → Prop} {x2 : Int32} {σ : SS} (hC : o_C X cX5_readFrom RX5 wsX5_readFrom 2 42 3) (hR : o_RV X cX5_readFrom post) (hK38 : ∀ (x2 : Int32) (σ : SS), K38 x2 σ → o_G X σ 38 [(0, .ref (ox_φ X (2, 0, 0))), (1, .ref (ox_φ X (1, 0, 0))), (2, .int x2)] []) (h : VB_X5_readFrom_38 post K38 x2 σ) : o_G X σ 38 [(0, .ref (ox_φ X (2, 0, 0))), (1, .ref (ox_φ X (1, 0, 0))), (2, .int x2)] [] := by
  unfold VB_X5_readFrom_38 at h
  refine g_iload_n hC 2 dX5_readFrom_38 rfl rfl ?_
  refine g_aload_n hC 1 dX5_readFrom_39 rfl rfl ?_
  refine g_ri (r_V (C := RX3) (T := TX3) (N := 2) (As := []) (rest := [.int x2]) hC o_iX3 (o_eX3 _ _ _ _) rfl (c_X3_length (l := ox_l X) (φ := ox_φ X) (D := ox_D X) (cI := ox_I X) (cB := ox_B X) hC.J  h) gX5_readFrom_X3_length rfl hd_X3_length ⟨Nat.le_of_ble_eq_true rfl, Nat.le_of_ble_eq_true rfl⟩ rfl rfl (Nat.le_of_ble_eq_true rfl) dX5_readFrom_40) (fun v40 s40 h => ?_)
  refine g_icmp_ge hC 81 dX5_readFrom_43 (by decide) (fun z => ?_) (fun z => ?_)
  · have h := h.1 z
    exact hR _ _ _ dX5_readFrom_81 h
  · have h := h.2 z
    refine g_aload_n hC 0 dX5_readFrom_46 rfl rfl ?_
    refine g_get (C := RX5) (T := TX5) (N := 8) (v := .ref (ox_φ X (10, 0, 2))) hC o_iX5 (o_eX5 _ _ _ _) rfl ki_X5_readFrom_X5 1 (by decide) kw_X5_readFrom_3 rfl dX5_readFrom_47 ?_
    refine g_aload_n hC 0 dX5_readFrom_50 rfl rfl ?_
    refine g_get (C := RX5) (T := TX5) (N := 8) (v := .int (s40.1 (2, 0, 0) 7)) hC o_iX5 (o_eX5 _ _ _ _) rfl ki_X5_readFrom_X5 7 (by decide) kw_X5_readFrom_2 rfl dX5_readFrom_51 ?_
    refine g_aload_n hC 1 dX5_readFrom_54 rfl rfl ?_
    refine g_iload_n hC 2 dX5_readFrom_55 rfl rfl ?_
    refine g_ri (r_V (C := RX3) (T := TX3) (N := 2) (As := [.int x2]) (rest := [.int (s40.1 (2, 0, 0) 7), .ref (ox_φ X (10, 0, 2))]) hC o_iX3 (o_eX3 _ _ _ _) rfl (c_X3_letterAt (l := ox_l X) (φ := ox_φ X) (D := ox_D X) (cI := ox_I X) (cB := ox_B X) hC.J  h) gX5_readFrom_X3_letterAt rfl hd_X3_letterAt ⟨Nat.le_of_ble_eq_true rfl, Nat.le_of_ble_eq_true rfl⟩ rfl rfl (Nat.le_of_ble_eq_true rfl) dX5_readFrom_56) (fun v56 s56 h => ?_)
    refine g_ri (r_S (As := [.int v56]) (rest := [.int (s40.1 (2, 0, 0) 7), .ref (ox_φ X (10, 0, 2))]) hC (c_X5_kindBy (l := ox_l X) (φ := ox_φ X) (D := ox_D X) (cI := ox_I X) (cB := ox_B X) hC.J  h) gX5_readFrom_X5_kindBy rfl hd_X5_kindBy ⟨Nat.le_of_ble_eq_true rfl, Nat.le_of_ble_eq_true rfl⟩ rfl rfl (Nat.le_of_ble_eq_true rfl) dX5_readFrom_59) (fun v59 s59 h => ?_)
    refine g_rv (r_V (C := RX0) (T := TX0) (N := 1) (As := [.int (s40.1 (2, 0, 0) 7), .int v59]) (rest := []) hC (o_Cl10 2 (by decide)).1 ((o_Cl10 2 (by decide)).2.1 _ _ _ _) rfl (c_X0_put (l := ox_l X) (φ := ox_φ X) (D := ox_D X) (cI := ox_I X) (cB := ox_B X) hC.J (o_Cl10 2 (by decide)) h) gX5_readFrom_X0_put rfl hd_X0_put ⟨Nat.le_of_ble_eq_true rfl, Nat.le_of_ble_eq_true rfl⟩ rfl rfl (Nat.le_of_ble_eq_true rfl) dX5_readFrom_62) (fun s62 h => ?_)
    refine g_aload_n hC 0 dX5_readFrom_65 rfl rfl ?_
    refine g_dup hC dX5_readFrom_66 rfl ?_
    refine g_get (C := RX5) (T := TX5) (N := 8) (v := .int (s62.1 (2, 0, 0) 7)) hC o_iX5 (o_eX5 _ _ _ _) rfl ki_X5_readFrom_X5 7 (by decide) kw_X5_readFrom_2 rfl dX5_readFrom_67 ?_
    refine g_iconst (v := (1 : Int32)) hC dX5_readFrom_70 (by decide) ?_
    refine g_iadd hC dX5_readFrom_71 ?_
    refine g_puti (C := RX5) (T := TX5) (N := 8) hC o_iX5 (o_eX5 _ _ _ _) rfl ki_X5_readFrom_X5 tyX5_ok nmX5 7 (by decide) kw_X5_readFrom_2 rfl rfl rfl (Nat.le_of_ble_eq_true rfl) (o_pX5_7 _ _ _ _ _) dX5_readFrom_72 ?_
    refine g_iinc (v := (x2 + (1 : Int32))) hC 2 [(2, .int (x2 + (1 : Int32))), (0, .ref (ox_φ X (2, 0, 0))), (1, .ref (ox_φ X (1, 0, 0)))] dX5_readFrom_75 rfl rfl (by decide) rfl ?_
    refine g_goto hC 38 dX5_readFrom_78 (by decide) ?_
    refine g_sub [1, 2, 0] rfl ?_
    exact hK38 _ _ h
set_option maxHeartbeats 4000000 in
set_option maxRecDepth 100000 in
theorem lp_X5_readFrom_38 {X : OX} {post : SS → Prop} (hC : o_C X cX5_readFrom RX5 wsX5_readFrom 2 42 3) (hR : o_RV X cX5_readFrom post) : ∀ (n : Nat) (a : Int32) (σ : SS), LP_X5_readFrom_38 post n a σ → o_G X σ 38 [(0, .ref (ox_φ X (2, 0, 0))), (1, .ref (ox_φ X (1, 0, 0))), (2, .int a)] [] :=
 o_lp_G (fun K hK a σ h => wb_X5_readFrom_38 hC hR (fun x2 σ h => hK x2 σ h) h)
set_option maxHeartbeats 4000000 in
set_option maxRecDepth 100000 in
theorem wb_X5_readFrom_2 {X : OX} {post : SS → Prop} {K2 : Int32 → SS → Prop} {x2 : Int32} {σ : SS} (hC : o_C X cX5_readFrom RX5 wsX5_readFrom 2 42 3) (hR : o_RV X cX5_readFrom post) (hK2 : ∀ (x2 : Int32) (σ : SS), K2 x2 σ → o_G X σ 2 [(0, .ref (ox_φ X (2, 0, 0))), (1, .ref (ox_φ X (1, 0, 0))), (2, .int x2)] []) (h : VB_X5_readFrom_2 post K2 x2 σ) : o_G X σ 2 [(0, .ref (ox_φ X (2, 0, 0))), (1, .ref (ox_φ X (1, 0, 0))), (2, .int x2)] [] := by
  unfold VB_X5_readFrom_2 at h
  refine g_iload_n hC 2 dX5_readFrom_2 rfl rfl ?_
  refine g_bipush (v := (6 : Int32)) hC dX5_readFrom_3 (by decide) ?_
  refine g_icmp_ge hC 30 dX5_readFrom_5 (by decide) (fun z => ?_) (fun z => ?_)
  · have h := h.1 z
    refine g_aload_n hC 0 dX5_readFrom_30 rfl rfl ?_
    refine g_iconst (v := (0 : Int32)) hC dX5_readFrom_31 (by decide) ?_
    refine g_puti (C := RX5) (T := TX5) (N := 8) hC o_iX5 (o_eX5 _ _ _ _) rfl ki_X5_readFrom_X5 tyX5_ok nmX5 7 (by decide) kw_X5_readFrom_2 rfl rfl rfl (Nat.le_of_ble_eq_true rfl) (o_pX5_7 _ _ _ _ _) dX5_readFrom_32 ?_
    refine g_bipush (v := (7 : Int32)) hC dX5_readFrom_35 (by decide) ?_
    refine g_istore_n hC [(2, .int (7 : Int32)), (0, .ref (ox_φ X (2, 0, 0))), (1, .ref (ox_φ X (1, 0, 0)))] dX5_readFrom_37 rfl (by decide) rfl ?_
    refine g_sub [1, 2, 0] rfl ?_
    obtain ⟨n, h⟩ := h
    exact lp_X5_readFrom_38 hC hR n _ _ h
  · have h := h.2 z
    refine g_aload_n hC 0 dX5_readFrom_8 rfl rfl ?_
    refine g_get (C := RX5) (T := TX5) (N := 8) (v := .ref (ox_φ X (10, 0, 1))) hC o_iX5 (o_eX5 _ _ _ _) rfl ki_X5_readFrom_X5 0 (by decide) kw_X5_readFrom_1 rfl dX5_readFrom_9 ?_
    refine g_iload_n hC 2 dX5_readFrom_12 rfl rfl ?_
    refine g_aload_n hC 1 dX5_readFrom_13 rfl rfl ?_
    refine g_iload_n hC 2 dX5_readFrom_14 rfl rfl ?_
    refine g_ri (r_V (C := RX3) (T := TX3) (N := 2) (As := [.int x2]) (rest := [.int x2, .ref (ox_φ X (10, 0, 1))]) hC o_iX3 (o_eX3 _ _ _ _) rfl (c_X3_letterAt (l := ox_l X) (φ := ox_φ X) (D := ox_D X) (cI := ox_I X) (cB := ox_B X) hC.J  h) gX5_readFrom_X3_letterAt rfl hd_X3_letterAt ⟨Nat.le_of_ble_eq_true rfl, Nat.le_of_ble_eq_true rfl⟩ rfl rfl (Nat.le_of_ble_eq_true rfl) dX5_readFrom_15) (fun v15 s15 h => ?_)
    refine g_bipush (v := (48 : Int32)) hC dX5_readFrom_18 (by decide) ?_
    refine g_isub hC dX5_readFrom_20 ?_
    refine g_rv (r_V (C := RX0) (T := TX0) (N := 1) (As := [.int x2, .int (v15 - (48 : Int32))]) (rest := []) hC (o_Cl10 1 (by decide)).1 ((o_Cl10 1 (by decide)).2.1 _ _ _ _) rfl (c_X0_put (l := ox_l X) (φ := ox_φ X) (D := ox_D X) (cI := ox_I X) (cB := ox_B X) hC.J (o_Cl10 1 (by decide)) h) gX5_readFrom_X0_put rfl hd_X0_put ⟨Nat.le_of_ble_eq_true rfl, Nat.le_of_ble_eq_true rfl⟩ rfl rfl (Nat.le_of_ble_eq_true rfl) dX5_readFrom_21) (fun s21 h => ?_)
    refine g_iinc (v := (x2 + (1 : Int32))) hC 2 [(2, .int (x2 + (1 : Int32))), (0, .ref (ox_φ X (2, 0, 0))), (1, .ref (ox_φ X (1, 0, 0)))] dX5_readFrom_24 rfl rfl (by decide) rfl ?_
    refine g_goto hC 2 dX5_readFrom_27 (by decide) ?_
    refine g_sub [1, 2, 0] rfl ?_
    exact hK2 _ _ h
set_option maxHeartbeats 4000000 in
set_option maxRecDepth 100000 in
theorem lp_X5_readFrom_2 {X : OX} {post : SS → Prop} (hC : o_C X cX5_readFrom RX5 wsX5_readFrom 2 42 3) (hR : o_RV X cX5_readFrom post) : ∀ (n : Nat) (a : Int32) (σ : SS), LP_X5_readFrom_2 post n a σ → o_G X σ 2 [(0, .ref (ox_φ X (2, 0, 0))), (1, .ref (ox_φ X (1, 0, 0))), (2, .int a)] [] :=
 o_lp_G (fun K hK a σ h => wb_X5_readFrom_2 hC hR (fun x2 σ h => hK x2 σ h) h)
set_option maxHeartbeats 4000000 in
set_option maxRecDepth 100000 in
theorem wv_X5_readFrom {X : OX} {post : SS → Prop} {σ : SS} (hC : o_C X cX5_readFrom RX5 wsX5_readFrom 2 42 3) (hR : o_RV X cX5_readFrom post) (h : V_X5_readFrom σ post) : o_G X σ 0 [(0, .ref (ox_φ X (2, 0, 0))), (1, .ref (ox_φ X (1, 0, 0)))] [] := by
  unfold V_X5_readFrom at h
  refine g_iconst (v := (0 : Int32)) hC dX5_readFrom_0 (by decide) ?_
  refine g_istore_n hC [(2, .int (0 : Int32)), (0, .ref (ox_φ X (2, 0, 0))), (1, .ref (ox_φ X (1, 0, 0)))] dX5_readFrom_1 rfl (by decide) rfl ?_
  refine g_sub [1, 2, 0] rfl ?_
  obtain ⟨n, h⟩ := h
  exact lp_X5_readFrom_2 hC hR n _ _ h
set_option maxRecDepth 100000 in
theorem c_X5_readFrom {l : Launch} {φ : OI → Nat} {D : va_G} {cI cB : ClassId} (hJ : o_J φ) {σ : SS} {post : SS → Prop} (h : V_X5_readFrom σ post) : o_Mv l φ D cI cB yX5_readFrom wsX5_readFrom 2 42 [.ref (φ (2, 0, 0)), .ref (φ (1, 0, 0))] σ post :=
 o_met_v hJ (by decide +kernel) rfl (Nat.le_of_ble_eq_true rfl) (fun p e s m args below meth c Q hC hR => wv_X5_readFrom hC hR h)
theorem kw_X5_digit_1 : Cond.fieldLink RX5 14 "SchoolRow$School" "digits" "LSchoolRow$Cells;" ∈ wsX5_digit := List.mem_of_getElem? (i := 1) (by decide +kernel)
theorem ki_X5_digit_X5 : ∀ w ∈ wsX50, w ∈ wsX5_digit := fun _ h => List.mem_cons_of_mem _ (List.mem_append_left _ (List.mem_append_right _ h))
theorem hd_X5_digit : yX5_digit.cls = RX5 ∧ yX5_digit.cls ≠ "java/lang/invoke/MethodHandle" ∧ yX5_digit.cls ≠ "java/lang/invoke/VarHandle" ∧ (parseMethodDescriptor yX5_digit.desc).map (fun d => d.parameters.length) = some 1 := by decide +kernel
set_option maxHeartbeats 4000000 in
set_option maxRecDepth 100000 in
theorem wv_X5_digit {X : OX} {x1 : Int32} {post : Int32 → SS → Prop} {σ : SS} (hC : o_C X cX5_digit RX5 wsX5_digit 1 21 2) (hR : o_RI X cX5_digit post) (h : V_X5_digit x1 σ post) : o_G X σ 0 [(0, .ref (ox_φ X (2, 0, 0))), (1, .int x1)] [] := by
  unfold V_X5_digit at h
  refine g_aload_n hC 0 dX5_digit_0 rfl rfl ?_
  refine g_get (C := RX5) (T := TX5) (N := 8) (v := .ref (ox_φ X (10, 0, 1))) hC o_iX5 (o_eX5 _ _ _ _) rfl ki_X5_digit_X5 0 (by decide) kw_X5_digit_1 rfl dX5_digit_1 ?_
  refine g_iload_n hC 1 dX5_digit_4 rfl rfl ?_
  refine g_ri (r_V (C := RX0) (T := TX0) (N := 1) (As := [.int x1]) (rest := []) hC (o_Cl10 1 (by decide)).1 ((o_Cl10 1 (by decide)).2.1 _ _ _ _) rfl (c_X0_at (l := ox_l X) (φ := ox_φ X) (D := ox_D X) (cI := ox_I X) (cB := ox_B X) hC.J (o_Cl10 1 (by decide)) h) gX5_digit_X0_at rfl hd_X0_at ⟨Nat.le_of_ble_eq_true rfl, Nat.le_of_ble_eq_true rfl⟩ rfl rfl (Nat.le_of_ble_eq_true rfl) dX5_digit_5) (fun v5 s5 h => ?_)
  exact hR _ _ _ _ dX5_digit_8 h
set_option maxRecDepth 100000 in
theorem c_X5_digit {l : Launch} {φ : OI → Nat} {D : va_G} {cI cB : ClassId} (hJ : o_J φ) {x1 : Int32} {σ : SS} {post : Int32 → SS → Prop} (h : V_X5_digit x1 σ post) : o_Mi l φ D cI cB yX5_digit wsX5_digit 1 21 [.ref (φ (2, 0, 0)), .int x1] σ post :=
 o_met_i hJ (by decide +kernel) rfl (Nat.le_of_ble_eq_true rfl) (fun p e s m args below meth c Q hC hR => wv_X5_digit hC hR h)
theorem kw_X5_kindNumber_1 : Cond.fieldLink RX5 20 "SchoolRow$School" "kindNumbers" "LSchoolRow$Cells;" ∈ wsX5_kindNumber := List.mem_of_getElem? (i := 1) (by decide +kernel)
theorem ki_X5_kindNumber_X5 : ∀ w ∈ wsX50, w ∈ wsX5_kindNumber := fun _ h => List.mem_cons_of_mem _ (List.mem_append_left _ (List.mem_append_right _ h))
theorem hd_X5_kindNumber : yX5_kindNumber.cls = RX5 ∧ yX5_kindNumber.cls ≠ "java/lang/invoke/MethodHandle" ∧ yX5_kindNumber.cls ≠ "java/lang/invoke/VarHandle" ∧ (parseMethodDescriptor yX5_kindNumber.desc).map (fun d => d.parameters.length) = some 1 := by decide +kernel
set_option maxHeartbeats 4000000 in
set_option maxRecDepth 100000 in
theorem wv_X5_kindNumber {X : OX} {x1 : Int32} {post : Int32 → SS → Prop} {σ : SS} (hC : o_C X cX5_kindNumber RX5 wsX5_kindNumber 1 21 2) (hR : o_RI X cX5_kindNumber post) (h : V_X5_kindNumber x1 σ post) : o_G X σ 0 [(0, .ref (ox_φ X (2, 0, 0))), (1, .int x1)] [] := by
  unfold V_X5_kindNumber at h
  refine g_aload_n hC 0 dX5_kindNumber_0 rfl rfl ?_
  refine g_get (C := RX5) (T := TX5) (N := 8) (v := .ref (ox_φ X (10, 0, 2))) hC o_iX5 (o_eX5 _ _ _ _) rfl ki_X5_kindNumber_X5 1 (by decide) kw_X5_kindNumber_1 rfl dX5_kindNumber_1 ?_
  refine g_iload_n hC 1 dX5_kindNumber_4 rfl rfl ?_
  refine g_ri (r_V (C := RX0) (T := TX0) (N := 1) (As := [.int x1]) (rest := []) hC (o_Cl10 2 (by decide)).1 ((o_Cl10 2 (by decide)).2.1 _ _ _ _) rfl (c_X0_at (l := ox_l X) (φ := ox_φ X) (D := ox_D X) (cI := ox_I X) (cB := ox_B X) hC.J (o_Cl10 2 (by decide)) h) gX5_kindNumber_X0_at rfl hd_X0_at ⟨Nat.le_of_ble_eq_true rfl, Nat.le_of_ble_eq_true rfl⟩ rfl rfl (Nat.le_of_ble_eq_true rfl) dX5_kindNumber_5) (fun v5 s5 h => ?_)
  exact hR _ _ _ _ dX5_kindNumber_8 h
set_option maxRecDepth 100000 in
theorem c_X5_kindNumber {l : Launch} {φ : OI → Nat} {D : va_G} {cI cB : ClassId} (hJ : o_J φ) {x1 : Int32} {σ : SS} {post : Int32 → SS → Prop} (h : V_X5_kindNumber x1 σ post) : o_Mi l φ D cI cB yX5_kindNumber wsX5_kindNumber 1 21 [.ref (φ (2, 0, 0)), .int x1] σ post :=
 o_met_i hJ (by decide +kernel) rfl (Nat.le_of_ble_eq_true rfl) (fun p e s m args below meth c Q hC hR => wv_X5_kindNumber hC hR h)
theorem kw_X9_letter_1 : Cond.fieldLink RX9 12 "SchoolRow" "page" "LSchoolRow$Page;" ∈ wsX9_letter := List.mem_of_getElem? (i := 1) (by decide +kernel)
theorem ki_X9_letter_X9 : ∀ w ∈ wsX90, w ∈ wsX9_letter := fun _ h => List.mem_cons_of_mem _ (List.mem_append_left _ (List.mem_append_left _ (List.mem_append_right _ h)))
theorem hd_X9_letter : yX9_letter.cls = RX9 ∧ yX9_letter.cls ≠ "java/lang/invoke/MethodHandle" ∧ yX9_letter.cls ≠ "java/lang/invoke/VarHandle" ∧ (parseMethodDescriptor yX9_letter.desc).map (fun d => d.parameters.length) = some 1 := by decide +kernel
set_option maxHeartbeats 4000000 in
set_option maxRecDepth 100000 in
theorem wb_X9_letter_12 {X : OX} {post : Int32 → SS → Prop} {σ : SS} (hC : o_C X cX9_letter RX9 wsX9_letter 2 43 2) (hR : o_RI X cX9_letter post) (h : VB_X9_letter_12 post σ) : o_G X σ 12 [] [] := by
  unfold VB_X9_letter_12 at h
  refine g_bipush (v := (-102 : Int32)) hC dX9_letter_12 (by decide) ?_
  exact hR _ _ _ _ dX9_letter_14 h
set_option maxHeartbeats 4000000 in
set_option maxRecDepth 100000 in
theorem wv_X9_letter {X : OX} {x1 : Int32} {post : Int32 → SS → Prop} {σ : SS} (hC : o_C X cX9_letter RX9 wsX9_letter 2 43 2) (hR : o_RI X cX9_letter post) (h : V_X9_letter x1 σ post) : o_G X σ 0 [(0, .ref (ox_φ X (0, 0, 0))), (1, .int x1)] [] := by
  unfold V_X9_letter at h
  refine g_iload_n hC 1 dX9_letter_0 rfl rfl ?_
  refine g_bipush (v := (32 : Int32)) hC dX9_letter_1 (by decide) ?_
  refine g_icmp_lt hC 12 dX9_letter_3 (by decide) (fun z => ?_) (fun z => ?_)
  · have h := h.1 z
    refine g_sub [] rfl ?_
    exact wb_X9_letter_12 hC hR h
  · have h := h.2 z
    refine g_iload_n hC 1 dX9_letter_6 rfl rfl ?_
    refine g_bipush (v := (126 : Int32)) hC dX9_letter_7 (by decide) ?_
    refine g_icmp_le hC 15 dX9_letter_9 (by decide) (fun z => ?_) (fun z => ?_)
    · have h := h.1 z
      refine g_aload_n hC 0 dX9_letter_15 rfl rfl ?_
      refine g_get (C := RX9) (T := TX9) (N := 9) (v := .ref (ox_φ X (1, 0, 0))) hC o_iX9 (o_eX9 _ _ _ _) rfl ki_X9_letter_X9 0 (by decide) kw_X9_letter_1 rfl dX9_letter_16 ?_
      refine g_ri (r_V (C := RX3) (T := TX3) (N := 2) (As := []) (rest := []) hC o_iX3 (o_eX3 _ _ _ _) rfl (c_X3_length (l := ox_l X) (φ := ox_φ X) (D := ox_D X) (cI := ox_I X) (cB := ox_B X) hC.J  h) gX9_letter_X3_length rfl hd_X3_length ⟨Nat.le_of_ble_eq_true rfl, Nat.le_of_ble_eq_true rfl⟩ rfl rfl (Nat.le_of_ble_eq_true rfl) dX9_letter_19) (fun v19 s19 h => ?_)
      refine g_bipush (v := (14 : Int32)) hC dX9_letter_22 (by decide) ?_
      refine g_icmp_lt hC 30 dX9_letter_24 (by decide) (fun z => ?_) (fun z => ?_)
      · have h := h.1 z
        refine g_aload_n hC 0 dX9_letter_30 rfl rfl ?_
        refine g_get (C := RX9) (T := TX9) (N := 9) (v := .ref (ox_φ X (1, 0, 0))) hC o_iX9 (o_eX9 _ _ _ _) rfl ki_X9_letter_X9 0 (by decide) kw_X9_letter_1 rfl dX9_letter_31 ?_
        refine g_iload_n hC 1 dX9_letter_34 rfl rfl ?_
        refine g_rv (r_V (C := RX3) (T := TX3) (N := 2) (As := [.int x1]) (rest := []) hC o_iX3 (o_eX3 _ _ _ _) rfl (c_X3_add (l := ox_l X) (φ := ox_φ X) (D := ox_D X) (cI := ox_I X) (cB := ox_B X) hC.J  h) gX9_letter_X3_add rfl hd_X3_add ⟨Nat.le_of_ble_eq_true rfl, Nat.le_of_ble_eq_true rfl⟩ rfl rfl (Nat.le_of_ble_eq_true rfl) dX9_letter_35) (fun s35 h => ?_)
        refine g_aload_n hC 0 dX9_letter_38 rfl rfl ?_
        refine g_get (C := RX9) (T := TX9) (N := 9) (v := .ref (ox_φ X (1, 0, 0))) hC o_iX9 (o_eX9 _ _ _ _) rfl ki_X9_letter_X9 0 (by decide) kw_X9_letter_1 rfl dX9_letter_39 ?_
        refine g_ri (r_V (C := RX3) (T := TX3) (N := 2) (As := []) (rest := []) hC o_iX3 (o_eX3 _ _ _ _) rfl (c_X3_length (l := ox_l X) (φ := ox_φ X) (D := ox_D X) (cI := ox_I X) (cB := ox_B X) hC.J  h) gX9_letter_X3_length rfl hd_X3_length ⟨Nat.le_of_ble_eq_true rfl, Nat.le_of_ble_eq_true rfl⟩ rfl rfl (Nat.le_of_ble_eq_true rfl) dX9_letter_42) (fun v42 s42 h => ?_)
        exact hR _ _ _ _ dX9_letter_45 h
      · have h := h.2 z
        refine g_bipush (v := (-104 : Int32)) hC dX9_letter_27 (by decide) ?_
        exact hR _ _ _ _ dX9_letter_29 h
    · have h := h.2 z
      refine g_sub [] rfl ?_
      exact wb_X9_letter_12 hC hR h
set_option maxRecDepth 100000 in
theorem c_X9_letter {l : Launch} {φ : OI → Nat} {D : va_G} {cI cB : ClassId} (hJ : o_J φ) {x1 : Int32} {σ : SS} {post : Int32 → SS → Prop} (h : V_X9_letter x1 σ post) : o_Mi l φ D cI cB yX9_letter wsX9_letter 2 43 [.ref (φ (0, 0, 0)), .int x1] σ post :=
 o_met_i hJ (by decide +kernel) rfl (Nat.le_of_ble_eq_true rfl) (fun p e s m args below meth c Q hC hR => wv_X9_letter hC hR h)
theorem kw_X9_blank_1 : Cond.fieldLink RX9 12 "SchoolRow" "page" "LSchoolRow$Page;" ∈ wsX9_blank := List.mem_of_getElem? (i := 1) (by decide +kernel)
theorem ki_X9_blank_X9 : ∀ w ∈ wsX90, w ∈ wsX9_blank := fun _ h => List.mem_cons_of_mem _ (List.mem_append_left _ (List.mem_append_right _ h))
theorem hd_X9_blank : yX9_blank.cls = RX9 ∧ yX9_blank.cls ≠ "java/lang/invoke/MethodHandle" ∧ yX9_blank.cls ≠ "java/lang/invoke/VarHandle" ∧ (parseMethodDescriptor yX9_blank.desc).map (fun d => d.parameters.length) = some 0 := by decide +kernel
set_option maxHeartbeats 4000000 in
set_option maxRecDepth 100000 in
theorem wv_X9_blank {X : OX} {post : Int32 → SS → Prop} {σ : SS} (hC : o_C X cX9_blank RX9 wsX9_blank 1 20 2) (hR : o_RI X cX9_blank post) (h : V_X9_blank σ post) : o_G X σ 0 [(0, .ref (ox_φ X (0, 0, 0)))] [] := by
  unfold V_X9_blank at h
  refine g_aload_n hC 0 dX9_blank_0 rfl rfl ?_
  refine g_get (C := RX9) (T := TX9) (N := 9) (v := .ref (ox_φ X (1, 0, 0))) hC o_iX9 (o_eX9 _ _ _ _) rfl ki_X9_blank_X9 0 (by decide) kw_X9_blank_1 rfl dX9_blank_1 ?_
  refine g_ri (r_V (C := RX3) (T := TX3) (N := 2) (As := []) (rest := []) hC o_iX3 (o_eX3 _ _ _ _) rfl (c_X3_length (l := ox_l X) (φ := ox_φ X) (D := ox_D X) (cI := ox_I X) (cB := ox_B X) hC.J  h) gX9_blank_X3_length rfl hd_X3_length ⟨Nat.le_of_ble_eq_true rfl, Nat.le_of_ble_eq_true rfl⟩ rfl rfl (Nat.le_of_ble_eq_true rfl) dX9_blank_4) (fun v4 s4 h => ?_)
  refine g_istore_n hC [(1, .int v4), (0, .ref (ox_φ X (0, 0, 0)))] dX9_blank_7 rfl (by decide) rfl ?_
  refine g_aload_n hC 1 dX9_blank_8 rfl rfl ?_
  refine g_get (C := RX9) (T := TX9) (N := 9) (v := .ref (ox_φ X (1, 0, 0))) hC o_iX9 (o_eX9 _ _ _ _) rfl ki_X9_blank_X9 0 (by decide) kw_X9_blank_1 rfl dX9_blank_9 ?_
  refine g_rv (r_V (C := RX3) (T := TX3) (N := 2) (As := []) (rest := []) hC o_iX3 (o_eX3 _ _ _ _) rfl (c_X3_clear (l := ox_l X) (φ := ox_φ X) (D := ox_D X) (cI := ox_I X) (cB := ox_B X) hC.J  h) gX9_blank_X3_clear rfl hd_X3_clear ⟨Nat.le_of_ble_eq_true rfl, Nat.le_of_ble_eq_true rfl⟩ rfl rfl (Nat.le_of_ble_eq_true rfl) dX9_blank_12) (fun s12 h => ?_)
  refine g_iload_n hC 0 dX9_blank_15 rfl rfl ?_
  exact hR _ _ _ _ dX9_blank_16 h
set_option maxRecDepth 100000 in
theorem c_X9_blank {l : Launch} {φ : OI → Nat} {D : va_G} {cI cB : ClassId} (hJ : o_J φ) {σ : SS} {post : Int32 → SS → Prop} (h : V_X9_blank σ post) : o_Mi l φ D cI cB yX9_blank wsX9_blank 1 20 [.ref (φ (0, 0, 0))] σ post :=
 o_met_i hJ (by decide +kernel) rfl (Nat.le_of_ble_eq_true rfl) (fun p e s m args below meth c Q hC hR => wv_X9_blank hC hR h)
theorem kw_X9_fault_1 : Cond.fieldLink RX9 12 "SchoolRow" "page" "LSchoolRow$Page;" ∈ wsX9_fault := List.mem_of_getElem? (i := 1) (by decide +kernel)
theorem ki_X9_fault_X9 : ∀ w ∈ wsX90, w ∈ wsX9_fault := fun _ h => List.mem_cons_of_mem _ (List.mem_append_left _ (List.mem_append_left _ (List.mem_append_right _ h)))
theorem hd_X9_fault : yX9_fault.cls = RX9 ∧ yX9_fault.cls ≠ "java/lang/invoke/MethodHandle" ∧ yX9_fault.cls ≠ "java/lang/invoke/VarHandle" ∧ (parseMethodDescriptor yX9_fault.desc).map (fun d => d.parameters.length) = some 0 := by decide +kernel
set_option maxHeartbeats 4000000 in
set_option maxRecDepth 100000 in
theorem wv_X9_fault {X : OX} {post : Int32 → SS → Prop} {σ : SS} (hC : o_C X cX9_fault RX9 wsX9_fault 3 62 1) (hR : o_RI X cX9_fault post) (h : V_X9_fault σ post) : o_G X σ 0 [(0, .ref (ox_φ X (0, 0, 0)))] [] := by
  unfold V_X9_fault at h
  refine g_aload_n hC 0 dX9_fault_0 rfl rfl ?_
  refine g_get (C := RX9) (T := TX9) (N := 9) (v := .ref (ox_φ X (1, 0, 0))) hC o_iX9 (o_eX9 _ _ _ _) rfl ki_X9_fault_X9 0 (by decide) kw_X9_fault_1 rfl dX9_fault_1 ?_
  refine g_ri (r_V (C := RX3) (T := TX3) (N := 2) (As := []) (rest := []) hC o_iX3 (o_eX3 _ _ _ _) rfl (c_X3_firstFault (l := ox_l X) (φ := ox_φ X) (D := ox_D X) (cI := ox_I X) (cB := ox_B X) hC.J  h) gX9_fault_X3_firstFault rfl hd_X3_firstFault ⟨Nat.le_of_ble_eq_true rfl, Nat.le_of_ble_eq_true rfl⟩ rfl rfl (Nat.le_of_ble_eq_true rfl) dX9_fault_4) (fun v4 s4 h => ?_)
  exact hR _ _ _ _ dX9_fault_7 h
set_option maxRecDepth 100000 in
theorem c_X9_fault {l : Launch} {φ : OI → Nat} {D : va_G} {cI cB : ClassId} (hJ : o_J φ) {σ : SS} {post : Int32 → SS → Prop} (h : V_X9_fault σ post) : o_Mi l φ D cI cB yX9_fault wsX9_fault 3 62 [.ref (φ (0, 0, 0))] σ post :=
 o_met_i hJ (by decide +kernel) rfl (Nat.le_of_ble_eq_true rfl) (fun p e s m args below meth c Q hC hR => wv_X9_fault hC hR h)
theorem kw_X9_school_1 : Cond.fieldLink RX9 12 "SchoolRow" "page" "LSchoolRow$Page;" ∈ wsX9_school := List.mem_of_getElem? (i := 1) (by decide +kernel)
theorem kw_X9_school_2 : Cond.fieldLink RX9 19 "SchoolRow" "school" "LSchoolRow$School;" ∈ wsX9_school := List.mem_of_getElem? (i := 2) (by decide +kernel)
theorem kw_X9_school_3 : Cond.fieldLink RX9 28 "SchoolRow" "now" "LSchoolRow$Row;" ∈ wsX9_school := List.mem_of_getElem? (i := 3) (by decide +kernel)
theorem kw_X9_school_4 : Cond.fieldLink RX9 66 "SchoolRow" "keptStands" "Z" ∈ wsX9_school := List.mem_of_getElem? (i := 4) (by decide +kernel)
theorem kw_X9_school_5 : Cond.fieldLink RX9 70 "SchoolRow" "bestStands" "Z" ∈ wsX9_school := List.mem_of_getElem? (i := 5) (by decide +kernel)
theorem kw_X9_school_6 : Cond.fieldLink RX9 73 "SchoolRow" "schoolsRead" "I" ∈ wsX9_school := List.mem_of_getElem? (i := 6) (by decide +kernel)
theorem ki_X9_school_X9 : ∀ w ∈ wsX90, w ∈ wsX9_school := fun _ h => List.mem_cons_of_mem _ (List.mem_append_left _ (List.mem_append_left _ (List.mem_append_left _ (List.mem_append_left _ (List.mem_append_right _ h)))))
theorem hd_X9_school : yX9_school.cls = RX9 ∧ yX9_school.cls ≠ "java/lang/invoke/MethodHandle" ∧ yX9_school.cls ≠ "java/lang/invoke/VarHandle" ∧ (parseMethodDescriptor yX9_school.desc).map (fun d => d.parameters.length) = some 0 := by decide +kernel
set_option maxHeartbeats 4000000 in
set_option maxRecDepth 100000 in
theorem wv_X9_school {X : OX} {post : Int32 → SS → Prop} {σ : SS} (hC : o_C X cX9_school RX9 wsX9_school 4 82 1) (hR : o_RI X cX9_school post) (h : V_X9_school σ post) : o_G X σ 0 [(0, .ref (ox_φ X (0, 0, 0)))] [] := by
  unfold V_X9_school at h
  refine g_aload_n hC 0 dX9_school_0 rfl rfl ?_
  refine g_get (C := RX9) (T := TX9) (N := 9) (v := .ref (ox_φ X (1, 0, 0))) hC o_iX9 (o_eX9 _ _ _ _) rfl ki_X9_school_X9 0 (by decide) kw_X9_school_1 rfl dX9_school_1 ?_
  refine g_ri (r_V (C := RX3) (T := TX3) (N := 2) (As := []) (rest := []) hC o_iX3 (o_eX3 _ _ _ _) rfl (c_X3_isSchool (l := ox_l X) (φ := ox_φ X) (D := ox_D X) (cI := ox_I X) (cB := ox_B X) hC.J  h) gX9_school_X3_isSchool rfl hd_X3_isSchool ⟨Nat.le_of_ble_eq_true rfl, Nat.le_of_ble_eq_true rfl⟩ rfl rfl (Nat.le_of_ble_eq_true rfl) dX9_school_4) (fun v4 s4 h => ?_)
  refine g_if_ne hC 13 dX9_school_7 (by decide) (fun z => ?_) (fun z => ?_)
  · have h := h.1 z
    refine g_aload_n hC 0 dX9_school_13 rfl rfl ?_
    refine g_get (C := RX9) (T := TX9) (N := 9) (v := .ref (ox_φ X (2, 0, 0))) hC o_iX9 (o_eX9 _ _ _ _) rfl ki_X9_school_X9 1 (by decide) kw_X9_school_2 rfl dX9_school_14 ?_
    refine g_aload_n hC 0 dX9_school_17 rfl rfl ?_
    refine g_get (C := RX9) (T := TX9) (N := 9) (v := .ref (ox_φ X (1, 0, 0))) hC o_iX9 (o_eX9 _ _ _ _) rfl ki_X9_school_X9 0 (by decide) kw_X9_school_1 rfl dX9_school_18 ?_
    refine g_rv (r_V (C := RX5) (T := TX5) (N := 8) (As := [.ref (ox_φ X (1, 0, 0))]) (rest := []) hC o_iX5 (o_eX5 _ _ _ _) rfl (c_X5_readFrom (l := ox_l X) (φ := ox_φ X) (D := ox_D X) (cI := ox_I X) (cB := ox_B X) hC.J  h) gX9_school_X5_readFrom rfl hd_X5_readFrom ⟨Nat.le_of_ble_eq_true rfl, Nat.le_of_ble_eq_true rfl⟩ rfl rfl (Nat.le_of_ble_eq_true rfl) dX9_school_21) (fun s21 h => ?_)
    refine g_aload_n hC 0 dX9_school_24 rfl rfl ?_
    refine g_get (C := RX9) (T := TX9) (N := 9) (v := .ref (ox_φ X (1, 0, 0))) hC o_iX9 (o_eX9 _ _ _ _) rfl ki_X9_school_X9 0 (by decide) kw_X9_school_1 rfl dX9_school_25 ?_
    refine g_rv (r_V (C := RX3) (T := TX3) (N := 2) (As := []) (rest := []) hC o_iX3 (o_eX3 _ _ _ _) rfl (c_X3_clear (l := ox_l X) (φ := ox_φ X) (D := ox_D X) (cI := ox_I X) (cB := ox_B X) hC.J  h) gX9_school_X3_clear rfl hd_X3_clear ⟨Nat.le_of_ble_eq_true rfl, Nat.le_of_ble_eq_true rfl⟩ rfl rfl (Nat.le_of_ble_eq_true rfl) dX9_school_28) (fun s28 h => ?_)
    refine g_aload_n hC 0 dX9_school_31 rfl rfl ?_
    refine g_get (C := RX9) (T := TX9) (N := 9) (v := .ref (ox_φ X (3, 0, 0))) hC o_iX9 (o_eX9 _ _ _ _) rfl ki_X9_school_X9 2 (by decide) kw_X9_school_3 rfl dX9_school_32 ?_
    refine g_rv (r_V (C := RX4) (T := TX4) (N := 6) (As := []) (rest := []) hC (o_in3 0 (by decide)) (o_eX4 _ _ _ _ _) rfl (c_X4_startAfresh (l := ox_l X) (φ := ox_φ X) (D := ox_D X) (cI := ox_I X) (cB := ox_B X) hC.J (by decide) h) gX9_school_X4_startAfresh rfl hd_X4_startAfresh ⟨Nat.le_of_ble_eq_true rfl, Nat.le_of_ble_eq_true rfl⟩ rfl rfl (Nat.le_of_ble_eq_true rfl) dX9_school_35) (fun s35 h => ?_)
    refine g_aload_n hC 0 dX9_school_38 rfl rfl ?_
    refine g_iconst (v := (0 : Int32)) hC dX9_school_39 (by decide) ?_
    refine g_puti (C := RX9) (T := TX9) (N := 9) hC o_iX9 (o_eX9 _ _ _ _) rfl ki_X9_school_X9 tyX9_ok nmX9 6 (by decide) kw_X9_school_4 rfl rfl rfl (Nat.le_of_ble_eq_true rfl) (o_pX9_6 _ _ _ _ _) dX9_school_40 ?_
    refine g_aload_n hC 0 dX9_school_43 rfl rfl ?_
    refine g_iconst (v := (0 : Int32)) hC dX9_school_44 (by decide) ?_
    refine g_puti (C := RX9) (T := TX9) (N := 9) hC o_iX9 (o_eX9 _ _ _ _) rfl ki_X9_school_X9 tyX9_ok nmX9 7 (by decide) kw_X9_school_5 rfl rfl rfl (Nat.le_of_ble_eq_true rfl) (o_pX9_7 _ _ _ _ _) dX9_school_45 ?_
    refine g_aload_n hC 0 dX9_school_48 rfl rfl ?_
    refine g_dup hC dX9_school_49 rfl ?_
    refine g_get (C := RX9) (T := TX9) (N := 9) (v := .int ((o_wr (o_wr s35 (0, 0, 0) 6 (0 : Int32)) (0, 0, 0) 7 (0 : Int32)).1 (0, 0, 0) 8)) hC o_iX9 (o_eX9 _ _ _ _) rfl ki_X9_school_X9 8 (by decide) kw_X9_school_6 rfl dX9_school_50 ?_
    refine g_iconst (v := (1 : Int32)) hC dX9_school_53 (by decide) ?_
    refine g_iadd hC dX9_school_54 ?_
    refine g_puti (C := RX9) (T := TX9) (N := 9) hC o_iX9 (o_eX9 _ _ _ _) rfl ki_X9_school_X9 tyX9_ok nmX9 8 (by decide) kw_X9_school_6 rfl rfl rfl (Nat.le_of_ble_eq_true rfl) (o_pX9_8 _ _ _ _ _) dX9_school_55 ?_
    refine g_aload_n hC 0 dX9_school_58 rfl rfl ?_
    refine g_get (C := RX9) (T := TX9) (N := 9) (v := .ref (ox_φ X (2, 0, 0))) hC o_iX9 (o_eX9 _ _ _ _) rfl ki_X9_school_X9 1 (by decide) kw_X9_school_2 rfl dX9_school_59 ?_
    refine g_ri (r_V (C := RX5) (T := TX5) (N := 8) (As := []) (rest := []) hC o_iX5 (o_eX5 _ _ _ _) rfl (c_X5_size (l := ox_l X) (φ := ox_φ X) (D := ox_D X) (cI := ox_I X) (cB := ox_B X) hC.J  h) gX9_school_X5_size rfl hd_X5_size ⟨Nat.le_of_ble_eq_true rfl, Nat.le_of_ble_eq_true rfl⟩ rfl rfl (Nat.le_of_ble_eq_true rfl) dX9_school_62) (fun v62 s62 h => ?_)
    exact hR _ _ _ _ dX9_school_65 h
  · have h := h.2 z
    refine g_bipush (v := (-103 : Int32)) hC dX9_school_10 (by decide) ?_
    exact hR _ _ _ _ dX9_school_12 h
set_option maxRecDepth 100000 in
theorem c_X9_school {l : Launch} {φ : OI → Nat} {D : va_G} {cI cB : ClassId} (hJ : o_J φ) {σ : SS} {post : Int32 → SS → Prop} (h : V_X9_school σ post) : o_Mi l φ D cI cB yX9_school wsX9_school 4 82 [.ref (φ (0, 0, 0))] σ post :=
 o_met_i hJ (by decide +kernel) rfl (Nat.le_of_ble_eq_true rfl) (fun p e s m args below meth c Q hC hR => wv_X9_school hC hR h)
theorem kw_X9_isChild_1 : Cond.fieldLink RX9 19 "SchoolRow" "school" "LSchoolRow$School;" ∈ wsX9_isChild := List.mem_of_getElem? (i := 1) (by decide +kernel)
theorem ki_X9_isChild_X9 : ∀ w ∈ wsX90, w ∈ wsX9_isChild := fun _ h => List.mem_cons_of_mem _ (List.mem_append_left _ (List.mem_append_right _ h))
theorem hd_X9_isChild : yX9_isChild.cls = RX9 ∧ yX9_isChild.cls ≠ "java/lang/invoke/MethodHandle" ∧ yX9_isChild.cls ≠ "java/lang/invoke/VarHandle" ∧ (parseMethodDescriptor yX9_isChild.desc).map (fun d => d.parameters.length) = some 1 := by decide +kernel
set_option maxHeartbeats 4000000 in
set_option maxRecDepth 100000 in
theorem wb_X9_isChild_20 {X : OX} {post : Int32 → SS → Prop} {t0 : Int32} {σ : SS} (hC : o_C X cX9_isChild RX9 wsX9_isChild 1 20 2) (hR : o_RZ X cX9_isChild post) (h : VB_X9_isChild_20 post t0 σ) : o_G X σ 20 [] [.int t0] := by
  unfold VB_X9_isChild_20 at h
  exact hR _ _ _ _ dX9_isChild_20 h
set_option maxHeartbeats 4000000 in
set_option maxRecDepth 100000 in
theorem wb_X9_isChild_19 {X : OX} {post : Int32 → SS → Prop} {σ : SS} (hC : o_C X cX9_isChild RX9 wsX9_isChild 1 20 2) (hR : o_RZ X cX9_isChild post) (h : VB_X9_isChild_19 post σ) : o_G X σ 19 [] [] := by
  unfold VB_X9_isChild_19 at h
  refine g_iconst (v := (0 : Int32)) hC dX9_isChild_19 (by decide) ?_
  exact wb_X9_isChild_20 hC hR h
set_option maxHeartbeats 4000000 in
set_option maxRecDepth 100000 in
theorem wv_X9_isChild {X : OX} {x1 : Int32} {post : Int32 → SS → Prop} {σ : SS} (hC : o_C X cX9_isChild RX9 wsX9_isChild 1 20 2) (hR : o_RZ X cX9_isChild post) (h : V_X9_isChild x1 σ post) : o_G X σ 0 [(0, .ref (ox_φ X (0, 0, 0))), (1, .int x1)] [] := by
  unfold V_X9_isChild at h
  refine g_iload_n hC 1 dX9_isChild_0 rfl rfl ?_
  refine g_if_lt hC 19 dX9_isChild_1 (by decide) (fun z => ?_) (fun z => ?_)
  · have h := h.1 z
    refine g_sub [] rfl ?_
    exact wb_X9_isChild_19 hC hR h
  · have h := h.2 z
    refine g_iload_n hC 1 dX9_isChild_4 rfl rfl ?_
    refine g_aload_n hC 0 dX9_isChild_5 rfl rfl ?_
    refine g_get (C := RX9) (T := TX9) (N := 9) (v := .ref (ox_φ X (2, 0, 0))) hC o_iX9 (o_eX9 _ _ _ _) rfl ki_X9_isChild_X9 1 (by decide) kw_X9_isChild_1 rfl dX9_isChild_6 ?_
    refine g_ri (r_V (C := RX5) (T := TX5) (N := 8) (As := []) (rest := [.int x1]) hC o_iX5 (o_eX5 _ _ _ _) rfl (c_X5_size (l := ox_l X) (φ := ox_φ X) (D := ox_D X) (cI := ox_I X) (cB := ox_B X) hC.J  h) gX9_isChild_X5_size rfl hd_X5_size ⟨Nat.le_of_ble_eq_true rfl, Nat.le_of_ble_eq_true rfl⟩ rfl rfl (Nat.le_of_ble_eq_true rfl) dX9_isChild_9) (fun v9 s9 h => ?_)
    refine g_icmp_ge hC 19 dX9_isChild_12 (by decide) (fun z => ?_) (fun z => ?_)
    · have h := h.1 z
      refine g_sub [] rfl ?_
      exact wb_X9_isChild_19 hC hR h
    · have h := h.2 z
      refine g_iconst (v := (1 : Int32)) hC dX9_isChild_15 (by decide) ?_
      refine g_goto hC 20 dX9_isChild_16 (by decide) ?_
      refine g_sub [] rfl ?_
      exact wb_X9_isChild_20 hC hR h
set_option maxRecDepth 100000 in
theorem c_X9_isChild {l : Launch} {φ : OI → Nat} {D : va_G} {cI cB : ClassId} (hJ : o_J φ) {x1 : Int32} {σ : SS} {post : Int32 → SS → Prop} (h : V_X9_isChild x1 σ post) : o_Mi l φ D cI cB yX9_isChild wsX9_isChild 1 20 [.ref (φ (0, 0, 0)), .int x1] σ post :=
 o_met_z hJ (by decide +kernel) rfl (Nat.le_of_ble_eq_true rfl) (fun p e s m args below meth c Q hC hR => wv_X9_isChild hC hR h)
theorem kw_X9_about_1 : Cond.fieldLink RX9 19 "SchoolRow" "school" "LSchoolRow$School;" ∈ wsX9_about := List.mem_of_getElem? (i := 1) (by decide +kernel)
theorem kw_X9_about_2 : Cond.fieldLink RX9 28 "SchoolRow" "now" "LSchoolRow$Row;" ∈ wsX9_about := List.mem_of_getElem? (i := 2) (by decide +kernel)
theorem ki_X9_about_X9 : ∀ w ∈ wsX90, w ∈ wsX9_about := fun _ h => List.mem_cons_of_mem _ (List.mem_append_left _ (List.mem_append_left _ (List.mem_append_left _ (List.mem_append_right _ h))))
theorem hd_X9_about : yX9_about.cls = RX9 ∧ yX9_about.cls ≠ "java/lang/invoke/MethodHandle" ∧ yX9_about.cls ≠ "java/lang/invoke/VarHandle" ∧ (parseMethodDescriptor yX9_about.desc).map (fun d => d.parameters.length) = some 2 := by decide +kernel
set_option maxHeartbeats 4000000 in
set_option maxRecDepth 100000 in
theorem wb_X9_about_82 {X : OX} {post : Int32 → SS → Prop} {t0 : Int32} {σ : SS} (hC : o_C X cX9_about RX9 wsX9_about 3 66 3) (hR : o_RI X cX9_about post) (h : VB_X9_about_82 post t0 σ) : o_G X σ 82 [] [.int t0] := by
  unfold VB_X9_about_82 at h
  exact hR _ _ _ _ dX9_about_82 h
set_option maxHeartbeats 4000000 in
set_option maxRecDepth 100000 in
theorem wv_X9_about {X : OX} {x1 : Int32} {x2 : Int32} {post : Int32 → SS → Prop} {σ : SS} (hC : o_C X cX9_about RX9 wsX9_about 3 66 3) (hR : o_RI X cX9_about post) (h : V_X9_about x1 x2 σ post) : o_G X σ 0 [(0, .ref (ox_φ X (0, 0, 0))), (1, .int x1), (2, .int x2)] [] := by
  unfold V_X9_about at h
  refine g_aload_n hC 0 dX9_about_0 rfl rfl ?_
  refine g_iload_n hC 1 dX9_about_1 rfl rfl ?_
  refine g_ri (r_V (C := RX9) (T := TX9) (N := 9) (As := [.int x1]) (rest := []) hC o_iX9 (o_eX9 _ _ _ _) rfl (c_X9_isChild (l := ox_l X) (φ := ox_φ X) (D := ox_D X) (cI := ox_I X) (cB := ox_B X) hC.J  h) gX9_about_X9_isChild rfl hd_X9_isChild ⟨Nat.le_of_ble_eq_true rfl, Nat.le_of_ble_eq_true rfl⟩ rfl rfl (Nat.le_of_ble_eq_true rfl) dX9_about_2) (fun v2 s2 h => ?_)
  refine g_if_ne hC 11 dX9_about_5 (by decide) (fun z => ?_) (fun z => ?_)
  · have h := h.1 z
    refine g_iload_n hC 2 dX9_about_11 rfl rfl ?_
    by_cases z0 : x2 = (0 : Int32)
    · have h := h.1 z0
      refine g_tabIn hC (0 : Int32) z0 48 dX9_about_12 (by decide) (by decide) rfl (by decide) ?_
      refine g_aload_n hC 0 dX9_about_48 rfl rfl ?_
      refine g_get (C := RX9) (T := TX9) (N := 9) (v := .ref (ox_φ X (2, 0, 0))) hC o_iX9 (o_eX9 _ _ _ _) rfl ki_X9_about_X9 1 (by decide) kw_X9_about_1 rfl dX9_about_49 ?_
      refine g_iload_n hC 1 dX9_about_52 rfl rfl ?_
      refine g_ri (r_V (C := RX5) (T := TX5) (N := 8) (As := [.int x1]) (rest := []) hC o_iX5 (o_eX5 _ _ _ _) rfl (c_X5_kindNumber (l := ox_l X) (φ := ox_φ X) (D := ox_D X) (cI := ox_I X) (cB := ox_B X) hC.J  h) gX9_about_X5_kindNumber rfl hd_X5_kindNumber ⟨Nat.le_of_ble_eq_true rfl, Nat.le_of_ble_eq_true rfl⟩ rfl rfl (Nat.le_of_ble_eq_true rfl) dX9_about_53) (fun v53 s53 h => ?_)
      exact hR _ _ _ _ dX9_about_56 h
    · skip
      by_cases z1 : x2 = (1 : Int32)
      · have h := h.2.1 z1
        refine g_tabIn hC (1 : Int32) z1 57 dX9_about_12 (by decide) (by decide) rfl (by decide) ?_
        refine g_aload_n hC 0 dX9_about_57 rfl rfl ?_
        refine g_get (C := RX9) (T := TX9) (N := 9) (v := .ref (ox_φ X (3, 0, 0))) hC o_iX9 (o_eX9 _ _ _ _) rfl ki_X9_about_X9 2 (by decide) kw_X9_about_2 rfl dX9_about_58 ?_
        refine g_iload_n hC 1 dX9_about_61 rfl rfl ?_
        refine g_ri (r_V (C := RX4) (T := TX4) (N := 6) (As := [.int x1]) (rest := []) hC (o_in3 0 (by decide)) (o_eX4 _ _ _ _ _) rfl (c_X4_seatOf (l := ox_l X) (φ := ox_φ X) (D := ox_D X) (cI := ox_I X) (cB := ox_B X) hC.J (by decide) h) gX9_about_X4_seatOf rfl hd_X4_seatOf ⟨Nat.le_of_ble_eq_true rfl, Nat.le_of_ble_eq_true rfl⟩ rfl rfl (Nat.le_of_ble_eq_true rfl) dX9_about_62) (fun v62 s62 h => ?_)
        exact hR _ _ _ _ dX9_about_65 h
      · skip
        by_cases z2 : x2 = (2 : Int32)
        · have h := h.2.2.1 z2
          refine g_tabIn hC (2 : Int32) z2 66 dX9_about_12 (by decide) (by decide) rfl (by decide) ?_
          refine g_aload_n hC 0 dX9_about_66 rfl rfl ?_
          refine g_get (C := RX9) (T := TX9) (N := 9) (v := .ref (ox_φ X (3, 0, 0))) hC o_iX9 (o_eX9 _ _ _ _) rfl ki_X9_about_X9 2 (by decide) kw_X9_about_2 rfl dX9_about_67 ?_
          refine g_iload_n hC 1 dX9_about_70 rfl rfl ?_
          refine g_ri (r_V (C := RX4) (T := TX4) (N := 6) (As := [.int x1]) (rest := []) hC (o_in3 0 (by decide)) (o_eX4 _ _ _ _ _) rfl (c_X4_isIll (l := ox_l X) (φ := ox_φ X) (D := ox_D X) (cI := ox_I X) (cB := ox_B X) hC.J (by decide) h) gX9_about_X4_isIll rfl hd_X4_isIll ⟨Nat.le_of_ble_eq_true rfl, Nat.le_of_ble_eq_true rfl⟩ rfl rfl (Nat.le_of_ble_eq_true rfl) dX9_about_71) (fun v71 s71 h => ?_)
          refine g_if_eq hC 81 dX9_about_74 (by decide) (fun z => ?_) (fun z => ?_)
          · have h := h.1 z
            refine g_iconst (v := (0 : Int32)) hC dX9_about_81 (by decide) ?_
            refine g_sub [] rfl ?_
            exact wb_X9_about_82 hC hR h
          · have h := h.2 z
            refine g_iconst (v := (1 : Int32)) hC dX9_about_77 (by decide) ?_
            refine g_goto hC 82 dX9_about_78 (by decide) ?_
            refine g_sub [] rfl ?_
            exact wb_X9_about_82 hC hR h
        · skip
          by_cases z3 : x2 = (3 : Int32)
          · have h := h.2.2.2.1 z3
            refine g_tabIn hC (3 : Int32) z3 83 dX9_about_12 (by decide) (by decide) rfl (by decide) ?_
            refine g_aload_n hC 0 dX9_about_83 rfl rfl ?_
            refine g_get (C := RX9) (T := TX9) (N := 9) (v := .ref (ox_φ X (3, 0, 0))) hC o_iX9 (o_eX9 _ _ _ _) rfl ki_X9_about_X9 2 (by decide) kw_X9_about_2 rfl dX9_about_84 ?_
            refine g_iload_n hC 1 dX9_about_87 rfl rfl ?_
            refine g_ri (r_V (C := RX4) (T := TX4) (N := 6) (As := [.int x1]) (rest := []) hC (o_in3 0 (by decide)) (o_eX4 _ _ _ _ _) rfl (c_X4_partsOf (l := ox_l X) (φ := ox_φ X) (D := ox_D X) (cI := ox_I X) (cB := ox_B X) hC.J (by decide) h) gX9_about_X4_partsOf rfl hd_X4_partsOf ⟨Nat.le_of_ble_eq_true rfl, Nat.le_of_ble_eq_true rfl⟩ rfl rfl (Nat.le_of_ble_eq_true rfl) dX9_about_88) (fun v88 s88 h => ?_)
            exact hR _ _ _ _ dX9_about_91 h
          · skip
            by_cases z4 : x2 = (4 : Int32)
            · have h := h.2.2.2.2.1 z4
              refine g_tabIn hC (4 : Int32) z4 92 dX9_about_12 (by decide) (by decide) rfl (by decide) ?_
              refine g_aload_n hC 0 dX9_about_92 rfl rfl ?_
              refine g_get (C := RX9) (T := TX9) (N := 9) (v := .ref (ox_φ X (3, 0, 0))) hC o_iX9 (o_eX9 _ _ _ _) rfl ki_X9_about_X9 2 (by decide) kw_X9_about_2 rfl dX9_about_93 ?_
              refine g_iload_n hC 1 dX9_about_96 rfl rfl ?_
              refine g_ri (r_V (C := RX4) (T := TX4) (N := 6) (As := [.int x1]) (rest := []) hC (o_in3 0 (by decide)) (o_eX4 _ _ _ _ _) rfl (c_X4_toldOf (l := ox_l X) (φ := ox_φ X) (D := ox_D X) (cI := ox_I X) (cB := ox_B X) hC.J (by decide) h) gX9_about_X4_toldOf rfl hd_X4_toldOf ⟨Nat.le_of_ble_eq_true rfl, Nat.le_of_ble_eq_true rfl⟩ rfl rfl (Nat.le_of_ble_eq_true rfl) dX9_about_97) (fun v97 s97 h => ?_)
              exact hR _ _ _ _ dX9_about_100 h
            · skip
              have h := h.2.2.2.2.2 ⟨z0, z1, z2, z3, z4⟩
              have a0 := lv_neT z0 (a := 0) (by decide)
              have a1 := lv_neT z1 (a := 1) (by decide)
              have a2 := lv_neT z2 (a := 2) (by decide)
              have a3 := lv_neT z3 (a := 3) (by decide)
              have a4 := lv_neT z4 (a := 4) (by decide)
              refine g_tabOut hC 101 dX9_about_12 (by omega) (by decide) ?_
              refine g_bipush (v := (-102 : Int32)) hC dX9_about_101 (by decide) ?_
              exact hR _ _ _ _ dX9_about_103 h
  · have h := h.2 z
    refine g_bipush (v := (-101 : Int32)) hC dX9_about_8 (by decide) ?_
    exact hR _ _ _ _ dX9_about_10 h
set_option maxRecDepth 100000 in
theorem c_X9_about {l : Launch} {φ : OI → Nat} {D : va_G} {cI cB : ClassId} (hJ : o_J φ) {x1 : Int32} {x2 : Int32} {σ : SS} {post : Int32 → SS → Prop} (h : V_X9_about x1 x2 σ post) : o_Mi l φ D cI cB yX9_about wsX9_about 3 66 [.ref (φ (0, 0, 0)), .int x1, .int x2] σ post :=
 o_met_i hJ (by decide +kernel) rfl (Nat.le_of_ble_eq_true rfl) (fun p e s m args below meth c Q hC hR => wv_X9_about hC hR h)
theorem kw_X9_isOfKind_1 : Cond.classLink RX9 237 "SchoolRow$Sister" ∈ wsX9_isOfKind := List.mem_of_getElem? (i := 1) (by decide +kernel)
theorem kw_X9_isOfKind_2 : Cond.classLink RX9 239 "SchoolRow$Doubter" ∈ wsX9_isOfKind := List.mem_of_getElem? (i := 2) (by decide +kernel)
theorem kw_X9_isOfKind_3 : Cond.classLink RX9 241 "SchoolRow$Singer" ∈ wsX9_isOfKind := List.mem_of_getElem? (i := 3) (by decide +kernel)
theorem kw_X9_isOfKind_4 : Cond.classLink RX9 243 "SchoolRow$Shouter" ∈ wsX9_isOfKind := List.mem_of_getElem? (i := 4) (by decide +kernel)
theorem hd_X9_isOfKind : yX9_isOfKind.cls ≠ "java/lang/invoke/MethodHandle" ∧ yX9_isOfKind.cls ≠ "java/lang/invoke/VarHandle" ∧ (parseMethodDescriptor yX9_isOfKind.desc).map (fun d => d.parameters.length) = some 2 := by decide +kernel
set_option maxHeartbeats 4000000 in
set_option maxRecDepth 100000 in
theorem wv_X9_isOfKind {X : OX} {j : Nat} {x1 : Int32} {post : Int32 → SS → Prop} {σ : SS} (hC : o_C X cX9_isOfKind RX9 wsX9_isOfKind 0 0 2) (hR : o_RZ X cX9_isOfKind post) (hj : j < 5) (h : V_X9_isOfKind j x1 σ post) : o_G X σ 0 [(0, .ref (ox_φ X (6, 0, j))), (1, .int x1)] [] := by
  unfold V_X9_isOfKind at h
  refine g_iload_n hC 1 dX9_isOfKind_0 rfl rfl ?_
  by_cases z0 : x1 = (1 : Int32)
  · have h := h.1 z0
    refine g_tabIn hC (1 : Int32) z0 32 dX9_isOfKind_1 (by decide) (by decide) rfl (by decide) ?_
    refine g_aload_n hC 0 dX9_isOfKind_32 rfl rfl ?_
    refine g_isX8 hC hj kw_X9_isOfKind_1 dX9_isOfKind_33 ?_
    exact hR _ _ _ _ dX9_isOfKind_36 h
  · skip
    by_cases z1 : x1 = (2 : Int32)
    · have h := h.2.1 z1
      refine g_tabIn hC (2 : Int32) z1 37 dX9_isOfKind_1 (by decide) (by decide) rfl (by decide) ?_
      refine g_aload_n hC 0 dX9_isOfKind_37 rfl rfl ?_
      refine g_isX2 hC hj kw_X9_isOfKind_2 dX9_isOfKind_38 ?_
      exact hR _ _ _ _ dX9_isOfKind_41 h
    · skip
      by_cases z2 : x1 = (3 : Int32)
      · have h := h.2.2.1 z2
        refine g_tabIn hC (3 : Int32) z2 42 dX9_isOfKind_1 (by decide) (by decide) rfl (by decide) ?_
        refine g_aload_n hC 0 dX9_isOfKind_42 rfl rfl ?_
        refine g_isX7 hC hj kw_X9_isOfKind_3 dX9_isOfKind_43 ?_
        exact hR _ _ _ _ dX9_isOfKind_46 h
      · skip
        by_cases z3 : x1 = (4 : Int32)
        · have h := h.2.2.2.1 z3
          refine g_tabIn hC (4 : Int32) z3 47 dX9_isOfKind_1 (by decide) (by decide) rfl (by decide) ?_
          refine g_aload_n hC 0 dX9_isOfKind_47 rfl rfl ?_
          refine g_isX6 hC hj kw_X9_isOfKind_4 dX9_isOfKind_48 ?_
          exact hR _ _ _ _ dX9_isOfKind_51 h
        · skip
          have h := h.2.2.2.2 ⟨z0, z1, z2, z3⟩
          have a0 := lv_neT z0 (a := 1) (by decide)
          have a1 := lv_neT z1 (a := 2) (by decide)
          have a2 := lv_neT z2 (a := 3) (by decide)
          have a3 := lv_neT z3 (a := 4) (by decide)
          refine g_tabOut hC 52 dX9_isOfKind_1 (by omega) (by decide) ?_
          refine g_iconst (v := (1 : Int32)) hC dX9_isOfKind_52 (by decide) ?_
          exact hR _ _ _ _ dX9_isOfKind_53 ⟨Or.inr rfl, h⟩
set_option maxRecDepth 100000 in
theorem c_X9_isOfKind {l : Launch} {φ : OI → Nat} {D : va_G} {cI cB : ClassId} (hJ : o_J φ) {j : Nat} {x1 : Int32} (hj : j < 5) {σ : SS} {post : Int32 → SS → Prop} (h : V_X9_isOfKind j x1 σ post) : o_Mi l φ D cI cB yX9_isOfKind wsX9_isOfKind 0 0 [.ref (φ (6, 0, j)), .int x1] σ post :=
 o_met_z hJ (by decide +kernel) rfl (Nat.le_of_ble_eq_true rfl) (fun p e s m args below meth c Q hC hR => wv_X9_isOfKind hC hR hj h)
theorem kw_X9_as_1 : Cond.fieldLink RX9 19 "SchoolRow" "school" "LSchoolRow$School;" ∈ wsX9_as := List.mem_of_getElem? (i := 1) (by decide +kernel)
theorem ki_X9_as_X9 : ∀ w ∈ wsX90, w ∈ wsX9_as := fun _ h => List.mem_cons_of_mem _ (List.mem_append_left _ (List.mem_append_left _ (List.mem_append_right _ h)))
theorem hd_X9_as : yX9_as.cls = RX9 ∧ yX9_as.cls ≠ "java/lang/invoke/MethodHandle" ∧ yX9_as.cls ≠ "java/lang/invoke/VarHandle" ∧ (parseMethodDescriptor yX9_as.desc).map (fun d => d.parameters.length) = some 2 := by decide +kernel
set_option maxHeartbeats 4000000 in
set_option maxRecDepth 100000 in
theorem wb_X9_as_20 {X : OX} {post : Int32 → SS → Prop} {σ : SS} (hC : o_C X cX9_as RX9 wsX9_as 2 42 3) (hR : o_RI X cX9_as post) (h : VB_X9_as_20 post σ) : o_G X σ 20 [] [] := by
  unfold VB_X9_as_20 at h
  refine g_bipush (v := (-102 : Int32)) hC dX9_as_20 (by decide) ?_
  exact hR _ _ _ _ dX9_as_22 h
set_option maxHeartbeats 4000000 in
set_option maxRecDepth 100000 in
theorem wb_X9_as_43 {X : OX} {post : Int32 → SS → Prop} {t0 : Int32} {σ : SS} (hC : o_C X cX9_as RX9 wsX9_as 2 42 3) (hR : o_RI X cX9_as post) (h : VB_X9_as_43 post t0 σ) : o_G X σ 43 [] [.int t0] := by
  unfold VB_X9_as_43 at h
  exact hR _ _ _ _ dX9_as_43 h
set_option maxHeartbeats 4000000 in
set_option maxRecDepth 100000 in
theorem wv_X9_as {X : OX} {x1 : Int32} {x2 : Int32} {post : Int32 → SS → Prop} {σ : SS} (hC : o_C X cX9_as RX9 wsX9_as 2 42 3) (hR : o_RI X cX9_as post) (h : V_X9_as x1 x2 σ post) : o_G X σ 0 [(0, .ref (ox_φ X (0, 0, 0))), (1, .int x1), (2, .int x2)] [] := by
  unfold V_X9_as at h
  refine g_aload_n hC 0 dX9_as_0 rfl rfl ?_
  refine g_iload_n hC 1 dX9_as_1 rfl rfl ?_
  refine g_ri (r_V (C := RX9) (T := TX9) (N := 9) (As := [.int x1]) (rest := []) hC o_iX9 (o_eX9 _ _ _ _) rfl (c_X9_isChild (l := ox_l X) (φ := ox_φ X) (D := ox_D X) (cI := ox_I X) (cB := ox_B X) hC.J  h) gX9_as_X9_isChild rfl hd_X9_isChild ⟨Nat.le_of_ble_eq_true rfl, Nat.le_of_ble_eq_true rfl⟩ rfl rfl (Nat.le_of_ble_eq_true rfl) dX9_as_2) (fun v2 s2 h => ?_)
  refine g_if_ne hC 11 dX9_as_5 (by decide) (fun z => ?_) (fun z => ?_)
  · have h := h.1 z
    refine g_iload_n hC 2 dX9_as_11 rfl rfl ?_
    refine g_if_lt hC 20 dX9_as_12 (by decide) (fun z => ?_) (fun z => ?_)
    · have h := h.1 z
      refine g_sub [] rfl ?_
      exact wb_X9_as_20 hC hR h
    · have h := h.2 z
      refine g_iload_n hC 2 dX9_as_15 rfl rfl ?_
      refine g_iconst (v := (5 : Int32)) hC dX9_as_16 (by decide) ?_
      refine g_icmp_lt hC 23 dX9_as_17 (by decide) (fun z => ?_) (fun z => ?_)
      · have h := h.1 z
        refine g_aload_n hC 0 dX9_as_23 rfl rfl ?_
        refine g_get (C := RX9) (T := TX9) (N := 9) (v := .ref (ox_φ X (2, 0, 0))) hC o_iX9 (o_eX9 _ _ _ _) rfl ki_X9_as_X9 1 (by decide) kw_X9_as_1 rfl dX9_as_24 ?_
        refine g_iload_n hC 1 dX9_as_27 rfl rfl ?_
        refine g_rr (r_V (C := RX5) (T := TX5) (N := 8) (As := [.int x1]) (rest := []) hC o_iX5 (o_eX5 _ _ _ _) rfl (c_X5_child (l := ox_l X) (φ := ox_φ X) (D := ox_D X) (cI := ox_I X) (cB := ox_B X) hC.J  h) gX9_as_X5_child rfl hd_X5_child ⟨Nat.le_of_ble_eq_true rfl, Nat.le_of_ble_eq_true rfl⟩ rfl rfl (Nat.le_of_ble_eq_true rfl) dX9_as_28) (fun v28 s28 hj28 h => ?_)
        refine g_iload_n hC 2 dX9_as_31 rfl rfl ?_
        refine g_ri (r_S (As := [.ref (ox_φ X (6, 0, v28)), .int x2]) (rest := []) hC (c_X9_isOfKind (l := ox_l X) (φ := ox_φ X) (D := ox_D X) (cI := ox_I X) (cB := ox_B X) hC.J hj28 h) gX9_as_X9_isOfKind rfl hd_X9_isOfKind ⟨Nat.le_of_ble_eq_true rfl, Nat.le_of_ble_eq_true rfl⟩ rfl rfl (Nat.le_of_ble_eq_true rfl) dX9_as_32) (fun v32 s32 h => ?_)
        refine g_if_eq hC 42 dX9_as_35 (by decide) (fun z => ?_) (fun z => ?_)
        · have h := h.1 z
          refine g_iconst (v := (-1 : Int32)) hC dX9_as_42 (by decide) ?_
          refine g_sub [] rfl ?_
          exact wb_X9_as_43 hC hR h
        · have h := h.2 z
          refine g_iload_n hC 1 dX9_as_38 rfl rfl ?_
          refine g_goto hC 43 dX9_as_39 (by decide) ?_
          refine g_sub [] rfl ?_
          exact wb_X9_as_43 hC hR h
      · have h := h.2 z
        refine g_sub [] rfl ?_
        exact wb_X9_as_20 hC hR h
  · have h := h.2 z
    refine g_bipush (v := (-101 : Int32)) hC dX9_as_8 (by decide) ?_
    exact hR _ _ _ _ dX9_as_10 h
set_option maxRecDepth 100000 in
theorem c_X9_as {l : Launch} {φ : OI → Nat} {D : va_G} {cI cB : ClassId} (hJ : o_J φ) {x1 : Int32} {x2 : Int32} {σ : SS} {post : Int32 → SS → Prop} (h : V_X9_as x1 x2 σ post) : o_Mi l φ D cI cB yX9_as wsX9_as 2 42 [.ref (φ (0, 0, 0)), .int x1, .int x2] σ post :=
 o_met_i hJ (by decide +kernel) rfl (Nat.le_of_ble_eq_true rfl) (fun p e s m args below meth c Q hC hR => wv_X9_as hC hR h)
theorem kw_X9_seat_1 : Cond.fieldLink RX9 28 "SchoolRow" "now" "LSchoolRow$Row;" ∈ wsX9_seat := List.mem_of_getElem? (i := 1) (by decide +kernel)
theorem ki_X9_seat_X9 : ∀ w ∈ wsX90, w ∈ wsX9_seat := fun _ h => List.mem_cons_of_mem _ (List.mem_append_left _ (List.mem_append_left _ (List.mem_append_left _ (List.mem_append_right _ h))))
theorem hd_X9_seat : yX9_seat.cls = RX9 ∧ yX9_seat.cls ≠ "java/lang/invoke/MethodHandle" ∧ yX9_seat.cls ≠ "java/lang/invoke/VarHandle" ∧ (parseMethodDescriptor yX9_seat.desc).map (fun d => d.parameters.length) = some 1 := by decide +kernel
set_option maxHeartbeats 4000000 in
set_option maxRecDepth 100000 in
theorem wb_X9_seat_21 {X : OX} {post : Int32 → SS → Prop} {t0 : Int32} {σ : SS} (hC : o_C X cX9_seat RX9 wsX9_seat 2 42 2) (hR : o_RI X cX9_seat post) (h : VB_X9_seat_21 post t0 σ) : o_G X σ 21 [] [.int t0] := by
  unfold VB_X9_seat_21 at h
  exact hR _ _ _ _ dX9_seat_21 h
set_option maxHeartbeats 4000000 in
set_option maxRecDepth 100000 in
theorem wv_X9_seat {X : OX} {x1 : Int32} {post : Int32 → SS → Prop} {σ : SS} (hC : o_C X cX9_seat RX9 wsX9_seat 2 42 2) (hR : o_RI X cX9_seat post) (h : V_X9_seat x1 σ post) : o_G X σ 0 [(0, .ref (ox_φ X (0, 0, 0))), (1, .int x1)] [] := by
  unfold V_X9_seat at h
  refine g_aload_n hC 0 dX9_seat_0 rfl rfl ?_
  refine g_iload_n hC 1 dX9_seat_1 rfl rfl ?_
  refine g_ri (r_V (C := RX9) (T := TX9) (N := 9) (As := [.int x1]) (rest := []) hC o_iX9 (o_eX9 _ _ _ _) rfl (c_X9_isChild (l := ox_l X) (φ := ox_φ X) (D := ox_D X) (cI := ox_I X) (cB := ox_B X) hC.J  h) gX9_seat_X9_isChild rfl hd_X9_isChild ⟨Nat.le_of_ble_eq_true rfl, Nat.le_of_ble_eq_true rfl⟩ rfl rfl (Nat.le_of_ble_eq_true rfl) dX9_seat_2) (fun v2 s2 h => ?_)
  refine g_if_eq hC 19 dX9_seat_5 (by decide) (fun z => ?_) (fun z => ?_)
  · have h := h.1 z
    refine g_bipush (v := (-101 : Int32)) hC dX9_seat_19 (by decide) ?_
    refine g_sub [] rfl ?_
    exact wb_X9_seat_21 hC hR h
  · have h := h.2 z
    refine g_aload_n hC 0 dX9_seat_8 rfl rfl ?_
    refine g_get (C := RX9) (T := TX9) (N := 9) (v := .ref (ox_φ X (3, 0, 0))) hC o_iX9 (o_eX9 _ _ _ _) rfl ki_X9_seat_X9 2 (by decide) kw_X9_seat_1 rfl dX9_seat_9 ?_
    refine g_iload_n hC 1 dX9_seat_12 rfl rfl ?_
    refine g_ri (r_V (C := RX4) (T := TX4) (N := 6) (As := [.int x1]) (rest := []) hC (o_in3 0 (by decide)) (o_eX4 _ _ _ _ _) rfl (c_X4_childOn (l := ox_l X) (φ := ox_φ X) (D := ox_D X) (cI := ox_I X) (cB := ox_B X) hC.J (by decide) h) gX9_seat_X4_childOn rfl hd_X4_childOn ⟨Nat.le_of_ble_eq_true rfl, Nat.le_of_ble_eq_true rfl⟩ rfl rfl (Nat.le_of_ble_eq_true rfl) dX9_seat_13) (fun v13 s13 h => ?_)
    refine g_goto hC 21 dX9_seat_16 (by decide) ?_
    refine g_sub [] rfl ?_
    exact wb_X9_seat_21 hC hR h
set_option maxRecDepth 100000 in
theorem c_X9_seat {l : Launch} {φ : OI → Nat} {D : va_G} {cI cB : ClassId} (hJ : o_J φ) {x1 : Int32} {σ : SS} {post : Int32 → SS → Prop} (h : V_X9_seat x1 σ post) : o_Mi l φ D cI cB yX9_seat wsX9_seat 2 42 [.ref (φ (0, 0, 0)), .int x1] σ post :=
 o_met_i hJ (by decide +kernel) rfl (Nat.le_of_ble_eq_true rfl) (fun p e s m args below meth c Q hC hR => wv_X9_seat hC hR h)
theorem kw_X9_swap_1 : Cond.fieldLink RX9 28 "SchoolRow" "now" "LSchoolRow$Row;" ∈ wsX9_swap := List.mem_of_getElem? (i := 1) (by decide +kernel)
theorem ki_X9_swap_X9 : ∀ w ∈ wsX90, w ∈ wsX9_swap := fun _ h => List.mem_cons_of_mem _ (List.mem_append_left _ (List.mem_append_left _ (List.mem_append_left _ (List.mem_append_right _ h))))
theorem hd_X9_swap : yX9_swap.cls = RX9 ∧ yX9_swap.cls ≠ "java/lang/invoke/MethodHandle" ∧ yX9_swap.cls ≠ "java/lang/invoke/VarHandle" ∧ (parseMethodDescriptor yX9_swap.desc).map (fun d => d.parameters.length) = some 2 := by decide +kernel
set_option maxHeartbeats 4000000 in
set_option maxRecDepth 100000 in
theorem wb_X9_swap_16 {X : OX} {post : Int32 → SS → Prop} {σ : SS} (hC : o_C X cX9_swap RX9 wsX9_swap 2 45 3) (hR : o_RI X cX9_swap post) (h : VB_X9_swap_16 post σ) : o_G X σ 16 [] [] := by
  unfold VB_X9_swap_16 at h
  refine g_bipush (v := (-101 : Int32)) hC dX9_swap_16 (by decide) ?_
  exact hR _ _ _ _ dX9_swap_18 h
set_option maxHeartbeats 4000000 in
set_option maxRecDepth 100000 in
theorem wv_X9_swap {X : OX} {x1 : Int32} {x2 : Int32} {post : Int32 → SS → Prop} {σ : SS} (hC : o_C X cX9_swap RX9 wsX9_swap 2 45 3) (hR : o_RI X cX9_swap post) (h : V_X9_swap x1 x2 σ post) : o_G X σ 0 [(0, .ref (ox_φ X (0, 0, 0))), (1, .int x1), (2, .int x2)] [] := by
  unfold V_X9_swap at h
  refine g_aload_n hC 0 dX9_swap_0 rfl rfl ?_
  refine g_iload_n hC 1 dX9_swap_1 rfl rfl ?_
  refine g_ri (r_V (C := RX9) (T := TX9) (N := 9) (As := [.int x1]) (rest := []) hC o_iX9 (o_eX9 _ _ _ _) rfl (c_X9_isChild (l := ox_l X) (φ := ox_φ X) (D := ox_D X) (cI := ox_I X) (cB := ox_B X) hC.J  h) gX9_swap_X9_isChild rfl hd_X9_isChild ⟨Nat.le_of_ble_eq_true rfl, Nat.le_of_ble_eq_true rfl⟩ rfl rfl (Nat.le_of_ble_eq_true rfl) dX9_swap_2) (fun v2 s2 h => ?_)
  refine g_if_eq hC 16 dX9_swap_5 (by decide) (fun z => ?_) (fun z => ?_)
  · have h := h.1 z
    refine g_sub [] rfl ?_
    exact wb_X9_swap_16 hC hR h
  · have h := h.2 z
    refine g_aload_n hC 0 dX9_swap_8 rfl rfl ?_
    refine g_iload_n hC 2 dX9_swap_9 rfl rfl ?_
    refine g_ri (r_V (C := RX9) (T := TX9) (N := 9) (As := [.int x2]) (rest := []) hC o_iX9 (o_eX9 _ _ _ _) rfl (c_X9_isChild (l := ox_l X) (φ := ox_φ X) (D := ox_D X) (cI := ox_I X) (cB := ox_B X) hC.J  h) gX9_swap_X9_isChild rfl hd_X9_isChild ⟨Nat.le_of_ble_eq_true rfl, Nat.le_of_ble_eq_true rfl⟩ rfl rfl (Nat.le_of_ble_eq_true rfl) dX9_swap_10) (fun v10 s10 h => ?_)
    refine g_if_ne hC 19 dX9_swap_13 (by decide) (fun z => ?_) (fun z => ?_)
    · have h := h.1 z
      refine g_aload_n hC 0 dX9_swap_19 rfl rfl ?_
      refine g_get (C := RX9) (T := TX9) (N := 9) (v := .ref (ox_φ X (3, 0, 0))) hC o_iX9 (o_eX9 _ _ _ _) rfl ki_X9_swap_X9 2 (by decide) kw_X9_swap_1 rfl dX9_swap_20 ?_
      refine g_aload_n hC 0 dX9_swap_23 rfl rfl ?_
      refine g_get (C := RX9) (T := TX9) (N := 9) (v := .ref (ox_φ X (3, 0, 0))) hC o_iX9 (o_eX9 _ _ _ _) rfl ki_X9_swap_X9 2 (by decide) kw_X9_swap_1 rfl dX9_swap_24 ?_
      refine g_iload_n hC 1 dX9_swap_27 rfl rfl ?_
      refine g_ri (r_V (C := RX4) (T := TX4) (N := 6) (As := [.int x1]) (rest := [.ref (ox_φ X (3, 0, 0))]) hC (o_in3 0 (by decide)) (o_eX4 _ _ _ _ _) rfl (c_X4_seatOf (l := ox_l X) (φ := ox_φ X) (D := ox_D X) (cI := ox_I X) (cB := ox_B X) hC.J (by decide) h) gX9_swap_X4_seatOf rfl hd_X4_seatOf ⟨Nat.le_of_ble_eq_true rfl, Nat.le_of_ble_eq_true rfl⟩ rfl rfl (Nat.le_of_ble_eq_true rfl) dX9_swap_28) (fun v28 s28 h => ?_)
      refine g_aload_n hC 0 dX9_swap_31 rfl rfl ?_
      refine g_get (C := RX9) (T := TX9) (N := 9) (v := .ref (ox_φ X (3, 0, 0))) hC o_iX9 (o_eX9 _ _ _ _) rfl ki_X9_swap_X9 2 (by decide) kw_X9_swap_1 rfl dX9_swap_32 ?_
      refine g_iload_n hC 2 dX9_swap_35 rfl rfl ?_
      refine g_ri (r_V (C := RX4) (T := TX4) (N := 6) (As := [.int x2]) (rest := [.int v28, .ref (ox_φ X (3, 0, 0))]) hC (o_in3 0 (by decide)) (o_eX4 _ _ _ _ _) rfl (c_X4_seatOf (l := ox_l X) (φ := ox_φ X) (D := ox_D X) (cI := ox_I X) (cB := ox_B X) hC.J (by decide) h) gX9_swap_X4_seatOf rfl hd_X4_seatOf ⟨Nat.le_of_ble_eq_true rfl, Nat.le_of_ble_eq_true rfl⟩ rfl rfl (Nat.le_of_ble_eq_true rfl) dX9_swap_36) (fun v36 s36 h => ?_)
      refine g_rv (r_V (C := RX4) (T := TX4) (N := 6) (As := [.int v28, .int v36]) (rest := []) hC (o_in3 0 (by decide)) (o_eX4 _ _ _ _ _) rfl (c_X4_changeSeats (l := ox_l X) (φ := ox_φ X) (D := ox_D X) (cI := ox_I X) (cB := ox_B X) hC.J (by decide) h) gX9_swap_X4_changeSeats rfl hd_X4_changeSeats ⟨Nat.le_of_ble_eq_true rfl, Nat.le_of_ble_eq_true rfl⟩ rfl rfl (Nat.le_of_ble_eq_true rfl) dX9_swap_39) (fun s39 h => ?_)
      refine g_aload_n hC 0 dX9_swap_42 rfl rfl ?_
      refine g_get (C := RX9) (T := TX9) (N := 9) (v := .ref (ox_φ X (3, 0, 0))) hC o_iX9 (o_eX9 _ _ _ _) rfl ki_X9_swap_X9 2 (by decide) kw_X9_swap_1 rfl dX9_swap_43 ?_
      refine g_iload_n hC 2 dX9_swap_46 rfl rfl ?_
      refine g_ri (r_V (C := RX4) (T := TX4) (N := 6) (As := [.int x2]) (rest := []) hC (o_in3 0 (by decide)) (o_eX4 _ _ _ _ _) rfl (c_X4_seatOf (l := ox_l X) (φ := ox_φ X) (D := ox_D X) (cI := ox_I X) (cB := ox_B X) hC.J (by decide) h) gX9_swap_X4_seatOf rfl hd_X4_seatOf ⟨Nat.le_of_ble_eq_true rfl, Nat.le_of_ble_eq_true rfl⟩ rfl rfl (Nat.le_of_ble_eq_true rfl) dX9_swap_47) (fun v47 s47 h => ?_)
      exact hR _ _ _ _ dX9_swap_50 h
    · have h := h.2 z
      refine g_sub [] rfl ?_
      exact wb_X9_swap_16 hC hR h
set_option maxRecDepth 100000 in
theorem c_X9_swap {l : Launch} {φ : OI → Nat} {D : va_G} {cI cB : ClassId} (hJ : o_J φ) {x1 : Int32} {x2 : Int32} {σ : SS} {post : Int32 → SS → Prop} (h : V_X9_swap x1 x2 σ post) : o_Mi l φ D cI cB yX9_swap wsX9_swap 2 45 [.ref (φ (0, 0, 0)), .int x1, .int x2] σ post :=
 o_met_i hJ (by decide +kernel) rfl (Nat.le_of_ble_eq_true rfl) (fun p e s m args below meth c Q hC hR => wv_X9_swap hC hR h)
theorem kw_X9_ill_1 : Cond.fieldLink RX9 28 "SchoolRow" "now" "LSchoolRow$Row;" ∈ wsX9_ill := List.mem_of_getElem? (i := 1) (by decide +kernel)
theorem ki_X9_ill_X9 : ∀ w ∈ wsX90, w ∈ wsX9_ill := fun _ h => List.mem_cons_of_mem _ (List.mem_append_left _ (List.mem_append_left _ (List.mem_append_right _ h)))
theorem hd_X9_ill : yX9_ill.cls = RX9 ∧ yX9_ill.cls ≠ "java/lang/invoke/MethodHandle" ∧ yX9_ill.cls ≠ "java/lang/invoke/VarHandle" ∧ (parseMethodDescriptor yX9_ill.desc).map (fun d => d.parameters.length) = some 2 := by decide +kernel
set_option maxHeartbeats 4000000 in
set_option maxRecDepth 100000 in
theorem wb_X9_ill_27 {X : OX} {post : Int32 → SS → Prop} {x1 : Int32} {x2 : Int32} {t0 : Int32} {σ : SS} (hC : o_C X cX9_ill RX9 wsX9_ill 2 42 4) (hR : o_RI X cX9_ill post) (h : VB_X9_ill_27 post x1 x2 t0 σ) : o_G X σ 27 [(0, .ref (ox_φ X (0, 0, 0))), (1, .int x1), (2, .int x2)] [.int t0] := by
  unfold VB_X9_ill_27 at h
  refine g_istore_n hC [(3, .int t0), (0, .ref (ox_φ X (0, 0, 0))), (1, .int x1), (2, .int x2)] dX9_ill_27 rfl (by decide) rfl ?_
  refine g_aload_n hC 1 dX9_ill_28 rfl rfl ?_
  refine g_get (C := RX9) (T := TX9) (N := 9) (v := .ref (ox_φ X (3, 0, 0))) hC o_iX9 (o_eX9 _ _ _ _) rfl ki_X9_ill_X9 2 (by decide) kw_X9_ill_1 rfl dX9_ill_29 ?_
  refine g_iload_n hC 2 dX9_ill_32 rfl rfl ?_
  refine g_iload_n hC 3 dX9_ill_33 rfl rfl ?_
  refine g_rv (r_V (C := RX4) (T := TX4) (N := 6) (As := [.int x1, .int x2]) (rest := []) hC (o_in3 0 (by decide)) (o_eX4 _ _ _ _ _) rfl (c_X4_setIll (l := ox_l X) (φ := ox_φ X) (D := ox_D X) (cI := ox_I X) (cB := ox_B X) hC.J (by decide) h) gX9_ill_X4_setIll rfl hd_X4_setIll ⟨Nat.le_of_ble_eq_true rfl, Nat.le_of_ble_eq_true rfl⟩ rfl rfl (Nat.le_of_ble_eq_true rfl) dX9_ill_34) (fun s34 h => ?_)
  refine g_iload_n hC 0 dX9_ill_37 rfl rfl ?_
  exact hR _ _ _ _ dX9_ill_38 h
set_option maxHeartbeats 4000000 in
set_option maxRecDepth 100000 in
theorem wv_X9_ill {X : OX} {x1 : Int32} {x2 : Int32} {post : Int32 → SS → Prop} {σ : SS} (hC : o_C X cX9_ill RX9 wsX9_ill 2 42 4) (hR : o_RI X cX9_ill post) (h : V_X9_ill x1 x2 σ post) : o_G X σ 0 [(0, .ref (ox_φ X (0, 0, 0))), (1, .int x1), (2, .int x2)] [] := by
  unfold V_X9_ill at h
  refine g_aload_n hC 0 dX9_ill_0 rfl rfl ?_
  refine g_iload_n hC 1 dX9_ill_1 rfl rfl ?_
  refine g_ri (r_V (C := RX9) (T := TX9) (N := 9) (As := [.int x1]) (rest := []) hC o_iX9 (o_eX9 _ _ _ _) rfl (c_X9_isChild (l := ox_l X) (φ := ox_φ X) (D := ox_D X) (cI := ox_I X) (cB := ox_B X) hC.J  h) gX9_ill_X9_isChild rfl hd_X9_isChild ⟨Nat.le_of_ble_eq_true rfl, Nat.le_of_ble_eq_true rfl⟩ rfl rfl (Nat.le_of_ble_eq_true rfl) dX9_ill_2) (fun v2 s2 h => ?_)
  refine g_if_ne hC 11 dX9_ill_5 (by decide) (fun z => ?_) (fun z => ?_)
  · have h := h.1 z
    refine g_aload_n hC 0 dX9_ill_11 rfl rfl ?_
    refine g_get (C := RX9) (T := TX9) (N := 9) (v := .ref (ox_φ X (3, 0, 0))) hC o_iX9 (o_eX9 _ _ _ _) rfl ki_X9_ill_X9 2 (by decide) kw_X9_ill_1 rfl dX9_ill_12 ?_
    refine g_iload_n hC 1 dX9_ill_15 rfl rfl ?_
    refine g_ri (r_V (C := RX4) (T := TX4) (N := 6) (As := [.int x1]) (rest := []) hC (o_in3 0 (by decide)) (o_eX4 _ _ _ _ _) rfl (c_X4_isIll (l := ox_l X) (φ := ox_φ X) (D := ox_D X) (cI := ox_I X) (cB := ox_B X) hC.J (by decide) h) gX9_ill_X4_isIll rfl hd_X4_isIll ⟨Nat.le_of_ble_eq_true rfl, Nat.le_of_ble_eq_true rfl⟩ rfl rfl (Nat.le_of_ble_eq_true rfl) dX9_ill_16) (fun v16 s16 h => ?_)
    refine g_if_eq hC 26 dX9_ill_19 (by decide) (fun z => ?_) (fun z => ?_)
    · have h := h.1 z
      refine g_iconst (v := (0 : Int32)) hC dX9_ill_26 (by decide) ?_
      exact wb_X9_ill_27 hC hR h
    · have h := h.2 z
      refine g_iconst (v := (1 : Int32)) hC dX9_ill_22 (by decide) ?_
      refine g_goto hC 27 dX9_ill_23 (by decide) ?_
      exact wb_X9_ill_27 hC hR h
  · have h := h.2 z
    refine g_bipush (v := (-101 : Int32)) hC dX9_ill_8 (by decide) ?_
    exact hR _ _ _ _ dX9_ill_10 h
set_option maxRecDepth 100000 in
theorem c_X9_ill {l : Launch} {φ : OI → Nat} {D : va_G} {cI cB : ClassId} (hJ : o_J φ) {x1 : Int32} {x2 : Int32} {σ : SS} {post : Int32 → SS → Prop} (h : V_X9_ill x1 x2 σ post) : o_Mi l φ D cI cB yX9_ill wsX9_ill 2 42 [.ref (φ (0, 0, 0)), .int x1, .int x2] σ post :=
 o_met_i hJ (by decide +kernel) rfl (Nat.le_of_ble_eq_true rfl) (fun p e s m args below meth c Q hC hR => wv_X9_ill hC hR h)
theorem hd_X9_isSubject : yX9_isSubject.cls ≠ "java/lang/invoke/MethodHandle" ∧ yX9_isSubject.cls ≠ "java/lang/invoke/VarHandle" ∧ (parseMethodDescriptor yX9_isSubject.desc).map (fun d => d.parameters.length) = some 1 := by decide +kernel
set_option maxHeartbeats 4000000 in
set_option maxRecDepth 100000 in
theorem wb_X9_isSubject_14 {X : OX} {post : Int32 → SS → Prop} {t0 : Int32} {σ : SS} (hC : o_C X cX9_isSubject RX9 wsX9_isSubject 0 0 1) (hR : o_RZ X cX9_isSubject post) (h : VB_X9_isSubject_14 post t0 σ) : o_G X σ 14 [] [.int t0] := by
  unfold VB_X9_isSubject_14 at h
  exact hR _ _ _ _ dX9_isSubject_14 h
set_option maxHeartbeats 4000000 in
set_option maxRecDepth 100000 in
theorem wb_X9_isSubject_13 {X : OX} {post : Int32 → SS → Prop} {σ : SS} (hC : o_C X cX9_isSubject RX9 wsX9_isSubject 0 0 1) (hR : o_RZ X cX9_isSubject post) (h : VB_X9_isSubject_13 post σ) : o_G X σ 13 [] [] := by
  unfold VB_X9_isSubject_13 at h
  refine g_iconst (v := (0 : Int32)) hC dX9_isSubject_13 (by decide) ?_
  exact wb_X9_isSubject_14 hC hR h
set_option maxHeartbeats 4000000 in
set_option maxRecDepth 100000 in
theorem wv_X9_isSubject {X : OX} {x0 : Int32} {post : Int32 → SS → Prop} {σ : SS} (hC : o_C X cX9_isSubject RX9 wsX9_isSubject 0 0 1) (hR : o_RZ X cX9_isSubject post) (h : V_X9_isSubject x0 σ post) : o_G X σ 0 [(0, .int x0)] [] := by
  unfold V_X9_isSubject at h
  refine g_iload_n hC 0 dX9_isSubject_0 rfl rfl ?_
  refine g_if_lt hC 13 dX9_isSubject_1 (by decide) (fun z => ?_) (fun z => ?_)
  · have h := h.1 z
    refine g_sub [] rfl ?_
    exact wb_X9_isSubject_13 hC hR h
  · have h := h.2 z
    refine g_iload_n hC 0 dX9_isSubject_4 rfl rfl ?_
    refine g_iconst (v := (4 : Int32)) hC dX9_isSubject_5 (by decide) ?_
    refine g_icmp_ge hC 13 dX9_isSubject_6 (by decide) (fun z => ?_) (fun z => ?_)
    · have h := h.1 z
      refine g_sub [] rfl ?_
      exact wb_X9_isSubject_13 hC hR h
    · have h := h.2 z
      refine g_iconst (v := (1 : Int32)) hC dX9_isSubject_9 (by decide) ?_
      refine g_goto hC 14 dX9_isSubject_10 (by decide) ?_
      refine g_sub [] rfl ?_
      exact wb_X9_isSubject_14 hC hR h
set_option maxRecDepth 100000 in
theorem c_X9_isSubject {l : Launch} {φ : OI → Nat} {D : va_G} {cI cB : ClassId} (hJ : o_J φ) {x0 : Int32} {σ : SS} {post : Int32 → SS → Prop} (h : V_X9_isSubject x0 σ post) : o_Mi l φ D cI cB yX9_isSubject wsX9_isSubject 0 0 [.int x0] σ post :=
 o_met_z hJ (by decide +kernel) rfl (Nat.le_of_ble_eq_true rfl) (fun p e s m args below meth c Q hC hR => wv_X9_isSubject hC hR h)
theorem hd_X9_isEither : yX9_isEither.cls ≠ "java/lang/invoke/MethodHandle" ∧ yX9_isEither.cls ≠ "java/lang/invoke/VarHandle" ∧ (parseMethodDescriptor yX9_isEither.desc).map (fun d => d.parameters.length) = some 1 := by decide +kernel
set_option maxHeartbeats 4000000 in
set_option maxRecDepth 100000 in
theorem wb_X9_isEither_14 {X : OX} {post : Int32 → SS → Prop} {t0 : Int32} {σ : SS} (hC : o_C X cX9_isEither RX9 wsX9_isEither 0 0 1) (hR : o_RZ X cX9_isEither post) (h : VB_X9_isEither_14 post t0 σ) : o_G X σ 14 [] [.int t0] := by
  unfold VB_X9_isEither_14 at h
  exact hR _ _ _ _ dX9_isEither_14 h
set_option maxHeartbeats 4000000 in
set_option maxRecDepth 100000 in
theorem wb_X9_isEither_9 {X : OX} {post : Int32 → SS → Prop} {σ : SS} (hC : o_C X cX9_isEither RX9 wsX9_isEither 0 0 1) (hR : o_RZ X cX9_isEither post) (h : VB_X9_isEither_9 post σ) : o_G X σ 9 [] [] := by
  unfold VB_X9_isEither_9 at h
  refine g_iconst (v := (1 : Int32)) hC dX9_isEither_9 (by decide) ?_
  refine g_goto hC 14 dX9_isEither_10 (by decide) ?_
  exact wb_X9_isEither_14 hC hR h
set_option maxHeartbeats 4000000 in
set_option maxRecDepth 100000 in
theorem wv_X9_isEither {X : OX} {x0 : Int32} {post : Int32 → SS → Prop} {σ : SS} (hC : o_C X cX9_isEither RX9 wsX9_isEither 0 0 1) (hR : o_RZ X cX9_isEither post) (h : V_X9_isEither x0 σ post) : o_G X σ 0 [(0, .int x0)] [] := by
  unfold V_X9_isEither at h
  refine g_iload_n hC 0 dX9_isEither_0 rfl rfl ?_
  refine g_if_eq hC 9 dX9_isEither_1 (by decide) (fun z => ?_) (fun z => ?_)
  · have h := h.1 z
    refine g_sub [] rfl ?_
    exact wb_X9_isEither_9 hC hR h
  · have h := h.2 z
    refine g_iload_n hC 0 dX9_isEither_4 rfl rfl ?_
    refine g_iconst (v := (1 : Int32)) hC dX9_isEither_5 (by decide) ?_
    refine g_icmp_ne hC 13 dX9_isEither_6 (by decide) (fun z => ?_) (fun z => ?_)
    · have h := h.1 z
      refine g_iconst (v := (0 : Int32)) hC dX9_isEither_13 (by decide) ?_
      refine g_sub [] rfl ?_
      exact wb_X9_isEither_14 hC hR h
    · have h := h.2 z
      refine g_sub [] rfl ?_
      exact wb_X9_isEither_9 hC hR h
set_option maxRecDepth 100000 in
theorem c_X9_isEither {l : Launch} {φ : OI → Nat} {D : va_G} {cI cB : ClassId} (hJ : o_J φ) {x0 : Int32} {σ : SS} {post : Int32 → SS → Prop} (h : V_X9_isEither x0 σ post) : o_Mi l φ D cI cB yX9_isEither wsX9_isEither 0 0 [.int x0] σ post :=
 o_met_z hJ (by decide +kernel) rfl (Nat.le_of_ble_eq_true rfl) (fun p e s m args below meth c Q hC hR => wv_X9_isEither hC hR h)
theorem kw_X9_knows_1 : Cond.fieldLink RX9 28 "SchoolRow" "now" "LSchoolRow$Row;" ∈ wsX9_knows := List.mem_of_getElem? (i := 1) (by decide +kernel)
theorem ki_X9_knows_X9 : ∀ w ∈ wsX90, w ∈ wsX9_knows := fun _ h => List.mem_cons_of_mem _ (List.mem_append_left _ (List.mem_append_left _ (List.mem_append_left _ (List.mem_append_right _ h))))
theorem hd_X9_knows : yX9_knows.cls = RX9 ∧ yX9_knows.cls ≠ "java/lang/invoke/MethodHandle" ∧ yX9_knows.cls ≠ "java/lang/invoke/VarHandle" ∧ (parseMethodDescriptor yX9_knows.desc).map (fun d => d.parameters.length) = some 3 := by decide +kernel
set_option maxHeartbeats 4000000 in
set_option maxRecDepth 100000 in
theorem wb_X9_knows_15 {X : OX} {post : Int32 → SS → Prop} {σ : SS} (hC : o_C X cX9_knows RX9 wsX9_knows 2 43 4) (hR : o_RI X cX9_knows post) (h : VB_X9_knows_15 post σ) : o_G X σ 15 [] [] := by
  unfold VB_X9_knows_15 at h
  refine g_bipush (v := (-101 : Int32)) hC dX9_knows_15 (by decide) ?_
  exact hR _ _ _ _ dX9_knows_17 h
set_option maxHeartbeats 4000000 in
set_option maxRecDepth 100000 in
theorem wb_X9_knows_53 {X : OX} {post : Int32 → SS → Prop} {t0 : Int32} {σ : SS} (hC : o_C X cX9_knows RX9 wsX9_knows 2 43 4) (hR : o_RI X cX9_knows post) (h : VB_X9_knows_53 post t0 σ) : o_G X σ 53 [] [.int t0] := by
  unfold VB_X9_knows_53 at h
  exact hR _ _ _ _ dX9_knows_53 h
set_option maxHeartbeats 4000000 in
set_option maxRecDepth 100000 in
theorem wv_X9_knows {X : OX} {x1 : Int32} {x2 : Int32} {x3 : Int32} {post : Int32 → SS → Prop} {σ : SS} (hC : o_C X cX9_knows RX9 wsX9_knows 2 43 4) (hR : o_RI X cX9_knows post) (h : V_X9_knows x1 x2 x3 σ post) : o_G X σ 0 [(0, .ref (ox_φ X (0, 0, 0))), (1, .int x1), (2, .int x2), (3, .int x3)] [] := by
  unfold V_X9_knows at h
  refine g_aload_n hC 0 dX9_knows_0 rfl rfl ?_
  refine g_iload_n hC 1 dX9_knows_1 rfl rfl ?_
  refine g_ri (r_V (C := RX9) (T := TX9) (N := 9) (As := [.int x1]) (rest := []) hC o_iX9 (o_eX9 _ _ _ _) rfl (c_X9_isChild (l := ox_l X) (φ := ox_φ X) (D := ox_D X) (cI := ox_I X) (cB := ox_B X) hC.J  h) gX9_knows_X9_isChild rfl hd_X9_isChild ⟨Nat.le_of_ble_eq_true rfl, Nat.le_of_ble_eq_true rfl⟩ rfl rfl (Nat.le_of_ble_eq_true rfl) dX9_knows_2) (fun v2 s2 h => ?_)
  refine g_if_eq hC 15 dX9_knows_5 (by decide) (fun z => ?_) (fun z => ?_)
  · have h := h.1 z
    refine g_sub [] rfl ?_
    exact wb_X9_knows_15 hC hR h
  · have h := h.2 z
    refine g_iload_n hC 2 dX9_knows_8 rfl rfl ?_
    refine g_ri (r_S (As := [.int x2]) (rest := []) hC (c_X9_isSubject (l := ox_l X) (φ := ox_φ X) (D := ox_D X) (cI := ox_I X) (cB := ox_B X) hC.J  h) gX9_knows_X9_isSubject rfl hd_X9_isSubject ⟨Nat.le_of_ble_eq_true rfl, Nat.le_of_ble_eq_true rfl⟩ rfl rfl (Nat.le_of_ble_eq_true rfl) dX9_knows_9) (fun v9 s9 h => ?_)
    refine g_if_ne hC 18 dX9_knows_12 (by decide) (fun z => ?_) (fun z => ?_)
    · have h := h.1 z
      refine g_iload_n hC 3 dX9_knows_18 rfl rfl ?_
      refine g_ri (r_S (As := [.int x3]) (rest := []) hC (c_X9_isEither (l := ox_l X) (φ := ox_φ X) (D := ox_D X) (cI := ox_I X) (cB := ox_B X) hC.J  h) gX9_knows_X9_isEither rfl hd_X9_isEither ⟨Nat.le_of_ble_eq_true rfl, Nat.le_of_ble_eq_true rfl⟩ rfl rfl (Nat.le_of_ble_eq_true rfl) dX9_knows_19) (fun v19 s19 h => ?_)
      refine g_if_ne hC 28 dX9_knows_22 (by decide) (fun z => ?_) (fun z => ?_)
      · have h := h.1 z
        refine g_iload_n hC 3 dX9_knows_28 rfl rfl ?_
        refine g_if_ne hC 44 dX9_knows_29 (by decide) (fun z => ?_) (fun z => ?_)
        · have h := h.1 z
          refine g_aload_n hC 0 dX9_knows_44 rfl rfl ?_
          refine g_get (C := RX9) (T := TX9) (N := 9) (v := .ref (ox_φ X (3, 0, 0))) hC o_iX9 (o_eX9 _ _ _ _) rfl ki_X9_knows_X9 2 (by decide) kw_X9_knows_1 rfl dX9_knows_45 ?_
          refine g_iload_n hC 1 dX9_knows_48 rfl rfl ?_
          refine g_iload_n hC 2 dX9_knows_49 rfl rfl ?_
          refine g_ri (r_V (C := RX4) (T := TX4) (N := 6) (As := [.int x1, .int x2]) (rest := []) hC (o_in3 0 (by decide)) (o_eX4 _ _ _ _ _) rfl (c_X4_mistakes (l := ox_l X) (φ := ox_φ X) (D := ox_D X) (cI := ox_I X) (cB := ox_B X) hC.J (by decide) h) gX9_knows_X4_mistakes rfl hd_X4_mistakes ⟨Nat.le_of_ble_eq_true rfl, Nat.le_of_ble_eq_true rfl⟩ rfl rfl (Nat.le_of_ble_eq_true rfl) dX9_knows_50) (fun v50 s50 h => ?_)
          refine g_sub [] rfl ?_
          exact wb_X9_knows_53 hC hR h
        · have h := h.2 z
          refine g_aload_n hC 0 dX9_knows_32 rfl rfl ?_
          refine g_get (C := RX9) (T := TX9) (N := 9) (v := .ref (ox_φ X (3, 0, 0))) hC o_iX9 (o_eX9 _ _ _ _) rfl ki_X9_knows_X9 2 (by decide) kw_X9_knows_1 rfl dX9_knows_33 ?_
          refine g_iload_n hC 1 dX9_knows_36 rfl rfl ?_
          refine g_iload_n hC 2 dX9_knows_37 rfl rfl ?_
          refine g_ri (r_V (C := RX4) (T := TX4) (N := 6) (As := [.int x1, .int x2]) (rest := []) hC (o_in3 0 (by decide)) (o_eX4 _ _ _ _ _) rfl (c_X4_parts (l := ox_l X) (φ := ox_φ X) (D := ox_D X) (cI := ox_I X) (cB := ox_B X) hC.J (by decide) h) gX9_knows_X4_parts rfl hd_X4_parts ⟨Nat.le_of_ble_eq_true rfl, Nat.le_of_ble_eq_true rfl⟩ rfl rfl (Nat.le_of_ble_eq_true rfl) dX9_knows_38) (fun v38 s38 h => ?_)
          refine g_goto hC 53 dX9_knows_41 (by decide) ?_
          refine g_sub [] rfl ?_
          exact wb_X9_knows_53 hC hR h
      · have h := h.2 z
        refine g_bipush (v := (-102 : Int32)) hC dX9_knows_25 (by decide) ?_
        exact hR _ _ _ _ dX9_knows_27 h
    · have h := h.2 z
      refine g_sub [] rfl ?_
      exact wb_X9_knows_15 hC hR h
set_option maxRecDepth 100000 in
theorem c_X9_knows {l : Launch} {φ : OI → Nat} {D : va_G} {cI cB : ClassId} (hJ : o_J φ) {x1 : Int32} {x2 : Int32} {x3 : Int32} {σ : SS} {post : Int32 → SS → Prop} (h : V_X9_knows x1 x2 x3 σ post) : o_Mi l φ D cI cB yX9_knows wsX9_knows 2 43 [.ref (φ (0, 0, 0)), .int x1, .int x2, .int x3] σ post :=
 o_met_i hJ (by decide +kernel) rfl (Nat.le_of_ble_eq_true rfl) (fun p e s m args below meth c Q hC hR => wv_X9_knows hC hR h)
theorem kw_X9_hasSchool_1 : Cond.fieldLink RX9 19 "SchoolRow" "school" "LSchoolRow$School;" ∈ wsX9_hasSchool := List.mem_of_getElem? (i := 1) (by decide +kernel)
theorem ki_X9_hasSchool_X9 : ∀ w ∈ wsX90, w ∈ wsX9_hasSchool := fun _ h => List.mem_cons_of_mem _ (List.mem_append_left _ (List.mem_append_right _ h))
theorem hd_X9_hasSchool : yX9_hasSchool.cls = RX9 ∧ yX9_hasSchool.cls ≠ "java/lang/invoke/MethodHandle" ∧ yX9_hasSchool.cls ≠ "java/lang/invoke/VarHandle" ∧ (parseMethodDescriptor yX9_hasSchool.desc).map (fun d => d.parameters.length) = some 0 := by decide +kernel
set_option maxHeartbeats 4000000 in
set_option maxRecDepth 100000 in
theorem wb_X9_hasSchool_15 {X : OX} {post : Int32 → SS → Prop} {t0 : Int32} {σ : SS} (hC : o_C X cX9_hasSchool RX9 wsX9_hasSchool 1 20 1) (hR : o_RZ X cX9_hasSchool post) (h : VB_X9_hasSchool_15 post t0 σ) : o_G X σ 15 [] [.int t0] := by
  unfold VB_X9_hasSchool_15 at h
  exact hR _ _ _ _ dX9_hasSchool_15 h
set_option maxHeartbeats 4000000 in
set_option maxRecDepth 100000 in
theorem wv_X9_hasSchool {X : OX} {post : Int32 → SS → Prop} {σ : SS} (hC : o_C X cX9_hasSchool RX9 wsX9_hasSchool 1 20 1) (hR : o_RZ X cX9_hasSchool post) (h : V_X9_hasSchool σ post) : o_G X σ 0 [(0, .ref (ox_φ X (0, 0, 0)))] [] := by
  unfold V_X9_hasSchool at h
  refine g_aload_n hC 0 dX9_hasSchool_0 rfl rfl ?_
  refine g_get (C := RX9) (T := TX9) (N := 9) (v := .ref (ox_φ X (2, 0, 0))) hC o_iX9 (o_eX9 _ _ _ _) rfl ki_X9_hasSchool_X9 1 (by decide) kw_X9_hasSchool_1 rfl dX9_hasSchool_1 ?_
  refine g_ri (r_V (C := RX5) (T := TX5) (N := 8) (As := []) (rest := []) hC o_iX5 (o_eX5 _ _ _ _) rfl (c_X5_size (l := ox_l X) (φ := ox_φ X) (D := ox_D X) (cI := ox_I X) (cB := ox_B X) hC.J  h) gX9_hasSchool_X5_size rfl hd_X5_size ⟨Nat.le_of_ble_eq_true rfl, Nat.le_of_ble_eq_true rfl⟩ rfl rfl (Nat.le_of_ble_eq_true rfl) dX9_hasSchool_4) (fun v4 s4 h => ?_)
  refine g_if_le hC 14 dX9_hasSchool_7 (by decide) (fun z => ?_) (fun z => ?_)
  · have h := h.1 z
    refine g_iconst (v := (0 : Int32)) hC dX9_hasSchool_14 (by decide) ?_
    refine g_sub [] rfl ?_
    exact wb_X9_hasSchool_15 hC hR h
  · have h := h.2 z
    refine g_iconst (v := (1 : Int32)) hC dX9_hasSchool_10 (by decide) ?_
    refine g_goto hC 15 dX9_hasSchool_11 (by decide) ?_
    refine g_sub [] rfl ?_
    exact wb_X9_hasSchool_15 hC hR h
set_option maxRecDepth 100000 in
theorem c_X9_hasSchool {l : Launch} {φ : OI → Nat} {D : va_G} {cI cB : ClassId} (hJ : o_J φ) {σ : SS} {post : Int32 → SS → Prop} (h : V_X9_hasSchool σ post) : o_Mi l φ D cI cB yX9_hasSchool wsX9_hasSchool 1 20 [.ref (φ (0, 0, 0))] σ post :=
 o_met_z hJ (by decide +kernel) rfl (Nat.le_of_ble_eq_true rfl) (fun p e s m args below meth c Q hC hR => wv_X9_hasSchool hC hR h)
