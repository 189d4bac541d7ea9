theorem kw_X10_change_1 : Cond.fieldLink RX10 16 "SchoolRowModel" "seatOf" "[I" ∈ wsX10_change := List.mem_of_getElem? (i := 1) (by decide +kernel)
theorem kw_X10_change_2 : Cond.fieldLink RX10 31 "SchoolRowModel" "onSeat" "[I" ∈ wsX10_change := List.mem_of_getElem? (i := 2) (by decide +kernel)
theorem ki_X10_change_X10 : ∀ w ∈ wsX100, w ∈ wsX10_change := fun _ h => List.mem_cons_of_mem _ (List.mem_append_right _ h)
theorem hd_X10_change : yX10_change.cls = RX10 ∧ yX10_change.cls ≠ "java/lang/invoke/MethodHandle" ∧ yX10_change.cls ≠ "java/lang/invoke/VarHandle" ∧ (parseMethodDescriptor yX10_change.desc).map (fun d => d.parameters.length) = some 2 := by decide +kernel
set_option maxHeartbeats 4000000 in
set_option maxRecDepth 100000 in
theorem wv_X10_change {X : OX} {x1 : Int32} {x2 : Int32} {post : SS → Prop} {σ : SS} (hC : o_C X cX10_change RX10 wsX10_change 0 0 4) (hR : o_RV X cX10_change post) (h : V_X10_change x1 x2 σ post) : o_G X σ 0 [(0, .ref (ox_φ X (7, 0, 0))), (1, .int x1), (2, .int x2)] [] := by
  unfold V_X10_change at h
  refine g_aload_n hC 0 dX10_change_0 rfl rfl ?_
  refine g_get (C := RX10) (T := TX10) (N := 25) (v := .ref (ox_φ X (8, 0, 2))) hC o_iX10 (o_eX10 _ _ _ _) rfl ki_X10_change_X10 6 (by decide) kw_X10_change_1 rfl dX10_change_1 ?_
  refine g_iload_n hC 1 dX10_change_4 rfl rfl ?_
  refine g_iald hC o_M2 h.1 dX10_change_5 ?_
  have h := h.2
  refine g_topi (fun y6 e6 => ?_)
  have h := h y6 e6
  refine g_istore_n hC [(3, .int y6), (0, .ref (ox_φ X (7, 0, 0))), (1, .int x1), (2, .int x2)] dX10_change_6 rfl (by decide) rfl ?_
  refine g_aload_n hC 1 dX10_change_7 rfl rfl ?_
  refine g_get (C := RX10) (T := TX10) (N := 25) (v := .ref (ox_φ X (8, 0, 2))) hC o_iX10 (o_eX10 _ _ _ _) rfl ki_X10_change_X10 6 (by decide) kw_X10_change_1 rfl dX10_change_8 ?_
  refine g_iload_n hC 2 dX10_change_11 rfl rfl ?_
  refine g_aload_n hC 1 dX10_change_12 rfl rfl ?_
  refine g_get (C := RX10) (T := TX10) (N := 25) (v := .ref (ox_φ X (8, 0, 2))) hC o_iX10 (o_eX10 _ _ _ _) rfl ki_X10_change_X10 6 (by decide) kw_X10_change_1 rfl dX10_change_13 ?_
  refine g_iload_n hC 3 dX10_change_16 rfl rfl ?_
  refine g_iald hC o_M2 h.1 dX10_change_17 ?_
  have h := h.2
  refine g_iast hC o_M2 h.1 dX10_change_18 ?_
  have h := h.2
  refine g_aload_n hC 1 dX10_change_19 rfl rfl ?_
  refine g_get (C := RX10) (T := TX10) (N := 25) (v := .ref (ox_φ X (8, 0, 2))) hC o_iX10 (o_eX10 _ _ _ _) rfl ki_X10_change_X10 6 (by decide) kw_X10_change_1 rfl dX10_change_20 ?_
  refine g_iload_n hC 3 dX10_change_23 rfl rfl ?_
  refine g_iload_n hC 0 dX10_change_24 rfl rfl ?_
  refine g_iast hC o_M2 h.1 dX10_change_25 ?_
  have h := h.2
  refine g_aload_n hC 1 dX10_change_26 rfl rfl ?_
  refine g_get (C := RX10) (T := TX10) (N := 25) (v := .ref (ox_φ X (8, 0, 7))) hC o_iX10 (o_eX10 _ _ _ _) rfl ki_X10_change_X10 11 (by decide) kw_X10_change_2 rfl dX10_change_27 ?_
  refine g_aload_n hC 1 dX10_change_30 rfl rfl ?_
  refine g_get (C := RX10) (T := TX10) (N := 25) (v := .ref (ox_φ X (8, 0, 2))) hC o_iX10 (o_eX10 _ _ _ _) rfl ki_X10_change_X10 6 (by decide) kw_X10_change_1 rfl dX10_change_31 ?_
  refine g_iload_n hC 2 dX10_change_34 rfl rfl ?_
  refine g_iald hC o_M2 h.1 dX10_change_35 ?_
  have h := h.2
  refine g_iload_n hC 2 dX10_change_36 rfl rfl ?_
  refine g_iast hC o_M7 h.1 dX10_change_37 ?_
  have h := h.2
  refine g_aload_n hC 1 dX10_change_38 rfl rfl ?_
  refine g_get (C := RX10) (T := TX10) (N := 25) (v := .ref (ox_φ X (8, 0, 7))) hC o_iX10 (o_eX10 _ _ _ _) rfl ki_X10_change_X10 11 (by decide) kw_X10_change_2 rfl dX10_change_39 ?_
  refine g_aload_n hC 1 dX10_change_42 rfl rfl ?_
  refine g_get (C := RX10) (T := TX10) (N := 25) (v := .ref (ox_φ X (8, 0, 2))) hC o_iX10 (o_eX10 _ _ _ _) rfl ki_X10_change_X10 6 (by decide) kw_X10_change_1 rfl dX10_change_43 ?_
  refine g_iload_n hC 3 dX10_change_46 rfl rfl ?_
  refine g_iald hC o_M2 h.1 dX10_change_47 ?_
  have h := h.2
  refine g_iload_n hC 3 dX10_change_48 rfl rfl ?_
  refine g_iast hC o_M7 h.1 dX10_change_49 ?_
  have h := h.2
  exact hR _ _ _ dX10_change_50 h
set_option maxRecDepth 100000 in
theorem c_X10_change {l : Launch} {φ : OI → Nat} {D : va_G} {cI cB : ClassId} (hJ : o_J φ) {x1 : Int32} {x2 : Int32} {σ : SS} {post : SS → Prop} (h : V_X10_change x1 x2 σ post) : o_Mv l φ D cI cB yX10_change wsX10_change 0 0 [.ref (φ (7, 0, 0)), .int x1, .int x2] σ post :=
 o_met_v hJ (by decide +kernel) rfl (Nat.le_of_ble_eq_true rfl) (fun p e s m args below meth c Q hC hR => wv_X10_change hC hR h)
theorem kw_X10_swap_1 : Cond.fieldLink RX10 16 "SchoolRowModel" "seatOf" "[I" ∈ wsX10_swap := List.mem_of_getElem? (i := 1) (by decide +kernel)
theorem ki_X10_swap_X10 : ∀ w ∈ wsX100, w ∈ wsX10_swap := fun _ h => List.mem_cons_of_mem _ (List.mem_append_right _ h)
theorem hd_X10_swap : yX10_swap.cls = RX10 ∧ yX10_swap.cls ≠ "java/lang/invoke/MethodHandle" ∧ yX10_swap.cls ≠ "java/lang/invoke/VarHandle" ∧ (parseMethodDescriptor yX10_swap.desc).map (fun d => d.parameters.length) = some 2 := by decide +kernel
set_option maxHeartbeats 4000000 in
set_option maxRecDepth 100000 in
theorem wb_X10_swap_16 {X : OX} {post : Int32 → SS → Prop} {σ : SS} (hC : o_C X cX10_swap RX10 wsX10_swap 2 43 3) (hR : o_RI X cX10_swap post) (h : VB_X10_swap_16 post σ) : o_G X σ 16 [] [] := by
  unfold VB_X10_swap_16 at h
  refine g_bipush (v := (-101 : Int32)) hC dX10_swap_16 (by decide) ?_
  exact hR _ _ _ _ dX10_swap_18 h
set_option maxHeartbeats 4000000 in
set_option maxRecDepth 100000 in
theorem wv_X10_swap {X : OX} {x1 : Int32} {x2 : Int32} {post : Int32 → SS → Prop} {σ : SS} (hC : o_C X cX10_swap RX10 wsX10_swap 2 43 3) (hR : o_RI X cX10_swap post) (h : V_X10_swap x1 x2 σ post) : o_G X σ 0 [(0, .ref (ox_φ X (7, 0, 0))), (1, .int x1), (2, .int x2)] [] := by
  unfold V_X10_swap at h
  refine g_aload_n hC 0 dX10_swap_0 rfl rfl ?_
  refine g_iload_n hC 1 dX10_swap_1 rfl rfl ?_
  refine g_ri (r_V (C := RX10) (T := TX10) (N := 25) (As := [.int x1]) (rest := []) hC o_iX10 (o_eX10 _ _ _ _) rfl (c_X10_isChild (l := ox_l X) (φ := ox_φ X) (D := ox_D X) (cI := ox_I X) (cB := ox_B X) hC.J  h) gX10_swap_X10_isChild rfl hd_X10_isChild ⟨Nat.le_of_ble_eq_true rfl, Nat.le_of_ble_eq_true rfl⟩ rfl rfl (Nat.le_of_ble_eq_true rfl) dX10_swap_2) (fun v2 s2 h => ?_)
  refine g_if_eq hC 16 dX10_swap_5 (by decide) (fun z => ?_) (fun z => ?_)
  · have h := h.1 z
    refine g_sub [] rfl ?_
    exact wb_X10_swap_16 hC hR h
  · have h := h.2 z
    refine g_aload_n hC 0 dX10_swap_8 rfl rfl ?_
    refine g_iload_n hC 2 dX10_swap_9 rfl rfl ?_
    refine g_ri (r_V (C := RX10) (T := TX10) (N := 25) (As := [.int x2]) (rest := []) hC o_iX10 (o_eX10 _ _ _ _) rfl (c_X10_isChild (l := ox_l X) (φ := ox_φ X) (D := ox_D X) (cI := ox_I X) (cB := ox_B X) hC.J  h) gX10_swap_X10_isChild rfl hd_X10_isChild ⟨Nat.le_of_ble_eq_true rfl, Nat.le_of_ble_eq_true rfl⟩ rfl rfl (Nat.le_of_ble_eq_true rfl) dX10_swap_10) (fun v10 s10 h => ?_)
    refine g_if_ne hC 19 dX10_swap_13 (by decide) (fun z => ?_) (fun z => ?_)
    · have h := h.1 z
      refine g_aload_n hC 0 dX10_swap_19 rfl rfl ?_
      refine g_iload_n hC 1 dX10_swap_20 rfl rfl ?_
      refine g_iload_n hC 2 dX10_swap_21 rfl rfl ?_
      refine g_rv (r_V (C := RX10) (T := TX10) (N := 25) (As := [.int x1, .int x2]) (rest := []) hC o_iX10 (o_eX10 _ _ _ _) rfl (c_X10_change (l := ox_l X) (φ := ox_φ X) (D := ox_D X) (cI := ox_I X) (cB := ox_B X) hC.J  h) gX10_swap_X10_change rfl hd_X10_change ⟨Nat.le_of_ble_eq_true rfl, Nat.le_of_ble_eq_true rfl⟩ rfl rfl (Nat.le_of_ble_eq_true rfl) dX10_swap_22) (fun s22 h => ?_)
      refine g_aload_n hC 0 dX10_swap_25 rfl rfl ?_
      refine g_get (C := RX10) (T := TX10) (N := 25) (v := .ref (ox_φ X (8, 0, 2))) hC o_iX10 (o_eX10 _ _ _ _) rfl ki_X10_swap_X10 6 (by decide) kw_X10_swap_1 rfl dX10_swap_26 ?_
      refine g_iload_n hC 2 dX10_swap_29 rfl rfl ?_
      refine g_iald hC o_M2 h.1 dX10_swap_30 ?_
      have h := h.2
      exact hR _ _ _ _ dX10_swap_31 h
    · have h := h.2 z
      refine g_sub [] rfl ?_
      exact wb_X10_swap_16 hC hR h
set_option maxRecDepth 100000 in
theorem c_X10_swap {l : Launch} {φ : OI → Nat} {D : va_G} {cI cB : ClassId} (hJ : o_J φ) {x1 : Int32} {x2 : Int32} {σ : SS} {post : Int32 → SS → Prop} (h : V_X10_swap x1 x2 σ post) : o_Mi l φ D cI cB yX10_swap wsX10_swap 2 43 [.ref (φ (7, 0, 0)), .int x1, .int x2] σ post :=
 o_met_i hJ (by decide +kernel) rfl (Nat.le_of_ble_eq_true rfl) (fun p e s m args below meth c Q hC hR => wv_X10_swap hC hR h)
theorem kw_X10_ill_1 : Cond.fieldLink RX10 19 "SchoolRowModel" "illOf" "[I" ∈ wsX10_ill := List.mem_of_getElem? (i := 1) (by decide +kernel)
theorem ki_X10_ill_X10 : ∀ w ∈ wsX100, w ∈ wsX10_ill := fun _ h => List.mem_cons_of_mem _ (List.mem_append_right _ h)
theorem hd_X10_ill : yX10_ill.cls = RX10 ∧ yX10_ill.cls ≠ "java/lang/invoke/MethodHandle" ∧ yX10_ill.cls ≠ "java/lang/invoke/VarHandle" ∧ (parseMethodDescriptor yX10_ill.desc).map (fun d => d.parameters.length) = some 2 := by decide +kernel
set_option maxHeartbeats 4000000 in
set_option maxRecDepth 100000 in
theorem wb_X10_ill_32 {X : OX} {post : Int32 → SS → Prop} {x3 : Int32} {t0 : Int32} {t1 : Int32} {σ : SS} (hC : o_C X cX10_ill RX10 wsX10_ill 2 43 4) (hR : o_RI X cX10_ill post) (h : VB_X10_ill_32 post x3 t0 t1 σ) : o_G X σ 32 [(3, .int x3)] [.int t0, .int t1, .ref (ox_φ X (8, 0, 3))] := by
  unfold VB_X10_ill_32 at h
  refine g_iast hC o_M3 h.1 dX10_ill_32 ?_
  have h := h.2
  refine g_iload_n hC 0 dX10_ill_33 rfl rfl ?_
  exact hR _ _ _ _ dX10_ill_34 h
set_option maxHeartbeats 4000000 in
set_option maxRecDepth 100000 in
theorem wv_X10_ill {X : OX} {x1 : Int32} {x2 : Int32} {post : Int32 → SS → Prop} {σ : SS} (hC : o_C X cX10_ill RX10 wsX10_ill 2 43 4) (hR : o_RI X cX10_ill post) (h : V_X10_ill x1 x2 σ post) : o_G X σ 0 [(0, .ref (ox_φ X (7, 0, 0))), (1, .int x1), (2, .int x2)] [] := by
  unfold V_X10_ill at h
  refine g_aload_n hC 0 dX10_ill_0 rfl rfl ?_
  refine g_iload_n hC 1 dX10_ill_1 rfl rfl ?_
  refine g_ri (r_V (C := RX10) (T := TX10) (N := 25) (As := [.int x1]) (rest := []) hC o_iX10 (o_eX10 _ _ _ _) rfl (c_X10_isChild (l := ox_l X) (φ := ox_φ X) (D := ox_D X) (cI := ox_I X) (cB := ox_B X) hC.J  h) gX10_ill_X10_isChild rfl hd_X10_isChild ⟨Nat.le_of_ble_eq_true rfl, Nat.le_of_ble_eq_true rfl⟩ rfl rfl (Nat.le_of_ble_eq_true rfl) dX10_ill_2) (fun v2 s2 h => ?_)
  refine g_if_ne hC 11 dX10_ill_5 (by decide) (fun z => ?_) (fun z => ?_)
  · have h := h.1 z
    refine g_aload_n hC 0 dX10_ill_11 rfl rfl ?_
    refine g_get (C := RX10) (T := TX10) (N := 25) (v := .ref (ox_φ X (8, 0, 3))) hC o_iX10 (o_eX10 _ _ _ _) rfl ki_X10_ill_X10 7 (by decide) kw_X10_ill_1 rfl dX10_ill_12 ?_
    refine g_iload_n hC 1 dX10_ill_15 rfl rfl ?_
    refine g_iald hC o_M3 h.1 dX10_ill_16 ?_
    have h := h.2
    refine g_topi (fun y17 e17 => ?_)
    have h := h y17 e17
    refine g_istore_n hC [(3, .int y17), (0, .ref (ox_φ X (7, 0, 0))), (1, .int x1), (2, .int x2)] dX10_ill_17 rfl (by decide) rfl ?_
    refine g_aload_n hC 1 dX10_ill_18 rfl rfl ?_
    refine g_get (C := RX10) (T := TX10) (N := 25) (v := .ref (ox_φ X (8, 0, 3))) hC o_iX10 (o_eX10 _ _ _ _) rfl ki_X10_ill_X10 7 (by decide) kw_X10_ill_1 rfl dX10_ill_19 ?_
    refine g_iload_n hC 2 dX10_ill_22 rfl rfl ?_
    refine g_iload_n hC 3 dX10_ill_23 rfl rfl ?_
    refine g_if_eq hC 31 dX10_ill_24 (by decide) (fun z => ?_) (fun z => ?_)
    · have h := h.1 z
      refine g_iconst (v := (0 : Int32)) hC dX10_ill_31 (by decide) ?_
      refine g_sub [0] rfl ?_
      exact wb_X10_ill_32 hC hR h
    · have h := h.2 z
      refine g_iconst (v := (1 : Int32)) hC dX10_ill_27 (by decide) ?_
      refine g_goto hC 32 dX10_ill_28 (by decide) ?_
      refine g_sub [0] rfl ?_
      exact wb_X10_ill_32 hC hR h
  · have h := h.2 z
    refine g_bipush (v := (-101 : Int32)) hC dX10_ill_8 (by decide) ?_
    exact hR _ _ _ _ dX10_ill_10 h
set_option maxRecDepth 100000 in
theorem c_X10_ill {l : Launch} {φ : OI → Nat} {D : va_G} {cI cB : ClassId} (hJ : o_J φ) {x1 : Int32} {x2 : Int32} {σ : SS} {post : Int32 → SS → Prop} (h : V_X10_ill x1 x2 σ post) : o_Mi l φ D cI cB yX10_ill wsX10_ill 2 43 [.ref (φ (7, 0, 0)), .int x1, .int x2] σ post :=
 o_met_i hJ (by decide +kernel) rfl (Nat.le_of_ble_eq_true rfl) (fun p e s m args below meth c Q hC hR => wv_X10_ill hC hR h)
theorem kw_X10_knowsNow_1 : Cond.fieldLink RX10 25 "SchoolRowModel" "partsOf" "[I" ∈ wsX10_knowsNow := List.mem_of_getElem? (i := 1) (by decide +kernel)
theorem kw_X10_knowsNow_2 : Cond.fieldLink RX10 28 "SchoolRowModel" "wrongOf" "[I" ∈ wsX10_knowsNow := List.mem_of_getElem? (i := 2) (by decide +kernel)
theorem ki_X10_knowsNow_X10 : ∀ w ∈ wsX100, w ∈ wsX10_knowsNow := fun _ h => List.mem_cons_of_mem _ (List.mem_append_right _ h)
theorem hd_X10_knowsNow : yX10_knowsNow.cls = RX10 ∧ yX10_knowsNow.cls ≠ "java/lang/invoke/MethodHandle" ∧ yX10_knowsNow.cls ≠ "java/lang/invoke/VarHandle" ∧ (parseMethodDescriptor yX10_knowsNow.desc).map (fun d => d.parameters.length) = some 3 := by decide +kernel
set_option maxHeartbeats 4000000 in
set_option maxRecDepth 100000 in
theorem wb_X10_knowsNow_27 {X : OX} {post : Int32 → SS → Prop} {t0 : Int32} {σ : SS} (hC : o_C X cX10_knowsNow RX10 wsX10_knowsNow 0 0 4) (hR : o_RI X cX10_knowsNow post) (h : VB_X10_knowsNow_27 post t0 σ) : o_G X σ 27 [] [.int t0] := by
  unfold VB_X10_knowsNow_27 at h
  exact hR _ _ _ _ dX10_knowsNow_27 h
set_option maxHeartbeats 4000000 in
set_option maxRecDepth 100000 in
theorem wv_X10_knowsNow {X : OX} {x1 : Int32} {x2 : Int32} {x3 : Int32} {post : Int32 → SS → Prop} {σ : SS} (hC : o_C X cX10_knowsNow RX10 wsX10_knowsNow 0 0 4) (hR : o_RI X cX10_knowsNow post) (h : V_X10_knowsNow x1 x2 x3 σ post) : o_G X σ 0 [(0, .ref (ox_φ X (7, 0, 0))), (1, .int x1), (2, .int x2), (3, .int x3)] [] := by
  unfold V_X10_knowsNow at h
  refine g_iload_n hC 3 dX10_knowsNow_0 rfl rfl ?_
  refine g_if_ne hC 17 dX10_knowsNow_1 (by decide) (fun z => ?_) (fun z => ?_)
  · have h := h.1 z
    refine g_aload_n hC 0 dX10_knowsNow_17 rfl rfl ?_
    refine g_get (C := RX10) (T := TX10) (N := 25) (v := .ref (ox_φ X (8, 0, 6))) hC o_iX10 (o_eX10 _ _ _ _) rfl ki_X10_knowsNow_X10 10 (by decide) kw_X10_knowsNow_2 rfl dX10_knowsNow_18 ?_
    refine g_iconst (v := (4 : Int32)) hC dX10_knowsNow_21 (by decide) ?_
    refine g_iload_n hC 1 dX10_knowsNow_22 rfl rfl ?_
    refine g_imul hC dX10_knowsNow_23 ?_
    refine g_iload_n hC 2 dX10_knowsNow_24 rfl rfl ?_
    refine g_iadd hC dX10_knowsNow_25 ?_
    refine g_iald hC o_M6 h.1 dX10_knowsNow_26 ?_
    have h := h.2
    refine g_sub [] rfl ?_
    exact wb_X10_knowsNow_27 hC hR h
  · have h := h.2 z
    refine g_aload_n hC 0 dX10_knowsNow_4 rfl rfl ?_
    refine g_get (C := RX10) (T := TX10) (N := 25) (v := .ref (ox_φ X (8, 0, 5))) hC o_iX10 (o_eX10 _ _ _ _) rfl ki_X10_knowsNow_X10 9 (by decide) kw_X10_knowsNow_1 rfl dX10_knowsNow_5 ?_
    refine g_iconst (v := (4 : Int32)) hC dX10_knowsNow_8 (by decide) ?_
    refine g_iload_n hC 1 dX10_knowsNow_9 rfl rfl ?_
    refine g_imul hC dX10_knowsNow_10 ?_
    refine g_iload_n hC 2 dX10_knowsNow_11 rfl rfl ?_
    refine g_iadd hC dX10_knowsNow_12 ?_
    refine g_iald hC o_M5 h.1 dX10_knowsNow_13 ?_
    have h := h.2
    refine g_goto hC 27 dX10_knowsNow_14 (by decide) ?_
    refine g_sub [] rfl ?_
    exact wb_X10_knowsNow_27 hC hR h
set_option maxRecDepth 100000 in
theorem c_X10_knowsNow {l : Launch} {φ : OI → Nat} {D : va_G} {cI cB : ClassId} (hJ : o_J φ) {x1 : Int32} {x2 : Int32} {x3 : Int32} {σ : SS} {post : Int32 → SS → Prop} (h : V_X10_knowsNow x1 x2 x3 σ post) : o_Mi l φ D cI cB yX10_knowsNow wsX10_knowsNow 0 0 [.ref (φ (7, 0, 0)), .int x1, .int x2, .int x3] σ post :=
 o_met_i hJ (by decide +kernel) rfl (Nat.le_of_ble_eq_true rfl) (fun p e s m args below meth c Q hC hR => wv_X10_knowsNow hC hR h)
theorem hd_X10_knows : yX10_knows.cls = RX10 ∧ yX10_knows.cls ≠ "java/lang/invoke/MethodHandle" ∧ yX10_knows.cls ≠ "java/lang/invoke/VarHandle" ∧ (parseMethodDescriptor yX10_knows.desc).map (fun d => d.parameters.length) = some 3 := by decide +kernel
set_option maxHeartbeats 4000000 in
set_option maxRecDepth 100000 in
theorem wb_X10_knows_15 {X : OX} {post : Int32 → SS → Prop} {σ : SS} (hC : o_C X cX10_knows RX10 wsX10_knows 2 43 4) (hR : o_RI X cX10_knows post) (h : VB_X10_knows_15 post σ) : o_G X σ 15 [] [] := by
  unfold VB_X10_knows_15 at h
  refine g_bipush (v := (-101 : Int32)) hC dX10_knows_15 (by decide) ?_
  exact hR _ _ _ _ dX10_knows_17 h
set_option maxHeartbeats 4000000 in
set_option maxRecDepth 100000 in
theorem wb_X10_knows_39 {X : OX} {post : Int32 → SS → Prop} {t0 : Int32} {σ : SS} (hC : o_C X cX10_knows RX10 wsX10_knows 2 43 4) (hR : o_RI X cX10_knows post) (h : VB_X10_knows_39 post t0 σ) : o_G X σ 39 [] [.int t0] := by
  unfold VB_X10_knows_39 at h
  exact hR _ _ _ _ dX10_knows_39 h
set_option maxHeartbeats 4000000 in
set_option maxRecDepth 100000 in
theorem wv_X10_knows {X : OX} {x1 : Int32} {x2 : Int32} {x3 : Int32} {post : Int32 → SS → Prop} {σ : SS} (hC : o_C X cX10_knows RX10 wsX10_knows 2 43 4) (hR : o_RI X cX10_knows post) (h : V_X10_knows x1 x2 x3 σ post) : o_G X σ 0 [(0, .ref (ox_φ X (7, 0, 0))), (1, .int x1), (2, .int x2), (3, .int x3)] [] := by
  unfold V_X10_knows at h
  refine g_aload_n hC 0 dX10_knows_0 rfl rfl ?_
  refine g_iload_n hC 1 dX10_knows_1 rfl rfl ?_
  refine g_ri (r_V (C := RX10) (T := TX10) (N := 25) (As := [.int x1]) (rest := []) hC o_iX10 (o_eX10 _ _ _ _) rfl (c_X10_isChild (l := ox_l X) (φ := ox_φ X) (D := ox_D X) (cI := ox_I X) (cB := ox_B X) hC.J  h) gX10_knows_X10_isChild rfl hd_X10_isChild ⟨Nat.le_of_ble_eq_true rfl, Nat.le_of_ble_eq_true rfl⟩ rfl rfl (Nat.le_of_ble_eq_true rfl) dX10_knows_2) (fun v2 s2 h => ?_)
  refine g_if_eq hC 15 dX10_knows_5 (by decide) (fun z => ?_) (fun z => ?_)
  · have h := h.1 z
    refine g_sub [] rfl ?_
    exact wb_X10_knows_15 hC hR h
  · have h := h.2 z
    refine g_iload_n hC 2 dX10_knows_8 rfl rfl ?_
    refine g_ri (r_S (As := [.int x2]) (rest := []) hC (c_X10_isSubject (l := ox_l X) (φ := ox_φ X) (D := ox_D X) (cI := ox_I X) (cB := ox_B X) hC.J  h) gX10_knows_X10_isSubject rfl hd_X10_isSubject ⟨Nat.le_of_ble_eq_true rfl, Nat.le_of_ble_eq_true rfl⟩ rfl rfl (Nat.le_of_ble_eq_true rfl) dX10_knows_9) (fun v9 s9 h => ?_)
    refine g_if_ne hC 18 dX10_knows_12 (by decide) (fun z => ?_) (fun z => ?_)
    · have h := h.1 z
      refine g_iload_n hC 3 dX10_knows_18 rfl rfl ?_
      refine g_iconst (v := (0 : Int32)) hC dX10_knows_19 (by decide) ?_
      refine g_iconst (v := (1 : Int32)) hC dX10_knows_20 (by decide) ?_
      refine g_ri (r_S (As := [.int x3, .int (0 : Int32), .int (1 : Int32)]) (rest := []) hC (c_X10_within (l := ox_l X) (φ := ox_φ X) (D := ox_D X) (cI := ox_I X) (cB := ox_B X) hC.J  h) gX10_knows_X10_within rfl hd_X10_within ⟨Nat.le_of_ble_eq_true rfl, Nat.le_of_ble_eq_true rfl⟩ rfl rfl (Nat.le_of_ble_eq_true rfl) dX10_knows_21) (fun v21 s21 h => ?_)
      refine g_if_eq hC 37 dX10_knows_24 (by decide) (fun z => ?_) (fun z => ?_)
      · have h := h.1 z
        refine g_bipush (v := (-102 : Int32)) hC dX10_knows_37 (by decide) ?_
        refine g_sub [] rfl ?_
        exact wb_X10_knows_39 hC hR h
      · have h := h.2 z
        refine g_aload_n hC 0 dX10_knows_27 rfl rfl ?_
        refine g_iload_n hC 1 dX10_knows_28 rfl rfl ?_
        refine g_iload_n hC 2 dX10_knows_29 rfl rfl ?_
        refine g_iload_n hC 3 dX10_knows_30 rfl rfl ?_
        refine g_ri (r_V (C := RX10) (T := TX10) (N := 25) (As := [.int x1, .int x2, .int x3]) (rest := []) hC o_iX10 (o_eX10 _ _ _ _) rfl (c_X10_knowsNow (l := ox_l X) (φ := ox_φ X) (D := ox_D X) (cI := ox_I X) (cB := ox_B X) hC.J  h) gX10_knows_X10_knowsNow rfl hd_X10_knowsNow ⟨Nat.le_of_ble_eq_true rfl, Nat.le_of_ble_eq_true rfl⟩ rfl rfl (Nat.le_of_ble_eq_true rfl) dX10_knows_31) (fun v31 s31 h => ?_)
        refine g_goto hC 39 dX10_knows_34 (by decide) ?_
        refine g_sub [] rfl ?_
        exact wb_X10_knows_39 hC hR h
    · have h := h.2 z
      refine g_sub [] rfl ?_
      exact wb_X10_knows_15 hC hR h
set_option maxRecDepth 100000 in
theorem c_X10_knows {l : Launch} {φ : OI → Nat} {D : va_G} {cI cB : ClassId} (hJ : o_J φ) {x1 : Int32} {x2 : Int32} {x3 : Int32} {σ : SS} {post : Int32 → SS → Prop} (h : V_X10_knows x1 x2 x3 σ post) : o_Mi l φ D cI cB yX10_knows wsX10_knows 2 43 [.ref (φ (7, 0, 0)), .int x1, .int x2, .int x3] σ post :=
 o_met_i hJ (by decide +kernel) rfl (Nat.le_of_ble_eq_true rfl) (fun p e s m args below meth c Q hC hR => wv_X10_knows hC hR h)
theorem hd_X10_lost : yX10_lost.cls ≠ "java/lang/invoke/MethodHandle" ∧ yX10_lost.cls ≠ "java/lang/invoke/VarHandle" ∧ (parseMethodDescriptor yX10_lost.desc).map (fun d => d.parameters.length) = some 2 := by decide +kernel
set_option maxHeartbeats 4000000 in
set_option maxRecDepth 100000 in
theorem wv_X10_lost {X : OX} {x0 : Int32} {x1 : Int32} {post : Int32 → SS → Prop} {σ : SS} (hC : o_C X cX10_lost RX10 wsX10_lost 0 0 2) (hR : o_RI X cX10_lost post) (h : V_X10_lost x0 x1 σ post) : o_G X σ 0 [(0, .int x0), (1, .int x1)] [] := by
  unfold V_X10_lost at h
  refine g_iload_n hC 0 dX10_lost_0 rfl rfl ?_
  refine g_iload_n hC 1 dX10_lost_1 rfl rfl ?_
  refine g_imul hC dX10_lost_2 ?_
  refine g_bipush (v := (9 : Int32)) hC dX10_lost_3 (by decide) ?_
  refine g_iadd hC dX10_lost_5 ?_
  refine g_bipush (v := (10 : Int32)) hC dX10_lost_6 (by decide) ?_
  refine g_idiv hC (by decide) dX10_lost_8 ?_
  exact hR _ _ _ _ dX10_lost_9 h
set_option maxRecDepth 100000 in
theorem c_X10_lost {l : Launch} {φ : OI → Nat} {D : va_G} {cI cB : ClassId} (hJ : o_J φ) {x0 : Int32} {x1 : Int32} {σ : SS} {post : Int32 → SS → Prop} (h : V_X10_lost x0 x1 σ post) : o_Mi l φ D cI cB yX10_lost wsX10_lost 0 0 [.int x0, .int x1] σ post :=
 o_met_i hJ (by decide +kernel) rfl (Nat.le_of_ble_eq_true rfl) (fun p e s m args below meth c Q hC hR => wv_X10_lost hC hR h)
theorem kw_X10_give_1 : Cond.fieldLink RX10 13 "SchoolRowModel" "kindOf" "[I" ∈ wsX10_give := List.mem_of_getElem? (i := 1) (by decide +kernel)
theorem kw_X10_give_2 : Cond.fieldLink RX10 73 "SchoolRowModel" "loss" "I" ∈ wsX10_give := List.mem_of_getElem? (i := 2) (by decide +kernel)
theorem kw_X10_give_3 : Cond.fieldLink RX10 109 "SchoolRowModel" "given" "I" ∈ wsX10_give := List.mem_of_getElem? (i := 3) (by decide +kernel)
theorem kw_X10_give_4 : Cond.fieldLink RX10 112 "SchoolRowModel" "givenWrong" "I" ∈ wsX10_give := List.mem_of_getElem? (i := 4) (by decide +kernel)
theorem ki_X10_give_X10 : ∀ w ∈ wsX100, w ∈ wsX10_give := fun _ h => List.mem_cons_of_mem _ (List.mem_append_right _ h)
theorem hd_X10_give : yX10_give.cls = RX10 ∧ yX10_give.cls ≠ "java/lang/invoke/MethodHandle" ∧ yX10_give.cls ≠ "java/lang/invoke/VarHandle" ∧ (parseMethodDescriptor yX10_give.desc).map (fun d => d.parameters.length) = some 4 := by decide +kernel
set_option maxHeartbeats 4000000 in
set_option maxRecDepth 100000 in
theorem wb_X10_give_88 {X : OX} {post : SS → Prop} {t0 : Int32} {σ : SS} (hC : o_C X cX10_give RX10 wsX10_give 1 21 7) (hR : o_RV X cX10_give post) (h : VB_X10_give_88 post t0 σ) : o_G X σ 88 [] [.int t0, .ref (ox_φ X (7, 0, 0))] := by
  unfold VB_X10_give_88 at h
  refine g_puti (C := RX10) (T := TX10) (N := 25) hC o_iX10 (o_eX10 _ _ _ _) rfl ki_X10_give_X10 tyX10_ok nmX10 15 (by decide) kw_X10_give_4 rfl rfl rfl (Nat.le_of_ble_eq_true rfl) (o_pX10_15 _ _ _ _ _) dX10_give_88 ?_
  exact hR _ _ _ dX10_give_91 h
set_option maxHeartbeats 4000000 in
set_option maxRecDepth 100000 in
theorem wb_X10_give_67 {X : OX} {post : SS → Prop} {x1 : Int32} {x3 : Int32} {t0 : Int32} {σ : SS} (hC : o_C X cX10_give RX10 wsX10_give 1 21 7) (hR : o_RV X cX10_give post) (h : VB_X10_give_67 post x1 x3 t0 σ) : o_G X σ 67 [(0, .ref (ox_φ X (7, 0, 0))), (1, .int x1), (3, .int x3)] [.int t0] := by
  unfold VB_X10_give_67 at h
  refine g_istore hC [(6, .int t0), (0, .ref (ox_φ X (7, 0, 0))), (1, .int x1), (3, .int x3)] dX10_give_67 (by decide) rfl ?_
  refine g_aload_n hC 1 dX10_give_69 rfl rfl ?_
  refine g_aload_n hC 1 dX10_give_70 rfl rfl ?_
  refine g_get (C := RX10) (T := TX10) (N := 25) (v := .ref (ox_φ X (8, 0, 1))) hC o_iX10 (o_eX10 _ _ _ _) rfl ki_X10_give_X10 5 (by decide) kw_X10_give_1 rfl dX10_give_71 ?_
  refine g_iload_n hC 2 dX10_give_74 rfl rfl ?_
  refine g_iald hC o_M1 h.1 dX10_give_75 ?_
  have h := h.2
  refine g_iconst (v := (1 : Int32)) hC dX10_give_76 (by decide) ?_
  refine g_icmp_ne hC 84 dX10_give_77 (by decide) (fun z => ?_) (fun z => ?_)
  · have h := h.1 z
    refine g_iload_n hC 3 dX10_give_84 rfl rfl ?_
    refine g_iload hC 0 dX10_give_85 rfl ?_
    refine g_ior hC dX10_give_87 ?_
    refine g_sub [] rfl ?_
    exact wb_X10_give_88 hC hR h
  · have h := h.2 z
    refine g_iconst (v := (0 : Int32)) hC dX10_give_80 (by decide) ?_
    refine g_goto hC 88 dX10_give_81 (by decide) ?_
    refine g_sub [] rfl ?_
    exact wb_X10_give_88 hC hR h
set_option maxHeartbeats 4000000 in
set_option maxRecDepth 100000 in
theorem wb_X10_give_52 {X : OX} {post : SS → Prop} {x1 : Int32} {x3 : Int32} {x4 : Int32} {t0 : Int32} {σ : SS} (hC : o_C X cX10_give RX10 wsX10_give 1 21 7) (hR : o_RV X cX10_give post) (h : VB_X10_give_52 post x1 x3 x4 t0 σ) : o_G X σ 52 [(0, .ref (ox_φ X (7, 0, 0))), (1, .int x1), (3, .int x3), (4, .int x4)] [.int t0, .ref (ox_φ X (7, 0, 0))] := by
  unfold VB_X10_give_52 at h
  refine g_puti (C := RX10) (T := TX10) (N := 25) hC o_iX10 (o_eX10 _ _ _ _) rfl ki_X10_give_X10 tyX10_ok nmX10 14 (by decide) kw_X10_give_3 rfl rfl rfl (Nat.le_of_ble_eq_true rfl) (o_pX10_14 _ _ _ _ _) dX10_give_52 ?_
  refine g_iload hC 3 dX10_give_55 rfl ?_
  refine g_if_eq hC 64 dX10_give_57 (by decide) (fun z => ?_) (fun z => ?_)
  · have h := h.1 z
    refine g_iconst (v := (1 : Int32)) hC dX10_give_64 (by decide) ?_
    refine g_iload_n hC 1 dX10_give_65 rfl rfl ?_
    refine g_ishl hC dX10_give_66 ?_
    refine g_sub [0, 1, 2] rfl ?_
    exact wb_X10_give_67 hC hR h
  · have h := h.2 z
    refine g_iconst (v := (0 : Int32)) hC dX10_give_60 (by decide) ?_
    refine g_goto hC 67 dX10_give_61 (by decide) ?_
    refine g_sub [0, 1, 2] rfl ?_
    exact wb_X10_give_67 hC hR h
set_option maxHeartbeats 4000000 in
set_option maxRecDepth 100000 in
theorem wb_X10_give_38 {X : OX} {post : SS → Prop} {x1 : Int32} {x2 : Int32} {x3 : Int32} {x4 : Int32} {σ : SS} (hC : o_C X cX10_give RX10 wsX10_give 1 21 7) (hR : o_RV X cX10_give post) (h : VB_X10_give_38 post x1 x2 x3 x4 σ) : o_G X σ 38 [(0, .ref (ox_φ X (7, 0, 0))), (1, .int x1), (2, .int x2), (3, .int x3), (4, .int x4)] [.ref (ox_φ X (7, 0, 0))] := by
  unfold VB_X10_give_38 at h
  refine g_iload_n hC 2 dX10_give_38 rfl rfl ?_
  refine g_goto hC 52 dX10_give_39 (by decide) ?_
  refine g_sub [0, 1, 3, 4] rfl ?_
  exact wb_X10_give_52 hC hR h
set_option maxHeartbeats 4000000 in
set_option maxRecDepth 100000 in
theorem wb_X10_give_25 {X : OX} {post : SS → Prop} {x1 : Int32} {x2 : Int32} {x3 : Int32} {x4 : Int32} {t0 : Int32} {σ : SS} (hC : o_C X cX10_give RX10 wsX10_give 1 21 7) (hR : o_RV X cX10_give post) (h : VB_X10_give_25 post x1 x2 x3 x4 t0 σ) : o_G X σ 25 [(0, .ref (ox_φ X (7, 0, 0))), (1, .int x1), (2, .int x2), (3, .int x3), (4, .int x4)] [.int t0] := by
  unfold VB_X10_give_25 at h
  refine g_istore hC [(5, .int t0), (0, .ref (ox_φ X (7, 0, 0))), (1, .int x1), (2, .int x2), (3, .int x3), (4, .int x4)] dX10_give_25 (by decide) rfl ?_
  refine g_aload_n hC 1 dX10_give_27 rfl rfl ?_
  refine g_iload hC 5 dX10_give_28 rfl ?_
  refine g_if_ne hC 38 dX10_give_30 (by decide) (fun z => ?_) (fun z => ?_)
  · have h := h.1 z
    refine g_sub [1, 2, 3, 4, 5] rfl ?_
    exact wb_X10_give_38 hC hR h
  · have h := h.2 z
    refine g_iload hC 0 dX10_give_33 rfl ?_
    refine g_if_eq hC 42 dX10_give_35 (by decide) (fun z => ?_) (fun z => ?_)
    · have h := h.1 z
      refine g_iload_n hC 3 dX10_give_42 rfl rfl ?_
      refine g_iload_n hC 3 dX10_give_43 rfl rfl ?_
      refine g_aload_n hC 1 dX10_give_44 rfl rfl ?_
      refine g_get (C := RX10) (T := TX10) (N := 25) (v := .int (σ.1 (7, 0, 0) 1)) hC o_iX10 (o_eX10 _ _ _ _) rfl ki_X10_give_X10 1 (by decide) kw_X10_give_2 rfl dX10_give_45 ?_
      refine g_ri (r_S (As := [.int x2, .int (σ.1 (7, 0, 0) 1)]) (rest := [.int x2, .ref (ox_φ X (7, 0, 0))]) hC (c_X10_lost (l := ox_l X) (φ := ox_φ X) (D := ox_D X) (cI := ox_I X) (cB := ox_B X) hC.J  h) gX10_give_X10_lost rfl hd_X10_lost ⟨Nat.le_of_ble_eq_true rfl, Nat.le_of_ble_eq_true rfl⟩ rfl rfl (Nat.le_of_ble_eq_true rfl) dX10_give_48) (fun v48 s48 h => ?_)
      refine g_isub hC dX10_give_51 ?_
      refine g_sub [1, 2, 4, 5] rfl ?_
      exact wb_X10_give_52 hC hR h
    · have h := h.2 z
      refine g_sub [1, 2, 3, 4, 5] rfl ?_
      exact wb_X10_give_38 hC hR h
set_option maxHeartbeats 4000000 in
set_option maxRecDepth 100000 in
theorem wb_X10_give_20 {X : OX} {post : SS → Prop} {x1 : Int32} {x2 : Int32} {x3 : Int32} {x4 : Int32} {σ : SS} (hC : o_C X cX10_give RX10 wsX10_give 1 21 7) (hR : o_RV X cX10_give post) (h : VB_X10_give_20 post x1 x2 x3 x4 σ) : o_G X σ 20 [(0, .ref (ox_φ X (7, 0, 0))), (1, .int x1), (2, .int x2), (3, .int x3), (4, .int x4)] [] := by
  unfold VB_X10_give_20 at h
  refine g_iconst (v := (1 : Int32)) hC dX10_give_20 (by decide) ?_
  refine g_goto hC 25 dX10_give_21 (by decide) ?_
  exact wb_X10_give_25 hC hR h
set_option maxHeartbeats 4000000 in
set_option maxRecDepth 100000 in
theorem wv_X10_give {X : OX} {x1 : Int32} {x2 : Int32} {x3 : Int32} {x4 : Int32} {post : SS → Prop} {σ : SS} (hC : o_C X cX10_give RX10 wsX10_give 1 21 7) (hR : o_RV X cX10_give post) (h : V_X10_give x1 x2 x3 x4 σ post) : o_G X σ 0 [(0, .ref (ox_φ X (7, 0, 0))), (1, .int x1), (2, .int x2), (3, .int x3), (4, .int x4)] [] := by
  unfold V_X10_give at h
  refine g_aload_n hC 0 dX10_give_0 rfl rfl ?_
  refine g_get (C := RX10) (T := TX10) (N := 25) (v := .ref (ox_φ X (8, 0, 1))) hC o_iX10 (o_eX10 _ _ _ _) rfl ki_X10_give_X10 5 (by decide) kw_X10_give_1 rfl dX10_give_1 ?_
  refine g_iload_n hC 1 dX10_give_4 rfl rfl ?_
  refine g_iald hC o_M1 h.1 dX10_give_5 ?_
  have h := h.2
  refine g_iconst (v := (3 : Int32)) hC dX10_give_6 (by decide) ?_
  refine g_icmp_eq hC 20 dX10_give_7 (by decide) (fun z => ?_) (fun z => ?_)
  · have h := h.1 z
    exact wb_X10_give_20 hC hR h
  · have h := h.2 z
    refine g_aload_n hC 0 dX10_give_10 rfl rfl ?_
    refine g_get (C := RX10) (T := TX10) (N := 25) (v := .ref (ox_φ X (8, 0, 1))) hC o_iX10 (o_eX10 _ _ _ _) rfl ki_X10_give_X10 5 (by decide) kw_X10_give_1 rfl dX10_give_11 ?_
    refine g_iload_n hC 1 dX10_give_14 rfl rfl ?_
    refine g_iald hC o_M1 h.1 dX10_give_15 ?_
    have h := h.2
    refine g_iconst (v := (4 : Int32)) hC dX10_give_16 (by decide) ?_
    refine g_icmp_ne hC 24 dX10_give_17 (by decide) (fun z => ?_) (fun z => ?_)
    · have h := h.1 z
      refine g_iconst (v := (0 : Int32)) hC dX10_give_24 (by decide) ?_
      exact wb_X10_give_25 hC hR h
    · have h := h.2 z
      exact wb_X10_give_20 hC hR h
set_option maxRecDepth 100000 in
theorem c_X10_give {l : Launch} {φ : OI → Nat} {D : va_G} {cI cB : ClassId} (hJ : o_J φ) {x1 : Int32} {x2 : Int32} {x3 : Int32} {x4 : Int32} {σ : SS} {post : SS → Prop} (h : V_X10_give x1 x2 x3 x4 σ post) : o_Mv l φ D cI cB yX10_give wsX10_give 1 21 [.ref (φ (7, 0, 0)), .int x1, .int x2, .int x3, .int x4] σ post :=
 o_met_v hJ (by decide +kernel) rfl (Nat.le_of_ble_eq_true rfl) (fun p e s m args below meth c Q hC hR => wv_X10_give hC hR h)
theorem kw_X10_teach_1 : Cond.fieldLink RX10 109 "SchoolRowModel" "given" "I" ∈ wsX10_teach := List.mem_of_getElem? (i := 1) (by decide +kernel)
theorem kw_X10_teach_2 : Cond.fieldLink RX10 112 "SchoolRowModel" "givenWrong" "I" ∈ wsX10_teach := List.mem_of_getElem? (i := 2) (by decide +kernel)
theorem kw_X10_teach_3 : Cond.fieldLink RX10 79 "SchoolRowModel" "children" "I" ∈ wsX10_teach := List.mem_of_getElem? (i := 3) (by decide +kernel)
theorem kw_X10_teach_4 : Cond.fieldLink RX10 31 "SchoolRowModel" "onSeat" "[I" ∈ wsX10_teach := List.mem_of_getElem? (i := 4) (by decide +kernel)
theorem kw_X10_teach_5 : Cond.fieldLink RX10 25 "SchoolRowModel" "partsOf" "[I" ∈ wsX10_teach := List.mem_of_getElem? (i := 5) (by decide +kernel)
theorem kw_X10_teach_6 : Cond.fieldLink RX10 28 "SchoolRowModel" "wrongOf" "[I" ∈ wsX10_teach := List.mem_of_getElem? (i := 6) (by decide +kernel)
theorem kw_X10_teach_7 : Cond.fieldLink RX10 13 "SchoolRowModel" "kindOf" "[I" ∈ wsX10_teach := List.mem_of_getElem? (i := 7) (by decide +kernel)
theorem ki_X10_teach_X10 : ∀ w ∈ wsX100, w ∈ wsX10_teach := fun _ h => List.mem_cons_of_mem _ (List.mem_append_right _ h)
theorem hd_X10_teach : yX10_teach.cls = RX10 ∧ yX10_teach.cls ≠ "java/lang/invoke/MethodHandle" ∧ yX10_teach.cls ≠ "java/lang/invoke/VarHandle" ∧ (parseMethodDescriptor yX10_teach.desc).map (fun d => d.parameters.length) = some 5 := by decide +kernel
set_option maxHeartbeats 4000000 in
set_option maxRecDepth 100000 in
theorem wb_X10_teach_158 {X : OX} {post : Int32 → SS → Prop} {K20 : Int32 → Int32 → Int32 → Int32 → Int32 → Int32 → Int32 → Int32 → SS → Prop} {x1 : Int32} {x2 : Int32} {x3 : Int32} {x4 : Int32} {x5 : Int32} {x6 : Int32} {x7 : Int32} {x8 : Int32} {σ : SS} (hC : o_C X cX10_teach RX10 wsX10_teach 2 47 11) (hR : o_RI X cX10_teach post) (hK20 : ∀ (x1 : Int32) (x2 : Int32) (x3 : Int32) (x4 : Int32) (x5 : Int32) (x6 : Int32) (x7 : Int32) (x8 : Int32) (σ : SS), K20 x1 x2 x3 x4 x5 x6 x7 x8 σ → o_G X σ 20 [(0, .ref (ox_φ X (7, 0, 0))), (1, .int x1), (2, .int x2), (3, .int x3), (4, .int x4), (5, .int x5), (6, .int x6), (7, .int x7), (8, .int x8)] []) (h : VB_X10_teach_158 post K20 x1 x2 x3 x4 x5 x6 x7 x8 σ) : o_G X σ 158 [(0, .ref (ox_φ X (7, 0, 0))), (1, .int x1), (2, .int x2), (3, .int x3), (4, .int x4), (5, .int x5), (6, .int x6), (7, .int x7), (8, .int x8)] [] := by
  unfold VB_X10_teach_158 at h
  refine g_iinc (v := (x8 + (1 : Int32))) hC 8 [(8, .int (x8 + (1 : Int32))), (0, .ref (ox_φ X (7, 0, 0))), (1, .int x1), (2, .int x2), (3, .int x3), (4, .int x4), (5, .int x5), (6, .int x6), (7, .int x7)] dX10_teach_158 rfl rfl (by decide) rfl ?_
  refine g_goto hC 20 dX10_teach_161 (by decide) ?_
  refine g_sub [1, 2, 3, 4, 5, 6, 7, 8, 0] rfl ?_
  exact hK20 _ _ _ _ _ _ _ _ _ h
set_option maxHeartbeats 4000000 in
set_option maxRecDepth 100000 in
theorem wb_X10_teach_132 {X : OX} {post : Int32 → SS → Prop} {K20 : Int32 → Int32 → Int32 → Int32 → Int32 → Int32 → Int32 → Int32 → SS → Prop} {x1 : Int32} {x2 : Int32} {x3 : Int32} {x4 : Int32} {x5 : Int32} {x7 : Int32} {x8 : Int32} {x9 : Int32} {x10 : Int32} {σ : SS} (hC : o_C X cX10_teach RX10 wsX10_teach 2 47 11) (hR : o_RI X cX10_teach post) (hK20 : ∀ (x1 : Int32) (x2 : Int32) (x3 : Int32) (x4 : Int32) (x5 : Int32) (x6 : Int32) (x7 : Int32) (x8 : Int32) (σ : SS), K20 x1 x2 x3 x4 x5 x6 x7 x8 σ → o_G X σ 20 [(0, .ref (ox_φ X (7, 0, 0))), (1, .int x1), (2, .int x2), (3, .int x3), (4, .int x4), (5, .int x5), (6, .int x6), (7, .int x7), (8, .int x8)] []) (h : VB_X10_teach_132 post K20 x1 x2 x3 x4 x5 x7 x8 x9 x10 σ) : o_G X σ 132 [(0, .ref (ox_φ X (7, 0, 0))), (1, .int x1), (2, .int x2), (3, .int x3), (4, .int x4), (5, .int x5), (7, .int x7), (8, .int x8), (9, .int x9), (10, .int x10)] [] := by
  unfold VB_X10_teach_132 at h
  refine g_aload_n hC 0 dX10_teach_132 rfl rfl ?_
  refine g_iload hC 8 dX10_teach_133 rfl ?_
  refine g_aload_n hC 0 dX10_teach_135 rfl rfl ?_
  refine g_get (C := RX10) (T := TX10) (N := 25) (v := .ref (ox_φ X (8, 0, 5))) hC o_iX10 (o_eX10 _ _ _ _) rfl ki_X10_teach_X10 9 (by decide) kw_X10_teach_5 rfl dX10_teach_136 ?_
  refine g_iload hC 9 dX10_teach_139 rfl ?_
  refine g_iald hC o_M5 h.1 dX10_teach_141 ?_
  have h := h.2
  refine g_aload_n hC 0 dX10_teach_142 rfl rfl ?_
  refine g_get (C := RX10) (T := TX10) (N := 25) (v := .ref (ox_φ X (8, 0, 6))) hC o_iX10 (o_eX10 _ _ _ _) rfl ki_X10_teach_X10 10 (by decide) kw_X10_teach_6 rfl dX10_teach_143 ?_
  refine g_iload hC 9 dX10_teach_146 rfl ?_
  refine g_iald hC o_M6 h.1 dX10_teach_148 ?_
  have h := h.2
  refine g_iload hC 4 dX10_teach_149 rfl ?_
  refine g_rv (r_V (C := RX10) (T := TX10) (N := 25) (As := [.int x9, .int (σ.1 (8, 0, 5) (x10).toNatClampNeg), .int (σ.1 (8, 0, 6) (x10).toNatClampNeg), .int x4]) (rest := []) hC o_iX10 (o_eX10 _ _ _ _) rfl (c_X10_give (l := ox_l X) (φ := ox_φ X) (D := ox_D X) (cI := ox_I X) (cB := ox_B X) hC.J  h) gX10_teach_X10_give rfl hd_X10_give ⟨Nat.le_of_ble_eq_true rfl, Nat.le_of_ble_eq_true rfl⟩ rfl rfl (Nat.le_of_ble_eq_true rfl) dX10_teach_151) (fun s151 h => ?_)
  refine g_iload hC 8 dX10_teach_154 rfl ?_
  refine g_istore hC [(6, .int x9), (0, .ref (ox_φ X (7, 0, 0))), (1, .int x1), (2, .int x2), (3, .int x3), (4, .int x4), (5, .int x5), (7, .int x7), (8, .int x8), (9, .int x9), (10, .int x10)] dX10_teach_156 (by decide) rfl ?_
  refine g_sub [1, 2, 3, 4, 5, 6, 0, 7, 8] rfl ?_
  exact wb_X10_teach_158 hC hR hK20 h
set_option maxHeartbeats 4000000 in
set_option maxRecDepth 100000 in
theorem wb_X10_teach_128 {X : OX} {post : Int32 → SS → Prop} {K20 : Int32 → Int32 → Int32 → Int32 → Int32 → Int32 → Int32 → Int32 → SS → Prop} {x1 : Int32} {x2 : Int32} {x3 : Int32} {x4 : Int32} {x5 : Int32} {x7 : Int32} {x8 : Int32} {x9 : Int32} {x10 : Int32} {t0 : Int32} {t1 : Int32} {σ : SS} (hC : o_C X cX10_teach RX10 wsX10_teach 2 47 11) (hR : o_RI X cX10_teach post) (hK20 : ∀ (x1 : Int32) (x2 : Int32) (x3 : Int32) (x4 : Int32) (x5 : Int32) (x6 : Int32) (x7 : Int32) (x8 : Int32) (σ : SS), K20 x1 x2 x3 x4 x5 x6 x7 x8 σ → o_G X σ 20 [(0, .ref (ox_φ X (7, 0, 0))), (1, .int x1), (2, .int x2), (3, .int x3), (4, .int x4), (5, .int x5), (6, .int x6), (7, .int x7), (8, .int x8)] []) (h : VB_X10_teach_128 post K20 x1 x2 x3 x4 x5 x7 x8 x9 x10 t0 t1 σ) : o_G X σ 128 [(0, .ref (ox_φ X (7, 0, 0))), (1, .int x1), (2, .int x2), (3, .int x3), (4, .int x4), (5, .int x5), (7, .int x7), (8, .int x8), (9, .int x9), (10, .int x10)] [.int t0, .int t1, .ref (ox_φ X (8, 0, 6))] := by
  unfold VB_X10_teach_128 at h
  refine g_iast hC o_M6 h.1 dX10_teach_128 ?_
  have h := h.2
  refine g_iinc (v := (x7 + (1 : Int32))) hC 6 [(7, .int (x7 + (1 : Int32))), (0, .ref (ox_φ X (7, 0, 0))), (1, .int x1), (2, .int x2), (3, .int x3), (4, .int x4), (5, .int x5), (8, .int x8), (9, .int x9), (10, .int x10)] dX10_teach_129 rfl rfl (by decide) rfl ?_
  refine g_sub [1, 2, 3, 4, 5, 6, 0, 7, 8, 9] rfl ?_
  exact wb_X10_teach_132 hC hR hK20 h
set_option maxHeartbeats 4000000 in
set_option maxRecDepth 100000 in
theorem wb_X10_teach_20 {X : OX} {post : Int32 → SS → Prop} {K20 : Int32 → Int32 → Int32 → Int32 → Int32 → Int32 → Int32 → Int32 → SS → Prop} {x1 : Int32} {x2 : Int32} {x3 : Int32} {x4 : Int32} {x5 : Int32} {x6 : Int32} {x7 : Int32} {x8 : Int32} {σ : SS} (hC : o_C X cX10_teach RX10 wsX10_teach 2 47 11) (hR : o_RI X cX10_teach post) (hK20 : ∀ (x1 : Int32) (x2 : Int32) (x3 : Int32) (x4 : Int32) (x5 : Int32) (x6 : Int32) (x7 : Int32) (x8 : Int32) (σ : SS), K20 x1 x2 x3 x4 x5 x6 x7 x8 σ → o_G X σ 20 [(0, .ref (ox_φ X (7, 0, 0))), (1, .int x1), (2, .int x2), (3, .int x3), (4, .int x4), (5, .int x5), (6, .int x6), (7, .int x7), (8, .int x8)] []) (h : VB_X10_teach_20 post K20 x1 x2 x3 x4 x5 x6 x7 x8 σ) : o_G X σ 20 [(0, .ref (ox_φ X (7, 0, 0))), (1, .int x1), (2, .int x2), (3, .int x3), (4, .int x4), (5, .int x5), (6, .int x6), (7, .int x7), (8, .int x8)] [] := by
  unfold VB_X10_teach_20 at h
  refine g_iload hC 8 dX10_teach_20 rfl ?_
  refine g_aload_n hC 0 dX10_teach_22 rfl rfl ?_
  refine g_get (C := RX10) (T := TX10) (N := 25) (v := .int (σ.1 (7, 0, 0) 4)) hC o_iX10 (o_eX10 _ _ _ _) rfl ki_X10_teach_X10 4 (by decide) kw_X10_teach_3 rfl dX10_teach_23 ?_
  refine g_icmp_ge hC 164 dX10_teach_26 (by decide) (fun z => ?_) (fun z => ?_)
  · have h := h.1 z
    refine g_iload hC 7 dX10_teach_164 rfl ?_
    exact hR _ _ _ _ dX10_teach_166 h
  · have h := h.2 z
    refine g_aload_n hC 0 dX10_teach_29 rfl rfl ?_
    refine g_get (C := RX10) (T := TX10) (N := 25) (v := .ref (ox_φ X (8, 0, 7))) hC o_iX10 (o_eX10 _ _ _ _) rfl ki_X10_teach_X10 11 (by decide) kw_X10_teach_4 rfl dX10_teach_30 ?_
    refine g_iload_n hC 2 dX10_teach_33 rfl rfl ?_
    refine g_iload hC 8 dX10_teach_34 rfl ?_
    refine g_iadd hC dX10_teach_36 ?_
    refine g_iald hC o_M7 h.1 dX10_teach_37 ?_
    have h := h.2
    refine g_topi (fun y38 e38 => ?_)
    have h := h y38 e38
    refine g_istore hC [(9, .int y38), (0, .ref (ox_φ X (7, 0, 0))), (1, .int x1), (2, .int x2), (3, .int x3), (4, .int x4), (5, .int x5), (6, .int x6), (7, .int x7), (8, .int x8)] dX10_teach_38 (by decide) rfl ?_
    refine g_iload_n hC 2 dX10_teach_40 rfl rfl ?_
    refine g_iconst (v := (4 : Int32)) hC dX10_teach_41 (by decide) ?_
    refine g_iload hC 0 dX10_teach_42 rfl ?_
    refine g_imul hC dX10_teach_44 ?_
    refine g_iadd hC dX10_teach_45 ?_
    refine g_iload_n hC 4 dX10_teach_46 rfl rfl ?_
    refine g_iadd hC dX10_teach_47 ?_
    refine g_topi (fun y48 e48 => ?_)
    have h := h y48 e48
    refine g_istore hC [(10, .int y48), (9, .int y38), (0, .ref (ox_φ X (7, 0, 0))), (1, .int x1), (2, .int x2), (3, .int x3), (4, .int x4), (5, .int x5), (6, .int x6), (7, .int x7), (8, .int x8)] dX10_teach_48 (by decide) rfl ?_
    refine g_iload hC 7 dX10_teach_50 rfl ?_
    refine g_iload hC 1 dX10_teach_52 rfl ?_
    refine g_ishr hC dX10_teach_54 ?_
    refine g_iconst (v := (1 : Int32)) hC dX10_teach_55 (by decide) ?_
    refine g_iand hC dX10_teach_56 ?_
    refine g_if_ne hC 158 dX10_teach_57 (by decide) (fun z => ?_) (fun z => ?_)
    · have h := h.1 z
      refine g_sub [2, 3, 4, 5, 6, 7, 8, 9, 10] rfl ?_
      exact wb_X10_teach_158 hC hR hK20 h
    · have h := h.2 z
      refine g_aload_n hC 2 dX10_teach_60 rfl rfl ?_
      refine g_get (C := RX10) (T := TX10) (N := 25) (v := .int (σ.1 (7, 0, 0) 14)) hC o_iX10 (o_eX10 _ _ _ _) rfl ki_X10_teach_X10 14 (by decide) kw_X10_teach_1 rfl dX10_teach_61 ?_
      refine g_aload_n hC 2 dX10_teach_64 rfl rfl ?_
      refine g_get (C := RX10) (T := TX10) (N := 25) (v := .ref (ox_φ X (8, 0, 5))) hC o_iX10 (o_eX10 _ _ _ _) rfl ki_X10_teach_X10 9 (by decide) kw_X10_teach_5 rfl dX10_teach_65 ?_
      refine g_iload hC 0 dX10_teach_68 rfl ?_
      refine g_iald hC o_M5 h.1 dX10_teach_70 ?_
      have h := h.2
      refine g_icmp_le hC 132 dX10_teach_71 (by decide) (fun z => ?_) (fun z => ?_)
      · have h := h.1 z
        refine g_sub [2, 3, 4, 5, 6, 7, 9, 10, 1, 0] rfl ?_
        exact wb_X10_teach_132 hC hR hK20 h
      · have h := h.2 z
        refine g_aload_n hC 2 dX10_teach_74 rfl rfl ?_
        refine g_get (C := RX10) (T := TX10) (N := 25) (v := .ref (ox_φ X (8, 0, 5))) hC o_iX10 (o_eX10 _ _ _ _) rfl ki_X10_teach_X10 9 (by decide) kw_X10_teach_5 rfl dX10_teach_75 ?_
        refine g_iload hC 0 dX10_teach_78 rfl ?_
        refine g_aload_n hC 2 dX10_teach_80 rfl rfl ?_
        refine g_get (C := RX10) (T := TX10) (N := 25) (v := .int (σ.1 (7, 0, 0) 14)) hC o_iX10 (o_eX10 _ _ _ _) rfl ki_X10_teach_X10 14 (by decide) kw_X10_teach_1 rfl dX10_teach_81 ?_
        refine g_iast hC o_M5 h.1 dX10_teach_84 ?_
        have h := h.2
        refine g_aload_n hC 2 dX10_teach_85 rfl rfl ?_
        refine g_get (C := RX10) (T := TX10) (N := 25) (v := .ref (ox_φ X (8, 0, 6))) hC o_iX10 (o_eX10 _ _ _ _) rfl ki_X10_teach_X10 10 (by decide) kw_X10_teach_6 rfl dX10_teach_86 ?_
        refine g_iload hC 0 dX10_teach_89 rfl ?_
        refine g_aload_n hC 2 dX10_teach_91 rfl rfl ?_
        refine g_get (C := RX10) (T := TX10) (N := 25) (v := .ref (ox_φ X (8, 0, 1))) hC o_iX10 (o_eX10 _ _ _ _) rfl ki_X10_teach_X10 5 (by decide) kw_X10_teach_7 rfl dX10_teach_92 ?_
        refine g_iload hC 1 dX10_teach_95 rfl ?_
        refine g_iald hC o_M1 h.1 dX10_teach_97 ?_
        have h := h.2
        refine g_iconst (v := (2 : Int32)) hC dX10_teach_98 (by decide) ?_
        refine g_icmp_ne hC 124 dX10_teach_99 (by decide) (fun z => ?_) (fun z => ?_)
        · have h := h.1 z
          refine g_aload_n hC 2 dX10_teach_124 rfl rfl ?_
          refine g_get (C := RX10) (T := TX10) (N := 25) (v := .int ((o_wr σ (8, 0, 5) (y48).toNatClampNeg (σ.1 (7, 0, 0) 14)).1 (7, 0, 0) 15)) hC o_iX10 (o_eX10 _ _ _ _) rfl ki_X10_teach_X10 15 (by decide) kw_X10_teach_2 rfl dX10_teach_125 ?_
          refine g_sub [2, 3, 4, 5, 6, 7, 9, 10, 1, 0] rfl ?_
          exact wb_X10_teach_128 hC hR hK20 h
        · have h := h.2 z
          refine g_iload hC 8 dX10_teach_102 rfl ?_
          refine g_iconst (v := (-1 : Int32)) hC dX10_teach_104 (by decide) ?_
          refine g_icmp_ne hC 112 dX10_teach_105 (by decide) (fun z => ?_) (fun z => ?_)
          · have h := h.1 z
            refine g_aload_n hC 2 dX10_teach_112 rfl rfl ?_
            refine g_get (C := RX10) (T := TX10) (N := 25) (v := .int ((o_wr σ (8, 0, 5) (y48).toNatClampNeg (σ.1 (7, 0, 0) 14)).1 (7, 0, 0) 15)) hC o_iX10 (o_eX10 _ _ _ _) rfl ki_X10_teach_X10 15 (by decide) kw_X10_teach_2 rfl dX10_teach_113 ?_
            refine g_iconst (v := (1 : Int32)) hC dX10_teach_116 (by decide) ?_
            refine g_iload hC 8 dX10_teach_117 rfl ?_
            refine g_ishl hC dX10_teach_119 ?_
            refine g_iand hC dX10_teach_120 ?_
            refine g_goto hC 128 dX10_teach_121 (by decide) ?_
            refine g_sub [2, 3, 4, 5, 6, 7, 9, 10, 1, 0] rfl ?_
            exact wb_X10_teach_128 hC hR hK20 h
          · have h := h.2 z
            refine g_iconst (v := (0 : Int32)) hC dX10_teach_108 (by decide) ?_
            refine g_goto hC 128 dX10_teach_109 (by decide) ?_
            refine g_sub [2, 3, 4, 5, 6, 7, 9, 10, 1, 0] rfl ?_
            exact wb_X10_teach_128 hC hR hK20 h
set_option maxHeartbeats 4000000 in
set_option maxRecDepth 100000 in
theorem lp_X10_teach_20 {X : OX} {post : Int32 → SS → Prop} (hC : o_C X cX10_teach RX10 wsX10_teach 2 47 11) (hR : o_RI X cX10_teach post) : ∀ (n : Nat) (a : Int32 × Int32 × Int32 × Int32 × Int32 × Int32 × Int32 × Int32) (σ : SS), LP_X10_teach_20 post n a σ → o_G X σ 20 [(0, .ref (ox_φ X (7, 0, 0))), (1, .int a.1), (2, .int a.2.1), (3, .int a.2.2.1), (4, .int a.2.2.2.1), (5, .int a.2.2.2.2.1), (6, .int a.2.2.2.2.2.1), (7, .int a.2.2.2.2.2.2.1), (8, .int a.2.2.2.2.2.2.2)] [] :=
 o_lp_G (fun K hK a σ h => wb_X10_teach_20 hC hR (fun x1 x2 x3 x4 x5 x6 x7 x8 σ h => hK (x1, x2, x3, x4, x5, x6, x7, x8) σ h) h)
set_option maxHeartbeats 4000000 in
set_option maxRecDepth 100000 in
theorem wv_X10_teach {X : OX} {x1 : Int32} {x2 : Int32} {x3 : Int32} {x4 : Int32} {x5 : Int32} {post : Int32 → SS → Prop} {σ : SS} (hC : o_C X cX10_teach RX10 wsX10_teach 2 47 11) (hR : o_RI X cX10_teach post) (h : V_X10_teach x1 x2 x3 x4 x5 σ post) : o_G X σ 0 [(0, .ref (ox_φ X (7, 0, 0))), (1, .int x1), (2, .int x2), (3, .int x3), (4, .int x4), (5, .int x5)] [] := by
  unfold V_X10_teach at h
  refine g_iconst (v := (-1 : Int32)) hC dX10_teach_0 (by decide) ?_
  refine g_istore hC [(6, .int (-1 : Int32)), (0, .ref (ox_φ X (7, 0, 0))), (1, .int x1), (2, .int x2), (3, .int x3), (4, .int x4), (5, .int x5)] dX10_teach_1 (by decide) rfl ?_
  refine g_iconst (v := (0 : Int32)) hC dX10_teach_3 (by decide) ?_
  refine g_istore hC [(7, .int (0 : Int32)), (6, .int (-1 : Int32)), (0, .ref (ox_φ X (7, 0, 0))), (1, .int x1), (2, .int x2), (3, .int x3), (4, .int x4), (5, .int x5)] dX10_teach_4 (by decide) rfl ?_
  refine g_aload_n hC 2 dX10_teach_6 rfl rfl ?_
  refine g_bipush (v := (100 : Int32)) hC dX10_teach_7 (by decide) ?_
  refine g_puti (C := RX10) (T := TX10) (N := 25) hC o_iX10 (o_eX10 _ _ _ _) rfl ki_X10_teach_X10 tyX10_ok nmX10 14 (by decide) kw_X10_teach_1 rfl rfl rfl (Nat.le_of_ble_eq_true rfl) (o_pX10_14 _ _ _ _ _) dX10_teach_9 ?_
  refine g_aload_n hC 2 dX10_teach_12 rfl rfl ?_
  refine g_iconst (v := (0 : Int32)) hC dX10_teach_13 (by decide) ?_
  refine g_puti (C := RX10) (T := TX10) (N := 25) hC o_iX10 (o_eX10 _ _ _ _) rfl ki_X10_teach_X10 tyX10_ok nmX10 15 (by decide) kw_X10_teach_2 rfl rfl rfl (Nat.le_of_ble_eq_true rfl) (o_pX10_15 _ _ _ _ _) dX10_teach_14 ?_
  refine g_iconst (v := (0 : Int32)) hC dX10_teach_17 (by decide) ?_
  refine g_istore hC [(8, .int (0 : Int32)), (7, .int (0 : Int32)), (6, .int (-1 : Int32)), (0, .ref (ox_φ X (7, 0, 0))), (1, .int x1), (2, .int x2), (3, .int x3), (4, .int x4), (5, .int x5)] dX10_teach_18 (by decide) rfl ?_
  refine g_sub [3, 4, 5, 6, 7, 8, 2, 1, 0] rfl ?_
  obtain ⟨n, h⟩ := h
  exact lp_X10_teach_20 hC hR n _ _ h
set_option maxRecDepth 100000 in
theorem c_X10_teach {l : Launch} {φ : OI → Nat} {D : va_G} {cI cB : ClassId} (hJ : o_J φ) {x1 : Int32} {x2 : Int32} {x3 : Int32} {x4 : Int32} {x5 : Int32} {σ : SS} {post : Int32 → SS → Prop} (h : V_X10_teach x1 x2 x3 x4 x5 σ post) : o_Mi l φ D cI cB yX10_teach wsX10_teach 2 47 [.ref (φ (7, 0, 0)), .int x1, .int x2, .int x3, .int x4, .int x5] σ post :=
 o_met_i hJ (by decide +kernel) rfl (Nat.le_of_ble_eq_true rfl) (fun p e s m args below meth c Q hC hR => wv_X10_teach hC hR h)
theorem kw_X10_illSet_1 : Cond.fieldLink RX10 79 "SchoolRowModel" "children" "I" ∈ wsX10_illSet := List.mem_of_getElem? (i := 1) (by decide +kernel)
theorem kw_X10_illSet_2 : Cond.fieldLink RX10 19 "SchoolRowModel" "illOf" "[I" ∈ wsX10_illSet := List.mem_of_getElem? (i := 2) (by decide +kernel)
theorem ki_X10_illSet_X10 : ∀ w ∈ wsX100, w ∈ wsX10_illSet := fun _ h => List.mem_cons_of_mem _ (List.mem_append_right _ h)
theorem hd_X10_illSet : yX10_illSet.cls = RX10 ∧ yX10_illSet.cls ≠ "java/lang/invoke/MethodHandle" ∧ yX10_illSet.cls ≠ "java/lang/invoke/VarHandle" ∧ (parseMethodDescriptor yX10_illSet.desc).map (fun d => d.parameters.length) = some 0 := by decide +kernel
set_option maxHeartbeats 4000000 in
set_option maxRecDepth 100000 in
theorem wb_X10_illSet_4 {X : OX} {post : Int32 → SS → Prop} {K4 : Int32 → Int32 → SS → Prop} {x1 : Int32} {x2 : Int32} {σ : SS} (hC : o_C X cX10_illSet RX10 wsX10_illSet 0 0 3) (hR : o_RI X cX10_illSet post) (hK4 : ∀ (x1 : Int32) (x2 : Int32) (σ : SS), K4 x1 x2 σ → o_G X σ 4 [(0, .ref (ox_φ X (7, 0, 0))), (1, .int x1), (2, .int x2)] []) (h : VB_X10_illSet_4 post K4 x1 x2 σ) : o_G X σ 4 [(0, .ref (ox_φ X (7, 0, 0))), (1, .int x1), (2, .int x2)] [] := by
  unfold VB_X10_illSet_4 at h
  refine g_iload_n hC 2 dX10_illSet_4 rfl rfl ?_
  refine g_aload_n hC 0 dX10_illSet_5 rfl rfl ?_
  refine g_get (C := RX10) (T := TX10) (N := 25) (v := .int (σ.1 (7, 0, 0) 4)) hC o_iX10 (o_eX10 _ _ _ _) rfl ki_X10_illSet_X10 4 (by decide) kw_X10_illSet_1 rfl dX10_illSet_6 ?_
  refine g_icmp_ge hC 29 dX10_illSet_9 (by decide) (fun z => ?_) (fun z => ?_)
  · have h := h.1 z
    refine g_iload_n hC 1 dX10_illSet_29 rfl rfl ?_
    exact hR _ _ _ _ dX10_illSet_30 h
  · have h := h.2 z
    refine g_iload_n hC 1 dX10_illSet_12 rfl rfl ?_
    refine g_aload_n hC 0 dX10_illSet_13 rfl rfl ?_
    refine g_get (C := RX10) (T := TX10) (N := 25) (v := .ref (ox_φ X (8, 0, 3))) hC o_iX10 (o_eX10 _ _ _ _) rfl ki_X10_illSet_X10 7 (by decide) kw_X10_illSet_2 rfl dX10_illSet_14 ?_
    refine g_iload_n hC 2 dX10_illSet_17 rfl rfl ?_
    refine g_iald hC o_M3 h.1 dX10_illSet_18 ?_
    have h := h.2
    refine g_iload_n hC 2 dX10_illSet_19 rfl rfl ?_
    refine g_ishl hC dX10_illSet_20 ?_
    refine g_ior hC dX10_illSet_21 ?_
    refine g_topi (fun y22 e22 => ?_)
    have h := h y22 e22
    refine g_istore_n hC [(1, .int y22), (0, .ref (ox_φ X (7, 0, 0))), (2, .int x2)] dX10_illSet_22 rfl (by decide) rfl ?_
    refine g_iinc (v := (x2 + (1 : Int32))) hC 2 [(2, .int (x2 + (1 : Int32))), (1, .int y22), (0, .ref (ox_φ X (7, 0, 0)))] dX10_illSet_23 rfl rfl (by decide) rfl ?_
    refine g_goto hC 4 dX10_illSet_26 (by decide) ?_
    refine g_sub [2, 1, 0] rfl ?_
    exact hK4 _ _ _ h
set_option maxHeartbeats 4000000 in
set_option maxRecDepth 100000 in
theorem lp_X10_illSet_4 {X : OX} {post : Int32 → SS → Prop} (hC : o_C X cX10_illSet RX10 wsX10_illSet 0 0 3) (hR : o_RI X cX10_illSet post) : ∀ (n : Nat) (a : Int32 × Int32) (σ : SS), LP_X10_illSet_4 post n a σ → o_G X σ 4 [(0, .ref (ox_φ X (7, 0, 0))), (1, .int a.1), (2, .int a.2)] [] :=
 o_lp_G (fun K hK a σ h => wb_X10_illSet_4 hC hR (fun x1 x2 σ h => hK (x1, x2) σ h) h)
set_option maxHeartbeats 4000000 in
set_option maxRecDepth 100000 in
theorem wv_X10_illSet {X : OX} {post : Int32 → SS → Prop} {σ : SS} (hC : o_C X cX10_illSet RX10 wsX10_illSet 0 0 3) (hR : o_RI X cX10_illSet post) (h : V_X10_illSet σ post) : o_G X σ 0 [(0, .ref (ox_φ X (7, 0, 0)))] [] := by
  unfold V_X10_illSet at h
  refine g_iconst (v := (0 : Int32)) hC dX10_illSet_0 (by decide) ?_
  refine g_istore_n hC [(1, .int (0 : Int32)), (0, .ref (ox_φ X (7, 0, 0)))] dX10_illSet_1 rfl (by decide) rfl ?_
  refine g_iconst (v := (0 : Int32)) hC dX10_illSet_2 (by decide) ?_
  refine g_istore_n hC [(2, .int (0 : Int32)), (1, .int (0 : Int32)), (0, .ref (ox_φ X (7, 0, 0)))] dX10_illSet_3 rfl (by decide) rfl ?_
  refine g_sub [2, 1, 0] rfl ?_
  obtain ⟨n, h⟩ := h
  exact lp_X10_illSet_4 hC hR n _ _ h
set_option maxRecDepth 100000 in
theorem c_X10_illSet {l : Launch} {φ : OI → Nat} {D : va_G} {cI cB : ClassId} (hJ : o_J φ) {σ : SS} {post : Int32 → SS → Prop} (h : V_X10_illSet σ post) : o_Mi l φ D cI cB yX10_illSet wsX10_illSet 0 0 [.ref (φ (7, 0, 0))] σ post :=
 o_met_i hJ (by decide +kernel) rfl (Nat.le_of_ble_eq_true rfl) (fun p e s m args below meth c Q hC hR => wv_X10_illSet hC hR h)
theorem kw_X10_lesson_1 : Cond.fieldLink RX10 79 "SchoolRowModel" "children" "I" ∈ wsX10_lesson := List.mem_of_getElem? (i := 1) (by decide +kernel)
theorem ki_X10_lesson_X10 : ∀ w ∈ wsX100, w ∈ wsX10_lesson := fun _ h => List.mem_cons_of_mem _ (List.mem_append_right _ h)
theorem hd_X10_lesson : yX10_lesson.cls = RX10 ∧ yX10_lesson.cls ≠ "java/lang/invoke/MethodHandle" ∧ yX10_lesson.cls ≠ "java/lang/invoke/VarHandle" ∧ (parseMethodDescriptor yX10_lesson.desc).map (fun d => d.parameters.length) = some 2 := by decide +kernel
set_option maxHeartbeats 4000000 in
set_option maxRecDepth 100000 in
theorem wb_X10_lesson_34 {X : OX} {post : Int32 → SS → Prop} {t0 : Int32} {σ : SS} (hC : o_C X cX10_lesson RX10 wsX10_lesson 3 77 3) (hR : o_RI X cX10_lesson post) (h : VB_X10_lesson_34 post t0 σ) : o_G X σ 34 [] [.int t0] := by
  unfold VB_X10_lesson_34 at h
  exact hR _ _ _ _ dX10_lesson_34 h
set_option maxHeartbeats 4000000 in
set_option maxRecDepth 100000 in
theorem wv_X10_lesson {X : OX} {x1 : Int32} {x2 : Int32} {post : Int32 → SS → Prop} {σ : SS} (hC : o_C X cX10_lesson RX10 wsX10_lesson 3 77 3) (hR : o_RI X cX10_lesson post) (h : V_X10_lesson x1 x2 σ post) : o_G X σ 0 [(0, .ref (ox_φ X (7, 0, 0))), (1, .int x1), (2, .int x2)] [] := by
  unfold V_X10_lesson at h
  refine g_iload_n hC 1 dX10_lesson_0 rfl rfl ?_
  refine g_ri (r_S (As := [.int x1]) (rest := []) hC (c_X10_isSubject (l := ox_l X) (φ := ox_φ X) (D := ox_D X) (cI := ox_I X) (cB := ox_B X) hC.J  h) gX10_lesson_X10_isSubject rfl hd_X10_isSubject ⟨Nat.le_of_ble_eq_true rfl, Nat.le_of_ble_eq_true rfl⟩ rfl rfl (Nat.le_of_ble_eq_true rfl) dX10_lesson_1) (fun v1 s1 h => ?_)
  refine g_if_ne hC 10 dX10_lesson_4 (by decide) (fun z => ?_) (fun z => ?_)
  · have h := h.1 z
    refine g_aload_n hC 0 dX10_lesson_10 rfl rfl ?_
    refine g_get (C := RX10) (T := TX10) (N := 25) (v := .int (s1.1 (7, 0, 0) 4)) hC o_iX10 (o_eX10 _ _ _ _) rfl ki_X10_lesson_X10 4 (by decide) kw_X10_lesson_1 rfl dX10_lesson_11 ?_
    refine g_if_ne hC 22 dX10_lesson_14 (by decide) (fun z => ?_) (fun z => ?_)
    · have h := h.1 z
      refine g_aload_n hC 0 dX10_lesson_22 rfl rfl ?_
      refine g_iconst (v := (0 : Int32)) hC dX10_lesson_23 (by decide) ?_
      refine g_iconst (v := (0 : Int32)) hC dX10_lesson_24 (by decide) ?_
      refine g_iload_n hC 1 dX10_lesson_25 rfl rfl ?_
      refine g_iload_n hC 2 dX10_lesson_26 rfl rfl ?_
      refine g_aload_n hC 0 dX10_lesson_27 rfl rfl ?_
      refine g_ri (r_V (C := RX10) (T := TX10) (N := 25) (As := []) (rest := [.int x2, .int x1, .int (0 : Int32), .int (0 : Int32), .ref (ox_φ X (7, 0, 0))]) hC o_iX10 (o_eX10 _ _ _ _) rfl (c_X10_illSet (l := ox_l X) (φ := ox_φ X) (D := ox_D X) (cI := ox_I X) (cB := ox_B X) hC.J  h) gX10_lesson_X10_illSet rfl hd_X10_illSet ⟨Nat.le_of_ble_eq_true rfl, Nat.le_of_ble_eq_true rfl⟩ rfl rfl (Nat.le_of_ble_eq_true rfl) dX10_lesson_28) (fun v28 s28 h => ?_)
      refine g_ri (r_V (C := RX10) (T := TX10) (N := 25) (As := [.int (0 : Int32), .int (0 : Int32), .int x1, .int x2, .int v28]) (rest := []) hC o_iX10 (o_eX10 _ _ _ _) rfl (c_X10_teach (l := ox_l X) (φ := ox_φ X) (D := ox_D X) (cI := ox_I X) (cB := ox_B X) hC.J  h) gX10_lesson_X10_teach rfl hd_X10_teach ⟨Nat.le_of_ble_eq_true rfl, Nat.le_of_ble_eq_true rfl⟩ rfl rfl (Nat.le_of_ble_eq_true rfl) dX10_lesson_31) (fun v31 s31 h => ?_)
      refine g_sub [] rfl ?_
      exact wb_X10_lesson_34 hC hR h
    · have h := h.2 z
      refine g_bipush (v := (-103 : Int32)) hC dX10_lesson_17 (by decide) ?_
      refine g_goto hC 34 dX10_lesson_19 (by decide) ?_
      refine g_sub [] rfl ?_
      exact wb_X10_lesson_34 hC hR h
  · have h := h.2 z
    refine g_bipush (v := (-101 : Int32)) hC dX10_lesson_7 (by decide) ?_
    exact hR _ _ _ _ dX10_lesson_9 h
set_option maxRecDepth 100000 in
theorem c_X10_lesson {l : Launch} {φ : OI → Nat} {D : va_G} {cI cB : ClassId} (hJ : o_J φ) {x1 : Int32} {x2 : Int32} {σ : SS} {post : Int32 → SS → Prop} (h : V_X10_lesson x1 x2 σ post) : o_Mi l φ D cI cB yX10_lesson wsX10_lesson 3 77 [.ref (φ (7, 0, 0)), .int x1, .int x2] σ post :=
 o_met_i hJ (by decide +kernel) rfl (Nat.le_of_ble_eq_true rfl) (fun p e s m args below meth c Q hC hR => wv_X10_lesson hC hR h)
theorem kw_X10_goSummer_1 : Cond.fieldLink RX10 79 "SchoolRowModel" "children" "I" ∈ wsX10_goSummer := List.mem_of_getElem? (i := 1) (by decide +kernel)
theorem kw_X10_goSummer_2 : Cond.fieldLink RX10 13 "SchoolRowModel" "kindOf" "[I" ∈ wsX10_goSummer := List.mem_of_getElem? (i := 2) (by decide +kernel)
theorem kw_X10_goSummer_3 : Cond.fieldLink RX10 25 "SchoolRowModel" "partsOf" "[I" ∈ wsX10_goSummer := List.mem_of_getElem? (i := 3) (by decide +kernel)
theorem kw_X10_goSummer_4 : Cond.fieldLink RX10 76 "SchoolRowModel" "forget" "I" ∈ wsX10_goSummer := List.mem_of_getElem? (i := 4) (by decide +kernel)
theorem kw_X10_goSummer_5 : Cond.fieldLink RX10 28 "SchoolRowModel" "wrongOf" "[I" ∈ wsX10_goSummer := List.mem_of_getElem? (i := 5) (by decide +kernel)
theorem ki_X10_goSummer_X10 : ∀ w ∈ wsX100, w ∈ wsX10_goSummer := fun _ h => List.mem_cons_of_mem _ (List.mem_append_right _ h)
theorem hd_X10_goSummer : yX10_goSummer.cls = RX10 ∧ yX10_goSummer.cls ≠ "java/lang/invoke/MethodHandle" ∧ yX10_goSummer.cls ≠ "java/lang/invoke/VarHandle" ∧ (parseMethodDescriptor yX10_goSummer.desc).map (fun d => d.parameters.length) = some 1 := by decide +kernel
set_option maxHeartbeats 4000000 in
set_option maxRecDepth 100000 in
theorem wb_X10_goSummer_105 {X : OX} {post : Int32 → SS → Prop} {K4 : Int32 → Int32 → Int32 → SS → Prop} {K15 : Int32 → Int32 → Int32 → Int32 → SS → Prop} {x1 : Int32} {x2 : Int32} {x3 : Int32} {x4 : Int32} {t0 : Int32} {t1 : Int32} {σ : SS} (hC : o_C X cX10_goSummer RX10 wsX10_goSummer 1 21 7) (hR : o_RI X cX10_goSummer post) (hK4 : ∀ (x1 : Int32) (x2 : Int32) (x3 : Int32) (σ : SS), K4 x1 x2 x3 σ → o_G X σ 4 [(0, .ref (ox_φ X (7, 0, 0))), (1, .int x1), (2, .int x2), (3, .int x3)] []) (hK15 : ∀ (x1 : Int32) (x2 : Int32) (x3 : Int32) (x4 : Int32) (σ : SS), K15 x1 x2 x3 x4 σ → o_G X σ 15 [(0, .ref (ox_φ X (7, 0, 0))), (1, .int x1), (2, .int x2), (3, .int x3), (4, .int x4)] []) (h : VB_X10_goSummer_105 post K4 K15 x1 x2 x3 x4 t0 t1 σ) : o_G X σ 105 [(0, .ref (ox_φ X (7, 0, 0))), (1, .int x1), (2, .int x2), (3, .int x3), (4, .int x4)] [.int t0, .int t1, .ref (ox_φ X (8, 0, 6))] := by
  unfold VB_X10_goSummer_105 at h
  refine g_iast hC o_M6 h.1 dX10_goSummer_105 ?_
  have h := h.2
  refine g_iinc (v := (x4 + (1 : Int32))) hC 4 [(4, .int (x4 + (1 : Int32))), (0, .ref (ox_φ X (7, 0, 0))), (1, .int x1), (2, .int x2), (3, .int x3)] dX10_goSummer_106 rfl rfl (by decide) rfl ?_
  refine g_goto hC 15 dX10_goSummer_109 (by decide) ?_
  refine g_sub [1, 2, 3, 4, 0] rfl ?_
  exact hK15 _ _ _ _ _ h
set_option maxHeartbeats 4000000 in
set_option maxRecDepth 100000 in
theorem wb_X10_goSummer_59 {X : OX} {post : Int32 → SS → Prop} {K4 : Int32 → Int32 → Int32 → SS → Prop} {K15 : Int32 → Int32 → Int32 → Int32 → SS → Prop} {x1 : Int32} {x2 : Int32} {x3 : Int32} {x4 : Int32} {x5 : Int32} {t0 : Int32} {σ : SS} (hC : o_C X cX10_goSummer RX10 wsX10_goSummer 1 21 7) (hR : o_RI X cX10_goSummer post) (hK4 : ∀ (x1 : Int32) (x2 : Int32) (x3 : Int32) (σ : SS), K4 x1 x2 x3 σ → o_G X σ 4 [(0, .ref (ox_φ X (7, 0, 0))), (1, .int x1), (2, .int x2), (3, .int x3)] []) (hK15 : ∀ (x1 : Int32) (x2 : Int32) (x3 : Int32) (x4 : Int32) (σ : SS), K15 x1 x2 x3 x4 σ → o_G X σ 15 [(0, .ref (ox_φ X (7, 0, 0))), (1, .int x1), (2, .int x2), (3, .int x3), (4, .int x4)] []) (h : VB_X10_goSummer_59 post K4 K15 x1 x2 x3 x4 x5 t0 σ) : o_G X σ 59 [(0, .ref (ox_φ X (7, 0, 0))), (1, .int x1), (2, .int x2), (3, .int x3), (4, .int x4), (5, .int x5)] [.int t0] := by
  unfold VB_X10_goSummer_59 at h
  refine g_istore hC [(6, .int t0), (0, .ref (ox_φ X (7, 0, 0))), (1, .int x1), (2, .int x2), (3, .int x3), (4, .int x4), (5, .int x5)] dX10_goSummer_59 (by decide) rfl ?_
  refine g_aload_n hC 1 dX10_goSummer_61 rfl rfl ?_
  refine g_get (C := RX10) (T := TX10) (N := 25) (v := .ref (ox_φ X (8, 0, 5))) hC o_iX10 (o_eX10 _ _ _ _) rfl ki_X10_goSummer_X10 9 (by decide) kw_X10_goSummer_3 rfl dX10_goSummer_62 ?_
  refine g_iload hC 6 dX10_goSummer_65 rfl ?_
  refine g_dup2 hC dX10_goSummer_67 rfl rfl ?_
  refine g_iald hC o_M5 h.1 dX10_goSummer_68 ?_
  have h := h.2
  refine g_iload hC 0 dX10_goSummer_69 rfl ?_
  refine g_isub hC dX10_goSummer_71 ?_
  refine g_iast hC o_M5 h.1 dX10_goSummer_72 ?_
  have h := h.2
  refine g_iload_n hC 3 dX10_goSummer_73 rfl rfl ?_
  refine g_iload hC 0 dX10_goSummer_74 rfl ?_
  refine g_iadd hC dX10_goSummer_76 ?_
  refine g_istore_n hC [(2, .int (x2 + t0)), (6, .int t0), (0, .ref (ox_φ X (7, 0, 0))), (1, .int x1), (3, .int x3), (4, .int x4), (5, .int x5)] dX10_goSummer_77 rfl (by decide) rfl ?_
  refine g_aload_n hC 2 dX10_goSummer_78 rfl rfl ?_
  refine g_get (C := RX10) (T := TX10) (N := 25) (v := .ref (ox_φ X (8, 0, 6))) hC o_iX10 (o_eX10 _ _ _ _) rfl ki_X10_goSummer_X10 10 (by decide) kw_X10_goSummer_5 rfl dX10_goSummer_79 ?_
  refine g_iload hC 6 dX10_goSummer_82 rfl ?_
  refine g_aload_n hC 2 dX10_goSummer_84 rfl rfl ?_
  refine g_get (C := RX10) (T := TX10) (N := 25) (v := .ref (ox_φ X (8, 0, 5))) hC o_iX10 (o_eX10 _ _ _ _) rfl ki_X10_goSummer_X10 9 (by decide) kw_X10_goSummer_3 rfl dX10_goSummer_85 ?_
  refine g_iload hC 6 dX10_goSummer_88 rfl ?_
  refine g_iald hC o_M5 h.1 dX10_goSummer_90 ?_
  have h := h.2
  refine g_if_ne hC 98 dX10_goSummer_91 (by decide) (fun z => ?_) (fun z => ?_)
  · have h := h.1 z
    refine g_aload_n hC 2 dX10_goSummer_98 rfl rfl ?_
    refine g_get (C := RX10) (T := TX10) (N := 25) (v := .ref (ox_φ X (8, 0, 6))) hC o_iX10 (o_eX10 _ _ _ _) rfl ki_X10_goSummer_X10 10 (by decide) kw_X10_goSummer_5 rfl dX10_goSummer_99 ?_
    refine g_iload hC 6 dX10_goSummer_102 rfl ?_
    refine g_iald hC o_M6 h.1 dX10_goSummer_104 ?_
    have h := h.2
    refine g_sub [2, 3, 0, 4, 5] rfl ?_
    exact wb_X10_goSummer_105 hC hR hK4 hK15 h
  · have h := h.2 z
    refine g_iconst (v := (0 : Int32)) hC dX10_goSummer_94 (by decide) ?_
    refine g_goto hC 105 dX10_goSummer_95 (by decide) ?_
    refine g_sub [2, 3, 0, 4, 5] rfl ?_
    exact wb_X10_goSummer_105 hC hR hK4 hK15 h
set_option maxHeartbeats 4000000 in
set_option maxRecDepth 100000 in
theorem wb_X10_goSummer_15 {X : OX} {post : Int32 → SS → Prop} {K4 : Int32 → Int32 → Int32 → SS → Prop} {K15 : Int32 → Int32 → Int32 → Int32 → SS → Prop} {x1 : Int32} {x2 : Int32} {x3 : Int32} {x4 : Int32} {σ : SS} (hC : o_C X cX10_goSummer RX10 wsX10_goSummer 1 21 7) (hR : o_RI X cX10_goSummer post) (hK4 : ∀ (x1 : Int32) (x2 : Int32) (x3 : Int32) (σ : SS), K4 x1 x2 x3 σ → o_G X σ 4 [(0, .ref (ox_φ X (7, 0, 0))), (1, .int x1), (2, .int x2), (3, .int x3)] []) (hK15 : ∀ (x1 : Int32) (x2 : Int32) (x3 : Int32) (x4 : Int32) (σ : SS), K15 x1 x2 x3 x4 σ → o_G X σ 15 [(0, .ref (ox_φ X (7, 0, 0))), (1, .int x1), (2, .int x2), (3, .int x3), (4, .int x4)] []) (h : VB_X10_goSummer_15 post K4 K15 x1 x2 x3 x4 σ) : o_G X σ 15 [(0, .ref (ox_φ X (7, 0, 0))), (1, .int x1), (2, .int x2), (3, .int x3), (4, .int x4)] [] := by
  unfold VB_X10_goSummer_15 at h
  refine g_iload hC 4 dX10_goSummer_15 rfl ?_
  refine g_iconst (v := (4 : Int32)) hC dX10_goSummer_17 (by decide) ?_
  refine g_icmp_ge hC 112 dX10_goSummer_18 (by decide) (fun z => ?_) (fun z => ?_)
  · have h := h.1 z
    refine g_iinc (v := (x3 + (1 : Int32))) hC 3 [(3, .int (x3 + (1 : Int32))), (0, .ref (ox_φ X (7, 0, 0))), (1, .int x1), (2, .int x2), (4, .int x4)] dX10_goSummer_112 rfl rfl (by decide) rfl ?_
    refine g_goto hC 4 dX10_goSummer_115 (by decide) ?_
    refine g_sub [1, 2, 3, 0] rfl ?_
    exact hK4 _ _ _ _ h
  · have h := h.2 z
    refine g_iload_n hC 1 dX10_goSummer_21 rfl rfl ?_
    refine g_iconst (v := (4 : Int32)) hC dX10_goSummer_22 (by decide) ?_
    refine g_iload_n hC 3 dX10_goSummer_23 rfl rfl ?_
    refine g_imul hC dX10_goSummer_24 ?_
    refine g_iadd hC dX10_goSummer_25 ?_
    refine g_iload hC 4 dX10_goSummer_26 rfl ?_
    refine g_iadd hC dX10_goSummer_28 ?_
    refine g_topi (fun y29 e29 => ?_)
    have h := h y29 e29
    refine g_istore hC [(5, .int y29), (0, .ref (ox_φ X (7, 0, 0))), (1, .int x1), (2, .int x2), (3, .int x3), (4, .int x4)] dX10_goSummer_29 (by decide) rfl ?_
    refine g_aload_n hC 1 dX10_goSummer_31 rfl rfl ?_
    refine g_get (C := RX10) (T := TX10) (N := 25) (v := .ref (ox_φ X (8, 0, 1))) hC o_iX10 (o_eX10 _ _ _ _) rfl ki_X10_goSummer_X10 5 (by decide) kw_X10_goSummer_2 rfl dX10_goSummer_32 ?_
    refine g_iload_n hC 4 dX10_goSummer_35 rfl rfl ?_
    refine g_iald hC o_M1 h.1 dX10_goSummer_36 ?_
    have h := h.2
    refine g_iconst (v := (4 : Int32)) hC dX10_goSummer_37 (by decide) ?_
    refine g_icmp_ne hC 45 dX10_goSummer_38 (by decide) (fun z => ?_) (fun z => ?_)
    · have h := h.1 z
      refine g_aload_n hC 1 dX10_goSummer_45 rfl rfl ?_
      refine g_get (C := RX10) (T := TX10) (N := 25) (v := .ref (ox_φ X (8, 0, 5))) hC o_iX10 (o_eX10 _ _ _ _) rfl ki_X10_goSummer_X10 9 (by decide) kw_X10_goSummer_3 rfl dX10_goSummer_46 ?_
      refine g_iload hC 0 dX10_goSummer_49 rfl ?_
      refine g_iald hC o_M5 h.1 dX10_goSummer_51 ?_
      have h := h.2
      refine g_aload_n hC 1 dX10_goSummer_52 rfl rfl ?_
      refine g_get (C := RX10) (T := TX10) (N := 25) (v := .int (σ.1 (7, 0, 0) 2)) hC o_iX10 (o_eX10 _ _ _ _) rfl ki_X10_goSummer_X10 2 (by decide) kw_X10_goSummer_4 rfl dX10_goSummer_53 ?_
      refine g_ri (r_S (As := [.int (σ.1 (8, 0, 5) (y29).toNatClampNeg), .int (σ.1 (7, 0, 0) 2)]) (rest := []) hC (c_X10_lost (l := ox_l X) (φ := ox_φ X) (D := ox_D X) (cI := ox_I X) (cB := ox_B X) hC.J  h) gX10_goSummer_X10_lost rfl hd_X10_lost ⟨Nat.le_of_ble_eq_true rfl, Nat.le_of_ble_eq_true rfl⟩ rfl rfl (Nat.le_of_ble_eq_true rfl) dX10_goSummer_56) (fun v56 s56 h => ?_)
      refine g_sub [1, 2, 3, 4, 5, 0] rfl ?_
      exact wb_X10_goSummer_59 hC hR hK4 hK15 h
    · have h := h.2 z
      refine g_iconst (v := (0 : Int32)) hC dX10_goSummer_41 (by decide) ?_
      refine g_goto hC 59 dX10_goSummer_42 (by decide) ?_
      refine g_sub [1, 2, 3, 4, 5, 0] rfl ?_
      exact wb_X10_goSummer_59 hC hR hK4 hK15 h
set_option maxHeartbeats 4000000 in
set_option maxRecDepth 100000 in
theorem lp_X10_goSummer_15 {X : OX} {post : Int32 → SS → Prop} {K4 : Int32 → Int32 → Int32 → SS → Prop} (hC : o_C X cX10_goSummer RX10 wsX10_goSummer 1 21 7) (hR : o_RI X cX10_goSummer post) (hK4 : ∀ (x1 : Int32) (x2 : Int32) (x3 : Int32) (σ : SS), K4 x1 x2 x3 σ → o_G X σ 4 [(0, .ref (ox_φ X (7, 0, 0))), (1, .int x1), (2, .int x2), (3, .int x3)] []) : ∀ (n : Nat) (a : Int32 × Int32 × Int32 × Int32) (σ : SS), LP_X10_goSummer_15 post K4 n a σ → o_G X σ 15 [(0, .ref (ox_φ X (7, 0, 0))), (1, .int a.1), (2, .int a.2.1), (3, .int a.2.2.1), (4, .int a.2.2.2)] [] :=
 o_lp_G (fun K hK a σ h => wb_X10_goSummer_15 hC hR hK4 (fun x1 x2 x3 x4 σ h => hK (x1, x2, x3, x4) σ h) h)
set_option maxHeartbeats 4000000 in
set_option maxRecDepth 100000 in
theorem wb_X10_goSummer_4 {X : OX} {post : Int32 → SS → Prop} {K4 : Int32 → Int32 → Int32 → SS → Prop} {x1 : Int32} {x2 : Int32} {x3 : Int32} {σ : SS} (hC : o_C X cX10_goSummer RX10 wsX10_goSummer 1 21 7) (hR : o_RI X cX10_goSummer post) (hK4 : ∀ (x1 : Int32) (x2 : Int32) (x3 : Int32) (σ : SS), K4 x1 x2 x3 σ → o_G X σ 4 [(0, .ref (ox_φ X (7, 0, 0))), (1, .int x1), (2, .int x2), (3, .int x3)] []) (h : VB_X10_goSummer_4 post K4 x1 x2 x3 σ) : o_G X σ 4 [(0, .ref (ox_φ X (7, 0, 0))), (1, .int x1), (2, .int x2), (3, .int x3)] [] := by
  unfold VB_X10_goSummer_4 at h
  refine g_iload_n hC 3 dX10_goSummer_4 rfl rfl ?_
  refine g_aload_n hC 0 dX10_goSummer_5 rfl rfl ?_
  refine g_get (C := RX10) (T := TX10) (N := 25) (v := .int (σ.1 (7, 0, 0) 4)) hC o_iX10 (o_eX10 _ _ _ _) rfl ki_X10_goSummer_X10 4 (by decide) kw_X10_goSummer_1 rfl dX10_goSummer_6 ?_
  refine g_icmp_ge hC 118 dX10_goSummer_9 (by decide) (fun z => ?_) (fun z => ?_)
  · have h := h.1 z
    refine g_iload_n hC 2 dX10_goSummer_118 rfl rfl ?_
    exact hR _ _ _ _ dX10_goSummer_119 h
  · have h := h.2 z
    refine g_iconst (v := (0 : Int32)) hC dX10_goSummer_12 (by decide) ?_
    refine g_istore hC [(4, .int (0 : Int32)), (0, .ref (ox_φ X (7, 0, 0))), (1, .int x1), (2, .int x2), (3, .int x3)] dX10_goSummer_13 (by decide) rfl ?_
    refine g_sub [1, 2, 3, 4, 0] rfl ?_
    obtain ⟨n, h⟩ := h
    exact lp_X10_goSummer_15 hC hR hK4 n _ _ h
set_option maxHeartbeats 4000000 in
set_option maxRecDepth 100000 in
theorem lp_X10_goSummer_4 {X : OX} {post : Int32 → SS → Prop} (hC : o_C X cX10_goSummer RX10 wsX10_goSummer 1 21 7) (hR : o_RI X cX10_goSummer post) : ∀ (n : Nat) (a : Int32 × Int32 × Int32) (σ : SS), LP_X10_goSummer_4 post n a σ → o_G X σ 4 [(0, .ref (ox_φ X (7, 0, 0))), (1, .int a.1), (2, .int a.2.1), (3, .int a.2.2)] [] :=
 o_lp_G (fun K hK a σ h => wb_X10_goSummer_4 hC hR (fun x1 x2 x3 σ h => hK (x1, x2, x3) σ h) h)
set_option maxHeartbeats 4000000 in
set_option maxRecDepth 100000 in
theorem wv_X10_goSummer {X : OX} {x1 : Int32} {post : Int32 → SS → Prop} {σ : SS} (hC : o_C X cX10_goSummer RX10 wsX10_goSummer 1 21 7) (hR : o_RI X cX10_goSummer post) (h : V_X10_goSummer x1 σ post) : o_G X σ 0 [(0, .ref (ox_φ X (7, 0, 0))), (1, .int x1)] [] := by
  unfold V_X10_goSummer at h
  refine g_iconst (v := (0 : Int32)) hC dX10_goSummer_0 (by decide) ?_
  refine g_istore_n hC [(2, .int (0 : Int32)), (0, .ref (ox_φ X (7, 0, 0))), (1, .int x1)] dX10_goSummer_1 rfl (by decide) rfl ?_
  refine g_iconst (v := (0 : Int32)) hC dX10_goSummer_2 (by decide) ?_
  refine g_istore_n hC [(3, .int (0 : Int32)), (2, .int (0 : Int32)), (0, .ref (ox_φ X (7, 0, 0))), (1, .int x1)] dX10_goSummer_3 rfl (by decide) rfl ?_
  refine g_sub [2, 3, 1, 0] rfl ?_
  obtain ⟨n, h⟩ := h
  exact lp_X10_goSummer_4 hC hR n _ _ h
set_option maxRecDepth 100000 in
theorem c_X10_goSummer {l : Launch} {φ : OI → Nat} {D : va_G} {cI cB : ClassId} (hJ : o_J φ) {x1 : Int32} {σ : SS} {post : Int32 → SS → Prop} (h : V_X10_goSummer x1 σ post) : o_Mi l φ D cI cB yX10_goSummer wsX10_goSummer 1 21 [.ref (φ (7, 0, 0)), .int x1] σ post :=
 o_met_i hJ (by decide +kernel) rfl (Nat.le_of_ble_eq_true rfl) (fun p e s m args below meth c Q hC hR => wv_X10_goSummer hC hR h)
theorem kw_X10_summer_1 : Cond.fieldLink RX10 79 "SchoolRowModel" "children" "I" ∈ wsX10_summer := List.mem_of_getElem? (i := 1) (by decide +kernel)
theorem ki_X10_summer_X10 : ∀ w ∈ wsX100, w ∈ wsX10_summer := fun _ h => List.mem_cons_of_mem _ (List.mem_append_right _ h)
theorem hd_X10_summer : yX10_summer.cls = RX10 ∧ yX10_summer.cls ≠ "java/lang/invoke/MethodHandle" ∧ yX10_summer.cls ≠ "java/lang/invoke/VarHandle" ∧ (parseMethodDescriptor yX10_summer.desc).map (fun d => d.parameters.length) = some 0 := by decide +kernel
set_option maxHeartbeats 4000000 in
set_option maxRecDepth 100000 in
theorem wb_X10_summer_17 {X : OX} {post : Int32 → SS → Prop} {t0 : Int32} {σ : SS} (hC : o_C X cX10_summer RX10 wsX10_summer 2 47 1) (hR : o_RI X cX10_summer post) (h : VB_X10_summer_17 post t0 σ) : o_G X σ 17 [] [.int t0] := by
  unfold VB_X10_summer_17 at h
  exact hR _ _ _ _ dX10_summer_17 h
set_option maxHeartbeats 4000000 in
set_option maxRecDepth 100000 in
theorem wv_X10_summer {X : OX} {post : Int32 → SS → Prop} {σ : SS} (hC : o_C X cX10_summer RX10 wsX10_summer 2 47 1) (hR : o_RI X cX10_summer post) (h : V_X10_summer σ post) : o_G X σ 0 [(0, .ref (ox_φ X (7, 0, 0)))] [] := by
  unfold V_X10_summer at h
  refine g_aload_n hC 0 dX10_summer_0 rfl rfl ?_
  refine g_get (C := RX10) (T := TX10) (N := 25) (v := .int (σ.1 (7, 0, 0) 4)) hC o_iX10 (o_eX10 _ _ _ _) rfl ki_X10_summer_X10 4 (by decide) kw_X10_summer_1 rfl dX10_summer_1 ?_
  refine g_if_ne hC 12 dX10_summer_4 (by decide) (fun z => ?_) (fun z => ?_)
  · have h := h.1 z
    refine g_aload_n hC 0 dX10_summer_12 rfl rfl ?_
    refine g_iconst (v := (0 : Int32)) hC dX10_summer_13 (by decide) ?_
    refine g_ri (r_V (C := RX10) (T := TX10) (N := 25) (As := [.int (0 : Int32)]) (rest := []) hC o_iX10 (o_eX10 _ _ _ _) rfl (c_X10_goSummer (l := ox_l X) (φ := ox_φ X) (D := ox_D X) (cI := ox_I X) (cB := ox_B X) hC.J  h) gX10_summer_X10_goSummer rfl hd_X10_goSummer ⟨Nat.le_of_ble_eq_true rfl, Nat.le_of_ble_eq_true rfl⟩ rfl rfl (Nat.le_of_ble_eq_true rfl) dX10_summer_14) (fun v14 s14 h => ?_)
    refine g_sub [] rfl ?_
    exact wb_X10_summer_17 hC hR h
  · have h := h.2 z
    refine g_bipush (v := (-103 : Int32)) hC dX10_summer_7 (by decide) ?_
    refine g_goto hC 17 dX10_summer_9 (by decide) ?_
    refine g_sub [] rfl ?_
    exact wb_X10_summer_17 hC hR h
set_option maxRecDepth 100000 in
theorem c_X10_summer {l : Launch} {φ : OI → Nat} {D : va_G} {cI cB : ClassId} (hJ : o_J φ) {σ : SS} {post : Int32 → SS → Prop} (h : V_X10_summer σ post) : o_Mi l φ D cI cB yX10_summer wsX10_summer 2 47 [.ref (φ (7, 0, 0))] σ post :=
 o_met_i hJ (by decide +kernel) rfl (Nat.le_of_ble_eq_true rfl) (fun p e s m args below meth c Q hC hR => wv_X10_summer hC hR h)
