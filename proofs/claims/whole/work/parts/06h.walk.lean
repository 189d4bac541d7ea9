theorem kw_X10_wipe_1 : Cond.fieldLink RX10 25 "SchoolRowModel" "partsOf" "[I" ∈ wsX10_wipe := List.mem_of_getElem? (i := 1) (by decide +kernel)
theorem kw_X10_wipe_2 : Cond.fieldLink RX10 28 "SchoolRowModel" "wrongOf" "[I" ∈ wsX10_wipe := List.mem_of_getElem? (i := 2) (by decide +kernel)
theorem ki_X10_wipe_X10 : ∀ w ∈ wsX100, w ∈ wsX10_wipe := fun _ h => List.mem_cons_of_mem _ (List.mem_append_right _ h)
theorem hd_X10_wipe : yX10_wipe.cls = RX10 ∧ yX10_wipe.cls ≠ "java/lang/invoke/MethodHandle" ∧ yX10_wipe.cls ≠ "java/lang/invoke/VarHandle" ∧ (parseMethodDescriptor yX10_wipe.desc).map (fun d => d.parameters.length) = some 2 := by decide +kernel
set_option maxHeartbeats 4000000 in
set_option maxRecDepth 100000 in
theorem wb_X10_wipe_15 {X : OX} {post : Int32 → SS → Prop} {σ : SS} (hC : o_C X cX10_wipe RX10 wsX10_wipe 2 43 5) (hR : o_RI X cX10_wipe post) (h : VB_X10_wipe_15 post σ) : o_G X σ 15 [] [] := by
  unfold VB_X10_wipe_15 at h
  refine g_bipush (v := (-101 : Int32)) hC dX10_wipe_15 (by decide) ?_
  exact hR _ _ _ _ dX10_wipe_17 h
set_option maxHeartbeats 4000000 in
set_option maxRecDepth 100000 in
theorem wv_X10_wipe {X : OX} {x1 : Int32} {x2 : Int32} {post : Int32 → SS → Prop} {σ : SS} (hC : o_C X cX10_wipe RX10 wsX10_wipe 2 43 5) (hR : o_RI X cX10_wipe post) (h : V_X10_wipe x1 x2 σ post) : o_G X σ 0 [(0, .ref (ox_φ X (7, 0, 0))), (1, .int x1), (2, .int x2)] [] := by
  unfold V_X10_wipe at h
  refine g_aload_n hC 0 dX10_wipe_0 rfl rfl ?_
  refine g_iload_n hC 1 dX10_wipe_1 rfl rfl ?_
  refine g_ri (r_V (C := RX10) (T := TX10) (N := 25) (As := [.int x1]) (rest := []) hC o_iX10 (o_eX10 _ _ _ _) rfl (c_X10_isChild (l := ox_l X) (φ := ox_φ X) (D := ox_D X) (cI := ox_I X) (cB := ox_B X) hC.J  h) gX10_wipe_X10_isChild rfl hd_X10_isChild ⟨Nat.le_of_ble_eq_true rfl, Nat.le_of_ble_eq_true rfl⟩ rfl rfl (Nat.le_of_ble_eq_true rfl) dX10_wipe_2) (fun v2 s2 h => ?_)
  refine g_if_eq hC 15 dX10_wipe_5 (by decide) (fun z => ?_) (fun z => ?_)
  · have h := h.1 z
    refine g_sub [] rfl ?_
    exact wb_X10_wipe_15 hC hR h
  · have h := h.2 z
    refine g_iload_n hC 2 dX10_wipe_8 rfl rfl ?_
    refine g_ri (r_S (As := [.int x2]) (rest := []) hC (c_X10_isSubject (l := ox_l X) (φ := ox_φ X) (D := ox_D X) (cI := ox_I X) (cB := ox_B X) hC.J  h) gX10_wipe_X10_isSubject rfl hd_X10_isSubject ⟨Nat.le_of_ble_eq_true rfl, Nat.le_of_ble_eq_true rfl⟩ rfl rfl (Nat.le_of_ble_eq_true rfl) dX10_wipe_9) (fun v9 s9 h => ?_)
    refine g_if_ne hC 18 dX10_wipe_12 (by decide) (fun z => ?_) (fun z => ?_)
    · have h := h.1 z
      refine g_iconst (v := (4 : Int32)) hC dX10_wipe_18 (by decide) ?_
      refine g_iload_n hC 1 dX10_wipe_19 rfl rfl ?_
      refine g_imul hC dX10_wipe_20 ?_
      refine g_iload_n hC 2 dX10_wipe_21 rfl rfl ?_
      refine g_iadd hC dX10_wipe_22 ?_
      refine g_istore_n hC [(3, .int (((4 : Int32) * x1) + x2)), (0, .ref (ox_φ X (7, 0, 0))), (1, .int x1), (2, .int x2)] dX10_wipe_23 rfl (by decide) rfl ?_
      refine g_aload_n hC 1 dX10_wipe_24 rfl rfl ?_
      refine g_get (C := RX10) (T := TX10) (N := 25) (v := .ref (ox_φ X (8, 0, 5))) hC o_iX10 (o_eX10 _ _ _ _) rfl ki_X10_wipe_X10 9 (by decide) kw_X10_wipe_1 rfl dX10_wipe_25 ?_
      refine g_iload_n hC 0 dX10_wipe_28 rfl rfl ?_
      refine g_iald hC o_M5 h.1 dX10_wipe_29 ?_
      have h := h.2
      refine g_topi (fun y30 e30 => ?_)
      have h := h y30 e30
      refine g_istore hC [(4, .int y30), (3, .int (((4 : Int32) * x1) + x2)), (0, .ref (ox_φ X (7, 0, 0))), (1, .int x1), (2, .int x2)] dX10_wipe_30 (by decide) rfl ?_
      refine g_aload_n hC 2 dX10_wipe_32 rfl rfl ?_
      refine g_get (C := RX10) (T := TX10) (N := 25) (v := .ref (ox_φ X (8, 0, 5))) hC o_iX10 (o_eX10 _ _ _ _) rfl ki_X10_wipe_X10 9 (by decide) kw_X10_wipe_1 rfl dX10_wipe_33 ?_
      refine g_iload_n hC 1 dX10_wipe_36 rfl rfl ?_
      refine g_iconst (v := (0 : Int32)) hC dX10_wipe_37 (by decide) ?_
      refine g_iast hC o_M5 h.1 dX10_wipe_38 ?_
      have h := h.2
      refine g_aload_n hC 2 dX10_wipe_39 rfl rfl ?_
      refine g_get (C := RX10) (T := TX10) (N := 25) (v := .ref (ox_φ X (8, 0, 6))) hC o_iX10 (o_eX10 _ _ _ _) rfl ki_X10_wipe_X10 10 (by decide) kw_X10_wipe_2 rfl dX10_wipe_40 ?_
      refine g_iload_n hC 1 dX10_wipe_43 rfl rfl ?_
      refine g_iconst (v := (0 : Int32)) hC dX10_wipe_44 (by decide) ?_
      refine g_iast hC o_M6 h.1 dX10_wipe_45 ?_
      have h := h.2
      refine g_iload hC 0 dX10_wipe_46 rfl ?_
      exact hR _ _ _ _ dX10_wipe_48 h
    · have h := h.2 z
      refine g_sub [] rfl ?_
      exact wb_X10_wipe_15 hC hR h
set_option maxRecDepth 100000 in
theorem c_X10_wipe {l : Launch} {φ : OI → Nat} {D : va_G} {cI cB : ClassId} (hJ : o_J φ) {x1 : Int32} {x2 : Int32} {σ : SS} {post : Int32 → SS → Prop} (h : V_X10_wipe x1 x2 σ post) : o_Mi l φ D cI cB yX10_wipe wsX10_wipe 2 43 [.ref (φ (7, 0, 0)), .int x1, .int x2] σ post :=
 o_met_i hJ (by decide +kernel) rfl (Nat.le_of_ble_eq_true rfl) (fun p e s m args below meth c Q hC hR => wv_X10_wipe hC hR h)
theorem kw_X10_clear_1 : Cond.fieldLink RX10 25 "SchoolRowModel" "partsOf" "[I" ∈ wsX10_clear := List.mem_of_getElem? (i := 1) (by decide +kernel)
theorem kw_X10_clear_2 : Cond.fieldLink RX10 28 "SchoolRowModel" "wrongOf" "[I" ∈ wsX10_clear := List.mem_of_getElem? (i := 2) (by decide +kernel)
theorem ki_X10_clear_X10 : ∀ w ∈ wsX100, w ∈ wsX10_clear := fun _ h => List.mem_cons_of_mem _ (List.mem_append_right _ h)
theorem hd_X10_clear : yX10_clear.cls = RX10 ∧ yX10_clear.cls ≠ "java/lang/invoke/MethodHandle" ∧ yX10_clear.cls ≠ "java/lang/invoke/VarHandle" ∧ (parseMethodDescriptor yX10_clear.desc).map (fun d => d.parameters.length) = some 0 := by decide +kernel
set_option maxHeartbeats 4000000 in
set_option maxRecDepth 100000 in
theorem wb_X10_clear_3 {X : OX} {post : SS → Prop} {K3 : Int32 → SS → Prop} {x1 : Int32} {σ : SS} (hC : o_C X cX10_clear RX10 wsX10_clear 0 0 2) (hR : o_RV X cX10_clear post) (hK3 : ∀ (x1 : Int32) (σ : SS), K3 x1 σ → o_G X σ 3 [(0, .ref (ox_φ X (7, 0, 0))), (1, .int x1)] []) (h : VB_X10_clear_3 post K3 x1 σ) : o_G X σ 3 [(0, .ref (ox_φ X (7, 0, 0))), (1, .int x1)] [] := by
  unfold VB_X10_clear_3 at h
  refine g_iload_n hC 1 dX10_clear_3 rfl rfl ?_
  refine g_bipush (v := (48 : Int32)) hC dX10_clear_4 (by decide) ?_
  refine g_icmp_ge hC 29 dX10_clear_6 (by decide) (fun z => ?_) (fun z => ?_)
  · have h := h.1 z
    exact hR _ _ _ dX10_clear_29 h
  · have h := h.2 z
    refine g_aload_n hC 0 dX10_clear_9 rfl rfl ?_
    refine g_get (C := RX10) (T := TX10) (N := 25) (v := .ref (ox_φ X (8, 0, 5))) hC o_iX10 (o_eX10 _ _ _ _) rfl ki_X10_clear_X10 9 (by decide) kw_X10_clear_1 rfl dX10_clear_10 ?_
    refine g_iload_n hC 1 dX10_clear_13 rfl rfl ?_
    refine g_iconst (v := (0 : Int32)) hC dX10_clear_14 (by decide) ?_
    refine g_iast hC o_M5 h.1 dX10_clear_15 ?_
    have h := h.2
    refine g_aload_n hC 0 dX10_clear_16 rfl rfl ?_
    refine g_get (C := RX10) (T := TX10) (N := 25) (v := .ref (ox_φ X (8, 0, 6))) hC o_iX10 (o_eX10 _ _ _ _) rfl ki_X10_clear_X10 10 (by decide) kw_X10_clear_2 rfl dX10_clear_17 ?_
    refine g_iload_n hC 1 dX10_clear_20 rfl rfl ?_
    refine g_iconst (v := (0 : Int32)) hC dX10_clear_21 (by decide) ?_
    refine g_iast hC o_M6 h.1 dX10_clear_22 ?_
    have h := h.2
    refine g_iinc (v := (x1 + (1 : Int32))) hC 1 [(1, .int (x1 + (1 : Int32))), (0, .ref (ox_φ X (7, 0, 0)))] dX10_clear_23 rfl rfl (by decide) rfl ?_
    refine g_goto hC 3 dX10_clear_26 (by decide) ?_
    refine g_sub [1, 0] rfl ?_
    exact hK3 _ _ h
set_option maxHeartbeats 4000000 in
set_option maxRecDepth 100000 in
theorem lp_X10_clear_3 {X : OX} {post : SS → Prop} (hC : o_C X cX10_clear RX10 wsX10_clear 0 0 2) (hR : o_RV X cX10_clear post) : ∀ (n : Nat) (a : Int32) (σ : SS), LP_X10_clear_3 post n a σ → o_G X σ 3 [(0, .ref (ox_φ X (7, 0, 0))), (1, .int a)] [] :=
 o_lp_G (fun K hK a σ h => wb_X10_clear_3 hC hR (fun x1 σ h => hK x1 σ h) h)
set_option maxHeartbeats 4000000 in
set_option maxRecDepth 100000 in
theorem wv_X10_clear {X : OX} {post : SS → Prop} {σ : SS} (hC : o_C X cX10_clear RX10 wsX10_clear 0 0 2) (hR : o_RV X cX10_clear post) (h : V_X10_clear σ post) : o_G X σ 0 [(0, .ref (ox_φ X (7, 0, 0)))] [] := by
  unfold V_X10_clear at h
  refine g_bipush (v := (24 : Int32)) hC dX10_clear_0 (by decide) ?_
  refine g_istore_n hC [(1, .int (24 : Int32)), (0, .ref (ox_φ X (7, 0, 0)))] dX10_clear_2 rfl (by decide) rfl ?_
  refine g_sub [1, 0] rfl ?_
  obtain ⟨n, h⟩ := h
  exact lp_X10_clear_3 hC hR n _ _ h
set_option maxRecDepth 100000 in
theorem c_X10_clear {l : Launch} {φ : OI → Nat} {D : va_G} {cI cB : ClassId} (hJ : o_J φ) {σ : SS} {post : SS → Prop} (h : V_X10_clear σ post) : o_Mv l φ D cI cB yX10_clear wsX10_clear 0 0 [.ref (φ (7, 0, 0))] σ post :=
 o_met_v hJ (by decide +kernel) rfl (Nat.le_of_ble_eq_true rfl) (fun p e s m args below meth c Q hC hR => wv_X10_clear hC hR h)
theorem kw_X10_copy_1 : Cond.fieldLink RX10 25 "SchoolRowModel" "partsOf" "[I" ∈ wsX10_copy := List.mem_of_getElem? (i := 1) (by decide +kernel)
theorem kw_X10_copy_2 : Cond.fieldLink RX10 28 "SchoolRowModel" "wrongOf" "[I" ∈ wsX10_copy := List.mem_of_getElem? (i := 2) (by decide +kernel)
theorem ki_X10_copy_X10 : ∀ w ∈ wsX100, w ∈ wsX10_copy := fun _ h => List.mem_cons_of_mem _ (List.mem_append_right _ h)
theorem hd_X10_copy : yX10_copy.cls = RX10 ∧ yX10_copy.cls ≠ "java/lang/invoke/MethodHandle" ∧ yX10_copy.cls ≠ "java/lang/invoke/VarHandle" ∧ (parseMethodDescriptor yX10_copy.desc).map (fun d => d.parameters.length) = some 0 := by decide +kernel
set_option maxHeartbeats 4000000 in
set_option maxRecDepth 100000 in
theorem wb_X10_copy_2 {X : OX} {post : SS → Prop} {K2 : Int32 → SS → Prop} {x1 : Int32} {σ : SS} (hC : o_C X cX10_copy RX10 wsX10_copy 0 0 2) (hR : o_RV X cX10_copy post) (hK2 : ∀ (x1 : Int32) (σ : SS), K2 x1 σ → o_G X σ 2 [(0, .ref (ox_φ X (7, 0, 0))), (1, .int x1)] []) (h : VB_X10_copy_2 post K2 x1 σ) : o_G X σ 2 [(0, .ref (ox_φ X (7, 0, 0))), (1, .int x1)] [] := by
  unfold VB_X10_copy_2 at h
  refine g_iload_n hC 1 dX10_copy_2 rfl rfl ?_
  refine g_bipush (v := (24 : Int32)) hC dX10_copy_3 (by decide) ?_
  refine g_icmp_ge hC 44 dX10_copy_5 (by decide) (fun z => ?_) (fun z => ?_)
  · have h := h.1 z
    exact hR _ _ _ dX10_copy_44 h
  · have h := h.2 z
    refine g_aload_n hC 0 dX10_copy_8 rfl rfl ?_
    refine g_get (C := RX10) (T := TX10) (N := 25) (v := .ref (ox_φ X (8, 0, 5))) hC o_iX10 (o_eX10 _ _ _ _) rfl ki_X10_copy_X10 9 (by decide) kw_X10_copy_1 rfl dX10_copy_9 ?_
    refine g_bipush (v := (24 : Int32)) hC dX10_copy_12 (by decide) ?_
    refine g_iload_n hC 1 dX10_copy_14 rfl rfl ?_
    refine g_iadd hC dX10_copy_15 ?_
    refine g_aload_n hC 0 dX10_copy_16 rfl rfl ?_
    refine g_get (C := RX10) (T := TX10) (N := 25) (v := .ref (ox_φ X (8, 0, 5))) hC o_iX10 (o_eX10 _ _ _ _) rfl ki_X10_copy_X10 9 (by decide) kw_X10_copy_1 rfl dX10_copy_17 ?_
    refine g_iload_n hC 1 dX10_copy_20 rfl rfl ?_
    refine g_iald hC o_M5 h.1 dX10_copy_21 ?_
    have h := h.2
    refine g_iast hC o_M5 h.1 dX10_copy_22 ?_
    have h := h.2
    refine g_aload_n hC 0 dX10_copy_23 rfl rfl ?_
    refine g_get (C := RX10) (T := TX10) (N := 25) (v := .ref (ox_φ X (8, 0, 6))) hC o_iX10 (o_eX10 _ _ _ _) rfl ki_X10_copy_X10 10 (by decide) kw_X10_copy_2 rfl dX10_copy_24 ?_
    refine g_bipush (v := (24 : Int32)) hC dX10_copy_27 (by decide) ?_
    refine g_iload_n hC 1 dX10_copy_29 rfl rfl ?_
    refine g_iadd hC dX10_copy_30 ?_
    refine g_aload_n hC 0 dX10_copy_31 rfl rfl ?_
    refine g_get (C := RX10) (T := TX10) (N := 25) (v := .ref (ox_φ X (8, 0, 6))) hC o_iX10 (o_eX10 _ _ _ _) rfl ki_X10_copy_X10 10 (by decide) kw_X10_copy_2 rfl dX10_copy_32 ?_
    refine g_iload_n hC 1 dX10_copy_35 rfl rfl ?_
    refine g_iald hC o_M6 h.1 dX10_copy_36 ?_
    have h := h.2
    refine g_iast hC o_M6 h.1 dX10_copy_37 ?_
    have h := h.2
    refine g_iinc (v := (x1 + (1 : Int32))) hC 1 [(1, .int (x1 + (1 : Int32))), (0, .ref (ox_φ X (7, 0, 0)))] dX10_copy_38 rfl rfl (by decide) rfl ?_
    refine g_goto hC 2 dX10_copy_41 (by decide) ?_
    refine g_sub [1, 0] rfl ?_
    exact hK2 _ _ h
set_option maxHeartbeats 4000000 in
set_option maxRecDepth 100000 in
theorem lp_X10_copy_2 {X : OX} {post : SS → Prop} (hC : o_C X cX10_copy RX10 wsX10_copy 0 0 2) (hR : o_RV X cX10_copy post) : ∀ (n : Nat) (a : Int32) (σ : SS), LP_X10_copy_2 post n a σ → o_G X σ 2 [(0, .ref (ox_φ X (7, 0, 0))), (1, .int a)] [] :=
 o_lp_G (fun K hK a σ h => wb_X10_copy_2 hC hR (fun x1 σ h => hK x1 σ h) h)
set_option maxHeartbeats 4000000 in
set_option maxRecDepth 100000 in
theorem wv_X10_copy {X : OX} {post : SS → Prop} {σ : SS} (hC : o_C X cX10_copy RX10 wsX10_copy 0 0 2) (hR : o_RV X cX10_copy post) (h : V_X10_copy σ post) : o_G X σ 0 [(0, .ref (ox_φ X (7, 0, 0)))] [] := by
  unfold V_X10_copy at h
  refine g_iconst (v := (0 : Int32)) hC dX10_copy_0 (by decide) ?_
  refine g_istore_n hC [(1, .int (0 : Int32)), (0, .ref (ox_φ X (7, 0, 0)))] dX10_copy_1 rfl (by decide) rfl ?_
  refine g_sub [1, 0] rfl ?_
  obtain ⟨n, h⟩ := h
  exact lp_X10_copy_2 hC hR n _ _ h
set_option maxRecDepth 100000 in
theorem c_X10_copy {l : Launch} {φ : OI → Nat} {D : va_G} {cI cB : ClassId} (hJ : o_J φ) {σ : SS} {post : SS → Prop} (h : V_X10_copy σ post) : o_Mv l φ D cI cB yX10_copy wsX10_copy 0 0 [.ref (φ (7, 0, 0))] σ post :=
 o_met_v hJ (by decide +kernel) rfl (Nat.le_of_ble_eq_true rfl) (fun p e s m args below meth c Q hC hR => wv_X10_copy hC hR h)
theorem kw_X10_orderMany_1 : Cond.fieldLink RX10 79 "SchoolRowModel" "children" "I" ∈ wsX10_orderMany := List.mem_of_getElem? (i := 1) (by decide +kernel)
theorem ki_X10_orderMany_X10 : ∀ w ∈ wsX100, w ∈ wsX10_orderMany := fun _ h => List.mem_cons_of_mem _ (List.mem_append_right _ h)
theorem hd_X10_orderMany : yX10_orderMany.cls = RX10 ∧ yX10_orderMany.cls ≠ "java/lang/invoke/MethodHandle" ∧ yX10_orderMany.cls ≠ "java/lang/invoke/VarHandle" ∧ (parseMethodDescriptor yX10_orderMany.desc).map (fun d => d.parameters.length) = some 0 := by decide +kernel
set_option maxHeartbeats 4000000 in
set_option maxRecDepth 100000 in
theorem wb_X10_orderMany_4 {X : OX} {post : Int32 → SS → Prop} {K4 : Int32 → Int32 → SS → Prop} {x1 : Int32} {x2 : Int32} {σ : SS} (hC : o_C X cX10_orderMany RX10 wsX10_orderMany 0 0 3) (hR : o_RI X cX10_orderMany post) (hK4 : ∀ (x1 : Int32) (x2 : Int32) (σ : SS), K4 x1 x2 σ → o_G X σ 4 [(0, .ref (ox_φ X (7, 0, 0))), (1, .int x1), (2, .int x2)] []) (h : VB_X10_orderMany_4 post K4 x1 x2 σ) : o_G X σ 4 [(0, .ref (ox_φ X (7, 0, 0))), (1, .int x1), (2, .int x2)] [] := by
  unfold VB_X10_orderMany_4 at h
  refine g_iload_n hC 2 dX10_orderMany_4 rfl rfl ?_
  refine g_aload_n hC 0 dX10_orderMany_5 rfl rfl ?_
  refine g_get (C := RX10) (T := TX10) (N := 25) (v := .int (σ.1 (7, 0, 0) 4)) hC o_iX10 (o_eX10 _ _ _ _) rfl ki_X10_orderMany_X10 4 (by decide) kw_X10_orderMany_1 rfl dX10_orderMany_6 ?_
  refine g_icmp_gt hC 22 dX10_orderMany_9 (by decide) (fun z => ?_) (fun z => ?_)
  · have h := h.1 z
    refine g_iload_n hC 1 dX10_orderMany_22 rfl rfl ?_
    exact hR _ _ _ _ dX10_orderMany_23 h
  · have h := h.2 z
    refine g_iload_n hC 1 dX10_orderMany_12 rfl rfl ?_
    refine g_iload_n hC 2 dX10_orderMany_13 rfl rfl ?_
    refine g_imul hC dX10_orderMany_14 ?_
    refine g_istore_n hC [(1, .int (x1 * x2)), (0, .ref (ox_φ X (7, 0, 0))), (2, .int x2)] dX10_orderMany_15 rfl (by decide) rfl ?_
    refine g_iinc (v := (x2 + (1 : Int32))) hC 2 [(2, .int (x2 + (1 : Int32))), (1, .int (x1 * x2)), (0, .ref (ox_φ X (7, 0, 0)))] dX10_orderMany_16 rfl rfl (by decide) rfl ?_
    refine g_goto hC 4 dX10_orderMany_19 (by decide) ?_
    refine g_sub [2, 1, 0] rfl ?_
    exact hK4 _ _ _ h
set_option maxHeartbeats 4000000 in
set_option maxRecDepth 100000 in
theorem lp_X10_orderMany_4 {X : OX} {post : Int32 → SS → Prop} (hC : o_C X cX10_orderMany RX10 wsX10_orderMany 0 0 3) (hR : o_RI X cX10_orderMany post) : ∀ (n : Nat) (a : Int32 × Int32) (σ : SS), LP_X10_orderMany_4 post n a σ → o_G X σ 4 [(0, .ref (ox_φ X (7, 0, 0))), (1, .int a.1), (2, .int a.2)] [] :=
 o_lp_G (fun K hK a σ h => wb_X10_orderMany_4 hC hR (fun x1 x2 σ h => hK (x1, x2) σ h) h)
set_option maxHeartbeats 4000000 in
set_option maxRecDepth 100000 in
theorem wv_X10_orderMany {X : OX} {post : Int32 → SS → Prop} {σ : SS} (hC : o_C X cX10_orderMany RX10 wsX10_orderMany 0 0 3) (hR : o_RI X cX10_orderMany post) (h : V_X10_orderMany σ post) : o_G X σ 0 [(0, .ref (ox_φ X (7, 0, 0)))] [] := by
  unfold V_X10_orderMany at h
  refine g_iconst (v := (1 : Int32)) hC dX10_orderMany_0 (by decide) ?_
  refine g_istore_n hC [(1, .int (1 : Int32)), (0, .ref (ox_φ X (7, 0, 0)))] dX10_orderMany_1 rfl (by decide) rfl ?_
  refine g_iconst (v := (2 : Int32)) hC dX10_orderMany_2 (by decide) ?_
  refine g_istore_n hC [(2, .int (2 : Int32)), (1, .int (1 : Int32)), (0, .ref (ox_φ X (7, 0, 0)))] dX10_orderMany_3 rfl (by decide) rfl ?_
  refine g_sub [2, 1, 0] rfl ?_
  obtain ⟨n, h⟩ := h
  exact lp_X10_orderMany_4 hC hR n _ _ h
set_option maxRecDepth 100000 in
theorem c_X10_orderMany {l : Launch} {φ : OI → Nat} {D : va_G} {cI cB : ClassId} (hJ : o_J φ) {σ : SS} {post : Int32 → SS → Prop} (h : V_X10_orderMany σ post) : o_Mi l φ D cI cB yX10_orderMany wsX10_orderMany 0 0 [.ref (φ (7, 0, 0))] σ post :=
 o_met_i hJ (by decide +kernel) rfl (Nat.le_of_ble_eq_true rfl) (fun p e s m args below meth c Q hC hR => wv_X10_orderMany hC hR h)
theorem kw_X10_sit_1 : Cond.fieldLink RX10 79 "SchoolRowModel" "children" "I" ∈ wsX10_sit := List.mem_of_getElem? (i := 1) (by decide +kernel)
theorem kw_X10_sit_2 : Cond.fieldLink RX10 31 "SchoolRowModel" "onSeat" "[I" ∈ wsX10_sit := List.mem_of_getElem? (i := 2) (by decide +kernel)
theorem ki_X10_sit_X10 : ∀ w ∈ wsX100, w ∈ wsX10_sit := fun _ h => List.mem_cons_of_mem _ (List.mem_append_right _ h)
theorem hd_X10_sit : yX10_sit.cls = RX10 ∧ yX10_sit.cls ≠ "java/lang/invoke/MethodHandle" ∧ yX10_sit.cls ≠ "java/lang/invoke/VarHandle" ∧ (parseMethodDescriptor yX10_sit.desc).map (fun d => d.parameters.length) = some 1 := by decide +kernel
set_option maxHeartbeats 4000000 in
set_option maxRecDepth 100000 in
theorem wb_X10_sit_77 {X : OX} {post : SS → Prop} {K13 : Int32 → Int32 → Int32 → Int32 → SS → Prop} {K44 : Int32 → Int32 → Int32 → Int32 → Int32 → Int32 → SS → Prop} {x2 : Int32} {x3 : Int32} {x4 : Int32} {x5 : Int32} {x7 : Int32} {t0 : Int32} {t1 : Int32} {σ : SS} (hC : o_C X cX10_sit RX10 wsX10_sit 1 22 8) (hR : o_RV X cX10_sit post) (hK13 : ∀ (x2 : Int32) (x3 : Int32) (x4 : Int32) (x5 : Int32) (σ : SS), K13 x2 x3 x4 x5 σ → o_G X σ 13 [(0, .ref (ox_φ X (7, 0, 0))), (2, .int x2), (3, .int x3), (4, .int x4), (5, .int x5)] []) (hK44 : ∀ (x2 : Int32) (x3 : Int32) (x4 : Int32) (x5 : Int32) (x6 : Int32) (x7 : Int32) (σ : SS), K44 x2 x3 x4 x5 x6 x7 σ → o_G X σ 44 [(0, .ref (ox_φ X (7, 0, 0))), (2, .int x2), (3, .int x3), (4, .int x4), (5, .int x5), (6, .int x6), (7, .int x7)] []) (h : VB_X10_sit_77 post K13 K44 x2 x3 x4 x5 x7 t0 t1 σ) : o_G X σ 77 [(0, .ref (ox_φ X (7, 0, 0))), (2, .int x2), (3, .int x3), (4, .int x4), (5, .int x5), (7, .int x7)] [.int t0, .int t1] := by
  unfold VB_X10_sit_77 at h
  refine g_isub hC dX10_sit_77 ?_
  refine g_istore hC [(6, .int (t1 - t0)), (0, .ref (ox_φ X (7, 0, 0))), (2, .int x2), (3, .int x3), (4, .int x4), (5, .int x5), (7, .int x7)] dX10_sit_78 (by decide) rfl ?_
  refine g_iinc (v := (x7 + (1 : Int32))) hC 6 [(7, .int (x7 + (1 : Int32))), (6, .int (t1 - t0)), (0, .ref (ox_φ X (7, 0, 0))), (2, .int x2), (3, .int x3), (4, .int x4), (5, .int x5)] dX10_sit_80 rfl rfl (by decide) rfl ?_
  refine g_goto hC 44 dX10_sit_83 (by decide) ?_
  refine g_sub [2, 3, 4, 5, 6, 1, 0] rfl ?_
  exact hK44 _ _ _ _ _ _ _ h
set_option maxHeartbeats 4000000 in
set_option maxRecDepth 100000 in
theorem wb_X10_sit_60 {X : OX} {post : SS → Prop} {K13 : Int32 → Int32 → Int32 → Int32 → SS → Prop} {K44 : Int32 → Int32 → Int32 → Int32 → Int32 → Int32 → SS → Prop} {x2 : Int32} {x3 : Int32} {x4 : Int32} {x5 : Int32} {x6 : Int32} {x7 : Int32} {σ : SS} (hC : o_C X cX10_sit RX10 wsX10_sit 1 22 8) (hR : o_RV X cX10_sit post) (hK13 : ∀ (x2 : Int32) (x3 : Int32) (x4 : Int32) (x5 : Int32) (σ : SS), K13 x2 x3 x4 x5 σ → o_G X σ 13 [(0, .ref (ox_φ X (7, 0, 0))), (2, .int x2), (3, .int x3), (4, .int x4), (5, .int x5)] []) (hK44 : ∀ (x2 : Int32) (x3 : Int32) (x4 : Int32) (x5 : Int32) (x6 : Int32) (x7 : Int32) (σ : SS), K44 x2 x3 x4 x5 x6 x7 σ → o_G X σ 44 [(0, .ref (ox_φ X (7, 0, 0))), (2, .int x2), (3, .int x3), (4, .int x4), (5, .int x5), (6, .int x6), (7, .int x7)] []) (h : VB_X10_sit_60 post K13 K44 x2 x3 x4 x5 x6 x7 σ) : o_G X σ 60 [(0, .ref (ox_φ X (7, 0, 0))), (2, .int x2), (3, .int x3), (4, .int x4), (5, .int x5), (6, .int x6), (7, .int x7)] [] := by
  unfold VB_X10_sit_60 at h
  refine g_iload hC 5 dX10_sit_60 rfl ?_
  refine g_iload hC 3 dX10_sit_62 rfl ?_
  refine g_iload hC 6 dX10_sit_64 rfl ?_
  refine g_ishr hC dX10_sit_66 ?_
  refine g_iconst (v := (1 : Int32)) hC dX10_sit_67 (by decide) ?_
  refine g_iand hC dX10_sit_68 ?_
  refine g_if_ne hC 76 dX10_sit_69 (by decide) (fun z => ?_) (fun z => ?_)
  · have h := h.1 z
    refine g_iconst (v := (0 : Int32)) hC dX10_sit_76 (by decide) ?_
    refine g_sub [0, 1, 2, 3, 4, 6] rfl ?_
    exact wb_X10_sit_77 hC hR hK13 hK44 h
  · have h := h.2 z
    refine g_iconst (v := (1 : Int32)) hC dX10_sit_72 (by decide) ?_
    refine g_goto hC 77 dX10_sit_73 (by decide) ?_
    refine g_sub [0, 1, 2, 3, 4, 6] rfl ?_
    exact wb_X10_sit_77 hC hR hK13 hK44 h
set_option maxHeartbeats 4000000 in
set_option maxRecDepth 100000 in
theorem wb_X10_sit_44 {X : OX} {post : SS → Prop} {K13 : Int32 → Int32 → Int32 → Int32 → SS → Prop} {K44 : Int32 → Int32 → Int32 → Int32 → Int32 → Int32 → SS → Prop} {x2 : Int32} {x3 : Int32} {x4 : Int32} {x5 : Int32} {x6 : Int32} {x7 : Int32} {σ : SS} (hC : o_C X cX10_sit RX10 wsX10_sit 1 22 8) (hR : o_RV X cX10_sit post) (hK13 : ∀ (x2 : Int32) (x3 : Int32) (x4 : Int32) (x5 : Int32) (σ : SS), K13 x2 x3 x4 x5 σ → o_G X σ 13 [(0, .ref (ox_φ X (7, 0, 0))), (2, .int x2), (3, .int x3), (4, .int x4), (5, .int x5)] []) (hK44 : ∀ (x2 : Int32) (x3 : Int32) (x4 : Int32) (x5 : Int32) (x6 : Int32) (x7 : Int32) (σ : SS), K44 x2 x3 x4 x5 x6 x7 σ → o_G X σ 44 [(0, .ref (ox_φ X (7, 0, 0))), (2, .int x2), (3, .int x3), (4, .int x4), (5, .int x5), (6, .int x6), (7, .int x7)] []) (h : VB_X10_sit_44 post K13 K44 x2 x3 x4 x5 x6 x7 σ) : o_G X σ 44 [(0, .ref (ox_φ X (7, 0, 0))), (2, .int x2), (3, .int x3), (4, .int x4), (5, .int x5), (6, .int x6), (7, .int x7)] [] := by
  unfold VB_X10_sit_44 at h
  refine g_iload hC 3 dX10_sit_44 rfl ?_
  refine g_iload hC 6 dX10_sit_46 rfl ?_
  refine g_ishr hC dX10_sit_48 ?_
  refine g_iconst (v := (1 : Int32)) hC dX10_sit_49 (by decide) ?_
  refine g_iand hC dX10_sit_50 ?_
  refine g_iconst (v := (1 : Int32)) hC dX10_sit_51 (by decide) ?_
  refine g_icmp_eq hC 60 dX10_sit_52 (by decide) (fun z => ?_) (fun z => ?_)
  · have h := h.1 z
    exact wb_X10_sit_60 hC hR hK13 hK44 h
  · have h := h.2 z
    refine g_iload hC 5 dX10_sit_55 rfl ?_
    refine g_if_le hC 86 dX10_sit_57 (by decide) (fun z => ?_) (fun z => ?_)
    · have h := h.1 z
      refine g_iload hC 3 dX10_sit_86 rfl ?_
      refine g_iconst (v := (1 : Int32)) hC dX10_sit_88 (by decide) ?_
      refine g_iload hC 6 dX10_sit_89 rfl ?_
      refine g_ishl hC dX10_sit_91 ?_
      refine g_ior hC dX10_sit_92 ?_
      refine g_topi (fun y93 e93 => ?_)
      have h := h y93 e93
      refine g_istore hC [(4, .int y93), (0, .ref (ox_φ X (7, 0, 0))), (2, .int x2), (3, .int x3), (5, .int x5), (6, .int x6), (7, .int x7)] dX10_sit_93 (by decide) rfl ?_
      refine g_aload_n hC 1 dX10_sit_95 rfl rfl ?_
      refine g_get (C := RX10) (T := TX10) (N := 25) (v := .ref (ox_φ X (8, 0, 7))) hC o_iX10 (o_eX10 _ _ _ _) rfl ki_X10_sit_X10 11 (by decide) kw_X10_sit_2 rfl dX10_sit_96 ?_
      refine g_bipush (v := (6 : Int32)) hC dX10_sit_99 (by decide) ?_
      refine g_iload hC 4 dX10_sit_101 rfl ?_
      refine g_iadd hC dX10_sit_103 ?_
      refine g_iload hC 6 dX10_sit_104 rfl ?_
      refine g_iast hC o_M7 h.1 dX10_sit_106 ?_
      have h := h.2
      refine g_iinc (v := (x5 + (1 : Int32))) hC 4 [(5, .int (x5 + (1 : Int32))), (4, .int y93), (0, .ref (ox_φ X (7, 0, 0))), (2, .int x2), (3, .int x3), (6, .int x6), (7, .int x7)] dX10_sit_107 rfl rfl (by decide) rfl ?_
      refine g_goto hC 13 dX10_sit_110 (by decide) ?_
      refine g_sub [2, 3, 4, 1, 0] rfl ?_
      exact hK13 _ _ _ _ _ h
    · have h := h.2 z
      exact wb_X10_sit_60 hC hR hK13 hK44 h
set_option maxHeartbeats 4000000 in
set_option maxRecDepth 100000 in
theorem lp_X10_sit_44 {X : OX} {post : SS → Prop} {K13 : Int32 → Int32 → Int32 → Int32 → SS → Prop} (hC : o_C X cX10_sit RX10 wsX10_sit 1 22 8) (hR : o_RV X cX10_sit post) (hK13 : ∀ (x2 : Int32) (x3 : Int32) (x4 : Int32) (x5 : Int32) (σ : SS), K13 x2 x3 x4 x5 σ → o_G X σ 13 [(0, .ref (ox_φ X (7, 0, 0))), (2, .int x2), (3, .int x3), (4, .int x4), (5, .int x5)] []) : ∀ (n : Nat) (a : Int32 × Int32 × Int32 × Int32 × Int32 × Int32) (σ : SS), LP_X10_sit_44 post K13 n a σ → o_G X σ 44 [(0, .ref (ox_φ X (7, 0, 0))), (2, .int a.1), (3, .int a.2.1), (4, .int a.2.2.1), (5, .int a.2.2.2.1), (6, .int a.2.2.2.2.1), (7, .int a.2.2.2.2.2)] [] :=
 o_lp_G (fun K hK a σ h => wb_X10_sit_44 hC hR hK13 (fun x2 x3 x4 x5 x6 x7 σ h => hK (x2, x3, x4, x5, x6, x7) σ h) h)
set_option maxHeartbeats 4000000 in
set_option maxRecDepth 100000 in
theorem wb_X10_sit_13 {X : OX} {post : SS → Prop} {K13 : Int32 → Int32 → Int32 → Int32 → SS → Prop} {x2 : Int32} {x3 : Int32} {x4 : Int32} {x5 : Int32} {σ : SS} (hC : o_C X cX10_sit RX10 wsX10_sit 1 22 8) (hR : o_RV X cX10_sit post) (hK13 : ∀ (x2 : Int32) (x3 : Int32) (x4 : Int32) (x5 : Int32) (σ : SS), K13 x2 x3 x4 x5 σ → o_G X σ 13 [(0, .ref (ox_φ X (7, 0, 0))), (2, .int x2), (3, .int x3), (4, .int x4), (5, .int x5)] []) (h : VB_X10_sit_13 post K13 x2 x3 x4 x5 σ) : o_G X σ 13 [(0, .ref (ox_φ X (7, 0, 0))), (2, .int x2), (3, .int x3), (4, .int x4), (5, .int x5)] [] := by
  unfold VB_X10_sit_13 at h
  refine g_iload hC 4 dX10_sit_13 rfl ?_
  refine g_aload_n hC 0 dX10_sit_15 rfl rfl ?_
  refine g_get (C := RX10) (T := TX10) (N := 25) (v := .int (σ.1 (7, 0, 0) 4)) hC o_iX10 (o_eX10 _ _ _ _) rfl ki_X10_sit_X10 4 (by decide) kw_X10_sit_1 rfl dX10_sit_16 ?_
  refine g_icmp_ge hC 113 dX10_sit_19 (by decide) (fun z => ?_) (fun z => ?_)
  · have h := h.1 z
    exact hR _ _ _ dX10_sit_113 h
  · have h := h.2 z
    refine g_iload_n hC 2 dX10_sit_22 rfl rfl ?_
    refine g_aload_n hC 0 dX10_sit_23 rfl rfl ?_
    refine g_get (C := RX10) (T := TX10) (N := 25) (v := .int (σ.1 (7, 0, 0) 4)) hC o_iX10 (o_eX10 _ _ _ _) rfl ki_X10_sit_X10 4 (by decide) kw_X10_sit_1 rfl dX10_sit_24 ?_
    refine g_iload hC 4 dX10_sit_27 rfl ?_
    refine g_isub hC dX10_sit_29 ?_
    refine g_idiv hC h.1 dX10_sit_30 ?_
    have h := h.2
    refine g_topi (fun y31 e31 => ?_)
    have h := h y31 e31
    refine g_istore_n hC [(3, .int y31), (0, .ref (ox_φ X (7, 0, 0))), (2, .int x2), (4, .int x4), (5, .int x5)] dX10_sit_31 rfl (by decide) rfl ?_
    refine g_iload_n hC 2 dX10_sit_32 rfl rfl ?_
    refine g_iload_n hC 0 dX10_sit_33 rfl rfl ?_
    refine g_idiv hC h.1 dX10_sit_34 ?_
    have h := h.2
    refine g_istore hC [(6, .int (x2 / y31)), (3, .int y31), (0, .ref (ox_φ X (7, 0, 0))), (2, .int x2), (4, .int x4), (5, .int x5)] dX10_sit_35 (by decide) rfl ?_
    refine g_iload_n hC 3 dX10_sit_37 rfl rfl ?_
    refine g_iload_n hC 1 dX10_sit_38 rfl rfl ?_
    refine g_irem hC h.1 dX10_sit_39 ?_
    have h := h.2
    refine g_istore_n hC [(2, .int (x2 - x2 / y31 * y31)), (6, .int (x2 / y31)), (3, .int y31), (0, .ref (ox_φ X (7, 0, 0))), (4, .int x4), (5, .int x5)] dX10_sit_40 rfl (by decide) rfl ?_
    refine g_iconst (v := (0 : Int32)) hC dX10_sit_41 (by decide) ?_
    refine g_istore hC [(7, .int (0 : Int32)), (2, .int (x2 - x2 / y31 * y31)), (6, .int (x2 / y31)), (3, .int y31), (0, .ref (ox_φ X (7, 0, 0))), (4, .int x4), (5, .int x5)] dX10_sit_42 (by decide) rfl ?_
    refine g_sub [4, 1, 3, 5, 6, 2, 0] rfl ?_
    obtain ⟨n, h⟩ := h
    exact lp_X10_sit_44 hC hR hK13 n _ _ h
set_option maxHeartbeats 4000000 in
set_option maxRecDepth 100000 in
theorem lp_X10_sit_13 {X : OX} {post : SS → Prop} (hC : o_C X cX10_sit RX10 wsX10_sit 1 22 8) (hR : o_RV X cX10_sit post) : ∀ (n : Nat) (a : Int32 × Int32 × Int32 × Int32) (σ : SS), LP_X10_sit_13 post n a σ → o_G X σ 13 [(0, .ref (ox_φ X (7, 0, 0))), (2, .int a.1), (3, .int a.2.1), (4, .int a.2.2.1), (5, .int a.2.2.2)] [] :=
 o_lp_G (fun K hK a σ h => wb_X10_sit_13 hC hR (fun x2 x3 x4 x5 σ h => hK (x2, x3, x4, x5) σ h) h)
set_option maxHeartbeats 4000000 in
set_option maxRecDepth 100000 in
theorem wv_X10_sit {X : OX} {x1 : Int32} {post : SS → Prop} {σ : SS} (hC : o_C X cX10_sit RX10 wsX10_sit 1 22 8) (hR : o_RV X cX10_sit post) (h : V_X10_sit x1 σ post) : o_G X σ 0 [(0, .ref (ox_φ X (7, 0, 0))), (1, .int x1)] [] := by
  unfold V_X10_sit at h
  refine g_iload_n hC 1 dX10_sit_0 rfl rfl ?_
  refine g_istore_n hC [(2, .int x1), (0, .ref (ox_φ X (7, 0, 0))), (1, .int x1)] dX10_sit_1 rfl (by decide) rfl ?_
  refine g_aload_n hC 1 dX10_sit_2 rfl rfl ?_
  refine g_ri (r_V (C := RX10) (T := TX10) (N := 25) (As := []) (rest := []) hC o_iX10 (o_eX10 _ _ _ _) rfl (c_X10_orderMany (l := ox_l X) (φ := ox_φ X) (D := ox_D X) (cI := ox_I X) (cB := ox_B X) hC.J  h) gX10_sit_X10_orderMany rfl hd_X10_orderMany ⟨Nat.le_of_ble_eq_true rfl, Nat.le_of_ble_eq_true rfl⟩ rfl rfl (Nat.le_of_ble_eq_true rfl) dX10_sit_3) (fun v3 s3 h => ?_)
  refine g_istore_n hC [(3, .int v3), (2, .int x1), (0, .ref (ox_φ X (7, 0, 0))), (1, .int x1)] dX10_sit_6 rfl (by decide) rfl ?_
  refine g_iconst (v := (0 : Int32)) hC dX10_sit_7 (by decide) ?_
  refine g_istore hC [(4, .int (0 : Int32)), (3, .int v3), (2, .int x1), (0, .ref (ox_φ X (7, 0, 0))), (1, .int x1)] dX10_sit_8 (by decide) rfl ?_
  refine g_iconst (v := (0 : Int32)) hC dX10_sit_10 (by decide) ?_
  refine g_istore hC [(5, .int (0 : Int32)), (4, .int (0 : Int32)), (3, .int v3), (2, .int x1), (0, .ref (ox_φ X (7, 0, 0))), (1, .int x1)] dX10_sit_11 (by decide) rfl ?_
  refine g_sub [4, 3, 2, 1, 0] rfl ?_
  obtain ⟨n, h⟩ := h
  exact lp_X10_sit_13 hC hR n _ _ h
set_option maxRecDepth 100000 in
theorem c_X10_sit {l : Launch} {φ : OI → Nat} {D : va_G} {cI cB : ClassId} (hJ : o_J φ) {x1 : Int32} {σ : SS} {post : SS → Prop} (h : V_X10_sit x1 σ post) : o_Mv l φ D cI cB yX10_sit wsX10_sit 1 22 [.ref (φ (7, 0, 0)), .int x1] σ post :=
 o_met_v hJ (by decide +kernel) rfl (Nat.le_of_ble_eq_true rfl) (fun p e s m args below meth c Q hC hR => wv_X10_sit hC hR h)
theorem hd_X10_tryOrder : yX10_tryOrder.cls = RX10 ∧ yX10_tryOrder.cls ≠ "java/lang/invoke/MethodHandle" ∧ yX10_tryOrder.cls ≠ "java/lang/invoke/VarHandle" ∧ (parseMethodDescriptor yX10_tryOrder.desc).map (fun d => d.parameters.length) = some 1 := by decide +kernel
set_option maxHeartbeats 4000000 in
set_option maxRecDepth 100000 in
theorem wv_X10_tryOrder {X : OX} {x1 : Int32} {post : SS → Prop} {σ : SS} (hC : o_C X cX10_tryOrder RX10 wsX10_tryOrder 3 77 2) (hR : o_RV X cX10_tryOrder post) (h : V_X10_tryOrder x1 σ post) : o_G X σ 0 [(0, .ref (ox_φ X (7, 0, 0))), (1, .int x1)] [] := by
  unfold V_X10_tryOrder at h
  refine g_aload_n hC 0 dX10_tryOrder_0 rfl rfl ?_
  refine g_rv (r_V (C := RX10) (T := TX10) (N := 25) (As := []) (rest := []) hC o_iX10 (o_eX10 _ _ _ _) rfl (c_X10_clear (l := ox_l X) (φ := ox_φ X) (D := ox_D X) (cI := ox_I X) (cB := ox_B X) hC.J  h) gX10_tryOrder_X10_clear rfl hd_X10_clear ⟨Nat.le_of_ble_eq_true rfl, Nat.le_of_ble_eq_true rfl⟩ rfl rfl (Nat.le_of_ble_eq_true rfl) dX10_tryOrder_1) (fun s1 h => ?_)
  refine g_aload_n hC 0 dX10_tryOrder_4 rfl rfl ?_
  refine g_iload_n hC 1 dX10_tryOrder_5 rfl rfl ?_
  refine g_rv (r_V (C := RX10) (T := TX10) (N := 25) (As := [.int x1]) (rest := []) hC o_iX10 (o_eX10 _ _ _ _) rfl (c_X10_sit (l := ox_l X) (φ := ox_φ X) (D := ox_D X) (cI := ox_I X) (cB := ox_B X) hC.J  h) gX10_tryOrder_X10_sit rfl hd_X10_sit ⟨Nat.le_of_ble_eq_true rfl, Nat.le_of_ble_eq_true rfl⟩ rfl rfl (Nat.le_of_ble_eq_true rfl) dX10_tryOrder_6) (fun s6 h => ?_)
  refine g_aload_n hC 0 dX10_tryOrder_9 rfl rfl ?_
  refine g_bipush (v := (24 : Int32)) hC dX10_tryOrder_10 (by decide) ?_
  refine g_bipush (v := (6 : Int32)) hC dX10_tryOrder_12 (by decide) ?_
  refine g_iconst (v := (0 : Int32)) hC dX10_tryOrder_14 (by decide) ?_
  refine g_iconst (v := (0 : Int32)) hC dX10_tryOrder_15 (by decide) ?_
  refine g_iconst (v := (0 : Int32)) hC dX10_tryOrder_16 (by decide) ?_
  refine g_ri (r_V (C := RX10) (T := TX10) (N := 25) (As := [.int (24 : Int32), .int (6 : Int32), .int (0 : Int32), .int (0 : Int32), .int (0 : Int32)]) (rest := []) hC o_iX10 (o_eX10 _ _ _ _) rfl (c_X10_teach (l := ox_l X) (φ := ox_φ X) (D := ox_D X) (cI := ox_I X) (cB := ox_B X) hC.J  h) gX10_tryOrder_X10_teach rfl hd_X10_teach ⟨Nat.le_of_ble_eq_true rfl, Nat.le_of_ble_eq_true rfl⟩ rfl rfl (Nat.le_of_ble_eq_true rfl) dX10_tryOrder_17) (fun v17 s17 h => ?_)
  refine g_pop hC dX10_tryOrder_20 rfl ?_
  exact hR _ _ _ dX10_tryOrder_21 h
set_option maxRecDepth 100000 in
theorem c_X10_tryOrder {l : Launch} {φ : OI → Nat} {D : va_G} {cI cB : ClassId} (hJ : o_J φ) {x1 : Int32} {σ : SS} {post : SS → Prop} (h : V_X10_tryOrder x1 σ post) : o_Mv l φ D cI cB yX10_tryOrder wsX10_tryOrder 3 77 [.ref (φ (7, 0, 0)), .int x1] σ post :=
 o_met_v hJ (by decide +kernel) rfl (Nat.le_of_ble_eq_true rfl) (fun p e s m args below meth c Q hC hR => wv_X10_tryOrder hC hR h)
theorem kw_X10_bestOrder_1 : Cond.fieldLink RX10 31 "SchoolRowModel" "onSeat" "[I" ∈ wsX10_bestOrder := List.mem_of_getElem? (i := 1) (by decide +kernel)
theorem kw_X10_bestOrder_2 : Cond.fieldLink RX10 79 "SchoolRowModel" "children" "I" ∈ wsX10_bestOrder := List.mem_of_getElem? (i := 2) (by decide +kernel)
theorem kw_X10_bestOrder_3 : Cond.fieldLink RX10 28 "SchoolRowModel" "wrongOf" "[I" ∈ wsX10_bestOrder := List.mem_of_getElem? (i := 3) (by decide +kernel)
theorem kw_X10_bestOrder_4 : Cond.fieldLink RX10 25 "SchoolRowModel" "partsOf" "[I" ∈ wsX10_bestOrder := List.mem_of_getElem? (i := 4) (by decide +kernel)
theorem ki_X10_bestOrder_X10 : ∀ w ∈ wsX100, w ∈ wsX10_bestOrder := fun _ h => List.mem_cons_of_mem _ (List.mem_append_right _ h)
theorem hd_X10_bestOrder : yX10_bestOrder.cls = RX10 ∧ yX10_bestOrder.cls ≠ "java/lang/invoke/MethodHandle" ∧ yX10_bestOrder.cls ≠ "java/lang/invoke/VarHandle" ∧ (parseMethodDescriptor yX10_bestOrder.desc).map (fun d => d.parameters.length) = some 0 := by decide +kernel
set_option maxHeartbeats 4000000 in
set_option maxRecDepth 100000 in
theorem wb_X10_bestOrder_133 {X : OX} {post : Int32 → SS → Prop} {K10 : Int32 → Int32 → Int32 → Int32 → SS → Prop} {x1 : Int32} {x3 : Int32} {x4 : Int32} {t0 : Int32} {σ : SS} (hC : o_C X cX10_bestOrder RX10 wsX10_bestOrder 4 98 8) (hR : o_RI X cX10_bestOrder post) (hK10 : ∀ (x1 : Int32) (x2 : Int32) (x3 : Int32) (x4 : Int32) (σ : SS), K10 x1 x2 x3 x4 σ → o_G X σ 10 [(0, .ref (ox_φ X (7, 0, 0))), (1, .int x1), (2, .int x2), (3, .int x3), (4, .int x4)] []) (h : VB_X10_bestOrder_133 post K10 x1 x3 x4 t0 σ) : o_G X σ 133 [(0, .ref (ox_φ X (7, 0, 0))), (1, .int x1), (3, .int x3), (4, .int x4)] [.int t0] := by
  unfold VB_X10_bestOrder_133 at h
  refine g_istore_n hC [(2, .int t0), (0, .ref (ox_φ X (7, 0, 0))), (1, .int x1), (3, .int x3), (4, .int x4)] dX10_bestOrder_133 rfl (by decide) rfl ?_
  refine g_iinc (v := (x4 + (1 : Int32))) hC 4 [(4, .int (x4 + (1 : Int32))), (2, .int t0), (0, .ref (ox_φ X (7, 0, 0))), (1, .int x1), (3, .int x3)] dX10_bestOrder_134 rfl rfl (by decide) rfl ?_
  refine g_goto hC 10 dX10_bestOrder_137 (by decide) ?_
  refine g_sub [2, 3, 1, 4, 0] rfl ?_
  exact hK10 _ _ _ _ _ h
set_option maxHeartbeats 4000000 in
set_option maxRecDepth 100000 in
theorem wb_X10_bestOrder_116 {X : OX} {post : Int32 → SS → Prop} {K10 : Int32 → Int32 → Int32 → Int32 → SS → Prop} {x1 : Int32} {x2 : Int32} {x4 : Int32} {x5 : Int32} {x7 : Int32} {t0 : Int32} {σ : SS} (hC : o_C X cX10_bestOrder RX10 wsX10_bestOrder 4 98 8) (hR : o_RI X cX10_bestOrder post) (hK10 : ∀ (x1 : Int32) (x2 : Int32) (x3 : Int32) (x4 : Int32) (σ : SS), K10 x1 x2 x3 x4 σ → o_G X σ 10 [(0, .ref (ox_φ X (7, 0, 0))), (1, .int x1), (2, .int x2), (3, .int x3), (4, .int x4)] []) (h : VB_X10_bestOrder_116 post K10 x1 x2 x4 x5 x7 t0 σ) : o_G X σ 116 [(0, .ref (ox_φ X (7, 0, 0))), (1, .int x1), (2, .int x2), (4, .int x4), (5, .int x5), (7, .int x7)] [.int t0] := by
  unfold VB_X10_bestOrder_116 at h
  refine g_istore_n hC [(3, .int t0), (0, .ref (ox_φ X (7, 0, 0))), (1, .int x1), (2, .int x2), (4, .int x4), (5, .int x5), (7, .int x7)] dX10_bestOrder_116 rfl (by decide) rfl ?_
  refine g_iload hC 6 dX10_bestOrder_117 rfl ?_
  refine g_if_eq hC 132 dX10_bestOrder_119 (by decide) (fun z => ?_) (fun z => ?_)
  · have h := h.1 z
    refine g_iload_n hC 3 dX10_bestOrder_132 rfl rfl ?_
    refine g_sub [1, 2, 0, 4] rfl ?_
    exact wb_X10_bestOrder_133 hC hR hK10 h
  · have h := h.2 z
    refine g_aload_n hC 1 dX10_bestOrder_122 rfl rfl ?_
    refine g_get (C := RX10) (T := TX10) (N := 25) (v := .ref (ox_φ X (8, 0, 5))) hC o_iX10 (o_eX10 _ _ _ _) rfl ki_X10_bestOrder_X10 9 (by decide) kw_X10_bestOrder_4 rfl dX10_bestOrder_123 ?_
    refine g_iload hC 5 dX10_bestOrder_126 rfl ?_
    refine g_iald hC o_M5 h.1 dX10_bestOrder_128 ?_
    have h := h.2
    refine g_goto hC 133 dX10_bestOrder_129 (by decide) ?_
    refine g_sub [1, 2, 0, 4] rfl ?_
    exact wb_X10_bestOrder_133 hC hR hK10 h
set_option maxHeartbeats 4000000 in
set_option maxRecDepth 100000 in
theorem wb_X10_bestOrder_104 {X : OX} {post : Int32 → SS → Prop} {K10 : Int32 → Int32 → Int32 → Int32 → SS → Prop} {x2 : Int32} {x3 : Int32} {x4 : Int32} {x5 : Int32} {x6 : Int32} {x7 : Int32} {t0 : Int32} {σ : SS} (hC : o_C X cX10_bestOrder RX10 wsX10_bestOrder 4 98 8) (hR : o_RI X cX10_bestOrder post) (hK10 : ∀ (x1 : Int32) (x2 : Int32) (x3 : Int32) (x4 : Int32) (σ : SS), K10 x1 x2 x3 x4 σ → o_G X σ 10 [(0, .ref (ox_φ X (7, 0, 0))), (1, .int x1), (2, .int x2), (3, .int x3), (4, .int x4)] []) (h : VB_X10_bestOrder_104 post K10 x2 x3 x4 x5 x6 x7 t0 σ) : o_G X σ 104 [(0, .ref (ox_φ X (7, 0, 0))), (2, .int x2), (3, .int x3), (4, .int x4), (5, .int x5), (6, .int x6), (7, .int x7)] [.int t0] := by
  unfold VB_X10_bestOrder_104 at h
  refine g_istore_n hC [(1, .int t0), (0, .ref (ox_φ X (7, 0, 0))), (2, .int x2), (3, .int x3), (4, .int x4), (5, .int x5), (6, .int x6), (7, .int x7)] dX10_bestOrder_104 rfl (by decide) rfl ?_
  refine g_iload hC 7 dX10_bestOrder_105 rfl ?_
  refine g_if_eq hC 115 dX10_bestOrder_107 (by decide) (fun z => ?_) (fun z => ?_)
  · have h := h.1 z
    refine g_iload_n hC 3 dX10_bestOrder_115 rfl rfl ?_
    refine g_sub [1, 0, 2, 4, 5, 7] rfl ?_
    exact wb_X10_bestOrder_116 hC hR hK10 h
  · have h := h.2 z
    refine g_iload hC 6 dX10_bestOrder_110 rfl ?_
    refine g_goto hC 116 dX10_bestOrder_112 (by decide) ?_
    refine g_sub [1, 0, 2, 4, 5, 7] rfl ?_
    exact wb_X10_bestOrder_116 hC hR hK10 h
set_option maxHeartbeats 4000000 in
set_option maxRecDepth 100000 in
theorem wb_X10_bestOrder_91 {X : OX} {post : Int32 → SS → Prop} {K10 : Int32 → Int32 → Int32 → Int32 → SS → Prop} {x1 : Int32} {x2 : Int32} {x3 : Int32} {x4 : Int32} {x5 : Int32} {x6 : Int32} {t0 : Int32} {σ : SS} (hC : o_C X cX10_bestOrder RX10 wsX10_bestOrder 4 98 8) (hR : o_RI X cX10_bestOrder post) (hK10 : ∀ (x1 : Int32) (x2 : Int32) (x3 : Int32) (x4 : Int32) (σ : SS), K10 x1 x2 x3 x4 σ → o_G X σ 10 [(0, .ref (ox_φ X (7, 0, 0))), (1, .int x1), (2, .int x2), (3, .int x3), (4, .int x4)] []) (h : VB_X10_bestOrder_91 post K10 x1 x2 x3 x4 x5 x6 t0 σ) : o_G X σ 91 [(0, .ref (ox_φ X (7, 0, 0))), (1, .int x1), (2, .int x2), (3, .int x3), (4, .int x4), (5, .int x5), (6, .int x6)] [.int t0] := by
  unfold VB_X10_bestOrder_91 at h
  refine g_istore hC [(7, .int t0), (0, .ref (ox_φ X (7, 0, 0))), (1, .int x1), (2, .int x2), (3, .int x3), (4, .int x4), (5, .int x5), (6, .int x6)] dX10_bestOrder_91 (by decide) rfl ?_
  refine g_iload hC 0 dX10_bestOrder_93 rfl ?_
  refine g_if_eq hC 103 dX10_bestOrder_95 (by decide) (fun z => ?_) (fun z => ?_)
  · have h := h.1 z
    refine g_iload_n hC 2 dX10_bestOrder_103 rfl rfl ?_
    refine g_sub [1, 3, 4, 5, 6, 7, 0] rfl ?_
    exact wb_X10_bestOrder_104 hC hR hK10 h
  · have h := h.2 z
    refine g_iload hC 5 dX10_bestOrder_98 rfl ?_
    refine g_goto hC 104 dX10_bestOrder_100 (by decide) ?_
    refine g_sub [1, 3, 4, 5, 6, 7, 0] rfl ?_
    exact wb_X10_bestOrder_104 hC hR hK10 h
set_option maxHeartbeats 4000000 in
set_option maxRecDepth 100000 in
theorem wb_X10_bestOrder_86 {X : OX} {post : Int32 → SS → Prop} {K10 : Int32 → Int32 → Int32 → Int32 → SS → Prop} {x1 : Int32} {x2 : Int32} {x3 : Int32} {x4 : Int32} {x5 : Int32} {x6 : Int32} {σ : SS} (hC : o_C X cX10_bestOrder RX10 wsX10_bestOrder 4 98 8) (hR : o_RI X cX10_bestOrder post) (hK10 : ∀ (x1 : Int32) (x2 : Int32) (x3 : Int32) (x4 : Int32) (σ : SS), K10 x1 x2 x3 x4 σ → o_G X σ 10 [(0, .ref (ox_φ X (7, 0, 0))), (1, .int x1), (2, .int x2), (3, .int x3), (4, .int x4)] []) (h : VB_X10_bestOrder_86 post K10 x1 x2 x3 x4 x5 x6 σ) : o_G X σ 86 [(0, .ref (ox_φ X (7, 0, 0))), (1, .int x1), (2, .int x2), (3, .int x3), (4, .int x4), (5, .int x5), (6, .int x6)] [] := by
  unfold VB_X10_bestOrder_86 at h
  refine g_iconst (v := (1 : Int32)) hC dX10_bestOrder_86 (by decide) ?_
  refine g_goto hC 91 dX10_bestOrder_87 (by decide) ?_
  exact wb_X10_bestOrder_91 hC hR hK10 h
set_option maxHeartbeats 4000000 in
set_option maxRecDepth 100000 in
theorem wb_X10_bestOrder_90 {X : OX} {post : Int32 → SS → Prop} {K10 : Int32 → Int32 → Int32 → Int32 → SS → Prop} {x1 : Int32} {x2 : Int32} {x3 : Int32} {x4 : Int32} {x5 : Int32} {x6 : Int32} {σ : SS} (hC : o_C X cX10_bestOrder RX10 wsX10_bestOrder 4 98 8) (hR : o_RI X cX10_bestOrder post) (hK10 : ∀ (x1 : Int32) (x2 : Int32) (x3 : Int32) (x4 : Int32) (σ : SS), K10 x1 x2 x3 x4 σ → o_G X σ 10 [(0, .ref (ox_φ X (7, 0, 0))), (1, .int x1), (2, .int x2), (3, .int x3), (4, .int x4)] []) (h : VB_X10_bestOrder_90 post K10 x1 x2 x3 x4 x5 x6 σ) : o_G X σ 90 [(0, .ref (ox_φ X (7, 0, 0))), (1, .int x1), (2, .int x2), (3, .int x3), (4, .int x4), (5, .int x5), (6, .int x6)] [] := by
  unfold VB_X10_bestOrder_90 at h
  refine g_iconst (v := (0 : Int32)) hC dX10_bestOrder_90 (by decide) ?_
  exact wb_X10_bestOrder_91 hC hR hK10 h
set_option maxHeartbeats 4000000 in
set_option maxRecDepth 100000 in
theorem wb_X10_bestOrder_10 {X : OX} {post : Int32 → SS → Prop} {K10 : Int32 → Int32 → Int32 → Int32 → SS → Prop} {x1 : Int32} {x2 : Int32} {x3 : Int32} {x4 : Int32} {σ : SS} (hC : o_C X cX10_bestOrder RX10 wsX10_bestOrder 4 98 8) (hR : o_RI X cX10_bestOrder post) (hK10 : ∀ (x1 : Int32) (x2 : Int32) (x3 : Int32) (x4 : Int32) (σ : SS), K10 x1 x2 x3 x4 σ → o_G X σ 10 [(0, .ref (ox_φ X (7, 0, 0))), (1, .int x1), (2, .int x2), (3, .int x3), (4, .int x4)] []) (h : VB_X10_bestOrder_10 post K10 x1 x2 x3 x4 σ) : o_G X σ 10 [(0, .ref (ox_φ X (7, 0, 0))), (1, .int x1), (2, .int x2), (3, .int x3), (4, .int x4)] [] := by
  unfold VB_X10_bestOrder_10 at h
  refine g_iload hC 4 dX10_bestOrder_10 rfl ?_
  refine g_aload_n hC 0 dX10_bestOrder_12 rfl rfl ?_
  refine g_ri (r_V (C := RX10) (T := TX10) (N := 25) (As := []) (rest := [.int x4]) hC o_iX10 (o_eX10 _ _ _ _) rfl (c_X10_orderMany (l := ox_l X) (φ := ox_φ X) (D := ox_D X) (cI := ox_I X) (cB := ox_B X) hC.J  h) gX10_bestOrder_X10_orderMany rfl hd_X10_orderMany ⟨Nat.le_of_ble_eq_true rfl, Nat.le_of_ble_eq_true rfl⟩ rfl rfl (Nat.le_of_ble_eq_true rfl) dX10_bestOrder_13) (fun v13 s13 h => ?_)
  refine g_icmp_ge hC 140 dX10_bestOrder_16 (by decide) (fun z => ?_) (fun z => ?_)
  · have h := h.1 z
    refine g_iload_n hC 1 dX10_bestOrder_140 rfl rfl ?_
    exact hR _ _ _ _ dX10_bestOrder_141 h
  · have h := h.2 z
    refine g_aload_n hC 0 dX10_bestOrder_19 rfl rfl ?_
    refine g_iload hC 4 dX10_bestOrder_20 rfl ?_
    refine g_rv (r_V (C := RX10) (T := TX10) (N := 25) (As := [.int x4]) (rest := []) hC o_iX10 (o_eX10 _ _ _ _) rfl (c_X10_tryOrder (l := ox_l X) (φ := ox_φ X) (D := ox_D X) (cI := ox_I X) (cB := ox_B X) hC.J  h) gX10_bestOrder_X10_tryOrder rfl hd_X10_tryOrder ⟨Nat.le_of_ble_eq_true rfl, Nat.le_of_ble_eq_true rfl⟩ rfl rfl (Nat.le_of_ble_eq_true rfl) dX10_bestOrder_22) (fun s22 h => ?_)
    refine g_bipush (v := (24 : Int32)) hC dX10_bestOrder_25 (by decide) ?_
    refine g_iconst (v := (4 : Int32)) hC dX10_bestOrder_27 (by decide) ?_
    refine g_aload_n hC 0 dX10_bestOrder_28 rfl rfl ?_
    refine g_get (C := RX10) (T := TX10) (N := 25) (v := .ref (ox_φ X (8, 0, 7))) hC o_iX10 (o_eX10 _ _ _ _) rfl ki_X10_bestOrder_X10 11 (by decide) kw_X10_bestOrder_1 rfl dX10_bestOrder_29 ?_
    refine g_bipush (v := (6 : Int32)) hC dX10_bestOrder_32 (by decide) ?_
    refine g_aload_n hC 0 dX10_bestOrder_34 rfl rfl ?_
    refine g_get (C := RX10) (T := TX10) (N := 25) (v := .int (s22.1 (7, 0, 0) 4)) hC o_iX10 (o_eX10 _ _ _ _) rfl ki_X10_bestOrder_X10 4 (by decide) kw_X10_bestOrder_2 rfl dX10_bestOrder_35 ?_
    refine g_iadd hC dX10_bestOrder_38 ?_
    refine g_iconst (v := (1 : Int32)) hC dX10_bestOrder_39 (by decide) ?_
    refine g_isub hC dX10_bestOrder_40 ?_
    refine g_iald hC o_M7 h.1 dX10_bestOrder_41 ?_
    have h := h.2
    refine g_imul hC dX10_bestOrder_42 ?_
    refine g_iadd hC dX10_bestOrder_43 ?_
    refine g_topi (fun y44 e44 => ?_)
    have h := h y44 e44
    refine g_istore hC [(5, .int y44), (0, .ref (ox_φ X (7, 0, 0))), (1, .int x1), (2, .int x2), (3, .int x3), (4, .int x4)] dX10_bestOrder_44 (by decide) rfl ?_
    refine g_aload_n hC 1 dX10_bestOrder_46 rfl rfl ?_
    refine g_get (C := RX10) (T := TX10) (N := 25) (v := .ref (ox_φ X (8, 0, 6))) hC o_iX10 (o_eX10 _ _ _ _) rfl ki_X10_bestOrder_X10 10 (by decide) kw_X10_bestOrder_3 rfl dX10_bestOrder_47 ?_
    refine g_iload hC 0 dX10_bestOrder_50 rfl ?_
    refine g_iald hC o_M6 h.1 dX10_bestOrder_52 ?_
    have h := h.2
    refine g_ri (r_S (As := [.int (s22.1 (8, 0, 6) (y44).toNatClampNeg)]) (rest := []) hC (c_X10_size (l := ox_l X) (φ := ox_φ X) (D := ox_D X) (cI := ox_I X) (cB := ox_B X) hC.J  h) gX10_bestOrder_X10_size rfl hd_X10_size ⟨Nat.le_of_ble_eq_true rfl, Nat.le_of_ble_eq_true rfl⟩ rfl rfl (Nat.le_of_ble_eq_true rfl) dX10_bestOrder_53) (fun v53 s53 h => ?_)
    refine g_istore hC [(6, .int v53), (5, .int y44), (0, .ref (ox_φ X (7, 0, 0))), (1, .int x1), (2, .int x2), (3, .int x3), (4, .int x4)] dX10_bestOrder_56 (by decide) rfl ?_
    refine g_aload_n hC 2 dX10_bestOrder_58 rfl rfl ?_
    refine g_get (C := RX10) (T := TX10) (N := 25) (v := .ref (ox_φ X (8, 0, 5))) hC o_iX10 (o_eX10 _ _ _ _) rfl ki_X10_bestOrder_X10 9 (by decide) kw_X10_bestOrder_4 rfl dX10_bestOrder_59 ?_
    refine g_iload hC 1 dX10_bestOrder_62 rfl ?_
    refine g_iald hC o_M5 h.1 dX10_bestOrder_64 ?_
    have h := h.2
    refine g_iload_n hC 4 dX10_bestOrder_65 rfl rfl ?_
    refine g_icmp_gt hC 86 dX10_bestOrder_66 (by decide) (fun z => ?_) (fun z => ?_)
    · have h := h.1 z
      refine g_sub [2, 3, 4, 5, 6, 1, 0] rfl ?_
      exact wb_X10_bestOrder_86 hC hR hK10 h
    · have h := h.2 z
      refine g_aload_n hC 2 dX10_bestOrder_69 rfl rfl ?_
      refine g_get (C := RX10) (T := TX10) (N := 25) (v := .ref (ox_φ X (8, 0, 5))) hC o_iX10 (o_eX10 _ _ _ _) rfl ki_X10_bestOrder_X10 9 (by decide) kw_X10_bestOrder_4 rfl dX10_bestOrder_70 ?_
      refine g_iload hC 1 dX10_bestOrder_73 rfl ?_
      refine g_iald hC o_M5 h.1 dX10_bestOrder_75 ?_
      have h := h.2
      refine g_iload_n hC 4 dX10_bestOrder_76 rfl rfl ?_
      refine g_icmp_ne hC 90 dX10_bestOrder_77 (by decide) (fun z => ?_) (fun z => ?_)
      · have h := h.1 z
        refine g_sub [2, 3, 4, 5, 6, 1, 0] rfl ?_
        exact wb_X10_bestOrder_90 hC hR hK10 h
      · have h := h.2 z
        refine g_iload hC 0 dX10_bestOrder_80 rfl ?_
        refine g_iload_n hC 5 dX10_bestOrder_82 rfl rfl ?_
        refine g_icmp_ge hC 90 dX10_bestOrder_83 (by decide) (fun z => ?_) (fun z => ?_)
        · have h := h.1 z
          refine g_sub [2, 3, 4, 5, 6, 1, 0] rfl ?_
          exact wb_X10_bestOrder_90 hC hR hK10 h
        · have h := h.2 z
          refine g_sub [2, 3, 4, 5, 6, 1, 0] rfl ?_
          exact wb_X10_bestOrder_86 hC hR hK10 h
set_option maxHeartbeats 4000000 in
set_option maxRecDepth 100000 in
theorem lp_X10_bestOrder_10 {X : OX} {post : Int32 → SS → Prop} (hC : o_C X cX10_bestOrder RX10 wsX10_bestOrder 4 98 8) (hR : o_RI X cX10_bestOrder post) : ∀ (n : Nat) (a : Int32 × Int32 × Int32 × Int32) (σ : SS), LP_X10_bestOrder_10 post n a σ → o_G X σ 10 [(0, .ref (ox_φ X (7, 0, 0))), (1, .int a.1), (2, .int a.2.1), (3, .int a.2.2.1), (4, .int a.2.2.2)] [] :=
 o_lp_G (fun K hK a σ h => wb_X10_bestOrder_10 hC hR (fun x1 x2 x3 x4 σ h => hK (x1, x2, x3, x4) σ h) h)
set_option maxHeartbeats 4000000 in
set_option maxRecDepth 100000 in
theorem wv_X10_bestOrder {X : OX} {post : Int32 → SS → Prop} {σ : SS} (hC : o_C X cX10_bestOrder RX10 wsX10_bestOrder 4 98 8) (hR : o_RI X cX10_bestOrder post) (h : V_X10_bestOrder σ post) : o_G X σ 0 [(0, .ref (ox_φ X (7, 0, 0)))] [] := by
  unfold V_X10_bestOrder at h
  refine g_iconst (v := (0 : Int32)) hC dX10_bestOrder_0 (by decide) ?_
  refine g_istore_n hC [(1, .int (0 : Int32)), (0, .ref (ox_φ X (7, 0, 0)))] dX10_bestOrder_1 rfl (by decide) rfl ?_
  refine g_iconst (v := (-1 : Int32)) hC dX10_bestOrder_2 (by decide) ?_
  refine g_istore_n hC [(2, .int (-1 : Int32)), (1, .int (0 : Int32)), (0, .ref (ox_φ X (7, 0, 0)))] dX10_bestOrder_3 rfl (by decide) rfl ?_
  refine g_bipush (v := (7 : Int32)) hC dX10_bestOrder_4 (by decide) ?_
  refine g_istore_n hC [(3, .int (7 : Int32)), (2, .int (-1 : Int32)), (1, .int (0 : Int32)), (0, .ref (ox_φ X (7, 0, 0)))] dX10_bestOrder_6 rfl (by decide) rfl ?_
  refine g_iconst (v := (0 : Int32)) hC dX10_bestOrder_7 (by decide) ?_
  refine g_istore hC [(4, .int (0 : Int32)), (3, .int (7 : Int32)), (2, .int (-1 : Int32)), (1, .int (0 : Int32)), (0, .ref (ox_φ X (7, 0, 0)))] dX10_bestOrder_8 (by decide) rfl ?_
  refine g_sub [4, 3, 2, 1, 0] rfl ?_
  obtain ⟨n, h⟩ := h
  exact lp_X10_bestOrder_10 hC hR n _ _ h
set_option maxRecDepth 100000 in
theorem c_X10_bestOrder {l : Launch} {φ : OI → Nat} {D : va_G} {cI cB : ClassId} (hJ : o_J φ) {σ : SS} {post : Int32 → SS → Prop} (h : V_X10_bestOrder σ post) : o_Mi l φ D cI cB yX10_bestOrder wsX10_bestOrder 4 98 [.ref (φ (7, 0, 0))] σ post :=
 o_met_i hJ (by decide +kernel) rfl (Nat.le_of_ble_eq_true rfl) (fun p e s m args below meth c Q hC hR => wv_X10_bestOrder hC hR h)
theorem kw_X10_orderNow_1 : Cond.fieldLink RX10 31 "SchoolRowModel" "onSeat" "[I" ∈ wsX10_orderNow := List.mem_of_getElem? (i := 1) (by decide +kernel)
theorem kw_X10_orderNow_2 : Cond.fieldLink RX10 79 "SchoolRowModel" "children" "I" ∈ wsX10_orderNow := List.mem_of_getElem? (i := 2) (by decide +kernel)
theorem kw_X10_orderNow_3 : Cond.fieldLink RX10 25 "SchoolRowModel" "partsOf" "[I" ∈ wsX10_orderNow := List.mem_of_getElem? (i := 3) (by decide +kernel)
theorem kw_X10_orderNow_4 : Cond.fieldLink RX10 28 "SchoolRowModel" "wrongOf" "[I" ∈ wsX10_orderNow := List.mem_of_getElem? (i := 4) (by decide +kernel)
theorem ki_X10_orderNow_X10 : ∀ w ∈ wsX100, w ∈ wsX10_orderNow := fun _ h => List.mem_cons_of_mem _ (List.mem_append_right _ h)
theorem hd_X10_orderNow : yX10_orderNow.cls = RX10 ∧ yX10_orderNow.cls ≠ "java/lang/invoke/MethodHandle" ∧ yX10_orderNow.cls ≠ "java/lang/invoke/VarHandle" ∧ (parseMethodDescriptor yX10_orderNow.desc).map (fun d => d.parameters.length) = some 1 := by decide +kernel
set_option maxHeartbeats 4000000 in
set_option maxRecDepth 100000 in
theorem wb_X10_orderNow_57 {X : OX} {post : Int32 → SS → Prop} {t0 : Int32} {σ : SS} (hC : o_C X cX10_orderNow RX10 wsX10_orderNow 5 125 4) (hR : o_RI X cX10_orderNow post) (h : VB_X10_orderNow_57 post t0 σ) : o_G X σ 57 [] [.int t0] := by
  unfold VB_X10_orderNow_57 at h
  exact hR _ _ _ _ dX10_orderNow_57 h
set_option maxHeartbeats 4000000 in
set_option maxRecDepth 100000 in
theorem wb_X10_orderNow_85 {X : OX} {post : Int32 → SS → Prop} {t0 : Int32} {σ : SS} (hC : o_C X cX10_orderNow RX10 wsX10_orderNow 5 125 4) (hR : o_RI X cX10_orderNow post) (h : VB_X10_orderNow_85 post t0 σ) : o_G X σ 85 [] [.int t0] := by
  unfold VB_X10_orderNow_85 at h
  exact hR _ _ _ _ dX10_orderNow_85 h
set_option maxHeartbeats 4000000 in
set_option maxRecDepth 100000 in
theorem wv_X10_orderNow {X : OX} {x1 : Int32} {post : Int32 → SS → Prop} {σ : SS} (hC : o_C X cX10_orderNow RX10 wsX10_orderNow 5 125 4) (hR : o_RI X cX10_orderNow post) (h : V_X10_orderNow x1 σ post) : o_G X σ 0 [(0, .ref (ox_φ X (7, 0, 0))), (1, .int x1)] [] := by
  unfold V_X10_orderNow at h
  refine g_aload_n hC 0 dX10_orderNow_0 rfl rfl ?_
  refine g_ri (r_V (C := RX10) (T := TX10) (N := 25) (As := []) (rest := []) hC o_iX10 (o_eX10 _ _ _ _) rfl (c_X10_bestOrder (l := ox_l X) (φ := ox_φ X) (D := ox_D X) (cI := ox_I X) (cB := ox_B X) hC.J  h) gX10_orderNow_X10_bestOrder rfl hd_X10_bestOrder ⟨Nat.le_of_ble_eq_true rfl, Nat.le_of_ble_eq_true rfl⟩ rfl rfl (Nat.le_of_ble_eq_true rfl) dX10_orderNow_1) (fun v1 s1 h => ?_)
  refine g_istore_n hC [(2, .int v1), (0, .ref (ox_φ X (7, 0, 0))), (1, .int x1)] dX10_orderNow_4 rfl (by decide) rfl ?_
  refine g_aload_n hC 1 dX10_orderNow_5 rfl rfl ?_
  refine g_iload_n hC 0 dX10_orderNow_6 rfl rfl ?_
  refine g_rv (r_V (C := RX10) (T := TX10) (N := 25) (As := [.int v1]) (rest := []) hC o_iX10 (o_eX10 _ _ _ _) rfl (c_X10_tryOrder (l := ox_l X) (φ := ox_φ X) (D := ox_D X) (cI := ox_I X) (cB := ox_B X) hC.J  h) gX10_orderNow_X10_tryOrder rfl hd_X10_tryOrder ⟨Nat.le_of_ble_eq_true rfl, Nat.le_of_ble_eq_true rfl⟩ rfl rfl (Nat.le_of_ble_eq_true rfl) dX10_orderNow_7) (fun s7 h => ?_)
  refine g_bipush (v := (24 : Int32)) hC dX10_orderNow_10 (by decide) ?_
  refine g_iconst (v := (4 : Int32)) hC dX10_orderNow_12 (by decide) ?_
  refine g_aload_n hC 1 dX10_orderNow_13 rfl rfl ?_
  refine g_get (C := RX10) (T := TX10) (N := 25) (v := .ref (ox_φ X (8, 0, 7))) hC o_iX10 (o_eX10 _ _ _ _) rfl ki_X10_orderNow_X10 11 (by decide) kw_X10_orderNow_1 rfl dX10_orderNow_14 ?_
  refine g_bipush (v := (6 : Int32)) hC dX10_orderNow_17 (by decide) ?_
  refine g_aload_n hC 1 dX10_orderNow_19 rfl rfl ?_
  refine g_get (C := RX10) (T := TX10) (N := 25) (v := .int (s7.1 (7, 0, 0) 4)) hC o_iX10 (o_eX10 _ _ _ _) rfl ki_X10_orderNow_X10 4 (by decide) kw_X10_orderNow_2 rfl dX10_orderNow_20 ?_
  refine g_iadd hC dX10_orderNow_23 ?_
  refine g_iconst (v := (1 : Int32)) hC dX10_orderNow_24 (by decide) ?_
  refine g_isub hC dX10_orderNow_25 ?_
  refine g_iald hC o_M7 h.1 dX10_orderNow_26 ?_
  have h := h.2
  refine g_imul hC dX10_orderNow_27 ?_
  refine g_iadd hC dX10_orderNow_28 ?_
  refine g_topi (fun y29 e29 => ?_)
  have h := h y29 e29
  refine g_istore_n hC [(3, .int y29), (2, .int v1), (0, .ref (ox_φ X (7, 0, 0))), (1, .int x1)] dX10_orderNow_29 rfl (by decide) rfl ?_
  refine g_iload_n hC 3 dX10_orderNow_30 rfl rfl ?_
  refine g_iconst (v := (2 : Int32)) hC dX10_orderNow_31 (by decide) ?_
  refine g_icmp_ge hC 58 dX10_orderNow_32 (by decide) (fun z => ?_) (fun z => ?_)
  · have h := h.1 z
    refine g_iload_n hC 3 dX10_orderNow_58 rfl rfl ?_
    refine g_bipush (v := (10 : Int32)) hC dX10_orderNow_59 (by decide) ?_
    refine g_isub hC dX10_orderNow_61 ?_
    refine g_aload_n hC 2 dX10_orderNow_62 rfl rfl ?_
    refine g_get (C := RX10) (T := TX10) (N := 25) (v := .int (s7.1 (7, 0, 0) 4)) hC o_iX10 (o_eX10 _ _ _ _) rfl ki_X10_orderNow_X10 4 (by decide) kw_X10_orderNow_2 rfl dX10_orderNow_63 ?_
    refine g_icmp_ge hC 84 dX10_orderNow_66 (by decide) (fun z => ?_) (fun z => ?_)
    · have h := h.1 z
      refine g_iconst (v := (-1 : Int32)) hC dX10_orderNow_84 (by decide) ?_
      refine g_sub [] rfl ?_
      exact wb_X10_orderNow_85 hC hR h
    · have h := h.2 z
      refine g_aload_n hC 2 dX10_orderNow_69 rfl rfl ?_
      refine g_get (C := RX10) (T := TX10) (N := 25) (v := .ref (ox_φ X (8, 0, 7))) hC o_iX10 (o_eX10 _ _ _ _) rfl ki_X10_orderNow_X10 11 (by decide) kw_X10_orderNow_1 rfl dX10_orderNow_70 ?_
      refine g_bipush (v := (6 : Int32)) hC dX10_orderNow_73 (by decide) ?_
      refine g_iload_n hC 3 dX10_orderNow_75 rfl rfl ?_
      refine g_iadd hC dX10_orderNow_76 ?_
      refine g_bipush (v := (10 : Int32)) hC dX10_orderNow_77 (by decide) ?_
      refine g_isub hC dX10_orderNow_79 ?_
      refine g_iald hC o_M7 h.1 dX10_orderNow_80 ?_
      have h := h.2
      refine g_goto hC 85 dX10_orderNow_81 (by decide) ?_
      refine g_sub [] rfl ?_
      exact wb_X10_orderNow_85 hC hR h
  · have h := h.2 z
    refine g_iload_n hC 3 dX10_orderNow_35 rfl rfl ?_
    refine g_if_ne hC 48 dX10_orderNow_36 (by decide) (fun z => ?_) (fun z => ?_)
    · have h := h.1 z
      refine g_aload_n hC 2 dX10_orderNow_48 rfl rfl ?_
      refine g_get (C := RX10) (T := TX10) (N := 25) (v := .ref (ox_φ X (8, 0, 6))) hC o_iX10 (o_eX10 _ _ _ _) rfl ki_X10_orderNow_X10 10 (by decide) kw_X10_orderNow_4 rfl dX10_orderNow_49 ?_
      refine g_iload_n hC 0 dX10_orderNow_52 rfl rfl ?_
      refine g_iald hC o_M6 h.1 dX10_orderNow_53 ?_
      have h := h.2
      refine g_ri (r_S (As := [.int (s7.1 (8, 0, 6) (y29).toNatClampNeg)]) (rest := []) hC (c_X10_size (l := ox_l X) (φ := ox_φ X) (D := ox_D X) (cI := ox_I X) (cB := ox_B X) hC.J  h) gX10_orderNow_X10_size rfl hd_X10_size ⟨Nat.le_of_ble_eq_true rfl, Nat.le_of_ble_eq_true rfl⟩ rfl rfl (Nat.le_of_ble_eq_true rfl) dX10_orderNow_54) (fun v54 s54 h => ?_)
      refine g_sub [] rfl ?_
      exact wb_X10_orderNow_57 hC hR h
    · have h := h.2 z
      refine g_aload_n hC 2 dX10_orderNow_39 rfl rfl ?_
      refine g_get (C := RX10) (T := TX10) (N := 25) (v := .ref (ox_φ X (8, 0, 5))) hC o_iX10 (o_eX10 _ _ _ _) rfl ki_X10_orderNow_X10 9 (by decide) kw_X10_orderNow_3 rfl dX10_orderNow_40 ?_
      refine g_iload_n hC 0 dX10_orderNow_43 rfl rfl ?_
      refine g_iald hC o_M5 h.1 dX10_orderNow_44 ?_
      have h := h.2
      refine g_goto hC 57 dX10_orderNow_45 (by decide) ?_
      refine g_sub [] rfl ?_
      exact wb_X10_orderNow_57 hC hR h
set_option maxRecDepth 100000 in
theorem c_X10_orderNow {l : Launch} {φ : OI → Nat} {D : va_G} {cI cB : ClassId} (hJ : o_J φ) {x1 : Int32} {σ : SS} {post : Int32 → SS → Prop} (h : V_X10_orderNow x1 σ post) : o_Mi l φ D cI cB yX10_orderNow wsX10_orderNow 5 125 [.ref (φ (7, 0, 0)), .int x1] σ post :=
 o_met_i hJ (by decide +kernel) rfl (Nat.le_of_ble_eq_true rfl) (fun p e s m args below meth c Q hC hR => wv_X10_orderNow hC hR h)
theorem kw_X10_order_1 : Cond.fieldLink RX10 79 "SchoolRowModel" "children" "I" ∈ wsX10_order := List.mem_of_getElem? (i := 1) (by decide +kernel)
theorem ki_X10_order_X10 : ∀ w ∈ wsX100, w ∈ wsX10_order := fun _ h => List.mem_cons_of_mem _ (List.mem_append_right _ h)
theorem hd_X10_order : yX10_order.cls = RX10 ∧ yX10_order.cls ≠ "java/lang/invoke/MethodHandle" ∧ yX10_order.cls ≠ "java/lang/invoke/VarHandle" ∧ (parseMethodDescriptor yX10_order.desc).map (fun d => d.parameters.length) = some 1 := by decide +kernel
set_option maxHeartbeats 4000000 in
set_option maxRecDepth 100000 in
theorem wb_X10_order_40 {X : OX} {post : Int32 → SS → Prop} {t0 : Int32} {σ : SS} (hC : o_C X cX10_order RX10 wsX10_order 6 148 2) (hR : o_RI X cX10_order post) (h : VB_X10_order_40 post t0 σ) : o_G X σ 40 [] [.int t0] := by
  unfold VB_X10_order_40 at h
  exact hR _ _ _ _ dX10_order_40 h
set_option maxHeartbeats 4000000 in
set_option maxRecDepth 100000 in
theorem wb_X10_order_23 {X : OX} {post : Int32 → SS → Prop} {x1 : Int32} {σ : SS} (hC : o_C X cX10_order RX10 wsX10_order 6 148 2) (hR : o_RI X cX10_order post) (h : VB_X10_order_23 post x1 σ) : o_G X σ 23 [(0, .ref (ox_φ X (7, 0, 0))), (1, .int x1)] [] := by
  unfold VB_X10_order_23 at h
  refine g_aload_n hC 0 dX10_order_23 rfl rfl ?_
  refine g_get (C := RX10) (T := TX10) (N := 25) (v := .int (σ.1 (7, 0, 0) 4)) hC o_iX10 (o_eX10 _ _ _ _) rfl ki_X10_order_X10 4 (by decide) kw_X10_order_1 rfl dX10_order_24 ?_
  refine g_if_ne hC 35 dX10_order_27 (by decide) (fun z => ?_) (fun z => ?_)
  · have h := h.1 z
    refine g_aload_n hC 0 dX10_order_35 rfl rfl ?_
    refine g_iload_n hC 1 dX10_order_36 rfl rfl ?_
    refine g_ri (r_V (C := RX10) (T := TX10) (N := 25) (As := [.int x1]) (rest := []) hC o_iX10 (o_eX10 _ _ _ _) rfl (c_X10_orderNow (l := ox_l X) (φ := ox_φ X) (D := ox_D X) (cI := ox_I X) (cB := ox_B X) hC.J  h) gX10_order_X10_orderNow rfl hd_X10_orderNow ⟨Nat.le_of_ble_eq_true rfl, Nat.le_of_ble_eq_true rfl⟩ rfl rfl (Nat.le_of_ble_eq_true rfl) dX10_order_37) (fun v37 s37 h => ?_)
    refine g_sub [] rfl ?_
    exact wb_X10_order_40 hC hR h
  · have h := h.2 z
    refine g_bipush (v := (-103 : Int32)) hC dX10_order_30 (by decide) ?_
    refine g_goto hC 40 dX10_order_32 (by decide) ?_
    refine g_sub [] rfl ?_
    exact wb_X10_order_40 hC hR h
set_option maxHeartbeats 4000000 in
set_option maxRecDepth 100000 in
theorem wv_X10_order {X : OX} {x1 : Int32} {post : Int32 → SS → Prop} {σ : SS} (hC : o_C X cX10_order RX10 wsX10_order 6 148 2) (hR : o_RI X cX10_order post) (h : V_X10_order x1 σ post) : o_G X σ 0 [(0, .ref (ox_φ X (7, 0, 0))), (1, .int x1)] [] := by
  unfold V_X10_order at h
  refine g_iload_n hC 1 dX10_order_0 rfl rfl ?_
  refine g_iconst (v := (0 : Int32)) hC dX10_order_1 (by decide) ?_
  refine g_iconst (v := (1 : Int32)) hC dX10_order_2 (by decide) ?_
  refine g_ri (r_S (As := [.int x1, .int (0 : Int32), .int (1 : Int32)]) (rest := []) hC (c_X10_within (l := ox_l X) (φ := ox_φ X) (D := ox_D X) (cI := ox_I X) (cB := ox_B X) hC.J  h) gX10_order_X10_within rfl hd_X10_within ⟨Nat.le_of_ble_eq_true rfl, Nat.le_of_ble_eq_true rfl⟩ rfl rfl (Nat.le_of_ble_eq_true rfl) dX10_order_3) (fun v3 s3 h => ?_)
  refine g_if_ne hC 23 dX10_order_6 (by decide) (fun z => ?_) (fun z => ?_)
  · have h := h.1 z
    exact wb_X10_order_23 hC hR h
  · have h := h.2 z
    refine g_iload_n hC 1 dX10_order_9 rfl rfl ?_
    refine g_bipush (v := (10 : Int32)) hC dX10_order_10 (by decide) ?_
    refine g_bipush (v := (15 : Int32)) hC dX10_order_12 (by decide) ?_
    refine g_ri (r_S (As := [.int x1, .int (10 : Int32), .int (15 : Int32)]) (rest := []) hC (c_X10_within (l := ox_l X) (φ := ox_φ X) (D := ox_D X) (cI := ox_I X) (cB := ox_B X) hC.J  h) gX10_order_X10_within rfl hd_X10_within ⟨Nat.le_of_ble_eq_true rfl, Nat.le_of_ble_eq_true rfl⟩ rfl rfl (Nat.le_of_ble_eq_true rfl) dX10_order_14) (fun v14 s14 h => ?_)
    refine g_if_ne hC 23 dX10_order_17 (by decide) (fun z => ?_) (fun z => ?_)
    · have h := h.1 z
      exact wb_X10_order_23 hC hR h
    · have h := h.2 z
      refine g_bipush (v := (-102 : Int32)) hC dX10_order_20 (by decide) ?_
      exact hR _ _ _ _ dX10_order_22 h
set_option maxRecDepth 100000 in
theorem c_X10_order {l : Launch} {φ : OI → Nat} {D : va_G} {cI cB : ClassId} (hJ : o_J φ) {x1 : Int32} {σ : SS} {post : Int32 → SS → Prop} (h : V_X10_order x1 σ post) : o_Mi l φ D cI cB yX10_order wsX10_order 6 148 [.ref (φ (7, 0, 0)), .int x1] σ post :=
 o_met_i hJ (by decide +kernel) rfl (Nat.le_of_ble_eq_true rfl) (fun p e s m args below meth c Q hC hR => wv_X10_order hC hR h)
theorem kw_X10_allParts_1 : Cond.fieldLink RX10 79 "SchoolRowModel" "children" "I" ∈ wsX10_allParts := List.mem_of_getElem? (i := 1) (by decide +kernel)
theorem kw_X10_allParts_2 : Cond.fieldLink RX10 25 "SchoolRowModel" "partsOf" "[I" ∈ wsX10_allParts := List.mem_of_getElem? (i := 2) (by decide +kernel)
theorem ki_X10_allParts_X10 : ∀ w ∈ wsX100, w ∈ wsX10_allParts := fun _ h => List.mem_cons_of_mem _ (List.mem_append_right _ h)
theorem hd_X10_allParts : yX10_allParts.cls = RX10 ∧ yX10_allParts.cls ≠ "java/lang/invoke/MethodHandle" ∧ yX10_allParts.cls ≠ "java/lang/invoke/VarHandle" ∧ (parseMethodDescriptor yX10_allParts.desc).map (fun d => d.parameters.length) = some 1 := by decide +kernel
set_option maxHeartbeats 4000000 in
set_option maxRecDepth 100000 in
theorem wb_X10_allParts_4 {X : OX} {post : Int32 → SS → Prop} {K4 : Int32 → Int32 → Int32 → SS → Prop} {x1 : Int32} {x2 : Int32} {x3 : Int32} {σ : SS} (hC : o_C X cX10_allParts RX10 wsX10_allParts 0 0 4) (hR : o_RI X cX10_allParts post) (hK4 : ∀ (x1 : Int32) (x2 : Int32) (x3 : Int32) (σ : SS), K4 x1 x2 x3 σ → o_G X σ 4 [(0, .ref (ox_φ X (7, 0, 0))), (1, .int x1), (2, .int x2), (3, .int x3)] []) (h : VB_X10_allParts_4 post K4 x1 x2 x3 σ) : o_G X σ 4 [(0, .ref (ox_φ X (7, 0, 0))), (1, .int x1), (2, .int x2), (3, .int x3)] [] := by
  unfold VB_X10_allParts_4 at h
  refine g_iload_n hC 3 dX10_allParts_4 rfl rfl ?_
  refine g_iconst (v := (4 : Int32)) hC dX10_allParts_5 (by decide) ?_
  refine g_aload_n hC 0 dX10_allParts_6 rfl rfl ?_
  refine g_get (C := RX10) (T := TX10) (N := 25) (v := .int (σ.1 (7, 0, 0) 4)) hC o_iX10 (o_eX10 _ _ _ _) rfl ki_X10_allParts_X10 4 (by decide) kw_X10_allParts_1 rfl dX10_allParts_7 ?_
  refine g_imul hC dX10_allParts_10 ?_
  refine g_icmp_ge hC 31 dX10_allParts_11 (by decide) (fun z => ?_) (fun z => ?_)
  · have h := h.1 z
    refine g_iload_n hC 2 dX10_allParts_31 rfl rfl ?_
    exact hR _ _ _ _ dX10_allParts_32 h
  · have h := h.2 z
    refine g_iload_n hC 2 dX10_allParts_14 rfl rfl ?_
    refine g_aload_n hC 0 dX10_allParts_15 rfl rfl ?_
    refine g_get (C := RX10) (T := TX10) (N := 25) (v := .ref (ox_φ X (8, 0, 5))) hC o_iX10 (o_eX10 _ _ _ _) rfl ki_X10_allParts_X10 9 (by decide) kw_X10_allParts_2 rfl dX10_allParts_16 ?_
    refine g_iload_n hC 1 dX10_allParts_19 rfl rfl ?_
    refine g_iload_n hC 3 dX10_allParts_20 rfl rfl ?_
    refine g_iadd hC dX10_allParts_21 ?_
    refine g_iald hC o_M5 h.1 dX10_allParts_22 ?_
    have h := h.2
    refine g_iadd hC dX10_allParts_23 ?_
    refine g_topi (fun y24 e24 => ?_)
    have h := h y24 e24
    refine g_istore_n hC [(2, .int y24), (0, .ref (ox_φ X (7, 0, 0))), (1, .int x1), (3, .int x3)] dX10_allParts_24 rfl (by decide) rfl ?_
    refine g_iinc (v := (x3 + (1 : Int32))) hC 3 [(3, .int (x3 + (1 : Int32))), (2, .int y24), (0, .ref (ox_φ X (7, 0, 0))), (1, .int x1)] dX10_allParts_25 rfl rfl (by decide) rfl ?_
    refine g_goto hC 4 dX10_allParts_28 (by decide) ?_
    refine g_sub [2, 3, 1, 0] rfl ?_
    exact hK4 _ _ _ _ h
set_option maxHeartbeats 4000000 in
set_option maxRecDepth 100000 in
theorem lp_X10_allParts_4 {X : OX} {post : Int32 → SS → Prop} (hC : o_C X cX10_allParts RX10 wsX10_allParts 0 0 4) (hR : o_RI X cX10_allParts post) : ∀ (n : Nat) (a : Int32 × Int32 × Int32) (σ : SS), LP_X10_allParts_4 post n a σ → o_G X σ 4 [(0, .ref (ox_φ X (7, 0, 0))), (1, .int a.1), (2, .int a.2.1), (3, .int a.2.2)] [] :=
 o_lp_G (fun K hK a σ h => wb_X10_allParts_4 hC hR (fun x1 x2 x3 σ h => hK (x1, x2, x3) σ h) h)
set_option maxHeartbeats 4000000 in
set_option maxRecDepth 100000 in
theorem wv_X10_allParts {X : OX} {x1 : Int32} {post : Int32 → SS → Prop} {σ : SS} (hC : o_C X cX10_allParts RX10 wsX10_allParts 0 0 4) (hR : o_RI X cX10_allParts post) (h : V_X10_allParts x1 σ post) : o_G X σ 0 [(0, .ref (ox_φ X (7, 0, 0))), (1, .int x1)] [] := by
  unfold V_X10_allParts at h
  refine g_iconst (v := (0 : Int32)) hC dX10_allParts_0 (by decide) ?_
  refine g_istore_n hC [(2, .int (0 : Int32)), (0, .ref (ox_φ X (7, 0, 0))), (1, .int x1)] dX10_allParts_1 rfl (by decide) rfl ?_
  refine g_iconst (v := (0 : Int32)) hC dX10_allParts_2 (by decide) ?_
  refine g_istore_n hC [(3, .int (0 : Int32)), (2, .int (0 : Int32)), (0, .ref (ox_φ X (7, 0, 0))), (1, .int x1)] dX10_allParts_3 rfl (by decide) rfl ?_
  refine g_sub [2, 3, 1, 0] rfl ?_
  obtain ⟨n, h⟩ := h
  exact lp_X10_allParts_4 hC hR n _ _ h
set_option maxRecDepth 100000 in
theorem c_X10_allParts {l : Launch} {φ : OI → Nat} {D : va_G} {cI cB : ClassId} (hJ : o_J φ) {x1 : Int32} {σ : SS} {post : Int32 → SS → Prop} (h : V_X10_allParts x1 σ post) : o_Mi l φ D cI cB yX10_allParts wsX10_allParts 0 0 [.ref (φ (7, 0, 0)), .int x1] σ post :=
 o_met_i hJ (by decide +kernel) rfl (Nat.le_of_ble_eq_true rfl) (fun p e s m args below meth c Q hC hR => wv_X10_allParts hC hR h)
theorem hd_X10_sungParts : yX10_sungParts.cls = RX10 ∧ yX10_sungParts.cls ≠ "java/lang/invoke/MethodHandle" ∧ yX10_sungParts.cls ≠ "java/lang/invoke/VarHandle" ∧ (parseMethodDescriptor yX10_sungParts.desc).map (fun d => d.parameters.length) = some 1 := by decide +kernel
set_option maxHeartbeats 4000000 in
set_option maxRecDepth 100000 in
theorem wb_X10_sungParts_31 {X : OX} {post : Int32 → SS → Prop} {K6 : Int32 → Int32 → SS → Prop} {x1 : Int32} {x2 : Int32} {t0 : Int32} {t1 : Int32} {t2 : Int32} {t3 : Int32} {σ : SS} (hC : o_C X cX10_sungParts RX10 wsX10_sungParts 3 77 3) (hR : o_RI X cX10_sungParts post) (hK6 : ∀ (x1 : Int32) (x2 : Int32) (σ : SS), K6 x1 x2 σ → o_G X σ 6 [(0, .ref (ox_φ X (7, 0, 0))), (1, .int x1), (2, .int x2)] []) (h : VB_X10_sungParts_31 post K6 x1 x2 t0 t1 t2 t3 σ) : o_G X σ 31 [(0, .ref (ox_φ X (7, 0, 0))), (1, .int x1), (2, .int x2)] [.int t0, .int t1, .int t2, .int t3, .ref (ox_φ X (7, 0, 0))] := by
  unfold VB_X10_sungParts_31 at h
  refine g_aload_n hC 0 dX10_sungParts_31 rfl rfl ?_
  refine g_ri (r_V (C := RX10) (T := TX10) (N := 25) (As := []) (rest := [.int t0, .int t1, .int t2, .int t3, .ref (ox_φ X (7, 0, 0))]) hC o_iX10 (o_eX10 _ _ _ _) rfl (c_X10_illSet (l := ox_l X) (φ := ox_φ X) (D := ox_D X) (cI := ox_I X) (cB := ox_B X) hC.J  h) gX10_sungParts_X10_illSet rfl hd_X10_illSet ⟨Nat.le_of_ble_eq_true rfl, Nat.le_of_ble_eq_true rfl⟩ rfl rfl (Nat.le_of_ble_eq_true rfl) dX10_sungParts_32) (fun v32 s32 h => ?_)
  refine g_ri (r_V (C := RX10) (T := TX10) (N := 25) (As := [.int t3, .int t2, .int t1, .int t0, .int v32]) (rest := []) hC o_iX10 (o_eX10 _ _ _ _) rfl (c_X10_teach (l := ox_l X) (φ := ox_φ X) (D := ox_D X) (cI := ox_I X) (cB := ox_B X) hC.J  h) gX10_sungParts_X10_teach rfl hd_X10_teach ⟨Nat.le_of_ble_eq_true rfl, Nat.le_of_ble_eq_true rfl⟩ rfl rfl (Nat.le_of_ble_eq_true rfl) dX10_sungParts_35) (fun v35 s35 h => ?_)
  refine g_pop hC dX10_sungParts_38 rfl ?_
  refine g_iinc (v := (x2 + (1 : Int32))) hC 2 [(2, .int (x2 + (1 : Int32))), (0, .ref (ox_φ X (7, 0, 0))), (1, .int x1)] dX10_sungParts_39 rfl rfl (by decide) rfl ?_
  refine g_goto hC 6 dX10_sungParts_42 (by decide) ?_
  refine g_sub [1, 2, 0] rfl ?_
  exact hK6 _ _ _ h
set_option maxHeartbeats 4000000 in
set_option maxRecDepth 100000 in
theorem wb_X10_sungParts_6 {X : OX} {post : Int32 → SS → Prop} {K6 : Int32 → Int32 → SS → Prop} {x1 : Int32} {x2 : Int32} {σ : SS} (hC : o_C X cX10_sungParts RX10 wsX10_sungParts 3 77 3) (hR : o_RI X cX10_sungParts post) (hK6 : ∀ (x1 : Int32) (x2 : Int32) (σ : SS), K6 x1 x2 σ → o_G X σ 6 [(0, .ref (ox_φ X (7, 0, 0))), (1, .int x1), (2, .int x2)] []) (h : VB_X10_sungParts_6 post K6 x1 x2 σ) : o_G X σ 6 [(0, .ref (ox_φ X (7, 0, 0))), (1, .int x1), (2, .int x2)] [] := by
  unfold VB_X10_sungParts_6 at h
  refine g_iload_n hC 2 dX10_sungParts_6 rfl rfl ?_
  refine g_iconst (v := (4 : Int32)) hC dX10_sungParts_7 (by decide) ?_
  refine g_icmp_ge hC 45 dX10_sungParts_8 (by decide) (fun z => ?_) (fun z => ?_)
  · have h := h.1 z
    refine g_aload_n hC 0 dX10_sungParts_45 rfl rfl ?_
    refine g_bipush (v := (24 : Int32)) hC dX10_sungParts_46 (by decide) ?_
    refine g_ri (r_V (C := RX10) (T := TX10) (N := 25) (As := [.int (24 : Int32)]) (rest := []) hC o_iX10 (o_eX10 _ _ _ _) rfl (c_X10_allParts (l := ox_l X) (φ := ox_φ X) (D := ox_D X) (cI := ox_I X) (cB := ox_B X) hC.J  h) gX10_sungParts_X10_allParts rfl hd_X10_allParts ⟨Nat.le_of_ble_eq_true rfl, Nat.le_of_ble_eq_true rfl⟩ rfl rfl (Nat.le_of_ble_eq_true rfl) dX10_sungParts_48) (fun v48 s48 h => ?_)
    exact hR _ _ _ _ dX10_sungParts_51 h
  · have h := h.2 z
    refine g_aload_n hC 0 dX10_sungParts_11 rfl rfl ?_
    refine g_bipush (v := (24 : Int32)) hC dX10_sungParts_12 (by decide) ?_
    refine g_bipush (v := (6 : Int32)) hC dX10_sungParts_14 (by decide) ?_
    refine g_iload_n hC 2 dX10_sungParts_16 rfl rfl ?_
    refine g_iload_n hC 1 dX10_sungParts_17 rfl rfl ?_
    refine g_iload_n hC 2 dX10_sungParts_18 rfl rfl ?_
    refine g_ishr hC dX10_sungParts_19 ?_
    refine g_iconst (v := (1 : Int32)) hC dX10_sungParts_20 (by decide) ?_
    refine g_iand hC dX10_sungParts_21 ?_
    refine g_iconst (v := (1 : Int32)) hC dX10_sungParts_22 (by decide) ?_
    refine g_icmp_ne hC 30 dX10_sungParts_23 (by decide) (fun z => ?_) (fun z => ?_)
    · have h := h.1 z
      refine g_iconst (v := (0 : Int32)) hC dX10_sungParts_30 (by decide) ?_
      exact wb_X10_sungParts_31 hC hR hK6 h
    · have h := h.2 z
      refine g_iconst (v := (1 : Int32)) hC dX10_sungParts_26 (by decide) ?_
      refine g_goto hC 31 dX10_sungParts_27 (by decide) ?_
      exact wb_X10_sungParts_31 hC hR hK6 h
set_option maxHeartbeats 4000000 in
set_option maxRecDepth 100000 in
theorem lp_X10_sungParts_6 {X : OX} {post : Int32 → SS → Prop} (hC : o_C X cX10_sungParts RX10 wsX10_sungParts 3 77 3) (hR : o_RI X cX10_sungParts post) : ∀ (n : Nat) (a : Int32 × Int32) (σ : SS), LP_X10_sungParts_6 post n a σ → o_G X σ 6 [(0, .ref (ox_φ X (7, 0, 0))), (1, .int a.1), (2, .int a.2)] [] :=
 o_lp_G (fun K hK a σ h => wb_X10_sungParts_6 hC hR (fun x1 x2 σ h => hK (x1, x2) σ h) h)
set_option maxHeartbeats 4000000 in
set_option maxRecDepth 100000 in
theorem wv_X10_sungParts {X : OX} {x1 : Int32} {post : Int32 → SS → Prop} {σ : SS} (hC : o_C X cX10_sungParts RX10 wsX10_sungParts 3 77 3) (hR : o_RI X cX10_sungParts post) (h : V_X10_sungParts x1 σ post) : o_G X σ 0 [(0, .ref (ox_φ X (7, 0, 0))), (1, .int x1)] [] := by
  unfold V_X10_sungParts at h
  refine g_aload_n hC 0 dX10_sungParts_0 rfl rfl ?_
  refine g_rv (r_V (C := RX10) (T := TX10) (N := 25) (As := []) (rest := []) hC o_iX10 (o_eX10 _ _ _ _) rfl (c_X10_copy (l := ox_l X) (φ := ox_φ X) (D := ox_D X) (cI := ox_I X) (cB := ox_B X) hC.J  h) gX10_sungParts_X10_copy rfl hd_X10_copy ⟨Nat.le_of_ble_eq_true rfl, Nat.le_of_ble_eq_true rfl⟩ rfl rfl (Nat.le_of_ble_eq_true rfl) dX10_sungParts_1) (fun s1 h => ?_)
  refine g_iconst (v := (0 : Int32)) hC dX10_sungParts_4 (by decide) ?_
  refine g_istore_n hC [(2, .int (0 : Int32)), (0, .ref (ox_φ X (7, 0, 0))), (1, .int x1)] dX10_sungParts_5 rfl (by decide) rfl ?_
  refine g_sub [1, 2, 0] rfl ?_
  obtain ⟨n, h⟩ := h
  exact lp_X10_sungParts_6 hC hR n _ _ h
set_option maxRecDepth 100000 in
theorem c_X10_sungParts {l : Launch} {φ : OI → Nat} {D : va_G} {cI cB : ClassId} (hJ : o_J φ) {x1 : Int32} {σ : SS} {post : Int32 → SS → Prop} (h : V_X10_sungParts x1 σ post) : o_Mi l φ D cI cB yX10_sungParts wsX10_sungParts 3 77 [.ref (φ (7, 0, 0)), .int x1] σ post :=
 o_met_i hJ (by decide +kernel) rfl (Nat.le_of_ble_eq_true rfl) (fun p e s m args below meth c Q hC hR => wv_X10_sungParts hC hR h)
