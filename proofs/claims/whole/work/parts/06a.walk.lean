theorem kw_X0_at_1 : Cond.fieldLink RX0 7 "SchoolRow$Cells" "numbers" "[I" ∈ wsX0_at := List.mem_of_getElem? (i := 1) (by decide +kernel)
theorem ki_X0_at_X0 : ∀ w ∈ wsX00, w ∈ wsX0_at := fun _ h => List.mem_cons_of_mem _ (List.mem_append_right _ h)
theorem hd_X0_at : yX0_at.cls = RX0 ∧ yX0_at.cls ≠ "java/lang/invoke/MethodHandle" ∧ yX0_at.cls ≠ "java/lang/invoke/VarHandle" ∧ (parseMethodDescriptor yX0_at.desc).map (fun d => d.parameters.length) = some 1 := by decide +kernel
set_option maxHeartbeats 4000000 in
set_option maxRecDepth 100000 in
theorem wb_X0_at_23 {X : OX} {c : OI} {post : Int32 → SS → Prop} {t0 : Int32} {σ : SS} (hC : o_C X cX0_at RX0 wsX0_at 0 0 2) (hR : o_RI X cX0_at post) (hc : o_Cl c) (h : VB_X0_at_23 c post t0 σ) : o_G X σ 23 [] [.int t0] := by
  unfold VB_X0_at_23 at h
  exact hR _ _ _ _ dX0_at_23 h
set_option maxHeartbeats 4000000 in
set_option maxRecDepth 100000 in
theorem wb_X0_at_22 {X : OX} {c : OI} {post : Int32 → SS → Prop} {σ : SS} (hC : o_C X cX0_at RX0 wsX0_at 0 0 2) (hR : o_RI X cX0_at post) (hc : o_Cl c) (h : VB_X0_at_22 c post σ) : o_G X σ 22 [] [] := by
  unfold VB_X0_at_22 at h
  refine g_iconst (v := (0 : Int32)) hC dX0_at_22 (by decide) ?_
  exact wb_X0_at_23 hC hR hc h
set_option maxHeartbeats 4000000 in
set_option maxRecDepth 100000 in
theorem wv_X0_at {X : OX} {c : OI} {x1 : Int32} {post : Int32 → SS → Prop} {σ : SS} (hC : o_C X cX0_at RX0 wsX0_at 0 0 2) (hR : o_RI X cX0_at post) (hc : o_Cl c) (h : V_X0_at c x1 σ post) : o_G X σ 0 [(0, .ref (ox_φ X c)), (1, .int x1)] [] := by
  unfold V_X0_at at h
  refine g_iload_n hC 1 dX0_at_0 rfl rfl ?_
  refine g_if_lt hC 22 dX0_at_1 (by decide) (fun z => ?_) (fun z => ?_)
  · have h := h.1 z
    refine g_sub [] rfl ?_
    exact wb_X0_at_22 hC hR hc h
  · have h := h.2 z
    refine g_iload_n hC 1 dX0_at_4 rfl rfl ?_
    refine g_aload_n hC 0 dX0_at_5 rfl rfl ?_
    refine g_get (C := RX0) (T := TX0) (N := 1) (v := .ref (ox_φ X (o_ar c))) hC hc.1 (hc.2.1 _ _ _ _) rfl ki_X0_at_X0 0 (by decide) kw_X0_at_1 rfl dX0_at_6 ?_
    refine g_alen hC hc.2.2 dX0_at_9 ?_
    refine g_icmp_ge hC 22 dX0_at_10 (by decide) (fun z => ?_) (fun z => ?_)
    · have h := h.1 z
      refine g_sub [] rfl ?_
      exact wb_X0_at_22 hC hR hc h
    · have h := h.2 z
      refine g_aload_n hC 0 dX0_at_13 rfl rfl ?_
      refine g_get (C := RX0) (T := TX0) (N := 1) (v := .ref (ox_φ X (o_ar c))) hC hc.1 (hc.2.1 _ _ _ _) rfl ki_X0_at_X0 0 (by decide) kw_X0_at_1 rfl dX0_at_14 ?_
      refine g_iload_n hC 1 dX0_at_17 rfl rfl ?_
      refine g_iald hC hc.2.2 h.1 dX0_at_18 ?_
      have h := h.2
      refine g_goto hC 23 dX0_at_19 (by decide) ?_
      refine g_sub [] rfl ?_
      exact wb_X0_at_23 hC hR hc h
set_option maxRecDepth 100000 in
theorem c_X0_at {l : Launch} {φ : OI → Nat} {D : va_G} {cI cB : ClassId} (hJ : o_J φ) {c : OI} {x1 : Int32} (hc : o_Cl c) {σ : SS} {post : Int32 → SS → Prop} (h : V_X0_at c x1 σ post) : o_Mi l φ D cI cB yX0_at wsX0_at 0 0 [.ref (φ c), .int x1] σ post :=
 o_met_i hJ (by decide +kernel) rfl (Nat.le_of_ble_eq_true rfl) (fun p e s m args below meth c Q hC hR => wv_X0_at hC hR hc h)
theorem kw_X0_put_1 : Cond.fieldLink RX0 7 "SchoolRow$Cells" "numbers" "[I" ∈ wsX0_put := List.mem_of_getElem? (i := 1) (by decide +kernel)
theorem ki_X0_put_X0 : ∀ w ∈ wsX00, w ∈ wsX0_put := fun _ h => List.mem_cons_of_mem _ (List.mem_append_right _ h)
theorem hd_X0_put : yX0_put.cls = RX0 ∧ yX0_put.cls ≠ "java/lang/invoke/MethodHandle" ∧ yX0_put.cls ≠ "java/lang/invoke/VarHandle" ∧ (parseMethodDescriptor yX0_put.desc).map (fun d => d.parameters.length) = some 2 := by decide +kernel
set_option maxHeartbeats 4000000 in
set_option maxRecDepth 100000 in
theorem wb_X0_put_20 {X : OX} {c : OI} {post : SS → Prop} {σ : SS} (hC : o_C X cX0_put RX0 wsX0_put 0 0 3) (hR : o_RV X cX0_put post) (hc : o_Cl c) (h : VB_X0_put_20 c post σ) : o_G X σ 20 [] [] := by
  unfold VB_X0_put_20 at h
  exact hR _ _ _ dX0_put_20 h
set_option maxHeartbeats 4000000 in
set_option maxRecDepth 100000 in
theorem wv_X0_put {X : OX} {c : OI} {x1 : Int32} {x2 : Int32} {post : SS → Prop} {σ : SS} (hC : o_C X cX0_put RX0 wsX0_put 0 0 3) (hR : o_RV X cX0_put post) (hc : o_Cl c) (h : V_X0_put c x1 x2 σ post) : o_G X σ 0 [(0, .ref (ox_φ X c)), (1, .int x1), (2, .int x2)] [] := by
  unfold V_X0_put at h
  refine g_iload_n hC 1 dX0_put_0 rfl rfl ?_
  refine g_if_lt hC 20 dX0_put_1 (by decide) (fun z => ?_) (fun z => ?_)
  · have h := h.1 z
    refine g_sub [] rfl ?_
    exact wb_X0_put_20 hC hR hc h
  · have h := h.2 z
    refine g_iload_n hC 1 dX0_put_4 rfl rfl ?_
    refine g_aload_n hC 0 dX0_put_5 rfl rfl ?_
    refine g_get (C := RX0) (T := TX0) (N := 1) (v := .ref (ox_φ X (o_ar c))) hC hc.1 (hc.2.1 _ _ _ _) rfl ki_X0_put_X0 0 (by decide) kw_X0_put_1 rfl dX0_put_6 ?_
    refine g_alen hC hc.2.2 dX0_put_9 ?_
    refine g_icmp_ge hC 20 dX0_put_10 (by decide) (fun z => ?_) (fun z => ?_)
    · have h := h.1 z
      refine g_sub [] rfl ?_
      exact wb_X0_put_20 hC hR hc h
    · have h := h.2 z
      refine g_aload_n hC 0 dX0_put_13 rfl rfl ?_
      refine g_get (C := RX0) (T := TX0) (N := 1) (v := .ref (ox_φ X (o_ar c))) hC hc.1 (hc.2.1 _ _ _ _) rfl ki_X0_put_X0 0 (by decide) kw_X0_put_1 rfl dX0_put_14 ?_
      refine g_iload_n hC 1 dX0_put_17 rfl rfl ?_
      refine g_iload_n hC 2 dX0_put_18 rfl rfl ?_
      refine g_iast hC hc.2.2 h.1 dX0_put_19 ?_
      have h := h.2
      refine g_sub [] rfl ?_
      exact wb_X0_put_20 hC hR hc h
set_option maxRecDepth 100000 in
theorem c_X0_put {l : Launch} {φ : OI → Nat} {D : va_G} {cI cB : ClassId} (hJ : o_J φ) {c : OI} {x1 : Int32} {x2 : Int32} (hc : o_Cl c) {σ : SS} {post : SS → Prop} (h : V_X0_put c x1 x2 σ post) : o_Mv l φ D cI cB yX0_put wsX0_put 0 0 [.ref (φ c), .int x1, .int x2] σ post :=
 o_met_v hJ (by decide +kernel) rfl (Nat.le_of_ble_eq_true rfl) (fun p e s m args below meth c Q hC hR => wv_X0_put hC hR hc h)
theorem kw_X0_putAll_1 : Cond.fieldLink RX0 7 "SchoolRow$Cells" "numbers" "[I" ∈ wsX0_putAll := List.mem_of_getElem? (i := 1) (by decide +kernel)
theorem ki_X0_putAll_X0 : ∀ w ∈ wsX00, w ∈ wsX0_putAll := fun _ h => List.mem_cons_of_mem _ (List.mem_append_right _ h)
theorem hd_X0_putAll : yX0_putAll.cls = RX0 ∧ yX0_putAll.cls ≠ "java/lang/invoke/MethodHandle" ∧ yX0_putAll.cls ≠ "java/lang/invoke/VarHandle" ∧ (parseMethodDescriptor yX0_putAll.desc).map (fun d => d.parameters.length) = some 1 := by decide +kernel
set_option maxHeartbeats 4000000 in
set_option maxRecDepth 100000 in
theorem wb_X0_putAll_2 {X : OX} {c : OI} {post : SS → Prop} {K2 : Int32 → Int32 → SS → Prop} {x1 : Int32} {x2 : Int32} {σ : SS} (hC : o_C X cX0_putAll RX0 wsX0_putAll 0 0 3) (hR : o_RV X cX0_putAll post) (hc : o_Cl c) (hK2 : ∀ (x1 : Int32) (x2 : Int32) (σ : SS), K2 x1 x2 σ → o_G X σ 2 [(0, .ref (ox_φ X c)), (1, .int x1), (2, .int x2)] []) (h : VB_X0_putAll_2 c post K2 x1 x2 σ) : o_G X σ 2 [(0, .ref (ox_φ X c)), (1, .int x1), (2, .int x2)] [] := by
  unfold VB_X0_putAll_2 at h
  refine g_iload_n hC 2 dX0_putAll_2 rfl rfl ?_
  refine g_aload_n hC 0 dX0_putAll_3 rfl rfl ?_
  refine g_get (C := RX0) (T := TX0) (N := 1) (v := .ref (ox_φ X (o_ar c))) hC hc.1 (hc.2.1 _ _ _ _) rfl ki_X0_putAll_X0 0 (by decide) kw_X0_putAll_1 rfl dX0_putAll_4 ?_
  refine g_alen hC hc.2.2 dX0_putAll_7 ?_
  refine g_icmp_ge hC 24 dX0_putAll_8 (by decide) (fun z => ?_) (fun z => ?_)
  · have h := h.1 z
    exact hR _ _ _ dX0_putAll_24 h
  · have h := h.2 z
    refine g_aload_n hC 0 dX0_putAll_11 rfl rfl ?_
    refine g_get (C := RX0) (T := TX0) (N := 1) (v := .ref (ox_φ X (o_ar c))) hC hc.1 (hc.2.1 _ _ _ _) rfl ki_X0_putAll_X0 0 (by decide) kw_X0_putAll_1 rfl dX0_putAll_12 ?_
    refine g_iload_n hC 2 dX0_putAll_15 rfl rfl ?_
    refine g_iload_n hC 1 dX0_putAll_16 rfl rfl ?_
    refine g_iast hC hc.2.2 h.1 dX0_putAll_17 ?_
    have h := h.2
    refine g_iinc (v := (x2 + (1 : Int32))) hC 2 [(2, .int (x2 + (1 : Int32))), (0, .ref (ox_φ X c)), (1, .int x1)] dX0_putAll_18 rfl rfl (by decide) rfl ?_
    refine g_goto hC 2 dX0_putAll_21 (by decide) ?_
    refine g_sub [1, 2, 0] rfl ?_
    exact hK2 _ _ _ h
set_option maxHeartbeats 4000000 in
set_option maxRecDepth 100000 in
theorem lp_X0_putAll_2 {X : OX} {c : OI} {post : SS → Prop} (hC : o_C X cX0_putAll RX0 wsX0_putAll 0 0 3) (hR : o_RV X cX0_putAll post) (hc : o_Cl c) : ∀ (n : Nat) (a : Int32 × Int32) (σ : SS), LP_X0_putAll_2 c post n a σ → o_G X σ 2 [(0, .ref (ox_φ X c)), (1, .int a.1), (2, .int a.2)] [] :=
 o_lp_G (fun K hK a σ h => wb_X0_putAll_2 hC hR hc (fun x1 x2 σ h => hK (x1, x2) σ h) h)
set_option maxHeartbeats 4000000 in
set_option maxRecDepth 100000 in
theorem wv_X0_putAll {X : OX} {c : OI} {x1 : Int32} {post : SS → Prop} {σ : SS} (hC : o_C X cX0_putAll RX0 wsX0_putAll 0 0 3) (hR : o_RV X cX0_putAll post) (hc : o_Cl c) (h : V_X0_putAll c x1 σ post) : o_G X σ 0 [(0, .ref (ox_φ X c)), (1, .int x1)] [] := by
  unfold V_X0_putAll at h
  refine g_iconst (v := (0 : Int32)) hC dX0_putAll_0 (by decide) ?_
  refine g_istore_n hC [(2, .int (0 : Int32)), (0, .ref (ox_φ X c)), (1, .int x1)] dX0_putAll_1 rfl (by decide) rfl ?_
  refine g_sub [1, 2, 0] rfl ?_
  obtain ⟨n, h⟩ := h
  exact lp_X0_putAll_2 hC hR hc n _ _ h
set_option maxRecDepth 100000 in
theorem c_X0_putAll {l : Launch} {φ : OI → Nat} {D : va_G} {cI cB : ClassId} (hJ : o_J φ) {c : OI} {x1 : Int32} (hc : o_Cl c) {σ : SS} {post : SS → Prop} (h : V_X0_putAll c x1 σ post) : o_Mv l φ D cI cB yX0_putAll wsX0_putAll 0 0 [.ref (φ c), .int x1] σ post :=
 o_met_v hJ (by decide +kernel) rfl (Nat.le_of_ble_eq_true rfl) (fun p e s m args below meth c Q hC hR => wv_X0_putAll hC hR hc h)
theorem kw_X0_copyFrom_1 : Cond.fieldLink RX0 7 "SchoolRow$Cells" "numbers" "[I" ∈ wsX0_copyFrom := List.mem_of_getElem? (i := 1) (by decide +kernel)
theorem ki_X0_copyFrom_X0 : ∀ w ∈ wsX00, w ∈ wsX0_copyFrom := fun _ h => List.mem_cons_of_mem _ (List.mem_append_right _ h)
theorem hd_X0_copyFrom : yX0_copyFrom.cls = RX0 ∧ yX0_copyFrom.cls ≠ "java/lang/invoke/MethodHandle" ∧ yX0_copyFrom.cls ≠ "java/lang/invoke/VarHandle" ∧ (parseMethodDescriptor yX0_copyFrom.desc).map (fun d => d.parameters.length) = some 1 := by decide +kernel
set_option maxHeartbeats 4000000 in
set_option maxRecDepth 100000 in
theorem wb_X0_copyFrom_2 {X : OX} {c : OI} {c2 : OI} {post : SS → Prop} {K2 : Int32 → SS → Prop} {x2 : Int32} {σ : SS} (hC : o_C X cX0_copyFrom RX0 wsX0_copyFrom 1 21 3) (hR : o_RV X cX0_copyFrom post) (hc : o_Cl c) (hc2 : o_Cl c2) (hK2 : ∀ (x2 : Int32) (σ : SS), K2 x2 σ → o_G X σ 2 [(0, .ref (ox_φ X c)), (1, .ref (ox_φ X c2)), (2, .int x2)] []) (h : VB_X0_copyFrom_2 c c2 post K2 x2 σ) : o_G X σ 2 [(0, .ref (ox_φ X c)), (1, .ref (ox_φ X c2)), (2, .int x2)] [] := by
  unfold VB_X0_copyFrom_2 at h
  refine g_iload_n hC 2 dX0_copyFrom_2 rfl rfl ?_
  refine g_aload_n hC 0 dX0_copyFrom_3 rfl rfl ?_
  refine g_get (C := RX0) (T := TX0) (N := 1) (v := .ref (ox_φ X (o_ar c))) hC hc.1 (hc.2.1 _ _ _ _) rfl ki_X0_copyFrom_X0 0 (by decide) kw_X0_copyFrom_1 rfl dX0_copyFrom_4 ?_
  refine g_alen hC hc.2.2 dX0_copyFrom_7 ?_
  refine g_icmp_ge hC 28 dX0_copyFrom_8 (by decide) (fun z => ?_) (fun z => ?_)
  · have h := h.1 z
    exact hR _ _ _ dX0_copyFrom_28 h
  · have h := h.2 z
    refine g_aload_n hC 0 dX0_copyFrom_11 rfl rfl ?_
    refine g_get (C := RX0) (T := TX0) (N := 1) (v := .ref (ox_φ X (o_ar c))) hC hc.1 (hc.2.1 _ _ _ _) rfl ki_X0_copyFrom_X0 0 (by decide) kw_X0_copyFrom_1 rfl dX0_copyFrom_12 ?_
    refine g_iload_n hC 2 dX0_copyFrom_15 rfl rfl ?_
    refine g_aload_n hC 1 dX0_copyFrom_16 rfl rfl ?_
    refine g_iload_n hC 2 dX0_copyFrom_17 rfl rfl ?_
    refine g_ri (r_V (C := RX0) (T := TX0) (N := 1) (As := [.int x2]) (rest := [.int x2, .ref (ox_φ X (o_ar c))]) hC hc2.1 (hc2.2.1 _ _ _ _) rfl (c_X0_at (l := ox_l X) (φ := ox_φ X) (D := ox_D X) (cI := ox_I X) (cB := ox_B X) hC.J hc2 h) gX0_copyFrom_X0_at rfl hd_X0_at ⟨Nat.le_of_ble_eq_true rfl, Nat.le_of_ble_eq_true rfl⟩ rfl rfl (Nat.le_of_ble_eq_true rfl) dX0_copyFrom_18) (fun v18 s18 h => ?_)
    refine g_iast hC hc.2.2 h.1 dX0_copyFrom_21 ?_
    have h := h.2
    refine g_iinc (v := (x2 + (1 : Int32))) hC 2 [(2, .int (x2 + (1 : Int32))), (0, .ref (ox_φ X c)), (1, .ref (ox_φ X c2))] dX0_copyFrom_22 rfl rfl (by decide) rfl ?_
    refine g_goto hC 2 dX0_copyFrom_25 (by decide) ?_
    refine g_sub [1, 2, 0] rfl ?_
    exact hK2 _ _ h
set_option maxHeartbeats 4000000 in
set_option maxRecDepth 100000 in
theorem lp_X0_copyFrom_2 {X : OX} {c : OI} {c2 : OI} {post : SS → Prop} (hC : o_C X cX0_copyFrom RX0 wsX0_copyFrom 1 21 3) (hR : o_RV X cX0_copyFrom post) (hc : o_Cl c) (hc2 : o_Cl c2) : ∀ (n : Nat) (a : Int32) (σ : SS), LP_X0_copyFrom_2 c c2 post n a σ → o_G X σ 2 [(0, .ref (ox_φ X c)), (1, .ref (ox_φ X c2)), (2, .int a)] [] :=
 o_lp_G (fun K hK a σ h => wb_X0_copyFrom_2 hC hR hc hc2 (fun x2 σ h => hK x2 σ h) h)
set_option maxHeartbeats 4000000 in
set_option maxRecDepth 100000 in
theorem wv_X0_copyFrom {X : OX} {c : OI} {c2 : OI} {post : SS → Prop} {σ : SS} (hC : o_C X cX0_copyFrom RX0 wsX0_copyFrom 1 21 3) (hR : o_RV X cX0_copyFrom post) (hc : o_Cl c) (hc2 : o_Cl c2) (h : V_X0_copyFrom c c2 σ post) : o_G X σ 0 [(0, .ref (ox_φ X c)), (1, .ref (ox_φ X c2))] [] := by
  unfold V_X0_copyFrom at h
  refine g_iconst (v := (0 : Int32)) hC dX0_copyFrom_0 (by decide) ?_
  refine g_istore_n hC [(2, .int (0 : Int32)), (0, .ref (ox_φ X c)), (1, .ref (ox_φ X c2))] dX0_copyFrom_1 rfl (by decide) rfl ?_
  refine g_sub [1, 2, 0] rfl ?_
  obtain ⟨n, h⟩ := h
  exact lp_X0_copyFrom_2 hC hR hc hc2 n _ _ h
set_option maxRecDepth 100000 in
theorem c_X0_copyFrom {l : Launch} {φ : OI → Nat} {D : va_G} {cI cB : ClassId} (hJ : o_J φ) {c : OI} {c2 : OI} (hc : o_Cl c) (hc2 : o_Cl c2) {σ : SS} {post : SS → Prop} (h : V_X0_copyFrom c c2 σ post) : o_Mv l φ D cI cB yX0_copyFrom wsX0_copyFrom 1 21 [.ref (φ c), .ref (φ c2)] σ post :=
 o_met_v hJ (by decide +kernel) rfl (Nat.le_of_ble_eq_true rfl) (fun p e s m args below meth c Q hC hR => wv_X0_copyFrom hC hR hc hc2 h)
theorem kw_X0_sum_1 : Cond.fieldLink RX0 7 "SchoolRow$Cells" "numbers" "[I" ∈ wsX0_sum := List.mem_of_getElem? (i := 1) (by decide +kernel)
theorem ki_X0_sum_X0 : ∀ w ∈ wsX00, w ∈ wsX0_sum := fun _ h => List.mem_cons_of_mem _ (List.mem_append_right _ h)
theorem hd_X0_sum : yX0_sum.cls = RX0 ∧ yX0_sum.cls ≠ "java/lang/invoke/MethodHandle" ∧ yX0_sum.cls ≠ "java/lang/invoke/VarHandle" ∧ (parseMethodDescriptor yX0_sum.desc).map (fun d => d.parameters.length) = some 0 := by decide +kernel
set_option maxHeartbeats 4000000 in
set_option maxRecDepth 100000 in
theorem wb_X0_sum_4 {X : OX} {c : OI} {post : Int32 → SS → Prop} {K4 : Int32 → Int32 → SS → Prop} {x1 : Int32} {x2 : Int32} {σ : SS} (hC : o_C X cX0_sum RX0 wsX0_sum 0 0 3) (hR : o_RI X cX0_sum post) (hc : o_Cl c) (hK4 : ∀ (x1 : Int32) (x2 : Int32) (σ : SS), K4 x1 x2 σ → o_G X σ 4 [(0, .ref (ox_φ X c)), (1, .int x1), (2, .int x2)] []) (h : VB_X0_sum_4 c post K4 x1 x2 σ) : o_G X σ 4 [(0, .ref (ox_φ X c)), (1, .int x1), (2, .int x2)] [] := by
  unfold VB_X0_sum_4 at h
  refine g_iload_n hC 2 dX0_sum_4 rfl rfl ?_
  refine g_aload_n hC 0 dX0_sum_5 rfl rfl ?_
  refine g_get (C := RX0) (T := TX0) (N := 1) (v := .ref (ox_φ X (o_ar c))) hC hc.1 (hc.2.1 _ _ _ _) rfl ki_X0_sum_X0 0 (by decide) kw_X0_sum_1 rfl dX0_sum_6 ?_
  refine g_alen hC hc.2.2 dX0_sum_9 ?_
  refine g_icmp_ge hC 28 dX0_sum_10 (by decide) (fun z => ?_) (fun z => ?_)
  · have h := h.1 z
    refine g_iload_n hC 1 dX0_sum_28 rfl rfl ?_
    exact hR _ _ _ _ dX0_sum_29 h
  · have h := h.2 z
    refine g_iload_n hC 1 dX0_sum_13 rfl rfl ?_
    refine g_aload_n hC 0 dX0_sum_14 rfl rfl ?_
    refine g_get (C := RX0) (T := TX0) (N := 1) (v := .ref (ox_φ X (o_ar c))) hC hc.1 (hc.2.1 _ _ _ _) rfl ki_X0_sum_X0 0 (by decide) kw_X0_sum_1 rfl dX0_sum_15 ?_
    refine g_iload_n hC 2 dX0_sum_18 rfl rfl ?_
    refine g_iald hC hc.2.2 h.1 dX0_sum_19 ?_
    have h := h.2
    refine g_iadd hC dX0_sum_20 ?_
    refine g_topi (fun y21 e21 => ?_)
    have h := h y21 e21
    refine g_istore_n hC [(1, .int y21), (0, .ref (ox_φ X c)), (2, .int x2)] dX0_sum_21 rfl (by decide) rfl ?_
    refine g_iinc (v := (x2 + (1 : Int32))) hC 2 [(2, .int (x2 + (1 : Int32))), (1, .int y21), (0, .ref (ox_φ X c))] dX0_sum_22 rfl rfl (by decide) rfl ?_
    refine g_goto hC 4 dX0_sum_25 (by decide) ?_
    refine g_sub [2, 1, 0] rfl ?_
    exact hK4 _ _ _ h
set_option maxHeartbeats 4000000 in
set_option maxRecDepth 100000 in
theorem lp_X0_sum_4 {X : OX} {c : OI} {post : Int32 → SS → Prop} (hC : o_C X cX0_sum RX0 wsX0_sum 0 0 3) (hR : o_RI X cX0_sum post) (hc : o_Cl c) : ∀ (n : Nat) (a : Int32 × Int32) (σ : SS), LP_X0_sum_4 c post n a σ → o_G X σ 4 [(0, .ref (ox_φ X c)), (1, .int a.1), (2, .int a.2)] [] :=
 o_lp_G (fun K hK a σ h => wb_X0_sum_4 hC hR hc (fun x1 x2 σ h => hK (x1, x2) σ h) h)
set_option maxHeartbeats 4000000 in
set_option maxRecDepth 100000 in
theorem wv_X0_sum {X : OX} {c : OI} {post : Int32 → SS → Prop} {σ : SS} (hC : o_C X cX0_sum RX0 wsX0_sum 0 0 3) (hR : o_RI X cX0_sum post) (hc : o_Cl c) (h : V_X0_sum c σ post) : o_G X σ 0 [(0, .ref (ox_φ X c))] [] := by
  unfold V_X0_sum at h
  refine g_iconst (v := (0 : Int32)) hC dX0_sum_0 (by decide) ?_
  refine g_istore_n hC [(1, .int (0 : Int32)), (0, .ref (ox_φ X c))] dX0_sum_1 rfl (by decide) rfl ?_
  refine g_iconst (v := (0 : Int32)) hC dX0_sum_2 (by decide) ?_
  refine g_istore_n hC [(2, .int (0 : Int32)), (1, .int (0 : Int32)), (0, .ref (ox_φ X c))] dX0_sum_3 rfl (by decide) rfl ?_
  refine g_sub [2, 1, 0] rfl ?_
  obtain ⟨n, h⟩ := h
  exact lp_X0_sum_4 hC hR hc n _ _ h
set_option maxRecDepth 100000 in
theorem c_X0_sum {l : Launch} {φ : OI → Nat} {D : va_G} {cI cB : ClassId} (hJ : o_J φ) {c : OI} (hc : o_Cl c) {σ : SS} {post : Int32 → SS → Prop} (h : V_X0_sum c σ post) : o_Mi l φ D cI cB yX0_sum wsX0_sum 0 0 [.ref (φ c)] σ post :=
 o_met_i hJ (by decide +kernel) rfl (Nat.le_of_ble_eq_true rfl) (fun p e s m args below meth c Q hC hR => wv_X0_sum hC hR hc h)
theorem kw_J6_bitCount_0f7a4_1 : Cond.constant RJ6 265 (1431655765) ∈ wsJ6_bitCount_0f7a4 := List.mem_of_getElem? (i := 1) (by decide +kernel)
theorem kw_J6_bitCount_0f7a4_2 : Cond.constant RJ6 266 (858993459) ∈ wsJ6_bitCount_0f7a4 := List.mem_of_getElem? (i := 2) (by decide +kernel)
theorem kw_J6_bitCount_0f7a4_3 : Cond.constant RJ6 267 (252645135) ∈ wsJ6_bitCount_0f7a4 := List.mem_of_getElem? (i := 3) (by decide +kernel)
theorem hd_J6_bitCount_0f7a4 : yJ6_bitCount_0f7a4.cls ≠ "java/lang/invoke/MethodHandle" ∧ yJ6_bitCount_0f7a4.cls ≠ "java/lang/invoke/VarHandle" ∧ (parseMethodDescriptor yJ6_bitCount_0f7a4.desc).map (fun d => d.parameters.length) = some 1 := by decide +kernel
set_option maxHeartbeats 4000000 in
set_option maxRecDepth 100000 in
theorem wv_J6_bitCount_0f7a4 {X : OX} {x0 : Int32} {post : Int32 → SS → Prop} {σ : SS} (hC : o_C X cJ6_bitCount_0f7a4 RJ6 wsJ6_bitCount_0f7a4 0 0 1) (hR : o_RI X cJ6_bitCount_0f7a4 post) (h : V_J6_bitCount_0f7a4 x0 σ post) : o_G X σ 0 [(0, .int x0)] [] := by
  unfold V_J6_bitCount_0f7a4 at h
  refine g_iload_n hC 0 dJ6_bitCount_0f7a4_0 rfl rfl ?_
  refine g_iload_n hC 0 dJ6_bitCount_0f7a4_1 rfl rfl ?_
  refine g_iconst (v := (1 : Int32)) hC dJ6_bitCount_0f7a4_2 (by decide) ?_
  refine g_iushr hC dJ6_bitCount_0f7a4_3 ?_
  refine g_ldcw hC kw_J6_bitCount_0f7a4_1 dJ6_bitCount_0f7a4_4 ?_
  refine g_iand hC dJ6_bitCount_0f7a4_7 ?_
  refine g_isub hC dJ6_bitCount_0f7a4_8 ?_
  refine g_topi (fun y9 e9 => ?_)
  have h := h y9 e9
  refine g_istore_n hC [(0, .int y9)] dJ6_bitCount_0f7a4_9 rfl (by decide) rfl ?_
  refine g_iload_n hC 0 dJ6_bitCount_0f7a4_10 rfl rfl ?_
  refine g_ldcw hC kw_J6_bitCount_0f7a4_2 dJ6_bitCount_0f7a4_11 ?_
  refine g_iand hC dJ6_bitCount_0f7a4_14 ?_
  refine g_iload_n hC 0 dJ6_bitCount_0f7a4_15 rfl rfl ?_
  refine g_iconst (v := (2 : Int32)) hC dJ6_bitCount_0f7a4_16 (by decide) ?_
  refine g_iushr hC dJ6_bitCount_0f7a4_17 ?_
  refine g_ldcw hC kw_J6_bitCount_0f7a4_2 dJ6_bitCount_0f7a4_18 ?_
  refine g_iand hC dJ6_bitCount_0f7a4_21 ?_
  refine g_iadd hC dJ6_bitCount_0f7a4_22 ?_
  refine g_topi (fun y23 e23 => ?_)
  have h := h y23 e23
  refine g_istore_n hC [(0, .int y23)] dJ6_bitCount_0f7a4_23 rfl (by decide) rfl ?_
  refine g_iload_n hC 0 dJ6_bitCount_0f7a4_24 rfl rfl ?_
  refine g_iload_n hC 0 dJ6_bitCount_0f7a4_25 rfl rfl ?_
  refine g_iconst (v := (4 : Int32)) hC dJ6_bitCount_0f7a4_26 (by decide) ?_
  refine g_iushr hC dJ6_bitCount_0f7a4_27 ?_
  refine g_iadd hC dJ6_bitCount_0f7a4_28 ?_
  refine g_ldcw hC kw_J6_bitCount_0f7a4_3 dJ6_bitCount_0f7a4_29 ?_
  refine g_iand hC dJ6_bitCount_0f7a4_32 ?_
  refine g_topi (fun y33 e33 => ?_)
  have h := h y33 e33
  refine g_istore_n hC [(0, .int y33)] dJ6_bitCount_0f7a4_33 rfl (by decide) rfl ?_
  refine g_iload_n hC 0 dJ6_bitCount_0f7a4_34 rfl rfl ?_
  refine g_iload_n hC 0 dJ6_bitCount_0f7a4_35 rfl rfl ?_
  refine g_bipush (v := (8 : Int32)) hC dJ6_bitCount_0f7a4_36 (by decide) ?_
  refine g_iushr hC dJ6_bitCount_0f7a4_38 ?_
  refine g_iadd hC dJ6_bitCount_0f7a4_39 ?_
  refine g_topi (fun y40 e40 => ?_)
  have h := h y40 e40
  refine g_istore_n hC [(0, .int y40)] dJ6_bitCount_0f7a4_40 rfl (by decide) rfl ?_
  refine g_iload_n hC 0 dJ6_bitCount_0f7a4_41 rfl rfl ?_
  refine g_iload_n hC 0 dJ6_bitCount_0f7a4_42 rfl rfl ?_
  refine g_bipush (v := (16 : Int32)) hC dJ6_bitCount_0f7a4_43 (by decide) ?_
  refine g_iushr hC dJ6_bitCount_0f7a4_45 ?_
  refine g_iadd hC dJ6_bitCount_0f7a4_46 ?_
  refine g_topi (fun y47 e47 => ?_)
  have h := h y47 e47
  refine g_istore_n hC [(0, .int y47)] dJ6_bitCount_0f7a4_47 rfl (by decide) rfl ?_
  refine g_iload_n hC 0 dJ6_bitCount_0f7a4_48 rfl rfl ?_
  refine g_bipush (v := (63 : Int32)) hC dJ6_bitCount_0f7a4_49 (by decide) ?_
  refine g_iand hC dJ6_bitCount_0f7a4_51 ?_
  exact hR _ _ _ _ dJ6_bitCount_0f7a4_52 h
set_option maxRecDepth 100000 in
theorem c_J6_bitCount_0f7a4 {l : Launch} {φ : OI → Nat} {D : va_G} {cI cB : ClassId} (hJ : o_J φ) {x0 : Int32} {σ : SS} {post : Int32 → SS → Prop} (h : V_J6_bitCount_0f7a4 x0 σ post) : o_Mi l φ D cI cB yJ6_bitCount_0f7a4 wsJ6_bitCount_0f7a4 0 0 [.int x0] σ post :=
 o_met_i hJ (by decide +kernel) rfl (Nat.le_of_ble_eq_true rfl) (fun p e s m args below meth c Q hC hR => wv_J6_bitCount_0f7a4 hC hR h)
theorem kw_X0_sumOfBits_1 : Cond.fieldLink RX0 7 "SchoolRow$Cells" "numbers" "[I" ∈ wsX0_sumOfBits := List.mem_of_getElem? (i := 1) (by decide +kernel)
theorem ki_X0_sumOfBits_X0 : ∀ w ∈ wsX00, w ∈ wsX0_sumOfBits := fun _ h => List.mem_cons_of_mem _ (List.mem_append_right _ h)
theorem hd_X0_sumOfBits : yX0_sumOfBits.cls = RX0 ∧ yX0_sumOfBits.cls ≠ "java/lang/invoke/MethodHandle" ∧ yX0_sumOfBits.cls ≠ "java/lang/invoke/VarHandle" ∧ (parseMethodDescriptor yX0_sumOfBits.desc).map (fun d => d.parameters.length) = some 0 := by decide +kernel
set_option maxHeartbeats 4000000 in
set_option maxRecDepth 100000 in
theorem wb_X0_sumOfBits_4 {X : OX} {c : OI} {post : Int32 → SS → Prop} {K4 : Int32 → Int32 → SS → Prop} {x1 : Int32} {x2 : Int32} {σ : SS} (hC : o_C X cX0_sumOfBits RX0 wsX0_sumOfBits 1 20 3) (hR : o_RI X cX0_sumOfBits post) (hc : o_Cl c) (hK4 : ∀ (x1 : Int32) (x2 : Int32) (σ : SS), K4 x1 x2 σ → o_G X σ 4 [(0, .ref (ox_φ X c)), (1, .int x1), (2, .int x2)] []) (h : VB_X0_sumOfBits_4 c post K4 x1 x2 σ) : o_G X σ 4 [(0, .ref (ox_φ X c)), (1, .int x1), (2, .int x2)] [] := by
  unfold VB_X0_sumOfBits_4 at h
  refine g_iload_n hC 2 dX0_sumOfBits_4 rfl rfl ?_
  refine g_aload_n hC 0 dX0_sumOfBits_5 rfl rfl ?_
  refine g_get (C := RX0) (T := TX0) (N := 1) (v := .ref (ox_φ X (o_ar c))) hC hc.1 (hc.2.1 _ _ _ _) rfl ki_X0_sumOfBits_X0 0 (by decide) kw_X0_sumOfBits_1 rfl dX0_sumOfBits_6 ?_
  refine g_alen hC hc.2.2 dX0_sumOfBits_9 ?_
  refine g_icmp_ge hC 31 dX0_sumOfBits_10 (by decide) (fun z => ?_) (fun z => ?_)
  · have h := h.1 z
    refine g_iload_n hC 1 dX0_sumOfBits_31 rfl rfl ?_
    exact hR _ _ _ _ dX0_sumOfBits_32 h
  · have h := h.2 z
    refine g_iload_n hC 1 dX0_sumOfBits_13 rfl rfl ?_
    refine g_aload_n hC 0 dX0_sumOfBits_14 rfl rfl ?_
    refine g_get (C := RX0) (T := TX0) (N := 1) (v := .ref (ox_φ X (o_ar c))) hC hc.1 (hc.2.1 _ _ _ _) rfl ki_X0_sumOfBits_X0 0 (by decide) kw_X0_sumOfBits_1 rfl dX0_sumOfBits_15 ?_
    refine g_iload_n hC 2 dX0_sumOfBits_18 rfl rfl ?_
    refine g_iald hC hc.2.2 h.1 dX0_sumOfBits_19 ?_
    have h := h.2
    refine g_ri (r_S (As := [.int (σ.1 (o_ar c) (x2).toNatClampNeg)]) (rest := [.int x1]) hC (c_J6_bitCount_0f7a4 (l := ox_l X) (φ := ox_φ X) (D := ox_D X) (cI := ox_I X) (cB := ox_B X) hC.J  h) gX0_sumOfBits_J6_bitCount_0f7a4 rfl hd_J6_bitCount_0f7a4 ⟨Nat.le_of_ble_eq_true rfl, Nat.le_of_ble_eq_true rfl⟩ rfl rfl (Nat.le_of_ble_eq_true rfl) dX0_sumOfBits_20) (fun v20 s20 h => ?_)
    refine g_iadd hC dX0_sumOfBits_23 ?_
    refine g_istore_n hC [(1, .int (x1 + v20)), (0, .ref (ox_φ X c)), (2, .int x2)] dX0_sumOfBits_24 rfl (by decide) rfl ?_
    refine g_iinc (v := (x2 + (1 : Int32))) hC 2 [(2, .int (x2 + (1 : Int32))), (1, .int (x1 + v20)), (0, .ref (ox_φ X c))] dX0_sumOfBits_25 rfl rfl (by decide) rfl ?_
    refine g_goto hC 4 dX0_sumOfBits_28 (by decide) ?_
    refine g_sub [2, 1, 0] rfl ?_
    exact hK4 _ _ _ h
set_option maxHeartbeats 4000000 in
set_option maxRecDepth 100000 in
theorem lp_X0_sumOfBits_4 {X : OX} {c : OI} {post : Int32 → SS → Prop} (hC : o_C X cX0_sumOfBits RX0 wsX0_sumOfBits 1 20 3) (hR : o_RI X cX0_sumOfBits post) (hc : o_Cl c) : ∀ (n : Nat) (a : Int32 × Int32) (σ : SS), LP_X0_sumOfBits_4 c post n a σ → o_G X σ 4 [(0, .ref (ox_φ X c)), (1, .int a.1), (2, .int a.2)] [] :=
 o_lp_G (fun K hK a σ h => wb_X0_sumOfBits_4 hC hR hc (fun x1 x2 σ h => hK (x1, x2) σ h) h)
set_option maxHeartbeats 4000000 in
set_option maxRecDepth 100000 in
theorem wv_X0_sumOfBits {X : OX} {c : OI} {post : Int32 → SS → Prop} {σ : SS} (hC : o_C X cX0_sumOfBits RX0 wsX0_sumOfBits 1 20 3) (hR : o_RI X cX0_sumOfBits post) (hc : o_Cl c) (h : V_X0_sumOfBits c σ post) : o_G X σ 0 [(0, .ref (ox_φ X c))] [] := by
  unfold V_X0_sumOfBits at h
  refine g_iconst (v := (0 : Int32)) hC dX0_sumOfBits_0 (by decide) ?_
  refine g_istore_n hC [(1, .int (0 : Int32)), (0, .ref (ox_φ X c))] dX0_sumOfBits_1 rfl (by decide) rfl ?_
  refine g_iconst (v := (0 : Int32)) hC dX0_sumOfBits_2 (by decide) ?_
  refine g_istore_n hC [(2, .int (0 : Int32)), (1, .int (0 : Int32)), (0, .ref (ox_φ X c))] dX0_sumOfBits_3 rfl (by decide) rfl ?_
  refine g_sub [2, 1, 0] rfl ?_
  obtain ⟨n, h⟩ := h
  exact lp_X0_sumOfBits_4 hC hR hc n _ _ h
set_option maxRecDepth 100000 in
theorem c_X0_sumOfBits {l : Launch} {φ : OI → Nat} {D : va_G} {cI cB : ClassId} (hJ : o_J φ) {c : OI} (hc : o_Cl c) {σ : SS} {post : Int32 → SS → Prop} (h : V_X0_sumOfBits c σ post) : o_Mi l φ D cI cB yX0_sumOfBits wsX0_sumOfBits 1 20 [.ref (φ c)] σ post :=
 o_met_i hJ (by decide +kernel) rfl (Nat.le_of_ble_eq_true rfl) (fun p e s m args below meth c Q hC hR => wv_X0_sumOfBits hC hR hc h)
theorem hd_X1_roundedUpTenths : yX1_roundedUpTenths.cls ≠ "java/lang/invoke/MethodHandle" ∧ yX1_roundedUpTenths.cls ≠ "java/lang/invoke/VarHandle" ∧ (parseMethodDescriptor yX1_roundedUpTenths.desc).map (fun d => d.parameters.length) = some 2 := by decide +kernel
set_option maxHeartbeats 4000000 in
set_option maxRecDepth 100000 in
theorem wv_X1_roundedUpTenths {X : OX} {x0 : Int32} {x1 : Int32} {post : Int32 → SS → Prop} {σ : SS} (hC : o_C X cX1_roundedUpTenths RX1 wsX1_roundedUpTenths 0 0 2) (hR : o_RI X cX1_roundedUpTenths post) (h : V_X1_roundedUpTenths x0 x1 σ post) : o_G X σ 0 [(0, .int x0), (1, .int x1)] [] := by
  unfold V_X1_roundedUpTenths at h
  refine g_iload_n hC 0 dX1_roundedUpTenths_0 rfl rfl ?_
  refine g_iload_n hC 1 dX1_roundedUpTenths_1 rfl rfl ?_
  refine g_imul hC dX1_roundedUpTenths_2 ?_
  refine g_bipush (v := (9 : Int32)) hC dX1_roundedUpTenths_3 (by decide) ?_
  refine g_iadd hC dX1_roundedUpTenths_5 ?_
  refine g_bipush (v := (10 : Int32)) hC dX1_roundedUpTenths_6 (by decide) ?_
  refine g_idiv hC (by decide) dX1_roundedUpTenths_8 ?_
  exact hR _ _ _ _ dX1_roundedUpTenths_9 h
set_option maxRecDepth 100000 in
theorem c_X1_roundedUpTenths {l : Launch} {φ : OI → Nat} {D : va_G} {cI cB : ClassId} (hJ : o_J φ) {x0 : Int32} {x1 : Int32} {σ : SS} {post : Int32 → SS → Prop} (h : V_X1_roundedUpTenths x0 x1 σ post) : o_Mi l φ D cI cB yX1_roundedUpTenths wsX1_roundedUpTenths 0 0 [.int x0, .int x1] σ post :=
 o_met_i hJ (by decide +kernel) rfl (Nat.le_of_ble_eq_true rfl) (fun p e s m args below meth c Q hC hR => wv_X1_roundedUpTenths hC hR h)
theorem hd_X1_losesOf : yX1_losesOf.cls = RX1 ∧ yX1_losesOf.cls ≠ "java/lang/invoke/MethodHandle" ∧ yX1_losesOf.cls ≠ "java/lang/invoke/VarHandle" ∧ (parseMethodDescriptor yX1_losesOf.desc).map (fun d => d.parameters.length) = some 2 := by decide +kernel
set_option maxHeartbeats 4000000 in
set_option maxRecDepth 100000 in
theorem wv_X1_losesOf {X : OX} {j : Nat} {x1 : Int32} {x2 : Int32} {post : Int32 → SS → Prop} {σ : SS} (hC : o_C X cX1_losesOf RX1 wsX1_losesOf 1 21 3) (hR : o_RI X cX1_losesOf post) (hj : j < 5) (h : V_X1_losesOf j x1 x2 σ post) : o_G X σ 0 [(0, .ref (ox_φ X (6, 0, j))), (1, .int x1), (2, .int x2)] [] := by
  unfold V_X1_losesOf at h
  refine g_iload_n hC 1 dX1_losesOf_0 rfl rfl ?_
  refine g_iload_n hC 2 dX1_losesOf_1 rfl rfl ?_
  refine g_ri (r_S (As := [.int x1, .int x2]) (rest := []) hC (c_X1_roundedUpTenths (l := ox_l X) (φ := ox_φ X) (D := ox_D X) (cI := ox_I X) (cB := ox_B X) hC.J  h) gX1_losesOf_X1_roundedUpTenths rfl hd_X1_roundedUpTenths ⟨Nat.le_of_ble_eq_true rfl, Nat.le_of_ble_eq_true rfl⟩ rfl rfl (Nat.le_of_ble_eq_true rfl) dX1_losesOf_2) (fun v2 s2 h => ?_)
  exact hR _ _ _ _ dX1_losesOf_5 h
set_option maxRecDepth 100000 in
theorem c_X1_losesOf {l : Launch} {φ : OI → Nat} {D : va_G} {cI cB : ClassId} (hJ : o_J φ) {j : Nat} {x1 : Int32} {x2 : Int32} (hj : j < 5) {σ : SS} {post : Int32 → SS → Prop} (h : V_X1_losesOf j x1 x2 σ post) : o_Mi l φ D cI cB yX1_losesOf wsX1_losesOf 1 21 [.ref (φ (6, 0, j)), .int x1, .int x2] σ post :=
 o_met_i hJ (by decide +kernel) rfl (Nat.le_of_ble_eq_true rfl) (fun p e s m args below meth c Q hC hR => wv_X1_losesOf hC hR hj h)
theorem hd_X1_givesOf : yX1_givesOf.cls = RX1 ∧ yX1_givesOf.cls ≠ "java/lang/invoke/MethodHandle" ∧ yX1_givesOf.cls ≠ "java/lang/invoke/VarHandle" ∧ (parseMethodDescriptor yX1_givesOf.desc).map (fun d => d.parameters.length) = some 2 := by decide +kernel
set_option maxHeartbeats 4000000 in
set_option maxRecDepth 100000 in
theorem wv_X1_givesOf {X : OX} {j : Nat} {x1 : Int32} {x2 : Int32} {post : Int32 → SS → Prop} {σ : SS} (hC : o_C X cX1_givesOf RX1 wsX1_givesOf 0 0 3) (hR : o_RI X cX1_givesOf post) (hj : j < 5) (h : V_X1_givesOf j x1 x2 σ post) : o_G X σ 0 [(0, .ref (ox_φ X (6, 0, j))), (1, .int x1), (2, .int x2)] [] := by
  unfold V_X1_givesOf at h
  refine g_iload_n hC 1 dX1_givesOf_0 rfl rfl ?_
  refine g_iload_n hC 2 dX1_givesOf_1 rfl rfl ?_
  refine g_ior hC dX1_givesOf_2 ?_
  exact hR _ _ _ _ dX1_givesOf_3 h
set_option maxRecDepth 100000 in
theorem c_X1_givesOf {l : Launch} {φ : OI → Nat} {D : va_G} {cI cB : ClassId} (hJ : o_J φ) {j : Nat} {x1 : Int32} {x2 : Int32} (hj : j < 5) {σ : SS} {post : Int32 → SS → Prop} (h : V_X1_givesOf j x1 x2 σ post) : o_Mi l φ D cI cB yX1_givesOf wsX1_givesOf 0 0 [.ref (φ (6, 0, j)), .int x1, .int x2] σ post :=
 o_met_i hJ (by decide +kernel) rfl (Nat.le_of_ble_eq_true rfl) (fun p e s m args below meth c Q hC hR => wv_X1_givesOf hC hR hj h)
theorem hd_X1_takesOf : yX1_takesOf.cls = RX1 ∧ yX1_takesOf.cls ≠ "java/lang/invoke/MethodHandle" ∧ yX1_takesOf.cls ≠ "java/lang/invoke/VarHandle" ∧ (parseMethodDescriptor yX1_takesOf.desc).map (fun d => d.parameters.length) = some 2 := by decide +kernel
set_option maxHeartbeats 4000000 in
set_option maxRecDepth 100000 in
theorem wv_X1_takesOf {X : OX} {j : Nat} {x1 : Int32} {x2 : Int32} {post : Int32 → SS → Prop} {σ : SS} (hC : o_C X cX1_takesOf RX1 wsX1_takesOf 0 0 3) (hR : o_RI X cX1_takesOf post) (hj : j < 5) (h : V_X1_takesOf j x1 x2 σ post) : o_G X σ 0 [(0, .ref (ox_φ X (6, 0, j))), (1, .int x1), (2, .int x2)] [] := by
  unfold V_X1_takesOf at h
  refine g_iload_n hC 1 dX1_takesOf_0 rfl rfl ?_
  exact hR _ _ _ _ dX1_takesOf_1 h
set_option maxRecDepth 100000 in
theorem c_X1_takesOf {l : Launch} {φ : OI → Nat} {D : va_G} {cI cB : ClassId} (hJ : o_J φ) {j : Nat} {x1 : Int32} {x2 : Int32} (hj : j < 5) {σ : SS} {post : Int32 → SS → Prop} (h : V_X1_takesOf j x1 x2 σ post) : o_Mi l φ D cI cB yX1_takesOf wsX1_takesOf 0 0 [.ref (φ (6, 0, j)), .int x1, .int x2] σ post :=
 o_met_i hJ (by decide +kernel) rfl (Nat.le_of_ble_eq_true rfl) (fun p e s m args below meth c Q hC hR => wv_X1_takesOf hC hR hj h)
theorem hd_X1_forgetsOf : yX1_forgetsOf.cls = RX1 ∧ yX1_forgetsOf.cls ≠ "java/lang/invoke/MethodHandle" ∧ yX1_forgetsOf.cls ≠ "java/lang/invoke/VarHandle" ∧ (parseMethodDescriptor yX1_forgetsOf.desc).map (fun d => d.parameters.length) = some 2 := by decide +kernel
set_option maxHeartbeats 4000000 in
set_option maxRecDepth 100000 in
theorem wv_X1_forgetsOf {X : OX} {j : Nat} {x1 : Int32} {x2 : Int32} {post : Int32 → SS → Prop} {σ : SS} (hC : o_C X cX1_forgetsOf RX1 wsX1_forgetsOf 1 21 3) (hR : o_RI X cX1_forgetsOf post) (hj : j < 5) (h : V_X1_forgetsOf j x1 x2 σ post) : o_G X σ 0 [(0, .ref (ox_φ X (6, 0, j))), (1, .int x1), (2, .int x2)] [] := by
  unfold V_X1_forgetsOf at h
  refine g_iload_n hC 1 dX1_forgetsOf_0 rfl rfl ?_
  refine g_iload_n hC 2 dX1_forgetsOf_1 rfl rfl ?_
  refine g_ri (r_S (As := [.int x1, .int x2]) (rest := []) hC (c_X1_roundedUpTenths (l := ox_l X) (φ := ox_φ X) (D := ox_D X) (cI := ox_I X) (cB := ox_B X) hC.J  h) gX1_forgetsOf_X1_roundedUpTenths rfl hd_X1_roundedUpTenths ⟨Nat.le_of_ble_eq_true rfl, Nat.le_of_ble_eq_true rfl⟩ rfl rfl (Nat.le_of_ble_eq_true rfl) dX1_forgetsOf_2) (fun v2 s2 h => ?_)
  exact hR _ _ _ _ dX1_forgetsOf_5 h
set_option maxRecDepth 100000 in
theorem c_X1_forgetsOf {l : Launch} {φ : OI → Nat} {D : va_G} {cI cB : ClassId} (hJ : o_J φ) {j : Nat} {x1 : Int32} {x2 : Int32} (hj : j < 5) {σ : SS} {post : Int32 → SS → Prop} (h : V_X1_forgetsOf j x1 x2 σ post) : o_Mi l φ D cI cB yX1_forgetsOf wsX1_forgetsOf 1 21 [.ref (φ (6, 0, j)), .int x1, .int x2] σ post :=
 o_met_i hJ (by decide +kernel) rfl (Nat.le_of_ble_eq_true rfl) (fun p e s m args below meth c Q hC hR => wv_X1_forgetsOf hC hR hj h)
theorem hd_X2_takesOf : yX2_takesOf.cls = RX2 ∧ yX2_takesOf.cls ≠ "java/lang/invoke/MethodHandle" ∧ yX2_takesOf.cls ≠ "java/lang/invoke/VarHandle" ∧ (parseMethodDescriptor yX2_takesOf.desc).map (fun d => d.parameters.length) = some 2 := by decide +kernel
set_option maxHeartbeats 4000000 in
set_option maxRecDepth 100000 in
theorem wv_X2_takesOf {X : OX} {j : Nat} {x1 : Int32} {x2 : Int32} {post : Int32 → SS → Prop} {σ : SS} (hC : o_C X cX2_takesOf RX2 wsX2_takesOf 0 0 3) (hR : o_RI X cX2_takesOf post) (hj : j < 5) (h : V_X2_takesOf j x1 x2 σ post) : o_G X σ 0 [(0, .ref (ox_φ X (6, 0, j))), (1, .int x1), (2, .int x2)] [] := by
  unfold V_X2_takesOf at h
  refine g_iload_n hC 1 dX2_takesOf_0 rfl rfl ?_
  refine g_iload_n hC 2 dX2_takesOf_1 rfl rfl ?_
  refine g_iand hC dX2_takesOf_2 ?_
  exact hR _ _ _ _ dX2_takesOf_3 h
set_option maxRecDepth 100000 in
theorem c_X2_takesOf {l : Launch} {φ : OI → Nat} {D : va_G} {cI cB : ClassId} (hJ : o_J φ) {j : Nat} {x1 : Int32} {x2 : Int32} (hj : j < 5) {σ : SS} {post : Int32 → SS → Prop} (h : V_X2_takesOf j x1 x2 σ post) : o_Mi l φ D cI cB yX2_takesOf wsX2_takesOf 0 0 [.ref (φ (6, 0, j)), .int x1, .int x2] σ post :=
 o_met_i hJ (by decide +kernel) rfl (Nat.le_of_ble_eq_true rfl) (fun p e s m args below meth c Q hC hR => wv_X2_takesOf hC hR hj h)
theorem kw_X3_length_1 : Cond.fieldLink RX3 20 "SchoolRow$Page" "length" "I" ∈ wsX3_length := List.mem_of_getElem? (i := 1) (by decide +kernel)
theorem ki_X3_length_X3 : ∀ w ∈ wsX30, w ∈ wsX3_length := fun _ h => List.mem_cons_of_mem _ (List.mem_append_right _ h)
theorem hd_X3_length : yX3_length.cls = RX3 ∧ yX3_length.cls ≠ "java/lang/invoke/MethodHandle" ∧ yX3_length.cls ≠ "java/lang/invoke/VarHandle" ∧ (parseMethodDescriptor yX3_length.desc).map (fun d => d.parameters.length) = some 0 := by decide +kernel
set_option maxHeartbeats 4000000 in
set_option maxRecDepth 100000 in
theorem wv_X3_length {X : OX} {post : Int32 → SS → Prop} {σ : SS} (hC : o_C X cX3_length RX3 wsX3_length 0 0 1) (hR : o_RI X cX3_length post) (h : V_X3_length σ post) : o_G X σ 0 [(0, .ref (ox_φ X (1, 0, 0)))] [] := by
  unfold V_X3_length at h
  refine g_aload_n hC 0 dX3_length_0 rfl rfl ?_
  refine g_get (C := RX3) (T := TX3) (N := 2) (v := .int (σ.1 (1, 0, 0) 1)) hC o_iX3 (o_eX3 _ _ _ _) rfl ki_X3_length_X3 1 (by decide) kw_X3_length_1 rfl dX3_length_1 ?_
  exact hR _ _ _ _ dX3_length_4 h
set_option maxRecDepth 100000 in
theorem c_X3_length {l : Launch} {φ : OI → Nat} {D : va_G} {cI cB : ClassId} (hJ : o_J φ) {σ : SS} {post : Int32 → SS → Prop} (h : V_X3_length σ post) : o_Mi l φ D cI cB yX3_length wsX3_length 0 0 [.ref (φ (1, 0, 0))] σ post :=
 o_met_i hJ (by decide +kernel) rfl (Nat.le_of_ble_eq_true rfl) (fun p e s m args below meth c Q hC hR => wv_X3_length hC hR h)
theorem kw_X3_letterAt_1 : Cond.fieldLink RX3 14 "SchoolRow$Page" "letters" "LSchoolRow$Cells;" ∈ wsX3_letterAt := List.mem_of_getElem? (i := 1) (by decide +kernel)
theorem ki_X3_letterAt_X3 : ∀ w ∈ wsX30, w ∈ wsX3_letterAt := fun _ h => List.mem_cons_of_mem _ (List.mem_append_left _ (List.mem_append_right _ h))
theorem hd_X3_letterAt : yX3_letterAt.cls = RX3 ∧ yX3_letterAt.cls ≠ "java/lang/invoke/MethodHandle" ∧ yX3_letterAt.cls ≠ "java/lang/invoke/VarHandle" ∧ (parseMethodDescriptor yX3_letterAt.desc).map (fun d => d.parameters.length) = some 1 := by decide +kernel
set_option maxHeartbeats 4000000 in
set_option maxRecDepth 100000 in
theorem wv_X3_letterAt {X : OX} {x1 : Int32} {post : Int32 → SS → Prop} {σ : SS} (hC : o_C X cX3_letterAt RX3 wsX3_letterAt 1 21 2) (hR : o_RI X cX3_letterAt post) (h : V_X3_letterAt x1 σ post) : o_G X σ 0 [(0, .ref (ox_φ X (1, 0, 0))), (1, .int x1)] [] := by
  unfold V_X3_letterAt at h
  refine g_aload_n hC 0 dX3_letterAt_0 rfl rfl ?_
  refine g_get (C := RX3) (T := TX3) (N := 2) (v := .ref (ox_φ X (10, 0, 0))) hC o_iX3 (o_eX3 _ _ _ _) rfl ki_X3_letterAt_X3 0 (by decide) kw_X3_letterAt_1 rfl dX3_letterAt_1 ?_
  refine g_iload_n hC 1 dX3_letterAt_4 rfl rfl ?_
  refine g_ri (r_V (C := RX0) (T := TX0) (N := 1) (As := [.int x1]) (rest := []) hC (o_Cl10 0 (by decide)).1 ((o_Cl10 0 (by decide)).2.1 _ _ _ _) rfl (c_X0_at (l := ox_l X) (φ := ox_φ X) (D := ox_D X) (cI := ox_I X) (cB := ox_B X) hC.J (o_Cl10 0 (by decide)) h) gX3_letterAt_X0_at rfl hd_X0_at ⟨Nat.le_of_ble_eq_true rfl, Nat.le_of_ble_eq_true rfl⟩ rfl rfl (Nat.le_of_ble_eq_true rfl) dX3_letterAt_5) (fun v5 s5 h => ?_)
  exact hR _ _ _ _ dX3_letterAt_8 h
set_option maxRecDepth 100000 in
theorem c_X3_letterAt {l : Launch} {φ : OI → Nat} {D : va_G} {cI cB : ClassId} (hJ : o_J φ) {x1 : Int32} {σ : SS} {post : Int32 → SS → Prop} (h : V_X3_letterAt x1 σ post) : o_Mi l φ D cI cB yX3_letterAt wsX3_letterAt 1 21 [.ref (φ (1, 0, 0)), .int x1] σ post :=
 o_met_i hJ (by decide +kernel) rfl (Nat.le_of_ble_eq_true rfl) (fun p e s m args below meth c Q hC hR => wv_X3_letterAt hC hR h)
theorem kw_X3_add_1 : Cond.fieldLink RX3 20 "SchoolRow$Page" "length" "I" ∈ wsX3_add := List.mem_of_getElem? (i := 1) (by decide +kernel)
theorem kw_X3_add_2 : Cond.fieldLink RX3 14 "SchoolRow$Page" "letters" "LSchoolRow$Cells;" ∈ wsX3_add := List.mem_of_getElem? (i := 2) (by decide +kernel)
theorem ki_X3_add_X3 : ∀ w ∈ wsX30, w ∈ wsX3_add := fun _ h => List.mem_cons_of_mem _ (List.mem_append_left _ (List.mem_append_right _ h))
theorem hd_X3_add : yX3_add.cls = RX3 ∧ yX3_add.cls ≠ "java/lang/invoke/MethodHandle" ∧ yX3_add.cls ≠ "java/lang/invoke/VarHandle" ∧ (parseMethodDescriptor yX3_add.desc).map (fun d => d.parameters.length) = some 1 := by decide +kernel
set_option maxHeartbeats 4000000 in
set_option maxRecDepth 100000 in
theorem wb_X3_add_31 {X : OX} {post : SS → Prop} {σ : SS} (hC : o_C X cX3_add RX3 wsX3_add 1 22 2) (hR : o_RV X cX3_add post) (h : VB_X3_add_31 post σ) : o_G X σ 31 [] [] := by
  unfold VB_X3_add_31 at h
  exact hR _ _ _ dX3_add_31 h
set_option maxHeartbeats 4000000 in
set_option maxRecDepth 100000 in
theorem wv_X3_add {X : OX} {x1 : Int32} {post : SS → Prop} {σ : SS} (hC : o_C X cX3_add RX3 wsX3_add 1 22 2) (hR : o_RV X cX3_add post) (h : V_X3_add x1 σ post) : o_G X σ 0 [(0, .ref (ox_φ X (1, 0, 0))), (1, .int x1)] [] := by
  unfold V_X3_add at h
  refine g_aload_n hC 0 dX3_add_0 rfl rfl ?_
  refine g_get (C := RX3) (T := TX3) (N := 2) (v := .int (σ.1 (1, 0, 0) 1)) hC o_iX3 (o_eX3 _ _ _ _) rfl ki_X3_add_X3 1 (by decide) kw_X3_add_1 rfl dX3_add_1 ?_
  refine g_bipush (v := (14 : Int32)) hC dX3_add_4 (by decide) ?_
  refine g_icmp_ge hC 31 dX3_add_6 (by decide) (fun z => ?_) (fun z => ?_)
  · have h := h.1 z
    refine g_sub [] rfl ?_
    exact wb_X3_add_31 hC hR h
  · have h := h.2 z
    refine g_aload_n hC 0 dX3_add_9 rfl rfl ?_
    refine g_get (C := RX3) (T := TX3) (N := 2) (v := .ref (ox_φ X (10, 0, 0))) hC o_iX3 (o_eX3 _ _ _ _) rfl ki_X3_add_X3 0 (by decide) kw_X3_add_2 rfl dX3_add_10 ?_
    refine g_aload_n hC 0 dX3_add_13 rfl rfl ?_
    refine g_get (C := RX3) (T := TX3) (N := 2) (v := .int (σ.1 (1, 0, 0) 1)) hC o_iX3 (o_eX3 _ _ _ _) rfl ki_X3_add_X3 1 (by decide) kw_X3_add_1 rfl dX3_add_14 ?_
    refine g_iload_n hC 1 dX3_add_17 rfl rfl ?_
    refine g_rv (r_V (C := RX0) (T := TX0) (N := 1) (As := [.int (σ.1 (1, 0, 0) 1), .int x1]) (rest := []) hC (o_Cl10 0 (by decide)).1 ((o_Cl10 0 (by decide)).2.1 _ _ _ _) rfl (c_X0_put (l := ox_l X) (φ := ox_φ X) (D := ox_D X) (cI := ox_I X) (cB := ox_B X) hC.J (o_Cl10 0 (by decide)) h) gX3_add_X0_put rfl hd_X0_put ⟨Nat.le_of_ble_eq_true rfl, Nat.le_of_ble_eq_true rfl⟩ rfl rfl (Nat.le_of_ble_eq_true rfl) dX3_add_18) (fun s18 h => ?_)
    refine g_aload_n hC 0 dX3_add_21 rfl rfl ?_
    refine g_dup hC dX3_add_22 rfl ?_
    refine g_get (C := RX3) (T := TX3) (N := 2) (v := .int (s18.1 (1, 0, 0) 1)) hC o_iX3 (o_eX3 _ _ _ _) rfl ki_X3_add_X3 1 (by decide) kw_X3_add_1 rfl dX3_add_23 ?_
    refine g_iconst (v := (1 : Int32)) hC dX3_add_26 (by decide) ?_
    refine g_iadd hC dX3_add_27 ?_
    refine g_puti (C := RX3) (T := TX3) (N := 2) hC o_iX3 (o_eX3 _ _ _ _) rfl ki_X3_add_X3 tyX3_ok nmX3 1 (by decide) kw_X3_add_1 rfl rfl rfl (Nat.le_of_ble_eq_true rfl) (o_pX3_1 _ _ _ _ _) dX3_add_28 ?_
    refine g_sub [] rfl ?_
    exact wb_X3_add_31 hC hR h
set_option maxRecDepth 100000 in
theorem c_X3_add {l : Launch} {φ : OI → Nat} {D : va_G} {cI cB : ClassId} (hJ : o_J φ) {x1 : Int32} {σ : SS} {post : SS → Prop} (h : V_X3_add x1 σ post) : o_Mv l φ D cI cB yX3_add wsX3_add 1 22 [.ref (φ (1, 0, 0)), .int x1] σ post :=
 o_met_v hJ (by decide +kernel) rfl (Nat.le_of_ble_eq_true rfl) (fun p e s m args below meth c Q hC hR => wv_X3_add hC hR h)
theorem kw_X3_clear_1 : Cond.fieldLink RX3 20 "SchoolRow$Page" "length" "I" ∈ wsX3_clear := List.mem_of_getElem? (i := 1) (by decide +kernel)
theorem ki_X3_clear_X3 : ∀ w ∈ wsX30, w ∈ wsX3_clear := fun _ h => List.mem_cons_of_mem _ (List.mem_append_right _ h)
theorem hd_X3_clear : yX3_clear.cls = RX3 ∧ yX3_clear.cls ≠ "java/lang/invoke/MethodHandle" ∧ yX3_clear.cls ≠ "java/lang/invoke/VarHandle" ∧ (parseMethodDescriptor yX3_clear.desc).map (fun d => d.parameters.length) = some 0 := by decide +kernel
set_option maxHeartbeats 4000000 in
set_option maxRecDepth 100000 in
theorem wv_X3_clear {X : OX} {post : SS → Prop} {σ : SS} (hC : o_C X cX3_clear RX3 wsX3_clear 0 0 1) (hR : o_RV X cX3_clear post) (h : V_X3_clear σ post) : o_G X σ 0 [(0, .ref (ox_φ X (1, 0, 0)))] [] := by
  unfold V_X3_clear at h
  refine g_aload_n hC 0 dX3_clear_0 rfl rfl ?_
  refine g_iconst (v := (0 : Int32)) hC dX3_clear_1 (by decide) ?_
  refine g_puti (C := RX3) (T := TX3) (N := 2) hC o_iX3 (o_eX3 _ _ _ _) rfl ki_X3_clear_X3 tyX3_ok nmX3 1 (by decide) kw_X3_clear_1 rfl rfl rfl (Nat.le_of_ble_eq_true rfl) (o_pX3_1 _ _ _ _ _) dX3_clear_2 ?_
  exact hR _ _ _ dX3_clear_5 h
set_option maxRecDepth 100000 in
theorem c_X3_clear {l : Launch} {φ : OI → Nat} {D : va_G} {cI cB : ClassId} (hJ : o_J φ) {σ : SS} {post : SS → Prop} (h : V_X3_clear σ post) : o_Mv l φ D cI cB yX3_clear wsX3_clear 0 0 [.ref (φ (1, 0, 0))] σ post :=
 o_met_v hJ (by decide +kernel) rfl (Nat.le_of_ble_eq_true rfl) (fun p e s m args below meth c Q hC hR => wv_X3_clear hC hR h)
theorem hd_X5_kindBy : yX5_kindBy.cls ≠ "java/lang/invoke/MethodHandle" ∧ yX5_kindBy.cls ≠ "java/lang/invoke/VarHandle" ∧ (parseMethodDescriptor yX5_kindBy.desc).map (fun d => d.parameters.length) = some 1 := by decide +kernel
set_option maxHeartbeats 4000000 in
set_option maxRecDepth 100000 in
theorem wv_X5_kindBy {X : OX} {x0 : Int32} {post : Int32 → SS → Prop} {σ : SS} (hC : o_C X cX5_kindBy RX5 wsX5_kindBy 0 0 1) (hR : o_RI X cX5_kindBy post) (h : V_X5_kindBy x0 σ post) : o_G X σ 0 [(0, .int x0)] [] := by
  unfold V_X5_kindBy at h
  refine g_iload_n hC 0 dX5_kindBy_0 rfl rfl ?_
  by_cases z0 : x0 = (99 : Int32)
  · have h := h.1 z0
    refine g_lookup (off := 51) hC 52 dX5_kindBy_1 (by decide) (by rw [z0]; decide) (by decide) ?_
    refine g_iconst (v := (0 : Int32)) hC dX5_kindBy_52 (by decide) ?_
    exact hR _ _ _ _ dX5_kindBy_53 h
  · skip
    by_cases z1 : x0 = (100 : Int32)
    · have h := h.2.1 z1
      refine g_lookup (off := 55) hC 56 dX5_kindBy_1 (by decide) (by rw [z1]; decide) (by decide) ?_
      refine g_iconst (v := (2 : Int32)) hC dX5_kindBy_56 (by decide) ?_
      exact hR _ _ _ _ dX5_kindBy_57 h
    · skip
      by_cases z2 : x0 = (103 : Int32)
      · have h := h.2.2.1 z2
        refine g_lookup (off := 57) hC 58 dX5_kindBy_1 (by decide) (by rw [z2]; decide) (by decide) ?_
        refine g_iconst (v := (3 : Int32)) hC dX5_kindBy_58 (by decide) ?_
        exact hR _ _ _ _ dX5_kindBy_59 h
      · skip
        by_cases z3 : x0 = (104 : Int32)
        · have h := h.2.2.2.1 z3
          refine g_lookup (off := 59) hC 60 dX5_kindBy_1 (by decide) (by rw [z3]; decide) (by decide) ?_
          refine g_iconst (v := (4 : Int32)) hC dX5_kindBy_60 (by decide) ?_
          exact hR _ _ _ _ dX5_kindBy_61 h
        · skip
          by_cases z4 : x0 = (115 : Int32)
          · have h := h.2.2.2.2.1 z4
            refine g_lookup (off := 53) hC 54 dX5_kindBy_1 (by decide) (by rw [z4]; decide) (by decide) ?_
            refine g_iconst (v := (1 : Int32)) hC dX5_kindBy_54 (by decide) ?_
            exact hR _ _ _ _ dX5_kindBy_55 h
          · skip
            have h := h.2.2.2.2.2 ⟨z0, z1, z2, z3, z4⟩
            refine g_lookup (off := 61) hC 62 dX5_kindBy_1 (by decide) (by show Op.lookupswitch.offset [(99, 51), (100, 55), (103, 57), (104, 59), (115, 53)] 61 _ = _; rw [lv_osw z0 (by decide), lv_osw z1 (by decide), lv_osw z2 (by decide), lv_osw z3 (by decide), lv_osw z4 (by decide)]; rfl) (by decide) ?_
            refine g_iconst (v := (-1 : Int32)) hC dX5_kindBy_62 (by decide) ?_
            exact hR _ _ _ _ dX5_kindBy_63 h
set_option maxRecDepth 100000 in
theorem c_X5_kindBy {l : Launch} {φ : OI → Nat} {D : va_G} {cI cB : ClassId} (hJ : o_J φ) {x0 : Int32} {σ : SS} {post : Int32 → SS → Prop} (h : V_X5_kindBy x0 σ post) : o_Mi l φ D cI cB yX5_kindBy wsX5_kindBy 0 0 [.int x0] σ post :=
 o_met_i hJ (by decide +kernel) rfl (Nat.le_of_ble_eq_true rfl) (fun p e s m args below meth c Q hC hR => wv_X5_kindBy hC hR h)
theorem hd_X3_mayStand : yX3_mayStand.cls ≠ "java/lang/invoke/MethodHandle" ∧ yX3_mayStand.cls ≠ "java/lang/invoke/VarHandle" ∧ (parseMethodDescriptor yX3_mayStand.desc).map (fun d => d.parameters.length) = some 2 := by decide +kernel
set_option maxHeartbeats 4000000 in
set_option maxRecDepth 100000 in
theorem wb_X3_mayStand_22 {X : OX} {post : Int32 → SS → Prop} {t0 : Int32} {σ : SS} (hC : o_C X cX3_mayStand RX3 wsX3_mayStand 1 20 2) (hR : o_RZ X cX3_mayStand post) (h : VB_X3_mayStand_22 post t0 σ) : o_G X σ 22 [] [.int t0] := by
  unfold VB_X3_mayStand_22 at h
  exact hR _ _ _ _ dX3_mayStand_22 h
set_option maxHeartbeats 4000000 in
set_option maxRecDepth 100000 in
theorem wb_X3_mayStand_21 {X : OX} {post : Int32 → SS → Prop} {σ : SS} (hC : o_C X cX3_mayStand RX3 wsX3_mayStand 1 20 2) (hR : o_RZ X cX3_mayStand post) (h : VB_X3_mayStand_21 post σ) : o_G X σ 21 [] [] := by
  unfold VB_X3_mayStand_21 at h
  refine g_iconst (v := (0 : Int32)) hC dX3_mayStand_21 (by decide) ?_
  exact wb_X3_mayStand_22 hC hR h
set_option maxHeartbeats 4000000 in
set_option maxRecDepth 100000 in
theorem wb_X3_mayStand_46 {X : OX} {post : Int32 → SS → Prop} {t0 : Int32} {σ : SS} (hC : o_C X cX3_mayStand RX3 wsX3_mayStand 1 20 2) (hR : o_RZ X cX3_mayStand post) (h : VB_X3_mayStand_46 post t0 σ) : o_G X σ 46 [] [.int t0] := by
  unfold VB_X3_mayStand_46 at h
  exact hR _ _ _ _ dX3_mayStand_46 h
set_option maxHeartbeats 4000000 in
set_option maxRecDepth 100000 in
theorem wb_X3_mayStand_45 {X : OX} {post : Int32 → SS → Prop} {σ : SS} (hC : o_C X cX3_mayStand RX3 wsX3_mayStand 1 20 2) (hR : o_RZ X cX3_mayStand post) (h : VB_X3_mayStand_45 post σ) : o_G X σ 45 [] [] := by
  unfold VB_X3_mayStand_45 at h
  refine g_iconst (v := (0 : Int32)) hC dX3_mayStand_45 (by decide) ?_
  exact wb_X3_mayStand_46 hC hR h
set_option maxHeartbeats 4000000 in
set_option maxRecDepth 100000 in
theorem wb_X3_mayStand_64 {X : OX} {post : Int32 → SS → Prop} {t0 : Int32} {σ : SS} (hC : o_C X cX3_mayStand RX3 wsX3_mayStand 1 20 2) (hR : o_RZ X cX3_mayStand post) (h : VB_X3_mayStand_64 post t0 σ) : o_G X σ 64 [] [.int t0] := by
  unfold VB_X3_mayStand_64 at h
  exact hR _ _ _ _ dX3_mayStand_64 h
set_option maxHeartbeats 4000000 in
set_option maxRecDepth 100000 in
theorem wb_X3_mayStand_84 {X : OX} {post : Int32 → SS → Prop} {t0 : Int32} {σ : SS} (hC : o_C X cX3_mayStand RX3 wsX3_mayStand 1 20 2) (hR : o_RZ X cX3_mayStand post) (h : VB_X3_mayStand_84 post t0 σ) : o_G X σ 84 [] [.int t0] := by
  unfold VB_X3_mayStand_84 at h
  exact hR _ _ _ _ dX3_mayStand_84 h
set_option maxHeartbeats 4000000 in
set_option maxRecDepth 100000 in
theorem wb_X3_mayStand_83 {X : OX} {post : Int32 → SS → Prop} {σ : SS} (hC : o_C X cX3_mayStand RX3 wsX3_mayStand 1 20 2) (hR : o_RZ X cX3_mayStand post) (h : VB_X3_mayStand_83 post σ) : o_G X σ 83 [] [] := by
  unfold VB_X3_mayStand_83 at h
  refine g_iconst (v := (0 : Int32)) hC dX3_mayStand_83 (by decide) ?_
  exact wb_X3_mayStand_84 hC hR h
set_option maxHeartbeats 4000000 in
set_option maxRecDepth 100000 in
theorem wv_X3_mayStand {X : OX} {x0 : Int32} {x1 : Int32} {post : Int32 → SS → Prop} {σ : SS} (hC : o_C X cX3_mayStand RX3 wsX3_mayStand 1 20 2) (hR : o_RZ X cX3_mayStand post) (h : V_X3_mayStand x0 x1 σ post) : o_G X σ 0 [(0, .int x0), (1, .int x1)] [] := by
  unfold V_X3_mayStand at h
  refine g_iload_n hC 1 dX3_mayStand_0 rfl rfl ?_
  refine g_iconst (v := (2 : Int32)) hC dX3_mayStand_1 (by decide) ?_
  refine g_icmp_ge hC 23 dX3_mayStand_2 (by decide) (fun z => ?_) (fun z => ?_)
  · have h := h.1 z
    refine g_iload_n hC 1 dX3_mayStand_23 rfl rfl ?_
    refine g_bipush (v := (6 : Int32)) hC dX3_mayStand_24 (by decide) ?_
    refine g_icmp_ge hC 47 dX3_mayStand_26 (by decide) (fun z => ?_) (fun z => ?_)
    · have h := h.1 z
      refine g_iload_n hC 1 dX3_mayStand_47 rfl rfl ?_
      refine g_bipush (v := (7 : Int32)) hC dX3_mayStand_48 (by decide) ?_
      refine g_icmp_ge hC 65 dX3_mayStand_50 (by decide) (fun z => ?_) (fun z => ?_)
      · have h := h.1 z
        refine g_iload_n hC 1 dX3_mayStand_65 rfl rfl ?_
        refine g_bipush (v := (13 : Int32)) hC dX3_mayStand_66 (by decide) ?_
        refine g_icmp_ge hC 83 dX3_mayStand_68 (by decide) (fun z => ?_) (fun z => ?_)
        · have h := h.1 z
          refine g_sub [] rfl ?_
          exact wb_X3_mayStand_83 hC hR h
        · have h := h.2 z
          refine g_iload_n hC 0 dX3_mayStand_71 rfl rfl ?_
          refine g_ri (r_S (As := [.int x0]) (rest := []) hC (c_X5_kindBy (l := ox_l X) (φ := ox_φ X) (D := ox_D X) (cI := ox_I X) (cB := ox_B X) hC.J  h) gX3_mayStand_X5_kindBy rfl hd_X5_kindBy ⟨Nat.le_of_ble_eq_true rfl, Nat.le_of_ble_eq_true rfl⟩ rfl rfl (Nat.le_of_ble_eq_true rfl) dX3_mayStand_72) (fun v72 s72 h => ?_)
          refine g_iconst (v := (-1 : Int32)) hC dX3_mayStand_75 (by decide) ?_
          refine g_icmp_eq hC 83 dX3_mayStand_76 (by decide) (fun z => ?_) (fun z => ?_)
          · have h := h.1 z
            refine g_sub [] rfl ?_
            exact wb_X3_mayStand_83 hC hR h
          · have h := h.2 z
            refine g_iconst (v := (1 : Int32)) hC dX3_mayStand_79 (by decide) ?_
            refine g_goto hC 84 dX3_mayStand_80 (by decide) ?_
            refine g_sub [] rfl ?_
            exact wb_X3_mayStand_84 hC hR h
      · have h := h.2 z
        refine g_iload_n hC 0 dX3_mayStand_53 rfl rfl ?_
        refine g_bipush (v := (58 : Int32)) hC dX3_mayStand_54 (by decide) ?_
        refine g_icmp_ne hC 63 dX3_mayStand_56 (by decide) (fun z => ?_) (fun z => ?_)
        · have h := h.1 z
          refine g_iconst (v := (0 : Int32)) hC dX3_mayStand_63 (by decide) ?_
          refine g_sub [] rfl ?_
          exact wb_X3_mayStand_64 hC hR h
        · have h := h.2 z
          refine g_iconst (v := (1 : Int32)) hC dX3_mayStand_59 (by decide) ?_
          refine g_goto hC 64 dX3_mayStand_60 (by decide) ?_
          refine g_sub [] rfl ?_
          exact wb_X3_mayStand_64 hC hR h
    · have h := h.2 z
      refine g_iload_n hC 0 dX3_mayStand_29 rfl rfl ?_
      refine g_bipush (v := (49 : Int32)) hC dX3_mayStand_30 (by decide) ?_
      refine g_icmp_lt hC 45 dX3_mayStand_32 (by decide) (fun z => ?_) (fun z => ?_)
      · have h := h.1 z
        refine g_sub [] rfl ?_
        exact wb_X3_mayStand_45 hC hR h
      · have h := h.2 z
        refine g_iload_n hC 0 dX3_mayStand_35 rfl rfl ?_
        refine g_bipush (v := (57 : Int32)) hC dX3_mayStand_36 (by decide) ?_
        refine g_icmp_gt hC 45 dX3_mayStand_38 (by decide) (fun z => ?_) (fun z => ?_)
        · have h := h.1 z
          refine g_sub [] rfl ?_
          exact wb_X3_mayStand_45 hC hR h
        · have h := h.2 z
          refine g_iconst (v := (1 : Int32)) hC dX3_mayStand_41 (by decide) ?_
          refine g_goto hC 46 dX3_mayStand_42 (by decide) ?_
          refine g_sub [] rfl ?_
          exact wb_X3_mayStand_46 hC hR h
  · have h := h.2 z
    refine g_iload_n hC 0 dX3_mayStand_5 rfl rfl ?_
    refine g_bipush (v := (48 : Int32)) hC dX3_mayStand_6 (by decide) ?_
    refine g_icmp_lt hC 21 dX3_mayStand_8 (by decide) (fun z => ?_) (fun z => ?_)
    · have h := h.1 z
      refine g_sub [] rfl ?_
      exact wb_X3_mayStand_21 hC hR h
    · have h := h.2 z
      refine g_iload_n hC 0 dX3_mayStand_11 rfl rfl ?_
      refine g_bipush (v := (57 : Int32)) hC dX3_mayStand_12 (by decide) ?_
      refine g_icmp_gt hC 21 dX3_mayStand_14 (by decide) (fun z => ?_) (fun z => ?_)
      · have h := h.1 z
        refine g_sub [] rfl ?_
        exact wb_X3_mayStand_21 hC hR h
      · have h := h.2 z
        refine g_iconst (v := (1 : Int32)) hC dX3_mayStand_17 (by decide) ?_
        refine g_goto hC 22 dX3_mayStand_18 (by decide) ?_
        refine g_sub [] rfl ?_
        exact wb_X3_mayStand_22 hC hR h
set_option maxRecDepth 100000 in
theorem c_X3_mayStand {l : Launch} {φ : OI → Nat} {D : va_G} {cI cB : ClassId} (hJ : o_J φ) {x0 : Int32} {x1 : Int32} {σ : SS} {post : Int32 → SS → Prop} (h : V_X3_mayStand x0 x1 σ post) : o_Mi l φ D cI cB yX3_mayStand wsX3_mayStand 1 20 [.int x0, .int x1] σ post :=
 o_met_z hJ (by decide +kernel) rfl (Nat.le_of_ble_eq_true rfl) (fun p e s m args below meth c Q hC hR => wv_X3_mayStand hC hR h)
theorem kw_X3_firstFault_1 : Cond.fieldLink RX3 20 "SchoolRow$Page" "length" "I" ∈ wsX3_firstFault := List.mem_of_getElem? (i := 1) (by decide +kernel)
theorem kw_X3_firstFault_2 : Cond.fieldLink RX3 14 "SchoolRow$Page" "letters" "LSchoolRow$Cells;" ∈ wsX3_firstFault := List.mem_of_getElem? (i := 2) (by decide +kernel)
theorem ki_X3_firstFault_X3 : ∀ w ∈ wsX30, w ∈ wsX3_firstFault := fun _ h => List.mem_cons_of_mem _ (List.mem_append_left _ (List.mem_append_right _ h))
theorem hd_X3_firstFault : yX3_firstFault.cls = RX3 ∧ yX3_firstFault.cls ≠ "java/lang/invoke/MethodHandle" ∧ yX3_firstFault.cls ≠ "java/lang/invoke/VarHandle" ∧ (parseMethodDescriptor yX3_firstFault.desc).map (fun d => d.parameters.length) = some 0 := by decide +kernel
set_option maxHeartbeats 4000000 in
set_option maxRecDepth 100000 in
theorem wb_X3_firstFault_2 {X : OX} {post : Int32 → SS → Prop} {K2 : Int32 → SS → Prop} {x1 : Int32} {σ : SS} (hC : o_C X cX3_firstFault RX3 wsX3_firstFault 2 41 2) (hR : o_RI X cX3_firstFault post) (hK2 : ∀ (x1 : Int32) (σ : SS), K2 x1 σ → o_G X σ 2 [(0, .ref (ox_φ X (1, 0, 0))), (1, .int x1)] []) (h : VB_X3_firstFault_2 post K2 x1 σ) : o_G X σ 2 [(0, .ref (ox_φ X (1, 0, 0))), (1, .int x1)] [] := by
  unfold VB_X3_firstFault_2 at h
  refine g_iload_n hC 1 dX3_firstFault_2 rfl rfl ?_
  refine g_aload_n hC 0 dX3_firstFault_3 rfl rfl ?_
  refine g_get (C := RX3) (T := TX3) (N := 2) (v := .int (σ.1 (1, 0, 0) 1)) hC o_iX3 (o_eX3 _ _ _ _) rfl ki_X3_firstFault_X3 1 (by decide) kw_X3_firstFault_1 rfl dX3_firstFault_4 ?_
  refine g_icmp_ge hC 33 dX3_firstFault_7 (by decide) (fun z => ?_) (fun z => ?_)
  · have h := h.1 z
    refine g_aload_n hC 0 dX3_firstFault_33 rfl rfl ?_
    refine g_get (C := RX3) (T := TX3) (N := 2) (v := .int (σ.1 (1, 0, 0) 1)) hC o_iX3 (o_eX3 _ _ _ _) rfl ki_X3_firstFault_X3 1 (by decide) kw_X3_firstFault_1 rfl dX3_firstFault_34 ?_
    exact hR _ _ _ _ dX3_firstFault_37 h
  · have h := h.2 z
    refine g_aload_n hC 0 dX3_firstFault_10 rfl rfl ?_
    refine g_get (C := RX3) (T := TX3) (N := 2) (v := .ref (ox_φ X (10, 0, 0))) hC o_iX3 (o_eX3 _ _ _ _) rfl ki_X3_firstFault_X3 0 (by decide) kw_X3_firstFault_2 rfl dX3_firstFault_11 ?_
    refine g_iload_n hC 1 dX3_firstFault_14 rfl rfl ?_
    refine g_ri (r_V (C := RX0) (T := TX0) (N := 1) (As := [.int x1]) (rest := []) hC (o_Cl10 0 (by decide)).1 ((o_Cl10 0 (by decide)).2.1 _ _ _ _) rfl (c_X0_at (l := ox_l X) (φ := ox_φ X) (D := ox_D X) (cI := ox_I X) (cB := ox_B X) hC.J (o_Cl10 0 (by decide)) h) gX3_firstFault_X0_at rfl hd_X0_at ⟨Nat.le_of_ble_eq_true rfl, Nat.le_of_ble_eq_true rfl⟩ rfl rfl (Nat.le_of_ble_eq_true rfl) dX3_firstFault_15) (fun v15 s15 h => ?_)
    refine g_iload_n hC 1 dX3_firstFault_18 rfl rfl ?_
    refine g_ri (r_S (As := [.int v15, .int x1]) (rest := []) hC (c_X3_mayStand (l := ox_l X) (φ := ox_φ X) (D := ox_D X) (cI := ox_I X) (cB := ox_B X) hC.J  h) gX3_firstFault_X3_mayStand rfl hd_X3_mayStand ⟨Nat.le_of_ble_eq_true rfl, Nat.le_of_ble_eq_true rfl⟩ rfl rfl (Nat.le_of_ble_eq_true rfl) dX3_firstFault_19) (fun v19 s19 h => ?_)
    refine g_if_ne hC 27 dX3_firstFault_22 (by decide) (fun z => ?_) (fun z => ?_)
    · have h := h.1 z
      refine g_iinc (v := (x1 + (1 : Int32))) hC 1 [(1, .int (x1 + (1 : Int32))), (0, .ref (ox_φ X (1, 0, 0)))] dX3_firstFault_27 rfl rfl (by decide) rfl ?_
      refine g_goto hC 2 dX3_firstFault_30 (by decide) ?_
      refine g_sub [1, 0] rfl ?_
      exact hK2 _ _ h
    · have h := h.2 z
      refine g_iload_n hC 1 dX3_firstFault_25 rfl rfl ?_
      exact hR _ _ _ _ dX3_firstFault_26 h
set_option maxHeartbeats 4000000 in
set_option maxRecDepth 100000 in
theorem lp_X3_firstFault_2 {X : OX} {post : Int32 → SS → Prop} (hC : o_C X cX3_firstFault RX3 wsX3_firstFault 2 41 2) (hR : o_RI X cX3_firstFault post) : ∀ (n : Nat) (a : Int32) (σ : SS), LP_X3_firstFault_2 post n a σ → o_G X σ 2 [(0, .ref (ox_φ X (1, 0, 0))), (1, .int a)] [] :=
 o_lp_G (fun K hK a σ h => wb_X3_firstFault_2 hC hR (fun x1 σ h => hK x1 σ h) h)
set_option maxHeartbeats 4000000 in
set_option maxRecDepth 100000 in
theorem wv_X3_firstFault {X : OX} {post : Int32 → SS → Prop} {σ : SS} (hC : o_C X cX3_firstFault RX3 wsX3_firstFault 2 41 2) (hR : o_RI X cX3_firstFault post) (h : V_X3_firstFault σ post) : o_G X σ 0 [(0, .ref (ox_φ X (1, 0, 0)))] [] := by
  unfold V_X3_firstFault at h
  refine g_iconst (v := (0 : Int32)) hC dX3_firstFault_0 (by decide) ?_
  refine g_istore_n hC [(1, .int (0 : Int32)), (0, .ref (ox_φ X (1, 0, 0)))] dX3_firstFault_1 rfl (by decide) rfl ?_
  refine g_sub [1, 0] rfl ?_
  obtain ⟨n, h⟩ := h
  exact lp_X3_firstFault_2 hC hR n _ _ h
set_option maxRecDepth 100000 in
theorem c_X3_firstFault {l : Launch} {φ : OI → Nat} {D : va_G} {cI cB : ClassId} (hJ : o_J φ) {σ : SS} {post : Int32 → SS → Prop} (h : V_X3_firstFault σ post) : o_Mi l φ D cI cB yX3_firstFault wsX3_firstFault 2 41 [.ref (φ (1, 0, 0))] σ post :=
 o_met_i hJ (by decide +kernel) rfl (Nat.le_of_ble_eq_true rfl) (fun p e s m args below meth c Q hC hR => wv_X3_firstFault hC hR h)
theorem kw_X3_isSchool_1 : Cond.fieldLink RX3 20 "SchoolRow$Page" "length" "I" ∈ wsX3_isSchool := List.mem_of_getElem? (i := 1) (by decide +kernel)
theorem ki_X3_isSchool_X3 : ∀ w ∈ wsX30, w ∈ wsX3_isSchool := fun _ h => List.mem_cons_of_mem _ (List.mem_append_left _ (List.mem_append_right _ h))
theorem hd_X3_isSchool : yX3_isSchool.cls = RX3 ∧ yX3_isSchool.cls ≠ "java/lang/invoke/MethodHandle" ∧ yX3_isSchool.cls ≠ "java/lang/invoke/VarHandle" ∧ (parseMethodDescriptor yX3_isSchool.desc).map (fun d => d.parameters.length) = some 0 := by decide +kernel
set_option maxHeartbeats 4000000 in
set_option maxRecDepth 100000 in
theorem wb_X3_isSchool_25 {X : OX} {post : Int32 → SS → Prop} {t0 : Int32} {σ : SS} (hC : o_C X cX3_isSchool RX3 wsX3_isSchool 3 62 1) (hR : o_RZ X cX3_isSchool post) (h : VB_X3_isSchool_25 post t0 σ) : o_G X σ 25 [] [.int t0] := by
  unfold VB_X3_isSchool_25 at h
  exact hR _ _ _ _ dX3_isSchool_25 h
set_option maxHeartbeats 4000000 in
set_option maxRecDepth 100000 in
theorem wb_X3_isSchool_24 {X : OX} {post : Int32 → SS → Prop} {σ : SS} (hC : o_C X cX3_isSchool RX3 wsX3_isSchool 3 62 1) (hR : o_RZ X cX3_isSchool post) (h : VB_X3_isSchool_24 post σ) : o_G X σ 24 [] [] := by
  unfold VB_X3_isSchool_24 at h
  refine g_iconst (v := (0 : Int32)) hC dX3_isSchool_24 (by decide) ?_
  exact wb_X3_isSchool_25 hC hR h
set_option maxHeartbeats 4000000 in
set_option maxRecDepth 100000 in
theorem wv_X3_isSchool {X : OX} {post : Int32 → SS → Prop} {σ : SS} (hC : o_C X cX3_isSchool RX3 wsX3_isSchool 3 62 1) (hR : o_RZ X cX3_isSchool post) (h : V_X3_isSchool σ post) : o_G X σ 0 [(0, .ref (ox_φ X (1, 0, 0)))] [] := by
  unfold V_X3_isSchool at h
  refine g_aload_n hC 0 dX3_isSchool_0 rfl rfl ?_
  refine g_get (C := RX3) (T := TX3) (N := 2) (v := .int (σ.1 (1, 0, 0) 1)) hC o_iX3 (o_eX3 _ _ _ _) rfl ki_X3_isSchool_X3 1 (by decide) kw_X3_isSchool_1 rfl dX3_isSchool_1 ?_
  refine g_bipush (v := (7 : Int32)) hC dX3_isSchool_4 (by decide) ?_
  refine g_icmp_le hC 24 dX3_isSchool_6 (by decide) (fun z => ?_) (fun z => ?_)
  · have h := h.1 z
    refine g_sub [] rfl ?_
    exact wb_X3_isSchool_24 hC hR h
  · have h := h.2 z
    refine g_aload_n hC 0 dX3_isSchool_9 rfl rfl ?_
    refine g_ri (r_V (C := RX3) (T := TX3) (N := 2) (As := []) (rest := []) hC o_iX3 (o_eX3 _ _ _ _) rfl (c_X3_firstFault (l := ox_l X) (φ := ox_φ X) (D := ox_D X) (cI := ox_I X) (cB := ox_B X) hC.J  h) gX3_isSchool_X3_firstFault rfl hd_X3_firstFault ⟨Nat.le_of_ble_eq_true rfl, Nat.le_of_ble_eq_true rfl⟩ rfl rfl (Nat.le_of_ble_eq_true rfl) dX3_isSchool_10) (fun v10 s10 h => ?_)
    refine g_aload_n hC 0 dX3_isSchool_13 rfl rfl ?_
    refine g_get (C := RX3) (T := TX3) (N := 2) (v := .int (s10.1 (1, 0, 0) 1)) hC o_iX3 (o_eX3 _ _ _ _) rfl ki_X3_isSchool_X3 1 (by decide) kw_X3_isSchool_1 rfl dX3_isSchool_14 ?_
    refine g_icmp_ne hC 24 dX3_isSchool_17 (by decide) (fun z => ?_) (fun z => ?_)
    · have h := h.1 z
      refine g_sub [] rfl ?_
      exact wb_X3_isSchool_24 hC hR h
    · have h := h.2 z
      refine g_iconst (v := (1 : Int32)) hC dX3_isSchool_20 (by decide) ?_
      refine g_goto hC 25 dX3_isSchool_21 (by decide) ?_
      refine g_sub [] rfl ?_
      exact wb_X3_isSchool_25 hC hR h
set_option maxRecDepth 100000 in
theorem c_X3_isSchool {l : Launch} {φ : OI → Nat} {D : va_G} {cI cB : ClassId} (hJ : o_J φ) {σ : SS} {post : Int32 → SS → Prop} (h : V_X3_isSchool σ post) : o_Mi l φ D cI cB yX3_isSchool wsX3_isSchool 3 62 [.ref (φ (1, 0, 0))] σ post :=
 o_met_z hJ (by decide +kernel) rfl (Nat.le_of_ble_eq_true rfl) (fun p e s m args below meth c Q hC hR => wv_X3_isSchool hC hR h)
theorem kw_X4_startAfresh_1 : Cond.fieldLink RX4 14 "SchoolRow$Row" "seats" "LSchoolRow$Cells;" ∈ wsX4_startAfresh := List.mem_of_getElem? (i := 1) (by decide +kernel)
theorem kw_X4_startAfresh_2 : Cond.fieldLink RX4 20 "SchoolRow$Row" "parts" "LSchoolRow$Cells;" ∈ wsX4_startAfresh := List.mem_of_getElem? (i := 2) (by decide +kernel)
theorem kw_X4_startAfresh_3 : Cond.fieldLink RX4 23 "SchoolRow$Row" "mistakes" "LSchoolRow$Cells;" ∈ wsX4_startAfresh := List.mem_of_getElem? (i := 3) (by decide +kernel)
theorem kw_X4_startAfresh_4 : Cond.fieldLink RX4 26 "SchoolRow$Row" "told" "LSchoolRow$Cells;" ∈ wsX4_startAfresh := List.mem_of_getElem? (i := 4) (by decide +kernel)
theorem kw_X4_startAfresh_5 : Cond.fieldLink RX4 40 "SchoolRow$Row" "ill" "I" ∈ wsX4_startAfresh := List.mem_of_getElem? (i := 5) (by decide +kernel)
theorem ki_X4_startAfresh_X4 : ∀ w ∈ wsX40, w ∈ wsX4_startAfresh := fun _ h => List.mem_cons_of_mem _ (List.mem_append_left _ (List.mem_append_right _ h))
theorem hd_X4_startAfresh : yX4_startAfresh.cls = RX4 ∧ yX4_startAfresh.cls ≠ "java/lang/invoke/MethodHandle" ∧ yX4_startAfresh.cls ≠ "java/lang/invoke/VarHandle" ∧ (parseMethodDescriptor yX4_startAfresh.desc).map (fun d => d.parameters.length) = some 0 := by decide +kernel
set_option maxHeartbeats 4000000 in
set_option maxRecDepth 100000 in
theorem wb_X4_startAfresh_2 {X : OX} {r : Nat} {post : SS → Prop} {K2 : Int32 → SS → Prop} {x1 : Int32} {σ : SS} (hC : o_C X cX4_startAfresh RX4 wsX4_startAfresh 1 22 2) (hR : o_RV X cX4_startAfresh post) (hr : r < 4) (hK2 : ∀ (x1 : Int32) (σ : SS), K2 x1 σ → o_G X σ 2 [(0, .ref (ox_φ X (3, r, 0))), (1, .int x1)] []) (h : VB_X4_startAfresh_2 r post K2 x1 σ) : o_G X σ 2 [(0, .ref (ox_φ X (3, r, 0))), (1, .int x1)] [] := by
  unfold VB_X4_startAfresh_2 at h
  refine g_iload_n hC 1 dX4_startAfresh_2 rfl rfl ?_
  refine g_bipush (v := (6 : Int32)) hC dX4_startAfresh_3 (by decide) ?_
  refine g_icmp_ge hC 23 dX4_startAfresh_5 (by decide) (fun z => ?_) (fun z => ?_)
  · have h := h.1 z
    refine g_aload_n hC 0 dX4_startAfresh_23 rfl rfl ?_
    refine g_get (C := RX4) (T := TX4) (N := 6) (v := .ref (ox_φ X (4, r, 1))) hC (o_in3 r hr) (o_eX4 _ _ _ _ _) rfl ki_X4_startAfresh_X4 2 (by decide) kw_X4_startAfresh_2 rfl dX4_startAfresh_24 ?_
    refine g_iconst (v := (0 : Int32)) hC dX4_startAfresh_27 (by decide) ?_
    refine g_rv (r_V (C := RX0) (T := TX0) (N := 1) (As := [.int (0 : Int32)]) (rest := []) hC (o_Cl4 r hr 1 (by decide)).1 ((o_Cl4 r hr 1 (by decide)).2.1 _ _ _ _) rfl (c_X0_putAll (l := ox_l X) (φ := ox_φ X) (D := ox_D X) (cI := ox_I X) (cB := ox_B X) hC.J (o_Cl4 r hr 1 (by decide)) h) gX4_startAfresh_X0_putAll rfl hd_X0_putAll ⟨Nat.le_of_ble_eq_true rfl, Nat.le_of_ble_eq_true rfl⟩ rfl rfl (Nat.le_of_ble_eq_true rfl) dX4_startAfresh_28) (fun s28 h => ?_)
    refine g_aload_n hC 0 dX4_startAfresh_31 rfl rfl ?_
    refine g_get (C := RX4) (T := TX4) (N := 6) (v := .ref (ox_φ X (4, r, 2))) hC (o_in3 r hr) (o_eX4 _ _ _ _ _) rfl ki_X4_startAfresh_X4 3 (by decide) kw_X4_startAfresh_3 rfl dX4_startAfresh_32 ?_
    refine g_iconst (v := (0 : Int32)) hC dX4_startAfresh_35 (by decide) ?_
    refine g_rv (r_V (C := RX0) (T := TX0) (N := 1) (As := [.int (0 : Int32)]) (rest := []) hC (o_Cl4 r hr 2 (by decide)).1 ((o_Cl4 r hr 2 (by decide)).2.1 _ _ _ _) rfl (c_X0_putAll (l := ox_l X) (φ := ox_φ X) (D := ox_D X) (cI := ox_I X) (cB := ox_B X) hC.J (o_Cl4 r hr 2 (by decide)) h) gX4_startAfresh_X0_putAll rfl hd_X0_putAll ⟨Nat.le_of_ble_eq_true rfl, Nat.le_of_ble_eq_true rfl⟩ rfl rfl (Nat.le_of_ble_eq_true rfl) dX4_startAfresh_36) (fun s36 h => ?_)
    refine g_aload_n hC 0 dX4_startAfresh_39 rfl rfl ?_
    refine g_get (C := RX4) (T := TX4) (N := 6) (v := .ref (ox_φ X (4, r, 3))) hC (o_in3 r hr) (o_eX4 _ _ _ _ _) rfl ki_X4_startAfresh_X4 4 (by decide) kw_X4_startAfresh_4 rfl dX4_startAfresh_40 ?_
    refine g_iconst (v := (-1 : Int32)) hC dX4_startAfresh_43 (by decide) ?_
    refine g_rv (r_V (C := RX0) (T := TX0) (N := 1) (As := [.int (-1 : Int32)]) (rest := []) hC (o_Cl4 r hr 3 (by decide)).1 ((o_Cl4 r hr 3 (by decide)).2.1 _ _ _ _) rfl (c_X0_putAll (l := ox_l X) (φ := ox_φ X) (D := ox_D X) (cI := ox_I X) (cB := ox_B X) hC.J (o_Cl4 r hr 3 (by decide)) h) gX4_startAfresh_X0_putAll rfl hd_X0_putAll ⟨Nat.le_of_ble_eq_true rfl, Nat.le_of_ble_eq_true rfl⟩ rfl rfl (Nat.le_of_ble_eq_true rfl) dX4_startAfresh_44) (fun s44 h => ?_)
    refine g_aload_n hC 0 dX4_startAfresh_47 rfl rfl ?_
    refine g_iconst (v := (0 : Int32)) hC dX4_startAfresh_48 (by decide) ?_
    refine g_puti (C := RX4) (T := TX4) (N := 6) hC (o_in3 r hr) (o_eX4 _ _ _ _ _) rfl ki_X4_startAfresh_X4 tyX4_ok nmX4 5 (by decide) kw_X4_startAfresh_5 rfl rfl rfl (Nat.le_of_ble_eq_true rfl) (o_pX4_5 _ _ _ _ _ _) dX4_startAfresh_49 ?_
    exact hR _ _ _ dX4_startAfresh_52 h
  · have h := h.2 z
    refine g_aload_n hC 0 dX4_startAfresh_8 rfl rfl ?_
    refine g_get (C := RX4) (T := TX4) (N := 6) (v := .ref (ox_φ X (4, r, 0))) hC (o_in3 r hr) (o_eX4 _ _ _ _ _) rfl ki_X4_startAfresh_X4 1 (by decide) kw_X4_startAfresh_1 rfl dX4_startAfresh_9 ?_
    refine g_iload_n hC 1 dX4_startAfresh_12 rfl rfl ?_
    refine g_iload_n hC 1 dX4_startAfresh_13 rfl rfl ?_
    refine g_rv (r_V (C := RX0) (T := TX0) (N := 1) (As := [.int x1, .int x1]) (rest := []) hC (o_Cl4 r hr 0 (by decide)).1 ((o_Cl4 r hr 0 (by decide)).2.1 _ _ _ _) rfl (c_X0_put (l := ox_l X) (φ := ox_φ X) (D := ox_D X) (cI := ox_I X) (cB := ox_B X) hC.J (o_Cl4 r hr 0 (by decide)) h) gX4_startAfresh_X0_put rfl hd_X0_put ⟨Nat.le_of_ble_eq_true rfl, Nat.le_of_ble_eq_true rfl⟩ rfl rfl (Nat.le_of_ble_eq_true rfl) dX4_startAfresh_14) (fun s14 h => ?_)
    refine g_iinc (v := (x1 + (1 : Int32))) hC 1 [(1, .int (x1 + (1 : Int32))), (0, .ref (ox_φ X (3, r, 0)))] dX4_startAfresh_17 rfl rfl (by decide) rfl ?_
    refine g_goto hC 2 dX4_startAfresh_20 (by decide) ?_
    refine g_sub [1, 0] rfl ?_
    exact hK2 _ _ h
set_option maxHeartbeats 4000000 in
set_option maxRecDepth 100000 in
theorem lp_X4_startAfresh_2 {X : OX} {r : Nat} {post : SS → Prop} (hC : o_C X cX4_startAfresh RX4 wsX4_startAfresh 1 22 2) (hR : o_RV X cX4_startAfresh post) (hr : r < 4) : ∀ (n : Nat) (a : Int32) (σ : SS), LP_X4_startAfresh_2 r post n a σ → o_G X σ 2 [(0, .ref (ox_φ X (3, r, 0))), (1, .int a)] [] :=
 o_lp_G (fun K hK a σ h => wb_X4_startAfresh_2 hC hR hr (fun x1 σ h => hK x1 σ h) h)
set_option maxHeartbeats 4000000 in
set_option maxRecDepth 100000 in
theorem wv_X4_startAfresh {X : OX} {r : Nat} {post : SS → Prop} {σ : SS} (hC : o_C X cX4_startAfresh RX4 wsX4_startAfresh 1 22 2) (hR : o_RV X cX4_startAfresh post) (hr : r < 4) (h : V_X4_startAfresh r σ post) : o_G X σ 0 [(0, .ref (ox_φ X (3, r, 0)))] [] := by
  unfold V_X4_startAfresh at h
  refine g_iconst (v := (0 : Int32)) hC dX4_startAfresh_0 (by decide) ?_
  refine g_istore_n hC [(1, .int (0 : Int32)), (0, .ref (ox_φ X (3, r, 0)))] dX4_startAfresh_1 rfl (by decide) rfl ?_
  refine g_sub [1, 0] rfl ?_
  obtain ⟨n, h⟩ := h
  exact lp_X4_startAfresh_2 hC hR hr n _ _ h
set_option maxRecDepth 100000 in
theorem c_X4_startAfresh {l : Launch} {φ : OI → Nat} {D : va_G} {cI cB : ClassId} (hJ : o_J φ) {r : Nat} (hr : r < 4) {σ : SS} {post : SS → Prop} (h : V_X4_startAfresh r σ post) : o_Mv l φ D cI cB yX4_startAfresh wsX4_startAfresh 1 22 [.ref (φ (3, r, 0))] σ post :=
 o_met_v hJ (by decide +kernel) rfl (Nat.le_of_ble_eq_true rfl) (fun p e s m args below meth c Q hC hR => wv_X4_startAfresh hC hR hr h)
theorem kw_X4_copyFrom_1 : Cond.fieldLink RX4 14 "SchoolRow$Row" "seats" "LSchoolRow$Cells;" ∈ wsX4_copyFrom := List.mem_of_getElem? (i := 1) (by decide +kernel)
theorem kw_X4_copyFrom_2 : Cond.fieldLink RX4 20 "SchoolRow$Row" "parts" "LSchoolRow$Cells;" ∈ wsX4_copyFrom := List.mem_of_getElem? (i := 2) (by decide +kernel)
theorem kw_X4_copyFrom_3 : Cond.fieldLink RX4 23 "SchoolRow$Row" "mistakes" "LSchoolRow$Cells;" ∈ wsX4_copyFrom := List.mem_of_getElem? (i := 3) (by decide +kernel)
theorem kw_X4_copyFrom_4 : Cond.fieldLink RX4 26 "SchoolRow$Row" "told" "LSchoolRow$Cells;" ∈ wsX4_copyFrom := List.mem_of_getElem? (i := 4) (by decide +kernel)
theorem kw_X4_copyFrom_5 : Cond.fieldLink RX4 40 "SchoolRow$Row" "ill" "I" ∈ wsX4_copyFrom := List.mem_of_getElem? (i := 5) (by decide +kernel)
theorem ki_X4_copyFrom_X4 : ∀ w ∈ wsX40, w ∈ wsX4_copyFrom := fun _ h => List.mem_cons_of_mem _ (List.mem_append_left _ (List.mem_append_right _ h))
theorem hd_X4_copyFrom : yX4_copyFrom.cls = RX4 ∧ yX4_copyFrom.cls ≠ "java/lang/invoke/MethodHandle" ∧ yX4_copyFrom.cls ≠ "java/lang/invoke/VarHandle" ∧ (parseMethodDescriptor yX4_copyFrom.desc).map (fun d => d.parameters.length) = some 1 := by decide +kernel
set_option maxHeartbeats 4000000 in
set_option maxRecDepth 100000 in
theorem wv_X4_copyFrom {X : OX} {r : Nat} {r2 : Nat} {post : SS → Prop} {σ : SS} (hC : o_C X cX4_copyFrom RX4 wsX4_copyFrom 2 43 2) (hR : o_RV X cX4_copyFrom post) (hr : r < 4) (hr2 : r2 < 4) (h : V_X4_copyFrom r r2 σ post) : o_G X σ 0 [(0, .ref (ox_φ X (3, r, 0))), (1, .ref (ox_φ X (3, r2, 0)))] [] := by
  unfold V_X4_copyFrom at h
  refine g_aload_n hC 0 dX4_copyFrom_0 rfl rfl ?_
  refine g_get (C := RX4) (T := TX4) (N := 6) (v := .ref (ox_φ X (4, r, 0))) hC (o_in3 r hr) (o_eX4 _ _ _ _ _) rfl ki_X4_copyFrom_X4 1 (by decide) kw_X4_copyFrom_1 rfl dX4_copyFrom_1 ?_
  refine g_aload_n hC 1 dX4_copyFrom_4 rfl rfl ?_
  refine g_get (C := RX4) (T := TX4) (N := 6) (v := .ref (ox_φ X (4, r2, 0))) hC (o_in3 r2 hr2) (o_eX4 _ _ _ _ _) rfl ki_X4_copyFrom_X4 1 (by decide) kw_X4_copyFrom_1 rfl dX4_copyFrom_5 ?_
  refine g_rv (r_V (C := RX0) (T := TX0) (N := 1) (As := [.ref (ox_φ X (4, r2, 0))]) (rest := []) hC (o_Cl4 r hr 0 (by decide)).1 ((o_Cl4 r hr 0 (by decide)).2.1 _ _ _ _) rfl (c_X0_copyFrom (l := ox_l X) (φ := ox_φ X) (D := ox_D X) (cI := ox_I X) (cB := ox_B X) hC.J (o_Cl4 r hr 0 (by decide)) (o_Cl4 r2 hr2 0 (by decide)) h) gX4_copyFrom_X0_copyFrom rfl hd_X0_copyFrom ⟨Nat.le_of_ble_eq_true rfl, Nat.le_of_ble_eq_true rfl⟩ rfl rfl (Nat.le_of_ble_eq_true rfl) dX4_copyFrom_8) (fun s8 h => ?_)
  refine g_aload_n hC 0 dX4_copyFrom_11 rfl rfl ?_
  refine g_get (C := RX4) (T := TX4) (N := 6) (v := .ref (ox_φ X (4, r, 1))) hC (o_in3 r hr) (o_eX4 _ _ _ _ _) rfl ki_X4_copyFrom_X4 2 (by decide) kw_X4_copyFrom_2 rfl dX4_copyFrom_12 ?_
  refine g_aload_n hC 1 dX4_copyFrom_15 rfl rfl ?_
  refine g_get (C := RX4) (T := TX4) (N := 6) (v := .ref (ox_φ X (4, r2, 1))) hC (o_in3 r2 hr2) (o_eX4 _ _ _ _ _) rfl ki_X4_copyFrom_X4 2 (by decide) kw_X4_copyFrom_2 rfl dX4_copyFrom_16 ?_
  refine g_rv (r_V (C := RX0) (T := TX0) (N := 1) (As := [.ref (ox_φ X (4, r2, 1))]) (rest := []) hC (o_Cl4 r hr 1 (by decide)).1 ((o_Cl4 r hr 1 (by decide)).2.1 _ _ _ _) rfl (c_X0_copyFrom (l := ox_l X) (φ := ox_φ X) (D := ox_D X) (cI := ox_I X) (cB := ox_B X) hC.J (o_Cl4 r hr 1 (by decide)) (o_Cl4 r2 hr2 1 (by decide)) h) gX4_copyFrom_X0_copyFrom rfl hd_X0_copyFrom ⟨Nat.le_of_ble_eq_true rfl, Nat.le_of_ble_eq_true rfl⟩ rfl rfl (Nat.le_of_ble_eq_true rfl) dX4_copyFrom_19) (fun s19 h => ?_)
  refine g_aload_n hC 0 dX4_copyFrom_22 rfl rfl ?_
  refine g_get (C := RX4) (T := TX4) (N := 6) (v := .ref (ox_φ X (4, r, 2))) hC (o_in3 r hr) (o_eX4 _ _ _ _ _) rfl ki_X4_copyFrom_X4 3 (by decide) kw_X4_copyFrom_3 rfl dX4_copyFrom_23 ?_
  refine g_aload_n hC 1 dX4_copyFrom_26 rfl rfl ?_
  refine g_get (C := RX4) (T := TX4) (N := 6) (v := .ref (ox_φ X (4, r2, 2))) hC (o_in3 r2 hr2) (o_eX4 _ _ _ _ _) rfl ki_X4_copyFrom_X4 3 (by decide) kw_X4_copyFrom_3 rfl dX4_copyFrom_27 ?_
  refine g_rv (r_V (C := RX0) (T := TX0) (N := 1) (As := [.ref (ox_φ X (4, r2, 2))]) (rest := []) hC (o_Cl4 r hr 2 (by decide)).1 ((o_Cl4 r hr 2 (by decide)).2.1 _ _ _ _) rfl (c_X0_copyFrom (l := ox_l X) (φ := ox_φ X) (D := ox_D X) (cI := ox_I X) (cB := ox_B X) hC.J (o_Cl4 r hr 2 (by decide)) (o_Cl4 r2 hr2 2 (by decide)) h) gX4_copyFrom_X0_copyFrom rfl hd_X0_copyFrom ⟨Nat.le_of_ble_eq_true rfl, Nat.le_of_ble_eq_true rfl⟩ rfl rfl (Nat.le_of_ble_eq_true rfl) dX4_copyFrom_30) (fun s30 h => ?_)
  refine g_aload_n hC 0 dX4_copyFrom_33 rfl rfl ?_
  refine g_get (C := RX4) (T := TX4) (N := 6) (v := .ref (ox_φ X (4, r, 3))) hC (o_in3 r hr) (o_eX4 _ _ _ _ _) rfl ki_X4_copyFrom_X4 4 (by decide) kw_X4_copyFrom_4 rfl dX4_copyFrom_34 ?_
  refine g_aload_n hC 1 dX4_copyFrom_37 rfl rfl ?_
  refine g_get (C := RX4) (T := TX4) (N := 6) (v := .ref (ox_φ X (4, r2, 3))) hC (o_in3 r2 hr2) (o_eX4 _ _ _ _ _) rfl ki_X4_copyFrom_X4 4 (by decide) kw_X4_copyFrom_4 rfl dX4_copyFrom_38 ?_
  refine g_rv (r_V (C := RX0) (T := TX0) (N := 1) (As := [.ref (ox_φ X (4, r2, 3))]) (rest := []) hC (o_Cl4 r hr 3 (by decide)).1 ((o_Cl4 r hr 3 (by decide)).2.1 _ _ _ _) rfl (c_X0_copyFrom (l := ox_l X) (φ := ox_φ X) (D := ox_D X) (cI := ox_I X) (cB := ox_B X) hC.J (o_Cl4 r hr 3 (by decide)) (o_Cl4 r2 hr2 3 (by decide)) h) gX4_copyFrom_X0_copyFrom rfl hd_X0_copyFrom ⟨Nat.le_of_ble_eq_true rfl, Nat.le_of_ble_eq_true rfl⟩ rfl rfl (Nat.le_of_ble_eq_true rfl) dX4_copyFrom_41) (fun s41 h => ?_)
  refine g_aload_n hC 0 dX4_copyFrom_44 rfl rfl ?_
  refine g_aload_n hC 1 dX4_copyFrom_45 rfl rfl ?_
  refine g_get (C := RX4) (T := TX4) (N := 6) (v := .int (s41.1 (3, r2, 0) 5)) hC (o_in3 r2 hr2) (o_eX4 _ _ _ _ _) rfl ki_X4_copyFrom_X4 5 (by decide) kw_X4_copyFrom_5 rfl dX4_copyFrom_46 ?_
  refine g_puti (C := RX4) (T := TX4) (N := 6) hC (o_in3 r hr) (o_eX4 _ _ _ _ _) rfl ki_X4_copyFrom_X4 tyX4_ok nmX4 5 (by decide) kw_X4_copyFrom_5 rfl rfl rfl (Nat.le_of_ble_eq_true rfl) (o_pX4_5 _ _ _ _ _ _) dX4_copyFrom_49 ?_
  exact hR _ _ _ dX4_copyFrom_52 h
set_option maxRecDepth 100000 in
theorem c_X4_copyFrom {l : Launch} {φ : OI → Nat} {D : va_G} {cI cB : ClassId} (hJ : o_J φ) {r : Nat} {r2 : Nat} (hr : r < 4) (hr2 : r2 < 4) {σ : SS} {post : SS → Prop} (h : V_X4_copyFrom r r2 σ post) : o_Mv l φ D cI cB yX4_copyFrom wsX4_copyFrom 2 43 [.ref (φ (3, r, 0)), .ref (φ (3, r2, 0))] σ post :=
 o_met_v hJ (by decide +kernel) rfl (Nat.le_of_ble_eq_true rfl) (fun p e s m args below meth c Q hC hR => wv_X4_copyFrom hC hR hr hr2 h)
theorem kw_X4_childOn_1 : Cond.fieldLink RX4 14 "SchoolRow$Row" "seats" "LSchoolRow$Cells;" ∈ wsX4_childOn := List.mem_of_getElem? (i := 1) (by decide +kernel)
theorem ki_X4_childOn_X4 : ∀ w ∈ wsX40, w ∈ wsX4_childOn := fun _ h => List.mem_cons_of_mem _ (List.mem_append_left _ (List.mem_append_right _ h))
theorem hd_X4_childOn : yX4_childOn.cls = RX4 ∧ yX4_childOn.cls ≠ "java/lang/invoke/MethodHandle" ∧ yX4_childOn.cls ≠ "java/lang/invoke/VarHandle" ∧ (parseMethodDescriptor yX4_childOn.desc).map (fun d => d.parameters.length) = some 1 := by decide +kernel
set_option maxHeartbeats 4000000 in
set_option maxRecDepth 100000 in
theorem wv_X4_childOn {X : OX} {r : Nat} {x1 : Int32} {post : Int32 → SS → Prop} {σ : SS} (hC : o_C X cX4_childOn RX4 wsX4_childOn 1 21 2) (hR : o_RI X cX4_childOn post) (hr : r < 4) (h : V_X4_childOn r x1 σ post) : o_G X σ 0 [(0, .ref (ox_φ X (3, r, 0))), (1, .int x1)] [] := by
  unfold V_X4_childOn at h
  refine g_aload_n hC 0 dX4_childOn_0 rfl rfl ?_
  refine g_get (C := RX4) (T := TX4) (N := 6) (v := .ref (ox_φ X (4, r, 0))) hC (o_in3 r hr) (o_eX4 _ _ _ _ _) rfl ki_X4_childOn_X4 1 (by decide) kw_X4_childOn_1 rfl dX4_childOn_1 ?_
  refine g_iload_n hC 1 dX4_childOn_4 rfl rfl ?_
  refine g_ri (r_V (C := RX0) (T := TX0) (N := 1) (As := [.int x1]) (rest := []) hC (o_Cl4 r hr 0 (by decide)).1 ((o_Cl4 r hr 0 (by decide)).2.1 _ _ _ _) rfl (c_X0_at (l := ox_l X) (φ := ox_φ X) (D := ox_D X) (cI := ox_I X) (cB := ox_B X) hC.J (o_Cl4 r hr 0 (by decide)) h) gX4_childOn_X0_at rfl hd_X0_at ⟨Nat.le_of_ble_eq_true rfl, Nat.le_of_ble_eq_true rfl⟩ rfl rfl (Nat.le_of_ble_eq_true rfl) dX4_childOn_5) (fun v5 s5 h => ?_)
  exact hR _ _ _ _ dX4_childOn_8 h
set_option maxRecDepth 100000 in
theorem c_X4_childOn {l : Launch} {φ : OI → Nat} {D : va_G} {cI cB : ClassId} (hJ : o_J φ) {r : Nat} {x1 : Int32} (hr : r < 4) {σ : SS} {post : Int32 → SS → Prop} (h : V_X4_childOn r x1 σ post) : o_Mi l φ D cI cB yX4_childOn wsX4_childOn 1 21 [.ref (φ (3, r, 0)), .int x1] σ post :=
 o_met_i hJ (by decide +kernel) rfl (Nat.le_of_ble_eq_true rfl) (fun p e s m args below meth c Q hC hR => wv_X4_childOn hC hR hr h)
theorem kw_X5_size_1 : Cond.fieldLink RX5 64 "SchoolRow$School" "size" "I" ∈ wsX5_size := List.mem_of_getElem? (i := 1) (by decide +kernel)
theorem ki_X5_size_X5 : ∀ w ∈ wsX50, w ∈ wsX5_size := fun _ h => List.mem_cons_of_mem _ (List.mem_append_right _ h)
theorem hd_X5_size : yX5_size.cls = RX5 ∧ yX5_size.cls ≠ "java/lang/invoke/MethodHandle" ∧ yX5_size.cls ≠ "java/lang/invoke/VarHandle" ∧ (parseMethodDescriptor yX5_size.desc).map (fun d => d.parameters.length) = some 0 := by decide +kernel
set_option maxHeartbeats 4000000 in
set_option maxRecDepth 100000 in
theorem wv_X5_size {X : OX} {post : Int32 → SS → Prop} {σ : SS} (hC : o_C X cX5_size RX5 wsX5_size 0 0 1) (hR : o_RI X cX5_size post) (h : V_X5_size σ post) : o_G X σ 0 [(0, .ref (ox_φ X (2, 0, 0)))] [] := by
  unfold V_X5_size at h
  refine g_aload_n hC 0 dX5_size_0 rfl rfl ?_
  refine g_get (C := RX5) (T := TX5) (N := 8) (v := .int (σ.1 (2, 0, 0) 7)) hC o_iX5 (o_eX5 _ _ _ _) rfl ki_X5_size_X5 7 (by decide) kw_X5_size_1 rfl dX5_size_1 ?_
  exact hR _ _ _ _ dX5_size_4 h
set_option maxRecDepth 100000 in
theorem c_X5_size {l : Launch} {φ : OI → Nat} {D : va_G} {cI cB : ClassId} (hJ : o_J φ) {σ : SS} {post : Int32 → SS → Prop} (h : V_X5_size σ post) : o_Mi l φ D cI cB yX5_size wsX5_size 0 0 [.ref (φ (2, 0, 0))] σ post :=
 o_met_i hJ (by decide +kernel) rfl (Nat.le_of_ble_eq_true rfl) (fun p e s m args below meth c Q hC hR => wv_X5_size hC hR h)
theorem kw_X4_seatOf_1 : Cond.fieldLink RX4 29 "SchoolRow$Row" "school" "LSchoolRow$School;" ∈ wsX4_seatOf := List.mem_of_getElem? (i := 1) (by decide +kernel)
theorem kw_X4_seatOf_2 : Cond.fieldLink RX4 14 "SchoolRow$Row" "seats" "LSchoolRow$Cells;" ∈ wsX4_seatOf := List.mem_of_getElem? (i := 2) (by decide +kernel)
theorem ki_X4_seatOf_X4 : ∀ w ∈ wsX40, w ∈ wsX4_seatOf := fun _ h => List.mem_cons_of_mem _ (List.mem_append_left _ (List.mem_append_left _ (List.mem_append_right _ h)))
theorem hd_X4_seatOf : yX4_seatOf.cls = RX4 ∧ yX4_seatOf.cls ≠ "java/lang/invoke/MethodHandle" ∧ yX4_seatOf.cls ≠ "java/lang/invoke/VarHandle" ∧ (parseMethodDescriptor yX4_seatOf.desc).map (fun d => d.parameters.length) = some 1 := by decide +kernel
set_option maxHeartbeats 4000000 in
set_option maxRecDepth 100000 in
theorem wb_X4_seatOf_2 {X : OX} {r : Nat} {post : Int32 → SS → Prop} {K2 : Int32 → Int32 → SS → Prop} {x1 : Int32} {x2 : Int32} {σ : SS} (hC : o_C X cX4_seatOf RX4 wsX4_seatOf 1 21 3) (hR : o_RI X cX4_seatOf post) (hr : r < 4) (hK2 : ∀ (x1 : Int32) (x2 : Int32) (σ : SS), K2 x1 x2 σ → o_G X σ 2 [(0, .ref (ox_φ X (3, r, 0))), (1, .int x1), (2, .int x2)] []) (h : VB_X4_seatOf_2 r post K2 x1 x2 σ) : o_G X σ 2 [(0, .ref (ox_φ X (3, r, 0))), (1, .int x1), (2, .int x2)] [] := by
  unfold VB_X4_seatOf_2 at h
  refine g_iload_n hC 2 dX4_seatOf_2 rfl rfl ?_
  refine g_aload_n hC 0 dX4_seatOf_3 rfl rfl ?_
  refine g_get (C := RX4) (T := TX4) (N := 6) (v := .ref (ox_φ X (2, 0, 0))) hC (o_in3 r hr) (o_eX4 _ _ _ _ _) rfl ki_X4_seatOf_X4 0 (by decide) kw_X4_seatOf_1 rfl dX4_seatOf_4 ?_
  refine g_ri (r_V (C := RX5) (T := TX5) (N := 8) (As := []) (rest := [.int x2]) hC o_iX5 (o_eX5 _ _ _ _) rfl (c_X5_size (l := ox_l X) (φ := ox_φ X) (D := ox_D X) (cI := ox_I X) (cB := ox_B X) hC.J  h) gX4_seatOf_X5_size rfl hd_X5_size ⟨Nat.le_of_ble_eq_true rfl, Nat.le_of_ble_eq_true rfl⟩ rfl rfl (Nat.le_of_ble_eq_true rfl) dX4_seatOf_7) (fun v7 s7 h => ?_)
  refine g_icmp_ge hC 33 dX4_seatOf_10 (by decide) (fun z => ?_) (fun z => ?_)
  · have h := h.1 z
    refine g_iconst (v := (-1 : Int32)) hC dX4_seatOf_33 (by decide) ?_
    exact hR _ _ _ _ dX4_seatOf_34 h
  · have h := h.2 z
    refine g_aload_n hC 0 dX4_seatOf_13 rfl rfl ?_
    refine g_get (C := RX4) (T := TX4) (N := 6) (v := .ref (ox_φ X (4, r, 0))) hC (o_in3 r hr) (o_eX4 _ _ _ _ _) rfl ki_X4_seatOf_X4 1 (by decide) kw_X4_seatOf_2 rfl dX4_seatOf_14 ?_
    refine g_iload_n hC 2 dX4_seatOf_17 rfl rfl ?_
    refine g_ri (r_V (C := RX0) (T := TX0) (N := 1) (As := [.int x2]) (rest := []) hC (o_Cl4 r hr 0 (by decide)).1 ((o_Cl4 r hr 0 (by decide)).2.1 _ _ _ _) rfl (c_X0_at (l := ox_l X) (φ := ox_φ X) (D := ox_D X) (cI := ox_I X) (cB := ox_B X) hC.J (o_Cl4 r hr 0 (by decide)) h) gX4_seatOf_X0_at rfl hd_X0_at ⟨Nat.le_of_ble_eq_true rfl, Nat.le_of_ble_eq_true rfl⟩ rfl rfl (Nat.le_of_ble_eq_true rfl) dX4_seatOf_18) (fun v18 s18 h => ?_)
    refine g_iload_n hC 1 dX4_seatOf_21 rfl rfl ?_
    refine g_icmp_ne hC 27 dX4_seatOf_22 (by decide) (fun z => ?_) (fun z => ?_)
    · have h := h.1 z
      refine g_iinc (v := (x2 + (1 : Int32))) hC 2 [(2, .int (x2 + (1 : Int32))), (0, .ref (ox_φ X (3, r, 0))), (1, .int x1)] dX4_seatOf_27 rfl rfl (by decide) rfl ?_
      refine g_goto hC 2 dX4_seatOf_30 (by decide) ?_
      refine g_sub [1, 2, 0] rfl ?_
      exact hK2 _ _ _ h
    · have h := h.2 z
      refine g_iload_n hC 2 dX4_seatOf_25 rfl rfl ?_
      exact hR _ _ _ _ dX4_seatOf_26 h
set_option maxHeartbeats 4000000 in
set_option maxRecDepth 100000 in
theorem lp_X4_seatOf_2 {X : OX} {r : Nat} {post : Int32 → SS → Prop} (hC : o_C X cX4_seatOf RX4 wsX4_seatOf 1 21 3) (hR : o_RI X cX4_seatOf post) (hr : r < 4) : ∀ (n : Nat) (a : Int32 × Int32) (σ : SS), LP_X4_seatOf_2 r post n a σ → o_G X σ 2 [(0, .ref (ox_φ X (3, r, 0))), (1, .int a.1), (2, .int a.2)] [] :=
 o_lp_G (fun K hK a σ h => wb_X4_seatOf_2 hC hR hr (fun x1 x2 σ h => hK (x1, x2) σ h) h)
set_option maxHeartbeats 4000000 in
set_option maxRecDepth 100000 in
theorem wv_X4_seatOf {X : OX} {r : Nat} {x1 : Int32} {post : Int32 → SS → Prop} {σ : SS} (hC : o_C X cX4_seatOf RX4 wsX4_seatOf 1 21 3) (hR : o_RI X cX4_seatOf post) (hr : r < 4) (h : V_X4_seatOf r x1 σ post) : o_G X σ 0 [(0, .ref (ox_φ X (3, r, 0))), (1, .int x1)] [] := by
  unfold V_X4_seatOf at h
  refine g_iconst (v := (0 : Int32)) hC dX4_seatOf_0 (by decide) ?_
  refine g_istore_n hC [(2, .int (0 : Int32)), (0, .ref (ox_φ X (3, r, 0))), (1, .int x1)] dX4_seatOf_1 rfl (by decide) rfl ?_
  refine g_sub [1, 2, 0] rfl ?_
  obtain ⟨n, h⟩ := h
  exact lp_X4_seatOf_2 hC hR hr n _ _ h
set_option maxRecDepth 100000 in
theorem c_X4_seatOf {l : Launch} {φ : OI → Nat} {D : va_G} {cI cB : ClassId} (hJ : o_J φ) {r : Nat} {x1 : Int32} (hr : r < 4) {σ : SS} {post : Int32 → SS → Prop} (h : V_X4_seatOf r x1 σ post) : o_Mi l φ D cI cB yX4_seatOf wsX4_seatOf 1 21 [.ref (φ (3, r, 0)), .int x1] σ post :=
 o_met_i hJ (by decide +kernel) rfl (Nat.le_of_ble_eq_true rfl) (fun p e s m args below meth c Q hC hR => wv_X4_seatOf hC hR hr h)
theorem kw_X4_changeSeats_1 : Cond.fieldLink RX4 14 "SchoolRow$Row" "seats" "LSchoolRow$Cells;" ∈ wsX4_changeSeats := List.mem_of_getElem? (i := 1) (by decide +kernel)
theorem ki_X4_changeSeats_X4 : ∀ w ∈ wsX40, w ∈ wsX4_changeSeats := fun _ h => List.mem_cons_of_mem _ (List.mem_append_left _ (List.mem_append_right _ h))
theorem hd_X4_changeSeats : yX4_changeSeats.cls = RX4 ∧ yX4_changeSeats.cls ≠ "java/lang/invoke/MethodHandle" ∧ yX4_changeSeats.cls ≠ "java/lang/invoke/VarHandle" ∧ (parseMethodDescriptor yX4_changeSeats.desc).map (fun d => d.parameters.length) = some 2 := by decide +kernel
set_option maxHeartbeats 4000000 in
set_option maxRecDepth 100000 in
theorem wv_X4_changeSeats {X : OX} {r : Nat} {x1 : Int32} {x2 : Int32} {post : SS → Prop} {σ : SS} (hC : o_C X cX4_changeSeats RX4 wsX4_changeSeats 1 22 4) (hR : o_RV X cX4_changeSeats post) (hr : r < 4) (h : V_X4_changeSeats r x1 x2 σ post) : o_G X σ 0 [(0, .ref (ox_φ X (3, r, 0))), (1, .int x1), (2, .int x2)] [] := by
  unfold V_X4_changeSeats at h
  refine g_aload_n hC 0 dX4_changeSeats_0 rfl rfl ?_
  refine g_get (C := RX4) (T := TX4) (N := 6) (v := .ref (ox_φ X (4, r, 0))) hC (o_in3 r hr) (o_eX4 _ _ _ _ _) rfl ki_X4_changeSeats_X4 1 (by decide) kw_X4_changeSeats_1 rfl dX4_changeSeats_1 ?_
  refine g_iload_n hC 1 dX4_changeSeats_4 rfl rfl ?_
  refine g_ri (r_V (C := RX0) (T := TX0) (N := 1) (As := [.int x1]) (rest := []) hC (o_Cl4 r hr 0 (by decide)).1 ((o_Cl4 r hr 0 (by decide)).2.1 _ _ _ _) rfl (c_X0_at (l := ox_l X) (φ := ox_φ X) (D := ox_D X) (cI := ox_I X) (cB := ox_B X) hC.J (o_Cl4 r hr 0 (by decide)) h) gX4_changeSeats_X0_at rfl hd_X0_at ⟨Nat.le_of_ble_eq_true rfl, Nat.le_of_ble_eq_true rfl⟩ rfl rfl (Nat.le_of_ble_eq_true rfl) dX4_changeSeats_5) (fun v5 s5 h => ?_)
  refine g_istore_n hC [(3, .int v5), (0, .ref (ox_φ X (3, r, 0))), (1, .int x1), (2, .int x2)] dX4_changeSeats_8 rfl (by decide) rfl ?_
  refine g_aload_n hC 1 dX4_changeSeats_9 rfl rfl ?_
  refine g_get (C := RX4) (T := TX4) (N := 6) (v := .ref (ox_φ X (4, r, 0))) hC (o_in3 r hr) (o_eX4 _ _ _ _ _) rfl ki_X4_changeSeats_X4 1 (by decide) kw_X4_changeSeats_1 rfl dX4_changeSeats_10 ?_
  refine g_iload_n hC 2 dX4_changeSeats_13 rfl rfl ?_
  refine g_aload_n hC 1 dX4_changeSeats_14 rfl rfl ?_
  refine g_get (C := RX4) (T := TX4) (N := 6) (v := .ref (ox_φ X (4, r, 0))) hC (o_in3 r hr) (o_eX4 _ _ _ _ _) rfl ki_X4_changeSeats_X4 1 (by decide) kw_X4_changeSeats_1 rfl dX4_changeSeats_15 ?_
  refine g_iload_n hC 3 dX4_changeSeats_18 rfl rfl ?_
  refine g_ri (r_V (C := RX0) (T := TX0) (N := 1) (As := [.int x2]) (rest := [.int x1, .ref (ox_φ X (4, r, 0))]) hC (o_Cl4 r hr 0 (by decide)).1 ((o_Cl4 r hr 0 (by decide)).2.1 _ _ _ _) rfl (c_X0_at (l := ox_l X) (φ := ox_φ X) (D := ox_D X) (cI := ox_I X) (cB := ox_B X) hC.J (o_Cl4 r hr 0 (by decide)) h) gX4_changeSeats_X0_at rfl hd_X0_at ⟨Nat.le_of_ble_eq_true rfl, Nat.le_of_ble_eq_true rfl⟩ rfl rfl (Nat.le_of_ble_eq_true rfl) dX4_changeSeats_19) (fun v19 s19 h => ?_)
  refine g_rv (r_V (C := RX0) (T := TX0) (N := 1) (As := [.int x1, .int v19]) (rest := []) hC (o_Cl4 r hr 0 (by decide)).1 ((o_Cl4 r hr 0 (by decide)).2.1 _ _ _ _) rfl (c_X0_put (l := ox_l X) (φ := ox_φ X) (D := ox_D X) (cI := ox_I X) (cB := ox_B X) hC.J (o_Cl4 r hr 0 (by decide)) h) gX4_changeSeats_X0_put rfl hd_X0_put ⟨Nat.le_of_ble_eq_true rfl, Nat.le_of_ble_eq_true rfl⟩ rfl rfl (Nat.le_of_ble_eq_true rfl) dX4_changeSeats_22) (fun s22 h => ?_)
  refine g_aload_n hC 1 dX4_changeSeats_25 rfl rfl ?_
  refine g_get (C := RX4) (T := TX4) (N := 6) (v := .ref (ox_φ X (4, r, 0))) hC (o_in3 r hr) (o_eX4 _ _ _ _ _) rfl ki_X4_changeSeats_X4 1 (by decide) kw_X4_changeSeats_1 rfl dX4_changeSeats_26 ?_
  refine g_iload_n hC 3 dX4_changeSeats_29 rfl rfl ?_
  refine g_iload_n hC 0 dX4_changeSeats_30 rfl rfl ?_
  refine g_rv (r_V (C := RX0) (T := TX0) (N := 1) (As := [.int x2, .int v5]) (rest := []) hC (o_Cl4 r hr 0 (by decide)).1 ((o_Cl4 r hr 0 (by decide)).2.1 _ _ _ _) rfl (c_X0_put (l := ox_l X) (φ := ox_φ X) (D := ox_D X) (cI := ox_I X) (cB := ox_B X) hC.J (o_Cl4 r hr 0 (by decide)) h) gX4_changeSeats_X0_put rfl hd_X0_put ⟨Nat.le_of_ble_eq_true rfl, Nat.le_of_ble_eq_true rfl⟩ rfl rfl (Nat.le_of_ble_eq_true rfl) dX4_changeSeats_31) (fun s31 h => ?_)
  exact hR _ _ _ dX4_changeSeats_34 h
set_option maxRecDepth 100000 in
theorem c_X4_changeSeats {l : Launch} {φ : OI → Nat} {D : va_G} {cI cB : ClassId} (hJ : o_J φ) {r : Nat} {x1 : Int32} {x2 : Int32} (hr : r < 4) {σ : SS} {post : SS → Prop} (h : V_X4_changeSeats r x1 x2 σ post) : o_Mv l φ D cI cB yX4_changeSeats wsX4_changeSeats 1 22 [.ref (φ (3, r, 0)), .int x1, .int x2] σ post :=
 o_met_v hJ (by decide +kernel) rfl (Nat.le_of_ble_eq_true rfl) (fun p e s m args below meth c Q hC hR => wv_X4_changeSeats hC hR hr h)
