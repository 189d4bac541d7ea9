theorem kw_X4_sitInNextOrder_1 : Cond.fieldLink RX4 29 "SchoolRow$Row" "school" "LSchoolRow$School;" ∈ wsX4_sitInNextOrder := List.mem_of_getElem? (i := 1) (by decide +kernel)
theorem kw_X4_sitInNextOrder_2 : Cond.fieldLink RX4 14 "SchoolRow$Row" "seats" "LSchoolRow$Cells;" ∈ wsX4_sitInNextOrder := List.mem_of_getElem? (i := 2) (by decide +kernel)
theorem ki_X4_sitInNextOrder_X4 : ∀ w ∈ wsX40, w ∈ wsX4_sitInNextOrder := fun _ h => List.mem_cons_of_mem _ (List.mem_append_left _ (List.mem_append_left _ (List.mem_append_right _ h)))
theorem hd_X4_sitInNextOrder : yX4_sitInNextOrder.cls = RX4 ∧ yX4_sitInNextOrder.cls ≠ "java/lang/invoke/MethodHandle" ∧ yX4_sitInNextOrder.cls ≠ "java/lang/invoke/VarHandle" ∧ (parseMethodDescriptor yX4_sitInNextOrder.desc).map (fun d => d.parameters.length) = some 0 := by decide +kernel
set_option maxHeartbeats 4000000 in
set_option maxRecDepth 100000 in
theorem wb_X4_sitInNextOrder_97 {X : OX} {r : Nat} {post : Int32 → SS → Prop} {K97 : Int32 → Int32 → SS → Prop} {x4 : Int32} {x5 : Int32} {σ : SS} (hC : o_C X cX4_sitInNextOrder RX4 wsX4_sitInNextOrder 2 45 6) (hR : o_RZ X cX4_sitInNextOrder post) (hr : r < 4) (hK97 : ∀ (x4 : Int32) (x5 : Int32) (σ : SS), K97 x4 x5 σ → o_G X σ 97 [(0, .ref (ox_φ X (3, r, 0))), (4, .int x4), (5, .int x5)] []) (h : VB_X4_sitInNextOrder_97 r post K97 x4 x5 σ) : o_G X σ 97 [(0, .ref (ox_φ X (3, r, 0))), (4, .int x4), (5, .int x5)] [] := by
  unfold VB_X4_sitInNextOrder_97 at h
  refine g_iload hC 1 dX4_sitInNextOrder_97 rfl ?_
  refine g_iload hC 2 dX4_sitInNextOrder_99 rfl ?_
  refine g_icmp_ge hC 121 dX4_sitInNextOrder_101 (by decide) (fun z => ?_) (fun z => ?_)
  · have h := h.1 z
    refine g_iconst (v := (1 : Int32)) hC dX4_sitInNextOrder_121 (by decide) ?_
    exact hR _ _ _ _ dX4_sitInNextOrder_122 ⟨Or.inr rfl, h⟩
  · have h := h.2 z
    refine g_aload_n hC 0 dX4_sitInNextOrder_104 rfl rfl ?_
    refine g_iload hC 1 dX4_sitInNextOrder_105 rfl ?_
    refine g_iload hC 2 dX4_sitInNextOrder_107 rfl ?_
    refine g_rv (r_V (C := RX4) (T := TX4) (N := 6) (As := [.int x4, .int x5]) (rest := []) hC (o_in3 r hr) (o_eX4 _ _ _ _ _) rfl (c_X4_changeSeats (l := ox_l X) (φ := ox_φ X) (D := ox_D X) (cI := ox_I X) (cB := ox_B X) hC.J hr h) gX4_sitInNextOrder_X4_changeSeats rfl hd_X4_changeSeats ⟨Nat.le_of_ble_eq_true rfl, Nat.le_of_ble_eq_true rfl⟩ rfl rfl (Nat.le_of_ble_eq_true rfl) dX4_sitInNextOrder_109) (fun s109 h => ?_)
    refine g_iinc (v := (x4 + (1 : Int32))) hC 1 [(4, .int (x4 + (1 : Int32))), (0, .ref (ox_φ X (3, r, 0))), (5, .int x5)] dX4_sitInNextOrder_112 rfl rfl (by decide) rfl ?_
    refine g_iinc (v := (x5 + (-1 : Int32))) hC 2 [(5, .int (x5 + (-1 : Int32))), (4, .int (x4 + (1 : Int32))), (0, .ref (ox_φ X (3, r, 0)))] dX4_sitInNextOrder_115 rfl rfl (by decide) rfl ?_
    refine g_goto hC 97 dX4_sitInNextOrder_118 (by decide) ?_
    refine g_sub [2, 1, 0] rfl ?_
    exact hK97 _ _ _ h
set_option maxHeartbeats 4000000 in
set_option maxRecDepth 100000 in
theorem lp_X4_sitInNextOrder_97 {X : OX} {r : Nat} {post : Int32 → SS → Prop} (hC : o_C X cX4_sitInNextOrder RX4 wsX4_sitInNextOrder 2 45 6) (hR : o_RZ X cX4_sitInNextOrder post) (hr : r < 4) : ∀ (n : Nat) (a : Int32 × Int32) (σ : SS), LP_X4_sitInNextOrder_97 r post n a σ → o_G X σ 97 [(0, .ref (ox_φ X (3, r, 0))), (4, .int a.1), (5, .int a.2)] [] :=
 o_lp_G (fun K hK a σ h => wb_X4_sitInNextOrder_97 hC hR hr (fun x4 x5 σ h => hK (x4, x5) σ h) h)
set_option maxHeartbeats 4000000 in
set_option maxRecDepth 100000 in
theorem wb_X4_sitInNextOrder_83 {X : OX} {r : Nat} {post : Int32 → SS → Prop} {x1 : Int32} {x2 : Int32} {x3 : Int32} {σ : SS} (hC : o_C X cX4_sitInNextOrder RX4 wsX4_sitInNextOrder 2 45 6) (hR : o_RZ X cX4_sitInNextOrder post) (hr : r < 4) (h : VB_X4_sitInNextOrder_83 r post x1 x2 x3 σ) : o_G X σ 83 [(0, .ref (ox_φ X (3, r, 0))), (1, .int x1), (2, .int x2), (3, .int x3)] [] := by
  unfold VB_X4_sitInNextOrder_83 at h
  refine g_aload_n hC 0 dX4_sitInNextOrder_83 rfl rfl ?_
  refine g_iload_n hC 2 dX4_sitInNextOrder_84 rfl rfl ?_
  refine g_iload_n hC 3 dX4_sitInNextOrder_85 rfl rfl ?_
  refine g_rv (r_V (C := RX4) (T := TX4) (N := 6) (As := [.int x2, .int x3]) (rest := []) hC (o_in3 r hr) (o_eX4 _ _ _ _ _) rfl (c_X4_changeSeats (l := ox_l X) (φ := ox_φ X) (D := ox_D X) (cI := ox_I X) (cB := ox_B X) hC.J hr h) gX4_sitInNextOrder_X4_changeSeats rfl hd_X4_changeSeats ⟨Nat.le_of_ble_eq_true rfl, Nat.le_of_ble_eq_true rfl⟩ rfl rfl (Nat.le_of_ble_eq_true rfl) dX4_sitInNextOrder_86) (fun s86 h => ?_)
  refine g_iload_n hC 2 dX4_sitInNextOrder_89 rfl rfl ?_
  refine g_iconst (v := (1 : Int32)) hC dX4_sitInNextOrder_90 (by decide) ?_
  refine g_iadd hC dX4_sitInNextOrder_91 ?_
  refine g_istore hC [(4, .int (x2 + (1 : Int32))), (0, .ref (ox_φ X (3, r, 0))), (1, .int x1), (2, .int x2), (3, .int x3)] dX4_sitInNextOrder_92 (by decide) rfl ?_
  refine g_iload_n hC 2 dX4_sitInNextOrder_94 rfl rfl ?_
  refine g_istore hC [(5, .int x1), (4, .int (x2 + (1 : Int32))), (0, .ref (ox_φ X (3, r, 0))), (1, .int x1), (2, .int x2), (3, .int x3)] dX4_sitInNextOrder_95 (by decide) rfl ?_
  refine g_sub [2, 1, 0] rfl ?_
  obtain ⟨n, h⟩ := h
  exact lp_X4_sitInNextOrder_97 hC hR hr n _ _ h
set_option maxHeartbeats 4000000 in
set_option maxRecDepth 100000 in
theorem wb_X4_sitInNextOrder_53 {X : OX} {r : Nat} {post : Int32 → SS → Prop} {K53 : Int32 → Int32 → Int32 → SS → Prop} {x1 : Int32} {x2 : Int32} {x3 : Int32} {σ : SS} (hC : o_C X cX4_sitInNextOrder RX4 wsX4_sitInNextOrder 2 45 6) (hR : o_RZ X cX4_sitInNextOrder post) (hr : r < 4) (hK53 : ∀ (x1 : Int32) (x2 : Int32) (x3 : Int32) (σ : SS), K53 x1 x2 x3 σ → o_G X σ 53 [(0, .ref (ox_φ X (3, r, 0))), (1, .int x1), (2, .int x2), (3, .int x3)] []) (h : VB_X4_sitInNextOrder_53 r post K53 x1 x2 x3 σ) : o_G X σ 53 [(0, .ref (ox_φ X (3, r, 0))), (1, .int x1), (2, .int x2), (3, .int x3)] [] := by
  unfold VB_X4_sitInNextOrder_53 at h
  refine g_iload_n hC 3 dX4_sitInNextOrder_53 rfl rfl ?_
  refine g_iload_n hC 2 dX4_sitInNextOrder_54 rfl rfl ?_
  refine g_icmp_le hC 83 dX4_sitInNextOrder_55 (by decide) (fun z => ?_) (fun z => ?_)
  · have h := h.1 z
    exact wb_X4_sitInNextOrder_83 hC hR hr h
  · have h := h.2 z
    refine g_aload_n hC 0 dX4_sitInNextOrder_58 rfl rfl ?_
    refine g_get (C := RX4) (T := TX4) (N := 6) (v := .ref (ox_φ X (4, r, 0))) hC (o_in3 r hr) (o_eX4 _ _ _ _ _) rfl ki_X4_sitInNextOrder_X4 1 (by decide) kw_X4_sitInNextOrder_2 rfl dX4_sitInNextOrder_59 ?_
    refine g_iload_n hC 3 dX4_sitInNextOrder_62 rfl rfl ?_
    refine g_ri (r_V (C := RX0) (T := TX0) (N := 1) (As := [.int x3]) (rest := []) hC (o_Cl4 r hr 0 (by decide)).1 ((o_Cl4 r hr 0 (by decide)).2.1 _ _ _ _) rfl (c_X0_at (l := ox_l X) (φ := ox_φ X) (D := ox_D X) (cI := ox_I X) (cB := ox_B X) hC.J (o_Cl4 r hr 0 (by decide)) h) gX4_sitInNextOrder_X0_at rfl hd_X0_at ⟨Nat.le_of_ble_eq_true rfl, Nat.le_of_ble_eq_true rfl⟩ rfl rfl (Nat.le_of_ble_eq_true rfl) dX4_sitInNextOrder_63) (fun v63 s63 h => ?_)
    refine g_aload_n hC 0 dX4_sitInNextOrder_66 rfl rfl ?_
    refine g_get (C := RX4) (T := TX4) (N := 6) (v := .ref (ox_φ X (4, r, 0))) hC (o_in3 r hr) (o_eX4 _ _ _ _ _) rfl ki_X4_sitInNextOrder_X4 1 (by decide) kw_X4_sitInNextOrder_2 rfl dX4_sitInNextOrder_67 ?_
    refine g_iload_n hC 2 dX4_sitInNextOrder_70 rfl rfl ?_
    refine g_ri (r_V (C := RX0) (T := TX0) (N := 1) (As := [.int x2]) (rest := [.int v63]) hC (o_Cl4 r hr 0 (by decide)).1 ((o_Cl4 r hr 0 (by decide)).2.1 _ _ _ _) rfl (c_X0_at (l := ox_l X) (φ := ox_φ X) (D := ox_D X) (cI := ox_I X) (cB := ox_B X) hC.J (o_Cl4 r hr 0 (by decide)) h) gX4_sitInNextOrder_X0_at rfl hd_X0_at ⟨Nat.le_of_ble_eq_true rfl, Nat.le_of_ble_eq_true rfl⟩ rfl rfl (Nat.le_of_ble_eq_true rfl) dX4_sitInNextOrder_71) (fun v71 s71 h => ?_)
    refine g_icmp_ge hC 83 dX4_sitInNextOrder_74 (by decide) (fun z => ?_) (fun z => ?_)
    · have h := h.1 z
      exact wb_X4_sitInNextOrder_83 hC hR hr h
    · have h := h.2 z
      refine g_iinc (v := (x3 + (-1 : Int32))) hC 3 [(3, .int (x3 + (-1 : Int32))), (0, .ref (ox_φ X (3, r, 0))), (1, .int x1), (2, .int x2)] dX4_sitInNextOrder_77 rfl rfl (by decide) rfl ?_
      refine g_goto hC 53 dX4_sitInNextOrder_80 (by decide) ?_
      refine g_sub [1, 2, 3, 0] rfl ?_
      exact hK53 _ _ _ _ h
set_option maxHeartbeats 4000000 in
set_option maxRecDepth 100000 in
theorem lp_X4_sitInNextOrder_53 {X : OX} {r : Nat} {post : Int32 → SS → Prop} (hC : o_C X cX4_sitInNextOrder RX4 wsX4_sitInNextOrder 2 45 6) (hR : o_RZ X cX4_sitInNextOrder post) (hr : r < 4) : ∀ (n : Nat) (a : Int32 × Int32 × Int32) (σ : SS), LP_X4_sitInNextOrder_53 r post n a σ → o_G X σ 53 [(0, .ref (ox_φ X (3, r, 0))), (1, .int a.1), (2, .int a.2.1), (3, .int a.2.2)] [] :=
 o_lp_G (fun K hK a σ h => wb_X4_sitInNextOrder_53 hC hR hr (fun x1 x2 x3 σ h => hK (x1, x2, x3) σ h) h)
set_option maxHeartbeats 4000000 in
set_option maxRecDepth 100000 in
theorem wb_X4_sitInNextOrder_45 {X : OX} {r : Nat} {post : Int32 → SS → Prop} {x1 : Int32} {x2 : Int32} {σ : SS} (hC : o_C X cX4_sitInNextOrder RX4 wsX4_sitInNextOrder 2 45 6) (hR : o_RZ X cX4_sitInNextOrder post) (hr : r < 4) (h : VB_X4_sitInNextOrder_45 r post x1 x2 σ) : o_G X σ 45 [(0, .ref (ox_φ X (3, r, 0))), (1, .int x1), (2, .int x2)] [] := by
  unfold VB_X4_sitInNextOrder_45 at h
  refine g_iload_n hC 2 dX4_sitInNextOrder_45 rfl rfl ?_
  refine g_if_ge hC 51 dX4_sitInNextOrder_46 (by decide) (fun z => ?_) (fun z => ?_)
  · have h := h.1 z
    refine g_iload_n hC 1 dX4_sitInNextOrder_51 rfl rfl ?_
    refine g_istore_n hC [(3, .int x1), (0, .ref (ox_φ X (3, r, 0))), (1, .int x1), (2, .int x2)] dX4_sitInNextOrder_52 rfl (by decide) rfl ?_
    refine g_sub [1, 2, 3, 0] rfl ?_
    obtain ⟨n, h⟩ := h
    exact lp_X4_sitInNextOrder_53 hC hR hr n _ _ h
  · have h := h.2 z
    refine g_iconst (v := (0 : Int32)) hC dX4_sitInNextOrder_49 (by decide) ?_
    exact hR _ _ _ _ dX4_sitInNextOrder_50 ⟨Or.inl rfl, h⟩
set_option maxHeartbeats 4000000 in
set_option maxRecDepth 100000 in
theorem wb_X4_sitInNextOrder_14 {X : OX} {r : Nat} {post : Int32 → SS → Prop} {K14 : Int32 → Int32 → SS → Prop} {x1 : Int32} {x2 : Int32} {σ : SS} (hC : o_C X cX4_sitInNextOrder RX4 wsX4_sitInNextOrder 2 45 6) (hR : o_RZ X cX4_sitInNextOrder post) (hr : r < 4) (hK14 : ∀ (x1 : Int32) (x2 : Int32) (σ : SS), K14 x1 x2 σ → o_G X σ 14 [(0, .ref (ox_φ X (3, r, 0))), (1, .int x1), (2, .int x2)] []) (h : VB_X4_sitInNextOrder_14 r post K14 x1 x2 σ) : o_G X σ 14 [(0, .ref (ox_φ X (3, r, 0))), (1, .int x1), (2, .int x2)] [] := by
  unfold VB_X4_sitInNextOrder_14 at h
  refine g_iload_n hC 2 dX4_sitInNextOrder_14 rfl rfl ?_
  refine g_if_lt hC 45 dX4_sitInNextOrder_15 (by decide) (fun z => ?_) (fun z => ?_)
  · have h := h.1 z
    exact wb_X4_sitInNextOrder_45 hC hR hr h
  · have h := h.2 z
    refine g_aload_n hC 0 dX4_sitInNextOrder_18 rfl rfl ?_
    refine g_get (C := RX4) (T := TX4) (N := 6) (v := .ref (ox_φ X (4, r, 0))) hC (o_in3 r hr) (o_eX4 _ _ _ _ _) rfl ki_X4_sitInNextOrder_X4 1 (by decide) kw_X4_sitInNextOrder_2 rfl dX4_sitInNextOrder_19 ?_
    refine g_iload_n hC 2 dX4_sitInNextOrder_22 rfl rfl ?_
    refine g_ri (r_V (C := RX0) (T := TX0) (N := 1) (As := [.int x2]) (rest := []) hC (o_Cl4 r hr 0 (by decide)).1 ((o_Cl4 r hr 0 (by decide)).2.1 _ _ _ _) rfl (c_X0_at (l := ox_l X) (φ := ox_φ X) (D := ox_D X) (cI := ox_I X) (cB := ox_B X) hC.J (o_Cl4 r hr 0 (by decide)) h) gX4_sitInNextOrder_X0_at rfl hd_X0_at ⟨Nat.le_of_ble_eq_true rfl, Nat.le_of_ble_eq_true rfl⟩ rfl rfl (Nat.le_of_ble_eq_true rfl) dX4_sitInNextOrder_23) (fun v23 s23 h => ?_)
    refine g_aload_n hC 0 dX4_sitInNextOrder_26 rfl rfl ?_
    refine g_get (C := RX4) (T := TX4) (N := 6) (v := .ref (ox_φ X (4, r, 0))) hC (o_in3 r hr) (o_eX4 _ _ _ _ _) rfl ki_X4_sitInNextOrder_X4 1 (by decide) kw_X4_sitInNextOrder_2 rfl dX4_sitInNextOrder_27 ?_
    refine g_iload_n hC 2 dX4_sitInNextOrder_30 rfl rfl ?_
    refine g_iconst (v := (1 : Int32)) hC dX4_sitInNextOrder_31 (by decide) ?_
    refine g_iadd hC dX4_sitInNextOrder_32 ?_
    refine g_ri (r_V (C := RX0) (T := TX0) (N := 1) (As := [.int (x2 + (1 : Int32))]) (rest := [.int v23]) hC (o_Cl4 r hr 0 (by decide)).1 ((o_Cl4 r hr 0 (by decide)).2.1 _ _ _ _) rfl (c_X0_at (l := ox_l X) (φ := ox_φ X) (D := ox_D X) (cI := ox_I X) (cB := ox_B X) hC.J (o_Cl4 r hr 0 (by decide)) h) gX4_sitInNextOrder_X0_at rfl hd_X0_at ⟨Nat.le_of_ble_eq_true rfl, Nat.le_of_ble_eq_true rfl⟩ rfl rfl (Nat.le_of_ble_eq_true rfl) dX4_sitInNextOrder_33) (fun v33 s33 h => ?_)
    refine g_icmp_le hC 45 dX4_sitInNextOrder_36 (by decide) (fun z => ?_) (fun z => ?_)
    · have h := h.1 z
      exact wb_X4_sitInNextOrder_45 hC hR hr h
    · have h := h.2 z
      refine g_iinc (v := (x2 + (-1 : Int32))) hC 2 [(2, .int (x2 + (-1 : Int32))), (0, .ref (ox_φ X (3, r, 0))), (1, .int x1)] dX4_sitInNextOrder_39 rfl rfl (by decide) rfl ?_
      refine g_goto hC 14 dX4_sitInNextOrder_42 (by decide) ?_
      refine g_sub [1, 2, 0] rfl ?_
      exact hK14 _ _ _ h
set_option maxHeartbeats 4000000 in
set_option maxRecDepth 100000 in
theorem lp_X4_sitInNextOrder_14 {X : OX} {r : Nat} {post : Int32 → SS → Prop} (hC : o_C X cX4_sitInNextOrder RX4 wsX4_sitInNextOrder 2 45 6) (hR : o_RZ X cX4_sitInNextOrder post) (hr : r < 4) : ∀ (n : Nat) (a : Int32 × Int32) (σ : SS), LP_X4_sitInNextOrder_14 r post n a σ → o_G X σ 14 [(0, .ref (ox_φ X (3, r, 0))), (1, .int a.1), (2, .int a.2)] [] :=
 o_lp_G (fun K hK a σ h => wb_X4_sitInNextOrder_14 hC hR hr (fun x1 x2 σ h => hK (x1, x2) σ h) h)
set_option maxHeartbeats 4000000 in
set_option maxRecDepth 100000 in
theorem wv_X4_sitInNextOrder {X : OX} {r : Nat} {post : Int32 → SS → Prop} {σ : SS} (hC : o_C X cX4_sitInNextOrder RX4 wsX4_sitInNextOrder 2 45 6) (hR : o_RZ X cX4_sitInNextOrder post) (hr : r < 4) (h : V_X4_sitInNextOrder r σ post) : o_G X σ 0 [(0, .ref (ox_φ X (3, r, 0)))] [] := by
  unfold V_X4_sitInNextOrder at h
  refine g_aload_n hC 0 dX4_sitInNextOrder_0 rfl rfl ?_
  refine g_get (C := RX4) (T := TX4) (N := 6) (v := .ref (ox_φ X (2, 0, 0))) hC (o_in3 r hr) (o_eX4 _ _ _ _ _) rfl ki_X4_sitInNextOrder_X4 0 (by decide) kw_X4_sitInNextOrder_1 rfl dX4_sitInNextOrder_1 ?_
  refine g_ri (r_V (C := RX5) (T := TX5) (N := 8) (As := []) (rest := []) hC o_iX5 (o_eX5 _ _ _ _) rfl (c_X5_size (l := ox_l X) (φ := ox_φ X) (D := ox_D X) (cI := ox_I X) (cB := ox_B X) hC.J  h) gX4_sitInNextOrder_X5_size rfl hd_X5_size ⟨Nat.le_of_ble_eq_true rfl, Nat.le_of_ble_eq_true rfl⟩ rfl rfl (Nat.le_of_ble_eq_true rfl) dX4_sitInNextOrder_4) (fun v4 s4 h => ?_)
  refine g_iconst (v := (1 : Int32)) hC dX4_sitInNextOrder_7 (by decide) ?_
  refine g_isub hC dX4_sitInNextOrder_8 ?_
  refine g_istore_n hC [(1, .int (v4 - (1 : Int32))), (0, .ref (ox_φ X (3, r, 0)))] dX4_sitInNextOrder_9 rfl (by decide) rfl ?_
  refine g_iload_n hC 0 dX4_sitInNextOrder_10 rfl rfl ?_
  refine g_iconst (v := (1 : Int32)) hC dX4_sitInNextOrder_11 (by decide) ?_
  refine g_isub hC dX4_sitInNextOrder_12 ?_
  refine g_topi (fun y13 e13 => ?_)
  have h := h y13 e13
  refine g_istore_n hC [(2, .int y13), (1, .int (v4 - (1 : Int32))), (0, .ref (ox_φ X (3, r, 0)))] dX4_sitInNextOrder_13 rfl (by decide) rfl ?_
  refine g_sub [2, 1, 0] rfl ?_
  obtain ⟨n, h⟩ := h
  exact lp_X4_sitInNextOrder_14 hC hR hr n _ _ h
set_option maxRecDepth 100000 in
theorem c_X4_sitInNextOrder {l : Launch} {φ : OI → Nat} {D : va_G} {cI cB : ClassId} (hJ : o_J φ) {r : Nat} (hr : r < 4) {σ : SS} {post : Int32 → SS → Prop} (h : V_X4_sitInNextOrder r σ post) : o_Mi l φ D cI cB yX4_sitInNextOrder wsX4_sitInNextOrder 2 45 [.ref (φ (3, r, 0))] σ post :=
 o_met_z hJ (by decide +kernel) rfl (Nat.le_of_ble_eq_true rfl) (fun p e s m args below meth c Q hC hR => wv_X4_sitInNextOrder hC hR hr h)
theorem hd_X9_isIn : yX9_isIn.cls ≠ "java/lang/invoke/MethodHandle" ∧ yX9_isIn.cls ≠ "java/lang/invoke/VarHandle" ∧ (parseMethodDescriptor yX9_isIn.desc).map (fun d => d.parameters.length) = some 2 := by decide +kernel
set_option maxHeartbeats 4000000 in
set_option maxRecDepth 100000 in
theorem wb_X9_isIn_14 {X : OX} {post : Int32 → SS → Prop} {t0 : Int32} {σ : SS} (hC : o_C X cX9_isIn RX9 wsX9_isIn 0 0 2) (hR : o_RZ X cX9_isIn post) (h : VB_X9_isIn_14 post t0 σ) : o_G X σ 14 [] [.int t0] := by
  unfold VB_X9_isIn_14 at h
  exact hR _ _ _ _ dX9_isIn_14 h
set_option maxHeartbeats 4000000 in
set_option maxRecDepth 100000 in
theorem wv_X9_isIn {X : OX} {x0 : Int32} {x1 : Int32} {post : Int32 → SS → Prop} {σ : SS} (hC : o_C X cX9_isIn RX9 wsX9_isIn 0 0 2) (hR : o_RZ X cX9_isIn post) (h : V_X9_isIn x0 x1 σ post) : o_G X σ 0 [(0, .int x0), (1, .int x1)] [] := by
  unfold V_X9_isIn at h
  refine g_iload_n hC 0 dX9_isIn_0 rfl rfl ?_
  refine g_iload_n hC 1 dX9_isIn_1 rfl rfl ?_
  refine g_ishr hC dX9_isIn_2 ?_
  refine g_iconst (v := (1 : Int32)) hC dX9_isIn_3 (by decide) ?_
  refine g_iand hC dX9_isIn_4 ?_
  refine g_iconst (v := (1 : Int32)) hC dX9_isIn_5 (by decide) ?_
  refine g_icmp_ne hC 13 dX9_isIn_6 (by decide) (fun z => ?_) (fun z => ?_)
  · have h := h.1 z
    refine g_iconst (v := (0 : Int32)) hC dX9_isIn_13 (by decide) ?_
    refine g_sub [] rfl ?_
    exact wb_X9_isIn_14 hC hR h
  · have h := h.2 z
    refine g_iconst (v := (1 : Int32)) hC dX9_isIn_9 (by decide) ?_
    refine g_goto hC 14 dX9_isIn_10 (by decide) ?_
    refine g_sub [] rfl ?_
    exact wb_X9_isIn_14 hC hR h
set_option maxRecDepth 100000 in
theorem c_X9_isIn {l : Launch} {φ : OI → Nat} {D : va_G} {cI cB : ClassId} (hJ : o_J φ) {x0 : Int32} {x1 : Int32} {σ : SS} {post : Int32 → SS → Prop} (h : V_X9_isIn x0 x1 σ post) : o_Mi l φ D cI cB yX9_isIn wsX9_isIn 0 0 [.int x0, .int x1] σ post :=
 o_met_z hJ (by decide +kernel) rfl (Nat.le_of_ble_eq_true rfl) (fun p e s m args below meth c Q hC hR => wv_X9_isIn hC hR h)
theorem kw_X4_isIll_1 : Cond.fieldLink RX4 40 "SchoolRow$Row" "ill" "I" ∈ wsX4_isIll := List.mem_of_getElem? (i := 1) (by decide +kernel)
theorem kw_X4_isIll_2 : Cond.static yX9_isIn ∈ wsX4_isIll := List.mem_of_getElem? (i := 2) (by decide +kernel)
theorem kw_X4_isIll_3 : Cond.initialized RX9 ∈ wsX4_isIll := List.mem_of_getElem? (i := 3) (by decide +kernel)
theorem ki_X4_isIll_X4 : ∀ w ∈ wsX40, w ∈ wsX4_isIll := fun _ h => List.mem_cons_of_mem _ (List.mem_append_right _ h)
theorem hd_X4_isIll : yX4_isIll.cls = RX4 ∧ yX4_isIll.cls ≠ "java/lang/invoke/MethodHandle" ∧ yX4_isIll.cls ≠ "java/lang/invoke/VarHandle" ∧ (parseMethodDescriptor yX4_isIll.desc).map (fun d => d.parameters.length) = some 1 := by decide +kernel
set_option maxHeartbeats 4000000 in
set_option maxRecDepth 100000 in
theorem wv_X4_isIll {X : OX} {r : Nat} {x1 : Int32} {post : Int32 → SS → Prop} {σ : SS} (hC : o_C X cX4_isIll RX4 wsX4_isIll 1 21 2) (hR : o_RZ X cX4_isIll post) (hr : r < 4) (h : V_X4_isIll r x1 σ post) : o_G X σ 0 [(0, .ref (ox_φ X (3, r, 0))), (1, .int x1)] [] := by
  unfold V_X4_isIll at h
  refine g_aload_n hC 0 dX4_isIll_0 rfl rfl ?_
  refine g_get (C := RX4) (T := TX4) (N := 6) (v := .int (σ.1 (3, r, 0) 5)) hC (o_in3 r hr) (o_eX4 _ _ _ _ _) rfl ki_X4_isIll_X4 5 (by decide) kw_X4_isIll_1 rfl dX4_isIll_1 ?_
  refine g_iload_n hC 1 dX4_isIll_4 rfl rfl ?_
  refine g_ri (r_SN (As := [.int (σ.1 (3, r, 0) 5), .int x1]) (rest := []) hC (c_X9_isIn (l := ox_l X) (φ := ox_φ X) (D := ox_D X) (cI := ox_I X) (cB := ox_B X) hC.J  h) gX4_isIll_X9_isIn_n61 rfl kw_X4_isIll_3 kw_X4_isIll_2 hd_X9_isIn ⟨Nat.le_of_ble_eq_true rfl, Nat.le_of_ble_eq_true rfl⟩ rfl rfl (Nat.le_of_ble_eq_true rfl) dX4_isIll_5) (fun v5 s5 h => ?_)
  exact hR _ _ _ _ dX4_isIll_8 h
set_option maxRecDepth 100000 in
theorem c_X4_isIll {l : Launch} {φ : OI → Nat} {D : va_G} {cI cB : ClassId} (hJ : o_J φ) {r : Nat} {x1 : Int32} (hr : r < 4) {σ : SS} {post : Int32 → SS → Prop} (h : V_X4_isIll r x1 σ post) : o_Mi l φ D cI cB yX4_isIll wsX4_isIll 1 21 [.ref (φ (3, r, 0)), .int x1] σ post :=
 o_met_z hJ (by decide +kernel) rfl (Nat.le_of_ble_eq_true rfl) (fun p e s m args below meth c Q hC hR => wv_X4_isIll hC hR hr h)
theorem kw_X4_setIll_1 : Cond.fieldLink RX4 40 "SchoolRow$Row" "ill" "I" ∈ wsX4_setIll := List.mem_of_getElem? (i := 1) (by decide +kernel)
theorem ki_X4_setIll_X4 : ∀ w ∈ wsX40, w ∈ wsX4_setIll := fun _ h => List.mem_cons_of_mem _ (List.mem_append_right _ h)
theorem hd_X4_setIll : yX4_setIll.cls = RX4 ∧ yX4_setIll.cls ≠ "java/lang/invoke/MethodHandle" ∧ yX4_setIll.cls ≠ "java/lang/invoke/VarHandle" ∧ (parseMethodDescriptor yX4_setIll.desc).map (fun d => d.parameters.length) = some 2 := by decide +kernel
set_option maxHeartbeats 4000000 in
set_option maxRecDepth 100000 in
theorem wb_X4_setIll_26 {X : OX} {r : Nat} {post : SS → Prop} {t0 : Int32} {σ : SS} (hC : o_C X cX4_setIll RX4 wsX4_setIll 0 0 3) (hR : o_RV X cX4_setIll post) (hr : r < 4) (h : VB_X4_setIll_26 r post t0 σ) : o_G X σ 26 [] [.int t0, .ref (ox_φ X (3, r, 0))] := by
  unfold VB_X4_setIll_26 at h
  refine g_puti (C := RX4) (T := TX4) (N := 6) hC (o_in3 r hr) (o_eX4 _ _ _ _ _) rfl ki_X4_setIll_X4 tyX4_ok nmX4 5 (by decide) kw_X4_setIll_1 rfl rfl rfl (Nat.le_of_ble_eq_true rfl) (o_pX4_5 _ _ _ _ _ _) dX4_setIll_26 ?_
  exact hR _ _ _ dX4_setIll_29 h
set_option maxHeartbeats 4000000 in
set_option maxRecDepth 100000 in
theorem wv_X4_setIll {X : OX} {r : Nat} {x1 : Int32} {x2 : Int32} {post : SS → Prop} {σ : SS} (hC : o_C X cX4_setIll RX4 wsX4_setIll 0 0 3) (hR : o_RV X cX4_setIll post) (hr : r < 4) (h : V_X4_setIll r x1 x2 σ post) : o_G X σ 0 [(0, .ref (ox_φ X (3, r, 0))), (1, .int x1), (2, .int x2)] [] := by
  unfold V_X4_setIll at h
  refine g_aload_n hC 0 dX4_setIll_0 rfl rfl ?_
  refine g_iload_n hC 2 dX4_setIll_1 rfl rfl ?_
  refine g_if_eq hC 16 dX4_setIll_2 (by decide) (fun z => ?_) (fun z => ?_)
  · have h := h.1 z
    refine g_aload_n hC 0 dX4_setIll_16 rfl rfl ?_
    refine g_get (C := RX4) (T := TX4) (N := 6) (v := .int (σ.1 (3, r, 0) 5)) hC (o_in3 r hr) (o_eX4 _ _ _ _ _) rfl ki_X4_setIll_X4 5 (by decide) kw_X4_setIll_1 rfl dX4_setIll_17 ?_
    refine g_iconst (v := (1 : Int32)) hC dX4_setIll_20 (by decide) ?_
    refine g_iload_n hC 1 dX4_setIll_21 rfl rfl ?_
    refine g_ishl hC dX4_setIll_22 ?_
    refine g_iconst (v := (-1 : Int32)) hC dX4_setIll_23 (by decide) ?_
    refine g_ixor hC dX4_setIll_24 ?_
    refine g_iand hC dX4_setIll_25 ?_
    refine g_sub [] rfl ?_
    exact wb_X4_setIll_26 hC hR hr h
  · have h := h.2 z
    refine g_aload_n hC 0 dX4_setIll_5 rfl rfl ?_
    refine g_get (C := RX4) (T := TX4) (N := 6) (v := .int (σ.1 (3, r, 0) 5)) hC (o_in3 r hr) (o_eX4 _ _ _ _ _) rfl ki_X4_setIll_X4 5 (by decide) kw_X4_setIll_1 rfl dX4_setIll_6 ?_
    refine g_iconst (v := (1 : Int32)) hC dX4_setIll_9 (by decide) ?_
    refine g_iload_n hC 1 dX4_setIll_10 rfl rfl ?_
    refine g_ishl hC dX4_setIll_11 ?_
    refine g_ior hC dX4_setIll_12 ?_
    refine g_goto hC 26 dX4_setIll_13 (by decide) ?_
    refine g_sub [] rfl ?_
    exact wb_X4_setIll_26 hC hR hr h
set_option maxRecDepth 100000 in
theorem c_X4_setIll {l : Launch} {φ : OI → Nat} {D : va_G} {cI cB : ClassId} (hJ : o_J φ) {r : Nat} {x1 : Int32} {x2 : Int32} (hr : r < 4) {σ : SS} {post : SS → Prop} (h : V_X4_setIll r x1 x2 σ post) : o_Mv l φ D cI cB yX4_setIll wsX4_setIll 0 0 [.ref (φ (3, r, 0)), .int x1, .int x2] σ post :=
 o_met_v hJ (by decide +kernel) rfl (Nat.le_of_ble_eq_true rfl) (fun p e s m args below meth c Q hC hR => wv_X4_setIll hC hR hr h)
theorem kw_X4_setAllIll_1 : Cond.fieldLink RX4 40 "SchoolRow$Row" "ill" "I" ∈ wsX4_setAllIll := List.mem_of_getElem? (i := 1) (by decide +kernel)
theorem ki_X4_setAllIll_X4 : ∀ w ∈ wsX40, w ∈ wsX4_setAllIll := fun _ h => List.mem_cons_of_mem _ (List.mem_append_right _ h)
theorem hd_X4_setAllIll : yX4_setAllIll.cls = RX4 ∧ yX4_setAllIll.cls ≠ "java/lang/invoke/MethodHandle" ∧ yX4_setAllIll.cls ≠ "java/lang/invoke/VarHandle" ∧ (parseMethodDescriptor yX4_setAllIll.desc).map (fun d => d.parameters.length) = some 1 := by decide +kernel
set_option maxHeartbeats 4000000 in
set_option maxRecDepth 100000 in
theorem wv_X4_setAllIll {X : OX} {r : Nat} {x1 : Int32} {post : SS → Prop} {σ : SS} (hC : o_C X cX4_setAllIll RX4 wsX4_setAllIll 0 0 2) (hR : o_RV X cX4_setAllIll post) (hr : r < 4) (h : V_X4_setAllIll r x1 σ post) : o_G X σ 0 [(0, .ref (ox_φ X (3, r, 0))), (1, .int x1)] [] := by
  unfold V_X4_setAllIll at h
  refine g_aload_n hC 0 dX4_setAllIll_0 rfl rfl ?_
  refine g_iload_n hC 1 dX4_setAllIll_1 rfl rfl ?_
  refine g_puti (C := RX4) (T := TX4) (N := 6) hC (o_in3 r hr) (o_eX4 _ _ _ _ _) rfl ki_X4_setAllIll_X4 tyX4_ok nmX4 5 (by decide) kw_X4_setAllIll_1 rfl rfl rfl (Nat.le_of_ble_eq_true rfl) (o_pX4_5 _ _ _ _ _ _) dX4_setAllIll_2 ?_
  exact hR _ _ _ dX4_setAllIll_5 h
set_option maxRecDepth 100000 in
theorem c_X4_setAllIll {l : Launch} {φ : OI → Nat} {D : va_G} {cI cB : ClassId} (hJ : o_J φ) {r : Nat} {x1 : Int32} (hr : r < 4) {σ : SS} {post : SS → Prop} (h : V_X4_setAllIll r x1 σ post) : o_Mv l φ D cI cB yX4_setAllIll wsX4_setAllIll 0 0 [.ref (φ (3, r, 0)), .int x1] σ post :=
 o_met_v hJ (by decide +kernel) rfl (Nat.le_of_ble_eq_true rfl) (fun p e s m args below meth c Q hC hR => wv_X4_setAllIll hC hR hr h)
theorem kw_X4_illOnes_1 : Cond.fieldLink RX4 40 "SchoolRow$Row" "ill" "I" ∈ wsX4_illOnes := List.mem_of_getElem? (i := 1) (by decide +kernel)
theorem ki_X4_illOnes_X4 : ∀ w ∈ wsX40, w ∈ wsX4_illOnes := fun _ h => List.mem_cons_of_mem _ (List.mem_append_right _ h)
theorem hd_X4_illOnes : yX4_illOnes.cls = RX4 ∧ yX4_illOnes.cls ≠ "java/lang/invoke/MethodHandle" ∧ yX4_illOnes.cls ≠ "java/lang/invoke/VarHandle" ∧ (parseMethodDescriptor yX4_illOnes.desc).map (fun d => d.parameters.length) = some 0 := by decide +kernel
set_option maxHeartbeats 4000000 in
set_option maxRecDepth 100000 in
theorem wv_X4_illOnes {X : OX} {r : Nat} {post : Int32 → SS → Prop} {σ : SS} (hC : o_C X cX4_illOnes RX4 wsX4_illOnes 1 20 1) (hR : o_RI X cX4_illOnes post) (hr : r < 4) (h : V_X4_illOnes r σ post) : o_G X σ 0 [(0, .ref (ox_φ X (3, r, 0)))] [] := by
  unfold V_X4_illOnes at h
  refine g_aload_n hC 0 dX4_illOnes_0 rfl rfl ?_
  refine g_get (C := RX4) (T := TX4) (N := 6) (v := .int (σ.1 (3, r, 0) 5)) hC (o_in3 r hr) (o_eX4 _ _ _ _ _) rfl ki_X4_illOnes_X4 5 (by decide) kw_X4_illOnes_1 rfl dX4_illOnes_1 ?_
  refine g_ri (r_S (As := [.int (σ.1 (3, r, 0) 5)]) (rest := []) hC (c_J6_bitCount_0f7a4 (l := ox_l X) (φ := ox_φ X) (D := ox_D X) (cI := ox_I X) (cB := ox_B X) hC.J  h) gX4_illOnes_J6_bitCount_0f7a4 rfl hd_J6_bitCount_0f7a4 ⟨Nat.le_of_ble_eq_true rfl, Nat.le_of_ble_eq_true rfl⟩ rfl rfl (Nat.le_of_ble_eq_true rfl) dX4_illOnes_4) (fun v4 s4 h => ?_)
  exact hR _ _ _ _ dX4_illOnes_7 h
set_option maxRecDepth 100000 in
theorem c_X4_illOnes {l : Launch} {φ : OI → Nat} {D : va_G} {cI cB : ClassId} (hJ : o_J φ) {r : Nat} (hr : r < 4) {σ : SS} {post : Int32 → SS → Prop} (h : V_X4_illOnes r σ post) : o_Mi l φ D cI cB yX4_illOnes wsX4_illOnes 1 20 [.ref (φ (3, r, 0))] σ post :=
 o_met_i hJ (by decide +kernel) rfl (Nat.le_of_ble_eq_true rfl) (fun p e s m args below meth c Q hC hR => wv_X4_illOnes hC hR hr h)
theorem kw_X4_toldOf_1 : Cond.fieldLink RX4 26 "SchoolRow$Row" "told" "LSchoolRow$Cells;" ∈ wsX4_toldOf := List.mem_of_getElem? (i := 1) (by decide +kernel)
theorem ki_X4_toldOf_X4 : ∀ w ∈ wsX40, w ∈ wsX4_toldOf := fun _ h => List.mem_cons_of_mem _ (List.mem_append_left _ (List.mem_append_right _ h))
theorem hd_X4_toldOf : yX4_toldOf.cls = RX4 ∧ yX4_toldOf.cls ≠ "java/lang/invoke/MethodHandle" ∧ yX4_toldOf.cls ≠ "java/lang/invoke/VarHandle" ∧ (parseMethodDescriptor yX4_toldOf.desc).map (fun d => d.parameters.length) = some 1 := by decide +kernel
set_option maxHeartbeats 4000000 in
set_option maxRecDepth 100000 in
theorem wv_X4_toldOf {X : OX} {r : Nat} {x1 : Int32} {post : Int32 → SS → Prop} {σ : SS} (hC : o_C X cX4_toldOf RX4 wsX4_toldOf 1 21 2) (hR : o_RI X cX4_toldOf post) (hr : r < 4) (h : V_X4_toldOf r x1 σ post) : o_G X σ 0 [(0, .ref (ox_φ X (3, r, 0))), (1, .int x1)] [] := by
  unfold V_X4_toldOf at h
  refine g_aload_n hC 0 dX4_toldOf_0 rfl rfl ?_
  refine g_get (C := RX4) (T := TX4) (N := 6) (v := .ref (ox_φ X (4, r, 3))) hC (o_in3 r hr) (o_eX4 _ _ _ _ _) rfl ki_X4_toldOf_X4 4 (by decide) kw_X4_toldOf_1 rfl dX4_toldOf_1 ?_
  refine g_iload_n hC 1 dX4_toldOf_4 rfl rfl ?_
  refine g_ri (r_V (C := RX0) (T := TX0) (N := 1) (As := [.int x1]) (rest := []) hC (o_Cl4 r hr 3 (by decide)).1 ((o_Cl4 r hr 3 (by decide)).2.1 _ _ _ _) rfl (c_X0_at (l := ox_l X) (φ := ox_φ X) (D := ox_D X) (cI := ox_I X) (cB := ox_B X) hC.J (o_Cl4 r hr 3 (by decide)) h) gX4_toldOf_X0_at rfl hd_X0_at ⟨Nat.le_of_ble_eq_true rfl, Nat.le_of_ble_eq_true rfl⟩ rfl rfl (Nat.le_of_ble_eq_true rfl) dX4_toldOf_5) (fun v5 s5 h => ?_)
  exact hR _ _ _ _ dX4_toldOf_8 h
set_option maxRecDepth 100000 in
theorem c_X4_toldOf {l : Launch} {φ : OI → Nat} {D : va_G} {cI cB : ClassId} (hJ : o_J φ) {r : Nat} {x1 : Int32} (hr : r < 4) {σ : SS} {post : Int32 → SS → Prop} (h : V_X4_toldOf r x1 σ post) : o_Mi l φ D cI cB yX4_toldOf wsX4_toldOf 1 21 [.ref (φ (3, r, 0)), .int x1] σ post :=
 o_met_i hJ (by decide +kernel) rfl (Nat.le_of_ble_eq_true rfl) (fun p e s m args below meth c Q hC hR => wv_X4_toldOf hC hR hr h)
theorem kw_X4_setTold_1 : Cond.fieldLink RX4 26 "SchoolRow$Row" "told" "LSchoolRow$Cells;" ∈ wsX4_setTold := List.mem_of_getElem? (i := 1) (by decide +kernel)
theorem ki_X4_setTold_X4 : ∀ w ∈ wsX40, w ∈ wsX4_setTold := fun _ h => List.mem_cons_of_mem _ (List.mem_append_left _ (List.mem_append_right _ h))
theorem hd_X4_setTold : yX4_setTold.cls = RX4 ∧ yX4_setTold.cls ≠ "java/lang/invoke/MethodHandle" ∧ yX4_setTold.cls ≠ "java/lang/invoke/VarHandle" ∧ (parseMethodDescriptor yX4_setTold.desc).map (fun d => d.parameters.length) = some 2 := by decide +kernel
set_option maxHeartbeats 4000000 in
set_option maxRecDepth 100000 in
theorem wv_X4_setTold {X : OX} {r : Nat} {x1 : Int32} {x2 : Int32} {post : SS → Prop} {σ : SS} (hC : o_C X cX4_setTold RX4 wsX4_setTold 1 22 3) (hR : o_RV X cX4_setTold post) (hr : r < 4) (h : V_X4_setTold r x1 x2 σ post) : o_G X σ 0 [(0, .ref (ox_φ X (3, r, 0))), (1, .int x1), (2, .int x2)] [] := by
  unfold V_X4_setTold at h
  refine g_aload_n hC 0 dX4_setTold_0 rfl rfl ?_
  refine g_get (C := RX4) (T := TX4) (N := 6) (v := .ref (ox_φ X (4, r, 3))) hC (o_in3 r hr) (o_eX4 _ _ _ _ _) rfl ki_X4_setTold_X4 4 (by decide) kw_X4_setTold_1 rfl dX4_setTold_1 ?_
  refine g_iload_n hC 1 dX4_setTold_4 rfl rfl ?_
  refine g_iload_n hC 2 dX4_setTold_5 rfl rfl ?_
  refine g_rv (r_V (C := RX0) (T := TX0) (N := 1) (As := [.int x1, .int x2]) (rest := []) hC (o_Cl4 r hr 3 (by decide)).1 ((o_Cl4 r hr 3 (by decide)).2.1 _ _ _ _) rfl (c_X0_put (l := ox_l X) (φ := ox_φ X) (D := ox_D X) (cI := ox_I X) (cB := ox_B X) hC.J (o_Cl4 r hr 3 (by decide)) h) gX4_setTold_X0_put rfl hd_X0_put ⟨Nat.le_of_ble_eq_true rfl, Nat.le_of_ble_eq_true rfl⟩ rfl rfl (Nat.le_of_ble_eq_true rfl) dX4_setTold_6) (fun s6 h => ?_)
  exact hR _ _ _ dX4_setTold_9 h
set_option maxRecDepth 100000 in
theorem c_X4_setTold {l : Launch} {φ : OI → Nat} {D : va_G} {cI cB : ClassId} (hJ : o_J φ) {r : Nat} {x1 : Int32} {x2 : Int32} (hr : r < 4) {σ : SS} {post : SS → Prop} (h : V_X4_setTold r x1 x2 σ post) : o_Mv l φ D cI cB yX4_setTold wsX4_setTold 1 22 [.ref (φ (3, r, 0)), .int x1, .int x2] σ post :=
 o_met_v hJ (by decide +kernel) rfl (Nat.le_of_ble_eq_true rfl) (fun p e s m args below meth c Q hC hR => wv_X4_setTold hC hR hr h)
theorem hd_X4_slateOf : yX4_slateOf.cls ≠ "java/lang/invoke/MethodHandle" ∧ yX4_slateOf.cls ≠ "java/lang/invoke/VarHandle" ∧ (parseMethodDescriptor yX4_slateOf.desc).map (fun d => d.parameters.length) = some 2 := by decide +kernel
set_option maxHeartbeats 4000000 in
set_option maxRecDepth 100000 in
theorem wv_X4_slateOf {X : OX} {x0 : Int32} {x1 : Int32} {post : Int32 → SS → Prop} {σ : SS} (hC : o_C X cX4_slateOf RX4 wsX4_slateOf 0 0 2) (hR : o_RI X cX4_slateOf post) (h : V_X4_slateOf x0 x1 σ post) : o_G X σ 0 [(0, .int x0), (1, .int x1)] [] := by
  unfold V_X4_slateOf at h
  refine g_iload_n hC 0 dX4_slateOf_0 rfl rfl ?_
  refine g_iconst (v := (4 : Int32)) hC dX4_slateOf_1 (by decide) ?_
  refine g_imul hC dX4_slateOf_2 ?_
  refine g_iload_n hC 1 dX4_slateOf_3 rfl rfl ?_
  refine g_iadd hC dX4_slateOf_4 ?_
  exact hR _ _ _ _ dX4_slateOf_5 h
set_option maxRecDepth 100000 in
theorem c_X4_slateOf {l : Launch} {φ : OI → Nat} {D : va_G} {cI cB : ClassId} (hJ : o_J φ) {x0 : Int32} {x1 : Int32} {σ : SS} {post : Int32 → SS → Prop} (h : V_X4_slateOf x0 x1 σ post) : o_Mi l φ D cI cB yX4_slateOf wsX4_slateOf 0 0 [.int x0, .int x1] σ post :=
 o_met_i hJ (by decide +kernel) rfl (Nat.le_of_ble_eq_true rfl) (fun p e s m args below meth c Q hC hR => wv_X4_slateOf hC hR h)
theorem kw_X4_parts_1 : Cond.fieldLink RX4 20 "SchoolRow$Row" "parts" "LSchoolRow$Cells;" ∈ wsX4_parts := List.mem_of_getElem? (i := 1) (by decide +kernel)
theorem ki_X4_parts_X4 : ∀ w ∈ wsX40, w ∈ wsX4_parts := fun _ h => List.mem_cons_of_mem _ (List.mem_append_left _ (List.mem_append_right _ h))
theorem hd_X4_parts : yX4_parts.cls = RX4 ∧ yX4_parts.cls ≠ "java/lang/invoke/MethodHandle" ∧ yX4_parts.cls ≠ "java/lang/invoke/VarHandle" ∧ (parseMethodDescriptor yX4_parts.desc).map (fun d => d.parameters.length) = some 2 := by decide +kernel
set_option maxHeartbeats 4000000 in
set_option maxRecDepth 100000 in
theorem wv_X4_parts {X : OX} {r : Nat} {x1 : Int32} {x2 : Int32} {post : Int32 → SS → Prop} {σ : SS} (hC : o_C X cX4_parts RX4 wsX4_parts 1 21 3) (hR : o_RI X cX4_parts post) (hr : r < 4) (h : V_X4_parts r x1 x2 σ post) : o_G X σ 0 [(0, .ref (ox_φ X (3, r, 0))), (1, .int x1), (2, .int x2)] [] := by
  unfold V_X4_parts at h
  refine g_aload_n hC 0 dX4_parts_0 rfl rfl ?_
  refine g_get (C := RX4) (T := TX4) (N := 6) (v := .ref (ox_φ X (4, r, 1))) hC (o_in3 r hr) (o_eX4 _ _ _ _ _) rfl ki_X4_parts_X4 2 (by decide) kw_X4_parts_1 rfl dX4_parts_1 ?_
  refine g_iload_n hC 1 dX4_parts_4 rfl rfl ?_
  refine g_iload_n hC 2 dX4_parts_5 rfl rfl ?_
  refine g_ri (r_S (As := [.int x1, .int x2]) (rest := [.ref (ox_φ X (4, r, 1))]) hC (c_X4_slateOf (l := ox_l X) (φ := ox_φ X) (D := ox_D X) (cI := ox_I X) (cB := ox_B X) hC.J  h) gX4_parts_X4_slateOf rfl hd_X4_slateOf ⟨Nat.le_of_ble_eq_true rfl, Nat.le_of_ble_eq_true rfl⟩ rfl rfl (Nat.le_of_ble_eq_true rfl) dX4_parts_6) (fun v6 s6 h => ?_)
  refine g_ri (r_V (C := RX0) (T := TX0) (N := 1) (As := [.int v6]) (rest := []) hC (o_Cl4 r hr 1 (by decide)).1 ((o_Cl4 r hr 1 (by decide)).2.1 _ _ _ _) rfl (c_X0_at (l := ox_l X) (φ := ox_φ X) (D := ox_D X) (cI := ox_I X) (cB := ox_B X) hC.J (o_Cl4 r hr 1 (by decide)) h) gX4_parts_X0_at rfl hd_X0_at ⟨Nat.le_of_ble_eq_true rfl, Nat.le_of_ble_eq_true rfl⟩ rfl rfl (Nat.le_of_ble_eq_true rfl) dX4_parts_9) (fun v9 s9 h => ?_)
  exact hR _ _ _ _ dX4_parts_12 h
set_option maxRecDepth 100000 in
theorem c_X4_parts {l : Launch} {φ : OI → Nat} {D : va_G} {cI cB : ClassId} (hJ : o_J φ) {r : Nat} {x1 : Int32} {x2 : Int32} (hr : r < 4) {σ : SS} {post : Int32 → SS → Prop} (h : V_X4_parts r x1 x2 σ post) : o_Mi l φ D cI cB yX4_parts wsX4_parts 1 21 [.ref (φ (3, r, 0)), .int x1, .int x2] σ post :=
 o_met_i hJ (by decide +kernel) rfl (Nat.le_of_ble_eq_true rfl) (fun p e s m args below meth c Q hC hR => wv_X4_parts hC hR hr h)
theorem kw_X4_isAsTold_1 : Cond.fieldLink RX4 29 "SchoolRow$Row" "school" "LSchoolRow$School;" ∈ wsX4_isAsTold := List.mem_of_getElem? (i := 1) (by decide +kernel)
theorem kw_X4_isAsTold_2 : Cond.fieldLink RX4 26 "SchoolRow$Row" "told" "LSchoolRow$Cells;" ∈ wsX4_isAsTold := List.mem_of_getElem? (i := 2) (by decide +kernel)
theorem ki_X4_isAsTold_X4 : ∀ w ∈ wsX40, w ∈ wsX4_isAsTold := fun _ h => List.mem_cons_of_mem _ (List.mem_append_left _ (List.mem_append_left _ (List.mem_append_right _ h)))
theorem hd_X4_isAsTold : yX4_isAsTold.cls = RX4 ∧ yX4_isAsTold.cls ≠ "java/lang/invoke/MethodHandle" ∧ yX4_isAsTold.cls ≠ "java/lang/invoke/VarHandle" ∧ (parseMethodDescriptor yX4_isAsTold.desc).map (fun d => d.parameters.length) = some 0 := by decide +kernel
set_option maxHeartbeats 4000000 in
set_option maxRecDepth 100000 in
theorem wb_X4_isAsTold_54 {X : OX} {r : Nat} {post : Int32 → SS → Prop} {K2 : Int32 → SS → Prop} {x1 : Int32} {σ : SS} (hC : o_C X cX4_isAsTold RX4 wsX4_isAsTold 2 43 3) (hR : o_RZ X cX4_isAsTold post) (hr : r < 4) (hK2 : ∀ (x1 : Int32) (σ : SS), K2 x1 σ → o_G X σ 2 [(0, .ref (ox_φ X (3, r, 0))), (1, .int x1)] []) (h : VB_X4_isAsTold_54 r post K2 x1 σ) : o_G X σ 54 [(0, .ref (ox_φ X (3, r, 0))), (1, .int x1)] [] := by
  unfold VB_X4_isAsTold_54 at h
  refine g_iinc (v := (x1 + (1 : Int32))) hC 1 [(1, .int (x1 + (1 : Int32))), (0, .ref (ox_φ X (3, r, 0)))] dX4_isAsTold_54 rfl rfl (by decide) rfl ?_
  refine g_goto hC 2 dX4_isAsTold_57 (by decide) ?_
  refine g_sub [1, 0] rfl ?_
  exact hK2 _ _ h
set_option maxHeartbeats 4000000 in
set_option maxRecDepth 100000 in
theorem wb_X4_isAsTold_27 {X : OX} {r : Nat} {post : Int32 → SS → Prop} {K2 : Int32 → SS → Prop} {x1 : Int32} {t0 : Int32} {σ : SS} (hC : o_C X cX4_isAsTold RX4 wsX4_isAsTold 2 43 3) (hR : o_RZ X cX4_isAsTold post) (hr : r < 4) (hK2 : ∀ (x1 : Int32) (σ : SS), K2 x1 σ → o_G X σ 2 [(0, .ref (ox_φ X (3, r, 0))), (1, .int x1)] []) (h : VB_X4_isAsTold_27 r post K2 x1 t0 σ) : o_G X σ 27 [(0, .ref (ox_φ X (3, r, 0))), (1, .int x1)] [.int t0] := by
  unfold VB_X4_isAsTold_27 at h
  refine g_istore_n hC [(2, .int t0), (0, .ref (ox_φ X (3, r, 0))), (1, .int x1)] dX4_isAsTold_27 rfl (by decide) rfl ?_
  refine g_aload_n hC 1 dX4_isAsTold_28 rfl rfl ?_
  refine g_get (C := RX4) (T := TX4) (N := 6) (v := .ref (ox_φ X (4, r, 3))) hC (o_in3 r hr) (o_eX4 _ _ _ _ _) rfl ki_X4_isAsTold_X4 4 (by decide) kw_X4_isAsTold_2 rfl dX4_isAsTold_29 ?_
  refine g_iload_n hC 2 dX4_isAsTold_32 rfl rfl ?_
  refine g_ri (r_V (C := RX0) (T := TX0) (N := 1) (As := [.int x1]) (rest := []) hC (o_Cl4 r hr 3 (by decide)).1 ((o_Cl4 r hr 3 (by decide)).2.1 _ _ _ _) rfl (c_X0_at (l := ox_l X) (φ := ox_φ X) (D := ox_D X) (cI := ox_I X) (cB := ox_B X) hC.J (o_Cl4 r hr 3 (by decide)) h) gX4_isAsTold_X0_at rfl hd_X0_at ⟨Nat.le_of_ble_eq_true rfl, Nat.le_of_ble_eq_true rfl⟩ rfl rfl (Nat.le_of_ble_eq_true rfl) dX4_isAsTold_33) (fun v33 s33 h => ?_)
  refine g_iconst (v := (-1 : Int32)) hC dX4_isAsTold_36 (by decide) ?_
  refine g_icmp_eq hC 54 dX4_isAsTold_37 (by decide) (fun z => ?_) (fun z => ?_)
  · have h := h.1 z
    refine g_sub [1, 2] rfl ?_
    exact wb_X4_isAsTold_54 hC hR hr hK2 h
  · have h := h.2 z
    refine g_aload_n hC 1 dX4_isAsTold_40 rfl rfl ?_
    refine g_get (C := RX4) (T := TX4) (N := 6) (v := .ref (ox_φ X (4, r, 3))) hC (o_in3 r hr) (o_eX4 _ _ _ _ _) rfl ki_X4_isAsTold_X4 4 (by decide) kw_X4_isAsTold_2 rfl dX4_isAsTold_41 ?_
    refine g_iload_n hC 2 dX4_isAsTold_44 rfl rfl ?_
    refine g_ri (r_V (C := RX0) (T := TX0) (N := 1) (As := [.int x1]) (rest := []) hC (o_Cl4 r hr 3 (by decide)).1 ((o_Cl4 r hr 3 (by decide)).2.1 _ _ _ _) rfl (c_X0_at (l := ox_l X) (φ := ox_φ X) (D := ox_D X) (cI := ox_I X) (cB := ox_B X) hC.J (o_Cl4 r hr 3 (by decide)) h) gX4_isAsTold_X0_at rfl hd_X0_at ⟨Nat.le_of_ble_eq_true rfl, Nat.le_of_ble_eq_true rfl⟩ rfl rfl (Nat.le_of_ble_eq_true rfl) dX4_isAsTold_45) (fun v45 s45 h => ?_)
    refine g_iload_n hC 0 dX4_isAsTold_48 rfl rfl ?_
    refine g_icmp_eq hC 54 dX4_isAsTold_49 (by decide) (fun z => ?_) (fun z => ?_)
    · have h := h.1 z
      refine g_sub [1, 2] rfl ?_
      exact wb_X4_isAsTold_54 hC hR hr hK2 h
    · have h := h.2 z
      refine g_iconst (v := (0 : Int32)) hC dX4_isAsTold_52 (by decide) ?_
      exact hR _ _ _ _ dX4_isAsTold_53 ⟨Or.inl rfl, h⟩
set_option maxHeartbeats 4000000 in
set_option maxRecDepth 100000 in
theorem wb_X4_isAsTold_2 {X : OX} {r : Nat} {post : Int32 → SS → Prop} {K2 : Int32 → SS → Prop} {x1 : Int32} {σ : SS} (hC : o_C X cX4_isAsTold RX4 wsX4_isAsTold 2 43 3) (hR : o_RZ X cX4_isAsTold post) (hr : r < 4) (hK2 : ∀ (x1 : Int32) (σ : SS), K2 x1 σ → o_G X σ 2 [(0, .ref (ox_φ X (3, r, 0))), (1, .int x1)] []) (h : VB_X4_isAsTold_2 r post K2 x1 σ) : o_G X σ 2 [(0, .ref (ox_φ X (3, r, 0))), (1, .int x1)] [] := by
  unfold VB_X4_isAsTold_2 at h
  refine g_iload_n hC 1 dX4_isAsTold_2 rfl rfl ?_
  refine g_aload_n hC 0 dX4_isAsTold_3 rfl rfl ?_
  refine g_get (C := RX4) (T := TX4) (N := 6) (v := .ref (ox_φ X (2, 0, 0))) hC (o_in3 r hr) (o_eX4 _ _ _ _ _) rfl ki_X4_isAsTold_X4 0 (by decide) kw_X4_isAsTold_1 rfl dX4_isAsTold_4 ?_
  refine g_ri (r_V (C := RX5) (T := TX5) (N := 8) (As := []) (rest := [.int x1]) hC o_iX5 (o_eX5 _ _ _ _) rfl (c_X5_size (l := ox_l X) (φ := ox_φ X) (D := ox_D X) (cI := ox_I X) (cB := ox_B X) hC.J  h) gX4_isAsTold_X5_size rfl hd_X5_size ⟨Nat.le_of_ble_eq_true rfl, Nat.le_of_ble_eq_true rfl⟩ rfl rfl (Nat.le_of_ble_eq_true rfl) dX4_isAsTold_7) (fun v7 s7 h => ?_)
  refine g_icmp_ge hC 60 dX4_isAsTold_10 (by decide) (fun z => ?_) (fun z => ?_)
  · have h := h.1 z
    refine g_iconst (v := (1 : Int32)) hC dX4_isAsTold_60 (by decide) ?_
    exact hR _ _ _ _ dX4_isAsTold_61 ⟨Or.inr rfl, h⟩
  · have h := h.2 z
    refine g_aload_n hC 0 dX4_isAsTold_13 rfl rfl ?_
    refine g_iload_n hC 1 dX4_isAsTold_14 rfl rfl ?_
    refine g_iconst (v := (0 : Int32)) hC dX4_isAsTold_15 (by decide) ?_
    refine g_ri (r_V (C := RX4) (T := TX4) (N := 6) (As := [.int x1, .int (0 : Int32)]) (rest := []) hC (o_in3 r hr) (o_eX4 _ _ _ _ _) rfl (c_X4_parts (l := ox_l X) (φ := ox_φ X) (D := ox_D X) (cI := ox_I X) (cB := ox_B X) hC.J hr h) gX4_isAsTold_X4_parts rfl hd_X4_parts ⟨Nat.le_of_ble_eq_true rfl, Nat.le_of_ble_eq_true rfl⟩ rfl rfl (Nat.le_of_ble_eq_true rfl) dX4_isAsTold_16) (fun v16 s16 h => ?_)
    refine g_if_le hC 26 dX4_isAsTold_19 (by decide) (fun z => ?_) (fun z => ?_)
    · have h := h.1 z
      refine g_iconst (v := (0 : Int32)) hC dX4_isAsTold_26 (by decide) ?_
      exact wb_X4_isAsTold_27 hC hR hr hK2 h
    · have h := h.2 z
      refine g_iconst (v := (1 : Int32)) hC dX4_isAsTold_22 (by decide) ?_
      refine g_goto hC 27 dX4_isAsTold_23 (by decide) ?_
      exact wb_X4_isAsTold_27 hC hR hr hK2 h
set_option maxHeartbeats 4000000 in
set_option maxRecDepth 100000 in
theorem lp_X4_isAsTold_2 {X : OX} {r : Nat} {post : Int32 → SS → Prop} (hC : o_C X cX4_isAsTold RX4 wsX4_isAsTold 2 43 3) (hR : o_RZ X cX4_isAsTold post) (hr : r < 4) : ∀ (n : Nat) (a : Int32) (σ : SS), LP_X4_isAsTold_2 r post n a σ → o_G X σ 2 [(0, .ref (ox_φ X (3, r, 0))), (1, .int a)] [] :=
 o_lp_G (fun K hK a σ h => wb_X4_isAsTold_2 hC hR hr (fun x1 σ h => hK x1 σ h) h)
set_option maxHeartbeats 4000000 in
set_option maxRecDepth 100000 in
theorem wv_X4_isAsTold {X : OX} {r : Nat} {post : Int32 → SS → Prop} {σ : SS} (hC : o_C X cX4_isAsTold RX4 wsX4_isAsTold 2 43 3) (hR : o_RZ X cX4_isAsTold post) (hr : r < 4) (h : V_X4_isAsTold r σ post) : o_G X σ 0 [(0, .ref (ox_φ X (3, r, 0)))] [] := by
  unfold V_X4_isAsTold at h
  refine g_iconst (v := (0 : Int32)) hC dX4_isAsTold_0 (by decide) ?_
  refine g_istore_n hC [(1, .int (0 : Int32)), (0, .ref (ox_φ X (3, r, 0)))] dX4_isAsTold_1 rfl (by decide) rfl ?_
  refine g_sub [1, 0] rfl ?_
  obtain ⟨n, h⟩ := h
  exact lp_X4_isAsTold_2 hC hR hr n _ _ h
set_option maxRecDepth 100000 in
theorem c_X4_isAsTold {l : Launch} {φ : OI → Nat} {D : va_G} {cI cB : ClassId} (hJ : o_J φ) {r : Nat} (hr : r < 4) {σ : SS} {post : Int32 → SS → Prop} (h : V_X4_isAsTold r σ post) : o_Mi l φ D cI cB yX4_isAsTold wsX4_isAsTold 2 43 [.ref (φ (3, r, 0))] σ post :=
 o_met_z hJ (by decide +kernel) rfl (Nat.le_of_ble_eq_true rfl) (fun p e s m args below meth c Q hC hR => wv_X4_isAsTold hC hR hr h)
theorem kw_X4_mistakes_1 : Cond.fieldLink RX4 23 "SchoolRow$Row" "mistakes" "LSchoolRow$Cells;" ∈ wsX4_mistakes := List.mem_of_getElem? (i := 1) (by decide +kernel)
theorem ki_X4_mistakes_X4 : ∀ w ∈ wsX40, w ∈ wsX4_mistakes := fun _ h => List.mem_cons_of_mem _ (List.mem_append_left _ (List.mem_append_right _ h))
theorem hd_X4_mistakes : yX4_mistakes.cls = RX4 ∧ yX4_mistakes.cls ≠ "java/lang/invoke/MethodHandle" ∧ yX4_mistakes.cls ≠ "java/lang/invoke/VarHandle" ∧ (parseMethodDescriptor yX4_mistakes.desc).map (fun d => d.parameters.length) = some 2 := by decide +kernel
set_option maxHeartbeats 4000000 in
set_option maxRecDepth 100000 in
theorem wv_X4_mistakes {X : OX} {r : Nat} {x1 : Int32} {x2 : Int32} {post : Int32 → SS → Prop} {σ : SS} (hC : o_C X cX4_mistakes RX4 wsX4_mistakes 1 21 3) (hR : o_RI X cX4_mistakes post) (hr : r < 4) (h : V_X4_mistakes r x1 x2 σ post) : o_G X σ 0 [(0, .ref (ox_φ X (3, r, 0))), (1, .int x1), (2, .int x2)] [] := by
  unfold V_X4_mistakes at h
  refine g_aload_n hC 0 dX4_mistakes_0 rfl rfl ?_
  refine g_get (C := RX4) (T := TX4) (N := 6) (v := .ref (ox_φ X (4, r, 2))) hC (o_in3 r hr) (o_eX4 _ _ _ _ _) rfl ki_X4_mistakes_X4 3 (by decide) kw_X4_mistakes_1 rfl dX4_mistakes_1 ?_
  refine g_iload_n hC 1 dX4_mistakes_4 rfl rfl ?_
  refine g_iload_n hC 2 dX4_mistakes_5 rfl rfl ?_
  refine g_ri (r_S (As := [.int x1, .int x2]) (rest := [.ref (ox_φ X (4, r, 2))]) hC (c_X4_slateOf (l := ox_l X) (φ := ox_φ X) (D := ox_D X) (cI := ox_I X) (cB := ox_B X) hC.J  h) gX4_mistakes_X4_slateOf rfl hd_X4_slateOf ⟨Nat.le_of_ble_eq_true rfl, Nat.le_of_ble_eq_true rfl⟩ rfl rfl (Nat.le_of_ble_eq_true rfl) dX4_mistakes_6) (fun v6 s6 h => ?_)
  refine g_ri (r_V (C := RX0) (T := TX0) (N := 1) (As := [.int v6]) (rest := []) hC (o_Cl4 r hr 2 (by decide)).1 ((o_Cl4 r hr 2 (by decide)).2.1 _ _ _ _) rfl (c_X0_at (l := ox_l X) (φ := ox_φ X) (D := ox_D X) (cI := ox_I X) (cB := ox_B X) hC.J (o_Cl4 r hr 2 (by decide)) h) gX4_mistakes_X0_at rfl hd_X0_at ⟨Nat.le_of_ble_eq_true rfl, Nat.le_of_ble_eq_true rfl⟩ rfl rfl (Nat.le_of_ble_eq_true rfl) dX4_mistakes_9) (fun v9 s9 h => ?_)
  exact hR _ _ _ _ dX4_mistakes_12 h
set_option maxRecDepth 100000 in
theorem c_X4_mistakes {l : Launch} {φ : OI → Nat} {D : va_G} {cI cB : ClassId} (hJ : o_J φ) {r : Nat} {x1 : Int32} {x2 : Int32} (hr : r < 4) {σ : SS} {post : Int32 → SS → Prop} (h : V_X4_mistakes r x1 x2 σ post) : o_Mi l φ D cI cB yX4_mistakes wsX4_mistakes 1 21 [.ref (φ (3, r, 0)), .int x1, .int x2] σ post :=
 o_met_i hJ (by decide +kernel) rfl (Nat.le_of_ble_eq_true rfl) (fun p e s m args below meth c Q hC hR => wv_X4_mistakes hC hR hr h)
theorem hd_X4_partsOf : yX4_partsOf.cls = RX4 ∧ yX4_partsOf.cls ≠ "java/lang/invoke/MethodHandle" ∧ yX4_partsOf.cls ≠ "java/lang/invoke/VarHandle" ∧ (parseMethodDescriptor yX4_partsOf.desc).map (fun d => d.parameters.length) = some 1 := by decide +kernel
set_option maxHeartbeats 4000000 in
set_option maxRecDepth 100000 in
theorem wb_X4_partsOf_4 {X : OX} {r : Nat} {post : Int32 → SS → Prop} {K4 : Int32 → Int32 → Int32 → SS → Prop} {x1 : Int32} {x2 : Int32} {x3 : Int32} {σ : SS} (hC : o_C X cX4_partsOf RX4 wsX4_partsOf 2 43 4) (hR : o_RI X cX4_partsOf post) (hr : r < 4) (hK4 : ∀ (x1 : Int32) (x2 : Int32) (x3 : Int32) (σ : SS), K4 x1 x2 x3 σ → o_G X σ 4 [(0, .ref (ox_φ X (3, r, 0))), (1, .int x1), (2, .int x2), (3, .int x3)] []) (h : VB_X4_partsOf_4 r post K4 x1 x2 x3 σ) : o_G X σ 4 [(0, .ref (ox_φ X (3, r, 0))), (1, .int x1), (2, .int x2), (3, .int x3)] [] := by
  unfold VB_X4_partsOf_4 at h
  refine g_iload_n hC 3 dX4_partsOf_4 rfl rfl ?_
  refine g_iconst (v := (4 : Int32)) hC dX4_partsOf_5 (by decide) ?_
  refine g_icmp_ge hC 24 dX4_partsOf_6 (by decide) (fun z => ?_) (fun z => ?_)
  · have h := h.1 z
    refine g_iload_n hC 2 dX4_partsOf_24 rfl rfl ?_
    exact hR _ _ _ _ dX4_partsOf_25 h
  · have h := h.2 z
    refine g_iload_n hC 2 dX4_partsOf_9 rfl rfl ?_
    refine g_aload_n hC 0 dX4_partsOf_10 rfl rfl ?_
    refine g_iload_n hC 1 dX4_partsOf_11 rfl rfl ?_
    refine g_iload_n hC 3 dX4_partsOf_12 rfl rfl ?_
    refine g_ri (r_V (C := RX4) (T := TX4) (N := 6) (As := [.int x1, .int x3]) (rest := [.int x2]) hC (o_in3 r hr) (o_eX4 _ _ _ _ _) rfl (c_X4_parts (l := ox_l X) (φ := ox_φ X) (D := ox_D X) (cI := ox_I X) (cB := ox_B X) hC.J hr h) gX4_partsOf_X4_parts rfl hd_X4_parts ⟨Nat.le_of_ble_eq_true rfl, Nat.le_of_ble_eq_true rfl⟩ rfl rfl (Nat.le_of_ble_eq_true rfl) dX4_partsOf_13) (fun v13 s13 h => ?_)
    refine g_iadd hC dX4_partsOf_16 ?_
    refine g_istore_n hC [(2, .int (x2 + v13)), (0, .ref (ox_φ X (3, r, 0))), (1, .int x1), (3, .int x3)] dX4_partsOf_17 rfl (by decide) rfl ?_
    refine g_iinc (v := (x3 + (1 : Int32))) hC 3 [(3, .int (x3 + (1 : Int32))), (2, .int (x2 + v13)), (0, .ref (ox_φ X (3, r, 0))), (1, .int x1)] dX4_partsOf_18 rfl rfl (by decide) rfl ?_
    refine g_goto hC 4 dX4_partsOf_21 (by decide) ?_
    refine g_sub [2, 3, 1, 0] rfl ?_
    exact hK4 _ _ _ _ h
set_option maxHeartbeats 4000000 in
set_option maxRecDepth 100000 in
theorem lp_X4_partsOf_4 {X : OX} {r : Nat} {post : Int32 → SS → Prop} (hC : o_C X cX4_partsOf RX4 wsX4_partsOf 2 43 4) (hR : o_RI X cX4_partsOf post) (hr : r < 4) : ∀ (n : Nat) (a : Int32 × Int32 × Int32) (σ : SS), LP_X4_partsOf_4 r post n a σ → o_G X σ 4 [(0, .ref (ox_φ X (3, r, 0))), (1, .int a.1), (2, .int a.2.1), (3, .int a.2.2)] [] :=
 o_lp_G (fun K hK a σ h => wb_X4_partsOf_4 hC hR hr (fun x1 x2 x3 σ h => hK (x1, x2, x3) σ h) h)
set_option maxHeartbeats 4000000 in
set_option maxRecDepth 100000 in
theorem wv_X4_partsOf {X : OX} {r : Nat} {x1 : Int32} {post : Int32 → SS → Prop} {σ : SS} (hC : o_C X cX4_partsOf RX4 wsX4_partsOf 2 43 4) (hR : o_RI X cX4_partsOf post) (hr : r < 4) (h : V_X4_partsOf r x1 σ post) : o_G X σ 0 [(0, .ref (ox_φ X (3, r, 0))), (1, .int x1)] [] := by
  unfold V_X4_partsOf at h
  refine g_iconst (v := (0 : Int32)) hC dX4_partsOf_0 (by decide) ?_
  refine g_istore_n hC [(2, .int (0 : Int32)), (0, .ref (ox_φ X (3, r, 0))), (1, .int x1)] dX4_partsOf_1 rfl (by decide) rfl ?_
  refine g_iconst (v := (0 : Int32)) hC dX4_partsOf_2 (by decide) ?_
  refine g_istore_n hC [(3, .int (0 : Int32)), (2, .int (0 : Int32)), (0, .ref (ox_φ X (3, r, 0))), (1, .int x1)] dX4_partsOf_3 rfl (by decide) rfl ?_
  refine g_sub [2, 3, 1, 0] rfl ?_
  obtain ⟨n, h⟩ := h
  exact lp_X4_partsOf_4 hC hR hr n _ _ h
set_option maxRecDepth 100000 in
theorem c_X4_partsOf {l : Launch} {φ : OI → Nat} {D : va_G} {cI cB : ClassId} (hJ : o_J φ) {r : Nat} {x1 : Int32} (hr : r < 4) {σ : SS} {post : Int32 → SS → Prop} (h : V_X4_partsOf r x1 σ post) : o_Mi l φ D cI cB yX4_partsOf wsX4_partsOf 2 43 [.ref (φ (3, r, 0)), .int x1] σ post :=
 o_met_i hJ (by decide +kernel) rfl (Nat.le_of_ble_eq_true rfl) (fun p e s m args below meth c Q hC hR => wv_X4_partsOf hC hR hr h)
theorem kw_X4_partsOfAll_1 : Cond.fieldLink RX4 20 "SchoolRow$Row" "parts" "LSchoolRow$Cells;" ∈ wsX4_partsOfAll := List.mem_of_getElem? (i := 1) (by decide +kernel)
theorem ki_X4_partsOfAll_X4 : ∀ w ∈ wsX40, w ∈ wsX4_partsOfAll := fun _ h => List.mem_cons_of_mem _ (List.mem_append_left _ (List.mem_append_right _ h))
theorem hd_X4_partsOfAll : yX4_partsOfAll.cls = RX4 ∧ yX4_partsOfAll.cls ≠ "java/lang/invoke/MethodHandle" ∧ yX4_partsOfAll.cls ≠ "java/lang/invoke/VarHandle" ∧ (parseMethodDescriptor yX4_partsOfAll.desc).map (fun d => d.parameters.length) = some 0 := by decide +kernel
set_option maxHeartbeats 4000000 in
set_option maxRecDepth 100000 in
theorem wv_X4_partsOfAll {X : OX} {r : Nat} {post : Int32 → SS → Prop} {σ : SS} (hC : o_C X cX4_partsOfAll RX4 wsX4_partsOfAll 1 22 1) (hR : o_RI X cX4_partsOfAll post) (hr : r < 4) (h : V_X4_partsOfAll r σ post) : o_G X σ 0 [(0, .ref (ox_φ X (3, r, 0)))] [] := by
  unfold V_X4_partsOfAll at h
  refine g_aload_n hC 0 dX4_partsOfAll_0 rfl rfl ?_
  refine g_get (C := RX4) (T := TX4) (N := 6) (v := .ref (ox_φ X (4, r, 1))) hC (o_in3 r hr) (o_eX4 _ _ _ _ _) rfl ki_X4_partsOfAll_X4 2 (by decide) kw_X4_partsOfAll_1 rfl dX4_partsOfAll_1 ?_
  refine g_ri (r_V (C := RX0) (T := TX0) (N := 1) (As := []) (rest := []) hC (o_Cl4 r hr 1 (by decide)).1 ((o_Cl4 r hr 1 (by decide)).2.1 _ _ _ _) rfl (c_X0_sum (l := ox_l X) (φ := ox_φ X) (D := ox_D X) (cI := ox_I X) (cB := ox_B X) hC.J (o_Cl4 r hr 1 (by decide)) h) gX4_partsOfAll_X0_sum rfl hd_X0_sum ⟨Nat.le_of_ble_eq_true rfl, Nat.le_of_ble_eq_true rfl⟩ rfl rfl (Nat.le_of_ble_eq_true rfl) dX4_partsOfAll_4) (fun v4 s4 h => ?_)
  exact hR _ _ _ _ dX4_partsOfAll_7 h
set_option maxRecDepth 100000 in
theorem c_X4_partsOfAll {l : Launch} {φ : OI → Nat} {D : va_G} {cI cB : ClassId} (hJ : o_J φ) {r : Nat} (hr : r < 4) {σ : SS} {post : Int32 → SS → Prop} (h : V_X4_partsOfAll r σ post) : o_Mi l φ D cI cB yX4_partsOfAll wsX4_partsOfAll 1 22 [.ref (φ (3, r, 0))] σ post :=
 o_met_i hJ (by decide +kernel) rfl (Nat.le_of_ble_eq_true rfl) (fun p e s m args below meth c Q hC hR => wv_X4_partsOfAll hC hR hr h)
theorem kw_X4_mistakesOfAll_1 : Cond.fieldLink RX4 23 "SchoolRow$Row" "mistakes" "LSchoolRow$Cells;" ∈ wsX4_mistakesOfAll := List.mem_of_getElem? (i := 1) (by decide +kernel)
theorem ki_X4_mistakesOfAll_X4 : ∀ w ∈ wsX40, w ∈ wsX4_mistakesOfAll := fun _ h => List.mem_cons_of_mem _ (List.mem_append_left _ (List.mem_append_right _ h))
theorem hd_X4_mistakesOfAll : yX4_mistakesOfAll.cls = RX4 ∧ yX4_mistakesOfAll.cls ≠ "java/lang/invoke/MethodHandle" ∧ yX4_mistakesOfAll.cls ≠ "java/lang/invoke/VarHandle" ∧ (parseMethodDescriptor yX4_mistakesOfAll.desc).map (fun d => d.parameters.length) = some 0 := by decide +kernel
set_option maxHeartbeats 4000000 in
set_option maxRecDepth 100000 in
theorem wv_X4_mistakesOfAll {X : OX} {r : Nat} {post : Int32 → SS → Prop} {σ : SS} (hC : o_C X cX4_mistakesOfAll RX4 wsX4_mistakesOfAll 2 42 1) (hR : o_RI X cX4_mistakesOfAll post) (hr : r < 4) (h : V_X4_mistakesOfAll r σ post) : o_G X σ 0 [(0, .ref (ox_φ X (3, r, 0)))] [] := by
  unfold V_X4_mistakesOfAll at h
  refine g_aload_n hC 0 dX4_mistakesOfAll_0 rfl rfl ?_
  refine g_get (C := RX4) (T := TX4) (N := 6) (v := .ref (ox_φ X (4, r, 2))) hC (o_in3 r hr) (o_eX4 _ _ _ _ _) rfl ki_X4_mistakesOfAll_X4 3 (by decide) kw_X4_mistakesOfAll_1 rfl dX4_mistakesOfAll_1 ?_
  refine g_ri (r_V (C := RX0) (T := TX0) (N := 1) (As := []) (rest := []) hC (o_Cl4 r hr 2 (by decide)).1 ((o_Cl4 r hr 2 (by decide)).2.1 _ _ _ _) rfl (c_X0_sumOfBits (l := ox_l X) (φ := ox_φ X) (D := ox_D X) (cI := ox_I X) (cB := ox_B X) hC.J (o_Cl4 r hr 2 (by decide)) h) gX4_mistakesOfAll_X0_sumOfBits rfl hd_X0_sumOfBits ⟨Nat.le_of_ble_eq_true rfl, Nat.le_of_ble_eq_true rfl⟩ rfl rfl (Nat.le_of_ble_eq_true rfl) dX4_mistakesOfAll_4) (fun v4 s4 h => ?_)
  exact hR _ _ _ _ dX4_mistakesOfAll_7 h
set_option maxRecDepth 100000 in
theorem c_X4_mistakesOfAll {l : Launch} {φ : OI → Nat} {D : va_G} {cI cB : ClassId} (hJ : o_J φ) {r : Nat} (hr : r < 4) {σ : SS} {post : Int32 → SS → Prop} (h : V_X4_mistakesOfAll r σ post) : o_Mi l φ D cI cB yX4_mistakesOfAll wsX4_mistakesOfAll 2 42 [.ref (φ (3, r, 0))] σ post :=
 o_met_i hJ (by decide +kernel) rfl (Nat.le_of_ble_eq_true rfl) (fun p e s m args below meth c Q hC hR => wv_X4_mistakesOfAll hC hR hr h)
theorem kw_X4_wipeSlate_1 : Cond.fieldLink RX4 20 "SchoolRow$Row" "parts" "LSchoolRow$Cells;" ∈ wsX4_wipeSlate := List.mem_of_getElem? (i := 1) (by decide +kernel)
theorem kw_X4_wipeSlate_2 : Cond.fieldLink RX4 23 "SchoolRow$Row" "mistakes" "LSchoolRow$Cells;" ∈ wsX4_wipeSlate := List.mem_of_getElem? (i := 2) (by decide +kernel)
theorem ki_X4_wipeSlate_X4 : ∀ w ∈ wsX40, w ∈ wsX4_wipeSlate := fun _ h => List.mem_cons_of_mem _ (List.mem_append_left _ (List.mem_append_right _ h))
theorem hd_X4_wipeSlate : yX4_wipeSlate.cls = RX4 ∧ yX4_wipeSlate.cls ≠ "java/lang/invoke/MethodHandle" ∧ yX4_wipeSlate.cls ≠ "java/lang/invoke/VarHandle" ∧ (parseMethodDescriptor yX4_wipeSlate.desc).map (fun d => d.parameters.length) = some 2 := by decide +kernel
set_option maxHeartbeats 4000000 in
set_option maxRecDepth 100000 in
theorem wv_X4_wipeSlate {X : OX} {r : Nat} {x1 : Int32} {x2 : Int32} {post : SS → Prop} {σ : SS} (hC : o_C X cX4_wipeSlate RX4 wsX4_wipeSlate 1 22 3) (hR : o_RV X cX4_wipeSlate post) (hr : r < 4) (h : V_X4_wipeSlate r x1 x2 σ post) : o_G X σ 0 [(0, .ref (ox_φ X (3, r, 0))), (1, .int x1), (2, .int x2)] [] := by
  unfold V_X4_wipeSlate at h
  refine g_aload_n hC 0 dX4_wipeSlate_0 rfl rfl ?_
  refine g_get (C := RX4) (T := TX4) (N := 6) (v := .ref (ox_φ X (4, r, 1))) hC (o_in3 r hr) (o_eX4 _ _ _ _ _) rfl ki_X4_wipeSlate_X4 2 (by decide) kw_X4_wipeSlate_1 rfl dX4_wipeSlate_1 ?_
  refine g_iload_n hC 1 dX4_wipeSlate_4 rfl rfl ?_
  refine g_iload_n hC 2 dX4_wipeSlate_5 rfl rfl ?_
  refine g_ri (r_S (As := [.int x1, .int x2]) (rest := [.ref (ox_φ X (4, r, 1))]) hC (c_X4_slateOf (l := ox_l X) (φ := ox_φ X) (D := ox_D X) (cI := ox_I X) (cB := ox_B X) hC.J  h) gX4_wipeSlate_X4_slateOf rfl hd_X4_slateOf ⟨Nat.le_of_ble_eq_true rfl, Nat.le_of_ble_eq_true rfl⟩ rfl rfl (Nat.le_of_ble_eq_true rfl) dX4_wipeSlate_6) (fun v6 s6 h => ?_)
  refine g_iconst (v := (0 : Int32)) hC dX4_wipeSlate_9 (by decide) ?_
  refine g_rv (r_V (C := RX0) (T := TX0) (N := 1) (As := [.int v6, .int (0 : Int32)]) (rest := []) hC (o_Cl4 r hr 1 (by decide)).1 ((o_Cl4 r hr 1 (by decide)).2.1 _ _ _ _) rfl (c_X0_put (l := ox_l X) (φ := ox_φ X) (D := ox_D X) (cI := ox_I X) (cB := ox_B X) hC.J (o_Cl4 r hr 1 (by decide)) h) gX4_wipeSlate_X0_put rfl hd_X0_put ⟨Nat.le_of_ble_eq_true rfl, Nat.le_of_ble_eq_true rfl⟩ rfl rfl (Nat.le_of_ble_eq_true rfl) dX4_wipeSlate_10) (fun s10 h => ?_)
  refine g_aload_n hC 0 dX4_wipeSlate_13 rfl rfl ?_
  refine g_get (C := RX4) (T := TX4) (N := 6) (v := .ref (ox_φ X (4, r, 2))) hC (o_in3 r hr) (o_eX4 _ _ _ _ _) rfl ki_X4_wipeSlate_X4 3 (by decide) kw_X4_wipeSlate_2 rfl dX4_wipeSlate_14 ?_
  refine g_iload_n hC 1 dX4_wipeSlate_17 rfl rfl ?_
  refine g_iload_n hC 2 dX4_wipeSlate_18 rfl rfl ?_
  refine g_ri (r_S (As := [.int x1, .int x2]) (rest := [.ref (ox_φ X (4, r, 2))]) hC (c_X4_slateOf (l := ox_l X) (φ := ox_φ X) (D := ox_D X) (cI := ox_I X) (cB := ox_B X) hC.J  h) gX4_wipeSlate_X4_slateOf rfl hd_X4_slateOf ⟨Nat.le_of_ble_eq_true rfl, Nat.le_of_ble_eq_true rfl⟩ rfl rfl (Nat.le_of_ble_eq_true rfl) dX4_wipeSlate_19) (fun v19 s19 h => ?_)
  refine g_iconst (v := (0 : Int32)) hC dX4_wipeSlate_22 (by decide) ?_
  refine g_rv (r_V (C := RX0) (T := TX0) (N := 1) (As := [.int v19, .int (0 : Int32)]) (rest := []) hC (o_Cl4 r hr 2 (by decide)).1 ((o_Cl4 r hr 2 (by decide)).2.1 _ _ _ _) rfl (c_X0_put (l := ox_l X) (φ := ox_φ X) (D := ox_D X) (cI := ox_I X) (cB := ox_B X) hC.J (o_Cl4 r hr 2 (by decide)) h) gX4_wipeSlate_X0_put rfl hd_X0_put ⟨Nat.le_of_ble_eq_true rfl, Nat.le_of_ble_eq_true rfl⟩ rfl rfl (Nat.le_of_ble_eq_true rfl) dX4_wipeSlate_23) (fun s23 h => ?_)
  exact hR _ _ _ dX4_wipeSlate_26 h
set_option maxRecDepth 100000 in
theorem c_X4_wipeSlate {l : Launch} {φ : OI → Nat} {D : va_G} {cI cB : ClassId} (hJ : o_J φ) {r : Nat} {x1 : Int32} {x2 : Int32} (hr : r < 4) {σ : SS} {post : SS → Prop} (h : V_X4_wipeSlate r x1 x2 σ post) : o_Mv l φ D cI cB yX4_wipeSlate wsX4_wipeSlate 1 22 [.ref (φ (3, r, 0)), .int x1, .int x2] σ post :=
 o_met_v hJ (by decide +kernel) rfl (Nat.le_of_ble_eq_true rfl) (fun p e s m args below meth c Q hC hR => wv_X4_wipeSlate hC hR hr h)
theorem hd_X4_isMoreWorth : yX4_isMoreWorth.cls ≠ "java/lang/invoke/MethodHandle" ∧ yX4_isMoreWorth.cls ≠ "java/lang/invoke/VarHandle" ∧ (parseMethodDescriptor yX4_isMoreWorth.desc).map (fun d => d.parameters.length) = some 4 := by decide +kernel
set_option maxHeartbeats 4000000 in
set_option maxRecDepth 100000 in
theorem wb_X4_isMoreWorth_26 {X : OX} {post : Int32 → SS → Prop} {t0 : Int32} {σ : SS} (hC : o_C X cX4_isMoreWorth RX4 wsX4_isMoreWorth 1 20 4) (hR : o_RZ X cX4_isMoreWorth post) (h : VB_X4_isMoreWorth_26 post t0 σ) : o_G X σ 26 [] [.int t0] := by
  unfold VB_X4_isMoreWorth_26 at h
  exact hR _ _ _ _ dX4_isMoreWorth_26 h
set_option maxHeartbeats 4000000 in
set_option maxRecDepth 100000 in
theorem wb_X4_isMoreWorth_21 {X : OX} {post : Int32 → SS → Prop} {σ : SS} (hC : o_C X cX4_isMoreWorth RX4 wsX4_isMoreWorth 1 20 4) (hR : o_RZ X cX4_isMoreWorth post) (h : VB_X4_isMoreWorth_21 post σ) : o_G X σ 21 [] [] := by
  unfold VB_X4_isMoreWorth_21 at h
  refine g_iconst (v := (1 : Int32)) hC dX4_isMoreWorth_21 (by decide) ?_
  refine g_goto hC 26 dX4_isMoreWorth_22 (by decide) ?_
  exact wb_X4_isMoreWorth_26 hC hR h
set_option maxHeartbeats 4000000 in
set_option maxRecDepth 100000 in
theorem wb_X4_isMoreWorth_25 {X : OX} {post : Int32 → SS → Prop} {σ : SS} (hC : o_C X cX4_isMoreWorth RX4 wsX4_isMoreWorth 1 20 4) (hR : o_RZ X cX4_isMoreWorth post) (h : VB_X4_isMoreWorth_25 post σ) : o_G X σ 25 [] [] := by
  unfold VB_X4_isMoreWorth_25 at h
  refine g_iconst (v := (0 : Int32)) hC dX4_isMoreWorth_25 (by decide) ?_
  exact wb_X4_isMoreWorth_26 hC hR h
set_option maxHeartbeats 4000000 in
set_option maxRecDepth 100000 in
theorem wv_X4_isMoreWorth {X : OX} {x0 : Int32} {x1 : Int32} {x2 : Int32} {x3 : Int32} {post : Int32 → SS → Prop} {σ : SS} (hC : o_C X cX4_isMoreWorth RX4 wsX4_isMoreWorth 1 20 4) (hR : o_RZ X cX4_isMoreWorth post) (h : V_X4_isMoreWorth x0 x1 x2 x3 σ post) : o_G X σ 0 [(0, .int x0), (1, .int x1), (2, .int x2), (3, .int x3)] [] := by
  unfold V_X4_isMoreWorth at h
  refine g_iload_n hC 0 dX4_isMoreWorth_0 rfl rfl ?_
  refine g_iload_n hC 2 dX4_isMoreWorth_1 rfl rfl ?_
  refine g_icmp_gt hC 21 dX4_isMoreWorth_2 (by decide) (fun z => ?_) (fun z => ?_)
  · have h := h.1 z
    refine g_sub [] rfl ?_
    exact wb_X4_isMoreWorth_21 hC hR h
  · have h := h.2 z
    refine g_iload_n hC 0 dX4_isMoreWorth_5 rfl rfl ?_
    refine g_iload_n hC 2 dX4_isMoreWorth_6 rfl rfl ?_
    refine g_icmp_ne hC 25 dX4_isMoreWorth_7 (by decide) (fun z => ?_) (fun z => ?_)
    · have h := h.1 z
      refine g_sub [] rfl ?_
      exact wb_X4_isMoreWorth_25 hC hR h
    · have h := h.2 z
      refine g_iload_n hC 1 dX4_isMoreWorth_10 rfl rfl ?_
      refine g_ri (r_S (As := [.int x1]) (rest := []) hC (c_J6_bitCount_0f7a4 (l := ox_l X) (φ := ox_φ X) (D := ox_D X) (cI := ox_I X) (cB := ox_B X) hC.J  h) gX4_isMoreWorth_J6_bitCount_0f7a4 rfl hd_J6_bitCount_0f7a4 ⟨Nat.le_of_ble_eq_true rfl, Nat.le_of_ble_eq_true rfl⟩ rfl rfl (Nat.le_of_ble_eq_true rfl) dX4_isMoreWorth_11) (fun v11 s11 h => ?_)
      refine g_iload_n hC 3 dX4_isMoreWorth_14 rfl rfl ?_
      refine g_ri (r_S (As := [.int x3]) (rest := [.int v11]) hC (c_J6_bitCount_0f7a4 (l := ox_l X) (φ := ox_φ X) (D := ox_D X) (cI := ox_I X) (cB := ox_B X) hC.J  h) gX4_isMoreWorth_J6_bitCount_0f7a4 rfl hd_J6_bitCount_0f7a4 ⟨Nat.le_of_ble_eq_true rfl, Nat.le_of_ble_eq_true rfl⟩ rfl rfl (Nat.le_of_ble_eq_true rfl) dX4_isMoreWorth_15) (fun v15 s15 h => ?_)
      refine g_icmp_ge hC 25 dX4_isMoreWorth_18 (by decide) (fun z => ?_) (fun z => ?_)
      · have h := h.1 z
        refine g_sub [] rfl ?_
        exact wb_X4_isMoreWorth_25 hC hR h
      · have h := h.2 z
        refine g_sub [] rfl ?_
        exact wb_X4_isMoreWorth_21 hC hR h
set_option maxRecDepth 100000 in
theorem c_X4_isMoreWorth {l : Launch} {φ : OI → Nat} {D : va_G} {cI cB : ClassId} (hJ : o_J φ) {x0 : Int32} {x1 : Int32} {x2 : Int32} {x3 : Int32} {σ : SS} {post : Int32 → SS → Prop} (h : V_X4_isMoreWorth x0 x1 x2 x3 σ post) : o_Mi l φ D cI cB yX4_isMoreWorth wsX4_isMoreWorth 1 20 [.int x0, .int x1, .int x2, .int x3] σ post :=
 o_met_z hJ (by decide +kernel) rfl (Nat.le_of_ble_eq_true rfl) (fun p e s m args below meth c Q hC hR => wv_X4_isMoreWorth hC hR h)
theorem hd_X4_knowsBetter : yX4_knowsBetter.cls = RX4 ∧ yX4_knowsBetter.cls ≠ "java/lang/invoke/MethodHandle" ∧ yX4_knowsBetter.cls ≠ "java/lang/invoke/VarHandle" ∧ (parseMethodDescriptor yX4_knowsBetter.desc).map (fun d => d.parameters.length) = some 3 := by decide +kernel
set_option maxHeartbeats 4000000 in
set_option maxRecDepth 100000 in
theorem wv_X4_knowsBetter {X : OX} {r : Nat} {x1 : Int32} {x2 : Int32} {x3 : Int32} {post : Int32 → SS → Prop} {σ : SS} (hC : o_C X cX4_knowsBetter RX4 wsX4_knowsBetter 2 43 4) (hR : o_RZ X cX4_knowsBetter post) (hr : r < 4) (h : V_X4_knowsBetter r x1 x2 x3 σ post) : o_G X σ 0 [(0, .ref (ox_φ X (3, r, 0))), (1, .int x1), (2, .int x2), (3, .int x3)] [] := by
  unfold V_X4_knowsBetter at h
  refine g_aload_n hC 0 dX4_knowsBetter_0 rfl rfl ?_
  refine g_iload_n hC 1 dX4_knowsBetter_1 rfl rfl ?_
  refine g_iload_n hC 3 dX4_knowsBetter_2 rfl rfl ?_
  refine g_ri (r_V (C := RX4) (T := TX4) (N := 6) (As := [.int x1, .int x3]) (rest := []) hC (o_in3 r hr) (o_eX4 _ _ _ _ _) rfl (c_X4_parts (l := ox_l X) (φ := ox_φ X) (D := ox_D X) (cI := ox_I X) (cB := ox_B X) hC.J hr h) gX4_knowsBetter_X4_parts rfl hd_X4_parts ⟨Nat.le_of_ble_eq_true rfl, Nat.le_of_ble_eq_true rfl⟩ rfl rfl (Nat.le_of_ble_eq_true rfl) dX4_knowsBetter_3) (fun v3 s3 h => ?_)
  refine g_aload_n hC 0 dX4_knowsBetter_6 rfl rfl ?_
  refine g_iload_n hC 1 dX4_knowsBetter_7 rfl rfl ?_
  refine g_iload_n hC 3 dX4_knowsBetter_8 rfl rfl ?_
  refine g_ri (r_V (C := RX4) (T := TX4) (N := 6) (As := [.int x1, .int x3]) (rest := [.int v3]) hC (o_in3 r hr) (o_eX4 _ _ _ _ _) rfl (c_X4_mistakes (l := ox_l X) (φ := ox_φ X) (D := ox_D X) (cI := ox_I X) (cB := ox_B X) hC.J hr h) gX4_knowsBetter_X4_mistakes rfl hd_X4_mistakes ⟨Nat.le_of_ble_eq_true rfl, Nat.le_of_ble_eq_true rfl⟩ rfl rfl (Nat.le_of_ble_eq_true rfl) dX4_knowsBetter_9) (fun v9 s9 h => ?_)
  refine g_aload_n hC 0 dX4_knowsBetter_12 rfl rfl ?_
  refine g_iload_n hC 2 dX4_knowsBetter_13 rfl rfl ?_
  refine g_iload_n hC 3 dX4_knowsBetter_14 rfl rfl ?_
  refine g_ri (r_V (C := RX4) (T := TX4) (N := 6) (As := [.int x2, .int x3]) (rest := [.int v9, .int v3]) hC (o_in3 r hr) (o_eX4 _ _ _ _ _) rfl (c_X4_parts (l := ox_l X) (φ := ox_φ X) (D := ox_D X) (cI := ox_I X) (cB := ox_B X) hC.J hr h) gX4_knowsBetter_X4_parts rfl hd_X4_parts ⟨Nat.le_of_ble_eq_true rfl, Nat.le_of_ble_eq_true rfl⟩ rfl rfl (Nat.le_of_ble_eq_true rfl) dX4_knowsBetter_15) (fun v15 s15 h => ?_)
  refine g_aload_n hC 0 dX4_knowsBetter_18 rfl rfl ?_
  refine g_iload_n hC 2 dX4_knowsBetter_19 rfl rfl ?_
  refine g_iload_n hC 3 dX4_knowsBetter_20 rfl rfl ?_
  refine g_ri (r_V (C := RX4) (T := TX4) (N := 6) (As := [.int x2, .int x3]) (rest := [.int v15, .int v9, .int v3]) hC (o_in3 r hr) (o_eX4 _ _ _ _ _) rfl (c_X4_mistakes (l := ox_l X) (φ := ox_φ X) (D := ox_D X) (cI := ox_I X) (cB := ox_B X) hC.J hr h) gX4_knowsBetter_X4_mistakes rfl hd_X4_mistakes ⟨Nat.le_of_ble_eq_true rfl, Nat.le_of_ble_eq_true rfl⟩ rfl rfl (Nat.le_of_ble_eq_true rfl) dX4_knowsBetter_21) (fun v21 s21 h => ?_)
  refine g_ri (r_S (As := [.int v3, .int v9, .int v15, .int v21]) (rest := []) hC (c_X4_isMoreWorth (l := ox_l X) (φ := ox_φ X) (D := ox_D X) (cI := ox_I X) (cB := ox_B X) hC.J  h) gX4_knowsBetter_X4_isMoreWorth rfl hd_X4_isMoreWorth ⟨Nat.le_of_ble_eq_true rfl, Nat.le_of_ble_eq_true rfl⟩ rfl rfl (Nat.le_of_ble_eq_true rfl) dX4_knowsBetter_24) (fun v24 s24 h => ?_)
  exact hR _ _ _ _ dX4_knowsBetter_27 h
set_option maxRecDepth 100000 in
theorem c_X4_knowsBetter {l : Launch} {φ : OI → Nat} {D : va_G} {cI cB : ClassId} (hJ : o_J φ) {r : Nat} {x1 : Int32} {x2 : Int32} {x3 : Int32} (hr : r < 4) {σ : SS} {post : Int32 → SS → Prop} (h : V_X4_knowsBetter r x1 x2 x3 σ post) : o_Mi l φ D cI cB yX4_knowsBetter wsX4_knowsBetter 2 43 [.ref (φ (3, r, 0)), .int x1, .int x2, .int x3] σ post :=
 o_met_z hJ (by decide +kernel) rfl (Nat.le_of_ble_eq_true rfl) (fun p e s m args below meth c Q hC hR => wv_X4_knowsBetter hC hR hr h)
theorem kw_X4_lastChild_1 : Cond.fieldLink RX4 14 "SchoolRow$Row" "seats" "LSchoolRow$Cells;" ∈ wsX4_lastChild := List.mem_of_getElem? (i := 1) (by decide +kernel)
theorem kw_X4_lastChild_2 : Cond.fieldLink RX4 29 "SchoolRow$Row" "school" "LSchoolRow$School;" ∈ wsX4_lastChild := List.mem_of_getElem? (i := 2) (by decide +kernel)
theorem ki_X4_lastChild_X4 : ∀ w ∈ wsX40, w ∈ wsX4_lastChild := fun _ h => List.mem_cons_of_mem _ (List.mem_append_left _ (List.mem_append_left _ (List.mem_append_right _ h)))
theorem hd_X4_lastChild : yX4_lastChild.cls = RX4 ∧ yX4_lastChild.cls ≠ "java/lang/invoke/MethodHandle" ∧ yX4_lastChild.cls ≠ "java/lang/invoke/VarHandle" ∧ (parseMethodDescriptor yX4_lastChild.desc).map (fun d => d.parameters.length) = some 0 := by decide +kernel
set_option maxHeartbeats 4000000 in
set_option maxRecDepth 100000 in
theorem wv_X4_lastChild {X : OX} {r : Nat} {post : Int32 → SS → Prop} {σ : SS} (hC : o_C X cX4_lastChild RX4 wsX4_lastChild 1 21 1) (hR : o_RI X cX4_lastChild post) (hr : r < 4) (h : V_X4_lastChild r σ post) : o_G X σ 0 [(0, .ref (ox_φ X (3, r, 0)))] [] := by
  unfold V_X4_lastChild at h
  refine g_aload_n hC 0 dX4_lastChild_0 rfl rfl ?_
  refine g_get (C := RX4) (T := TX4) (N := 6) (v := .ref (ox_φ X (4, r, 0))) hC (o_in3 r hr) (o_eX4 _ _ _ _ _) rfl ki_X4_lastChild_X4 1 (by decide) kw_X4_lastChild_1 rfl dX4_lastChild_1 ?_
  refine g_aload_n hC 0 dX4_lastChild_4 rfl rfl ?_
  refine g_get (C := RX4) (T := TX4) (N := 6) (v := .ref (ox_φ X (2, 0, 0))) hC (o_in3 r hr) (o_eX4 _ _ _ _ _) rfl ki_X4_lastChild_X4 0 (by decide) kw_X4_lastChild_2 rfl dX4_lastChild_5 ?_
  refine g_ri (r_V (C := RX5) (T := TX5) (N := 8) (As := []) (rest := [.ref (ox_φ X (4, r, 0))]) hC o_iX5 (o_eX5 _ _ _ _) rfl (c_X5_size (l := ox_l X) (φ := ox_φ X) (D := ox_D X) (cI := ox_I X) (cB := ox_B X) hC.J  h) gX4_lastChild_X5_size rfl hd_X5_size ⟨Nat.le_of_ble_eq_true rfl, Nat.le_of_ble_eq_true rfl⟩ rfl rfl (Nat.le_of_ble_eq_true rfl) dX4_lastChild_8) (fun v8 s8 h => ?_)
  refine g_iconst (v := (1 : Int32)) hC dX4_lastChild_11 (by decide) ?_
  refine g_isub hC dX4_lastChild_12 ?_
  refine g_ri (r_V (C := RX0) (T := TX0) (N := 1) (As := [.int (v8 - (1 : Int32))]) (rest := []) hC (o_Cl4 r hr 0 (by decide)).1 ((o_Cl4 r hr 0 (by decide)).2.1 _ _ _ _) rfl (c_X0_at (l := ox_l X) (φ := ox_φ X) (D := ox_D X) (cI := ox_I X) (cB := ox_B X) hC.J (o_Cl4 r hr 0 (by decide)) h) gX4_lastChild_X0_at rfl hd_X0_at ⟨Nat.le_of_ble_eq_true rfl, Nat.le_of_ble_eq_true rfl⟩ rfl rfl (Nat.le_of_ble_eq_true rfl) dX4_lastChild_13) (fun v13 s13 h => ?_)
  exact hR _ _ _ _ dX4_lastChild_16 h
set_option maxRecDepth 100000 in
theorem c_X4_lastChild {l : Launch} {φ : OI → Nat} {D : va_G} {cI cB : ClassId} (hJ : o_J φ) {r : Nat} (hr : r < 4) {σ : SS} {post : Int32 → SS → Prop} (h : V_X4_lastChild r σ post) : o_Mi l φ D cI cB yX4_lastChild wsX4_lastChild 1 21 [.ref (φ (3, r, 0))] σ post :=
 o_met_i hJ (by decide +kernel) rfl (Nat.le_of_ble_eq_true rfl) (fun p e s m args below meth c Q hC hR => wv_X4_lastChild hC hR hr h)
theorem hd_X4_lastParts : yX4_lastParts.cls = RX4 ∧ yX4_lastParts.cls ≠ "java/lang/invoke/MethodHandle" ∧ yX4_lastParts.cls ≠ "java/lang/invoke/VarHandle" ∧ (parseMethodDescriptor yX4_lastParts.desc).map (fun d => d.parameters.length) = some 0 := by decide +kernel
set_option maxHeartbeats 4000000 in
set_option maxRecDepth 100000 in
theorem wv_X4_lastParts {X : OX} {r : Nat} {post : Int32 → SS → Prop} {σ : SS} (hC : o_C X cX4_lastParts RX4 wsX4_lastParts 2 43 1) (hR : o_RI X cX4_lastParts post) (hr : r < 4) (h : V_X4_lastParts r σ post) : o_G X σ 0 [(0, .ref (ox_φ X (3, r, 0)))] [] := by
  unfold V_X4_lastParts at h
  refine g_aload_n hC 0 dX4_lastParts_0 rfl rfl ?_
  refine g_aload_n hC 0 dX4_lastParts_1 rfl rfl ?_
  refine g_ri (r_V (C := RX4) (T := TX4) (N := 6) (As := []) (rest := [.ref (ox_φ X (3, r, 0))]) hC (o_in3 r hr) (o_eX4 _ _ _ _ _) rfl (c_X4_lastChild (l := ox_l X) (φ := ox_φ X) (D := ox_D X) (cI := ox_I X) (cB := ox_B X) hC.J hr h) gX4_lastParts_X4_lastChild rfl hd_X4_lastChild ⟨Nat.le_of_ble_eq_true rfl, Nat.le_of_ble_eq_true rfl⟩ rfl rfl (Nat.le_of_ble_eq_true rfl) dX4_lastParts_2) (fun v2 s2 h => ?_)
  refine g_iconst (v := (0 : Int32)) hC dX4_lastParts_5 (by decide) ?_
  refine g_ri (r_V (C := RX4) (T := TX4) (N := 6) (As := [.int v2, .int (0 : Int32)]) (rest := []) hC (o_in3 r hr) (o_eX4 _ _ _ _ _) rfl (c_X4_parts (l := ox_l X) (φ := ox_φ X) (D := ox_D X) (cI := ox_I X) (cB := ox_B X) hC.J hr h) gX4_lastParts_X4_parts rfl hd_X4_parts ⟨Nat.le_of_ble_eq_true rfl, Nat.le_of_ble_eq_true rfl⟩ rfl rfl (Nat.le_of_ble_eq_true rfl) dX4_lastParts_6) (fun v6 s6 h => ?_)
  exact hR _ _ _ _ dX4_lastParts_9 h
set_option maxRecDepth 100000 in
theorem c_X4_lastParts {l : Launch} {φ : OI → Nat} {D : va_G} {cI cB : ClassId} (hJ : o_J φ) {r : Nat} (hr : r < 4) {σ : SS} {post : Int32 → SS → Prop} (h : V_X4_lastParts r σ post) : o_Mi l φ D cI cB yX4_lastParts wsX4_lastParts 2 43 [.ref (φ (3, r, 0))] σ post :=
 o_met_i hJ (by decide +kernel) rfl (Nat.le_of_ble_eq_true rfl) (fun p e s m args below meth c Q hC hR => wv_X4_lastParts hC hR hr h)
theorem hd_X4_lastMistakes : yX4_lastMistakes.cls = RX4 ∧ yX4_lastMistakes.cls ≠ "java/lang/invoke/MethodHandle" ∧ yX4_lastMistakes.cls ≠ "java/lang/invoke/VarHandle" ∧ (parseMethodDescriptor yX4_lastMistakes.desc).map (fun d => d.parameters.length) = some 0 := by decide +kernel
set_option maxHeartbeats 4000000 in
set_option maxRecDepth 100000 in
theorem wv_X4_lastMistakes {X : OX} {r : Nat} {post : Int32 → SS → Prop} {σ : SS} (hC : o_C X cX4_lastMistakes RX4 wsX4_lastMistakes 2 43 1) (hR : o_RI X cX4_lastMistakes post) (hr : r < 4) (h : V_X4_lastMistakes r σ post) : o_G X σ 0 [(0, .ref (ox_φ X (3, r, 0)))] [] := by
  unfold V_X4_lastMistakes at h
  refine g_aload_n hC 0 dX4_lastMistakes_0 rfl rfl ?_
  refine g_aload_n hC 0 dX4_lastMistakes_1 rfl rfl ?_
  refine g_ri (r_V (C := RX4) (T := TX4) (N := 6) (As := []) (rest := [.ref (ox_φ X (3, r, 0))]) hC (o_in3 r hr) (o_eX4 _ _ _ _ _) rfl (c_X4_lastChild (l := ox_l X) (φ := ox_φ X) (D := ox_D X) (cI := ox_I X) (cB := ox_B X) hC.J hr h) gX4_lastMistakes_X4_lastChild rfl hd_X4_lastChild ⟨Nat.le_of_ble_eq_true rfl, Nat.le_of_ble_eq_true rfl⟩ rfl rfl (Nat.le_of_ble_eq_true rfl) dX4_lastMistakes_2) (fun v2 s2 h => ?_)
  refine g_iconst (v := (0 : Int32)) hC dX4_lastMistakes_5 (by decide) ?_
  refine g_ri (r_V (C := RX4) (T := TX4) (N := 6) (As := [.int v2, .int (0 : Int32)]) (rest := []) hC (o_in3 r hr) (o_eX4 _ _ _ _ _) rfl (c_X4_mistakes (l := ox_l X) (φ := ox_φ X) (D := ox_D X) (cI := ox_I X) (cB := ox_B X) hC.J hr h) gX4_lastMistakes_X4_mistakes rfl hd_X4_mistakes ⟨Nat.le_of_ble_eq_true rfl, Nat.le_of_ble_eq_true rfl⟩ rfl rfl (Nat.le_of_ble_eq_true rfl) dX4_lastMistakes_6) (fun v6 s6 h => ?_)
  refine g_ri (r_S (As := [.int v6]) (rest := []) hC (c_J6_bitCount_0f7a4 (l := ox_l X) (φ := ox_φ X) (D := ox_D X) (cI := ox_I X) (cB := ox_B X) hC.J  h) gX4_lastMistakes_J6_bitCount_0f7a4 rfl hd_J6_bitCount_0f7a4 ⟨Nat.le_of_ble_eq_true rfl, Nat.le_of_ble_eq_true rfl⟩ rfl rfl (Nat.le_of_ble_eq_true rfl) dX4_lastMistakes_9) (fun v9 s9 h => ?_)
  exact hR _ _ _ _ dX4_lastMistakes_12 h
set_option maxRecDepth 100000 in
theorem c_X4_lastMistakes {l : Launch} {φ : OI → Nat} {D : va_G} {cI cB : ClassId} (hJ : o_J φ) {r : Nat} (hr : r < 4) {σ : SS} {post : Int32 → SS → Prop} (h : V_X4_lastMistakes r σ post) : o_Mi l φ D cI cB yX4_lastMistakes wsX4_lastMistakes 2 43 [.ref (φ (3, r, 0))] σ post :=
 o_met_i hJ (by decide +kernel) rfl (Nat.le_of_ble_eq_true rfl) (fun p e s m args below meth c Q hC hR => wv_X4_lastMistakes hC hR hr h)
theorem hd_X4_endsBetterThan : yX4_endsBetterThan.cls = RX4 ∧ yX4_endsBetterThan.cls ≠ "java/lang/invoke/MethodHandle" ∧ yX4_endsBetterThan.cls ≠ "java/lang/invoke/VarHandle" ∧ (parseMethodDescriptor yX4_endsBetterThan.desc).map (fun d => d.parameters.length) = some 1 := by decide +kernel
set_option maxHeartbeats 4000000 in
set_option maxRecDepth 100000 in
theorem wv_X4_endsBetterThan {X : OX} {r : Nat} {r2 : Nat} {post : Int32 → SS → Prop} {σ : SS} (hC : o_C X cX4_endsBetterThan RX4 wsX4_endsBetterThan 3 63 2) (hR : o_RZ X cX4_endsBetterThan post) (hr : r < 4) (hr2 : r2 < 4) (h : V_X4_endsBetterThan r r2 σ post) : o_G X σ 0 [(0, .ref (ox_φ X (3, r, 0))), (1, .ref (ox_φ X (3, r2, 0)))] [] := by
  unfold V_X4_endsBetterThan at h
  refine g_aload_n hC 0 dX4_endsBetterThan_0 rfl rfl ?_
  refine g_ri (r_V (C := RX4) (T := TX4) (N := 6) (As := []) (rest := []) hC (o_in3 r hr) (o_eX4 _ _ _ _ _) rfl (c_X4_lastParts (l := ox_l X) (φ := ox_φ X) (D := ox_D X) (cI := ox_I X) (cB := ox_B X) hC.J hr h) gX4_endsBetterThan_X4_lastParts rfl hd_X4_lastParts ⟨Nat.le_of_ble_eq_true rfl, Nat.le_of_ble_eq_true rfl⟩ rfl rfl (Nat.le_of_ble_eq_true rfl) dX4_endsBetterThan_1) (fun v1 s1 h => ?_)
  refine g_aload_n hC 0 dX4_endsBetterThan_4 rfl rfl ?_
  refine g_aload_n hC 0 dX4_endsBetterThan_5 rfl rfl ?_
  refine g_ri (r_V (C := RX4) (T := TX4) (N := 6) (As := []) (rest := [.ref (ox_φ X (3, r, 0)), .int v1]) hC (o_in3 r hr) (o_eX4 _ _ _ _ _) rfl (c_X4_lastChild (l := ox_l X) (φ := ox_φ X) (D := ox_D X) (cI := ox_I X) (cB := ox_B X) hC.J hr h) gX4_endsBetterThan_X4_lastChild rfl hd_X4_lastChild ⟨Nat.le_of_ble_eq_true rfl, Nat.le_of_ble_eq_true rfl⟩ rfl rfl (Nat.le_of_ble_eq_true rfl) dX4_endsBetterThan_6) (fun v6 s6 h => ?_)
  refine g_iconst (v := (0 : Int32)) hC dX4_endsBetterThan_9 (by decide) ?_
  refine g_ri (r_V (C := RX4) (T := TX4) (N := 6) (As := [.int v6, .int (0 : Int32)]) (rest := [.int v1]) hC (o_in3 r hr) (o_eX4 _ _ _ _ _) rfl (c_X4_mistakes (l := ox_l X) (φ := ox_φ X) (D := ox_D X) (cI := ox_I X) (cB := ox_B X) hC.J hr h) gX4_endsBetterThan_X4_mistakes rfl hd_X4_mistakes ⟨Nat.le_of_ble_eq_true rfl, Nat.le_of_ble_eq_true rfl⟩ rfl rfl (Nat.le_of_ble_eq_true rfl) dX4_endsBetterThan_10) (fun v10 s10 h => ?_)
  refine g_aload_n hC 1 dX4_endsBetterThan_13 rfl rfl ?_
  refine g_ri (r_V (C := RX4) (T := TX4) (N := 6) (As := []) (rest := [.int v10, .int v1]) hC (o_in3 r2 hr2) (o_eX4 _ _ _ _ _) rfl (c_X4_lastParts (l := ox_l X) (φ := ox_φ X) (D := ox_D X) (cI := ox_I X) (cB := ox_B X) hC.J hr2 h) gX4_endsBetterThan_X4_lastParts rfl hd_X4_lastParts ⟨Nat.le_of_ble_eq_true rfl, Nat.le_of_ble_eq_true rfl⟩ rfl rfl (Nat.le_of_ble_eq_true rfl) dX4_endsBetterThan_14) (fun v14 s14 h => ?_)
  refine g_aload_n hC 1 dX4_endsBetterThan_17 rfl rfl ?_
  refine g_aload_n hC 1 dX4_endsBetterThan_18 rfl rfl ?_
  refine g_ri (r_V (C := RX4) (T := TX4) (N := 6) (As := []) (rest := [.ref (ox_φ X (3, r2, 0)), .int v14, .int v10, .int v1]) hC (o_in3 r2 hr2) (o_eX4 _ _ _ _ _) rfl (c_X4_lastChild (l := ox_l X) (φ := ox_φ X) (D := ox_D X) (cI := ox_I X) (cB := ox_B X) hC.J hr2 h) gX4_endsBetterThan_X4_lastChild rfl hd_X4_lastChild ⟨Nat.le_of_ble_eq_true rfl, Nat.le_of_ble_eq_true rfl⟩ rfl rfl (Nat.le_of_ble_eq_true rfl) dX4_endsBetterThan_19) (fun v19 s19 h => ?_)
  refine g_iconst (v := (0 : Int32)) hC dX4_endsBetterThan_22 (by decide) ?_
  refine g_ri (r_V (C := RX4) (T := TX4) (N := 6) (As := [.int v19, .int (0 : Int32)]) (rest := [.int v14, .int v10, .int v1]) hC (o_in3 r2 hr2) (o_eX4 _ _ _ _ _) rfl (c_X4_mistakes (l := ox_l X) (φ := ox_φ X) (D := ox_D X) (cI := ox_I X) (cB := ox_B X) hC.J hr2 h) gX4_endsBetterThan_X4_mistakes rfl hd_X4_mistakes ⟨Nat.le_of_ble_eq_true rfl, Nat.le_of_ble_eq_true rfl⟩ rfl rfl (Nat.le_of_ble_eq_true rfl) dX4_endsBetterThan_23) (fun v23 s23 h => ?_)
  refine g_ri (r_S (As := [.int v1, .int v10, .int v14, .int v23]) (rest := []) hC (c_X4_isMoreWorth (l := ox_l X) (φ := ox_φ X) (D := ox_D X) (cI := ox_I X) (cB := ox_B X) hC.J  h) gX4_endsBetterThan_X4_isMoreWorth rfl hd_X4_isMoreWorth ⟨Nat.le_of_ble_eq_true rfl, Nat.le_of_ble_eq_true rfl⟩ rfl rfl (Nat.le_of_ble_eq_true rfl) dX4_endsBetterThan_26) (fun v26 s26 h => ?_)
  exact hR _ _ _ _ dX4_endsBetterThan_29 h
set_option maxRecDepth 100000 in
theorem c_X4_endsBetterThan {l : Launch} {φ : OI → Nat} {D : va_G} {cI cB : ClassId} (hJ : o_J φ) {r : Nat} {r2 : Nat} (hr : r < 4) (hr2 : r2 < 4) {σ : SS} {post : Int32 → SS → Prop} (h : V_X4_endsBetterThan r r2 σ post) : o_Mi l φ D cI cB yX4_endsBetterThan wsX4_endsBetterThan 3 63 [.ref (φ (3, r, 0)), .ref (φ (3, r2, 0))] σ post :=
 o_met_z hJ (by decide +kernel) rfl (Nat.le_of_ble_eq_true rfl) (fun p e s m args below meth c Q hC hR => wv_X4_endsBetterThan hC hR hr hr2 h)
theorem kw_X5_child_1 : Cond.fieldLink RX5 20 "SchoolRow$School" "kindNumbers" "LSchoolRow$Cells;" ∈ wsX5_child := List.mem_of_getElem? (i := 1) (by decide +kernel)
theorem kw_X5_child_2 : Cond.fieldLink RX5 33 "SchoolRow$School" "sister" "LSchoolRow$Child;" ∈ wsX5_child := List.mem_of_getElem? (i := 2) (by decide +kernel)
theorem kw_X5_child_3 : Cond.fieldLink RX5 39 "SchoolRow$School" "doubter" "LSchoolRow$Child;" ∈ wsX5_child := List.mem_of_getElem? (i := 3) (by decide +kernel)
theorem kw_X5_child_4 : Cond.fieldLink RX5 45 "SchoolRow$School" "singer" "LSchoolRow$Child;" ∈ wsX5_child := List.mem_of_getElem? (i := 4) (by decide +kernel)
theorem kw_X5_child_5 : Cond.fieldLink RX5 51 "SchoolRow$School" "shouter" "LSchoolRow$Child;" ∈ wsX5_child := List.mem_of_getElem? (i := 5) (by decide +kernel)
theorem kw_X5_child_6 : Cond.fieldLink RX5 26 "SchoolRow$School" "plainChild" "LSchoolRow$Child;" ∈ wsX5_child := List.mem_of_getElem? (i := 6) (by decide +kernel)
theorem ki_X5_child_X5 : ∀ w ∈ wsX50, w ∈ wsX5_child := fun _ h => List.mem_cons_of_mem _ (List.mem_append_left _ (List.mem_append_right _ h))
theorem hd_X5_child : yX5_child.cls = RX5 ∧ yX5_child.cls ≠ "java/lang/invoke/MethodHandle" ∧ yX5_child.cls ≠ "java/lang/invoke/VarHandle" ∧ (parseMethodDescriptor yX5_child.desc).map (fun d => d.parameters.length) = some 1 := by decide +kernel
set_option maxHeartbeats 4000000 in
set_option maxRecDepth 100000 in
theorem wv_X5_child {X : OX} {x1 : Int32} {post : Nat → SS → Prop} {σ : SS} (hC : o_C X cX5_child RX5 wsX5_child 1 21 2) (hR : o_RR X cX5_child post) (h : V_X5_child x1 σ post) : o_G X σ 0 [(0, .ref (ox_φ X (2, 0, 0))), (1, .int x1)] [] := by
  unfold V_X5_child at h
  refine g_aload_n hC 0 dX5_child_0 rfl rfl ?_
  refine g_get (C := RX5) (T := TX5) (N := 8) (v := .ref (ox_φ X (10, 0, 2))) hC o_iX5 (o_eX5 _ _ _ _) rfl ki_X5_child_X5 1 (by decide) kw_X5_child_1 rfl dX5_child_1 ?_
  refine g_iload_n hC 1 dX5_child_4 rfl rfl ?_
  refine g_ri (r_V (C := RX0) (T := TX0) (N := 1) (As := [.int x1]) (rest := []) hC (o_Cl10 2 (by decide)).1 ((o_Cl10 2 (by decide)).2.1 _ _ _ _) rfl (c_X0_at (l := ox_l X) (φ := ox_φ X) (D := ox_D X) (cI := ox_I X) (cB := ox_B X) hC.J (o_Cl10 2 (by decide)) h) gX5_child_X0_at rfl hd_X0_at ⟨Nat.le_of_ble_eq_true rfl, Nat.le_of_ble_eq_true rfl⟩ rfl rfl (Nat.le_of_ble_eq_true rfl) dX5_child_5) (fun v5 s5 h => ?_)
  by_cases z0 : v5 = (1 : Int32)
  · have h := h.1 z0
    refine g_tabIn hC (1 : Int32) z0 40 dX5_child_8 (by decide) (by decide) rfl (by decide) ?_
    refine g_aload_n hC 0 dX5_child_40 rfl rfl ?_
    refine g_get (C := RX5) (T := TX5) (N := 8) (v := .ref (ox_φ X (6, 0, 1))) hC o_iX5 (o_eX5 _ _ _ _) rfl ki_X5_child_X5 3 (by decide) kw_X5_child_2 rfl dX5_child_41 ?_
    exact hR _ _ _ _ dX5_child_44 (by decide) h
  · skip
    by_cases z1 : v5 = (2 : Int32)
    · have h := h.2.1 z1
      refine g_tabIn hC (2 : Int32) z1 45 dX5_child_8 (by decide) (by decide) rfl (by decide) ?_
      refine g_aload_n hC 0 dX5_child_45 rfl rfl ?_
      refine g_get (C := RX5) (T := TX5) (N := 8) (v := .ref (ox_φ X (6, 0, 2))) hC o_iX5 (o_eX5 _ _ _ _) rfl ki_X5_child_X5 4 (by decide) kw_X5_child_3 rfl dX5_child_46 ?_
      exact hR _ _ _ _ dX5_child_49 (by decide) h
    · skip
      by_cases z2 : v5 = (3 : Int32)
      · have h := h.2.2.1 z2
        refine g_tabIn hC (3 : Int32) z2 50 dX5_child_8 (by decide) (by decide) rfl (by decide) ?_
        refine g_aload_n hC 0 dX5_child_50 rfl rfl ?_
        refine g_get (C := RX5) (T := TX5) (N := 8) (v := .ref (ox_φ X (6, 0, 3))) hC o_iX5 (o_eX5 _ _ _ _) rfl ki_X5_child_X5 5 (by decide) kw_X5_child_4 rfl dX5_child_51 ?_
        exact hR _ _ _ _ dX5_child_54 (by decide) h
      · skip
        by_cases z3 : v5 = (4 : Int32)
        · have h := h.2.2.2.1 z3
          refine g_tabIn hC (4 : Int32) z3 55 dX5_child_8 (by decide) (by decide) rfl (by decide) ?_
          refine g_aload_n hC 0 dX5_child_55 rfl rfl ?_
          refine g_get (C := RX5) (T := TX5) (N := 8) (v := .ref (ox_φ X (6, 0, 4))) hC o_iX5 (o_eX5 _ _ _ _) rfl ki_X5_child_X5 6 (by decide) kw_X5_child_5 rfl dX5_child_56 ?_
          exact hR _ _ _ _ dX5_child_59 (by decide) h
        · skip
          have h := h.2.2.2.2 ⟨z0, z1, z2, z3⟩
          have a0 := lv_neT z0 (a := 1) (by decide)
          have a1 := lv_neT z1 (a := 2) (by decide)
          have a2 := lv_neT z2 (a := 3) (by decide)
          have a3 := lv_neT z3 (a := 4) (by decide)
          refine g_tabOut hC 60 dX5_child_8 (by omega) (by decide) ?_
          refine g_aload_n hC 0 dX5_child_60 rfl rfl ?_
          refine g_get (C := RX5) (T := TX5) (N := 8) (v := .ref (ox_φ X (6, 0, 0))) hC o_iX5 (o_eX5 _ _ _ _) rfl ki_X5_child_X5 2 (by decide) kw_X5_child_6 rfl dX5_child_61 ?_
          exact hR _ _ _ _ dX5_child_64 (by decide) h
set_option maxRecDepth 100000 in
theorem c_X5_child {l : Launch} {φ : OI → Nat} {D : va_G} {cI cB : ClassId} (hJ : o_J φ) {x1 : Int32} {σ : SS} {post : Nat → SS → Prop} (h : V_X5_child x1 σ post) : o_Mr l φ D cI cB yX5_child wsX5_child 1 21 [.ref (φ (2, 0, 0)), .int x1] σ post :=
 o_met_r hJ (by decide +kernel) rfl (Nat.le_of_ble_eq_true rfl) (fun p e s m args below meth c Q hC hR => wv_X5_child hC hR h)
theorem kw_X5_tenthsLost_1 : Cond.fieldLink RX5 14 "SchoolRow$School" "digits" "LSchoolRow$Cells;" ∈ wsX5_tenthsLost := List.mem_of_getElem? (i := 1) (by decide +kernel)
theorem ki_X5_tenthsLost_X5 : ∀ w ∈ wsX50, w ∈ wsX5_tenthsLost := fun _ h => List.mem_cons_of_mem _ (List.mem_append_left _ (List.mem_append_right _ h))
theorem hd_X5_tenthsLost : yX5_tenthsLost.cls = RX5 ∧ yX5_tenthsLost.cls ≠ "java/lang/invoke/MethodHandle" ∧ yX5_tenthsLost.cls ≠ "java/lang/invoke/VarHandle" ∧ (parseMethodDescriptor yX5_tenthsLost.desc).map (fun d => d.parameters.length) = some 0 := by decide +kernel
set_option maxHeartbeats 4000000 in
set_option maxRecDepth 100000 in
theorem wv_X5_tenthsLost {X : OX} {post : Int32 → SS → Prop} {σ : SS} (hC : o_C X cX5_tenthsLost RX5 wsX5_tenthsLost 1 21 1) (hR : o_RI X cX5_tenthsLost post) (h : V_X5_tenthsLost σ post) : o_G X σ 0 [(0, .ref (ox_φ X (2, 0, 0)))] [] := by
  unfold V_X5_tenthsLost at h
  refine g_aload_n hC 0 dX5_tenthsLost_0 rfl rfl ?_
  refine g_get (C := RX5) (T := TX5) (N := 8) (v := .ref (ox_φ X (10, 0, 1))) hC o_iX5 (o_eX5 _ _ _ _) rfl ki_X5_tenthsLost_X5 0 (by decide) kw_X5_tenthsLost_1 rfl dX5_tenthsLost_1 ?_
  refine g_iconst (v := (0 : Int32)) hC dX5_tenthsLost_4 (by decide) ?_
  refine g_ri (r_V (C := RX0) (T := TX0) (N := 1) (As := [.int (0 : Int32)]) (rest := []) hC (o_Cl10 1 (by decide)).1 ((o_Cl10 1 (by decide)).2.1 _ _ _ _) rfl (c_X0_at (l := ox_l X) (φ := ox_φ X) (D := ox_D X) (cI := ox_I X) (cB := ox_B X) hC.J (o_Cl10 1 (by decide)) h) gX5_tenthsLost_X0_at rfl hd_X0_at ⟨Nat.le_of_ble_eq_true rfl, Nat.le_of_ble_eq_true rfl⟩ rfl rfl (Nat.le_of_ble_eq_true rfl) dX5_tenthsLost_5) (fun v5 s5 h => ?_)
  exact hR _ _ _ _ dX5_tenthsLost_8 h
set_option maxRecDepth 100000 in
theorem c_X5_tenthsLost {l : Launch} {φ : OI → Nat} {D : va_G} {cI cB : ClassId} (hJ : o_J φ) {σ : SS} {post : Int32 → SS → Prop} (h : V_X5_tenthsLost σ post) : o_Mi l φ D cI cB yX5_tenthsLost wsX5_tenthsLost 1 21 [.ref (φ (2, 0, 0))] σ post :=
 o_met_i hJ (by decide +kernel) rfl (Nat.le_of_ble_eq_true rfl) (fun p e s m args below meth c Q hC hR => wv_X5_tenthsLost hC hR h)
theorem hd_X7_losesOf : yX7_losesOf.cls = RX7 ∧ yX7_losesOf.cls ≠ "java/lang/invoke/MethodHandle" ∧ yX7_losesOf.cls ≠ "java/lang/invoke/VarHandle" ∧ (parseMethodDescriptor yX7_losesOf.desc).map (fun d => d.parameters.length) = some 2 := by decide +kernel
set_option maxHeartbeats 4000000 in
set_option maxRecDepth 100000 in
theorem wv_X7_losesOf {X : OX} {j : Nat} {x1 : Int32} {x2 : Int32} {post : Int32 → SS → Prop} {σ : SS} (hC : o_C X cX7_losesOf RX7 wsX7_losesOf 0 0 3) (hR : o_RI X cX7_losesOf post) (hj : j < 5) (h : V_X7_losesOf j x1 x2 σ post) : o_G X σ 0 [(0, .ref (ox_φ X (6, 0, j))), (1, .int x1), (2, .int x2)] [] := by
  unfold V_X7_losesOf at h
  refine g_iconst (v := (0 : Int32)) hC dX7_losesOf_0 (by decide) ?_
  exact hR _ _ _ _ dX7_losesOf_1 h
set_option maxRecDepth 100000 in
theorem c_X7_losesOf {l : Launch} {φ : OI → Nat} {D : va_G} {cI cB : ClassId} (hJ : o_J φ) {j : Nat} {x1 : Int32} {x2 : Int32} (hj : j < 5) {σ : SS} {post : Int32 → SS → Prop} (h : V_X7_losesOf j x1 x2 σ post) : o_Mi l φ D cI cB yX7_losesOf wsX7_losesOf 0 0 [.ref (φ (6, 0, j)), .int x1, .int x2] σ post :=
 o_met_i hJ (by decide +kernel) rfl (Nat.le_of_ble_eq_true rfl) (fun p e s m args below meth c Q hC hR => wv_X7_losesOf hC hR hj h)
theorem hd_X8_givesOf : yX8_givesOf.cls = RX8 ∧ yX8_givesOf.cls ≠ "java/lang/invoke/MethodHandle" ∧ yX8_givesOf.cls ≠ "java/lang/invoke/VarHandle" ∧ (parseMethodDescriptor yX8_givesOf.desc).map (fun d => d.parameters.length) = some 2 := by decide +kernel
set_option maxHeartbeats 4000000 in
set_option maxRecDepth 100000 in
theorem wv_X8_givesOf {X : OX} {j : Nat} {x1 : Int32} {x2 : Int32} {post : Int32 → SS → Prop} {σ : SS} (hC : o_C X cX8_givesOf RX8 wsX8_givesOf 0 0 3) (hR : o_RI X cX8_givesOf post) (hj : j < 5) (h : V_X8_givesOf j x1 x2 σ post) : o_G X σ 0 [(0, .ref (ox_φ X (6, 0, j))), (1, .int x1), (2, .int x2)] [] := by
  unfold V_X8_givesOf at h
  refine g_iconst (v := (0 : Int32)) hC dX8_givesOf_0 (by decide) ?_
  exact hR _ _ _ _ dX8_givesOf_1 h
set_option maxRecDepth 100000 in
theorem c_X8_givesOf {l : Launch} {φ : OI → Nat} {D : va_G} {cI cB : ClassId} (hJ : o_J φ) {j : Nat} {x1 : Int32} {x2 : Int32} (hj : j < 5) {σ : SS} {post : Int32 → SS → Prop} (h : V_X8_givesOf j x1 x2 σ post) : o_Mi l φ D cI cB yX8_givesOf wsX8_givesOf 0 0 [.ref (φ (6, 0, j)), .int x1, .int x2] σ post :=
 o_met_i hJ (by decide +kernel) rfl (Nat.le_of_ble_eq_true rfl) (fun p e s m args below meth c Q hC hR => wv_X8_givesOf hC hR hj h)
theorem hx_takesOf : ("SchoolRow$Child" : String) ≠ "java/lang/invoke/MethodHandle" ∧ ("SchoolRow$Child" : String) ≠ "java/lang/invoke/VarHandle" ∧ (parseMethodDescriptor (⟨"SchoolRow$Child", "takesOf", "(II)I"⟩ : MethodName).desc).map (fun d => d.parameters.length) = some 2 := by decide +kernel
set_option maxHeartbeats 4000000 in
set_option maxRecDepth 100000 in
theorem vc_X4_teachDown_takesOf {X : OX} {j : Nat} {x1 x2 : Int32} {σ : SS} {post : Int32 → SS → Prop} {pc : Nat} {lv : List (Nat × Value)} {st rest : List Value} (hC : o_C X cX4_teachDown RX4 wsX4_teachDown 2 43 12) (hj : j < 5) (hdg : decode cX4_teachDown pc = .ok (.invokevirtual 109, 3)) (hst : st = .int x2 :: .int x1 :: .ref (ox_φ X (6, 0, j)) :: rest) (hrm : (rest.map fun v => v.category).sum ≤ 8) (h : VV_takesOf j x1 x2 σ post) : o_R X σ pc lv st rest (va_Qi post (o_B (ox_φ X) (ox_D X) (ox_I X) (ox_B X)) (o_A (ox_φ X))) := match j, hj, hst, h with
  | 0, hj, hst, h => r_V (C := RX1) (T := TX1) (N := 0) (As := [.int x1, .int x2]) (rest := rest) hC (o_in6 0 hj) rfl rfl (c_X1_takesOf (l := ox_l X) (φ := ox_φ X) (D := ox_D X) (cI := ox_I X) (cB := ox_B X) hC.J hj h) gX4_teachDown_X1_takesOf rfl hd_X1_takesOf ⟨Nat.le_of_ble_eq_true rfl, Nat.le_of_ble_eq_true rfl⟩ rfl hst hrm hdg
  | 1, hj, hst, h => r_U (C := RX8) (T := TX8) (N := 0) (owner := "SchoolRow$Child") (x := ⟨"SchoolRow$Child", "takesOf", "(II)I"⟩) (As := [.int x1, .int x2]) (rest := rest) hC hj rfl (c_X1_takesOf (l := ox_l X) (φ := ox_φ X) (D := ox_D X) (cI := ox_I X) (cB := ox_B X) hC.J hj h) gX4_teachDown_X1_takesOf_u109X8 rfl rfl hx_takesOf ⟨Nat.le_of_ble_eq_true rfl, Nat.le_of_ble_eq_true rfl⟩ rfl hst hrm hdg
  | 2, hj, hst, h => r_O (C := RX2) (T := TX2) (N := 0) (owner := "SchoolRow$Child") (x := ⟨"SchoolRow$Child", "takesOf", "(II)I"⟩) (As := [.int x1, .int x2]) (rest := rest) hC hj rfl (c_X2_takesOf (l := ox_l X) (φ := ox_φ X) (D := ox_D X) (cI := ox_I X) (cB := ox_B X) hC.J hj h) gX4_teachDown_X2_takesOf_u109X2 rfl (List.mem_of_getElem? (i := 48) (by decide +kernel) : Cond.code yX1_takesOf cX1_takesOf 3 (some .int) ∈ wsX4_teachDown) hx_takesOf ⟨Nat.le_of_ble_eq_true rfl, Nat.le_of_ble_eq_true rfl⟩ rfl hst hrm hdg
  | 3, hj, hst, h => r_U (C := RX7) (T := TX7) (N := 0) (owner := "SchoolRow$Child") (x := ⟨"SchoolRow$Child", "takesOf", "(II)I"⟩) (As := [.int x1, .int x2]) (rest := rest) hC hj rfl (c_X1_takesOf (l := ox_l X) (φ := ox_φ X) (D := ox_D X) (cI := ox_I X) (cB := ox_B X) hC.J hj h) gX4_teachDown_X1_takesOf_u109X7 rfl rfl hx_takesOf ⟨Nat.le_of_ble_eq_true rfl, Nat.le_of_ble_eq_true rfl⟩ rfl hst hrm hdg
  | 4, hj, hst, h => r_U (C := RX6) (T := TX6) (N := 0) (owner := "SchoolRow$Child") (x := ⟨"SchoolRow$Child", "takesOf", "(II)I"⟩) (As := [.int x1, .int x2]) (rest := rest) hC hj rfl (c_X1_takesOf (l := ox_l X) (φ := ox_φ X) (D := ox_D X) (cI := ox_I X) (cB := ox_B X) hC.J hj h) gX4_teachDown_X1_takesOf_u109X6 rfl rfl hx_takesOf ⟨Nat.le_of_ble_eq_true rfl, Nat.le_of_ble_eq_true rfl⟩ rfl hst hrm hdg
  | k + 5, hj, _, _ => absurd hj (by omega)
theorem hx_losesOf : ("SchoolRow$Child" : String) ≠ "java/lang/invoke/MethodHandle" ∧ ("SchoolRow$Child" : String) ≠ "java/lang/invoke/VarHandle" ∧ (parseMethodDescriptor (⟨"SchoolRow$Child", "losesOf", "(II)I"⟩ : MethodName).desc).map (fun d => d.parameters.length) = some 2 := by decide +kernel
set_option maxHeartbeats 4000000 in
set_option maxRecDepth 100000 in
theorem vc_X4_teachDown_losesOf {X : OX} {j : Nat} {x1 x2 : Int32} {σ : SS} {post : Int32 → SS → Prop} {pc : Nat} {lv : List (Nat × Value)} {st rest : List Value} (hC : o_C X cX4_teachDown RX4 wsX4_teachDown 2 43 12) (hj : j < 5) (hdg : decode cX4_teachDown pc = .ok (.invokevirtual 117, 3)) (hst : st = .int x2 :: .int x1 :: .ref (ox_φ X (6, 0, j)) :: rest) (hrm : (rest.map fun v => v.category).sum ≤ 8) (h : VV_losesOf j x1 x2 σ post) : o_R X σ pc lv st rest (va_Qi post (o_B (ox_φ X) (ox_D X) (ox_I X) (ox_B X)) (o_A (ox_φ X))) := match j, hj, hst, h with
  | 0, hj, hst, h => r_V (C := RX1) (T := TX1) (N := 0) (As := [.int x1, .int x2]) (rest := rest) hC (o_in6 0 hj) rfl rfl (c_X1_losesOf (l := ox_l X) (φ := ox_φ X) (D := ox_D X) (cI := ox_I X) (cB := ox_B X) hC.J hj h) gX4_teachDown_X1_losesOf rfl hd_X1_losesOf ⟨Nat.le_of_ble_eq_true rfl, Nat.le_of_ble_eq_true rfl⟩ rfl hst hrm hdg
  | 1, hj, hst, h => r_U (C := RX8) (T := TX8) (N := 0) (owner := "SchoolRow$Child") (x := ⟨"SchoolRow$Child", "losesOf", "(II)I"⟩) (As := [.int x1, .int x2]) (rest := rest) hC hj rfl (c_X1_losesOf (l := ox_l X) (φ := ox_φ X) (D := ox_D X) (cI := ox_I X) (cB := ox_B X) hC.J hj h) gX4_teachDown_X1_losesOf_u117X8 rfl rfl hx_losesOf ⟨Nat.le_of_ble_eq_true rfl, Nat.le_of_ble_eq_true rfl⟩ rfl hst hrm hdg
  | 2, hj, hst, h => r_U (C := RX2) (T := TX2) (N := 0) (owner := "SchoolRow$Child") (x := ⟨"SchoolRow$Child", "losesOf", "(II)I"⟩) (As := [.int x1, .int x2]) (rest := rest) hC hj rfl (c_X1_losesOf (l := ox_l X) (φ := ox_φ X) (D := ox_D X) (cI := ox_I X) (cB := ox_B X) hC.J hj h) gX4_teachDown_X1_losesOf_u117X2 rfl rfl hx_losesOf ⟨Nat.le_of_ble_eq_true rfl, Nat.le_of_ble_eq_true rfl⟩ rfl hst hrm hdg
  | 3, hj, hst, h => r_O (C := RX7) (T := TX7) (N := 0) (owner := "SchoolRow$Child") (x := ⟨"SchoolRow$Child", "losesOf", "(II)I"⟩) (As := [.int x1, .int x2]) (rest := rest) hC hj rfl (c_X7_losesOf (l := ox_l X) (φ := ox_φ X) (D := ox_D X) (cI := ox_I X) (cB := ox_B X) hC.J hj h) gX4_teachDown_X7_losesOf_u117X7 rfl (List.mem_of_getElem? (i := 67) (by decide +kernel) : Cond.code yX1_losesOf cX1_losesOf 3 (some .int) ∈ wsX4_teachDown) hx_losesOf ⟨Nat.le_of_ble_eq_true rfl, Nat.le_of_ble_eq_true rfl⟩ rfl hst hrm hdg
  | 4, hj, hst, h => r_O (C := RX6) (T := TX6) (N := 0) (owner := "SchoolRow$Child") (x := ⟨"SchoolRow$Child", "losesOf", "(II)I"⟩) (As := [.int x1, .int x2]) (rest := rest) hC hj rfl (c_X7_losesOf (l := ox_l X) (φ := ox_φ X) (D := ox_D X) (cI := ox_I X) (cB := ox_B X) hC.J hj h) gX4_teachDown_X7_losesOf_u117X6 rfl (List.mem_of_getElem? (i := 67) (by decide +kernel) : Cond.code yX1_losesOf cX1_losesOf 3 (some .int) ∈ wsX4_teachDown) hx_losesOf ⟨Nat.le_of_ble_eq_true rfl, Nat.le_of_ble_eq_true rfl⟩ rfl hst hrm hdg
  | k + 5, hj, _, _ => absurd hj (by omega)
theorem hx_givesOf : ("SchoolRow$Child" : String) ≠ "java/lang/invoke/MethodHandle" ∧ ("SchoolRow$Child" : String) ≠ "java/lang/invoke/VarHandle" ∧ (parseMethodDescriptor (⟨"SchoolRow$Child", "givesOf", "(II)I"⟩ : MethodName).desc).map (fun d => d.parameters.length) = some 2 := by decide +kernel
set_option maxHeartbeats 4000000 in
set_option maxRecDepth 100000 in
theorem vc_X4_teachDown_givesOf {X : OX} {j : Nat} {x1 x2 : Int32} {σ : SS} {post : Int32 → SS → Prop} {pc : Nat} {lv : List (Nat × Value)} {st rest : List Value} (hC : o_C X cX4_teachDown RX4 wsX4_teachDown 2 43 12) (hj : j < 5) (hdg : decode cX4_teachDown pc = .ok (.invokevirtual 120, 3)) (hst : st = .int x2 :: .int x1 :: .ref (ox_φ X (6, 0, j)) :: rest) (hrm : (rest.map fun v => v.category).sum ≤ 8) (h : VV_givesOf j x1 x2 σ post) : o_R X σ pc lv st rest (va_Qi post (o_B (ox_φ X) (ox_D X) (ox_I X) (ox_B X)) (o_A (ox_φ X))) := match j, hj, hst, h with
  | 0, hj, hst, h => r_V (C := RX1) (T := TX1) (N := 0) (As := [.int x1, .int x2]) (rest := rest) hC (o_in6 0 hj) rfl rfl (c_X1_givesOf (l := ox_l X) (φ := ox_φ X) (D := ox_D X) (cI := ox_I X) (cB := ox_B X) hC.J hj h) gX4_teachDown_X1_givesOf rfl hd_X1_givesOf ⟨Nat.le_of_ble_eq_true rfl, Nat.le_of_ble_eq_true rfl⟩ rfl hst hrm hdg
  | 1, hj, hst, h => r_O (C := RX8) (T := TX8) (N := 0) (owner := "SchoolRow$Child") (x := ⟨"SchoolRow$Child", "givesOf", "(II)I"⟩) (As := [.int x1, .int x2]) (rest := rest) hC hj rfl (c_X8_givesOf (l := ox_l X) (φ := ox_φ X) (D := ox_D X) (cI := ox_I X) (cB := ox_B X) hC.J hj h) gX4_teachDown_X8_givesOf_u120X8 rfl (List.mem_of_getElem? (i := 84) (by decide +kernel) : Cond.code yX1_givesOf cX1_givesOf 3 (some .int) ∈ wsX4_teachDown) hx_givesOf ⟨Nat.le_of_ble_eq_true rfl, Nat.le_of_ble_eq_true rfl⟩ rfl hst hrm hdg
  | 2, hj, hst, h => r_U (C := RX2) (T := TX2) (N := 0) (owner := "SchoolRow$Child") (x := ⟨"SchoolRow$Child", "givesOf", "(II)I"⟩) (As := [.int x1, .int x2]) (rest := rest) hC hj rfl (c_X1_givesOf (l := ox_l X) (φ := ox_φ X) (D := ox_D X) (cI := ox_I X) (cB := ox_B X) hC.J hj h) gX4_teachDown_X1_givesOf_u120X2 rfl rfl hx_givesOf ⟨Nat.le_of_ble_eq_true rfl, Nat.le_of_ble_eq_true rfl⟩ rfl hst hrm hdg
  | 3, hj, hst, h => r_U (C := RX7) (T := TX7) (N := 0) (owner := "SchoolRow$Child") (x := ⟨"SchoolRow$Child", "givesOf", "(II)I"⟩) (As := [.int x1, .int x2]) (rest := rest) hC hj rfl (c_X1_givesOf (l := ox_l X) (φ := ox_φ X) (D := ox_D X) (cI := ox_I X) (cB := ox_B X) hC.J hj h) gX4_teachDown_X1_givesOf_u120X7 rfl rfl hx_givesOf ⟨Nat.le_of_ble_eq_true rfl, Nat.le_of_ble_eq_true rfl⟩ rfl hst hrm hdg
  | 4, hj, hst, h => r_U (C := RX6) (T := TX6) (N := 0) (owner := "SchoolRow$Child") (x := ⟨"SchoolRow$Child", "givesOf", "(II)I"⟩) (As := [.int x1, .int x2]) (rest := rest) hC hj rfl (c_X1_givesOf (l := ox_l X) (φ := ox_φ X) (D := ox_D X) (cI := ox_I X) (cB := ox_B X) hC.J hj h) gX4_teachDown_X1_givesOf_u120X6 rfl rfl hx_givesOf ⟨Nat.le_of_ble_eq_true rfl, Nat.le_of_ble_eq_true rfl⟩ rfl hst hrm hdg
  | k + 5, hj, _, _ => absurd hj (by omega)
theorem kw_X4_teachDown_1 : Cond.fieldLink RX4 29 "SchoolRow$Row" "school" "LSchoolRow$School;" ∈ wsX4_teachDown := List.mem_of_getElem? (i := 1) (by decide +kernel)
theorem kw_X4_teachDown_2 : Cond.fieldLink RX4 14 "SchoolRow$Row" "seats" "LSchoolRow$Cells;" ∈ wsX4_teachDown := List.mem_of_getElem? (i := 2) (by decide +kernel)
theorem kw_X4_teachDown_3 : Cond.fieldLink RX4 20 "SchoolRow$Row" "parts" "LSchoolRow$Cells;" ∈ wsX4_teachDown := List.mem_of_getElem? (i := 3) (by decide +kernel)
theorem kw_X4_teachDown_4 : Cond.fieldLink RX4 23 "SchoolRow$Row" "mistakes" "LSchoolRow$Cells;" ∈ wsX4_teachDown := List.mem_of_getElem? (i := 4) (by decide +kernel)
theorem ki_X4_teachDown_X4 : ∀ w ∈ wsX40, w ∈ wsX4_teachDown := fun _ h => List.mem_cons_of_mem _ (List.mem_append_left _ (List.mem_append_left _ (List.mem_append_right _ h)))
theorem hd_X4_teachDown : yX4_teachDown.cls = RX4 ∧ yX4_teachDown.cls ≠ "java/lang/invoke/MethodHandle" ∧ yX4_teachDown.cls ≠ "java/lang/invoke/VarHandle" ∧ (parseMethodDescriptor yX4_teachDown.desc).map (fun d => d.parameters.length) = some 2 := by decide +kernel
set_option maxHeartbeats 4000000 in
set_option maxRecDepth 100000 in
theorem wb_X4_teachDown_186 {X : OX} {r : Nat} {post : Int32 → SS → Prop} {K15 : Int32 → Int32 → Int32 → Int32 → Int32 → Int32 → Int32 → SS → Prop} {x1 : Int32} {x2 : Int32} {x3 : Int32} {x4 : Int32} {x5 : Int32} {x6 : Int32} {x7 : Int32} {σ : SS} (hC : o_C X cX4_teachDown RX4 wsX4_teachDown 2 43 12) (hR : o_RI X cX4_teachDown post) (hr : r < 4) (hK15 : ∀ (x1 : Int32) (x2 : Int32) (x3 : Int32) (x4 : Int32) (x5 : Int32) (x6 : Int32) (x7 : Int32) (σ : SS), K15 x1 x2 x3 x4 x5 x6 x7 σ → o_G X σ 15 [(0, .ref (ox_φ X (3, r, 0))), (1, .int x1), (2, .int x2), (3, .int x3), (4, .int x4), (5, .int x5), (6, .int x6), (7, .int x7)] []) (h : VB_X4_teachDown_186 r post K15 x1 x2 x3 x4 x5 x6 x7 σ) : o_G X σ 186 [(0, .ref (ox_φ X (3, r, 0))), (1, .int x1), (2, .int x2), (3, .int x3), (4, .int x4), (5, .int x5), (6, .int x6), (7, .int x7)] [] := by
  unfold VB_X4_teachDown_186 at h
  refine g_iinc (v := (x7 + (1 : Int32))) hC 7 [(7, .int (x7 + (1 : Int32))), (0, .ref (ox_φ X (3, r, 0))), (1, .int x1), (2, .int x2), (3, .int x3), (4, .int x4), (5, .int x5), (6, .int x6)] dX4_teachDown_186 rfl rfl (by decide) rfl ?_
  refine g_goto hC 15 dX4_teachDown_189 (by decide) ?_
  refine g_sub [1, 2, 3, 4, 5, 6, 7, 0] rfl ?_
  exact hK15 _ _ _ _ _ _ _ _ h
set_option maxHeartbeats 4000000 in
set_option maxRecDepth 100000 in
theorem wb_X4_teachDown_181 {X : OX} {r : Nat} {post : Int32 → SS → Prop} {K15 : Int32 → Int32 → Int32 → Int32 → Int32 → Int32 → Int32 → SS → Prop} {x1 : Int32} {x2 : Int32} {x3 : Int32} {x4 : Int32} {x6 : Int32} {x7 : Int32} {t0 : Int32} {t1 : Int32} {jt2 : Nat} {σ : SS} (hC : o_C X cX4_teachDown RX4 wsX4_teachDown 2 43 12) (hR : o_RI X cX4_teachDown post) (hr : r < 4) (hK15 : ∀ (x1 : Int32) (x2 : Int32) (x3 : Int32) (x4 : Int32) (x5 : Int32) (x6 : Int32) (x7 : Int32) (σ : SS), K15 x1 x2 x3 x4 x5 x6 x7 σ → o_G X σ 15 [(0, .ref (ox_φ X (3, r, 0))), (1, .int x1), (2, .int x2), (3, .int x3), (4, .int x4), (5, .int x5), (6, .int x6), (7, .int x7)] []) (hjt2 : jt2 < 5) (h : VB_X4_teachDown_181 r post K15 x1 x2 x3 x4 x6 x7 t0 t1 jt2 σ) : o_G X σ 181 [(0, .ref (ox_φ X (3, r, 0))), (1, .int x1), (2, .int x2), (3, .int x3), (4, .int x4), (6, .int x6), (7, .int x7)] [.int t0, .int t1, .ref (ox_φ X (6, 0, jt2))] := by
  unfold VB_X4_teachDown_181 at h
  refine g_ri (vc_X4_teachDown_givesOf hC hjt2 dX4_teachDown_181 rfl (Nat.le_of_ble_eq_true rfl) h) (fun v181 s181 h => ?_)
  refine g_istore hC [(5, .int v181), (0, .ref (ox_φ X (3, r, 0))), (1, .int x1), (2, .int x2), (3, .int x3), (4, .int x4), (6, .int x6), (7, .int x7)] dX4_teachDown_184 (by decide) rfl ?_
  refine g_sub [1, 2, 3, 4, 5, 0, 6, 7] rfl ?_
  exact wb_X4_teachDown_186 hC hR hr hK15 h
set_option maxHeartbeats 4000000 in
set_option maxRecDepth 100000 in
theorem wb_X4_teachDown_158 {X : OX} {r : Nat} {post : Int32 → SS → Prop} {K15 : Int32 → Int32 → Int32 → Int32 → Int32 → Int32 → Int32 → SS → Prop} {x1 : Int32} {x2 : Int32} {x3 : Int32} {x6 : Int32} {x7 : Int32} {j9 : Nat} {x10 : Int32} {t0 : Int32} {σ : SS} (hC : o_C X cX4_teachDown RX4 wsX4_teachDown 2 43 12) (hR : o_RI X cX4_teachDown post) (hr : r < 4) (hK15 : ∀ (x1 : Int32) (x2 : Int32) (x3 : Int32) (x4 : Int32) (x5 : Int32) (x6 : Int32) (x7 : Int32) (σ : SS), K15 x1 x2 x3 x4 x5 x6 x7 σ → o_G X σ 15 [(0, .ref (ox_φ X (3, r, 0))), (1, .int x1), (2, .int x2), (3, .int x3), (4, .int x4), (5, .int x5), (6, .int x6), (7, .int x7)] []) (hj9 : j9 < 5) (h : VB_X4_teachDown_158 r post K15 x1 x2 x3 x6 x7 j9 x10 t0 σ) : o_G X σ 158 [(0, .ref (ox_φ X (3, r, 0))), (1, .int x1), (2, .int x2), (3, .int x3), (6, .int x6), (7, .int x7), (9, .ref (ox_φ X (6, 0, j9))), (10, .int x10)] [.int t0] := by
  unfold VB_X4_teachDown_158 at h
  refine g_istore hC [(4, .int t0), (0, .ref (ox_φ X (3, r, 0))), (1, .int x1), (2, .int x2), (3, .int x3), (6, .int x6), (7, .int x7), (9, .ref (ox_φ X (6, 0, j9))), (10, .int x10)] dX4_teachDown_158 (by decide) rfl ?_
  refine g_aload hC 7 dX4_teachDown_160 rfl ?_
  refine g_aload_n hC 1 dX4_teachDown_162 rfl rfl ?_
  refine g_get (C := RX4) (T := TX4) (N := 6) (v := .ref (ox_φ X (4, r, 2))) hC (o_in3 r hr) (o_eX4 _ _ _ _ _) rfl ki_X4_teachDown_X4 3 (by decide) kw_X4_teachDown_4 rfl dX4_teachDown_163 ?_
  refine g_iload hC 8 dX4_teachDown_166 rfl ?_
  refine g_ri (r_V (C := RX0) (T := TX0) (N := 1) (As := [.int x10]) (rest := [.ref (ox_φ X (6, 0, j9))]) hC (o_Cl4 r hr 2 (by decide)).1 ((o_Cl4 r hr 2 (by decide)).2.1 _ _ _ _) rfl (c_X0_at (l := ox_l X) (φ := ox_φ X) (D := ox_D X) (cI := ox_I X) (cB := ox_B X) hC.J (o_Cl4 r hr 2 (by decide)) h) gX4_teachDown_X0_at rfl hd_X0_at ⟨Nat.le_of_ble_eq_true rfl, Nat.le_of_ble_eq_true rfl⟩ rfl rfl (Nat.le_of_ble_eq_true rfl) dX4_teachDown_168) (fun v168 s168 h => ?_)
  refine g_iload_n hC 3 dX4_teachDown_171 rfl rfl ?_
  refine g_if_eq hC 179 dX4_teachDown_172 (by decide) (fun z => ?_) (fun z => ?_)
  · have h := h.1 z
    refine g_iload hC 5 dX4_teachDown_179 rfl ?_
    refine g_sub [1, 2, 3, 4, 0, 5, 6] rfl ?_
    exact wb_X4_teachDown_181 hC hR hr hK15 hj9 h
  · have h := h.2 z
    refine g_iconst (v := (0 : Int32)) hC dX4_teachDown_175 (by decide) ?_
    refine g_goto hC 181 dX4_teachDown_176 (by decide) ?_
    refine g_sub [1, 2, 3, 4, 0, 5, 6] rfl ?_
    exact wb_X4_teachDown_181 hC hR hr hK15 hj9 h
set_option maxHeartbeats 4000000 in
set_option maxRecDepth 100000 in
theorem wb_X4_teachDown_115 {X : OX} {r : Nat} {post : Int32 → SS → Prop} {K15 : Int32 → Int32 → Int32 → Int32 → Int32 → Int32 → Int32 → SS → Prop} {x1 : Int32} {x2 : Int32} {x3 : Int32} {x7 : Int32} {x8 : Int32} {j9 : Nat} {x10 : Int32} {σ : SS} (hC : o_C X cX4_teachDown RX4 wsX4_teachDown 2 43 12) (hR : o_RI X cX4_teachDown post) (hr : r < 4) (hK15 : ∀ (x1 : Int32) (x2 : Int32) (x3 : Int32) (x4 : Int32) (x5 : Int32) (x6 : Int32) (x7 : Int32) (σ : SS), K15 x1 x2 x3 x4 x5 x6 x7 σ → o_G X σ 15 [(0, .ref (ox_φ X (3, r, 0))), (1, .int x1), (2, .int x2), (3, .int x3), (4, .int x4), (5, .int x5), (6, .int x6), (7, .int x7)] []) (hj9 : j9 < 5) (h : VB_X4_teachDown_115 r post K15 x1 x2 x3 x7 x8 j9 x10 σ) : o_G X σ 115 [(0, .ref (ox_φ X (3, r, 0))), (1, .int x1), (2, .int x2), (3, .int x3), (7, .int x7), (8, .int x8), (9, .ref (ox_φ X (6, 0, j9))), (10, .int x10)] [] := by
  unfold VB_X4_teachDown_115 at h
  refine g_aload_n hC 0 dX4_teachDown_115 rfl rfl ?_
  refine g_get (C := RX4) (T := TX4) (N := 6) (v := .ref (ox_φ X (4, r, 1))) hC (o_in3 r hr) (o_eX4 _ _ _ _ _) rfl ki_X4_teachDown_X4 2 (by decide) kw_X4_teachDown_3 rfl dX4_teachDown_116 ?_
  refine g_iload hC 7 dX4_teachDown_119 rfl ?_
  refine g_ri (r_V (C := RX0) (T := TX0) (N := 1) (As := [.int x10]) (rest := []) hC (o_Cl4 r hr 1 (by decide)).1 ((o_Cl4 r hr 1 (by decide)).2.1 _ _ _ _) rfl (c_X0_at (l := ox_l X) (φ := ox_φ X) (D := ox_D X) (cI := ox_I X) (cB := ox_B X) hC.J (o_Cl4 r hr 1 (by decide)) h) gX4_teachDown_X0_at rfl hd_X0_at ⟨Nat.le_of_ble_eq_true rfl, Nat.le_of_ble_eq_true rfl⟩ rfl rfl (Nat.le_of_ble_eq_true rfl) dX4_teachDown_121) (fun v121 s121 h => ?_)
  refine g_istore hC [(11, .int v121), (0, .ref (ox_φ X (3, r, 0))), (1, .int x1), (2, .int x2), (3, .int x3), (7, .int x7), (8, .int x8), (9, .ref (ox_φ X (6, 0, j9))), (10, .int x10)] dX4_teachDown_124 (by decide) rfl ?_
  refine g_iconst (v := (1 : Int32)) hC dX4_teachDown_126 (by decide) ?_
  refine g_iload hC 6 dX4_teachDown_127 rfl ?_
  refine g_ishl hC dX4_teachDown_129 ?_
  refine g_topi (fun y130 e130 => ?_)
  have h := h y130 e130
  refine g_istore hC [(6, .int y130), (11, .int v121), (0, .ref (ox_φ X (3, r, 0))), (1, .int x1), (2, .int x2), (3, .int x3), (7, .int x7), (8, .int x8), (9, .ref (ox_φ X (6, 0, j9))), (10, .int x10)] dX4_teachDown_130 (by decide) rfl ?_
  refine g_iload_n hC 4 dX4_teachDown_132 rfl rfl ?_
  refine g_if_eq hC 141 dX4_teachDown_133 (by decide) (fun z => ?_) (fun z => ?_)
  · have h := h.1 z
    refine g_iload hC 1 dX4_teachDown_141 rfl ?_
    refine g_aload hC 8 dX4_teachDown_143 rfl ?_
    refine g_iload hC 1 dX4_teachDown_145 rfl ?_
    refine g_aload_n hC 2 dX4_teachDown_147 rfl rfl ?_
    refine g_get (C := RX4) (T := TX4) (N := 6) (v := .ref (ox_φ X (2, 0, 0))) hC (o_in3 r hr) (o_eX4 _ _ _ _ _) rfl ki_X4_teachDown_X4 0 (by decide) kw_X4_teachDown_1 rfl dX4_teachDown_148 ?_
    refine g_ri (r_V (C := RX5) (T := TX5) (N := 8) (As := []) (rest := [.int v121, .ref (ox_φ X (6, 0, j9)), .int v121]) hC o_iX5 (o_eX5 _ _ _ _) rfl (c_X5_tenthsLost (l := ox_l X) (φ := ox_φ X) (D := ox_D X) (cI := ox_I X) (cB := ox_B X) hC.J  h) gX4_teachDown_X5_tenthsLost rfl hd_X5_tenthsLost ⟨Nat.le_of_ble_eq_true rfl, Nat.le_of_ble_eq_true rfl⟩ rfl rfl (Nat.le_of_ble_eq_true rfl) dX4_teachDown_151) (fun v151 s151 h => ?_)
    refine g_ri (vc_X4_teachDown_losesOf hC hj9 dX4_teachDown_154 rfl (Nat.le_of_ble_eq_true rfl) h) (fun v154 s154 h => ?_)
    refine g_isub hC dX4_teachDown_157 ?_
    refine g_sub [2, 3, 4, 5, 0, 6, 8, 9] rfl ?_
    exact wb_X4_teachDown_158 hC hR hr hK15 hj9 h
  · have h := h.2 z
    refine g_iload hC 1 dX4_teachDown_136 rfl ?_
    refine g_goto hC 158 dX4_teachDown_138 (by decide) ?_
    refine g_sub [2, 3, 4, 5, 0, 6, 8, 9] rfl ?_
    exact wb_X4_teachDown_158 hC hR hr hK15 hj9 h
set_option maxHeartbeats 4000000 in
set_option maxRecDepth 100000 in
theorem wb_X4_teachDown_15 {X : OX} {r : Nat} {post : Int32 → SS → Prop} {K15 : Int32 → Int32 → Int32 → Int32 → Int32 → Int32 → Int32 → SS → Prop} {x1 : Int32} {x2 : Int32} {x3 : Int32} {x4 : Int32} {x5 : Int32} {x6 : Int32} {x7 : Int32} {σ : SS} (hC : o_C X cX4_teachDown RX4 wsX4_teachDown 2 43 12) (hR : o_RI X cX4_teachDown post) (hr : r < 4) (hK15 : ∀ (x1 : Int32) (x2 : Int32) (x3 : Int32) (x4 : Int32) (x5 : Int32) (x6 : Int32) (x7 : Int32) (σ : SS), K15 x1 x2 x3 x4 x5 x6 x7 σ → o_G X σ 15 [(0, .ref (ox_φ X (3, r, 0))), (1, .int x1), (2, .int x2), (3, .int x3), (4, .int x4), (5, .int x5), (6, .int x6), (7, .int x7)] []) (h : VB_X4_teachDown_15 r post K15 x1 x2 x3 x4 x5 x6 x7 σ) : o_G X σ 15 [(0, .ref (ox_φ X (3, r, 0))), (1, .int x1), (2, .int x2), (3, .int x3), (4, .int x4), (5, .int x5), (6, .int x6), (7, .int x7)] [] := by
  unfold VB_X4_teachDown_15 at h
  refine g_iload hC 7 dX4_teachDown_15 rfl ?_
  refine g_aload_n hC 0 dX4_teachDown_17 rfl rfl ?_
  refine g_get (C := RX4) (T := TX4) (N := 6) (v := .ref (ox_φ X (2, 0, 0))) hC (o_in3 r hr) (o_eX4 _ _ _ _ _) rfl ki_X4_teachDown_X4 0 (by decide) kw_X4_teachDown_1 rfl dX4_teachDown_18 ?_
  refine g_ri (r_V (C := RX5) (T := TX5) (N := 8) (As := []) (rest := [.int x7]) hC o_iX5 (o_eX5 _ _ _ _) rfl (c_X5_size (l := ox_l X) (φ := ox_φ X) (D := ox_D X) (cI := ox_I X) (cB := ox_B X) hC.J  h) gX4_teachDown_X5_size rfl hd_X5_size ⟨Nat.le_of_ble_eq_true rfl, Nat.le_of_ble_eq_true rfl⟩ rfl rfl (Nat.le_of_ble_eq_true rfl) dX4_teachDown_21) (fun v21 s21 h => ?_)
  refine g_icmp_ge hC 192 dX4_teachDown_24 (by decide) (fun z => ?_) (fun z => ?_)
  · have h := h.1 z
    refine g_iload_n hC 3 dX4_teachDown_192 rfl rfl ?_
    exact hR _ _ _ _ dX4_teachDown_193 h
  · have h := h.2 z
    refine g_aload_n hC 0 dX4_teachDown_27 rfl rfl ?_
    refine g_get (C := RX4) (T := TX4) (N := 6) (v := .ref (ox_φ X (4, r, 0))) hC (o_in3 r hr) (o_eX4 _ _ _ _ _) rfl ki_X4_teachDown_X4 1 (by decide) kw_X4_teachDown_2 rfl dX4_teachDown_28 ?_
    refine g_iload hC 7 dX4_teachDown_31 rfl ?_
    refine g_ri (r_V (C := RX0) (T := TX0) (N := 1) (As := [.int x7]) (rest := []) hC (o_Cl4 r hr 0 (by decide)).1 ((o_Cl4 r hr 0 (by decide)).2.1 _ _ _ _) rfl (c_X0_at (l := ox_l X) (φ := ox_φ X) (D := ox_D X) (cI := ox_I X) (cB := ox_B X) hC.J (o_Cl4 r hr 0 (by decide)) h) gX4_teachDown_X0_at rfl hd_X0_at ⟨Nat.le_of_ble_eq_true rfl, Nat.le_of_ble_eq_true rfl⟩ rfl rfl (Nat.le_of_ble_eq_true rfl) dX4_teachDown_33) (fun v33 s33 h => ?_)
    refine g_istore hC [(8, .int v33), (0, .ref (ox_φ X (3, r, 0))), (1, .int x1), (2, .int x2), (3, .int x3), (4, .int x4), (5, .int x5), (6, .int x6), (7, .int x7)] dX4_teachDown_36 (by decide) rfl ?_
    refine g_aload_n hC 1 dX4_teachDown_38 rfl rfl ?_
    refine g_iload hC 0 dX4_teachDown_39 rfl ?_
    refine g_ri (r_V (C := RX4) (T := TX4) (N := 6) (As := [.int v33]) (rest := []) hC (o_in3 r hr) (o_eX4 _ _ _ _ _) rfl (c_X4_isIll (l := ox_l X) (φ := ox_φ X) (D := ox_D X) (cI := ox_I X) (cB := ox_B X) hC.J hr h) gX4_teachDown_X4_isIll rfl hd_X4_isIll ⟨Nat.le_of_ble_eq_true rfl, Nat.le_of_ble_eq_true rfl⟩ rfl rfl (Nat.le_of_ble_eq_true rfl) dX4_teachDown_41) (fun v41 s41 h => ?_)
    refine g_if_eq hC 50 dX4_teachDown_44 (by decide) (fun z => ?_) (fun z => ?_)
    · have h := h.1 z
      refine g_aload_n hC 1 dX4_teachDown_50 rfl rfl ?_
      refine g_get (C := RX4) (T := TX4) (N := 6) (v := .ref (ox_φ X (2, 0, 0))) hC (o_in3 r hr) (o_eX4 _ _ _ _ _) rfl ki_X4_teachDown_X4 0 (by decide) kw_X4_teachDown_1 rfl dX4_teachDown_51 ?_
      refine g_iload hC 0 dX4_teachDown_54 rfl ?_
      refine g_rr (r_V (C := RX5) (T := TX5) (N := 8) (As := [.int v33]) (rest := []) hC o_iX5 (o_eX5 _ _ _ _) rfl (c_X5_child (l := ox_l X) (φ := ox_φ X) (D := ox_D X) (cI := ox_I X) (cB := ox_B X) hC.J  h) gX4_teachDown_X5_child rfl hd_X5_child ⟨Nat.le_of_ble_eq_true rfl, Nat.le_of_ble_eq_true rfl⟩ rfl rfl (Nat.le_of_ble_eq_true rfl) dX4_teachDown_56) (fun v56 s56 hj56 h => ?_)
      refine g_astore hC [(9, .ref (ox_φ X (6, 0, v56))), (8, .int v33), (0, .ref (ox_φ X (3, r, 0))), (1, .int x1), (2, .int x2), (3, .int x3), (4, .int x4), (5, .int x5), (6, .int x6), (7, .int x7)] dX4_teachDown_59 (by decide) rfl ?_
      refine g_iload hC 1 dX4_teachDown_61 rfl ?_
      refine g_iload_n hC 3 dX4_teachDown_63 rfl rfl ?_
      refine g_ri (r_S (As := [.int v33, .int x1]) (rest := []) hC (c_X4_slateOf (l := ox_l X) (φ := ox_φ X) (D := ox_D X) (cI := ox_I X) (cB := ox_B X) hC.J  h) gX4_teachDown_X4_slateOf rfl hd_X4_slateOf ⟨Nat.le_of_ble_eq_true rfl, Nat.le_of_ble_eq_true rfl⟩ rfl rfl (Nat.le_of_ble_eq_true rfl) dX4_teachDown_64) (fun v64 s64 h => ?_)
      refine g_istore hC [(10, .int v64), (9, .ref (ox_φ X (6, 0, v56))), (8, .int v33), (0, .ref (ox_φ X (3, r, 0))), (1, .int x1), (2, .int x2), (3, .int x3), (4, .int x4), (5, .int x5), (6, .int x6), (7, .int x7)] dX4_teachDown_67 (by decide) rfl ?_
      refine g_iload hC 7 dX4_teachDown_69 rfl ?_
      refine g_aload_n hC 3 dX4_teachDown_71 rfl rfl ?_
      refine g_get (C := RX4) (T := TX4) (N := 6) (v := .ref (ox_φ X (4, r, 1))) hC (o_in3 r hr) (o_eX4 _ _ _ _ _) rfl ki_X4_teachDown_X4 2 (by decide) kw_X4_teachDown_3 rfl dX4_teachDown_72 ?_
      refine g_iload hC 0 dX4_teachDown_75 rfl ?_
      refine g_ri (r_V (C := RX0) (T := TX0) (N := 1) (As := [.int v64]) (rest := [.int x4]) hC (o_Cl4 r hr 1 (by decide)).1 ((o_Cl4 r hr 1 (by decide)).2.1 _ _ _ _) rfl (c_X0_at (l := ox_l X) (φ := ox_φ X) (D := ox_D X) (cI := ox_I X) (cB := ox_B X) hC.J (o_Cl4 r hr 1 (by decide)) h) gX4_teachDown_X0_at rfl hd_X0_at ⟨Nat.le_of_ble_eq_true rfl, Nat.le_of_ble_eq_true rfl⟩ rfl rfl (Nat.le_of_ble_eq_true rfl) dX4_teachDown_77) (fun v77 s77 h => ?_)
      refine g_icmp_le hC 115 dX4_teachDown_80 (by decide) (fun z => ?_) (fun z => ?_)
      · have h := h.1 z
        refine g_sub [3, 4, 5, 6, 10, 2, 1, 0] rfl ?_
        exact wb_X4_teachDown_115 hC hR hr hK15 hj56 h
      · have h := h.2 z
        refine g_aload_n hC 3 dX4_teachDown_83 rfl rfl ?_
        refine g_get (C := RX4) (T := TX4) (N := 6) (v := .ref (ox_φ X (4, r, 1))) hC (o_in3 r hr) (o_eX4 _ _ _ _ _) rfl ki_X4_teachDown_X4 2 (by decide) kw_X4_teachDown_3 rfl dX4_teachDown_84 ?_
        refine g_iload hC 0 dX4_teachDown_87 rfl ?_
        refine g_iload hC 7 dX4_teachDown_89 rfl ?_
        refine g_rv (r_V (C := RX0) (T := TX0) (N := 1) (As := [.int v64, .int x4]) (rest := []) hC (o_Cl4 r hr 1 (by decide)).1 ((o_Cl4 r hr 1 (by decide)).2.1 _ _ _ _) rfl (c_X0_put (l := ox_l X) (φ := ox_φ X) (D := ox_D X) (cI := ox_I X) (cB := ox_B X) hC.J (o_Cl4 r hr 1 (by decide)) h) gX4_teachDown_X0_put rfl hd_X0_put ⟨Nat.le_of_ble_eq_true rfl, Nat.le_of_ble_eq_true rfl⟩ rfl rfl (Nat.le_of_ble_eq_true rfl) dX4_teachDown_91) (fun s91 h => ?_)
        refine g_aload_n hC 3 dX4_teachDown_94 rfl rfl ?_
        refine g_get (C := RX4) (T := TX4) (N := 6) (v := .ref (ox_φ X (4, r, 2))) hC (o_in3 r hr) (o_eX4 _ _ _ _ _) rfl ki_X4_teachDown_X4 3 (by decide) kw_X4_teachDown_4 rfl dX4_teachDown_95 ?_
        refine g_iload hC 0 dX4_teachDown_98 rfl ?_
        refine g_aload hC 1 dX4_teachDown_100 rfl ?_
        refine g_iload hC 8 dX4_teachDown_102 rfl ?_
        refine g_iload hC 9 dX4_teachDown_104 rfl ?_
        refine g_ri (vc_X4_teachDown_takesOf hC hj56 dX4_teachDown_106 rfl (Nat.le_of_ble_eq_true rfl) h) (fun v106 s106 h => ?_)
        refine g_rv (r_V (C := RX0) (T := TX0) (N := 1) (As := [.int v64, .int v106]) (rest := []) hC (o_Cl4 r hr 2 (by decide)).1 ((o_Cl4 r hr 2 (by decide)).2.1 _ _ _ _) rfl (c_X0_put (l := ox_l X) (φ := ox_φ X) (D := ox_D X) (cI := ox_I X) (cB := ox_B X) hC.J (o_Cl4 r hr 2 (by decide)) h) gX4_teachDown_X0_put rfl hd_X0_put ⟨Nat.le_of_ble_eq_true rfl, Nat.le_of_ble_eq_true rfl⟩ rfl rfl (Nat.le_of_ble_eq_true rfl) dX4_teachDown_109) (fun s109 h => ?_)
        refine g_iinc (v := (x3 + (1 : Int32))) hC 6 [(3, .int (x3 + (1 : Int32))), (10, .int v64), (9, .ref (ox_φ X (6, 0, v56))), (8, .int v33), (0, .ref (ox_φ X (3, r, 0))), (1, .int x1), (2, .int x2), (4, .int x4), (5, .int x5), (6, .int x6), (7, .int x7)] dX4_teachDown_112 rfl rfl (by decide) rfl ?_
        refine g_sub [4, 5, 6, 0, 10, 3, 2, 1] rfl ?_
        exact wb_X4_teachDown_115 hC hR hr hK15 hj56 h
    · have h := h.2 z
      refine g_goto hC 186 dX4_teachDown_47 (by decide) ?_
      refine g_sub [1, 2, 3, 4, 5, 6, 7, 8] rfl ?_
      exact wb_X4_teachDown_186 hC hR hr hK15 h
set_option maxHeartbeats 4000000 in
set_option maxRecDepth 100000 in
theorem lp_X4_teachDown_15 {X : OX} {r : Nat} {post : Int32 → SS → Prop} (hC : o_C X cX4_teachDown RX4 wsX4_teachDown 2 43 12) (hR : o_RI X cX4_teachDown post) (hr : r < 4) : ∀ (n : Nat) (a : Int32 × Int32 × Int32 × Int32 × Int32 × Int32 × Int32) (σ : SS), LP_X4_teachDown_15 r post n a σ → o_G X σ 15 [(0, .ref (ox_φ X (3, r, 0))), (1, .int a.1), (2, .int a.2.1), (3, .int a.2.2.1), (4, .int a.2.2.2.1), (5, .int a.2.2.2.2.1), (6, .int a.2.2.2.2.2.1), (7, .int a.2.2.2.2.2.2)] [] :=
 o_lp_G (fun K hK a σ h => wb_X4_teachDown_15 hC hR hr (fun x1 x2 x3 x4 x5 x6 x7 σ h => hK (x1, x2, x3, x4, x5, x6, x7) σ h) h)
set_option maxHeartbeats 4000000 in
set_option maxRecDepth 100000 in
theorem wv_X4_teachDown {X : OX} {r : Nat} {x1 : Int32} {x2 : Int32} {post : Int32 → SS → Prop} {σ : SS} (hC : o_C X cX4_teachDown RX4 wsX4_teachDown 2 43 12) (hR : o_RI X cX4_teachDown post) (hr : r < 4) (h : V_X4_teachDown r x1 x2 σ post) : o_G X σ 0 [(0, .ref (ox_φ X (3, r, 0))), (1, .int x1), (2, .int x2)] [] := by
  unfold V_X4_teachDown at h
  refine g_iconst (v := (0 : Int32)) hC dX4_teachDown_0 (by decide) ?_
  refine g_istore_n hC [(3, .int (0 : Int32)), (0, .ref (ox_φ X (3, r, 0))), (1, .int x1), (2, .int x2)] dX4_teachDown_1 rfl (by decide) rfl ?_
  refine g_bipush (v := (100 : Int32)) hC dX4_teachDown_2 (by decide) ?_
  refine g_istore hC [(4, .int (100 : Int32)), (3, .int (0 : Int32)), (0, .ref (ox_φ X (3, r, 0))), (1, .int x1), (2, .int x2)] dX4_teachDown_4 (by decide) rfl ?_
  refine g_iconst (v := (0 : Int32)) hC dX4_teachDown_6 (by decide) ?_
  refine g_istore hC [(5, .int (0 : Int32)), (4, .int (100 : Int32)), (3, .int (0 : Int32)), (0, .ref (ox_φ X (3, r, 0))), (1, .int x1), (2, .int x2)] dX4_teachDown_7 (by decide) rfl ?_
  refine g_iconst (v := (0 : Int32)) hC dX4_teachDown_9 (by decide) ?_
  refine g_istore hC [(6, .int (0 : Int32)), (5, .int (0 : Int32)), (4, .int (100 : Int32)), (3, .int (0 : Int32)), (0, .ref (ox_φ X (3, r, 0))), (1, .int x1), (2, .int x2)] dX4_teachDown_10 (by decide) rfl ?_
  refine g_iconst (v := (0 : Int32)) hC dX4_teachDown_12 (by decide) ?_
  refine g_istore hC [(7, .int (0 : Int32)), (6, .int (0 : Int32)), (5, .int (0 : Int32)), (4, .int (100 : Int32)), (3, .int (0 : Int32)), (0, .ref (ox_φ X (3, r, 0))), (1, .int x1), (2, .int x2)] dX4_teachDown_13 (by decide) rfl ?_
  refine g_sub [5, 6, 7, 4, 3, 2, 1, 0] rfl ?_
  obtain ⟨n, h⟩ := h
  exact lp_X4_teachDown_15 hC hR hr n _ _ h
set_option maxRecDepth 100000 in
theorem c_X4_teachDown {l : Launch} {φ : OI → Nat} {D : va_G} {cI cB : ClassId} (hJ : o_J φ) {r : Nat} {x1 : Int32} {x2 : Int32} (hr : r < 4) {σ : SS} {post : Int32 → SS → Prop} (h : V_X4_teachDown r x1 x2 σ post) : o_Mi l φ D cI cB yX4_teachDown wsX4_teachDown 2 43 [.ref (φ (3, r, 0)), .int x1, .int x2] σ post :=
 o_met_i hJ (by decide +kernel) rfl (Nat.le_of_ble_eq_true rfl) (fun p e s m args below meth c Q hC hR => wv_X4_teachDown hC hR hr h)
