theorem kw_X10_sickNow_1 : Cond.fieldLink RX10 79 "SchoolRowModel" "children" "I" ∈ wsX10_sickNow := List.mem_of_getElem? (i := 1) (by decide +kernel)
theorem kw_X10_sickNow_2 : Cond.fieldLink RX10 31 "SchoolRowModel" "onSeat" "[I" ∈ wsX10_sickNow := List.mem_of_getElem? (i := 2) (by decide +kernel)
theorem ki_X10_sickNow_X10 : ∀ w ∈ wsX100, w ∈ wsX10_sickNow := fun _ h => List.mem_cons_of_mem _ (List.mem_append_right _ h)
theorem hd_X10_sickNow : yX10_sickNow.cls = RX10 ∧ yX10_sickNow.cls ≠ "java/lang/invoke/MethodHandle" ∧ yX10_sickNow.cls ≠ "java/lang/invoke/VarHandle" ∧ (parseMethodDescriptor yX10_sickNow.desc).map (fun d => d.parameters.length) = some 1 := by decide +kernel
set_option maxHeartbeats 4000000 in
set_option maxRecDepth 100000 in
theorem wb_X10_sickNow_77 {X : OX} {post : Int32 → SS → Prop} {K49 : Int32 → Int32 → Int32 → Int32 → SS → Prop} {x1 : Int32} {x2 : Int32} {x3 : Int32} {x4 : Int32} {σ : SS} (hC : o_C X cX10_sickNow RX10 wsX10_sickNow 4 101 5) (hR : o_RI X cX10_sickNow post) (hK49 : ∀ (x1 : Int32) (x2 : Int32) (x3 : Int32) (x4 : Int32) (σ : SS), K49 x1 x2 x3 x4 σ → o_G X σ 49 [(0, .ref (ox_φ X (7, 0, 0))), (1, .int x1), (2, .int x2), (3, .int x3), (4, .int x4)] []) (h : VB_X10_sickNow_77 post K49 x1 x2 x3 x4 σ) : o_G X σ 77 [(0, .ref (ox_φ X (7, 0, 0))), (1, .int x1), (2, .int x2), (3, .int x3), (4, .int x4)] [] := by
  unfold VB_X10_sickNow_77 at h
  refine g_iinc (v := (x4 + (1 : Int32))) hC 4 [(4, .int (x4 + (1 : Int32))), (0, .ref (ox_φ X (7, 0, 0))), (1, .int x1), (2, .int x2), (3, .int x3)] dX10_sickNow_77 rfl rfl (by decide) rfl ?_
  refine g_goto hC 49 dX10_sickNow_80 (by decide) ?_
  refine g_sub [1, 2, 3, 4, 0] rfl ?_
  exact hK49 _ _ _ _ _ h
set_option maxHeartbeats 4000000 in
set_option maxRecDepth 100000 in
theorem wb_X10_sickNow_100 {X : OX} {post : Int32 → SS → Prop} {t0 : Int32} {σ : SS} (hC : o_C X cX10_sickNow RX10 wsX10_sickNow 4 101 5) (hR : o_RI X cX10_sickNow post) (h : VB_X10_sickNow_100 post t0 σ) : o_G X σ 100 [] [.int t0] := by
  unfold VB_X10_sickNow_100 at h
  exact hR _ _ _ _ dX10_sickNow_100 h
set_option maxHeartbeats 4000000 in
set_option maxRecDepth 100000 in
theorem wb_X10_sickNow_49 {X : OX} {post : Int32 → SS → Prop} {K49 : Int32 → Int32 → Int32 → Int32 → SS → Prop} {x1 : Int32} {x2 : Int32} {x3 : Int32} {x4 : Int32} {σ : SS} (hC : o_C X cX10_sickNow RX10 wsX10_sickNow 4 101 5) (hR : o_RI X cX10_sickNow post) (hK49 : ∀ (x1 : Int32) (x2 : Int32) (x3 : Int32) (x4 : Int32) (σ : SS), K49 x1 x2 x3 x4 σ → o_G X σ 49 [(0, .ref (ox_φ X (7, 0, 0))), (1, .int x1), (2, .int x2), (3, .int x3), (4, .int x4)] []) (h : VB_X10_sickNow_49 post K49 x1 x2 x3 x4 σ) : o_G X σ 49 [(0, .ref (ox_φ X (7, 0, 0))), (1, .int x1), (2, .int x2), (3, .int x3), (4, .int x4)] [] := by
  unfold VB_X10_sickNow_49 at h
  refine g_iload hC 4 dX10_sickNow_49 rfl ?_
  refine g_iconst (v := (1 : Int32)) hC dX10_sickNow_51 (by decide) ?_
  refine g_aload_n hC 0 dX10_sickNow_52 rfl rfl ?_
  refine g_get (C := RX10) (T := TX10) (N := 25) (v := .int (σ.1 (7, 0, 0) 4)) hC o_iX10 (o_eX10 _ _ _ _) rfl ki_X10_sickNow_X10 4 (by decide) kw_X10_sickNow_1 rfl dX10_sickNow_53 ?_
  refine g_ishl hC dX10_sickNow_56 ?_
  refine g_icmp_ge hC 83 dX10_sickNow_57 (by decide) (fun z => ?_) (fun z => ?_)
  · have h := h.1 z
    refine g_iload_n hC 1 dX10_sickNow_83 rfl rfl ?_
    refine g_if_ne hC 91 dX10_sickNow_84 (by decide) (fun z => ?_) (fun z => ?_)
    · have h := h.1 z
      refine g_iload_n hC 2 dX10_sickNow_91 rfl rfl ?_
      refine g_if_ne hC 99 dX10_sickNow_92 (by decide) (fun z => ?_) (fun z => ?_)
      · have h := h.1 z
        refine g_iload_n hC 3 dX10_sickNow_99 rfl rfl ?_
        refine g_sub [] rfl ?_
        exact wb_X10_sickNow_100 hC hR h
      · have h := h.2 z
        refine g_iconst (v := (0 : Int32)) hC dX10_sickNow_95 (by decide) ?_
        refine g_goto hC 100 dX10_sickNow_96 (by decide) ?_
        refine g_sub [] rfl ?_
        exact wb_X10_sickNow_100 hC hR h
    · have h := h.2 z
      refine g_iload_n hC 2 dX10_sickNow_87 rfl rfl ?_
      refine g_goto hC 100 dX10_sickNow_88 (by decide) ?_
      refine g_sub [] rfl ?_
      exact wb_X10_sickNow_100 hC hR h
  · have h := h.2 z
    refine g_aload_n hC 0 dX10_sickNow_60 rfl rfl ?_
    refine g_iload hC 4 dX10_sickNow_61 rfl ?_
    refine g_ri (r_V (C := RX10) (T := TX10) (N := 25) (As := [.int x4]) (rest := []) hC o_iX10 (o_eX10 _ _ _ _) rfl (c_X10_isSickSo (l := ox_l X) (φ := ox_φ X) (D := ox_D X) (cI := ox_I X) (cB := ox_B X) hC.J  h) gX10_sickNow_X10_isSickSo rfl hd_X10_isSickSo ⟨Nat.le_of_ble_eq_true rfl, Nat.le_of_ble_eq_true rfl⟩ rfl rfl (Nat.le_of_ble_eq_true rfl) dX10_sickNow_63) (fun v63 s63 h => ?_)
    refine g_if_eq hC 77 dX10_sickNow_66 (by decide) (fun z => ?_) (fun z => ?_)
    · have h := h.1 z
      exact wb_X10_sickNow_77 hC hR hK49 h
    · have h := h.2 z
      refine g_iinc (v := (x2 + (1 : Int32))) hC 2 [(2, .int (x2 + (1 : Int32))), (0, .ref (ox_φ X (7, 0, 0))), (1, .int x1), (3, .int x3), (4, .int x4)] dX10_sickNow_69 rfl rfl (by decide) rfl ?_
      refine g_iload_n hC 3 dX10_sickNow_72 rfl rfl ?_
      refine g_iload hC 4 dX10_sickNow_73 rfl ?_
      refine g_iand hC dX10_sickNow_75 ?_
      refine g_istore_n hC [(3, .int (x3 &&& x4)), (2, .int (x2 + (1 : Int32))), (0, .ref (ox_φ X (7, 0, 0))), (1, .int x1), (4, .int x4)] dX10_sickNow_76 rfl (by decide) rfl ?_
      refine g_sub [2, 3, 1, 0, 4] rfl ?_
      exact wb_X10_sickNow_77 hC hR hK49 h
set_option maxHeartbeats 4000000 in
set_option maxRecDepth 100000 in
theorem lp_X10_sickNow_49 {X : OX} {post : Int32 → SS → Prop} (hC : o_C X cX10_sickNow RX10 wsX10_sickNow 4 101 5) (hR : o_RI X cX10_sickNow post) : ∀ (n : Nat) (a : Int32 × Int32 × Int32 × Int32) (σ : SS), LP_X10_sickNow_49 post n a σ → o_G X σ 49 [(0, .ref (ox_φ X (7, 0, 0))), (1, .int a.1), (2, .int a.2.1), (3, .int a.2.2.1), (4, .int a.2.2.2)] [] :=
 o_lp_G (fun K hK a σ h => wb_X10_sickNow_49 hC hR (fun x1 x2 x3 x4 σ h => hK (x1, x2, x3, x4) σ h) h)
set_option maxHeartbeats 4000000 in
set_option maxRecDepth 100000 in
theorem wb_X10_sickNow_14 {X : OX} {post : Int32 → SS → Prop} {K14 : Int32 → Int32 → Int32 → Int32 → SS → Prop} {x1 : Int32} {x2 : Int32} {x3 : Int32} {x4 : Int32} {σ : SS} (hC : o_C X cX10_sickNow RX10 wsX10_sickNow 4 101 5) (hR : o_RI X cX10_sickNow post) (hK14 : ∀ (x1 : Int32) (x2 : Int32) (x3 : Int32) (x4 : Int32) (σ : SS), K14 x1 x2 x3 x4 σ → o_G X σ 14 [(0, .ref (ox_φ X (7, 0, 0))), (1, .int x1), (2, .int x2), (3, .int x3), (4, .int x4)] []) (h : VB_X10_sickNow_14 post K14 x1 x2 x3 x4 σ) : o_G X σ 14 [(0, .ref (ox_φ X (7, 0, 0))), (1, .int x1), (2, .int x2), (3, .int x3), (4, .int x4)] [] := by
  unfold VB_X10_sickNow_14 at h
  refine g_iload hC 4 dX10_sickNow_14 rfl ?_
  refine g_aload_n hC 0 dX10_sickNow_16 rfl rfl ?_
  refine g_get (C := RX10) (T := TX10) (N := 25) (v := .int (σ.1 (7, 0, 0) 4)) hC o_iX10 (o_eX10 _ _ _ _) rfl ki_X10_sickNow_X10 4 (by decide) kw_X10_sickNow_1 rfl dX10_sickNow_17 ?_
  refine g_icmp_ge hC 46 dX10_sickNow_20 (by decide) (fun z => ?_) (fun z => ?_)
  · have h := h.1 z
    refine g_iconst (v := (0 : Int32)) hC dX10_sickNow_46 (by decide) ?_
    refine g_istore hC [(4, .int (0 : Int32)), (0, .ref (ox_φ X (7, 0, 0))), (1, .int x1), (2, .int x2), (3, .int x3)] dX10_sickNow_47 (by decide) rfl ?_
    refine g_sub [1, 2, 3, 4, 0] rfl ?_
    obtain ⟨n, h⟩ := h
    exact lp_X10_sickNow_49 hC hR n _ _ h
  · have h := h.2 z
    refine g_aload_n hC 0 dX10_sickNow_23 rfl rfl ?_
    refine g_get (C := RX10) (T := TX10) (N := 25) (v := .ref (ox_φ X (8, 0, 7))) hC o_iX10 (o_eX10 _ _ _ _) rfl ki_X10_sickNow_X10 11 (by decide) kw_X10_sickNow_2 rfl dX10_sickNow_24 ?_
    refine g_bipush (v := (6 : Int32)) hC dX10_sickNow_27 (by decide) ?_
    refine g_iload hC 4 dX10_sickNow_29 rfl ?_
    refine g_iadd hC dX10_sickNow_31 ?_
    refine g_aload_n hC 0 dX10_sickNow_32 rfl rfl ?_
    refine g_get (C := RX10) (T := TX10) (N := 25) (v := .ref (ox_φ X (8, 0, 7))) hC o_iX10 (o_eX10 _ _ _ _) rfl ki_X10_sickNow_X10 11 (by decide) kw_X10_sickNow_2 rfl dX10_sickNow_33 ?_
    refine g_iload hC 4 dX10_sickNow_36 rfl ?_
    refine g_iald hC o_M7 h.1 dX10_sickNow_38 ?_
    have h := h.2
    refine g_iast hC o_M7 h.1 dX10_sickNow_39 ?_
    have h := h.2
    refine g_iinc (v := (x4 + (1 : Int32))) hC 4 [(4, .int (x4 + (1 : Int32))), (0, .ref (ox_φ X (7, 0, 0))), (1, .int x1), (2, .int x2), (3, .int x3)] dX10_sickNow_40 rfl rfl (by decide) rfl ?_
    refine g_goto hC 14 dX10_sickNow_43 (by decide) ?_
    refine g_sub [1, 2, 3, 4, 0] rfl ?_
    exact hK14 _ _ _ _ _ h
set_option maxHeartbeats 4000000 in
set_option maxRecDepth 100000 in
theorem lp_X10_sickNow_14 {X : OX} {post : Int32 → SS → Prop} (hC : o_C X cX10_sickNow RX10 wsX10_sickNow 4 101 5) (hR : o_RI X cX10_sickNow post) : ∀ (n : Nat) (a : Int32 × Int32 × Int32 × Int32) (σ : SS), LP_X10_sickNow_14 post n a σ → o_G X σ 14 [(0, .ref (ox_φ X (7, 0, 0))), (1, .int a.1), (2, .int a.2.1), (3, .int a.2.2.1), (4, .int a.2.2.2)] [] :=
 o_lp_G (fun K hK a σ h => wb_X10_sickNow_14 hC hR (fun x1 x2 x3 x4 σ h => hK (x1, x2, x3, x4) σ h) h)
set_option maxHeartbeats 4000000 in
set_option maxRecDepth 100000 in
theorem wv_X10_sickNow {X : OX} {x1 : Int32} {post : Int32 → SS → Prop} {σ : SS} (hC : o_C X cX10_sickNow RX10 wsX10_sickNow 4 101 5) (hR : o_RI X cX10_sickNow post) (h : V_X10_sickNow x1 σ post) : o_G X σ 0 [(0, .ref (ox_φ X (7, 0, 0))), (1, .int x1)] [] := by
  unfold V_X10_sickNow at h
  refine g_iconst (v := (0 : Int32)) hC dX10_sickNow_0 (by decide) ?_
  refine g_istore_n hC [(2, .int (0 : Int32)), (0, .ref (ox_φ X (7, 0, 0))), (1, .int x1)] dX10_sickNow_1 rfl (by decide) rfl ?_
  refine g_iconst (v := (1 : Int32)) hC dX10_sickNow_2 (by decide) ?_
  refine g_aload_n hC 1 dX10_sickNow_3 rfl rfl ?_
  refine g_get (C := RX10) (T := TX10) (N := 25) (v := .int (σ.1 (7, 0, 0) 4)) hC o_iX10 (o_eX10 _ _ _ _) rfl ki_X10_sickNow_X10 4 (by decide) kw_X10_sickNow_1 rfl dX10_sickNow_4 ?_
  refine g_ishl hC dX10_sickNow_7 ?_
  refine g_iconst (v := (1 : Int32)) hC dX10_sickNow_8 (by decide) ?_
  refine g_isub hC dX10_sickNow_9 ?_
  refine g_topi (fun y10 e10 => ?_)
  have h := h y10 e10
  refine g_istore_n hC [(3, .int y10), (2, .int (0 : Int32)), (0, .ref (ox_φ X (7, 0, 0))), (1, .int x1)] dX10_sickNow_10 rfl (by decide) rfl ?_
  refine g_iconst (v := (0 : Int32)) hC dX10_sickNow_11 (by decide) ?_
  refine g_istore hC [(4, .int (0 : Int32)), (3, .int y10), (2, .int (0 : Int32)), (0, .ref (ox_φ X (7, 0, 0))), (1, .int x1)] dX10_sickNow_12 (by decide) rfl ?_
  refine g_sub [3, 4, 2, 1, 0] rfl ?_
  obtain ⟨n, h⟩ := h
  exact lp_X10_sickNow_14 hC hR n _ _ h
set_option maxRecDepth 100000 in
theorem c_X10_sickNow {l : Launch} {φ : OI → Nat} {D : va_G} {cI cB : ClassId} (hJ : o_J φ) {x1 : Int32} {σ : SS} {post : Int32 → SS → Prop} (h : V_X10_sickNow x1 σ post) : o_Mi l φ D cI cB yX10_sickNow wsX10_sickNow 4 101 [.ref (φ (7, 0, 0)), .int x1] σ post :=
 o_met_i hJ (by decide +kernel) rfl (Nat.le_of_ble_eq_true rfl) (fun p e s m args below meth c Q hC hR => wv_X10_sickNow hC hR h)
theorem kw_X10_sick_1 : Cond.fieldLink RX10 79 "SchoolRowModel" "children" "I" ∈ wsX10_sick := List.mem_of_getElem? (i := 1) (by decide +kernel)
theorem ki_X10_sick_X10 : ∀ w ∈ wsX100, w ∈ wsX10_sick := fun _ h => List.mem_cons_of_mem _ (List.mem_append_right _ h)
theorem hd_X10_sick : yX10_sick.cls = RX10 ∧ yX10_sick.cls ≠ "java/lang/invoke/MethodHandle" ∧ yX10_sick.cls ≠ "java/lang/invoke/VarHandle" ∧ (parseMethodDescriptor yX10_sick.desc).map (fun d => d.parameters.length) = some 1 := by decide +kernel
set_option maxHeartbeats 4000000 in
set_option maxRecDepth 100000 in
theorem wb_X10_sick_29 {X : OX} {post : Int32 → SS → Prop} {t0 : Int32} {σ : SS} (hC : o_C X cX10_sick RX10 wsX10_sick 5 125 2) (hR : o_RI X cX10_sick post) (h : VB_X10_sick_29 post t0 σ) : o_G X σ 29 [] [.int t0] := by
  unfold VB_X10_sick_29 at h
  exact hR _ _ _ _ dX10_sick_29 h
set_option maxHeartbeats 4000000 in
set_option maxRecDepth 100000 in
theorem wv_X10_sick {X : OX} {x1 : Int32} {post : Int32 → SS → Prop} {σ : SS} (hC : o_C X cX10_sick RX10 wsX10_sick 5 125 2) (hR : o_RI X cX10_sick post) (h : V_X10_sick x1 σ post) : o_G X σ 0 [(0, .ref (ox_φ X (7, 0, 0))), (1, .int x1)] [] := by
  unfold V_X10_sick at h
  refine g_iload_n hC 1 dX10_sick_0 rfl rfl ?_
  refine g_iconst (v := (0 : Int32)) hC dX10_sick_1 (by decide) ?_
  refine g_iconst (v := (1 : Int32)) hC dX10_sick_2 (by decide) ?_
  refine g_ri (r_S (As := [.int x1, .int (0 : Int32), .int (1 : Int32)]) (rest := []) hC (c_X10_within (l := ox_l X) (φ := ox_φ X) (D := ox_D X) (cI := ox_I X) (cB := ox_B X) hC.J  h) gX10_sick_X10_within rfl hd_X10_within ⟨Nat.le_of_ble_eq_true rfl, Nat.le_of_ble_eq_true rfl⟩ rfl rfl (Nat.le_of_ble_eq_true rfl) dX10_sick_3) (fun v3 s3 h => ?_)
  refine g_if_ne hC 12 dX10_sick_6 (by decide) (fun z => ?_) (fun z => ?_)
  · have h := h.1 z
    refine g_aload_n hC 0 dX10_sick_12 rfl rfl ?_
    refine g_get (C := RX10) (T := TX10) (N := 25) (v := .int (s3.1 (7, 0, 0) 4)) hC o_iX10 (o_eX10 _ _ _ _) rfl ki_X10_sick_X10 4 (by decide) kw_X10_sick_1 rfl dX10_sick_13 ?_
    refine g_if_ne hC 24 dX10_sick_16 (by decide) (fun z => ?_) (fun z => ?_)
    · have h := h.1 z
      refine g_aload_n hC 0 dX10_sick_24 rfl rfl ?_
      refine g_iload_n hC 1 dX10_sick_25 rfl rfl ?_
      refine g_ri (r_V (C := RX10) (T := TX10) (N := 25) (As := [.int x1]) (rest := []) hC o_iX10 (o_eX10 _ _ _ _) rfl (c_X10_sickNow (l := ox_l X) (φ := ox_φ X) (D := ox_D X) (cI := ox_I X) (cB := ox_B X) hC.J  h) gX10_sick_X10_sickNow rfl hd_X10_sickNow ⟨Nat.le_of_ble_eq_true rfl, Nat.le_of_ble_eq_true rfl⟩ rfl rfl (Nat.le_of_ble_eq_true rfl) dX10_sick_26) (fun v26 s26 h => ?_)
      refine g_sub [] rfl ?_
      exact wb_X10_sick_29 hC hR h
    · have h := h.2 z
      refine g_bipush (v := (-103 : Int32)) hC dX10_sick_19 (by decide) ?_
      refine g_goto hC 29 dX10_sick_21 (by decide) ?_
      refine g_sub [] rfl ?_
      exact wb_X10_sick_29 hC hR h
  · have h := h.2 z
    refine g_bipush (v := (-102 : Int32)) hC dX10_sick_9 (by decide) ?_
    exact hR _ _ _ _ dX10_sick_11 h
set_option maxRecDepth 100000 in
theorem c_X10_sick {l : Launch} {φ : OI → Nat} {D : va_G} {cI cB : ClassId} (hJ : o_J φ) {x1 : Int32} {σ : SS} {post : Int32 → SS → Prop} (h : V_X10_sick x1 σ post) : o_Mi l φ D cI cB yX10_sick wsX10_sick 5 125 [.ref (φ (7, 0, 0)), .int x1] σ post :=
 o_met_i hJ (by decide +kernel) rfl (Nat.le_of_ble_eq_true rfl) (fun p e s m args below meth c Q hC hR => wv_X10_sick hC hR h)
theorem kw_X10_draw_1 : Cond.constantLong RX10 175 (1103515245) ∈ wsX10_draw := List.mem_of_getElem? (i := 1) (by decide +kernel)
theorem kw_X10_draw_2 : Cond.fieldLink RX10 177 "SchoolRowModel" "seedNow" "J" ∈ wsX10_draw := List.mem_of_getElem? (i := 2) (by decide +kernel)
theorem kw_X10_draw_3 : Cond.constantLong RX10 181 (12345) ∈ wsX10_draw := List.mem_of_getElem? (i := 3) (by decide +kernel)
theorem kw_X10_draw_4 : Cond.constantLong RX10 183 (2147483647) ∈ wsX10_draw := List.mem_of_getElem? (i := 4) (by decide +kernel)
theorem kw_X10_draw_5 : Cond.constantLong RX10 185 (65536) ∈ wsX10_draw := List.mem_of_getElem? (i := 5) (by decide +kernel)
theorem ki_X10_draw_X10 : ∀ w ∈ wsX100, w ∈ wsX10_draw := fun _ h => List.mem_cons_of_mem _ (List.mem_append_right _ h)
theorem hd_X10_draw : yX10_draw.cls = RX10 ∧ yX10_draw.cls ≠ "java/lang/invoke/MethodHandle" ∧ yX10_draw.cls ≠ "java/lang/invoke/VarHandle" ∧ (parseMethodDescriptor yX10_draw.desc).map (fun d => d.parameters.length) = some 1 := by decide +kernel
set_option maxHeartbeats 4000000 in
set_option maxRecDepth 100000 in
theorem wv_X10_draw {X : OX} {x1 : Int32} {post : Int32 → SS → Prop} {σ : SS} (hC : o_C X cX10_draw RX10 wsX10_draw 0 0 2) (hR : o_RI X cX10_draw post) (h : V_X10_draw x1 σ post) : o_G X σ 0 [(0, .ref (ox_φ X (7, 0, 0))), (1, .int x1)] [] := by
  unfold V_X10_draw at h
  refine g_aload_n hC 0 dX10_draw_0 rfl rfl ?_
  refine g_ldc2 hC kw_X10_draw_1 dX10_draw_1 ?_
  refine g_aload_n hC 0 dX10_draw_4 rfl rfl ?_
  refine g_get (C := RX10) (T := TX10) (N := 25) (v := .long (σ.2 16)) hC o_iX10 (o_eX10 _ _ _ _) rfl ki_X10_draw_X10 16 (by decide) kw_X10_draw_2 rfl dX10_draw_5 ?_
  refine g_lmul hC dX10_draw_8 ?_
  refine g_ldc2 hC kw_X10_draw_3 dX10_draw_9 ?_
  refine g_ladd hC dX10_draw_12 ?_
  refine g_ldc2 hC kw_X10_draw_4 dX10_draw_13 ?_
  refine g_land hC dX10_draw_16 ?_
  refine g_putl (C := RX10) (T := TX10) (N := 25) hC (o_eX10 _ _ _ _) rfl ki_X10_draw_X10 tyX10_ok nmX10 16 (by decide) kw_X10_draw_2 rfl rfl rfl (Nat.le_of_ble_eq_true rfl) (o_pX10_16 _ _ _ _ _) dX10_draw_17 ?_
  refine g_aload_n hC 0 dX10_draw_20 rfl rfl ?_
  refine g_get (C := RX10) (T := TX10) (N := 25) (v := .long ((o_wl8 σ 16 ((((1103515245 : Int64) * (σ.2 16)) + (12345 : Int64)) &&& (2147483647 : Int64))).2 16)) hC o_iX10 (o_eX10 _ _ _ _) rfl ki_X10_draw_X10 16 (by decide) kw_X10_draw_2 rfl dX10_draw_21 ?_
  refine g_ldc2 hC kw_X10_draw_5 dX10_draw_24 ?_
  refine g_ldiv hC (by decide) dX10_draw_27 ?_
  refine g_iload_n hC 1 dX10_draw_28 rfl rfl ?_
  refine g_i2l hC dX10_draw_29 ?_
  refine g_lrem hC h.1 dX10_draw_30 ?_
  have h := h.2
  refine g_l2i hC dX10_draw_31 ?_
  exact hR _ _ _ _ dX10_draw_32 h
set_option maxRecDepth 100000 in
theorem c_X10_draw {l : Launch} {φ : OI → Nat} {D : va_G} {cI cB : ClassId} (hJ : o_J φ) {x1 : Int32} {σ : SS} {post : Int32 → SS → Prop} (h : V_X10_draw x1 σ post) : o_Mi l φ D cI cB yX10_draw wsX10_draw 0 0 [.ref (φ (7, 0, 0)), .int x1] σ post :=
 o_met_i hJ (by decide +kernel) rfl (Nat.le_of_ble_eq_true rfl) (fun p e s m args below meth c Q hC hR => wv_X10_draw hC hR h)
theorem kw_X10_goYear_1 : Cond.fieldLink RX10 79 "SchoolRowModel" "children" "I" ∈ wsX10_goYear := List.mem_of_getElem? (i := 1) (by decide +kernel)
theorem kw_X10_goYear_2 : Cond.fieldLink RX10 31 "SchoolRowModel" "onSeat" "[I" ∈ wsX10_goYear := List.mem_of_getElem? (i := 2) (by decide +kernel)
theorem ki_X10_goYear_X10 : ∀ w ∈ wsX100, w ∈ wsX10_goYear := fun _ h => List.mem_cons_of_mem _ (List.mem_append_right _ h)
theorem hd_X10_goYear : yX10_goYear.cls = RX10 ∧ yX10_goYear.cls ≠ "java/lang/invoke/MethodHandle" ∧ yX10_goYear.cls ≠ "java/lang/invoke/VarHandle" ∧ (parseMethodDescriptor yX10_goYear.desc).map (fun d => d.parameters.length) = some 0 := by decide +kernel
set_option maxHeartbeats 4000000 in
set_option maxRecDepth 100000 in
theorem wb_X10_goYear_103 {X : OX} {post : SS → Prop} {σ : SS} (hC : o_C X cX10_goYear RX10 wsX10_goYear 3 77 5) (hR : o_RV X cX10_goYear post) (h : VB_X10_goYear_103 post σ) : o_G X σ 103 [] [] := by
  unfold VB_X10_goYear_103 at h
  exact hR _ _ _ dX10_goYear_103 h
set_option maxHeartbeats 4000000 in
set_option maxRecDepth 100000 in
theorem wv_X10_goYear {X : OX} {post : SS → Prop} {σ : SS} (hC : o_C X cX10_goYear RX10 wsX10_goYear 3 77 5) (hR : o_RV X cX10_goYear post) (h : V_X10_goYear σ post) : o_G X σ 0 [(0, .ref (ox_φ X (7, 0, 0)))] [] := by
  unfold V_X10_goYear at h
  refine g_aload_n hC 0 dX10_goYear_0 rfl rfl ?_
  refine g_bipush (v := (6 : Int32)) hC dX10_goYear_1 (by decide) ?_
  refine g_ri (r_V (C := RX10) (T := TX10) (N := 25) (As := [.int (6 : Int32)]) (rest := []) hC o_iX10 (o_eX10 _ _ _ _) rfl (c_X10_draw (l := ox_l X) (φ := ox_φ X) (D := ox_D X) (cI := ox_I X) (cB := ox_B X) hC.J  h) gX10_goYear_X10_draw rfl hd_X10_draw ⟨Nat.le_of_ble_eq_true rfl, Nat.le_of_ble_eq_true rfl⟩ rfl rfl (Nat.le_of_ble_eq_true rfl) dX10_goYear_3) (fun v3 s3 h => ?_)
  refine g_istore_n hC [(1, .int v3), (0, .ref (ox_φ X (7, 0, 0)))] dX10_goYear_6 rfl (by decide) rfl ?_
  refine g_iload_n hC 0 dX10_goYear_7 rfl rfl ?_
  refine g_iconst (v := (4 : Int32)) hC dX10_goYear_8 (by decide) ?_
  refine g_icmp_ge hC 30 dX10_goYear_9 (by decide) (fun z => ?_) (fun z => ?_)
  · have h := h.1 z
    refine g_iload_n hC 0 dX10_goYear_30 rfl rfl ?_
    refine g_iconst (v := (4 : Int32)) hC dX10_goYear_31 (by decide) ?_
    refine g_icmp_ne hC 45 dX10_goYear_32 (by decide) (fun z => ?_) (fun z => ?_)
    · have h := h.1 z
      refine g_aload_n hC 1 dX10_goYear_45 rfl rfl ?_
      refine g_aload_n hC 1 dX10_goYear_46 rfl rfl ?_
      refine g_get (C := RX10) (T := TX10) (N := 25) (v := .int (s3.1 (7, 0, 0) 4)) hC o_iX10 (o_eX10 _ _ _ _) rfl ki_X10_goYear_X10 4 (by decide) kw_X10_goYear_1 rfl dX10_goYear_47 ?_
      refine g_ri (r_V (C := RX10) (T := TX10) (N := 25) (As := [.int (s3.1 (7, 0, 0) 4)]) (rest := []) hC o_iX10 (o_eX10 _ _ _ _) rfl (c_X10_draw (l := ox_l X) (φ := ox_φ X) (D := ox_D X) (cI := ox_I X) (cB := ox_B X) hC.J  h) gX10_goYear_X10_draw rfl hd_X10_draw ⟨Nat.le_of_ble_eq_true rfl, Nat.le_of_ble_eq_true rfl⟩ rfl rfl (Nat.le_of_ble_eq_true rfl) dX10_goYear_50) (fun v50 s50 h => ?_)
      refine g_istore_n hC [(2, .int v50), (1, .int v3), (0, .ref (ox_φ X (7, 0, 0)))] dX10_goYear_53 rfl (by decide) rfl ?_
      refine g_aload_n hC 2 dX10_goYear_54 rfl rfl ?_
      refine g_aload_n hC 2 dX10_goYear_55 rfl rfl ?_
      refine g_get (C := RX10) (T := TX10) (N := 25) (v := .int (s50.1 (7, 0, 0) 4)) hC o_iX10 (o_eX10 _ _ _ _) rfl ki_X10_goYear_X10 4 (by decide) kw_X10_goYear_1 rfl dX10_goYear_56 ?_
      refine g_ri (r_V (C := RX10) (T := TX10) (N := 25) (As := [.int (s50.1 (7, 0, 0) 4)]) (rest := []) hC o_iX10 (o_eX10 _ _ _ _) rfl (c_X10_draw (l := ox_l X) (φ := ox_φ X) (D := ox_D X) (cI := ox_I X) (cB := ox_B X) hC.J  h) gX10_goYear_X10_draw rfl hd_X10_draw ⟨Nat.le_of_ble_eq_true rfl, Nat.le_of_ble_eq_true rfl⟩ rfl rfl (Nat.le_of_ble_eq_true rfl) dX10_goYear_59) (fun v59 s59 h => ?_)
      refine g_istore_n hC [(3, .int v59), (2, .int v50), (1, .int v3), (0, .ref (ox_φ X (7, 0, 0)))] dX10_goYear_62 rfl (by decide) rfl ?_
      refine g_aload_n hC 3 dX10_goYear_63 rfl rfl ?_
      refine g_get (C := RX10) (T := TX10) (N := 25) (v := .ref (ox_φ X (8, 0, 7))) hC o_iX10 (o_eX10 _ _ _ _) rfl ki_X10_goYear_X10 11 (by decide) kw_X10_goYear_2 rfl dX10_goYear_64 ?_
      refine g_bipush (v := (6 : Int32)) hC dX10_goYear_67 (by decide) ?_
      refine g_iload_n hC 1 dX10_goYear_69 rfl rfl ?_
      refine g_iadd hC dX10_goYear_70 ?_
      refine g_iald hC o_M7 h.1 dX10_goYear_71 ?_
      have h := h.2
      refine g_topi (fun y72 e72 => ?_)
      have h := h y72 e72
      refine g_istore hC [(4, .int y72), (3, .int v59), (2, .int v50), (1, .int v3), (0, .ref (ox_φ X (7, 0, 0)))] dX10_goYear_72 (by decide) rfl ?_
      refine g_aload_n hC 4 dX10_goYear_74 rfl rfl ?_
      refine g_get (C := RX10) (T := TX10) (N := 25) (v := .ref (ox_φ X (8, 0, 7))) hC o_iX10 (o_eX10 _ _ _ _) rfl ki_X10_goYear_X10 11 (by decide) kw_X10_goYear_2 rfl dX10_goYear_75 ?_
      refine g_bipush (v := (6 : Int32)) hC dX10_goYear_78 (by decide) ?_
      refine g_iload_n hC 2 dX10_goYear_80 rfl rfl ?_
      refine g_iadd hC dX10_goYear_81 ?_
      refine g_aload_n hC 4 dX10_goYear_82 rfl rfl ?_
      refine g_get (C := RX10) (T := TX10) (N := 25) (v := .ref (ox_φ X (8, 0, 7))) hC o_iX10 (o_eX10 _ _ _ _) rfl ki_X10_goYear_X10 11 (by decide) kw_X10_goYear_2 rfl dX10_goYear_83 ?_
      refine g_bipush (v := (6 : Int32)) hC dX10_goYear_86 (by decide) ?_
      refine g_iload_n hC 1 dX10_goYear_88 rfl rfl ?_
      refine g_iadd hC dX10_goYear_89 ?_
      refine g_iald hC o_M7 h.1 dX10_goYear_90 ?_
      have h := h.2
      refine g_iast hC o_M7 h.1 dX10_goYear_91 ?_
      have h := h.2
      refine g_aload_n hC 4 dX10_goYear_92 rfl rfl ?_
      refine g_get (C := RX10) (T := TX10) (N := 25) (v := .ref (ox_φ X (8, 0, 7))) hC o_iX10 (o_eX10 _ _ _ _) rfl ki_X10_goYear_X10 11 (by decide) kw_X10_goYear_2 rfl dX10_goYear_93 ?_
      refine g_bipush (v := (6 : Int32)) hC dX10_goYear_96 (by decide) ?_
      refine g_iload_n hC 1 dX10_goYear_98 rfl rfl ?_
      refine g_iadd hC dX10_goYear_99 ?_
      refine g_iload hC 0 dX10_goYear_100 rfl ?_
      refine g_iast hC o_M7 h.1 dX10_goYear_102 ?_
      have h := h.2
      refine g_sub [] rfl ?_
      exact wb_X10_goYear_103 hC hR h
    · have h := h.2 z
      refine g_aload_n hC 1 dX10_goYear_35 rfl rfl ?_
      refine g_bipush (v := (24 : Int32)) hC dX10_goYear_36 (by decide) ?_
      refine g_ri (r_V (C := RX10) (T := TX10) (N := 25) (As := [.int (24 : Int32)]) (rest := []) hC o_iX10 (o_eX10 _ _ _ _) rfl (c_X10_goSummer (l := ox_l X) (φ := ox_φ X) (D := ox_D X) (cI := ox_I X) (cB := ox_B X) hC.J  h) gX10_goYear_X10_goSummer rfl hd_X10_goSummer ⟨Nat.le_of_ble_eq_true rfl, Nat.le_of_ble_eq_true rfl⟩ rfl rfl (Nat.le_of_ble_eq_true rfl) dX10_goYear_38) (fun v38 s38 h => ?_)
      refine g_pop hC dX10_goYear_41 rfl ?_
      refine g_goto hC 103 dX10_goYear_42 (by decide) ?_
      refine g_sub [] rfl ?_
      exact wb_X10_goYear_103 hC hR h
  · have h := h.2 z
    refine g_aload_n hC 1 dX10_goYear_12 rfl rfl ?_
    refine g_bipush (v := (24 : Int32)) hC dX10_goYear_13 (by decide) ?_
    refine g_bipush (v := (6 : Int32)) hC dX10_goYear_15 (by decide) ?_
    refine g_iload_n hC 0 dX10_goYear_17 rfl rfl ?_
    refine g_iconst (v := (0 : Int32)) hC dX10_goYear_18 (by decide) ?_
    refine g_aload_n hC 1 dX10_goYear_19 rfl rfl ?_
    refine g_ri (r_V (C := RX10) (T := TX10) (N := 25) (As := []) (rest := [.int (0 : Int32), .int v3, .int (6 : Int32), .int (24 : Int32), .ref (ox_φ X (7, 0, 0))]) hC o_iX10 (o_eX10 _ _ _ _) rfl (c_X10_illSet (l := ox_l X) (φ := ox_φ X) (D := ox_D X) (cI := ox_I X) (cB := ox_B X) hC.J  h) gX10_goYear_X10_illSet rfl hd_X10_illSet ⟨Nat.le_of_ble_eq_true rfl, Nat.le_of_ble_eq_true rfl⟩ rfl rfl (Nat.le_of_ble_eq_true rfl) dX10_goYear_20) (fun v20 s20 h => ?_)
    refine g_ri (r_V (C := RX10) (T := TX10) (N := 25) (As := [.int (24 : Int32), .int (6 : Int32), .int v3, .int (0 : Int32), .int v20]) (rest := []) hC o_iX10 (o_eX10 _ _ _ _) rfl (c_X10_teach (l := ox_l X) (φ := ox_φ X) (D := ox_D X) (cI := ox_I X) (cB := ox_B X) hC.J  h) gX10_goYear_X10_teach rfl hd_X10_teach ⟨Nat.le_of_ble_eq_true rfl, Nat.le_of_ble_eq_true rfl⟩ rfl rfl (Nat.le_of_ble_eq_true rfl) dX10_goYear_23) (fun v23 s23 h => ?_)
    refine g_pop hC dX10_goYear_26 rfl ?_
    refine g_goto hC 103 dX10_goYear_27 (by decide) ?_
    refine g_sub [] rfl ?_
    exact wb_X10_goYear_103 hC hR h
set_option maxRecDepth 100000 in
theorem c_X10_goYear {l : Launch} {φ : OI → Nat} {D : va_G} {cI cB : ClassId} (hJ : o_J φ) {σ : SS} {post : SS → Prop} (h : V_X10_goYear σ post) : o_Mv l φ D cI cB yX10_goYear wsX10_goYear 3 77 [.ref (φ (7, 0, 0))] σ post :=
 o_met_v hJ (by decide +kernel) rfl (Nat.le_of_ble_eq_true rfl) (fun p e s m args below meth c Q hC hR => wv_X10_goYear hC hR h)
theorem kw_X10_yearsNow_1 : Cond.fieldLink RX10 79 "SchoolRowModel" "children" "I" ∈ wsX10_yearsNow := List.mem_of_getElem? (i := 1) (by decide +kernel)
theorem kw_X10_yearsNow_2 : Cond.fieldLink RX10 31 "SchoolRowModel" "onSeat" "[I" ∈ wsX10_yearsNow := List.mem_of_getElem? (i := 2) (by decide +kernel)
theorem kw_X10_yearsNow_3 : Cond.fieldLink RX10 177 "SchoolRowModel" "seedNow" "J" ∈ wsX10_yearsNow := List.mem_of_getElem? (i := 3) (by decide +kernel)
theorem ki_X10_yearsNow_X10 : ∀ w ∈ wsX100, w ∈ wsX10_yearsNow := fun _ h => List.mem_cons_of_mem _ (List.mem_append_right _ h)
theorem hd_X10_yearsNow : yX10_yearsNow.cls = RX10 ∧ yX10_yearsNow.cls ≠ "java/lang/invoke/MethodHandle" ∧ yX10_yearsNow.cls ≠ "java/lang/invoke/VarHandle" ∧ (parseMethodDescriptor yX10_yearsNow.desc).map (fun d => d.parameters.length) = some 3 := by decide +kernel
set_option maxHeartbeats 4000000 in
set_option maxRecDepth 100000 in
theorem wb_X10_yearsNow_96 {X : OX} {post : Int32 → SS → Prop} {t0 : Int32} {σ : SS} (hC : o_C X cX10_yearsNow RX10 wsX10_yearsNow 4 101 5) (hR : o_RI X cX10_yearsNow post) (h : VB_X10_yearsNow_96 post t0 σ) : o_G X σ 96 [] [.int t0] := by
  unfold VB_X10_yearsNow_96 at h
  exact hR _ _ _ _ dX10_yearsNow_96 h
set_option maxHeartbeats 4000000 in
set_option maxRecDepth 100000 in
theorem wb_X10_yearsNow_48 {X : OX} {post : Int32 → SS → Prop} {K48 : Int32 → Int32 → Int32 → SS → Prop} {x1 : Int32} {x3 : Int32} {x4 : Int32} {σ : SS} (hC : o_C X cX10_yearsNow RX10 wsX10_yearsNow 4 101 5) (hR : o_RI X cX10_yearsNow post) (hK48 : ∀ (x1 : Int32) (x3 : Int32) (x4 : Int32) (σ : SS), K48 x1 x3 x4 σ → o_G X σ 48 [(0, .ref (ox_φ X (7, 0, 0))), (1, .int x1), (3, .int x3), (4, .int x4)] []) (h : VB_X10_yearsNow_48 post K48 x1 x3 x4 σ) : o_G X σ 48 [(0, .ref (ox_φ X (7, 0, 0))), (1, .int x1), (3, .int x3), (4, .int x4)] [] := by
  unfold VB_X10_yearsNow_48 at h
  refine g_iload hC 3 dX10_yearsNow_48 rfl ?_
  refine g_iload_n hC 1 dX10_yearsNow_50 rfl rfl ?_
  refine g_icmp_ge hC 64 dX10_yearsNow_51 (by decide) (fun z => ?_) (fun z => ?_)
  · have h := h.1 z
    refine g_iload_n hC 2 dX10_yearsNow_64 rfl rfl ?_
    refine g_if_ne hC 77 dX10_yearsNow_65 (by decide) (fun z => ?_) (fun z => ?_)
    · have h := h.1 z
      refine g_iload_n hC 2 dX10_yearsNow_77 rfl rfl ?_
      refine g_iconst (v := (1 : Int32)) hC dX10_yearsNow_78 (by decide) ?_
      refine g_icmp_ne hC 91 dX10_yearsNow_79 (by decide) (fun z => ?_) (fun z => ?_)
      · have h := h.1 z
        refine g_aload_n hC 0 dX10_yearsNow_91 rfl rfl ?_
        refine g_get (C := RX10) (T := TX10) (N := 25) (v := .long (σ.2 16)) hC o_iX10 (o_eX10 _ _ _ _) rfl ki_X10_yearsNow_X10 16 (by decide) kw_X10_yearsNow_3 rfl dX10_yearsNow_92 ?_
        refine g_l2i hC dX10_yearsNow_95 ?_
        refine g_sub [] rfl ?_
        exact wb_X10_yearsNow_96 hC hR h
      · have h := h.2 z
        refine g_aload_n hC 0 dX10_yearsNow_82 rfl rfl ?_
        refine g_bipush (v := (24 : Int32)) hC dX10_yearsNow_83 (by decide) ?_
        refine g_ri (r_V (C := RX10) (T := TX10) (N := 25) (As := [.int (24 : Int32)]) (rest := []) hC o_iX10 (o_eX10 _ _ _ _) rfl (c_X10_allWrong (l := ox_l X) (φ := ox_φ X) (D := ox_D X) (cI := ox_I X) (cB := ox_B X) hC.J  h) gX10_yearsNow_X10_allWrong rfl hd_X10_allWrong ⟨Nat.le_of_ble_eq_true rfl, Nat.le_of_ble_eq_true rfl⟩ rfl rfl (Nat.le_of_ble_eq_true rfl) dX10_yearsNow_85) (fun v85 s85 h => ?_)
        refine g_goto hC 96 dX10_yearsNow_88 (by decide) ?_
        refine g_sub [] rfl ?_
        exact wb_X10_yearsNow_96 hC hR h
    · have h := h.2 z
      refine g_aload_n hC 0 dX10_yearsNow_68 rfl rfl ?_
      refine g_bipush (v := (24 : Int32)) hC dX10_yearsNow_69 (by decide) ?_
      refine g_ri (r_V (C := RX10) (T := TX10) (N := 25) (As := [.int (24 : Int32)]) (rest := []) hC o_iX10 (o_eX10 _ _ _ _) rfl (c_X10_allParts (l := ox_l X) (φ := ox_φ X) (D := ox_D X) (cI := ox_I X) (cB := ox_B X) hC.J  h) gX10_yearsNow_X10_allParts rfl hd_X10_allParts ⟨Nat.le_of_ble_eq_true rfl, Nat.le_of_ble_eq_true rfl⟩ rfl rfl (Nat.le_of_ble_eq_true rfl) dX10_yearsNow_71) (fun v71 s71 h => ?_)
      refine g_goto hC 96 dX10_yearsNow_74 (by decide) ?_
      refine g_sub [] rfl ?_
      exact wb_X10_yearsNow_96 hC hR h
  · have h := h.2 z
    refine g_aload_n hC 0 dX10_yearsNow_54 rfl rfl ?_
    refine g_rv (r_V (C := RX10) (T := TX10) (N := 25) (As := []) (rest := []) hC o_iX10 (o_eX10 _ _ _ _) rfl (c_X10_goYear (l := ox_l X) (φ := ox_φ X) (D := ox_D X) (cI := ox_I X) (cB := ox_B X) hC.J  h) gX10_yearsNow_X10_goYear rfl hd_X10_goYear ⟨Nat.le_of_ble_eq_true rfl, Nat.le_of_ble_eq_true rfl⟩ rfl rfl (Nat.le_of_ble_eq_true rfl) dX10_yearsNow_55) (fun s55 h => ?_)
    refine g_iinc (v := (x4 + (1 : Int32))) hC 3 [(4, .int (x4 + (1 : Int32))), (0, .ref (ox_φ X (7, 0, 0))), (1, .int x1), (3, .int x3)] dX10_yearsNow_58 rfl rfl (by decide) rfl ?_
    refine g_goto hC 48 dX10_yearsNow_61 (by decide) ?_
    refine g_sub [1, 2, 3, 0] rfl ?_
    exact hK48 _ _ _ _ h
set_option maxHeartbeats 4000000 in
set_option maxRecDepth 100000 in
theorem lp_X10_yearsNow_48 {X : OX} {post : Int32 → SS → Prop} (hC : o_C X cX10_yearsNow RX10 wsX10_yearsNow 4 101 5) (hR : o_RI X cX10_yearsNow post) : ∀ (n : Nat) (a : Int32 × Int32 × Int32) (σ : SS), LP_X10_yearsNow_48 post n a σ → o_G X σ 48 [(0, .ref (ox_φ X (7, 0, 0))), (1, .int a.1), (3, .int a.2.1), (4, .int a.2.2)] [] :=
 o_lp_G (fun K hK a σ h => wb_X10_yearsNow_48 hC hR (fun x1 x3 x4 σ h => hK (x1, x3, x4) σ h) h)
set_option maxHeartbeats 4000000 in
set_option maxRecDepth 100000 in
theorem wb_X10_yearsNow_7 {X : OX} {post : Int32 → SS → Prop} {K7 : Int32 → Int32 → Int32 → Int32 → SS → Prop} {x1 : Int32} {x2 : Int32} {x3 : Int32} {x4 : Int32} {σ : SS} (hC : o_C X cX10_yearsNow RX10 wsX10_yearsNow 4 101 5) (hR : o_RI X cX10_yearsNow post) (hK7 : ∀ (x1 : Int32) (x2 : Int32) (x3 : Int32) (x4 : Int32) (σ : SS), K7 x1 x2 x3 x4 σ → o_G X σ 7 [(0, .ref (ox_φ X (7, 0, 0))), (1, .int x1), (2, .int x2), (3, .int x3), (4, .int x4)] []) (h : VB_X10_yearsNow_7 post K7 x1 x2 x3 x4 σ) : o_G X σ 7 [(0, .ref (ox_φ X (7, 0, 0))), (1, .int x1), (2, .int x2), (3, .int x3), (4, .int x4)] [] := by
  unfold VB_X10_yearsNow_7 at h
  refine g_iload hC 4 dX10_yearsNow_7 rfl ?_
  refine g_aload_n hC 0 dX10_yearsNow_9 rfl rfl ?_
  refine g_get (C := RX10) (T := TX10) (N := 25) (v := .int (σ.1 (7, 0, 0) 4)) hC o_iX10 (o_eX10 _ _ _ _) rfl ki_X10_yearsNow_X10 4 (by decide) kw_X10_yearsNow_1 rfl dX10_yearsNow_10 ?_
  refine g_icmp_ge hC 39 dX10_yearsNow_13 (by decide) (fun z => ?_) (fun z => ?_)
  · have h := h.1 z
    refine g_aload_n hC 0 dX10_yearsNow_39 rfl rfl ?_
    refine g_iload_n hC 2 dX10_yearsNow_40 rfl rfl ?_
    refine g_i2l hC dX10_yearsNow_41 ?_
    refine g_putl (C := RX10) (T := TX10) (N := 25) hC (o_eX10 _ _ _ _) rfl ki_X10_yearsNow_X10 tyX10_ok nmX10 16 (by decide) kw_X10_yearsNow_3 rfl rfl rfl (Nat.le_of_ble_eq_true rfl) (o_pX10_16 _ _ _ _ _) dX10_yearsNow_42 ?_
    refine g_iconst (v := (0 : Int32)) hC dX10_yearsNow_45 (by decide) ?_
    refine g_istore hC [(4, .int (0 : Int32)), (0, .ref (ox_φ X (7, 0, 0))), (1, .int x1), (2, .int x2), (3, .int x3)] dX10_yearsNow_46 (by decide) rfl ?_
    refine g_sub [1, 2, 4, 0] rfl ?_
    obtain ⟨n, h⟩ := h
    exact lp_X10_yearsNow_48 hC hR n _ _ h
  · have h := h.2 z
    refine g_aload_n hC 0 dX10_yearsNow_16 rfl rfl ?_
    refine g_get (C := RX10) (T := TX10) (N := 25) (v := .ref (ox_φ X (8, 0, 7))) hC o_iX10 (o_eX10 _ _ _ _) rfl ki_X10_yearsNow_X10 11 (by decide) kw_X10_yearsNow_2 rfl dX10_yearsNow_17 ?_
    refine g_bipush (v := (6 : Int32)) hC dX10_yearsNow_20 (by decide) ?_
    refine g_iload hC 4 dX10_yearsNow_22 rfl ?_
    refine g_iadd hC dX10_yearsNow_24 ?_
    refine g_aload_n hC 0 dX10_yearsNow_25 rfl rfl ?_
    refine g_get (C := RX10) (T := TX10) (N := 25) (v := .ref (ox_φ X (8, 0, 7))) hC o_iX10 (o_eX10 _ _ _ _) rfl ki_X10_yearsNow_X10 11 (by decide) kw_X10_yearsNow_2 rfl dX10_yearsNow_26 ?_
    refine g_iload hC 4 dX10_yearsNow_29 rfl ?_
    refine g_iald hC o_M7 h.1 dX10_yearsNow_31 ?_
    have h := h.2
    refine g_iast hC o_M7 h.1 dX10_yearsNow_32 ?_
    have h := h.2
    refine g_iinc (v := (x4 + (1 : Int32))) hC 4 [(4, .int (x4 + (1 : Int32))), (0, .ref (ox_φ X (7, 0, 0))), (1, .int x1), (2, .int x2), (3, .int x3)] dX10_yearsNow_33 rfl rfl (by decide) rfl ?_
    refine g_goto hC 7 dX10_yearsNow_36 (by decide) ?_
    refine g_sub [1, 2, 3, 4, 0] rfl ?_
    exact hK7 _ _ _ _ _ h
set_option maxHeartbeats 4000000 in
set_option maxRecDepth 100000 in
theorem lp_X10_yearsNow_7 {X : OX} {post : Int32 → SS → Prop} (hC : o_C X cX10_yearsNow RX10 wsX10_yearsNow 4 101 5) (hR : o_RI X cX10_yearsNow post) : ∀ (n : Nat) (a : Int32 × Int32 × Int32 × Int32) (σ : SS), LP_X10_yearsNow_7 post n a σ → o_G X σ 7 [(0, .ref (ox_φ X (7, 0, 0))), (1, .int a.1), (2, .int a.2.1), (3, .int a.2.2.1), (4, .int a.2.2.2)] [] :=
 o_lp_G (fun K hK a σ h => wb_X10_yearsNow_7 hC hR (fun x1 x2 x3 x4 σ h => hK (x1, x2, x3, x4) σ h) h)
set_option maxHeartbeats 4000000 in
set_option maxRecDepth 100000 in
theorem wv_X10_yearsNow {X : OX} {x1 : Int32} {x2 : Int32} {x3 : Int32} {post : Int32 → SS → Prop} {σ : SS} (hC : o_C X cX10_yearsNow RX10 wsX10_yearsNow 4 101 5) (hR : o_RI X cX10_yearsNow post) (h : V_X10_yearsNow x1 x2 x3 σ post) : o_G X σ 0 [(0, .ref (ox_φ X (7, 0, 0))), (1, .int x1), (2, .int x2), (3, .int x3)] [] := by
  unfold V_X10_yearsNow at h
  refine g_aload_n hC 0 dX10_yearsNow_0 rfl rfl ?_
  refine g_rv (r_V (C := RX10) (T := TX10) (N := 25) (As := []) (rest := []) hC o_iX10 (o_eX10 _ _ _ _) rfl (c_X10_copy (l := ox_l X) (φ := ox_φ X) (D := ox_D X) (cI := ox_I X) (cB := ox_B X) hC.J  h) gX10_yearsNow_X10_copy rfl hd_X10_copy ⟨Nat.le_of_ble_eq_true rfl, Nat.le_of_ble_eq_true rfl⟩ rfl rfl (Nat.le_of_ble_eq_true rfl) dX10_yearsNow_1) (fun s1 h => ?_)
  refine g_iconst (v := (0 : Int32)) hC dX10_yearsNow_4 (by decide) ?_
  refine g_istore hC [(4, .int (0 : Int32)), (0, .ref (ox_φ X (7, 0, 0))), (1, .int x1), (2, .int x2), (3, .int x3)] dX10_yearsNow_5 (by decide) rfl ?_
  refine g_sub [1, 2, 3, 4, 0] rfl ?_
  obtain ⟨n, h⟩ := h
  exact lp_X10_yearsNow_7 hC hR n _ _ h
set_option maxRecDepth 100000 in
theorem c_X10_yearsNow {l : Launch} {φ : OI → Nat} {D : va_G} {cI cB : ClassId} (hJ : o_J φ) {x1 : Int32} {x2 : Int32} {x3 : Int32} {σ : SS} {post : Int32 → SS → Prop} (h : V_X10_yearsNow x1 x2 x3 σ post) : o_Mi l φ D cI cB yX10_yearsNow wsX10_yearsNow 4 101 [.ref (φ (7, 0, 0)), .int x1, .int x2, .int x3] σ post :=
 o_met_i hJ (by decide +kernel) rfl (Nat.le_of_ble_eq_true rfl) (fun p e s m args below meth c Q hC hR => wv_X10_yearsNow hC hR h)
theorem kw_X10_years_1 : Cond.fieldLink RX10 79 "SchoolRowModel" "children" "I" ∈ wsX10_years := List.mem_of_getElem? (i := 1) (by decide +kernel)
theorem ki_X10_years_X10 : ∀ w ∈ wsX100, w ∈ wsX10_years := fun _ h => List.mem_cons_of_mem _ (List.mem_append_right _ h)
theorem hd_X10_years : yX10_years.cls = RX10 ∧ yX10_years.cls ≠ "java/lang/invoke/MethodHandle" ∧ yX10_years.cls ≠ "java/lang/invoke/VarHandle" ∧ (parseMethodDescriptor yX10_years.desc).map (fun d => d.parameters.length) = some 3 := by decide +kernel
set_option maxHeartbeats 4000000 in
set_option maxRecDepth 100000 in
theorem wb_X10_years_23 {X : OX} {post : Int32 → SS → Prop} {σ : SS} (hC : o_C X cX10_years RX10 wsX10_years 5 125 4) (hR : o_RI X cX10_years post) (h : VB_X10_years_23 post σ) : o_G X σ 23 [] [] := by
  unfold VB_X10_years_23 at h
  refine g_bipush (v := (-102 : Int32)) hC dX10_years_23 (by decide) ?_
  exact hR _ _ _ _ dX10_years_25 h
set_option maxHeartbeats 4000000 in
set_option maxRecDepth 100000 in
theorem wb_X10_years_45 {X : OX} {post : Int32 → SS → Prop} {t0 : Int32} {σ : SS} (hC : o_C X cX10_years RX10 wsX10_years 5 125 4) (hR : o_RI X cX10_years post) (h : VB_X10_years_45 post t0 σ) : o_G X σ 45 [] [.int t0] := by
  unfold VB_X10_years_45 at h
  exact hR _ _ _ _ dX10_years_45 h
set_option maxHeartbeats 4000000 in
set_option maxRecDepth 100000 in
theorem wv_X10_years {X : OX} {x1 : Int32} {x2 : Int32} {x3 : Int32} {post : Int32 → SS → Prop} {σ : SS} (hC : o_C X cX10_years RX10 wsX10_years 5 125 4) (hR : o_RI X cX10_years post) (h : V_X10_years x1 x2 x3 σ post) : o_G X σ 0 [(0, .ref (ox_φ X (7, 0, 0))), (1, .int x1), (2, .int x2), (3, .int x3)] [] := by
  unfold V_X10_years at h
  refine g_iload_n hC 1 dX10_years_0 rfl rfl ?_
  refine g_iconst (v := (1 : Int32)) hC dX10_years_1 (by decide) ?_
  refine g_bipush (v := (60 : Int32)) hC dX10_years_2 (by decide) ?_
  refine g_ri (r_S (As := [.int x1, .int (1 : Int32), .int (60 : Int32)]) (rest := []) hC (c_X10_within (l := ox_l X) (φ := ox_φ X) (D := ox_D X) (cI := ox_I X) (cB := ox_B X) hC.J  h) gX10_years_X10_within rfl hd_X10_within ⟨Nat.le_of_ble_eq_true rfl, Nat.le_of_ble_eq_true rfl⟩ rfl rfl (Nat.le_of_ble_eq_true rfl) dX10_years_4) (fun v4 s4 h => ?_)
  refine g_if_eq hC 23 dX10_years_7 (by decide) (fun z => ?_) (fun z => ?_)
  · have h := h.1 z
    refine g_sub [] rfl ?_
    exact wb_X10_years_23 hC hR h
  · have h := h.2 z
    refine g_iload_n hC 2 dX10_years_10 rfl rfl ?_
    refine g_if_lt hC 23 dX10_years_11 (by decide) (fun z => ?_) (fun z => ?_)
    · have h := h.1 z
      refine g_sub [] rfl ?_
      exact wb_X10_years_23 hC hR h
    · have h := h.2 z
      refine g_iload_n hC 3 dX10_years_14 rfl rfl ?_
      refine g_iconst (v := (0 : Int32)) hC dX10_years_15 (by decide) ?_
      refine g_iconst (v := (2 : Int32)) hC dX10_years_16 (by decide) ?_
      refine g_ri (r_S (As := [.int x3, .int (0 : Int32), .int (2 : Int32)]) (rest := []) hC (c_X10_within (l := ox_l X) (φ := ox_φ X) (D := ox_D X) (cI := ox_I X) (cB := ox_B X) hC.J  h) gX10_years_X10_within rfl hd_X10_within ⟨Nat.le_of_ble_eq_true rfl, Nat.le_of_ble_eq_true rfl⟩ rfl rfl (Nat.le_of_ble_eq_true rfl) dX10_years_17) (fun v17 s17 h => ?_)
      refine g_if_ne hC 26 dX10_years_20 (by decide) (fun z => ?_) (fun z => ?_)
      · have h := h.1 z
        refine g_aload_n hC 0 dX10_years_26 rfl rfl ?_
        refine g_get (C := RX10) (T := TX10) (N := 25) (v := .int (s17.1 (7, 0, 0) 4)) hC o_iX10 (o_eX10 _ _ _ _) rfl ki_X10_years_X10 4 (by decide) kw_X10_years_1 rfl dX10_years_27 ?_
        refine g_if_ne hC 38 dX10_years_30 (by decide) (fun z => ?_) (fun z => ?_)
        · have h := h.1 z
          refine g_aload_n hC 0 dX10_years_38 rfl rfl ?_
          refine g_iload_n hC 1 dX10_years_39 rfl rfl ?_
          refine g_iload_n hC 2 dX10_years_40 rfl rfl ?_
          refine g_iload_n hC 3 dX10_years_41 rfl rfl ?_
          refine g_ri (r_V (C := RX10) (T := TX10) (N := 25) (As := [.int x1, .int x2, .int x3]) (rest := []) hC o_iX10 (o_eX10 _ _ _ _) rfl (c_X10_yearsNow (l := ox_l X) (φ := ox_φ X) (D := ox_D X) (cI := ox_I X) (cB := ox_B X) hC.J  h) gX10_years_X10_yearsNow rfl hd_X10_yearsNow ⟨Nat.le_of_ble_eq_true rfl, Nat.le_of_ble_eq_true rfl⟩ rfl rfl (Nat.le_of_ble_eq_true rfl) dX10_years_42) (fun v42 s42 h => ?_)
          refine g_sub [] rfl ?_
          exact wb_X10_years_45 hC hR h
        · have h := h.2 z
          refine g_bipush (v := (-103 : Int32)) hC dX10_years_33 (by decide) ?_
          refine g_goto hC 45 dX10_years_35 (by decide) ?_
          refine g_sub [] rfl ?_
          exact wb_X10_years_45 hC hR h
      · have h := h.2 z
        refine g_sub [] rfl ?_
        exact wb_X10_years_23 hC hR h
set_option maxRecDepth 100000 in
theorem c_X10_years {l : Launch} {φ : OI → Nat} {D : va_G} {cI cB : ClassId} (hJ : o_J φ) {x1 : Int32} {x2 : Int32} {x3 : Int32} {σ : SS} {post : Int32 → SS → Prop} (h : V_X10_years x1 x2 x3 σ post) : o_Mi l φ D cI cB yX10_years wsX10_years 5 125 [.ref (φ (7, 0, 0)), .int x1, .int x2, .int x3] σ post :=
 o_met_i hJ (by decide +kernel) rfl (Nat.le_of_ble_eq_true rfl) (fun p e s m args below meth c Q hC hR => wv_X10_years hC hR h)
theorem kw_X10_image_1 : Cond.fieldLink RX10 79 "SchoolRowModel" "children" "I" ∈ wsX10_image := List.mem_of_getElem? (i := 1) (by decide +kernel)
theorem kw_X10_image_2 : Cond.fieldLink RX10 199 "SchoolRowModel" "isKept" "Z" ∈ wsX10_image := List.mem_of_getElem? (i := 2) (by decide +kernel)
theorem kw_X10_image_3 : Cond.fieldLink RX10 82 "SchoolRowModel" "schools" "I" ∈ wsX10_image := List.mem_of_getElem? (i := 3) (by decide +kernel)
theorem kw_X10_image_4 : Cond.fieldLink RX10 203 "SchoolRowModel" "keptSchool" "I" ∈ wsX10_image := List.mem_of_getElem? (i := 4) (by decide +kernel)
theorem kw_X10_image_5 : Cond.fieldLink RX10 38 "SchoolRowModel" "keptSeat" "[I" ∈ wsX10_image := List.mem_of_getElem? (i := 5) (by decide +kernel)
theorem kw_X10_image_6 : Cond.fieldLink RX10 16 "SchoolRowModel" "seatOf" "[I" ∈ wsX10_image := List.mem_of_getElem? (i := 6) (by decide +kernel)
theorem kw_X10_image_7 : Cond.fieldLink RX10 41 "SchoolRowModel" "keptIll" "[I" ∈ wsX10_image := List.mem_of_getElem? (i := 7) (by decide +kernel)
theorem kw_X10_image_8 : Cond.fieldLink RX10 19 "SchoolRowModel" "illOf" "[I" ∈ wsX10_image := List.mem_of_getElem? (i := 8) (by decide +kernel)
theorem kw_X10_image_9 : Cond.fieldLink RX10 44 "SchoolRowModel" "keptTold" "[I" ∈ wsX10_image := List.mem_of_getElem? (i := 9) (by decide +kernel)
theorem kw_X10_image_10 : Cond.fieldLink RX10 22 "SchoolRowModel" "toldOf" "[I" ∈ wsX10_image := List.mem_of_getElem? (i := 10) (by decide +kernel)
theorem kw_X10_image_11 : Cond.fieldLink RX10 47 "SchoolRowModel" "keptParts" "[I" ∈ wsX10_image := List.mem_of_getElem? (i := 11) (by decide +kernel)
theorem kw_X10_image_12 : Cond.fieldLink RX10 25 "SchoolRowModel" "partsOf" "[I" ∈ wsX10_image := List.mem_of_getElem? (i := 12) (by decide +kernel)
theorem kw_X10_image_13 : Cond.fieldLink RX10 50 "SchoolRowModel" "keptWrong" "[I" ∈ wsX10_image := List.mem_of_getElem? (i := 13) (by decide +kernel)
theorem kw_X10_image_14 : Cond.fieldLink RX10 28 "SchoolRowModel" "wrongOf" "[I" ∈ wsX10_image := List.mem_of_getElem? (i := 14) (by decide +kernel)
theorem ki_X10_image_X10 : ∀ w ∈ wsX100, w ∈ wsX10_image := fun _ h => List.mem_cons_of_mem _ (List.mem_append_right _ h)
theorem hd_X10_image : yX10_image.cls = RX10 ∧ yX10_image.cls ≠ "java/lang/invoke/MethodHandle" ∧ yX10_image.cls ≠ "java/lang/invoke/VarHandle" ∧ (parseMethodDescriptor yX10_image.desc).map (fun d => d.parameters.length) = some 0 := by decide +kernel
set_option maxHeartbeats 4000000 in
set_option maxRecDepth 100000 in
theorem wb_X10_image_75 {X : OX} {post : Int32 → SS → Prop} {K75 : Int32 → SS → Prop} {x1 : Int32} {σ : SS} (hC : o_C X cX10_image RX10 wsX10_image 0 0 2) (hR : o_RI X cX10_image post) (hK75 : ∀ (x1 : Int32) (σ : SS), K75 x1 σ → o_G X σ 75 [(0, .ref (ox_φ X (7, 0, 0))), (1, .int x1)] []) (h : VB_X10_image_75 post K75 x1 σ) : o_G X σ 75 [(0, .ref (ox_φ X (7, 0, 0))), (1, .int x1)] [] := by
  unfold VB_X10_image_75 at h
  refine g_iload_n hC 1 dX10_image_75 rfl rfl ?_
  refine g_bipush (v := (24 : Int32)) hC dX10_image_76 (by decide) ?_
  refine g_icmp_ge hC 111 dX10_image_78 (by decide) (fun z => ?_) (fun z => ?_)
  · have h := h.1 z
    refine g_aload_n hC 0 dX10_image_111 rfl rfl ?_
    refine g_get (C := RX10) (T := TX10) (N := 25) (v := .int (σ.1 (7, 0, 0) 4)) hC o_iX10 (o_eX10 _ _ _ _) rfl ki_X10_image_X10 4 (by decide) kw_X10_image_1 rfl dX10_image_112 ?_
    exact hR _ _ _ _ dX10_image_115 h
  · have h := h.2 z
    refine g_aload_n hC 0 dX10_image_81 rfl rfl ?_
    refine g_get (C := RX10) (T := TX10) (N := 25) (v := .ref (ox_φ X (8, 0, 12))) hC o_iX10 (o_eX10 _ _ _ _) rfl ki_X10_image_X10 22 (by decide) kw_X10_image_11 rfl dX10_image_82 ?_
    refine g_iload_n hC 1 dX10_image_85 rfl rfl ?_
    refine g_aload_n hC 0 dX10_image_86 rfl rfl ?_
    refine g_get (C := RX10) (T := TX10) (N := 25) (v := .ref (ox_φ X (8, 0, 5))) hC o_iX10 (o_eX10 _ _ _ _) rfl ki_X10_image_X10 9 (by decide) kw_X10_image_12 rfl dX10_image_87 ?_
    refine g_iload_n hC 1 dX10_image_90 rfl rfl ?_
    refine g_iald hC o_M5 h.1 dX10_image_91 ?_
    have h := h.2
    refine g_iast hC o_M12 h.1 dX10_image_92 ?_
    have h := h.2
    refine g_aload_n hC 0 dX10_image_93 rfl rfl ?_
    refine g_get (C := RX10) (T := TX10) (N := 25) (v := .ref (ox_φ X (8, 0, 13))) hC o_iX10 (o_eX10 _ _ _ _) rfl ki_X10_image_X10 23 (by decide) kw_X10_image_13 rfl dX10_image_94 ?_
    refine g_iload_n hC 1 dX10_image_97 rfl rfl ?_
    refine g_aload_n hC 0 dX10_image_98 rfl rfl ?_
    refine g_get (C := RX10) (T := TX10) (N := 25) (v := .ref (ox_φ X (8, 0, 6))) hC o_iX10 (o_eX10 _ _ _ _) rfl ki_X10_image_X10 10 (by decide) kw_X10_image_14 rfl dX10_image_99 ?_
    refine g_iload_n hC 1 dX10_image_102 rfl rfl ?_
    refine g_iald hC o_M6 h.1 dX10_image_103 ?_
    have h := h.2
    refine g_iast hC o_M13 h.1 dX10_image_104 ?_
    have h := h.2
    refine g_iinc (v := (x1 + (1 : Int32))) hC 1 [(1, .int (x1 + (1 : Int32))), (0, .ref (ox_φ X (7, 0, 0)))] dX10_image_105 rfl rfl (by decide) rfl ?_
    refine g_goto hC 75 dX10_image_108 (by decide) ?_
    refine g_sub [1, 0] rfl ?_
    exact hK75 _ _ h
set_option maxHeartbeats 4000000 in
set_option maxRecDepth 100000 in
theorem lp_X10_image_75 {X : OX} {post : Int32 → SS → Prop} (hC : o_C X cX10_image RX10 wsX10_image 0 0 2) (hR : o_RI X cX10_image post) : ∀ (n : Nat) (a : Int32) (σ : SS), LP_X10_image_75 post n a σ → o_G X σ 75 [(0, .ref (ox_φ X (7, 0, 0))), (1, .int a)] [] :=
 o_lp_G (fun K hK a σ h => wb_X10_image_75 hC hR (fun x1 σ h => hK x1 σ h) h)
set_option maxHeartbeats 4000000 in
set_option maxRecDepth 100000 in
theorem wb_X10_image_25 {X : OX} {post : Int32 → SS → Prop} {K25 : Int32 → SS → Prop} {x1 : Int32} {σ : SS} (hC : o_C X cX10_image RX10 wsX10_image 0 0 2) (hR : o_RI X cX10_image post) (hK25 : ∀ (x1 : Int32) (σ : SS), K25 x1 σ → o_G X σ 25 [(0, .ref (ox_φ X (7, 0, 0))), (1, .int x1)] []) (h : VB_X10_image_25 post K25 x1 σ) : o_G X σ 25 [(0, .ref (ox_φ X (7, 0, 0))), (1, .int x1)] [] := by
  unfold VB_X10_image_25 at h
  refine g_iload_n hC 1 dX10_image_25 rfl rfl ?_
  refine g_bipush (v := (6 : Int32)) hC dX10_image_26 (by decide) ?_
  refine g_icmp_ge hC 73 dX10_image_28 (by decide) (fun z => ?_) (fun z => ?_)
  · have h := h.1 z
    refine g_iconst (v := (0 : Int32)) hC dX10_image_73 (by decide) ?_
    refine g_istore_n hC [(1, .int (0 : Int32)), (0, .ref (ox_φ X (7, 0, 0)))] dX10_image_74 rfl (by decide) rfl ?_
    refine g_sub [1, 0] rfl ?_
    obtain ⟨n, h⟩ := h
    exact lp_X10_image_75 hC hR n _ _ h
  · have h := h.2 z
    refine g_aload_n hC 0 dX10_image_31 rfl rfl ?_
    refine g_get (C := RX10) (T := TX10) (N := 25) (v := .ref (ox_φ X (8, 0, 9))) hC o_iX10 (o_eX10 _ _ _ _) rfl ki_X10_image_X10 19 (by decide) kw_X10_image_5 rfl dX10_image_32 ?_
    refine g_iload_n hC 1 dX10_image_35 rfl rfl ?_
    refine g_aload_n hC 0 dX10_image_36 rfl rfl ?_
    refine g_get (C := RX10) (T := TX10) (N := 25) (v := .ref (ox_φ X (8, 0, 2))) hC o_iX10 (o_eX10 _ _ _ _) rfl ki_X10_image_X10 6 (by decide) kw_X10_image_6 rfl dX10_image_37 ?_
    refine g_iload_n hC 1 dX10_image_40 rfl rfl ?_
    refine g_iald hC o_M2 h.1 dX10_image_41 ?_
    have h := h.2
    refine g_iast hC o_M9 h.1 dX10_image_42 ?_
    have h := h.2
    refine g_aload_n hC 0 dX10_image_43 rfl rfl ?_
    refine g_get (C := RX10) (T := TX10) (N := 25) (v := .ref (ox_φ X (8, 0, 10))) hC o_iX10 (o_eX10 _ _ _ _) rfl ki_X10_image_X10 20 (by decide) kw_X10_image_7 rfl dX10_image_44 ?_
    refine g_iload_n hC 1 dX10_image_47 rfl rfl ?_
    refine g_aload_n hC 0 dX10_image_48 rfl rfl ?_
    refine g_get (C := RX10) (T := TX10) (N := 25) (v := .ref (ox_φ X (8, 0, 3))) hC o_iX10 (o_eX10 _ _ _ _) rfl ki_X10_image_X10 7 (by decide) kw_X10_image_8 rfl dX10_image_49 ?_
    refine g_iload_n hC 1 dX10_image_52 rfl rfl ?_
    refine g_iald hC o_M3 h.1 dX10_image_53 ?_
    have h := h.2
    refine g_iast hC o_M10 h.1 dX10_image_54 ?_
    have h := h.2
    refine g_aload_n hC 0 dX10_image_55 rfl rfl ?_
    refine g_get (C := RX10) (T := TX10) (N := 25) (v := .ref (ox_φ X (8, 0, 11))) hC o_iX10 (o_eX10 _ _ _ _) rfl ki_X10_image_X10 21 (by decide) kw_X10_image_9 rfl dX10_image_56 ?_
    refine g_iload_n hC 1 dX10_image_59 rfl rfl ?_
    refine g_aload_n hC 0 dX10_image_60 rfl rfl ?_
    refine g_get (C := RX10) (T := TX10) (N := 25) (v := .ref (ox_φ X (8, 0, 4))) hC o_iX10 (o_eX10 _ _ _ _) rfl ki_X10_image_X10 8 (by decide) kw_X10_image_10 rfl dX10_image_61 ?_
    refine g_iload_n hC 1 dX10_image_64 rfl rfl ?_
    refine g_iald hC o_M4 h.1 dX10_image_65 ?_
    have h := h.2
    refine g_iast hC o_M11 h.1 dX10_image_66 ?_
    have h := h.2
    refine g_iinc (v := (x1 + (1 : Int32))) hC 1 [(1, .int (x1 + (1 : Int32))), (0, .ref (ox_φ X (7, 0, 0)))] dX10_image_67 rfl rfl (by decide) rfl ?_
    refine g_goto hC 25 dX10_image_70 (by decide) ?_
    refine g_sub [1, 0] rfl ?_
    exact hK25 _ _ h
set_option maxHeartbeats 4000000 in
set_option maxRecDepth 100000 in
theorem lp_X10_image_25 {X : OX} {post : Int32 → SS → Prop} (hC : o_C X cX10_image RX10 wsX10_image 0 0 2) (hR : o_RI X cX10_image post) : ∀ (n : Nat) (a : Int32) (σ : SS), LP_X10_image_25 post n a σ → o_G X σ 25 [(0, .ref (ox_φ X (7, 0, 0))), (1, .int a)] [] :=
 o_lp_G (fun K hK a σ h => wb_X10_image_25 hC hR (fun x1 σ h => hK x1 σ h) h)
set_option maxHeartbeats 4000000 in
set_option maxRecDepth 100000 in
theorem wv_X10_image {X : OX} {post : Int32 → SS → Prop} {σ : SS} (hC : o_C X cX10_image RX10 wsX10_image 0 0 2) (hR : o_RI X cX10_image post) (h : V_X10_image σ post) : o_G X σ 0 [(0, .ref (ox_φ X (7, 0, 0)))] [] := by
  unfold V_X10_image at h
  refine g_aload_n hC 0 dX10_image_0 rfl rfl ?_
  refine g_get (C := RX10) (T := TX10) (N := 25) (v := .int (σ.1 (7, 0, 0) 4)) hC o_iX10 (o_eX10 _ _ _ _) rfl ki_X10_image_X10 4 (by decide) kw_X10_image_1 rfl dX10_image_1 ?_
  refine g_if_ne hC 10 dX10_image_4 (by decide) (fun z => ?_) (fun z => ?_)
  · have h := h.1 z
    refine g_aload_n hC 0 dX10_image_10 rfl rfl ?_
    refine g_iconst (v := (1 : Int32)) hC dX10_image_11 (by decide) ?_
    refine g_puti (C := RX10) (T := TX10) (N := 25) hC o_iX10 (o_eX10 _ _ _ _) rfl ki_X10_image_X10 tyX10_ok nmX10 17 (by decide) kw_X10_image_2 rfl rfl rfl (Nat.le_of_ble_eq_true rfl) (o_pX10_17 _ _ _ _ _) dX10_image_12 ?_
    refine g_aload_n hC 0 dX10_image_15 rfl rfl ?_
    refine g_aload_n hC 0 dX10_image_16 rfl rfl ?_
    refine g_get (C := RX10) (T := TX10) (N := 25) (v := .int ((o_wr σ (7, 0, 0) 17 (1 : Int32)).1 (7, 0, 0) 0)) hC o_iX10 (o_eX10 _ _ _ _) rfl ki_X10_image_X10 0 (by decide) kw_X10_image_3 rfl dX10_image_17 ?_
    refine g_puti (C := RX10) (T := TX10) (N := 25) hC o_iX10 (o_eX10 _ _ _ _) rfl ki_X10_image_X10 tyX10_ok nmX10 18 (by decide) kw_X10_image_4 rfl rfl rfl (Nat.le_of_ble_eq_true rfl) (o_pX10_18 _ _ _ _ _) dX10_image_20 ?_
    refine g_iconst (v := (0 : Int32)) hC dX10_image_23 (by decide) ?_
    refine g_istore_n hC [(1, .int (0 : Int32)), (0, .ref (ox_φ X (7, 0, 0)))] dX10_image_24 rfl (by decide) rfl ?_
    refine g_sub [1, 0] rfl ?_
    obtain ⟨n, h⟩ := h
    exact lp_X10_image_25 hC hR n _ _ h
  · have h := h.2 z
    refine g_bipush (v := (-103 : Int32)) hC dX10_image_7 (by decide) ?_
    exact hR _ _ _ _ dX10_image_9 h
set_option maxRecDepth 100000 in
theorem c_X10_image {l : Launch} {φ : OI → Nat} {D : va_G} {cI cB : ClassId} (hJ : o_J φ) {σ : SS} {post : Int32 → SS → Prop} (h : V_X10_image σ post) : o_Mi l φ D cI cB yX10_image wsX10_image 0 0 [.ref (φ (7, 0, 0))] σ post :=
 o_met_i hJ (by decide +kernel) rfl (Nat.le_of_ble_eq_true rfl) (fun p e s m args below meth c Q hC hR => wv_X10_image hC hR h)
theorem kw_X10_restore_1 : Cond.fieldLink RX10 199 "SchoolRowModel" "isKept" "Z" ∈ wsX10_restore := List.mem_of_getElem? (i := 1) (by decide +kernel)
theorem kw_X10_restore_2 : Cond.fieldLink RX10 203 "SchoolRowModel" "keptSchool" "I" ∈ wsX10_restore := List.mem_of_getElem? (i := 2) (by decide +kernel)
theorem kw_X10_restore_3 : Cond.fieldLink RX10 82 "SchoolRowModel" "schools" "I" ∈ wsX10_restore := List.mem_of_getElem? (i := 3) (by decide +kernel)
theorem kw_X10_restore_4 : Cond.fieldLink RX10 79 "SchoolRowModel" "children" "I" ∈ wsX10_restore := List.mem_of_getElem? (i := 4) (by decide +kernel)
theorem kw_X10_restore_5 : Cond.fieldLink RX10 16 "SchoolRowModel" "seatOf" "[I" ∈ wsX10_restore := List.mem_of_getElem? (i := 5) (by decide +kernel)
theorem kw_X10_restore_6 : Cond.fieldLink RX10 38 "SchoolRowModel" "keptSeat" "[I" ∈ wsX10_restore := List.mem_of_getElem? (i := 6) (by decide +kernel)
theorem kw_X10_restore_7 : Cond.fieldLink RX10 31 "SchoolRowModel" "onSeat" "[I" ∈ wsX10_restore := List.mem_of_getElem? (i := 7) (by decide +kernel)
theorem kw_X10_restore_8 : Cond.fieldLink RX10 19 "SchoolRowModel" "illOf" "[I" ∈ wsX10_restore := List.mem_of_getElem? (i := 8) (by decide +kernel)
theorem kw_X10_restore_9 : Cond.fieldLink RX10 41 "SchoolRowModel" "keptIll" "[I" ∈ wsX10_restore := List.mem_of_getElem? (i := 9) (by decide +kernel)
theorem kw_X10_restore_10 : Cond.fieldLink RX10 22 "SchoolRowModel" "toldOf" "[I" ∈ wsX10_restore := List.mem_of_getElem? (i := 10) (by decide +kernel)
theorem kw_X10_restore_11 : Cond.fieldLink RX10 44 "SchoolRowModel" "keptTold" "[I" ∈ wsX10_restore := List.mem_of_getElem? (i := 11) (by decide +kernel)
theorem kw_X10_restore_12 : Cond.fieldLink RX10 25 "SchoolRowModel" "partsOf" "[I" ∈ wsX10_restore := List.mem_of_getElem? (i := 12) (by decide +kernel)
theorem kw_X10_restore_13 : Cond.fieldLink RX10 47 "SchoolRowModel" "keptParts" "[I" ∈ wsX10_restore := List.mem_of_getElem? (i := 13) (by decide +kernel)
theorem kw_X10_restore_14 : Cond.fieldLink RX10 28 "SchoolRowModel" "wrongOf" "[I" ∈ wsX10_restore := List.mem_of_getElem? (i := 14) (by decide +kernel)
theorem kw_X10_restore_15 : Cond.fieldLink RX10 50 "SchoolRowModel" "keptWrong" "[I" ∈ wsX10_restore := List.mem_of_getElem? (i := 15) (by decide +kernel)
theorem ki_X10_restore_X10 : ∀ w ∈ wsX100, w ∈ wsX10_restore := fun _ h => List.mem_cons_of_mem _ (List.mem_append_right _ h)
theorem hd_X10_restore : yX10_restore.cls = RX10 ∧ yX10_restore.cls ≠ "java/lang/invoke/MethodHandle" ∧ yX10_restore.cls ≠ "java/lang/invoke/VarHandle" ∧ (parseMethodDescriptor yX10_restore.desc).map (fun d => d.parameters.length) = some 0 := by decide +kernel
set_option maxHeartbeats 4000000 in
set_option maxRecDepth 100000 in
theorem wb_X10_restore_18 {X : OX} {post : Int32 → SS → Prop} {σ : SS} (hC : o_C X cX10_restore RX10 wsX10_restore 0 0 2) (hR : o_RI X cX10_restore post) (h : VB_X10_restore_18 post σ) : o_G X σ 18 [] [] := by
  unfold VB_X10_restore_18 at h
  refine g_bipush (v := (-103 : Int32)) hC dX10_restore_18 (by decide) ?_
  exact hR _ _ _ _ dX10_restore_20 h
set_option maxHeartbeats 4000000 in
set_option maxRecDepth 100000 in
theorem wb_X10_restore_87 {X : OX} {post : Int32 → SS → Prop} {K87 : Int32 → SS → Prop} {x1 : Int32} {σ : SS} (hC : o_C X cX10_restore RX10 wsX10_restore 0 0 2) (hR : o_RI X cX10_restore post) (hK87 : ∀ (x1 : Int32) (σ : SS), K87 x1 σ → o_G X σ 87 [(0, .ref (ox_φ X (7, 0, 0))), (1, .int x1)] []) (h : VB_X10_restore_87 post K87 x1 σ) : o_G X σ 87 [(0, .ref (ox_φ X (7, 0, 0))), (1, .int x1)] [] := by
  unfold VB_X10_restore_87 at h
  refine g_iload_n hC 1 dX10_restore_87 rfl rfl ?_
  refine g_bipush (v := (24 : Int32)) hC dX10_restore_88 (by decide) ?_
  refine g_icmp_ge hC 123 dX10_restore_90 (by decide) (fun z => ?_) (fun z => ?_)
  · have h := h.1 z
    refine g_aload_n hC 0 dX10_restore_123 rfl rfl ?_
    refine g_get (C := RX10) (T := TX10) (N := 25) (v := .int (σ.1 (7, 0, 0) 4)) hC o_iX10 (o_eX10 _ _ _ _) rfl ki_X10_restore_X10 4 (by decide) kw_X10_restore_4 rfl dX10_restore_124 ?_
    exact hR _ _ _ _ dX10_restore_127 h
  · have h := h.2 z
    refine g_aload_n hC 0 dX10_restore_93 rfl rfl ?_
    refine g_get (C := RX10) (T := TX10) (N := 25) (v := .ref (ox_φ X (8, 0, 5))) hC o_iX10 (o_eX10 _ _ _ _) rfl ki_X10_restore_X10 9 (by decide) kw_X10_restore_12 rfl dX10_restore_94 ?_
    refine g_iload_n hC 1 dX10_restore_97 rfl rfl ?_
    refine g_aload_n hC 0 dX10_restore_98 rfl rfl ?_
    refine g_get (C := RX10) (T := TX10) (N := 25) (v := .ref (ox_φ X (8, 0, 12))) hC o_iX10 (o_eX10 _ _ _ _) rfl ki_X10_restore_X10 22 (by decide) kw_X10_restore_13 rfl dX10_restore_99 ?_
    refine g_iload_n hC 1 dX10_restore_102 rfl rfl ?_
    refine g_iald hC o_M12 h.1 dX10_restore_103 ?_
    have h := h.2
    refine g_iast hC o_M5 h.1 dX10_restore_104 ?_
    have h := h.2
    refine g_aload_n hC 0 dX10_restore_105 rfl rfl ?_
    refine g_get (C := RX10) (T := TX10) (N := 25) (v := .ref (ox_φ X (8, 0, 6))) hC o_iX10 (o_eX10 _ _ _ _) rfl ki_X10_restore_X10 10 (by decide) kw_X10_restore_14 rfl dX10_restore_106 ?_
    refine g_iload_n hC 1 dX10_restore_109 rfl rfl ?_
    refine g_aload_n hC 0 dX10_restore_110 rfl rfl ?_
    refine g_get (C := RX10) (T := TX10) (N := 25) (v := .ref (ox_φ X (8, 0, 13))) hC o_iX10 (o_eX10 _ _ _ _) rfl ki_X10_restore_X10 23 (by decide) kw_X10_restore_15 rfl dX10_restore_111 ?_
    refine g_iload_n hC 1 dX10_restore_114 rfl rfl ?_
    refine g_iald hC o_M13 h.1 dX10_restore_115 ?_
    have h := h.2
    refine g_iast hC o_M6 h.1 dX10_restore_116 ?_
    have h := h.2
    refine g_iinc (v := (x1 + (1 : Int32))) hC 1 [(1, .int (x1 + (1 : Int32))), (0, .ref (ox_φ X (7, 0, 0)))] dX10_restore_117 rfl rfl (by decide) rfl ?_
    refine g_goto hC 87 dX10_restore_120 (by decide) ?_
    refine g_sub [1, 0] rfl ?_
    exact hK87 _ _ h
set_option maxHeartbeats 4000000 in
set_option maxRecDepth 100000 in
theorem lp_X10_restore_87 {X : OX} {post : Int32 → SS → Prop} (hC : o_C X cX10_restore RX10 wsX10_restore 0 0 2) (hR : o_RI X cX10_restore post) : ∀ (n : Nat) (a : Int32) (σ : SS), LP_X10_restore_87 post n a σ → o_G X σ 87 [(0, .ref (ox_φ X (7, 0, 0))), (1, .int a)] [] :=
 o_lp_G (fun K hK a σ h => wb_X10_restore_87 hC hR (fun x1 σ h => hK x1 σ h) h)
set_option maxHeartbeats 4000000 in
set_option maxRecDepth 100000 in
theorem wb_X10_restore_23 {X : OX} {post : Int32 → SS → Prop} {K23 : Int32 → SS → Prop} {x1 : Int32} {σ : SS} (hC : o_C X cX10_restore RX10 wsX10_restore 0 0 2) (hR : o_RI X cX10_restore post) (hK23 : ∀ (x1 : Int32) (σ : SS), K23 x1 σ → o_G X σ 23 [(0, .ref (ox_φ X (7, 0, 0))), (1, .int x1)] []) (h : VB_X10_restore_23 post K23 x1 σ) : o_G X σ 23 [(0, .ref (ox_φ X (7, 0, 0))), (1, .int x1)] [] := by
  unfold VB_X10_restore_23 at h
  refine g_iload_n hC 1 dX10_restore_23 rfl rfl ?_
  refine g_aload_n hC 0 dX10_restore_24 rfl rfl ?_
  refine g_get (C := RX10) (T := TX10) (N := 25) (v := .int (σ.1 (7, 0, 0) 4)) hC o_iX10 (o_eX10 _ _ _ _) rfl ki_X10_restore_X10 4 (by decide) kw_X10_restore_4 rfl dX10_restore_25 ?_
  refine g_icmp_ge hC 85 dX10_restore_28 (by decide) (fun z => ?_) (fun z => ?_)
  · have h := h.1 z
    refine g_iconst (v := (0 : Int32)) hC dX10_restore_85 (by decide) ?_
    refine g_istore_n hC [(1, .int (0 : Int32)), (0, .ref (ox_φ X (7, 0, 0)))] dX10_restore_86 rfl (by decide) rfl ?_
    refine g_sub [1, 0] rfl ?_
    obtain ⟨n, h⟩ := h
    exact lp_X10_restore_87 hC hR n _ _ h
  · have h := h.2 z
    refine g_aload_n hC 0 dX10_restore_31 rfl rfl ?_
    refine g_get (C := RX10) (T := TX10) (N := 25) (v := .ref (ox_φ X (8, 0, 2))) hC o_iX10 (o_eX10 _ _ _ _) rfl ki_X10_restore_X10 6 (by decide) kw_X10_restore_5 rfl dX10_restore_32 ?_
    refine g_iload_n hC 1 dX10_restore_35 rfl rfl ?_
    refine g_aload_n hC 0 dX10_restore_36 rfl rfl ?_
    refine g_get (C := RX10) (T := TX10) (N := 25) (v := .ref (ox_φ X (8, 0, 9))) hC o_iX10 (o_eX10 _ _ _ _) rfl ki_X10_restore_X10 19 (by decide) kw_X10_restore_6 rfl dX10_restore_37 ?_
    refine g_iload_n hC 1 dX10_restore_40 rfl rfl ?_
    refine g_iald hC o_M9 h.1 dX10_restore_41 ?_
    have h := h.2
    refine g_iast hC o_M2 h.1 dX10_restore_42 ?_
    have h := h.2
    refine g_aload_n hC 0 dX10_restore_43 rfl rfl ?_
    refine g_get (C := RX10) (T := TX10) (N := 25) (v := .ref (ox_φ X (8, 0, 7))) hC o_iX10 (o_eX10 _ _ _ _) rfl ki_X10_restore_X10 11 (by decide) kw_X10_restore_7 rfl dX10_restore_44 ?_
    refine g_aload_n hC 0 dX10_restore_47 rfl rfl ?_
    refine g_get (C := RX10) (T := TX10) (N := 25) (v := .ref (ox_φ X (8, 0, 2))) hC o_iX10 (o_eX10 _ _ _ _) rfl ki_X10_restore_X10 6 (by decide) kw_X10_restore_5 rfl dX10_restore_48 ?_
    refine g_iload_n hC 1 dX10_restore_51 rfl rfl ?_
    refine g_iald hC o_M2 h.1 dX10_restore_52 ?_
    have h := h.2
    refine g_iload_n hC 1 dX10_restore_53 rfl rfl ?_
    refine g_iast hC o_M7 h.1 dX10_restore_54 ?_
    have h := h.2
    refine g_aload_n hC 0 dX10_restore_55 rfl rfl ?_
    refine g_get (C := RX10) (T := TX10) (N := 25) (v := .ref (ox_φ X (8, 0, 3))) hC o_iX10 (o_eX10 _ _ _ _) rfl ki_X10_restore_X10 7 (by decide) kw_X10_restore_8 rfl dX10_restore_56 ?_
    refine g_iload_n hC 1 dX10_restore_59 rfl rfl ?_
    refine g_aload_n hC 0 dX10_restore_60 rfl rfl ?_
    refine g_get (C := RX10) (T := TX10) (N := 25) (v := .ref (ox_φ X (8, 0, 10))) hC o_iX10 (o_eX10 _ _ _ _) rfl ki_X10_restore_X10 20 (by decide) kw_X10_restore_9 rfl dX10_restore_61 ?_
    refine g_iload_n hC 1 dX10_restore_64 rfl rfl ?_
    refine g_iald hC o_M10 h.1 dX10_restore_65 ?_
    have h := h.2
    refine g_iast hC o_M3 h.1 dX10_restore_66 ?_
    have h := h.2
    refine g_aload_n hC 0 dX10_restore_67 rfl rfl ?_
    refine g_get (C := RX10) (T := TX10) (N := 25) (v := .ref (ox_φ X (8, 0, 4))) hC o_iX10 (o_eX10 _ _ _ _) rfl ki_X10_restore_X10 8 (by decide) kw_X10_restore_10 rfl dX10_restore_68 ?_
    refine g_iload_n hC 1 dX10_restore_71 rfl rfl ?_
    refine g_aload_n hC 0 dX10_restore_72 rfl rfl ?_
    refine g_get (C := RX10) (T := TX10) (N := 25) (v := .ref (ox_φ X (8, 0, 11))) hC o_iX10 (o_eX10 _ _ _ _) rfl ki_X10_restore_X10 21 (by decide) kw_X10_restore_11 rfl dX10_restore_73 ?_
    refine g_iload_n hC 1 dX10_restore_76 rfl rfl ?_
    refine g_iald hC o_M11 h.1 dX10_restore_77 ?_
    have h := h.2
    refine g_iast hC o_M4 h.1 dX10_restore_78 ?_
    have h := h.2
    refine g_iinc (v := (x1 + (1 : Int32))) hC 1 [(1, .int (x1 + (1 : Int32))), (0, .ref (ox_φ X (7, 0, 0)))] dX10_restore_79 rfl rfl (by decide) rfl ?_
    refine g_goto hC 23 dX10_restore_82 (by decide) ?_
    refine g_sub [1, 0] rfl ?_
    exact hK23 _ _ h
set_option maxHeartbeats 4000000 in
set_option maxRecDepth 100000 in
theorem lp_X10_restore_23 {X : OX} {post : Int32 → SS → Prop} (hC : o_C X cX10_restore RX10 wsX10_restore 0 0 2) (hR : o_RI X cX10_restore post) : ∀ (n : Nat) (a : Int32) (σ : SS), LP_X10_restore_23 post n a σ → o_G X σ 23 [(0, .ref (ox_φ X (7, 0, 0))), (1, .int a)] [] :=
 o_lp_G (fun K hK a σ h => wb_X10_restore_23 hC hR (fun x1 σ h => hK x1 σ h) h)
set_option maxHeartbeats 4000000 in
set_option maxRecDepth 100000 in
theorem wv_X10_restore {X : OX} {post : Int32 → SS → Prop} {σ : SS} (hC : o_C X cX10_restore RX10 wsX10_restore 0 0 2) (hR : o_RI X cX10_restore post) (h : V_X10_restore σ post) : o_G X σ 0 [(0, .ref (ox_φ X (7, 0, 0)))] [] := by
  unfold V_X10_restore at h
  refine g_aload_n hC 0 dX10_restore_0 rfl rfl ?_
  refine g_get (C := RX10) (T := TX10) (N := 25) (v := .int (σ.1 (7, 0, 0) 17)) hC o_iX10 (o_eX10 _ _ _ _) rfl ki_X10_restore_X10 17 (by decide) kw_X10_restore_1 rfl dX10_restore_1 ?_
  refine g_if_eq hC 18 dX10_restore_4 (by decide) (fun z => ?_) (fun z => ?_)
  · have h := h.1 z
    refine g_sub [] rfl ?_
    exact wb_X10_restore_18 hC hR h
  · have h := h.2 z
    refine g_aload_n hC 0 dX10_restore_7 rfl rfl ?_
    refine g_get (C := RX10) (T := TX10) (N := 25) (v := .int (σ.1 (7, 0, 0) 18)) hC o_iX10 (o_eX10 _ _ _ _) rfl ki_X10_restore_X10 18 (by decide) kw_X10_restore_2 rfl dX10_restore_8 ?_
    refine g_aload_n hC 0 dX10_restore_11 rfl rfl ?_
    refine g_get (C := RX10) (T := TX10) (N := 25) (v := .int (σ.1 (7, 0, 0) 0)) hC o_iX10 (o_eX10 _ _ _ _) rfl ki_X10_restore_X10 0 (by decide) kw_X10_restore_3 rfl dX10_restore_12 ?_
    refine g_icmp_eq hC 21 dX10_restore_15 (by decide) (fun z => ?_) (fun z => ?_)
    · have h := h.1 z
      refine g_iconst (v := (0 : Int32)) hC dX10_restore_21 (by decide) ?_
      refine g_istore_n hC [(1, .int (0 : Int32)), (0, .ref (ox_φ X (7, 0, 0)))] dX10_restore_22 rfl (by decide) rfl ?_
      refine g_sub [1, 0] rfl ?_
      obtain ⟨n, h⟩ := h
      exact lp_X10_restore_23 hC hR n _ _ h
    · have h := h.2 z
      refine g_sub [] rfl ?_
      exact wb_X10_restore_18 hC hR h
set_option maxRecDepth 100000 in
theorem c_X10_restore {l : Launch} {φ : OI → Nat} {D : va_G} {cI cB : ClassId} (hJ : o_J φ) {σ : SS} {post : Int32 → SS → Prop} (h : V_X10_restore σ post) : o_Mi l φ D cI cB yX10_restore wsX10_restore 0 0 [.ref (φ (7, 0, 0))] σ post :=
 o_met_i hJ (by decide +kernel) rfl (Nat.le_of_ble_eq_true rfl) (fun p e s m args below meth c Q hC hR => wv_X10_restore hC hR h)
theorem kw_X10_howMany_1 : Cond.fieldLink RX10 73 "SchoolRowModel" "loss" "I" ∈ wsX10_howMany := List.mem_of_getElem? (i := 1) (by decide +kernel)
theorem kw_X10_howMany_2 : Cond.fieldLink RX10 76 "SchoolRowModel" "forget" "I" ∈ wsX10_howMany := List.mem_of_getElem? (i := 2) (by decide +kernel)
theorem kw_X10_howMany_3 : Cond.fieldLink RX10 7 "SchoolRowModel" "breathOf" "[I" ∈ wsX10_howMany := List.mem_of_getElem? (i := 3) (by decide +kernel)
theorem kw_X10_howMany_4 : Cond.fieldLink RX10 79 "SchoolRowModel" "children" "I" ∈ wsX10_howMany := List.mem_of_getElem? (i := 4) (by decide +kernel)
theorem kw_X10_howMany_5 : Cond.fieldLink RX10 57 "SchoolRowModel" "pageLength" "I" ∈ wsX10_howMany := List.mem_of_getElem? (i := 5) (by decide +kernel)
theorem kw_X10_howMany_6 : Cond.fieldLink RX10 82 "SchoolRowModel" "schools" "I" ∈ wsX10_howMany := List.mem_of_getElem? (i := 6) (by decide +kernel)
theorem ki_X10_howMany_X10 : ∀ w ∈ wsX100, w ∈ wsX10_howMany := fun _ h => List.mem_cons_of_mem _ (List.mem_append_right _ h)
theorem hd_X10_howMany : yX10_howMany.cls = RX10 ∧ yX10_howMany.cls ≠ "java/lang/invoke/MethodHandle" ∧ yX10_howMany.cls ≠ "java/lang/invoke/VarHandle" ∧ (parseMethodDescriptor yX10_howMany.desc).map (fun d => d.parameters.length) = some 1 := by decide +kernel
set_option maxHeartbeats 4000000 in
set_option maxRecDepth 100000 in
theorem wb_X10_howMany_74 {X : OX} {post : Int32 → SS → Prop} {x1 : Int32} {σ : SS} (hC : o_C X cX10_howMany RX10 wsX10_howMany 2 45 2) (hR : o_RI X cX10_howMany post) (h : VB_X10_howMany_74 post x1 σ) : o_G X σ 74 [(0, .ref (ox_φ X (7, 0, 0))), (1, .int x1)] [] := by
  unfold VB_X10_howMany_74 at h
  refine g_aload_n hC 0 dX10_howMany_74 rfl rfl ?_
  refine g_get (C := RX10) (T := TX10) (N := 25) (v := .ref (ox_φ X (8, 0, 0))) hC o_iX10 (o_eX10 _ _ _ _) rfl ki_X10_howMany_X10 3 (by decide) kw_X10_howMany_3 rfl dX10_howMany_75 ?_
  refine g_iload_n hC 1 dX10_howMany_78 rfl rfl ?_
  refine g_iconst (v := (2 : Int32)) hC dX10_howMany_79 (by decide) ?_
  refine g_isub hC dX10_howMany_80 ?_
  refine g_iald hC o_M0 h.1 dX10_howMany_81 ?_
  have h := h.2
  exact hR _ _ _ _ dX10_howMany_82 h
set_option maxHeartbeats 4000000 in
set_option maxRecDepth 100000 in
theorem wv_X10_howMany {X : OX} {x1 : Int32} {post : Int32 → SS → Prop} {σ : SS} (hC : o_C X cX10_howMany RX10 wsX10_howMany 2 45 2) (hR : o_RI X cX10_howMany post) (h : V_X10_howMany x1 σ post) : o_G X σ 0 [(0, .ref (ox_φ X (7, 0, 0))), (1, .int x1)] [] := by
  unfold V_X10_howMany at h
  refine g_iload_n hC 1 dX10_howMany_0 rfl rfl ?_
  by_cases z0 : x1 = (0 : Int32)
  · have h := h.1 z0
    refine g_tabIn hC (0 : Int32) z0 64 dX10_howMany_1 (by decide) (by decide) rfl (by decide) ?_
    refine g_aload_n hC 0 dX10_howMany_64 rfl rfl ?_
    refine g_get (C := RX10) (T := TX10) (N := 25) (v := .int (σ.1 (7, 0, 0) 1)) hC o_iX10 (o_eX10 _ _ _ _) rfl ki_X10_howMany_X10 1 (by decide) kw_X10_howMany_1 rfl dX10_howMany_65 ?_
    exact hR _ _ _ _ dX10_howMany_68 h
  · skip
    by_cases z1 : x1 = (1 : Int32)
    · have h := h.2.1 z1
      refine g_tabIn hC (1 : Int32) z1 69 dX10_howMany_1 (by decide) (by decide) rfl (by decide) ?_
      refine g_aload_n hC 0 dX10_howMany_69 rfl rfl ?_
      refine g_get (C := RX10) (T := TX10) (N := 25) (v := .int (σ.1 (7, 0, 0) 2)) hC o_iX10 (o_eX10 _ _ _ _) rfl ki_X10_howMany_X10 2 (by decide) kw_X10_howMany_2 rfl dX10_howMany_70 ?_
      exact hR _ _ _ _ dX10_howMany_73 h
    · skip
      by_cases z2 : x1 = (2 : Int32)
      · have h := h.2.2.1 z2
        refine g_tabIn hC (2 : Int32) z2 74 dX10_howMany_1 (by decide) (by decide) rfl (by decide) ?_
        exact wb_X10_howMany_74 hC hR h
      · skip
        by_cases z3 : x1 = (3 : Int32)
        · have h := h.2.2.2.1 z3
          refine g_tabIn hC (3 : Int32) z3 74 dX10_howMany_1 (by decide) (by decide) rfl (by decide) ?_
          exact wb_X10_howMany_74 hC hR h
        · skip
          by_cases z4 : x1 = (4 : Int32)
          · have h := h.2.2.2.2.1 z4
            refine g_tabIn hC (4 : Int32) z4 74 dX10_howMany_1 (by decide) (by decide) rfl (by decide) ?_
            exact wb_X10_howMany_74 hC hR h
          · skip
            by_cases z5 : x1 = (5 : Int32)
            · have h := h.2.2.2.2.2.1 z5
              refine g_tabIn hC (5 : Int32) z5 74 dX10_howMany_1 (by decide) (by decide) rfl (by decide) ?_
              exact wb_X10_howMany_74 hC hR h
            · skip
              by_cases z6 : x1 = (6 : Int32)
              · have h := h.2.2.2.2.2.2.1 z6
                refine g_tabIn hC (6 : Int32) z6 83 dX10_howMany_1 (by decide) (by decide) rfl (by decide) ?_
                refine g_aload_n hC 0 dX10_howMany_83 rfl rfl ?_
                refine g_get (C := RX10) (T := TX10) (N := 25) (v := .int (σ.1 (7, 0, 0) 4)) hC o_iX10 (o_eX10 _ _ _ _) rfl ki_X10_howMany_X10 4 (by decide) kw_X10_howMany_4 rfl dX10_howMany_84 ?_
                exact hR _ _ _ _ dX10_howMany_87 h
              · skip
                by_cases z7 : x1 = (7 : Int32)
                · have h := h.2.2.2.2.2.2.2.1 z7
                  refine g_tabIn hC (7 : Int32) z7 88 dX10_howMany_1 (by decide) (by decide) rfl (by decide) ?_
                  refine g_aload_n hC 0 dX10_howMany_88 rfl rfl ?_
                  refine g_ri (r_V (C := RX10) (T := TX10) (N := 25) (As := []) (rest := []) hC o_iX10 (o_eX10 _ _ _ _) rfl (c_X10_illSet (l := ox_l X) (φ := ox_φ X) (D := ox_D X) (cI := ox_I X) (cB := ox_B X) hC.J  h) gX10_howMany_X10_illSet rfl hd_X10_illSet ⟨Nat.le_of_ble_eq_true rfl, Nat.le_of_ble_eq_true rfl⟩ rfl rfl (Nat.le_of_ble_eq_true rfl) dX10_howMany_89) (fun v89 s89 h => ?_)
                  refine g_ri (r_S (As := [.int v89]) (rest := []) hC (c_X10_size (l := ox_l X) (φ := ox_φ X) (D := ox_D X) (cI := ox_I X) (cB := ox_B X) hC.J  h) gX10_howMany_X10_size rfl hd_X10_size ⟨Nat.le_of_ble_eq_true rfl, Nat.le_of_ble_eq_true rfl⟩ rfl rfl (Nat.le_of_ble_eq_true rfl) dX10_howMany_92) (fun v92 s92 h => ?_)
                  exact hR _ _ _ _ dX10_howMany_95 h
                · skip
                  by_cases z8 : x1 = (8 : Int32)
                  · have h := h.2.2.2.2.2.2.2.2.1 z8
                    refine g_tabIn hC (8 : Int32) z8 96 dX10_howMany_1 (by decide) (by decide) rfl (by decide) ?_
                    refine g_aload_n hC 0 dX10_howMany_96 rfl rfl ?_
                    refine g_iconst (v := (0 : Int32)) hC dX10_howMany_97 (by decide) ?_
                    refine g_ri (r_V (C := RX10) (T := TX10) (N := 25) (As := [.int (0 : Int32)]) (rest := []) hC o_iX10 (o_eX10 _ _ _ _) rfl (c_X10_allParts (l := ox_l X) (φ := ox_φ X) (D := ox_D X) (cI := ox_I X) (cB := ox_B X) hC.J  h) gX10_howMany_X10_allParts rfl hd_X10_allParts ⟨Nat.le_of_ble_eq_true rfl, Nat.le_of_ble_eq_true rfl⟩ rfl rfl (Nat.le_of_ble_eq_true rfl) dX10_howMany_98) (fun v98 s98 h => ?_)
                    exact hR _ _ _ _ dX10_howMany_101 h
                  · skip
                    by_cases z9 : x1 = (9 : Int32)
                    · have h := h.2.2.2.2.2.2.2.2.2.1 z9
                      refine g_tabIn hC (9 : Int32) z9 102 dX10_howMany_1 (by decide) (by decide) rfl (by decide) ?_
                      refine g_aload_n hC 0 dX10_howMany_102 rfl rfl ?_
                      refine g_iconst (v := (0 : Int32)) hC dX10_howMany_103 (by decide) ?_
                      refine g_ri (r_V (C := RX10) (T := TX10) (N := 25) (As := [.int (0 : Int32)]) (rest := []) hC o_iX10 (o_eX10 _ _ _ _) rfl (c_X10_allWrong (l := ox_l X) (φ := ox_φ X) (D := ox_D X) (cI := ox_I X) (cB := ox_B X) hC.J  h) gX10_howMany_X10_allWrong rfl hd_X10_allWrong ⟨Nat.le_of_ble_eq_true rfl, Nat.le_of_ble_eq_true rfl⟩ rfl rfl (Nat.le_of_ble_eq_true rfl) dX10_howMany_104) (fun v104 s104 h => ?_)
                      exact hR _ _ _ _ dX10_howMany_107 h
                    · skip
                      by_cases z10 : x1 = (10 : Int32)
                      · have h := h.2.2.2.2.2.2.2.2.2.2.1 z10
                        refine g_tabIn hC (10 : Int32) z10 108 dX10_howMany_1 (by decide) (by decide) rfl (by decide) ?_
                        refine g_aload_n hC 0 dX10_howMany_108 rfl rfl ?_
                        refine g_get (C := RX10) (T := TX10) (N := 25) (v := .int (σ.1 (7, 0, 0) 12)) hC o_iX10 (o_eX10 _ _ _ _) rfl ki_X10_howMany_X10 12 (by decide) kw_X10_howMany_5 rfl dX10_howMany_109 ?_
                        exact hR _ _ _ _ dX10_howMany_112 h
                      · skip
                        by_cases z11 : x1 = (11 : Int32)
                        · have h := h.2.2.2.2.2.2.2.2.2.2.2.1 z11
                          refine g_tabIn hC (11 : Int32) z11 113 dX10_howMany_1 (by decide) (by decide) rfl (by decide) ?_
                          refine g_aload_n hC 0 dX10_howMany_113 rfl rfl ?_
                          refine g_get (C := RX10) (T := TX10) (N := 25) (v := .int (σ.1 (7, 0, 0) 0)) hC o_iX10 (o_eX10 _ _ _ _) rfl ki_X10_howMany_X10 0 (by decide) kw_X10_howMany_6 rfl dX10_howMany_114 ?_
                          exact hR _ _ _ _ dX10_howMany_117 h
                        · skip
                          have h := h.2.2.2.2.2.2.2.2.2.2.2.2 ⟨z0, z1, z2, z3, z4, z5, z6, z7, z8, z9, z10, z11⟩
                          have a0 := lv_neT z0 (a := 0) (by decide)
                          have a1 := lv_neT z1 (a := 1) (by decide)
                          have a2 := lv_neT z2 (a := 2) (by decide)
                          have a3 := lv_neT z3 (a := 3) (by decide)
                          have a4 := lv_neT z4 (a := 4) (by decide)
                          have a5 := lv_neT z5 (a := 5) (by decide)
                          have a6 := lv_neT z6 (a := 6) (by decide)
                          have a7 := lv_neT z7 (a := 7) (by decide)
                          have a8 := lv_neT z8 (a := 8) (by decide)
                          have a9 := lv_neT z9 (a := 9) (by decide)
                          have a10 := lv_neT z10 (a := 10) (by decide)
                          have a11 := lv_neT z11 (a := 11) (by decide)
                          refine g_tabOut hC 118 dX10_howMany_1 (by omega) (by decide) ?_
                          refine g_bipush (v := (-102 : Int32)) hC dX10_howMany_118 (by decide) ?_
                          exact hR _ _ _ _ dX10_howMany_120 h
set_option maxRecDepth 100000 in
theorem c_X10_howMany {l : Launch} {φ : OI → Nat} {D : va_G} {cI cB : ClassId} (hJ : o_J φ) {x1 : Int32} {σ : SS} {post : Int32 → SS → Prop} (h : V_X10_howMany x1 σ post) : o_Mi l φ D cI cB yX10_howMany wsX10_howMany 2 45 [.ref (φ (7, 0, 0)), .int x1] σ post :=
 o_met_i hJ (by decide +kernel) rfl (Nat.le_of_ble_eq_true rfl) (fun p e s m args below meth c Q hC hR => wv_X10_howMany hC hR h)
theorem hd_X10_count : yX10_count.cls = RX10 ∧ yX10_count.cls ≠ "java/lang/invoke/MethodHandle" ∧ yX10_count.cls ≠ "java/lang/invoke/VarHandle" ∧ (parseMethodDescriptor yX10_count.desc).map (fun d => d.parameters.length) = some 1 := by decide +kernel
set_option maxHeartbeats 4000000 in
set_option maxRecDepth 100000 in
theorem wv_X10_count {X : OX} {x1 : Int32} {post : Int32 → SS → Prop} {σ : SS} (hC : o_C X cX10_count RX10 wsX10_count 3 66 2) (hR : o_RI X cX10_count post) (h : V_X10_count x1 σ post) : o_G X σ 0 [(0, .ref (ox_φ X (7, 0, 0))), (1, .int x1)] [] := by
  unfold V_X10_count at h
  refine g_aload_n hC 0 dX10_count_0 rfl rfl ?_
  refine g_iload_n hC 1 dX10_count_1 rfl rfl ?_
  refine g_ri (r_V (C := RX10) (T := TX10) (N := 25) (As := [.int x1]) (rest := []) hC o_iX10 (o_eX10 _ _ _ _) rfl (c_X10_howMany (l := ox_l X) (φ := ox_φ X) (D := ox_D X) (cI := ox_I X) (cB := ox_B X) hC.J  h) gX10_count_X10_howMany rfl hd_X10_howMany ⟨Nat.le_of_ble_eq_true rfl, Nat.le_of_ble_eq_true rfl⟩ rfl rfl (Nat.le_of_ble_eq_true rfl) dX10_count_2) (fun v2 s2 h => ?_)
  exact hR _ _ _ _ dX10_count_5 h
set_option maxRecDepth 100000 in
theorem c_X10_count {l : Launch} {φ : OI → Nat} {D : va_G} {cI cB : ClassId} (hJ : o_J φ) {x1 : Int32} {σ : SS} {post : Int32 → SS → Prop} (h : V_X10_count x1 σ post) : o_Mi l φ D cI cB yX10_count wsX10_count 3 66 [.ref (φ (7, 0, 0)), .int x1] σ post :=
 o_met_i hJ (by decide +kernel) rfl (Nat.le_of_ble_eq_true rfl) (fun p e s m args below meth c Q hC hR => wv_X10_count hC hR h)
