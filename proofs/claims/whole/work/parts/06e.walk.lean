theorem kw_X9_sick_1 : Cond.fieldLink RX9 19 "SchoolRow" "school" "LSchoolRow$School;" ∈ wsX9_sick := List.mem_of_getElem? (i := 1) (by decide +kernel)
theorem kw_X9_sick_2 : Cond.fieldLink RX9 35 "SchoolRow" "trial" "LSchoolRow$Row;" ∈ wsX9_sick := List.mem_of_getElem? (i := 2) (by decide +kernel)
theorem kw_X9_sick_3 : Cond.fieldLink RX9 28 "SchoolRow" "now" "LSchoolRow$Row;" ∈ wsX9_sick := List.mem_of_getElem? (i := 3) (by decide +kernel)
theorem ki_X9_sick_X9 : ∀ w ∈ wsX90, w ∈ wsX9_sick := fun _ h => List.mem_cons_of_mem _ (List.mem_append_left _ (List.mem_append_left _ (List.mem_append_left _ (List.mem_append_right _ h))))
theorem hd_X9_sick : yX9_sick.cls = RX9 ∧ yX9_sick.cls ≠ "java/lang/invoke/MethodHandle" ∧ yX9_sick.cls ≠ "java/lang/invoke/VarHandle" ∧ (parseMethodDescriptor yX9_sick.desc).map (fun d => d.parameters.length) = some 1 := by decide +kernel
set_option maxHeartbeats 4000000 in
set_option maxRecDepth 100000 in
theorem wb_X9_sick_96 {X : OX} {post : Int32 → SS → Prop} {K48 : Int32 → Int32 → Int32 → Int32 → SS → Prop} {x1 : Int32} {x2 : Int32} {x3 : Int32} {x4 : Int32} {σ : SS} (hC : o_C X cX9_sick RX9 wsX9_sick 4 95 5) (hR : o_RI X cX9_sick post) (hK48 : ∀ (x1 : Int32) (x2 : Int32) (x3 : Int32) (x4 : Int32) (σ : SS), K48 x1 x2 x3 x4 σ → o_G X σ 48 [(0, .ref (ox_φ X (0, 0, 0))), (1, .int x1), (2, .int x2), (3, .int x3), (4, .int x4)] []) (h : VB_X9_sick_96 post K48 x1 x2 x3 x4 σ) : o_G X σ 96 [(0, .ref (ox_φ X (0, 0, 0))), (1, .int x1), (2, .int x2), (3, .int x3), (4, .int x4)] [] := by
  unfold VB_X9_sick_96 at h
  refine g_iinc (v := (x4 + (1 : Int32))) hC 4 [(4, .int (x4 + (1 : Int32))), (0, .ref (ox_φ X (0, 0, 0))), (1, .int x1), (2, .int x2), (3, .int x3)] dX9_sick_96 rfl rfl (by decide) rfl ?_
  refine g_goto hC 48 dX9_sick_99 (by decide) ?_
  refine g_sub [1, 2, 3, 4, 0] rfl ?_
  exact hK48 _ _ _ _ _ h
set_option maxHeartbeats 4000000 in
set_option maxRecDepth 100000 in
theorem wb_X9_sick_117 {X : OX} {post : Int32 → SS → Prop} {t0 : Int32} {σ : SS} (hC : o_C X cX9_sick RX9 wsX9_sick 4 95 5) (hR : o_RI X cX9_sick post) (h : VB_X9_sick_117 post t0 σ) : o_G X σ 117 [] [.int t0] := by
  unfold VB_X9_sick_117 at h
  exact hR _ _ _ _ dX9_sick_117 h
set_option maxHeartbeats 4000000 in
set_option maxRecDepth 100000 in
theorem wb_X9_sick_48 {X : OX} {post : Int32 → SS → Prop} {K48 : Int32 → Int32 → Int32 → Int32 → SS → Prop} {x1 : Int32} {x2 : Int32} {x3 : Int32} {x4 : Int32} {σ : SS} (hC : o_C X cX9_sick RX9 wsX9_sick 4 95 5) (hR : o_RI X cX9_sick post) (hK48 : ∀ (x1 : Int32) (x2 : Int32) (x3 : Int32) (x4 : Int32) (σ : SS), K48 x1 x2 x3 x4 σ → o_G X σ 48 [(0, .ref (ox_φ X (0, 0, 0))), (1, .int x1), (2, .int x2), (3, .int x3), (4, .int x4)] []) (h : VB_X9_sick_48 post K48 x1 x2 x3 x4 σ) : o_G X σ 48 [(0, .ref (ox_φ X (0, 0, 0))), (1, .int x1), (2, .int x2), (3, .int x3), (4, .int x4)] [] := by
  unfold VB_X9_sick_48 at h
  refine g_iload hC 4 dX9_sick_48 rfl ?_
  refine g_iconst (v := (1 : Int32)) hC dX9_sick_50 (by decide) ?_
  refine g_aload_n hC 0 dX9_sick_51 rfl rfl ?_
  refine g_get (C := RX9) (T := TX9) (N := 9) (v := .ref (ox_φ X (2, 0, 0))) hC o_iX9 (o_eX9 _ _ _ _) rfl ki_X9_sick_X9 1 (by decide) kw_X9_sick_1 rfl dX9_sick_52 ?_
  refine g_ri (r_V (C := RX5) (T := TX5) (N := 8) (As := []) (rest := [.int (1 : Int32), .int x4]) hC o_iX5 (o_eX5 _ _ _ _) rfl (c_X5_size (l := ox_l X) (φ := ox_φ X) (D := ox_D X) (cI := ox_I X) (cB := ox_B X) hC.J  h) gX9_sick_X5_size rfl hd_X5_size ⟨Nat.le_of_ble_eq_true rfl, Nat.le_of_ble_eq_true rfl⟩ rfl rfl (Nat.le_of_ble_eq_true rfl) dX9_sick_55) (fun v55 s55 h => ?_)
  refine g_ishl hC dX9_sick_58 ?_
  refine g_icmp_ge hC 102 dX9_sick_59 (by decide) (fun z => ?_) (fun z => ?_)
  · have h := h.1 z
    refine g_iload_n hC 1 dX9_sick_102 rfl rfl ?_
    refine g_if_ne hC 108 dX9_sick_103 (by decide) (fun z => ?_) (fun z => ?_)
    · have h := h.1 z
      refine g_iload_n hC 2 dX9_sick_108 rfl rfl ?_
      refine g_if_ne hC 116 dX9_sick_109 (by decide) (fun z => ?_) (fun z => ?_)
      · have h := h.1 z
        refine g_iload_n hC 3 dX9_sick_116 rfl rfl ?_
        refine g_sub [] rfl ?_
        exact wb_X9_sick_117 hC hR h
      · have h := h.2 z
        refine g_iconst (v := (0 : Int32)) hC dX9_sick_112 (by decide) ?_
        refine g_goto hC 117 dX9_sick_113 (by decide) ?_
        refine g_sub [] rfl ?_
        exact wb_X9_sick_117 hC hR h
    · have h := h.2 z
      refine g_iload_n hC 2 dX9_sick_106 rfl rfl ?_
      exact hR _ _ _ _ dX9_sick_107 h
  · have h := h.2 z
    refine g_aload_n hC 0 dX9_sick_62 rfl rfl ?_
    refine g_get (C := RX9) (T := TX9) (N := 9) (v := .ref (ox_φ X (3, 2, 0))) hC o_iX9 (o_eX9 _ _ _ _) rfl ki_X9_sick_X9 4 (by decide) kw_X9_sick_2 rfl dX9_sick_63 ?_
    refine g_iload hC 4 dX9_sick_66 rfl ?_
    refine g_rv (r_V (C := RX4) (T := TX4) (N := 6) (As := [.int x4]) (rest := []) hC (o_in3 2 (by decide)) (o_eX4 _ _ _ _ _) rfl (c_X4_setAllIll (l := ox_l X) (φ := ox_φ X) (D := ox_D X) (cI := ox_I X) (cB := ox_B X) hC.J (by decide) h) gX9_sick_X4_setAllIll rfl hd_X4_setAllIll ⟨Nat.le_of_ble_eq_true rfl, Nat.le_of_ble_eq_true rfl⟩ rfl rfl (Nat.le_of_ble_eq_true rfl) dX9_sick_68) (fun s68 h => ?_)
    refine g_aload_n hC 0 dX9_sick_71 rfl rfl ?_
    refine g_get (C := RX9) (T := TX9) (N := 9) (v := .ref (ox_φ X (3, 2, 0))) hC o_iX9 (o_eX9 _ _ _ _) rfl ki_X9_sick_X9 4 (by decide) kw_X9_sick_2 rfl dX9_sick_72 ?_
    refine g_rv (r_V (C := RX4) (T := TX4) (N := 6) (As := []) (rest := []) hC (o_in3 2 (by decide)) (o_eX4 _ _ _ _ _) rfl (c_X4_teachFromNothing (l := ox_l X) (φ := ox_φ X) (D := ox_D X) (cI := ox_I X) (cB := ox_B X) hC.J (by decide) h) gX9_sick_X4_teachFromNothing rfl hd_X4_teachFromNothing ⟨Nat.le_of_ble_eq_true rfl, Nat.le_of_ble_eq_true rfl⟩ rfl rfl (Nat.le_of_ble_eq_true rfl) dX9_sick_75) (fun s75 h => ?_)
    refine g_aload_n hC 0 dX9_sick_78 rfl rfl ?_
    refine g_get (C := RX9) (T := TX9) (N := 9) (v := .ref (ox_φ X (3, 2, 0))) hC o_iX9 (o_eX9 _ _ _ _) rfl ki_X9_sick_X9 4 (by decide) kw_X9_sick_2 rfl dX9_sick_79 ?_
    refine g_ri (r_V (C := RX4) (T := TX4) (N := 6) (As := []) (rest := []) hC (o_in3 2 (by decide)) (o_eX4 _ _ _ _ _) rfl (c_X4_isAsTold (l := ox_l X) (φ := ox_φ X) (D := ox_D X) (cI := ox_I X) (cB := ox_B X) hC.J (by decide) h) gX9_sick_X4_isAsTold rfl hd_X4_isAsTold ⟨Nat.le_of_ble_eq_true rfl, Nat.le_of_ble_eq_true rfl⟩ rfl rfl (Nat.le_of_ble_eq_true rfl) dX9_sick_82) (fun v82 s82 h => ?_)
    refine g_if_eq hC 96 dX9_sick_85 (by decide) (fun z => ?_) (fun z => ?_)
    · have h := h.1 z
      exact wb_X9_sick_96 hC hR hK48 h
    · have h := h.2 z
      refine g_iinc (v := (x2 + (1 : Int32))) hC 2 [(2, .int (x2 + (1 : Int32))), (0, .ref (ox_φ X (0, 0, 0))), (1, .int x1), (3, .int x3), (4, .int x4)] dX9_sick_88 rfl rfl (by decide) rfl ?_
      refine g_iload_n hC 3 dX9_sick_91 rfl rfl ?_
      refine g_iload hC 4 dX9_sick_92 rfl ?_
      refine g_iand hC dX9_sick_94 ?_
      refine g_istore_n hC [(3, .int (x3 &&& x4)), (2, .int (x2 + (1 : Int32))), (0, .ref (ox_φ X (0, 0, 0))), (1, .int x1), (4, .int x4)] dX9_sick_95 rfl (by decide) rfl ?_
      refine g_sub [2, 3, 1, 0, 4] rfl ?_
      exact wb_X9_sick_96 hC hR hK48 h
set_option maxHeartbeats 4000000 in
set_option maxRecDepth 100000 in
theorem lp_X9_sick_48 {X : OX} {post : Int32 → SS → Prop} (hC : o_C X cX9_sick RX9 wsX9_sick 4 95 5) (hR : o_RI X cX9_sick post) : ∀ (n : Nat) (a : Int32 × Int32 × Int32 × Int32) (σ : SS), LP_X9_sick_48 post n a σ → o_G X σ 48 [(0, .ref (ox_φ X (0, 0, 0))), (1, .int a.1), (2, .int a.2.1), (3, .int a.2.2.1), (4, .int a.2.2.2)] [] :=
 o_lp_G (fun K hK a σ h => wb_X9_sick_48 hC hR (fun x1 x2 x3 x4 σ h => hK (x1, x2, x3, x4) σ h) h)
set_option maxHeartbeats 4000000 in
set_option maxRecDepth 100000 in
theorem wv_X9_sick {X : OX} {x1 : Int32} {post : Int32 → SS → Prop} {σ : SS} (hC : o_C X cX9_sick RX9 wsX9_sick 4 95 5) (hR : o_RI X cX9_sick post) (h : V_X9_sick x1 σ post) : o_G X σ 0 [(0, .ref (ox_φ X (0, 0, 0))), (1, .int x1)] [] := by
  unfold V_X9_sick at h
  refine g_iload_n hC 1 dX9_sick_0 rfl rfl ?_
  refine g_ri (r_S (As := [.int x1]) (rest := []) hC (c_X9_isEither (l := ox_l X) (φ := ox_φ X) (D := ox_D X) (cI := ox_I X) (cB := ox_B X) hC.J  h) gX9_sick_X9_isEither rfl hd_X9_isEither ⟨Nat.le_of_ble_eq_true rfl, Nat.le_of_ble_eq_true rfl⟩ rfl rfl (Nat.le_of_ble_eq_true rfl) dX9_sick_1) (fun v1 s1 h => ?_)
  refine g_if_ne hC 10 dX9_sick_4 (by decide) (fun z => ?_) (fun z => ?_)
  · have h := h.1 z
    refine g_aload_n hC 0 dX9_sick_10 rfl rfl ?_
    refine g_ri (r_V (C := RX9) (T := TX9) (N := 9) (As := []) (rest := []) hC o_iX9 (o_eX9 _ _ _ _) rfl (c_X9_hasSchool (l := ox_l X) (φ := ox_φ X) (D := ox_D X) (cI := ox_I X) (cB := ox_B X) hC.J  h) gX9_sick_X9_hasSchool rfl hd_X9_hasSchool ⟨Nat.le_of_ble_eq_true rfl, Nat.le_of_ble_eq_true rfl⟩ rfl rfl (Nat.le_of_ble_eq_true rfl) dX9_sick_11) (fun v11 s11 h => ?_)
    refine g_if_ne hC 20 dX9_sick_14 (by decide) (fun z => ?_) (fun z => ?_)
    · have h := h.1 z
      refine g_iconst (v := (0 : Int32)) hC dX9_sick_20 (by decide) ?_
      refine g_istore_n hC [(2, .int (0 : Int32)), (0, .ref (ox_φ X (0, 0, 0))), (1, .int x1)] dX9_sick_21 rfl (by decide) rfl ?_
      refine g_iconst (v := (1 : Int32)) hC dX9_sick_22 (by decide) ?_
      refine g_aload_n hC 1 dX9_sick_23 rfl rfl ?_
      refine g_get (C := RX9) (T := TX9) (N := 9) (v := .ref (ox_φ X (2, 0, 0))) hC o_iX9 (o_eX9 _ _ _ _) rfl ki_X9_sick_X9 1 (by decide) kw_X9_sick_1 rfl dX9_sick_24 ?_
      refine g_ri (r_V (C := RX5) (T := TX5) (N := 8) (As := []) (rest := [.int (1 : Int32)]) hC o_iX5 (o_eX5 _ _ _ _) rfl (c_X5_size (l := ox_l X) (φ := ox_φ X) (D := ox_D X) (cI := ox_I X) (cB := ox_B X) hC.J  h) gX9_sick_X5_size rfl hd_X5_size ⟨Nat.le_of_ble_eq_true rfl, Nat.le_of_ble_eq_true rfl⟩ rfl rfl (Nat.le_of_ble_eq_true rfl) dX9_sick_27) (fun v27 s27 h => ?_)
      refine g_ishl hC dX9_sick_30 ?_
      refine g_iconst (v := (1 : Int32)) hC dX9_sick_31 (by decide) ?_
      refine g_isub hC dX9_sick_32 ?_
      refine g_topi (fun y33 e33 => ?_)
      have h := h y33 e33
      refine g_istore_n hC [(3, .int y33), (2, .int (0 : Int32)), (0, .ref (ox_φ X (0, 0, 0))), (1, .int x1)] dX9_sick_33 rfl (by decide) rfl ?_
      refine g_aload_n hC 2 dX9_sick_34 rfl rfl ?_
      refine g_get (C := RX9) (T := TX9) (N := 9) (v := .ref (ox_φ X (3, 2, 0))) hC o_iX9 (o_eX9 _ _ _ _) rfl ki_X9_sick_X9 4 (by decide) kw_X9_sick_2 rfl dX9_sick_35 ?_
      refine g_aload_n hC 2 dX9_sick_38 rfl rfl ?_
      refine g_get (C := RX9) (T := TX9) (N := 9) (v := .ref (ox_φ X (3, 0, 0))) hC o_iX9 (o_eX9 _ _ _ _) rfl ki_X9_sick_X9 2 (by decide) kw_X9_sick_3 rfl dX9_sick_39 ?_
      refine g_rv (r_V (C := RX4) (T := TX4) (N := 6) (As := [.ref (ox_φ X (3, 0, 0))]) (rest := []) hC (o_in3 2 (by decide)) (o_eX4 _ _ _ _ _) rfl (c_X4_copyFrom (l := ox_l X) (φ := ox_φ X) (D := ox_D X) (cI := ox_I X) (cB := ox_B X) hC.J (by decide) (by decide) h) gX9_sick_X4_copyFrom rfl hd_X4_copyFrom ⟨Nat.le_of_ble_eq_true rfl, Nat.le_of_ble_eq_true rfl⟩ rfl rfl (Nat.le_of_ble_eq_true rfl) dX9_sick_42) (fun s42 h => ?_)
      refine g_iconst (v := (0 : Int32)) hC dX9_sick_45 (by decide) ?_
      refine g_istore hC [(4, .int (0 : Int32)), (3, .int y33), (2, .int (0 : Int32)), (0, .ref (ox_φ X (0, 0, 0))), (1, .int x1)] dX9_sick_46 (by decide) rfl ?_
      refine g_sub [3, 4, 2, 1, 0] rfl ?_
      obtain ⟨n, h⟩ := h
      exact lp_X9_sick_48 hC hR n _ _ h
    · have h := h.2 z
      refine g_bipush (v := (-103 : Int32)) hC dX9_sick_17 (by decide) ?_
      exact hR _ _ _ _ dX9_sick_19 h
  · have h := h.2 z
    refine g_bipush (v := (-102 : Int32)) hC dX9_sick_7 (by decide) ?_
    exact hR _ _ _ _ dX9_sick_9 h
set_option maxRecDepth 100000 in
theorem c_X9_sick {l : Launch} {φ : OI → Nat} {D : va_G} {cI cB : ClassId} (hJ : o_J φ) {x1 : Int32} {σ : SS} {post : Int32 → SS → Prop} (h : V_X9_sick x1 σ post) : o_Mi l φ D cI cB yX9_sick wsX9_sick 4 95 [.ref (φ (0, 0, 0)), .int x1] σ post :=
 o_met_i hJ (by decide +kernel) rfl (Nat.le_of_ble_eq_true rfl) (fun p e s m args below meth c Q hC hR => wv_X9_sick hC hR h)
theorem kw_X9_nextSeed_1 : Cond.constantLong RX9 267 (1103515245) ∈ wsX9_nextSeed := List.mem_of_getElem? (i := 1) (by decide +kernel)
theorem kw_X9_nextSeed_2 : Cond.constantLong RX9 269 (12345) ∈ wsX9_nextSeed := List.mem_of_getElem? (i := 2) (by decide +kernel)
theorem kw_X9_nextSeed_3 : Cond.constantLong RX9 271 (2147483647) ∈ wsX9_nextSeed := List.mem_of_getElem? (i := 3) (by decide +kernel)
theorem hd_X9_nextSeed : yX9_nextSeed.cls ≠ "java/lang/invoke/MethodHandle" ∧ yX9_nextSeed.cls ≠ "java/lang/invoke/VarHandle" ∧ (parseMethodDescriptor yX9_nextSeed.desc).map (fun d => d.parameters.length) = some 1 := by decide +kernel
set_option maxHeartbeats 4000000 in
set_option maxRecDepth 100000 in
theorem wv_X9_nextSeed {X : OX} {x0 : Int64} {post : Int64 → SS → Prop} {σ : SS} (hC : o_C X cX9_nextSeed RX9 wsX9_nextSeed 0 0 2) (hR : o_RL X cX9_nextSeed post) (h : V_X9_nextSeed x0 σ post) : o_G X σ 0 [(0, .long x0)] [] := by
  unfold V_X9_nextSeed at h
  refine g_ldc2 hC kw_X9_nextSeed_1 dX9_nextSeed_0 ?_
  refine g_lload_n hC 0 dX9_nextSeed_3 rfl rfl ?_
  refine g_lmul hC dX9_nextSeed_4 ?_
  refine g_ldc2 hC kw_X9_nextSeed_2 dX9_nextSeed_5 ?_
  refine g_ladd hC dX9_nextSeed_8 ?_
  refine g_ldc2 hC kw_X9_nextSeed_3 dX9_nextSeed_9 ?_
  refine g_land hC dX9_nextSeed_12 ?_
  exact hR _ _ _ _ dX9_nextSeed_13 h
set_option maxRecDepth 100000 in
theorem c_X9_nextSeed {l : Launch} {φ : OI → Nat} {D : va_G} {cI cB : ClassId} (hJ : o_J φ) {x0 : Int64} {σ : SS} {post : Int64 → SS → Prop} (h : V_X9_nextSeed x0 σ post) : o_Ml l φ D cI cB yX9_nextSeed wsX9_nextSeed 0 0 [.long x0] σ post :=
 o_met_l hJ (by decide +kernel) rfl (Nat.le_of_ble_eq_true rfl) (fun p e s m args below meth c Q hC hR => wv_X9_nextSeed hC hR h)
theorem kw_X9_draw_1 : Cond.constantLong RX9 273 (65536) ∈ wsX9_draw := List.mem_of_getElem? (i := 1) (by decide +kernel)
theorem hd_X9_draw : yX9_draw.cls ≠ "java/lang/invoke/MethodHandle" ∧ yX9_draw.cls ≠ "java/lang/invoke/VarHandle" ∧ (parseMethodDescriptor yX9_draw.desc).map (fun d => d.parameters.length) = some 2 := by decide +kernel
set_option maxHeartbeats 4000000 in
set_option maxRecDepth 100000 in
theorem wb_X9_draw_17 {X : OX} {post : Int32 → SS → Prop} {t0 : Int32} {σ : SS} (hC : o_C X cX9_draw RX9 wsX9_draw 0 0 3) (hR : o_RI X cX9_draw post) (h : VB_X9_draw_17 post t0 σ) : o_G X σ 17 [] [.int t0] := by
  unfold VB_X9_draw_17 at h
  exact hR _ _ _ _ dX9_draw_17 h
set_option maxHeartbeats 4000000 in
set_option maxRecDepth 100000 in
theorem wv_X9_draw {X : OX} {x0 : Int64} {x2 : Int32} {post : Int32 → SS → Prop} {σ : SS} (hC : o_C X cX9_draw RX9 wsX9_draw 0 0 3) (hR : o_RI X cX9_draw post) (h : V_X9_draw x0 x2 σ post) : o_G X σ 0 [(0, .long x0), (2, .int x2)] [] := by
  unfold V_X9_draw at h
  refine g_iload_n hC 1 dX9_draw_0 rfl rfl ?_
  refine g_if_le hC 16 dX9_draw_1 (by decide) (fun z => ?_) (fun z => ?_)
  · have h := h.1 z
    refine g_iconst (v := (0 : Int32)) hC dX9_draw_16 (by decide) ?_
    refine g_sub [] rfl ?_
    exact wb_X9_draw_17 hC hR h
  · have h := h.2 z
    refine g_lload_n hC 0 dX9_draw_4 rfl rfl ?_
    refine g_ldc2 hC kw_X9_draw_1 dX9_draw_5 ?_
    refine g_ldiv hC (by decide) dX9_draw_8 ?_
    refine g_iload_n hC 1 dX9_draw_9 rfl rfl ?_
    refine g_i2l hC dX9_draw_10 ?_
    refine g_lrem hC h.1 dX9_draw_11 ?_
    have h := h.2
    refine g_l2i hC dX9_draw_12 ?_
    refine g_goto hC 17 dX9_draw_13 (by decide) ?_
    refine g_sub [] rfl ?_
    exact wb_X9_draw_17 hC hR h
set_option maxRecDepth 100000 in
theorem c_X9_draw {l : Launch} {φ : OI → Nat} {D : va_G} {cI cB : ClassId} (hJ : o_J φ) {x0 : Int64} {x2 : Int32} {σ : SS} {post : Int32 → SS → Prop} (h : V_X9_draw x0 x2 σ post) : o_Mi l φ D cI cB yX9_draw wsX9_draw 0 0 [.long x0, .int x2] σ post :=
 o_met_i hJ (by decide +kernel) rfl (Nat.le_of_ble_eq_true rfl) (fun p e s m args below meth c Q hC hR => wv_X9_draw hC hR h)
theorem kw_X9_tryYears_1 : Cond.fieldLink RX9 35 "SchoolRow" "trial" "LSchoolRow$Row;" ∈ wsX9_tryYears := List.mem_of_getElem? (i := 1) (by decide +kernel)
theorem kw_X9_tryYears_2 : Cond.fieldLink RX9 19 "SchoolRow" "school" "LSchoolRow$School;" ∈ wsX9_tryYears := List.mem_of_getElem? (i := 2) (by decide +kernel)
theorem ki_X9_tryYears_X9 : ∀ w ∈ wsX90, w ∈ wsX9_tryYears := fun _ h => List.mem_cons_of_mem _ (List.mem_append_left _ (List.mem_append_left _ (List.mem_append_left _ (List.mem_append_right _ h))))
theorem hd_X9_tryYears : yX9_tryYears.cls = RX9 ∧ yX9_tryYears.cls ≠ "java/lang/invoke/MethodHandle" ∧ yX9_tryYears.cls ≠ "java/lang/invoke/VarHandle" ∧ (parseMethodDescriptor yX9_tryYears.desc).map (fun d => d.parameters.length) = some 2 := by decide +kernel
set_option maxHeartbeats 4000000 in
set_option maxRecDepth 100000 in
theorem wb_X9_tryYears_110 {X : OX} {post : Int64 → SS → Prop} {K6 : Int32 → Int64 → Int32 → SS → Prop} {x1 : Int32} {x4 : Int64} {x6 : Int32} {σ : SS} (hC : o_C X cX9_tryYears RX9 wsX9_tryYears 3 74 10) (hR : o_RL X cX9_tryYears post) (hK6 : ∀ (x1 : Int32) (x4 : Int64) (x6 : Int32) (σ : SS), K6 x1 x4 x6 σ → o_G X σ 6 [(0, .ref (ox_φ X (0, 0, 0))), (1, .int x1), (4, .long x4), (6, .int x6)] []) (h : VB_X9_tryYears_110 post K6 x1 x4 x6 σ) : o_G X σ 110 [(0, .ref (ox_φ X (0, 0, 0))), (1, .int x1), (4, .long x4), (6, .int x6)] [] := by
  unfold VB_X9_tryYears_110 at h
  refine g_iinc (v := (x6 + (1 : Int32))) hC 3 [(6, .int (x6 + (1 : Int32))), (0, .ref (ox_φ X (0, 0, 0))), (1, .int x1), (4, .long x4)] dX9_tryYears_110 rfl rfl (by decide) rfl ?_
  refine g_goto hC 6 dX9_tryYears_113 (by decide) ?_
  refine g_sub [1, 2, 3, 0] rfl ?_
  exact hK6 _ _ _ _ h
set_option maxHeartbeats 4000000 in
set_option maxRecDepth 100000 in
theorem wb_X9_tryYears_6 {X : OX} {post : Int64 → SS → Prop} {K6 : Int32 → Int64 → Int32 → SS → Prop} {x1 : Int32} {x4 : Int64} {x6 : Int32} {σ : SS} (hC : o_C X cX9_tryYears RX9 wsX9_tryYears 3 74 10) (hR : o_RL X cX9_tryYears post) (hK6 : ∀ (x1 : Int32) (x4 : Int64) (x6 : Int32) (σ : SS), K6 x1 x4 x6 σ → o_G X σ 6 [(0, .ref (ox_φ X (0, 0, 0))), (1, .int x1), (4, .long x4), (6, .int x6)] []) (h : VB_X9_tryYears_6 post K6 x1 x4 x6 σ) : o_G X σ 6 [(0, .ref (ox_φ X (0, 0, 0))), (1, .int x1), (4, .long x4), (6, .int x6)] [] := by
  unfold VB_X9_tryYears_6 at h
  refine g_iload hC 3 dX9_tryYears_6 rfl ?_
  refine g_iload_n hC 1 dX9_tryYears_8 rfl rfl ?_
  refine g_icmp_ge hC 116 dX9_tryYears_9 (by decide) (fun z => ?_) (fun z => ?_)
  · have h := h.1 z
    refine g_lload hC 2 dX9_tryYears_116 rfl ?_
    exact hR _ _ _ _ dX9_tryYears_118 h
  · have h := h.2 z
    refine g_lload hC 2 dX9_tryYears_12 rfl ?_
    refine g_rl (r_S (As := [.long x4]) (rest := []) hC (c_X9_nextSeed (l := ox_l X) (φ := ox_φ X) (D := ox_D X) (cI := ox_I X) (cB := ox_B X) hC.J  h) gX9_tryYears_X9_nextSeed rfl hd_X9_nextSeed ⟨Nat.le_of_ble_eq_true rfl, Nat.le_of_ble_eq_true rfl⟩ rfl rfl (Nat.le_of_ble_eq_true rfl) dX9_tryYears_14) (fun v14 s14 h => ?_)
    refine g_lstore hC [(4, .long v14), (0, .ref (ox_φ X (0, 0, 0))), (1, .int x1), (6, .int x6)] dX9_tryYears_17 (by decide) rfl ?_
    refine g_lload hC 0 dX9_tryYears_19 rfl ?_
    refine g_bipush (v := (6 : Int32)) hC dX9_tryYears_21 (by decide) ?_
    refine g_ri (r_S (As := [.long v14, .int (6 : Int32)]) (rest := []) hC (c_X9_draw (l := ox_l X) (φ := ox_φ X) (D := ox_D X) (cI := ox_I X) (cB := ox_B X) hC.J  h) gX9_tryYears_X9_draw rfl hd_X9_draw ⟨Nat.le_of_ble_eq_true rfl, Nat.le_of_ble_eq_true rfl⟩ rfl rfl (Nat.le_of_ble_eq_true rfl) dX9_tryYears_23) (fun v23 s23 h => ?_)
    refine g_istore hC [(7, .int v23), (4, .long v14), (0, .ref (ox_φ X (0, 0, 0))), (1, .int x1), (6, .int x6)] dX9_tryYears_26 (by decide) rfl ?_
    refine g_iload hC 0 dX9_tryYears_28 rfl ?_
    refine g_iconst (v := (4 : Int32)) hC dX9_tryYears_30 (by decide) ?_
    refine g_icmp_ge hC 48 dX9_tryYears_31 (by decide) (fun z => ?_) (fun z => ?_)
    · have h := h.1 z
      refine g_iload hC 0 dX9_tryYears_48 rfl ?_
      refine g_iconst (v := (4 : Int32)) hC dX9_tryYears_50 (by decide) ?_
      refine g_icmp_ne hC 65 dX9_tryYears_51 (by decide) (fun z => ?_) (fun z => ?_)
      · have h := h.1 z
        refine g_lload hC 1 dX9_tryYears_65 rfl ?_
        refine g_rl (r_S (As := [.long v14]) (rest := []) hC (c_X9_nextSeed (l := ox_l X) (φ := ox_φ X) (D := ox_D X) (cI := ox_I X) (cB := ox_B X) hC.J  h) gX9_tryYears_X9_nextSeed rfl hd_X9_nextSeed ⟨Nat.le_of_ble_eq_true rfl, Nat.le_of_ble_eq_true rfl⟩ rfl rfl (Nat.le_of_ble_eq_true rfl) dX9_tryYears_67) (fun v67 s67 h => ?_)
        refine g_lstore hC [(8, .long v67), (7, .int v23), (4, .long v14), (0, .ref (ox_φ X (0, 0, 0))), (1, .int x1), (6, .int x6)] dX9_tryYears_70 (by decide) rfl ?_
        refine g_lload hC 0 dX9_tryYears_72 rfl ?_
        refine g_rl (r_S (As := [.long v67]) (rest := []) hC (c_X9_nextSeed (l := ox_l X) (φ := ox_φ X) (D := ox_D X) (cI := ox_I X) (cB := ox_B X) hC.J  h) gX9_tryYears_X9_nextSeed rfl hd_X9_nextSeed ⟨Nat.le_of_ble_eq_true rfl, Nat.le_of_ble_eq_true rfl⟩ rfl rfl (Nat.le_of_ble_eq_true rfl) dX9_tryYears_74) (fun v74 s74 h => ?_)
        refine g_lstore hC [(4, .long v74), (8, .long v67), (7, .int v23), (0, .ref (ox_φ X (0, 0, 0))), (1, .int x1), (6, .int x6)] dX9_tryYears_77 (by decide) rfl ?_
        refine g_aload_n hC 3 dX9_tryYears_79 rfl rfl ?_
        refine g_get (C := RX9) (T := TX9) (N := 9) (v := .ref (ox_φ X (3, 2, 0))) hC o_iX9 (o_eX9 _ _ _ _) rfl ki_X9_tryYears_X9 4 (by decide) kw_X9_tryYears_1 rfl dX9_tryYears_80 ?_
        refine g_lload hC 1 dX9_tryYears_83 rfl ?_
        refine g_aload_n hC 3 dX9_tryYears_85 rfl rfl ?_
        refine g_get (C := RX9) (T := TX9) (N := 9) (v := .ref (ox_φ X (2, 0, 0))) hC o_iX9 (o_eX9 _ _ _ _) rfl ki_X9_tryYears_X9 1 (by decide) kw_X9_tryYears_2 rfl dX9_tryYears_86 ?_
        refine g_ri (r_V (C := RX5) (T := TX5) (N := 8) (As := []) (rest := [.long v67, .ref (ox_φ X (3, 2, 0))]) hC o_iX5 (o_eX5 _ _ _ _) rfl (c_X5_size (l := ox_l X) (φ := ox_φ X) (D := ox_D X) (cI := ox_I X) (cB := ox_B X) hC.J  h) gX9_tryYears_X5_size rfl hd_X5_size ⟨Nat.le_of_ble_eq_true rfl, Nat.le_of_ble_eq_true rfl⟩ rfl rfl (Nat.le_of_ble_eq_true rfl) dX9_tryYears_89) (fun v89 s89 h => ?_)
        refine g_ri (r_S (As := [.long v67, .int v89]) (rest := [.ref (ox_φ X (3, 2, 0))]) hC (c_X9_draw (l := ox_l X) (φ := ox_φ X) (D := ox_D X) (cI := ox_I X) (cB := ox_B X) hC.J  h) gX9_tryYears_X9_draw rfl hd_X9_draw ⟨Nat.le_of_ble_eq_true rfl, Nat.le_of_ble_eq_true rfl⟩ rfl rfl (Nat.le_of_ble_eq_true rfl) dX9_tryYears_92) (fun v92 s92 h => ?_)
        refine g_lload hC 0 dX9_tryYears_95 rfl ?_
        refine g_aload_n hC 3 dX9_tryYears_97 rfl rfl ?_
        refine g_get (C := RX9) (T := TX9) (N := 9) (v := .ref (ox_φ X (2, 0, 0))) hC o_iX9 (o_eX9 _ _ _ _) rfl ki_X9_tryYears_X9 1 (by decide) kw_X9_tryYears_2 rfl dX9_tryYears_98 ?_
        refine g_ri (r_V (C := RX5) (T := TX5) (N := 8) (As := []) (rest := [.long v74, .int v92, .ref (ox_φ X (3, 2, 0))]) hC o_iX5 (o_eX5 _ _ _ _) rfl (c_X5_size (l := ox_l X) (φ := ox_φ X) (D := ox_D X) (cI := ox_I X) (cB := ox_B X) hC.J  h) gX9_tryYears_X5_size rfl hd_X5_size ⟨Nat.le_of_ble_eq_true rfl, Nat.le_of_ble_eq_true rfl⟩ rfl rfl (Nat.le_of_ble_eq_true rfl) dX9_tryYears_101) (fun v101 s101 h => ?_)
        refine g_ri (r_S (As := [.long v74, .int v101]) (rest := [.int v92, .ref (ox_φ X (3, 2, 0))]) hC (c_X9_draw (l := ox_l X) (φ := ox_φ X) (D := ox_D X) (cI := ox_I X) (cB := ox_B X) hC.J  h) gX9_tryYears_X9_draw rfl hd_X9_draw ⟨Nat.le_of_ble_eq_true rfl, Nat.le_of_ble_eq_true rfl⟩ rfl rfl (Nat.le_of_ble_eq_true rfl) dX9_tryYears_104) (fun v104 s104 h => ?_)
        refine g_rv (r_V (C := RX4) (T := TX4) (N := 6) (As := [.int v92, .int v104]) (rest := []) hC (o_in3 2 (by decide)) (o_eX4 _ _ _ _ _) rfl (c_X4_changeSeats (l := ox_l X) (φ := ox_φ X) (D := ox_D X) (cI := ox_I X) (cB := ox_B X) hC.J (by decide) h) gX9_tryYears_X4_changeSeats rfl hd_X4_changeSeats ⟨Nat.le_of_ble_eq_true rfl, Nat.le_of_ble_eq_true rfl⟩ rfl rfl (Nat.le_of_ble_eq_true rfl) dX9_tryYears_107) (fun s107 h => ?_)
        refine g_sub [3, 4, 0, 5] rfl ?_
        exact wb_X9_tryYears_110 hC hR hK6 h
      · have h := h.2 z
        refine g_aload_n hC 2 dX9_tryYears_54 rfl rfl ?_
        refine g_get (C := RX9) (T := TX9) (N := 9) (v := .ref (ox_φ X (3, 2, 0))) hC o_iX9 (o_eX9 _ _ _ _) rfl ki_X9_tryYears_X9 4 (by decide) kw_X9_tryYears_1 rfl dX9_tryYears_55 ?_
        refine g_ri (r_V (C := RX4) (T := TX4) (N := 6) (As := []) (rest := []) hC (o_in3 2 (by decide)) (o_eX4 _ _ _ _ _) rfl (c_X4_passSummer (l := ox_l X) (φ := ox_φ X) (D := ox_D X) (cI := ox_I X) (cB := ox_B X) hC.J (by decide) h) gX9_tryYears_X4_passSummer rfl hd_X4_passSummer ⟨Nat.le_of_ble_eq_true rfl, Nat.le_of_ble_eq_true rfl⟩ rfl rfl (Nat.le_of_ble_eq_true rfl) dX9_tryYears_58) (fun v58 s58 h => ?_)
        refine g_pop hC dX9_tryYears_61 rfl ?_
        refine g_goto hC 110 dX9_tryYears_62 (by decide) ?_
        refine g_sub [2, 3, 1, 4] rfl ?_
        exact wb_X9_tryYears_110 hC hR hK6 h
    · have h := h.2 z
      refine g_aload_n hC 2 dX9_tryYears_34 rfl rfl ?_
      refine g_get (C := RX9) (T := TX9) (N := 9) (v := .ref (ox_φ X (3, 2, 0))) hC o_iX9 (o_eX9 _ _ _ _) rfl ki_X9_tryYears_X9 4 (by decide) kw_X9_tryYears_1 rfl dX9_tryYears_35 ?_
      refine g_iload hC 0 dX9_tryYears_38 rfl ?_
      refine g_iconst (v := (0 : Int32)) hC dX9_tryYears_40 (by decide) ?_
      refine g_ri (r_V (C := RX4) (T := TX4) (N := 6) (As := [.int v23, .int (0 : Int32)]) (rest := []) hC (o_in3 2 (by decide)) (o_eX4 _ _ _ _ _) rfl (c_X4_teachDown (l := ox_l X) (φ := ox_φ X) (D := ox_D X) (cI := ox_I X) (cB := ox_B X) hC.J (by decide) h) gX9_tryYears_X4_teachDown rfl hd_X4_teachDown ⟨Nat.le_of_ble_eq_true rfl, Nat.le_of_ble_eq_true rfl⟩ rfl rfl (Nat.le_of_ble_eq_true rfl) dX9_tryYears_41) (fun v41 s41 h => ?_)
      refine g_pop hC dX9_tryYears_44 rfl ?_
      refine g_goto hC 110 dX9_tryYears_45 (by decide) ?_
      refine g_sub [2, 3, 1, 4] rfl ?_
      exact wb_X9_tryYears_110 hC hR hK6 h
set_option maxHeartbeats 4000000 in
set_option maxRecDepth 100000 in
theorem lp_X9_tryYears_6 {X : OX} {post : Int64 → SS → Prop} (hC : o_C X cX9_tryYears RX9 wsX9_tryYears 3 74 10) (hR : o_RL X cX9_tryYears post) : ∀ (n : Nat) (a : Int32 × Int64 × Int32) (σ : SS), LP_X9_tryYears_6 post n a σ → o_G X σ 6 [(0, .ref (ox_φ X (0, 0, 0))), (1, .int a.1), (4, .long a.2.1), (6, .int a.2.2)] [] :=
 o_lp_G (fun K hK a σ h => wb_X9_tryYears_6 hC hR (fun x1 x4 x6 σ h => hK (x1, x4, x6) σ h) h)
set_option maxHeartbeats 4000000 in
set_option maxRecDepth 100000 in
theorem wv_X9_tryYears {X : OX} {x1 : Int32} {x2 : Int64} {post : Int64 → SS → Prop} {σ : SS} (hC : o_C X cX9_tryYears RX9 wsX9_tryYears 3 74 10) (hR : o_RL X cX9_tryYears post) (h : V_X9_tryYears x1 x2 σ post) : o_G X σ 0 [(0, .ref (ox_φ X (0, 0, 0))), (1, .int x1), (2, .long x2)] [] := by
  unfold V_X9_tryYears at h
  refine g_lload_n hC 2 dX9_tryYears_0 rfl rfl ?_
  refine g_lstore hC [(4, .long x2), (0, .ref (ox_φ X (0, 0, 0))), (1, .int x1), (2, .long x2)] dX9_tryYears_1 (by decide) rfl ?_
  refine g_iconst (v := (0 : Int32)) hC dX9_tryYears_3 (by decide) ?_
  refine g_istore hC [(6, .int (0 : Int32)), (4, .long x2), (0, .ref (ox_φ X (0, 0, 0))), (1, .int x1), (2, .long x2)] dX9_tryYears_4 (by decide) rfl ?_
  refine g_sub [2, 3, 1, 0] rfl ?_
  obtain ⟨n, h⟩ := h
  exact lp_X9_tryYears_6 hC hR n _ _ h
set_option maxRecDepth 100000 in
theorem c_X9_tryYears {l : Launch} {φ : OI → Nat} {D : va_G} {cI cB : ClassId} (hJ : o_J φ) {x1 : Int32} {x2 : Int64} {σ : SS} {post : Int64 → SS → Prop} (h : V_X9_tryYears x1 x2 σ post) : o_Ml l φ D cI cB yX9_tryYears wsX9_tryYears 3 74 [.ref (φ (0, 0, 0)), .int x1, .long x2] σ post :=
 o_met_l hJ (by decide +kernel) rfl (Nat.le_of_ble_eq_true rfl) (fun p e s m args below meth c Q hC hR => wv_X9_tryYears hC hR h)
theorem kw_X9_years_1 : Cond.fieldLink RX9 35 "SchoolRow" "trial" "LSchoolRow$Row;" ∈ wsX9_years := List.mem_of_getElem? (i := 1) (by decide +kernel)
theorem kw_X9_years_2 : Cond.fieldLink RX9 28 "SchoolRow" "now" "LSchoolRow$Row;" ∈ wsX9_years := List.mem_of_getElem? (i := 2) (by decide +kernel)
theorem ki_X9_years_X9 : ∀ w ∈ wsX90, w ∈ wsX9_years := fun _ h => List.mem_cons_of_mem _ (List.mem_append_left _ (List.mem_append_left _ (List.mem_append_left _ (List.mem_append_right _ h))))
theorem hd_X9_years : yX9_years.cls = RX9 ∧ yX9_years.cls ≠ "java/lang/invoke/MethodHandle" ∧ yX9_years.cls ≠ "java/lang/invoke/VarHandle" ∧ (parseMethodDescriptor yX9_years.desc).map (fun d => d.parameters.length) = some 3 := by decide +kernel
set_option maxHeartbeats 4000000 in
set_option maxRecDepth 100000 in
theorem wb_X9_years_24 {X : OX} {post : Int32 → SS → Prop} {σ : SS} (hC : o_C X cX9_years RX9 wsX9_years 4 103 6) (hR : o_RI X cX9_years post) (h : VB_X9_years_24 post σ) : o_G X σ 24 [] [] := by
  unfold VB_X9_years_24 at h
  refine g_bipush (v := (-102 : Int32)) hC dX9_years_24 (by decide) ?_
  exact hR _ _ _ _ dX9_years_26 h
set_option maxHeartbeats 4000000 in
set_option maxRecDepth 100000 in
theorem wb_X9_years_87 {X : OX} {post : Int32 → SS → Prop} {t0 : Int32} {σ : SS} (hC : o_C X cX9_years RX9 wsX9_years 4 103 6) (hR : o_RI X cX9_years post) (h : VB_X9_years_87 post t0 σ) : o_G X σ 87 [] [.int t0] := by
  unfold VB_X9_years_87 at h
  exact hR _ _ _ _ dX9_years_87 h
set_option maxHeartbeats 4000000 in
set_option maxRecDepth 100000 in
theorem wv_X9_years {X : OX} {x1 : Int32} {x2 : Int32} {x3 : Int32} {post : Int32 → SS → Prop} {σ : SS} (hC : o_C X cX9_years RX9 wsX9_years 4 103 6) (hR : o_RI X cX9_years post) (h : V_X9_years x1 x2 x3 σ post) : o_G X σ 0 [(0, .ref (ox_φ X (0, 0, 0))), (1, .int x1), (2, .int x2), (3, .int x3)] [] := by
  unfold V_X9_years at h
  refine g_iload_n hC 1 dX9_years_0 rfl rfl ?_
  refine g_iconst (v := (1 : Int32)) hC dX9_years_1 (by decide) ?_
  refine g_icmp_lt hC 24 dX9_years_2 (by decide) (fun z => ?_) (fun z => ?_)
  · have h := h.1 z
    refine g_sub [] rfl ?_
    exact wb_X9_years_24 hC hR h
  · have h := h.2 z
    refine g_iload_n hC 1 dX9_years_5 rfl rfl ?_
    refine g_bipush (v := (60 : Int32)) hC dX9_years_6 (by decide) ?_
    refine g_icmp_gt hC 24 dX9_years_8 (by decide) (fun z => ?_) (fun z => ?_)
    · have h := h.1 z
      refine g_sub [] rfl ?_
      exact wb_X9_years_24 hC hR h
    · have h := h.2 z
      refine g_iload_n hC 2 dX9_years_11 rfl rfl ?_
      refine g_if_lt hC 24 dX9_years_12 (by decide) (fun z => ?_) (fun z => ?_)
      · have h := h.1 z
        refine g_sub [] rfl ?_
        exact wb_X9_years_24 hC hR h
      · have h := h.2 z
        refine g_iload_n hC 3 dX9_years_15 rfl rfl ?_
        refine g_if_lt hC 24 dX9_years_16 (by decide) (fun z => ?_) (fun z => ?_)
        · have h := h.1 z
          refine g_sub [] rfl ?_
          exact wb_X9_years_24 hC hR h
        · have h := h.2 z
          refine g_iload_n hC 3 dX9_years_19 rfl rfl ?_
          refine g_iconst (v := (2 : Int32)) hC dX9_years_20 (by decide) ?_
          refine g_icmp_le hC 27 dX9_years_21 (by decide) (fun z => ?_) (fun z => ?_)
          · have h := h.1 z
            refine g_aload_n hC 0 dX9_years_27 rfl rfl ?_
            refine g_ri (r_V (C := RX9) (T := TX9) (N := 9) (As := []) (rest := []) hC o_iX9 (o_eX9 _ _ _ _) rfl (c_X9_hasSchool (l := ox_l X) (φ := ox_φ X) (D := ox_D X) (cI := ox_I X) (cB := ox_B X) hC.J  h) gX9_years_X9_hasSchool rfl hd_X9_hasSchool ⟨Nat.le_of_ble_eq_true rfl, Nat.le_of_ble_eq_true rfl⟩ rfl rfl (Nat.le_of_ble_eq_true rfl) dX9_years_28) (fun v28 s28 h => ?_)
            refine g_if_ne hC 37 dX9_years_31 (by decide) (fun z => ?_) (fun z => ?_)
            · have h := h.1 z
              refine g_aload_n hC 0 dX9_years_37 rfl rfl ?_
              refine g_get (C := RX9) (T := TX9) (N := 9) (v := .ref (ox_φ X (3, 2, 0))) hC o_iX9 (o_eX9 _ _ _ _) rfl ki_X9_years_X9 4 (by decide) kw_X9_years_1 rfl dX9_years_38 ?_
              refine g_aload_n hC 0 dX9_years_41 rfl rfl ?_
              refine g_get (C := RX9) (T := TX9) (N := 9) (v := .ref (ox_φ X (3, 0, 0))) hC o_iX9 (o_eX9 _ _ _ _) rfl ki_X9_years_X9 2 (by decide) kw_X9_years_2 rfl dX9_years_42 ?_
              refine g_rv (r_V (C := RX4) (T := TX4) (N := 6) (As := [.ref (ox_φ X (3, 0, 0))]) (rest := []) hC (o_in3 2 (by decide)) (o_eX4 _ _ _ _ _) rfl (c_X4_copyFrom (l := ox_l X) (φ := ox_φ X) (D := ox_D X) (cI := ox_I X) (cB := ox_B X) hC.J (by decide) (by decide) h) gX9_years_X4_copyFrom rfl hd_X4_copyFrom ⟨Nat.le_of_ble_eq_true rfl, Nat.le_of_ble_eq_true rfl⟩ rfl rfl (Nat.le_of_ble_eq_true rfl) dX9_years_45) (fun s45 h => ?_)
              refine g_aload_n hC 0 dX9_years_48 rfl rfl ?_
              refine g_iload_n hC 1 dX9_years_49 rfl rfl ?_
              refine g_iload_n hC 2 dX9_years_50 rfl rfl ?_
              refine g_i2l hC dX9_years_51 ?_
              refine g_rl (r_V (C := RX9) (T := TX9) (N := 9) (As := [.int x1, .long (x2).toInt64]) (rest := []) hC o_iX9 (o_eX9 _ _ _ _) rfl (c_X9_tryYears (l := ox_l X) (φ := ox_φ X) (D := ox_D X) (cI := ox_I X) (cB := ox_B X) hC.J  h) gX9_years_X9_tryYears rfl hd_X9_tryYears ⟨Nat.le_of_ble_eq_true rfl, Nat.le_of_ble_eq_true rfl⟩ rfl rfl (Nat.le_of_ble_eq_true rfl) dX9_years_52) (fun v52 s52 h => ?_)
              refine g_lstore hC [(4, .long v52), (0, .ref (ox_φ X (0, 0, 0))), (1, .int x1), (2, .int x2), (3, .int x3)] dX9_years_55 (by decide) rfl ?_
              refine g_iload_n hC 4 dX9_years_57 rfl rfl ?_
              refine g_if_ne hC 69 dX9_years_58 (by decide) (fun z => ?_) (fun z => ?_)
              · have h := h.1 z
                refine g_iload_n hC 4 dX9_years_69 rfl rfl ?_
                refine g_iconst (v := (1 : Int32)) hC dX9_years_70 (by decide) ?_
                refine g_icmp_ne hC 84 dX9_years_71 (by decide) (fun z => ?_) (fun z => ?_)
                · have h := h.1 z
                  refine g_lload hC 0 dX9_years_84 rfl ?_
                  refine g_l2i hC dX9_years_86 ?_
                  refine g_sub [] rfl ?_
                  exact wb_X9_years_87 hC hR h
                · have h := h.2 z
                  refine g_aload_n hC 1 dX9_years_74 rfl rfl ?_
                  refine g_get (C := RX9) (T := TX9) (N := 9) (v := .ref (ox_φ X (3, 2, 0))) hC o_iX9 (o_eX9 _ _ _ _) rfl ki_X9_years_X9 4 (by decide) kw_X9_years_1 rfl dX9_years_75 ?_
                  refine g_ri (r_V (C := RX4) (T := TX4) (N := 6) (As := []) (rest := []) hC (o_in3 2 (by decide)) (o_eX4 _ _ _ _ _) rfl (c_X4_mistakesOfAll (l := ox_l X) (φ := ox_φ X) (D := ox_D X) (cI := ox_I X) (cB := ox_B X) hC.J (by decide) h) gX9_years_X4_mistakesOfAll rfl hd_X4_mistakesOfAll ⟨Nat.le_of_ble_eq_true rfl, Nat.le_of_ble_eq_true rfl⟩ rfl rfl (Nat.le_of_ble_eq_true rfl) dX9_years_78) (fun v78 s78 h => ?_)
                  refine g_goto hC 87 dX9_years_81 (by decide) ?_
                  refine g_sub [] rfl ?_
                  exact wb_X9_years_87 hC hR h
              · have h := h.2 z
                refine g_aload_n hC 1 dX9_years_61 rfl rfl ?_
                refine g_get (C := RX9) (T := TX9) (N := 9) (v := .ref (ox_φ X (3, 2, 0))) hC o_iX9 (o_eX9 _ _ _ _) rfl ki_X9_years_X9 4 (by decide) kw_X9_years_1 rfl dX9_years_62 ?_
                refine g_ri (r_V (C := RX4) (T := TX4) (N := 6) (As := []) (rest := []) hC (o_in3 2 (by decide)) (o_eX4 _ _ _ _ _) rfl (c_X4_partsOfAll (l := ox_l X) (φ := ox_φ X) (D := ox_D X) (cI := ox_I X) (cB := ox_B X) hC.J (by decide) h) gX9_years_X4_partsOfAll rfl hd_X4_partsOfAll ⟨Nat.le_of_ble_eq_true rfl, Nat.le_of_ble_eq_true rfl⟩ rfl rfl (Nat.le_of_ble_eq_true rfl) dX9_years_65) (fun v65 s65 h => ?_)
                exact hR _ _ _ _ dX9_years_68 h
            · have h := h.2 z
              refine g_bipush (v := (-103 : Int32)) hC dX9_years_34 (by decide) ?_
              exact hR _ _ _ _ dX9_years_36 h
          · have h := h.2 z
            refine g_sub [] rfl ?_
            exact wb_X9_years_24 hC hR h
set_option maxRecDepth 100000 in
theorem c_X9_years {l : Launch} {φ : OI → Nat} {D : va_G} {cI cB : ClassId} (hJ : o_J φ) {x1 : Int32} {x2 : Int32} {x3 : Int32} {σ : SS} {post : Int32 → SS → Prop} (h : V_X9_years x1 x2 x3 σ post) : o_Mi l φ D cI cB yX9_years wsX9_years 4 103 [.ref (φ (0, 0, 0)), .int x1, .int x2, .int x3] σ post :=
 o_met_i hJ (by decide +kernel) rfl (Nat.le_of_ble_eq_true rfl) (fun p e s m args below meth c Q hC hR => wv_X9_years hC hR h)
theorem kw_X9_image_1 : Cond.fieldLink RX9 32 "SchoolRow" "kept" "LSchoolRow$Row;" ∈ wsX9_image := List.mem_of_getElem? (i := 1) (by decide +kernel)
theorem kw_X9_image_2 : Cond.fieldLink RX9 28 "SchoolRow" "now" "LSchoolRow$Row;" ∈ wsX9_image := List.mem_of_getElem? (i := 2) (by decide +kernel)
theorem kw_X9_image_3 : Cond.fieldLink RX9 66 "SchoolRow" "keptStands" "Z" ∈ wsX9_image := List.mem_of_getElem? (i := 3) (by decide +kernel)
theorem kw_X9_image_4 : Cond.fieldLink RX9 19 "SchoolRow" "school" "LSchoolRow$School;" ∈ wsX9_image := List.mem_of_getElem? (i := 4) (by decide +kernel)
theorem ki_X9_image_X9 : ∀ w ∈ wsX90, w ∈ wsX9_image := fun _ h => List.mem_cons_of_mem _ (List.mem_append_left _ (List.mem_append_left _ (List.mem_append_left _ (List.mem_append_right _ h))))
theorem hd_X9_image : yX9_image.cls = RX9 ∧ yX9_image.cls ≠ "java/lang/invoke/MethodHandle" ∧ yX9_image.cls ≠ "java/lang/invoke/VarHandle" ∧ (parseMethodDescriptor yX9_image.desc).map (fun d => d.parameters.length) = some 0 := by decide +kernel
set_option maxHeartbeats 4000000 in
set_option maxRecDepth 100000 in
theorem wv_X9_image {X : OX} {post : Int32 → SS → Prop} {σ : SS} (hC : o_C X cX9_image RX9 wsX9_image 3 64 1) (hR : o_RI X cX9_image post) (h : V_X9_image σ post) : o_G X σ 0 [(0, .ref (ox_φ X (0, 0, 0)))] [] := by
  unfold V_X9_image at h
  refine g_aload_n hC 0 dX9_image_0 rfl rfl ?_
  refine g_ri (r_V (C := RX9) (T := TX9) (N := 9) (As := []) (rest := []) hC o_iX9 (o_eX9 _ _ _ _) rfl (c_X9_hasSchool (l := ox_l X) (φ := ox_φ X) (D := ox_D X) (cI := ox_I X) (cB := ox_B X) hC.J  h) gX9_image_X9_hasSchool rfl hd_X9_hasSchool ⟨Nat.le_of_ble_eq_true rfl, Nat.le_of_ble_eq_true rfl⟩ rfl rfl (Nat.le_of_ble_eq_true rfl) dX9_image_1) (fun v1 s1 h => ?_)
  refine g_if_ne hC 10 dX9_image_4 (by decide) (fun z => ?_) (fun z => ?_)
  · have h := h.1 z
    refine g_aload_n hC 0 dX9_image_10 rfl rfl ?_
    refine g_get (C := RX9) (T := TX9) (N := 9) (v := .ref (ox_φ X (3, 1, 0))) hC o_iX9 (o_eX9 _ _ _ _) rfl ki_X9_image_X9 3 (by decide) kw_X9_image_1 rfl dX9_image_11 ?_
    refine g_aload_n hC 0 dX9_image_14 rfl rfl ?_
    refine g_get (C := RX9) (T := TX9) (N := 9) (v := .ref (ox_φ X (3, 0, 0))) hC o_iX9 (o_eX9 _ _ _ _) rfl ki_X9_image_X9 2 (by decide) kw_X9_image_2 rfl dX9_image_15 ?_
    refine g_rv (r_V (C := RX4) (T := TX4) (N := 6) (As := [.ref (ox_φ X (3, 0, 0))]) (rest := []) hC (o_in3 1 (by decide)) (o_eX4 _ _ _ _ _) rfl (c_X4_copyFrom (l := ox_l X) (φ := ox_φ X) (D := ox_D X) (cI := ox_I X) (cB := ox_B X) hC.J (by decide) (by decide) h) gX9_image_X4_copyFrom rfl hd_X4_copyFrom ⟨Nat.le_of_ble_eq_true rfl, Nat.le_of_ble_eq_true rfl⟩ rfl rfl (Nat.le_of_ble_eq_true rfl) dX9_image_18) (fun s18 h => ?_)
    refine g_aload_n hC 0 dX9_image_21 rfl rfl ?_
    refine g_iconst (v := (1 : Int32)) hC dX9_image_22 (by decide) ?_
    refine g_puti (C := RX9) (T := TX9) (N := 9) hC o_iX9 (o_eX9 _ _ _ _) rfl ki_X9_image_X9 tyX9_ok nmX9 6 (by decide) kw_X9_image_3 rfl rfl rfl (Nat.le_of_ble_eq_true rfl) (o_pX9_6 _ _ _ _ _) dX9_image_23 ?_
    refine g_aload_n hC 0 dX9_image_26 rfl rfl ?_
    refine g_get (C := RX9) (T := TX9) (N := 9) (v := .ref (ox_φ X (2, 0, 0))) hC o_iX9 (o_eX9 _ _ _ _) rfl ki_X9_image_X9 1 (by decide) kw_X9_image_4 rfl dX9_image_27 ?_
    refine g_ri (r_V (C := RX5) (T := TX5) (N := 8) (As := []) (rest := []) hC o_iX5 (o_eX5 _ _ _ _) rfl (c_X5_size (l := ox_l X) (φ := ox_φ X) (D := ox_D X) (cI := ox_I X) (cB := ox_B X) hC.J  h) gX9_image_X5_size rfl hd_X5_size ⟨Nat.le_of_ble_eq_true rfl, Nat.le_of_ble_eq_true rfl⟩ rfl rfl (Nat.le_of_ble_eq_true rfl) dX9_image_30) (fun v30 s30 h => ?_)
    exact hR _ _ _ _ dX9_image_33 h
  · have h := h.2 z
    refine g_bipush (v := (-103 : Int32)) hC dX9_image_7 (by decide) ?_
    exact hR _ _ _ _ dX9_image_9 h
set_option maxRecDepth 100000 in
theorem c_X9_image {l : Launch} {φ : OI → Nat} {D : va_G} {cI cB : ClassId} (hJ : o_J φ) {σ : SS} {post : Int32 → SS → Prop} (h : V_X9_image σ post) : o_Mi l φ D cI cB yX9_image wsX9_image 3 64 [.ref (φ (0, 0, 0))] σ post :=
 o_met_i hJ (by decide +kernel) rfl (Nat.le_of_ble_eq_true rfl) (fun p e s m args below meth c Q hC hR => wv_X9_image hC hR h)
theorem kw_X9_restore_1 : Cond.fieldLink RX9 66 "SchoolRow" "keptStands" "Z" ∈ wsX9_restore := List.mem_of_getElem? (i := 1) (by decide +kernel)
theorem kw_X9_restore_2 : Cond.fieldLink RX9 28 "SchoolRow" "now" "LSchoolRow$Row;" ∈ wsX9_restore := List.mem_of_getElem? (i := 2) (by decide +kernel)
theorem kw_X9_restore_3 : Cond.fieldLink RX9 32 "SchoolRow" "kept" "LSchoolRow$Row;" ∈ wsX9_restore := List.mem_of_getElem? (i := 3) (by decide +kernel)
theorem kw_X9_restore_4 : Cond.fieldLink RX9 19 "SchoolRow" "school" "LSchoolRow$School;" ∈ wsX9_restore := List.mem_of_getElem? (i := 4) (by decide +kernel)
theorem ki_X9_restore_X9 : ∀ w ∈ wsX90, w ∈ wsX9_restore := fun _ h => List.mem_cons_of_mem _ (List.mem_append_left _ (List.mem_append_left _ (List.mem_append_left _ (List.mem_append_right _ h))))
theorem hd_X9_restore : yX9_restore.cls = RX9 ∧ yX9_restore.cls ≠ "java/lang/invoke/MethodHandle" ∧ yX9_restore.cls ≠ "java/lang/invoke/VarHandle" ∧ (parseMethodDescriptor yX9_restore.desc).map (fun d => d.parameters.length) = some 0 := by decide +kernel
set_option maxHeartbeats 4000000 in
set_option maxRecDepth 100000 in
theorem wv_X9_restore {X : OX} {post : Int32 → SS → Prop} {σ : SS} (hC : o_C X cX9_restore RX9 wsX9_restore 3 64 1) (hR : o_RI X cX9_restore post) (h : V_X9_restore σ post) : o_G X σ 0 [(0, .ref (ox_φ X (0, 0, 0)))] [] := by
  unfold V_X9_restore at h
  refine g_aload_n hC 0 dX9_restore_0 rfl rfl ?_
  refine g_get (C := RX9) (T := TX9) (N := 9) (v := .int (σ.1 (0, 0, 0) 6)) hC o_iX9 (o_eX9 _ _ _ _) rfl ki_X9_restore_X9 6 (by decide) kw_X9_restore_1 rfl dX9_restore_1 ?_
  refine g_if_ne hC 10 dX9_restore_4 (by decide) (fun z => ?_) (fun z => ?_)
  · have h := h.1 z
    refine g_aload_n hC 0 dX9_restore_10 rfl rfl ?_
    refine g_get (C := RX9) (T := TX9) (N := 9) (v := .ref (ox_φ X (3, 0, 0))) hC o_iX9 (o_eX9 _ _ _ _) rfl ki_X9_restore_X9 2 (by decide) kw_X9_restore_2 rfl dX9_restore_11 ?_
    refine g_aload_n hC 0 dX9_restore_14 rfl rfl ?_
    refine g_get (C := RX9) (T := TX9) (N := 9) (v := .ref (ox_φ X (3, 1, 0))) hC o_iX9 (o_eX9 _ _ _ _) rfl ki_X9_restore_X9 3 (by decide) kw_X9_restore_3 rfl dX9_restore_15 ?_
    refine g_rv (r_V (C := RX4) (T := TX4) (N := 6) (As := [.ref (ox_φ X (3, 1, 0))]) (rest := []) hC (o_in3 0 (by decide)) (o_eX4 _ _ _ _ _) rfl (c_X4_copyFrom (l := ox_l X) (φ := ox_φ X) (D := ox_D X) (cI := ox_I X) (cB := ox_B X) hC.J (by decide) (by decide) h) gX9_restore_X4_copyFrom rfl hd_X4_copyFrom ⟨Nat.le_of_ble_eq_true rfl, Nat.le_of_ble_eq_true rfl⟩ rfl rfl (Nat.le_of_ble_eq_true rfl) dX9_restore_18) (fun s18 h => ?_)
    refine g_aload_n hC 0 dX9_restore_21 rfl rfl ?_
    refine g_get (C := RX9) (T := TX9) (N := 9) (v := .ref (ox_φ X (2, 0, 0))) hC o_iX9 (o_eX9 _ _ _ _) rfl ki_X9_restore_X9 1 (by decide) kw_X9_restore_4 rfl dX9_restore_22 ?_
    refine g_ri (r_V (C := RX5) (T := TX5) (N := 8) (As := []) (rest := []) hC o_iX5 (o_eX5 _ _ _ _) rfl (c_X5_size (l := ox_l X) (φ := ox_φ X) (D := ox_D X) (cI := ox_I X) (cB := ox_B X) hC.J  h) gX9_restore_X5_size rfl hd_X5_size ⟨Nat.le_of_ble_eq_true rfl, Nat.le_of_ble_eq_true rfl⟩ rfl rfl (Nat.le_of_ble_eq_true rfl) dX9_restore_25) (fun v25 s25 h => ?_)
    exact hR _ _ _ _ dX9_restore_28 h
  · have h := h.2 z
    refine g_bipush (v := (-103 : Int32)) hC dX9_restore_7 (by decide) ?_
    exact hR _ _ _ _ dX9_restore_9 h
set_option maxRecDepth 100000 in
theorem c_X9_restore {l : Launch} {φ : OI → Nat} {D : va_G} {cI cB : ClassId} (hJ : o_J φ) {σ : SS} {post : Int32 → SS → Prop} (h : V_X9_restore σ post) : o_Mi l φ D cI cB yX9_restore wsX9_restore 3 64 [.ref (φ (0, 0, 0))] σ post :=
 o_met_i hJ (by decide +kernel) rfl (Nat.le_of_ble_eq_true rfl) (fun p e s m args below meth c Q hC hR => wv_X9_restore hC hR h)
theorem kw_X9_count_1 : Cond.fieldLink RX9 19 "SchoolRow" "school" "LSchoolRow$School;" ∈ wsX9_count := List.mem_of_getElem? (i := 1) (by decide +kernel)
theorem kw_X9_count_2 : Cond.fieldLink RX9 28 "SchoolRow" "now" "LSchoolRow$Row;" ∈ wsX9_count := List.mem_of_getElem? (i := 2) (by decide +kernel)
theorem kw_X9_count_3 : Cond.fieldLink RX9 12 "SchoolRow" "page" "LSchoolRow$Page;" ∈ wsX9_count := List.mem_of_getElem? (i := 3) (by decide +kernel)
theorem kw_X9_count_4 : Cond.fieldLink RX9 73 "SchoolRow" "schoolsRead" "I" ∈ wsX9_count := List.mem_of_getElem? (i := 4) (by decide +kernel)
theorem ki_X9_count_X9 : ∀ w ∈ wsX90, w ∈ wsX9_count := fun _ h => List.mem_cons_of_mem _ (List.mem_append_left _ (List.mem_append_left _ (List.mem_append_left _ (List.mem_append_left _ (List.mem_append_right _ h)))))
theorem hd_X9_count : yX9_count.cls = RX9 ∧ yX9_count.cls ≠ "java/lang/invoke/MethodHandle" ∧ yX9_count.cls ≠ "java/lang/invoke/VarHandle" ∧ (parseMethodDescriptor yX9_count.desc).map (fun d => d.parameters.length) = some 1 := by decide +kernel
set_option maxHeartbeats 4000000 in
set_option maxRecDepth 100000 in
theorem wb_X9_count_19 {X : OX} {post : Int32 → SS → Prop} {x1 : Int32} {σ : SS} (hC : o_C X cX9_count RX9 wsX9_count 3 62 2) (hR : o_RI X cX9_count post) (h : VB_X9_count_19 post x1 σ) : o_G X σ 19 [(0, .ref (ox_φ X (0, 0, 0))), (1, .int x1)] [] := by
  unfold VB_X9_count_19 at h
  refine g_iload_n hC 1 dX9_count_19 rfl rfl ?_
  by_cases z0 : x1 = (6 : Int32)
  · have h := h.1 z0
    refine g_tabIn hC (6 : Int32) z0 60 dX9_count_20 (by decide) (by decide) rfl (by decide) ?_
    refine g_aload_n hC 0 dX9_count_60 rfl rfl ?_
    refine g_get (C := RX9) (T := TX9) (N := 9) (v := .ref (ox_φ X (2, 0, 0))) hC o_iX9 (o_eX9 _ _ _ _) rfl ki_X9_count_X9 1 (by decide) kw_X9_count_1 rfl dX9_count_61 ?_
    refine g_ri (r_V (C := RX5) (T := TX5) (N := 8) (As := []) (rest := []) hC o_iX5 (o_eX5 _ _ _ _) rfl (c_X5_size (l := ox_l X) (φ := ox_φ X) (D := ox_D X) (cI := ox_I X) (cB := ox_B X) hC.J  h) gX9_count_X5_size rfl hd_X5_size ⟨Nat.le_of_ble_eq_true rfl, Nat.le_of_ble_eq_true rfl⟩ rfl rfl (Nat.le_of_ble_eq_true rfl) dX9_count_64) (fun v64 s64 h => ?_)
    exact hR _ _ _ _ dX9_count_67 h
  · skip
    by_cases z1 : x1 = (7 : Int32)
    · have h := h.2.1 z1
      refine g_tabIn hC (7 : Int32) z1 68 dX9_count_20 (by decide) (by decide) rfl (by decide) ?_
      refine g_aload_n hC 0 dX9_count_68 rfl rfl ?_
      refine g_get (C := RX9) (T := TX9) (N := 9) (v := .ref (ox_φ X (3, 0, 0))) hC o_iX9 (o_eX9 _ _ _ _) rfl ki_X9_count_X9 2 (by decide) kw_X9_count_2 rfl dX9_count_69 ?_
      refine g_ri (r_V (C := RX4) (T := TX4) (N := 6) (As := []) (rest := []) hC (o_in3 0 (by decide)) (o_eX4 _ _ _ _ _) rfl (c_X4_illOnes (l := ox_l X) (φ := ox_φ X) (D := ox_D X) (cI := ox_I X) (cB := ox_B X) hC.J (by decide) h) gX9_count_X4_illOnes rfl hd_X4_illOnes ⟨Nat.le_of_ble_eq_true rfl, Nat.le_of_ble_eq_true rfl⟩ rfl rfl (Nat.le_of_ble_eq_true rfl) dX9_count_72) (fun v72 s72 h => ?_)
      exact hR _ _ _ _ dX9_count_75 h
    · skip
      by_cases z2 : x1 = (8 : Int32)
      · have h := h.2.2.1 z2
        refine g_tabIn hC (8 : Int32) z2 76 dX9_count_20 (by decide) (by decide) rfl (by decide) ?_
        refine g_aload_n hC 0 dX9_count_76 rfl rfl ?_
        refine g_get (C := RX9) (T := TX9) (N := 9) (v := .ref (ox_φ X (3, 0, 0))) hC o_iX9 (o_eX9 _ _ _ _) rfl ki_X9_count_X9 2 (by decide) kw_X9_count_2 rfl dX9_count_77 ?_
        refine g_ri (r_V (C := RX4) (T := TX4) (N := 6) (As := []) (rest := []) hC (o_in3 0 (by decide)) (o_eX4 _ _ _ _ _) rfl (c_X4_partsOfAll (l := ox_l X) (φ := ox_φ X) (D := ox_D X) (cI := ox_I X) (cB := ox_B X) hC.J (by decide) h) gX9_count_X4_partsOfAll rfl hd_X4_partsOfAll ⟨Nat.le_of_ble_eq_true rfl, Nat.le_of_ble_eq_true rfl⟩ rfl rfl (Nat.le_of_ble_eq_true rfl) dX9_count_80) (fun v80 s80 h => ?_)
        exact hR _ _ _ _ dX9_count_83 h
      · skip
        by_cases z3 : x1 = (9 : Int32)
        · have h := h.2.2.2.1 z3
          refine g_tabIn hC (9 : Int32) z3 84 dX9_count_20 (by decide) (by decide) rfl (by decide) ?_
          refine g_aload_n hC 0 dX9_count_84 rfl rfl ?_
          refine g_get (C := RX9) (T := TX9) (N := 9) (v := .ref (ox_φ X (3, 0, 0))) hC o_iX9 (o_eX9 _ _ _ _) rfl ki_X9_count_X9 2 (by decide) kw_X9_count_2 rfl dX9_count_85 ?_
          refine g_ri (r_V (C := RX4) (T := TX4) (N := 6) (As := []) (rest := []) hC (o_in3 0 (by decide)) (o_eX4 _ _ _ _ _) rfl (c_X4_mistakesOfAll (l := ox_l X) (φ := ox_φ X) (D := ox_D X) (cI := ox_I X) (cB := ox_B X) hC.J (by decide) h) gX9_count_X4_mistakesOfAll rfl hd_X4_mistakesOfAll ⟨Nat.le_of_ble_eq_true rfl, Nat.le_of_ble_eq_true rfl⟩ rfl rfl (Nat.le_of_ble_eq_true rfl) dX9_count_88) (fun v88 s88 h => ?_)
          exact hR _ _ _ _ dX9_count_91 h
        · skip
          by_cases z4 : x1 = (10 : Int32)
          · have h := h.2.2.2.2.1 z4
            refine g_tabIn hC (10 : Int32) z4 92 dX9_count_20 (by decide) (by decide) rfl (by decide) ?_
            refine g_aload_n hC 0 dX9_count_92 rfl rfl ?_
            refine g_get (C := RX9) (T := TX9) (N := 9) (v := .ref (ox_φ X (1, 0, 0))) hC o_iX9 (o_eX9 _ _ _ _) rfl ki_X9_count_X9 0 (by decide) kw_X9_count_3 rfl dX9_count_93 ?_
            refine g_ri (r_V (C := RX3) (T := TX3) (N := 2) (As := []) (rest := []) hC o_iX3 (o_eX3 _ _ _ _) rfl (c_X3_length (l := ox_l X) (φ := ox_φ X) (D := ox_D X) (cI := ox_I X) (cB := ox_B X) hC.J  h) gX9_count_X3_length rfl hd_X3_length ⟨Nat.le_of_ble_eq_true rfl, Nat.le_of_ble_eq_true rfl⟩ rfl rfl (Nat.le_of_ble_eq_true rfl) dX9_count_96) (fun v96 s96 h => ?_)
            exact hR _ _ _ _ dX9_count_99 h
          · skip
            by_cases z5 : x1 = (11 : Int32)
            · have h := h.2.2.2.2.2.1 z5
              refine g_tabIn hC (11 : Int32) z5 100 dX9_count_20 (by decide) (by decide) rfl (by decide) ?_
              refine g_aload_n hC 0 dX9_count_100 rfl rfl ?_
              refine g_get (C := RX9) (T := TX9) (N := 9) (v := .int (σ.1 (0, 0, 0) 8)) hC o_iX9 (o_eX9 _ _ _ _) rfl ki_X9_count_X9 8 (by decide) kw_X9_count_4 rfl dX9_count_101 ?_
              exact hR _ _ _ _ dX9_count_104 h
            · skip
              have h := h.2.2.2.2.2.2 ⟨z0, z1, z2, z3, z4, z5⟩
              have a0 := lv_neT z0 (a := 6) (by decide)
              have a1 := lv_neT z1 (a := 7) (by decide)
              have a2 := lv_neT z2 (a := 8) (by decide)
              have a3 := lv_neT z3 (a := 9) (by decide)
              have a4 := lv_neT z4 (a := 10) (by decide)
              have a5 := lv_neT z5 (a := 11) (by decide)
              refine g_tabOut hC 105 dX9_count_20 (by omega) (by decide) ?_
              refine g_bipush (v := (-102 : Int32)) hC dX9_count_105 (by decide) ?_
              exact hR _ _ _ _ dX9_count_107 h
set_option maxHeartbeats 4000000 in
set_option maxRecDepth 100000 in
theorem wv_X9_count {X : OX} {x1 : Int32} {post : Int32 → SS → Prop} {σ : SS} (hC : o_C X cX9_count RX9 wsX9_count 3 62 2) (hR : o_RI X cX9_count post) (h : V_X9_count x1 σ post) : o_G X σ 0 [(0, .ref (ox_φ X (0, 0, 0))), (1, .int x1)] [] := by
  unfold V_X9_count at h
  refine g_iload_n hC 1 dX9_count_0 rfl rfl ?_
  refine g_if_lt hC 19 dX9_count_1 (by decide) (fun z => ?_) (fun z => ?_)
  · have h := h.1 z
    exact wb_X9_count_19 hC hR h
  · have h := h.2 z
    refine g_iload_n hC 1 dX9_count_4 rfl rfl ?_
    refine g_bipush (v := (6 : Int32)) hC dX9_count_5 (by decide) ?_
    refine g_icmp_ge hC 19 dX9_count_7 (by decide) (fun z => ?_) (fun z => ?_)
    · have h := h.1 z
      exact wb_X9_count_19 hC hR h
    · have h := h.2 z
      refine g_aload_n hC 0 dX9_count_10 rfl rfl ?_
      refine g_get (C := RX9) (T := TX9) (N := 9) (v := .ref (ox_φ X (2, 0, 0))) hC o_iX9 (o_eX9 _ _ _ _) rfl ki_X9_count_X9 1 (by decide) kw_X9_count_1 rfl dX9_count_11 ?_
      refine g_iload_n hC 1 dX9_count_14 rfl rfl ?_
      refine g_ri (r_V (C := RX5) (T := TX5) (N := 8) (As := [.int x1]) (rest := []) hC o_iX5 (o_eX5 _ _ _ _) rfl (c_X5_digit (l := ox_l X) (φ := ox_φ X) (D := ox_D X) (cI := ox_I X) (cB := ox_B X) hC.J  h) gX9_count_X5_digit rfl hd_X5_digit ⟨Nat.le_of_ble_eq_true rfl, Nat.le_of_ble_eq_true rfl⟩ rfl rfl (Nat.le_of_ble_eq_true rfl) dX9_count_15) (fun v15 s15 h => ?_)
      exact hR _ _ _ _ dX9_count_18 h
set_option maxRecDepth 100000 in
theorem c_X9_count {l : Launch} {φ : OI → Nat} {D : va_G} {cI cB : ClassId} (hJ : o_J φ) {x1 : Int32} {σ : SS} {post : Int32 → SS → Prop} (h : V_X9_count x1 σ post) : o_Mi l φ D cI cB yX9_count wsX9_count 3 62 [.ref (φ (0, 0, 0)), .int x1] σ post :=
 o_met_i hJ (by decide +kernel) rfl (Nat.le_of_ble_eq_true rfl) (fun p e s m args below meth c Q hC hR => wv_X9_count hC hR h)
theorem kw_X9_with_1 : Cond.constantLong RX9 235 (31) ∈ wsX9_with := List.mem_of_getElem? (i := 1) (by decide +kernel)
theorem hd_X9_with : yX9_with.cls ≠ "java/lang/invoke/MethodHandle" ∧ yX9_with.cls ≠ "java/lang/invoke/VarHandle" ∧ (parseMethodDescriptor yX9_with.desc).map (fun d => d.parameters.length) = some 2 := by decide +kernel
set_option maxHeartbeats 4000000 in
set_option maxRecDepth 100000 in
theorem wv_X9_with {X : OX} {x0 : Int64} {x2 : Int64} {post : Int64 → SS → Prop} {σ : SS} (hC : o_C X cX9_with RX9 wsX9_with 0 0 4) (hR : o_RL X cX9_with post) (h : V_X9_with x0 x2 σ post) : o_G X σ 0 [(0, .long x0), (2, .long x2)] [] := by
  unfold V_X9_with at h
  refine g_ldc2 hC kw_X9_with_1 dX9_with_0 ?_
  refine g_lload_n hC 0 dX9_with_3 rfl rfl ?_
  refine g_lmul hC dX9_with_4 ?_
  refine g_lload_n hC 1 dX9_with_5 rfl rfl ?_
  refine g_ladd hC dX9_with_6 ?_
  exact hR _ _ _ _ dX9_with_7 h
set_option maxRecDepth 100000 in
theorem c_X9_with {l : Launch} {φ : OI → Nat} {D : va_G} {cI cB : ClassId} (hJ : o_J φ) {x0 : Int64} {x2 : Int64} {σ : SS} {post : Int64 → SS → Prop} (h : V_X9_with x0 x2 σ post) : o_Ml l φ D cI cB yX9_with wsX9_with 0 0 [.long x0, .long x2] σ post :=
 o_met_l hJ (by decide +kernel) rfl (Nat.le_of_ble_eq_true rfl) (fun p e s m args below meth c Q hC hR => wv_X9_with hC hR h)
theorem hd_X9_withChild : yX9_withChild.cls = RX9 ∧ yX9_withChild.cls ≠ "java/lang/invoke/MethodHandle" ∧ yX9_withChild.cls ≠ "java/lang/invoke/VarHandle" ∧ (parseMethodDescriptor yX9_withChild.desc).map (fun d => d.parameters.length) = some 2 := by decide +kernel
set_option maxHeartbeats 4000000 in
set_option maxRecDepth 100000 in
theorem wb_X9_withChild_36 {X : OX} {post : Int64 → SS → Prop} {K36 : Int32 → Int64 → Int32 → SS → Prop} {x3 : Int32} {x4 : Int64} {x6 : Int32} {σ : SS} (hC : o_C X cX9_withChild RX9 wsX9_withChild 4 90 7) (hR : o_RL X cX9_withChild post) (hK36 : ∀ (x3 : Int32) (x4 : Int64) (x6 : Int32) (σ : SS), K36 x3 x4 x6 σ → o_G X σ 36 [(0, .ref (ox_φ X (0, 0, 0))), (3, .int x3), (4, .long x4), (6, .int x6)] []) (h : VB_X9_withChild_36 post K36 x3 x4 x6 σ) : o_G X σ 36 [(0, .ref (ox_φ X (0, 0, 0))), (3, .int x3), (4, .long x4), (6, .int x6)] [] := by
  unfold VB_X9_withChild_36 at h
  refine g_iload hC 3 dX9_withChild_36 rfl ?_
  refine g_iconst (v := (4 : Int32)) hC dX9_withChild_38 (by decide) ?_
  refine g_icmp_ge hC 95 dX9_withChild_39 (by decide) (fun z => ?_) (fun z => ?_)
  · have h := h.1 z
    refine g_lload hC 2 dX9_withChild_95 rfl ?_
    exact hR _ _ _ _ dX9_withChild_97 h
  · have h := h.2 z
    refine g_lload hC 2 dX9_withChild_42 rfl ?_
    refine g_aload_n hC 0 dX9_withChild_44 rfl rfl ?_
    refine g_iload_n hC 1 dX9_withChild_45 rfl rfl ?_
    refine g_iload hC 3 dX9_withChild_46 rfl ?_
    refine g_iconst (v := (0 : Int32)) hC dX9_withChild_48 (by decide) ?_
    refine g_ri (r_V (C := RX9) (T := TX9) (N := 9) (As := [.int x3, .int x6, .int (0 : Int32)]) (rest := [.long x4]) hC o_iX9 (o_eX9 _ _ _ _) rfl (c_X9_knows (l := ox_l X) (φ := ox_φ X) (D := ox_D X) (cI := ox_I X) (cB := ox_B X) hC.J  h) gX9_withChild_X9_knows rfl hd_X9_knows ⟨Nat.le_of_ble_eq_true rfl, Nat.le_of_ble_eq_true rfl⟩ rfl rfl (Nat.le_of_ble_eq_true rfl) dX9_withChild_49) (fun v49 s49 h => ?_)
    refine g_i2l hC dX9_withChild_52 ?_
    refine g_rl (r_S (As := [.long x4, .long (v49).toInt64]) (rest := []) hC (c_X9_with (l := ox_l X) (φ := ox_φ X) (D := ox_D X) (cI := ox_I X) (cB := ox_B X) hC.J  h) gX9_withChild_X9_with rfl hd_X9_with ⟨Nat.le_of_ble_eq_true rfl, Nat.le_of_ble_eq_true rfl⟩ rfl rfl (Nat.le_of_ble_eq_true rfl) dX9_withChild_53) (fun v53 s53 h => ?_)
    refine g_lstore hC [(4, .long v53), (0, .ref (ox_φ X (0, 0, 0))), (3, .int x3), (6, .int x6)] dX9_withChild_56 (by decide) rfl ?_
    refine g_lload hC 0 dX9_withChild_58 rfl ?_
    refine g_aload_n hC 1 dX9_withChild_60 rfl rfl ?_
    refine g_iload_n hC 2 dX9_withChild_61 rfl rfl ?_
    refine g_iload hC 3 dX9_withChild_62 rfl ?_
    refine g_iconst (v := (1 : Int32)) hC dX9_withChild_64 (by decide) ?_
    refine g_ri (r_V (C := RX9) (T := TX9) (N := 9) (As := [.int x3, .int x6, .int (1 : Int32)]) (rest := [.long v53]) hC o_iX9 (o_eX9 _ _ _ _) rfl (c_X9_knows (l := ox_l X) (φ := ox_φ X) (D := ox_D X) (cI := ox_I X) (cB := ox_B X) hC.J  h) gX9_withChild_X9_knows rfl hd_X9_knows ⟨Nat.le_of_ble_eq_true rfl, Nat.le_of_ble_eq_true rfl⟩ rfl rfl (Nat.le_of_ble_eq_true rfl) dX9_withChild_65) (fun v65 s65 h => ?_)
    refine g_i2l hC dX9_withChild_68 ?_
    refine g_rl (r_S (As := [.long v53, .long (v65).toInt64]) (rest := []) hC (c_X9_with (l := ox_l X) (φ := ox_φ X) (D := ox_D X) (cI := ox_I X) (cB := ox_B X) hC.J  h) gX9_withChild_X9_with rfl hd_X9_with ⟨Nat.le_of_ble_eq_true rfl, Nat.le_of_ble_eq_true rfl⟩ rfl rfl (Nat.le_of_ble_eq_true rfl) dX9_withChild_69) (fun v69 s69 h => ?_)
    refine g_lstore hC [(4, .long v69), (0, .ref (ox_φ X (0, 0, 0))), (3, .int x3), (6, .int x6)] dX9_withChild_72 (by decide) rfl ?_
    refine g_lload hC 0 dX9_withChild_74 rfl ?_
    refine g_aload_n hC 1 dX9_withChild_76 rfl rfl ?_
    refine g_iload_n hC 2 dX9_withChild_77 rfl rfl ?_
    refine g_iload hC 3 dX9_withChild_78 rfl ?_
    refine g_ri (r_V (C := RX9) (T := TX9) (N := 9) (As := [.int x3, .int x6]) (rest := [.long v69]) hC o_iX9 (o_eX9 _ _ _ _) rfl (c_X9_asks (l := ox_l X) (φ := ox_φ X) (D := ox_D X) (cI := ox_I X) (cB := ox_B X) hC.J  h) gX9_withChild_X9_asks rfl hd_X9_asks ⟨Nat.le_of_ble_eq_true rfl, Nat.le_of_ble_eq_true rfl⟩ rfl rfl (Nat.le_of_ble_eq_true rfl) dX9_withChild_80) (fun v80 s80 h => ?_)
    refine g_i2l hC dX9_withChild_83 ?_
    refine g_rl (r_S (As := [.long v69, .long (v80).toInt64]) (rest := []) hC (c_X9_with (l := ox_l X) (φ := ox_φ X) (D := ox_D X) (cI := ox_I X) (cB := ox_B X) hC.J  h) gX9_withChild_X9_with rfl hd_X9_with ⟨Nat.le_of_ble_eq_true rfl, Nat.le_of_ble_eq_true rfl⟩ rfl rfl (Nat.le_of_ble_eq_true rfl) dX9_withChild_84) (fun v84 s84 h => ?_)
    refine g_lstore hC [(4, .long v84), (0, .ref (ox_φ X (0, 0, 0))), (3, .int x3), (6, .int x6)] dX9_withChild_87 (by decide) rfl ?_
    refine g_iinc (v := (x6 + (1 : Int32))) hC 3 [(6, .int (x6 + (1 : Int32))), (4, .long v84), (0, .ref (ox_φ X (0, 0, 0))), (3, .int x3)] dX9_withChild_89 rfl rfl (by decide) rfl ?_
    refine g_goto hC 36 dX9_withChild_92 (by decide) ?_
    refine g_sub [2, 3, 1, 0] rfl ?_
    exact hK36 _ _ _ _ h
set_option maxHeartbeats 4000000 in
set_option maxRecDepth 100000 in
theorem lp_X9_withChild_36 {X : OX} {post : Int64 → SS → Prop} (hC : o_C X cX9_withChild RX9 wsX9_withChild 4 90 7) (hR : o_RL X cX9_withChild post) : ∀ (n : Nat) (a : Int32 × Int64 × Int32) (σ : SS), LP_X9_withChild_36 post n a σ → o_G X σ 36 [(0, .ref (ox_φ X (0, 0, 0))), (3, .int a.1), (4, .long a.2.1), (6, .int a.2.2)] [] :=
 o_lp_G (fun K hK a σ h => wb_X9_withChild_36 hC hR (fun x3 x4 x6 σ h => hK (x3, x4, x6) σ h) h)
set_option maxHeartbeats 4000000 in
set_option maxRecDepth 100000 in
theorem wb_X9_withChild_6 {X : OX} {post : Int64 → SS → Prop} {K6 : Int32 → Int64 → Int32 → SS → Prop} {x3 : Int32} {x4 : Int64} {x6 : Int32} {σ : SS} (hC : o_C X cX9_withChild RX9 wsX9_withChild 4 90 7) (hR : o_RL X cX9_withChild post) (hK6 : ∀ (x3 : Int32) (x4 : Int64) (x6 : Int32) (σ : SS), K6 x3 x4 x6 σ → o_G X σ 6 [(0, .ref (ox_φ X (0, 0, 0))), (3, .int x3), (4, .long x4), (6, .int x6)] []) (h : VB_X9_withChild_6 post K6 x3 x4 x6 σ) : o_G X σ 6 [(0, .ref (ox_φ X (0, 0, 0))), (3, .int x3), (4, .long x4), (6, .int x6)] [] := by
  unfold VB_X9_withChild_6 at h
  refine g_iload hC 3 dX9_withChild_6 rfl ?_
  refine g_iconst (v := (5 : Int32)) hC dX9_withChild_8 (by decide) ?_
  refine g_icmp_ge hC 33 dX9_withChild_9 (by decide) (fun z => ?_) (fun z => ?_)
  · have h := h.1 z
    refine g_iconst (v := (0 : Int32)) hC dX9_withChild_33 (by decide) ?_
    refine g_istore hC [(6, .int (0 : Int32)), (0, .ref (ox_φ X (0, 0, 0))), (3, .int x3), (4, .long x4)] dX9_withChild_34 (by decide) rfl ?_
    refine g_sub [1, 2, 3, 0] rfl ?_
    obtain ⟨n, h⟩ := h
    exact lp_X9_withChild_36 hC hR n _ _ h
  · have h := h.2 z
    refine g_lload hC 2 dX9_withChild_12 rfl ?_
    refine g_aload_n hC 0 dX9_withChild_14 rfl rfl ?_
    refine g_iload_n hC 1 dX9_withChild_15 rfl rfl ?_
    refine g_iload hC 3 dX9_withChild_16 rfl ?_
    refine g_ri (r_V (C := RX9) (T := TX9) (N := 9) (As := [.int x3, .int x6]) (rest := [.long x4]) hC o_iX9 (o_eX9 _ _ _ _) rfl (c_X9_about (l := ox_l X) (φ := ox_φ X) (D := ox_D X) (cI := ox_I X) (cB := ox_B X) hC.J  h) gX9_withChild_X9_about rfl hd_X9_about ⟨Nat.le_of_ble_eq_true rfl, Nat.le_of_ble_eq_true rfl⟩ rfl rfl (Nat.le_of_ble_eq_true rfl) dX9_withChild_18) (fun v18 s18 h => ?_)
    refine g_i2l hC dX9_withChild_21 ?_
    refine g_rl (r_S (As := [.long x4, .long (v18).toInt64]) (rest := []) hC (c_X9_with (l := ox_l X) (φ := ox_φ X) (D := ox_D X) (cI := ox_I X) (cB := ox_B X) hC.J  h) gX9_withChild_X9_with rfl hd_X9_with ⟨Nat.le_of_ble_eq_true rfl, Nat.le_of_ble_eq_true rfl⟩ rfl rfl (Nat.le_of_ble_eq_true rfl) dX9_withChild_22) (fun v22 s22 h => ?_)
    refine g_lstore hC [(4, .long v22), (0, .ref (ox_φ X (0, 0, 0))), (3, .int x3), (6, .int x6)] dX9_withChild_25 (by decide) rfl ?_
    refine g_iinc (v := (x6 + (1 : Int32))) hC 3 [(6, .int (x6 + (1 : Int32))), (4, .long v22), (0, .ref (ox_φ X (0, 0, 0))), (3, .int x3)] dX9_withChild_27 rfl rfl (by decide) rfl ?_
    refine g_goto hC 6 dX9_withChild_30 (by decide) ?_
    refine g_sub [2, 3, 1, 0] rfl ?_
    exact hK6 _ _ _ _ h
set_option maxHeartbeats 4000000 in
set_option maxRecDepth 100000 in
theorem lp_X9_withChild_6 {X : OX} {post : Int64 → SS → Prop} (hC : o_C X cX9_withChild RX9 wsX9_withChild 4 90 7) (hR : o_RL X cX9_withChild post) : ∀ (n : Nat) (a : Int32 × Int64 × Int32) (σ : SS), LP_X9_withChild_6 post n a σ → o_G X σ 6 [(0, .ref (ox_φ X (0, 0, 0))), (3, .int a.1), (4, .long a.2.1), (6, .int a.2.2)] [] :=
 o_lp_G (fun K hK a σ h => wb_X9_withChild_6 hC hR (fun x3 x4 x6 σ h => hK (x3, x4, x6) σ h) h)
set_option maxHeartbeats 4000000 in
set_option maxRecDepth 100000 in
theorem wv_X9_withChild {X : OX} {x1 : Int64} {x3 : Int32} {post : Int64 → SS → Prop} {σ : SS} (hC : o_C X cX9_withChild RX9 wsX9_withChild 4 90 7) (hR : o_RL X cX9_withChild post) (h : V_X9_withChild x1 x3 σ post) : o_G X σ 0 [(0, .ref (ox_φ X (0, 0, 0))), (1, .long x1), (3, .int x3)] [] := by
  unfold V_X9_withChild at h
  refine g_lload_n hC 1 dX9_withChild_0 rfl rfl ?_
  refine g_lstore hC [(4, .long x1), (0, .ref (ox_φ X (0, 0, 0))), (1, .long x1), (3, .int x3)] dX9_withChild_1 (by decide) rfl ?_
  refine g_iconst (v := (0 : Int32)) hC dX9_withChild_3 (by decide) ?_
  refine g_istore hC [(6, .int (0 : Int32)), (4, .long x1), (0, .ref (ox_φ X (0, 0, 0))), (1, .long x1), (3, .int x3)] dX9_withChild_4 (by decide) rfl ?_
  refine g_sub [2, 4, 1, 0] rfl ?_
  obtain ⟨n, h⟩ := h
  exact lp_X9_withChild_6 hC hR n _ _ h
set_option maxRecDepth 100000 in
theorem c_X9_withChild {l : Launch} {φ : OI → Nat} {D : va_G} {cI cB : ClassId} (hJ : o_J φ) {x1 : Int64} {x3 : Int32} {σ : SS} {post : Int64 → SS → Prop} (h : V_X9_withChild x1 x3 σ post) : o_Ml l φ D cI cB yX9_withChild wsX9_withChild 4 90 [.ref (φ (0, 0, 0)), .long x1, .int x3] σ post :=
 o_met_l hJ (by decide +kernel) rfl (Nat.le_of_ble_eq_true rfl) (fun p e s m args below meth c Q hC hR => wv_X9_withChild hC hR h)
theorem kw_X9_digest_1 : Cond.constantLong RX9 200 (773) ∈ wsX9_digest := List.mem_of_getElem? (i := 1) (by decide +kernel)
theorem kw_X9_digest_2 : Cond.fieldLink RX9 19 "SchoolRow" "school" "LSchoolRow$School;" ∈ wsX9_digest := List.mem_of_getElem? (i := 2) (by decide +kernel)
theorem kw_X9_digest_3 : Cond.fieldLink RX9 12 "SchoolRow" "page" "LSchoolRow$Page;" ∈ wsX9_digest := List.mem_of_getElem? (i := 3) (by decide +kernel)
theorem ki_X9_digest_X9 : ∀ w ∈ wsX90, w ∈ wsX9_digest := fun _ h => List.mem_cons_of_mem _ (List.mem_append_left _ (List.mem_append_left _ (List.mem_append_left _ (List.mem_append_left _ (List.mem_append_right _ h)))))
theorem hd_X9_digest : yX9_digest.cls = RX9 ∧ yX9_digest.cls ≠ "java/lang/invoke/MethodHandle" ∧ yX9_digest.cls ≠ "java/lang/invoke/VarHandle" ∧ (parseMethodDescriptor yX9_digest.desc).map (fun d => d.parameters.length) = some 0 := by decide +kernel
set_option maxHeartbeats 4000000 in
set_option maxRecDepth 100000 in
theorem wb_X9_digest_164 {X : OX} {post : Int64 → SS → Prop} {K164 : Int64 → Int32 → SS → Prop} {x1 : Int64} {x3 : Int32} {σ : SS} (hC : o_C X cX9_digest RX9 wsX9_digest 6 144 4) (hR : o_RL X cX9_digest post) (hK164 : ∀ (x1 : Int64) (x3 : Int32) (σ : SS), K164 x1 x3 σ → o_G X σ 164 [(0, .ref (ox_φ X (0, 0, 0))), (1, .long x1), (3, .int x3)] []) (h : VB_X9_digest_164 post K164 x1 x3 σ) : o_G X σ 164 [(0, .ref (ox_φ X (0, 0, 0))), (1, .long x1), (3, .int x3)] [] := by
  unfold VB_X9_digest_164 at h
  refine g_iload_n hC 2 dX9_digest_164 rfl rfl ?_
  refine g_bipush (v := (12 : Int32)) hC dX9_digest_165 (by decide) ?_
  refine g_icmp_ge hC 187 dX9_digest_167 (by decide) (fun z => ?_) (fun z => ?_)
  · have h := h.1 z
    refine g_lload_n hC 1 dX9_digest_187 rfl rfl ?_
    exact hR _ _ _ _ dX9_digest_188 h
  · have h := h.2 z
    refine g_lload_n hC 1 dX9_digest_170 rfl rfl ?_
    refine g_aload_n hC 0 dX9_digest_171 rfl rfl ?_
    refine g_iload_n hC 2 dX9_digest_172 rfl rfl ?_
    refine g_ri (r_V (C := RX9) (T := TX9) (N := 9) (As := [.int x3]) (rest := [.long x1]) hC o_iX9 (o_eX9 _ _ _ _) rfl (c_X9_count (l := ox_l X) (φ := ox_φ X) (D := ox_D X) (cI := ox_I X) (cB := ox_B X) hC.J  h) gX9_digest_X9_count rfl hd_X9_count ⟨Nat.le_of_ble_eq_true rfl, Nat.le_of_ble_eq_true rfl⟩ rfl rfl (Nat.le_of_ble_eq_true rfl) dX9_digest_173) (fun v173 s173 h => ?_)
    refine g_i2l hC dX9_digest_176 ?_
    refine g_rl (r_S (As := [.long x1, .long (v173).toInt64]) (rest := []) hC (c_X9_with (l := ox_l X) (φ := ox_φ X) (D := ox_D X) (cI := ox_I X) (cB := ox_B X) hC.J  h) gX9_digest_X9_with rfl hd_X9_with ⟨Nat.le_of_ble_eq_true rfl, Nat.le_of_ble_eq_true rfl⟩ rfl rfl (Nat.le_of_ble_eq_true rfl) dX9_digest_177) (fun v177 s177 h => ?_)
    refine g_lstore_n hC [(1, .long v177), (0, .ref (ox_φ X (0, 0, 0))), (3, .int x3)] dX9_digest_180 rfl (by decide) rfl ?_
    refine g_iinc (v := (x3 + (1 : Int32))) hC 2 [(3, .int (x3 + (1 : Int32))), (1, .long v177), (0, .ref (ox_φ X (0, 0, 0)))] dX9_digest_181 rfl rfl (by decide) rfl ?_
    refine g_goto hC 164 dX9_digest_184 (by decide) ?_
    refine g_sub [2, 1, 0] rfl ?_
    exact hK164 _ _ _ h
set_option maxHeartbeats 4000000 in
set_option maxRecDepth 100000 in
theorem lp_X9_digest_164 {X : OX} {post : Int64 → SS → Prop} (hC : o_C X cX9_digest RX9 wsX9_digest 6 144 4) (hR : o_RL X cX9_digest post) : ∀ (n : Nat) (a : Int64 × Int32) (σ : SS), LP_X9_digest_164 post n a σ → o_G X σ 164 [(0, .ref (ox_φ X (0, 0, 0))), (1, .long a.1), (3, .int a.2)] [] :=
 o_lp_G (fun K hK a σ h => wb_X9_digest_164 hC hR (fun x1 x3 σ h => hK (x1, x3) σ h) h)
set_option maxHeartbeats 4000000 in
set_option maxRecDepth 100000 in
theorem wb_X9_digest_131 {X : OX} {post : Int64 → SS → Prop} {K131 : Int64 → Int32 → SS → Prop} {x1 : Int64} {x3 : Int32} {σ : SS} (hC : o_C X cX9_digest RX9 wsX9_digest 6 144 4) (hR : o_RL X cX9_digest post) (hK131 : ∀ (x1 : Int64) (x3 : Int32) (σ : SS), K131 x1 x3 σ → o_G X σ 131 [(0, .ref (ox_φ X (0, 0, 0))), (1, .long x1), (3, .int x3)] []) (h : VB_X9_digest_131 post K131 x1 x3 σ) : o_G X σ 131 [(0, .ref (ox_φ X (0, 0, 0))), (1, .long x1), (3, .int x3)] [] := by
  unfold VB_X9_digest_131 at h
  refine g_iload_n hC 2 dX9_digest_131 rfl rfl ?_
  refine g_aload_n hC 0 dX9_digest_132 rfl rfl ?_
  refine g_get (C := RX9) (T := TX9) (N := 9) (v := .ref (ox_φ X (1, 0, 0))) hC o_iX9 (o_eX9 _ _ _ _) rfl ki_X9_digest_X9 0 (by decide) kw_X9_digest_3 rfl dX9_digest_133 ?_
  refine g_ri (r_V (C := RX3) (T := TX3) (N := 2) (As := []) (rest := [.int x3]) hC o_iX3 (o_eX3 _ _ _ _) rfl (c_X3_length (l := ox_l X) (φ := ox_φ X) (D := ox_D X) (cI := ox_I X) (cB := ox_B X) hC.J  h) gX9_digest_X3_length rfl hd_X3_length ⟨Nat.le_of_ble_eq_true rfl, Nat.le_of_ble_eq_true rfl⟩ rfl rfl (Nat.le_of_ble_eq_true rfl) dX9_digest_136) (fun v136 s136 h => ?_)
  refine g_icmp_ge hC 162 dX9_digest_139 (by decide) (fun z => ?_) (fun z => ?_)
  · have h := h.1 z
    refine g_iconst (v := (0 : Int32)) hC dX9_digest_162 (by decide) ?_
    refine g_istore_n hC [(3, .int (0 : Int32)), (0, .ref (ox_φ X (0, 0, 0))), (1, .long x1)] dX9_digest_163 rfl (by decide) rfl ?_
    refine g_sub [1, 2, 0] rfl ?_
    obtain ⟨n, h⟩ := h
    exact lp_X9_digest_164 hC hR n _ _ h
  · have h := h.2 z
    refine g_lload_n hC 1 dX9_digest_142 rfl rfl ?_
    refine g_aload_n hC 0 dX9_digest_143 rfl rfl ?_
    refine g_get (C := RX9) (T := TX9) (N := 9) (v := .ref (ox_φ X (1, 0, 0))) hC o_iX9 (o_eX9 _ _ _ _) rfl ki_X9_digest_X9 0 (by decide) kw_X9_digest_3 rfl dX9_digest_144 ?_
    refine g_iload_n hC 2 dX9_digest_147 rfl rfl ?_
    refine g_ri (r_V (C := RX3) (T := TX3) (N := 2) (As := [.int x3]) (rest := [.long x1]) hC o_iX3 (o_eX3 _ _ _ _) rfl (c_X3_letterAt (l := ox_l X) (φ := ox_φ X) (D := ox_D X) (cI := ox_I X) (cB := ox_B X) hC.J  h) gX9_digest_X3_letterAt rfl hd_X3_letterAt ⟨Nat.le_of_ble_eq_true rfl, Nat.le_of_ble_eq_true rfl⟩ rfl rfl (Nat.le_of_ble_eq_true rfl) dX9_digest_148) (fun v148 s148 h => ?_)
    refine g_i2l hC dX9_digest_151 ?_
    refine g_rl (r_S (As := [.long x1, .long (v148).toInt64]) (rest := []) hC (c_X9_with (l := ox_l X) (φ := ox_φ X) (D := ox_D X) (cI := ox_I X) (cB := ox_B X) hC.J  h) gX9_digest_X9_with rfl hd_X9_with ⟨Nat.le_of_ble_eq_true rfl, Nat.le_of_ble_eq_true rfl⟩ rfl rfl (Nat.le_of_ble_eq_true rfl) dX9_digest_152) (fun v152 s152 h => ?_)
    refine g_lstore_n hC [(1, .long v152), (0, .ref (ox_φ X (0, 0, 0))), (3, .int x3)] dX9_digest_155 rfl (by decide) rfl ?_
    refine g_iinc (v := (x3 + (1 : Int32))) hC 2 [(3, .int (x3 + (1 : Int32))), (1, .long v152), (0, .ref (ox_φ X (0, 0, 0)))] dX9_digest_156 rfl rfl (by decide) rfl ?_
    refine g_goto hC 131 dX9_digest_159 (by decide) ?_
    refine g_sub [2, 1, 0] rfl ?_
    exact hK131 _ _ _ h
set_option maxHeartbeats 4000000 in
set_option maxRecDepth 100000 in
theorem lp_X9_digest_131 {X : OX} {post : Int64 → SS → Prop} (hC : o_C X cX9_digest RX9 wsX9_digest 6 144 4) (hR : o_RL X cX9_digest post) : ∀ (n : Nat) (a : Int64 × Int32) (σ : SS), LP_X9_digest_131 post n a σ → o_G X σ 131 [(0, .ref (ox_φ X (0, 0, 0))), (1, .long a.1), (3, .int a.2)] [] :=
 o_lp_G (fun K hK a σ h => wb_X9_digest_131 hC hR (fun x1 x3 σ h => hK (x1, x3) σ h) h)
set_option maxHeartbeats 4000000 in
set_option maxRecDepth 100000 in
theorem wb_X9_digest_129 {X : OX} {post : Int64 → SS → Prop} {x1 : Int64} {σ : SS} (hC : o_C X cX9_digest RX9 wsX9_digest 6 144 4) (hR : o_RL X cX9_digest post) (h : VB_X9_digest_129 post x1 σ) : o_G X σ 129 [(0, .ref (ox_φ X (0, 0, 0))), (1, .long x1)] [] := by
  unfold VB_X9_digest_129 at h
  refine g_iconst (v := (0 : Int32)) hC dX9_digest_129 (by decide) ?_
  refine g_istore_n hC [(3, .int (0 : Int32)), (0, .ref (ox_φ X (0, 0, 0))), (1, .long x1)] dX9_digest_130 rfl (by decide) rfl ?_
  refine g_sub [1, 2, 0] rfl ?_
  obtain ⟨n, h⟩ := h
  exact lp_X9_digest_131 hC hR n _ _ h
set_option maxHeartbeats 4000000 in
set_option maxRecDepth 100000 in
theorem wb_X9_digest_59 {X : OX} {post : Int64 → SS → Prop} {K59 : Int64 → Int32 → SS → Prop} {x1 : Int64} {x3 : Int32} {σ : SS} (hC : o_C X cX9_digest RX9 wsX9_digest 6 144 4) (hR : o_RL X cX9_digest post) (hK59 : ∀ (x1 : Int64) (x3 : Int32) (σ : SS), K59 x1 x3 σ → o_G X σ 59 [(0, .ref (ox_φ X (0, 0, 0))), (1, .long x1), (3, .int x3)] []) (h : VB_X9_digest_59 post K59 x1 x3 σ) : o_G X σ 59 [(0, .ref (ox_φ X (0, 0, 0))), (1, .long x1), (3, .int x3)] [] := by
  unfold VB_X9_digest_59 at h
  refine g_iload_n hC 2 dX9_digest_59 rfl rfl ?_
  refine g_bipush (v := (6 : Int32)) hC dX9_digest_60 (by decide) ?_
  refine g_icmp_ge hC 85 dX9_digest_62 (by decide) (fun z => ?_) (fun z => ?_)
  · have h := h.1 z
    refine g_lload_n hC 1 dX9_digest_85 rfl rfl ?_
    refine g_aload_n hC 0 dX9_digest_86 rfl rfl ?_
    refine g_bipush (v := (10 : Int32)) hC dX9_digest_87 (by decide) ?_
    refine g_iconst (v := (0 : Int32)) hC dX9_digest_89 (by decide) ?_
    refine g_ri (r_V (C := RX9) (T := TX9) (N := 9) (As := [.int (10 : Int32), .int (0 : Int32)]) (rest := [.long x1]) hC o_iX9 (o_eX9 _ _ _ _) rfl (c_X9_songs (l := ox_l X) (φ := ox_φ X) (D := ox_D X) (cI := ox_I X) (cB := ox_B X) hC.J  h) gX9_digest_X9_songs rfl hd_X9_songs ⟨Nat.le_of_ble_eq_true rfl, Nat.le_of_ble_eq_true rfl⟩ rfl rfl (Nat.le_of_ble_eq_true rfl) dX9_digest_90) (fun v90 s90 h => ?_)
    refine g_i2l hC dX9_digest_93 ?_
    refine g_rl (r_S (As := [.long x1, .long (v90).toInt64]) (rest := []) hC (c_X9_with (l := ox_l X) (φ := ox_φ X) (D := ox_D X) (cI := ox_I X) (cB := ox_B X) hC.J  h) gX9_digest_X9_with rfl hd_X9_with ⟨Nat.le_of_ble_eq_true rfl, Nat.le_of_ble_eq_true rfl⟩ rfl rfl (Nat.le_of_ble_eq_true rfl) dX9_digest_94) (fun v94 s94 h => ?_)
    refine g_aload_n hC 0 dX9_digest_97 rfl rfl ?_
    refine g_bipush (v := (10 : Int32)) hC dX9_digest_98 (by decide) ?_
    refine g_iconst (v := (1 : Int32)) hC dX9_digest_100 (by decide) ?_
    refine g_ri (r_V (C := RX9) (T := TX9) (N := 9) (As := [.int (10 : Int32), .int (1 : Int32)]) (rest := [.long v94]) hC o_iX9 (o_eX9 _ _ _ _) rfl (c_X9_songs (l := ox_l X) (φ := ox_φ X) (D := ox_D X) (cI := ox_I X) (cB := ox_B X) hC.J  h) gX9_digest_X9_songs rfl hd_X9_songs ⟨Nat.le_of_ble_eq_true rfl, Nat.le_of_ble_eq_true rfl⟩ rfl rfl (Nat.le_of_ble_eq_true rfl) dX9_digest_101) (fun v101 s101 h => ?_)
    refine g_i2l hC dX9_digest_104 ?_
    refine g_rl (r_S (As := [.long v94, .long (v101).toInt64]) (rest := []) hC (c_X9_with (l := ox_l X) (φ := ox_φ X) (D := ox_D X) (cI := ox_I X) (cB := ox_B X) hC.J  h) gX9_digest_X9_with rfl hd_X9_with ⟨Nat.le_of_ble_eq_true rfl, Nat.le_of_ble_eq_true rfl⟩ rfl rfl (Nat.le_of_ble_eq_true rfl) dX9_digest_105) (fun v105 s105 h => ?_)
    refine g_lstore_n hC [(1, .long v105), (0, .ref (ox_φ X (0, 0, 0))), (3, .int x3)] dX9_digest_108 rfl (by decide) rfl ?_
    refine g_lload_n hC 0 dX9_digest_109 rfl rfl ?_
    refine g_aload_n hC 1 dX9_digest_110 rfl rfl ?_
    refine g_iconst (v := (0 : Int32)) hC dX9_digest_111 (by decide) ?_
    refine g_ri (r_V (C := RX9) (T := TX9) (N := 9) (As := [.int (0 : Int32)]) (rest := [.long v105]) hC o_iX9 (o_eX9 _ _ _ _) rfl (c_X9_sick (l := ox_l X) (φ := ox_φ X) (D := ox_D X) (cI := ox_I X) (cB := ox_B X) hC.J  h) gX9_digest_X9_sick rfl hd_X9_sick ⟨Nat.le_of_ble_eq_true rfl, Nat.le_of_ble_eq_true rfl⟩ rfl rfl (Nat.le_of_ble_eq_true rfl) dX9_digest_112) (fun v112 s112 h => ?_)
    refine g_i2l hC dX9_digest_115 ?_
    refine g_rl (r_S (As := [.long v105, .long (v112).toInt64]) (rest := []) hC (c_X9_with (l := ox_l X) (φ := ox_φ X) (D := ox_D X) (cI := ox_I X) (cB := ox_B X) hC.J  h) gX9_digest_X9_with rfl hd_X9_with ⟨Nat.le_of_ble_eq_true rfl, Nat.le_of_ble_eq_true rfl⟩ rfl rfl (Nat.le_of_ble_eq_true rfl) dX9_digest_116) (fun v116 s116 h => ?_)
    refine g_aload_n hC 1 dX9_digest_119 rfl rfl ?_
    refine g_iconst (v := (1 : Int32)) hC dX9_digest_120 (by decide) ?_
    refine g_ri (r_V (C := RX9) (T := TX9) (N := 9) (As := [.int (1 : Int32)]) (rest := [.long v116]) hC o_iX9 (o_eX9 _ _ _ _) rfl (c_X9_sick (l := ox_l X) (φ := ox_φ X) (D := ox_D X) (cI := ox_I X) (cB := ox_B X) hC.J  h) gX9_digest_X9_sick rfl hd_X9_sick ⟨Nat.le_of_ble_eq_true rfl, Nat.le_of_ble_eq_true rfl⟩ rfl rfl (Nat.le_of_ble_eq_true rfl) dX9_digest_121) (fun v121 s121 h => ?_)
    refine g_i2l hC dX9_digest_124 ?_
    refine g_rl (r_S (As := [.long v116, .long (v121).toInt64]) (rest := []) hC (c_X9_with (l := ox_l X) (φ := ox_φ X) (D := ox_D X) (cI := ox_I X) (cB := ox_B X) hC.J  h) gX9_digest_X9_with rfl hd_X9_with ⟨Nat.le_of_ble_eq_true rfl, Nat.le_of_ble_eq_true rfl⟩ rfl rfl (Nat.le_of_ble_eq_true rfl) dX9_digest_125) (fun v125 s125 h => ?_)
    refine g_lstore_n hC [(1, .long v125), (0, .ref (ox_φ X (0, 0, 0))), (3, .int x3)] dX9_digest_128 rfl (by decide) rfl ?_
    refine g_sub [1, 0] rfl ?_
    exact wb_X9_digest_129 hC hR h
  · have h := h.2 z
    refine g_lload_n hC 1 dX9_digest_65 rfl rfl ?_
    refine g_aload_n hC 0 dX9_digest_66 rfl rfl ?_
    refine g_bipush (v := (10 : Int32)) hC dX9_digest_67 (by decide) ?_
    refine g_iload_n hC 2 dX9_digest_69 rfl rfl ?_
    refine g_iadd hC dX9_digest_70 ?_
    refine g_ri (r_V (C := RX9) (T := TX9) (N := 9) (As := [.int ((10 : Int32) + x3)]) (rest := [.long x1]) hC o_iX9 (o_eX9 _ _ _ _) rfl (c_X9_order (l := ox_l X) (φ := ox_φ X) (D := ox_D X) (cI := ox_I X) (cB := ox_B X) hC.J  h) gX9_digest_X9_order rfl hd_X9_order ⟨Nat.le_of_ble_eq_true rfl, Nat.le_of_ble_eq_true rfl⟩ rfl rfl (Nat.le_of_ble_eq_true rfl) dX9_digest_71) (fun v71 s71 h => ?_)
    refine g_i2l hC dX9_digest_74 ?_
    refine g_rl (r_S (As := [.long x1, .long (v71).toInt64]) (rest := []) hC (c_X9_with (l := ox_l X) (φ := ox_φ X) (D := ox_D X) (cI := ox_I X) (cB := ox_B X) hC.J  h) gX9_digest_X9_with rfl hd_X9_with ⟨Nat.le_of_ble_eq_true rfl, Nat.le_of_ble_eq_true rfl⟩ rfl rfl (Nat.le_of_ble_eq_true rfl) dX9_digest_75) (fun v75 s75 h => ?_)
    refine g_lstore_n hC [(1, .long v75), (0, .ref (ox_φ X (0, 0, 0))), (3, .int x3)] dX9_digest_78 rfl (by decide) rfl ?_
    refine g_iinc (v := (x3 + (1 : Int32))) hC 2 [(3, .int (x3 + (1 : Int32))), (1, .long v75), (0, .ref (ox_φ X (0, 0, 0)))] dX9_digest_79 rfl rfl (by decide) rfl ?_
    refine g_goto hC 59 dX9_digest_82 (by decide) ?_
    refine g_sub [2, 1, 0] rfl ?_
    exact hK59 _ _ _ h
set_option maxHeartbeats 4000000 in
set_option maxRecDepth 100000 in
theorem lp_X9_digest_59 {X : OX} {post : Int64 → SS → Prop} (hC : o_C X cX9_digest RX9 wsX9_digest 6 144 4) (hR : o_RL X cX9_digest post) : ∀ (n : Nat) (a : Int64 × Int32) (σ : SS), LP_X9_digest_59 post n a σ → o_G X σ 59 [(0, .ref (ox_φ X (0, 0, 0))), (1, .long a.1), (3, .int a.2)] [] :=
 o_lp_G (fun K hK a σ h => wb_X9_digest_59 hC hR (fun x1 x3 σ h => hK (x1, x3) σ h) h)
set_option maxHeartbeats 4000000 in
set_option maxRecDepth 100000 in
theorem wb_X9_digest_6 {X : OX} {post : Int64 → SS → Prop} {K6 : Int64 → Int32 → SS → Prop} {x1 : Int64} {x3 : Int32} {σ : SS} (hC : o_C X cX9_digest RX9 wsX9_digest 6 144 4) (hR : o_RL X cX9_digest post) (hK6 : ∀ (x1 : Int64) (x3 : Int32) (σ : SS), K6 x1 x3 σ → o_G X σ 6 [(0, .ref (ox_φ X (0, 0, 0))), (1, .long x1), (3, .int x3)] []) (h : VB_X9_digest_6 post K6 x1 x3 σ) : o_G X σ 6 [(0, .ref (ox_φ X (0, 0, 0))), (1, .long x1), (3, .int x3)] [] := by
  unfold VB_X9_digest_6 at h
  refine g_iload_n hC 2 dX9_digest_6 rfl rfl ?_
  refine g_aload_n hC 0 dX9_digest_7 rfl rfl ?_
  refine g_get (C := RX9) (T := TX9) (N := 9) (v := .ref (ox_φ X (2, 0, 0))) hC o_iX9 (o_eX9 _ _ _ _) rfl ki_X9_digest_X9 1 (by decide) kw_X9_digest_2 rfl dX9_digest_8 ?_
  refine g_ri (r_V (C := RX5) (T := TX5) (N := 8) (As := []) (rest := [.int x3]) hC o_iX5 (o_eX5 _ _ _ _) rfl (c_X5_size (l := ox_l X) (φ := ox_φ X) (D := ox_D X) (cI := ox_I X) (cB := ox_B X) hC.J  h) gX9_digest_X5_size rfl hd_X5_size ⟨Nat.le_of_ble_eq_true rfl, Nat.le_of_ble_eq_true rfl⟩ rfl rfl (Nat.le_of_ble_eq_true rfl) dX9_digest_11) (fun v11 s11 h => ?_)
  refine g_icmp_ge hC 30 dX9_digest_14 (by decide) (fun z => ?_) (fun z => ?_)
  · have h := h.1 z
    refine g_aload_n hC 0 dX9_digest_30 rfl rfl ?_
    refine g_ri (r_V (C := RX9) (T := TX9) (N := 9) (As := []) (rest := []) hC o_iX9 (o_eX9 _ _ _ _) rfl (c_X9_hasSchool (l := ox_l X) (φ := ox_φ X) (D := ox_D X) (cI := ox_I X) (cB := ox_B X) hC.J  h) gX9_digest_X9_hasSchool rfl hd_X9_hasSchool ⟨Nat.le_of_ble_eq_true rfl, Nat.le_of_ble_eq_true rfl⟩ rfl rfl (Nat.le_of_ble_eq_true rfl) dX9_digest_31) (fun v31 s31 h => ?_)
    refine g_if_eq hC 129 dX9_digest_34 (by decide) (fun z => ?_) (fun z => ?_)
    · have h := h.1 z
      refine g_sub [0, 1] rfl ?_
      exact wb_X9_digest_129 hC hR h
    · have h := h.2 z
      refine g_lload_n hC 1 dX9_digest_37 rfl rfl ?_
      refine g_aload_n hC 0 dX9_digest_38 rfl rfl ?_
      refine g_iconst (v := (0 : Int32)) hC dX9_digest_39 (by decide) ?_
      refine g_ri (r_V (C := RX9) (T := TX9) (N := 9) (As := [.int (0 : Int32)]) (rest := [.long x1]) hC o_iX9 (o_eX9 _ _ _ _) rfl (c_X9_order (l := ox_l X) (φ := ox_φ X) (D := ox_D X) (cI := ox_I X) (cB := ox_B X) hC.J  h) gX9_digest_X9_order rfl hd_X9_order ⟨Nat.le_of_ble_eq_true rfl, Nat.le_of_ble_eq_true rfl⟩ rfl rfl (Nat.le_of_ble_eq_true rfl) dX9_digest_40) (fun v40 s40 h => ?_)
      refine g_i2l hC dX9_digest_43 ?_
      refine g_rl (r_S (As := [.long x1, .long (v40).toInt64]) (rest := []) hC (c_X9_with (l := ox_l X) (φ := ox_φ X) (D := ox_D X) (cI := ox_I X) (cB := ox_B X) hC.J  h) gX9_digest_X9_with rfl hd_X9_with ⟨Nat.le_of_ble_eq_true rfl, Nat.le_of_ble_eq_true rfl⟩ rfl rfl (Nat.le_of_ble_eq_true rfl) dX9_digest_44) (fun v44 s44 h => ?_)
      refine g_aload_n hC 0 dX9_digest_47 rfl rfl ?_
      refine g_iconst (v := (1 : Int32)) hC dX9_digest_48 (by decide) ?_
      refine g_ri (r_V (C := RX9) (T := TX9) (N := 9) (As := [.int (1 : Int32)]) (rest := [.long v44]) hC o_iX9 (o_eX9 _ _ _ _) rfl (c_X9_order (l := ox_l X) (φ := ox_φ X) (D := ox_D X) (cI := ox_I X) (cB := ox_B X) hC.J  h) gX9_digest_X9_order rfl hd_X9_order ⟨Nat.le_of_ble_eq_true rfl, Nat.le_of_ble_eq_true rfl⟩ rfl rfl (Nat.le_of_ble_eq_true rfl) dX9_digest_49) (fun v49 s49 h => ?_)
      refine g_i2l hC dX9_digest_52 ?_
      refine g_rl (r_S (As := [.long v44, .long (v49).toInt64]) (rest := []) hC (c_X9_with (l := ox_l X) (φ := ox_φ X) (D := ox_D X) (cI := ox_I X) (cB := ox_B X) hC.J  h) gX9_digest_X9_with rfl hd_X9_with ⟨Nat.le_of_ble_eq_true rfl, Nat.le_of_ble_eq_true rfl⟩ rfl rfl (Nat.le_of_ble_eq_true rfl) dX9_digest_53) (fun v53 s53 h => ?_)
      refine g_lstore_n hC [(1, .long v53), (0, .ref (ox_φ X (0, 0, 0))), (3, .int x3)] dX9_digest_56 rfl (by decide) rfl ?_
      refine g_iconst (v := (0 : Int32)) hC dX9_digest_57 (by decide) ?_
      refine g_istore_n hC [(3, .int (0 : Int32)), (1, .long v53), (0, .ref (ox_φ X (0, 0, 0)))] dX9_digest_58 rfl (by decide) rfl ?_
      refine g_sub [2, 1, 0] rfl ?_
      obtain ⟨n, h⟩ := h
      exact lp_X9_digest_59 hC hR n _ _ h
  · have h := h.2 z
    refine g_aload_n hC 0 dX9_digest_17 rfl rfl ?_
    refine g_lload_n hC 1 dX9_digest_18 rfl rfl ?_
    refine g_iload_n hC 2 dX9_digest_19 rfl rfl ?_
    refine g_rl (r_V (C := RX9) (T := TX9) (N := 9) (As := [.long x1, .int x3]) (rest := []) hC o_iX9 (o_eX9 _ _ _ _) rfl (c_X9_withChild (l := ox_l X) (φ := ox_φ X) (D := ox_D X) (cI := ox_I X) (cB := ox_B X) hC.J  h) gX9_digest_X9_withChild rfl hd_X9_withChild ⟨Nat.le_of_ble_eq_true rfl, Nat.le_of_ble_eq_true rfl⟩ rfl rfl (Nat.le_of_ble_eq_true rfl) dX9_digest_20) (fun v20 s20 h => ?_)
    refine g_lstore_n hC [(1, .long v20), (0, .ref (ox_φ X (0, 0, 0))), (3, .int x3)] dX9_digest_23 rfl (by decide) rfl ?_
    refine g_iinc (v := (x3 + (1 : Int32))) hC 2 [(3, .int (x3 + (1 : Int32))), (1, .long v20), (0, .ref (ox_φ X (0, 0, 0)))] dX9_digest_24 rfl rfl (by decide) rfl ?_
    refine g_goto hC 6 dX9_digest_27 (by decide) ?_
    refine g_sub [2, 1, 0] rfl ?_
    exact hK6 _ _ _ h
set_option maxHeartbeats 4000000 in
set_option maxRecDepth 100000 in
theorem lp_X9_digest_6 {X : OX} {post : Int64 → SS → Prop} (hC : o_C X cX9_digest RX9 wsX9_digest 6 144 4) (hR : o_RL X cX9_digest post) : ∀ (n : Nat) (a : Int64 × Int32) (σ : SS), LP_X9_digest_6 post n a σ → o_G X σ 6 [(0, .ref (ox_φ X (0, 0, 0))), (1, .long a.1), (3, .int a.2)] [] :=
 o_lp_G (fun K hK a σ h => wb_X9_digest_6 hC hR (fun x1 x3 σ h => hK (x1, x3) σ h) h)
set_option maxHeartbeats 4000000 in
set_option maxRecDepth 100000 in
theorem wv_X9_digest {X : OX} {post : Int64 → SS → Prop} {σ : SS} (hC : o_C X cX9_digest RX9 wsX9_digest 6 144 4) (hR : o_RL X cX9_digest post) (h : V_X9_digest σ post) : o_G X σ 0 [(0, .ref (ox_φ X (0, 0, 0)))] [] := by
  unfold V_X9_digest at h
  refine g_ldc2 hC kw_X9_digest_1 dX9_digest_0 ?_
  refine g_lstore_n hC [(1, .long (773 : Int64)), (0, .ref (ox_φ X (0, 0, 0)))] dX9_digest_3 rfl (by decide) rfl ?_
  refine g_iconst (v := (0 : Int32)) hC dX9_digest_4 (by decide) ?_
  refine g_istore_n hC [(3, .int (0 : Int32)), (1, .long (773 : Int64)), (0, .ref (ox_φ X (0, 0, 0)))] dX9_digest_5 rfl (by decide) rfl ?_
  refine g_sub [2, 1, 0] rfl ?_
  obtain ⟨n, h⟩ := h
  exact lp_X9_digest_6 hC hR n _ _ h
set_option maxRecDepth 100000 in
theorem c_X9_digest {l : Launch} {φ : OI → Nat} {D : va_G} {cI cB : ClassId} (hJ : o_J φ) {σ : SS} {post : Int64 → SS → Prop} (h : V_X9_digest σ post) : o_Ml l φ D cI cB yX9_digest wsX9_digest 6 144 [.ref (φ (0, 0, 0))] σ post :=
 o_met_l hJ (by decide +kernel) rfl (Nat.le_of_ble_eq_true rfl) (fun p e s m args below meth c Q hC hR => wv_X9_digest hC hR h)
