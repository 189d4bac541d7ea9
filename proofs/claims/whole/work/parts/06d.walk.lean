theorem kw_X9_lesson_1 : Cond.fieldLink RX9 28 "SchoolRow" "now" "LSchoolRow$Row;" ∈ wsX9_lesson := List.mem_of_getElem? (i := 1) (by decide +kernel)
theorem ki_X9_lesson_X9 : ∀ w ∈ wsX90, w ∈ wsX9_lesson := fun _ h => List.mem_cons_of_mem _ (List.mem_append_left _ (List.mem_append_left _ (List.mem_append_left _ (List.mem_append_right _ h))))
theorem hd_X9_lesson : yX9_lesson.cls = RX9 ∧ yX9_lesson.cls ≠ "java/lang/invoke/MethodHandle" ∧ yX9_lesson.cls ≠ "java/lang/invoke/VarHandle" ∧ (parseMethodDescriptor yX9_lesson.desc).map (fun d => d.parameters.length) = some 2 := by decide +kernel
set_option maxHeartbeats 4000000 in
set_option maxRecDepth 100000 in
theorem wv_X9_lesson {X : OX} {x1 : Int32} {x2 : Int32} {post : Int32 → SS → Prop} {σ : SS} (hC : o_C X cX9_lesson RX9 wsX9_lesson 3 74 3) (hR : o_RI X cX9_lesson post) (h : V_X9_lesson x1 x2 σ post) : o_G X σ 0 [(0, .ref (ox_φ X (0, 0, 0))), (1, .int x1), (2, .int x2)] [] := by
  unfold V_X9_lesson at h
  refine g_iload_n hC 1 dX9_lesson_0 rfl rfl ?_
  refine g_ri (r_S (As := [.int x1]) (rest := []) hC (c_X9_isSubject (l := ox_l X) (φ := ox_φ X) (D := ox_D X) (cI := ox_I X) (cB := ox_B X) hC.J  h) gX9_lesson_X9_isSubject rfl hd_X9_isSubject ⟨Nat.le_of_ble_eq_true rfl, Nat.le_of_ble_eq_true rfl⟩ rfl rfl (Nat.le_of_ble_eq_true rfl) dX9_lesson_1) (fun v1 s1 h => ?_)
  refine g_if_ne hC 10 dX9_lesson_4 (by decide) (fun z => ?_) (fun z => ?_)
  · have h := h.1 z
    refine g_aload_n hC 0 dX9_lesson_10 rfl rfl ?_
    refine g_ri (r_V (C := RX9) (T := TX9) (N := 9) (As := []) (rest := []) hC o_iX9 (o_eX9 _ _ _ _) rfl (c_X9_hasSchool (l := ox_l X) (φ := ox_φ X) (D := ox_D X) (cI := ox_I X) (cB := ox_B X) hC.J  h) gX9_lesson_X9_hasSchool rfl hd_X9_hasSchool ⟨Nat.le_of_ble_eq_true rfl, Nat.le_of_ble_eq_true rfl⟩ rfl rfl (Nat.le_of_ble_eq_true rfl) dX9_lesson_11) (fun v11 s11 h => ?_)
    refine g_if_ne hC 20 dX9_lesson_14 (by decide) (fun z => ?_) (fun z => ?_)
    · have h := h.1 z
      refine g_aload_n hC 0 dX9_lesson_20 rfl rfl ?_
      refine g_get (C := RX9) (T := TX9) (N := 9) (v := .ref (ox_φ X (3, 0, 0))) hC o_iX9 (o_eX9 _ _ _ _) rfl ki_X9_lesson_X9 2 (by decide) kw_X9_lesson_1 rfl dX9_lesson_21 ?_
      refine g_iload_n hC 1 dX9_lesson_24 rfl rfl ?_
      refine g_iload_n hC 2 dX9_lesson_25 rfl rfl ?_
      refine g_ri (r_V (C := RX4) (T := TX4) (N := 6) (As := [.int x1, .int x2]) (rest := []) hC (o_in3 0 (by decide)) (o_eX4 _ _ _ _ _) rfl (c_X4_teachDown (l := ox_l X) (φ := ox_φ X) (D := ox_D X) (cI := ox_I X) (cB := ox_B X) hC.J (by decide) h) gX9_lesson_X4_teachDown rfl hd_X4_teachDown ⟨Nat.le_of_ble_eq_true rfl, Nat.le_of_ble_eq_true rfl⟩ rfl rfl (Nat.le_of_ble_eq_true rfl) dX9_lesson_26) (fun v26 s26 h => ?_)
      exact hR _ _ _ _ dX9_lesson_29 h
    · have h := h.2 z
      refine g_bipush (v := (-103 : Int32)) hC dX9_lesson_17 (by decide) ?_
      exact hR _ _ _ _ dX9_lesson_19 h
  · have h := h.2 z
    refine g_bipush (v := (-101 : Int32)) hC dX9_lesson_7 (by decide) ?_
    exact hR _ _ _ _ dX9_lesson_9 h
set_option maxRecDepth 100000 in
theorem c_X9_lesson {l : Launch} {φ : OI → Nat} {D : va_G} {cI cB : ClassId} (hJ : o_J φ) {x1 : Int32} {x2 : Int32} {σ : SS} {post : Int32 → SS → Prop} (h : V_X9_lesson x1 x2 σ post) : o_Mi l φ D cI cB yX9_lesson wsX9_lesson 3 74 [.ref (φ (0, 0, 0)), .int x1, .int x2] σ post :=
 o_met_i hJ (by decide +kernel) rfl (Nat.le_of_ble_eq_true rfl) (fun p e s m args below meth c Q hC hR => wv_X9_lesson hC hR h)
theorem kw_X9_summer_1 : Cond.fieldLink RX9 28 "SchoolRow" "now" "LSchoolRow$Row;" ∈ wsX9_summer := List.mem_of_getElem? (i := 1) (by decide +kernel)
theorem ki_X9_summer_X9 : ∀ w ∈ wsX90, w ∈ wsX9_summer := fun _ h => List.mem_cons_of_mem _ (List.mem_append_left _ (List.mem_append_left _ (List.mem_append_left _ (List.mem_append_right _ h))))
theorem hd_X9_summer : yX9_summer.cls = RX9 ∧ yX9_summer.cls ≠ "java/lang/invoke/MethodHandle" ∧ yX9_summer.cls ≠ "java/lang/invoke/VarHandle" ∧ (parseMethodDescriptor yX9_summer.desc).map (fun d => d.parameters.length) = some 0 := by decide +kernel
set_option maxHeartbeats 4000000 in
set_option maxRecDepth 100000 in
theorem wb_X9_summer_19 {X : OX} {post : Int32 → SS → Prop} {t0 : Int32} {σ : SS} (hC : o_C X cX9_summer RX9 wsX9_summer 3 69 1) (hR : o_RI X cX9_summer post) (h : VB_X9_summer_19 post t0 σ) : o_G X σ 19 [] [.int t0] := by
  unfold VB_X9_summer_19 at h
  exact hR _ _ _ _ dX9_summer_19 h
set_option maxHeartbeats 4000000 in
set_option maxRecDepth 100000 in
theorem wv_X9_summer {X : OX} {post : Int32 → SS → Prop} {σ : SS} (hC : o_C X cX9_summer RX9 wsX9_summer 3 69 1) (hR : o_RI X cX9_summer post) (h : V_X9_summer σ post) : o_G X σ 0 [(0, .ref (ox_φ X (0, 0, 0)))] [] := by
  unfold V_X9_summer at h
  refine g_aload_n hC 0 dX9_summer_0 rfl rfl ?_
  refine g_ri (r_V (C := RX9) (T := TX9) (N := 9) (As := []) (rest := []) hC o_iX9 (o_eX9 _ _ _ _) rfl (c_X9_hasSchool (l := ox_l X) (φ := ox_φ X) (D := ox_D X) (cI := ox_I X) (cB := ox_B X) hC.J  h) gX9_summer_X9_hasSchool rfl hd_X9_hasSchool ⟨Nat.le_of_ble_eq_true rfl, Nat.le_of_ble_eq_true rfl⟩ rfl rfl (Nat.le_of_ble_eq_true rfl) dX9_summer_1) (fun v1 s1 h => ?_)
  refine g_if_eq hC 17 dX9_summer_4 (by decide) (fun z => ?_) (fun z => ?_)
  · have h := h.1 z
    refine g_bipush (v := (-103 : Int32)) hC dX9_summer_17 (by decide) ?_
    refine g_sub [] rfl ?_
    exact wb_X9_summer_19 hC hR h
  · have h := h.2 z
    refine g_aload_n hC 0 dX9_summer_7 rfl rfl ?_
    refine g_get (C := RX9) (T := TX9) (N := 9) (v := .ref (ox_φ X (3, 0, 0))) hC o_iX9 (o_eX9 _ _ _ _) rfl ki_X9_summer_X9 2 (by decide) kw_X9_summer_1 rfl dX9_summer_8 ?_
    refine g_ri (r_V (C := RX4) (T := TX4) (N := 6) (As := []) (rest := []) hC (o_in3 0 (by decide)) (o_eX4 _ _ _ _ _) rfl (c_X4_passSummer (l := ox_l X) (φ := ox_φ X) (D := ox_D X) (cI := ox_I X) (cB := ox_B X) hC.J (by decide) h) gX9_summer_X4_passSummer rfl hd_X4_passSummer ⟨Nat.le_of_ble_eq_true rfl, Nat.le_of_ble_eq_true rfl⟩ rfl rfl (Nat.le_of_ble_eq_true rfl) dX9_summer_11) (fun v11 s11 h => ?_)
    refine g_goto hC 19 dX9_summer_14 (by decide) ?_
    refine g_sub [] rfl ?_
    exact wb_X9_summer_19 hC hR h
set_option maxRecDepth 100000 in
theorem c_X9_summer {l : Launch} {φ : OI → Nat} {D : va_G} {cI cB : ClassId} (hJ : o_J φ) {σ : SS} {post : Int32 → SS → Prop} (h : V_X9_summer σ post) : o_Mi l φ D cI cB yX9_summer wsX9_summer 3 69 [.ref (φ (0, 0, 0))] σ post :=
 o_met_i hJ (by decide +kernel) rfl (Nat.le_of_ble_eq_true rfl) (fun p e s m args below meth c Q hC hR => wv_X9_summer hC hR h)
theorem kw_X9_wipe_1 : Cond.fieldLink RX9 28 "SchoolRow" "now" "LSchoolRow$Row;" ∈ wsX9_wipe := List.mem_of_getElem? (i := 1) (by decide +kernel)
theorem ki_X9_wipe_X9 : ∀ w ∈ wsX90, w ∈ wsX9_wipe := fun _ h => List.mem_cons_of_mem _ (List.mem_append_left _ (List.mem_append_left _ (List.mem_append_left _ (List.mem_append_right _ h))))
theorem hd_X9_wipe : yX9_wipe.cls = RX9 ∧ yX9_wipe.cls ≠ "java/lang/invoke/MethodHandle" ∧ yX9_wipe.cls ≠ "java/lang/invoke/VarHandle" ∧ (parseMethodDescriptor yX9_wipe.desc).map (fun d => d.parameters.length) = some 2 := by decide +kernel
set_option maxHeartbeats 4000000 in
set_option maxRecDepth 100000 in
theorem wb_X9_wipe_15 {X : OX} {post : Int32 → SS → Prop} {σ : SS} (hC : o_C X cX9_wipe RX9 wsX9_wipe 2 44 4) (hR : o_RI X cX9_wipe post) (h : VB_X9_wipe_15 post σ) : o_G X σ 15 [] [] := by
  unfold VB_X9_wipe_15 at h
  refine g_bipush (v := (-101 : Int32)) hC dX9_wipe_15 (by decide) ?_
  exact hR _ _ _ _ dX9_wipe_17 h
set_option maxHeartbeats 4000000 in
set_option maxRecDepth 100000 in
theorem wv_X9_wipe {X : OX} {x1 : Int32} {x2 : Int32} {post : Int32 → SS → Prop} {σ : SS} (hC : o_C X cX9_wipe RX9 wsX9_wipe 2 44 4) (hR : o_RI X cX9_wipe post) (h : V_X9_wipe x1 x2 σ post) : o_G X σ 0 [(0, .ref (ox_φ X (0, 0, 0))), (1, .int x1), (2, .int x2)] [] := by
  unfold V_X9_wipe at h
  refine g_aload_n hC 0 dX9_wipe_0 rfl rfl ?_
  refine g_iload_n hC 1 dX9_wipe_1 rfl rfl ?_
  refine g_ri (r_V (C := RX9) (T := TX9) (N := 9) (As := [.int x1]) (rest := []) hC o_iX9 (o_eX9 _ _ _ _) rfl (c_X9_isChild (l := ox_l X) (φ := ox_φ X) (D := ox_D X) (cI := ox_I X) (cB := ox_B X) hC.J  h) gX9_wipe_X9_isChild rfl hd_X9_isChild ⟨Nat.le_of_ble_eq_true rfl, Nat.le_of_ble_eq_true rfl⟩ rfl rfl (Nat.le_of_ble_eq_true rfl) dX9_wipe_2) (fun v2 s2 h => ?_)
  refine g_if_eq hC 15 dX9_wipe_5 (by decide) (fun z => ?_) (fun z => ?_)
  · have h := h.1 z
    refine g_sub [] rfl ?_
    exact wb_X9_wipe_15 hC hR h
  · have h := h.2 z
    refine g_iload_n hC 2 dX9_wipe_8 rfl rfl ?_
    refine g_ri (r_S (As := [.int x2]) (rest := []) hC (c_X9_isSubject (l := ox_l X) (φ := ox_φ X) (D := ox_D X) (cI := ox_I X) (cB := ox_B X) hC.J  h) gX9_wipe_X9_isSubject rfl hd_X9_isSubject ⟨Nat.le_of_ble_eq_true rfl, Nat.le_of_ble_eq_true rfl⟩ rfl rfl (Nat.le_of_ble_eq_true rfl) dX9_wipe_9) (fun v9 s9 h => ?_)
    refine g_if_ne hC 18 dX9_wipe_12 (by decide) (fun z => ?_) (fun z => ?_)
    · have h := h.1 z
      refine g_aload_n hC 0 dX9_wipe_18 rfl rfl ?_
      refine g_get (C := RX9) (T := TX9) (N := 9) (v := .ref (ox_φ X (3, 0, 0))) hC o_iX9 (o_eX9 _ _ _ _) rfl ki_X9_wipe_X9 2 (by decide) kw_X9_wipe_1 rfl dX9_wipe_19 ?_
      refine g_iload_n hC 1 dX9_wipe_22 rfl rfl ?_
      refine g_iload_n hC 2 dX9_wipe_23 rfl rfl ?_
      refine g_ri (r_V (C := RX4) (T := TX4) (N := 6) (As := [.int x1, .int x2]) (rest := []) hC (o_in3 0 (by decide)) (o_eX4 _ _ _ _ _) rfl (c_X4_parts (l := ox_l X) (φ := ox_φ X) (D := ox_D X) (cI := ox_I X) (cB := ox_B X) hC.J (by decide) h) gX9_wipe_X4_parts rfl hd_X4_parts ⟨Nat.le_of_ble_eq_true rfl, Nat.le_of_ble_eq_true rfl⟩ rfl rfl (Nat.le_of_ble_eq_true rfl) dX9_wipe_24) (fun v24 s24 h => ?_)
      refine g_istore_n hC [(3, .int v24), (0, .ref (ox_φ X (0, 0, 0))), (1, .int x1), (2, .int x2)] dX9_wipe_27 rfl (by decide) rfl ?_
      refine g_aload_n hC 1 dX9_wipe_28 rfl rfl ?_
      refine g_get (C := RX9) (T := TX9) (N := 9) (v := .ref (ox_φ X (3, 0, 0))) hC o_iX9 (o_eX9 _ _ _ _) rfl ki_X9_wipe_X9 2 (by decide) kw_X9_wipe_1 rfl dX9_wipe_29 ?_
      refine g_iload_n hC 2 dX9_wipe_32 rfl rfl ?_
      refine g_iload_n hC 3 dX9_wipe_33 rfl rfl ?_
      refine g_rv (r_V (C := RX4) (T := TX4) (N := 6) (As := [.int x1, .int x2]) (rest := []) hC (o_in3 0 (by decide)) (o_eX4 _ _ _ _ _) rfl (c_X4_wipeSlate (l := ox_l X) (φ := ox_φ X) (D := ox_D X) (cI := ox_I X) (cB := ox_B X) hC.J (by decide) h) gX9_wipe_X4_wipeSlate rfl hd_X4_wipeSlate ⟨Nat.le_of_ble_eq_true rfl, Nat.le_of_ble_eq_true rfl⟩ rfl rfl (Nat.le_of_ble_eq_true rfl) dX9_wipe_34) (fun s34 h => ?_)
      refine g_iload_n hC 0 dX9_wipe_37 rfl rfl ?_
      exact hR _ _ _ _ dX9_wipe_38 h
    · have h := h.2 z
      refine g_sub [] rfl ?_
      exact wb_X9_wipe_15 hC hR h
set_option maxRecDepth 100000 in
theorem c_X9_wipe {l : Launch} {φ : OI → Nat} {D : va_G} {cI cB : ClassId} (hJ : o_J φ) {x1 : Int32} {x2 : Int32} {σ : SS} {post : Int32 → SS → Prop} (h : V_X9_wipe x1 x2 σ post) : o_Mi l φ D cI cB yX9_wipe wsX9_wipe 2 44 [.ref (φ (0, 0, 0)), .int x1, .int x2] σ post :=
 o_met_i hJ (by decide +kernel) rfl (Nat.le_of_ble_eq_true rfl) (fun p e s m args below meth c Q hC hR => wv_X9_wipe hC hR h)
theorem kw_X9_findBestOrder_1 : Cond.fieldLink RX9 70 "SchoolRow" "bestStands" "Z" ∈ wsX9_findBestOrder := List.mem_of_getElem? (i := 1) (by decide +kernel)
theorem kw_X9_findBestOrder_2 : Cond.fieldLink RX9 35 "SchoolRow" "trial" "LSchoolRow$Row;" ∈ wsX9_findBestOrder := List.mem_of_getElem? (i := 2) (by decide +kernel)
theorem kw_X9_findBestOrder_3 : Cond.fieldLink RX9 38 "SchoolRow" "best" "LSchoolRow$Row;" ∈ wsX9_findBestOrder := List.mem_of_getElem? (i := 3) (by decide +kernel)
theorem ki_X9_findBestOrder_X9 : ∀ w ∈ wsX90, w ∈ wsX9_findBestOrder := fun _ h => List.mem_cons_of_mem _ (List.mem_append_left _ (List.mem_append_left _ (List.mem_append_left _ (List.mem_append_right _ h))))
theorem hd_X9_findBestOrder : yX9_findBestOrder.cls = RX9 ∧ yX9_findBestOrder.cls ≠ "java/lang/invoke/MethodHandle" ∧ yX9_findBestOrder.cls ≠ "java/lang/invoke/VarHandle" ∧ (parseMethodDescriptor yX9_findBestOrder.desc).map (fun d => d.parameters.length) = some 0 := by decide +kernel
set_option maxHeartbeats 4000000 in
set_option maxRecDepth 100000 in
theorem wb_X9_findBestOrder_79 {X : OX} {post : SS → Prop} {σ : SS} (hC : o_C X cX9_findBestOrder RX9 wsX9_findBestOrder 4 95 2) (hR : o_RV X cX9_findBestOrder post) (h : VB_X9_findBestOrder_79 post σ) : o_G X σ 79 [(0, .ref (ox_φ X (0, 0, 0)))] [] := by
  unfold VB_X9_findBestOrder_79 at h
  refine g_aload_n hC 0 dX9_findBestOrder_79 rfl rfl ?_
  refine g_iconst (v := (1 : Int32)) hC dX9_findBestOrder_80 (by decide) ?_
  refine g_puti (C := RX9) (T := TX9) (N := 9) hC o_iX9 (o_eX9 _ _ _ _) rfl ki_X9_findBestOrder_X9 tyX9_ok nmX9 7 (by decide) kw_X9_findBestOrder_1 rfl rfl rfl (Nat.le_of_ble_eq_true rfl) (o_pX9_7 _ _ _ _ _) dX9_findBestOrder_81 ?_
  exact hR _ _ _ dX9_findBestOrder_84 h
set_option maxHeartbeats 4000000 in
set_option maxRecDepth 100000 in
theorem wb_X9_findBestOrder_60 {X : OX} {post : SS → Prop} {K17 : Int32 → SS → Prop} {x1 : Int32} {σ : SS} (hC : o_C X cX9_findBestOrder RX9 wsX9_findBestOrder 4 95 2) (hR : o_RV X cX9_findBestOrder post) (hK17 : ∀ (x1 : Int32) (σ : SS), K17 x1 σ → o_G X σ 17 [(0, .ref (ox_φ X (0, 0, 0))), (1, .int x1)] []) (h : VB_X9_findBestOrder_60 post K17 x1 σ) : o_G X σ 60 [(0, .ref (ox_φ X (0, 0, 0))), (1, .int x1)] [] := by
  unfold VB_X9_findBestOrder_60 at h
  refine g_aload_n hC 0 dX9_findBestOrder_60 rfl rfl ?_
  refine g_get (C := RX9) (T := TX9) (N := 9) (v := .ref (ox_φ X (3, 2, 0))) hC o_iX9 (o_eX9 _ _ _ _) rfl ki_X9_findBestOrder_X9 4 (by decide) kw_X9_findBestOrder_2 rfl dX9_findBestOrder_61 ?_
  refine g_ri (r_V (C := RX4) (T := TX4) (N := 6) (As := []) (rest := []) hC (o_in3 2 (by decide)) (o_eX4 _ _ _ _ _) rfl (c_X4_sitInNextOrder (l := ox_l X) (φ := ox_φ X) (D := ox_D X) (cI := ox_I X) (cB := ox_B X) hC.J (by decide) h) gX9_findBestOrder_X4_sitInNextOrder rfl hd_X4_sitInNextOrder ⟨Nat.le_of_ble_eq_true rfl, Nat.le_of_ble_eq_true rfl⟩ rfl rfl (Nat.le_of_ble_eq_true rfl) dX9_findBestOrder_64) (fun v64 s64 h => ?_)
  refine g_if_ne hC 73 dX9_findBestOrder_67 (by decide) (fun z => ?_) (fun z => ?_)
  · have h := h.1 z
    refine g_iinc (v := (x1 + (1 : Int32))) hC 1 [(1, .int (x1 + (1 : Int32))), (0, .ref (ox_φ X (0, 0, 0)))] dX9_findBestOrder_73 rfl rfl (by decide) rfl ?_
    refine g_goto hC 17 dX9_findBestOrder_76 (by decide) ?_
    refine g_sub [1, 0] rfl ?_
    exact hK17 _ _ h
  · have h := h.2 z
    refine g_goto hC 79 dX9_findBestOrder_70 (by decide) ?_
    refine g_sub [0] rfl ?_
    exact wb_X9_findBestOrder_79 hC hR h
set_option maxHeartbeats 4000000 in
set_option maxRecDepth 100000 in
theorem wb_X9_findBestOrder_49 {X : OX} {post : SS → Prop} {K17 : Int32 → SS → Prop} {x1 : Int32} {σ : SS} (hC : o_C X cX9_findBestOrder RX9 wsX9_findBestOrder 4 95 2) (hR : o_RV X cX9_findBestOrder post) (hK17 : ∀ (x1 : Int32) (σ : SS), K17 x1 σ → o_G X σ 17 [(0, .ref (ox_φ X (0, 0, 0))), (1, .int x1)] []) (h : VB_X9_findBestOrder_49 post K17 x1 σ) : o_G X σ 49 [(0, .ref (ox_φ X (0, 0, 0))), (1, .int x1)] [] := by
  unfold VB_X9_findBestOrder_49 at h
  refine g_aload_n hC 0 dX9_findBestOrder_49 rfl rfl ?_
  refine g_get (C := RX9) (T := TX9) (N := 9) (v := .ref (ox_φ X (3, 3, 0))) hC o_iX9 (o_eX9 _ _ _ _) rfl ki_X9_findBestOrder_X9 5 (by decide) kw_X9_findBestOrder_3 rfl dX9_findBestOrder_50 ?_
  refine g_aload_n hC 0 dX9_findBestOrder_53 rfl rfl ?_
  refine g_get (C := RX9) (T := TX9) (N := 9) (v := .ref (ox_φ X (3, 2, 0))) hC o_iX9 (o_eX9 _ _ _ _) rfl ki_X9_findBestOrder_X9 4 (by decide) kw_X9_findBestOrder_2 rfl dX9_findBestOrder_54 ?_
  refine g_rv (r_V (C := RX4) (T := TX4) (N := 6) (As := [.ref (ox_φ X (3, 2, 0))]) (rest := []) hC (o_in3 3 (by decide)) (o_eX4 _ _ _ _ _) rfl (c_X4_copyFrom (l := ox_l X) (φ := ox_φ X) (D := ox_D X) (cI := ox_I X) (cB := ox_B X) hC.J (by decide) (by decide) h) gX9_findBestOrder_X4_copyFrom rfl hd_X4_copyFrom ⟨Nat.le_of_ble_eq_true rfl, Nat.le_of_ble_eq_true rfl⟩ rfl rfl (Nat.le_of_ble_eq_true rfl) dX9_findBestOrder_57) (fun s57 h => ?_)
  exact wb_X9_findBestOrder_60 hC hR hK17 h
set_option maxHeartbeats 4000000 in
set_option maxRecDepth 100000 in
theorem wb_X9_findBestOrder_17 {X : OX} {post : SS → Prop} {K17 : Int32 → SS → Prop} {x1 : Int32} {σ : SS} (hC : o_C X cX9_findBestOrder RX9 wsX9_findBestOrder 4 95 2) (hR : o_RV X cX9_findBestOrder post) (hK17 : ∀ (x1 : Int32) (σ : SS), K17 x1 σ → o_G X σ 17 [(0, .ref (ox_φ X (0, 0, 0))), (1, .int x1)] []) (h : VB_X9_findBestOrder_17 post K17 x1 σ) : o_G X σ 17 [(0, .ref (ox_φ X (0, 0, 0))), (1, .int x1)] [] := by
  unfold VB_X9_findBestOrder_17 at h
  refine g_iload_n hC 1 dX9_findBestOrder_17 rfl rfl ?_
  refine g_sipush (v := (720 : Int32)) hC dX9_findBestOrder_18 (by decide) ?_
  refine g_icmp_ge hC 79 dX9_findBestOrder_21 (by decide) (fun z => ?_) (fun z => ?_)
  · have h := h.1 z
    refine g_sub [0] rfl ?_
    exact wb_X9_findBestOrder_79 hC hR h
  · have h := h.2 z
    refine g_aload_n hC 0 dX9_findBestOrder_24 rfl rfl ?_
    refine g_get (C := RX9) (T := TX9) (N := 9) (v := .ref (ox_φ X (3, 2, 0))) hC o_iX9 (o_eX9 _ _ _ _) rfl ki_X9_findBestOrder_X9 4 (by decide) kw_X9_findBestOrder_2 rfl dX9_findBestOrder_25 ?_
    refine g_rv (r_V (C := RX4) (T := TX4) (N := 6) (As := []) (rest := []) hC (o_in3 2 (by decide)) (o_eX4 _ _ _ _ _) rfl (c_X4_teachFromNothing (l := ox_l X) (φ := ox_φ X) (D := ox_D X) (cI := ox_I X) (cB := ox_B X) hC.J (by decide) h) gX9_findBestOrder_X4_teachFromNothing rfl hd_X4_teachFromNothing ⟨Nat.le_of_ble_eq_true rfl, Nat.le_of_ble_eq_true rfl⟩ rfl rfl (Nat.le_of_ble_eq_true rfl) dX9_findBestOrder_28) (fun s28 h => ?_)
    refine g_iload_n hC 1 dX9_findBestOrder_31 rfl rfl ?_
    refine g_if_eq hC 49 dX9_findBestOrder_32 (by decide) (fun z => ?_) (fun z => ?_)
    · have h := h.1 z
      exact wb_X9_findBestOrder_49 hC hR hK17 h
    · have h := h.2 z
      refine g_aload_n hC 0 dX9_findBestOrder_35 rfl rfl ?_
      refine g_get (C := RX9) (T := TX9) (N := 9) (v := .ref (ox_φ X (3, 2, 0))) hC o_iX9 (o_eX9 _ _ _ _) rfl ki_X9_findBestOrder_X9 4 (by decide) kw_X9_findBestOrder_2 rfl dX9_findBestOrder_36 ?_
      refine g_aload_n hC 0 dX9_findBestOrder_39 rfl rfl ?_
      refine g_get (C := RX9) (T := TX9) (N := 9) (v := .ref (ox_φ X (3, 3, 0))) hC o_iX9 (o_eX9 _ _ _ _) rfl ki_X9_findBestOrder_X9 5 (by decide) kw_X9_findBestOrder_3 rfl dX9_findBestOrder_40 ?_
      refine g_ri (r_V (C := RX4) (T := TX4) (N := 6) (As := [.ref (ox_φ X (3, 3, 0))]) (rest := []) hC (o_in3 2 (by decide)) (o_eX4 _ _ _ _ _) rfl (c_X4_endsBetterThan (l := ox_l X) (φ := ox_φ X) (D := ox_D X) (cI := ox_I X) (cB := ox_B X) hC.J (by decide) (by decide) h) gX9_findBestOrder_X4_endsBetterThan rfl hd_X4_endsBetterThan ⟨Nat.le_of_ble_eq_true rfl, Nat.le_of_ble_eq_true rfl⟩ rfl rfl (Nat.le_of_ble_eq_true rfl) dX9_findBestOrder_43) (fun v43 s43 h => ?_)
      refine g_if_eq hC 60 dX9_findBestOrder_46 (by decide) (fun z => ?_) (fun z => ?_)
      · have h := h.1 z
        exact wb_X9_findBestOrder_60 hC hR hK17 h
      · have h := h.2 z
        exact wb_X9_findBestOrder_49 hC hR hK17 h
set_option maxHeartbeats 4000000 in
set_option maxRecDepth 100000 in
theorem lp_X9_findBestOrder_17 {X : OX} {post : SS → Prop} (hC : o_C X cX9_findBestOrder RX9 wsX9_findBestOrder 4 95 2) (hR : o_RV X cX9_findBestOrder post) : ∀ (n : Nat) (a : Int32) (σ : SS), LP_X9_findBestOrder_17 post n a σ → o_G X σ 17 [(0, .ref (ox_φ X (0, 0, 0))), (1, .int a)] [] :=
 o_lp_G (fun K hK a σ h => wb_X9_findBestOrder_17 hC hR (fun x1 σ h => hK x1 σ h) h)
set_option maxHeartbeats 4000000 in
set_option maxRecDepth 100000 in
theorem wv_X9_findBestOrder {X : OX} {post : SS → Prop} {σ : SS} (hC : o_C X cX9_findBestOrder RX9 wsX9_findBestOrder 4 95 2) (hR : o_RV X cX9_findBestOrder post) (h : V_X9_findBestOrder σ post) : o_G X σ 0 [(0, .ref (ox_φ X (0, 0, 0)))] [] := by
  unfold V_X9_findBestOrder at h
  refine g_aload_n hC 0 dX9_findBestOrder_0 rfl rfl ?_
  refine g_get (C := RX9) (T := TX9) (N := 9) (v := .int (σ.1 (0, 0, 0) 7)) hC o_iX9 (o_eX9 _ _ _ _) rfl ki_X9_findBestOrder_X9 7 (by decide) kw_X9_findBestOrder_1 rfl dX9_findBestOrder_1 ?_
  refine g_if_eq hC 8 dX9_findBestOrder_4 (by decide) (fun z => ?_) (fun z => ?_)
  · have h := h.1 z
    refine g_aload_n hC 0 dX9_findBestOrder_8 rfl rfl ?_
    refine g_get (C := RX9) (T := TX9) (N := 9) (v := .ref (ox_φ X (3, 2, 0))) hC o_iX9 (o_eX9 _ _ _ _) rfl ki_X9_findBestOrder_X9 4 (by decide) kw_X9_findBestOrder_2 rfl dX9_findBestOrder_9 ?_
    refine g_rv (r_V (C := RX4) (T := TX4) (N := 6) (As := []) (rest := []) hC (o_in3 2 (by decide)) (o_eX4 _ _ _ _ _) rfl (c_X4_startAfresh (l := ox_l X) (φ := ox_φ X) (D := ox_D X) (cI := ox_I X) (cB := ox_B X) hC.J (by decide) h) gX9_findBestOrder_X4_startAfresh rfl hd_X4_startAfresh ⟨Nat.le_of_ble_eq_true rfl, Nat.le_of_ble_eq_true rfl⟩ rfl rfl (Nat.le_of_ble_eq_true rfl) dX9_findBestOrder_12) (fun s12 h => ?_)
    refine g_iconst (v := (0 : Int32)) hC dX9_findBestOrder_15 (by decide) ?_
    refine g_istore_n hC [(1, .int (0 : Int32)), (0, .ref (ox_φ X (0, 0, 0)))] dX9_findBestOrder_16 rfl (by decide) rfl ?_
    refine g_sub [1, 0] rfl ?_
    obtain ⟨n, h⟩ := h
    exact lp_X9_findBestOrder_17 hC hR n _ _ h
  · have h := h.2 z
    exact hR _ _ _ dX9_findBestOrder_7 h
set_option maxRecDepth 100000 in
theorem c_X9_findBestOrder {l : Launch} {φ : OI → Nat} {D : va_G} {cI cB : ClassId} (hJ : o_J φ) {σ : SS} {post : SS → Prop} (h : V_X9_findBestOrder σ post) : o_Mv l φ D cI cB yX9_findBestOrder wsX9_findBestOrder 4 95 [.ref (φ (0, 0, 0))] σ post :=
 o_met_v hJ (by decide +kernel) rfl (Nat.le_of_ble_eq_true rfl) (fun p e s m args below meth c Q hC hR => wv_X9_findBestOrder hC hR h)
theorem kw_X9_order_1 : Cond.fieldLink RX9 38 "SchoolRow" "best" "LSchoolRow$Row;" ∈ wsX9_order := List.mem_of_getElem? (i := 1) (by decide +kernel)
theorem ki_X9_order_X9 : ∀ w ∈ wsX90, w ∈ wsX9_order := fun _ h => List.mem_cons_of_mem _ (List.mem_append_left _ (List.mem_append_left _ (List.mem_append_left _ (List.mem_append_right _ h))))
theorem hd_X9_order : yX9_order.cls = RX9 ∧ yX9_order.cls ≠ "java/lang/invoke/MethodHandle" ∧ yX9_order.cls ≠ "java/lang/invoke/VarHandle" ∧ (parseMethodDescriptor yX9_order.desc).map (fun d => d.parameters.length) = some 1 := by decide +kernel
set_option maxHeartbeats 4000000 in
set_option maxRecDepth 100000 in
theorem wb_X9_order_75 {X : OX} {post : Int32 → SS → Prop} {t0 : Int32} {σ : SS} (hC : o_C X cX9_order RX9 wsX9_order 5 116 4) (hR : o_RI X cX9_order post) (h : VB_X9_order_75 post t0 σ) : o_G X σ 75 [] [.int t0] := by
  unfold VB_X9_order_75 at h
  exact hR _ _ _ _ dX9_order_75 h
set_option maxHeartbeats 4000000 in
set_option maxRecDepth 100000 in
theorem wb_X9_order_97 {X : OX} {post : Int32 → SS → Prop} {t0 : Int32} {σ : SS} (hC : o_C X cX9_order RX9 wsX9_order 5 116 4) (hR : o_RI X cX9_order post) (h : VB_X9_order_97 post t0 σ) : o_G X σ 97 [] [.int t0] := by
  unfold VB_X9_order_97 at h
  exact hR _ _ _ _ dX9_order_97 h
set_option maxHeartbeats 4000000 in
set_option maxRecDepth 100000 in
theorem wb_X9_order_32 {X : OX} {post : Int32 → SS → Prop} {x1 : Int32} {x2 : Int32} {σ : SS} (hC : o_C X cX9_order RX9 wsX9_order 5 116 4) (hR : o_RI X cX9_order post) (h : VB_X9_order_32 post x1 x2 σ) : o_G X σ 32 [(0, .ref (ox_φ X (0, 0, 0))), (1, .int x1), (2, .int x2)] [] := by
  unfold VB_X9_order_32 at h
  refine g_aload_n hC 0 dX9_order_32 rfl rfl ?_
  refine g_ri (r_V (C := RX9) (T := TX9) (N := 9) (As := []) (rest := []) hC o_iX9 (o_eX9 _ _ _ _) rfl (c_X9_hasSchool (l := ox_l X) (φ := ox_φ X) (D := ox_D X) (cI := ox_I X) (cB := ox_B X) hC.J  h) gX9_order_X9_hasSchool rfl hd_X9_hasSchool ⟨Nat.le_of_ble_eq_true rfl, Nat.le_of_ble_eq_true rfl⟩ rfl rfl (Nat.le_of_ble_eq_true rfl) dX9_order_33) (fun v33 s33 h => ?_)
  refine g_if_ne hC 42 dX9_order_36 (by decide) (fun z => ?_) (fun z => ?_)
  · have h := h.1 z
    refine g_aload_n hC 0 dX9_order_42 rfl rfl ?_
    refine g_rv (r_V (C := RX9) (T := TX9) (N := 9) (As := []) (rest := []) hC o_iX9 (o_eX9 _ _ _ _) rfl (c_X9_findBestOrder (l := ox_l X) (φ := ox_φ X) (D := ox_D X) (cI := ox_I X) (cB := ox_B X) hC.J  h) gX9_order_X9_findBestOrder rfl hd_X9_findBestOrder ⟨Nat.le_of_ble_eq_true rfl, Nat.le_of_ble_eq_true rfl⟩ rfl rfl (Nat.le_of_ble_eq_true rfl) dX9_order_43) (fun s43 h => ?_)
    refine g_iload_n hC 2 dX9_order_46 rfl rfl ?_
    refine g_if_eq hC 76 dX9_order_47 (by decide) (fun z => ?_) (fun z => ?_)
    · have h := h.1 z
      refine g_iload_n hC 1 dX9_order_76 rfl rfl ?_
      refine g_if_ne hC 90 dX9_order_77 (by decide) (fun z => ?_) (fun z => ?_)
      · have h := h.1 z
        refine g_aload_n hC 0 dX9_order_90 rfl rfl ?_
        refine g_get (C := RX9) (T := TX9) (N := 9) (v := .ref (ox_φ X (3, 3, 0))) hC o_iX9 (o_eX9 _ _ _ _) rfl ki_X9_order_X9 5 (by decide) kw_X9_order_1 rfl dX9_order_91 ?_
        refine g_ri (r_V (C := RX4) (T := TX4) (N := 6) (As := []) (rest := []) hC (o_in3 3 (by decide)) (o_eX4 _ _ _ _ _) rfl (c_X4_lastMistakes (l := ox_l X) (φ := ox_φ X) (D := ox_D X) (cI := ox_I X) (cB := ox_B X) hC.J (by decide) h) gX9_order_X4_lastMistakes rfl hd_X4_lastMistakes ⟨Nat.le_of_ble_eq_true rfl, Nat.le_of_ble_eq_true rfl⟩ rfl rfl (Nat.le_of_ble_eq_true rfl) dX9_order_94) (fun v94 s94 h => ?_)
        refine g_sub [] rfl ?_
        exact wb_X9_order_97 hC hR h
      · have h := h.2 z
        refine g_aload_n hC 0 dX9_order_80 rfl rfl ?_
        refine g_get (C := RX9) (T := TX9) (N := 9) (v := .ref (ox_φ X (3, 3, 0))) hC o_iX9 (o_eX9 _ _ _ _) rfl ki_X9_order_X9 5 (by decide) kw_X9_order_1 rfl dX9_order_81 ?_
        refine g_ri (r_V (C := RX4) (T := TX4) (N := 6) (As := []) (rest := []) hC (o_in3 3 (by decide)) (o_eX4 _ _ _ _ _) rfl (c_X4_lastParts (l := ox_l X) (φ := ox_φ X) (D := ox_D X) (cI := ox_I X) (cB := ox_B X) hC.J (by decide) h) gX9_order_X4_lastParts rfl hd_X4_lastParts ⟨Nat.le_of_ble_eq_true rfl, Nat.le_of_ble_eq_true rfl⟩ rfl rfl (Nat.le_of_ble_eq_true rfl) dX9_order_84) (fun v84 s84 h => ?_)
        refine g_goto hC 97 dX9_order_87 (by decide) ?_
        refine g_sub [] rfl ?_
        exact wb_X9_order_97 hC hR h
    · have h := h.2 z
      refine g_iload_n hC 1 dX9_order_50 rfl rfl ?_
      refine g_bipush (v := (10 : Int32)) hC dX9_order_51 (by decide) ?_
      refine g_isub hC dX9_order_53 ?_
      refine g_istore_n hC [(3, .int (x1 - (10 : Int32))), (0, .ref (ox_φ X (0, 0, 0))), (1, .int x1), (2, .int x2)] dX9_order_54 rfl (by decide) rfl ?_
      refine g_aload_n hC 1 dX9_order_55 rfl rfl ?_
      refine g_iload_n hC 0 dX9_order_56 rfl rfl ?_
      refine g_ri (r_V (C := RX9) (T := TX9) (N := 9) (As := [.int (x1 - (10 : Int32))]) (rest := []) hC o_iX9 (o_eX9 _ _ _ _) rfl (c_X9_isChild (l := ox_l X) (φ := ox_φ X) (D := ox_D X) (cI := ox_I X) (cB := ox_B X) hC.J  h) gX9_order_X9_isChild rfl hd_X9_isChild ⟨Nat.le_of_ble_eq_true rfl, Nat.le_of_ble_eq_true rfl⟩ rfl rfl (Nat.le_of_ble_eq_true rfl) dX9_order_57) (fun v57 s57 h => ?_)
      refine g_if_eq hC 74 dX9_order_60 (by decide) (fun z => ?_) (fun z => ?_)
      · have h := h.1 z
        refine g_iconst (v := (-1 : Int32)) hC dX9_order_74 (by decide) ?_
        refine g_sub [] rfl ?_
        exact wb_X9_order_75 hC hR h
      · have h := h.2 z
        refine g_aload_n hC 1 dX9_order_63 rfl rfl ?_
        refine g_get (C := RX9) (T := TX9) (N := 9) (v := .ref (ox_φ X (3, 3, 0))) hC o_iX9 (o_eX9 _ _ _ _) rfl ki_X9_order_X9 5 (by decide) kw_X9_order_1 rfl dX9_order_64 ?_
        refine g_iload_n hC 0 dX9_order_67 rfl rfl ?_
        refine g_ri (r_V (C := RX4) (T := TX4) (N := 6) (As := [.int (x1 - (10 : Int32))]) (rest := []) hC (o_in3 3 (by decide)) (o_eX4 _ _ _ _ _) rfl (c_X4_childOn (l := ox_l X) (φ := ox_φ X) (D := ox_D X) (cI := ox_I X) (cB := ox_B X) hC.J (by decide) h) gX9_order_X4_childOn rfl hd_X4_childOn ⟨Nat.le_of_ble_eq_true rfl, Nat.le_of_ble_eq_true rfl⟩ rfl rfl (Nat.le_of_ble_eq_true rfl) dX9_order_68) (fun v68 s68 h => ?_)
        refine g_goto hC 75 dX9_order_71 (by decide) ?_
        refine g_sub [] rfl ?_
        exact wb_X9_order_75 hC hR h
  · have h := h.2 z
    refine g_bipush (v := (-103 : Int32)) hC dX9_order_39 (by decide) ?_
    exact hR _ _ _ _ dX9_order_41 h
set_option maxHeartbeats 4000000 in
set_option maxRecDepth 100000 in
theorem wb_X9_order_17 {X : OX} {post : Int32 → SS → Prop} {x1 : Int32} {t0 : Int32} {σ : SS} (hC : o_C X cX9_order RX9 wsX9_order 5 116 4) (hR : o_RI X cX9_order post) (h : VB_X9_order_17 post x1 t0 σ) : o_G X σ 17 [(0, .ref (ox_φ X (0, 0, 0))), (1, .int x1)] [.int t0] := by
  unfold VB_X9_order_17 at h
  refine g_istore_n hC [(2, .int t0), (0, .ref (ox_φ X (0, 0, 0))), (1, .int x1)] dX9_order_17 rfl (by decide) rfl ?_
  refine g_iload_n hC 2 dX9_order_18 rfl rfl ?_
  refine g_ri (r_S (As := [.int x1]) (rest := []) hC (c_X9_isEither (l := ox_l X) (φ := ox_φ X) (D := ox_D X) (cI := ox_I X) (cB := ox_B X) hC.J  h) gX9_order_X9_isEither rfl hd_X9_isEither ⟨Nat.le_of_ble_eq_true rfl, Nat.le_of_ble_eq_true rfl⟩ rfl rfl (Nat.le_of_ble_eq_true rfl) dX9_order_19) (fun v19 s19 h => ?_)
  refine g_if_ne hC 32 dX9_order_22 (by decide) (fun z => ?_) (fun z => ?_)
  · have h := h.1 z
    refine g_sub [1, 2, 0] rfl ?_
    exact wb_X9_order_32 hC hR h
  · have h := h.2 z
    refine g_iload_n hC 0 dX9_order_25 rfl rfl ?_
    refine g_if_ne hC 32 dX9_order_26 (by decide) (fun z => ?_) (fun z => ?_)
    · have h := h.1 z
      refine g_sub [1, 2, 0] rfl ?_
      exact wb_X9_order_32 hC hR h
    · have h := h.2 z
      refine g_bipush (v := (-102 : Int32)) hC dX9_order_29 (by decide) ?_
      exact hR _ _ _ _ dX9_order_31 h
set_option maxHeartbeats 4000000 in
set_option maxRecDepth 100000 in
theorem wb_X9_order_16 {X : OX} {post : Int32 → SS → Prop} {x1 : Int32} {σ : SS} (hC : o_C X cX9_order RX9 wsX9_order 5 116 4) (hR : o_RI X cX9_order post) (h : VB_X9_order_16 post x1 σ) : o_G X σ 16 [(0, .ref (ox_φ X (0, 0, 0))), (1, .int x1)] [] := by
  unfold VB_X9_order_16 at h
  refine g_iconst (v := (0 : Int32)) hC dX9_order_16 (by decide) ?_
  exact wb_X9_order_17 hC hR h
set_option maxHeartbeats 4000000 in
set_option maxRecDepth 100000 in
theorem wv_X9_order {X : OX} {x1 : Int32} {post : Int32 → SS → Prop} {σ : SS} (hC : o_C X cX9_order RX9 wsX9_order 5 116 4) (hR : o_RI X cX9_order post) (h : V_X9_order x1 σ post) : o_G X σ 0 [(0, .ref (ox_φ X (0, 0, 0))), (1, .int x1)] [] := by
  unfold V_X9_order at h
  refine g_iload_n hC 1 dX9_order_0 rfl rfl ?_
  refine g_bipush (v := (10 : Int32)) hC dX9_order_1 (by decide) ?_
  refine g_icmp_lt hC 16 dX9_order_3 (by decide) (fun z => ?_) (fun z => ?_)
  · have h := h.1 z
    exact wb_X9_order_16 hC hR h
  · have h := h.2 z
    refine g_iload_n hC 1 dX9_order_6 rfl rfl ?_
    refine g_bipush (v := (16 : Int32)) hC dX9_order_7 (by decide) ?_
    refine g_icmp_ge hC 16 dX9_order_9 (by decide) (fun z => ?_) (fun z => ?_)
    · have h := h.1 z
      exact wb_X9_order_16 hC hR h
    · have h := h.2 z
      refine g_iconst (v := (1 : Int32)) hC dX9_order_12 (by decide) ?_
      refine g_goto hC 17 dX9_order_13 (by decide) ?_
      exact wb_X9_order_17 hC hR h
set_option maxRecDepth 100000 in
theorem c_X9_order {l : Launch} {φ : OI → Nat} {D : va_G} {cI cB : ClassId} (hJ : o_J φ) {x1 : Int32} {σ : SS} {post : Int32 → SS → Prop} (h : V_X9_order x1 σ post) : o_Mi l φ D cI cB yX9_order wsX9_order 5 116 [.ref (φ (0, 0, 0)), .int x1] σ post :=
 o_met_i hJ (by decide +kernel) rfl (Nat.le_of_ble_eq_true rfl) (fun p e s m args below meth c Q hC hR => wv_X9_order hC hR h)
theorem kw_X9_partsAfterSongs_1 : Cond.fieldLink RX9 35 "SchoolRow" "trial" "LSchoolRow$Row;" ∈ wsX9_partsAfterSongs := List.mem_of_getElem? (i := 1) (by decide +kernel)
theorem kw_X9_partsAfterSongs_2 : Cond.fieldLink RX9 28 "SchoolRow" "now" "LSchoolRow$Row;" ∈ wsX9_partsAfterSongs := List.mem_of_getElem? (i := 2) (by decide +kernel)
theorem ki_X9_partsAfterSongs_X9 : ∀ w ∈ wsX90, w ∈ wsX9_partsAfterSongs := fun _ h => List.mem_cons_of_mem _ (List.mem_append_left _ (List.mem_append_left _ (List.mem_append_left _ (List.mem_append_right _ h))))
theorem hd_X9_partsAfterSongs : yX9_partsAfterSongs.cls = RX9 ∧ yX9_partsAfterSongs.cls ≠ "java/lang/invoke/MethodHandle" ∧ yX9_partsAfterSongs.cls ≠ "java/lang/invoke/VarHandle" ∧ (parseMethodDescriptor yX9_partsAfterSongs.desc).map (fun d => d.parameters.length) = some 1 := by decide +kernel
set_option maxHeartbeats 4000000 in
set_option maxRecDepth 100000 in
theorem wb_X9_partsAfterSongs_13 {X : OX} {post : Int32 → SS → Prop} {K13 : Int32 → Int32 → SS → Prop} {x1 : Int32} {x2 : Int32} {σ : SS} (hC : o_C X cX9_partsAfterSongs RX9 wsX9_partsAfterSongs 3 74 3) (hR : o_RI X cX9_partsAfterSongs post) (hK13 : ∀ (x1 : Int32) (x2 : Int32) (σ : SS), K13 x1 x2 σ → o_G X σ 13 [(0, .ref (ox_φ X (0, 0, 0))), (1, .int x1), (2, .int x2)] []) (h : VB_X9_partsAfterSongs_13 post K13 x1 x2 σ) : o_G X σ 13 [(0, .ref (ox_φ X (0, 0, 0))), (1, .int x1), (2, .int x2)] [] := by
  unfold VB_X9_partsAfterSongs_13 at h
  refine g_iload_n hC 2 dX9_partsAfterSongs_13 rfl rfl ?_
  refine g_iconst (v := (4 : Int32)) hC dX9_partsAfterSongs_14 (by decide) ?_
  refine g_icmp_ge hC 38 dX9_partsAfterSongs_15 (by decide) (fun z => ?_) (fun z => ?_)
  · have h := h.1 z
    refine g_aload_n hC 0 dX9_partsAfterSongs_38 rfl rfl ?_
    refine g_get (C := RX9) (T := TX9) (N := 9) (v := .ref (ox_φ X (3, 2, 0))) hC o_iX9 (o_eX9 _ _ _ _) rfl ki_X9_partsAfterSongs_X9 4 (by decide) kw_X9_partsAfterSongs_1 rfl dX9_partsAfterSongs_39 ?_
    refine g_ri (r_V (C := RX4) (T := TX4) (N := 6) (As := []) (rest := []) hC (o_in3 2 (by decide)) (o_eX4 _ _ _ _ _) rfl (c_X4_partsOfAll (l := ox_l X) (φ := ox_φ X) (D := ox_D X) (cI := ox_I X) (cB := ox_B X) hC.J (by decide) h) gX9_partsAfterSongs_X4_partsOfAll rfl hd_X4_partsOfAll ⟨Nat.le_of_ble_eq_true rfl, Nat.le_of_ble_eq_true rfl⟩ rfl rfl (Nat.le_of_ble_eq_true rfl) dX9_partsAfterSongs_42) (fun v42 s42 h => ?_)
    exact hR _ _ _ _ dX9_partsAfterSongs_45 h
  · have h := h.2 z
    refine g_aload_n hC 0 dX9_partsAfterSongs_18 rfl rfl ?_
    refine g_get (C := RX9) (T := TX9) (N := 9) (v := .ref (ox_φ X (3, 2, 0))) hC o_iX9 (o_eX9 _ _ _ _) rfl ki_X9_partsAfterSongs_X9 4 (by decide) kw_X9_partsAfterSongs_1 rfl dX9_partsAfterSongs_19 ?_
    refine g_iload_n hC 2 dX9_partsAfterSongs_22 rfl rfl ?_
    refine g_iload_n hC 1 dX9_partsAfterSongs_23 rfl rfl ?_
    refine g_iload_n hC 2 dX9_partsAfterSongs_24 rfl rfl ?_
    refine g_ri (r_S (As := [.int x1, .int x2]) (rest := [.int x2, .ref (ox_φ X (3, 2, 0))]) hC (c_X9_isIn (l := ox_l X) (φ := ox_φ X) (D := ox_D X) (cI := ox_I X) (cB := ox_B X) hC.J  h) gX9_partsAfterSongs_X9_isIn rfl hd_X9_isIn ⟨Nat.le_of_ble_eq_true rfl, Nat.le_of_ble_eq_true rfl⟩ rfl rfl (Nat.le_of_ble_eq_true rfl) dX9_partsAfterSongs_25) (fun v25 s25 h => ?_)
    refine g_ri (r_V (C := RX4) (T := TX4) (N := 6) (As := [.int x2, .int v25]) (rest := []) hC (o_in3 2 (by decide)) (o_eX4 _ _ _ _ _) rfl (c_X4_teachDown (l := ox_l X) (φ := ox_φ X) (D := ox_D X) (cI := ox_I X) (cB := ox_B X) hC.J (by decide) h) gX9_partsAfterSongs_X4_teachDown rfl hd_X4_teachDown ⟨Nat.le_of_ble_eq_true rfl, Nat.le_of_ble_eq_true rfl⟩ rfl rfl (Nat.le_of_ble_eq_true rfl) dX9_partsAfterSongs_28) (fun v28 s28 h => ?_)
    refine g_pop hC dX9_partsAfterSongs_31 rfl ?_
    refine g_iinc (v := (x2 + (1 : Int32))) hC 2 [(2, .int (x2 + (1 : Int32))), (0, .ref (ox_φ X (0, 0, 0))), (1, .int x1)] dX9_partsAfterSongs_32 rfl rfl (by decide) rfl ?_
    refine g_goto hC 13 dX9_partsAfterSongs_35 (by decide) ?_
    refine g_sub [1, 2, 0] rfl ?_
    exact hK13 _ _ _ h
set_option maxHeartbeats 4000000 in
set_option maxRecDepth 100000 in
theorem lp_X9_partsAfterSongs_13 {X : OX} {post : Int32 → SS → Prop} (hC : o_C X cX9_partsAfterSongs RX9 wsX9_partsAfterSongs 3 74 3) (hR : o_RI X cX9_partsAfterSongs post) : ∀ (n : Nat) (a : Int32 × Int32) (σ : SS), LP_X9_partsAfterSongs_13 post n a σ → o_G X σ 13 [(0, .ref (ox_φ X (0, 0, 0))), (1, .int a.1), (2, .int a.2)] [] :=
 o_lp_G (fun K hK a σ h => wb_X9_partsAfterSongs_13 hC hR (fun x1 x2 σ h => hK (x1, x2) σ h) h)
set_option maxHeartbeats 4000000 in
set_option maxRecDepth 100000 in
theorem wv_X9_partsAfterSongs {X : OX} {x1 : Int32} {post : Int32 → SS → Prop} {σ : SS} (hC : o_C X cX9_partsAfterSongs RX9 wsX9_partsAfterSongs 3 74 3) (hR : o_RI X cX9_partsAfterSongs post) (h : V_X9_partsAfterSongs x1 σ post) : o_G X σ 0 [(0, .ref (ox_φ X (0, 0, 0))), (1, .int x1)] [] := by
  unfold V_X9_partsAfterSongs at h
  refine g_aload_n hC 0 dX9_partsAfterSongs_0 rfl rfl ?_
  refine g_get (C := RX9) (T := TX9) (N := 9) (v := .ref (ox_φ X (3, 2, 0))) hC o_iX9 (o_eX9 _ _ _ _) rfl ki_X9_partsAfterSongs_X9 4 (by decide) kw_X9_partsAfterSongs_1 rfl dX9_partsAfterSongs_1 ?_
  refine g_aload_n hC 0 dX9_partsAfterSongs_4 rfl rfl ?_
  refine g_get (C := RX9) (T := TX9) (N := 9) (v := .ref (ox_φ X (3, 0, 0))) hC o_iX9 (o_eX9 _ _ _ _) rfl ki_X9_partsAfterSongs_X9 2 (by decide) kw_X9_partsAfterSongs_2 rfl dX9_partsAfterSongs_5 ?_
  refine g_rv (r_V (C := RX4) (T := TX4) (N := 6) (As := [.ref (ox_φ X (3, 0, 0))]) (rest := []) hC (o_in3 2 (by decide)) (o_eX4 _ _ _ _ _) rfl (c_X4_copyFrom (l := ox_l X) (φ := ox_φ X) (D := ox_D X) (cI := ox_I X) (cB := ox_B X) hC.J (by decide) (by decide) h) gX9_partsAfterSongs_X4_copyFrom rfl hd_X4_copyFrom ⟨Nat.le_of_ble_eq_true rfl, Nat.le_of_ble_eq_true rfl⟩ rfl rfl (Nat.le_of_ble_eq_true rfl) dX9_partsAfterSongs_8) (fun s8 h => ?_)
  refine g_iconst (v := (0 : Int32)) hC dX9_partsAfterSongs_11 (by decide) ?_
  refine g_istore_n hC [(2, .int (0 : Int32)), (0, .ref (ox_φ X (0, 0, 0))), (1, .int x1)] dX9_partsAfterSongs_12 rfl (by decide) rfl ?_
  refine g_sub [1, 2, 0] rfl ?_
  obtain ⟨n, h⟩ := h
  exact lp_X9_partsAfterSongs_13 hC hR n _ _ h
set_option maxRecDepth 100000 in
theorem c_X9_partsAfterSongs {l : Launch} {φ : OI → Nat} {D : va_G} {cI cB : ClassId} (hJ : o_J φ) {x1 : Int32} {σ : SS} {post : Int32 → SS → Prop} (h : V_X9_partsAfterSongs x1 σ post) : o_Mi l φ D cI cB yX9_partsAfterSongs wsX9_partsAfterSongs 3 74 [.ref (φ (0, 0, 0)), .int x1] σ post :=
 o_met_i hJ (by decide +kernel) rfl (Nat.le_of_ble_eq_true rfl) (fun p e s m args below meth c Q hC hR => wv_X9_partsAfterSongs hC hR h)
theorem kw_X9_breathOf_1 : Cond.fieldLink RX9 19 "SchoolRow" "school" "LSchoolRow$School;" ∈ wsX9_breathOf := List.mem_of_getElem? (i := 1) (by decide +kernel)
theorem ki_X9_breathOf_X9 : ∀ w ∈ wsX90, w ∈ wsX9_breathOf := fun _ h => List.mem_cons_of_mem _ (List.mem_append_left _ (List.mem_append_left _ (List.mem_append_right _ h)))
theorem hd_X9_breathOf : yX9_breathOf.cls = RX9 ∧ yX9_breathOf.cls ≠ "java/lang/invoke/MethodHandle" ∧ yX9_breathOf.cls ≠ "java/lang/invoke/VarHandle" ∧ (parseMethodDescriptor yX9_breathOf.desc).map (fun d => d.parameters.length) = some 1 := by decide +kernel
set_option maxHeartbeats 4000000 in
set_option maxRecDepth 100000 in
theorem wb_X9_breathOf_32 {X : OX} {post : Int32 → SS → Prop} {K4 : Int32 → Int32 → Int32 → SS → Prop} {x1 : Int32} {x3 : Int32} {t0 : Int32} {t1 : Int32} {σ : SS} (hC : o_C X cX9_breathOf RX9 wsX9_breathOf 2 42 4) (hR : o_RI X cX9_breathOf post) (hK4 : ∀ (x1 : Int32) (x2 : Int32) (x3 : Int32) (σ : SS), K4 x1 x2 x3 σ → o_G X σ 4 [(0, .ref (ox_φ X (0, 0, 0))), (1, .int x1), (2, .int x2), (3, .int x3)] []) (h : VB_X9_breathOf_32 post K4 x1 x3 t0 t1 σ) : o_G X σ 32 [(0, .ref (ox_φ X (0, 0, 0))), (1, .int x1), (3, .int x3)] [.int t0, .int t1] := by
  unfold VB_X9_breathOf_32 at h
  refine g_iadd hC dX9_breathOf_32 ?_
  refine g_istore_n hC [(2, .int (t1 + t0)), (0, .ref (ox_φ X (0, 0, 0))), (1, .int x1), (3, .int x3)] dX9_breathOf_33 rfl (by decide) rfl ?_
  refine g_iinc (v := (x3 + (1 : Int32))) hC 3 [(3, .int (x3 + (1 : Int32))), (2, .int (t1 + t0)), (0, .ref (ox_φ X (0, 0, 0))), (1, .int x1)] dX9_breathOf_34 rfl rfl (by decide) rfl ?_
  refine g_goto hC 4 dX9_breathOf_37 (by decide) ?_
  refine g_sub [2, 3, 1, 0] rfl ?_
  exact hK4 _ _ _ _ h
set_option maxHeartbeats 4000000 in
set_option maxRecDepth 100000 in
theorem wb_X9_breathOf_4 {X : OX} {post : Int32 → SS → Prop} {K4 : Int32 → Int32 → Int32 → SS → Prop} {x1 : Int32} {x2 : Int32} {x3 : Int32} {σ : SS} (hC : o_C X cX9_breathOf RX9 wsX9_breathOf 2 42 4) (hR : o_RI X cX9_breathOf post) (hK4 : ∀ (x1 : Int32) (x2 : Int32) (x3 : Int32) (σ : SS), K4 x1 x2 x3 σ → o_G X σ 4 [(0, .ref (ox_φ X (0, 0, 0))), (1, .int x1), (2, .int x2), (3, .int x3)] []) (h : VB_X9_breathOf_4 post K4 x1 x2 x3 σ) : o_G X σ 4 [(0, .ref (ox_φ X (0, 0, 0))), (1, .int x1), (2, .int x2), (3, .int x3)] [] := by
  unfold VB_X9_breathOf_4 at h
  refine g_iload_n hC 3 dX9_breathOf_4 rfl rfl ?_
  refine g_iconst (v := (4 : Int32)) hC dX9_breathOf_5 (by decide) ?_
  refine g_icmp_ge hC 40 dX9_breathOf_6 (by decide) (fun z => ?_) (fun z => ?_)
  · have h := h.1 z
    refine g_iload_n hC 2 dX9_breathOf_40 rfl rfl ?_
    exact hR _ _ _ _ dX9_breathOf_41 h
  · have h := h.2 z
    refine g_iload_n hC 2 dX9_breathOf_9 rfl rfl ?_
    refine g_iload_n hC 1 dX9_breathOf_10 rfl rfl ?_
    refine g_iload_n hC 3 dX9_breathOf_11 rfl rfl ?_
    refine g_ri (r_S (As := [.int x1, .int x3]) (rest := [.int x2]) hC (c_X9_isIn (l := ox_l X) (φ := ox_φ X) (D := ox_D X) (cI := ox_I X) (cB := ox_B X) hC.J  h) gX9_breathOf_X9_isIn rfl hd_X9_isIn ⟨Nat.le_of_ble_eq_true rfl, Nat.le_of_ble_eq_true rfl⟩ rfl rfl (Nat.le_of_ble_eq_true rfl) dX9_breathOf_12) (fun v12 s12 h => ?_)
    refine g_if_eq hC 31 dX9_breathOf_15 (by decide) (fun z => ?_) (fun z => ?_)
    · have h := h.1 z
      refine g_iconst (v := (0 : Int32)) hC dX9_breathOf_31 (by decide) ?_
      refine g_sub [0, 1, 3] rfl ?_
      exact wb_X9_breathOf_32 hC hR hK4 h
    · have h := h.2 z
      refine g_aload_n hC 0 dX9_breathOf_18 rfl rfl ?_
      refine g_get (C := RX9) (T := TX9) (N := 9) (v := .ref (ox_φ X (2, 0, 0))) hC o_iX9 (o_eX9 _ _ _ _) rfl ki_X9_breathOf_X9 1 (by decide) kw_X9_breathOf_1 rfl dX9_breathOf_19 ?_
      refine g_iconst (v := (2 : Int32)) hC dX9_breathOf_22 (by decide) ?_
      refine g_iload_n hC 3 dX9_breathOf_23 rfl rfl ?_
      refine g_iadd hC dX9_breathOf_24 ?_
      refine g_ri (r_V (C := RX5) (T := TX5) (N := 8) (As := [.int ((2 : Int32) + x3)]) (rest := [.int x2]) hC o_iX5 (o_eX5 _ _ _ _) rfl (c_X5_digit (l := ox_l X) (φ := ox_φ X) (D := ox_D X) (cI := ox_I X) (cB := ox_B X) hC.J  h) gX9_breathOf_X5_digit rfl hd_X5_digit ⟨Nat.le_of_ble_eq_true rfl, Nat.le_of_ble_eq_true rfl⟩ rfl rfl (Nat.le_of_ble_eq_true rfl) dX9_breathOf_25) (fun v25 s25 h => ?_)
      refine g_goto hC 32 dX9_breathOf_28 (by decide) ?_
      refine g_sub [0, 1, 3] rfl ?_
      exact wb_X9_breathOf_32 hC hR hK4 h
set_option maxHeartbeats 4000000 in
set_option maxRecDepth 100000 in
theorem lp_X9_breathOf_4 {X : OX} {post : Int32 → SS → Prop} (hC : o_C X cX9_breathOf RX9 wsX9_breathOf 2 42 4) (hR : o_RI X cX9_breathOf post) : ∀ (n : Nat) (a : Int32 × Int32 × Int32) (σ : SS), LP_X9_breathOf_4 post n a σ → o_G X σ 4 [(0, .ref (ox_φ X (0, 0, 0))), (1, .int a.1), (2, .int a.2.1), (3, .int a.2.2)] [] :=
 o_lp_G (fun K hK a σ h => wb_X9_breathOf_4 hC hR (fun x1 x2 x3 σ h => hK (x1, x2, x3) σ h) h)
set_option maxHeartbeats 4000000 in
set_option maxRecDepth 100000 in
theorem wv_X9_breathOf {X : OX} {x1 : Int32} {post : Int32 → SS → Prop} {σ : SS} (hC : o_C X cX9_breathOf RX9 wsX9_breathOf 2 42 4) (hR : o_RI X cX9_breathOf post) (h : V_X9_breathOf x1 σ post) : o_G X σ 0 [(0, .ref (ox_φ X (0, 0, 0))), (1, .int x1)] [] := by
  unfold V_X9_breathOf at h
  refine g_iconst (v := (0 : Int32)) hC dX9_breathOf_0 (by decide) ?_
  refine g_istore_n hC [(2, .int (0 : Int32)), (0, .ref (ox_φ X (0, 0, 0))), (1, .int x1)] dX9_breathOf_1 rfl (by decide) rfl ?_
  refine g_iconst (v := (0 : Int32)) hC dX9_breathOf_2 (by decide) ?_
  refine g_istore_n hC [(3, .int (0 : Int32)), (2, .int (0 : Int32)), (0, .ref (ox_φ X (0, 0, 0))), (1, .int x1)] dX9_breathOf_3 rfl (by decide) rfl ?_
  refine g_sub [2, 3, 1, 0] rfl ?_
  obtain ⟨n, h⟩ := h
  exact lp_X9_breathOf_4 hC hR n _ _ h
set_option maxRecDepth 100000 in
theorem c_X9_breathOf {l : Launch} {φ : OI → Nat} {D : va_G} {cI cB : ClassId} (hJ : o_J φ) {x1 : Int32} {σ : SS} {post : Int32 → SS → Prop} (h : V_X9_breathOf x1 σ post) : o_Mi l φ D cI cB yX9_breathOf wsX9_breathOf 2 42 [.ref (φ (0, 0, 0)), .int x1] σ post :=
 o_met_i hJ (by decide +kernel) rfl (Nat.le_of_ble_eq_true rfl) (fun p e s m args below meth c Q hC hR => wv_X9_breathOf hC hR h)
theorem hd_X9_bestSongs : yX9_bestSongs.cls = RX9 ∧ yX9_bestSongs.cls ≠ "java/lang/invoke/MethodHandle" ∧ yX9_bestSongs.cls ≠ "java/lang/invoke/VarHandle" ∧ (parseMethodDescriptor yX9_bestSongs.desc).map (fun d => d.parameters.length) = some 1 := by decide +kernel
set_option maxHeartbeats 4000000 in
set_option maxRecDepth 100000 in
theorem wb_X9_bestSongs_51 {X : OX} {post : Int32 → SS → Prop} {K11 : Int32 → Int32 → Int32 → Int32 → SS → Prop} {x1 : Int32} {x2 : Int32} {x3 : Int32} {x4 : Int32} {σ : SS} (hC : o_C X cX9_bestSongs RX9 wsX9_bestSongs 4 96 6) (hR : o_RI X cX9_bestSongs post) (hK11 : ∀ (x1 : Int32) (x2 : Int32) (x3 : Int32) (x4 : Int32) (σ : SS), K11 x1 x2 x3 x4 σ → o_G X σ 11 [(0, .ref (ox_φ X (0, 0, 0))), (1, .int x1), (2, .int x2), (3, .int x3), (4, .int x4)] []) (h : VB_X9_bestSongs_51 post K11 x1 x2 x3 x4 σ) : o_G X σ 51 [(0, .ref (ox_φ X (0, 0, 0))), (1, .int x1), (2, .int x2), (3, .int x3), (4, .int x4)] [] := by
  unfold VB_X9_bestSongs_51 at h
  refine g_iinc (v := (x4 + (1 : Int32))) hC 4 [(4, .int (x4 + (1 : Int32))), (0, .ref (ox_φ X (0, 0, 0))), (1, .int x1), (2, .int x2), (3, .int x3)] dX9_bestSongs_51 rfl rfl (by decide) rfl ?_
  refine g_goto hC 11 dX9_bestSongs_54 (by decide) ?_
  refine g_sub [1, 2, 3, 4, 0] rfl ?_
  exact hK11 _ _ _ _ _ h
set_option maxHeartbeats 4000000 in
set_option maxRecDepth 100000 in
theorem wb_X9_bestSongs_11 {X : OX} {post : Int32 → SS → Prop} {K11 : Int32 → Int32 → Int32 → Int32 → SS → Prop} {x1 : Int32} {x2 : Int32} {x3 : Int32} {x4 : Int32} {σ : SS} (hC : o_C X cX9_bestSongs RX9 wsX9_bestSongs 4 96 6) (hR : o_RI X cX9_bestSongs post) (hK11 : ∀ (x1 : Int32) (x2 : Int32) (x3 : Int32) (x4 : Int32) (σ : SS), K11 x1 x2 x3 x4 σ → o_G X σ 11 [(0, .ref (ox_φ X (0, 0, 0))), (1, .int x1), (2, .int x2), (3, .int x3), (4, .int x4)] []) (h : VB_X9_bestSongs_11 post K11 x1 x2 x3 x4 σ) : o_G X σ 11 [(0, .ref (ox_φ X (0, 0, 0))), (1, .int x1), (2, .int x2), (3, .int x3), (4, .int x4)] [] := by
  unfold VB_X9_bestSongs_11 at h
  refine g_iload hC 4 dX9_bestSongs_11 rfl ?_
  refine g_bipush (v := (16 : Int32)) hC dX9_bestSongs_13 (by decide) ?_
  refine g_icmp_ge hC 57 dX9_bestSongs_15 (by decide) (fun z => ?_) (fun z => ?_)
  · have h := h.1 z
    refine g_iload_n hC 2 dX9_bestSongs_57 rfl rfl ?_
    exact hR _ _ _ _ dX9_bestSongs_58 h
  · have h := h.2 z
    refine g_aload_n hC 0 dX9_bestSongs_18 rfl rfl ?_
    refine g_iload hC 4 dX9_bestSongs_19 rfl ?_
    refine g_ri (r_V (C := RX9) (T := TX9) (N := 9) (As := [.int x4]) (rest := []) hC o_iX9 (o_eX9 _ _ _ _) rfl (c_X9_breathOf (l := ox_l X) (φ := ox_φ X) (D := ox_D X) (cI := ox_I X) (cB := ox_B X) hC.J  h) gX9_bestSongs_X9_breathOf rfl hd_X9_breathOf ⟨Nat.le_of_ble_eq_true rfl, Nat.le_of_ble_eq_true rfl⟩ rfl rfl (Nat.le_of_ble_eq_true rfl) dX9_bestSongs_21) (fun v21 s21 h => ?_)
    refine g_iload_n hC 1 dX9_bestSongs_24 rfl rfl ?_
    refine g_icmp_le hC 31 dX9_bestSongs_25 (by decide) (fun z => ?_) (fun z => ?_)
    · have h := h.1 z
      refine g_aload_n hC 0 dX9_bestSongs_31 rfl rfl ?_
      refine g_iload hC 4 dX9_bestSongs_32 rfl ?_
      refine g_ri (r_V (C := RX9) (T := TX9) (N := 9) (As := [.int x4]) (rest := []) hC o_iX9 (o_eX9 _ _ _ _) rfl (c_X9_partsAfterSongs (l := ox_l X) (φ := ox_φ X) (D := ox_D X) (cI := ox_I X) (cB := ox_B X) hC.J  h) gX9_bestSongs_X9_partsAfterSongs rfl hd_X9_partsAfterSongs ⟨Nat.le_of_ble_eq_true rfl, Nat.le_of_ble_eq_true rfl⟩ rfl rfl (Nat.le_of_ble_eq_true rfl) dX9_bestSongs_34) (fun v34 s34 h => ?_)
      refine g_istore hC [(5, .int v34), (0, .ref (ox_φ X (0, 0, 0))), (1, .int x1), (2, .int x2), (3, .int x3), (4, .int x4)] dX9_bestSongs_37 (by decide) rfl ?_
      refine g_iload hC 0 dX9_bestSongs_39 rfl ?_
      refine g_iload_n hC 4 dX9_bestSongs_41 rfl rfl ?_
      refine g_icmp_le hC 51 dX9_bestSongs_42 (by decide) (fun z => ?_) (fun z => ?_)
      · have h := h.1 z
        refine g_sub [1, 2, 3, 4, 5] rfl ?_
        exact wb_X9_bestSongs_51 hC hR hK11 h
      · have h := h.2 z
        refine g_iload hC 5 dX9_bestSongs_45 rfl ?_
        refine g_istore_n hC [(2, .int x4), (5, .int v34), (0, .ref (ox_φ X (0, 0, 0))), (1, .int x1), (3, .int x3), (4, .int x4)] dX9_bestSongs_47 rfl (by decide) rfl ?_
        refine g_iload hC 1 dX9_bestSongs_48 rfl ?_
        refine g_istore_n hC [(3, .int v34), (2, .int x4), (5, .int v34), (0, .ref (ox_φ X (0, 0, 0))), (1, .int x1), (4, .int x4)] dX9_bestSongs_50 rfl (by decide) rfl ?_
        refine g_sub [3, 4, 1, 0, 5] rfl ?_
        exact wb_X9_bestSongs_51 hC hR hK11 h
    · have h := h.2 z
      refine g_goto hC 51 dX9_bestSongs_28 (by decide) ?_
      exact wb_X9_bestSongs_51 hC hR hK11 h
set_option maxHeartbeats 4000000 in
set_option maxRecDepth 100000 in
theorem lp_X9_bestSongs_11 {X : OX} {post : Int32 → SS → Prop} (hC : o_C X cX9_bestSongs RX9 wsX9_bestSongs 4 96 6) (hR : o_RI X cX9_bestSongs post) : ∀ (n : Nat) (a : Int32 × Int32 × Int32 × Int32) (σ : SS), LP_X9_bestSongs_11 post n a σ → o_G X σ 11 [(0, .ref (ox_φ X (0, 0, 0))), (1, .int a.1), (2, .int a.2.1), (3, .int a.2.2.1), (4, .int a.2.2.2)] [] :=
 o_lp_G (fun K hK a σ h => wb_X9_bestSongs_11 hC hR (fun x1 x2 x3 x4 σ h => hK (x1, x2, x3, x4) σ h) h)
set_option maxHeartbeats 4000000 in
set_option maxRecDepth 100000 in
theorem wv_X9_bestSongs {X : OX} {x1 : Int32} {post : Int32 → SS → Prop} {σ : SS} (hC : o_C X cX9_bestSongs RX9 wsX9_bestSongs 4 96 6) (hR : o_RI X cX9_bestSongs post) (h : V_X9_bestSongs x1 σ post) : o_G X σ 0 [(0, .ref (ox_φ X (0, 0, 0))), (1, .int x1)] [] := by
  unfold V_X9_bestSongs at h
  refine g_iconst (v := (0 : Int32)) hC dX9_bestSongs_0 (by decide) ?_
  refine g_istore_n hC [(2, .int (0 : Int32)), (0, .ref (ox_φ X (0, 0, 0))), (1, .int x1)] dX9_bestSongs_1 rfl (by decide) rfl ?_
  refine g_aload_n hC 1 dX9_bestSongs_2 rfl rfl ?_
  refine g_iconst (v := (0 : Int32)) hC dX9_bestSongs_3 (by decide) ?_
  refine g_ri (r_V (C := RX9) (T := TX9) (N := 9) (As := [.int (0 : Int32)]) (rest := []) hC o_iX9 (o_eX9 _ _ _ _) rfl (c_X9_partsAfterSongs (l := ox_l X) (φ := ox_φ X) (D := ox_D X) (cI := ox_I X) (cB := ox_B X) hC.J  h) gX9_bestSongs_X9_partsAfterSongs rfl hd_X9_partsAfterSongs ⟨Nat.le_of_ble_eq_true rfl, Nat.le_of_ble_eq_true rfl⟩ rfl rfl (Nat.le_of_ble_eq_true rfl) dX9_bestSongs_4) (fun v4 s4 h => ?_)
  refine g_istore_n hC [(3, .int v4), (2, .int (0 : Int32)), (0, .ref (ox_φ X (0, 0, 0))), (1, .int x1)] dX9_bestSongs_7 rfl (by decide) rfl ?_
  refine g_iconst (v := (1 : Int32)) hC dX9_bestSongs_8 (by decide) ?_
  refine g_istore hC [(4, .int (1 : Int32)), (3, .int v4), (2, .int (0 : Int32)), (0, .ref (ox_φ X (0, 0, 0))), (1, .int x1)] dX9_bestSongs_9 (by decide) rfl ?_
  refine g_sub [3, 4, 2, 1, 0] rfl ?_
  obtain ⟨n, h⟩ := h
  exact lp_X9_bestSongs_11 hC hR n _ _ h
set_option maxRecDepth 100000 in
theorem c_X9_bestSongs {l : Launch} {φ : OI → Nat} {D : va_G} {cI cB : ClassId} (hJ : o_J φ) {x1 : Int32} {σ : SS} {post : Int32 → SS → Prop} (h : V_X9_bestSongs x1 σ post) : o_Mi l φ D cI cB yX9_bestSongs wsX9_bestSongs 4 96 [.ref (φ (0, 0, 0)), .int x1] σ post :=
 o_met_i hJ (by decide +kernel) rfl (Nat.le_of_ble_eq_true rfl) (fun p e s m args below meth c Q hC hR => wv_X9_bestSongs hC hR h)
theorem hd_X9_songs : yX9_songs.cls = RX9 ∧ yX9_songs.cls ≠ "java/lang/invoke/MethodHandle" ∧ yX9_songs.cls ≠ "java/lang/invoke/VarHandle" ∧ (parseMethodDescriptor yX9_songs.desc).map (fun d => d.parameters.length) = some 2 := by decide +kernel
set_option maxHeartbeats 4000000 in
set_option maxRecDepth 100000 in
theorem wb_X9_songs_17 {X : OX} {post : Int32 → SS → Prop} {σ : SS} (hC : o_C X cX9_songs RX9 wsX9_songs 5 121 4) (hR : o_RI X cX9_songs post) (h : VB_X9_songs_17 post σ) : o_G X σ 17 [] [] := by
  unfold VB_X9_songs_17 at h
  refine g_bipush (v := (-102 : Int32)) hC dX9_songs_17 (by decide) ?_
  exact hR _ _ _ _ dX9_songs_19 h
set_option maxHeartbeats 4000000 in
set_option maxRecDepth 100000 in
theorem wb_X9_songs_49 {X : OX} {post : Int32 → SS → Prop} {t0 : Int32} {σ : SS} (hC : o_C X cX9_songs RX9 wsX9_songs 5 121 4) (hR : o_RI X cX9_songs post) (h : VB_X9_songs_49 post t0 σ) : o_G X σ 49 [] [.int t0] := by
  unfold VB_X9_songs_49 at h
  exact hR _ _ _ _ dX9_songs_49 h
set_option maxHeartbeats 4000000 in
set_option maxRecDepth 100000 in
theorem wv_X9_songs {X : OX} {x1 : Int32} {x2 : Int32} {post : Int32 → SS → Prop} {σ : SS} (hC : o_C X cX9_songs RX9 wsX9_songs 5 121 4) (hR : o_RI X cX9_songs post) (h : V_X9_songs x1 x2 σ post) : o_G X σ 0 [(0, .ref (ox_φ X (0, 0, 0))), (1, .int x1), (2, .int x2)] [] := by
  unfold V_X9_songs at h
  refine g_iload_n hC 1 dX9_songs_0 rfl rfl ?_
  refine g_if_lt hC 17 dX9_songs_1 (by decide) (fun z => ?_) (fun z => ?_)
  · have h := h.1 z
    refine g_sub [] rfl ?_
    exact wb_X9_songs_17 hC hR h
  · have h := h.2 z
    refine g_iload_n hC 1 dX9_songs_4 rfl rfl ?_
    refine g_bipush (v := (40 : Int32)) hC dX9_songs_5 (by decide) ?_
    refine g_icmp_gt hC 17 dX9_songs_7 (by decide) (fun z => ?_) (fun z => ?_)
    · have h := h.1 z
      refine g_sub [] rfl ?_
      exact wb_X9_songs_17 hC hR h
    · have h := h.2 z
      refine g_iload_n hC 2 dX9_songs_10 rfl rfl ?_
      refine g_ri (r_S (As := [.int x2]) (rest := []) hC (c_X9_isEither (l := ox_l X) (φ := ox_φ X) (D := ox_D X) (cI := ox_I X) (cB := ox_B X) hC.J  h) gX9_songs_X9_isEither rfl hd_X9_isEither ⟨Nat.le_of_ble_eq_true rfl, Nat.le_of_ble_eq_true rfl⟩ rfl rfl (Nat.le_of_ble_eq_true rfl) dX9_songs_11) (fun v11 s11 h => ?_)
      refine g_if_ne hC 20 dX9_songs_14 (by decide) (fun z => ?_) (fun z => ?_)
      · have h := h.1 z
        refine g_aload_n hC 0 dX9_songs_20 rfl rfl ?_
        refine g_ri (r_V (C := RX9) (T := TX9) (N := 9) (As := []) (rest := []) hC o_iX9 (o_eX9 _ _ _ _) rfl (c_X9_hasSchool (l := ox_l X) (φ := ox_φ X) (D := ox_D X) (cI := ox_I X) (cB := ox_B X) hC.J  h) gX9_songs_X9_hasSchool rfl hd_X9_hasSchool ⟨Nat.le_of_ble_eq_true rfl, Nat.le_of_ble_eq_true rfl⟩ rfl rfl (Nat.le_of_ble_eq_true rfl) dX9_songs_21) (fun v21 s21 h => ?_)
        refine g_if_ne hC 30 dX9_songs_24 (by decide) (fun z => ?_) (fun z => ?_)
        · have h := h.1 z
          refine g_aload_n hC 0 dX9_songs_30 rfl rfl ?_
          refine g_iload_n hC 1 dX9_songs_31 rfl rfl ?_
          refine g_ri (r_V (C := RX9) (T := TX9) (N := 9) (As := [.int x1]) (rest := []) hC o_iX9 (o_eX9 _ _ _ _) rfl (c_X9_bestSongs (l := ox_l X) (φ := ox_φ X) (D := ox_D X) (cI := ox_I X) (cB := ox_B X) hC.J  h) gX9_songs_X9_bestSongs rfl hd_X9_bestSongs ⟨Nat.le_of_ble_eq_true rfl, Nat.le_of_ble_eq_true rfl⟩ rfl rfl (Nat.le_of_ble_eq_true rfl) dX9_songs_32) (fun v32 s32 h => ?_)
          refine g_istore_n hC [(3, .int v32), (0, .ref (ox_φ X (0, 0, 0))), (1, .int x1), (2, .int x2)] dX9_songs_35 rfl (by decide) rfl ?_
          refine g_iload_n hC 3 dX9_songs_36 rfl rfl ?_
          refine g_if_ne hC 44 dX9_songs_37 (by decide) (fun z => ?_) (fun z => ?_)
          · have h := h.1 z
            refine g_aload_n hC 1 dX9_songs_44 rfl rfl ?_
            refine g_iload_n hC 0 dX9_songs_45 rfl rfl ?_
            refine g_ri (r_V (C := RX9) (T := TX9) (N := 9) (As := [.int v32]) (rest := []) hC o_iX9 (o_eX9 _ _ _ _) rfl (c_X9_partsAfterSongs (l := ox_l X) (φ := ox_φ X) (D := ox_D X) (cI := ox_I X) (cB := ox_B X) hC.J  h) gX9_songs_X9_partsAfterSongs rfl hd_X9_partsAfterSongs ⟨Nat.le_of_ble_eq_true rfl, Nat.le_of_ble_eq_true rfl⟩ rfl rfl (Nat.le_of_ble_eq_true rfl) dX9_songs_46) (fun v46 s46 h => ?_)
            refine g_sub [] rfl ?_
            exact wb_X9_songs_49 hC hR h
          · have h := h.2 z
            refine g_iload_n hC 0 dX9_songs_40 rfl rfl ?_
            refine g_goto hC 49 dX9_songs_41 (by decide) ?_
            refine g_sub [] rfl ?_
            exact wb_X9_songs_49 hC hR h
        · have h := h.2 z
          refine g_bipush (v := (-103 : Int32)) hC dX9_songs_27 (by decide) ?_
          exact hR _ _ _ _ dX9_songs_29 h
      · have h := h.2 z
        refine g_sub [] rfl ?_
        exact wb_X9_songs_17 hC hR h
set_option maxRecDepth 100000 in
theorem c_X9_songs {l : Launch} {φ : OI → Nat} {D : va_G} {cI cB : ClassId} (hJ : o_J φ) {x1 : Int32} {x2 : Int32} {σ : SS} {post : Int32 → SS → Prop} (h : V_X9_songs x1 x2 σ post) : o_Mi l φ D cI cB yX9_songs wsX9_songs 5 121 [.ref (φ (0, 0, 0)), .int x1, .int x2] σ post :=
 o_met_i hJ (by decide +kernel) rfl (Nat.le_of_ble_eq_true rfl) (fun p e s m args below meth c Q hC hR => wv_X9_songs hC hR h)
theorem kw_X9_asks_1 : Cond.fieldLink RX9 28 "SchoolRow" "now" "LSchoolRow$Row;" ∈ wsX9_asks := List.mem_of_getElem? (i := 1) (by decide +kernel)
theorem ki_X9_asks_X9 : ∀ w ∈ wsX90, w ∈ wsX9_asks := fun _ h => List.mem_cons_of_mem _ (List.mem_append_left _ (List.mem_append_left _ (List.mem_append_left _ (List.mem_append_right _ h))))
theorem hd_X9_asks : yX9_asks.cls = RX9 ∧ yX9_asks.cls ≠ "java/lang/invoke/MethodHandle" ∧ yX9_asks.cls ≠ "java/lang/invoke/VarHandle" ∧ (parseMethodDescriptor yX9_asks.desc).map (fun d => d.parameters.length) = some 2 := by decide +kernel
set_option maxHeartbeats 4000000 in
set_option maxRecDepth 100000 in
theorem wb_X9_asks_15 {X : OX} {post : Int32 → SS → Prop} {σ : SS} (hC : o_C X cX9_asks RX9 wsX9_asks 3 66 5) (hR : o_RI X cX9_asks post) (h : VB_X9_asks_15 post σ) : o_G X σ 15 [] [] := by
  unfold VB_X9_asks_15 at h
  refine g_bipush (v := (-101 : Int32)) hC dX9_asks_15 (by decide) ?_
  exact hR _ _ _ _ dX9_asks_17 h
set_option maxHeartbeats 4000000 in
set_option maxRecDepth 100000 in
theorem wb_X9_asks_72 {X : OX} {post : Int32 → SS → Prop} {K29 : Int32 → Int32 → Int32 → SS → Prop} {x1 : Int32} {x2 : Int32} {x3 : Int32} {σ : SS} (hC : o_C X cX9_asks RX9 wsX9_asks 3 66 5) (hR : o_RI X cX9_asks post) (hK29 : ∀ (x1 : Int32) (x2 : Int32) (x3 : Int32) (σ : SS), K29 x1 x2 x3 σ → o_G X σ 29 [(0, .ref (ox_φ X (0, 0, 0))), (1, .int x1), (2, .int x2), (3, .int x3)] []) (h : VB_X9_asks_72 post K29 x1 x2 x3 σ) : o_G X σ 72 [(0, .ref (ox_φ X (0, 0, 0))), (1, .int x1), (2, .int x2), (3, .int x3)] [] := by
  unfold VB_X9_asks_72 at h
  refine g_iinc (v := (x3 + (-1 : Int32))) hC 3 [(3, .int (x3 + (-1 : Int32))), (0, .ref (ox_φ X (0, 0, 0))), (1, .int x1), (2, .int x2)] dX9_asks_72 rfl rfl (by decide) rfl ?_
  refine g_goto hC 29 dX9_asks_75 (by decide) ?_
  refine g_sub [1, 2, 3, 0] rfl ?_
  exact hK29 _ _ _ _ h
set_option maxHeartbeats 4000000 in
set_option maxRecDepth 100000 in
theorem wb_X9_asks_29 {X : OX} {post : Int32 → SS → Prop} {K29 : Int32 → Int32 → Int32 → SS → Prop} {x1 : Int32} {x2 : Int32} {x3 : Int32} {σ : SS} (hC : o_C X cX9_asks RX9 wsX9_asks 3 66 5) (hR : o_RI X cX9_asks post) (hK29 : ∀ (x1 : Int32) (x2 : Int32) (x3 : Int32) (σ : SS), K29 x1 x2 x3 σ → o_G X σ 29 [(0, .ref (ox_φ X (0, 0, 0))), (1, .int x1), (2, .int x2), (3, .int x3)] []) (h : VB_X9_asks_29 post K29 x1 x2 x3 σ) : o_G X σ 29 [(0, .ref (ox_φ X (0, 0, 0))), (1, .int x1), (2, .int x2), (3, .int x3)] [] := by
  unfold VB_X9_asks_29 at h
  refine g_iload_n hC 3 dX9_asks_29 rfl rfl ?_
  refine g_if_lt hC 78 dX9_asks_30 (by decide) (fun z => ?_) (fun z => ?_)
  · have h := h.1 z
    refine g_iconst (v := (-1 : Int32)) hC dX9_asks_78 (by decide) ?_
    exact hR _ _ _ _ dX9_asks_79 h
  · have h := h.2 z
    refine g_aload_n hC 0 dX9_asks_33 rfl rfl ?_
    refine g_get (C := RX9) (T := TX9) (N := 9) (v := .ref (ox_φ X (3, 0, 0))) hC o_iX9 (o_eX9 _ _ _ _) rfl ki_X9_asks_X9 2 (by decide) kw_X9_asks_1 rfl dX9_asks_34 ?_
    refine g_iload_n hC 3 dX9_asks_37 rfl rfl ?_
    refine g_ri (r_V (C := RX4) (T := TX4) (N := 6) (As := [.int x3]) (rest := []) hC (o_in3 0 (by decide)) (o_eX4 _ _ _ _ _) rfl (c_X4_childOn (l := ox_l X) (φ := ox_φ X) (D := ox_D X) (cI := ox_I X) (cB := ox_B X) hC.J (by decide) h) gX9_asks_X4_childOn rfl hd_X4_childOn ⟨Nat.le_of_ble_eq_true rfl, Nat.le_of_ble_eq_true rfl⟩ rfl rfl (Nat.le_of_ble_eq_true rfl) dX9_asks_38) (fun v38 s38 h => ?_)
    refine g_istore hC [(4, .int v38), (0, .ref (ox_φ X (0, 0, 0))), (1, .int x1), (2, .int x2), (3, .int x3)] dX9_asks_41 (by decide) rfl ?_
    refine g_aload_n hC 1 dX9_asks_43 rfl rfl ?_
    refine g_get (C := RX9) (T := TX9) (N := 9) (v := .ref (ox_φ X (3, 0, 0))) hC o_iX9 (o_eX9 _ _ _ _) rfl ki_X9_asks_X9 2 (by decide) kw_X9_asks_1 rfl dX9_asks_44 ?_
    refine g_iload hC 0 dX9_asks_47 rfl ?_
    refine g_ri (r_V (C := RX4) (T := TX4) (N := 6) (As := [.int v38]) (rest := []) hC (o_in3 0 (by decide)) (o_eX4 _ _ _ _ _) rfl (c_X4_isIll (l := ox_l X) (φ := ox_φ X) (D := ox_D X) (cI := ox_I X) (cB := ox_B X) hC.J (by decide) h) gX9_asks_X4_isIll rfl hd_X4_isIll ⟨Nat.le_of_ble_eq_true rfl, Nat.le_of_ble_eq_true rfl⟩ rfl rfl (Nat.le_of_ble_eq_true rfl) dX9_asks_49) (fun v49 s49 h => ?_)
    refine g_if_ne hC 72 dX9_asks_52 (by decide) (fun z => ?_) (fun z => ?_)
    · have h := h.1 z
      refine g_sub [1, 2, 3, 4] rfl ?_
      exact wb_X9_asks_72 hC hR hK29 h
    · have h := h.2 z
      refine g_aload_n hC 1 dX9_asks_55 rfl rfl ?_
      refine g_get (C := RX9) (T := TX9) (N := 9) (v := .ref (ox_φ X (3, 0, 0))) hC o_iX9 (o_eX9 _ _ _ _) rfl ki_X9_asks_X9 2 (by decide) kw_X9_asks_1 rfl dX9_asks_56 ?_
      refine g_iload hC 0 dX9_asks_59 rfl ?_
      refine g_iload_n hC 2 dX9_asks_61 rfl rfl ?_
      refine g_iload_n hC 3 dX9_asks_62 rfl rfl ?_
      refine g_ri (r_V (C := RX4) (T := TX4) (N := 6) (As := [.int v38, .int x1, .int x2]) (rest := []) hC (o_in3 0 (by decide)) (o_eX4 _ _ _ _ _) rfl (c_X4_knowsBetter (l := ox_l X) (φ := ox_φ X) (D := ox_D X) (cI := ox_I X) (cB := ox_B X) hC.J (by decide) h) gX9_asks_X4_knowsBetter rfl hd_X4_knowsBetter ⟨Nat.le_of_ble_eq_true rfl, Nat.le_of_ble_eq_true rfl⟩ rfl rfl (Nat.le_of_ble_eq_true rfl) dX9_asks_63) (fun v63 s63 h => ?_)
      refine g_if_eq hC 72 dX9_asks_66 (by decide) (fun z => ?_) (fun z => ?_)
      · have h := h.1 z
        refine g_sub [1, 2, 3, 4] rfl ?_
        exact wb_X9_asks_72 hC hR hK29 h
      · have h := h.2 z
        refine g_iload hC 0 dX9_asks_69 rfl ?_
        exact hR _ _ _ _ dX9_asks_71 h
set_option maxHeartbeats 4000000 in
set_option maxRecDepth 100000 in
theorem lp_X9_asks_29 {X : OX} {post : Int32 → SS → Prop} (hC : o_C X cX9_asks RX9 wsX9_asks 3 66 5) (hR : o_RI X cX9_asks post) : ∀ (n : Nat) (a : Int32 × Int32 × Int32) (σ : SS), LP_X9_asks_29 post n a σ → o_G X σ 29 [(0, .ref (ox_φ X (0, 0, 0))), (1, .int a.1), (2, .int a.2.1), (3, .int a.2.2)] [] :=
 o_lp_G (fun K hK a σ h => wb_X9_asks_29 hC hR (fun x1 x2 x3 σ h => hK (x1, x2, x3) σ h) h)
set_option maxHeartbeats 4000000 in
set_option maxRecDepth 100000 in
theorem wv_X9_asks {X : OX} {x1 : Int32} {x2 : Int32} {post : Int32 → SS → Prop} {σ : SS} (hC : o_C X cX9_asks RX9 wsX9_asks 3 66 5) (hR : o_RI X cX9_asks post) (h : V_X9_asks x1 x2 σ post) : o_G X σ 0 [(0, .ref (ox_φ X (0, 0, 0))), (1, .int x1), (2, .int x2)] [] := by
  unfold V_X9_asks at h
  refine g_aload_n hC 0 dX9_asks_0 rfl rfl ?_
  refine g_iload_n hC 1 dX9_asks_1 rfl rfl ?_
  refine g_ri (r_V (C := RX9) (T := TX9) (N := 9) (As := [.int x1]) (rest := []) hC o_iX9 (o_eX9 _ _ _ _) rfl (c_X9_isChild (l := ox_l X) (φ := ox_φ X) (D := ox_D X) (cI := ox_I X) (cB := ox_B X) hC.J  h) gX9_asks_X9_isChild rfl hd_X9_isChild ⟨Nat.le_of_ble_eq_true rfl, Nat.le_of_ble_eq_true rfl⟩ rfl rfl (Nat.le_of_ble_eq_true rfl) dX9_asks_2) (fun v2 s2 h => ?_)
  refine g_if_eq hC 15 dX9_asks_5 (by decide) (fun z => ?_) (fun z => ?_)
  · have h := h.1 z
    refine g_sub [] rfl ?_
    exact wb_X9_asks_15 hC hR h
  · have h := h.2 z
    refine g_iload_n hC 2 dX9_asks_8 rfl rfl ?_
    refine g_ri (r_S (As := [.int x2]) (rest := []) hC (c_X9_isSubject (l := ox_l X) (φ := ox_φ X) (D := ox_D X) (cI := ox_I X) (cB := ox_B X) hC.J  h) gX9_asks_X9_isSubject rfl hd_X9_isSubject ⟨Nat.le_of_ble_eq_true rfl, Nat.le_of_ble_eq_true rfl⟩ rfl rfl (Nat.le_of_ble_eq_true rfl) dX9_asks_9) (fun v9 s9 h => ?_)
    refine g_if_ne hC 18 dX9_asks_12 (by decide) (fun z => ?_) (fun z => ?_)
    · have h := h.1 z
      refine g_aload_n hC 0 dX9_asks_18 rfl rfl ?_
      refine g_get (C := RX9) (T := TX9) (N := 9) (v := .ref (ox_φ X (3, 0, 0))) hC o_iX9 (o_eX9 _ _ _ _) rfl ki_X9_asks_X9 2 (by decide) kw_X9_asks_1 rfl dX9_asks_19 ?_
      refine g_iload_n hC 1 dX9_asks_22 rfl rfl ?_
      refine g_ri (r_V (C := RX4) (T := TX4) (N := 6) (As := [.int x1]) (rest := []) hC (o_in3 0 (by decide)) (o_eX4 _ _ _ _ _) rfl (c_X4_seatOf (l := ox_l X) (φ := ox_φ X) (D := ox_D X) (cI := ox_I X) (cB := ox_B X) hC.J (by decide) h) gX9_asks_X4_seatOf rfl hd_X4_seatOf ⟨Nat.le_of_ble_eq_true rfl, Nat.le_of_ble_eq_true rfl⟩ rfl rfl (Nat.le_of_ble_eq_true rfl) dX9_asks_23) (fun v23 s23 h => ?_)
      refine g_iconst (v := (1 : Int32)) hC dX9_asks_26 (by decide) ?_
      refine g_isub hC dX9_asks_27 ?_
      refine g_istore_n hC [(3, .int (v23 - (1 : Int32))), (0, .ref (ox_φ X (0, 0, 0))), (1, .int x1), (2, .int x2)] dX9_asks_28 rfl (by decide) rfl ?_
      refine g_sub [1, 2, 3, 0] rfl ?_
      obtain ⟨n, h⟩ := h
      exact lp_X9_asks_29 hC hR n _ _ h
    · have h := h.2 z
      refine g_sub [] rfl ?_
      exact wb_X9_asks_15 hC hR h
set_option maxRecDepth 100000 in
theorem c_X9_asks {l : Launch} {φ : OI → Nat} {D : va_G} {cI cB : ClassId} (hJ : o_J φ) {x1 : Int32} {x2 : Int32} {σ : SS} {post : Int32 → SS → Prop} (h : V_X9_asks x1 x2 σ post) : o_Mi l φ D cI cB yX9_asks wsX9_asks 3 66 [.ref (φ (0, 0, 0)), .int x1, .int x2] σ post :=
 o_met_i hJ (by decide +kernel) rfl (Nat.le_of_ble_eq_true rfl) (fun p e s m args below meth c Q hC hR => wv_X9_asks hC hR h)
theorem kw_X9_countOrders_1 : Cond.fieldLink RX9 28 "SchoolRow" "now" "LSchoolRow$Row;" ∈ wsX9_countOrders := List.mem_of_getElem? (i := 1) (by decide +kernel)
theorem kw_X9_countOrders_2 : Cond.fieldLink RX9 35 "SchoolRow" "trial" "LSchoolRow$Row;" ∈ wsX9_countOrders := List.mem_of_getElem? (i := 2) (by decide +kernel)
theorem ki_X9_countOrders_X9 : ∀ w ∈ wsX90, w ∈ wsX9_countOrders := fun _ h => List.mem_cons_of_mem _ (List.mem_append_left _ (List.mem_append_left _ (List.mem_append_left _ (List.mem_append_right _ h))))
theorem hd_X9_countOrders : yX9_countOrders.cls = RX9 ∧ yX9_countOrders.cls ≠ "java/lang/invoke/MethodHandle" ∧ yX9_countOrders.cls ≠ "java/lang/invoke/VarHandle" ∧ (parseMethodDescriptor yX9_countOrders.desc).map (fun d => d.parameters.length) = some 3 := by decide +kernel
set_option maxHeartbeats 4000000 in
set_option maxRecDepth 100000 in
theorem wb_X9_countOrders_102 {X : OX} {post : Int32 → SS → Prop} {x4 : Int32} {σ : SS} (hC : o_C X cX9_countOrders RX9 wsX9_countOrders 4 95 8) (hR : o_RI X cX9_countOrders post) (h : VB_X9_countOrders_102 post x4 σ) : o_G X σ 102 [(4, .int x4)] [] := by
  unfold VB_X9_countOrders_102 at h
  refine g_iload hC 0 dX9_countOrders_102 rfl ?_
  exact hR _ _ _ _ dX9_countOrders_104 h
set_option maxHeartbeats 4000000 in
set_option maxRecDepth 100000 in
theorem wb_X9_countOrders_83 {X : OX} {post : Int32 → SS → Prop} {K23 : Int32 → Int32 → Int32 → Int32 → Int32 → Int32 → SS → Prop} {x1 : Int32} {x2 : Int32} {x3 : Int32} {x4 : Int32} {x5 : Int32} {x6 : Int32} {σ : SS} (hC : o_C X cX9_countOrders RX9 wsX9_countOrders 4 95 8) (hR : o_RI X cX9_countOrders post) (hK23 : ∀ (x1 : Int32) (x2 : Int32) (x3 : Int32) (x4 : Int32) (x5 : Int32) (x6 : Int32) (σ : SS), K23 x1 x2 x3 x4 x5 x6 σ → o_G X σ 23 [(0, .ref (ox_φ X (0, 0, 0))), (1, .int x1), (2, .int x2), (3, .int x3), (4, .int x4), (5, .int x5), (6, .int x6)] []) (h : VB_X9_countOrders_83 post K23 x1 x2 x3 x4 x5 x6 σ) : o_G X σ 83 [(0, .ref (ox_φ X (0, 0, 0))), (1, .int x1), (2, .int x2), (3, .int x3), (4, .int x4), (5, .int x5), (6, .int x6)] [] := by
  unfold VB_X9_countOrders_83 at h
  refine g_aload_n hC 0 dX9_countOrders_83 rfl rfl ?_
  refine g_get (C := RX9) (T := TX9) (N := 9) (v := .ref (ox_φ X (3, 2, 0))) hC o_iX9 (o_eX9 _ _ _ _) rfl ki_X9_countOrders_X9 4 (by decide) kw_X9_countOrders_2 rfl dX9_countOrders_84 ?_
  refine g_ri (r_V (C := RX4) (T := TX4) (N := 6) (As := []) (rest := []) hC (o_in3 2 (by decide)) (o_eX4 _ _ _ _ _) rfl (c_X4_sitInNextOrder (l := ox_l X) (φ := ox_φ X) (D := ox_D X) (cI := ox_I X) (cB := ox_B X) hC.J (by decide) h) gX9_countOrders_X4_sitInNextOrder rfl hd_X4_sitInNextOrder ⟨Nat.le_of_ble_eq_true rfl, Nat.le_of_ble_eq_true rfl⟩ rfl rfl (Nat.le_of_ble_eq_true rfl) dX9_countOrders_87) (fun v87 s87 h => ?_)
  refine g_if_ne hC 96 dX9_countOrders_90 (by decide) (fun z => ?_) (fun z => ?_)
  · have h := h.1 z
    refine g_iinc (v := (x6 + (1 : Int32))) hC 6 [(6, .int (x6 + (1 : Int32))), (0, .ref (ox_φ X (0, 0, 0))), (1, .int x1), (2, .int x2), (3, .int x3), (4, .int x4), (5, .int x5)] dX9_countOrders_96 rfl rfl (by decide) rfl ?_
    refine g_goto hC 23 dX9_countOrders_99 (by decide) ?_
    refine g_sub [1, 2, 3, 4, 5, 6, 0] rfl ?_
    exact hK23 _ _ _ _ _ _ _ h
  · have h := h.2 z
    refine g_goto hC 102 dX9_countOrders_93 (by decide) ?_
    refine g_sub [4] rfl ?_
    exact wb_X9_countOrders_102 hC hR h
set_option maxHeartbeats 4000000 in
set_option maxRecDepth 100000 in
theorem wb_X9_countOrders_60 {X : OX} {post : Int32 → SS → Prop} {K23 : Int32 → Int32 → Int32 → Int32 → Int32 → Int32 → SS → Prop} {x1 : Int32} {x2 : Int32} {x3 : Int32} {x4 : Int32} {x5 : Int32} {x6 : Int32} {t0 : Int32} {σ : SS} (hC : o_C X cX9_countOrders RX9 wsX9_countOrders 4 95 8) (hR : o_RI X cX9_countOrders post) (hK23 : ∀ (x1 : Int32) (x2 : Int32) (x3 : Int32) (x4 : Int32) (x5 : Int32) (x6 : Int32) (σ : SS), K23 x1 x2 x3 x4 x5 x6 σ → o_G X σ 23 [(0, .ref (ox_φ X (0, 0, 0))), (1, .int x1), (2, .int x2), (3, .int x3), (4, .int x4), (5, .int x5), (6, .int x6)] []) (h : VB_X9_countOrders_60 post K23 x1 x2 x3 x4 x5 x6 t0 σ) : o_G X σ 60 [(0, .ref (ox_φ X (0, 0, 0))), (1, .int x1), (2, .int x2), (3, .int x3), (4, .int x4), (5, .int x5), (6, .int x6)] [.int t0] := by
  unfold VB_X9_countOrders_60 at h
  refine g_istore hC [(7, .int t0), (0, .ref (ox_φ X (0, 0, 0))), (1, .int x1), (2, .int x2), (3, .int x3), (4, .int x4), (5, .int x5), (6, .int x6)] dX9_countOrders_60 (by decide) rfl ?_
  refine g_iload hC 0 dX9_countOrders_62 rfl ?_
  refine g_if_eq hC 83 dX9_countOrders_64 (by decide) (fun z => ?_) (fun z => ?_)
  · have h := h.1 z
    refine g_sub [1, 2, 3, 4, 5, 6, 7] rfl ?_
    exact wb_X9_countOrders_83 hC hR hK23 h
  · have h := h.2 z
    refine g_aload_n hC 1 dX9_countOrders_67 rfl rfl ?_
    refine g_get (C := RX9) (T := TX9) (N := 9) (v := .ref (ox_φ X (3, 2, 0))) hC o_iX9 (o_eX9 _ _ _ _) rfl ki_X9_countOrders_X9 4 (by decide) kw_X9_countOrders_2 rfl dX9_countOrders_68 ?_
    refine g_iload_n hC 2 dX9_countOrders_71 rfl rfl ?_
    refine g_iconst (v := (0 : Int32)) hC dX9_countOrders_72 (by decide) ?_
    refine g_ri (r_V (C := RX4) (T := TX4) (N := 6) (As := [.int x1, .int (0 : Int32)]) (rest := []) hC (o_in3 2 (by decide)) (o_eX4 _ _ _ _ _) rfl (c_X4_mistakes (l := ox_l X) (φ := ox_φ X) (D := ox_D X) (cI := ox_I X) (cB := ox_B X) hC.J (by decide) h) gX9_countOrders_X4_mistakes rfl hd_X4_mistakes ⟨Nat.le_of_ble_eq_true rfl, Nat.le_of_ble_eq_true rfl⟩ rfl rfl (Nat.le_of_ble_eq_true rfl) dX9_countOrders_73) (fun v73 s73 h => ?_)
    refine g_iload_n hC 3 dX9_countOrders_76 rfl rfl ?_
    refine g_icmp_ne hC 83 dX9_countOrders_77 (by decide) (fun z => ?_) (fun z => ?_)
    · have h := h.1 z
      refine g_sub [1, 2, 3, 4, 5, 6, 7] rfl ?_
      exact wb_X9_countOrders_83 hC hR hK23 h
    · have h := h.2 z
      refine g_iinc (v := (x4 + (1 : Int32))) hC 5 [(4, .int (x4 + (1 : Int32))), (7, .int t0), (0, .ref (ox_φ X (0, 0, 0))), (1, .int x1), (2, .int x2), (3, .int x3), (5, .int x5), (6, .int x6)] dX9_countOrders_80 rfl rfl (by decide) rfl ?_
      refine g_sub [2, 3, 4, 5, 0, 6, 7] rfl ?_
      exact wb_X9_countOrders_83 hC hR hK23 h
set_option maxHeartbeats 4000000 in
set_option maxRecDepth 100000 in
theorem wb_X9_countOrders_55 {X : OX} {post : Int32 → SS → Prop} {K23 : Int32 → Int32 → Int32 → Int32 → Int32 → Int32 → SS → Prop} {x1 : Int32} {x2 : Int32} {x3 : Int32} {x4 : Int32} {x5 : Int32} {x6 : Int32} {σ : SS} (hC : o_C X cX9_countOrders RX9 wsX9_countOrders 4 95 8) (hR : o_RI X cX9_countOrders post) (hK23 : ∀ (x1 : Int32) (x2 : Int32) (x3 : Int32) (x4 : Int32) (x5 : Int32) (x6 : Int32) (σ : SS), K23 x1 x2 x3 x4 x5 x6 σ → o_G X σ 23 [(0, .ref (ox_φ X (0, 0, 0))), (1, .int x1), (2, .int x2), (3, .int x3), (4, .int x4), (5, .int x5), (6, .int x6)] []) (h : VB_X9_countOrders_55 post K23 x1 x2 x3 x4 x5 x6 σ) : o_G X σ 55 [(0, .ref (ox_φ X (0, 0, 0))), (1, .int x1), (2, .int x2), (3, .int x3), (4, .int x4), (5, .int x5), (6, .int x6)] [] := by
  unfold VB_X9_countOrders_55 at h
  refine g_iconst (v := (1 : Int32)) hC dX9_countOrders_55 (by decide) ?_
  refine g_goto hC 60 dX9_countOrders_56 (by decide) ?_
  exact wb_X9_countOrders_60 hC hR hK23 h
set_option maxHeartbeats 4000000 in
set_option maxRecDepth 100000 in
theorem wb_X9_countOrders_23 {X : OX} {post : Int32 → SS → Prop} {K23 : Int32 → Int32 → Int32 → Int32 → Int32 → Int32 → SS → Prop} {x1 : Int32} {x2 : Int32} {x3 : Int32} {x4 : Int32} {x5 : Int32} {x6 : Int32} {σ : SS} (hC : o_C X cX9_countOrders RX9 wsX9_countOrders 4 95 8) (hR : o_RI X cX9_countOrders post) (hK23 : ∀ (x1 : Int32) (x2 : Int32) (x3 : Int32) (x4 : Int32) (x5 : Int32) (x6 : Int32) (σ : SS), K23 x1 x2 x3 x4 x5 x6 σ → o_G X σ 23 [(0, .ref (ox_φ X (0, 0, 0))), (1, .int x1), (2, .int x2), (3, .int x3), (4, .int x4), (5, .int x5), (6, .int x6)] []) (h : VB_X9_countOrders_23 post K23 x1 x2 x3 x4 x5 x6 σ) : o_G X σ 23 [(0, .ref (ox_φ X (0, 0, 0))), (1, .int x1), (2, .int x2), (3, .int x3), (4, .int x4), (5, .int x5), (6, .int x6)] [] := by
  unfold VB_X9_countOrders_23 at h
  refine g_iload hC 6 dX9_countOrders_23 rfl ?_
  refine g_sipush (v := (720 : Int32)) hC dX9_countOrders_25 (by decide) ?_
  refine g_icmp_ge hC 102 dX9_countOrders_28 (by decide) (fun z => ?_) (fun z => ?_)
  · have h := h.1 z
    refine g_sub [4] rfl ?_
    exact wb_X9_countOrders_102 hC hR h
  · have h := h.2 z
    refine g_aload_n hC 0 dX9_countOrders_31 rfl rfl ?_
    refine g_get (C := RX9) (T := TX9) (N := 9) (v := .ref (ox_φ X (3, 2, 0))) hC o_iX9 (o_eX9 _ _ _ _) rfl ki_X9_countOrders_X9 4 (by decide) kw_X9_countOrders_2 rfl dX9_countOrders_32 ?_
    refine g_rv (r_V (C := RX4) (T := TX4) (N := 6) (As := []) (rest := []) hC (o_in3 2 (by decide)) (o_eX4 _ _ _ _ _) rfl (c_X4_teachFromNothing (l := ox_l X) (φ := ox_φ X) (D := ox_D X) (cI := ox_I X) (cB := ox_B X) hC.J (by decide) h) gX9_countOrders_X4_teachFromNothing rfl hd_X4_teachFromNothing ⟨Nat.le_of_ble_eq_true rfl, Nat.le_of_ble_eq_true rfl⟩ rfl rfl (Nat.le_of_ble_eq_true rfl) dX9_countOrders_35) (fun s35 h => ?_)
    refine g_iload_n hC 3 dX9_countOrders_38 rfl rfl ?_
    refine g_if_eq hC 55 dX9_countOrders_39 (by decide) (fun z => ?_) (fun z => ?_)
    · have h := h.1 z
      exact wb_X9_countOrders_55 hC hR hK23 h
    · have h := h.2 z
      refine g_aload_n hC 0 dX9_countOrders_42 rfl rfl ?_
      refine g_get (C := RX9) (T := TX9) (N := 9) (v := .ref (ox_φ X (3, 2, 0))) hC o_iX9 (o_eX9 _ _ _ _) rfl ki_X9_countOrders_X9 4 (by decide) kw_X9_countOrders_2 rfl dX9_countOrders_43 ?_
      refine g_iload hC 5 dX9_countOrders_46 rfl ?_
      refine g_ri (r_V (C := RX4) (T := TX4) (N := 6) (As := [.int x5]) (rest := []) hC (o_in3 2 (by decide)) (o_eX4 _ _ _ _ _) rfl (c_X4_childOn (l := ox_l X) (φ := ox_φ X) (D := ox_D X) (cI := ox_I X) (cB := ox_B X) hC.J (by decide) h) gX9_countOrders_X4_childOn rfl hd_X4_childOn ⟨Nat.le_of_ble_eq_true rfl, Nat.le_of_ble_eq_true rfl⟩ rfl rfl (Nat.le_of_ble_eq_true rfl) dX9_countOrders_48) (fun v48 s48 h => ?_)
      refine g_iload_n hC 1 dX9_countOrders_51 rfl rfl ?_
      refine g_icmp_ne hC 59 dX9_countOrders_52 (by decide) (fun z => ?_) (fun z => ?_)
      · have h := h.1 z
        refine g_iconst (v := (0 : Int32)) hC dX9_countOrders_59 (by decide) ?_
        exact wb_X9_countOrders_60 hC hR hK23 h
      · have h := h.2 z
        exact wb_X9_countOrders_55 hC hR hK23 h
set_option maxHeartbeats 4000000 in
set_option maxRecDepth 100000 in
theorem lp_X9_countOrders_23 {X : OX} {post : Int32 → SS → Prop} (hC : o_C X cX9_countOrders RX9 wsX9_countOrders 4 95 8) (hR : o_RI X cX9_countOrders post) : ∀ (n : Nat) (a : Int32 × Int32 × Int32 × Int32 × Int32 × Int32) (σ : SS), LP_X9_countOrders_23 post n a σ → o_G X σ 23 [(0, .ref (ox_φ X (0, 0, 0))), (1, .int a.1), (2, .int a.2.1), (3, .int a.2.2.1), (4, .int a.2.2.2.1), (5, .int a.2.2.2.2.1), (6, .int a.2.2.2.2.2)] [] :=
 o_lp_G (fun K hK a σ h => wb_X9_countOrders_23 hC hR (fun x1 x2 x3 x4 x5 x6 σ h => hK (x1, x2, x3, x4, x5, x6) σ h) h)
set_option maxHeartbeats 4000000 in
set_option maxRecDepth 100000 in
theorem wv_X9_countOrders {X : OX} {x1 : Int32} {x2 : Int32} {x3 : Int32} {post : Int32 → SS → Prop} {σ : SS} (hC : o_C X cX9_countOrders RX9 wsX9_countOrders 4 95 8) (hR : o_RI X cX9_countOrders post) (h : V_X9_countOrders x1 x2 x3 σ post) : o_G X σ 0 [(0, .ref (ox_φ X (0, 0, 0))), (1, .int x1), (2, .int x2), (3, .int x3)] [] := by
  unfold V_X9_countOrders at h
  refine g_iconst (v := (0 : Int32)) hC dX9_countOrders_0 (by decide) ?_
  refine g_istore hC [(4, .int (0 : Int32)), (0, .ref (ox_φ X (0, 0, 0))), (1, .int x1), (2, .int x2), (3, .int x3)] dX9_countOrders_1 (by decide) rfl ?_
  refine g_aload_n hC 1 dX9_countOrders_3 rfl rfl ?_
  refine g_get (C := RX9) (T := TX9) (N := 9) (v := .ref (ox_φ X (3, 0, 0))) hC o_iX9 (o_eX9 _ _ _ _) rfl ki_X9_countOrders_X9 2 (by decide) kw_X9_countOrders_1 rfl dX9_countOrders_4 ?_
  refine g_iload_n hC 2 dX9_countOrders_7 rfl rfl ?_
  refine g_ri (r_V (C := RX4) (T := TX4) (N := 6) (As := [.int x1]) (rest := []) hC (o_in3 0 (by decide)) (o_eX4 _ _ _ _ _) rfl (c_X4_seatOf (l := ox_l X) (φ := ox_φ X) (D := ox_D X) (cI := ox_I X) (cB := ox_B X) hC.J (by decide) h) gX9_countOrders_X4_seatOf rfl hd_X4_seatOf ⟨Nat.le_of_ble_eq_true rfl, Nat.le_of_ble_eq_true rfl⟩ rfl rfl (Nat.le_of_ble_eq_true rfl) dX9_countOrders_8) (fun v8 s8 h => ?_)
  refine g_istore hC [(5, .int v8), (4, .int (0 : Int32)), (0, .ref (ox_φ X (0, 0, 0))), (1, .int x1), (2, .int x2), (3, .int x3)] dX9_countOrders_11 (by decide) rfl ?_
  refine g_aload_n hC 2 dX9_countOrders_13 rfl rfl ?_
  refine g_get (C := RX9) (T := TX9) (N := 9) (v := .ref (ox_φ X (3, 2, 0))) hC o_iX9 (o_eX9 _ _ _ _) rfl ki_X9_countOrders_X9 4 (by decide) kw_X9_countOrders_2 rfl dX9_countOrders_14 ?_
  refine g_rv (r_V (C := RX4) (T := TX4) (N := 6) (As := []) (rest := []) hC (o_in3 2 (by decide)) (o_eX4 _ _ _ _ _) rfl (c_X4_startAfresh (l := ox_l X) (φ := ox_φ X) (D := ox_D X) (cI := ox_I X) (cB := ox_B X) hC.J (by decide) h) gX9_countOrders_X4_startAfresh rfl hd_X4_startAfresh ⟨Nat.le_of_ble_eq_true rfl, Nat.le_of_ble_eq_true rfl⟩ rfl rfl (Nat.le_of_ble_eq_true rfl) dX9_countOrders_17) (fun s17 h => ?_)
  refine g_iconst (v := (0 : Int32)) hC dX9_countOrders_20 (by decide) ?_
  refine g_istore hC [(6, .int (0 : Int32)), (5, .int v8), (4, .int (0 : Int32)), (0, .ref (ox_φ X (0, 0, 0))), (1, .int x1), (2, .int x2), (3, .int x3)] dX9_countOrders_21 (by decide) rfl ?_
  refine g_sub [3, 4, 5, 6, 2, 1, 0] rfl ?_
  obtain ⟨n, h⟩ := h
  exact lp_X9_countOrders_23 hC hR n _ _ h
set_option maxRecDepth 100000 in
theorem c_X9_countOrders {l : Launch} {φ : OI → Nat} {D : va_G} {cI cB : ClassId} (hJ : o_J φ) {x1 : Int32} {x2 : Int32} {x3 : Int32} {σ : SS} {post : Int32 → SS → Prop} (h : V_X9_countOrders x1 x2 x3 σ post) : o_Mi l φ D cI cB yX9_countOrders wsX9_countOrders 4 95 [.ref (φ (0, 0, 0)), .int x1, .int x2, .int x3] σ post :=
 o_met_i hJ (by decide +kernel) rfl (Nat.le_of_ble_eq_true rfl) (fun p e s m args below meth c Q hC hR => wv_X9_countOrders hC hR h)
theorem kw_X9_orders_1 : Cond.fieldLink RX9 19 "SchoolRow" "school" "LSchoolRow$School;" ∈ wsX9_orders := List.mem_of_getElem? (i := 1) (by decide +kernel)
theorem ki_X9_orders_X9 : ∀ w ∈ wsX90, w ∈ wsX9_orders := fun _ h => List.mem_cons_of_mem _ (List.mem_append_left _ (List.mem_append_left _ (List.mem_append_left _ (List.mem_append_right _ h))))
theorem hd_X9_orders : yX9_orders.cls = RX9 ∧ yX9_orders.cls ≠ "java/lang/invoke/MethodHandle" ∧ yX9_orders.cls ≠ "java/lang/invoke/VarHandle" ∧ (parseMethodDescriptor yX9_orders.desc).map (fun d => d.parameters.length) = some 3 := by decide +kernel
set_option maxHeartbeats 4000000 in
set_option maxRecDepth 100000 in
theorem wb_X9_orders_35 {X : OX} {post : Int32 → SS → Prop} {σ : SS} (hC : o_C X cX9_orders RX9 wsX9_orders 5 122 4) (hR : o_RI X cX9_orders post) (h : VB_X9_orders_35 post σ) : o_G X σ 35 [] [] := by
  unfold VB_X9_orders_35 at h
  refine g_bipush (v := (-102 : Int32)) hC dX9_orders_35 (by decide) ?_
  exact hR _ _ _ _ dX9_orders_37 h
set_option maxHeartbeats 4000000 in
set_option maxRecDepth 100000 in
theorem wb_X9_orders_51 {X : OX} {post : Int32 → SS → Prop} {t0 : Int32} {t1 : Int32} {t2 : Int32} {σ : SS} (hC : o_C X cX9_orders RX9 wsX9_orders 5 122 4) (hR : o_RI X cX9_orders post) (h : VB_X9_orders_51 post t0 t1 t2 σ) : o_G X σ 51 [] [.int t0, .int t1, .int t2, .ref (ox_φ X (0, 0, 0))] := by
  unfold VB_X9_orders_51 at h
  refine g_ri (r_V (C := RX9) (T := TX9) (N := 9) (As := [.int t2, .int t1, .int t0]) (rest := []) hC o_iX9 (o_eX9 _ _ _ _) rfl (c_X9_countOrders (l := ox_l X) (φ := ox_φ X) (D := ox_D X) (cI := ox_I X) (cB := ox_B X) hC.J  h) gX9_orders_X9_countOrders rfl hd_X9_countOrders ⟨Nat.le_of_ble_eq_true rfl, Nat.le_of_ble_eq_true rfl⟩ rfl rfl (Nat.le_of_ble_eq_true rfl) dX9_orders_51) (fun v51 s51 h => ?_)
  exact hR _ _ _ _ dX9_orders_54 h
set_option maxHeartbeats 4000000 in
set_option maxRecDepth 100000 in
theorem wv_X9_orders {X : OX} {x1 : Int32} {x2 : Int32} {x3 : Int32} {post : Int32 → SS → Prop} {σ : SS} (hC : o_C X cX9_orders RX9 wsX9_orders 5 122 4) (hR : o_RI X cX9_orders post) (h : V_X9_orders x1 x2 x3 σ post) : o_G X σ 0 [(0, .ref (ox_φ X (0, 0, 0))), (1, .int x1), (2, .int x2), (3, .int x3)] [] := by
  unfold V_X9_orders at h
  refine g_aload_n hC 0 dX9_orders_0 rfl rfl ?_
  refine g_iload_n hC 1 dX9_orders_1 rfl rfl ?_
  refine g_ri (r_V (C := RX9) (T := TX9) (N := 9) (As := [.int x1]) (rest := []) hC o_iX9 (o_eX9 _ _ _ _) rfl (c_X9_isChild (l := ox_l X) (φ := ox_φ X) (D := ox_D X) (cI := ox_I X) (cB := ox_B X) hC.J  h) gX9_orders_X9_isChild rfl hd_X9_isChild ⟨Nat.le_of_ble_eq_true rfl, Nat.le_of_ble_eq_true rfl⟩ rfl rfl (Nat.le_of_ble_eq_true rfl) dX9_orders_2) (fun v2 s2 h => ?_)
  refine g_if_ne hC 11 dX9_orders_5 (by decide) (fun z => ?_) (fun z => ?_)
  · have h := h.1 z
    refine g_iload_n hC 2 dX9_orders_11 rfl rfl ?_
    refine g_if_lt hC 35 dX9_orders_12 (by decide) (fun z => ?_) (fun z => ?_)
    · have h := h.1 z
      refine g_sub [] rfl ?_
      exact wb_X9_orders_35 hC hR h
    · have h := h.2 z
      refine g_iload_n hC 2 dX9_orders_15 rfl rfl ?_
      refine g_iconst (v := (1 : Int32)) hC dX9_orders_16 (by decide) ?_
      refine g_aload_n hC 0 dX9_orders_17 rfl rfl ?_
      refine g_get (C := RX9) (T := TX9) (N := 9) (v := .ref (ox_φ X (2, 0, 0))) hC o_iX9 (o_eX9 _ _ _ _) rfl ki_X9_orders_X9 1 (by decide) kw_X9_orders_1 rfl dX9_orders_18 ?_
      refine g_ri (r_V (C := RX5) (T := TX5) (N := 8) (As := []) (rest := [.int (1 : Int32), .int x2]) hC o_iX5 (o_eX5 _ _ _ _) rfl (c_X5_size (l := ox_l X) (φ := ox_φ X) (D := ox_D X) (cI := ox_I X) (cB := ox_B X) hC.J  h) gX9_orders_X5_size rfl hd_X5_size ⟨Nat.le_of_ble_eq_true rfl, Nat.le_of_ble_eq_true rfl⟩ rfl rfl (Nat.le_of_ble_eq_true rfl) dX9_orders_21) (fun v21 s21 h => ?_)
      refine g_ishl hC dX9_orders_24 ?_
      refine g_icmp_ge hC 35 dX9_orders_25 (by decide) (fun z => ?_) (fun z => ?_)
      · have h := h.1 z
        refine g_sub [] rfl ?_
        exact wb_X9_orders_35 hC hR h
      · have h := h.2 z
        refine g_iload_n hC 3 dX9_orders_28 rfl rfl ?_
        refine g_ri (r_S (As := [.int x3]) (rest := []) hC (c_X9_isEither (l := ox_l X) (φ := ox_φ X) (D := ox_D X) (cI := ox_I X) (cB := ox_B X) hC.J  h) gX9_orders_X9_isEither rfl hd_X9_isEither ⟨Nat.le_of_ble_eq_true rfl, Nat.le_of_ble_eq_true rfl⟩ rfl rfl (Nat.le_of_ble_eq_true rfl) dX9_orders_29) (fun v29 s29 h => ?_)
        refine g_if_ne hC 38 dX9_orders_32 (by decide) (fun z => ?_) (fun z => ?_)
        · have h := h.1 z
          refine g_aload_n hC 0 dX9_orders_38 rfl rfl ?_
          refine g_iload_n hC 1 dX9_orders_39 rfl rfl ?_
          refine g_iload_n hC 2 dX9_orders_40 rfl rfl ?_
          refine g_iload_n hC 3 dX9_orders_41 rfl rfl ?_
          refine g_iconst (v := (1 : Int32)) hC dX9_orders_42 (by decide) ?_
          refine g_icmp_ne hC 50 dX9_orders_43 (by decide) (fun z => ?_) (fun z => ?_)
          · have h := h.1 z
            refine g_iconst (v := (0 : Int32)) hC dX9_orders_50 (by decide) ?_
            refine g_sub [] rfl ?_
            exact wb_X9_orders_51 hC hR h
          · have h := h.2 z
            refine g_iconst (v := (1 : Int32)) hC dX9_orders_46 (by decide) ?_
            refine g_goto hC 51 dX9_orders_47 (by decide) ?_
            refine g_sub [] rfl ?_
            exact wb_X9_orders_51 hC hR h
        · have h := h.2 z
          refine g_sub [] rfl ?_
          exact wb_X9_orders_35 hC hR h
  · have h := h.2 z
    refine g_bipush (v := (-101 : Int32)) hC dX9_orders_8 (by decide) ?_
    exact hR _ _ _ _ dX9_orders_10 h
set_option maxRecDepth 100000 in
theorem c_X9_orders {l : Launch} {φ : OI → Nat} {D : va_G} {cI cB : ClassId} (hJ : o_J φ) {x1 : Int32} {x2 : Int32} {x3 : Int32} {σ : SS} {post : Int32 → SS → Prop} (h : V_X9_orders x1 x2 x3 σ post) : o_Mi l φ D cI cB yX9_orders wsX9_orders 5 122 [.ref (φ (0, 0, 0)), .int x1, .int x2, .int x3] σ post :=
 o_met_i hJ (by decide +kernel) rfl (Nat.le_of_ble_eq_true rfl) (fun p e s m args below meth c Q hC hR => wv_X9_orders hC hR h)
theorem kw_X9_tell_1 : Cond.fieldLink RX9 28 "SchoolRow" "now" "LSchoolRow$Row;" ∈ wsX9_tell := List.mem_of_getElem? (i := 1) (by decide +kernel)
theorem ki_X9_tell_X9 : ∀ w ∈ wsX90, w ∈ wsX9_tell := fun _ h => List.mem_cons_of_mem _ (List.mem_append_left _ (List.mem_append_left _ (List.mem_append_left _ (List.mem_append_right _ h))))
theorem hd_X9_tell : yX9_tell.cls = RX9 ∧ yX9_tell.cls ≠ "java/lang/invoke/MethodHandle" ∧ yX9_tell.cls ≠ "java/lang/invoke/VarHandle" ∧ (parseMethodDescriptor yX9_tell.desc).map (fun d => d.parameters.length) = some 2 := by decide +kernel
set_option maxHeartbeats 4000000 in
set_option maxRecDepth 100000 in
theorem wb_X9_tell_26 {X : OX} {post : Int32 → SS → Prop} {x1 : Int32} {x2 : Int32} {σ : SS} (hC : o_C X cX9_tell RX9 wsX9_tell 2 44 4) (hR : o_RI X cX9_tell post) (h : VB_X9_tell_26 post x1 x2 σ) : o_G X σ 26 [(0, .ref (ox_φ X (0, 0, 0))), (1, .int x1), (2, .int x2)] [] := by
  unfold VB_X9_tell_26 at h
  refine g_aload_n hC 0 dX9_tell_26 rfl rfl ?_
  refine g_get (C := RX9) (T := TX9) (N := 9) (v := .ref (ox_φ X (3, 0, 0))) hC o_iX9 (o_eX9 _ _ _ _) rfl ki_X9_tell_X9 2 (by decide) kw_X9_tell_1 rfl dX9_tell_27 ?_
  refine g_iload_n hC 1 dX9_tell_30 rfl rfl ?_
  refine g_ri (r_V (C := RX4) (T := TX4) (N := 6) (As := [.int x1]) (rest := []) hC (o_in3 0 (by decide)) (o_eX4 _ _ _ _ _) rfl (c_X4_toldOf (l := ox_l X) (φ := ox_φ X) (D := ox_D X) (cI := ox_I X) (cB := ox_B X) hC.J (by decide) h) gX9_tell_X4_toldOf rfl hd_X4_toldOf ⟨Nat.le_of_ble_eq_true rfl, Nat.le_of_ble_eq_true rfl⟩ rfl rfl (Nat.le_of_ble_eq_true rfl) dX9_tell_31) (fun v31 s31 h => ?_)
  refine g_istore_n hC [(3, .int v31), (0, .ref (ox_φ X (0, 0, 0))), (1, .int x1), (2, .int x2)] dX9_tell_34 rfl (by decide) rfl ?_
  refine g_aload_n hC 1 dX9_tell_35 rfl rfl ?_
  refine g_get (C := RX9) (T := TX9) (N := 9) (v := .ref (ox_φ X (3, 0, 0))) hC o_iX9 (o_eX9 _ _ _ _) rfl ki_X9_tell_X9 2 (by decide) kw_X9_tell_1 rfl dX9_tell_36 ?_
  refine g_iload_n hC 2 dX9_tell_39 rfl rfl ?_
  refine g_iload_n hC 3 dX9_tell_40 rfl rfl ?_
  refine g_rv (r_V (C := RX4) (T := TX4) (N := 6) (As := [.int x1, .int x2]) (rest := []) hC (o_in3 0 (by decide)) (o_eX4 _ _ _ _ _) rfl (c_X4_setTold (l := ox_l X) (φ := ox_φ X) (D := ox_D X) (cI := ox_I X) (cB := ox_B X) hC.J (by decide) h) gX9_tell_X4_setTold rfl hd_X4_setTold ⟨Nat.le_of_ble_eq_true rfl, Nat.le_of_ble_eq_true rfl⟩ rfl rfl (Nat.le_of_ble_eq_true rfl) dX9_tell_41) (fun s41 h => ?_)
  refine g_iload_n hC 0 dX9_tell_44 rfl rfl ?_
  exact hR _ _ _ _ dX9_tell_45 h
set_option maxHeartbeats 4000000 in
set_option maxRecDepth 100000 in
theorem wv_X9_tell {X : OX} {x1 : Int32} {x2 : Int32} {post : Int32 → SS → Prop} {σ : SS} (hC : o_C X cX9_tell RX9 wsX9_tell 2 44 4) (hR : o_RI X cX9_tell post) (h : V_X9_tell x1 x2 σ post) : o_G X σ 0 [(0, .ref (ox_φ X (0, 0, 0))), (1, .int x1), (2, .int x2)] [] := by
  unfold V_X9_tell at h
  refine g_aload_n hC 0 dX9_tell_0 rfl rfl ?_
  refine g_iload_n hC 1 dX9_tell_1 rfl rfl ?_
  refine g_ri (r_V (C := RX9) (T := TX9) (N := 9) (As := [.int x1]) (rest := []) hC o_iX9 (o_eX9 _ _ _ _) rfl (c_X9_isChild (l := ox_l X) (φ := ox_φ X) (D := ox_D X) (cI := ox_I X) (cB := ox_B X) hC.J  h) gX9_tell_X9_isChild rfl hd_X9_isChild ⟨Nat.le_of_ble_eq_true rfl, Nat.le_of_ble_eq_true rfl⟩ rfl rfl (Nat.le_of_ble_eq_true rfl) dX9_tell_2) (fun v2 s2 h => ?_)
  refine g_if_ne hC 11 dX9_tell_5 (by decide) (fun z => ?_) (fun z => ?_)
  · have h := h.1 z
    refine g_iload_n hC 2 dX9_tell_11 rfl rfl ?_
    refine g_iconst (v := (-1 : Int32)) hC dX9_tell_12 (by decide) ?_
    refine g_icmp_eq hC 26 dX9_tell_13 (by decide) (fun z => ?_) (fun z => ?_)
    · have h := h.1 z
      exact wb_X9_tell_26 hC hR h
    · have h := h.2 z
      refine g_iload_n hC 2 dX9_tell_16 rfl rfl ?_
      refine g_ri (r_S (As := [.int x2]) (rest := []) hC (c_X9_isEither (l := ox_l X) (φ := ox_φ X) (D := ox_D X) (cI := ox_I X) (cB := ox_B X) hC.J  h) gX9_tell_X9_isEither rfl hd_X9_isEither ⟨Nat.le_of_ble_eq_true rfl, Nat.le_of_ble_eq_true rfl⟩ rfl rfl (Nat.le_of_ble_eq_true rfl) dX9_tell_17) (fun v17 s17 h => ?_)
      refine g_if_ne hC 26 dX9_tell_20 (by decide) (fun z => ?_) (fun z => ?_)
      · have h := h.1 z
        exact wb_X9_tell_26 hC hR h
      · have h := h.2 z
        refine g_bipush (v := (-102 : Int32)) hC dX9_tell_23 (by decide) ?_
        exact hR _ _ _ _ dX9_tell_25 h
  · have h := h.2 z
    refine g_bipush (v := (-101 : Int32)) hC dX9_tell_8 (by decide) ?_
    exact hR _ _ _ _ dX9_tell_10 h
set_option maxRecDepth 100000 in
theorem c_X9_tell {l : Launch} {φ : OI → Nat} {D : va_G} {cI cB : ClassId} (hJ : o_J φ) {x1 : Int32} {x2 : Int32} {σ : SS} {post : Int32 → SS → Prop} (h : V_X9_tell x1 x2 σ post) : o_Mi l φ D cI cB yX9_tell wsX9_tell 2 44 [.ref (φ (0, 0, 0)), .int x1, .int x2] σ post :=
 o_met_i hJ (by decide +kernel) rfl (Nat.le_of_ble_eq_true rfl) (fun p e s m args below meth c Q hC hR => wv_X9_tell hC hR h)
