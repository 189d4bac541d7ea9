theorem hd_X10_within : yX10_within.cls ≠ "java/lang/invoke/MethodHandle" ∧ yX10_within.cls ≠ "java/lang/invoke/VarHandle" ∧ (parseMethodDescriptor yX10_within.desc).map (fun d => d.parameters.length) = some 3 := by decide +kernel
set_option maxHeartbeats 4000000 in
set_option maxRecDepth 100000 in
theorem wb_X10_within_15 {X : OX} {post : Int32 → SS → Prop} {t0 : Int32} {σ : SS} (hC : o_C X cX10_within RX10 wsX10_within 0 0 3) (hR : o_RZ X cX10_within post) (h : VB_X10_within_15 post t0 σ) : o_G X σ 15 [] [.int t0] := by
  unfold VB_X10_within_15 at h
  exact hR _ _ _ _ dX10_within_15 h
set_option maxHeartbeats 4000000 in
set_option maxRecDepth 100000 in
theorem wb_X10_within_14 {X : OX} {post : Int32 → SS → Prop} {σ : SS} (hC : o_C X cX10_within RX10 wsX10_within 0 0 3) (hR : o_RZ X cX10_within post) (h : VB_X10_within_14 post σ) : o_G X σ 14 [] [] := by
  unfold VB_X10_within_14 at h
  refine g_iconst (v := (0 : Int32)) hC dX10_within_14 (by decide) ?_
  exact wb_X10_within_15 hC hR h
set_option maxHeartbeats 4000000 in
set_option maxRecDepth 100000 in
theorem wv_X10_within {X : OX} {x0 : Int32} {x1 : Int32} {x2 : Int32} {post : Int32 → SS → Prop} {σ : SS} (hC : o_C X cX10_within RX10 wsX10_within 0 0 3) (hR : o_RZ X cX10_within post) (h : V_X10_within x0 x1 x2 σ post) : o_G X σ 0 [(0, .int x0), (1, .int x1), (2, .int x2)] [] := by
  unfold V_X10_within at h
  refine g_iload_n hC 0 dX10_within_0 rfl rfl ?_
  refine g_iload_n hC 1 dX10_within_1 rfl rfl ?_
  refine g_icmp_lt hC 14 dX10_within_2 (by decide) (fun z => ?_) (fun z => ?_)
  · have h := h.1 z
    refine g_sub [] rfl ?_
    exact wb_X10_within_14 hC hR h
  · have h := h.2 z
    refine g_iload_n hC 0 dX10_within_5 rfl rfl ?_
    refine g_iload_n hC 2 dX10_within_6 rfl rfl ?_
    refine g_icmp_gt hC 14 dX10_within_7 (by decide) (fun z => ?_) (fun z => ?_)
    · have h := h.1 z
      refine g_sub [] rfl ?_
      exact wb_X10_within_14 hC hR h
    · have h := h.2 z
      refine g_iconst (v := (1 : Int32)) hC dX10_within_10 (by decide) ?_
      refine g_goto hC 15 dX10_within_11 (by decide) ?_
      refine g_sub [] rfl ?_
      exact wb_X10_within_15 hC hR h
set_option maxRecDepth 100000 in
theorem c_X10_within {l : Launch} {φ : OI → Nat} {D : va_G} {cI cB : ClassId} (hJ : o_J φ) {x0 : Int32} {x1 : Int32} {x2 : Int32} {σ : SS} {post : Int32 → SS → Prop} (h : V_X10_within x0 x1 x2 σ post) : o_Mi l φ D cI cB yX10_within wsX10_within 0 0 [.int x0, .int x1, .int x2] σ post :=
 o_met_z hJ (by decide +kernel) rfl (Nat.le_of_ble_eq_true rfl) (fun p e s m args below meth c Q hC hR => wv_X10_within hC hR h)
theorem hd_X10_size : yX10_size.cls ≠ "java/lang/invoke/MethodHandle" ∧ yX10_size.cls ≠ "java/lang/invoke/VarHandle" ∧ (parseMethodDescriptor yX10_size.desc).map (fun d => d.parameters.length) = some 1 := by decide +kernel
set_option maxHeartbeats 4000000 in
set_option maxRecDepth 100000 in
theorem wb_X10_size_4 {X : OX} {post : Int32 → SS → Prop} {K4 : Int32 → Int32 → Int32 → SS → Prop} {x0 : Int32} {x1 : Int32} {x2 : Int32} {σ : SS} (hC : o_C X cX10_size RX10 wsX10_size 0 0 3) (hR : o_RI X cX10_size post) (hK4 : ∀ (x0 : Int32) (x1 : Int32) (x2 : Int32) (σ : SS), K4 x0 x1 x2 σ → o_G X σ 4 [(0, .int x0), (1, .int x1), (2, .int x2)] []) (h : VB_X10_size_4 post K4 x0 x1 x2 σ) : o_G X σ 4 [(0, .int x0), (1, .int x1), (2, .int x2)] [] := by
  unfold VB_X10_size_4 at h
  refine g_iload_n hC 2 dX10_size_4 rfl rfl ?_
  refine g_bipush (v := (6 : Int32)) hC dX10_size_5 (by decide) ?_
  refine g_icmp_ge hC 24 dX10_size_7 (by decide) (fun z => ?_) (fun z => ?_)
  · have h := h.1 z
    refine g_iload_n hC 1 dX10_size_24 rfl rfl ?_
    exact hR _ _ _ _ dX10_size_25 h
  · have h := h.2 z
    refine g_iload_n hC 1 dX10_size_10 rfl rfl ?_
    refine g_iload_n hC 0 dX10_size_11 rfl rfl ?_
    refine g_iload_n hC 2 dX10_size_12 rfl rfl ?_
    refine g_ishr hC dX10_size_13 ?_
    refine g_iconst (v := (1 : Int32)) hC dX10_size_14 (by decide) ?_
    refine g_iand hC dX10_size_15 ?_
    refine g_iadd hC dX10_size_16 ?_
    refine g_topi (fun y17 e17 => ?_)
    have h := h y17 e17
    refine g_istore_n hC [(1, .int y17), (0, .int x0), (2, .int x2)] dX10_size_17 rfl (by decide) rfl ?_
    refine g_iinc (v := (x2 + (1 : Int32))) hC 2 [(2, .int (x2 + (1 : Int32))), (1, .int y17), (0, .int x0)] dX10_size_18 rfl rfl (by decide) rfl ?_
    refine g_goto hC 4 dX10_size_21 (by decide) ?_
    refine g_sub [2, 1, 0] rfl ?_
    exact hK4 _ _ _ _ h
set_option maxHeartbeats 4000000 in
set_option maxRecDepth 100000 in
theorem lp_X10_size_4 {X : OX} {post : Int32 → SS → Prop} (hC : o_C X cX10_size RX10 wsX10_size 0 0 3) (hR : o_RI X cX10_size post) : ∀ (n : Nat) (a : Int32 × Int32 × Int32) (σ : SS), LP_X10_size_4 post n a σ → o_G X σ 4 [(0, .int a.1), (1, .int a.2.1), (2, .int a.2.2)] [] :=
 o_lp_G (fun K hK a σ h => wb_X10_size_4 hC hR (fun x0 x1 x2 σ h => hK (x0, x1, x2) σ h) h)
set_option maxHeartbeats 4000000 in
set_option maxRecDepth 100000 in
theorem wv_X10_size {X : OX} {x0 : Int32} {post : Int32 → SS → Prop} {σ : SS} (hC : o_C X cX10_size RX10 wsX10_size 0 0 3) (hR : o_RI X cX10_size post) (h : V_X10_size x0 σ post) : o_G X σ 0 [(0, .int x0)] [] := by
  unfold V_X10_size at h
  refine g_iconst (v := (0 : Int32)) hC dX10_size_0 (by decide) ?_
  refine g_istore_n hC [(1, .int (0 : Int32)), (0, .int x0)] dX10_size_1 rfl (by decide) rfl ?_
  refine g_iconst (v := (0 : Int32)) hC dX10_size_2 (by decide) ?_
  refine g_istore_n hC [(2, .int (0 : Int32)), (1, .int (0 : Int32)), (0, .int x0)] dX10_size_3 rfl (by decide) rfl ?_
  refine g_sub [2, 1, 0] rfl ?_
  obtain ⟨n, h⟩ := h
  exact lp_X10_size_4 hC hR n _ _ h
set_option maxRecDepth 100000 in
theorem c_X10_size {l : Launch} {φ : OI → Nat} {D : va_G} {cI cB : ClassId} (hJ : o_J φ) {x0 : Int32} {σ : SS} {post : Int32 → SS → Prop} (h : V_X10_size x0 σ post) : o_Mi l φ D cI cB yX10_size wsX10_size 0 0 [.int x0] σ post :=
 o_met_i hJ (by decide +kernel) rfl (Nat.le_of_ble_eq_true rfl) (fun p e s m args below meth c Q hC hR => wv_X10_size hC hR h)
theorem kw_X10_letter_1 : Cond.fieldLink RX10 57 "SchoolRowModel" "pageLength" "I" ∈ wsX10_letter := List.mem_of_getElem? (i := 1) (by decide +kernel)
theorem kw_X10_letter_2 : Cond.fieldLink RX10 34 "SchoolRowModel" "page" "[B" ∈ wsX10_letter := List.mem_of_getElem? (i := 2) (by decide +kernel)
theorem ki_X10_letter_X10 : ∀ w ∈ wsX100, w ∈ wsX10_letter := fun _ h => List.mem_cons_of_mem _ (List.mem_append_right _ h)
theorem hd_X10_letter : yX10_letter.cls = RX10 ∧ yX10_letter.cls ≠ "java/lang/invoke/MethodHandle" ∧ yX10_letter.cls ≠ "java/lang/invoke/VarHandle" ∧ (parseMethodDescriptor yX10_letter.desc).map (fun d => d.parameters.length) = some 1 := by decide +kernel
set_option maxHeartbeats 4000000 in
set_option maxRecDepth 100000 in
theorem wv_X10_letter {X : OX} {x1 : Int32} {post : Int32 → SS → Prop} {σ : SS} (hC : o_C X cX10_letter RX10 wsX10_letter 1 22 2) (hR : o_RI X cX10_letter post) (h : V_X10_letter x1 σ post) : o_G X σ 0 [(0, .ref (ox_φ X (7, 0, 0))), (1, .int x1)] [] := by
  unfold V_X10_letter at h
  refine g_iload_n hC 1 dX10_letter_0 rfl rfl ?_
  refine g_bipush (v := (32 : Int32)) hC dX10_letter_1 (by decide) ?_
  refine g_bipush (v := (126 : Int32)) hC dX10_letter_3 (by decide) ?_
  refine g_ri (r_S (As := [.int x1, .int (32 : Int32), .int (126 : Int32)]) (rest := []) hC (c_X10_within (l := ox_l X) (φ := ox_φ X) (D := ox_D X) (cI := ox_I X) (cB := ox_B X) hC.J  h) gX10_letter_X10_within rfl hd_X10_within ⟨Nat.le_of_ble_eq_true rfl, Nat.le_of_ble_eq_true rfl⟩ rfl rfl (Nat.le_of_ble_eq_true rfl) dX10_letter_5) (fun v5 s5 h => ?_)
  refine g_if_ne hC 14 dX10_letter_8 (by decide) (fun z => ?_) (fun z => ?_)
  · have h := h.1 z
    refine g_aload_n hC 0 dX10_letter_14 rfl rfl ?_
    refine g_get (C := RX10) (T := TX10) (N := 25) (v := .int (s5.1 (7, 0, 0) 12)) hC o_iX10 (o_eX10 _ _ _ _) rfl ki_X10_letter_X10 12 (by decide) kw_X10_letter_1 rfl dX10_letter_15 ?_
    refine g_bipush (v := (14 : Int32)) hC dX10_letter_18 (by decide) ?_
    refine g_icmp_ne hC 26 dX10_letter_20 (by decide) (fun z => ?_) (fun z => ?_)
    · have h := h.1 z
      refine g_aload_n hC 0 dX10_letter_26 rfl rfl ?_
      refine g_get (C := RX10) (T := TX10) (N := 25) (v := .ref (ox_φ X (8, 0, 8))) hC o_iX10 (o_eX10 _ _ _ _) rfl ki_X10_letter_X10 13 (by decide) kw_X10_letter_2 rfl dX10_letter_27 ?_
      refine g_aload_n hC 0 dX10_letter_30 rfl rfl ?_
      refine g_get (C := RX10) (T := TX10) (N := 25) (v := .int (s5.1 (7, 0, 0) 12)) hC o_iX10 (o_eX10 _ _ _ _) rfl ki_X10_letter_X10 12 (by decide) kw_X10_letter_1 rfl dX10_letter_31 ?_
      refine g_iload_n hC 1 dX10_letter_34 rfl rfl ?_
      refine g_i2b hC dX10_letter_35 ?_
      refine g_bast hC o_M8 h.1 dX10_letter_36 ?_
      have h := h.2
      refine g_aload_n hC 0 dX10_letter_37 rfl rfl ?_
      refine g_dup hC dX10_letter_38 rfl ?_
      refine g_get (C := RX10) (T := TX10) (N := 25) (v := .int ((o_wr s5 (8, 0, 8) ((s5.1 (7, 0, 0) 12)).toNatClampNeg (vp_nar .byte (x1).toInt8.toInt32)).1 (7, 0, 0) 12)) hC o_iX10 (o_eX10 _ _ _ _) rfl ki_X10_letter_X10 12 (by decide) kw_X10_letter_1 rfl dX10_letter_39 ?_
      refine g_iconst (v := (1 : Int32)) hC dX10_letter_42 (by decide) ?_
      refine g_iadd hC dX10_letter_43 ?_
      refine g_puti (C := RX10) (T := TX10) (N := 25) hC o_iX10 (o_eX10 _ _ _ _) rfl ki_X10_letter_X10 tyX10_ok nmX10 12 (by decide) kw_X10_letter_1 rfl rfl rfl (Nat.le_of_ble_eq_true rfl) (o_pX10_12 _ _ _ _ _) dX10_letter_44 ?_
      refine g_aload_n hC 0 dX10_letter_47 rfl rfl ?_
      refine g_get (C := RX10) (T := TX10) (N := 25) (v := .int ((o_wr (o_wr s5 (8, 0, 8) ((s5.1 (7, 0, 0) 12)).toNatClampNeg (vp_nar .byte (x1).toInt8.toInt32)) (7, 0, 0) 12 (((o_wr s5 (8, 0, 8) ((s5.1 (7, 0, 0) 12)).toNatClampNeg (vp_nar .byte (x1).toInt8.toInt32)).1 (7, 0, 0) 12) + (1 : Int32))).1 (7, 0, 0) 12)) hC o_iX10 (o_eX10 _ _ _ _) rfl ki_X10_letter_X10 12 (by decide) kw_X10_letter_1 rfl dX10_letter_48 ?_
      exact hR _ _ _ _ dX10_letter_51 h
    · have h := h.2 z
      refine g_bipush (v := (-104 : Int32)) hC dX10_letter_23 (by decide) ?_
      exact hR _ _ _ _ dX10_letter_25 h
  · have h := h.2 z
    refine g_bipush (v := (-102 : Int32)) hC dX10_letter_11 (by decide) ?_
    exact hR _ _ _ _ dX10_letter_13 h
set_option maxRecDepth 100000 in
theorem c_X10_letter {l : Launch} {φ : OI → Nat} {D : va_G} {cI cB : ClassId} (hJ : o_J φ) {x1 : Int32} {σ : SS} {post : Int32 → SS → Prop} (h : V_X10_letter x1 σ post) : o_Mi l φ D cI cB yX10_letter wsX10_letter 1 22 [.ref (φ (7, 0, 0)), .int x1] σ post :=
 o_met_i hJ (by decide +kernel) rfl (Nat.le_of_ble_eq_true rfl) (fun p e s m args below meth c Q hC hR => wv_X10_letter hC hR h)
theorem kw_X10_blank_1 : Cond.fieldLink RX10 57 "SchoolRowModel" "pageLength" "I" ∈ wsX10_blank := List.mem_of_getElem? (i := 1) (by decide +kernel)
theorem ki_X10_blank_X10 : ∀ w ∈ wsX100, w ∈ wsX10_blank := fun _ h => List.mem_cons_of_mem _ (List.mem_append_right _ h)
theorem hd_X10_blank : yX10_blank.cls = RX10 ∧ yX10_blank.cls ≠ "java/lang/invoke/MethodHandle" ∧ yX10_blank.cls ≠ "java/lang/invoke/VarHandle" ∧ (parseMethodDescriptor yX10_blank.desc).map (fun d => d.parameters.length) = some 0 := by decide +kernel
set_option maxHeartbeats 4000000 in
set_option maxRecDepth 100000 in
theorem wv_X10_blank {X : OX} {post : Int32 → SS → Prop} {σ : SS} (hC : o_C X cX10_blank RX10 wsX10_blank 0 0 2) (hR : o_RI X cX10_blank post) (h : V_X10_blank σ post) : o_G X σ 0 [(0, .ref (ox_φ X (7, 0, 0)))] [] := by
  unfold V_X10_blank at h
  refine g_aload_n hC 0 dX10_blank_0 rfl rfl ?_
  refine g_get (C := RX10) (T := TX10) (N := 25) (v := .int (σ.1 (7, 0, 0) 12)) hC o_iX10 (o_eX10 _ _ _ _) rfl ki_X10_blank_X10 12 (by decide) kw_X10_blank_1 rfl dX10_blank_1 ?_
  refine g_istore_n hC [(1, .int (σ.1 (7, 0, 0) 12)), (0, .ref (ox_φ X (7, 0, 0)))] dX10_blank_4 rfl (by decide) rfl ?_
  refine g_aload_n hC 1 dX10_blank_5 rfl rfl ?_
  refine g_iconst (v := (0 : Int32)) hC dX10_blank_6 (by decide) ?_
  refine g_puti (C := RX10) (T := TX10) (N := 25) hC o_iX10 (o_eX10 _ _ _ _) rfl ki_X10_blank_X10 tyX10_ok nmX10 12 (by decide) kw_X10_blank_1 rfl rfl rfl (Nat.le_of_ble_eq_true rfl) (o_pX10_12 _ _ _ _ _) dX10_blank_7 ?_
  refine g_iload_n hC 0 dX10_blank_10 rfl rfl ?_
  exact hR _ _ _ _ dX10_blank_11 h
set_option maxRecDepth 100000 in
theorem c_X10_blank {l : Launch} {φ : OI → Nat} {D : va_G} {cI cB : ClassId} (hJ : o_J φ) {σ : SS} {post : Int32 → SS → Prop} (h : V_X10_blank σ post) : o_Mi l φ D cI cB yX10_blank wsX10_blank 0 0 [.ref (φ (7, 0, 0))] σ post :=
 o_met_i hJ (by decide +kernel) rfl (Nat.le_of_ble_eq_true rfl) (fun p e s m args below meth c Q hC hR => wv_X10_blank hC hR h)
theorem hd_X10_kindBy : yX10_kindBy.cls ≠ "java/lang/invoke/MethodHandle" ∧ yX10_kindBy.cls ≠ "java/lang/invoke/VarHandle" ∧ (parseMethodDescriptor yX10_kindBy.desc).map (fun d => d.parameters.length) = some 1 := by decide +kernel
set_option maxHeartbeats 4000000 in
set_option maxRecDepth 100000 in
theorem wv_X10_kindBy {X : OX} {x0 : Int32} {post : Int32 → SS → Prop} {σ : SS} (hC : o_C X cX10_kindBy RX10 wsX10_kindBy 0 0 1) (hR : o_RI X cX10_kindBy post) (h : V_X10_kindBy x0 σ post) : o_G X σ 0 [(0, .int x0)] [] := by
  unfold V_X10_kindBy at h
  refine g_iload_n hC 0 dX10_kindBy_0 rfl rfl ?_
  by_cases z0 : x0 = (99 : Int32)
  · have h := h.1 z0
    refine g_lookup (off := 51) hC 52 dX10_kindBy_1 (by decide) (by rw [z0]; decide) (by decide) ?_
    refine g_iconst (v := (0 : Int32)) hC dX10_kindBy_52 (by decide) ?_
    exact hR _ _ _ _ dX10_kindBy_53 h
  · skip
    by_cases z1 : x0 = (100 : Int32)
    · have h := h.2.1 z1
      refine g_lookup (off := 55) hC 56 dX10_kindBy_1 (by decide) (by rw [z1]; decide) (by decide) ?_
      refine g_iconst (v := (2 : Int32)) hC dX10_kindBy_56 (by decide) ?_
      exact hR _ _ _ _ dX10_kindBy_57 h
    · skip
      by_cases z2 : x0 = (103 : Int32)
      · have h := h.2.2.1 z2
        refine g_lookup (off := 57) hC 58 dX10_kindBy_1 (by decide) (by rw [z2]; decide) (by decide) ?_
        refine g_iconst (v := (3 : Int32)) hC dX10_kindBy_58 (by decide) ?_
        exact hR _ _ _ _ dX10_kindBy_59 h
      · skip
        by_cases z3 : x0 = (104 : Int32)
        · have h := h.2.2.2.1 z3
          refine g_lookup (off := 59) hC 60 dX10_kindBy_1 (by decide) (by rw [z3]; decide) (by decide) ?_
          refine g_iconst (v := (4 : Int32)) hC dX10_kindBy_60 (by decide) ?_
          exact hR _ _ _ _ dX10_kindBy_61 h
        · skip
          by_cases z4 : x0 = (115 : Int32)
          · have h := h.2.2.2.2.1 z4
            refine g_lookup (off := 53) hC 54 dX10_kindBy_1 (by decide) (by rw [z4]; decide) (by decide) ?_
            refine g_iconst (v := (1 : Int32)) hC dX10_kindBy_54 (by decide) ?_
            exact hR _ _ _ _ dX10_kindBy_55 h
          · skip
            have h := h.2.2.2.2.2 ⟨z0, z1, z2, z3, z4⟩
            refine g_lookup (off := 61) hC 62 dX10_kindBy_1 (by decide) (by show Op.lookupswitch.offset [(99, 51), (100, 55), (103, 57), (104, 59), (115, 53)] 61 _ = _; rw [lv_osw z0 (by decide), lv_osw z1 (by decide), lv_osw z2 (by decide), lv_osw z3 (by decide), lv_osw z4 (by decide)]; rfl) (by decide) ?_
            refine g_iconst (v := (-1 : Int32)) hC dX10_kindBy_62 (by decide) ?_
            exact hR _ _ _ _ dX10_kindBy_63 h
set_option maxRecDepth 100000 in
theorem c_X10_kindBy {l : Launch} {φ : OI → Nat} {D : va_G} {cI cB : ClassId} (hJ : o_J φ) {x0 : Int32} {σ : SS} {post : Int32 → SS → Prop} (h : V_X10_kindBy x0 σ post) : o_Mi l φ D cI cB yX10_kindBy wsX10_kindBy 0 0 [.int x0] σ post :=
 o_met_i hJ (by decide +kernel) rfl (Nat.le_of_ble_eq_true rfl) (fun p e s m args below meth c Q hC hR => wv_X10_kindBy hC hR h)
theorem kw_X10_isGood_1 : Cond.fieldLink RX10 34 "SchoolRowModel" "page" "[B" ∈ wsX10_isGood := List.mem_of_getElem? (i := 1) (by decide +kernel)
theorem ki_X10_isGood_X10 : ∀ w ∈ wsX100, w ∈ wsX10_isGood := fun _ h => List.mem_cons_of_mem _ (List.mem_append_right _ h)
theorem hd_X10_isGood : yX10_isGood.cls = RX10 ∧ yX10_isGood.cls ≠ "java/lang/invoke/MethodHandle" ∧ yX10_isGood.cls ≠ "java/lang/invoke/VarHandle" ∧ (parseMethodDescriptor yX10_isGood.desc).map (fun d => d.parameters.length) = some 1 := by decide +kernel
set_option maxHeartbeats 4000000 in
set_option maxRecDepth 100000 in
theorem wb_X10_isGood_86 {X : OX} {post : Int32 → SS → Prop} {t0 : Int32} {σ : SS} (hC : o_C X cX10_isGood RX10 wsX10_isGood 1 22 3) (hR : o_RZ X cX10_isGood post) (h : VB_X10_isGood_86 post t0 σ) : o_G X σ 86 [] [.int t0] := by
  unfold VB_X10_isGood_86 at h
  exact hR _ _ _ _ dX10_isGood_86 h
set_option maxHeartbeats 4000000 in
set_option maxRecDepth 100000 in
theorem wb_X10_isGood_85 {X : OX} {post : Int32 → SS → Prop} {σ : SS} (hC : o_C X cX10_isGood RX10 wsX10_isGood 1 22 3) (hR : o_RZ X cX10_isGood post) (h : VB_X10_isGood_85 post σ) : o_G X σ 85 [] [] := by
  unfold VB_X10_isGood_85 at h
  refine g_iconst (v := (0 : Int32)) hC dX10_isGood_85 (by decide) ?_
  exact wb_X10_isGood_86 hC hR h
set_option maxHeartbeats 4000000 in
set_option maxRecDepth 100000 in
theorem wv_X10_isGood {X : OX} {x1 : Int32} {post : Int32 → SS → Prop} {σ : SS} (hC : o_C X cX10_isGood RX10 wsX10_isGood 1 22 3) (hR : o_RZ X cX10_isGood post) (h : V_X10_isGood x1 σ post) : o_G X σ 0 [(0, .ref (ox_φ X (7, 0, 0))), (1, .int x1)] [] := by
  unfold V_X10_isGood at h
  refine g_aload_n hC 0 dX10_isGood_0 rfl rfl ?_
  refine g_get (C := RX10) (T := TX10) (N := 25) (v := .ref (ox_φ X (8, 0, 8))) hC o_iX10 (o_eX10 _ _ _ _) rfl ki_X10_isGood_X10 13 (by decide) kw_X10_isGood_1 rfl dX10_isGood_1 ?_
  refine g_iload_n hC 1 dX10_isGood_4 rfl rfl ?_
  refine g_bald hC o_M8 h.1 dX10_isGood_5 ?_
  have h := h.2
  refine g_bipush (v := (48 : Int32)) hC dX10_isGood_6 (by decide) ?_
  refine g_isub hC dX10_isGood_8 ?_
  refine g_topi (fun y9 e9 => ?_)
  have h := h y9 e9
  refine g_istore_n hC [(2, .int y9), (0, .ref (ox_φ X (7, 0, 0))), (1, .int x1)] dX10_isGood_9 rfl (by decide) rfl ?_
  refine g_iload_n hC 2 dX10_isGood_10 rfl rfl ?_
  refine g_iconst (v := (2 : Int32)) hC dX10_isGood_11 (by decide) ?_
  refine g_icmp_ge hC 23 dX10_isGood_12 (by decide) (fun z => ?_) (fun z => ?_)
  · have h := h.1 z
    refine g_iload_n hC 2 dX10_isGood_23 rfl rfl ?_
    refine g_bipush (v := (6 : Int32)) hC dX10_isGood_24 (by decide) ?_
    refine g_icmp_ge hC 37 dX10_isGood_26 (by decide) (fun z => ?_) (fun z => ?_)
    · have h := h.1 z
      refine g_iload_n hC 2 dX10_isGood_37 rfl rfl ?_
      refine g_bipush (v := (6 : Int32)) hC dX10_isGood_38 (by decide) ?_
      refine g_icmp_ne hC 62 dX10_isGood_40 (by decide) (fun z => ?_) (fun z => ?_)
      · have h := h.1 z
        refine g_iload_n hC 2 dX10_isGood_62 rfl rfl ?_
        refine g_bipush (v := (13 : Int32)) hC dX10_isGood_63 (by decide) ?_
        refine g_icmp_ge hC 85 dX10_isGood_65 (by decide) (fun z => ?_) (fun z => ?_)
        · have h := h.1 z
          refine g_sub [] rfl ?_
          exact wb_X10_isGood_85 hC hR h
        · have h := h.2 z
          refine g_aload_n hC 1 dX10_isGood_68 rfl rfl ?_
          refine g_get (C := RX10) (T := TX10) (N := 25) (v := .ref (ox_φ X (8, 0, 8))) hC o_iX10 (o_eX10 _ _ _ _) rfl ki_X10_isGood_X10 13 (by decide) kw_X10_isGood_1 rfl dX10_isGood_69 ?_
          refine g_iload_n hC 2 dX10_isGood_72 rfl rfl ?_
          refine g_bald hC o_M8 h.1 dX10_isGood_73 ?_
          have h := h.2
          refine g_ri (r_S (As := [.int (σ.1 (8, 0, 8) (x1).toNatClampNeg)]) (rest := []) hC (c_X10_kindBy (l := ox_l X) (φ := ox_φ X) (D := ox_D X) (cI := ox_I X) (cB := ox_B X) hC.J  h) gX10_isGood_X10_kindBy rfl hd_X10_kindBy ⟨Nat.le_of_ble_eq_true rfl, Nat.le_of_ble_eq_true rfl⟩ rfl rfl (Nat.le_of_ble_eq_true rfl) dX10_isGood_74) (fun v74 s74 h => ?_)
          refine g_iconst (v := (-1 : Int32)) hC dX10_isGood_77 (by decide) ?_
          refine g_icmp_eq hC 85 dX10_isGood_78 (by decide) (fun z => ?_) (fun z => ?_)
          · have h := h.1 z
            refine g_sub [] rfl ?_
            exact wb_X10_isGood_85 hC hR h
          · have h := h.2 z
            refine g_iconst (v := (1 : Int32)) hC dX10_isGood_81 (by decide) ?_
            refine g_goto hC 86 dX10_isGood_82 (by decide) ?_
            refine g_sub [] rfl ?_
            exact wb_X10_isGood_86 hC hR h
      · have h := h.2 z
        refine g_aload_n hC 1 dX10_isGood_43 rfl rfl ?_
        refine g_get (C := RX10) (T := TX10) (N := 25) (v := .ref (ox_φ X (8, 0, 8))) hC o_iX10 (o_eX10 _ _ _ _) rfl ki_X10_isGood_X10 13 (by decide) kw_X10_isGood_1 rfl dX10_isGood_44 ?_
        refine g_iload_n hC 2 dX10_isGood_47 rfl rfl ?_
        refine g_bald hC o_M8 h.1 dX10_isGood_48 ?_
        have h := h.2
        refine g_bipush (v := (58 : Int32)) hC dX10_isGood_49 (by decide) ?_
        refine g_icmp_ne hC 58 dX10_isGood_51 (by decide) (fun z => ?_) (fun z => ?_)
        · have h := h.1 z
          refine g_iconst (v := (0 : Int32)) hC dX10_isGood_58 (by decide) ?_
          refine g_goto hC 86 dX10_isGood_59 (by decide) ?_
          refine g_sub [] rfl ?_
          exact wb_X10_isGood_86 hC hR h
        · have h := h.2 z
          refine g_iconst (v := (1 : Int32)) hC dX10_isGood_54 (by decide) ?_
          refine g_goto hC 86 dX10_isGood_55 (by decide) ?_
          refine g_sub [] rfl ?_
          exact wb_X10_isGood_86 hC hR h
    · have h := h.2 z
      refine g_iload_n hC 0 dX10_isGood_29 rfl rfl ?_
      refine g_iconst (v := (1 : Int32)) hC dX10_isGood_30 (by decide) ?_
      refine g_bipush (v := (9 : Int32)) hC dX10_isGood_31 (by decide) ?_
      refine g_ri (r_S (As := [.int y9, .int (1 : Int32), .int (9 : Int32)]) (rest := []) hC (c_X10_within (l := ox_l X) (φ := ox_φ X) (D := ox_D X) (cI := ox_I X) (cB := ox_B X) hC.J  h) gX10_isGood_X10_within rfl hd_X10_within ⟨Nat.le_of_ble_eq_true rfl, Nat.le_of_ble_eq_true rfl⟩ rfl rfl (Nat.le_of_ble_eq_true rfl) dX10_isGood_33) (fun v33 s33 h => ?_)
      exact hR _ _ _ _ dX10_isGood_36 h
  · have h := h.2 z
    refine g_iload_n hC 0 dX10_isGood_15 rfl rfl ?_
    refine g_iconst (v := (0 : Int32)) hC dX10_isGood_16 (by decide) ?_
    refine g_bipush (v := (9 : Int32)) hC dX10_isGood_17 (by decide) ?_
    refine g_ri (r_S (As := [.int y9, .int (0 : Int32), .int (9 : Int32)]) (rest := []) hC (c_X10_within (l := ox_l X) (φ := ox_φ X) (D := ox_D X) (cI := ox_I X) (cB := ox_B X) hC.J  h) gX10_isGood_X10_within rfl hd_X10_within ⟨Nat.le_of_ble_eq_true rfl, Nat.le_of_ble_eq_true rfl⟩ rfl rfl (Nat.le_of_ble_eq_true rfl) dX10_isGood_19) (fun v19 s19 h => ?_)
    exact hR _ _ _ _ dX10_isGood_22 h
set_option maxRecDepth 100000 in
theorem c_X10_isGood {l : Launch} {φ : OI → Nat} {D : va_G} {cI cB : ClassId} (hJ : o_J φ) {x1 : Int32} {σ : SS} {post : Int32 → SS → Prop} (h : V_X10_isGood x1 σ post) : o_Mi l φ D cI cB yX10_isGood wsX10_isGood 1 22 [.ref (φ (7, 0, 0)), .int x1] σ post :=
 o_met_z hJ (by decide +kernel) rfl (Nat.le_of_ble_eq_true rfl) (fun p e s m args below meth c Q hC hR => wv_X10_isGood hC hR h)
theorem kw_X10_faultNow_1 : Cond.fieldLink RX10 57 "SchoolRowModel" "pageLength" "I" ∈ wsX10_faultNow := List.mem_of_getElem? (i := 1) (by decide +kernel)
theorem ki_X10_faultNow_X10 : ∀ w ∈ wsX100, w ∈ wsX10_faultNow := fun _ h => List.mem_cons_of_mem _ (List.mem_append_right _ h)
theorem hd_X10_faultNow : yX10_faultNow.cls = RX10 ∧ yX10_faultNow.cls ≠ "java/lang/invoke/MethodHandle" ∧ yX10_faultNow.cls ≠ "java/lang/invoke/VarHandle" ∧ (parseMethodDescriptor yX10_faultNow.desc).map (fun d => d.parameters.length) = some 0 := by decide +kernel
set_option maxHeartbeats 4000000 in
set_option maxRecDepth 100000 in
theorem wb_X10_faultNow_24 {X : OX} {post : Int32 → SS → Prop} {x1 : Int32} {σ : SS} (hC : o_C X cX10_faultNow RX10 wsX10_faultNow 2 44 2) (hR : o_RI X cX10_faultNow post) (h : VB_X10_faultNow_24 post x1 σ) : o_G X σ 24 [(1, .int x1)] [] := by
  unfold VB_X10_faultNow_24 at h
  refine g_iload_n hC 0 dX10_faultNow_24 rfl rfl ?_
  exact hR _ _ _ _ dX10_faultNow_25 h
set_option maxHeartbeats 4000000 in
set_option maxRecDepth 100000 in
theorem wb_X10_faultNow_2 {X : OX} {post : Int32 → SS → Prop} {K2 : Int32 → SS → Prop} {x1 : Int32} {σ : SS} (hC : o_C X cX10_faultNow RX10 wsX10_faultNow 2 44 2) (hR : o_RI X cX10_faultNow post) (hK2 : ∀ (x1 : Int32) (σ : SS), K2 x1 σ → o_G X σ 2 [(0, .ref (ox_φ X (7, 0, 0))), (1, .int x1)] []) (h : VB_X10_faultNow_2 post K2 x1 σ) : o_G X σ 2 [(0, .ref (ox_φ X (7, 0, 0))), (1, .int x1)] [] := by
  unfold VB_X10_faultNow_2 at h
  refine g_iload_n hC 1 dX10_faultNow_2 rfl rfl ?_
  refine g_aload_n hC 0 dX10_faultNow_3 rfl rfl ?_
  refine g_get (C := RX10) (T := TX10) (N := 25) (v := .int (σ.1 (7, 0, 0) 12)) hC o_iX10 (o_eX10 _ _ _ _) rfl ki_X10_faultNow_X10 12 (by decide) kw_X10_faultNow_1 rfl dX10_faultNow_4 ?_
  refine g_icmp_ge hC 24 dX10_faultNow_7 (by decide) (fun z => ?_) (fun z => ?_)
  · have h := h.1 z
    refine g_sub [1] rfl ?_
    exact wb_X10_faultNow_24 hC hR h
  · have h := h.2 z
    refine g_aload_n hC 0 dX10_faultNow_10 rfl rfl ?_
    refine g_iload_n hC 1 dX10_faultNow_11 rfl rfl ?_
    refine g_ri (r_V (C := RX10) (T := TX10) (N := 25) (As := [.int x1]) (rest := []) hC o_iX10 (o_eX10 _ _ _ _) rfl (c_X10_isGood (l := ox_l X) (φ := ox_φ X) (D := ox_D X) (cI := ox_I X) (cB := ox_B X) hC.J  h) gX10_faultNow_X10_isGood rfl hd_X10_isGood ⟨Nat.le_of_ble_eq_true rfl, Nat.le_of_ble_eq_true rfl⟩ rfl rfl (Nat.le_of_ble_eq_true rfl) dX10_faultNow_12) (fun v12 s12 h => ?_)
    refine g_if_eq hC 24 dX10_faultNow_15 (by decide) (fun z => ?_) (fun z => ?_)
    · have h := h.1 z
      refine g_sub [1] rfl ?_
      exact wb_X10_faultNow_24 hC hR h
    · have h := h.2 z
      refine g_iinc (v := (x1 + (1 : Int32))) hC 1 [(1, .int (x1 + (1 : Int32))), (0, .ref (ox_φ X (7, 0, 0)))] dX10_faultNow_18 rfl rfl (by decide) rfl ?_
      refine g_goto hC 2 dX10_faultNow_21 (by decide) ?_
      refine g_sub [1, 0] rfl ?_
      exact hK2 _ _ h
set_option maxHeartbeats 4000000 in
set_option maxRecDepth 100000 in
theorem lp_X10_faultNow_2 {X : OX} {post : Int32 → SS → Prop} (hC : o_C X cX10_faultNow RX10 wsX10_faultNow 2 44 2) (hR : o_RI X cX10_faultNow post) : ∀ (n : Nat) (a : Int32) (σ : SS), LP_X10_faultNow_2 post n a σ → o_G X σ 2 [(0, .ref (ox_φ X (7, 0, 0))), (1, .int a)] [] :=
 o_lp_G (fun K hK a σ h => wb_X10_faultNow_2 hC hR (fun x1 σ h => hK x1 σ h) h)
set_option maxHeartbeats 4000000 in
set_option maxRecDepth 100000 in
theorem wv_X10_faultNow {X : OX} {post : Int32 → SS → Prop} {σ : SS} (hC : o_C X cX10_faultNow RX10 wsX10_faultNow 2 44 2) (hR : o_RI X cX10_faultNow post) (h : V_X10_faultNow σ post) : o_G X σ 0 [(0, .ref (ox_φ X (7, 0, 0)))] [] := by
  unfold V_X10_faultNow at h
  refine g_iconst (v := (0 : Int32)) hC dX10_faultNow_0 (by decide) ?_
  refine g_istore_n hC [(1, .int (0 : Int32)), (0, .ref (ox_φ X (7, 0, 0)))] dX10_faultNow_1 rfl (by decide) rfl ?_
  refine g_sub [1, 0] rfl ?_
  obtain ⟨n, h⟩ := h
  exact lp_X10_faultNow_2 hC hR n _ _ h
set_option maxRecDepth 100000 in
theorem c_X10_faultNow {l : Launch} {φ : OI → Nat} {D : va_G} {cI cB : ClassId} (hJ : o_J φ) {σ : SS} {post : Int32 → SS → Prop} (h : V_X10_faultNow σ post) : o_Mi l φ D cI cB yX10_faultNow wsX10_faultNow 2 44 [.ref (φ (7, 0, 0))] σ post :=
 o_met_i hJ (by decide +kernel) rfl (Nat.le_of_ble_eq_true rfl) (fun p e s m args below meth c Q hC hR => wv_X10_faultNow hC hR h)
theorem hd_X10_fault : yX10_fault.cls = RX10 ∧ yX10_fault.cls ≠ "java/lang/invoke/MethodHandle" ∧ yX10_fault.cls ≠ "java/lang/invoke/VarHandle" ∧ (parseMethodDescriptor yX10_fault.desc).map (fun d => d.parameters.length) = some 0 := by decide +kernel
set_option maxHeartbeats 4000000 in
set_option maxRecDepth 100000 in
theorem wv_X10_fault {X : OX} {post : Int32 → SS → Prop} {σ : SS} (hC : o_C X cX10_fault RX10 wsX10_fault 3 65 1) (hR : o_RI X cX10_fault post) (h : V_X10_fault σ post) : o_G X σ 0 [(0, .ref (ox_φ X (7, 0, 0)))] [] := by
  unfold V_X10_fault at h
  refine g_aload_n hC 0 dX10_fault_0 rfl rfl ?_
  refine g_ri (r_V (C := RX10) (T := TX10) (N := 25) (As := []) (rest := []) hC o_iX10 (o_eX10 _ _ _ _) rfl (c_X10_faultNow (l := ox_l X) (φ := ox_φ X) (D := ox_D X) (cI := ox_I X) (cB := ox_B X) hC.J  h) gX10_fault_X10_faultNow rfl hd_X10_faultNow ⟨Nat.le_of_ble_eq_true rfl, Nat.le_of_ble_eq_true rfl⟩ rfl rfl (Nat.le_of_ble_eq_true rfl) dX10_fault_1) (fun v1 s1 h => ?_)
  exact hR _ _ _ _ dX10_fault_4 h
set_option maxRecDepth 100000 in
theorem c_X10_fault {l : Launch} {φ : OI → Nat} {D : va_G} {cI cB : ClassId} (hJ : o_J φ) {σ : SS} {post : Int32 → SS → Prop} (h : V_X10_fault σ post) : o_Mi l φ D cI cB yX10_fault wsX10_fault 3 65 [.ref (φ (7, 0, 0))] σ post :=
 o_met_i hJ (by decide +kernel) rfl (Nat.le_of_ble_eq_true rfl) (fun p e s m args below meth c Q hC hR => wv_X10_fault hC hR h)
theorem kw_X10_school_1 : Cond.fieldLink RX10 57 "SchoolRowModel" "pageLength" "I" ∈ wsX10_school := List.mem_of_getElem? (i := 1) (by decide +kernel)
theorem kw_X10_school_2 : Cond.fieldLink RX10 34 "SchoolRowModel" "page" "[B" ∈ wsX10_school := List.mem_of_getElem? (i := 2) (by decide +kernel)
theorem kw_X10_school_3 : Cond.fieldLink RX10 73 "SchoolRowModel" "loss" "I" ∈ wsX10_school := List.mem_of_getElem? (i := 3) (by decide +kernel)
theorem kw_X10_school_4 : Cond.fieldLink RX10 76 "SchoolRowModel" "forget" "I" ∈ wsX10_school := List.mem_of_getElem? (i := 4) (by decide +kernel)
theorem kw_X10_school_5 : Cond.fieldLink RX10 7 "SchoolRowModel" "breathOf" "[I" ∈ wsX10_school := List.mem_of_getElem? (i := 5) (by decide +kernel)
theorem kw_X10_school_6 : Cond.fieldLink RX10 79 "SchoolRowModel" "children" "I" ∈ wsX10_school := List.mem_of_getElem? (i := 6) (by decide +kernel)
theorem kw_X10_school_7 : Cond.fieldLink RX10 13 "SchoolRowModel" "kindOf" "[I" ∈ wsX10_school := List.mem_of_getElem? (i := 7) (by decide +kernel)
theorem kw_X10_school_8 : Cond.fieldLink RX10 16 "SchoolRowModel" "seatOf" "[I" ∈ wsX10_school := List.mem_of_getElem? (i := 8) (by decide +kernel)
theorem kw_X10_school_9 : Cond.fieldLink RX10 31 "SchoolRowModel" "onSeat" "[I" ∈ wsX10_school := List.mem_of_getElem? (i := 9) (by decide +kernel)
theorem kw_X10_school_10 : Cond.fieldLink RX10 19 "SchoolRowModel" "illOf" "[I" ∈ wsX10_school := List.mem_of_getElem? (i := 10) (by decide +kernel)
theorem kw_X10_school_11 : Cond.fieldLink RX10 22 "SchoolRowModel" "toldOf" "[I" ∈ wsX10_school := List.mem_of_getElem? (i := 11) (by decide +kernel)
theorem kw_X10_school_12 : Cond.fieldLink RX10 25 "SchoolRowModel" "partsOf" "[I" ∈ wsX10_school := List.mem_of_getElem? (i := 12) (by decide +kernel)
theorem kw_X10_school_13 : Cond.fieldLink RX10 28 "SchoolRowModel" "wrongOf" "[I" ∈ wsX10_school := List.mem_of_getElem? (i := 13) (by decide +kernel)
theorem kw_X10_school_14 : Cond.fieldLink RX10 82 "SchoolRowModel" "schools" "I" ∈ wsX10_school := List.mem_of_getElem? (i := 14) (by decide +kernel)
theorem ki_X10_school_X10 : ∀ w ∈ wsX100, w ∈ wsX10_school := fun _ h => List.mem_cons_of_mem _ (List.mem_append_right _ h)
theorem hd_X10_school : yX10_school.cls = RX10 ∧ yX10_school.cls ≠ "java/lang/invoke/MethodHandle" ∧ yX10_school.cls ≠ "java/lang/invoke/VarHandle" ∧ (parseMethodDescriptor yX10_school.desc).map (fun d => d.parameters.length) = some 0 := by decide +kernel
set_option maxHeartbeats 4000000 in
set_option maxRecDepth 100000 in
theorem wb_X10_school_20 {X : OX} {post : Int32 → SS → Prop} {σ : SS} (hC : o_C X cX10_school RX10 wsX10_school 3 65 2) (hR : o_RI X cX10_school post) (h : VB_X10_school_20 post σ) : o_G X σ 20 [] [] := by
  unfold VB_X10_school_20 at h
  refine g_bipush (v := (-103 : Int32)) hC dX10_school_20 (by decide) ?_
  exact hR _ _ _ _ dX10_school_22 h
set_option maxHeartbeats 4000000 in
set_option maxRecDepth 100000 in
theorem wb_X10_school_154 {X : OX} {post : Int32 → SS → Prop} {K154 : Int32 → SS → Prop} {x1 : Int32} {σ : SS} (hC : o_C X cX10_school RX10 wsX10_school 3 65 2) (hR : o_RI X cX10_school post) (hK154 : ∀ (x1 : Int32) (σ : SS), K154 x1 σ → o_G X σ 154 [(0, .ref (ox_φ X (7, 0, 0))), (1, .int x1)] []) (h : VB_X10_school_154 post K154 x1 σ) : o_G X σ 154 [(0, .ref (ox_φ X (7, 0, 0))), (1, .int x1)] [] := by
  unfold VB_X10_school_154 at h
  refine g_iload_n hC 1 dX10_school_154 rfl rfl ?_
  refine g_bipush (v := (24 : Int32)) hC dX10_school_155 (by decide) ?_
  refine g_icmp_ge hC 180 dX10_school_157 (by decide) (fun z => ?_) (fun z => ?_)
  · have h := h.1 z
    refine g_aload_n hC 0 dX10_school_180 rfl rfl ?_
    refine g_dup hC dX10_school_181 rfl ?_
    refine g_get (C := RX10) (T := TX10) (N := 25) (v := .int (σ.1 (7, 0, 0) 0)) hC o_iX10 (o_eX10 _ _ _ _) rfl ki_X10_school_X10 0 (by decide) kw_X10_school_14 rfl dX10_school_182 ?_
    refine g_iconst (v := (1 : Int32)) hC dX10_school_185 (by decide) ?_
    refine g_iadd hC dX10_school_186 ?_
    refine g_puti (C := RX10) (T := TX10) (N := 25) hC o_iX10 (o_eX10 _ _ _ _) rfl ki_X10_school_X10 tyX10_ok nmX10 0 (by decide) kw_X10_school_14 rfl rfl rfl (Nat.le_of_ble_eq_true rfl) (o_pX10_0 _ _ _ _ _) dX10_school_187 ?_
    refine g_aload_n hC 0 dX10_school_190 rfl rfl ?_
    refine g_iconst (v := (0 : Int32)) hC dX10_school_191 (by decide) ?_
    refine g_puti (C := RX10) (T := TX10) (N := 25) hC o_iX10 (o_eX10 _ _ _ _) rfl ki_X10_school_X10 tyX10_ok nmX10 12 (by decide) kw_X10_school_1 rfl rfl rfl (Nat.le_of_ble_eq_true rfl) (o_pX10_12 _ _ _ _ _) dX10_school_192 ?_
    refine g_aload_n hC 0 dX10_school_195 rfl rfl ?_
    refine g_get (C := RX10) (T := TX10) (N := 25) (v := .int ((o_wr (o_wr σ (7, 0, 0) 0 ((σ.1 (7, 0, 0) 0) + (1 : Int32))) (7, 0, 0) 12 (0 : Int32)).1 (7, 0, 0) 4)) hC o_iX10 (o_eX10 _ _ _ _) rfl ki_X10_school_X10 4 (by decide) kw_X10_school_6 rfl dX10_school_196 ?_
    exact hR _ _ _ _ dX10_school_199 h
  · have h := h.2 z
    refine g_aload_n hC 0 dX10_school_160 rfl rfl ?_
    refine g_get (C := RX10) (T := TX10) (N := 25) (v := .ref (ox_φ X (8, 0, 5))) hC o_iX10 (o_eX10 _ _ _ _) rfl ki_X10_school_X10 9 (by decide) kw_X10_school_12 rfl dX10_school_161 ?_
    refine g_iload_n hC 1 dX10_school_164 rfl rfl ?_
    refine g_iconst (v := (0 : Int32)) hC dX10_school_165 (by decide) ?_
    refine g_iast hC o_M5 h.1 dX10_school_166 ?_
    have h := h.2
    refine g_aload_n hC 0 dX10_school_167 rfl rfl ?_
    refine g_get (C := RX10) (T := TX10) (N := 25) (v := .ref (ox_φ X (8, 0, 6))) hC o_iX10 (o_eX10 _ _ _ _) rfl ki_X10_school_X10 10 (by decide) kw_X10_school_13 rfl dX10_school_168 ?_
    refine g_iload_n hC 1 dX10_school_171 rfl rfl ?_
    refine g_iconst (v := (0 : Int32)) hC dX10_school_172 (by decide) ?_
    refine g_iast hC o_M6 h.1 dX10_school_173 ?_
    have h := h.2
    refine g_iinc (v := (x1 + (1 : Int32))) hC 1 [(1, .int (x1 + (1 : Int32))), (0, .ref (ox_φ X (7, 0, 0)))] dX10_school_174 rfl rfl (by decide) rfl ?_
    refine g_goto hC 154 dX10_school_177 (by decide) ?_
    refine g_sub [1, 0] rfl ?_
    exact hK154 _ _ h
set_option maxHeartbeats 4000000 in
set_option maxRecDepth 100000 in
theorem lp_X10_school_154 {X : OX} {post : Int32 → SS → Prop} (hC : o_C X cX10_school RX10 wsX10_school 3 65 2) (hR : o_RI X cX10_school post) : ∀ (n : Nat) (a : Int32) (σ : SS), LP_X10_school_154 post n a σ → o_G X σ 154 [(0, .ref (ox_φ X (7, 0, 0))), (1, .int a)] [] :=
 o_lp_G (fun K hK a σ h => wb_X10_school_154 hC hR (fun x1 σ h => hK x1 σ h) h)
set_option maxHeartbeats 4000000 in
set_option maxRecDepth 100000 in
theorem wb_X10_school_92 {X : OX} {post : Int32 → SS → Prop} {K92 : Int32 → SS → Prop} {x1 : Int32} {σ : SS} (hC : o_C X cX10_school RX10 wsX10_school 3 65 2) (hR : o_RI X cX10_school post) (hK92 : ∀ (x1 : Int32) (σ : SS), K92 x1 σ → o_G X σ 92 [(0, .ref (ox_φ X (7, 0, 0))), (1, .int x1)] []) (h : VB_X10_school_92 post K92 x1 σ) : o_G X σ 92 [(0, .ref (ox_φ X (7, 0, 0))), (1, .int x1)] [] := by
  unfold VB_X10_school_92 at h
  refine g_iload_n hC 1 dX10_school_92 rfl rfl ?_
  refine g_aload_n hC 0 dX10_school_93 rfl rfl ?_
  refine g_get (C := RX10) (T := TX10) (N := 25) (v := .int (σ.1 (7, 0, 0) 4)) hC o_iX10 (o_eX10 _ _ _ _) rfl ki_X10_school_X10 4 (by decide) kw_X10_school_6 rfl dX10_school_94 ?_
  refine g_icmp_ge hC 152 dX10_school_97 (by decide) (fun z => ?_) (fun z => ?_)
  · have h := h.1 z
    refine g_iconst (v := (0 : Int32)) hC dX10_school_152 (by decide) ?_
    refine g_istore_n hC [(1, .int (0 : Int32)), (0, .ref (ox_φ X (7, 0, 0)))] dX10_school_153 rfl (by decide) rfl ?_
    refine g_sub [1, 0] rfl ?_
    obtain ⟨n, h⟩ := h
    exact lp_X10_school_154 hC hR n _ _ h
  · have h := h.2 z
    refine g_aload_n hC 0 dX10_school_100 rfl rfl ?_
    refine g_get (C := RX10) (T := TX10) (N := 25) (v := .ref (ox_φ X (8, 0, 1))) hC o_iX10 (o_eX10 _ _ _ _) rfl ki_X10_school_X10 5 (by decide) kw_X10_school_7 rfl dX10_school_101 ?_
    refine g_iload_n hC 1 dX10_school_104 rfl rfl ?_
    refine g_aload_n hC 0 dX10_school_105 rfl rfl ?_
    refine g_get (C := RX10) (T := TX10) (N := 25) (v := .ref (ox_φ X (8, 0, 8))) hC o_iX10 (o_eX10 _ _ _ _) rfl ki_X10_school_X10 13 (by decide) kw_X10_school_2 rfl dX10_school_106 ?_
    refine g_bipush (v := (7 : Int32)) hC dX10_school_109 (by decide) ?_
    refine g_iload_n hC 1 dX10_school_111 rfl rfl ?_
    refine g_iadd hC dX10_school_112 ?_
    refine g_bald hC o_M8 h.1 dX10_school_113 ?_
    have h := h.2
    refine g_ri (r_S (As := [.int (σ.1 (8, 0, 8) (((7 : Int32) + x1)).toNatClampNeg)]) (rest := [.int x1, .ref (ox_φ X (8, 0, 1))]) hC (c_X10_kindBy (l := ox_l X) (φ := ox_φ X) (D := ox_D X) (cI := ox_I X) (cB := ox_B X) hC.J  h) gX10_school_X10_kindBy rfl hd_X10_kindBy ⟨Nat.le_of_ble_eq_true rfl, Nat.le_of_ble_eq_true rfl⟩ rfl rfl (Nat.le_of_ble_eq_true rfl) dX10_school_114) (fun v114 s114 h => ?_)
    refine g_iast hC o_M1 h.1 dX10_school_117 ?_
    have h := h.2
    refine g_aload_n hC 0 dX10_school_118 rfl rfl ?_
    refine g_get (C := RX10) (T := TX10) (N := 25) (v := .ref (ox_φ X (8, 0, 2))) hC o_iX10 (o_eX10 _ _ _ _) rfl ki_X10_school_X10 6 (by decide) kw_X10_school_8 rfl dX10_school_119 ?_
    refine g_iload_n hC 1 dX10_school_122 rfl rfl ?_
    refine g_iload_n hC 1 dX10_school_123 rfl rfl ?_
    refine g_iast hC o_M2 h.1 dX10_school_124 ?_
    have h := h.2
    refine g_aload_n hC 0 dX10_school_125 rfl rfl ?_
    refine g_get (C := RX10) (T := TX10) (N := 25) (v := .ref (ox_φ X (8, 0, 7))) hC o_iX10 (o_eX10 _ _ _ _) rfl ki_X10_school_X10 11 (by decide) kw_X10_school_9 rfl dX10_school_126 ?_
    refine g_iload_n hC 1 dX10_school_129 rfl rfl ?_
    refine g_iload_n hC 1 dX10_school_130 rfl rfl ?_
    refine g_iast hC o_M7 h.1 dX10_school_131 ?_
    have h := h.2
    refine g_aload_n hC 0 dX10_school_132 rfl rfl ?_
    refine g_get (C := RX10) (T := TX10) (N := 25) (v := .ref (ox_φ X (8, 0, 3))) hC o_iX10 (o_eX10 _ _ _ _) rfl ki_X10_school_X10 7 (by decide) kw_X10_school_10 rfl dX10_school_133 ?_
    refine g_iload_n hC 1 dX10_school_136 rfl rfl ?_
    refine g_iconst (v := (0 : Int32)) hC dX10_school_137 (by decide) ?_
    refine g_iast hC o_M3 h.1 dX10_school_138 ?_
    have h := h.2
    refine g_aload_n hC 0 dX10_school_139 rfl rfl ?_
    refine g_get (C := RX10) (T := TX10) (N := 25) (v := .ref (ox_φ X (8, 0, 4))) hC o_iX10 (o_eX10 _ _ _ _) rfl ki_X10_school_X10 8 (by decide) kw_X10_school_11 rfl dX10_school_140 ?_
    refine g_iload_n hC 1 dX10_school_143 rfl rfl ?_
    refine g_iconst (v := (-1 : Int32)) hC dX10_school_144 (by decide) ?_
    refine g_iast hC o_M4 h.1 dX10_school_145 ?_
    have h := h.2
    refine g_iinc (v := (x1 + (1 : Int32))) hC 1 [(1, .int (x1 + (1 : Int32))), (0, .ref (ox_φ X (7, 0, 0)))] dX10_school_146 rfl rfl (by decide) rfl ?_
    refine g_goto hC 92 dX10_school_149 (by decide) ?_
    refine g_sub [1, 0] rfl ?_
    exact hK92 _ _ h
set_option maxHeartbeats 4000000 in
set_option maxRecDepth 100000 in
theorem lp_X10_school_92 {X : OX} {post : Int32 → SS → Prop} (hC : o_C X cX10_school RX10 wsX10_school 3 65 2) (hR : o_RI X cX10_school post) : ∀ (n : Nat) (a : Int32) (σ : SS), LP_X10_school_92 post n a σ → o_G X σ 92 [(0, .ref (ox_φ X (7, 0, 0))), (1, .int a)] [] :=
 o_lp_G (fun K hK a σ h => wb_X10_school_92 hC hR (fun x1 σ h => hK x1 σ h) h)
set_option maxHeartbeats 4000000 in
set_option maxRecDepth 100000 in
theorem wb_X10_school_51 {X : OX} {post : Int32 → SS → Prop} {K51 : Int32 → SS → Prop} {x1 : Int32} {σ : SS} (hC : o_C X cX10_school RX10 wsX10_school 3 65 2) (hR : o_RI X cX10_school post) (hK51 : ∀ (x1 : Int32) (σ : SS), K51 x1 σ → o_G X σ 51 [(0, .ref (ox_φ X (7, 0, 0))), (1, .int x1)] []) (h : VB_X10_school_51 post K51 x1 σ) : o_G X σ 51 [(0, .ref (ox_φ X (7, 0, 0))), (1, .int x1)] [] := by
  unfold VB_X10_school_51 at h
  refine g_iload_n hC 1 dX10_school_51 rfl rfl ?_
  refine g_iconst (v := (4 : Int32)) hC dX10_school_52 (by decide) ?_
  refine g_icmp_ge hC 79 dX10_school_53 (by decide) (fun z => ?_) (fun z => ?_)
  · have h := h.1 z
    refine g_aload_n hC 0 dX10_school_79 rfl rfl ?_
    refine g_aload_n hC 0 dX10_school_80 rfl rfl ?_
    refine g_get (C := RX10) (T := TX10) (N := 25) (v := .int (σ.1 (7, 0, 0) 12)) hC o_iX10 (o_eX10 _ _ _ _) rfl ki_X10_school_X10 12 (by decide) kw_X10_school_1 rfl dX10_school_81 ?_
    refine g_bipush (v := (7 : Int32)) hC dX10_school_84 (by decide) ?_
    refine g_isub hC dX10_school_86 ?_
    refine g_puti (C := RX10) (T := TX10) (N := 25) hC o_iX10 (o_eX10 _ _ _ _) rfl ki_X10_school_X10 tyX10_ok nmX10 4 (by decide) kw_X10_school_6 rfl rfl rfl (Nat.le_of_ble_eq_true rfl) (o_pX10_4 _ _ _ _ _) dX10_school_87 ?_
    refine g_iconst (v := (0 : Int32)) hC dX10_school_90 (by decide) ?_
    refine g_istore_n hC [(1, .int (0 : Int32)), (0, .ref (ox_φ X (7, 0, 0)))] dX10_school_91 rfl (by decide) rfl ?_
    refine g_sub [1, 0] rfl ?_
    obtain ⟨n, h⟩ := h
    exact lp_X10_school_92 hC hR n _ _ h
  · have h := h.2 z
    refine g_aload_n hC 0 dX10_school_56 rfl rfl ?_
    refine g_get (C := RX10) (T := TX10) (N := 25) (v := .ref (ox_φ X (8, 0, 0))) hC o_iX10 (o_eX10 _ _ _ _) rfl ki_X10_school_X10 3 (by decide) kw_X10_school_5 rfl dX10_school_57 ?_
    refine g_iload_n hC 1 dX10_school_60 rfl rfl ?_
    refine g_aload_n hC 0 dX10_school_61 rfl rfl ?_
    refine g_get (C := RX10) (T := TX10) (N := 25) (v := .ref (ox_φ X (8, 0, 8))) hC o_iX10 (o_eX10 _ _ _ _) rfl ki_X10_school_X10 13 (by decide) kw_X10_school_2 rfl dX10_school_62 ?_
    refine g_iconst (v := (2 : Int32)) hC dX10_school_65 (by decide) ?_
    refine g_iload_n hC 1 dX10_school_66 rfl rfl ?_
    refine g_iadd hC dX10_school_67 ?_
    refine g_bald hC o_M8 h.1 dX10_school_68 ?_
    have h := h.2
    refine g_bipush (v := (48 : Int32)) hC dX10_school_69 (by decide) ?_
    refine g_isub hC dX10_school_71 ?_
    refine g_iast hC o_M0 h.1 dX10_school_72 ?_
    have h := h.2
    refine g_iinc (v := (x1 + (1 : Int32))) hC 1 [(1, .int (x1 + (1 : Int32))), (0, .ref (ox_φ X (7, 0, 0)))] dX10_school_73 rfl rfl (by decide) rfl ?_
    refine g_goto hC 51 dX10_school_76 (by decide) ?_
    refine g_sub [1, 0] rfl ?_
    exact hK51 _ _ h
set_option maxHeartbeats 4000000 in
set_option maxRecDepth 100000 in
theorem lp_X10_school_51 {X : OX} {post : Int32 → SS → Prop} (hC : o_C X cX10_school RX10 wsX10_school 3 65 2) (hR : o_RI X cX10_school post) : ∀ (n : Nat) (a : Int32) (σ : SS), LP_X10_school_51 post n a σ → o_G X σ 51 [(0, .ref (ox_φ X (7, 0, 0))), (1, .int a)] [] :=
 o_lp_G (fun K hK a σ h => wb_X10_school_51 hC hR (fun x1 σ h => hK x1 σ h) h)
set_option maxHeartbeats 4000000 in
set_option maxRecDepth 100000 in
theorem wv_X10_school {X : OX} {post : Int32 → SS → Prop} {σ : SS} (hC : o_C X cX10_school RX10 wsX10_school 3 65 2) (hR : o_RI X cX10_school post) (h : V_X10_school σ post) : o_G X σ 0 [(0, .ref (ox_φ X (7, 0, 0)))] [] := by
  unfold V_X10_school at h
  refine g_aload_n hC 0 dX10_school_0 rfl rfl ?_
  refine g_ri (r_V (C := RX10) (T := TX10) (N := 25) (As := []) (rest := []) hC o_iX10 (o_eX10 _ _ _ _) rfl (c_X10_faultNow (l := ox_l X) (φ := ox_φ X) (D := ox_D X) (cI := ox_I X) (cB := ox_B X) hC.J  h) gX10_school_X10_faultNow rfl hd_X10_faultNow ⟨Nat.le_of_ble_eq_true rfl, Nat.le_of_ble_eq_true rfl⟩ rfl rfl (Nat.le_of_ble_eq_true rfl) dX10_school_1) (fun v1 s1 h => ?_)
  refine g_aload_n hC 0 dX10_school_4 rfl rfl ?_
  refine g_get (C := RX10) (T := TX10) (N := 25) (v := .int (s1.1 (7, 0, 0) 12)) hC o_iX10 (o_eX10 _ _ _ _) rfl ki_X10_school_X10 12 (by decide) kw_X10_school_1 rfl dX10_school_5 ?_
  refine g_icmp_ne hC 20 dX10_school_8 (by decide) (fun z => ?_) (fun z => ?_)
  · have h := h.1 z
    refine g_sub [] rfl ?_
    exact wb_X10_school_20 hC hR h
  · have h := h.2 z
    refine g_aload_n hC 0 dX10_school_11 rfl rfl ?_
    refine g_get (C := RX10) (T := TX10) (N := 25) (v := .int (s1.1 (7, 0, 0) 12)) hC o_iX10 (o_eX10 _ _ _ _) rfl ki_X10_school_X10 12 (by decide) kw_X10_school_1 rfl dX10_school_12 ?_
    refine g_bipush (v := (8 : Int32)) hC dX10_school_15 (by decide) ?_
    refine g_icmp_ge hC 23 dX10_school_17 (by decide) (fun z => ?_) (fun z => ?_)
    · have h := h.1 z
      refine g_aload_n hC 0 dX10_school_23 rfl rfl ?_
      refine g_aload_n hC 0 dX10_school_24 rfl rfl ?_
      refine g_get (C := RX10) (T := TX10) (N := 25) (v := .ref (ox_φ X (8, 0, 8))) hC o_iX10 (o_eX10 _ _ _ _) rfl ki_X10_school_X10 13 (by decide) kw_X10_school_2 rfl dX10_school_25 ?_
      refine g_iconst (v := (0 : Int32)) hC dX10_school_28 (by decide) ?_
      refine g_bald hC o_M8 h.1 dX10_school_29 ?_
      have h := h.2
      refine g_bipush (v := (48 : Int32)) hC dX10_school_30 (by decide) ?_
      refine g_isub hC dX10_school_32 ?_
      refine g_puti (C := RX10) (T := TX10) (N := 25) hC o_iX10 (o_eX10 _ _ _ _) rfl ki_X10_school_X10 tyX10_ok nmX10 1 (by decide) kw_X10_school_3 rfl rfl rfl (Nat.le_of_ble_eq_true rfl) (o_pX10_1 _ _ _ _ _) dX10_school_33 ?_
      refine g_aload_n hC 0 dX10_school_36 rfl rfl ?_
      refine g_aload_n hC 0 dX10_school_37 rfl rfl ?_
      refine g_get (C := RX10) (T := TX10) (N := 25) (v := .ref (ox_φ X (8, 0, 8))) hC o_iX10 (o_eX10 _ _ _ _) rfl ki_X10_school_X10 13 (by decide) kw_X10_school_2 rfl dX10_school_38 ?_
      refine g_iconst (v := (1 : Int32)) hC dX10_school_41 (by decide) ?_
      refine g_bald hC o_M8 h.1 dX10_school_42 ?_
      have h := h.2
      refine g_bipush (v := (48 : Int32)) hC dX10_school_43 (by decide) ?_
      refine g_isub hC dX10_school_45 ?_
      refine g_puti (C := RX10) (T := TX10) (N := 25) hC o_iX10 (o_eX10 _ _ _ _) rfl ki_X10_school_X10 tyX10_ok nmX10 2 (by decide) kw_X10_school_4 rfl rfl rfl (Nat.le_of_ble_eq_true rfl) (o_pX10_2 _ _ _ _ _) dX10_school_46 ?_
      refine g_iconst (v := (0 : Int32)) hC dX10_school_49 (by decide) ?_
      refine g_istore_n hC [(1, .int (0 : Int32)), (0, .ref (ox_φ X (7, 0, 0)))] dX10_school_50 rfl (by decide) rfl ?_
      refine g_sub [1, 0] rfl ?_
      obtain ⟨n, h⟩ := h
      exact lp_X10_school_51 hC hR n _ _ h
    · have h := h.2 z
      refine g_sub [] rfl ?_
      exact wb_X10_school_20 hC hR h
set_option maxRecDepth 100000 in
theorem c_X10_school {l : Launch} {φ : OI → Nat} {D : va_G} {cI cB : ClassId} (hJ : o_J φ) {σ : SS} {post : Int32 → SS → Prop} (h : V_X10_school σ post) : o_Mi l φ D cI cB yX10_school wsX10_school 3 65 [.ref (φ (7, 0, 0))] σ post :=
 o_met_i hJ (by decide +kernel) rfl (Nat.le_of_ble_eq_true rfl) (fun p e s m args below meth c Q hC hR => wv_X10_school hC hR h)
theorem kw_X10_isChild_1 : Cond.fieldLink RX10 79 "SchoolRowModel" "children" "I" ∈ wsX10_isChild := List.mem_of_getElem? (i := 1) (by decide +kernel)
theorem ki_X10_isChild_X10 : ∀ w ∈ wsX100, w ∈ wsX10_isChild := fun _ h => List.mem_cons_of_mem _ (List.mem_append_right _ h)
theorem hd_X10_isChild : yX10_isChild.cls = RX10 ∧ yX10_isChild.cls ≠ "java/lang/invoke/MethodHandle" ∧ yX10_isChild.cls ≠ "java/lang/invoke/VarHandle" ∧ (parseMethodDescriptor yX10_isChild.desc).map (fun d => d.parameters.length) = some 1 := by decide +kernel
set_option maxHeartbeats 4000000 in
set_option maxRecDepth 100000 in
theorem wv_X10_isChild {X : OX} {x1 : Int32} {post : Int32 → SS → Prop} {σ : SS} (hC : o_C X cX10_isChild RX10 wsX10_isChild 1 22 2) (hR : o_RZ X cX10_isChild post) (h : V_X10_isChild x1 σ post) : o_G X σ 0 [(0, .ref (ox_φ X (7, 0, 0))), (1, .int x1)] [] := by
  unfold V_X10_isChild at h
  refine g_iload_n hC 1 dX10_isChild_0 rfl rfl ?_
  refine g_iconst (v := (0 : Int32)) hC dX10_isChild_1 (by decide) ?_
  refine g_aload_n hC 0 dX10_isChild_2 rfl rfl ?_
  refine g_get (C := RX10) (T := TX10) (N := 25) (v := .int (σ.1 (7, 0, 0) 4)) hC o_iX10 (o_eX10 _ _ _ _) rfl ki_X10_isChild_X10 4 (by decide) kw_X10_isChild_1 rfl dX10_isChild_3 ?_
  refine g_iconst (v := (1 : Int32)) hC dX10_isChild_6 (by decide) ?_
  refine g_isub hC dX10_isChild_7 ?_
  refine g_ri (r_S (As := [.int x1, .int (0 : Int32), .int ((σ.1 (7, 0, 0) 4) - (1 : Int32))]) (rest := []) hC (c_X10_within (l := ox_l X) (φ := ox_φ X) (D := ox_D X) (cI := ox_I X) (cB := ox_B X) hC.J  h) gX10_isChild_X10_within rfl hd_X10_within ⟨Nat.le_of_ble_eq_true rfl, Nat.le_of_ble_eq_true rfl⟩ rfl rfl (Nat.le_of_ble_eq_true rfl) dX10_isChild_8) (fun v8 s8 h => ?_)
  exact hR _ _ _ _ dX10_isChild_11 h
set_option maxRecDepth 100000 in
theorem c_X10_isChild {l : Launch} {φ : OI → Nat} {D : va_G} {cI cB : ClassId} (hJ : o_J φ) {x1 : Int32} {σ : SS} {post : Int32 → SS → Prop} (h : V_X10_isChild x1 σ post) : o_Mi l φ D cI cB yX10_isChild wsX10_isChild 1 22 [.ref (φ (7, 0, 0)), .int x1] σ post :=
 o_met_z hJ (by decide +kernel) rfl (Nat.le_of_ble_eq_true rfl) (fun p e s m args below meth c Q hC hR => wv_X10_isChild hC hR h)
theorem hd_X10_isSubject : yX10_isSubject.cls ≠ "java/lang/invoke/MethodHandle" ∧ yX10_isSubject.cls ≠ "java/lang/invoke/VarHandle" ∧ (parseMethodDescriptor yX10_isSubject.desc).map (fun d => d.parameters.length) = some 1 := by decide +kernel
set_option maxHeartbeats 4000000 in
set_option maxRecDepth 100000 in
theorem wv_X10_isSubject {X : OX} {x0 : Int32} {post : Int32 → SS → Prop} {σ : SS} (hC : o_C X cX10_isSubject RX10 wsX10_isSubject 1 22 1) (hR : o_RZ X cX10_isSubject post) (h : V_X10_isSubject x0 σ post) : o_G X σ 0 [(0, .int x0)] [] := by
  unfold V_X10_isSubject at h
  refine g_iload_n hC 0 dX10_isSubject_0 rfl rfl ?_
  refine g_iconst (v := (0 : Int32)) hC dX10_isSubject_1 (by decide) ?_
  refine g_iconst (v := (3 : Int32)) hC dX10_isSubject_2 (by decide) ?_
  refine g_ri (r_S (As := [.int x0, .int (0 : Int32), .int (3 : Int32)]) (rest := []) hC (c_X10_within (l := ox_l X) (φ := ox_φ X) (D := ox_D X) (cI := ox_I X) (cB := ox_B X) hC.J  h) gX10_isSubject_X10_within rfl hd_X10_within ⟨Nat.le_of_ble_eq_true rfl, Nat.le_of_ble_eq_true rfl⟩ rfl rfl (Nat.le_of_ble_eq_true rfl) dX10_isSubject_3) (fun v3 s3 h => ?_)
  exact hR _ _ _ _ dX10_isSubject_6 h
set_option maxRecDepth 100000 in
theorem c_X10_isSubject {l : Launch} {φ : OI → Nat} {D : va_G} {cI cB : ClassId} (hJ : o_J φ) {x0 : Int32} {σ : SS} {post : Int32 → SS → Prop} (h : V_X10_isSubject x0 σ post) : o_Mi l φ D cI cB yX10_isSubject wsX10_isSubject 1 22 [.int x0] σ post :=
 o_met_z hJ (by decide +kernel) rfl (Nat.le_of_ble_eq_true rfl) (fun p e s m args below meth c Q hC hR => wv_X10_isSubject hC hR h)
theorem kw_X10_partsBy_1 : Cond.fieldLink RX10 25 "SchoolRowModel" "partsOf" "[I" ∈ wsX10_partsBy := List.mem_of_getElem? (i := 1) (by decide +kernel)
theorem ki_X10_partsBy_X10 : ∀ w ∈ wsX100, w ∈ wsX10_partsBy := fun _ h => List.mem_cons_of_mem _ (List.mem_append_right _ h)
theorem hd_X10_partsBy : yX10_partsBy.cls = RX10 ∧ yX10_partsBy.cls ≠ "java/lang/invoke/MethodHandle" ∧ yX10_partsBy.cls ≠ "java/lang/invoke/VarHandle" ∧ (parseMethodDescriptor yX10_partsBy.desc).map (fun d => d.parameters.length) = some 1 := by decide +kernel
set_option maxHeartbeats 4000000 in
set_option maxRecDepth 100000 in
theorem wb_X10_partsBy_4 {X : OX} {post : Int32 → SS → Prop} {K4 : Int32 → Int32 → Int32 → SS → Prop} {x1 : Int32} {x2 : Int32} {x3 : Int32} {σ : SS} (hC : o_C X cX10_partsBy RX10 wsX10_partsBy 0 0 4) (hR : o_RI X cX10_partsBy post) (hK4 : ∀ (x1 : Int32) (x2 : Int32) (x3 : Int32) (σ : SS), K4 x1 x2 x3 σ → o_G X σ 4 [(0, .ref (ox_φ X (7, 0, 0))), (1, .int x1), (2, .int x2), (3, .int x3)] []) (h : VB_X10_partsBy_4 post K4 x1 x2 x3 σ) : o_G X σ 4 [(0, .ref (ox_φ X (7, 0, 0))), (1, .int x1), (2, .int x2), (3, .int x3)] [] := by
  unfold VB_X10_partsBy_4 at h
  refine g_iload_n hC 3 dX10_partsBy_4 rfl rfl ?_
  refine g_iconst (v := (4 : Int32)) hC dX10_partsBy_5 (by decide) ?_
  refine g_icmp_ge hC 28 dX10_partsBy_6 (by decide) (fun z => ?_) (fun z => ?_)
  · have h := h.1 z
    refine g_iload_n hC 2 dX10_partsBy_28 rfl rfl ?_
    exact hR _ _ _ _ dX10_partsBy_29 h
  · have h := h.2 z
    refine g_iload_n hC 2 dX10_partsBy_9 rfl rfl ?_
    refine g_aload_n hC 0 dX10_partsBy_10 rfl rfl ?_
    refine g_get (C := RX10) (T := TX10) (N := 25) (v := .ref (ox_φ X (8, 0, 5))) hC o_iX10 (o_eX10 _ _ _ _) rfl ki_X10_partsBy_X10 9 (by decide) kw_X10_partsBy_1 rfl dX10_partsBy_11 ?_
    refine g_iconst (v := (4 : Int32)) hC dX10_partsBy_14 (by decide) ?_
    refine g_iload_n hC 1 dX10_partsBy_15 rfl rfl ?_
    refine g_imul hC dX10_partsBy_16 ?_
    refine g_iload_n hC 3 dX10_partsBy_17 rfl rfl ?_
    refine g_iadd hC dX10_partsBy_18 ?_
    refine g_iald hC o_M5 h.1 dX10_partsBy_19 ?_
    have h := h.2
    refine g_iadd hC dX10_partsBy_20 ?_
    refine g_topi (fun y21 e21 => ?_)
    have h := h y21 e21
    refine g_istore_n hC [(2, .int y21), (0, .ref (ox_φ X (7, 0, 0))), (1, .int x1), (3, .int x3)] dX10_partsBy_21 rfl (by decide) rfl ?_
    refine g_iinc (v := (x3 + (1 : Int32))) hC 3 [(3, .int (x3 + (1 : Int32))), (2, .int y21), (0, .ref (ox_φ X (7, 0, 0))), (1, .int x1)] dX10_partsBy_22 rfl rfl (by decide) rfl ?_
    refine g_goto hC 4 dX10_partsBy_25 (by decide) ?_
    refine g_sub [2, 3, 1, 0] rfl ?_
    exact hK4 _ _ _ _ h
set_option maxHeartbeats 4000000 in
set_option maxRecDepth 100000 in
theorem lp_X10_partsBy_4 {X : OX} {post : Int32 → SS → Prop} (hC : o_C X cX10_partsBy RX10 wsX10_partsBy 0 0 4) (hR : o_RI X cX10_partsBy post) : ∀ (n : Nat) (a : Int32 × Int32 × Int32) (σ : SS), LP_X10_partsBy_4 post n a σ → o_G X σ 4 [(0, .ref (ox_φ X (7, 0, 0))), (1, .int a.1), (2, .int a.2.1), (3, .int a.2.2)] [] :=
 o_lp_G (fun K hK a σ h => wb_X10_partsBy_4 hC hR (fun x1 x2 x3 σ h => hK (x1, x2, x3) σ h) h)
set_option maxHeartbeats 4000000 in
set_option maxRecDepth 100000 in
theorem wv_X10_partsBy {X : OX} {x1 : Int32} {post : Int32 → SS → Prop} {σ : SS} (hC : o_C X cX10_partsBy RX10 wsX10_partsBy 0 0 4) (hR : o_RI X cX10_partsBy post) (h : V_X10_partsBy x1 σ post) : o_G X σ 0 [(0, .ref (ox_φ X (7, 0, 0))), (1, .int x1)] [] := by
  unfold V_X10_partsBy at h
  refine g_iconst (v := (0 : Int32)) hC dX10_partsBy_0 (by decide) ?_
  refine g_istore_n hC [(2, .int (0 : Int32)), (0, .ref (ox_φ X (7, 0, 0))), (1, .int x1)] dX10_partsBy_1 rfl (by decide) rfl ?_
  refine g_iconst (v := (0 : Int32)) hC dX10_partsBy_2 (by decide) ?_
  refine g_istore_n hC [(3, .int (0 : Int32)), (2, .int (0 : Int32)), (0, .ref (ox_φ X (7, 0, 0))), (1, .int x1)] dX10_partsBy_3 rfl (by decide) rfl ?_
  refine g_sub [2, 3, 1, 0] rfl ?_
  obtain ⟨n, h⟩ := h
  exact lp_X10_partsBy_4 hC hR n _ _ h
set_option maxRecDepth 100000 in
theorem c_X10_partsBy {l : Launch} {φ : OI → Nat} {D : va_G} {cI cB : ClassId} (hJ : o_J φ) {x1 : Int32} {σ : SS} {post : Int32 → SS → Prop} (h : V_X10_partsBy x1 σ post) : o_Mi l φ D cI cB yX10_partsBy wsX10_partsBy 0 0 [.ref (φ (7, 0, 0)), .int x1] σ post :=
 o_met_i hJ (by decide +kernel) rfl (Nat.le_of_ble_eq_true rfl) (fun p e s m args below meth c Q hC hR => wv_X10_partsBy hC hR h)
theorem kw_X10_childNow_1 : Cond.fieldLink RX10 13 "SchoolRowModel" "kindOf" "[I" ∈ wsX10_childNow := List.mem_of_getElem? (i := 1) (by decide +kernel)
theorem kw_X10_childNow_2 : Cond.fieldLink RX10 16 "SchoolRowModel" "seatOf" "[I" ∈ wsX10_childNow := List.mem_of_getElem? (i := 2) (by decide +kernel)
theorem kw_X10_childNow_3 : Cond.fieldLink RX10 19 "SchoolRowModel" "illOf" "[I" ∈ wsX10_childNow := List.mem_of_getElem? (i := 3) (by decide +kernel)
theorem kw_X10_childNow_4 : Cond.fieldLink RX10 22 "SchoolRowModel" "toldOf" "[I" ∈ wsX10_childNow := List.mem_of_getElem? (i := 4) (by decide +kernel)
theorem ki_X10_childNow_X10 : ∀ w ∈ wsX100, w ∈ wsX10_childNow := fun _ h => List.mem_cons_of_mem _ (List.mem_append_right _ h)
theorem hd_X10_childNow : yX10_childNow.cls = RX10 ∧ yX10_childNow.cls ≠ "java/lang/invoke/MethodHandle" ∧ yX10_childNow.cls ≠ "java/lang/invoke/VarHandle" ∧ (parseMethodDescriptor yX10_childNow.desc).map (fun d => d.parameters.length) = some 2 := by decide +kernel
set_option maxHeartbeats 4000000 in
set_option maxRecDepth 100000 in
theorem wv_X10_childNow {X : OX} {x1 : Int32} {x2 : Int32} {post : Int32 → SS → Prop} {σ : SS} (hC : o_C X cX10_childNow RX10 wsX10_childNow 1 23 3) (hR : o_RI X cX10_childNow post) (h : V_X10_childNow x1 x2 σ post) : o_G X σ 0 [(0, .ref (ox_φ X (7, 0, 0))), (1, .int x1), (2, .int x2)] [] := by
  unfold V_X10_childNow at h
  refine g_iload_n hC 2 dX10_childNow_0 rfl rfl ?_
  by_cases z0 : x2 = (0 : Int32)
  · have h := h.1 z0
    refine g_tabIn hC (0 : Int32) z0 32 dX10_childNow_1 (by decide) (by decide) rfl (by decide) ?_
    refine g_aload_n hC 0 dX10_childNow_32 rfl rfl ?_
    refine g_get (C := RX10) (T := TX10) (N := 25) (v := .ref (ox_φ X (8, 0, 1))) hC o_iX10 (o_eX10 _ _ _ _) rfl ki_X10_childNow_X10 5 (by decide) kw_X10_childNow_1 rfl dX10_childNow_33 ?_
    refine g_iload_n hC 1 dX10_childNow_36 rfl rfl ?_
    refine g_iald hC o_M1 h.1 dX10_childNow_37 ?_
    have h := h.2
    exact hR _ _ _ _ dX10_childNow_38 h
  · skip
    by_cases z1 : x2 = (1 : Int32)
    · have h := h.2.1 z1
      refine g_tabIn hC (1 : Int32) z1 39 dX10_childNow_1 (by decide) (by decide) rfl (by decide) ?_
      refine g_aload_n hC 0 dX10_childNow_39 rfl rfl ?_
      refine g_get (C := RX10) (T := TX10) (N := 25) (v := .ref (ox_φ X (8, 0, 2))) hC o_iX10 (o_eX10 _ _ _ _) rfl ki_X10_childNow_X10 6 (by decide) kw_X10_childNow_2 rfl dX10_childNow_40 ?_
      refine g_iload_n hC 1 dX10_childNow_43 rfl rfl ?_
      refine g_iald hC o_M2 h.1 dX10_childNow_44 ?_
      have h := h.2
      exact hR _ _ _ _ dX10_childNow_45 h
    · skip
      by_cases z2 : x2 = (2 : Int32)
      · have h := h.2.2.1 z2
        refine g_tabIn hC (2 : Int32) z2 46 dX10_childNow_1 (by decide) (by decide) rfl (by decide) ?_
        refine g_aload_n hC 0 dX10_childNow_46 rfl rfl ?_
        refine g_get (C := RX10) (T := TX10) (N := 25) (v := .ref (ox_φ X (8, 0, 3))) hC o_iX10 (o_eX10 _ _ _ _) rfl ki_X10_childNow_X10 7 (by decide) kw_X10_childNow_3 rfl dX10_childNow_47 ?_
        refine g_iload_n hC 1 dX10_childNow_50 rfl rfl ?_
        refine g_iald hC o_M3 h.1 dX10_childNow_51 ?_
        have h := h.2
        exact hR _ _ _ _ dX10_childNow_52 h
      · skip
        by_cases z3 : x2 = (3 : Int32)
        · have h := h.2.2.2.1 z3
          refine g_tabIn hC (3 : Int32) z3 53 dX10_childNow_1 (by decide) (by decide) rfl (by decide) ?_
          refine g_aload_n hC 0 dX10_childNow_53 rfl rfl ?_
          refine g_iload_n hC 1 dX10_childNow_54 rfl rfl ?_
          refine g_ri (r_V (C := RX10) (T := TX10) (N := 25) (As := [.int x1]) (rest := []) hC o_iX10 (o_eX10 _ _ _ _) rfl (c_X10_partsBy (l := ox_l X) (φ := ox_φ X) (D := ox_D X) (cI := ox_I X) (cB := ox_B X) hC.J  h) gX10_childNow_X10_partsBy rfl hd_X10_partsBy ⟨Nat.le_of_ble_eq_true rfl, Nat.le_of_ble_eq_true rfl⟩ rfl rfl (Nat.le_of_ble_eq_true rfl) dX10_childNow_55) (fun v55 s55 h => ?_)
          exact hR _ _ _ _ dX10_childNow_58 h
        · skip
          have h := h.2.2.2.2 ⟨z0, z1, z2, z3⟩
          have a0 := lv_neT z0 (a := 0) (by decide)
          have a1 := lv_neT z1 (a := 1) (by decide)
          have a2 := lv_neT z2 (a := 2) (by decide)
          have a3 := lv_neT z3 (a := 3) (by decide)
          refine g_tabOut hC 59 dX10_childNow_1 (by omega) (by decide) ?_
          refine g_aload_n hC 0 dX10_childNow_59 rfl rfl ?_
          refine g_get (C := RX10) (T := TX10) (N := 25) (v := .ref (ox_φ X (8, 0, 4))) hC o_iX10 (o_eX10 _ _ _ _) rfl ki_X10_childNow_X10 8 (by decide) kw_X10_childNow_4 rfl dX10_childNow_60 ?_
          refine g_iload_n hC 1 dX10_childNow_63 rfl rfl ?_
          refine g_iald hC o_M4 h.1 dX10_childNow_64 ?_
          have h := h.2
          exact hR _ _ _ _ dX10_childNow_65 h
set_option maxRecDepth 100000 in
theorem c_X10_childNow {l : Launch} {φ : OI → Nat} {D : va_G} {cI cB : ClassId} (hJ : o_J φ) {x1 : Int32} {x2 : Int32} {σ : SS} {post : Int32 → SS → Prop} (h : V_X10_childNow x1 x2 σ post) : o_Mi l φ D cI cB yX10_childNow wsX10_childNow 1 23 [.ref (φ (7, 0, 0)), .int x1, .int x2] σ post :=
 o_met_i hJ (by decide +kernel) rfl (Nat.le_of_ble_eq_true rfl) (fun p e s m args below meth c Q hC hR => wv_X10_childNow hC hR h)
theorem hd_X10_about : yX10_about.cls = RX10 ∧ yX10_about.cls ≠ "java/lang/invoke/MethodHandle" ∧ yX10_about.cls ≠ "java/lang/invoke/VarHandle" ∧ (parseMethodDescriptor yX10_about.desc).map (fun d => d.parameters.length) = some 2 := by decide +kernel
set_option maxHeartbeats 4000000 in
set_option maxRecDepth 100000 in
theorem wb_X10_about_33 {X : OX} {post : Int32 → SS → Prop} {t0 : Int32} {σ : SS} (hC : o_C X cX10_about RX10 wsX10_about 2 45 3) (hR : o_RI X cX10_about post) (h : VB_X10_about_33 post t0 σ) : o_G X σ 33 [] [.int t0] := by
  unfold VB_X10_about_33 at h
  exact hR _ _ _ _ dX10_about_33 h
set_option maxHeartbeats 4000000 in
set_option maxRecDepth 100000 in
theorem wv_X10_about {X : OX} {x1 : Int32} {x2 : Int32} {post : Int32 → SS → Prop} {σ : SS} (hC : o_C X cX10_about RX10 wsX10_about 2 45 3) (hR : o_RI X cX10_about post) (h : V_X10_about x1 x2 σ post) : o_G X σ 0 [(0, .ref (ox_φ X (7, 0, 0))), (1, .int x1), (2, .int x2)] [] := by
  unfold V_X10_about at h
  refine g_aload_n hC 0 dX10_about_0 rfl rfl ?_
  refine g_iload_n hC 1 dX10_about_1 rfl rfl ?_
  refine g_ri (r_V (C := RX10) (T := TX10) (N := 25) (As := [.int x1]) (rest := []) hC o_iX10 (o_eX10 _ _ _ _) rfl (c_X10_isChild (l := ox_l X) (φ := ox_φ X) (D := ox_D X) (cI := ox_I X) (cB := ox_B X) hC.J  h) gX10_about_X10_isChild rfl hd_X10_isChild ⟨Nat.le_of_ble_eq_true rfl, Nat.le_of_ble_eq_true rfl⟩ rfl rfl (Nat.le_of_ble_eq_true rfl) dX10_about_2) (fun v2 s2 h => ?_)
  refine g_if_ne hC 13 dX10_about_5 (by decide) (fun z => ?_) (fun z => ?_)
  · have h := h.1 z
    refine g_iload_n hC 2 dX10_about_13 rfl rfl ?_
    refine g_iconst (v := (0 : Int32)) hC dX10_about_14 (by decide) ?_
    refine g_iconst (v := (4 : Int32)) hC dX10_about_15 (by decide) ?_
    refine g_ri (r_S (As := [.int x2, .int (0 : Int32), .int (4 : Int32)]) (rest := []) hC (c_X10_within (l := ox_l X) (φ := ox_φ X) (D := ox_D X) (cI := ox_I X) (cB := ox_B X) hC.J  h) gX10_about_X10_within rfl hd_X10_within ⟨Nat.le_of_ble_eq_true rfl, Nat.le_of_ble_eq_true rfl⟩ rfl rfl (Nat.le_of_ble_eq_true rfl) dX10_about_16) (fun v16 s16 h => ?_)
    refine g_if_eq hC 31 dX10_about_19 (by decide) (fun z => ?_) (fun z => ?_)
    · have h := h.1 z
      refine g_bipush (v := (-102 : Int32)) hC dX10_about_31 (by decide) ?_
      refine g_sub [] rfl ?_
      exact wb_X10_about_33 hC hR h
    · have h := h.2 z
      refine g_aload_n hC 0 dX10_about_22 rfl rfl ?_
      refine g_iload_n hC 1 dX10_about_23 rfl rfl ?_
      refine g_iload_n hC 2 dX10_about_24 rfl rfl ?_
      refine g_ri (r_V (C := RX10) (T := TX10) (N := 25) (As := [.int x1, .int x2]) (rest := []) hC o_iX10 (o_eX10 _ _ _ _) rfl (c_X10_childNow (l := ox_l X) (φ := ox_φ X) (D := ox_D X) (cI := ox_I X) (cB := ox_B X) hC.J  h) gX10_about_X10_childNow rfl hd_X10_childNow ⟨Nat.le_of_ble_eq_true rfl, Nat.le_of_ble_eq_true rfl⟩ rfl rfl (Nat.le_of_ble_eq_true rfl) dX10_about_25) (fun v25 s25 h => ?_)
      refine g_goto hC 33 dX10_about_28 (by decide) ?_
      refine g_sub [] rfl ?_
      exact wb_X10_about_33 hC hR h
  · have h := h.2 z
    refine g_bipush (v := (-101 : Int32)) hC dX10_about_8 (by decide) ?_
    refine g_goto hC 33 dX10_about_10 (by decide) ?_
    refine g_sub [] rfl ?_
    exact wb_X10_about_33 hC hR h
set_option maxRecDepth 100000 in
theorem c_X10_about {l : Launch} {φ : OI → Nat} {D : va_G} {cI cB : ClassId} (hJ : o_J φ) {x1 : Int32} {x2 : Int32} {σ : SS} {post : Int32 → SS → Prop} (h : V_X10_about x1 x2 σ post) : o_Mi l φ D cI cB yX10_about wsX10_about 2 45 [.ref (φ (7, 0, 0)), .int x1, .int x2] σ post :=
 o_met_i hJ (by decide +kernel) rfl (Nat.le_of_ble_eq_true rfl) (fun p e s m args below meth c Q hC hR => wv_X10_about hC hR h)
theorem kw_X10_as_1 : Cond.fieldLink RX10 13 "SchoolRowModel" "kindOf" "[I" ∈ wsX10_as := List.mem_of_getElem? (i := 1) (by decide +kernel)
theorem ki_X10_as_X10 : ∀ w ∈ wsX100, w ∈ wsX10_as := fun _ h => List.mem_cons_of_mem _ (List.mem_append_right _ h)
theorem hd_X10_as : yX10_as.cls = RX10 ∧ yX10_as.cls ≠ "java/lang/invoke/MethodHandle" ∧ yX10_as.cls ≠ "java/lang/invoke/VarHandle" ∧ (parseMethodDescriptor yX10_as.desc).map (fun d => d.parameters.length) = some 2 := by decide +kernel
set_option maxHeartbeats 4000000 in
set_option maxRecDepth 100000 in
theorem wb_X10_as_54 {X : OX} {post : Int32 → SS → Prop} {t0 : Int32} {σ : SS} (hC : o_C X cX10_as RX10 wsX10_as 2 43 4) (hR : o_RI X cX10_as post) (h : VB_X10_as_54 post t0 σ) : o_G X σ 54 [] [.int t0] := by
  unfold VB_X10_as_54 at h
  exact hR _ _ _ _ dX10_as_54 h
set_option maxHeartbeats 4000000 in
set_option maxRecDepth 100000 in
theorem wb_X10_as_49 {X : OX} {post : Int32 → SS → Prop} {x1 : Int32} {σ : SS} (hC : o_C X cX10_as RX10 wsX10_as 2 43 4) (hR : o_RI X cX10_as post) (h : VB_X10_as_49 post x1 σ) : o_G X σ 49 [(1, .int x1)] [] := by
  unfold VB_X10_as_49 at h
  refine g_iload_n hC 0 dX10_as_49 rfl rfl ?_
  refine g_goto hC 54 dX10_as_50 (by decide) ?_
  refine g_sub [] rfl ?_
  exact wb_X10_as_54 hC hR h
set_option maxHeartbeats 4000000 in
set_option maxRecDepth 100000 in
theorem wb_X10_as_53 {X : OX} {post : Int32 → SS → Prop} {σ : SS} (hC : o_C X cX10_as RX10 wsX10_as 2 43 4) (hR : o_RI X cX10_as post) (h : VB_X10_as_53 post σ) : o_G X σ 53 [] [] := by
  unfold VB_X10_as_53 at h
  refine g_iconst (v := (-1 : Int32)) hC dX10_as_53 (by decide) ?_
  exact wb_X10_as_54 hC hR h
set_option maxHeartbeats 4000000 in
set_option maxRecDepth 100000 in
theorem wv_X10_as {X : OX} {x1 : Int32} {x2 : Int32} {post : Int32 → SS → Prop} {σ : SS} (hC : o_C X cX10_as RX10 wsX10_as 2 43 4) (hR : o_RI X cX10_as post) (h : V_X10_as x1 x2 σ post) : o_G X σ 0 [(0, .ref (ox_φ X (7, 0, 0))), (1, .int x1), (2, .int x2)] [] := by
  unfold V_X10_as at h
  refine g_aload_n hC 0 dX10_as_0 rfl rfl ?_
  refine g_iload_n hC 1 dX10_as_1 rfl rfl ?_
  refine g_ri (r_V (C := RX10) (T := TX10) (N := 25) (As := [.int x1]) (rest := []) hC o_iX10 (o_eX10 _ _ _ _) rfl (c_X10_isChild (l := ox_l X) (φ := ox_φ X) (D := ox_D X) (cI := ox_I X) (cB := ox_B X) hC.J  h) gX10_as_X10_isChild rfl hd_X10_isChild ⟨Nat.le_of_ble_eq_true rfl, Nat.le_of_ble_eq_true rfl⟩ rfl rfl (Nat.le_of_ble_eq_true rfl) dX10_as_2) (fun v2 s2 h => ?_)
  refine g_if_ne hC 11 dX10_as_5 (by decide) (fun z => ?_) (fun z => ?_)
  · have h := h.1 z
    refine g_iload_n hC 2 dX10_as_11 rfl rfl ?_
    refine g_iconst (v := (0 : Int32)) hC dX10_as_12 (by decide) ?_
    refine g_iconst (v := (4 : Int32)) hC dX10_as_13 (by decide) ?_
    refine g_ri (r_S (As := [.int x2, .int (0 : Int32), .int (4 : Int32)]) (rest := []) hC (c_X10_within (l := ox_l X) (φ := ox_φ X) (D := ox_D X) (cI := ox_I X) (cB := ox_B X) hC.J  h) gX10_as_X10_within rfl hd_X10_within ⟨Nat.le_of_ble_eq_true rfl, Nat.le_of_ble_eq_true rfl⟩ rfl rfl (Nat.le_of_ble_eq_true rfl) dX10_as_14) (fun v14 s14 h => ?_)
    refine g_if_ne hC 23 dX10_as_17 (by decide) (fun z => ?_) (fun z => ?_)
    · have h := h.1 z
      refine g_aload_n hC 0 dX10_as_23 rfl rfl ?_
      refine g_get (C := RX10) (T := TX10) (N := 25) (v := .ref (ox_φ X (8, 0, 1))) hC o_iX10 (o_eX10 _ _ _ _) rfl ki_X10_as_X10 5 (by decide) kw_X10_as_1 rfl dX10_as_24 ?_
      refine g_iload_n hC 1 dX10_as_27 rfl rfl ?_
      refine g_iald hC o_M1 h.1 dX10_as_28 ?_
      have h := h.2
      refine g_topi (fun y29 e29 => ?_)
      have h := h y29 e29
      refine g_istore_n hC [(3, .int y29), (0, .ref (ox_φ X (7, 0, 0))), (1, .int x1), (2, .int x2)] dX10_as_29 rfl (by decide) rfl ?_
      refine g_iload_n hC 3 dX10_as_30 rfl rfl ?_
      refine g_if_eq hC 49 dX10_as_31 (by decide) (fun z => ?_) (fun z => ?_)
      · have h := h.1 z
        refine g_sub [2] rfl ?_
        exact wb_X10_as_49 hC hR h
      · have h := h.2 z
        refine g_iload_n hC 0 dX10_as_34 rfl rfl ?_
        refine g_iload_n hC 3 dX10_as_35 rfl rfl ?_
        refine g_icmp_eq hC 49 dX10_as_36 (by decide) (fun z => ?_) (fun z => ?_)
        · have h := h.1 z
          refine g_sub [2] rfl ?_
          exact wb_X10_as_49 hC hR h
        · have h := h.2 z
          refine g_iload_n hC 3 dX10_as_39 rfl rfl ?_
          refine g_iconst (v := (3 : Int32)) hC dX10_as_40 (by decide) ?_
          refine g_icmp_ne hC 53 dX10_as_41 (by decide) (fun z => ?_) (fun z => ?_)
          · have h := h.1 z
            refine g_sub [] rfl ?_
            exact wb_X10_as_53 hC hR h
          · have h := h.2 z
            refine g_iload_n hC 0 dX10_as_44 rfl rfl ?_
            refine g_iconst (v := (4 : Int32)) hC dX10_as_45 (by decide) ?_
            refine g_icmp_ne hC 53 dX10_as_46 (by decide) (fun z => ?_) (fun z => ?_)
            · have h := h.1 z
              refine g_sub [] rfl ?_
              exact wb_X10_as_53 hC hR h
            · have h := h.2 z
              refine g_sub [2] rfl ?_
              exact wb_X10_as_49 hC hR h
    · have h := h.2 z
      refine g_bipush (v := (-102 : Int32)) hC dX10_as_20 (by decide) ?_
      exact hR _ _ _ _ dX10_as_22 h
  · have h := h.2 z
    refine g_bipush (v := (-101 : Int32)) hC dX10_as_8 (by decide) ?_
    exact hR _ _ _ _ dX10_as_10 h
set_option maxRecDepth 100000 in
theorem c_X10_as {l : Launch} {φ : OI → Nat} {D : va_G} {cI cB : ClassId} (hJ : o_J φ) {x1 : Int32} {x2 : Int32} {σ : SS} {post : Int32 → SS → Prop} (h : V_X10_as x1 x2 σ post) : o_Mi l φ D cI cB yX10_as wsX10_as 2 43 [.ref (φ (7, 0, 0)), .int x1, .int x2] σ post :=
 o_met_i hJ (by decide +kernel) rfl (Nat.le_of_ble_eq_true rfl) (fun p e s m args below meth c Q hC hR => wv_X10_as hC hR h)
theorem kw_X10_seat_1 : Cond.fieldLink RX10 31 "SchoolRowModel" "onSeat" "[I" ∈ wsX10_seat := List.mem_of_getElem? (i := 1) (by decide +kernel)
theorem ki_X10_seat_X10 : ∀ w ∈ wsX100, w ∈ wsX10_seat := fun _ h => List.mem_cons_of_mem _ (List.mem_append_right _ h)
theorem hd_X10_seat : yX10_seat.cls = RX10 ∧ yX10_seat.cls ≠ "java/lang/invoke/MethodHandle" ∧ yX10_seat.cls ≠ "java/lang/invoke/VarHandle" ∧ (parseMethodDescriptor yX10_seat.desc).map (fun d => d.parameters.length) = some 1 := by decide +kernel
set_option maxHeartbeats 4000000 in
set_option maxRecDepth 100000 in
theorem wb_X10_seat_19 {X : OX} {post : Int32 → SS → Prop} {t0 : Int32} {σ : SS} (hC : o_C X cX10_seat RX10 wsX10_seat 2 43 2) (hR : o_RI X cX10_seat post) (h : VB_X10_seat_19 post t0 σ) : o_G X σ 19 [] [.int t0] := by
  unfold VB_X10_seat_19 at h
  exact hR _ _ _ _ dX10_seat_19 h
set_option maxHeartbeats 4000000 in
set_option maxRecDepth 100000 in
theorem wv_X10_seat {X : OX} {x1 : Int32} {post : Int32 → SS → Prop} {σ : SS} (hC : o_C X cX10_seat RX10 wsX10_seat 2 43 2) (hR : o_RI X cX10_seat post) (h : V_X10_seat x1 σ post) : o_G X σ 0 [(0, .ref (ox_φ X (7, 0, 0))), (1, .int x1)] [] := by
  unfold V_X10_seat at h
  refine g_aload_n hC 0 dX10_seat_0 rfl rfl ?_
  refine g_iload_n hC 1 dX10_seat_1 rfl rfl ?_
  refine g_ri (r_V (C := RX10) (T := TX10) (N := 25) (As := [.int x1]) (rest := []) hC o_iX10 (o_eX10 _ _ _ _) rfl (c_X10_isChild (l := ox_l X) (φ := ox_φ X) (D := ox_D X) (cI := ox_I X) (cB := ox_B X) hC.J  h) gX10_seat_X10_isChild rfl hd_X10_isChild ⟨Nat.le_of_ble_eq_true rfl, Nat.le_of_ble_eq_true rfl⟩ rfl rfl (Nat.le_of_ble_eq_true rfl) dX10_seat_2) (fun v2 s2 h => ?_)
  refine g_if_eq hC 17 dX10_seat_5 (by decide) (fun z => ?_) (fun z => ?_)
  · have h := h.1 z
    refine g_bipush (v := (-101 : Int32)) hC dX10_seat_17 (by decide) ?_
    refine g_sub [] rfl ?_
    exact wb_X10_seat_19 hC hR h
  · have h := h.2 z
    refine g_aload_n hC 0 dX10_seat_8 rfl rfl ?_
    refine g_get (C := RX10) (T := TX10) (N := 25) (v := .ref (ox_φ X (8, 0, 7))) hC o_iX10 (o_eX10 _ _ _ _) rfl ki_X10_seat_X10 11 (by decide) kw_X10_seat_1 rfl dX10_seat_9 ?_
    refine g_iload_n hC 1 dX10_seat_12 rfl rfl ?_
    refine g_iald hC o_M7 h.1 dX10_seat_13 ?_
    have h := h.2
    refine g_goto hC 19 dX10_seat_14 (by decide) ?_
    refine g_sub [] rfl ?_
    exact wb_X10_seat_19 hC hR h
set_option maxRecDepth 100000 in
theorem c_X10_seat {l : Launch} {φ : OI → Nat} {D : va_G} {cI cB : ClassId} (hJ : o_J φ) {x1 : Int32} {σ : SS} {post : Int32 → SS → Prop} (h : V_X10_seat x1 σ post) : o_Mi l φ D cI cB yX10_seat wsX10_seat 2 43 [.ref (φ (7, 0, 0)), .int x1] σ post :=
 o_met_i hJ (by decide +kernel) rfl (Nat.le_of_ble_eq_true rfl) (fun p e s m args below meth c Q hC hR => wv_X10_seat hC hR h)
