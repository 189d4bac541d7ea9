theorem kw_X10_mix_1 : Cond.constantLong RX10 209 (31) ∈ wsX10_mix := List.mem_of_getElem? (i := 1) (by decide +kernel)
theorem kw_X10_mix_2 : Cond.fieldLink RX10 211 "SchoolRowModel" "h" "J" ∈ wsX10_mix := List.mem_of_getElem? (i := 2) (by decide +kernel)
theorem ki_X10_mix_X10 : ∀ w ∈ wsX100, w ∈ wsX10_mix := fun _ h => List.mem_cons_of_mem _ (List.mem_append_right _ h)
theorem hd_X10_mix : yX10_mix.cls = RX10 ∧ yX10_mix.cls ≠ "java/lang/invoke/MethodHandle" ∧ yX10_mix.cls ≠ "java/lang/invoke/VarHandle" ∧ (parseMethodDescriptor yX10_mix.desc).map (fun d => d.parameters.length) = some 1 := by decide +kernel
set_option maxHeartbeats 4000000 in
set_option maxRecDepth 100000 in
theorem wv_X10_mix {X : OX} {x1 : Int64} {post : SS → Prop} {σ : SS} (hC : o_C X cX10_mix RX10 wsX10_mix 0 0 3) (hR : o_RV X cX10_mix post) (h : V_X10_mix x1 σ post) : o_G X σ 0 [(0, .ref (ox_φ X (7, 0, 0))), (1, .long x1)] [] := by
  unfold V_X10_mix at h
  refine g_aload_n hC 0 dX10_mix_0 rfl rfl ?_
  refine g_ldc2 hC kw_X10_mix_1 dX10_mix_1 ?_
  refine g_aload_n hC 0 dX10_mix_4 rfl rfl ?_
  refine g_get (C := RX10) (T := TX10) (N := 25) (v := .long (σ.2 24)) hC o_iX10 (o_eX10 _ _ _ _) rfl ki_X10_mix_X10 24 (by decide) kw_X10_mix_2 rfl dX10_mix_5 ?_
  refine g_lmul hC dX10_mix_8 ?_
  refine g_lload_n hC 1 dX10_mix_9 rfl rfl ?_
  refine g_ladd hC dX10_mix_10 ?_
  refine g_putl (C := RX10) (T := TX10) (N := 25) hC (o_eX10 _ _ _ _) rfl ki_X10_mix_X10 tyX10_ok nmX10 24 (by decide) kw_X10_mix_2 rfl rfl rfl (Nat.le_of_ble_eq_true rfl) (o_pX10_24 _ _ _ _ _) dX10_mix_11 ?_
  exact hR _ _ _ dX10_mix_14 h
set_option maxRecDepth 100000 in
theorem c_X10_mix {l : Launch} {φ : OI → Nat} {D : va_G} {cI cB : ClassId} (hJ : o_J φ) {x1 : Int64} {σ : SS} {post : SS → Prop} (h : V_X10_mix x1 σ post) : o_Mv l φ D cI cB yX10_mix wsX10_mix 0 0 [.ref (φ (7, 0, 0)), .long x1] σ post :=
 o_met_v hJ (by decide +kernel) rfl (Nat.le_of_ble_eq_true rfl) (fun p e s m args below meth c Q hC hR => wv_X10_mix hC hR h)
theorem hd_X10_mixChild : yX10_mixChild.cls = RX10 ∧ yX10_mixChild.cls ≠ "java/lang/invoke/MethodHandle" ∧ yX10_mixChild.cls ≠ "java/lang/invoke/VarHandle" ∧ (parseMethodDescriptor yX10_mixChild.desc).map (fun d => d.parameters.length) = some 1 := by decide +kernel
set_option maxHeartbeats 4000000 in
set_option maxRecDepth 100000 in
theorem wb_X10_mixChild_26 {X : OX} {post : SS → Prop} {K26 : Int32 → Int32 → SS → Prop} {x1 : Int32} {x2 : Int32} {σ : SS} (hC : o_C X cX10_mixChild RX10 wsX10_mixChild 2 50 3) (hR : o_RV X cX10_mixChild post) (hK26 : ∀ (x1 : Int32) (x2 : Int32) (σ : SS), K26 x1 x2 σ → o_G X σ 26 [(0, .ref (ox_φ X (7, 0, 0))), (1, .int x1), (2, .int x2)] []) (h : VB_X10_mixChild_26 post K26 x1 x2 σ) : o_G X σ 26 [(0, .ref (ox_φ X (7, 0, 0))), (1, .int x1), (2, .int x2)] [] := by
  unfold VB_X10_mixChild_26 at h
  refine g_iload_n hC 2 dX10_mixChild_26 rfl rfl ?_
  refine g_iconst (v := (4 : Int32)) hC dX10_mixChild_27 (by decide) ?_
  refine g_icmp_ge hC 72 dX10_mixChild_28 (by decide) (fun z => ?_) (fun z => ?_)
  · have h := h.1 z
    exact hR _ _ _ dX10_mixChild_72 h
  · have h := h.2 z
    refine g_aload_n hC 0 dX10_mixChild_31 rfl rfl ?_
    refine g_aload_n hC 0 dX10_mixChild_32 rfl rfl ?_
    refine g_iload_n hC 1 dX10_mixChild_33 rfl rfl ?_
    refine g_iload_n hC 2 dX10_mixChild_34 rfl rfl ?_
    refine g_iconst (v := (0 : Int32)) hC dX10_mixChild_35 (by decide) ?_
    refine g_ri (r_V (C := RX10) (T := TX10) (N := 25) (As := [.int x1, .int x2, .int (0 : Int32)]) (rest := [.ref (ox_φ X (7, 0, 0))]) hC o_iX10 (o_eX10 _ _ _ _) rfl (c_X10_knowsNow (l := ox_l X) (φ := ox_φ X) (D := ox_D X) (cI := ox_I X) (cB := ox_B X) hC.J  h) gX10_mixChild_X10_knowsNow rfl hd_X10_knowsNow ⟨Nat.le_of_ble_eq_true rfl, Nat.le_of_ble_eq_true rfl⟩ rfl rfl (Nat.le_of_ble_eq_true rfl) dX10_mixChild_36) (fun v36 s36 h => ?_)
    refine g_i2l hC dX10_mixChild_39 ?_
    refine g_rv (r_V (C := RX10) (T := TX10) (N := 25) (As := [.long (v36).toInt64]) (rest := []) hC o_iX10 (o_eX10 _ _ _ _) rfl (c_X10_mix (l := ox_l X) (φ := ox_φ X) (D := ox_D X) (cI := ox_I X) (cB := ox_B X) hC.J  h) gX10_mixChild_X10_mix rfl hd_X10_mix ⟨Nat.le_of_ble_eq_true rfl, Nat.le_of_ble_eq_true rfl⟩ rfl rfl (Nat.le_of_ble_eq_true rfl) dX10_mixChild_40) (fun s40 h => ?_)
    refine g_aload_n hC 0 dX10_mixChild_43 rfl rfl ?_
    refine g_aload_n hC 0 dX10_mixChild_44 rfl rfl ?_
    refine g_iload_n hC 1 dX10_mixChild_45 rfl rfl ?_
    refine g_iload_n hC 2 dX10_mixChild_46 rfl rfl ?_
    refine g_iconst (v := (1 : Int32)) hC dX10_mixChild_47 (by decide) ?_
    refine g_ri (r_V (C := RX10) (T := TX10) (N := 25) (As := [.int x1, .int x2, .int (1 : Int32)]) (rest := [.ref (ox_φ X (7, 0, 0))]) hC o_iX10 (o_eX10 _ _ _ _) rfl (c_X10_knowsNow (l := ox_l X) (φ := ox_φ X) (D := ox_D X) (cI := ox_I X) (cB := ox_B X) hC.J  h) gX10_mixChild_X10_knowsNow rfl hd_X10_knowsNow ⟨Nat.le_of_ble_eq_true rfl, Nat.le_of_ble_eq_true rfl⟩ rfl rfl (Nat.le_of_ble_eq_true rfl) dX10_mixChild_48) (fun v48 s48 h => ?_)
    refine g_i2l hC dX10_mixChild_51 ?_
    refine g_rv (r_V (C := RX10) (T := TX10) (N := 25) (As := [.long (v48).toInt64]) (rest := []) hC o_iX10 (o_eX10 _ _ _ _) rfl (c_X10_mix (l := ox_l X) (φ := ox_φ X) (D := ox_D X) (cI := ox_I X) (cB := ox_B X) hC.J  h) gX10_mixChild_X10_mix rfl hd_X10_mix ⟨Nat.le_of_ble_eq_true rfl, Nat.le_of_ble_eq_true rfl⟩ rfl rfl (Nat.le_of_ble_eq_true rfl) dX10_mixChild_52) (fun s52 h => ?_)
    refine g_aload_n hC 0 dX10_mixChild_55 rfl rfl ?_
    refine g_aload_n hC 0 dX10_mixChild_56 rfl rfl ?_
    refine g_iload_n hC 1 dX10_mixChild_57 rfl rfl ?_
    refine g_iload_n hC 2 dX10_mixChild_58 rfl rfl ?_
    refine g_ri (r_V (C := RX10) (T := TX10) (N := 25) (As := [.int x1, .int x2]) (rest := [.ref (ox_φ X (7, 0, 0))]) hC o_iX10 (o_eX10 _ _ _ _) rfl (c_X10_asksNow (l := ox_l X) (φ := ox_φ X) (D := ox_D X) (cI := ox_I X) (cB := ox_B X) hC.J  h) gX10_mixChild_X10_asksNow rfl hd_X10_asksNow ⟨Nat.le_of_ble_eq_true rfl, Nat.le_of_ble_eq_true rfl⟩ rfl rfl (Nat.le_of_ble_eq_true rfl) dX10_mixChild_59) (fun v59 s59 h => ?_)
    refine g_i2l hC dX10_mixChild_62 ?_
    refine g_rv (r_V (C := RX10) (T := TX10) (N := 25) (As := [.long (v59).toInt64]) (rest := []) hC o_iX10 (o_eX10 _ _ _ _) rfl (c_X10_mix (l := ox_l X) (φ := ox_φ X) (D := ox_D X) (cI := ox_I X) (cB := ox_B X) hC.J  h) gX10_mixChild_X10_mix rfl hd_X10_mix ⟨Nat.le_of_ble_eq_true rfl, Nat.le_of_ble_eq_true rfl⟩ rfl rfl (Nat.le_of_ble_eq_true rfl) dX10_mixChild_63) (fun s63 h => ?_)
    refine g_iinc (v := (x2 + (1 : Int32))) hC 2 [(2, .int (x2 + (1 : Int32))), (0, .ref (ox_φ X (7, 0, 0))), (1, .int x1)] dX10_mixChild_66 rfl rfl (by decide) rfl ?_
    refine g_goto hC 26 dX10_mixChild_69 (by decide) ?_
    refine g_sub [1, 2, 0] rfl ?_
    exact hK26 _ _ _ h
set_option maxHeartbeats 4000000 in
set_option maxRecDepth 100000 in
theorem lp_X10_mixChild_26 {X : OX} {post : SS → Prop} (hC : o_C X cX10_mixChild RX10 wsX10_mixChild 2 50 3) (hR : o_RV X cX10_mixChild post) : ∀ (n : Nat) (a : Int32 × Int32) (σ : SS), LP_X10_mixChild_26 post n a σ → o_G X σ 26 [(0, .ref (ox_φ X (7, 0, 0))), (1, .int a.1), (2, .int a.2)] [] :=
 o_lp_G (fun K hK a σ h => wb_X10_mixChild_26 hC hR (fun x1 x2 σ h => hK (x1, x2) σ h) h)
set_option maxHeartbeats 4000000 in
set_option maxRecDepth 100000 in
theorem wb_X10_mixChild_2 {X : OX} {post : SS → Prop} {K2 : Int32 → Int32 → SS → Prop} {x1 : Int32} {x2 : Int32} {σ : SS} (hC : o_C X cX10_mixChild RX10 wsX10_mixChild 2 50 3) (hR : o_RV X cX10_mixChild post) (hK2 : ∀ (x1 : Int32) (x2 : Int32) (σ : SS), K2 x1 x2 σ → o_G X σ 2 [(0, .ref (ox_φ X (7, 0, 0))), (1, .int x1), (2, .int x2)] []) (h : VB_X10_mixChild_2 post K2 x1 x2 σ) : o_G X σ 2 [(0, .ref (ox_φ X (7, 0, 0))), (1, .int x1), (2, .int x2)] [] := by
  unfold VB_X10_mixChild_2 at h
  refine g_iload_n hC 2 dX10_mixChild_2 rfl rfl ?_
  refine g_iconst (v := (5 : Int32)) hC dX10_mixChild_3 (by decide) ?_
  refine g_icmp_ge hC 24 dX10_mixChild_4 (by decide) (fun z => ?_) (fun z => ?_)
  · have h := h.1 z
    refine g_iconst (v := (0 : Int32)) hC dX10_mixChild_24 (by decide) ?_
    refine g_istore_n hC [(2, .int (0 : Int32)), (0, .ref (ox_φ X (7, 0, 0))), (1, .int x1)] dX10_mixChild_25 rfl (by decide) rfl ?_
    refine g_sub [1, 2, 0] rfl ?_
    obtain ⟨n, h⟩ := h
    exact lp_X10_mixChild_26 hC hR n _ _ h
  · have h := h.2 z
    refine g_aload_n hC 0 dX10_mixChild_7 rfl rfl ?_
    refine g_aload_n hC 0 dX10_mixChild_8 rfl rfl ?_
    refine g_iload_n hC 1 dX10_mixChild_9 rfl rfl ?_
    refine g_iload_n hC 2 dX10_mixChild_10 rfl rfl ?_
    refine g_ri (r_V (C := RX10) (T := TX10) (N := 25) (As := [.int x1, .int x2]) (rest := [.ref (ox_φ X (7, 0, 0))]) hC o_iX10 (o_eX10 _ _ _ _) rfl (c_X10_childNow (l := ox_l X) (φ := ox_φ X) (D := ox_D X) (cI := ox_I X) (cB := ox_B X) hC.J  h) gX10_mixChild_X10_childNow rfl hd_X10_childNow ⟨Nat.le_of_ble_eq_true rfl, Nat.le_of_ble_eq_true rfl⟩ rfl rfl (Nat.le_of_ble_eq_true rfl) dX10_mixChild_11) (fun v11 s11 h => ?_)
    refine g_i2l hC dX10_mixChild_14 ?_
    refine g_rv (r_V (C := RX10) (T := TX10) (N := 25) (As := [.long (v11).toInt64]) (rest := []) hC o_iX10 (o_eX10 _ _ _ _) rfl (c_X10_mix (l := ox_l X) (φ := ox_φ X) (D := ox_D X) (cI := ox_I X) (cB := ox_B X) hC.J  h) gX10_mixChild_X10_mix rfl hd_X10_mix ⟨Nat.le_of_ble_eq_true rfl, Nat.le_of_ble_eq_true rfl⟩ rfl rfl (Nat.le_of_ble_eq_true rfl) dX10_mixChild_15) (fun s15 h => ?_)
    refine g_iinc (v := (x2 + (1 : Int32))) hC 2 [(2, .int (x2 + (1 : Int32))), (0, .ref (ox_φ X (7, 0, 0))), (1, .int x1)] dX10_mixChild_18 rfl rfl (by decide) rfl ?_
    refine g_goto hC 2 dX10_mixChild_21 (by decide) ?_
    refine g_sub [1, 2, 0] rfl ?_
    exact hK2 _ _ _ h
set_option maxHeartbeats 4000000 in
set_option maxRecDepth 100000 in
theorem lp_X10_mixChild_2 {X : OX} {post : SS → Prop} (hC : o_C X cX10_mixChild RX10 wsX10_mixChild 2 50 3) (hR : o_RV X cX10_mixChild post) : ∀ (n : Nat) (a : Int32 × Int32) (σ : SS), LP_X10_mixChild_2 post n a σ → o_G X σ 2 [(0, .ref (ox_φ X (7, 0, 0))), (1, .int a.1), (2, .int a.2)] [] :=
 o_lp_G (fun K hK a σ h => wb_X10_mixChild_2 hC hR (fun x1 x2 σ h => hK (x1, x2) σ h) h)
set_option maxHeartbeats 4000000 in
set_option maxRecDepth 100000 in
theorem wv_X10_mixChild {X : OX} {x1 : Int32} {post : SS → Prop} {σ : SS} (hC : o_C X cX10_mixChild RX10 wsX10_mixChild 2 50 3) (hR : o_RV X cX10_mixChild post) (h : V_X10_mixChild x1 σ post) : o_G X σ 0 [(0, .ref (ox_φ X (7, 0, 0))), (1, .int x1)] [] := by
  unfold V_X10_mixChild at h
  refine g_iconst (v := (0 : Int32)) hC dX10_mixChild_0 (by decide) ?_
  refine g_istore_n hC [(2, .int (0 : Int32)), (0, .ref (ox_φ X (7, 0, 0))), (1, .int x1)] dX10_mixChild_1 rfl (by decide) rfl ?_
  refine g_sub [1, 2, 0] rfl ?_
  obtain ⟨n, h⟩ := h
  exact lp_X10_mixChild_2 hC hR n _ _ h
set_option maxRecDepth 100000 in
theorem c_X10_mixChild {l : Launch} {φ : OI → Nat} {D : va_G} {cI cB : ClassId} (hJ : o_J φ) {x1 : Int32} {σ : SS} {post : SS → Prop} (h : V_X10_mixChild x1 σ post) : o_Mv l φ D cI cB yX10_mixChild wsX10_mixChild 2 50 [.ref (φ (7, 0, 0)), .int x1] σ post :=
 o_met_v hJ (by decide +kernel) rfl (Nat.le_of_ble_eq_true rfl) (fun p e s m args below meth c Q hC hR => wv_X10_mixChild hC hR h)
theorem kw_X10_digest_1 : Cond.constantLong RX10 218 (773) ∈ wsX10_digest := List.mem_of_getElem? (i := 1) (by decide +kernel)
theorem kw_X10_digest_2 : Cond.fieldLink RX10 211 "SchoolRowModel" "h" "J" ∈ wsX10_digest := List.mem_of_getElem? (i := 2) (by decide +kernel)
theorem kw_X10_digest_3 : Cond.fieldLink RX10 79 "SchoolRowModel" "children" "I" ∈ wsX10_digest := List.mem_of_getElem? (i := 3) (by decide +kernel)
theorem kw_X10_digest_4 : Cond.fieldLink RX10 57 "SchoolRowModel" "pageLength" "I" ∈ wsX10_digest := List.mem_of_getElem? (i := 4) (by decide +kernel)
theorem kw_X10_digest_5 : Cond.fieldLink RX10 34 "SchoolRowModel" "page" "[B" ∈ wsX10_digest := List.mem_of_getElem? (i := 5) (by decide +kernel)
theorem ki_X10_digest_X10 : ∀ w ∈ wsX100, w ∈ wsX10_digest := fun _ h => List.mem_cons_of_mem _ (List.mem_append_right _ h)
theorem hd_X10_digest : yX10_digest.cls = RX10 ∧ yX10_digest.cls ≠ "java/lang/invoke/MethodHandle" ∧ yX10_digest.cls ≠ "java/lang/invoke/VarHandle" ∧ (parseMethodDescriptor yX10_digest.desc).map (fun d => d.parameters.length) = some 0 := by decide +kernel
set_option maxHeartbeats 4000000 in
set_option maxRecDepth 100000 in
theorem wb_X10_digest_153 {X : OX} {post : Int64 → SS → Prop} {K153 : Int32 → SS → Prop} {x1 : Int32} {σ : SS} (hC : o_C X cX10_digest RX10 wsX10_digest 6 148 2) (hR : o_RL X cX10_digest post) (hK153 : ∀ (x1 : Int32) (σ : SS), K153 x1 σ → o_G X σ 153 [(0, .ref (ox_φ X (7, 0, 0))), (1, .int x1)] []) (h : VB_X10_digest_153 post K153 x1 σ) : o_G X σ 153 [(0, .ref (ox_φ X (7, 0, 0))), (1, .int x1)] [] := by
  unfold VB_X10_digest_153 at h
  refine g_iload_n hC 1 dX10_digest_153 rfl rfl ?_
  refine g_bipush (v := (12 : Int32)) hC dX10_digest_154 (by decide) ?_
  refine g_icmp_ge hC 175 dX10_digest_156 (by decide) (fun z => ?_) (fun z => ?_)
  · have h := h.1 z
    refine g_aload_n hC 0 dX10_digest_175 rfl rfl ?_
    refine g_get (C := RX10) (T := TX10) (N := 25) (v := .long (σ.2 24)) hC o_iX10 (o_eX10 _ _ _ _) rfl ki_X10_digest_X10 24 (by decide) kw_X10_digest_2 rfl dX10_digest_176 ?_
    exact hR _ _ _ _ dX10_digest_179 h
  · have h := h.2 z
    refine g_aload_n hC 0 dX10_digest_159 rfl rfl ?_
    refine g_aload_n hC 0 dX10_digest_160 rfl rfl ?_
    refine g_iload_n hC 1 dX10_digest_161 rfl rfl ?_
    refine g_ri (r_V (C := RX10) (T := TX10) (N := 25) (As := [.int x1]) (rest := [.ref (ox_φ X (7, 0, 0))]) hC o_iX10 (o_eX10 _ _ _ _) rfl (c_X10_howMany (l := ox_l X) (φ := ox_φ X) (D := ox_D X) (cI := ox_I X) (cB := ox_B X) hC.J  h) gX10_digest_X10_howMany rfl hd_X10_howMany ⟨Nat.le_of_ble_eq_true rfl, Nat.le_of_ble_eq_true rfl⟩ rfl rfl (Nat.le_of_ble_eq_true rfl) dX10_digest_162) (fun v162 s162 h => ?_)
    refine g_i2l hC dX10_digest_165 ?_
    refine g_rv (r_V (C := RX10) (T := TX10) (N := 25) (As := [.long (v162).toInt64]) (rest := []) hC o_iX10 (o_eX10 _ _ _ _) rfl (c_X10_mix (l := ox_l X) (φ := ox_φ X) (D := ox_D X) (cI := ox_I X) (cB := ox_B X) hC.J  h) gX10_digest_X10_mix rfl hd_X10_mix ⟨Nat.le_of_ble_eq_true rfl, Nat.le_of_ble_eq_true rfl⟩ rfl rfl (Nat.le_of_ble_eq_true rfl) dX10_digest_166) (fun s166 h => ?_)
    refine g_iinc (v := (x1 + (1 : Int32))) hC 1 [(1, .int (x1 + (1 : Int32))), (0, .ref (ox_φ X (7, 0, 0)))] dX10_digest_169 rfl rfl (by decide) rfl ?_
    refine g_goto hC 153 dX10_digest_172 (by decide) ?_
    refine g_sub [1, 0] rfl ?_
    exact hK153 _ _ h
set_option maxHeartbeats 4000000 in
set_option maxRecDepth 100000 in
theorem lp_X10_digest_153 {X : OX} {post : Int64 → SS → Prop} (hC : o_C X cX10_digest RX10 wsX10_digest 6 148 2) (hR : o_RL X cX10_digest post) : ∀ (n : Nat) (a : Int32) (σ : SS), LP_X10_digest_153 post n a σ → o_G X σ 153 [(0, .ref (ox_φ X (7, 0, 0))), (1, .int a)] [] :=
 o_lp_G (fun K hK a σ h => wb_X10_digest_153 hC hR (fun x1 σ h => hK x1 σ h) h)
set_option maxHeartbeats 4000000 in
set_option maxRecDepth 100000 in
theorem wb_X10_digest_126 {X : OX} {post : Int64 → SS → Prop} {K126 : Int32 → SS → Prop} {x1 : Int32} {σ : SS} (hC : o_C X cX10_digest RX10 wsX10_digest 6 148 2) (hR : o_RL X cX10_digest post) (hK126 : ∀ (x1 : Int32) (σ : SS), K126 x1 σ → o_G X σ 126 [(0, .ref (ox_φ X (7, 0, 0))), (1, .int x1)] []) (h : VB_X10_digest_126 post K126 x1 σ) : o_G X σ 126 [(0, .ref (ox_φ X (7, 0, 0))), (1, .int x1)] [] := by
  unfold VB_X10_digest_126 at h
  refine g_iload_n hC 1 dX10_digest_126 rfl rfl ?_
  refine g_aload_n hC 0 dX10_digest_127 rfl rfl ?_
  refine g_get (C := RX10) (T := TX10) (N := 25) (v := .int (σ.1 (7, 0, 0) 12)) hC o_iX10 (o_eX10 _ _ _ _) rfl ki_X10_digest_X10 12 (by decide) kw_X10_digest_4 rfl dX10_digest_128 ?_
  refine g_icmp_ge hC 151 dX10_digest_131 (by decide) (fun z => ?_) (fun z => ?_)
  · have h := h.1 z
    refine g_iconst (v := (0 : Int32)) hC dX10_digest_151 (by decide) ?_
    refine g_istore_n hC [(1, .int (0 : Int32)), (0, .ref (ox_φ X (7, 0, 0)))] dX10_digest_152 rfl (by decide) rfl ?_
    refine g_sub [1, 0] rfl ?_
    obtain ⟨n, h⟩ := h
    exact lp_X10_digest_153 hC hR n _ _ h
  · have h := h.2 z
    refine g_aload_n hC 0 dX10_digest_134 rfl rfl ?_
    refine g_aload_n hC 0 dX10_digest_135 rfl rfl ?_
    refine g_get (C := RX10) (T := TX10) (N := 25) (v := .ref (ox_φ X (8, 0, 8))) hC o_iX10 (o_eX10 _ _ _ _) rfl ki_X10_digest_X10 13 (by decide) kw_X10_digest_5 rfl dX10_digest_136 ?_
    refine g_iload_n hC 1 dX10_digest_139 rfl rfl ?_
    refine g_bald hC o_M8 h.1 dX10_digest_140 ?_
    have h := h.2
    refine g_i2l hC dX10_digest_141 ?_
    refine g_rv (r_V (C := RX10) (T := TX10) (N := 25) (As := [.long ((σ.1 (8, 0, 8) (x1).toNatClampNeg)).toInt64]) (rest := []) hC o_iX10 (o_eX10 _ _ _ _) rfl (c_X10_mix (l := ox_l X) (φ := ox_φ X) (D := ox_D X) (cI := ox_I X) (cB := ox_B X) hC.J  h) gX10_digest_X10_mix rfl hd_X10_mix ⟨Nat.le_of_ble_eq_true rfl, Nat.le_of_ble_eq_true rfl⟩ rfl rfl (Nat.le_of_ble_eq_true rfl) dX10_digest_142) (fun s142 h => ?_)
    refine g_iinc (v := (x1 + (1 : Int32))) hC 1 [(1, .int (x1 + (1 : Int32))), (0, .ref (ox_φ X (7, 0, 0)))] dX10_digest_145 rfl rfl (by decide) rfl ?_
    refine g_goto hC 126 dX10_digest_148 (by decide) ?_
    refine g_sub [1, 0] rfl ?_
    exact hK126 _ _ h
set_option maxHeartbeats 4000000 in
set_option maxRecDepth 100000 in
theorem lp_X10_digest_126 {X : OX} {post : Int64 → SS → Prop} (hC : o_C X cX10_digest RX10 wsX10_digest 6 148 2) (hR : o_RL X cX10_digest post) : ∀ (n : Nat) (a : Int32) (σ : SS), LP_X10_digest_126 post n a σ → o_G X σ 126 [(0, .ref (ox_φ X (7, 0, 0))), (1, .int a)] [] :=
 o_lp_G (fun K hK a σ h => wb_X10_digest_126 hC hR (fun x1 σ h => hK x1 σ h) h)
set_option maxHeartbeats 4000000 in
set_option maxRecDepth 100000 in
theorem wb_X10_digest_124 {X : OX} {post : Int64 → SS → Prop} {σ : SS} (hC : o_C X cX10_digest RX10 wsX10_digest 6 148 2) (hR : o_RL X cX10_digest post) (h : VB_X10_digest_124 post σ) : o_G X σ 124 [(0, .ref (ox_φ X (7, 0, 0)))] [] := by
  unfold VB_X10_digest_124 at h
  refine g_iconst (v := (0 : Int32)) hC dX10_digest_124 (by decide) ?_
  refine g_istore_n hC [(1, .int (0 : Int32)), (0, .ref (ox_φ X (7, 0, 0)))] dX10_digest_125 rfl (by decide) rfl ?_
  refine g_sub [1, 0] rfl ?_
  obtain ⟨n, h⟩ := h
  exact lp_X10_digest_126 hC hR n _ _ h
set_option maxHeartbeats 4000000 in
set_option maxRecDepth 100000 in
theorem wb_X10_digest_58 {X : OX} {post : Int64 → SS → Prop} {K58 : Int32 → SS → Prop} {x1 : Int32} {σ : SS} (hC : o_C X cX10_digest RX10 wsX10_digest 6 148 2) (hR : o_RL X cX10_digest post) (hK58 : ∀ (x1 : Int32) (σ : SS), K58 x1 σ → o_G X σ 58 [(0, .ref (ox_φ X (7, 0, 0))), (1, .int x1)] []) (h : VB_X10_digest_58 post K58 x1 σ) : o_G X σ 58 [(0, .ref (ox_φ X (7, 0, 0))), (1, .int x1)] [] := by
  unfold VB_X10_digest_58 at h
  refine g_iload_n hC 1 dX10_digest_58 rfl rfl ?_
  refine g_bipush (v := (16 : Int32)) hC dX10_digest_59 (by decide) ?_
  refine g_icmp_ge hC 80 dX10_digest_61 (by decide) (fun z => ?_) (fun z => ?_)
  · have h := h.1 z
    refine g_aload_n hC 0 dX10_digest_80 rfl rfl ?_
    refine g_aload_n hC 0 dX10_digest_81 rfl rfl ?_
    refine g_bipush (v := (10 : Int32)) hC dX10_digest_82 (by decide) ?_
    refine g_iconst (v := (0 : Int32)) hC dX10_digest_84 (by decide) ?_
    refine g_ri (r_V (C := RX10) (T := TX10) (N := 25) (As := [.int (10 : Int32), .int (0 : Int32)]) (rest := [.ref (ox_φ X (7, 0, 0))]) hC o_iX10 (o_eX10 _ _ _ _) rfl (c_X10_songsNow (l := ox_l X) (φ := ox_φ X) (D := ox_D X) (cI := ox_I X) (cB := ox_B X) hC.J  h) gX10_digest_X10_songsNow rfl hd_X10_songsNow ⟨Nat.le_of_ble_eq_true rfl, Nat.le_of_ble_eq_true rfl⟩ rfl rfl (Nat.le_of_ble_eq_true rfl) dX10_digest_85) (fun v85 s85 h => ?_)
    refine g_i2l hC dX10_digest_88 ?_
    refine g_rv (r_V (C := RX10) (T := TX10) (N := 25) (As := [.long (v85).toInt64]) (rest := []) hC o_iX10 (o_eX10 _ _ _ _) rfl (c_X10_mix (l := ox_l X) (φ := ox_φ X) (D := ox_D X) (cI := ox_I X) (cB := ox_B X) hC.J  h) gX10_digest_X10_mix rfl hd_X10_mix ⟨Nat.le_of_ble_eq_true rfl, Nat.le_of_ble_eq_true rfl⟩ rfl rfl (Nat.le_of_ble_eq_true rfl) dX10_digest_89) (fun s89 h => ?_)
    refine g_aload_n hC 0 dX10_digest_92 rfl rfl ?_
    refine g_aload_n hC 0 dX10_digest_93 rfl rfl ?_
    refine g_bipush (v := (10 : Int32)) hC dX10_digest_94 (by decide) ?_
    refine g_iconst (v := (1 : Int32)) hC dX10_digest_96 (by decide) ?_
    refine g_ri (r_V (C := RX10) (T := TX10) (N := 25) (As := [.int (10 : Int32), .int (1 : Int32)]) (rest := [.ref (ox_φ X (7, 0, 0))]) hC o_iX10 (o_eX10 _ _ _ _) rfl (c_X10_songsNow (l := ox_l X) (φ := ox_φ X) (D := ox_D X) (cI := ox_I X) (cB := ox_B X) hC.J  h) gX10_digest_X10_songsNow rfl hd_X10_songsNow ⟨Nat.le_of_ble_eq_true rfl, Nat.le_of_ble_eq_true rfl⟩ rfl rfl (Nat.le_of_ble_eq_true rfl) dX10_digest_97) (fun v97 s97 h => ?_)
    refine g_i2l hC dX10_digest_100 ?_
    refine g_rv (r_V (C := RX10) (T := TX10) (N := 25) (As := [.long (v97).toInt64]) (rest := []) hC o_iX10 (o_eX10 _ _ _ _) rfl (c_X10_mix (l := ox_l X) (φ := ox_φ X) (D := ox_D X) (cI := ox_I X) (cB := ox_B X) hC.J  h) gX10_digest_X10_mix rfl hd_X10_mix ⟨Nat.le_of_ble_eq_true rfl, Nat.le_of_ble_eq_true rfl⟩ rfl rfl (Nat.le_of_ble_eq_true rfl) dX10_digest_101) (fun s101 h => ?_)
    refine g_aload_n hC 0 dX10_digest_104 rfl rfl ?_
    refine g_aload_n hC 0 dX10_digest_105 rfl rfl ?_
    refine g_iconst (v := (0 : Int32)) hC dX10_digest_106 (by decide) ?_
    refine g_ri (r_V (C := RX10) (T := TX10) (N := 25) (As := [.int (0 : Int32)]) (rest := [.ref (ox_φ X (7, 0, 0))]) hC o_iX10 (o_eX10 _ _ _ _) rfl (c_X10_sickNow (l := ox_l X) (φ := ox_φ X) (D := ox_D X) (cI := ox_I X) (cB := ox_B X) hC.J  h) gX10_digest_X10_sickNow rfl hd_X10_sickNow ⟨Nat.le_of_ble_eq_true rfl, Nat.le_of_ble_eq_true rfl⟩ rfl rfl (Nat.le_of_ble_eq_true rfl) dX10_digest_107) (fun v107 s107 h => ?_)
    refine g_i2l hC dX10_digest_110 ?_
    refine g_rv (r_V (C := RX10) (T := TX10) (N := 25) (As := [.long (v107).toInt64]) (rest := []) hC o_iX10 (o_eX10 _ _ _ _) rfl (c_X10_mix (l := ox_l X) (φ := ox_φ X) (D := ox_D X) (cI := ox_I X) (cB := ox_B X) hC.J  h) gX10_digest_X10_mix rfl hd_X10_mix ⟨Nat.le_of_ble_eq_true rfl, Nat.le_of_ble_eq_true rfl⟩ rfl rfl (Nat.le_of_ble_eq_true rfl) dX10_digest_111) (fun s111 h => ?_)
    refine g_aload_n hC 0 dX10_digest_114 rfl rfl ?_
    refine g_aload_n hC 0 dX10_digest_115 rfl rfl ?_
    refine g_iconst (v := (1 : Int32)) hC dX10_digest_116 (by decide) ?_
    refine g_ri (r_V (C := RX10) (T := TX10) (N := 25) (As := [.int (1 : Int32)]) (rest := [.ref (ox_φ X (7, 0, 0))]) hC o_iX10 (o_eX10 _ _ _ _) rfl (c_X10_sickNow (l := ox_l X) (φ := ox_φ X) (D := ox_D X) (cI := ox_I X) (cB := ox_B X) hC.J  h) gX10_digest_X10_sickNow rfl hd_X10_sickNow ⟨Nat.le_of_ble_eq_true rfl, Nat.le_of_ble_eq_true rfl⟩ rfl rfl (Nat.le_of_ble_eq_true rfl) dX10_digest_117) (fun v117 s117 h => ?_)
    refine g_i2l hC dX10_digest_120 ?_
    refine g_rv (r_V (C := RX10) (T := TX10) (N := 25) (As := [.long (v117).toInt64]) (rest := []) hC o_iX10 (o_eX10 _ _ _ _) rfl (c_X10_mix (l := ox_l X) (φ := ox_φ X) (D := ox_D X) (cI := ox_I X) (cB := ox_B X) hC.J  h) gX10_digest_X10_mix rfl hd_X10_mix ⟨Nat.le_of_ble_eq_true rfl, Nat.le_of_ble_eq_true rfl⟩ rfl rfl (Nat.le_of_ble_eq_true rfl) dX10_digest_121) (fun s121 h => ?_)
    refine g_sub [0] rfl ?_
    exact wb_X10_digest_124 hC hR h
  · have h := h.2 z
    refine g_aload_n hC 0 dX10_digest_64 rfl rfl ?_
    refine g_aload_n hC 0 dX10_digest_65 rfl rfl ?_
    refine g_iload_n hC 1 dX10_digest_66 rfl rfl ?_
    refine g_ri (r_V (C := RX10) (T := TX10) (N := 25) (As := [.int x1]) (rest := [.ref (ox_φ X (7, 0, 0))]) hC o_iX10 (o_eX10 _ _ _ _) rfl (c_X10_orderNow (l := ox_l X) (φ := ox_φ X) (D := ox_D X) (cI := ox_I X) (cB := ox_B X) hC.J  h) gX10_digest_X10_orderNow rfl hd_X10_orderNow ⟨Nat.le_of_ble_eq_true rfl, Nat.le_of_ble_eq_true rfl⟩ rfl rfl (Nat.le_of_ble_eq_true rfl) dX10_digest_67) (fun v67 s67 h => ?_)
    refine g_i2l hC dX10_digest_70 ?_
    refine g_rv (r_V (C := RX10) (T := TX10) (N := 25) (As := [.long (v67).toInt64]) (rest := []) hC o_iX10 (o_eX10 _ _ _ _) rfl (c_X10_mix (l := ox_l X) (φ := ox_φ X) (D := ox_D X) (cI := ox_I X) (cB := ox_B X) hC.J  h) gX10_digest_X10_mix rfl hd_X10_mix ⟨Nat.le_of_ble_eq_true rfl, Nat.le_of_ble_eq_true rfl⟩ rfl rfl (Nat.le_of_ble_eq_true rfl) dX10_digest_71) (fun s71 h => ?_)
    refine g_iinc (v := (x1 + (1 : Int32))) hC 1 [(1, .int (x1 + (1 : Int32))), (0, .ref (ox_φ X (7, 0, 0)))] dX10_digest_74 rfl rfl (by decide) rfl ?_
    refine g_goto hC 58 dX10_digest_77 (by decide) ?_
    refine g_sub [1, 0] rfl ?_
    exact hK58 _ _ h
set_option maxHeartbeats 4000000 in
set_option maxRecDepth 100000 in
theorem lp_X10_digest_58 {X : OX} {post : Int64 → SS → Prop} (hC : o_C X cX10_digest RX10 wsX10_digest 6 148 2) (hR : o_RL X cX10_digest post) : ∀ (n : Nat) (a : Int32) (σ : SS), LP_X10_digest_58 post n a σ → o_G X σ 58 [(0, .ref (ox_φ X (7, 0, 0))), (1, .int a)] [] :=
 o_lp_G (fun K hK a σ h => wb_X10_digest_58 hC hR (fun x1 σ h => hK x1 σ h) h)
set_option maxHeartbeats 4000000 in
set_option maxRecDepth 100000 in
theorem wb_X10_digest_9 {X : OX} {post : Int64 → SS → Prop} {K9 : Int32 → SS → Prop} {x1 : Int32} {σ : SS} (hC : o_C X cX10_digest RX10 wsX10_digest 6 148 2) (hR : o_RL X cX10_digest post) (hK9 : ∀ (x1 : Int32) (σ : SS), K9 x1 σ → o_G X σ 9 [(0, .ref (ox_φ X (7, 0, 0))), (1, .int x1)] []) (h : VB_X10_digest_9 post K9 x1 σ) : o_G X σ 9 [(0, .ref (ox_φ X (7, 0, 0))), (1, .int x1)] [] := by
  unfold VB_X10_digest_9 at h
  refine g_iload_n hC 1 dX10_digest_9 rfl rfl ?_
  refine g_aload_n hC 0 dX10_digest_10 rfl rfl ?_
  refine g_get (C := RX10) (T := TX10) (N := 25) (v := .int (σ.1 (7, 0, 0) 4)) hC o_iX10 (o_eX10 _ _ _ _) rfl ki_X10_digest_X10 4 (by decide) kw_X10_digest_3 rfl dX10_digest_11 ?_
  refine g_icmp_ge hC 28 dX10_digest_14 (by decide) (fun z => ?_) (fun z => ?_)
  · have h := h.1 z
    refine g_aload_n hC 0 dX10_digest_28 rfl rfl ?_
    refine g_get (C := RX10) (T := TX10) (N := 25) (v := .int (σ.1 (7, 0, 0) 4)) hC o_iX10 (o_eX10 _ _ _ _) rfl ki_X10_digest_X10 4 (by decide) kw_X10_digest_3 rfl dX10_digest_29 ?_
    refine g_if_le hC 124 dX10_digest_32 (by decide) (fun z => ?_) (fun z => ?_)
    · have h := h.1 z
      refine g_sub [0] rfl ?_
      exact wb_X10_digest_124 hC hR h
    · have h := h.2 z
      refine g_aload_n hC 0 dX10_digest_35 rfl rfl ?_
      refine g_aload_n hC 0 dX10_digest_36 rfl rfl ?_
      refine g_iconst (v := (0 : Int32)) hC dX10_digest_37 (by decide) ?_
      refine g_ri (r_V (C := RX10) (T := TX10) (N := 25) (As := [.int (0 : Int32)]) (rest := [.ref (ox_φ X (7, 0, 0))]) hC o_iX10 (o_eX10 _ _ _ _) rfl (c_X10_orderNow (l := ox_l X) (φ := ox_φ X) (D := ox_D X) (cI := ox_I X) (cB := ox_B X) hC.J  h) gX10_digest_X10_orderNow rfl hd_X10_orderNow ⟨Nat.le_of_ble_eq_true rfl, Nat.le_of_ble_eq_true rfl⟩ rfl rfl (Nat.le_of_ble_eq_true rfl) dX10_digest_38) (fun v38 s38 h => ?_)
      refine g_i2l hC dX10_digest_41 ?_
      refine g_rv (r_V (C := RX10) (T := TX10) (N := 25) (As := [.long (v38).toInt64]) (rest := []) hC o_iX10 (o_eX10 _ _ _ _) rfl (c_X10_mix (l := ox_l X) (φ := ox_φ X) (D := ox_D X) (cI := ox_I X) (cB := ox_B X) hC.J  h) gX10_digest_X10_mix rfl hd_X10_mix ⟨Nat.le_of_ble_eq_true rfl, Nat.le_of_ble_eq_true rfl⟩ rfl rfl (Nat.le_of_ble_eq_true rfl) dX10_digest_42) (fun s42 h => ?_)
      refine g_aload_n hC 0 dX10_digest_45 rfl rfl ?_
      refine g_aload_n hC 0 dX10_digest_46 rfl rfl ?_
      refine g_iconst (v := (1 : Int32)) hC dX10_digest_47 (by decide) ?_
      refine g_ri (r_V (C := RX10) (T := TX10) (N := 25) (As := [.int (1 : Int32)]) (rest := [.ref (ox_φ X (7, 0, 0))]) hC o_iX10 (o_eX10 _ _ _ _) rfl (c_X10_orderNow (l := ox_l X) (φ := ox_φ X) (D := ox_D X) (cI := ox_I X) (cB := ox_B X) hC.J  h) gX10_digest_X10_orderNow rfl hd_X10_orderNow ⟨Nat.le_of_ble_eq_true rfl, Nat.le_of_ble_eq_true rfl⟩ rfl rfl (Nat.le_of_ble_eq_true rfl) dX10_digest_48) (fun v48 s48 h => ?_)
      refine g_i2l hC dX10_digest_51 ?_
      refine g_rv (r_V (C := RX10) (T := TX10) (N := 25) (As := [.long (v48).toInt64]) (rest := []) hC o_iX10 (o_eX10 _ _ _ _) rfl (c_X10_mix (l := ox_l X) (φ := ox_φ X) (D := ox_D X) (cI := ox_I X) (cB := ox_B X) hC.J  h) gX10_digest_X10_mix rfl hd_X10_mix ⟨Nat.le_of_ble_eq_true rfl, Nat.le_of_ble_eq_true rfl⟩ rfl rfl (Nat.le_of_ble_eq_true rfl) dX10_digest_52) (fun s52 h => ?_)
      refine g_bipush (v := (10 : Int32)) hC dX10_digest_55 (by decide) ?_
      refine g_istore_n hC [(1, .int (10 : Int32)), (0, .ref (ox_φ X (7, 0, 0)))] dX10_digest_57 rfl (by decide) rfl ?_
      refine g_sub [1, 0] rfl ?_
      obtain ⟨n, h⟩ := h
      exact lp_X10_digest_58 hC hR n _ _ h
  · have h := h.2 z
    refine g_aload_n hC 0 dX10_digest_17 rfl rfl ?_
    refine g_iload_n hC 1 dX10_digest_18 rfl rfl ?_
    refine g_rv (r_V (C := RX10) (T := TX10) (N := 25) (As := [.int x1]) (rest := []) hC o_iX10 (o_eX10 _ _ _ _) rfl (c_X10_mixChild (l := ox_l X) (φ := ox_φ X) (D := ox_D X) (cI := ox_I X) (cB := ox_B X) hC.J  h) gX10_digest_X10_mixChild rfl hd_X10_mixChild ⟨Nat.le_of_ble_eq_true rfl, Nat.le_of_ble_eq_true rfl⟩ rfl rfl (Nat.le_of_ble_eq_true rfl) dX10_digest_19) (fun s19 h => ?_)
    refine g_iinc (v := (x1 + (1 : Int32))) hC 1 [(1, .int (x1 + (1 : Int32))), (0, .ref (ox_φ X (7, 0, 0)))] dX10_digest_22 rfl rfl (by decide) rfl ?_
    refine g_goto hC 9 dX10_digest_25 (by decide) ?_
    refine g_sub [1, 0] rfl ?_
    exact hK9 _ _ h
set_option maxHeartbeats 4000000 in
set_option maxRecDepth 100000 in
theorem lp_X10_digest_9 {X : OX} {post : Int64 → SS → Prop} (hC : o_C X cX10_digest RX10 wsX10_digest 6 148 2) (hR : o_RL X cX10_digest post) : ∀ (n : Nat) (a : Int32) (σ : SS), LP_X10_digest_9 post n a σ → o_G X σ 9 [(0, .ref (ox_φ X (7, 0, 0))), (1, .int a)] [] :=
 o_lp_G (fun K hK a σ h => wb_X10_digest_9 hC hR (fun x1 σ h => hK x1 σ h) h)
set_option maxHeartbeats 4000000 in
set_option maxRecDepth 100000 in
theorem wv_X10_digest {X : OX} {post : Int64 → SS → Prop} {σ : SS} (hC : o_C X cX10_digest RX10 wsX10_digest 6 148 2) (hR : o_RL X cX10_digest post) (h : V_X10_digest σ post) : o_G X σ 0 [(0, .ref (ox_φ X (7, 0, 0)))] [] := by
  unfold V_X10_digest at h
  refine g_aload_n hC 0 dX10_digest_0 rfl rfl ?_
  refine g_ldc2 hC kw_X10_digest_1 dX10_digest_1 ?_
  refine g_putl (C := RX10) (T := TX10) (N := 25) hC (o_eX10 _ _ _ _) rfl ki_X10_digest_X10 tyX10_ok nmX10 24 (by decide) kw_X10_digest_2 rfl rfl rfl (Nat.le_of_ble_eq_true rfl) (o_pX10_24 _ _ _ _ _) dX10_digest_4 ?_
  refine g_iconst (v := (0 : Int32)) hC dX10_digest_7 (by decide) ?_
  refine g_istore_n hC [(1, .int (0 : Int32)), (0, .ref (ox_φ X (7, 0, 0)))] dX10_digest_8 rfl (by decide) rfl ?_
  refine g_sub [1, 0] rfl ?_
  obtain ⟨n, h⟩ := h
  exact lp_X10_digest_9 hC hR n _ _ h
set_option maxRecDepth 100000 in
theorem c_X10_digest {l : Launch} {φ : OI → Nat} {D : va_G} {cI cB : ClassId} (hJ : o_J φ) {σ : SS} {post : Int64 → SS → Prop} (h : V_X10_digest σ post) : o_Ml l φ D cI cB yX10_digest wsX10_digest 6 148 [.ref (φ (7, 0, 0))] σ post :=
 o_met_l hJ (by decide +kernel) rfl (Nat.le_of_ble_eq_true rfl) (fun p e s m args below meth c Q hC hR => wv_X10_digest hC hR h)
