theorem kw_X10_songsNow_1 : Cond.fieldLink RX10 79 "SchoolRowModel" "children" "I" ∈ wsX10_songsNow := List.mem_of_getElem? (i := 1) (by decide +kernel)
theorem kw_X10_songsNow_2 : Cond.fieldLink RX10 31 "SchoolRowModel" "onSeat" "[I" ∈ wsX10_songsNow := List.mem_of_getElem? (i := 2) (by decide +kernel)
theorem kw_X10_songsNow_3 : Cond.fieldLink RX10 7 "SchoolRowModel" "breathOf" "[I" ∈ wsX10_songsNow := List.mem_of_getElem? (i := 3) (by decide +kernel)
theorem ki_X10_songsNow_X10 : ∀ w ∈ wsX100, w ∈ wsX10_songsNow := fun _ h => List.mem_cons_of_mem _ (List.mem_append_right _ h)
theorem hd_X10_songsNow : yX10_songsNow.cls = RX10 ∧ yX10_songsNow.cls ≠ "java/lang/invoke/MethodHandle" ∧ yX10_songsNow.cls ≠ "java/lang/invoke/VarHandle" ∧ (parseMethodDescriptor yX10_songsNow.desc).map (fun d => d.parameters.length) = some 2 := by decide +kernel
set_option maxHeartbeats 4000000 in
set_option maxRecDepth 100000 in
theorem wb_X10_songsNow_86 {X : OX} {post : Int32 → SS → Prop} {K43 : Int32 → Int32 → Int32 → Int32 → Int32 → SS → Prop} {K56 : Int32 → Int32 → Int32 → Int32 → Int32 → Int32 → Int32 → SS → Prop} {x1 : Int32} {x2 : Int32} {x3 : Int32} {x4 : Int32} {x5 : Int32} {x7 : Int32} {t0 : Int32} {t1 : Int32} {σ : SS} (hC : o_C X cX10_songsNow RX10 wsX10_songsNow 4 99 8) (hR : o_RI X cX10_songsNow post) (hK43 : ∀ (x1 : Int32) (x2 : Int32) (x3 : Int32) (x4 : Int32) (x5 : Int32) (σ : SS), K43 x1 x2 x3 x4 x5 σ → o_G X σ 43 [(0, .ref (ox_φ X (7, 0, 0))), (1, .int x1), (2, .int x2), (3, .int x3), (4, .int x4), (5, .int x5)] []) (hK56 : ∀ (x1 : Int32) (x2 : Int32) (x3 : Int32) (x4 : Int32) (x5 : Int32) (x6 : Int32) (x7 : Int32) (σ : SS), K56 x1 x2 x3 x4 x5 x6 x7 σ → o_G X σ 56 [(0, .ref (ox_φ X (7, 0, 0))), (1, .int x1), (2, .int x2), (3, .int x3), (4, .int x4), (5, .int x5), (6, .int x6), (7, .int x7)] []) (h : VB_X10_songsNow_86 post K43 K56 x1 x2 x3 x4 x5 x7 t0 t1 σ) : o_G X σ 86 [(0, .ref (ox_φ X (7, 0, 0))), (1, .int x1), (2, .int x2), (3, .int x3), (4, .int x4), (5, .int x5), (7, .int x7)] [.int t0, .int t1] := by
  unfold VB_X10_songsNow_86 at h
  refine g_iadd hC dX10_songsNow_86 ?_
  refine g_istore hC [(6, .int (t1 + t0)), (0, .ref (ox_φ X (7, 0, 0))), (1, .int x1), (2, .int x2), (3, .int x3), (4, .int x4), (5, .int x5), (7, .int x7)] dX10_songsNow_87 (by decide) rfl ?_
  refine g_iinc (v := (x7 + (1 : Int32))) hC 7 [(7, .int (x7 + (1 : Int32))), (6, .int (t1 + t0)), (0, .ref (ox_φ X (7, 0, 0))), (1, .int x1), (2, .int x2), (3, .int x3), (4, .int x4), (5, .int x5)] dX10_songsNow_89 rfl rfl (by decide) rfl ?_
  refine g_goto hC 56 dX10_songsNow_92 (by decide) ?_
  refine g_sub [2, 3, 4, 5, 6, 7, 1, 0] rfl ?_
  exact hK56 _ _ _ _ _ _ _ _ h
set_option maxHeartbeats 4000000 in
set_option maxRecDepth 100000 in
theorem wb_X10_songsNow_139 {X : OX} {post : Int32 → SS → Prop} {K43 : Int32 → Int32 → Int32 → Int32 → Int32 → SS → Prop} {x1 : Int32} {x2 : Int32} {x3 : Int32} {x4 : Int32} {x5 : Int32} {σ : SS} (hC : o_C X cX10_songsNow RX10 wsX10_songsNow 4 99 8) (hR : o_RI X cX10_songsNow post) (hK43 : ∀ (x1 : Int32) (x2 : Int32) (x3 : Int32) (x4 : Int32) (x5 : Int32) (σ : SS), K43 x1 x2 x3 x4 x5 σ → o_G X σ 43 [(0, .ref (ox_φ X (7, 0, 0))), (1, .int x1), (2, .int x2), (3, .int x3), (4, .int x4), (5, .int x5)] []) (h : VB_X10_songsNow_139 post K43 x1 x2 x3 x4 x5 σ) : o_G X σ 139 [(0, .ref (ox_φ X (7, 0, 0))), (1, .int x1), (2, .int x2), (3, .int x3), (4, .int x4), (5, .int x5)] [] := by
  unfold VB_X10_songsNow_139 at h
  refine g_iinc (v := (x5 + (1 : Int32))) hC 5 [(5, .int (x5 + (1 : Int32))), (0, .ref (ox_φ X (7, 0, 0))), (1, .int x1), (2, .int x2), (3, .int x3), (4, .int x4)] dX10_songsNow_139 rfl rfl (by decide) rfl ?_
  refine g_goto hC 43 dX10_songsNow_142 (by decide) ?_
  refine g_sub [1, 2, 3, 4, 5, 0] rfl ?_
  exact hK43 _ _ _ _ _ _ h
set_option maxHeartbeats 4000000 in
set_option maxRecDepth 100000 in
theorem wb_X10_songsNow_137 {X : OX} {post : Int32 → SS → Prop} {K43 : Int32 → Int32 → Int32 → Int32 → Int32 → SS → Prop} {x1 : Int32} {x2 : Int32} {x3 : Int32} {x5 : Int32} {t0 : Int32} {σ : SS} (hC : o_C X cX10_songsNow RX10 wsX10_songsNow 4 99 8) (hR : o_RI X cX10_songsNow post) (hK43 : ∀ (x1 : Int32) (x2 : Int32) (x3 : Int32) (x4 : Int32) (x5 : Int32) (σ : SS), K43 x1 x2 x3 x4 x5 σ → o_G X σ 43 [(0, .ref (ox_φ X (7, 0, 0))), (1, .int x1), (2, .int x2), (3, .int x3), (4, .int x4), (5, .int x5)] []) (h : VB_X10_songsNow_137 post K43 x1 x2 x3 x5 t0 σ) : o_G X σ 137 [(0, .ref (ox_φ X (7, 0, 0))), (1, .int x1), (2, .int x2), (3, .int x3), (5, .int x5)] [.int t0] := by
  unfold VB_X10_songsNow_137 at h
  refine g_istore hC [(4, .int t0), (0, .ref (ox_φ X (7, 0, 0))), (1, .int x1), (2, .int x2), (3, .int x3), (5, .int x5)] dX10_songsNow_137 (by decide) rfl ?_
  refine g_sub [1, 2, 3, 4, 0, 5] rfl ?_
  exact wb_X10_songsNow_139 hC hR hK43 h
set_option maxHeartbeats 4000000 in
set_option maxRecDepth 100000 in
theorem wb_X10_songsNow_122 {X : OX} {post : Int32 → SS → Prop} {K43 : Int32 → Int32 → Int32 → Int32 → Int32 → SS → Prop} {x1 : Int32} {x2 : Int32} {x4 : Int32} {x5 : Int32} {x7 : Int32} {t0 : Int32} {σ : SS} (hC : o_C X cX10_songsNow RX10 wsX10_songsNow 4 99 8) (hR : o_RI X cX10_songsNow post) (hK43 : ∀ (x1 : Int32) (x2 : Int32) (x3 : Int32) (x4 : Int32) (x5 : Int32) (σ : SS), K43 x1 x2 x3 x4 x5 σ → o_G X σ 43 [(0, .ref (ox_φ X (7, 0, 0))), (1, .int x1), (2, .int x2), (3, .int x3), (4, .int x4), (5, .int x5)] []) (h : VB_X10_songsNow_122 post K43 x1 x2 x4 x5 x7 t0 σ) : o_G X σ 122 [(0, .ref (ox_φ X (7, 0, 0))), (1, .int x1), (2, .int x2), (4, .int x4), (5, .int x5), (7, .int x7)] [.int t0] := by
  unfold VB_X10_songsNow_122 at h
  refine g_istore_n hC [(3, .int t0), (0, .ref (ox_φ X (7, 0, 0))), (1, .int x1), (2, .int x2), (4, .int x4), (5, .int x5), (7, .int x7)] dX10_songsNow_122 rfl (by decide) rfl ?_
  refine g_iload hC 6 dX10_songsNow_123 rfl ?_
  refine g_iload hC 4 dX10_songsNow_125 rfl ?_
  refine g_icmp_le hC 135 dX10_songsNow_127 (by decide) (fun z => ?_) (fun z => ?_)
  · have h := h.1 z
    refine g_iload hC 4 dX10_songsNow_135 rfl ?_
    refine g_sub [1, 2, 3, 0, 5] rfl ?_
    exact wb_X10_songsNow_137 hC hR hK43 h
  · have h := h.2 z
    refine g_iload hC 6 dX10_songsNow_130 rfl ?_
    refine g_goto hC 137 dX10_songsNow_132 (by decide) ?_
    refine g_sub [1, 2, 3, 0, 5] rfl ?_
    exact wb_X10_songsNow_137 hC hR hK43 h
set_option maxHeartbeats 4000000 in
set_option maxRecDepth 100000 in
theorem wb_X10_songsNow_56 {X : OX} {post : Int32 → SS → Prop} {K43 : Int32 → Int32 → Int32 → Int32 → Int32 → SS → Prop} {K56 : Int32 → Int32 → Int32 → Int32 → Int32 → Int32 → Int32 → SS → Prop} {x1 : Int32} {x2 : Int32} {x3 : Int32} {x4 : Int32} {x5 : Int32} {x6 : Int32} {x7 : Int32} {σ : SS} (hC : o_C X cX10_songsNow RX10 wsX10_songsNow 4 99 8) (hR : o_RI X cX10_songsNow post) (hK43 : ∀ (x1 : Int32) (x2 : Int32) (x3 : Int32) (x4 : Int32) (x5 : Int32) (σ : SS), K43 x1 x2 x3 x4 x5 σ → o_G X σ 43 [(0, .ref (ox_φ X (7, 0, 0))), (1, .int x1), (2, .int x2), (3, .int x3), (4, .int x4), (5, .int x5)] []) (hK56 : ∀ (x1 : Int32) (x2 : Int32) (x3 : Int32) (x4 : Int32) (x5 : Int32) (x6 : Int32) (x7 : Int32) (σ : SS), K56 x1 x2 x3 x4 x5 x6 x7 σ → o_G X σ 56 [(0, .ref (ox_φ X (7, 0, 0))), (1, .int x1), (2, .int x2), (3, .int x3), (4, .int x4), (5, .int x5), (6, .int x6), (7, .int x7)] []) (h : VB_X10_songsNow_56 post K43 K56 x1 x2 x3 x4 x5 x6 x7 σ) : o_G X σ 56 [(0, .ref (ox_φ X (7, 0, 0))), (1, .int x1), (2, .int x2), (3, .int x3), (4, .int x4), (5, .int x5), (6, .int x6), (7, .int x7)] [] := by
  unfold VB_X10_songsNow_56 at h
  refine g_iload hC 7 dX10_songsNow_56 rfl ?_
  refine g_iconst (v := (4 : Int32)) hC dX10_songsNow_58 (by decide) ?_
  refine g_icmp_ge hC 95 dX10_songsNow_59 (by decide) (fun z => ?_) (fun z => ?_)
  · have h := h.1 z
    refine g_iload hC 6 dX10_songsNow_95 rfl ?_
    refine g_iload_n hC 1 dX10_songsNow_97 rfl rfl ?_
    refine g_icmp_gt hC 139 dX10_songsNow_98 (by decide) (fun z => ?_) (fun z => ?_)
    · have h := h.1 z
      refine g_sub [0, 1, 2, 3, 4, 5] rfl ?_
      exact wb_X10_songsNow_139 hC hR hK43 h
    · have h := h.2 z
      refine g_aload_n hC 0 dX10_songsNow_101 rfl rfl ?_
      refine g_iload hC 5 dX10_songsNow_102 rfl ?_
      refine g_ri (r_V (C := RX10) (T := TX10) (N := 25) (As := [.int x5]) (rest := []) hC o_iX10 (o_eX10 _ _ _ _) rfl (c_X10_sungParts (l := ox_l X) (φ := ox_φ X) (D := ox_D X) (cI := ox_I X) (cB := ox_B X) hC.J  h) gX10_songsNow_X10_sungParts rfl hd_X10_sungParts ⟨Nat.le_of_ble_eq_true rfl, Nat.le_of_ble_eq_true rfl⟩ rfl rfl (Nat.le_of_ble_eq_true rfl) dX10_songsNow_104) (fun v104 s104 h => ?_)
      refine g_istore hC [(7, .int v104), (0, .ref (ox_φ X (7, 0, 0))), (1, .int x1), (2, .int x2), (3, .int x3), (4, .int x4), (5, .int x5), (6, .int x6)] dX10_songsNow_107 (by decide) rfl ?_
      refine g_iload hC 0 dX10_songsNow_109 rfl ?_
      refine g_iload hC 5 dX10_songsNow_111 rfl ?_
      refine g_icmp_le hC 121 dX10_songsNow_113 (by decide) (fun z => ?_) (fun z => ?_)
      · have h := h.1 z
        refine g_iload_n hC 4 dX10_songsNow_121 rfl rfl ?_
        refine g_sub [1, 2, 3, 5, 6, 0] rfl ?_
        exact wb_X10_songsNow_122 hC hR hK43 h
      · have h := h.2 z
        refine g_iload hC 6 dX10_songsNow_116 rfl ?_
        refine g_goto hC 122 dX10_songsNow_118 (by decide) ?_
        refine g_sub [1, 2, 3, 5, 6, 0] rfl ?_
        exact wb_X10_songsNow_122 hC hR hK43 h
  · have h := h.2 z
    refine g_iload hC 6 dX10_songsNow_62 rfl ?_
    refine g_iload hC 5 dX10_songsNow_64 rfl ?_
    refine g_iload hC 7 dX10_songsNow_66 rfl ?_
    refine g_ishr hC dX10_songsNow_68 ?_
    refine g_iconst (v := (1 : Int32)) hC dX10_songsNow_69 (by decide) ?_
    refine g_iand hC dX10_songsNow_70 ?_
    refine g_iconst (v := (1 : Int32)) hC dX10_songsNow_71 (by decide) ?_
    refine g_icmp_ne hC 85 dX10_songsNow_72 (by decide) (fun z => ?_) (fun z => ?_)
    · have h := h.1 z
      refine g_iconst (v := (0 : Int32)) hC dX10_songsNow_85 (by decide) ?_
      refine g_sub [0, 1, 2, 3, 4, 5, 7] rfl ?_
      exact wb_X10_songsNow_86 hC hR hK43 hK56 h
    · have h := h.2 z
      refine g_aload_n hC 0 dX10_songsNow_75 rfl rfl ?_
      refine g_get (C := RX10) (T := TX10) (N := 25) (v := .ref (ox_φ X (8, 0, 0))) hC o_iX10 (o_eX10 _ _ _ _) rfl ki_X10_songsNow_X10 3 (by decide) kw_X10_songsNow_3 rfl dX10_songsNow_76 ?_
      refine g_iload hC 7 dX10_songsNow_79 rfl ?_
      refine g_iald hC o_M0 h.1 dX10_songsNow_81 ?_
      have h := h.2
      refine g_goto hC 86 dX10_songsNow_82 (by decide) ?_
      refine g_sub [0, 1, 2, 3, 4, 5, 7] rfl ?_
      exact wb_X10_songsNow_86 hC hR hK43 hK56 h
set_option maxHeartbeats 4000000 in
set_option maxRecDepth 100000 in
theorem lp_X10_songsNow_56 {X : OX} {post : Int32 → SS → Prop} {K43 : Int32 → Int32 → Int32 → Int32 → Int32 → SS → Prop} (hC : o_C X cX10_songsNow RX10 wsX10_songsNow 4 99 8) (hR : o_RI X cX10_songsNow post) (hK43 : ∀ (x1 : Int32) (x2 : Int32) (x3 : Int32) (x4 : Int32) (x5 : Int32) (σ : SS), K43 x1 x2 x3 x4 x5 σ → o_G X σ 43 [(0, .ref (ox_φ X (7, 0, 0))), (1, .int x1), (2, .int x2), (3, .int x3), (4, .int x4), (5, .int x5)] []) : ∀ (n : Nat) (a : Int32 × Int32 × Int32 × Int32 × Int32 × Int32 × Int32) (σ : SS), LP_X10_songsNow_56 post K43 n a σ → o_G X σ 56 [(0, .ref (ox_φ X (7, 0, 0))), (1, .int a.1), (2, .int a.2.1), (3, .int a.2.2.1), (4, .int a.2.2.2.1), (5, .int a.2.2.2.2.1), (6, .int a.2.2.2.2.2.1), (7, .int a.2.2.2.2.2.2)] [] :=
 o_lp_G (fun K hK a σ h => wb_X10_songsNow_56 hC hR hK43 (fun x1 x2 x3 x4 x5 x6 x7 σ h => hK (x1, x2, x3, x4, x5, x6, x7) σ h) h)
set_option maxHeartbeats 4000000 in
set_option maxRecDepth 100000 in
theorem wb_X10_songsNow_155 {X : OX} {post : Int32 → SS → Prop} {t0 : Int32} {σ : SS} (hC : o_C X cX10_songsNow RX10 wsX10_songsNow 4 99 8) (hR : o_RI X cX10_songsNow post) (h : VB_X10_songsNow_155 post t0 σ) : o_G X σ 155 [] [.int t0] := by
  unfold VB_X10_songsNow_155 at h
  exact hR _ _ _ _ dX10_songsNow_155 h
set_option maxHeartbeats 4000000 in
set_option maxRecDepth 100000 in
theorem wb_X10_songsNow_43 {X : OX} {post : Int32 → SS → Prop} {K43 : Int32 → Int32 → Int32 → Int32 → Int32 → SS → Prop} {x1 : Int32} {x2 : Int32} {x3 : Int32} {x4 : Int32} {x5 : Int32} {σ : SS} (hC : o_C X cX10_songsNow RX10 wsX10_songsNow 4 99 8) (hR : o_RI X cX10_songsNow post) (hK43 : ∀ (x1 : Int32) (x2 : Int32) (x3 : Int32) (x4 : Int32) (x5 : Int32) (σ : SS), K43 x1 x2 x3 x4 x5 σ → o_G X σ 43 [(0, .ref (ox_φ X (7, 0, 0))), (1, .int x1), (2, .int x2), (3, .int x3), (4, .int x4), (5, .int x5)] []) (h : VB_X10_songsNow_43 post K43 x1 x2 x3 x4 x5 σ) : o_G X σ 43 [(0, .ref (ox_φ X (7, 0, 0))), (1, .int x1), (2, .int x2), (3, .int x3), (4, .int x4), (5, .int x5)] [] := by
  unfold VB_X10_songsNow_43 at h
  refine g_iload hC 5 dX10_songsNow_43 rfl ?_
  refine g_bipush (v := (16 : Int32)) hC dX10_songsNow_45 (by decide) ?_
  refine g_icmp_ge hC 145 dX10_songsNow_47 (by decide) (fun z => ?_) (fun z => ?_)
  · have h := h.1 z
    refine g_iload_n hC 2 dX10_songsNow_145 rfl rfl ?_
    refine g_if_ne hC 153 dX10_songsNow_146 (by decide) (fun z => ?_) (fun z => ?_)
    · have h := h.1 z
      refine g_iload hC 4 dX10_songsNow_153 rfl ?_
      refine g_sub [] rfl ?_
      exact wb_X10_songsNow_155 hC hR h
    · have h := h.2 z
      refine g_iload_n hC 3 dX10_songsNow_149 rfl rfl ?_
      refine g_goto hC 155 dX10_songsNow_150 (by decide) ?_
      refine g_sub [] rfl ?_
      exact wb_X10_songsNow_155 hC hR h
  · have h := h.2 z
    refine g_iconst (v := (0 : Int32)) hC dX10_songsNow_50 (by decide) ?_
    refine g_istore hC [(6, .int (0 : Int32)), (0, .ref (ox_φ X (7, 0, 0))), (1, .int x1), (2, .int x2), (3, .int x3), (4, .int x4), (5, .int x5)] dX10_songsNow_51 (by decide) rfl ?_
    refine g_iconst (v := (0 : Int32)) hC dX10_songsNow_53 (by decide) ?_
    refine g_istore hC [(7, .int (0 : Int32)), (6, .int (0 : Int32)), (0, .ref (ox_φ X (7, 0, 0))), (1, .int x1), (2, .int x2), (3, .int x3), (4, .int x4), (5, .int x5)] dX10_songsNow_54 (by decide) rfl ?_
    refine g_sub [2, 3, 4, 5, 6, 7, 1, 0] rfl ?_
    obtain ⟨n, h⟩ := h
    exact lp_X10_songsNow_56 hC hR hK43 n _ _ h
set_option maxHeartbeats 4000000 in
set_option maxRecDepth 100000 in
theorem lp_X10_songsNow_43 {X : OX} {post : Int32 → SS → Prop} (hC : o_C X cX10_songsNow RX10 wsX10_songsNow 4 99 8) (hR : o_RI X cX10_songsNow post) : ∀ (n : Nat) (a : Int32 × Int32 × Int32 × Int32 × Int32) (σ : SS), LP_X10_songsNow_43 post n a σ → o_G X σ 43 [(0, .ref (ox_φ X (7, 0, 0))), (1, .int a.1), (2, .int a.2.1), (3, .int a.2.2.1), (4, .int a.2.2.2.1), (5, .int a.2.2.2.2)] [] :=
 o_lp_G (fun K hK a σ h => wb_X10_songsNow_43 hC hR (fun x1 x2 x3 x4 x5 σ h => hK (x1, x2, x3, x4, x5) σ h) h)
set_option maxHeartbeats 4000000 in
set_option maxRecDepth 100000 in
theorem wb_X10_songsNow_8 {X : OX} {post : Int32 → SS → Prop} {K8 : Int32 → Int32 → Int32 → Int32 → Int32 → SS → Prop} {x1 : Int32} {x2 : Int32} {x3 : Int32} {x4 : Int32} {x5 : Int32} {σ : SS} (hC : o_C X cX10_songsNow RX10 wsX10_songsNow 4 99 8) (hR : o_RI X cX10_songsNow post) (hK8 : ∀ (x1 : Int32) (x2 : Int32) (x3 : Int32) (x4 : Int32) (x5 : Int32) (σ : SS), K8 x1 x2 x3 x4 x5 σ → o_G X σ 8 [(0, .ref (ox_φ X (7, 0, 0))), (1, .int x1), (2, .int x2), (3, .int x3), (4, .int x4), (5, .int x5)] []) (h : VB_X10_songsNow_8 post K8 x1 x2 x3 x4 x5 σ) : o_G X σ 8 [(0, .ref (ox_φ X (7, 0, 0))), (1, .int x1), (2, .int x2), (3, .int x3), (4, .int x4), (5, .int x5)] [] := by
  unfold VB_X10_songsNow_8 at h
  refine g_iload hC 5 dX10_songsNow_8 rfl ?_
  refine g_aload_n hC 0 dX10_songsNow_10 rfl rfl ?_
  refine g_get (C := RX10) (T := TX10) (N := 25) (v := .int (σ.1 (7, 0, 0) 4)) hC o_iX10 (o_eX10 _ _ _ _) rfl ki_X10_songsNow_X10 4 (by decide) kw_X10_songsNow_1 rfl dX10_songsNow_11 ?_
  refine g_icmp_ge hC 40 dX10_songsNow_14 (by decide) (fun z => ?_) (fun z => ?_)
  · have h := h.1 z
    refine g_iconst (v := (0 : Int32)) hC dX10_songsNow_40 (by decide) ?_
    refine g_istore hC [(5, .int (0 : Int32)), (0, .ref (ox_φ X (7, 0, 0))), (1, .int x1), (2, .int x2), (3, .int x3), (4, .int x4)] dX10_songsNow_41 (by decide) rfl ?_
    refine g_sub [1, 2, 3, 4, 5, 0] rfl ?_
    obtain ⟨n, h⟩ := h
    exact lp_X10_songsNow_43 hC hR n _ _ h
  · have h := h.2 z
    refine g_aload_n hC 0 dX10_songsNow_17 rfl rfl ?_
    refine g_get (C := RX10) (T := TX10) (N := 25) (v := .ref (ox_φ X (8, 0, 7))) hC o_iX10 (o_eX10 _ _ _ _) rfl ki_X10_songsNow_X10 11 (by decide) kw_X10_songsNow_2 rfl dX10_songsNow_18 ?_
    refine g_bipush (v := (6 : Int32)) hC dX10_songsNow_21 (by decide) ?_
    refine g_iload hC 5 dX10_songsNow_23 rfl ?_
    refine g_iadd hC dX10_songsNow_25 ?_
    refine g_aload_n hC 0 dX10_songsNow_26 rfl rfl ?_
    refine g_get (C := RX10) (T := TX10) (N := 25) (v := .ref (ox_φ X (8, 0, 7))) hC o_iX10 (o_eX10 _ _ _ _) rfl ki_X10_songsNow_X10 11 (by decide) kw_X10_songsNow_2 rfl dX10_songsNow_27 ?_
    refine g_iload hC 5 dX10_songsNow_30 rfl ?_
    refine g_iald hC o_M7 h.1 dX10_songsNow_32 ?_
    have h := h.2
    refine g_iast hC o_M7 h.1 dX10_songsNow_33 ?_
    have h := h.2
    refine g_iinc (v := (x5 + (1 : Int32))) hC 5 [(5, .int (x5 + (1 : Int32))), (0, .ref (ox_φ X (7, 0, 0))), (1, .int x1), (2, .int x2), (3, .int x3), (4, .int x4)] dX10_songsNow_34 rfl rfl (by decide) rfl ?_
    refine g_goto hC 8 dX10_songsNow_37 (by decide) ?_
    refine g_sub [1, 2, 3, 4, 5, 0] rfl ?_
    exact hK8 _ _ _ _ _ _ h
set_option maxHeartbeats 4000000 in
set_option maxRecDepth 100000 in
theorem lp_X10_songsNow_8 {X : OX} {post : Int32 → SS → Prop} (hC : o_C X cX10_songsNow RX10 wsX10_songsNow 4 99 8) (hR : o_RI X cX10_songsNow post) : ∀ (n : Nat) (a : Int32 × Int32 × Int32 × Int32 × Int32) (σ : SS), LP_X10_songsNow_8 post n a σ → o_G X σ 8 [(0, .ref (ox_φ X (7, 0, 0))), (1, .int a.1), (2, .int a.2.1), (3, .int a.2.2.1), (4, .int a.2.2.2.1), (5, .int a.2.2.2.2)] [] :=
 o_lp_G (fun K hK a σ h => wb_X10_songsNow_8 hC hR (fun x1 x2 x3 x4 x5 σ h => hK (x1, x2, x3, x4, x5) σ h) h)
set_option maxHeartbeats 4000000 in
set_option maxRecDepth 100000 in
theorem wv_X10_songsNow {X : OX} {x1 : Int32} {x2 : Int32} {post : Int32 → SS → Prop} {σ : SS} (hC : o_C X cX10_songsNow RX10 wsX10_songsNow 4 99 8) (hR : o_RI X cX10_songsNow post) (h : V_X10_songsNow x1 x2 σ post) : o_G X σ 0 [(0, .ref (ox_φ X (7, 0, 0))), (1, .int x1), (2, .int x2)] [] := by
  unfold V_X10_songsNow at h
  refine g_iconst (v := (-1 : Int32)) hC dX10_songsNow_0 (by decide) ?_
  refine g_istore_n hC [(3, .int (-1 : Int32)), (0, .ref (ox_φ X (7, 0, 0))), (1, .int x1), (2, .int x2)] dX10_songsNow_1 rfl (by decide) rfl ?_
  refine g_iconst (v := (-1 : Int32)) hC dX10_songsNow_2 (by decide) ?_
  refine g_istore hC [(4, .int (-1 : Int32)), (3, .int (-1 : Int32)), (0, .ref (ox_φ X (7, 0, 0))), (1, .int x1), (2, .int x2)] dX10_songsNow_3 (by decide) rfl ?_
  refine g_iconst (v := (0 : Int32)) hC dX10_songsNow_5 (by decide) ?_
  refine g_istore hC [(5, .int (0 : Int32)), (4, .int (-1 : Int32)), (3, .int (-1 : Int32)), (0, .ref (ox_φ X (7, 0, 0))), (1, .int x1), (2, .int x2)] dX10_songsNow_6 (by decide) rfl ?_
  refine g_sub [3, 4, 5, 2, 1, 0] rfl ?_
  obtain ⟨n, h⟩ := h
  exact lp_X10_songsNow_8 hC hR n _ _ h
set_option maxRecDepth 100000 in
theorem c_X10_songsNow {l : Launch} {φ : OI → Nat} {D : va_G} {cI cB : ClassId} (hJ : o_J φ) {x1 : Int32} {x2 : Int32} {σ : SS} {post : Int32 → SS → Prop} (h : V_X10_songsNow x1 x2 σ post) : o_Mi l φ D cI cB yX10_songsNow wsX10_songsNow 4 99 [.ref (φ (7, 0, 0)), .int x1, .int x2] σ post :=
 o_met_i hJ (by decide +kernel) rfl (Nat.le_of_ble_eq_true rfl) (fun p e s m args below meth c Q hC hR => wv_X10_songsNow hC hR h)
theorem kw_X10_allWrong_1 : Cond.fieldLink RX10 79 "SchoolRowModel" "children" "I" ∈ wsX10_allWrong := List.mem_of_getElem? (i := 1) (by decide +kernel)
theorem kw_X10_allWrong_2 : Cond.fieldLink RX10 28 "SchoolRowModel" "wrongOf" "[I" ∈ wsX10_allWrong := List.mem_of_getElem? (i := 2) (by decide +kernel)
theorem ki_X10_allWrong_X10 : ∀ w ∈ wsX100, w ∈ wsX10_allWrong := fun _ h => List.mem_cons_of_mem _ (List.mem_append_right _ h)
theorem hd_X10_allWrong : yX10_allWrong.cls = RX10 ∧ yX10_allWrong.cls ≠ "java/lang/invoke/MethodHandle" ∧ yX10_allWrong.cls ≠ "java/lang/invoke/VarHandle" ∧ (parseMethodDescriptor yX10_allWrong.desc).map (fun d => d.parameters.length) = some 1 := by decide +kernel
set_option maxHeartbeats 4000000 in
set_option maxRecDepth 100000 in
theorem wb_X10_allWrong_4 {X : OX} {post : Int32 → SS → Prop} {K4 : Int32 → Int32 → Int32 → SS → Prop} {x1 : Int32} {x2 : Int32} {x3 : Int32} {σ : SS} (hC : o_C X cX10_allWrong RX10 wsX10_allWrong 1 22 4) (hR : o_RI X cX10_allWrong post) (hK4 : ∀ (x1 : Int32) (x2 : Int32) (x3 : Int32) (σ : SS), K4 x1 x2 x3 σ → o_G X σ 4 [(0, .ref (ox_φ X (7, 0, 0))), (1, .int x1), (2, .int x2), (3, .int x3)] []) (h : VB_X10_allWrong_4 post K4 x1 x2 x3 σ) : o_G X σ 4 [(0, .ref (ox_φ X (7, 0, 0))), (1, .int x1), (2, .int x2), (3, .int x3)] [] := by
  unfold VB_X10_allWrong_4 at h
  refine g_iload_n hC 3 dX10_allWrong_4 rfl rfl ?_
  refine g_iconst (v := (4 : Int32)) hC dX10_allWrong_5 (by decide) ?_
  refine g_aload_n hC 0 dX10_allWrong_6 rfl rfl ?_
  refine g_get (C := RX10) (T := TX10) (N := 25) (v := .int (σ.1 (7, 0, 0) 4)) hC o_iX10 (o_eX10 _ _ _ _) rfl ki_X10_allWrong_X10 4 (by decide) kw_X10_allWrong_1 rfl dX10_allWrong_7 ?_
  refine g_imul hC dX10_allWrong_10 ?_
  refine g_icmp_ge hC 34 dX10_allWrong_11 (by decide) (fun z => ?_) (fun z => ?_)
  · have h := h.1 z
    refine g_iload_n hC 2 dX10_allWrong_34 rfl rfl ?_
    exact hR _ _ _ _ dX10_allWrong_35 h
  · have h := h.2 z
    refine g_iload_n hC 2 dX10_allWrong_14 rfl rfl ?_
    refine g_aload_n hC 0 dX10_allWrong_15 rfl rfl ?_
    refine g_get (C := RX10) (T := TX10) (N := 25) (v := .ref (ox_φ X (8, 0, 6))) hC o_iX10 (o_eX10 _ _ _ _) rfl ki_X10_allWrong_X10 10 (by decide) kw_X10_allWrong_2 rfl dX10_allWrong_16 ?_
    refine g_iload_n hC 1 dX10_allWrong_19 rfl rfl ?_
    refine g_iload_n hC 3 dX10_allWrong_20 rfl rfl ?_
    refine g_iadd hC dX10_allWrong_21 ?_
    refine g_iald hC o_M6 h.1 dX10_allWrong_22 ?_
    have h := h.2
    refine g_ri (r_S (As := [.int (σ.1 (8, 0, 6) ((x1 + x3)).toNatClampNeg)]) (rest := [.int x2]) hC (c_X10_size (l := ox_l X) (φ := ox_φ X) (D := ox_D X) (cI := ox_I X) (cB := ox_B X) hC.J  h) gX10_allWrong_X10_size rfl hd_X10_size ⟨Nat.le_of_ble_eq_true rfl, Nat.le_of_ble_eq_true rfl⟩ rfl rfl (Nat.le_of_ble_eq_true rfl) dX10_allWrong_23) (fun v23 s23 h => ?_)
    refine g_iadd hC dX10_allWrong_26 ?_
    refine g_istore_n hC [(2, .int (x2 + v23)), (0, .ref (ox_φ X (7, 0, 0))), (1, .int x1), (3, .int x3)] dX10_allWrong_27 rfl (by decide) rfl ?_
    refine g_iinc (v := (x3 + (1 : Int32))) hC 3 [(3, .int (x3 + (1 : Int32))), (2, .int (x2 + v23)), (0, .ref (ox_φ X (7, 0, 0))), (1, .int x1)] dX10_allWrong_28 rfl rfl (by decide) rfl ?_
    refine g_goto hC 4 dX10_allWrong_31 (by decide) ?_
    refine g_sub [2, 3, 1, 0] rfl ?_
    exact hK4 _ _ _ _ h
set_option maxHeartbeats 4000000 in
set_option maxRecDepth 100000 in
theorem lp_X10_allWrong_4 {X : OX} {post : Int32 → SS → Prop} (hC : o_C X cX10_allWrong RX10 wsX10_allWrong 1 22 4) (hR : o_RI X cX10_allWrong post) : ∀ (n : Nat) (a : Int32 × Int32 × Int32) (σ : SS), LP_X10_allWrong_4 post n a σ → o_G X σ 4 [(0, .ref (ox_φ X (7, 0, 0))), (1, .int a.1), (2, .int a.2.1), (3, .int a.2.2)] [] :=
 o_lp_G (fun K hK a σ h => wb_X10_allWrong_4 hC hR (fun x1 x2 x3 σ h => hK (x1, x2, x3) σ h) h)
set_option maxHeartbeats 4000000 in
set_option maxRecDepth 100000 in
theorem wv_X10_allWrong {X : OX} {x1 : Int32} {post : Int32 → SS → Prop} {σ : SS} (hC : o_C X cX10_allWrong RX10 wsX10_allWrong 1 22 4) (hR : o_RI X cX10_allWrong post) (h : V_X10_allWrong x1 σ post) : o_G X σ 0 [(0, .ref (ox_φ X (7, 0, 0))), (1, .int x1)] [] := by
  unfold V_X10_allWrong at h
  refine g_iconst (v := (0 : Int32)) hC dX10_allWrong_0 (by decide) ?_
  refine g_istore_n hC [(2, .int (0 : Int32)), (0, .ref (ox_φ X (7, 0, 0))), (1, .int x1)] dX10_allWrong_1 rfl (by decide) rfl ?_
  refine g_iconst (v := (0 : Int32)) hC dX10_allWrong_2 (by decide) ?_
  refine g_istore_n hC [(3, .int (0 : Int32)), (2, .int (0 : Int32)), (0, .ref (ox_φ X (7, 0, 0))), (1, .int x1)] dX10_allWrong_3 rfl (by decide) rfl ?_
  refine g_sub [2, 3, 1, 0] rfl ?_
  obtain ⟨n, h⟩ := h
  exact lp_X10_allWrong_4 hC hR n _ _ h
set_option maxRecDepth 100000 in
theorem c_X10_allWrong {l : Launch} {φ : OI → Nat} {D : va_G} {cI cB : ClassId} (hJ : o_J φ) {x1 : Int32} {σ : SS} {post : Int32 → SS → Prop} (h : V_X10_allWrong x1 σ post) : o_Mi l φ D cI cB yX10_allWrong wsX10_allWrong 1 22 [.ref (φ (7, 0, 0)), .int x1] σ post :=
 o_met_i hJ (by decide +kernel) rfl (Nat.le_of_ble_eq_true rfl) (fun p e s m args below meth c Q hC hR => wv_X10_allWrong hC hR h)
theorem kw_X10_songs_1 : Cond.fieldLink RX10 79 "SchoolRowModel" "children" "I" ∈ wsX10_songs := List.mem_of_getElem? (i := 1) (by decide +kernel)
theorem ki_X10_songs_X10 : ∀ w ∈ wsX100, w ∈ wsX10_songs := fun _ h => List.mem_cons_of_mem _ (List.mem_append_right _ h)
theorem hd_X10_songs : yX10_songs.cls = RX10 ∧ yX10_songs.cls ≠ "java/lang/invoke/MethodHandle" ∧ yX10_songs.cls ≠ "java/lang/invoke/VarHandle" ∧ (parseMethodDescriptor yX10_songs.desc).map (fun d => d.parameters.length) = some 2 := by decide +kernel
set_option maxHeartbeats 4000000 in
set_option maxRecDepth 100000 in
theorem wb_X10_songs_19 {X : OX} {post : Int32 → SS → Prop} {σ : SS} (hC : o_C X cX10_songs RX10 wsX10_songs 5 126 3) (hR : o_RI X cX10_songs post) (h : VB_X10_songs_19 post σ) : o_G X σ 19 [] [] := by
  unfold VB_X10_songs_19 at h
  refine g_bipush (v := (-102 : Int32)) hC dX10_songs_19 (by decide) ?_
  exact hR _ _ _ _ dX10_songs_21 h
set_option maxHeartbeats 4000000 in
set_option maxRecDepth 100000 in
theorem wb_X10_songs_40 {X : OX} {post : Int32 → SS → Prop} {t0 : Int32} {σ : SS} (hC : o_C X cX10_songs RX10 wsX10_songs 5 126 3) (hR : o_RI X cX10_songs post) (h : VB_X10_songs_40 post t0 σ) : o_G X σ 40 [] [.int t0] := by
  unfold VB_X10_songs_40 at h
  exact hR _ _ _ _ dX10_songs_40 h
set_option maxHeartbeats 4000000 in
set_option maxRecDepth 100000 in
theorem wv_X10_songs {X : OX} {x1 : Int32} {x2 : Int32} {post : Int32 → SS → Prop} {σ : SS} (hC : o_C X cX10_songs RX10 wsX10_songs 5 126 3) (hR : o_RI X cX10_songs post) (h : V_X10_songs x1 x2 σ post) : o_G X σ 0 [(0, .ref (ox_φ X (7, 0, 0))), (1, .int x1), (2, .int x2)] [] := by
  unfold V_X10_songs at h
  refine g_iload_n hC 1 dX10_songs_0 rfl rfl ?_
  refine g_iconst (v := (0 : Int32)) hC dX10_songs_1 (by decide) ?_
  refine g_bipush (v := (40 : Int32)) hC dX10_songs_2 (by decide) ?_
  refine g_ri (r_S (As := [.int x1, .int (0 : Int32), .int (40 : Int32)]) (rest := []) hC (c_X10_within (l := ox_l X) (φ := ox_φ X) (D := ox_D X) (cI := ox_I X) (cB := ox_B X) hC.J  h) gX10_songs_X10_within rfl hd_X10_within ⟨Nat.le_of_ble_eq_true rfl, Nat.le_of_ble_eq_true rfl⟩ rfl rfl (Nat.le_of_ble_eq_true rfl) dX10_songs_4) (fun v4 s4 h => ?_)
  refine g_if_eq hC 19 dX10_songs_7 (by decide) (fun z => ?_) (fun z => ?_)
  · have h := h.1 z
    refine g_sub [] rfl ?_
    exact wb_X10_songs_19 hC hR h
  · have h := h.2 z
    refine g_iload_n hC 2 dX10_songs_10 rfl rfl ?_
    refine g_iconst (v := (0 : Int32)) hC dX10_songs_11 (by decide) ?_
    refine g_iconst (v := (1 : Int32)) hC dX10_songs_12 (by decide) ?_
    refine g_ri (r_S (As := [.int x2, .int (0 : Int32), .int (1 : Int32)]) (rest := []) hC (c_X10_within (l := ox_l X) (φ := ox_φ X) (D := ox_D X) (cI := ox_I X) (cB := ox_B X) hC.J  h) gX10_songs_X10_within rfl hd_X10_within ⟨Nat.le_of_ble_eq_true rfl, Nat.le_of_ble_eq_true rfl⟩ rfl rfl (Nat.le_of_ble_eq_true rfl) dX10_songs_13) (fun v13 s13 h => ?_)
    refine g_if_ne hC 22 dX10_songs_16 (by decide) (fun z => ?_) (fun z => ?_)
    · have h := h.1 z
      refine g_aload_n hC 0 dX10_songs_22 rfl rfl ?_
      refine g_get (C := RX10) (T := TX10) (N := 25) (v := .int (s13.1 (7, 0, 0) 4)) hC o_iX10 (o_eX10 _ _ _ _) rfl ki_X10_songs_X10 4 (by decide) kw_X10_songs_1 rfl dX10_songs_23 ?_
      refine g_if_ne hC 34 dX10_songs_26 (by decide) (fun z => ?_) (fun z => ?_)
      · have h := h.1 z
        refine g_aload_n hC 0 dX10_songs_34 rfl rfl ?_
        refine g_iload_n hC 1 dX10_songs_35 rfl rfl ?_
        refine g_iload_n hC 2 dX10_songs_36 rfl rfl ?_
        refine g_ri (r_V (C := RX10) (T := TX10) (N := 25) (As := [.int x1, .int x2]) (rest := []) hC o_iX10 (o_eX10 _ _ _ _) rfl (c_X10_songsNow (l := ox_l X) (φ := ox_φ X) (D := ox_D X) (cI := ox_I X) (cB := ox_B X) hC.J  h) gX10_songs_X10_songsNow rfl hd_X10_songsNow ⟨Nat.le_of_ble_eq_true rfl, Nat.le_of_ble_eq_true rfl⟩ rfl rfl (Nat.le_of_ble_eq_true rfl) dX10_songs_37) (fun v37 s37 h => ?_)
        refine g_sub [] rfl ?_
        exact wb_X10_songs_40 hC hR h
      · have h := h.2 z
        refine g_bipush (v := (-103 : Int32)) hC dX10_songs_29 (by decide) ?_
        refine g_goto hC 40 dX10_songs_31 (by decide) ?_
        refine g_sub [] rfl ?_
        exact wb_X10_songs_40 hC hR h
    · have h := h.2 z
      refine g_sub [] rfl ?_
      exact wb_X10_songs_19 hC hR h
set_option maxRecDepth 100000 in
theorem c_X10_songs {l : Launch} {φ : OI → Nat} {D : va_G} {cI cB : ClassId} (hJ : o_J φ) {x1 : Int32} {x2 : Int32} {σ : SS} {post : Int32 → SS → Prop} (h : V_X10_songs x1 x2 σ post) : o_Mi l φ D cI cB yX10_songs wsX10_songs 5 126 [.ref (φ (7, 0, 0)), .int x1, .int x2] σ post :=
 o_met_i hJ (by decide +kernel) rfl (Nat.le_of_ble_eq_true rfl) (fun p e s m args below meth c Q hC hR => wv_X10_songs hC hR h)
theorem kw_X10_asksNow_1 : Cond.fieldLink RX10 16 "SchoolRowModel" "seatOf" "[I" ∈ wsX10_asksNow := List.mem_of_getElem? (i := 1) (by decide +kernel)
theorem kw_X10_asksNow_2 : Cond.fieldLink RX10 31 "SchoolRowModel" "onSeat" "[I" ∈ wsX10_asksNow := List.mem_of_getElem? (i := 2) (by decide +kernel)
theorem kw_X10_asksNow_3 : Cond.fieldLink RX10 25 "SchoolRowModel" "partsOf" "[I" ∈ wsX10_asksNow := List.mem_of_getElem? (i := 3) (by decide +kernel)
theorem kw_X10_asksNow_4 : Cond.fieldLink RX10 28 "SchoolRowModel" "wrongOf" "[I" ∈ wsX10_asksNow := List.mem_of_getElem? (i := 4) (by decide +kernel)
theorem kw_X10_asksNow_5 : Cond.fieldLink RX10 19 "SchoolRowModel" "illOf" "[I" ∈ wsX10_asksNow := List.mem_of_getElem? (i := 5) (by decide +kernel)
theorem ki_X10_asksNow_X10 : ∀ w ∈ wsX100, w ∈ wsX10_asksNow := fun _ h => List.mem_cons_of_mem _ (List.mem_append_right _ h)
theorem hd_X10_asksNow : yX10_asksNow.cls = RX10 ∧ yX10_asksNow.cls ≠ "java/lang/invoke/MethodHandle" ∧ yX10_asksNow.cls ≠ "java/lang/invoke/VarHandle" ∧ (parseMethodDescriptor yX10_asksNow.desc).map (fun d => d.parameters.length) = some 2 := by decide +kernel
set_option maxHeartbeats 4000000 in
set_option maxRecDepth 100000 in
theorem wb_X10_asksNow_123 {X : OX} {post : Int32 → SS → Prop} {K12 : Int32 → Int32 → Int32 → Int32 → Int32 → SS → Prop} {x1 : Int32} {x2 : Int32} {x3 : Int32} {x5 : Int32} {t0 : Int32} {σ : SS} (hC : o_C X cX10_asksNow RX10 wsX10_asksNow 1 22 9) (hR : o_RI X cX10_asksNow post) (hK12 : ∀ (x1 : Int32) (x2 : Int32) (x3 : Int32) (x4 : Int32) (x5 : Int32) (σ : SS), K12 x1 x2 x3 x4 x5 σ → o_G X σ 12 [(0, .ref (ox_φ X (7, 0, 0))), (1, .int x1), (2, .int x2), (3, .int x3), (4, .int x4), (5, .int x5)] []) (h : VB_X10_asksNow_123 post K12 x1 x2 x3 x5 t0 σ) : o_G X σ 123 [(0, .ref (ox_φ X (7, 0, 0))), (1, .int x1), (2, .int x2), (3, .int x3), (5, .int x5)] [.int t0] := by
  unfold VB_X10_asksNow_123 at h
  refine g_istore hC [(4, .int t0), (0, .ref (ox_φ X (7, 0, 0))), (1, .int x1), (2, .int x2), (3, .int x3), (5, .int x5)] dX10_asksNow_123 (by decide) rfl ?_
  refine g_iinc (v := (x5 + (1 : Int32))) hC 5 [(5, .int (x5 + (1 : Int32))), (4, .int t0), (0, .ref (ox_φ X (7, 0, 0))), (1, .int x1), (2, .int x2), (3, .int x3)] dX10_asksNow_125 rfl rfl (by decide) rfl ?_
  refine g_goto hC 12 dX10_asksNow_128 (by decide) ?_
  refine g_sub [2, 3, 4, 5, 1, 0] rfl ?_
  exact hK12 _ _ _ _ _ _ h
set_option maxHeartbeats 4000000 in
set_option maxRecDepth 100000 in
theorem wb_X10_asksNow_116 {X : OX} {post : Int32 → SS → Prop} {K12 : Int32 → Int32 → Int32 → Int32 → Int32 → SS → Prop} {x1 : Int32} {x2 : Int32} {x3 : Int32} {x5 : Int32} {x6 : Int32} {σ : SS} (hC : o_C X cX10_asksNow RX10 wsX10_asksNow 1 22 9) (hR : o_RI X cX10_asksNow post) (hK12 : ∀ (x1 : Int32) (x2 : Int32) (x3 : Int32) (x4 : Int32) (x5 : Int32) (σ : SS), K12 x1 x2 x3 x4 x5 σ → o_G X σ 12 [(0, .ref (ox_φ X (7, 0, 0))), (1, .int x1), (2, .int x2), (3, .int x3), (4, .int x4), (5, .int x5)] []) (h : VB_X10_asksNow_116 post K12 x1 x2 x3 x5 x6 σ) : o_G X σ 116 [(0, .ref (ox_φ X (7, 0, 0))), (1, .int x1), (2, .int x2), (3, .int x3), (5, .int x5), (6, .int x6)] [] := by
  unfold VB_X10_asksNow_116 at h
  refine g_iload hC 5 dX10_asksNow_116 rfl ?_
  refine g_goto hC 123 dX10_asksNow_118 (by decide) ?_
  refine g_sub [0, 1, 2, 3, 4] rfl ?_
  exact wb_X10_asksNow_123 hC hR hK12 h
set_option maxHeartbeats 4000000 in
set_option maxRecDepth 100000 in
theorem wb_X10_asksNow_121 {X : OX} {post : Int32 → SS → Prop} {K12 : Int32 → Int32 → Int32 → Int32 → Int32 → SS → Prop} {x1 : Int32} {x2 : Int32} {x3 : Int32} {x4 : Int32} {x5 : Int32} {σ : SS} (hC : o_C X cX10_asksNow RX10 wsX10_asksNow 1 22 9) (hR : o_RI X cX10_asksNow post) (hK12 : ∀ (x1 : Int32) (x2 : Int32) (x3 : Int32) (x4 : Int32) (x5 : Int32) (σ : SS), K12 x1 x2 x3 x4 x5 σ → o_G X σ 12 [(0, .ref (ox_φ X (7, 0, 0))), (1, .int x1), (2, .int x2), (3, .int x3), (4, .int x4), (5, .int x5)] []) (h : VB_X10_asksNow_121 post K12 x1 x2 x3 x4 x5 σ) : o_G X σ 121 [(0, .ref (ox_φ X (7, 0, 0))), (1, .int x1), (2, .int x2), (3, .int x3), (4, .int x4), (5, .int x5)] [] := by
  unfold VB_X10_asksNow_121 at h
  refine g_iload hC 4 dX10_asksNow_121 rfl ?_
  refine g_sub [0, 1, 2, 3, 5] rfl ?_
  exact wb_X10_asksNow_123 hC hR hK12 h
set_option maxHeartbeats 4000000 in
set_option maxRecDepth 100000 in
theorem wb_X10_asksNow_83 {X : OX} {post : Int32 → SS → Prop} {K12 : Int32 → Int32 → Int32 → Int32 → Int32 → SS → Prop} {x1 : Int32} {x2 : Int32} {x3 : Int32} {x4 : Int32} {x5 : Int32} {x6 : Int32} {x7 : Int32} {t0 : Int32} {σ : SS} (hC : o_C X cX10_asksNow RX10 wsX10_asksNow 1 22 9) (hR : o_RI X cX10_asksNow post) (hK12 : ∀ (x1 : Int32) (x2 : Int32) (x3 : Int32) (x4 : Int32) (x5 : Int32) (σ : SS), K12 x1 x2 x3 x4 x5 σ → o_G X σ 12 [(0, .ref (ox_φ X (7, 0, 0))), (1, .int x1), (2, .int x2), (3, .int x3), (4, .int x4), (5, .int x5)] []) (h : VB_X10_asksNow_83 post K12 x1 x2 x3 x4 x5 x6 x7 t0 σ) : o_G X σ 83 [(0, .ref (ox_φ X (7, 0, 0))), (1, .int x1), (2, .int x2), (3, .int x3), (4, .int x4), (5, .int x5), (6, .int x6), (7, .int x7)] [.int t0] := by
  unfold VB_X10_asksNow_83 at h
  refine g_istore hC [(8, .int t0), (0, .ref (ox_φ X (7, 0, 0))), (1, .int x1), (2, .int x2), (3, .int x3), (4, .int x4), (5, .int x5), (6, .int x6), (7, .int x7)] dX10_asksNow_83 (by decide) rfl ?_
  refine g_aload_n hC 1 dX10_asksNow_85 rfl rfl ?_
  refine g_get (C := RX10) (T := TX10) (N := 25) (v := .ref (ox_φ X (8, 0, 3))) hC o_iX10 (o_eX10 _ _ _ _) rfl ki_X10_asksNow_X10 7 (by decide) kw_X10_asksNow_5 rfl dX10_asksNow_86 ?_
  refine g_iload hC 7 dX10_asksNow_89 rfl ?_
  refine g_iald hC o_M3 h.1 dX10_asksNow_91 ?_
  have h := h.2
  refine g_if_ne hC 121 dX10_asksNow_92 (by decide) (fun z => ?_) (fun z => ?_)
  · have h := h.1 z
    refine g_sub [1, 2, 3, 4, 5, 6] rfl ?_
    exact wb_X10_asksNow_121 hC hR hK12 h
  · have h := h.2 z
    refine g_aload_n hC 1 dX10_asksNow_95 rfl rfl ?_
    refine g_get (C := RX10) (T := TX10) (N := 25) (v := .ref (ox_φ X (8, 0, 5))) hC o_iX10 (o_eX10 _ _ _ _) rfl ki_X10_asksNow_X10 9 (by decide) kw_X10_asksNow_3 rfl dX10_asksNow_96 ?_
    refine g_iload hC 8 dX10_asksNow_99 rfl ?_
    refine g_iald hC o_M5 h.1 dX10_asksNow_101 ?_
    have h := h.2
    refine g_aload_n hC 1 dX10_asksNow_102 rfl rfl ?_
    refine g_get (C := RX10) (T := TX10) (N := 25) (v := .ref (ox_φ X (8, 0, 5))) hC o_iX10 (o_eX10 _ _ _ _) rfl ki_X10_asksNow_X10 9 (by decide) kw_X10_asksNow_3 rfl dX10_asksNow_103 ?_
    refine g_iload_n hC 4 dX10_asksNow_106 rfl rfl ?_
    refine g_iald hC o_M5 h.1 dX10_asksNow_107 ?_
    have h := h.2
    refine g_icmp_gt hC 116 dX10_asksNow_108 (by decide) (fun z => ?_) (fun z => ?_)
    · have h := h.1 z
      refine g_sub [1, 2, 3, 4, 6, 7] rfl ?_
      exact wb_X10_asksNow_116 hC hR hK12 h
    · have h := h.2 z
      refine g_iload hC 0 dX10_asksNow_111 rfl ?_
      refine g_if_eq hC 121 dX10_asksNow_113 (by decide) (fun z => ?_) (fun z => ?_)
      · have h := h.1 z
        refine g_sub [1, 2, 3, 4, 5, 6] rfl ?_
        exact wb_X10_asksNow_121 hC hR hK12 h
      · have h := h.2 z
        refine g_sub [1, 2, 3, 4, 6, 7] rfl ?_
        exact wb_X10_asksNow_116 hC hR hK12 h
set_option maxHeartbeats 4000000 in
set_option maxRecDepth 100000 in
theorem wb_X10_asksNow_82 {X : OX} {post : Int32 → SS → Prop} {K12 : Int32 → Int32 → Int32 → Int32 → Int32 → SS → Prop} {x1 : Int32} {x2 : Int32} {x3 : Int32} {x4 : Int32} {x5 : Int32} {x6 : Int32} {x7 : Int32} {σ : SS} (hC : o_C X cX10_asksNow RX10 wsX10_asksNow 1 22 9) (hR : o_RI X cX10_asksNow post) (hK12 : ∀ (x1 : Int32) (x2 : Int32) (x3 : Int32) (x4 : Int32) (x5 : Int32) (σ : SS), K12 x1 x2 x3 x4 x5 σ → o_G X σ 12 [(0, .ref (ox_φ X (7, 0, 0))), (1, .int x1), (2, .int x2), (3, .int x3), (4, .int x4), (5, .int x5)] []) (h : VB_X10_asksNow_82 post K12 x1 x2 x3 x4 x5 x6 x7 σ) : o_G X σ 82 [(0, .ref (ox_φ X (7, 0, 0))), (1, .int x1), (2, .int x2), (3, .int x3), (4, .int x4), (5, .int x5), (6, .int x6), (7, .int x7)] [] := by
  unfold VB_X10_asksNow_82 at h
  refine g_iconst (v := (0 : Int32)) hC dX10_asksNow_82 (by decide) ?_
  exact wb_X10_asksNow_83 hC hR hK12 h
set_option maxHeartbeats 4000000 in
set_option maxRecDepth 100000 in
theorem wb_X10_asksNow_12 {X : OX} {post : Int32 → SS → Prop} {K12 : Int32 → Int32 → Int32 → Int32 → Int32 → SS → Prop} {x1 : Int32} {x2 : Int32} {x3 : Int32} {x4 : Int32} {x5 : Int32} {σ : SS} (hC : o_C X cX10_asksNow RX10 wsX10_asksNow 1 22 9) (hR : o_RI X cX10_asksNow post) (hK12 : ∀ (x1 : Int32) (x2 : Int32) (x3 : Int32) (x4 : Int32) (x5 : Int32) (σ : SS), K12 x1 x2 x3 x4 x5 σ → o_G X σ 12 [(0, .ref (ox_φ X (7, 0, 0))), (1, .int x1), (2, .int x2), (3, .int x3), (4, .int x4), (5, .int x5)] []) (h : VB_X10_asksNow_12 post K12 x1 x2 x3 x4 x5 σ) : o_G X σ 12 [(0, .ref (ox_φ X (7, 0, 0))), (1, .int x1), (2, .int x2), (3, .int x3), (4, .int x4), (5, .int x5)] [] := by
  unfold VB_X10_asksNow_12 at h
  refine g_iload hC 5 dX10_asksNow_12 rfl ?_
  refine g_aload_n hC 0 dX10_asksNow_14 rfl rfl ?_
  refine g_get (C := RX10) (T := TX10) (N := 25) (v := .ref (ox_φ X (8, 0, 2))) hC o_iX10 (o_eX10 _ _ _ _) rfl ki_X10_asksNow_X10 6 (by decide) kw_X10_asksNow_1 rfl dX10_asksNow_15 ?_
  refine g_iload_n hC 1 dX10_asksNow_18 rfl rfl ?_
  refine g_iald hC o_M2 h.1 dX10_asksNow_19 ?_
  have h := h.2
  refine g_icmp_ge hC 131 dX10_asksNow_20 (by decide) (fun z => ?_) (fun z => ?_)
  · have h := h.1 z
    refine g_iload hC 4 dX10_asksNow_131 rfl ?_
    exact hR _ _ _ _ dX10_asksNow_133 h
  · have h := h.2 z
    refine g_aload_n hC 0 dX10_asksNow_23 rfl rfl ?_
    refine g_get (C := RX10) (T := TX10) (N := 25) (v := .ref (ox_φ X (8, 0, 7))) hC o_iX10 (o_eX10 _ _ _ _) rfl ki_X10_asksNow_X10 11 (by decide) kw_X10_asksNow_2 rfl dX10_asksNow_24 ?_
    refine g_iload hC 5 dX10_asksNow_27 rfl ?_
    refine g_iald hC o_M7 h.1 dX10_asksNow_29 ?_
    have h := h.2
    refine g_topi (fun y30 e30 => ?_)
    have h := h y30 e30
    refine g_istore hC [(6, .int y30), (0, .ref (ox_φ X (7, 0, 0))), (1, .int x1), (2, .int x2), (3, .int x3), (4, .int x4), (5, .int x5)] dX10_asksNow_30 (by decide) rfl ?_
    refine g_iconst (v := (4 : Int32)) hC dX10_asksNow_32 (by decide) ?_
    refine g_iload hC 0 dX10_asksNow_33 rfl ?_
    refine g_imul hC dX10_asksNow_35 ?_
    refine g_iload_n hC 3 dX10_asksNow_36 rfl rfl ?_
    refine g_iadd hC dX10_asksNow_37 ?_
    refine g_topi (fun y38 e38 => ?_)
    have h := h y38 e38
    refine g_istore hC [(7, .int y38), (6, .int y30), (0, .ref (ox_φ X (7, 0, 0))), (1, .int x1), (2, .int x2), (3, .int x3), (4, .int x4), (5, .int x5)] dX10_asksNow_38 (by decide) rfl ?_
    refine g_aload_n hC 2 dX10_asksNow_40 rfl rfl ?_
    refine g_get (C := RX10) (T := TX10) (N := 25) (v := .ref (ox_φ X (8, 0, 5))) hC o_iX10 (o_eX10 _ _ _ _) rfl ki_X10_asksNow_X10 9 (by decide) kw_X10_asksNow_3 rfl dX10_asksNow_41 ?_
    refine g_iload hC 0 dX10_asksNow_44 rfl ?_
    refine g_iald hC o_M5 h.1 dX10_asksNow_46 ?_
    have h := h.2
    refine g_aload_n hC 2 dX10_asksNow_47 rfl rfl ?_
    refine g_get (C := RX10) (T := TX10) (N := 25) (v := .ref (ox_φ X (8, 0, 5))) hC o_iX10 (o_eX10 _ _ _ _) rfl ki_X10_asksNow_X10 9 (by decide) kw_X10_asksNow_3 rfl dX10_asksNow_48 ?_
    refine g_iload_n hC 5 dX10_asksNow_51 rfl rfl ?_
    refine g_iald hC o_M5 h.1 dX10_asksNow_52 ?_
    have h := h.2
    refine g_icmp_ne hC 82 dX10_asksNow_53 (by decide) (fun z => ?_) (fun z => ?_)
    · have h := h.1 z
      refine g_sub [2, 3, 4, 5, 6, 7, 1, 0] rfl ?_
      exact wb_X10_asksNow_82 hC hR hK12 h
    · have h := h.2 z
      refine g_aload_n hC 2 dX10_asksNow_56 rfl rfl ?_
      refine g_get (C := RX10) (T := TX10) (N := 25) (v := .ref (ox_φ X (8, 0, 6))) hC o_iX10 (o_eX10 _ _ _ _) rfl ki_X10_asksNow_X10 10 (by decide) kw_X10_asksNow_4 rfl dX10_asksNow_57 ?_
      refine g_iload hC 0 dX10_asksNow_60 rfl ?_
      refine g_iald hC o_M6 h.1 dX10_asksNow_62 ?_
      have h := h.2
      refine g_ri (r_S (As := [.int (σ.1 (8, 0, 6) (y38).toNatClampNeg)]) (rest := []) hC (c_X10_size (l := ox_l X) (φ := ox_φ X) (D := ox_D X) (cI := ox_I X) (cB := ox_B X) hC.J  h) gX10_asksNow_X10_size rfl hd_X10_size ⟨Nat.le_of_ble_eq_true rfl, Nat.le_of_ble_eq_true rfl⟩ rfl rfl (Nat.le_of_ble_eq_true rfl) dX10_asksNow_63) (fun v63 s63 h => ?_)
      refine g_aload_n hC 2 dX10_asksNow_66 rfl rfl ?_
      refine g_get (C := RX10) (T := TX10) (N := 25) (v := .ref (ox_φ X (8, 0, 6))) hC o_iX10 (o_eX10 _ _ _ _) rfl ki_X10_asksNow_X10 10 (by decide) kw_X10_asksNow_4 rfl dX10_asksNow_67 ?_
      refine g_iload_n hC 5 dX10_asksNow_70 rfl rfl ?_
      refine g_iald hC o_M6 h.1 dX10_asksNow_71 ?_
      have h := h.2
      refine g_ri (r_S (As := [.int (s63.1 (8, 0, 6) (x3).toNatClampNeg)]) (rest := [.int v63]) hC (c_X10_size (l := ox_l X) (φ := ox_φ X) (D := ox_D X) (cI := ox_I X) (cB := ox_B X) hC.J  h) gX10_asksNow_X10_size rfl hd_X10_size ⟨Nat.le_of_ble_eq_true rfl, Nat.le_of_ble_eq_true rfl⟩ rfl rfl (Nat.le_of_ble_eq_true rfl) dX10_asksNow_72) (fun v72 s72 h => ?_)
      refine g_icmp_ge hC 82 dX10_asksNow_75 (by decide) (fun z => ?_) (fun z => ?_)
      · have h := h.1 z
        refine g_sub [2, 3, 4, 5, 6, 7, 1, 0] rfl ?_
        exact wb_X10_asksNow_82 hC hR hK12 h
      · have h := h.2 z
        refine g_iconst (v := (1 : Int32)) hC dX10_asksNow_78 (by decide) ?_
        refine g_goto hC 83 dX10_asksNow_79 (by decide) ?_
        refine g_sub [2, 3, 4, 5, 6, 7, 1, 0] rfl ?_
        exact wb_X10_asksNow_83 hC hR hK12 h
set_option maxHeartbeats 4000000 in
set_option maxRecDepth 100000 in
theorem lp_X10_asksNow_12 {X : OX} {post : Int32 → SS → Prop} (hC : o_C X cX10_asksNow RX10 wsX10_asksNow 1 22 9) (hR : o_RI X cX10_asksNow post) : ∀ (n : Nat) (a : Int32 × Int32 × Int32 × Int32 × Int32) (σ : SS), LP_X10_asksNow_12 post n a σ → o_G X σ 12 [(0, .ref (ox_φ X (7, 0, 0))), (1, .int a.1), (2, .int a.2.1), (3, .int a.2.2.1), (4, .int a.2.2.2.1), (5, .int a.2.2.2.2)] [] :=
 o_lp_G (fun K hK a σ h => wb_X10_asksNow_12 hC hR (fun x1 x2 x3 x4 x5 σ h => hK (x1, x2, x3, x4, x5) σ h) h)
set_option maxHeartbeats 4000000 in
set_option maxRecDepth 100000 in
theorem wv_X10_asksNow {X : OX} {x1 : Int32} {x2 : Int32} {post : Int32 → SS → Prop} {σ : SS} (hC : o_C X cX10_asksNow RX10 wsX10_asksNow 1 22 9) (hR : o_RI X cX10_asksNow post) (h : V_X10_asksNow x1 x2 σ post) : o_G X σ 0 [(0, .ref (ox_φ X (7, 0, 0))), (1, .int x1), (2, .int x2)] [] := by
  unfold V_X10_asksNow at h
  refine g_iconst (v := (4 : Int32)) hC dX10_asksNow_0 (by decide) ?_
  refine g_iload_n hC 1 dX10_asksNow_1 rfl rfl ?_
  refine g_imul hC dX10_asksNow_2 ?_
  refine g_iload_n hC 2 dX10_asksNow_3 rfl rfl ?_
  refine g_iadd hC dX10_asksNow_4 ?_
  refine g_istore_n hC [(3, .int (((4 : Int32) * x1) + x2)), (0, .ref (ox_φ X (7, 0, 0))), (1, .int x1), (2, .int x2)] dX10_asksNow_5 rfl (by decide) rfl ?_
  refine g_iconst (v := (-1 : Int32)) hC dX10_asksNow_6 (by decide) ?_
  refine g_istore hC [(4, .int (-1 : Int32)), (3, .int (((4 : Int32) * x1) + x2)), (0, .ref (ox_φ X (7, 0, 0))), (1, .int x1), (2, .int x2)] dX10_asksNow_7 (by decide) rfl ?_
  refine g_iconst (v := (0 : Int32)) hC dX10_asksNow_9 (by decide) ?_
  refine g_istore hC [(5, .int (0 : Int32)), (4, .int (-1 : Int32)), (3, .int (((4 : Int32) * x1) + x2)), (0, .ref (ox_φ X (7, 0, 0))), (1, .int x1), (2, .int x2)] dX10_asksNow_10 (by decide) rfl ?_
  refine g_sub [3, 4, 5, 2, 1, 0] rfl ?_
  obtain ⟨n, h⟩ := h
  exact lp_X10_asksNow_12 hC hR n _ _ h
set_option maxRecDepth 100000 in
theorem c_X10_asksNow {l : Launch} {φ : OI → Nat} {D : va_G} {cI cB : ClassId} (hJ : o_J φ) {x1 : Int32} {x2 : Int32} {σ : SS} {post : Int32 → SS → Prop} (h : V_X10_asksNow x1 x2 σ post) : o_Mi l φ D cI cB yX10_asksNow wsX10_asksNow 1 22 [.ref (φ (7, 0, 0)), .int x1, .int x2] σ post :=
 o_met_i hJ (by decide +kernel) rfl (Nat.le_of_ble_eq_true rfl) (fun p e s m args below meth c Q hC hR => wv_X10_asksNow hC hR h)
theorem hd_X10_asks : yX10_asks.cls = RX10 ∧ yX10_asks.cls ≠ "java/lang/invoke/MethodHandle" ∧ yX10_asks.cls ≠ "java/lang/invoke/VarHandle" ∧ (parseMethodDescriptor yX10_asks.desc).map (fun d => d.parameters.length) = some 2 := by decide +kernel
set_option maxHeartbeats 4000000 in
set_option maxRecDepth 100000 in
theorem wb_X10_asks_26 {X : OX} {post : Int32 → SS → Prop} {t0 : Int32} {σ : SS} (hC : o_C X cX10_asks RX10 wsX10_asks 2 50 3) (hR : o_RI X cX10_asks post) (h : VB_X10_asks_26 post t0 σ) : o_G X σ 26 [] [.int t0] := by
  unfold VB_X10_asks_26 at h
  exact hR _ _ _ _ dX10_asks_26 h
set_option maxHeartbeats 4000000 in
set_option maxRecDepth 100000 in
theorem wb_X10_asks_24 {X : OX} {post : Int32 → SS → Prop} {σ : SS} (hC : o_C X cX10_asks RX10 wsX10_asks 2 50 3) (hR : o_RI X cX10_asks post) (h : VB_X10_asks_24 post σ) : o_G X σ 24 [] [] := by
  unfold VB_X10_asks_24 at h
  refine g_bipush (v := (-101 : Int32)) hC dX10_asks_24 (by decide) ?_
  exact wb_X10_asks_26 hC hR h
set_option maxHeartbeats 4000000 in
set_option maxRecDepth 100000 in
theorem wv_X10_asks {X : OX} {x1 : Int32} {x2 : Int32} {post : Int32 → SS → Prop} {σ : SS} (hC : o_C X cX10_asks RX10 wsX10_asks 2 50 3) (hR : o_RI X cX10_asks post) (h : V_X10_asks x1 x2 σ post) : o_G X σ 0 [(0, .ref (ox_φ X (7, 0, 0))), (1, .int x1), (2, .int x2)] [] := by
  unfold V_X10_asks at h
  refine g_aload_n hC 0 dX10_asks_0 rfl rfl ?_
  refine g_iload_n hC 1 dX10_asks_1 rfl rfl ?_
  refine g_ri (r_V (C := RX10) (T := TX10) (N := 25) (As := [.int x1]) (rest := []) hC o_iX10 (o_eX10 _ _ _ _) rfl (c_X10_isChild (l := ox_l X) (φ := ox_φ X) (D := ox_D X) (cI := ox_I X) (cB := ox_B X) hC.J  h) gX10_asks_X10_isChild rfl hd_X10_isChild ⟨Nat.le_of_ble_eq_true rfl, Nat.le_of_ble_eq_true rfl⟩ rfl rfl (Nat.le_of_ble_eq_true rfl) dX10_asks_2) (fun v2 s2 h => ?_)
  refine g_if_eq hC 24 dX10_asks_5 (by decide) (fun z => ?_) (fun z => ?_)
  · have h := h.1 z
    refine g_sub [] rfl ?_
    exact wb_X10_asks_24 hC hR h
  · have h := h.2 z
    refine g_iload_n hC 2 dX10_asks_8 rfl rfl ?_
    refine g_ri (r_S (As := [.int x2]) (rest := []) hC (c_X10_isSubject (l := ox_l X) (φ := ox_φ X) (D := ox_D X) (cI := ox_I X) (cB := ox_B X) hC.J  h) gX10_asks_X10_isSubject rfl hd_X10_isSubject ⟨Nat.le_of_ble_eq_true rfl, Nat.le_of_ble_eq_true rfl⟩ rfl rfl (Nat.le_of_ble_eq_true rfl) dX10_asks_9) (fun v9 s9 h => ?_)
    refine g_if_eq hC 24 dX10_asks_12 (by decide) (fun z => ?_) (fun z => ?_)
    · have h := h.1 z
      refine g_sub [] rfl ?_
      exact wb_X10_asks_24 hC hR h
    · have h := h.2 z
      refine g_aload_n hC 0 dX10_asks_15 rfl rfl ?_
      refine g_iload_n hC 1 dX10_asks_16 rfl rfl ?_
      refine g_iload_n hC 2 dX10_asks_17 rfl rfl ?_
      refine g_ri (r_V (C := RX10) (T := TX10) (N := 25) (As := [.int x1, .int x2]) (rest := []) hC o_iX10 (o_eX10 _ _ _ _) rfl (c_X10_asksNow (l := ox_l X) (φ := ox_φ X) (D := ox_D X) (cI := ox_I X) (cB := ox_B X) hC.J  h) gX10_asks_X10_asksNow rfl hd_X10_asksNow ⟨Nat.le_of_ble_eq_true rfl, Nat.le_of_ble_eq_true rfl⟩ rfl rfl (Nat.le_of_ble_eq_true rfl) dX10_asks_18) (fun v18 s18 h => ?_)
      refine g_goto hC 26 dX10_asks_21 (by decide) ?_
      refine g_sub [] rfl ?_
      exact wb_X10_asks_26 hC hR h
set_option maxRecDepth 100000 in
theorem c_X10_asks {l : Launch} {φ : OI → Nat} {D : va_G} {cI cB : ClassId} (hJ : o_J φ) {x1 : Int32} {x2 : Int32} {σ : SS} {post : Int32 → SS → Prop} (h : V_X10_asks x1 x2 σ post) : o_Mi l φ D cI cB yX10_asks wsX10_asks 2 50 [.ref (φ (7, 0, 0)), .int x1, .int x2] σ post :=
 o_met_i hJ (by decide +kernel) rfl (Nat.le_of_ble_eq_true rfl) (fun p e s m args below meth c Q hC hR => wv_X10_asks hC hR h)
theorem kw_X10_ordersNow_1 : Cond.fieldLink RX10 28 "SchoolRowModel" "wrongOf" "[I" ∈ wsX10_ordersNow := List.mem_of_getElem? (i := 1) (by decide +kernel)
theorem kw_X10_ordersNow_2 : Cond.fieldLink RX10 31 "SchoolRowModel" "onSeat" "[I" ∈ wsX10_ordersNow := List.mem_of_getElem? (i := 2) (by decide +kernel)
theorem kw_X10_ordersNow_3 : Cond.fieldLink RX10 16 "SchoolRowModel" "seatOf" "[I" ∈ wsX10_ordersNow := List.mem_of_getElem? (i := 3) (by decide +kernel)
theorem ki_X10_ordersNow_X10 : ∀ w ∈ wsX100, w ∈ wsX10_ordersNow := fun _ h => List.mem_cons_of_mem _ (List.mem_append_right _ h)
theorem hd_X10_ordersNow : yX10_ordersNow.cls = RX10 ∧ yX10_ordersNow.cls ≠ "java/lang/invoke/MethodHandle" ∧ yX10_ordersNow.cls ≠ "java/lang/invoke/VarHandle" ∧ (parseMethodDescriptor yX10_ordersNow.desc).map (fun d => d.parameters.length) = some 3 := by decide +kernel
set_option maxHeartbeats 4000000 in
set_option maxRecDepth 100000 in
theorem wb_X10_ordersNow_77 {X : OX} {post : Int32 → SS → Prop} {K6 : Int32 → Int32 → Int32 → Int32 → Int32 → SS → Prop} {x1 : Int32} {x2 : Int32} {x3 : Int32} {x5 : Int32} {t0 : Int32} {t1 : Int32} {σ : SS} (hC : o_C X cX10_ordersNow RX10 wsX10_ordersNow 4 98 7) (hR : o_RI X cX10_ordersNow post) (hK6 : ∀ (x1 : Int32) (x2 : Int32) (x3 : Int32) (x4 : Int32) (x5 : Int32) (σ : SS), K6 x1 x2 x3 x4 x5 σ → o_G X σ 6 [(0, .ref (ox_φ X (7, 0, 0))), (1, .int x1), (2, .int x2), (3, .int x3), (4, .int x4), (5, .int x5)] []) (h : VB_X10_ordersNow_77 post K6 x1 x2 x3 x5 t0 t1 σ) : o_G X σ 77 [(0, .ref (ox_φ X (7, 0, 0))), (1, .int x1), (2, .int x2), (3, .int x3), (5, .int x5)] [.int t0, .int t1] := by
  unfold VB_X10_ordersNow_77 at h
  refine g_iadd hC dX10_ordersNow_77 ?_
  refine g_istore hC [(4, .int (t1 + t0)), (0, .ref (ox_φ X (7, 0, 0))), (1, .int x1), (2, .int x2), (3, .int x3), (5, .int x5)] dX10_ordersNow_78 (by decide) rfl ?_
  refine g_iinc (v := (x5 + (1 : Int32))) hC 5 [(5, .int (x5 + (1 : Int32))), (4, .int (t1 + t0)), (0, .ref (ox_φ X (7, 0, 0))), (1, .int x1), (2, .int x2), (3, .int x3)] dX10_ordersNow_80 rfl rfl (by decide) rfl ?_
  refine g_goto hC 6 dX10_ordersNow_83 (by decide) ?_
  refine g_sub [2, 3, 4, 5, 1, 0] rfl ?_
  exact hK6 _ _ _ _ _ _ h
set_option maxHeartbeats 4000000 in
set_option maxRecDepth 100000 in
theorem wb_X10_ordersNow_72 {X : OX} {post : Int32 → SS → Prop} {K6 : Int32 → Int32 → Int32 → Int32 → Int32 → SS → Prop} {x1 : Int32} {x2 : Int32} {x3 : Int32} {x5 : Int32} {t0 : Int32} {σ : SS} (hC : o_C X cX10_ordersNow RX10 wsX10_ordersNow 4 98 7) (hR : o_RI X cX10_ordersNow post) (hK6 : ∀ (x1 : Int32) (x2 : Int32) (x3 : Int32) (x4 : Int32) (x5 : Int32) (σ : SS), K6 x1 x2 x3 x4 x5 σ → o_G X σ 6 [(0, .ref (ox_φ X (7, 0, 0))), (1, .int x1), (2, .int x2), (3, .int x3), (4, .int x4), (5, .int x5)] []) (h : VB_X10_ordersNow_72 post K6 x1 x2 x3 x5 t0 σ) : o_G X σ 72 [(0, .ref (ox_φ X (7, 0, 0))), (1, .int x1), (2, .int x2), (3, .int x3), (5, .int x5)] [.int t0] := by
  unfold VB_X10_ordersNow_72 at h
  refine g_iconst (v := (1 : Int32)) hC dX10_ordersNow_72 (by decide) ?_
  refine g_goto hC 77 dX10_ordersNow_73 (by decide) ?_
  exact wb_X10_ordersNow_77 hC hR hK6 h
set_option maxHeartbeats 4000000 in
set_option maxRecDepth 100000 in
theorem wb_X10_ordersNow_76 {X : OX} {post : Int32 → SS → Prop} {K6 : Int32 → Int32 → Int32 → Int32 → Int32 → SS → Prop} {x1 : Int32} {x2 : Int32} {x3 : Int32} {x5 : Int32} {t0 : Int32} {σ : SS} (hC : o_C X cX10_ordersNow RX10 wsX10_ordersNow 4 98 7) (hR : o_RI X cX10_ordersNow post) (hK6 : ∀ (x1 : Int32) (x2 : Int32) (x3 : Int32) (x4 : Int32) (x5 : Int32) (σ : SS), K6 x1 x2 x3 x4 x5 σ → o_G X σ 6 [(0, .ref (ox_φ X (7, 0, 0))), (1, .int x1), (2, .int x2), (3, .int x3), (4, .int x4), (5, .int x5)] []) (h : VB_X10_ordersNow_76 post K6 x1 x2 x3 x5 t0 σ) : o_G X σ 76 [(0, .ref (ox_φ X (7, 0, 0))), (1, .int x1), (2, .int x2), (3, .int x3), (5, .int x5)] [.int t0] := by
  unfold VB_X10_ordersNow_76 at h
  refine g_iconst (v := (0 : Int32)) hC dX10_ordersNow_76 (by decide) ?_
  exact wb_X10_ordersNow_77 hC hR hK6 h
set_option maxHeartbeats 4000000 in
set_option maxRecDepth 100000 in
theorem wb_X10_ordersNow_41 {X : OX} {post : Int32 → SS → Prop} {K6 : Int32 → Int32 → Int32 → Int32 → Int32 → SS → Prop} {x1 : Int32} {x2 : Int32} {x3 : Int32} {x4 : Int32} {x5 : Int32} {t0 : Int32} {σ : SS} (hC : o_C X cX10_ordersNow RX10 wsX10_ordersNow 4 98 7) (hR : o_RI X cX10_ordersNow post) (hK6 : ∀ (x1 : Int32) (x2 : Int32) (x3 : Int32) (x4 : Int32) (x5 : Int32) (σ : SS), K6 x1 x2 x3 x4 x5 σ → o_G X σ 6 [(0, .ref (ox_φ X (7, 0, 0))), (1, .int x1), (2, .int x2), (3, .int x3), (4, .int x4), (5, .int x5)] []) (h : VB_X10_ordersNow_41 post K6 x1 x2 x3 x4 x5 t0 σ) : o_G X σ 41 [(0, .ref (ox_φ X (7, 0, 0))), (1, .int x1), (2, .int x2), (3, .int x3), (4, .int x4), (5, .int x5)] [.int t0] := by
  unfold VB_X10_ordersNow_41 at h
  refine g_istore hC [(6, .int t0), (0, .ref (ox_φ X (7, 0, 0))), (1, .int x1), (2, .int x2), (3, .int x3), (4, .int x4), (5, .int x5)] dX10_ordersNow_41 (by decide) rfl ?_
  refine g_iload hC 5 dX10_ordersNow_43 rfl ?_
  refine g_iload hC 0 dX10_ordersNow_45 rfl ?_
  refine g_if_eq hC 76 dX10_ordersNow_47 (by decide) (fun z => ?_) (fun z => ?_)
  · have h := h.1 z
    refine g_sub [1, 2, 3, 4, 6] rfl ?_
    exact wb_X10_ordersNow_76 hC hR hK6 h
  · have h := h.2 z
    refine g_iload_n hC 4 dX10_ordersNow_50 rfl rfl ?_
    refine g_if_eq hC 72 dX10_ordersNow_51 (by decide) (fun z => ?_) (fun z => ?_)
    · have h := h.1 z
      refine g_sub [1, 2, 3, 4, 6] rfl ?_
      exact wb_X10_ordersNow_72 hC hR hK6 h
    · have h := h.2 z
      refine g_aload_n hC 1 dX10_ordersNow_54 rfl rfl ?_
      refine g_get (C := RX10) (T := TX10) (N := 25) (v := .ref (ox_φ X (8, 0, 7))) hC o_iX10 (o_eX10 _ _ _ _) rfl ki_X10_ordersNow_X10 11 (by decide) kw_X10_ordersNow_2 rfl dX10_ordersNow_55 ?_
      refine g_bipush (v := (6 : Int32)) hC dX10_ordersNow_58 (by decide) ?_
      refine g_aload_n hC 1 dX10_ordersNow_60 rfl rfl ?_
      refine g_get (C := RX10) (T := TX10) (N := 25) (v := .ref (ox_φ X (8, 0, 2))) hC o_iX10 (o_eX10 _ _ _ _) rfl ki_X10_ordersNow_X10 6 (by decide) kw_X10_ordersNow_3 rfl dX10_ordersNow_61 ?_
      refine g_iload_n hC 2 dX10_ordersNow_64 rfl rfl ?_
      refine g_iald hC o_M2 h.1 dX10_ordersNow_65 ?_
      have h := h.2
      refine g_iadd hC dX10_ordersNow_66 ?_
      refine g_iald hC o_M7 h.1 dX10_ordersNow_67 ?_
      have h := h.2
      refine g_iload_n hC 2 dX10_ordersNow_68 rfl rfl ?_
      refine g_icmp_ne hC 76 dX10_ordersNow_69 (by decide) (fun z => ?_) (fun z => ?_)
      · have h := h.1 z
        refine g_sub [1, 2, 3, 4, 6] rfl ?_
        exact wb_X10_ordersNow_76 hC hR hK6 h
      · have h := h.2 z
        refine g_sub [1, 2, 3, 4, 6] rfl ?_
        exact wb_X10_ordersNow_72 hC hR hK6 h
set_option maxHeartbeats 4000000 in
set_option maxRecDepth 100000 in
theorem wb_X10_ordersNow_6 {X : OX} {post : Int32 → SS → Prop} {K6 : Int32 → Int32 → Int32 → Int32 → Int32 → SS → Prop} {x1 : Int32} {x2 : Int32} {x3 : Int32} {x4 : Int32} {x5 : Int32} {σ : SS} (hC : o_C X cX10_ordersNow RX10 wsX10_ordersNow 4 98 7) (hR : o_RI X cX10_ordersNow post) (hK6 : ∀ (x1 : Int32) (x2 : Int32) (x3 : Int32) (x4 : Int32) (x5 : Int32) (σ : SS), K6 x1 x2 x3 x4 x5 σ → o_G X σ 6 [(0, .ref (ox_φ X (7, 0, 0))), (1, .int x1), (2, .int x2), (3, .int x3), (4, .int x4), (5, .int x5)] []) (h : VB_X10_ordersNow_6 post K6 x1 x2 x3 x4 x5 σ) : o_G X σ 6 [(0, .ref (ox_φ X (7, 0, 0))), (1, .int x1), (2, .int x2), (3, .int x3), (4, .int x4), (5, .int x5)] [] := by
  unfold VB_X10_ordersNow_6 at h
  refine g_iload hC 5 dX10_ordersNow_6 rfl ?_
  refine g_aload_n hC 0 dX10_ordersNow_8 rfl rfl ?_
  refine g_ri (r_V (C := RX10) (T := TX10) (N := 25) (As := []) (rest := [.int x5]) hC o_iX10 (o_eX10 _ _ _ _) rfl (c_X10_orderMany (l := ox_l X) (φ := ox_φ X) (D := ox_D X) (cI := ox_I X) (cB := ox_B X) hC.J  h) gX10_ordersNow_X10_orderMany rfl hd_X10_orderMany ⟨Nat.le_of_ble_eq_true rfl, Nat.le_of_ble_eq_true rfl⟩ rfl rfl (Nat.le_of_ble_eq_true rfl) dX10_ordersNow_9) (fun v9 s9 h => ?_)
  refine g_icmp_ge hC 86 dX10_ordersNow_12 (by decide) (fun z => ?_) (fun z => ?_)
  · have h := h.1 z
    refine g_iload hC 4 dX10_ordersNow_86 rfl ?_
    exact hR _ _ _ _ dX10_ordersNow_88 h
  · have h := h.2 z
    refine g_aload_n hC 0 dX10_ordersNow_15 rfl rfl ?_
    refine g_iload hC 5 dX10_ordersNow_16 rfl ?_
    refine g_rv (r_V (C := RX10) (T := TX10) (N := 25) (As := [.int x5]) (rest := []) hC o_iX10 (o_eX10 _ _ _ _) rfl (c_X10_tryOrder (l := ox_l X) (φ := ox_φ X) (D := ox_D X) (cI := ox_I X) (cB := ox_B X) hC.J  h) gX10_ordersNow_X10_tryOrder rfl hd_X10_tryOrder ⟨Nat.le_of_ble_eq_true rfl, Nat.le_of_ble_eq_true rfl⟩ rfl rfl (Nat.le_of_ble_eq_true rfl) dX10_ordersNow_18) (fun s18 h => ?_)
    refine g_aload_n hC 0 dX10_ordersNow_21 rfl rfl ?_
    refine g_get (C := RX10) (T := TX10) (N := 25) (v := .ref (ox_φ X (8, 0, 6))) hC o_iX10 (o_eX10 _ _ _ _) rfl ki_X10_ordersNow_X10 10 (by decide) kw_X10_ordersNow_1 rfl dX10_ordersNow_22 ?_
    refine g_bipush (v := (24 : Int32)) hC dX10_ordersNow_25 (by decide) ?_
    refine g_iconst (v := (4 : Int32)) hC dX10_ordersNow_27 (by decide) ?_
    refine g_iload_n hC 1 dX10_ordersNow_28 rfl rfl ?_
    refine g_imul hC dX10_ordersNow_29 ?_
    refine g_iadd hC dX10_ordersNow_30 ?_
    refine g_iald hC o_M6 h.1 dX10_ordersNow_31 ?_
    have h := h.2
    refine g_iload_n hC 2 dX10_ordersNow_32 rfl rfl ?_
    refine g_icmp_ne hC 40 dX10_ordersNow_33 (by decide) (fun z => ?_) (fun z => ?_)
    · have h := h.1 z
      refine g_iconst (v := (0 : Int32)) hC dX10_ordersNow_40 (by decide) ?_
      exact wb_X10_ordersNow_41 hC hR hK6 h
    · have h := h.2 z
      refine g_iconst (v := (1 : Int32)) hC dX10_ordersNow_36 (by decide) ?_
      refine g_goto hC 41 dX10_ordersNow_37 (by decide) ?_
      exact wb_X10_ordersNow_41 hC hR hK6 h
set_option maxHeartbeats 4000000 in
set_option maxRecDepth 100000 in
theorem lp_X10_ordersNow_6 {X : OX} {post : Int32 → SS → Prop} (hC : o_C X cX10_ordersNow RX10 wsX10_ordersNow 4 98 7) (hR : o_RI X cX10_ordersNow post) : ∀ (n : Nat) (a : Int32 × Int32 × Int32 × Int32 × Int32) (σ : SS), LP_X10_ordersNow_6 post n a σ → o_G X σ 6 [(0, .ref (ox_φ X (7, 0, 0))), (1, .int a.1), (2, .int a.2.1), (3, .int a.2.2.1), (4, .int a.2.2.2.1), (5, .int a.2.2.2.2)] [] :=
 o_lp_G (fun K hK a σ h => wb_X10_ordersNow_6 hC hR (fun x1 x2 x3 x4 x5 σ h => hK (x1, x2, x3, x4, x5) σ h) h)
set_option maxHeartbeats 4000000 in
set_option maxRecDepth 100000 in
theorem wv_X10_ordersNow {X : OX} {x1 : Int32} {x2 : Int32} {x3 : Int32} {post : Int32 → SS → Prop} {σ : SS} (hC : o_C X cX10_ordersNow RX10 wsX10_ordersNow 4 98 7) (hR : o_RI X cX10_ordersNow post) (h : V_X10_ordersNow x1 x2 x3 σ post) : o_G X σ 0 [(0, .ref (ox_φ X (7, 0, 0))), (1, .int x1), (2, .int x2), (3, .int x3)] [] := by
  unfold V_X10_ordersNow at h
  refine g_iconst (v := (0 : Int32)) hC dX10_ordersNow_0 (by decide) ?_
  refine g_istore hC [(4, .int (0 : Int32)), (0, .ref (ox_φ X (7, 0, 0))), (1, .int x1), (2, .int x2), (3, .int x3)] dX10_ordersNow_1 (by decide) rfl ?_
  refine g_iconst (v := (0 : Int32)) hC dX10_ordersNow_3 (by decide) ?_
  refine g_istore hC [(5, .int (0 : Int32)), (4, .int (0 : Int32)), (0, .ref (ox_φ X (7, 0, 0))), (1, .int x1), (2, .int x2), (3, .int x3)] dX10_ordersNow_4 (by decide) rfl ?_
  refine g_sub [2, 3, 4, 5, 1, 0] rfl ?_
  obtain ⟨n, h⟩ := h
  exact lp_X10_ordersNow_6 hC hR n _ _ h
set_option maxRecDepth 100000 in
theorem c_X10_ordersNow {l : Launch} {φ : OI → Nat} {D : va_G} {cI cB : ClassId} (hJ : o_J φ) {x1 : Int32} {x2 : Int32} {x3 : Int32} {σ : SS} {post : Int32 → SS → Prop} (h : V_X10_ordersNow x1 x2 x3 σ post) : o_Mi l φ D cI cB yX10_ordersNow wsX10_ordersNow 4 98 [.ref (φ (7, 0, 0)), .int x1, .int x2, .int x3] σ post :=
 o_met_i hJ (by decide +kernel) rfl (Nat.le_of_ble_eq_true rfl) (fun p e s m args below meth c Q hC hR => wv_X10_ordersNow hC hR h)
theorem kw_X10_orders_1 : Cond.fieldLink RX10 79 "SchoolRowModel" "children" "I" ∈ wsX10_orders := List.mem_of_getElem? (i := 1) (by decide +kernel)
theorem ki_X10_orders_X10 : ∀ w ∈ wsX100, w ∈ wsX10_orders := fun _ h => List.mem_cons_of_mem _ (List.mem_append_right _ h)
theorem hd_X10_orders : yX10_orders.cls = RX10 ∧ yX10_orders.cls ≠ "java/lang/invoke/MethodHandle" ∧ yX10_orders.cls ≠ "java/lang/invoke/VarHandle" ∧ (parseMethodDescriptor yX10_orders.desc).map (fun d => d.parameters.length) = some 3 := by decide +kernel
set_option maxHeartbeats 4000000 in
set_option maxRecDepth 100000 in
theorem wb_X10_orders_36 {X : OX} {post : Int32 → SS → Prop} {σ : SS} (hC : o_C X cX10_orders RX10 wsX10_orders 5 124 4) (hR : o_RI X cX10_orders post) (h : VB_X10_orders_36 post σ) : o_G X σ 36 [] [] := by
  unfold VB_X10_orders_36 at h
  refine g_bipush (v := (-102 : Int32)) hC dX10_orders_36 (by decide) ?_
  exact hR _ _ _ _ dX10_orders_38 h
set_option maxHeartbeats 4000000 in
set_option maxRecDepth 100000 in
theorem wv_X10_orders {X : OX} {x1 : Int32} {x2 : Int32} {x3 : Int32} {post : Int32 → SS → Prop} {σ : SS} (hC : o_C X cX10_orders RX10 wsX10_orders 5 124 4) (hR : o_RI X cX10_orders post) (h : V_X10_orders x1 x2 x3 σ post) : o_G X σ 0 [(0, .ref (ox_φ X (7, 0, 0))), (1, .int x1), (2, .int x2), (3, .int x3)] [] := by
  unfold V_X10_orders at h
  refine g_aload_n hC 0 dX10_orders_0 rfl rfl ?_
  refine g_iload_n hC 1 dX10_orders_1 rfl rfl ?_
  refine g_ri (r_V (C := RX10) (T := TX10) (N := 25) (As := [.int x1]) (rest := []) hC o_iX10 (o_eX10 _ _ _ _) rfl (c_X10_isChild (l := ox_l X) (φ := ox_φ X) (D := ox_D X) (cI := ox_I X) (cB := ox_B X) hC.J  h) gX10_orders_X10_isChild rfl hd_X10_isChild ⟨Nat.le_of_ble_eq_true rfl, Nat.le_of_ble_eq_true rfl⟩ rfl rfl (Nat.le_of_ble_eq_true rfl) dX10_orders_2) (fun v2 s2 h => ?_)
  refine g_if_ne hC 11 dX10_orders_5 (by decide) (fun z => ?_) (fun z => ?_)
  · have h := h.1 z
    refine g_iload_n hC 2 dX10_orders_11 rfl rfl ?_
    refine g_iconst (v := (0 : Int32)) hC dX10_orders_12 (by decide) ?_
    refine g_iconst (v := (1 : Int32)) hC dX10_orders_13 (by decide) ?_
    refine g_aload_n hC 0 dX10_orders_14 rfl rfl ?_
    refine g_get (C := RX10) (T := TX10) (N := 25) (v := .int (s2.1 (7, 0, 0) 4)) hC o_iX10 (o_eX10 _ _ _ _) rfl ki_X10_orders_X10 4 (by decide) kw_X10_orders_1 rfl dX10_orders_15 ?_
    refine g_ishl hC dX10_orders_18 ?_
    refine g_iconst (v := (1 : Int32)) hC dX10_orders_19 (by decide) ?_
    refine g_isub hC dX10_orders_20 ?_
    refine g_ri (r_S (As := [.int x2, .int (0 : Int32), .int (((1 : Int32) <<< ((s2.1 (7, 0, 0) 4) &&& 31)) - (1 : Int32))]) (rest := []) hC (c_X10_within (l := ox_l X) (φ := ox_φ X) (D := ox_D X) (cI := ox_I X) (cB := ox_B X) hC.J  h) gX10_orders_X10_within rfl hd_X10_within ⟨Nat.le_of_ble_eq_true rfl, Nat.le_of_ble_eq_true rfl⟩ rfl rfl (Nat.le_of_ble_eq_true rfl) dX10_orders_21) (fun v21 s21 h => ?_)
    refine g_if_eq hC 36 dX10_orders_24 (by decide) (fun z => ?_) (fun z => ?_)
    · have h := h.1 z
      refine g_sub [] rfl ?_
      exact wb_X10_orders_36 hC hR h
    · have h := h.2 z
      refine g_iload_n hC 3 dX10_orders_27 rfl rfl ?_
      refine g_iconst (v := (0 : Int32)) hC dX10_orders_28 (by decide) ?_
      refine g_iconst (v := (1 : Int32)) hC dX10_orders_29 (by decide) ?_
      refine g_ri (r_S (As := [.int x3, .int (0 : Int32), .int (1 : Int32)]) (rest := []) hC (c_X10_within (l := ox_l X) (φ := ox_φ X) (D := ox_D X) (cI := ox_I X) (cB := ox_B X) hC.J  h) gX10_orders_X10_within rfl hd_X10_within ⟨Nat.le_of_ble_eq_true rfl, Nat.le_of_ble_eq_true rfl⟩ rfl rfl (Nat.le_of_ble_eq_true rfl) dX10_orders_30) (fun v30 s30 h => ?_)
      refine g_if_ne hC 39 dX10_orders_33 (by decide) (fun z => ?_) (fun z => ?_)
      · have h := h.1 z
        refine g_aload_n hC 0 dX10_orders_39 rfl rfl ?_
        refine g_iload_n hC 1 dX10_orders_40 rfl rfl ?_
        refine g_iload_n hC 2 dX10_orders_41 rfl rfl ?_
        refine g_iload_n hC 3 dX10_orders_42 rfl rfl ?_
        refine g_ri (r_V (C := RX10) (T := TX10) (N := 25) (As := [.int x1, .int x2, .int x3]) (rest := []) hC o_iX10 (o_eX10 _ _ _ _) rfl (c_X10_ordersNow (l := ox_l X) (φ := ox_φ X) (D := ox_D X) (cI := ox_I X) (cB := ox_B X) hC.J  h) gX10_orders_X10_ordersNow rfl hd_X10_ordersNow ⟨Nat.le_of_ble_eq_true rfl, Nat.le_of_ble_eq_true rfl⟩ rfl rfl (Nat.le_of_ble_eq_true rfl) dX10_orders_43) (fun v43 s43 h => ?_)
        exact hR _ _ _ _ dX10_orders_46 h
      · have h := h.2 z
        refine g_sub [] rfl ?_
        exact wb_X10_orders_36 hC hR h
  · have h := h.2 z
    refine g_bipush (v := (-101 : Int32)) hC dX10_orders_8 (by decide) ?_
    exact hR _ _ _ _ dX10_orders_10 h
set_option maxRecDepth 100000 in
theorem c_X10_orders {l : Launch} {φ : OI → Nat} {D : va_G} {cI cB : ClassId} (hJ : o_J φ) {x1 : Int32} {x2 : Int32} {x3 : Int32} {σ : SS} {post : Int32 → SS → Prop} (h : V_X10_orders x1 x2 x3 σ post) : o_Mi l φ D cI cB yX10_orders wsX10_orders 5 124 [.ref (φ (7, 0, 0)), .int x1, .int x2, .int x3] σ post :=
 o_met_i hJ (by decide +kernel) rfl (Nat.le_of_ble_eq_true rfl) (fun p e s m args below meth c Q hC hR => wv_X10_orders hC hR h)
theorem kw_X10_tell_1 : Cond.fieldLink RX10 22 "SchoolRowModel" "toldOf" "[I" ∈ wsX10_tell := List.mem_of_getElem? (i := 1) (by decide +kernel)
theorem ki_X10_tell_X10 : ∀ w ∈ wsX100, w ∈ wsX10_tell := fun _ h => List.mem_cons_of_mem _ (List.mem_append_right _ h)
theorem hd_X10_tell : yX10_tell.cls = RX10 ∧ yX10_tell.cls ≠ "java/lang/invoke/MethodHandle" ∧ yX10_tell.cls ≠ "java/lang/invoke/VarHandle" ∧ (parseMethodDescriptor yX10_tell.desc).map (fun d => d.parameters.length) = some 2 := by decide +kernel
set_option maxHeartbeats 4000000 in
set_option maxRecDepth 100000 in
theorem wv_X10_tell {X : OX} {x1 : Int32} {x2 : Int32} {post : Int32 → SS → Prop} {σ : SS} (hC : o_C X cX10_tell RX10 wsX10_tell 2 43 4) (hR : o_RI X cX10_tell post) (h : V_X10_tell x1 x2 σ post) : o_G X σ 0 [(0, .ref (ox_φ X (7, 0, 0))), (1, .int x1), (2, .int x2)] [] := by
  unfold V_X10_tell at h
  refine g_aload_n hC 0 dX10_tell_0 rfl rfl ?_
  refine g_iload_n hC 1 dX10_tell_1 rfl rfl ?_
  refine g_ri (r_V (C := RX10) (T := TX10) (N := 25) (As := [.int x1]) (rest := []) hC o_iX10 (o_eX10 _ _ _ _) rfl (c_X10_isChild (l := ox_l X) (φ := ox_φ X) (D := ox_D X) (cI := ox_I X) (cB := ox_B X) hC.J  h) gX10_tell_X10_isChild rfl hd_X10_isChild ⟨Nat.le_of_ble_eq_true rfl, Nat.le_of_ble_eq_true rfl⟩ rfl rfl (Nat.le_of_ble_eq_true rfl) dX10_tell_2) (fun v2 s2 h => ?_)
  refine g_if_ne hC 11 dX10_tell_5 (by decide) (fun z => ?_) (fun z => ?_)
  · have h := h.1 z
    refine g_iload_n hC 2 dX10_tell_11 rfl rfl ?_
    refine g_iconst (v := (-1 : Int32)) hC dX10_tell_12 (by decide) ?_
    refine g_iconst (v := (1 : Int32)) hC dX10_tell_13 (by decide) ?_
    refine g_ri (r_S (As := [.int x2, .int (-1 : Int32), .int (1 : Int32)]) (rest := []) hC (c_X10_within (l := ox_l X) (φ := ox_φ X) (D := ox_D X) (cI := ox_I X) (cB := ox_B X) hC.J  h) gX10_tell_X10_within rfl hd_X10_within ⟨Nat.le_of_ble_eq_true rfl, Nat.le_of_ble_eq_true rfl⟩ rfl rfl (Nat.le_of_ble_eq_true rfl) dX10_tell_14) (fun v14 s14 h => ?_)
    refine g_if_ne hC 23 dX10_tell_17 (by decide) (fun z => ?_) (fun z => ?_)
    · have h := h.1 z
      refine g_aload_n hC 0 dX10_tell_23 rfl rfl ?_
      refine g_get (C := RX10) (T := TX10) (N := 25) (v := .ref (ox_φ X (8, 0, 4))) hC o_iX10 (o_eX10 _ _ _ _) rfl ki_X10_tell_X10 8 (by decide) kw_X10_tell_1 rfl dX10_tell_24 ?_
      refine g_iload_n hC 1 dX10_tell_27 rfl rfl ?_
      refine g_iald hC o_M4 h.1 dX10_tell_28 ?_
      have h := h.2
      refine g_topi (fun y29 e29 => ?_)
      have h := h y29 e29
      refine g_istore_n hC [(3, .int y29), (0, .ref (ox_φ X (7, 0, 0))), (1, .int x1), (2, .int x2)] dX10_tell_29 rfl (by decide) rfl ?_
      refine g_aload_n hC 1 dX10_tell_30 rfl rfl ?_
      refine g_get (C := RX10) (T := TX10) (N := 25) (v := .ref (ox_φ X (8, 0, 4))) hC o_iX10 (o_eX10 _ _ _ _) rfl ki_X10_tell_X10 8 (by decide) kw_X10_tell_1 rfl dX10_tell_31 ?_
      refine g_iload_n hC 2 dX10_tell_34 rfl rfl ?_
      refine g_iload_n hC 3 dX10_tell_35 rfl rfl ?_
      refine g_iast hC o_M4 h.1 dX10_tell_36 ?_
      have h := h.2
      refine g_iload_n hC 0 dX10_tell_37 rfl rfl ?_
      exact hR _ _ _ _ dX10_tell_38 h
    · have h := h.2 z
      refine g_bipush (v := (-102 : Int32)) hC dX10_tell_20 (by decide) ?_
      exact hR _ _ _ _ dX10_tell_22 h
  · have h := h.2 z
    refine g_bipush (v := (-101 : Int32)) hC dX10_tell_8 (by decide) ?_
    exact hR _ _ _ _ dX10_tell_10 h
set_option maxRecDepth 100000 in
theorem c_X10_tell {l : Launch} {φ : OI → Nat} {D : va_G} {cI cB : ClassId} (hJ : o_J φ) {x1 : Int32} {x2 : Int32} {σ : SS} {post : Int32 → SS → Prop} (h : V_X10_tell x1 x2 σ post) : o_Mi l φ D cI cB yX10_tell wsX10_tell 2 43 [.ref (φ (7, 0, 0)), .int x1, .int x2] σ post :=
 o_met_i hJ (by decide +kernel) rfl (Nat.le_of_ble_eq_true rfl) (fun p e s m args below meth c Q hC hR => wv_X10_tell hC hR h)
theorem kw_X10_isSickSo_1 : Cond.fieldLink RX10 79 "SchoolRowModel" "children" "I" ∈ wsX10_isSickSo := List.mem_of_getElem? (i := 1) (by decide +kernel)
theorem kw_X10_isSickSo_2 : Cond.fieldLink RX10 25 "SchoolRowModel" "partsOf" "[I" ∈ wsX10_isSickSo := List.mem_of_getElem? (i := 2) (by decide +kernel)
theorem kw_X10_isSickSo_3 : Cond.fieldLink RX10 22 "SchoolRowModel" "toldOf" "[I" ∈ wsX10_isSickSo := List.mem_of_getElem? (i := 3) (by decide +kernel)
theorem ki_X10_isSickSo_X10 : ∀ w ∈ wsX100, w ∈ wsX10_isSickSo := fun _ h => List.mem_cons_of_mem _ (List.mem_append_right _ h)
theorem hd_X10_isSickSo : yX10_isSickSo.cls = RX10 ∧ yX10_isSickSo.cls ≠ "java/lang/invoke/MethodHandle" ∧ yX10_isSickSo.cls ≠ "java/lang/invoke/VarHandle" ∧ (parseMethodDescriptor yX10_isSickSo.desc).map (fun d => d.parameters.length) = some 1 := by decide +kernel
set_option maxHeartbeats 4000000 in
set_option maxRecDepth 100000 in
theorem wb_X10_isSickSo_79 {X : OX} {post : Int32 → SS → Prop} {K20 : Int32 → Int32 → SS → Prop} {x3 : Int32} {t0 : Int32} {σ : SS} (hC : o_C X cX10_isSickSo RX10 wsX10_isSickSo 3 77 5) (hR : o_RZ X cX10_isSickSo post) (hK20 : ∀ (x2 : Int32) (x3 : Int32) (σ : SS), K20 x2 x3 σ → o_G X σ 20 [(0, .ref (ox_φ X (7, 0, 0))), (2, .int x2), (3, .int x3)] []) (h : VB_X10_isSickSo_79 post K20 x3 t0 σ) : o_G X σ 79 [(0, .ref (ox_φ X (7, 0, 0))), (3, .int x3)] [.int t0] := by
  unfold VB_X10_isSickSo_79 at h
  refine g_istore_n hC [(2, .int t0), (0, .ref (ox_φ X (7, 0, 0))), (3, .int x3)] dX10_isSickSo_79 rfl (by decide) rfl ?_
  refine g_iinc (v := (x3 + (1 : Int32))) hC 2 [(3, .int (x3 + (1 : Int32))), (2, .int t0), (0, .ref (ox_φ X (7, 0, 0)))] dX10_isSickSo_80 rfl rfl (by decide) rfl ?_
  refine g_goto hC 20 dX10_isSickSo_83 (by decide) ?_
  refine g_sub [2, 1, 0] rfl ?_
  exact hK20 _ _ _ h
set_option maxHeartbeats 4000000 in
set_option maxRecDepth 100000 in
theorem wb_X10_isSickSo_74 {X : OX} {post : Int32 → SS → Prop} {K20 : Int32 → Int32 → SS → Prop} {x3 : Int32} {σ : SS} (hC : o_C X cX10_isSickSo RX10 wsX10_isSickSo 3 77 5) (hR : o_RZ X cX10_isSickSo post) (hK20 : ∀ (x2 : Int32) (x3 : Int32) (σ : SS), K20 x2 x3 σ → o_G X σ 20 [(0, .ref (ox_φ X (7, 0, 0))), (2, .int x2), (3, .int x3)] []) (h : VB_X10_isSickSo_74 post K20 x3 σ) : o_G X σ 74 [(0, .ref (ox_φ X (7, 0, 0))), (3, .int x3)] [] := by
  unfold VB_X10_isSickSo_74 at h
  refine g_iconst (v := (1 : Int32)) hC dX10_isSickSo_74 (by decide) ?_
  refine g_goto hC 79 dX10_isSickSo_75 (by decide) ?_
  exact wb_X10_isSickSo_79 hC hR hK20 h
set_option maxHeartbeats 4000000 in
set_option maxRecDepth 100000 in
theorem wb_X10_isSickSo_78 {X : OX} {post : Int32 → SS → Prop} {K20 : Int32 → Int32 → SS → Prop} {x3 : Int32} {σ : SS} (hC : o_C X cX10_isSickSo RX10 wsX10_isSickSo 3 77 5) (hR : o_RZ X cX10_isSickSo post) (hK20 : ∀ (x2 : Int32) (x3 : Int32) (σ : SS), K20 x2 x3 σ → o_G X σ 20 [(0, .ref (ox_φ X (7, 0, 0))), (2, .int x2), (3, .int x3)] []) (h : VB_X10_isSickSo_78 post K20 x3 σ) : o_G X σ 78 [(0, .ref (ox_φ X (7, 0, 0))), (3, .int x3)] [] := by
  unfold VB_X10_isSickSo_78 at h
  refine g_iconst (v := (0 : Int32)) hC dX10_isSickSo_78 (by decide) ?_
  exact wb_X10_isSickSo_79 hC hR hK20 h
set_option maxHeartbeats 4000000 in
set_option maxRecDepth 100000 in
theorem wb_X10_isSickSo_47 {X : OX} {post : Int32 → SS → Prop} {K20 : Int32 → Int32 → SS → Prop} {x2 : Int32} {x3 : Int32} {t0 : Int32} {σ : SS} (hC : o_C X cX10_isSickSo RX10 wsX10_isSickSo 3 77 5) (hR : o_RZ X cX10_isSickSo post) (hK20 : ∀ (x2 : Int32) (x3 : Int32) (σ : SS), K20 x2 x3 σ → o_G X σ 20 [(0, .ref (ox_φ X (7, 0, 0))), (2, .int x2), (3, .int x3)] []) (h : VB_X10_isSickSo_47 post K20 x2 x3 t0 σ) : o_G X σ 47 [(0, .ref (ox_φ X (7, 0, 0))), (2, .int x2), (3, .int x3)] [.int t0] := by
  unfold VB_X10_isSickSo_47 at h
  refine g_istore hC [(4, .int t0), (0, .ref (ox_φ X (7, 0, 0))), (2, .int x2), (3, .int x3)] dX10_isSickSo_47 (by decide) rfl ?_
  refine g_iload_n hC 2 dX10_isSickSo_49 rfl rfl ?_
  refine g_if_eq hC 78 dX10_isSickSo_50 (by decide) (fun z => ?_) (fun z => ?_)
  · have h := h.1 z
    refine g_sub [1, 3] rfl ?_
    exact wb_X10_isSickSo_78 hC hR hK20 h
  · have h := h.2 z
    refine g_aload_n hC 1 dX10_isSickSo_53 rfl rfl ?_
    refine g_get (C := RX10) (T := TX10) (N := 25) (v := .ref (ox_φ X (8, 0, 4))) hC o_iX10 (o_eX10 _ _ _ _) rfl ki_X10_isSickSo_X10 8 (by decide) kw_X10_isSickSo_3 rfl dX10_isSickSo_54 ?_
    refine g_iload_n hC 3 dX10_isSickSo_57 rfl rfl ?_
    refine g_iald hC o_M4 h.1 dX10_isSickSo_58 ?_
    have h := h.2
    refine g_iconst (v := (-1 : Int32)) hC dX10_isSickSo_59 (by decide) ?_
    refine g_icmp_eq hC 74 dX10_isSickSo_60 (by decide) (fun z => ?_) (fun z => ?_)
    · have h := h.1 z
      refine g_sub [1, 3] rfl ?_
      exact wb_X10_isSickSo_74 hC hR hK20 h
    · have h := h.2 z
      refine g_aload_n hC 1 dX10_isSickSo_63 rfl rfl ?_
      refine g_get (C := RX10) (T := TX10) (N := 25) (v := .ref (ox_φ X (8, 0, 4))) hC o_iX10 (o_eX10 _ _ _ _) rfl ki_X10_isSickSo_X10 8 (by decide) kw_X10_isSickSo_3 rfl dX10_isSickSo_64 ?_
      refine g_iload_n hC 3 dX10_isSickSo_67 rfl rfl ?_
      refine g_iald hC o_M4 h.1 dX10_isSickSo_68 ?_
      have h := h.2
      refine g_iload hC 0 dX10_isSickSo_69 rfl ?_
      refine g_icmp_ne hC 78 dX10_isSickSo_71 (by decide) (fun z => ?_) (fun z => ?_)
      · have h := h.1 z
        refine g_sub [1, 3] rfl ?_
        exact wb_X10_isSickSo_78 hC hR hK20 h
      · have h := h.2 z
        refine g_sub [1, 3] rfl ?_
        exact wb_X10_isSickSo_74 hC hR hK20 h
set_option maxHeartbeats 4000000 in
set_option maxRecDepth 100000 in
theorem wb_X10_isSickSo_20 {X : OX} {post : Int32 → SS → Prop} {K20 : Int32 → Int32 → SS → Prop} {x2 : Int32} {x3 : Int32} {σ : SS} (hC : o_C X cX10_isSickSo RX10 wsX10_isSickSo 3 77 5) (hR : o_RZ X cX10_isSickSo post) (hK20 : ∀ (x2 : Int32) (x3 : Int32) (σ : SS), K20 x2 x3 σ → o_G X σ 20 [(0, .ref (ox_φ X (7, 0, 0))), (2, .int x2), (3, .int x3)] []) (h : VB_X10_isSickSo_20 post K20 x2 x3 σ) : o_G X σ 20 [(0, .ref (ox_φ X (7, 0, 0))), (2, .int x2), (3, .int x3)] [] := by
  unfold VB_X10_isSickSo_20 at h
  refine g_iload_n hC 2 dX10_isSickSo_20 rfl rfl ?_
  refine g_aload_n hC 0 dX10_isSickSo_21 rfl rfl ?_
  refine g_get (C := RX10) (T := TX10) (N := 25) (v := .int (σ.1 (7, 0, 0) 4)) hC o_iX10 (o_eX10 _ _ _ _) rfl ki_X10_isSickSo_X10 4 (by decide) kw_X10_isSickSo_1 rfl dX10_isSickSo_22 ?_
  refine g_icmp_ge hC 86 dX10_isSickSo_25 (by decide) (fun z => ?_) (fun z => ?_)
  · have h := h.1 z
    refine g_iload_n hC 1 dX10_isSickSo_86 rfl rfl ?_
    exact hR _ _ _ _ dX10_isSickSo_87 h
  · have h := h.2 z
    refine g_aload_n hC 0 dX10_isSickSo_28 rfl rfl ?_
    refine g_get (C := RX10) (T := TX10) (N := 25) (v := .ref (ox_φ X (8, 0, 5))) hC o_iX10 (o_eX10 _ _ _ _) rfl ki_X10_isSickSo_X10 9 (by decide) kw_X10_isSickSo_2 rfl dX10_isSickSo_29 ?_
    refine g_bipush (v := (24 : Int32)) hC dX10_isSickSo_32 (by decide) ?_
    refine g_iconst (v := (4 : Int32)) hC dX10_isSickSo_34 (by decide) ?_
    refine g_iload_n hC 2 dX10_isSickSo_35 rfl rfl ?_
    refine g_imul hC dX10_isSickSo_36 ?_
    refine g_iadd hC dX10_isSickSo_37 ?_
    refine g_iald hC o_M5 h.1 dX10_isSickSo_38 ?_
    have h := h.2
    refine g_if_le hC 46 dX10_isSickSo_39 (by decide) (fun z => ?_) (fun z => ?_)
    · have h := h.1 z
      refine g_iconst (v := (0 : Int32)) hC dX10_isSickSo_46 (by decide) ?_
      exact wb_X10_isSickSo_47 hC hR hK20 h
    · have h := h.2 z
      refine g_iconst (v := (1 : Int32)) hC dX10_isSickSo_42 (by decide) ?_
      refine g_goto hC 47 dX10_isSickSo_43 (by decide) ?_
      exact wb_X10_isSickSo_47 hC hR hK20 h
set_option maxHeartbeats 4000000 in
set_option maxRecDepth 100000 in
theorem lp_X10_isSickSo_20 {X : OX} {post : Int32 → SS → Prop} (hC : o_C X cX10_isSickSo RX10 wsX10_isSickSo 3 77 5) (hR : o_RZ X cX10_isSickSo post) : ∀ (n : Nat) (a : Int32 × Int32) (σ : SS), LP_X10_isSickSo_20 post n a σ → o_G X σ 20 [(0, .ref (ox_φ X (7, 0, 0))), (2, .int a.1), (3, .int a.2)] [] :=
 o_lp_G (fun K hK a σ h => wb_X10_isSickSo_20 hC hR (fun x2 x3 σ h => hK (x2, x3) σ h) h)
set_option maxHeartbeats 4000000 in
set_option maxRecDepth 100000 in
theorem wv_X10_isSickSo {X : OX} {x1 : Int32} {post : Int32 → SS → Prop} {σ : SS} (hC : o_C X cX10_isSickSo RX10 wsX10_isSickSo 3 77 5) (hR : o_RZ X cX10_isSickSo post) (h : V_X10_isSickSo x1 σ post) : o_G X σ 0 [(0, .ref (ox_φ X (7, 0, 0))), (1, .int x1)] [] := by
  unfold V_X10_isSickSo at h
  refine g_aload_n hC 0 dX10_isSickSo_0 rfl rfl ?_
  refine g_rv (r_V (C := RX10) (T := TX10) (N := 25) (As := []) (rest := []) hC o_iX10 (o_eX10 _ _ _ _) rfl (c_X10_clear (l := ox_l X) (φ := ox_φ X) (D := ox_D X) (cI := ox_I X) (cB := ox_B X) hC.J  h) gX10_isSickSo_X10_clear rfl hd_X10_clear ⟨Nat.le_of_ble_eq_true rfl, Nat.le_of_ble_eq_true rfl⟩ rfl rfl (Nat.le_of_ble_eq_true rfl) dX10_isSickSo_1) (fun s1 h => ?_)
  refine g_aload_n hC 0 dX10_isSickSo_4 rfl rfl ?_
  refine g_bipush (v := (24 : Int32)) hC dX10_isSickSo_5 (by decide) ?_
  refine g_bipush (v := (6 : Int32)) hC dX10_isSickSo_7 (by decide) ?_
  refine g_iconst (v := (0 : Int32)) hC dX10_isSickSo_9 (by decide) ?_
  refine g_iconst (v := (0 : Int32)) hC dX10_isSickSo_10 (by decide) ?_
  refine g_iload_n hC 1 dX10_isSickSo_11 rfl rfl ?_
  refine g_ri (r_V (C := RX10) (T := TX10) (N := 25) (As := [.int (24 : Int32), .int (6 : Int32), .int (0 : Int32), .int (0 : Int32), .int x1]) (rest := []) hC o_iX10 (o_eX10 _ _ _ _) rfl (c_X10_teach (l := ox_l X) (φ := ox_φ X) (D := ox_D X) (cI := ox_I X) (cB := ox_B X) hC.J  h) gX10_isSickSo_X10_teach rfl hd_X10_teach ⟨Nat.le_of_ble_eq_true rfl, Nat.le_of_ble_eq_true rfl⟩ rfl rfl (Nat.le_of_ble_eq_true rfl) dX10_isSickSo_12) (fun v12 s12 h => ?_)
  refine g_pop hC dX10_isSickSo_15 rfl ?_
  refine g_iconst (v := (1 : Int32)) hC dX10_isSickSo_16 (by decide) ?_
  refine g_istore_n hC [(2, .int (1 : Int32)), (0, .ref (ox_φ X (7, 0, 0))), (1, .int x1)] dX10_isSickSo_17 rfl (by decide) rfl ?_
  refine g_iconst (v := (0 : Int32)) hC dX10_isSickSo_18 (by decide) ?_
  refine g_istore_n hC [(3, .int (0 : Int32)), (2, .int (1 : Int32)), (0, .ref (ox_φ X (7, 0, 0))), (1, .int x1)] dX10_isSickSo_19 rfl (by decide) rfl ?_
  refine g_sub [2, 1, 0] rfl ?_
  obtain ⟨n, h⟩ := h
  exact lp_X10_isSickSo_20 hC hR n _ _ h
set_option maxRecDepth 100000 in
theorem c_X10_isSickSo {l : Launch} {φ : OI → Nat} {D : va_G} {cI cB : ClassId} (hJ : o_J φ) {x1 : Int32} {σ : SS} {post : Int32 → SS → Prop} (h : V_X10_isSickSo x1 σ post) : o_Mi l φ D cI cB yX10_isSickSo wsX10_isSickSo 3 77 [.ref (φ (7, 0, 0)), .int x1] σ post :=
 o_met_z hJ (by decide +kernel) rfl (Nat.le_of_ble_eq_true rfl) (fun p e s m args below meth c Q hC hR => wv_X10_isSickSo hC hR h)
