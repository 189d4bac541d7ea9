set_option maxHeartbeats 4000000 in
set_option maxRecDepth 100000 in
/-- one call of the script -/
theorem law_call {X : OX} {b L : Nat} {xs : Nat → Int32} {σ : SS} {x : Int32} {j : Nat} (hC : lwC X) (hs : o_Sc X b L xs) (hj : j < 1000) (h0 : vp_in x L) (h1 : vp_in (x + 1) L) (h2 : vp_in (x + 2) L) (h3 : vp_in (x + 3) L) (hI : Inv j σ) (kk : ∀ σ', Inv (j + 1) σ' → o_G X σ' 809 (lwV X b x) []) : o_G X σ 26 (lwV X b x) [] := by
  refine g_aload_n hC 0 dL_law_26 rfl rfl ?_
  refine g_iload_n hC 3 dL_law_27 rfl rfl ?_
  refine g_sld hC hs h0 dL_law_28 ?_
  refine g_bipush (v := 31) hC dL_law_29 (by decide) ?_
  refine g_iand hC dL_law_31 ?_
  refine g_topi (fun y ey => ?_)
  by_cases z0 : y = (0 : Int32)
  · refine g_tabIn hC (0 : Int32) z0 144 dL_law_32 (by decide) (by decide) rfl (by decide) ?_
    exact lc_letter hC hs h1 (op_letter _ j σ hI (fun s' => o_G X s' 809 (lwV X b x) []) (fun s' => o_G X s' 165 (lwV X b x) []) kk)
  · skip
    by_cases z1 : y = (1 : Int32)
    · refine g_tabIn hC (1 : Int32) z1 167 dL_law_32 (by decide) (by decide) rfl (by decide) ?_
      exact lc_blank hC hs (op_blank j σ hI (fun s' => o_G X s' 809 (lwV X b x) []) (fun s' => o_G X s' 178 (lwV X b x) []) kk)
    · skip
      by_cases z2 : y = (2 : Int32)
      · refine g_tabIn hC (2 : Int32) z2 180 dL_law_32 (by decide) (by decide) rfl (by decide) ?_
        exact lc_fault hC hs (op_fault j σ hI (fun s' => o_G X s' 809 (lwV X b x) []) (fun s' => o_G X s' 191 (lwV X b x) []) kk)
      · skip
        by_cases z3 : y = (3 : Int32)
        · refine g_tabIn hC (3 : Int32) z3 193 dL_law_32 (by decide) (by decide) rfl (by decide) ?_
          exact lc_school hC hs (op_school j σ hI (fun s' => o_G X s' 809 (lwV X b x) []) (fun s' => o_G X s' 204 (lwV X b x) []) kk)
        · skip
          by_cases z4 : y = (4 : Int32)
          · refine g_tabIn hC (4 : Int32) z4 206 dL_law_32 (by decide) (by decide) rfl (by decide) ?_
            exact lc_about hC hs h1 h2 (op_about _ _ j σ hI (fun s' => o_G X s' 809 (lwV X b x) []) (fun s' => o_G X s' 237 (lwV X b x) []) kk)
          · skip
            by_cases z5 : y = (5 : Int32)
            · refine g_tabIn hC (5 : Int32) z5 239 dL_law_32 (by decide) (by decide) rfl (by decide) ?_
              exact lc_as hC hs h1 h2 (op_as _ _ j σ hI (fun s' => o_G X s' 809 (lwV X b x) []) (fun s' => o_G X s' 270 (lwV X b x) []) kk)
            · skip
              by_cases z6 : y = (6 : Int32)
              · refine g_tabIn hC (6 : Int32) z6 272 dL_law_32 (by decide) (by decide) rfl (by decide) ?_
                exact lc_seat hC hs h1 (op_seat _ j σ hI (fun s' => o_G X s' 809 (lwV X b x) []) (fun s' => o_G X s' 293 (lwV X b x) []) kk)
              · skip
                by_cases z7 : y = (7 : Int32)
                · refine g_tabIn hC (7 : Int32) z7 295 dL_law_32 (by decide) (by decide) rfl (by decide) ?_
                  exact lc_swap hC hs h1 h2 (op_swap _ _ j σ hI (fun s' => o_G X s' 809 (lwV X b x) []) (fun s' => o_G X s' 326 (lwV X b x) []) kk)
                · skip
                  by_cases z8 : y = (8 : Int32)
                  · refine g_tabIn hC (8 : Int32) z8 328 dL_law_32 (by decide) (by decide) rfl (by decide) ?_
                    by_cases w : xs (x + 2).toNatClampNeg = 0
                    · exact lc_ill_0 hC hs h1 h2 w (op_ill _ _ j σ hI (fun s' => o_G X s' 809 (lwV X b x) []) (fun s' => o_G X s' 375 (lwV X b x) []) kk)
                    · exact lc_ill_1 hC hs h1 h2 w (op_ill _ _ j σ hI (fun s' => o_G X s' 809 (lwV X b x) []) (fun s' => o_G X s' 375 (lwV X b x) []) kk)
                  · skip
                    by_cases z9 : y = (9 : Int32)
                    · refine g_tabIn hC (9 : Int32) z9 377 dL_law_32 (by decide) (by decide) rfl (by decide) ?_
                      exact lc_knows hC hs h1 h2 h3 (op_knows _ _ _ j σ hI (fun s' => o_G X s' 809 (lwV X b x) []) (fun s' => o_G X s' 418 (lwV X b x) []) kk)
                    · skip
                      by_cases z10 : y = (10 : Int32)
                      · refine g_tabIn hC (10 : Int32) z10 420 dL_law_32 (by decide) (by decide) rfl (by decide) ?_
                        by_cases w : xs (x + 2).toNatClampNeg = 0
                        · exact lc_lesson_0 hC hs h1 h2 w (op_lesson _ _ j σ hI (fun s' => o_G X s' 809 (lwV X b x) []) (fun s' => o_G X s' 467 (lwV X b x) []) kk)
                        · exact lc_lesson_1 hC hs h1 h2 w (op_lesson _ _ j σ hI (fun s' => o_G X s' 809 (lwV X b x) []) (fun s' => o_G X s' 467 (lwV X b x) []) kk)
                      · skip
                        by_cases z11 : y = (11 : Int32)
                        · refine g_tabIn hC (11 : Int32) z11 469 dL_law_32 (by decide) (by decide) rfl (by decide) ?_
                          exact lc_summer hC hs (op_summer j σ hI (fun s' => o_G X s' 809 (lwV X b x) []) (fun s' => o_G X s' 480 (lwV X b x) []) kk)
                        · skip
                          by_cases z12 : y = (12 : Int32)
                          · refine g_tabIn hC (12 : Int32) z12 482 dL_law_32 (by decide) (by decide) rfl (by decide) ?_
                            exact lc_wipe hC hs h1 h2 (op_wipe _ _ j σ hI (fun s' => o_G X s' 809 (lwV X b x) []) (fun s' => o_G X s' 513 (lwV X b x) []) kk)
                          · skip
                            by_cases z13 : y = (13 : Int32)
                            · refine g_tabIn hC (13 : Int32) z13 515 dL_law_32 (by decide) (by decide) rfl (by decide) ?_
                              exact lc_order hC hs h1 (op_order _ j σ hI (fun s' => o_G X s' 809 (lwV X b x) []) (fun s' => o_G X s' 536 (lwV X b x) []) kk)
                            · skip
                              by_cases z14 : y = (14 : Int32)
                              · refine g_tabIn hC (14 : Int32) z14 538 dL_law_32 (by decide) (by decide) rfl (by decide) ?_
                                exact lc_songs hC hs h1 h2 (op_songs _ _ j σ hI (fun s' => o_G X s' 809 (lwV X b x) []) (fun s' => o_G X s' 569 (lwV X b x) []) kk)
                              · skip
                                by_cases z15 : y = (15 : Int32)
                                · refine g_tabIn hC (15 : Int32) z15 571 dL_law_32 (by decide) (by decide) rfl (by decide) ?_
                                  exact lc_asks hC hs h1 h2 (op_asks _ _ j σ hI (fun s' => o_G X s' 809 (lwV X b x) []) (fun s' => o_G X s' 602 (lwV X b x) []) kk)
                                · skip
                                  by_cases z16 : y = (16 : Int32)
                                  · refine g_tabIn hC (16 : Int32) z16 604 dL_law_32 (by decide) (by decide) rfl (by decide) ?_
                                    exact lc_orders hC hs h1 h2 h3 (op_orders _ _ _ j σ hI (fun s' => o_G X s' 809 (lwV X b x) []) (fun s' => o_G X s' 645 (lwV X b x) []) kk)
                                  · skip
                                    by_cases z17 : y = (17 : Int32)
                                    · refine g_tabIn hC (17 : Int32) z17 647 dL_law_32 (by decide) (by decide) rfl (by decide) ?_
                                      exact lc_tell hC hs h1 h2 (op_tell _ _ j σ hI (fun s' => o_G X s' 809 (lwV X b x) []) (fun s' => o_G X s' 678 (lwV X b x) []) kk)
                                    · skip
                                      by_cases z18 : y = (18 : Int32)
                                      · refine g_tabIn hC (18 : Int32) z18 680 dL_law_32 (by decide) (by decide) rfl (by decide) ?_
                                        exact lc_sick hC hs h1 (op_sick _ j σ hI (fun s' => o_G X s' 809 (lwV X b x) []) (fun s' => o_G X s' 701 (lwV X b x) []) kk)
                                      · skip
                                        by_cases z19 : y = (19 : Int32)
                                        · refine g_tabIn hC (19 : Int32) z19 703 dL_law_32 (by decide) (by decide) rfl (by decide) ?_
                                          exact lc_years hC hs h1 h2 h3 (op_years _ _ _ j σ hI (fun s' => o_G X s' 809 (lwV X b x) []) (fun s' => o_G X s' 744 (lwV X b x) []) kk)
                                        · skip
                                          by_cases z20 : y = (20 : Int32)
                                          · refine g_tabIn hC (20 : Int32) z20 746 dL_law_32 (by decide) (by decide) rfl (by decide) ?_
                                            exact lc_image hC hs (op_image j σ hI (fun s' => o_G X s' 809 (lwV X b x) []) (fun s' => o_G X s' 757 (lwV X b x) []) kk)
                                          · skip
                                            by_cases z21 : y = (21 : Int32)
                                            · refine g_tabIn hC (21 : Int32) z21 759 dL_law_32 (by decide) (by decide) rfl (by decide) ?_
                                              exact lc_restore hC hs (op_restore j σ hj hI (fun s' => o_G X s' 809 (lwV X b x) []) (fun s' => o_G X s' 770 (lwV X b x) []) kk)
                                            · skip
                                              by_cases z22 : y = (22 : Int32)
                                              · refine g_tabIn hC (22 : Int32) z22 772 dL_law_32 (by decide) (by decide) rfl (by decide) ?_
                                                exact lc_count hC hs h1 (op_count _ j σ hI (fun s' => o_G X s' 809 (lwV X b x) []) (fun s' => o_G X s' 793 (lwV X b x) []) kk)
                                              · skip
                                                by_cases z23 : y = (23 : Int32)
                                                · refine g_tabIn hC (23 : Int32) z23 795 dL_law_32 (by decide) (by decide) rfl (by decide) ?_
                                                  exact lc_digest hC hs (op_digest j σ hI (fun s' => o_G X s' 809 (lwV X b x) []) (fun s' => o_G X s' 807 (lwV X b x) []) kk)
                                                · skip
                                                  have a0 := lv_neT z0 (a := 0) (by decide)
                                                  have a1 := lv_neT z1 (a := 1) (by decide)
                                                  have a2 := lv_neT z2 (a := 2) (by decide)
                                                  have a3 := lv_neT z3 (a := 3) (by decide)
                                                  have a4 := lv_neT z4 (a := 4) (by decide)
                                                  have a5 := lv_neT z5 (a := 5) (by decide)
                                                  have a6 := lv_neT z6 (a := 6) (by decide)
                                                  have a7 := lv_neT z7 (a := 7) (by decide)
                                                  have a8 := lv_neT z8 (a := 8) (by decide)
                                                  have a9 := lv_neT z9 (a := 9) (by decide)
                                                  have a10 := lv_neT z10 (a := 10) (by decide)
                                                  have a11 := lv_neT z11 (a := 11) (by decide)
                                                  have a12 := lv_neT z12 (a := 12) (by decide)
                                                  have a13 := lv_neT z13 (a := 13) (by decide)
                                                  have a14 := lv_neT z14 (a := 14) (by decide)
                                                  have a15 := lv_neT z15 (a := 15) (by decide)
                                                  have a16 := lv_neT z16 (a := 16) (by decide)
                                                  have a17 := lv_neT z17 (a := 17) (by decide)
                                                  have a18 := lv_neT z18 (a := 18) (by decide)
                                                  have a19 := lv_neT z19 (a := 19) (by decide)
                                                  have a20 := lv_neT z20 (a := 20) (by decide)
                                                  have a21 := lv_neT z21 (a := 21) (by decide)
                                                  have a22 := lv_neT z22 (a := 22) (by decide)
                                                  have a23 := lv_neT z23 (a := 23) (by decide)
                                                  refine g_tabOut hC 809 dL_law_32 (by omega) (by decide) ?_
                                                  exact kk σ hI.up
theorem lw_in {L j k : Nat} (hL : L ≤ 256) (h : 4 * j + 4 ≤ L) (hk : k < 4) : vp_in (nI (4 * j) + nI k) L := by
  rw [show nI (4 * j) + nI k = nI (4 * j + k) from nI_add _ _]
  exact vp_in_nI (by omega) (by omega)
set_option maxHeartbeats 4000000 in
set_option maxRecDepth 100000 in
/-- the loop of the script -/
theorem law_loop {X : OX} {b L : Nat} {xs : Nat → Int32} (hL : L ≤ 256) (hC : lwC X) (hs : o_Sc X b L xs) (hR : ∀ (σ : SS) (lv : List (Nat × Value)), o_G X σ 816 lv [.int 1]) : ∀ (n j : Nat) (σ : SS), L + 4 ≤ 4 * j + n → 4 * j ≤ L → Inv j σ → o_G X σ 18 (lwV X b (nI (4 * j))) [] := by
  intro n
  induction n with
  | zero => intro j σ h1 h2; omega
  | succ n ih =>
    intro j σ h1 h2 hI
    refine g_iload_n hC 3 dL_law_18 rfl rfl ?_
    refine g_aload_n hC 0 dL_law_19 rfl rfl ?_
    refine g_slen hC hs dL_law_20 ?_
    refine g_iconst (v := nI 4) hC dL_law_21 (by decide) ?_
    refine g_isub hC dL_law_22 ?_
    refine g_icmp_gt hC 815 dL_law_23 (by decide) (fun z => ?_) (fun z => ?_)
    · refine g_iconst (v := 1) hC dL_law_815 (by decide) ?_
      exact hR σ _
    · have hle : 4 * j + 4 ≤ L := by
        rw [Int32.not_lt, Int32.le_iff_toInt_le, pk_sub_toInt (by omega) (by omega), nI_toInt (by omega)] at z
        omega
      have hv : ∀ k, k < 4 → vp_in (nI (4 * j) + nI k) L := fun k hk => lw_in hL hle hk
      refine law_call hC hs (j := j) (by omega) (vp_in_nI (by omega) (by omega)) (hv 1 (by omega)) (hv 2 (by omega)) (hv 3 (by omega)) hI (fun σ' hI' => ?_)
      refine g_iinc (v := nI (4 * (j + 1))) hC 3 [(3, .int (nI (4 * (j + 1)))), (0, .ref b), (1, .ref (ox_φ X (0, 0, 0))), (2, .ref (ox_φ X (7, 0, 0)))] dL_law_809 rfl (by rw [show Int32.ofInt 4 = nI 4 from rfl, nI_add, show 4 * j + 4 = 4 * (j + 1) by omega]) (by decide) rfl ?_
      refine g_goto hC 18 dL_law_812 (by decide) ?_
      refine g_sub [1, 2, 3, 0] rfl ?_
      exact ih (j + 1) σ' (by omega) (by omega) hI'
