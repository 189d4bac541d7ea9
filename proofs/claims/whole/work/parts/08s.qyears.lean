theorem q_years {σ0 : SS} {n L sc : Nat} {kd dg : Nat → Nat} (hd : Dat σ0 n L sc kd dg) (h1 : 0 < n) {T w : Nat} {x2 : Int32} (hT : 1 ≤ T) (hT2 : T ≤ 60) (hx2 : ¬ x2 < 0) (hw : w < 3) : Qry σ0 n kd dg (fun σ p => V_X9_years (nI T) x2 (nI w) σ p) (fun σ p => V_X10_yearsNow (nI T) x2 (nI w) σ p) := by
  have h6 := hd.1.1
  have hlo := hd.dg0
  have hfg : ∃ d : Nat, d ≤ 9 ∧ nI (dg 1) = nI d := ⟨dg 1, (hd.1.2.2.2.1 1 (by omega)).1, rfl⟩
  obtain ⟨p, P, W, il, tl, hp, hg, hil, -, hfx⟩ := hd.fx
  have h64 := pow6 h6 hil
  have ok := yrF_ok (kd := kd) (ill := ilB il) h1 h6 hlo hfg (show yOk n (x2.toInt64, p, P, W) from ⟨hp.1, hg⟩) T
  generalize hY : yrF kd (nI (dg 0)) (nI (dg 1)) (ilB il) n (x2.toInt64, p, P, W) T = Y at ok
  refine ⟨if w = 0 then o_sum Y.2.2.1 24 else if w = 1 then o_sum (fun k => o_bc (Y.2.2.2 k)) 24 else Y.1.toInt32, fun σ post hs hpo => ?_, fun σ post hs hpo => ?_⟩
  · have hsch := (hd.sv hs.1).sch.1
    have hS := (hd.sv hs.1).1
    refine br_f (fun q => by have := (nI_lt2 (b := 1) (by omega) (by omega)).mp q; omega) (br_f (fun q => by have := (nI_lt2 (a := 60) (by omega) (by omega)).mp q; omega) (br_f hx2 (br_f (nI_nneg (by omega)) (br_t (nI_le (b := 2) (by omega) (by omega)) (s_has h6 hsch.2.1 ?_)))))
    rw [if_pos h1]
    refine nb_f (by decide) (s_copy2 h6 (hfx σ hs.1) (fun s1 hv1 hse1 htx1 hi1 _ => ?_))
    refine o_cntI T (fun i a s => a = (nI T, (yrF kd (nI (dg 0)) (nI (dg 1)) (ilB il) n (x2.toInt64, p, P, W) i).1, nI i) ∧ RowV 2 σ s ∧ o_sit (s.1 (5, 2, 0)) n (yrF kd (nI (dg 0)) (nI (dg 1)) (ilB il) n (x2.toInt64, p, P, W) i).2.1 ∧ s.1 (3, 2, 0) 5 = nI il ∧ TX 2 s (yrF kd (nI (dg 0)) (nI (dg 1)) (ilB il) n (x2.toInt64, p, P, W) i).2.2.1 (yrF kd (nI (dg 0)) (nI (dg 1)) (ilB il) n (x2.toInt64, p, P, W) i).2.2.2) (fun K a s hI => ?_) (fun K i a s hi hI hK => ?_) (Nat.zero_le _) ⟨rfl, hv1, hse1, hi1, htx1⟩
    · obtain ⟨rfl, hv, -, -, htx⟩ := hI
      refine br_t (nI_le (Nat.le_refl _) (by omega)) ?_
      have hpo := hpo s (hv.st hs)
      rw [hY] at htx ⊢
      rcases (show w = 0 ∨ w = 1 ∨ w = 2 by omega) with rfl | rfl | rfl
      · rw [if_pos rfl] at hpo
        refine nb_t rfl (s_partsAll ?_)
        rw [o_sum_congr (g := Y.2.2.1) (fun k hk => by have := (htx k hk).1; rw [Nat.zero_add] at this; exact this)]
        exact hpo
      · rw [if_neg (by omega), if_pos rfl] at hpo
        refine nb_f (show ¬ nI 1 = 0 by decide) (nb_t rfl (s_mistAll ?_))
        rw [o_sum_congr (g := fun k => o_bc (Y.2.2.2 k)) (fun k hk => by have := (htx k hk).2; rw [Nat.zero_add] at this; rw [this])]
        exact hpo
      · rw [if_neg (by omega), if_neg (by omega)] at hpo
        exact nb_f (show ¬ nI 2 = 0 by decide) (nb_f (show ¬ nI 2 = 1 by decide) hpo)
    · obtain ⟨rfl, hv, hse, hi', htx⟩ := hI
      refine x_year (T := T) (i := i) (hsch.sv hv.sv) h1 h64 (fg := nI (dg 1)) ?_ hi hT2 hse hi' htx (fun y' hy' s' hv' hse' hi2 htx' => ?_)
      · rw [hv.sv.1 _ (by decide)]; exact (hS.2.2.2.1 1 (by omega)).2
      · subst hy'
        exact hK _ _ ⟨rfl, hv.tr hv', hse', hi2, htx'⟩
  · have hsch := (hd.sv hs.1).sch.2
    have hF := hfx σ hs.1
    have hS := (hd.sv hs.1).1
    refine s_copyM ?_
    have m0 : Mv σ (o_pw σ (cpF (σ.1 (8, 0, 5)) 24) (cpF (σ.1 (8, 0, 6)) 24)) := Mv.pw (fun k hk => by rw [cpF_lo hk, cpF_lo hk]; exact ⟨rfl, rfl⟩)
    have t0 : TM 24 (o_pw σ (cpF (σ.1 (8, 0, 5)) 24) (cpF (σ.1 (8, 0, 6)) 24)) P W := fun k hk => by
      rw [o_pw5, o_pw6, cpF_hi hk, cpF_hi hk]
      have := hF.tm k hk
      rw [Nat.zero_add] at this; exact this
    have e7 : (o_pw σ (cpF (σ.1 (8, 0, 5)) 24) (cpF (σ.1 (8, 0, 6)) 24)).1 (8, 0, 7) = σ.1 (8, 0, 7) := o_pwN _ _ _ (by decide) (by decide)
    generalize o_pw σ (cpF (σ.1 (8, 0, 5)) 24) (cpF (σ.1 (8, 0, 6)) 24) = σ1 at m0 t0 e7
    refine o_cnt n (fun i => (nI T, x2, nI w, nI i)) (fun i => o_wa σ1 (8, 0, 7) (c6F (σ1.1 (8, 0, 7)) i)) (fun K => ?_) (fun K i hi hK => ?_) (Nat.zero_le _) rfl (by rw [c6F_0, o_wa_id])
    · have hm1 : Mv σ (o_wa σ1 (8, 0, 7) (c6F (σ1.1 (8, 0, 7)) n)) := m0.tr (Mv.w7 (fun j hj => c6F_lo hj))
      have hse1 : o_seatsM (o_wa σ1 (8, 0, 7) (c6F (σ1.1 (8, 0, 7)) n)) 6 n p := fun k hk => ⟨hp.1 k hk, by rw [o_wa_at, c6F_hi hk, e7]; exact hF.sm k hk⟩
      have htm1 : TM 24 (o_wa σ1 (8, 0, 7) (c6F (σ1.1 (8, 0, 7)) n)) P W := by unfold TM; rw [o_wa_ne _ _ (by decide), o_wa_ne _ _ (by decide)]; exact t0
      refine br_t (by rw [o_wa_ne _ _ (by decide), (hsch.mv m0).2.1]; exact nI_le (Nat.le_refl _) (by omega)) ?_
      generalize o_wa σ1 (8, 0, 7) (c6F (σ1.1 (8, 0, 7)) n) = s1 at hm1 hse1 htm1
      have hm2 : Mv σ (o_wl8 s1 16 x2.toInt64) := hm1.tr Mv.w16
      have hse2 : o_seatsM (o_wl8 s1 16 x2.toInt64) 6 n p := hse1
      have htm2 : TM 24 (o_wl8 s1 16 x2.toInt64) P W := htm1
      have e16 : (o_wl8 s1 16 x2.toInt64).2 16 = x2.toInt64 := rfl
      generalize o_wl8 s1 16 x2.toInt64 = s2 at hm2 hse2 htm2 e16
      refine o_cntI T (fun i a s => a = (nI T, nI w, nI i) ∧ Mv σ s ∧ s.2 16 = (yrF kd (nI (dg 0)) (nI (dg 1)) (ilB il) n (x2.toInt64, p, P, W) i).1 ∧ o_seatsM s 6 n (yrF kd (nI (dg 0)) (nI (dg 1)) (ilB il) n (x2.toInt64, p, P, W) i).2.1 ∧ TM 24 s (yrF kd (nI (dg 0)) (nI (dg 1)) (ilB il) n (x2.toInt64, p, P, W) i).2.2.1 (yrF kd (nI (dg 0)) (nI (dg 1)) (ilB il) n (x2.toInt64, p, P, W) i).2.2.2) (fun K2 a s hI => ?_) (fun K2 i a s hi hI hK2 => ?_) (Nat.zero_le _) ⟨rfl, hm2, e16, hse2, htm2⟩
      · obtain ⟨rfl, hm, hsd, -, htm⟩ := hI
        refine br_t (nI_le (Nat.le_refl _) (by omega)) ?_
        have hpo := hpo s (hm.st hs) hm.2.2.2.2
        have hn := (hsch.mv hm).2.1
        rw [hY] at hsd htm
        rcases (show w = 0 ∨ w = 1 ∨ w = 2 by omega) with rfl | rfl | rfl
        · rw [if_pos rfl] at hpo
          refine nb_t rfl (s_allParts (b := 24) rfl (by omega) hn h6 ?_)
          rw [sum_both h6 (fun k hk => (htm k hk).1) (fun k h1 h2 => ((ok.2 k).2.2 h1).1)]
          exact hpo
        · rw [if_neg (by omega), if_pos rfl] at hpo
          refine nb_f (show ¬ nI 1 = 0 by decide) (nb_t rfl (s_allWrong (b := 24) rfl (by omega) hn h6 ?_))
          rw [wsum_both h6 (fun k hk => (htm k hk).2) (fun k _ => (ok.2 k).2.1) (fun k h1 h2 => ((ok.2 k).2.2 h1).2)]
          exact hpo
        · rw [if_neg (by omega), if_neg (by omega)] at hpo
          refine nb_f (show ¬ nI 2 = 0 by decide) (nb_f (show ¬ nI 2 = 1 by decide) ?_)
          show post (s.2 16).toInt32 s
          rw [hsd]; exact hpo
      · obtain ⟨rfl, hm, hsd, hse, htm⟩ := hI
        refine br_f (nI_nle2 hi (by omega)) ?_
        refine m_year (fg := nI (dg 1)) (hsch.mv hm) h1 hil ?_ (fun c hc => by rw [hm.1 _ (by decide)]; exact hF.im c hc) hsd hse htm (fun y' hy' s' hm' hsd' hse' htm' => ?_)
        · rw [hm.2.1 2 (by decide) (by decide)]; exact hS.2.2.2.2.2.1
        · subst hy'
          show K2 (_, _, _) _
          rw [nI_1]
          exact hK2 _ _ ⟨rfl, hm.tr hm', hsd', hse', htm'⟩
    · unfold VB_X10_yearsNow_7
      rw [o_wa_ne _ _ (by decide), (hsch.mv m0).2.1]
      refine br_f (nI_nle2 hi (by omega)) ?_
      rw [show (6 : Int32) + nI i = nI (6 + i) from nI_add 6 i]
      refine ⟨vp_in_nI (by omega) (by omega), vp_in_nI (by omega) (by omega), ?_⟩
      rw [nI_clamp (by omega), nI_clamp (by omega), o_wr_wr, o_wa_at, o_wa_wa, c6F_lo (by omega), c6F_1]
      show K (_, _, _, _) _
      exact o_Ke hK (by rw [nI_1]) rfl
