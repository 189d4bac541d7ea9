theorem op_as (a b : Int32) : Op (fun σ p => V_X9_as a b σ p) (fun σ p => V_X10_as a b σ p) := Op.ofQ fun σ0 n L sc kd dg hd => by
  obtain ⟨h6, hk⟩ := sv_n hd
  rcases ixc a hk with ha | ⟨c, hc, rfl⟩
  · exact q_const hd (-101) (fun σ post d h => s_chXf d.1.2.1 ha (nb_t rfl h)) (fun σ post d h => s_chMf d.1.2.2.1 h6 ha (nb_t rfl h))
  · rcases ixc b (n := 5) (by omega) with hb | ⟨w, hw, rfl⟩
    · refine q_const hd (-102) (fun σ post d h => s_chX d.1.2.1 h6 rfl hc (nb_f (by decide) ?_)) (fun σ post d h => s_chM d.1.2.2.1 h6 rfl hc (nb_f (by decide) (s_wiF (M := 4) (by omega) hb (nb_t rfl h))))
      by_cases z : b < 0
      · exact br_t z h
      · exact br_f z (br_f (Int32.not_lt.mpr (hb.resolve_left z)) h)
    · have hk5 : kd c < 5 := (hd.1.2.2.2.2.2.2.2 c hc).1
      refine q_const hd (if w = 0 ∨ kd c = w ∨ (w = 3 ∧ kd c = 4) then nI c else -1) (fun σ post d h => ?_) (fun σ post d h => ?_)
      · refine s_chX d.1.2.1 h6 rfl hc (nb_f (by decide) (br_f (nI_nneg (by omega)) (br_t ((nI_lt2 (b := 5) (by omega) (by omega)).mpr hw) (s_child c (kd c) rfl (by omega) (d.1.2.2.2.2.2.2.2 c hc).2.1 hk5 ?_))))
        have fin : ∀ t : Int32, (t = if w = 0 ∨ kd c = w ∨ (w = 3 ∧ kd c = 4) then 1 else 0) → ((t = (0 : Int32) → VB_X9_as_43 post (-1 : Int32) σ) ∧ (¬ t = (0 : Int32) → VB_X9_as_43 post (nI c) σ)) := by
          intro t ht
          by_cases z : w = 0 ∨ kd c = w ∨ (w = 3 ∧ kd c = 4)
          · rw [if_pos z] at ht h; exact br_f (by rw [ht]; decide) h
          · rw [if_neg z] at ht h; exact br_t ht h
        match w, hw with
        | 0, _ => exact ⟨fun z => absurd z (by decide), fun z => absurd z (by decide), fun z => absurd z (by decide), fun z => absurd z (by decide), fun _ => fin 1 (by simp)⟩
        | 1, _ => exact ⟨fun _ => ⟨if01 _, fin _ (by unfold o_isX8; simp)⟩, fun z => absurd z (by decide), fun z => absurd z (by decide), fun z => absurd z (by decide), fun z => absurd rfl z.1⟩
        | 2, _ => exact ⟨fun z => absurd z (by decide), fun _ => ⟨if01 _, fin _ (by unfold o_isX2; simp)⟩, fun z => absurd z (by decide), fun z => absurd z (by decide), fun z => absurd rfl z.2.1⟩
        | 3, _ => exact ⟨fun z => absurd z (by decide), fun z => absurd z (by decide), fun _ => ⟨if01 _, fin _ (by unfold o_isX7; simp)⟩, fun z => absurd z (by decide), fun z => absurd rfl z.2.2.1⟩
        | 4, _ => exact ⟨fun z => absurd z (by decide), fun z => absurd z (by decide), fun z => absurd z (by decide), fun _ => ⟨if01 _, fin _ (by unfold o_isX6; simp)⟩, fun z => absurd rfl z.2.2.2⟩
        | k + 5, hw => exact absurd hw (by omega)
      · refine s_chM d.1.2.2.1 h6 rfl hc (nb_f (by decide) (s_wiT (M := 4) (by omega) rfl (by omega) (nb_f (by decide) ⟨vp_in_nI (by omega) (by omega), ?_⟩)))
        rw [nI_clamp (by omega), (d.1.2.2.2.2.2.2.2 c hc).2.2]
        refine nm_e ?_
        have yes : (w = 0 ∨ kd c = w ∨ (w = 3 ∧ kd c = 4)) → VB_X10_as_49 post (nI c) σ := fun z => by rw [if_pos z] at h; exact h
        have no : ¬ (w = 0 ∨ kd c = w ∨ (w = 3 ∧ kd c = 4)) → VB_X10_as_53 post σ := fun z => by rw [if_neg z] at h; exact h
        refine ⟨fun z => yes (Or.inl ((nI_eq (b := 0) (by omega) (by omega)).mp z)), fun z => ⟨fun z2 => yes (Or.inr (Or.inl ((nI_eq (by omega) (by omega)).mp z2))), fun z2 => ⟨fun z3 => no ?_, fun z3 => ⟨fun z4 => no ?_, fun z4 => yes (Or.inr (Or.inr ⟨(nI_eq (b := 3) (by omega) (by omega)).mp z3, (nI_eq (b := 4) (by omega) (by omega)).mp z4⟩))⟩⟩⟩⟩
        · rintro (q | q | q)
          · exact z (by rw [q]; rfl)
          · exact z2 (by rw [q])
          · exact z3 (by rw [q.1]; rfl)
        · rintro (q | q | q)
          · exact z (by rw [q]; rfl)
          · exact z2 (by rw [q])
          · exact z4 (by rw [q.2]; rfl)
theorem ei_no {w : Int32} (hw : w < 0 ∨ nI 2 ≤ w) : ¬ (w = 0 ∨ w = 1) := by
  rintro (rfl | rfl) <;> rcases hw with z | z <;> revert z <;> decide
theorem ei_yes {w : Nat} (hw : w < 2) : nI w = 0 ∨ nI w = 1 := by
  rcases Nat.lt_succ_iff_lt_or_eq.mp hw with q | q
  · left; rw [show w = 0 by omega]; rfl
  · right; rw [q]; rfl
theorem op_songs (a b : Int32) : Op (fun σ p => V_X9_songs a b σ p) (fun σ p => V_X10_songs a b σ p) := Op.ofQ fun σ0 n L sc kd dg hd => by
  obtain ⟨h6, hk⟩ := sv_n hd
  rcases ixc a (n := 41) (by omega) with ha | ⟨x, hx, rfl⟩
  · refine q_const hd (-102) (fun σ post d h => ?_) (fun σ post d h => s_wiF (M := 40) (by omega) ha (br_t rfl h))
    by_cases z : a < 0
    · exact br_t z h
    · refine br_f z (br_t ?_ h)
      exact Int32.not_le.mp (fun q => nI_nle2 (a := 40) (b := 41) (by omega) (by omega) (Int32.le_trans (ha.resolve_left z) q))
  · have ha1 : ¬ nI x < 0 := nI_nneg (by omega)
    have ha2 : ¬ 40 < nI x := fun q => by have := (nI_lt2 (a := 40) (by omega) (by omega)).mp q; omega
    rcases ixc b (n := 2) (by omega) with hb | ⟨w, hw, rfl⟩
    · refine q_const hd (-102) (fun σ post d h => br_f ha1 (br_f ha2 (s_eiX ?_))) (fun σ post d h => s_wiT (M := 40) (by omega) rfl (by omega) (br_f (by decide) (s_wiF (M := 1) (by omega) hb (nb_t rfl h))))
      rw [if_neg (ei_no hb)]; exact nb_t rfl h
    · rcases Nat.eq_zero_or_pos n with h0 | h1
      · refine q_const hd (-103) (fun σ post d h => br_f ha1 (br_f ha2 (s_eiX ?_))) (fun σ post d h => s_wiT (M := 40) (by omega) rfl (by omega) (br_f (by decide) (s_wiT (M := 1) (by omega) rfl (by omega) (nb_f (by decide) (nb_t (by rw [d.1.2.2.1, h0]; rfl) h)))))
        rw [if_pos (ei_yes hw)]
        refine nb_f (by decide) (s_has h6 d.1.2.1 ?_)
        rw [if_neg (by omega)]; exact nb_t rfl h
      · exact (q_songs hd h1 ha1 ha2 hw).gd hd (fun σ post d h => h) (fun σ post d h => s_wiT (M := 40) (by omega) rfl (by omega) (br_f (by decide) (s_wiT (M := 1) (by omega) rfl (by omega) (nb_f (by decide) (nb_f (by rw [d.1.2.2.1]; exact nI_ne0 h1 (by omega)) h)))))
theorem op_sick (a : Int32) : Op (fun σ p => V_X9_sick a σ p) (fun σ p => V_X10_sick a σ p) := Op.ofQ fun σ0 n L sc kd dg hd => by
  obtain ⟨h6, hk⟩ := sv_n hd
  rcases ixc a (n := 2) (by omega) with hb | ⟨w, hw, rfl⟩
  · refine q_const hd (-102) (fun σ post d h => s_eiX ?_) (fun σ post d h => s_wiF (M := 1) (by omega) hb (nb_t rfl h))
    rw [if_neg (ei_no hb)]; exact nb_t rfl h
  · rcases Nat.eq_zero_or_pos n with h0 | h1
    · refine q_const hd (-103) (fun σ post d h => s_eiX ?_) (fun σ post d h => s_wiT (M := 1) (by omega) rfl (by omega) (nb_f (by decide) (nb_t (by rw [d.1.2.2.1, h0]; rfl) h)))
      rw [if_pos (ei_yes hw)]
      refine nb_f (by decide) (s_has h6 d.1.2.1 ?_)
      rw [if_neg (by omega)]; exact nb_t rfl h
    · exact (q_sick hd h1 hw).gd hd (fun σ post d h => h) (fun σ post d h => s_wiT (M := 1) (by omega) rfl (by omega) (nb_f (by decide) (nb_f (by rw [d.1.2.2.1]; exact nI_ne0 h1 (by omega)) h)))
theorem op_orders (a b w : Int32) : Op (fun σ p => V_X9_orders a b w σ p) (fun σ p => V_X10_orders a b w σ p) := Op.ofQ fun σ0 n L sc kd dg hd => by
  obtain ⟨h6, hk⟩ := sv_n hd
  obtain ⟨hp0, hp64⟩ := pow_n n h6
  have e1 : (1 : Int32) <<< (nI n &&& 31) - 1 = nI (2 ^ n - 1) := by rw [shl_n n h6, show (1 : Int32) = nI 1 from rfl, pk_sub (by omega)]
  rcases ixc a hk with ha | ⟨c, hc, rfl⟩
  · exact q_const hd (-101) (fun σ post d h => s_chXf d.1.2.1 ha (nb_t rfl h)) (fun σ post d h => s_chMf d.1.2.2.1 h6 ha (nb_t rfl h))
  · rcases ixc b (n := 2 ^ n) (by omega) with hb | ⟨x, hx, rfl⟩
    · refine q_const hd (-102) (fun σ post d h => s_chX d.1.2.1 h6 rfl hc (nb_f (by decide) ?_)) (fun σ post d h => s_chM d.1.2.2.1 h6 rfl hc (nb_f (by decide) ?_))
      · by_cases z : b < 0
        · exact br_t z h
        · refine br_f z (s_size d.1.2.1 (br_t ?_ h))
          rw [shl_n n h6]; exact hb.resolve_left z
      · rw [d.1.2.2.1, e1]
        exact s_wiF (by omega) (by rw [show 2 ^ n - 1 + 1 = 2 ^ n by omega]; exact hb) (br_t rfl h)
    · have X1 : ∀ (σ : SS) (post : Int32 → SS → Prop), Dat σ n L sc kd dg → V_X9_isEither w σ (fun v29 s29 => ((¬ v29 = (0 : Int32) → ((¬ w = (1 : Int32) → VB_X9_orders_51 post (0 : Int32) (nI x) (nI c) s29) ∧ (w = (1 : Int32) → VB_X9_orders_51 post (1 : Int32) (nI x) (nI c) s29))) ∧ (v29 = (0 : Int32) → VB_X9_orders_35 post s29))) → V_X9_orders (nI c) (nI x) w σ post := by
        intro σ post d h
        refine s_chX d.1.2.1 h6 rfl hc (nb_f (by decide) (br_f (nI_nneg (by omega)) (s_size d.1.2.1 (br_f ?_ h))))
        rw [shl_n n h6]; exact nI_nle2 hx (by omega)
      have M1 : ∀ (σ : SS) (post : Int32 → SS → Prop), Dat σ n L sc kd dg → V_X10_within w (0 : Int32) (1 : Int32) σ (fun v30 s30 => ((¬ v30 = (0 : Int32) → V_X10_ordersNow (nI c) (nI x) w s30 (fun v43 s43 => post v43 s43)) ∧ (v30 = (0 : Int32) → VB_X10_orders_36 post s30))) → V_X10_orders (nI c) (nI x) w σ post := by
        intro σ post d h
        refine s_chM d.1.2.2.1 h6 rfl hc (nb_f (by decide) ?_)
        rw [d.1.2.2.1, e1]
        exact s_wiT (by omega) rfl (by omega) (br_f (by decide) h)
      rcases ixc w (n := 2) (by omega) with hb | ⟨w, hw, rfl⟩
      · refine q_const hd (-102) (fun σ post d h => X1 σ post d (s_eiX ?_)) (fun σ post d h => M1 σ post d (s_wiF (M := 1) (by omega) hb (nb_t rfl h)))
        rw [if_neg (ei_no hb)]; exact nb_t rfl h
      · refine (q_orders hd (x2 := nI x) hc hw).gd hd (fun σ post d h => X1 σ post d (s_eiX ?_)) (fun σ post d h => M1 σ post d (s_wiT (M := 1) (by omega) rfl (by omega) (nb_f (by decide) h)))
        rw [if_pos (ei_yes hw)]
        refine nb_f (by decide) ?_
        match w, hw, h with
        | 0, _, h => exact nb_f (show ¬ nI 0 = 1 by decide) h
        | 1, _, h => exact nb_t rfl h
        | j + 2, hw, _ => exact absurd hw (by omega)
theorem op_years (a b w : Int32) : Op (fun σ p => V_X9_years a b w σ p) (fun σ p => V_X10_years a b w σ p) := Op.ofQ fun σ0 n L sc kd dg hd => by
  obtain ⟨h6, hk⟩ := sv_n hd
  by_cases ha : 1 ≤ a ∧ a ≤ 60
  · obtain ⟨T, hT2, rfl⟩ := nI_of2 (M := 60) (n := 60) (by decide) (Int32.not_lt.mpr (Int32.le_trans (show (0 : Int32) ≤ 1 by decide) ha.1)) ha.2
    have hT : 1 ≤ T := (nI_leI (a := 1) (by omega) (by omega)).mp ha.1
    have a1 : ¬ nI T < 1 := Int32.not_lt.mpr ha.1
    have a2 : ¬ 60 < nI T := Int32.not_lt.mpr ha.2
    have M1 : ∀ (σ : SS) (post : Int32 → SS → Prop), (((b < (0 : Int32) → VB_X10_years_23 post σ) ∧ (¬ b < (0 : Int32) → V_X10_within w (0 : Int32) (2 : Int32) σ (fun v17 s17 => ((¬ v17 = (0 : Int32) → ((¬ (s17.1 (7, 0, 0) 4) = (0 : Int32) → V_X10_yearsNow (nI T) b w s17 (fun v42 s42 => VB_X10_years_45 post v42 s42)) ∧ ((s17.1 (7, 0, 0) 4) = (0 : Int32) → VB_X10_years_45 post (-103 : Int32) s17))) ∧ (v17 = (0 : Int32) → VB_X10_years_23 post s17)))))) → V_X10_years (nI T) b w σ post := by
      intro σ post h
      refine s_within ?_
      rw [if_pos ha]
      exact br_f (by decide) h
    by_cases hb : b < 0
    · exact q_const hd (-102) (fun σ post d h => br_f a1 (br_f a2 (br_t hb h))) (fun σ post d h => M1 σ post (br_t hb h))
    · rcases ixc w (n := 3) (by omega) with hw | ⟨w, hw, rfl⟩
      · refine q_const hd (-102) (fun σ post d h => br_f a1 (br_f a2 (br_f hb ?_))) (fun σ post d h => M1 σ post (br_f hb (s_wiF (M := 2) (by omega) hw (nb_t rfl h))))
        by_cases z : w < 0
        · exact br_t z h
        · refine br_f z (br_f (fun q => ?_) h)
          exact nI_nle2 (a := 2) (b := 3) (by omega) (by omega) (Int32.le_trans (hw.resolve_left z) q)
      · rcases Nat.eq_zero_or_pos n with h0 | h1
        · refine q_const hd (-103) (fun σ post d h => br_f a1 (br_f a2 (br_f hb (br_f (nI_nneg (by omega)) (br_t (nI_le (b := 2) (by omega) (by omega)) (s_has h6 d.1.2.1 ?_)))))) (fun σ post d h => M1 σ post (br_f hb (s_wiT (M := 2) (by omega) rfl (by omega) (nb_f (by decide) (nb_t (by rw [d.1.2.2.1, h0]; rfl) h)))))
          rw [if_neg (by omega)]; exact nb_t rfl h
        · exact (q_years hd h1 hT hT2 hb hw).gd hd (fun σ post d h => h) (fun σ post d h => M1 σ post (br_f hb (s_wiT (M := 2) (by omega) rfl (by omega) (nb_f (by decide) (nb_f (by rw [d.1.2.2.1]; exact nI_ne0 h1 (by omega)) h)))))
  · refine q_const hd (-102) (fun σ post d h => ?_) (fun σ post d h => s_within ?_)
    · by_cases z : a < 1
      · exact br_t z h
      · exact br_f z (br_t (Int32.not_le.mp fun q => ha ⟨Int32.not_lt.mp z, q⟩) h)
    · rw [if_neg ha]; exact br_t rfl h
