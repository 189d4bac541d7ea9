/-! how many orders -/
def ordB (kd : Nat → Nat) (lo : Int32) (n c : Nat) (x2 : Int32) (w k0 k : Nat) : Bool := decide ((les0 kd lo n (ord n k)).2.1 (4 * c) = x2) && (decide (w = 0) || decide (ord n k k0 = c))
def ordC (kd : Nat → Nat) (lo : Int32) (n c : Nat) (x2 : Int32) (w k0 : Nat) : Nat → Int32
  | 0 => 0
  | k + 1 => if ordB kd lo n c x2 w k0 k then ordC kd lo n c x2 w k0 k + 1 else ordC kd lo n c x2 w k0 k
theorem q_orders {σ0 : SS} {n L sc : Nat} {kd dg : Nat → Nat} (hd : Dat σ0 n L sc kd dg) {c w : Nat} {x2 : Int32} (hc : c < n) (hw : w < 2) : Qry σ0 n kd dg (fun σ p => V_X9_countOrders (nI c) x2 (nI w) σ p) (fun σ p => V_X10_ordersNow (nI c) x2 (nI w) σ p) := by
  have h1 : 0 < n := by omega
  have h6 := hd.1.1
  have h720 := fct_le h6
  have hpos := fct_pos n
  obtain ⟨p, k0, hp, hk0, hpk, hst, hne, hso⟩ := hd.2.2.1.1.at h6 hc
  refine ⟨ordC kd (nI (dg 0)) n c x2 w k0 (fct n), fun σ post hs hpo => ?_, fun σ post hs hpo => ?_⟩
  · have hsch := (hd.sv hs.1).sch.1
    refine s_seatOf (p := p) (k := k0) hsch.2.1 h6 (fun j hj => ⟨(hst j hj).1, ?_⟩) hk0 (by rw [hpk]) (fun j hj => hne j (by omega) (by omega)) ?_
    · rw [hs.1.1 _ (by decide)]; exact (hst j hj).2.1
    refine s_fresh (fun σ1 hv1 hse1 _ _ hil1 => ?_)
    refine o_cntI (fct n) (fun k a s => a = (nI c, x2, nI w, ordC kd (nI (dg 0)) n c x2 w k0 k, nI k0, nI k) ∧ k < fct n ∧ RowV 2 σ s ∧ o_sit (s.1 (5, 2, 0)) n (ord n k) ∧ s.1 (3, 2, 0) 5 = 0) (fun K a s hI => ?_) (fun K k a s hk hI hK => ?_) (Nat.zero_le _) ⟨rfl, hpos, hv1, fun i hi => ?_, hil1⟩
    · exact absurd hI.2.1 (by omega)
    · obtain ⟨rfl, -, hv, hse, hil⟩ := hI
      refine br_f (nI_nle2 (b := 720) (by omega) (by omega)) (s_trial (hsch.sv hv.sv) h1 hk hse hil (fun s2 hv2 e5 e3 hval => ?_))
      have hv3 := hv.tr hv2
      have hse2 : o_sit (s2.1 (5, 2, 0)) n (ord n k) := by rw [e5]; exact hse
      have nx : ∀ v, v = ordC kd (nI (dg 0)) n c x2 w k0 (k + 1) → VB_X9_countOrders_83 post (fun x1 x2 x3 x4 x5 x6 σ => K (x1, x2, x3, x4, x5, x6) σ) (nI c) x2 (nI w) v (nI k0) (nI k) s2 := by
        intro v hv'
        refine s_nextO h1 h6 (hsch.sv hv3.sv).2.1 hk hse2 ⟨fun z s4 hv4 hse4 e4 => ?_, fun z => ?_⟩
        · refine nb_f (by decide) ?_
          dsimp only
          rw [nI_1, hv']
          exact hK _ _ ⟨rfl, z, hv3.tr hv4, hse4, by rw [e4, e3]; exact hil⟩
        · refine nb_t rfl ?_
          show post v s2
          rw [hv', show k + 1 = fct n by omega]
          exact hpo _ (hv3.st hs)
      have cnt : ∀ t : Bool, t = (decide (w = 0) || decide (ord n k k0 = c)) → VB_X9_countOrders_60 post (fun x1 x2 x3 x4 x5 x6 σ => K (x1, x2, x3, x4, x5, x6) σ) (nI c) x2 (nI w) (ordC kd (nI (dg 0)) n c x2 w k0 k) (nI k0) (nI k) (if t then 1 else 0) s2 := by
        intro t ht
        cases t with
        | false =>
          refine br_t (by decide) (nx _ ?_)
          rw [ordC, ordB, ← ht, Bool.and_false]; rfl
        | true =>
          refine br_f (by decide) (s_mist c 0 rfl rfl (by omega) (by omega) ?_)
          rw [Nat.add_zero, (hval c hc).2]
          by_cases z : (les0 kd (nI (dg 0)) n (ord n k)).2.1 (4 * c) = x2
          · refine nb_t z (nx _ ?_)
            rw [ordC, ordB, ← ht, decide_eq_true z]; rfl
          · refine nb_f z (nx _ ?_)
            rw [ordC, ordB, ← ht, decide_eq_false z]; rfl
      match w, hw with
      | 0, _ => exact br_t rfl (cnt true rfl)
      | 1, _ =>
        refine br_f (show ¬ nI 1 = 0 by decide) (s_childOn k0 rfl (by omega) ?_)
        rw [(hse2 k0 hk0).2]
        have hb := (hse2 k0 hk0).1
        by_cases z : ord n k k0 = c
        · exact nb_t (by rw [z]) (cnt true (by rw [decide_eq_true z]; rfl))
        · exact nb_f (fun q => z ((nI_eq (by omega) (by omega)).mp q)) (cnt false (by rw [decide_eq_false z]; rfl))
      | j + 2, hw => exact absurd hw (by omega)
    · rw [ord_0 h6 hi]
      exact ⟨hi, hse1 i (by omega)⟩
  · have hsch := (hd.sv hs.1).sch.2
    have hcl : (nI c).toNatClampNeg = c := nI_clamp (by omega)
    refine o_cntI (fct n) (fun k a s => a = (nI c, x2, nI w, ordC kd (nI (dg 0)) n c x2 w k0 k, nI k) ∧ Mv σ s) (fun K a s hI => ?_) (fun K k a s hk hI hK => ?_) (Nat.zero_le _) ⟨rfl, Mv.rf σ⟩
    · obtain ⟨rfl, hm⟩ := hI
      exact s_many h1 h6 (hsch.mv hm).2.1 (br_t (nI_le (Nat.le_refl _) (by omega)) (hpo _ (hm.st hs) hm.2.2.2.2))
    · obtain ⟨rfl, hm⟩ := hI
      refine s_many h1 h6 (hsch.mv hm).2.1 (br_f (nI_nle2 hk (by omega)) ?_)
      refine s_try (hsch.mv hm) h1 rfl hk (fun s' hm' hseat hval => ?_)
      have hm2 := hm.tr hm'
      have ec : (24 : Int32) + (4 : Int32) * nI c = nI (24 + 4 * c) := by
        rw [show (4 : Int32) = nI 4 from rfl, pk_mul, show (24 : Int32) = nI 24 from rfl, nI_add]
      have yes : ordB kd (nI (dg 0)) n c x2 w k0 k = true → VB_X10_ordersNow_72 post (fun x1 x2 x3 x4 x5 σ => K (x1, x2, x3, x4, x5) σ) (nI c) x2 (nI w) (nI k) (ordC kd (nI (dg 0)) n c x2 w k0 k) s' := by
        intro z
        show K (_, _, _, _, _) _
        exact hK _ _ ⟨by rw [ordC, if_pos z, nI_1], hm2⟩
      have no : ordB kd (nI (dg 0)) n c x2 w k0 k = false → VB_X10_ordersNow_76 post (fun x1 x2 x3 x4 x5 σ => K (x1, x2, x3, x4, x5) σ) (nI c) x2 (nI w) (nI k) (ordC kd (nI (dg 0)) n c x2 w k0 k) s' := by
        intro z
        show K (_, _, _, _, _) _
        exact hK _ _ ⟨by rw [ordC, if_neg (by rw [z]; decide), nI_1, Int32.add_zero], hm2⟩
      rw [ec]
      refine ⟨vp_in_nI (by omega) (by omega), ?_⟩
      rw [nI_clamp (by omega), (hval c hc).2]
      by_cases z : (les0 kd (nI (dg 0)) n (ord n k)).2.1 (4 * c) = x2
      · refine nb_t z (br_f (by decide) ?_)
        match w, hw with
        | 0, _ => exact br_t rfl (yes (by rw [ordB, decide_eq_true z]; rfl))
        | 1, _ =>
          refine br_f (show ¬ nI 1 = 0 by decide) ⟨vp_in_nI (by omega) (by omega), ?_⟩
          have e8 : s'.1 (8, 0, 2) c = nI k0 := by rw [hm2.1 _ (by decide), hs.1.1 _ (by decide)]; exact hso
          rw [hcl, e8, show (6 : Int32) + nI k0 = nI (6 + k0) from nI_add 6 k0]
          refine ⟨vp_in_nI (by omega) (by omega), ?_⟩
          have hb := (ord_perm h1 h6 hk).1 k0 hk0
          rw [nI_clamp (by omega), hseat k0 hk0]
          by_cases z2 : ord n k k0 = c
          · exact nb_t (by rw [z2]) (yes (by rw [ordB, decide_eq_true z, decide_eq_true z2]; rfl))
          · exact nb_f (fun q => z2 ((nI_eq (by omega) (by omega)).mp q)) (no (by rw [ordB, decide_eq_true z, decide_eq_false z2]; rfl))
        | j + 2, hw => exact absurd hw (by omega)
      · exact nb_f z (br_t rfl (no (by rw [ordB, decide_eq_false z]; rfl)))
