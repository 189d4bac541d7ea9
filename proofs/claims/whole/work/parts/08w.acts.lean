/-! CALLS THAT CHANGE THE ROW -/
def FL : List OI := [(0,0,0), (1,0,0), (2,0,0), (11,0,0), (11,0,1), (11,0,2), (8,0,0), (8,0,1), (8,0,8), (5,1,0), (5,1,1), (5,1,2), (5,1,3), (3,1,0), (5,3,0), (5,3,1), (5,3,2), (8,0,9), (8,0,10), (8,0,11), (8,0,12), (8,0,13)]
def Fr (σ σ' : SS) : Prop := (∀ i : OI, i ∈ FL → σ'.1 i = σ.1 i) ∧ (∀ k, k ≠ 14 → k ≠ 15 → σ'.1 (7, 0, 0) k = σ.1 (7, 0, 0) k)
theorem Fr.rf (σ : SS) : Fr σ σ := ⟨fun _ _ => rfl, fun _ _ _ => rfl⟩
theorem Fr.tr {a b c : SS} (h : Fr a b) (g : Fr b c) : Fr a c := ⟨fun i hi => (g.1 i hi).trans (h.1 i hi), fun k h1 h2 => (g.2 k h1 h2).trans (h.2 k h1 h2)⟩
theorem RowV.fr {σ σ' : SS} (h : RowV 0 σ σ') : Fr σ σ' := ⟨fun i hi => h.1 i (by revert i hi; decide), fun k _ _ => by rw [h.1 _ (by decide)]⟩
theorem MB.fr {σ σ' : SS} (h : MB σ σ') : Fr σ σ' := ⟨fun i hi => h.1 i (by revert i hi; decide), h.2.1⟩
theorem Fr.wa {σ : SS} {i : OI} {f : Nat → Int32} (h7 : i ≠ (7, 0, 0)) (h : i ∉ FL) : Fr σ (o_wa σ i f) := ⟨fun j hj => o_wa_ne _ _ (fun e => h (by rw [← e]; exact hj)), fun k _ _ => by rw [o_wa_ne _ _ (Ne.symm h7)]⟩
theorem Inv.fr {σ σ' : SS} {N n L sc : Nat} {kd dg : Nat → Nat} (h0 : sc ≤ N) (hS : InvS σ n kd dg) (hP : InvP σ L) (hK : InvK σ n sc) (hB : InvB σ n kd (nI (dg 0))) (hf : Fr σ σ') (hN : InvN σ' n) : Inv (N + 1) σ' := by
  obtain ⟨G, g2⟩ := hf
  refine ⟨n, L, sc, kd, dg, by omega, ?_, ?_, hN, ?_, ?_⟩
  · unfold InvS at *
    rw [G (2,0,0) (by decide), g2 4 (by decide) (by decide), G (11,0,1) (by decide), g2 1 (by decide) (by decide), g2 2 (by decide) (by decide), G (8,0,0) (by decide), G (11,0,2) (by decide), G (8,0,1) (by decide)]
    exact hS
  · unfold InvP at *
    rw [G (1,0,0) (by decide), g2 12 (by decide) (by decide), G (11,0,0) (by decide), G (8,0,8) (by decide)]
    exact hP
  · unfold InvK at *
    rw [G (0,0,0) (by decide), g2 0 (by decide) (by decide), g2 17 (by decide) (by decide), g2 18 (by decide) (by decide), G (5,1,0) (by decide), G (8,0,9) (by decide), G (5,1,1) (by decide), G (8,0,12) (by decide), G (5,1,2) (by decide), G (8,0,13) (by decide), G (5,1,3) (by decide), G (8,0,11) (by decide), G (3,1,0) (by decide), G (8,0,10) (by decide)]
    exact hK
  · exact hB.cg (by rw [G (0,0,0) (by decide)]) (G _ (by decide)) (G _ (by decide)) (G _ (by decide))
theorem InvN.of {n il : Nat} {p : Nat → Nat} {P W tl : Nat → Int32} {σ : SS} (hp : o_perm n p) (hg : Gd n P W) (hil : il < 2 ^ n) (htl : ∀ c, c < n → tl c = -1 ∨ tl c = 0 ∨ tl c = 1) (hf : Fx n p P W il tl σ) (hso : ∀ k, k < n → σ.1 (8, 0, 2) (p k) = nI k) : InvN σ n := by
  refine ⟨⟨⟨p, hp, fun k hk => ⟨(hf.se k hk).2, hso k hk⟩⟩, fun k hk => ?_, fun c hc => ?_, il, hil, hf.ix, hf.im⟩, fun k hk => ?_⟩
  · have a := hf.tx k hk
    have b := hf.tm k hk
    rw [Nat.zero_add] at a b
    obtain ⟨g1, g2, g3⟩ := hg k
    rw [a.1, a.2, b.1, b.2]
    exact ⟨g1, rfl, g2, rfl, g3⟩
  · rw [hf.lm c hc, hf.lx c hc]; exact ⟨rfl, htl c hc⟩
  · rw [hf.sm k hk, (hf.se k hk).2]
/-- a call that changes the row alone -/
theorem Op.row {VX VM : SS → (Int32 → SS → Prop) → Prop} (h : ∀ (σ : SS) (n L sc : Nat) (kd dg p : Nat → Nat) (P W : Nat → Int32) (il : Nat) (tl : Nat → Int32), Dat σ n L sc kd dg → o_perm n p → Gd n P W → il < 2 ^ n → (∀ c, c < n → tl c = -1 ∨ tl c = 0 ∨ tl c = 1) → Fx n p P W il tl σ → (∀ k, k < n → σ.1 (8, 0, 2) (p k) = nI k) → ∀ post : Int32 → Int32 → SS → Prop, (∀ v σ', Fr σ σ' → InvN σ' n → post v v σ') → VX σ (fun v s => VM s (fun v' s' => post v v' s'))) : Op VX VM := by
  intro N σ ⟨n, L, sc, kd, dg, h0, hS, hP, hN, hK, hB⟩ Nx Bd hx
  have hd : Dat σ n L sc kd dg := ⟨hS, hP, hN, hK⟩
  obtain ⟨⟨⟨p, hp, hs⟩, hpw, htd, il, hil, hiX, hiM⟩, hse⟩ := id hN
  have h6 := hS.1
  refine h σ n L sc kd dg p (fun k => if k < 24 then σ.1 (5, 0, 1) k else 0) (fun k => if k < 24 then σ.1 (5, 0, 2) k else 0) il (σ.1 (5, 0, 3)) hd hp (fun k => ?_) hil (fun c hc => (htd c hc).2) ⟨fun k hk => ⟨hp.1 k hk, (hs k hk).1⟩, fun k hk => by rw [hse k hk]; exact (hs k hk).1, fun k hk => ?_, fun k hk => ?_, hiX, hiM, fun c hc => rfl, fun c hc => (htd c hc).1⟩ (fun k hk => (hs k hk).2) _ (fun v σ' hf hN' => br_t rfl (hx σ' (Inv.fr h0 hS hP hK hB hf hN')))
  · by_cases hk : k < 24
    · simp only [if_pos hk]
      exact ⟨(hpw k hk).1, (hpw k hk).2.2.1, (hpw k hk).2.2.2.2⟩
    · simp only [if_neg hk]
      exact ⟨okP_0, okW_0, fun _ => ⟨trivial, trivial⟩⟩
  · rw [Nat.zero_add]; exact ⟨(if_pos hk).symm, (if_pos hk).symm⟩
  · rw [Nat.zero_add]; exact ⟨((hpw k hk).2.1).trans (if_pos hk).symm, ((hpw k hk).2.2.2.1).trans (if_pos hk).symm⟩
theorem op_lesson (a b : Int32) : Op (fun σ p => V_X9_lesson a b σ p) (fun σ p => V_X10_lesson a b σ p) := Op.row fun σ n L sc kd dg p P W il tl hd hp hg hil htl hf hso post hpo => by
  have h6 := hd.1.1
  rcases ixc a (n := 4) (by omega) with ha | ⟨s, hs, rfl⟩
  · exact s_sbXf ha (nb_t rfl (s_sbMf ha (nb_t rfl (hpo _ σ (Fr.rf σ) hd.2.2.1))))
  · refine s_sbX rfl hs (nb_f (by decide) (s_has h6 hd.1.2.1 ?_))
    rcases Nat.eq_zero_or_pos n with h0 | h1
    · rw [if_neg (by omega)]
      exact nb_t rfl (s_sbM rfl hs (nb_f (by decide) (nb_t (by rw [hd.1.2.2.1, h0]; rfl) (hpo _ σ (Fr.rf σ) hd.2.2.1))))
    · rw [if_pos h1]
      refine nb_f (by decide) (x_teach hd.sch.1 (fun k hk => hf.se k hk) (ills_B h6 (pow6 h6 hil) hf.ix) hf.tx rfl hs (fun s1 hv e0 e3 e5 htx => ?_))
      have hM : o_schM s1 n kd (nI (dg 0)) := by
        obtain ⟨z1, z2, z3, z4⟩ := hd.sch.2
        exact ⟨z1, by rw [hv.1 _ (by decide)]; exact z2, by rw [hv.1 _ (by decide)]; exact z3, by rw [hv.1 (8, 0, 1) (by decide)]; exact z4⟩
      refine s_sbM rfl hs (nb_f (by decide) (nb_f (by rw [hM.2.1]; exact nI_ne0 h1 (by omega)) (s_illSet hM.2.1 h6 hil (fun c hc => by rw [hv.1 _ (by decide)]; exact hf.im c hc) ?_)))
      refine m_teach (b := 0) (s := 0) (P := P) (W := W) hM (fun k hk => ⟨hp.1 k hk, by rw [Nat.zero_add, hv.1 _ (by decide)]; exact hf.sm k hk⟩) (illB_B h6 (pow6 h6 hil)) (by unfold TM; rw [hv.1 _ (by decide), hv.1 _ (by decide)]; exact hf.tm) rfl rfl rfl hs (Or.inl rfl) (Or.inl rfl) (fun s2 hb _ htm => ?_)
      refine hpo _ s2 (hv.fr.tr hb.fr) (InvN.of (p := p) (il := il) (tl := tl) hp (hg.les h6 hp.1 hs hd.dg0) hil htl ⟨?_, ?_, ?_, htm, ?_, ?_, ?_, ?_⟩ ?_)
      · rw [hb.1 _ (by decide), e0]; exact hf.se
      · rw [hb.1 _ (by decide), hv.1 _ (by decide)]; exact hf.sm
      · unfold TX; rw [hb.1 _ (by decide), hb.1 _ (by decide)]; exact htx
      · rw [hb.1 _ (by decide), e5]; exact hf.ix
      · rw [hb.1 _ (by decide), hv.1 _ (by decide)]; exact hf.im
      · rw [hb.1 _ (by decide), e3]; exact hf.lx
      · rw [hb.1 _ (by decide), hv.1 _ (by decide)]; exact hf.lm
      · rw [hb.1 _ (by decide), hv.1 _ (by decide)]; exact hso
theorem op_summer : Op (fun σ p => V_X9_summer σ p) (fun σ p => V_X10_summer σ p) := Op.row fun σ n L sc kd dg p P W il tl hd hp hg hil htl hf hso post hpo => by
  have h6 := hd.1.1
  have hfg : ∃ d : Nat, d ≤ 9 ∧ nI (dg 1) = nI d := ⟨dg 1, (hd.1.2.2.2.1 1 (by omega)).1, rfl⟩
  refine s_has h6 hd.1.2.1 ?_
  rcases Nat.eq_zero_or_pos n with h0 | h1
  · rw [if_neg (by omega)]
    exact br_t rfl (nb_t (by rw [hd.1.2.2.1, h0]; rfl) (hpo _ σ (Fr.rf σ) hd.2.2.1))
  · rw [if_pos h1]
    refine br_f (by decide) (x_summer hd.sch.1 (hd.1.2.2.2.1 1 (by omega)).2 hf.tx (fun s1 hv e0 e3 e5 htx => ?_))
    have hM : o_schM s1 n kd (nI (dg 0)) := by
      obtain ⟨z1, z2, z3, z4⟩ := hd.sch.2
      exact ⟨z1, by rw [hv.1 _ (by decide)]; exact z2, by rw [hv.1 _ (by decide)]; exact z3, by rw [hv.1 (8, 0, 1) (by decide)]; exact z4⟩
    refine nb_f (by rw [hM.2.1]; exact nI_ne0 h1 (by omega)) ?_
    refine m_summer (b := 0) (fg := nI (dg 1)) (P := P) (W := W) hM (by rw [hv.1 _ (by decide)]; exact hd.1.2.2.2.2.2.1) (by unfold TM; rw [hv.1 _ (by decide), hv.1 _ (by decide)]; exact hf.tm) rfl (Or.inl rfl) (fun s2 hb _ htm => ?_)
    refine hpo _ s2 (hv.fr.tr hb.fr) (InvN.of (p := p) (il := il) (tl := tl) hp (sm_ok hfg hg _ (Nat.le_refl _)) hil htl ⟨?_, ?_, ?_, htm, ?_, ?_, ?_, ?_⟩ ?_)
    · rw [hb.1 _ (by decide), e0]; exact hf.se
    · rw [hb.1 _ (by decide), hv.1 _ (by decide)]; exact hf.sm
    · unfold TX; rw [hb.1 _ (by decide), hb.1 _ (by decide)]; exact htx
    · rw [hb.1 _ (by decide), e5]; exact hf.ix
    · rw [hb.1 _ (by decide), hv.1 _ (by decide)]; exact hf.im
    · rw [hb.1 _ (by decide), e3]; exact hf.lx
    · rw [hb.1 _ (by decide), hv.1 _ (by decide)]; exact hf.lm
    · rw [hb.1 _ (by decide), hv.1 _ (by decide)]; exact hso
theorem Gd.wipe {n q : Nat} {P W : Nat → Int32} (h : Gd n P W) : Gd n (upd P q 0) (upd W q 0) := fun k => by
  by_cases e : k = q
  · subst e; rw [upd_at, upd_at]; exact ⟨okP_0, okW_0, fun _ => ⟨rfl, rfl⟩⟩
  · rw [upd_ne e, upd_ne e]; exact h k
theorem PW.wipe {P W P' W' : Nat → Int32} {q : Nat} (h : PW 0 P W P' W') : PW 0 (upd P q 0) (upd W q 0) (upd P' q 0) (upd W' q 0) := fun k hk => by
  have := h k hk
  rw [Nat.zero_add] at this ⊢
  by_cases e : k = q
  · subst e; rw [upd_at, upd_at, upd_at, upd_at]; exact ⟨rfl, rfl⟩
  · rw [upd_ne e, upd_ne e, upd_ne e, upd_ne e]; exact this
theorem op_wipe (a b : Int32) : Op (fun σ p => V_X9_wipe a b σ p) (fun σ p => V_X10_wipe a b σ p) := Op.row fun σ n L sc kd dg p P W il tl hd hp hg hil htl hf hso post hpo => by
  have h6 := hd.1.1
  rcases ixc a (n := n) (by omega) with ha | ⟨c, hc, rfl⟩
  · exact s_chXf hd.1.2.1 ha (br_t rfl (s_chMf hd.1.2.2.1 h6 ha (br_t rfl (hpo _ σ (Fr.rf σ) hd.2.2.1))))
  · rcases ixc b (n := 4) (by omega) with hb | ⟨s, hs, rfl⟩
    · exact s_chX hd.1.2.1 h6 rfl hc (br_f (by decide) (s_sbXf hb (nb_t rfl (s_chM hd.1.2.2.1 h6 rfl hc (br_f (by decide) (s_sbMf hb (nb_t rfl (hpo _ σ (Fr.rf σ) hd.2.2.1))))))))
    · refine s_chX hd.1.2.1 h6 rfl hc (br_f (by decide) (s_sbX rfl hs (nb_f (by decide) (s_parts c s rfl rfl (by omega) hs (s_wipe c s rfl rfl (by omega) hs ?_)))))
      have a1 := hf.tx (4 * c + s) (by omega)
      have a2 := hf.tm (4 * c + s) (by omega)
      rw [Nat.zero_add] at a1 a2
      have ht := hf.tx.wipe (q := 4 * c + s)
      have hm := hf.tm.wipe (q := 4 * c + s)
      show V_X10_wipe (nI c) (nI s) (o_row σ 0 (upd (σ.1 (5, 0, 1)) (4 * c + s) 0) (upd (σ.1 (5, 0, 2)) (4 * c + s) 0)) _
      have hv : RowV 0 σ (o_row σ 0 (upd (σ.1 (5, 0, 1)) (4 * c + s) 0) (upd (σ.1 (5, 0, 2)) (4 * c + s) 0)) := RowV.row
      have h1 := o_row1 σ 0 (upd (σ.1 (5, 0, 1)) (4 * c + s) 0) (upd (σ.1 (5, 0, 2)) (4 * c + s) 0)
      have h2 := o_row2 σ 0 (upd (σ.1 (5, 0, 1)) (4 * c + s) 0) (upd (σ.1 (5, 0, 2)) (4 * c + s) 0)
      have hN : ∀ {i : OI}, i ≠ (5, 0, 1) → i ≠ (5, 0, 2) → (o_row σ 0 (upd (σ.1 (5, 0, 1)) (4 * c + s) 0) (upd (σ.1 (5, 0, 2)) (4 * c + s) 0)).1 i = σ.1 i := fun x y => o_rowN _ _ _ _ x y
      generalize o_row σ 0 (upd (σ.1 (5, 0, 1)) (4 * c + s) 0) (upd (σ.1 (5, 0, 2)) (4 * c + s) 0) = s1 at hv h1 h2 hN ⊢
      refine s_chM (n := n) (c := c) (by rw [hN (by decide) (by decide)]; exact hd.1.2.2.1) h6 rfl hc (br_f (by decide) (s_sbM rfl hs (nb_f (by decide) ?_)))
      rw [nI_slate2]
      have vin : vp_in (nI (4 * c + s)) 48 := vp_in_nI (by omega) (by omega)
      refine ⟨vin, nm_e ⟨vin, vin, ?_⟩⟩
      rw [nI_clamp (by omega), hN (by decide) (by decide), a1.1, a2.1]
      have e5 : o_wr (o_wr s1 (8, 0, 5) (4 * c + s) 0) (8, 0, 6) (4 * c + s) 0 = o_pw s1 (upd (σ.1 (8, 0, 5)) (4 * c + s) 0) (upd (σ.1 (8, 0, 6)) (4 * c + s) 0) := by
        rw [o_wr_wr, o_wr_wr, o_wa_ne _ _ (by decide), hN (by decide) (by decide), hN (by decide) (by decide)]; rfl
      rw [e5]
      have hfr : Fr s1 (o_pw s1 (upd (σ.1 (8, 0, 5)) (4 * c + s) 0) (upd (σ.1 (8, 0, 6)) (4 * c + s) 0)) := (Fr.wa (by decide) (by decide)).tr (Fr.wa (by decide) (by decide))
      refine hpo _ _ (hv.fr.tr hfr) (InvN.of (p := p) (il := il) (tl := tl) hp (hg.wipe (q := 4 * c + s)) hil htl ⟨?_, ?_, ?_, ?_, ?_, ?_, ?_, ?_⟩ ?_)
      · rw [o_pwN _ _ _ (by decide) (by decide), hN (by decide) (by decide)]; exact hf.se
      · rw [o_pwN _ _ _ (by decide) (by decide), hN (by decide) (by decide)]; exact hf.sm
      · unfold TX; rw [o_pwN _ _ _ (by decide) (by decide), o_pwN _ _ _ (by decide) (by decide), h1, h2]; exact ht
      · unfold TM; rw [o_pw5, o_pw6]; exact hm
      · rw [o_pwN _ _ _ (by decide) (by decide), hN (by decide) (by decide)]; exact hf.ix
      · rw [o_pwN _ _ _ (by decide) (by decide), hN (by decide) (by decide)]; exact hf.im
      · rw [o_pwN _ _ _ (by decide) (by decide), hN (by decide) (by decide)]; exact hf.lx
      · rw [o_pwN _ _ _ (by decide) (by decide), hN (by decide) (by decide)]; exact hf.lm
      · rw [o_pwN _ _ _ (by decide) (by decide), hN (by decide) (by decide)]; exact hso
