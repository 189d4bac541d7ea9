/-! image and restore -/
theorem RowRel.cg {n : Nat} {a b c d e f g h : Nat → Int32} {i : Int32} {j : Nat → Int32} {a' b' c' d' e' f' g' h' : Nat → Int32} {i' : Int32} {j' : Nat → Int32} (H : RowRel n a b c d e f g h i j) (ha : ∀ k, k < n → a' k = a k) (hb : ∀ k, k < n → b' k = b k) (hc : ∀ k, k < 24 → c' k = c k) (hd : ∀ k, k < 24 → d' k = d k) (he : ∀ k, k < 24 → e' k = e k) (hf : ∀ k, k < 24 → f' k = f k) (hg : ∀ k, k < n → g' k = g k) (hh : ∀ k, k < n → h' k = h k) (hi : i' = i) (hj : ∀ k, k < n → j' k = j k) : RowRel n a' b' c' d' e' f' g' h' i' j' := by
  obtain ⟨⟨p, hp, h1⟩, h2, h3, il, hil, h4, h5⟩ := H
  refine ⟨⟨p, hp, fun k hk => ⟨by rw [ha k hk]; exact (h1 k hk).1, by rw [hb _ (hp.1 k hk)]; exact (h1 k hk).2⟩⟩, fun k hk => ?_, fun c hc' => ?_, il, hil, by rw [hi]; exact h4, fun c hc' => by rw [hj c hc']; exact h5 c hc'⟩
  · rw [hc k hk, hd k hk, he k hk, hf k hk]; exact h2 k hk
  · rw [hg c hc', hh c hc']; exact h3 c hc'
def IL : List OI := [(0,0,0), (1,0,0), (2,0,0), (11,0,0), (11,0,1), (11,0,2), (8,0,0), (8,0,1), (8,0,8), (3,0,0), (5,0,0), (5,0,1), (5,0,2), (5,0,3), (8,0,2), (8,0,3), (8,0,4), (8,0,5), (8,0,6), (8,0,7), (5,3,0), (5,3,1), (5,3,2)]
theorem op_image : Op (fun σ p => V_X9_image σ p) (fun σ p => V_X10_image σ p) := by
  intro N σ hI Nx Bd hx
  obtain ⟨n, L, sc, kd, dg, h0, hS, hP, hN, hK, hB⟩ := id hI
  have h6 := hS.1
  refine s_has h6 hS.2.1 ?_
  rcases Nat.eq_zero_or_pos n with z | h1
  · rw [if_neg (by omega)]
    exact nb_t rfl (nb_t (by rw [hS.2.2.1, z]; rfl) (br_t rfl (hx σ hI.up)))
  · rw [if_pos h1]
    refine nb_f (by decide) (s_copyR (by decide) (fun s1 hv c0 c1 c3 c5 => s_size (n := n) (by rw [o_wr_ne _ _ _ (by decide), hv.1 _ (by decide)]; exact hS.2.1) ?_))
    have e6 : (o_wr s1 (0, 0, 0) 6 1).1 (0, 0, 0) = upd (σ.1 (0, 0, 0)) 6 1 := by rw [o_wr_at, hv.1 _ (by decide)]
    have eN : ∀ {i : OI}, i ≠ (0, 0, 0) → (o_wr s1 (0, 0, 0) 6 1).1 i = s1.1 i := fun q => o_wr_ne _ _ _ q
    generalize o_wr s1 (0, 0, 0) 6 1 = s2 at e6 eN ⊢
    have e7 : s2.1 (7, 0, 0) = σ.1 (7, 0, 0) := by rw [eN (by decide), hv.1 _ (by decide)]
    refine nb_f (by rw [e7, hS.2.2.1]; exact nI_ne0 h1 (by omega)) ?_
    have f7 : (o_wr (o_wr s2 (7, 0, 0) 17 1) (7, 0, 0) 18 ((o_wr s2 (7, 0, 0) 17 1).1 (7, 0, 0) 0)).1 (7, 0, 0) = upd (upd (σ.1 (7, 0, 0)) 17 1) 18 (nI sc) := by
      rw [o_wr_at, o_wr_at, e7, upd_ne (by decide), hK.2.1]
    have fN : ∀ {i : OI}, i ≠ (7, 0, 0) → (o_wr (o_wr s2 (7, 0, 0) 17 1) (7, 0, 0) 18 ((o_wr s2 (7, 0, 0) 17 1).1 (7, 0, 0) 0)).1 i = s2.1 i := fun q => by rw [o_wr_ne _ _ _ q, o_wr_ne _ _ _ q]
    generalize o_wr (o_wr s2 (7, 0, 0) 17 1) (7, 0, 0) 18 ((o_wr s2 (7, 0, 0) 17 1).1 (7, 0, 0) 0) = s3 at f7 fN ⊢
    refine o_cntI 6 (fun i a s => a = nI i ∧ (∀ j : OI, j ≠ (8, 0, 9) → j ≠ (8, 0, 10) → j ≠ (8, 0, 11) → s.1 j = s3.1 j) ∧ ∀ k, k < i → s.1 (8, 0, 9) k = s3.1 (8, 0, 2) k ∧ s.1 (8, 0, 10) k = s3.1 (8, 0, 3) k ∧ s.1 (8, 0, 11) k = s3.1 (8, 0, 4) k) (fun K a s hJ => ?_) (fun K i a s hi hJ hK' => ?_) (Nat.zero_le _) ⟨rfl, fun _ _ _ _ => rfl, fun k hk => absurd hk (by omega)⟩
    · obtain ⟨rfl, hsn, hsv⟩ := hJ
      refine br_t (show (6 : Int32) ≤ nI 6 by decide) ?_
      refine o_cntI 24 (fun i a s' => a = nI i ∧ (∀ j : OI, j ≠ (8, 0, 12) → j ≠ (8, 0, 13) → s'.1 j = s.1 j) ∧ ∀ k, k < i → s'.1 (8, 0, 12) k = s.1 (8, 0, 5) k ∧ s'.1 (8, 0, 13) k = s.1 (8, 0, 6) k) (fun K a s' hJ => ?_) (fun K i a s' hi hJ hK' => ?_) (Nat.zero_le _) ⟨rfl, fun _ _ _ => rfl, fun k hk => absurd hk (by omega)⟩
      · obtain ⟨rfl, hsn', hsv'⟩ := hJ
        refine br_t (show (24 : Int32) ≤ nI 24 by decide) ?_
        have g7 : s'.1 (7, 0, 0) = upd (upd (σ.1 (7, 0, 0)) 17 1) 18 (nI sc) := by rw [hsn' _ (by decide) (by decide), hsn _ (by decide) (by decide) (by decide), f7]
        rw [show s'.1 (7, 0, 0) 4 = nI n by rw [g7, upd_ne (by decide), upd_ne (by decide)]; exact hS.2.2.1]
        refine br_t rfl (hx s' ?_)
        -- all the rest as it was
        have low : ∀ j : OI, j ≠ (0, 0, 0) → j ≠ (7, 0, 0) → j ≠ (8, 0, 9) → j ≠ (8, 0, 10) → j ≠ (8, 0, 11) → j ≠ (8, 0, 12) → j ≠ (8, 0, 13) → s'.1 j = s1.1 j := fun j a1 a2 a3 a4 a5 a6 a7 => by
          rw [hsn' j a6 a7, hsn j a3 a4 a5, fN a2, eN a1]
        have g0 : s'.1 (0, 0, 0) = upd (σ.1 (0, 0, 0)) 6 1 := by rw [hsn' _ (by decide) (by decide), hsn _ (by decide) (by decide) (by decide), fN (by decide), e6]
        have G : ∀ j : OI, j ≠ (0, 0, 0) → j ≠ (7, 0, 0) → j ≠ (8, 0, 9) → j ≠ (8, 0, 10) → j ≠ (8, 0, 11) → j ≠ (8, 0, 12) → j ≠ (8, 0, 13) → j ∉ rowL 1 → s'.1 j = σ.1 j := fun j a1 a2 a3 a4 a5 a6 a7 a8 => by
          rw [low j a1 a2 a3 a4 a5 a6 a7, hv.1 j a8]
        refine ⟨n, L, sc, kd, dg, by omega, ?_, ?_, ?_, ?_, ?_⟩
        · unfold InvS at *
          rw [g7, upd_ne (by decide), upd_ne (by decide), upd_ne (by decide), upd_ne (by decide), upd_ne (by decide), upd_ne (by decide), G (2,0,0) (by decide) (by decide) (by decide) (by decide) (by decide) (by decide) (by decide) (by decide), G (11,0,1) (by decide) (by decide) (by decide) (by decide) (by decide) (by decide) (by decide) (by decide), G (8,0,0) (by decide) (by decide) (by decide) (by decide) (by decide) (by decide) (by decide) (by decide), G (11,0,2) (by decide) (by decide) (by decide) (by decide) (by decide) (by decide) (by decide) (by decide), G (8,0,1) (by decide) (by decide) (by decide) (by decide) (by decide) (by decide) (by decide) (by decide)]
          exact hS
        · unfold InvP at *
          rw [g7, upd_ne (by decide), upd_ne (by decide), G (1,0,0) (by decide) (by decide) (by decide) (by decide) (by decide) (by decide) (by decide) (by decide), G (11,0,0) (by decide) (by decide) (by decide) (by decide) (by decide) (by decide) (by decide) (by decide), G (8,0,8) (by decide) (by decide) (by decide) (by decide) (by decide) (by decide) (by decide) (by decide)]
          exact hP
        · unfold InvN at *
          rw [G (5,0,0) (by decide) (by decide) (by decide) (by decide) (by decide) (by decide) (by decide) (by decide), G (8,0,2) (by decide) (by decide) (by decide) (by decide) (by decide) (by decide) (by decide) (by decide), G (5,0,1) (by decide) (by decide) (by decide) (by decide) (by decide) (by decide) (by decide) (by decide), G (8,0,5) (by decide) (by decide) (by decide) (by decide) (by decide) (by decide) (by decide) (by decide), G (5,0,2) (by decide) (by decide) (by decide) (by decide) (by decide) (by decide) (by decide) (by decide), G (8,0,6) (by decide) (by decide) (by decide) (by decide) (by decide) (by decide) (by decide) (by decide), G (5,0,3) (by decide) (by decide) (by decide) (by decide) (by decide) (by decide) (by decide) (by decide), G (8,0,4) (by decide) (by decide) (by decide) (by decide) (by decide) (by decide) (by decide) (by decide), G (3,0,0) (by decide) (by decide) (by decide) (by decide) (by decide) (by decide) (by decide) (by decide), G (8,0,3) (by decide) (by decide) (by decide) (by decide) (by decide) (by decide) (by decide) (by decide), G (8,0,7) (by decide) (by decide) (by decide) (by decide) (by decide) (by decide) (by decide) (by decide)]
          exact hN
        · refine ⟨by rw [g0, upd_ne (by decide)]; exact hK.1, by rw [g7, upd_ne (by decide), upd_ne (by decide)]; exact hK.2.1, Or.inr ⟨by rw [g0, upd_at], h1, by rw [g7, upd_ne (by decide), upd_at], by rw [g7, upd_at], ?_⟩⟩
          have m : ∀ j : OI, j ≠ (0, 0, 0) → j ≠ (7, 0, 0) → j ∉ rowL 1 → s3.1 j = σ.1 j := fun j a1 a2 a8 => by rw [fN a2, eN a1, hv.1 j a8]
          refine hN.1.cg (fun k hk => ?_) (fun k hk => ?_) (fun k hk => ?_) (fun k hk => ?_) (fun k hk => ?_) (fun k hk => ?_) (fun k hk => ?_) (fun k hk => ?_) ?_ (fun k hk => ?_)
          · rw [low _ (by decide) (by decide) (by decide) (by decide) (by decide) (by decide) (by decide)]; exact c0 k (by omega)
          · rw [hsn' _ (by decide) (by decide), (hsv k (by omega)).1, m _ (by decide) (by decide) (by decide)]
          · rw [low _ (by decide) (by decide) (by decide) (by decide) (by decide) (by decide) (by decide)]; exact (c1 k hk).1
          · rw [(hsv' k hk).1, hsn _ (by decide) (by decide) (by decide), m _ (by decide) (by decide) (by decide)]
          · rw [low _ (by decide) (by decide) (by decide) (by decide) (by decide) (by decide) (by decide)]; exact (c1 k hk).2
          · rw [(hsv' k hk).2, hsn _ (by decide) (by decide) (by decide), m _ (by decide) (by decide) (by decide)]
          · rw [low _ (by decide) (by decide) (by decide) (by decide) (by decide) (by decide) (by decide)]; exact c3 k (by omega)
          · rw [hsn' _ (by decide) (by decide), (hsv k (by omega)).2.2, m _ (by decide) (by decide) (by decide)]
          · rw [low _ (by decide) (by decide) (by decide) (by decide) (by decide) (by decide) (by decide)]; exact c5
          · rw [hsn' _ (by decide) (by decide), (hsv k (by omega)).2.1, m _ (by decide) (by decide) (by decide)]
        · exact hB.cg (by rw [g0, upd_ne (by decide)]) (G _ (by decide) (by decide) (by decide) (by decide) (by decide) (by decide) (by decide) (by decide)) (G _ (by decide) (by decide) (by decide) (by decide) (by decide) (by decide) (by decide) (by decide)) (G _ (by decide) (by decide) (by decide) (by decide) (by decide) (by decide) (by decide) (by decide))
      · obtain ⟨rfl, hsn', hsv'⟩ := hJ
        refine br_f (nI_nle2 (b := 24) hi (by omega)) ⟨vp_in_nI (by omega) (by omega), vp_in_nI (by omega) (by omega), vp_in_nI (by omega) (by omega), vp_in_nI (by omega) (by omega), ?_⟩
        rw [nI_clamp (by omega), nI_1]
        refine hK' _ _ ⟨rfl, fun j a1 a2 => by rw [o_wr_ne _ _ _ a2, o_wr_ne _ _ _ a1]; exact hsn' j a1 a2, fun k hk => ?_⟩
        by_cases e : k = i
        · subst e
          rw [o_wr_ne _ _ _ (show ((8,0,12) : OI) ≠ (8,0,13) by decide), o_wr_at, upd_at, o_wr_at, upd_at, o_wr_ne _ _ _ (show ((8,0,6) : OI) ≠ (8,0,12) by decide), hsn' (8,0,5) (by decide) (by decide), hsn' (8,0,6) (by decide) (by decide)]
          exact ⟨rfl, rfl⟩
        · rw [o_wr_ne _ _ _ (show ((8,0,12) : OI) ≠ (8,0,13) by decide), o_wr_at, upd_ne e, o_wr_at, upd_ne e, o_wr_ne _ _ _ (show ((8,0,13) : OI) ≠ (8,0,12) by decide)]
          exact hsv' k (by omega)
    · obtain ⟨rfl, hsn, hsv⟩ := hJ
      have vin : vp_in (nI i) 6 := vp_in_nI (by omega) (by omega)
      refine br_f (nI_nle2 (b := 6) hi (by omega)) ⟨vin, vin, vin, vin, vin, vin, ?_⟩
      rw [nI_clamp (by omega), nI_1]
      refine hK' _ _ ⟨rfl, fun j a1 a2 a3 => by rw [o_wr_ne _ _ _ a3, o_wr_ne _ _ _ a2, o_wr_ne _ _ _ a1]; exact hsn j a1 a2 a3, fun k hk => ?_⟩
      by_cases e : k = i
      · subst e
        refine ⟨?_, ?_, ?_⟩
        · rw [o_wr_ne _ _ _ (show ((8,0,9) : OI) ≠ (8,0,11) by decide), o_wr_ne _ _ _ (show ((8,0,9) : OI) ≠ (8,0,10) by decide), o_wr_at, upd_at, hsn _ (by decide) (by decide) (by decide)]
        · rw [o_wr_ne _ _ _ (show ((8,0,10) : OI) ≠ (8,0,11) by decide), o_wr_at, upd_at, o_wr_ne _ _ _ (show ((8,0,3) : OI) ≠ (8,0,9) by decide), hsn _ (by decide) (by decide) (by decide)]
        · rw [o_wr_at, upd_at, o_wr_ne _ _ _ (show ((8,0,4) : OI) ≠ (8,0,10) by decide), o_wr_ne _ _ _ (show ((8,0,4) : OI) ≠ (8,0,9) by decide), hsn _ (by decide) (by decide) (by decide)]
      · obtain ⟨b1, b2, b3⟩ := hsv k (by omega)
        refine ⟨?_, ?_, ?_⟩
        · rw [o_wr_ne _ _ _ (show ((8,0,9) : OI) ≠ (8,0,11) by decide), o_wr_ne _ _ _ (show ((8,0,9) : OI) ≠ (8,0,10) by decide), o_wr_at, upd_ne e]; exact b1
        · rw [o_wr_ne _ _ _ (show ((8,0,10) : OI) ≠ (8,0,11) by decide), o_wr_at, upd_ne e, o_wr_ne _ _ _ (show ((8,0,10) : OI) ≠ (8,0,9) by decide)]; exact b2
        · rw [o_wr_at, upd_ne e, o_wr_ne _ _ _ (show ((8,0,11) : OI) ≠ (8,0,10) by decide), o_wr_ne _ _ _ (show ((8,0,11) : OI) ≠ (8,0,9) by decide)]; exact b3
