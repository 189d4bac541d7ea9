/-- as Op, within the calls that a script can hold -/
def OpN (VX VM : SS → (Int32 → SS → Prop) → Prop) : Prop := ∀ (N : Nat) (σ : SS), N < 1000 → Inv N σ → ∀ (Nx Bd : SS → Prop), (∀ σ', Inv (N + 1) σ' → Nx σ') → VX σ (fun v s => VM s (fun v' s' => (v = v' → Nx s') ∧ (¬ v = v' → Bd s')))
theorem Op.n {VX VM : SS → (Int32 → SS → Prop) → Prop} (h : Op VX VM) : OpN VX VM := fun N σ _ hI => h N σ hI
def oRL : List OI := [(8,0,2), (8,0,3), (8,0,4), (8,0,5), (8,0,6), (8,0,7)]
theorem op_restore : OpN (fun σ p => V_X9_restore σ p) (fun σ p => V_X10_restore σ p) := by
  intro N σ hNN hI Nx Bd hx
  obtain ⟨n, L, sc, kd, dg, h0, hS, hP, hN, hK, hB⟩ := id hI
  have h6 := hS.1
  rcases hK.2.2 with ⟨hk0, hm⟩ | ⟨hk1, h1, hm17, hm18, hkp⟩
  · refine nb_t hk0 ?_
    rcases hm with hm | ⟨hm, ks, hks, hm2⟩
    · exact br_t hm (br_t rfl (hx σ hI.up))
    · refine br_f (by rw [hm]; decide) (br_f (fun q => ?_) (br_t rfl (hx σ hI.up)))
      rw [hm2, hK.2.1] at q
      have := (nI_eq (by omega) (by omega)).mp q
      omega
  · refine nb_f (by rw [hk1]; decide) (s_copyR (by decide) (fun s1 hv c0 c1 c3 c5 => s_size (n := n) (by rw [hv.1 _ (by decide)]; exact hS.2.1) ?_))
    obtain ⟨p, hp, hso⟩ := hkp.1
    have e7 : s1.1 (7, 0, 0) = σ.1 (7, 0, 0) := hv.1 _ (by decide)
    refine br_f (by rw [e7, hm17]; decide) (br_t (by rw [e7, hm18, hK.2.1]) ?_)
    refine o_cntI n (fun i a s => a = nI i ∧ (∀ j : OI, j ∉ oRL → s.1 j = s1.1 j) ∧ (∀ x, x < i → s.1 (8, 0, 2) x = σ.1 (8, 0, 9) x ∧ s.1 (8, 0, 3) x = σ.1 (8, 0, 10) x ∧ s.1 (8, 0, 4) x = σ.1 (8, 0, 11) x) ∧ (∀ k, k < n → p k < i → s.1 (8, 0, 7) k = nI (p k))) (fun K a s hJ => ?_) (fun K i a s hi hJ hK' => ?_) (Nat.zero_le _) ⟨rfl, fun _ _ => rfl, fun k hk => absurd hk (by omega), fun k _ hk => absurd hk (by omega)⟩
    · obtain ⟨rfl, hsn, hsv, hos⟩ := hJ
      refine br_t (by rw [hsn _ (by decide), e7, hS.2.2.1]; exact nI_le (Nat.le_refl _) (by omega)) ?_
      refine o_cntI 24 (fun i a s' => a = nI i ∧ (∀ j : OI, j ≠ (8, 0, 5) → j ≠ (8, 0, 6) → s'.1 j = s.1 j) ∧ ∀ k, k < i → s'.1 (8, 0, 5) k = s.1 (8, 0, 12) k ∧ s'.1 (8, 0, 6) k = s.1 (8, 0, 13) k) (fun K a s' hJ => ?_) (fun K i a s' hi hJ hK' => ?_) (Nat.zero_le _) ⟨rfl, fun _ _ _ => rfl, fun k hk => absurd hk (by omega)⟩
      · obtain ⟨rfl, hsn', hsv'⟩ := hJ
        refine br_t (show (24 : Int32) ≤ nI 24 by decide) ?_
        rw [show s'.1 (7, 0, 0) 4 = nI n by rw [hsn' _ (by decide) (by decide), hsn _ (by decide), e7]; exact hS.2.2.1]
        refine br_t rfl (hx s' ?_)
        have G : ∀ j : OI, j ∉ oRL → s'.1 j = s1.1 j := fun j hj => by
          rw [hsn' j (fun e => hj (by rw [e]; decide)) (fun e => hj (by rw [e]; decide)), hsn j hj]
        have hfr : Fr s1 s' := ⟨fun j hj => G j (by revert j hj; decide), fun k _ _ => by rw [G _ (by decide)]⟩
        refine Inv.fr h0 hS hP hK hB (hv.fr.tr hfr) ⟨hkp.cg (fun k hk => ?_) (fun k hk => ?_) (fun k hk => ?_) (fun k hk => ?_) (fun k hk => ?_) (fun k hk => ?_) (fun k hk => ?_) (fun k hk => ?_) ?_ (fun k hk => ?_), fun k hk => ?_⟩
        · rw [G _ (by decide)]; exact c0 k (by omega)
        · rw [hsn' _ (by decide) (by decide)]; exact (hsv k hk).1
        · rw [G _ (by decide)]; exact (c1 k hk).1
        · rw [(hsv' k hk).1, hsn _ (by decide), hv.1 _ (by decide)]
        · rw [G _ (by decide)]; exact (c1 k hk).2
        · rw [(hsv' k hk).2, hsn _ (by decide), hv.1 _ (by decide)]
        · rw [G _ (by decide)]; exact c3 k (by omega)
        · rw [hsn' _ (by decide) (by decide)]; exact (hsv k hk).2.2
        · rw [G _ (by decide)]; exact c5
        · rw [hsn' _ (by decide) (by decide)]; exact (hsv k hk).2.1
        · rw [hsn' _ (by decide) (by decide), hos k hk (hp.1 k hk), G _ (by decide), c0 k (by omega), (hso k hk).1]
      · obtain ⟨rfl, hsn', hsv'⟩ := hJ
        refine br_f (nI_nle2 (b := 24) hi (by omega)) ⟨vp_in_nI (by omega) (by omega), vp_in_nI (by omega) (by omega), vp_in_nI (by omega) (by omega), vp_in_nI (by omega) (by omega), ?_⟩
        rw [nI_clamp (by omega), nI_1]
        refine hK' _ _ ⟨rfl, fun j a1 a2 => by rw [o_wr_ne _ _ _ a2, o_wr_ne _ _ _ a1]; exact hsn' j a1 a2, fun k hk => ?_⟩
        by_cases e : k = i
        · subst e
          rw [o_wr_ne _ _ _ (show ((8,0,5) : OI) ≠ (8,0,6) by decide), o_wr_at, upd_at, o_wr_at, upd_at, o_wr_ne _ _ _ (show ((8,0,13) : OI) ≠ (8,0,5) by decide), hsn' (8,0,12) (by decide) (by decide), hsn' (8,0,13) (by decide) (by decide)]
          exact ⟨rfl, rfl⟩
        · rw [o_wr_ne _ _ _ (show ((8,0,5) : OI) ≠ (8,0,6) by decide), o_wr_at, upd_ne e, o_wr_at, upd_ne e, o_wr_ne _ _ _ (show ((8,0,6) : OI) ≠ (8,0,5) by decide)]
          exact hsv' k (by omega)
    · obtain ⟨rfl, hsn, hsv, hos⟩ := hJ
      obtain ⟨kx, hkx, ekx⟩ := hp.2 i hi
      have e9 : σ.1 (8, 0, 9) i = nI kx := by rw [← ekx]; exact (hso kx hkx).2
      have m9 : ∀ j : OI, j ∉ oRL → j ∉ rowL 0 → s.1 j = σ.1 j := fun j a1 a2 => by rw [hsn j a1, hv.1 j a2]
      have vin : vp_in (nI i) 6 := vp_in_nI (by omega) (by omega)
      refine br_f (by rw [hsn _ (by decide), e7, hS.2.2.1]; exact nI_nle2 hi (by omega)) ⟨vin, vin, vin, ?_⟩
      rw [nI_clamp (show i < 2 ^ 31 by omega), o_wr_at, upd_at, m9 (8,0,9) (by decide) (by decide), e9, nI_clamp (show kx < 2 ^ 31 by omega), nI_1]
      refine ⟨vp_in_nI (by omega) (by omega), vin, vin, vin, vin, ?_⟩
      refine hK' _ _ ⟨rfl, fun j hj => ?_, fun x hx' => ?_, fun k hk hpk => ?_⟩
      · rw [o_wr_ne _ _ _ (fun e => hj (by rw [e]; decide)), o_wr_ne _ _ _ (fun e => hj (by rw [e]; decide)), o_wr_ne _ _ _ (fun e => hj (by rw [e]; decide)), o_wr_ne _ _ _ (fun e => hj (by rw [e]; decide))]
        exact hsn j hj
      · by_cases e : x = i
        · subst e
          refine ⟨?_, ?_, ?_⟩
          · rw [o_wr_ne _ _ _ (show ((8,0,2) : OI) ≠ (8,0,4) by decide), o_wr_ne _ _ _ (show ((8,0,2) : OI) ≠ (8,0,3) by decide), o_wr_ne _ _ _ (show ((8,0,2) : OI) ≠ (8,0,7) by decide), o_wr_at, upd_at, e9]
          · rw [o_wr_ne _ _ _ (show ((8,0,3) : OI) ≠ (8,0,4) by decide), o_wr_at, upd_at, o_wr_ne _ _ _ (show ((8,0,10) : OI) ≠ (8,0,7) by decide), o_wr_ne _ _ _ (show ((8,0,10) : OI) ≠ (8,0,2) by decide), m9 _ (by decide) (by decide)]
          · rw [o_wr_at, upd_at, o_wr_ne _ _ _ (show ((8,0,11) : OI) ≠ (8,0,3) by decide), o_wr_ne _ _ _ (show ((8,0,11) : OI) ≠ (8,0,7) by decide), o_wr_ne _ _ _ (show ((8,0,11) : OI) ≠ (8,0,2) by decide), m9 _ (by decide) (by decide)]
        · obtain ⟨b1, b2, b3⟩ := hsv x (by omega)
          refine ⟨?_, ?_, ?_⟩
          · rw [o_wr_ne _ _ _ (show ((8,0,2) : OI) ≠ (8,0,4) by decide), o_wr_ne _ _ _ (show ((8,0,2) : OI) ≠ (8,0,3) by decide), o_wr_ne _ _ _ (show ((8,0,2) : OI) ≠ (8,0,7) by decide), o_wr_at, upd_ne e]; exact b1
          · rw [o_wr_ne _ _ _ (show ((8,0,3) : OI) ≠ (8,0,4) by decide), o_wr_at, upd_ne e, o_wr_ne _ _ _ (show ((8,0,3) : OI) ≠ (8,0,7) by decide), o_wr_ne _ _ _ (show ((8,0,3) : OI) ≠ (8,0,2) by decide)]; exact b2
          · rw [o_wr_at, upd_ne e, o_wr_ne _ _ _ (show ((8,0,4) : OI) ≠ (8,0,3) by decide), o_wr_ne _ _ _ (show ((8,0,4) : OI) ≠ (8,0,7) by decide), o_wr_ne _ _ _ (show ((8,0,4) : OI) ≠ (8,0,2) by decide)]; exact b3
      · rw [o_wr_ne _ _ _ (show ((8,0,7) : OI) ≠ (8,0,4) by decide), o_wr_ne _ _ _ (show ((8,0,7) : OI) ≠ (8,0,3) by decide), o_wr_at, o_wr_ne _ _ _ (show ((8,0,7) : OI) ≠ (8,0,2) by decide)]
        by_cases e : k = kx
        · subst e; rw [upd_at, ekx]
        · rw [upd_ne e]
          have inj : p k ≠ i := fun q => e (by
            have h2 := (hso k hk).2
            rw [q, e9] at h2
            exact ((nI_eq (by omega) (by omega)).mp h2).symm)
          exact hos k hk (by omega)
