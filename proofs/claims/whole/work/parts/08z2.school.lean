/-! a school is read -/
theorem x_read {L : Nat} {σ : SS} {post : SS → Prop} (hL : σ.1 (1, 0, 0) 1 = nI L) (h8 : 8 ≤ L) (h13 : L ≤ 13) (h : ∀ s : SS, (∀ j : OI, j ≠ (11, 0, 1) → j ≠ (11, 0, 2) → j ≠ (2, 0, 0) → s.1 j = σ.1 j) → (∀ k, k < 6 → s.1 (11, 0, 1) k = σ.1 (11, 0, 0) k - 48) → s.1 (2, 0, 0) 7 = nI (L - 7) → (∀ x, x < L - 7 → s.1 (11, 0, 2) x = o_kind (σ.1 (11, 0, 0) (7 + x))) → post s) : V_X5_readFrom σ post := by
  refine o_cntI 6 (fun i a s => a = nI i ∧ (∀ j : OI, j ≠ (11, 0, 1) → s.1 j = σ.1 j) ∧ ∀ k, k < i → s.1 (11, 0, 1) k = σ.1 (11, 0, 0) k - 48) (fun K a s hJ => ?_) (fun K i a s hi hJ hK => ?_) (Nat.zero_le _) ⟨rfl, fun _ _ => rfl, fun k hk => absurd hk (by omega)⟩
  · obtain ⟨rfl, hn, hd⟩ := hJ
    refine br_t (show (6 : Int32) ≤ nI 6 by decide) ?_
    refine o_cntI L (fun i a s' => 7 ≤ i ∧ a = nI i ∧ (∀ j : OI, j ≠ (11, 0, 2) → j ≠ (2, 0, 0) → s'.1 j = s.1 j) ∧ s'.1 (2, 0, 0) 7 = nI (i - 7) ∧ ∀ x, x < i - 7 → s'.1 (11, 0, 2) x = o_kind (σ.1 (11, 0, 0) (7 + x))) (fun K a s' hJ => ?_) (fun K i a s' hi hJ hK => ?_) (show 7 ≤ L by omega) ⟨Nat.le_refl _, rfl, fun j a1 a2 => o_wr_ne _ _ _ a2, by rw [o_wr_at, upd_at]; rfl, fun x hx => absurd hx (by omega)⟩
    · obtain ⟨-, rfl, hn', hz, hk⟩ := hJ
      have e1 : s'.1 (1, 0, 0) 1 = nI L := by rw [hn' _ (by decide) (by decide), hn _ (by decide)]; exact hL
      unfold VB_X5_readFrom_38 V_X3_length
      rw [e1]
      refine br_t (nI_le (Nat.le_refl _) (by omega)) (h s' (fun j a1 a2 a3 => by rw [hn' j a2 a3, hn j a1]) (fun k hk6 => by rw [hn' _ (by decide) (by decide)]; exact hd k hk6) hz hk)
    · obtain ⟨h7, rfl, hn', hz, hk⟩ := hJ
      have e1 : s'.1 (1, 0, 0) 1 = nI L := by rw [hn' _ (by decide) (by decide), hn _ (by decide)]; exact hL
      have e0 : s'.1 (11, 0, 0) = σ.1 (11, 0, 0) := by rw [hn' _ (by decide) (by decide), hn _ (by decide)]
      unfold VB_X5_readFrom_38 V_X3_length
      rw [e1]
      refine br_f (nI_nle2 hi (by omega)) (s_at11 i rfl (show i < 14 by omega) (s_kindX ?_))
      rw [hz, e0]
      refine s_put11 (i - 7) rfl (show i - 7 < 6 by omega) ?_
      rw [nI_1, o_wa_ne _ _ (show ((2,0,0) : OI) ≠ (11,0,2) by decide), hz, nI_1]
      refine hK _ _ ⟨by omega, rfl, fun j a1 a2 => by rw [o_wr_ne _ _ _ a2, o_wa_ne _ _ a1]; exact hn' j a1 a2, by rw [o_wr_at, upd_at, show i - 7 + 1 = i + 1 - 7 by omega], fun x hx => ?_⟩
      rw [o_wr_ne _ _ _ (by decide), o_wa_at]
      by_cases e : x = i - 7
      · subst e; rw [upd_at, show 7 + (i - 7) = i by omega]
      · rw [upd_ne e]; exact hk x (by omega)
  · obtain ⟨rfl, hn, hd⟩ := hJ
    refine br_f (nI_nle2 (b := 6) hi (by omega)) (s_at11 i rfl (show i < 14 by omega) (s_put11 i rfl (show i < 6 by omega) ?_))
    rw [nI_1, hn (11, 0, 0) (by decide)]
    refine hK _ _ ⟨rfl, fun j a1 => by rw [o_wa_ne _ _ a1]; exact hn j a1, fun k hk => ?_⟩
    rw [o_wa_at]
    by_cases e : k = i
    · subst e; rw [upd_at]
    · rw [upd_ne e]; exact hd k (by omega)
def sML : List OI := [(7,0,0), (8,0,0), (8,0,1), (8,0,2), (8,0,3), (8,0,4), (8,0,5), (8,0,6), (8,0,7)]
theorem m_read {L sc : Nat} {σ : SS} {post : Int32 → SS → Prop} (hL : σ.1 (7, 0, 0) 12 = nI L) (h8 : 8 ≤ L) (h13 : L ≤ 13) (hsc : σ.1 (7, 0, 0) 0 = nI sc) (hc : ∀ j, j < L → ∃ c : Nat, c ≤ 126 ∧ σ.1 (8, 0, 8) j = nI c) (hg : ∀ j, j < L → o_may (σ.1 (8, 0, 8) j) j = true)
    (h : ∀ s : SS, (∀ j : OI, j ∉ sML → s.1 j = σ.1 j) → s.1 (7, 0, 0) 4 = nI (L - 7) → s.1 (7, 0, 0) 1 = σ.1 (8, 0, 8) 0 - 48 → s.1 (7, 0, 0) 2 = σ.1 (8, 0, 8) 1 - 48 → s.1 (7, 0, 0) 0 = nI (sc + 1) → s.1 (7, 0, 0) 12 = 0 → s.1 (7, 0, 0) 17 = σ.1 (7, 0, 0) 17 → s.1 (7, 0, 0) 18 = σ.1 (7, 0, 0) 18 → (∀ k, k < 4 → s.1 (8, 0, 0) k = σ.1 (8, 0, 8) (2 + k) - 48) → (∀ x, x < L - 7 → s.1 (8, 0, 1) x = o_kind (σ.1 (8, 0, 8) (7 + x)) ∧ s.1 (8, 0, 2) x = nI x ∧ s.1 (8, 0, 7) x = nI x ∧ s.1 (8, 0, 3) x = 0 ∧ s.1 (8, 0, 4) x = -1) → (∀ k, k < 24 → s.1 (8, 0, 5) k = 0 ∧ s.1 (8, 0, 6) k = 0) → post (nI (L - 7)) s) : V_X10_school σ post := by
  refine s_faultM (by omega) hL hc L (Nat.le_refl _) (fun j hj => hg j hj) (fun z => absurd z (by omega)) ?_
  rw [hL]
  refine nb_t rfl (br_t (nI_le (a := 8) h8 (by omega)) ⟨vp_in_nI (n := 0) (by omega) (by omega), vp_in_nI (n := 1) (by omega) (by omega), ?_⟩)
  rw [show (0 : Int32).toNatClampNeg = 0 from rfl, show (1 : Int32).toNatClampNeg = 1 from rfl, o_wr_ne _ _ _ (show ((8,0,8) : OI) ≠ (7,0,0) by decide)]
  have f7 : (o_wr (o_wr σ (7, 0, 0) 1 (σ.1 (8, 0, 8) 0 - 48)) (7, 0, 0) 2 (σ.1 (8, 0, 8) 1 - 48)).1 (7, 0, 0) = upd (upd (σ.1 (7, 0, 0)) 1 (σ.1 (8, 0, 8) 0 - 48)) 2 (σ.1 (8, 0, 8) 1 - 48) := by rw [o_wr_at, o_wr_at]
  have fN : ∀ {j : OI}, j ≠ (7, 0, 0) → (o_wr (o_wr σ (7, 0, 0) 1 (σ.1 (8, 0, 8) 0 - 48)) (7, 0, 0) 2 (σ.1 (8, 0, 8) 1 - 48)).1 j = σ.1 j := fun q => by rw [o_wr_ne _ _ _ q, o_wr_ne _ _ _ q]
  generalize o_wr (o_wr σ (7, 0, 0) 1 (σ.1 (8, 0, 8) 0 - 48)) (7, 0, 0) 2 (σ.1 (8, 0, 8) 1 - 48) = s1 at f7 fN ⊢
  refine o_cntI 4 (fun i a s => a = nI i ∧ (∀ j : OI, j ≠ (8, 0, 0) → s.1 j = s1.1 j) ∧ ∀ k, k < i → s.1 (8, 0, 0) k = σ.1 (8, 0, 8) (2 + k) - 48) (fun K a s hJ => ?_) (fun K i a s hi hJ hK => ?_) (Nat.zero_le _) ⟨rfl, fun _ _ => rfl, fun k hk => absurd hk (by omega)⟩
  · obtain ⟨rfl, hn, hb⟩ := hJ
    refine br_t (show (4 : Int32) ≤ nI 4 by decide) ?_
    have e12 : s.1 (7, 0, 0) 12 = nI L := by rw [hn _ (by decide), f7, upd_ne (by decide), upd_ne (by decide)]; exact hL
    rw [e12, show (7 : Int32) = nI 7 from rfl, pk_sub (by omega)]
    have g7 : (o_wr s (7, 0, 0) 4 (nI (L - 7))).1 (7, 0, 0) = upd (upd (upd (σ.1 (7, 0, 0)) 1 (σ.1 (8, 0, 8) 0 - 48)) 2 (σ.1 (8, 0, 8) 1 - 48)) 4 (nI (L - 7)) := by rw [o_wr_at, hn _ (by decide), f7]
    have gN : ∀ {j : OI}, j ≠ (7, 0, 0) → (o_wr s (7, 0, 0) 4 (nI (L - 7))).1 j = s.1 j := fun q => o_wr_ne _ _ _ q
    generalize o_wr s (7, 0, 0) 4 (nI (L - 7)) = s2 at g7 gN ⊢
    have e4 : s2.1 (7, 0, 0) 4 = nI (L - 7) := by rw [g7, upd_at]
    have e8 : s2.1 (8, 0, 8) = σ.1 (8, 0, 8) := by rw [gN (by decide), hn _ (by decide), fN (by decide)]
    refine o_cntI (L - 7) (fun i a s' => a = nI i ∧ (∀ j : OI, j ≠ (8, 0, 1) → j ≠ (8, 0, 2) → j ≠ (8, 0, 7) → j ≠ (8, 0, 3) → j ≠ (8, 0, 4) → s'.1 j = s2.1 j) ∧ ∀ x, x < i → s'.1 (8, 0, 1) x = o_kind (σ.1 (8, 0, 8) (7 + x)) ∧ s'.1 (8, 0, 2) x = nI x ∧ s'.1 (8, 0, 7) x = nI x ∧ s'.1 (8, 0, 3) x = 0 ∧ s'.1 (8, 0, 4) x = -1) (fun K a s' hJ => ?_) (fun K i a s' hi hJ hK => ?_) (Nat.zero_le _) ⟨rfl, fun _ _ _ _ _ _ => rfl, fun x hx => absurd hx (by omega)⟩
    · obtain ⟨rfl, hn', hv⟩ := hJ
      refine br_t (by rw [hn' _ (by decide) (by decide) (by decide) (by decide) (by decide), e4]; exact nI_le (Nat.le_refl _) (by omega)) ?_
      refine o_cntI 24 (fun i a s'' => a = nI i ∧ (∀ j : OI, j ≠ (8, 0, 5) → j ≠ (8, 0, 6) → s''.1 j = s'.1 j) ∧ ∀ k, k < i → s''.1 (8, 0, 5) k = 0 ∧ s''.1 (8, 0, 6) k = 0) (fun K a s'' hJ => ?_) (fun K i a s'' hi hJ hK => ?_) (Nat.zero_le _) ⟨rfl, fun _ _ _ => rfl, fun k hk => absurd hk (by omega)⟩
      · obtain ⟨rfl, hn'', hz⟩ := hJ
        refine br_t (show (24 : Int32) ≤ nI 24 by decide) ?_
        have k7 : (o_wr (o_wr s'' (7, 0, 0) 0 (s''.1 (7, 0, 0) 0 + 1)) (7, 0, 0) 12 0).1 (7, 0, 0) = upd (upd (s2.1 (7, 0, 0)) 0 (nI (sc + 1))) 12 0 := by
          have e7 : s''.1 (7, 0, 0) = s2.1 (7, 0, 0) := by rw [hn'' _ (by decide) (by decide), hn' _ (by decide) (by decide) (by decide) (by decide) (by decide)]
          have e70 : s2.1 (7, 0, 0) 0 = nI sc := by rw [g7, upd_ne (by decide), upd_ne (by decide), upd_ne (by decide)]; exact hsc
          rw [o_wr_at, o_wr_at, e7, e70, nI_1]
        have kN : ∀ {j : OI}, j ≠ (7, 0, 0) → (o_wr (o_wr s'' (7, 0, 0) 0 (s''.1 (7, 0, 0) 0 + 1)) (7, 0, 0) 12 0).1 j = s''.1 j := fun q => by rw [o_wr_ne _ _ _ q, o_wr_ne _ _ _ q]
        generalize o_wr (o_wr s'' (7, 0, 0) 0 (s''.1 (7, 0, 0) 0 + 1)) (7, 0, 0) 12 0 = s3 at k7 kN ⊢
        rw [show s3.1 (7, 0, 0) 4 = nI (L - 7) by rw [k7, upd_ne (by decide), upd_ne (by decide)]; exact e4]
        refine h s3 (fun j hj => ?_) ?_ ?_ ?_ ?_ ?_ ?_ ?_ (fun k hk => ?_) (fun x hx => ?_) (fun k hk => ?_)
        · have ne : ∀ i : OI, i ∈ sML → j ≠ i := fun i hi e => hj (by rw [e]; exact hi)
          rw [kN (ne _ (by decide)), hn'' j (ne _ (by decide)) (ne _ (by decide)), hn' j (ne _ (by decide)) (ne _ (by decide)) (ne _ (by decide)) (ne _ (by decide)) (ne _ (by decide)), gN (ne _ (by decide)), hn j (ne _ (by decide)), fN (ne _ (by decide))]
        · rw [k7, upd_ne (by decide), upd_ne (by decide)]; exact e4
        · rw [k7, upd_ne (by decide), upd_ne (by decide), g7, upd_ne (by decide), upd_ne (by decide), upd_at]
        · rw [k7, upd_ne (by decide), upd_ne (by decide), g7, upd_ne (by decide), upd_at]
        · rw [k7, upd_ne (by decide), upd_at]
        · rw [k7, upd_at]
        · rw [k7, upd_ne (by decide), upd_ne (by decide), g7, upd_ne (by decide), upd_ne (by decide), upd_ne (by decide)]
        · rw [k7, upd_ne (by decide), upd_ne (by decide), g7, upd_ne (by decide), upd_ne (by decide), upd_ne (by decide)]
        · rw [kN (by decide), hn'' _ (by decide) (by decide), hn' _ (by decide) (by decide) (by decide) (by decide) (by decide), gN (by decide)]; exact hb k hk
        · rw [kN (by decide), kN (by decide), kN (by decide), kN (by decide), kN (by decide), hn'' _ (by decide) (by decide), hn'' _ (by decide) (by decide), hn'' _ (by decide) (by decide), hn'' _ (by decide) (by decide), hn'' _ (by decide) (by decide)]; exact hv x hx
        · rw [kN (by decide), kN (by decide)]; exact hz k hk
      · obtain ⟨rfl, hn'', hz⟩ := hJ
        refine br_f (nI_nle2 (b := 24) hi (by omega)) ⟨vp_in_nI (by omega) (by omega), vp_in_nI (by omega) (by omega), ?_⟩
        rw [nI_clamp (by omega), nI_1]
        refine hK _ _ ⟨rfl, fun j a1 a2 => by rw [o_wr_ne _ _ _ a2, o_wr_ne _ _ _ a1]; exact hn'' j a1 a2, fun k hk => ?_⟩
        rw [o_wr_ne _ _ _ (show ((8,0,5) : OI) ≠ (8,0,6) by decide), o_wr_at, o_wr_at, o_wr_ne _ _ _ (show ((8,0,6) : OI) ≠ (8,0,5) by decide)]
        by_cases e : k = i
        · subst e; rw [upd_at, upd_at]; exact ⟨rfl, rfl⟩
        · rw [upd_ne e, upd_ne e]; exact hz k (by omega)
    · obtain ⟨rfl, hn', hv⟩ := hJ
      have vin : vp_in (nI i) 6 := vp_in_nI (by omega) (by omega)
      refine br_f (by rw [hn' _ (by decide) (by decide) (by decide) (by decide) (by decide), e4]; exact nI_nle2 hi (by omega)) ?_
      rw [show (7 : Int32) + nI i = nI (7 + i) from nI_add 7 i]
      refine ⟨vp_in_nI (by omega) (by omega), s_kindM ⟨vin, vin, vp_in_nI (by omega) (by omega), vin, vin, ?_⟩⟩
      rw [nI_clamp (show 7 + i < 2 ^ 31 by omega), nI_clamp (show i < 2 ^ 31 by omega), hn' (8, 0, 8) (by decide) (by decide) (by decide) (by decide) (by decide), e8, nI_1]
      refine hK _ _ ⟨rfl, fun j a1 a2 a3 a4 a5 => by rw [o_wr_ne _ _ _ a5, o_wr_ne _ _ _ a4, o_wr_ne _ _ _ a3, o_wr_ne _ _ _ a2, o_wr_ne _ _ _ a1]; exact hn' j a1 a2 a3 a4 a5, fun x hx => ?_⟩
      have r1 : ∀ (v1 v2 v3 v4 v5 : Int32), (o_wr (o_wr (o_wr (o_wr (o_wr s' (8, 0, 1) i v1) (8, 0, 2) i v2) (8, 0, 7) i v3) (8, 0, 3) i v4) (8, 0, 4) i v5).1 (8, 0, 1) = upd (s'.1 (8, 0, 1)) i v1 := fun v1 v2 v3 v4 v5 => by
        rw [o_wr_ne _ _ _ (by decide), o_wr_ne _ _ _ (by decide), o_wr_ne _ _ _ (by decide), o_wr_ne _ _ _ (by decide), o_wr_at]
      have r2 : ∀ (v1 v2 v3 v4 v5 : Int32), (o_wr (o_wr (o_wr (o_wr (o_wr s' (8, 0, 1) i v1) (8, 0, 2) i v2) (8, 0, 7) i v3) (8, 0, 3) i v4) (8, 0, 4) i v5).1 (8, 0, 2) = upd (s'.1 (8, 0, 2)) i v2 := fun v1 v2 v3 v4 v5 => by
        rw [o_wr_ne _ _ _ (by decide), o_wr_ne _ _ _ (by decide), o_wr_ne _ _ _ (by decide), o_wr_at, o_wr_ne _ _ _ (by decide)]
      have r3 : ∀ (v1 v2 v3 v4 v5 : Int32), (o_wr (o_wr (o_wr (o_wr (o_wr s' (8, 0, 1) i v1) (8, 0, 2) i v2) (8, 0, 7) i v3) (8, 0, 3) i v4) (8, 0, 4) i v5).1 (8, 0, 7) = upd (s'.1 (8, 0, 7)) i v3 := fun v1 v2 v3 v4 v5 => by
        rw [o_wr_ne _ _ _ (by decide), o_wr_ne _ _ _ (by decide), o_wr_at, o_wr_ne _ _ _ (by decide), o_wr_ne _ _ _ (by decide)]
      have r4 : ∀ (v1 v2 v3 v4 v5 : Int32), (o_wr (o_wr (o_wr (o_wr (o_wr s' (8, 0, 1) i v1) (8, 0, 2) i v2) (8, 0, 7) i v3) (8, 0, 3) i v4) (8, 0, 4) i v5).1 (8, 0, 3) = upd (s'.1 (8, 0, 3)) i v4 := fun v1 v2 v3 v4 v5 => by
        rw [o_wr_ne _ _ _ (by decide), o_wr_at, o_wr_ne _ _ _ (by decide), o_wr_ne _ _ _ (by decide), o_wr_ne _ _ _ (by decide)]
      have r5 : ∀ (v1 v2 v3 v4 v5 : Int32), (o_wr (o_wr (o_wr (o_wr (o_wr s' (8, 0, 1) i v1) (8, 0, 2) i v2) (8, 0, 7) i v3) (8, 0, 3) i v4) (8, 0, 4) i v5).1 (8, 0, 4) = upd (s'.1 (8, 0, 4)) i v5 := fun v1 v2 v3 v4 v5 => by
        rw [o_wr_at, o_wr_ne _ _ _ (by decide), o_wr_ne _ _ _ (by decide), o_wr_ne _ _ _ (by decide), o_wr_ne _ _ _ (by decide)]
      rw [r1, r2, r3, r4, r5]
      by_cases e : x = i
      · subst e; rw [upd_at, upd_at, upd_at, upd_at, upd_at]; exact ⟨rfl, rfl, rfl, rfl, rfl⟩
      · rw [upd_ne e, upd_ne e, upd_ne e, upd_ne e, upd_ne e]; exact hv x (by omega)
  · obtain ⟨rfl, hn, hb⟩ := hJ
    refine br_f (nI_nle2 (b := 4) hi (by omega)) ?_
    rw [show (2 : Int32) + nI i = nI (2 + i) from nI_add 2 i]
    refine ⟨vp_in_nI (by omega) (by omega), vp_in_nI (by omega) (by omega), ?_⟩
    rw [nI_clamp (by omega), nI_clamp (by omega), hn (8, 0, 8) (by decide), fN (by decide), nI_1]
    refine hK _ _ ⟨rfl, fun j a1 => by rw [o_wr_ne _ _ _ a1]; exact hn j a1, fun k hk => ?_⟩
    rw [o_wr_at]
    by_cases e : k = i
    · subst e; rw [upd_at]
    · rw [upd_ne e]; exact hb k (by omega)
