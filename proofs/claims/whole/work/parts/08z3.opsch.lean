theorem may_dig : ∀ c, c ≤ 126 → ∀ k, k < 6 → o_may (nI c) k = true → (nI c - 48).toNatClampNeg ≤ 9 ∧ nI c - 48 = nI ((nI c - 48).toNatClampNeg) := by decide +kernel
theorem may_kind : ∀ c, c ≤ 126 → o_may (nI c) 7 = true → (o_kind (nI c)).toNatClampNeg < 5 ∧ o_kind (nI c) = nI ((o_kind (nI c)).toNatClampNeg) := by decide +kernel
theorem may_7 (v : Int32) {k : Nat} (h7 : 7 ≤ k) (h : o_may v k = true) : o_may v 7 = true ∧ k < 13 := by
  unfold o_may at h ⊢
  rw [if_neg (by omega), if_neg (by omega), if_neg (by omega)] at h
  have h := of_decide_eq_true h
  rw [if_neg (by omega), if_neg (by omega), if_neg (by omega)]
  exact ⟨decide_eq_true ⟨by omega, h.2⟩, h.1⟩
theorem op_school : Op (fun σ p => V_X9_school σ p) (fun σ p => V_X10_school σ p) := by
  intro N σ hI Nx Bd hx
  obtain ⟨n0, L, sc, kd0, dg0, h0, hS, ⟨hL14, p2, p3, p4⟩, hN, hK, hB⟩ := id hI
  obtain ⟨k, hk, hg, hb⟩ := fault_ex (σ.1 (11, 0, 0)) L
  have hgM : ∀ j, j < k → o_may (σ.1 (8, 0, 8) j) j = true := fun j hj => by rw [← (p4 j (by omega)).1]; exact hg j hj
  have hbM : k < L → o_may (σ.1 (8, 0, 8) k) k = false := fun z => by rw [← (p4 k z).1]; exact hb z
  have hcM : ∀ j, j < L → ∃ c : Nat, c ≤ 126 ∧ σ.1 (8, 0, 8) j = nI c := fun j hj => (p4 j hj).2
  by_cases z : 8 ≤ L ∧ k = L
  · obtain ⟨h8, rfl⟩ := z
    have h13 : k ≤ 13 := by
      have := (may_7 _ (k := k - 1) (by omega) (hg (k - 1) (by omega))).2
      omega
    refine br_f (by rw [p2]; exact nI_nle2 (a := 7) (by omega) (by omega)) (s_fault hL14 p2 k (Nat.le_refl _) hg hb (nb_t p2.symm ⟨Or.inr rfl, nb_f (by decide) ?_⟩))
    refine x_read p2 h8 h13 (fun s hs hdg hsz hkd => s_fresh (fun s1 hv hse hpw htl hil => ?_))
    have e1 : ∀ j : OI, j ≠ (11, 0, 1) → j ≠ (11, 0, 2) → j ≠ (2, 0, 0) → j ≠ (1, 0, 0) → j ∉ rowL 0 → s1.1 j = σ.1 j := fun j a1 a2 a3 a4 a5 => by
      rw [hv.1 j a5, o_wr_ne _ _ _ a4, hs j a1 a2 a3]
    have x7 : s1.1 (2, 0, 0) 7 = nI (k - 7) := by rw [hv.1 _ (by decide), o_wr_ne _ _ _ (by decide)]; exact hsz
    refine s_size (n := k - 7) (by rw [o_wr_ne _ _ _ (by decide), o_wr_ne _ _ _ (by decide), o_wr_ne _ _ _ (by decide)]; exact x7) ?_
    have f0 : (o_wr (o_wr (o_wr s1 (0, 0, 0) 6 0) (0, 0, 0) 7 0) (0, 0, 0) 8 ((o_wr (o_wr s1 (0, 0, 0) 6 0) (0, 0, 0) 7 0).1 (0, 0, 0) 8 + 1)).1 (0, 0, 0) = upd (upd (upd (σ.1 (0, 0, 0)) 6 0) 7 0) 8 (nI (sc + 1)) := by
      rw [o_wr_at, o_wr_at, o_wr_at, upd_ne (by decide), upd_ne (by decide), e1 _ (by decide) (by decide) (by decide) (by decide) (by decide), hK.1, nI_1]
    have fN : ∀ {j : OI}, j ≠ (0, 0, 0) → (o_wr (o_wr (o_wr s1 (0, 0, 0) 6 0) (0, 0, 0) 7 0) (0, 0, 0) 8 ((o_wr (o_wr s1 (0, 0, 0) 6 0) (0, 0, 0) 7 0).1 (0, 0, 0) 8 + 1)).1 j = s1.1 j := fun q => by rw [o_wr_ne _ _ _ q, o_wr_ne _ _ _ q, o_wr_ne _ _ _ q]
    generalize o_wr (o_wr (o_wr s1 (0, 0, 0) 6 0) (0, 0, 0) 7 0) (0, 0, 0) 8 ((o_wr (o_wr s1 (0, 0, 0) 6 0) (0, 0, 0) 7 0).1 (0, 0, 0) 8 + 1) = s2 at f0 fN ⊢
    have e2 : ∀ j : OI, j ≠ (0, 0, 0) → j ≠ (11, 0, 1) → j ≠ (11, 0, 2) → j ≠ (2, 0, 0) → j ≠ (1, 0, 0) → j ∉ rowL 0 → s2.1 j = σ.1 j := fun j a0 a1 a2 a3 a4 a5 => by rw [fN a0, e1 j a1 a2 a3 a4 a5]
    have e28 : s2.1 (8, 0, 8) = σ.1 (8, 0, 8) := e2 _ (by decide) (by decide) (by decide) (by decide) (by decide) (by decide)
    have e27 : s2.1 (7, 0, 0) = σ.1 (7, 0, 0) := e2 _ (by decide) (by decide) (by decide) (by decide) (by decide) (by decide)
    refine m_read (L := k) (sc := sc) (by rw [e27]; exact p3) h8 h13 (by rw [e27]; exact hK.2.1) (by rw [e28]; exact hcM) (by rw [e28]; exact hgM) (fun s3 m1 m2 m3 m4 m5 m6 m7 m8 m9 m10 m11 => br_t rfl (hx s3 ?_))
    rw [e28] at m3 m4
    rw [e27] at m7 m8
    have G : ∀ j : OI, j ∉ sML → j ≠ (0, 0, 0) → s3.1 j = s1.1 j := fun j a1 a2 => by rw [m1 j a1, fN a2]
    have g0 : s3.1 (0, 0, 0) = upd (upd (upd (σ.1 (0, 0, 0)) 6 0) 7 0) 8 (nI (sc + 1)) := by rw [m1 _ (by decide), f0]
    -- digits and kinds as numbers
    have dig : ∀ j, j < 6 → (σ.1 (8, 0, 8) j - 48).toNatClampNeg ≤ 9 ∧ σ.1 (8, 0, 8) j - 48 = nI ((σ.1 (8, 0, 8) j - 48).toNatClampNeg) := fun j hj => by
      obtain ⟨c, hc, e⟩ := hcM j (by omega)
      have := hgM j (by omega)
      rw [e] at this ⊢
      exact may_dig c hc j hj this
    have kin : ∀ x, x < k - 7 → (o_kind (σ.1 (8, 0, 8) (7 + x))).toNatClampNeg < 5 ∧ o_kind (σ.1 (8, 0, 8) (7 + x)) = nI ((o_kind (σ.1 (8, 0, 8) (7 + x))).toNatClampNeg) := fun x hx' => by
      obtain ⟨c, hc, e⟩ := hcM (7 + x) (by omega)
      have := (may_7 _ (by omega) (hgM (7 + x) (by omega))).1
      rw [e] at this ⊢
      exact may_kind c hc this
    refine ⟨k - 7, 0, sc + 1, fun x => (o_kind (σ.1 (8, 0, 8) (7 + x))).toNatClampNeg, fun j => (σ.1 (8, 0, 8) j - 48).toNatClampNeg, by omega, ⟨by omega, ?_, m2, fun j hj => ⟨(dig j hj).1, ?_⟩, ?_, ?_, fun j hj => ?_, fun x hx' => ⟨(kin x hx').1, ?_, ?_⟩⟩, ⟨by omega, ?_, m6, fun j hj => absurd hj (by omega)⟩, ?_, ⟨?_, m5, Or.inl ⟨?_, ?_⟩⟩, Or.inl ?_⟩
    · rw [G _ (by decide) (by decide)]; exact x7
    · rw [G _ (by decide) (by decide), hv.1 _ (by decide), o_wr_ne _ _ _ (by decide), hdg j hj, (p4 j (by omega)).1]; exact (dig j hj).2
    · rw [m3]; exact (dig 0 (by omega)).2
    · rw [m4]; exact (dig 1 (by omega)).2
    · rw [m9 j hj, e28]; exact (dig (2 + j) (by omega)).2
    · rw [G _ (by decide) (by decide), hv.1 _ (by decide), o_wr_ne _ _ _ (by decide), hkd x hx', (p4 (7 + x) (by omega)).1]; exact (kin x hx').2
    · rw [(m10 x hx').1, e28]; exact (kin x hx').2
    · rw [G _ (by decide) (by decide), hv.1 _ (by decide), o_wr_at, upd_at]; rfl
    · refine InvN.of (p := fun k => k) (P := fun _ => 0) (W := fun _ => 0) (il := 0) (tl := fun _ => -1) ⟨fun j hj => hj, fun c hc => ⟨c, hc, rfl⟩⟩ (fun _ => ⟨okP_0, okW_0, fun _ => ⟨rfl, rfl⟩⟩) (pow_n (k - 7) (by omega)).1 (fun _ _ => Or.inl rfl) ⟨fun j hj => ⟨hj, ?_⟩, fun j hj => (m10 j hj).2.2.1, fun j hj => ?_, fun j hj => ?_, ?_, fun c hc => ?_, fun c hc => ?_, fun c hc => (m10 c hc).2.2.2.2⟩ (fun j hj => (m10 j hj).2.1)
      · rw [G _ (by decide) (by decide)]; exact hse j (by omega)
      · rw [G _ (by decide) (by decide), G _ (by decide) (by decide), Nat.zero_add]; exact hpw j hj
      · rw [Nat.zero_add]; exact m11 j hj
      · rw [G _ (by decide) (by decide)]; exact hil
      · rw [(m10 c hc).2.2.2.1, Nat.zero_div]; rfl
      · rw [G _ (by decide) (by decide)]; exact htl c (by omega)
    · rw [g0, upd_at]
    · rw [g0, upd_ne (by decide), upd_ne (by decide), upd_at]
    · rw [m7, m8]
      rcases hK.2.2 with ⟨-, q | ⟨q1, ks, q2, q3⟩⟩ | ⟨-, -, q1, q2, -⟩
      · exact Or.inl q
      · exact Or.inr ⟨q1, ks, by omega, q3⟩
      · exact Or.inr ⟨q1, sc, by omega, q2⟩
    · rw [g0, upd_ne (by decide), upd_at]
  · -- no school: both say so
    have badM : V_X10_school σ (fun v' s' => ((-103 : Int32) = v' → Nx s') ∧ (¬ (-103 : Int32) = v' → Bd s')) := by
      refine s_faultM hL14 p3 hcM k hk hgM hbM ?_
      rw [p3]
      by_cases e : k = L
      · exact nb_t (by rw [e]) (br_f (nI_nle2 (b := 8) (by omega) (by omega)) (br_t rfl (hx σ hI.up)))
      · exact nb_f (fun q => e ((nI_eq (by omega) (by omega)).mp q)) (br_t rfl (hx σ hI.up))
    by_cases h7 : L ≤ 7
    · exact br_t (by rw [p2]; exact nI_le (b := 7) h7 (by omega)) ⟨Or.inl rfl, nb_t rfl badM⟩
    · refine br_f (by rw [p2]; exact nI_nle2 (a := 7) (by omega) (by omega)) (s_fault hL14 p2 k hk hg hb (nb_f (fun q => ?_) ⟨Or.inl rfl, nb_t rfl badM⟩))
      rw [p2] at q
      have := (nI_eq (by omega) (by omega)).mp q
      exact z ⟨by omega, this⟩
