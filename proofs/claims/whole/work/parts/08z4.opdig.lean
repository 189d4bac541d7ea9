theorem op_digest (N : Nat) (σ : SS) (hI : Inv N σ) (Nx Bd : SS → Prop) (hx : ∀ σ', Inv (N + 1) σ' → Nx σ') : V_X9_digest σ (fun v s => V_X10_digest s (fun v' s' => (v = v' → Nx s') ∧ (¬ v = v' → Bd s'))) := by
  obtain ⟨n, L, sc, kd, dg, h0, hS, hP, hN, hK, hB⟩ := hI
  have hd : Dat σ n L sc kd dg := ⟨hS, hP, hN, hK⟩
  obtain ⟨v, h1, h2⟩ := q_digest hd
  refine h1 σ _ ⟨Sv.rf σ, hB⟩ (fun σ1 hs1 => h2 σ1 _ hs1 (fun σ2 hs2 => br_t rfl (hx σ2 ?_)))
  obtain ⟨a, b, c, d⟩ := hd.sv hs2.1
  exact ⟨n, L, sc, kd, dg, by omega, a, b, c, d, hs2.2⟩
