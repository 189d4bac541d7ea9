theorem u_or : ∀ u, u < 64 → ∀ c, c < 6 → u / 2 ^ c % 2 = 0 → nI u ||| ((1 : Int32) <<< (nI c &&& 31)) = nI (u + 2 ^ c) ∧ u + 2 ^ c < 64 := by decide +kernel
theorem frF_le : ∀ {f u c j c' : Nat}, frF f u c j = some c' → c ≤ c' ∧ u / 2 ^ c' % 2 = 0
  | 0, u, c, j, c', h => by simp [frF] at h
  | f + 1, u, c, j, c', h => by
    rw [frF] at h
    by_cases h1 : u / 2 ^ c % 2 = 1
    · rw [if_pos h1] at h
      have := frF_le h
      exact ⟨by omega, this.2⟩
    · rw [if_neg h1] at h
      by_cases h2 : j = 0
      · rw [if_pos h2] at h; cases h; exact ⟨Nat.le_refl _, by omega⟩
      · rw [if_neg h2] at h
        have := frF_le h
        exact ⟨by omega, this.2⟩
theorem s_sitIn {post : SS → Prop} {K13 : Int32 → Int32 → Int32 → Int32 → SS → Prop} {a b : Int32} {i c' u : Nat} {σ : SS} (hi : i < 6) (hu : u < 64) (hc : c' < 6)
    (h : K13 a b (nI (u + 2 ^ c')) (nI (i + 1)) (o_wa σ (8, 0, 7) (upd (σ.1 (8, 0, 7)) (6 + i) (nI c')))) : ∀ (f c j : Nat), j ≤ 720 → frF f u c j = some c' → ∃ m, LP_X10_sit_44 post K13 m (a, b, nI u, nI i, nI j, nI c) σ
  | 0, c, j, _, hf => by simp [frF] at hf
  | f + 1, c, j, hj, hf => by
    have hle := frF_le hf
    have hbit := bit_nI u hu c (by omega)
    rw [frF] at hf
    by_cases h1 : u / 2 ^ c % 2 = 1
    · rw [if_pos h1] at hf
      obtain ⟨m, hm⟩ := s_sitIn hi hu hc h f (c + 1) j hj hf
      refine ⟨m + 1, br_t (by rw [hbit, h1]; rfl) (nb_f (by rw [hbit, h1]; decide) ?_)⟩
      show o_lp _ m (_, _, _, _, _, _) _
      refine o_Ke hm ?_ rfl
      rw [Int32.sub_zero, nI_1]
    · rw [if_neg h1] at hf
      have h0 : u / 2 ^ c % 2 = 0 := by omega
      by_cases h2 : j = 0
      · rw [if_pos h2] at hf
        cases hf
        subst h2
        refine ⟨1, br_f (by rw [hbit, h0]; decide) (br_t (show nI 0 ≤ 0 by decide) (nm_e ⟨by rw [show (6 : Int32) + nI i = nI (6 + i) from nI_add 6 i]; exact vp_in_nI (by omega) (by omega), ?_⟩))⟩
        rw [(u_or u hu c' hc h0).1, show (6 : Int32) + nI i = nI (6 + i) from nI_add 6 i, nI_clamp (by omega), nI_1]
        exact h
      · rw [if_neg h2] at hf
        obtain ⟨m, hm⟩ := s_sitIn hi hu hc h f (c + 1) (j - 1) (by omega) hf
        refine ⟨m + 1, br_f (by rw [hbit, h0]; decide) (br_f (nI_nle (by omega) (by omega)) (nb_t (by rw [hbit, h0]; rfl) ?_))⟩
        show o_lp _ m (_, _, _, _, _, _) _
        refine o_Ke hm ?_ rfl
        rw [nI_1, show (1 : Int32) = nI 1 from rfl, pk_sub (by omega)]
