def wrL : (Nat → Int32) → Nat → List Nat → (Nat → Int32)
  | g, _, [] => g
  | g, i, c :: l => wrL (upd g i (nI c)) (i + 1) l
theorem wrL_lo : ∀ {l : List Nat} {g : Nat → Int32} {i k : Nat}, k < i → wrL g i l k = g k
  | [], g, i, k, h => rfl
  | c :: l, g, i, k, h => by rw [wrL, wrL_lo (by omega), upd_ne (by omega)]
theorem wrL_at : ∀ {l : List Nat} {g : Nat → Int32} {i k : Nat}, k < l.length → wrL g i l (i + k) = nI (lstF l k)
  | [], g, i, k, h => by simp at h
  | c :: l, g, i, 0, h => by rw [wrL, wrL_lo (by omega), Nat.add_zero, upd_at]; rfl
  | c :: l, g, i, k + 1, h => by
    rw [wrL, show i + (k + 1) = i + 1 + k by omega, wrL_at (by simp at h; omega)]; rfl
theorem s_sitOut {post : SS → Prop} {n : Nat} {σ : SS} (h6 : n ≤ 6) (hn : σ.1 (7, 0, 0) 4 = nI n) : ∀ (m i u left : Nat) (l : List Nat) (g : Nat → Int32), i + m = n → stF m u (fct m) left = some l → (∀ c ∈ l, c < 6) → u < 64 → left ≤ 720 → post (o_wa σ (8, 0, 7) (wrL g (6 + i) l)) → ∃ N, LP_X10_sit_13 post N (nI left, nI (fct m), nI u, nI i) (o_wa σ (8, 0, 7) g)
  | 0, i, u, left, l, g, him, hst, hl, hu, hle, h => by
    refine ⟨1, br_t ?_ ?_⟩
    · rw [o_wa_ne _ _ (by decide), hn]; exact nI_le (by omega) (by omega)
    · rw [stF] at hst; cases hst; exact h
  | m + 1, i, u, left, l, g, him, hst, hl, hu, hle, h => by
    have hf : fct (m + 1) / (m + 1) = fct m := by
      show (m + 1) * fct m / (m + 1) = fct m
      exact Nat.mul_div_cancel_left _ (by omega)
    have h720 : fct m ≤ 720 := fct_le (by omega)
    have h720' : fct (m + 1) ≤ 720 := fct_le (by omega)
    have hp := fct_pos m
    rw [stF, hf] at hst
    cases e : frF 8 u 0 (left / fct m) with
    | none => rw [e] at hst; simp at hst
    | some c =>
      rw [e] at hst
      dsimp only at hst
      cases e2 : stF m (u + 2 ^ c) (fct m) (left % fct m) with
      | none => rw [e2] at hst; simp at hst
      | some l' =>
        rw [e2] at hst
        simp at hst
        subst hst
        have hc6 : c < 6 := hl c (by simp)
        have hub := u_or u hu c hc6 (frF_le e).2
        have hlq : left / fct m ≤ 720 := Nat.le_trans (Nat.div_le_self _ _) hle
        have hlr : left % fct m ≤ 720 := Nat.le_trans (Nat.mod_le _ _) hle
        obtain ⟨N, hN⟩ := s_sitOut h6 hn m (i + 1) (u + 2 ^ c) (left % fct m) l' (upd g (6 + i) (nI c)) (by omega) e2 (fun c hc => hl c (by simp [hc])) hub.2 hlr h
        refine ⟨N + 1, br_f ?_ ⟨?_, ?_⟩⟩
        · rw [o_wa_ne _ _ (by decide), hn]; exact nI_nle2 (by omega) (by omega)
        · rw [o_wa_ne _ _ (by decide), hn, pk_sub (by omega)]; exact nI_ne0 (by omega) (by omega)
        · rw [o_wa_ne _ _ (by decide), hn, pk_sub (by omega), show n - i = m + 1 by omega, pk_div (by omega) (by omega) (by omega), hf]
          refine nm_e ⟨nI_ne0 hp (by omega), nI_ne0 hp (by omega), ?_⟩
          rw [pk_rem (by omega) hp (by omega), pk_div (by omega) hp (by omega)]
          refine s_sitIn (c' := c) (by omega) hu hc6 ?_ 8 0 (left / fct m) hlq e
          rw [o_wa_at, o_wa_wa]
          exact hN
theorem s_sit {n k : Nat} {x : Int32} {σ : SS} {post : SS → Prop} (h1 : 0 < n) (h6 : n ≤ 6) (hn : σ.1 (7, 0, 0) 4 = nI n) (hx : x = nI k) (hk : k < fct n)
    (h : ∀ f, (∀ j, j < 6 → f j = σ.1 (8, 0, 7) j) → (∀ i, i < n → f (6 + i) = nI (ord n k i)) → post (o_wa σ (8, 0, 7) f)) : V_X10_sit x σ post := by
  subst hx
  have h720 : fct n ≤ 720 := fct_le h6
  obtain ⟨e, ok⟩ := ord_st h1 h6 hk
  obtain ⟨hl, hp⟩ := okL_perm ok
  refine s_many h1 h6 hn ?_
  have := s_sitOut (post := post) h6 hn n 0 0 k (ordL n k) (σ.1 (8, 0, 7)) (by omega) e (fun c hc => ?_) (by omega) (by omega) (h _ (fun j hj => wrL_lo (by omega)) (fun i hi => wrL_at (by omega)))
  · rw [o_wa_id] at this; exact this
  · obtain ⟨i, hi, rfl⟩ := List.getElem_of_mem hc
    have := hp.1 i (by omega)
    unfold lstF at this
    rw [List.getD_eq_getElem?_getD, List.getElem?_eq_getElem hi] at this
    have : (ordL n k)[i] < n := this
    omega
