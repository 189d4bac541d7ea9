/-! the reference's own trials -/
def o_pw (σ : SS) (P W : Nat → Int32) : SS := o_wa (o_wa σ (8, 0, 5) P) (8, 0, 6) W
theorem o_pw5 (σ : SS) (P W : Nat → Int32) : (o_pw σ P W).1 (8, 0, 5) = P := by
  unfold o_pw; rw [o_wa_ne _ _ (by decide), o_wa_at]
theorem o_pw6 (σ : SS) (P W : Nat → Int32) : (o_pw σ P W).1 (8, 0, 6) = W := o_wa_at _ _ _
theorem o_pwN (σ : SS) (P W : Nat → Int32) {i : OI} (h1 : i ≠ (8, 0, 5)) (h2 : i ≠ (8, 0, 6)) : (o_pw σ P W).1 i = σ.1 i := by
  unfold o_pw; rw [o_wa_ne _ _ h2, o_wa_ne _ _ h1]
theorem o_pwP (σ : SS) (P W : Nat → Int32) (k : Nat) (v : Int32) : o_wr (o_pw σ P W) (8, 0, 5) k v = o_pw σ (upd P k v) W := by
  rw [o_wr_wr, o_pw5]; unfold o_pw
  rw [o_wa_comm _ W (upd P k v) (show ((8, 0, 6) : OI) ≠ (8, 0, 5) by decide), o_wa_wa]
theorem o_pwW (σ : SS) (P W : Nat → Int32) (k : Nat) (v : Int32) : o_wr (o_pw σ P W) (8, 0, 6) k v = o_pw σ P (upd W k v) := by
  rw [o_wr_wr, o_pw6]; unfold o_pw
  rw [o_wa_wa]
theorem o_pw_id (σ : SS) : o_pw σ (σ.1 (8, 0, 5)) (σ.1 (8, 0, 6)) = σ := by
  unfold o_pw; rw [o_wa_id]; exact o_wa_id _ _
theorem Mv.pw {σ : SS} {P W : Nat → Int32} (h : ∀ k, k < 24 → P k = σ.1 (8, 0, 5) k ∧ W k = σ.1 (8, 0, 6) k) : Mv σ (o_pw σ P W) := by
  refine ⟨fun i hi => o_pwN _ _ _ (fun e => hi (by rw [e]; decide)) (fun e => hi (by rw [e]; decide)), fun k _ _ => by rw [o_pwN _ _ _ (by decide) (by decide)], fun k hk => ?_, fun k _ => by rw [o_pwN _ _ _ (by decide) (by decide)], rfl⟩
  rw [o_pw5, o_pw6]; exact h k hk
/-- places a to b (beyond) are 0 -/
def zrF (f : Nat → Int32) (a b : Nat) : Nat → Int32 := fun k => if a ≤ k ∧ k < b then 0 else f k
theorem zrF_0 (f : Nat → Int32) (a : Nat) : zrF f a a = f := by
  funext k; unfold zrF; rw [if_neg (by omega)]
theorem zrF_1 (f : Nat → Int32) {a i : Nat} (h : a ≤ i) : upd (zrF f a i) i 0 = zrF f a (i + 1) := by
  funext k
  unfold upd zrF
  by_cases e : k = i
  · rw [if_pos e, if_pos (by omega)]
  · rw [if_neg e]
    by_cases h2 : a ≤ k ∧ k < i
    · rw [if_pos h2, if_pos (by omega)]
    · rw [if_neg h2, if_neg (by omega)]
theorem s_clear {σ : SS} {post : SS → Prop} (h : post (o_pw σ (zrF (σ.1 (8, 0, 5)) 24 48) (zrF (σ.1 (8, 0, 6)) 24 48))) : V_X10_clear σ post := by
  refine o_cntI 48 (fun i a s => 24 ≤ i ∧ a = nI i ∧ s = o_pw σ (zrF (σ.1 (8, 0, 5)) 24 i) (zrF (σ.1 (8, 0, 6)) 24 i)) (fun K a s hI => ?_) (fun K i a s hi hI hK => ?_) (show 24 ≤ 48 by omega) ⟨Nat.le_refl _, rfl, by rw [zrF_0, zrF_0, o_pw_id]⟩
  · obtain ⟨-, rfl, rfl⟩ := hI
    exact br_t (show (48 : Int32) ≤ nI 48 by decide) h
  · obtain ⟨h24, rfl, rfl⟩ := hI
    refine br_f (nI_nle2 (b := 48) hi (by omega)) ⟨vp_in_nI hi (by omega), vp_in_nI hi (by omega), hK _ _ ⟨by omega, nI_1 i, ?_⟩⟩
    rw [nI_clamp (by omega), o_pwP, o_pwW, zrF_1 _ h24, zrF_1 _ h24]
/-- places 24 + k from k -/
def cpF (f : Nat → Int32) (b : Nat) : Nat → Int32 := fun k => if 24 ≤ k ∧ k < 24 + b then f (k - 24) else f k
theorem cpF_0 (f : Nat → Int32) : cpF f 0 = f := by
  funext k; unfold cpF; rw [if_neg (by omega)]
theorem cpF_1 (f : Nat → Int32) (i : Nat) : upd (cpF f i) (24 + i) (f i) = cpF f (i + 1) := by
  funext k
  unfold upd cpF
  by_cases e : k = 24 + i
  · rw [if_pos e, if_pos (by omega), e, show 24 + i - 24 = i by omega]
  · rw [if_neg e]
    by_cases h2 : 24 ≤ k ∧ k < 24 + i
    · rw [if_pos h2, if_pos (by omega)]
    · rw [if_neg h2, if_neg (by omega)]
theorem cpF_lo {f : Nat → Int32} {b k : Nat} (h : k < 24) : cpF f b k = f k := by unfold cpF; rw [if_neg (by omega)]
theorem cpF_hi {f : Nat → Int32} {k : Nat} (h : k < 24) : cpF f 24 (24 + k) = f k := by unfold cpF; rw [if_pos (by omega), show 24 + k - 24 = k by omega]
theorem s_copyM {σ : SS} {post : SS → Prop} (h : post (o_pw σ (cpF (σ.1 (8, 0, 5)) 24) (cpF (σ.1 (8, 0, 6)) 24))) : V_X10_copy σ post := by
  refine o_cnt 24 (fun i => nI i) (fun i => o_pw σ (cpF (σ.1 (8, 0, 5)) i) (cpF (σ.1 (8, 0, 6)) i)) (fun K => br_t (show (24 : Int32) ≤ nI 24 by decide) h) (fun K i hi hK => ?_) (Nat.zero_le _) rfl (by rw [cpF_0, cpF_0, o_pw_id])
  have e24 : (24 : Int32) + nI i = nI (24 + i) := nI_add 24 i
  unfold VB_X10_copy_2
  refine br_f (nI_nle2 (b := 24) hi (by omega)) ⟨vp_in_nI (by omega) (by omega), by rw [e24]; exact vp_in_nI (by omega) (by omega), vp_in_nI (by omega) (by omega), by rw [e24]; exact vp_in_nI (by omega) (by omega), ?_⟩
  refine o_Ke hK (nI_1 i) ?_
  rw [e24, nI_clamp (by omega), nI_clamp (by omega), o_pw5, o_pwP, o_pw6, o_pwW, cpF_lo hi, cpF_lo hi, cpF_1, cpF_1]
theorem s_many {n : Nat} {σ : SS} {post : Int32 → SS → Prop} (h1 : 0 < n) (h6 : n ≤ 6) (hn : σ.1 (7, 0, 0) 4 = nI n) (h : post (nI (fct n)) σ) : V_X10_orderMany σ post := by
  refine o_cntI (n + 1) (fun i a s => 2 ≤ i ∧ a = (nI (fct (i - 1)), nI i) ∧ s = σ) (fun K a s hI => ?_) (fun K i a s hi hI hK => ?_) (show 2 ≤ n + 1 by omega) ⟨Nat.le_refl _, rfl, rfl⟩
  · obtain ⟨-, rfl, rfl⟩ := hI
    refine br_t ?_ h
    rw [hn]; exact (nI_lt2 (by omega) (by omega)).mpr (by omega)
  · obtain ⟨h2, rfl, rfl⟩ := hI
    refine br_f ?_ (hK _ _ ⟨by omega, ?_, rfl⟩)
    · rw [hn, nI_lt2 (by omega) (by omega)]; omega
    · dsimp only
      rw [pk_mul, nI_1, show i + 1 - 1 = i from rfl]
      congr 2
      obtain ⟨j, rfl⟩ : ∃ j, i = j + 1 := ⟨i - 1, by omega⟩
      show fct j * (j + 1) = (j + 1) * fct j
      exact Nat.mul_comm _ _
