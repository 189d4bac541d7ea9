theorem op_blank : Op (fun σ p => V_X9_blank σ p) (fun σ p => V_X10_blank σ p) := by
  intro N σ ⟨n, L, sc, kd, dg, h0, hS, hP, hN, hK, hB⟩ Nx Bd hx
  refine br_t (hP.2.1.trans hP.2.2.1.symm) (hx _ ⟨n, 0, sc, kd, dg, by omega, hS, ⟨by omega, rfl, rfl, fun k hk => absurd hk (Nat.not_lt_zero k)⟩, hN, hK, hB⟩)
theorem i32_lt_iff (a b : Int32) : a < b ↔ a.toInt < b.toInt := Int32.lt_iff_toInt_lt
/-- a code between 32 and 126 -/
theorem code_of {x : Int32} (h1 : ¬ x < 32) (h2 : x ≤ 126) : ∃ c : Nat, c ≤ 126 ∧ x = nI c := by
  have h0 : ¬ x < 0 := fun z => h1 (by rw [i32_lt_iff] at *; have : (0 : Int32).toInt = 0 := by decide
                                       have : (32 : Int32).toInt = 32 := by decide
                                       omega)
  exact nI_of2 (M := 126) (by decide) h0 h2
theorem code_byte : ∀ c, c ≤ 126 → vp_nar .byte ((nI c).toInt8.toInt32) = nI c := by
  intro c hc
  rw [pk_vb]
  exact (by decide +kernel : ∀ c, c < 127 → (nI c).toInt8.toInt32 = nI c) c (by omega)
theorem op_letter (x : Int32) : Op (fun σ p => V_X9_letter x σ p) (fun σ p => V_X10_letter x σ p) := by
  intro N σ hI Nx Bd hx
  have hI' := hI
  obtain ⟨n, L, sc, kd, dg, h0, hS, hP, hN, hK, hB⟩ := hI
  obtain ⟨p1, p2, p3, p4⟩ := hP
  -- refused: no such code
  have bad : ¬ (32 ≤ x ∧ x ≤ 126) → V_X10_letter x σ (fun v' s' => ((-102 : Int32) = v' → Nx s') ∧ (¬ (-102 : Int32) = v' → Bd s')) := by
    intro z
    refine s_within ?_
    rw [if_neg z]
    exact nb_t rfl (br_t rfl (hx _ hI'.up))
  by_cases z1 : x < 32
  · exact br_t z1 (bad (fun q => Int32.not_le.mpr z1 q.1))
  · refine br_f z1 ?_
    by_cases z2 : x ≤ 126
    · refine br_t z2 ?_
      obtain ⟨c, hc, rfl⟩ := code_of z1 z2
      have inM : ∀ post : Int32 → SS → Prop, ∀ σ', ((¬ (σ'.1 (7, 0, 0) 12) = (14 : Int32) → (vp_in (σ'.1 (7, 0, 0) 12) 14 ∧ post ((o_wr (o_wr σ' (8, 0, 8) ((σ'.1 (7, 0, 0) 12)).toNatClampNeg (vp_nar .byte (nI c).toInt8.toInt32)) (7, 0, 0) 12 (((o_wr σ' (8, 0, 8) ((σ'.1 (7, 0, 0) 12)).toNatClampNeg (vp_nar .byte (nI c).toInt8.toInt32)).1 (7, 0, 0) 12) + (1 : Int32))).1 (7, 0, 0) 12) (o_wr (o_wr σ' (8, 0, 8) ((σ'.1 (7, 0, 0) 12)).toNatClampNeg (vp_nar .byte (nI c).toInt8.toInt32)) (7, 0, 0) 12 (((o_wr σ' (8, 0, 8) ((σ'.1 (7, 0, 0) 12)).toNatClampNeg (vp_nar .byte (nI c).toInt8.toInt32)).1 (7, 0, 0) 12) + (1 : Int32))))) ∧ ((σ'.1 (7, 0, 0) 12) = (14 : Int32) → post (-104 : Int32) σ')) → V_X10_letter (nI c) σ' post := by
        intro post σ' h
        refine s_within ?_
        rw [if_pos ⟨Int32.not_lt.mp z1, z2⟩]
        exact nb_f (by decide) h
      show (σ.1 (1, 0, 0) 1 < 14 → _) ∧ (¬ σ.1 (1, 0, 0) 1 < 14 → _)
      rw [p2]
      by_cases hL : L < 14
      · refine br_t (nI_lt (b := 14) hL (by omega)) ?_
        show (14 ≤ σ.1 (1, 0, 0) 1 → _) ∧ (¬ 14 ≤ σ.1 (1, 0, 0) 1 → _)
        rw [p2]
        refine br_f (nI_nle2 (b := 14) hL (by omega)) (s_put11 L rfl (show L < 14 from hL) ?_)
        unfold VB_X3_add_31 V_X3_length
        refine inM _ _ ?_
        have e12 : (o_wr (o_wa σ (11, 0, 0) (upd (σ.1 (11, 0, 0)) L (nI c))) (1, 0, 0) 1 ((o_wa σ (11, 0, 0) (upd (σ.1 (11, 0, 0)) L (nI c))).1 (1, 0, 0) 1 + 1)).1 (7, 0, 0) 12 = nI L := p3
        rw [e12]
        refine nb_f (fun q => by have := (nI_eq (b := 14) (by omega) (by omega)).mp q; omega) ⟨vp_in_nI hL (by omega), ?_⟩
        rw [nI_clamp (by omega), code_byte c hc]
        refine br_t ?_ (hx _ ⟨n, L + 1, sc, kd, dg, by omega, hS, ⟨by omega, ?_, ?_, ?_⟩, hN, hK, hB⟩)
        · show σ.1 (1, 0, 0) 1 + 1 = σ.1 (7, 0, 0) 12 + 1
          rw [p2, p3]
        · show σ.1 (1, 0, 0) 1 + 1 = _
          rw [p2, nI_1]
        · show σ.1 (7, 0, 0) 12 + 1 = _
          rw [p3, nI_1]
        · intro k hk
          show upd (σ.1 (11, 0, 0)) L (nI c) k = upd (σ.1 (8, 0, 8)) L (nI c) k ∧ ∃ c' : Nat, c' ≤ 126 ∧ upd (σ.1 (8, 0, 8)) L (nI c) k = nI c'
          by_cases hkL : k = L
          · subst hkL; rw [upd_at, upd_at]; exact ⟨rfl, c, hc, rfl⟩
          · rw [upd_ne hkL, upd_ne hkL]; exact p4 k (by omega)
      · have e : L = 14 := by omega
        subst e
        refine br_f (by decide) (inM _ _ ?_)
        rw [p3]
        exact nb_t rfl (br_t rfl (hx _ hI'.up))
    · exact br_f z2 (bad (fun q => z2 q.2))
/-! the page: the first fault -/
/-- is a letter well there -/
def o_may (v : Int32) (k : Nat) : Bool := if k < 2 then decide (48 ≤ v ∧ v ≤ 57) else if k < 6 then decide (49 ≤ v ∧ v ≤ 57) else if k = 6 then decide (v = 58) else decide (k < 13 ∧ (v = 99 ∨ v = 115 ∨ v = 100 ∨ v = 103 ∨ v = 104))
def o_kind (v : Int32) : Int32 := if v = 99 then 0 else if v = 100 then 2 else if v = 103 then 3 else if v = 104 then 4 else if v = 115 then 1 else -1
theorem s_kindX {x : Int32} {σ : SS} {post : Int32 → SS → Prop} (h : post (o_kind x) σ) : V_X5_kindBy x σ post := by
  unfold o_kind at h
  refine ⟨fun z => ?_, fun z => ?_, fun z => ?_, fun z => ?_, fun z => ?_, fun z => ?_⟩
  · rw [if_pos z] at h; exact h
  · subst z; exact h
  · subst z; exact h
  · subst z; exact h
  · subst z; exact h
  · rw [if_neg z.1, if_neg z.2.1, if_neg z.2.2.1, if_neg z.2.2.2.1, if_neg z.2.2.2.2] at h; exact h
theorem s_kindM {x : Int32} {σ : SS} {post : Int32 → SS → Prop} (h : post (o_kind x) σ) : V_X10_kindBy x σ post := s_kindX h
theorem o_kind_m1 (v : Int32) : o_kind v = -1 ↔ ¬ (v = 99 ∨ v = 115 ∨ v = 100 ∨ v = 103 ∨ v = 104) := by
  unfold o_kind
  by_cases a : v = 99
  · subst a; decide
  · by_cases b : v = 100
    · subst b; decide
    · by_cases c : v = 103
      · subst c; decide
      · by_cases d : v = 104
        · subst d; decide
        · by_cases e : v = 115
          · subst e; decide
          · simp [a, b, c, d, e]
theorem s_may {k : Nat} {x y : Int32} {σ : SS} {post : Int32 → SS → Prop} (hy : y = nI k) (hk : k < 14) (h : post (if o_may x k then 1 else 0) σ) : V_X3_mayStand x y σ post := by
  subst hy
  unfold o_may at h
  unfold V_X3_mayStand
  by_cases k2 : k < 2
  · rw [if_pos k2] at h
    refine br_f (nI_nle2 (b := 2) k2 (by omega)) ⟨fun z => ⟨Or.inl rfl, ?_⟩, fun z => ⟨fun z2 => ⟨Or.inl rfl, ?_⟩, fun z2 => ⟨Or.inr rfl, ?_⟩⟩⟩
    · rwa [if_neg (by simp [Int32.not_le.mpr z])] at h
    · rwa [if_neg (by simp [Int32.not_le.mpr z2])] at h
    · rwa [if_pos (by simp [Int32.not_lt.mp z, Int32.not_lt.mp z2])] at h
  · rw [if_neg k2] at h
    refine br_t (nI_le (a := 2) (by omega) (by omega)) ?_
    by_cases k6 : k < 6
    · rw [if_pos k6] at h
      refine br_f (nI_nle2 (b := 6) k6 (by omega)) ⟨fun z => ⟨Or.inl rfl, ?_⟩, fun z => ⟨fun z2 => ⟨Or.inl rfl, ?_⟩, fun z2 => ⟨Or.inr rfl, ?_⟩⟩⟩
      · rwa [if_neg (by simp [Int32.not_le.mpr z])] at h
      · rwa [if_neg (by simp [Int32.not_le.mpr z2])] at h
      · rwa [if_pos (by simp [Int32.not_lt.mp z, Int32.not_lt.mp z2])] at h
    · rw [if_neg k6] at h
      refine br_t (nI_le (a := 6) (by omega) (by omega)) ?_
      by_cases k7 : k = 6
      · rw [if_pos k7] at h
        subst k7
        refine br_f (by decide) ⟨fun z => ⟨Or.inl rfl, ?_⟩, fun z => ⟨Or.inr rfl, ?_⟩⟩
        · rwa [if_neg (by simp [z])] at h
        · rwa [if_pos (by simp [z])] at h
      · rw [if_neg k7] at h
        refine br_t (nI_le (a := 7) (by omega) (by omega)) ?_
        by_cases k13 : k < 13
        · refine br_f (nI_nle2 (b := 13) k13 (by omega)) (s_kindX ⟨fun z => ⟨Or.inl rfl, ?_⟩, fun z => ⟨Or.inr rfl, ?_⟩⟩)
          · rwa [if_neg (by simpa [k13] using (o_kind_m1 x).mp z)] at h
          · rwa [if_pos (by have := fun q => z ((o_kind_m1 x).mpr q); simpa [k13] using Classical.not_not.mp this)] at h
        · refine br_t (nI_le (a := 13) (by omega) (by omega)) ⟨Or.inl rfl, ?_⟩
          rwa [if_neg (by simp [k13])] at h
theorem nI_m48 (v : Int32) : True := trivial
theorem s_good {k : Nat} {x : Int32} {σ : SS} {post : Int32 → SS → Prop} (hx : x = nI k) (hk : k < 14) (hc : ∃ c : Nat, c ≤ 126 ∧ σ.1 (8, 0, 8) k = nI c) (h : post (if o_may (σ.1 (8, 0, 8) k) k then 1 else 0) σ) : V_X10_isGood x σ post := by
  subst hx
  obtain ⟨c, hc, hv⟩ := hc
  have e48 : ∀ a b : Int32, ∀ a' b' : Nat, a = nI a' → b = nI b' → a' ≤ 9 → b' ≤ 9 → ((a ≤ nI c - 48 ∧ nI c - 48 ≤ b) ↔ (nI (48 + a') ≤ nI c ∧ nI c ≤ nI (48 + b'))) := by
    intro a b a' b' ha hb h1 h2
    subst ha hb
    rw [show (48 : Int32) = nI 48 from rfl]
    simp only [Int32.le_iff_toInt_le]
    rw [pk_sub_toInt (by omega) (by omega), nI_toInt (by omega), nI_toInt (by omega), nI_toInt (by omega), nI_toInt (by omega), nI_toInt (by omega)]
    omega
  unfold V_X10_isGood
  rw [nI_clamp (by omega), hv]
  rw [hv] at h
  unfold o_may at h
  have hin : vp_in (nI k) 14 := vp_in_nI hk (by omega)
  refine ⟨hin, nm_e ?_⟩
  by_cases k2 : k < 2
  · rw [if_pos k2] at h
    refine br_f (nI_nle2 (b := 2) k2 (by omega)) (s_within ?_)
    have this : ((0 : Int32) ≤ nI c - 48 ∧ nI c - 48 ≤ 9) ↔ ((48 : Int32) ≤ nI c ∧ nI c ≤ 57) := e48 0 9 0 9 rfl rfl (by omega) (by omega)
    by_cases z : (0 : Int32) ≤ nI c - 48 ∧ nI c - 48 ≤ 9
    · rw [if_pos z]; rw [if_pos (decide_eq_true (this.mp z))] at h; exact ⟨Or.inr rfl, h⟩
    · rw [if_neg z]; rw [if_neg (fun q => z (this.mpr (of_decide_eq_true q)))] at h; exact ⟨Or.inl rfl, h⟩
  · rw [if_neg k2] at h
    refine br_t (nI_le (a := 2) (by omega) (by omega)) ?_
    by_cases k6 : k < 6
    · rw [if_pos k6] at h
      refine br_f (nI_nle2 (b := 6) k6 (by omega)) (s_within ?_)
      have this : ((1 : Int32) ≤ nI c - 48 ∧ nI c - 48 ≤ 9) ↔ ((49 : Int32) ≤ nI c ∧ nI c ≤ 57) := e48 1 9 1 9 rfl rfl (by omega) (by omega)
      by_cases z : (1 : Int32) ≤ nI c - 48 ∧ nI c - 48 ≤ 9
      · rw [if_pos z]; rw [if_pos (decide_eq_true (this.mp z))] at h; exact ⟨Or.inr rfl, h⟩
      · rw [if_neg z]; rw [if_neg (fun q => z (this.mpr (of_decide_eq_true q)))] at h; exact ⟨Or.inl rfl, h⟩
    · rw [if_neg k6] at h
      refine br_t (nI_le (a := 6) (by omega) (by omega)) ?_
      by_cases k7 : k = 6
      · rw [if_pos k7] at h
        subst k7
        refine nb_t rfl ⟨hin, ⟨fun z => ⟨Or.inl rfl, ?_⟩, fun z => ⟨Or.inr rfl, ?_⟩⟩⟩
        · rwa [if_neg (by simp [z])] at h
        · rwa [if_pos (by simp [z])] at h
      · rw [if_neg k7] at h
        refine nb_f (fun q => k7 ((nI_eq (b := 6) (by omega) (by omega)).mp q)) ?_
        by_cases k13 : k < 13
        · refine br_f (nI_nle2 (b := 13) k13 (by omega)) ⟨hin, s_kindM ⟨fun z => ⟨Or.inl rfl, ?_⟩, fun z => ⟨Or.inr rfl, ?_⟩⟩⟩
          · rwa [if_neg (by simpa [k13] using (o_kind_m1 _).mp z)] at h
          · rwa [if_pos (by have := fun q => z ((o_kind_m1 _).mpr q); simpa [k13] using Classical.not_not.mp this)] at h
        · refine br_t (nI_le (a := 13) (by omega) (by omega)) ⟨Or.inl rfl, ?_⟩
          rwa [if_neg (by simp [k13])] at h
theorem s_fault {L : Nat} {σ : SS} {post : Int32 → SS → Prop} (h14 : L ≤ 14) (hL : σ.1 (1, 0, 0) 1 = nI L) (k : Nat) (hk : k ≤ L) (hg : ∀ j, j < k → o_may (σ.1 (11, 0, 0) j) j = true) (hb : k < L → o_may (σ.1 (11, 0, 0) k) k = false) (h : post (nI k) σ) : V_X3_firstFault σ post := by
  refine o_cnt k (fun i => nI i) (fun _ => σ) (fun K => ?_) (fun K i hi hK => ?_) (Nat.zero_le _) rfl rfl
  · unfold VB_X3_firstFault_2
    rw [hL]
    by_cases z : k < L
    · refine br_f (nI_nle2 z (by omega)) (s_at11 k rfl (show k < 14 by omega) (s_may rfl (by omega) ?_))
      rw [hb z]
      exact nb_t rfl h
    · have e : k = L := by omega
      subst e
      exact br_t (nI_le (Nat.le_refl _) (by omega)) h
  · unfold VB_X3_firstFault_2
    rw [hL]
    refine br_f (nI_nle2 (show i < L by omega) (by omega)) (s_at11 i rfl (show i < 14 by omega) (s_may rfl (by omega) ?_))
    rw [hg i hi]
    refine nb_f (by decide) ?_
    show K _ _
    exact o_Ke hK (nI_1 i) rfl
theorem s_faultM {L : Nat} {σ : SS} {post : Int32 → SS → Prop} (h14 : L ≤ 14) (hL : σ.1 (7, 0, 0) 12 = nI L) (hc : ∀ j, j < L → ∃ c : Nat, c ≤ 126 ∧ σ.1 (8, 0, 8) j = nI c) (k : Nat) (hk : k ≤ L) (hg : ∀ j, j < k → o_may (σ.1 (8, 0, 8) j) j = true) (hb : k < L → o_may (σ.1 (8, 0, 8) k) k = false) (h : post (nI k) σ) : V_X10_faultNow σ post := by
  refine o_cnt k (fun i => nI i) (fun _ => σ) (fun K => ?_) (fun K i hi hK => ?_) (Nat.zero_le _) rfl rfl
  · unfold VB_X10_faultNow_2
    rw [hL]
    by_cases z : k < L
    · refine br_f (nI_nle2 z (by omega)) (s_good rfl (by omega) (hc k z) ?_)
      rw [hb z]
      exact br_t rfl h
    · have e : k = L := by omega
      subst e
      exact br_t (nI_le (Nat.le_refl _) (by omega)) h
  · unfold VB_X10_faultNow_2
    rw [hL]
    refine br_f (nI_nle2 (show i < L by omega) (by omega)) (s_good rfl (by omega) (hc i (by omega)) ?_)
    rw [hg i hi]
    refine br_f (by decide) ?_
    show K _ _
    exact o_Ke hK (nI_1 i) rfl
/-- there is a first fault -/
theorem fault_ex (f : Nat → Int32) (L : Nat) : ∃ k, k ≤ L ∧ (∀ j, j < k → o_may (f j) j = true) ∧ (k < L → o_may (f k) k = false) := by
  induction L with
  | zero => exact ⟨0, Nat.le_refl _, fun j h => absurd h (Nat.not_lt_zero j), fun h => absurd h (Nat.lt_irrefl _)⟩
  | succ L ih =>
    obtain ⟨k, h1, h2, h3⟩ := ih
    by_cases z : k < L
    · exact ⟨k, by omega, h2, fun _ => h3 z⟩
    · have e : k = L := by omega
      subst e
      cases hb : o_may (f k) k with
      | false => exact ⟨k, by omega, h2, fun _ => hb⟩
      | true => exact ⟨k + 1, Nat.le_refl _, fun j hj => by rcases Nat.lt_or_ge j k with q | q
                                                            · exact h2 j q
                                                            · rw [show j = k by omega]; exact hb, fun h => absurd h (Nat.lt_irrefl _)⟩
theorem op_fault : Op (fun σ p => V_X9_fault σ p) (fun σ p => V_X10_fault σ p) := by
  intro N σ hI Nx Bd hx
  obtain ⟨n, L, sc, kd, dg, h0, hS, ⟨p1, p2, p3, p4⟩, hN⟩ := id hI
  obtain ⟨k, h1, h2, h3⟩ := fault_ex (σ.1 (11, 0, 0)) L
  refine s_fault p1 p2 k h1 h2 h3 (s_faultM p1 p3 (fun j hj => (p4 j hj).2) k h1 (fun j hj => ?_) (fun hk => ?_) (br_t rfl (hx _ hI.up)))
  · rw [← (p4 j (by omega)).1]; exact h2 j hj
  · rw [← (p4 k hk).1]; exact h3 hk
