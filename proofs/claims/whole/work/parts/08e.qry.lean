theorem o_sum_zero {f : Nat → Int32} {m : Nat} : ∀ {d : Nat}, (∀ k, m ≤ k → k < m + d → f k = 0) → o_sum f (m + d) = o_sum f m
  | 0, _ => rfl
  | d + 1, h => by
    show o_sum f (m + d) + f (m + d) = _
    rw [o_sum_zero (fun k h1 h2 => h k h1 (by omega)), h (m + d) (by omega) (by omega), Int32.add_zero]
theorem o_sum_zero' {f : Nat → Int32} {m M : Nat} (hm : m ≤ M) (h : ∀ k, m ≤ k → k < M → f k = 0) : o_sum f M = o_sum f m := by
  obtain ⟨d, rfl⟩ := Nat.le.dest hm
  exact o_sum_zero h
theorem ill_step : ∀ il, il < 64 → ∀ i, i < 6 → nI (il % 2 ^ i) ||| (nI (il / 2 ^ i % 2) <<< (nI i &&& 31)) = nI (il % 2 ^ (i + 1)) := by decide +kernel
theorem s_illSet {n il : Nat} {σ : SS} {post : Int32 → SS → Prop} (hn : σ.1 (7, 0, 0) 4 = nI n) (h6 : n ≤ 6) (hil : il < 2 ^ n) (hi : ∀ c, c < n → σ.1 (8, 0, 3) c = nI (il / 2 ^ c % 2)) (h : post (nI il) σ) : V_X10_illSet σ post := by
  refine o_cnt n (fun i => (nI (il % 2 ^ i), nI i)) (fun _ => σ) (fun K => ?_) (fun K i hi' hK => ?_) (Nat.zero_le _) (by rw [Nat.pow_zero, Nat.mod_one]; rfl) rfl
  · unfold VB_X10_illSet_4
    rw [hn]
    refine br_t (nI_le (Nat.le_refl _) (by omega)) ?_
    rw [Nat.mod_eq_of_lt hil]; exact h
  · unfold VB_X10_illSet_4
    rw [hn]
    refine br_f (nI_nle2 hi' (by omega)) ⟨vp_in_nI (by omega) (by omega), ?_⟩
    rw [nI_clamp (by omega), hi i hi', ill_step il (pow6 h6 hil) i (by omega)]
    refine nm_e ?_
    show K (_, _) _
    exact o_Ke hK (by rw [nI_1]) rfl
theorem s_allParts {b n : Nat} {x : Int32} {σ : SS} {post : Int32 → SS → Prop} (hx : x = nI b) (hb : b ≤ 24) (hn : σ.1 (7, 0, 0) 4 = nI n) (h6 : n ≤ 6) (h : post (o_sum (fun k => σ.1 (8, 0, 5) (b + k)) (4 * n)) σ) : V_X10_allParts x σ post := by
  subst hx
  refine o_cnt (4 * n) (fun i => (nI b, o_sum (fun k => σ.1 (8, 0, 5) (b + k)) i, nI i)) (fun _ => σ) (fun K => ?_) (fun K i hi hK => ?_) (Nat.zero_le _) rfl rfl
  · unfold VB_X10_allParts_4
    rw [hn, show (4 : Int32) = nI 4 from rfl, pk_mul]
    exact br_t (nI_le (Nat.le_refl _) (by omega)) h
  · unfold VB_X10_allParts_4
    rw [hn, show (4 : Int32) = nI 4 from rfl, pk_mul]
    refine br_f (nI_nle2 hi (by omega)) ?_
    rw [nI_add]
    refine ⟨vp_in_nI (by omega) (by omega), ?_⟩
    rw [nI_clamp (by omega)]
    refine nm_e ?_
    show K (_, _, _) _
    exact o_Ke hK (by rw [nI_1]; rfl) rfl
theorem s_allWrong {b n : Nat} {x : Int32} {σ : SS} {post : Int32 → SS → Prop} (hx : x = nI b) (hb : b ≤ 24) (hn : σ.1 (7, 0, 0) 4 = nI n) (h6 : n ≤ 6) (h : post (o_sum (fun k => o_size6 (σ.1 (8, 0, 6) (b + k)) 6) (4 * n)) σ) : V_X10_allWrong x σ post := by
  subst hx
  refine o_cnt (4 * n) (fun i => (nI b, o_sum (fun k => o_size6 (σ.1 (8, 0, 6) (b + k)) 6) i, nI i)) (fun _ => σ) (fun K => ?_) (fun K i hi hK => ?_) (Nat.zero_le _) rfl rfl
  · unfold VB_X10_allWrong_4
    rw [hn, show (4 : Int32) = nI 4 from rfl, pk_mul]
    exact br_t (nI_le (Nat.le_refl _) (by omega)) h
  · unfold VB_X10_allWrong_4
    rw [hn, show (4 : Int32) = nI 4 from rfl, pk_mul]
    refine br_f (nI_nle2 hi (by omega)) ?_
    rw [nI_add]
    refine ⟨vp_in_nI (by omega) (by omega), ?_⟩
    rw [nI_clamp (by omega)]
    refine s_size6 ?_
    show K (_, _, _) _
    exact o_Ke hK (by rw [nI_1]; rfl) rfl
/-- like sums on both sides: the reference's places from b on, the class's 24 -/
theorem sum_both {n b : Nat} {f g : Nat → Int32} (h6 : n ≤ 6) (he : ∀ k, k < 24 → g (b + k) = f k) (hz : ∀ k, 4 * n ≤ k → k < 24 → f k = 0) : o_sum (fun k => g (b + k)) (4 * n) = o_sum f 24 := by
  rw [o_sum_zero' (M := 24) (m := 4 * n) (by omega) hz]
  exact o_sum_congr (fun k hk => he k (by omega))
theorem o_bc0 : o_bc 0 = 0 := by decide +kernel
theorem wsum_both {n b : Nat} {f g : Nat → Int32} (h6 : n ≤ 6) (he : ∀ k, k < 24 → g (b + k) = f k) (hw : ∀ k, k < 24 → OkW (f k)) (hz : ∀ k, 4 * n ≤ k → k < 24 → f k = 0) : o_sum (fun k => o_size6 (g (b + k)) 6) (4 * n) = o_sum (fun k => o_bc (f k)) 24 := by
  rw [o_sum_zero' (M := 24) (m := 4 * n) (by omega) (fun k h1 h2 => by rw [hz k h1 h2]; exact o_bc0)]
  refine o_sum_congr (fun k hk => ?_)
  obtain ⟨w, hw1, hw2⟩ := hw k (by omega)
  rw [he k (by omega), hw2, o_bc6 w hw1]
theorem q_count {σ0 : SS} {n L sc : Nat} {kd dg : Nat → Nat} (hd : Dat σ0 n L sc kd dg) (w : Int32) : Qry σ0 n kd dg (fun σ p => V_X9_count w σ p) (fun σ p => V_X10_howMany w σ p) := by
  obtain ⟨⟨h6, -⟩, -, hN, -⟩ := id hd
  obtain ⟨-, hpw, htd, il, hil, hiX, hiM⟩ := hN.1
  -- a place of the text: the digits
  have dig : ∀ k, k < 6 → (∀ σ (post : Int32 → SS → Prop), Sv σ0 σ → Dat σ n L sc kd dg → post (nI (dg k)) σ → V_X10_howMany (nI k) σ post) → Qry σ0 n kd dg (fun σ p => V_X9_count (nI k) σ p) (fun σ p => V_X10_howMany (nI k) σ p) := by
    intro k hk hM
    refine Qry.of0 hd (nI (dg k)) (fun σ post sv hd' h => ?_) hM
    refine br_f (nI_nneg (by omega)) (br_f (nI_nle2 (b := 6) hk (by omega)) (s_at11 k rfl (show k < 6 from hk) ?_))
    rw [(hd'.1.2.2.2.1 k hk).2]; exact h
  by_cases e0 : w = 0
  · subst e0
    exact dig 0 (by omega) (fun σ post sv hd' h => ⟨fun _ => by rw [hd'.1.2.2.2.2.1]; exact h, fun z => absurd z (by decide), fun z => absurd z (by decide), fun z => absurd z (by decide), fun z => absurd z (by decide), fun z => absurd z (by decide), fun z => absurd z (by decide), fun z => absurd z (by decide), fun z => absurd z (by decide), fun z => absurd z (by decide), fun z => absurd z (by decide), fun z => absurd z (by decide), fun z => absurd rfl z.1⟩)
  by_cases e1 : w = 1
  · subst e1
    exact dig 1 (by omega) (fun σ post sv hd' h => ⟨fun z => absurd z (by decide), fun _ => by rw [hd'.1.2.2.2.2.2.1]; exact h, fun z => absurd z (by decide), fun z => absurd z (by decide), fun z => absurd z (by decide), fun z => absurd z (by decide), fun z => absurd z (by decide), fun z => absurd z (by decide), fun z => absurd z (by decide), fun z => absurd z (by decide), fun z => absurd z (by decide), fun z => absurd z (by decide), fun z => absurd rfl z.2.1⟩)
  have br : ∀ j, j < 4 → ∀ σ (post : Int32 → SS → Prop), Sv σ0 σ → Dat σ n L sc kd dg → post (nI (dg (2 + j))) σ → VB_X10_howMany_74 post (nI (2 + j)) σ := by
    intro j hj σ post sv hd' h
    have e : nI (2 + j) - 2 = nI j := by rw [show (2 : Int32) = nI 2 from rfl, pk_sub (by omega)]; congr 1; omega
    unfold VB_X10_howMany_74
    rw [e]
    refine ⟨vp_in_nI hj (by omega), ?_⟩
    rw [nI_clamp (by omega), hd'.1.2.2.2.2.2.2.1 j hj]; exact h
  by_cases e2 : w = 2
  · subst e2
    exact dig 2 (by omega) (fun σ post sv hd' h => ⟨fun z => absurd z (by decide), fun z => absurd z (by decide), fun _ => br 0 (by omega) σ post sv hd' h, fun z => absurd z (by decide), fun z => absurd z (by decide), fun z => absurd z (by decide), fun z => absurd z (by decide), fun z => absurd z (by decide), fun z => absurd z (by decide), fun z => absurd z (by decide), fun z => absurd z (by decide), fun z => absurd z (by decide), fun z => absurd rfl z.2.2.1⟩)
  by_cases e3 : w = 3
  · subst e3
    exact dig 3 (by omega) (fun σ post sv hd' h => ⟨fun z => absurd z (by decide), fun z => absurd z (by decide), fun z => absurd z (by decide), fun _ => br 1 (by omega) σ post sv hd' h, fun z => absurd z (by decide), fun z => absurd z (by decide), fun z => absurd z (by decide), fun z => absurd z (by decide), fun z => absurd z (by decide), fun z => absurd z (by decide), fun z => absurd z (by decide), fun z => absurd z (by decide), fun z => absurd rfl z.2.2.2.1⟩)
  by_cases e4 : w = 4
  · subst e4
    exact dig 4 (by omega) (fun σ post sv hd' h => ⟨fun z => absurd z (by decide), fun z => absurd z (by decide), fun z => absurd z (by decide), fun z => absurd z (by decide), fun _ => br 2 (by omega) σ post sv hd' h, fun z => absurd z (by decide), fun z => absurd z (by decide), fun z => absurd z (by decide), fun z => absurd z (by decide), fun z => absurd z (by decide), fun z => absurd z (by decide), fun z => absurd z (by decide), fun z => absurd rfl z.2.2.2.2.1⟩)
  by_cases e5 : w = 5
  · subst e5
    exact dig 5 (by omega) (fun σ post sv hd' h => ⟨fun z => absurd z (by decide), fun z => absurd z (by decide), fun z => absurd z (by decide), fun z => absurd z (by decide), fun z => absurd z (by decide), fun _ => br 3 (by omega) σ post sv hd' h, fun z => absurd z (by decide), fun z => absurd z (by decide), fun z => absurd z (by decide), fun z => absurd z (by decide), fun z => absurd z (by decide), fun z => absurd z (by decide), fun z => absurd rfl z.2.2.2.2.2.1⟩)
  -- beyond the digits the class comes to its switch
  have sw : ¬ (0 ≤ w ∧ w < 6) := by
    rintro ⟨a, b⟩
    obtain ⟨j, hj, rfl⟩ := nI_of2 (M := 5) (n := 5) (by decide) (Int32.not_lt.mpr a) (by rw [Int32.le_iff_toInt_le]; rw [i32_lt_iff] at b; have h6 : (6 : Int32).toInt = 6 := by decide
                                                                                         have h5 : (5 : Int32).toInt = 5 := by decide
                                                                                         omega)
    rcases (show j = 0 ∨ j = 1 ∨ j = 2 ∨ j = 3 ∨ j = 4 ∨ j = 5 by omega) with rfl | rfl | rfl | rfl | rfl | rfl
    · exact e0 rfl
    · exact e1 rfl
    · exact e2 rfl
    · exact e3 rfl
    · exact e4 rfl
    · exact e5 rfl
  have up : ∀ (σ : SS) (post : Int32 → SS → Prop), VB_X9_count_19 post w σ → V_X9_count w σ post := by
    intro σ post h
    by_cases z : w < 0
    · exact br_t z h
    · exact br_f z (br_t (Int32.not_lt.mp fun q => sw ⟨Int32.not_lt.mp z, q⟩) h)
  by_cases e6 : w = 6
  · subst e6
    refine Qry.of0 hd (nI n) (fun σ post sv hd' h => up σ post ⟨fun _ => s_size hd'.1.2.1 h, fun z => absurd z (by decide), fun z => absurd z (by decide), fun z => absurd z (by decide), fun z => absurd z (by decide), fun z => absurd z (by decide), fun z => absurd rfl z.1⟩) (fun σ post sv hd' h => ⟨fun z => absurd z (by decide), fun z => absurd z (by decide), fun z => absurd z (by decide), fun z => absurd z (by decide), fun z => absurd z (by decide), fun z => absurd z (by decide), fun _ => by rw [hd'.1.2.2.1]; exact h, fun z => absurd z (by decide), fun z => absurd z (by decide), fun z => absurd z (by decide), fun z => absurd z (by decide), fun z => absurd z (by decide), fun z => absurd rfl z.2.2.2.2.2.2.1⟩)
  by_cases e7 : w = 7
  · subst e7
    refine Qry.of0 hd (o_bc (nI il)) (fun σ post sv hd' h => up σ post ⟨fun z => absurd z (by decide), fun _ => s_bc (by rw [sv.1 _ (by decide), hiX]; exact h), fun z => absurd z (by decide), fun z => absurd z (by decide), fun z => absurd z (by decide), fun z => absurd z (by decide), fun z => absurd rfl z.2.1⟩) (fun σ post sv hd' h => ⟨fun z => absurd z (by decide), fun z => absurd z (by decide), fun z => absurd z (by decide), fun z => absurd z (by decide), fun z => absurd z (by decide), fun z => absurd z (by decide), fun z => absurd z (by decide), fun _ => s_illSet hd'.1.2.2.1 h6 hil (fun c hc => by rw [sv.1 _ (by decide)]; exact hiM c hc) (s_size6 (by rw [← o_bc6 il (pow6 h6 hil)]; exact h)), fun z => absurd z (by decide), fun z => absurd z (by decide), fun z => absurd z (by decide), fun z => absurd z (by decide), fun z => absurd rfl z.2.2.2.2.2.2.2.1⟩)
  by_cases e8 : w = 8
  · subst e8
    refine Qry.of0 hd (o_sum (σ0.1 (5, 0, 1)) 24) (fun σ post sv hd' h => up σ post ⟨fun z => absurd z (by decide), fun z => absurd z (by decide), fun _ => s_partsAll (by rw [sv.1 _ (by decide)]; exact h), fun z => absurd z (by decide), fun z => absurd z (by decide), fun z => absurd z (by decide), fun z => absurd rfl z.2.2.1⟩) (fun σ post sv hd' h => ⟨fun z => absurd z (by decide), fun z => absurd z (by decide), fun z => absurd z (by decide), fun z => absurd z (by decide), fun z => absurd z (by decide), fun z => absurd z (by decide), fun z => absurd z (by decide), fun z => absurd z (by decide), fun _ => s_allParts (b := 0) rfl (by omega) hd'.1.2.2.1 h6 ?_, fun z => absurd z (by decide), fun z => absurd z (by decide), fun z => absurd z (by decide), fun z => absurd rfl z.2.2.2.2.2.2.2.2.1⟩)
    rw [sum_both (f := σ0.1 (5, 0, 1)) h6 (fun k hk => by rw [Nat.zero_add]; exact ((sv.2.2.1 k hk).1).trans (hpw k hk).2.1) (fun k h1 h2 => ((hpw k h2).2.2.2.2 h1).1)]
    exact h
  by_cases e9 : w = 9
  · subst e9
    refine Qry.of0 hd (o_sum (fun k => o_bc (σ0.1 (5, 0, 2) k)) 24) (fun σ post sv hd' h => up σ post ⟨fun z => absurd z (by decide), fun z => absurd z (by decide), fun z => absurd z (by decide), fun _ => s_mistAll (by rw [sv.1 _ (by decide)]; exact h), fun z => absurd z (by decide), fun z => absurd z (by decide), fun z => absurd rfl z.2.2.2.1⟩) (fun σ post sv hd' h => ⟨fun z => absurd z (by decide), fun z => absurd z (by decide), fun z => absurd z (by decide), fun z => absurd z (by decide), fun z => absurd z (by decide), fun z => absurd z (by decide), fun z => absurd z (by decide), fun z => absurd z (by decide), fun z => absurd z (by decide), fun _ => s_allWrong (b := 0) rfl (by omega) hd'.1.2.2.1 h6 ?_, fun z => absurd z (by decide), fun z => absurd z (by decide), fun z => absurd rfl z.2.2.2.2.2.2.2.2.2.1⟩)
    rw [wsum_both (f := σ0.1 (5, 0, 2)) h6 (fun k hk => by rw [Nat.zero_add]; exact ((sv.2.2.1 k hk).2).trans (hpw k hk).2.2.2.1) (fun k hk => (hpw k hk).2.2.1) (fun k h1 h2 => ((hpw k h2).2.2.2.2 h1).2)]
    exact h
  by_cases e10 : w = 10
  · subst e10
    refine Qry.of0 hd (nI L) (fun σ post sv hd' h => up σ post ⟨fun z => absurd z (by decide), fun z => absurd z (by decide), fun z => absurd z (by decide), fun z => absurd z (by decide), fun _ => by unfold V_X3_length; rw [hd'.2.1.2.1]; exact h, fun z => absurd z (by decide), fun z => absurd rfl z.2.2.2.2.1⟩) (fun σ post sv hd' h => ⟨fun z => absurd z (by decide), fun z => absurd z (by decide), fun z => absurd z (by decide), fun z => absurd z (by decide), fun z => absurd z (by decide), fun z => absurd z (by decide), fun z => absurd z (by decide), fun z => absurd z (by decide), fun z => absurd z (by decide), fun z => absurd z (by decide), fun _ => by rw [hd'.2.1.2.2.1]; exact h, fun z => absurd z (by decide), fun z => absurd rfl z.2.2.2.2.2.2.2.2.2.2.1⟩)
  by_cases e11 : w = 11
  · subst e11
    refine Qry.of0 hd (nI sc) (fun σ post sv hd' h => up σ post ⟨fun z => absurd z (by decide), fun z => absurd z (by decide), fun z => absurd z (by decide), fun z => absurd z (by decide), fun z => absurd z (by decide), fun _ => by rw [hd'.2.2.2.1]; exact h, fun z => absurd rfl z.2.2.2.2.2⟩) (fun σ post sv hd' h => ⟨fun z => absurd z (by decide), fun z => absurd z (by decide), fun z => absurd z (by decide), fun z => absurd z (by decide), fun z => absurd z (by decide), fun z => absurd z (by decide), fun z => absurd z (by decide), fun z => absurd z (by decide), fun z => absurd z (by decide), fun z => absurd z (by decide), fun z => absurd z (by decide), fun _ => by rw [hd'.2.2.2.2.1]; exact h, fun z => absurd rfl z.2.2.2.2.2.2.2.2.2.2.2⟩)
  · exact Qry.of0 hd (-102) (fun σ post sv hd' h => up σ post ⟨fun z => absurd z e6, fun z => absurd z e7, fun z => absurd z e8, fun z => absurd z e9, fun z => absurd z e10, fun z => absurd z e11, fun _ => h⟩) (fun σ post sv hd' h => ⟨fun z => absurd z e0, fun z => absurd z e1, fun z => absurd z e2, fun z => absurd z e3, fun z => absurd z e4, fun z => absurd z e5, fun z => absurd z e6, fun z => absurd z e7, fun z => absurd z e8, fun z => absurd z e9, fun z => absurd z e10, fun z => absurd z e11, fun _ => h⟩)
