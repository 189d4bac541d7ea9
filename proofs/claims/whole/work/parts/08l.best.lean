theorem Mv.w7 {σ : SS} {f : Nat → Int32} (h : ∀ j, j < 6 → f j = σ.1 (8, 0, 7) j) : Mv σ (o_wa σ (8, 0, 7) f) := by
  refine ⟨fun i hi => o_wa_ne _ _ (fun e => hi (by rw [e]; decide)), fun k _ _ => by rw [o_wa_ne _ _ (by decide)], fun k hk => by rw [o_wa_ne _ _ (by decide), o_wa_ne _ _ (by decide)]; exact ⟨rfl, rfl⟩, fun k hk => by rw [o_wa_at]; exact h k hk, rfl⟩
theorem Mv.mt {σ : SS} {P W : Nat → Int32} {g w : Int32} (h : ∀ k, k < 24 → P k = σ.1 (8, 0, 5) k ∧ W k = σ.1 (8, 0, 6) k) : Mv σ (o_mt σ P W g w) := by
  refine ⟨fun i hi => o_mtN _ _ _ _ _ (fun e => hi (by rw [e]; decide)) (fun e => hi (by rw [e]; decide)) (fun e => hi (by rw [e]; decide)), fun k h1 h2 => o_mtF _ _ _ _ _ h1 h2, fun k hk => ?_, fun k _ => by rw [o_mtN _ _ _ _ _ (by decide) (by decide) (by decide)], rfl⟩
  rw [o_mt5, o_mt6]; exact h k hk
theorem o_schM.mv {σ σ' : SS} {n : Nat} {kd : Nat → Nat} {lo : Int32} (h : o_schM σ n kd lo) (hm : Mv σ σ') : o_schM σ' n kd lo := by
  obtain ⟨h1, h2, h3, h4⟩ := h
  refine ⟨h1, by rw [hm.2.1 4 (by decide) (by decide)]; exact h2, by rw [hm.2.1 1 (by decide) (by decide)]; exact h3, ?_⟩
  rw [hm.1 (8, 0, 1) (by decide)]; exact h4
theorem illB_0 {n : Nat} (h6 : n ≤ 6) : o_illB 0 n (fun _ => false) := fun c hc => by
  have := bit_nI 0 (by omega) c (by omega)
  rw [Nat.zero_div] at this
  exact this
/-- the reference teaches order k from nothing -/
theorem s_try {n k : Nat} {kd : Nat → Nat} {lo x : Int32} {σ : SS} {post : SS → Prop} (hs : o_schM σ n kd lo) (h1 : 0 < n) (hx : x = nI k) (hk : k < fct n)
    (h : ∀ σ', Mv σ σ' → (∀ i, i < n → σ'.1 (8, 0, 7) (6 + i) = nI (ord n k i)) → (∀ c, c < n → σ'.1 (8, 0, 5) (24 + 4 * c) = (les0 kd lo n (ord n k)).1 (4 * c) ∧ σ'.1 (8, 0, 6) (24 + 4 * c) = (les0 kd lo n (ord n k)).2.1 (4 * c)) → post σ') : V_X10_tryOrder x σ post := by
  have h6 := hs.1
  have hp := ord_perm h1 h6 hk
  refine s_clear ?_
  have m1 : Mv σ (o_pw σ (zrF (σ.1 (8, 0, 5)) 24 48) (zrF (σ.1 (8, 0, 6)) 24 48)) := Mv.pw (fun k hk => by unfold zrF; rw [if_neg (by omega), if_neg (by omega)]; exact ⟨rfl, rfl⟩)
  refine s_sit h1 h6 (hs.mv m1).2.1 hx hk (fun f hf hf2 => ?_)
  have m2 := m1.tr (Mv.w7 hf)
  have hs2 := hs.mv m2
  refine s_teachM (b := 24) (s := 6) (sb := 0) (n := n) (p := ord n k) (ill := fun _ => false) hs2 (fun j hj => ⟨hp.1 j hj, by rw [o_wa_at]; exact hf2 j hj⟩) (illB_0 h6) rfl rfl rfl (by omega) (Or.inr rfl) (Or.inr rfl) (fun t ht => ?_)
  rw [o_wa_ne _ _ (by decide), o_wa_ne _ _ (by decide), o_pw5, o_pw6] at ht
  have fr : ∀ j, j < 24 → t.1 j = zrF (σ.1 (8, 0, 5)) 24 48 j ∧ t.2.1 j = zrF (σ.1 (8, 0, 6)) 24 48 j := fun j hj => by
    rw [ht]; exact t_les_fr hp.1 (fun c hc => by omega)
  have rel : t_rel n 24 0 t (les0 kd lo n (ord n k)) := by
    rw [ht]
    refine t_les_rel hp.1 (fun c hc => ?_)
    unfold zrF
    rw [if_pos (by omega), if_pos (by omega)]; exact ⟨rfl, rfl⟩
  refine h _ (m2.tr (Mv.mt (fun j hj => ?_))) (fun i hi => ?_) (fun c hc => ?_)
  · rw [o_wa_ne _ _ (by decide), o_wa_ne _ _ (by decide), o_pw5, o_pw6]; exact fr j hj
  · rw [o_mtN _ _ _ _ _ (by decide) (by decide) (by decide), o_wa_at]; exact hf2 i hi
  · rw [o_mt5, o_mt6, show 24 + 4 * c = 4 * c + 24 by omega]; exact rel.1 c hc
theorem les0_ok {kd : Nat → Nat} {lo : Int32} {n k : Nat} (h1 : 0 < n) (h6 : n ≤ 6) (hk : k < fct n) (hlo : ∃ d : Nat, d ≤ 9 ∧ lo = nI d) : t_ok (les0 kd lo n (ord n k)) :=
  t_go_ok (n := n) (t_st_ok (fun _ => okP_0) (fun _ => okW_0)) (fun j hj => Nat.lt_of_lt_of_le ((ord_perm h1 h6 hk).1 j hj) h6) hlo n (Nat.le_refl _)
theorem okP_gt {v : Int32} (h : OkP v) : (-1 : Int32) < v := by
  obtain ⟨x, hx, rfl⟩ := h
  rw [Int32.lt_iff_toInt_lt, nI_toInt (by omega)]
  have : (-1 : Int32).toInt = -1 := by decide
  omega
theorem okW_bc {v : Int32} (h : OkW v) : o_size6 v 6 = o_bc v := by
  obtain ⟨x, hx, rfl⟩ := h
  exact (o_bc6 x hx).symm
theorem bestK_le {kd : Nat → Nat} {lo : Int32} {n : Nat} : ∀ k, bestK kd lo n k ≤ k
  | 0 => Nat.le_refl _
  | k + 1 => by
    have := bestK_le (kd := kd) (lo := lo) (n := n) k
    rw [bestK]
    split <;> omega
theorem s_bestM {n : Nat} {kd : Nat → Nat} {lo : Int32} {σ : SS} {post : Int32 → SS → Prop} (hs : o_schM σ n kd lo) (h1 : 0 < n) (hlo : ∃ d : Nat, d ≤ 9 ∧ lo = nI d) (h : ∀ s, Mv σ s → post (nI (bestK kd lo n (fct n - 1))) s) : V_X10_bestOrder σ post := by
  have h6 := hs.1
  have h720 := fct_le h6
  have hpos := fct_pos n
  refine o_cntI (fct n) (fun k a s => Mv σ s ∧ ((k = 0 ∧ a = (0, -1, 7, 0)) ∨ ∃ j, k = j + 1 ∧ a = (nI (bestK kd lo n j), bestP kd lo n (bestK kd lo n j), o_bc (bestW kd lo n (bestK kd lo n j)), nI k))) (fun K a s hI => ?_) (fun K k a s hk hI hK => ?_) (Nat.zero_le _) ⟨Mv.rf σ, Or.inl ⟨rfl, rfl⟩⟩
  · obtain ⟨hm, hI⟩ := hI
    obtain ⟨j, hj, rfl⟩ := hI.resolve_left (fun z => by omega)
    refine s_many h1 h6 (hs.mv hm).2.1 (br_t (nI_le (Nat.le_refl _) (by omega)) ?_)
    have := h s hm
    rw [hj] at this
    exact this
  · obtain ⟨hm, hI⟩ := hI
    have ok := les0_ok (kd := kd) h1 h6 hk hlo
    have okp : OkP (bestP kd lo n k) := ok.1 _
    have okw : OkW (bestW kd lo n k) := ok.2.1 _
    -- the body, with its numbers
    have body : ∀ (b : Nat) (x2 x3 : Int32), (bestP kd lo n k > x2 ∨ (bestP kd lo n k = x2 ∧ o_bc (bestW kd lo n k) < x3) → ∀ s', Mv σ s' → K (nI k, bestP kd lo n k, o_bc (bestW kd lo n k), nI (k + 1)) s') → (¬ (bestP kd lo n k > x2 ∨ (bestP kd lo n k = x2 ∧ o_bc (bestW kd lo n k) < x3)) → ∀ s', Mv σ s' → K (nI b, x2, x3, nI (k + 1)) s') → VB_X10_bestOrder_10 post (fun x1 x2 x3 x4 σ => K (x1, x2, x3, x4) σ) (nI b) x2 x3 (nI k) s := by
      intro b x2 x3 hy hn
      refine s_many h1 h6 (hs.mv hm).2.1 (br_f (nI_nle2 hk (by omega)) ?_)
      refine s_try (hs.mv hm) h1 rfl hk (fun s' hm' hseat hval => ?_)
      have hm2 := hm.tr hm'
      have hn' := (hs.mv hm2).2.1
      have en : ((6 : Int32) + nI n) - 1 = nI (6 + (n - 1)) := by
        rw [show (6 : Int32) = nI 6 from rfl, nI_add, show 6 + n = (6 + (n - 1)) + 1 by omega]; exact nI_pred _
      rw [hn', en]
      have hl := (ord_perm h1 h6 hk).1 (n - 1) (by omega)
      refine ⟨vp_in_nI (by omega) (by omega), ?_⟩
      rw [nI_clamp (by omega), hseat (n - 1) (by omega), show (4 : Int32) = nI 4 from rfl, pk_mul, show (24 : Int32) = nI 24 from rfl, nI_add]
      refine nm_e ⟨vp_in_nI (by omega) (by omega), ?_⟩
      rw [nI_clamp (by omega)]
      obtain ⟨v1, v2⟩ := hval _ hl
      have v1 : s'.1 (8, 0, 5) (24 + 4 * ord n k (n - 1)) = bestP kd lo n k := v1
      have v2 : s'.1 (8, 0, 6) (24 + 4 * ord n k (n - 1)) = bestW kd lo n k := v2
      rw [v2]
      refine s_size6 ?_
      rw [okW_bc okw]
      refine ⟨vp_in_nI (by omega) (by omega), ?_⟩
      rw [v1]
      have vin : vp_in (nI (24 + 4 * ord n k (n - 1))) 48 := vp_in_nI (by omega) (by omega)
      have yes : (bestP kd lo n k > x2 ∨ (bestP kd lo n k = x2 ∧ o_bc (bestW kd lo n k) < x3)) → VB_X10_bestOrder_86 post (fun x1 x2 x3 x4 σ => K (x1, x2, x3, x4) σ) (nI b) x2 x3 (nI k) (nI (24 + 4 * ord n k (n - 1))) (o_bc (bestW kd lo n k)) s' := by
        intro z
        refine br_f (by decide) (br_f (by decide) (br_f (by decide) ⟨vin, ?_⟩))
        show K (_, _, _, _) _
        rw [nI_clamp (by omega), v1, nI_1]
        exact hy z s' hm2
      have no : ¬ (bestP kd lo n k > x2 ∨ (bestP kd lo n k = x2 ∧ o_bc (bestW kd lo n k) < x3)) → VB_X10_bestOrder_90 post (fun x1 x2 x3 x4 σ => K (x1, x2, x3, x4) σ) (nI b) x2 x3 (nI k) (nI (24 + 4 * ord n k (n - 1))) (o_bc (bestW kd lo n k)) s' := by
        intro z
        refine br_t rfl (br_t rfl (br_t rfl ?_))
        show K (_, _, _, _) _
        rw [nI_1]
        exact hn z s' hm2
      refine ⟨fun z => yes (Or.inl z), fun z => ⟨vin, ?_⟩⟩
      refine ⟨fun z2 => no (fun q => q.elim z (fun q => z2 q.1)), fun z2 => ⟨fun z3 => no (fun q => q.elim z (fun q => Int32.not_le.mpr q.2 z3)), fun z3 => yes (Or.inr ⟨z2, Int32.not_le.mp z3⟩)⟩⟩
    rcases hI with ⟨rfl, rfl⟩ | ⟨j, rfl, rfl⟩
    · refine body 0 (-1) 7 (fun _ s' hs' => hK _ _ ⟨hs', Or.inr ⟨0, rfl, rfl⟩⟩) (fun z => absurd (Or.inl (okP_gt okp)) z)
    · refine body (bestK kd lo n j) _ _ (fun z s' hs' => hK _ _ ⟨hs', Or.inr ⟨j + 1, rfl, ?_⟩⟩) (fun z s' hs' => hK _ _ ⟨hs', Or.inr ⟨j + 1, rfl, ?_⟩⟩)
      · have : bestK kd lo n (j + 1) = j + 1 := by rw [bestK]; rw [if_pos z]
        rw [this]
      · have : bestK kd lo n (j + 1) = bestK kd lo n j := by rw [bestK]; rw [if_neg z]
        rw [this]
