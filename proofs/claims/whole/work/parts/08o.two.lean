/-! what is taught, side by side: the class in row r, the reference in its places from b on -/
def PW (o : Nat) (P W P' W' : Nat → Int32) : Prop := ∀ k, k < 24 → P' (o + k) = P k ∧ W' (o + k) = W k
theorem les_PW {n o sb : Nat} {kd : Nat → Nat} {lo sung : Int32} {p : Nat → Nat} {ill : Nat → Bool} {P W P' W' : Nat → Int32} (h6 : n ≤ 6) (hp : ∀ k, k < n → p k < n) (hsb : sb < 4) (h : PW o P W P' W') : PW o (t_les kd lo sung sb p ill n P W).1 (t_les kd lo sung sb p ill n P W).2.1 (t_les kd lo sung (o + sb) p ill n P' W').1 (t_les kd lo sung (o + sb) p ill n P' W').2.1 ∧ (t_les kd lo sung sb p ill n P W).2.2 = (t_les kd lo sung (o + sb) p ill n P' W').2.2 := by
  have rel : t_rel n (o + sb) sb (t_les kd lo sung (o + sb) p ill n P' W') (t_les kd lo sung sb p ill n P W) := t_les_rel hp (fun c hc => by
    have := h (4 * c + sb) (by omega)
    rw [show 4 * c + (o + sb) = o + (4 * c + sb) by omega]; exact this)
  refine ⟨fun k hk => ?_, rel.2.symm⟩
  by_cases hq : k % 4 = sb ∧ k / 4 < n
  · have := rel.1 (k / 4) hq.2
    rw [show 4 * (k / 4) + (o + sb) = o + k by omega, show 4 * (k / 4) + sb = k by omega] at this
    exact this
  · have f1 := t_les_fr (kd := kd) (lo := lo) (sung := sung) (ill := ill) (a := sb) (P := P) (W := W) hp (k := k) (fun c hc => by omega)
    have f2 := t_les_fr (kd := kd) (lo := lo) (sung := sung) (ill := ill) (a := o + sb) (P := P') (W := W') hp (k := o + k) (fun c hc => by omega)
    rw [f1.1, f1.2, f2.1, f2.2]; exact h k hk
/-- parts and mistakes as they may be -/
def Gd (n : Nat) (P W : Nat → Int32) : Prop := ∀ k, OkP (P k) ∧ OkW (W k) ∧ (4 * n ≤ k → P k = 0 ∧ W k = 0)
theorem Gd.les {n sb : Nat} {kd : Nat → Nat} {lo sung : Int32} {p : Nat → Nat} {ill : Nat → Bool} {P W : Nat → Int32} (h6 : n ≤ 6) (hp : ∀ k, k < n → p k < n) (hsb : sb < 4) (hlo : ∃ d : Nat, d ≤ 9 ∧ lo = nI d) (h : Gd n P W) : Gd n (t_les kd lo sung sb p ill n P W).1 (t_les kd lo sung sb p ill n P W).2.1 := by
  have ok : t_ok (t_les kd lo sung sb p ill n P W) := t_go_ok (n := n) (t_st_ok (fun k => (h k).1) (fun k => (h k).2.1)) (fun k hk => by have := hp k hk; omega) hlo n (Nat.le_refl _)
  intro k
  refine ⟨ok.1 k, ok.2.1 k, fun hk => ?_⟩
  have f1 := t_les_fr (kd := kd) (lo := lo) (sung := sung) (ill := ill) (a := sb) (P := P) (W := W) hp (k := k) (fun c hc => by omega)
  rw [f1.1, f1.2]; exact (h k).2.2 hk
def TX (r : Nat) (σ : SS) (P W : Nat → Int32) : Prop := PW 0 P W (σ.1 (5, r, 1)) (σ.1 (5, r, 2))
def TM (b : Nat) (σ : SS) (P W : Nat → Int32) : Prop := PW b P W (σ.1 (8, 0, 5)) (σ.1 (8, 0, 6))
theorem x_teach {r n sb : Nat} {kd p : Nat → Nat} {ill : Nat → Bool} {lo x sung : Int32} {σ : SS} {P W : Nat → Int32} {post : Int32 → SS → Prop} (hs : o_sch σ n kd lo) (hp : o_seats σ r n p) (hi : o_ills σ r n ill) (ht : TX r σ P W) (hx : x = nI sb) (hsb : sb < 4)
    (h : ∀ σ', RowV r σ σ' → σ'.1 (5, r, 0) = σ.1 (5, r, 0) → σ'.1 (5, r, 3) = σ.1 (5, r, 3) → σ'.1 (3, r, 0) = σ.1 (3, r, 0) → TX r σ' (t_les kd lo sung sb p ill n P W).1 (t_les kd lo sung sb p ill n P W).2.1 → post (t_les kd lo sung sb p ill n P W).2.2.2.2.2 σ') : V_X4_teachDown r x sung σ post := by
  refine s_teach hs hp hi hx hsb (fun t ht' => ?_)
  have l := les_PW (kd := kd) (lo := lo) (sung := sung) (ill := ill) hs.1 (fun k hk => (hp k hk).1) hsb ht
  rw [Nat.zero_add, ← ht'] at l
  have := h (o_row σ r t.1 t.2.1) RowV.row (o_rowN _ _ _ _ (by simp) (by simp)) (o_rowN _ _ _ _ (by simp) (by simp)) (o_rowN _ _ _ _ (by simp) (by simp)) (by unfold TX; rw [o_row1, o_row2]; exact l.1)
  rw [l.2] at this
  exact this
/-- what a lesson of the reference leaves alone -/
def MB (σ σ' : SS) : Prop := (∀ i : OI, i ∉ [((7,0,0) : OI), (8,0,5), (8,0,6)] → σ'.1 i = σ.1 i) ∧ (∀ k, k ≠ 14 → k ≠ 15 → σ'.1 (7, 0, 0) k = σ.1 (7, 0, 0) k) ∧ σ'.2 = σ.2
theorem MB.tr {a b c : SS} (h : MB a b) (g : MB b c) : MB a c := ⟨fun i hi => (g.1 i hi).trans (h.1 i hi), fun k h1 h2 => (g.2.1 k h1 h2).trans (h.2.1 k h1 h2), g.2.2.trans h.2.2⟩
def M24 (σ σ' : SS) : Prop := ∀ k, k < 24 → σ'.1 (8, 0, 5) k = σ.1 (8, 0, 5) k ∧ σ'.1 (8, 0, 6) k = σ.1 (8, 0, 6) k
theorem MB.mv {σ σ' : SS} (h : MB σ σ') (g : M24 σ σ') : Mv σ σ' :=
  ⟨fun i hi => h.1 i (fun z => hi (by revert z; simp; rintro (z | z | z) <;> simp [z])), h.2.1, g, fun k _ => by rw [h.1 _ (by decide)], by rw [h.2.2]⟩
theorem m_teach {b s n sb : Nat} {kd p : Nat → Nat} {ill : Nat → Bool} {lo xb xs x sung xi : Int32} {σ : SS} {P W : Nat → Int32} {post : Int32 → SS → Prop} (hs : o_schM σ n kd lo) (hp : o_seatsM σ s n p) (hi : o_illB xi n ill) (ht : TM b σ P W) (hxb : xb = nI b) (hxs : xs = nI s) (hx : x = nI sb) (hsb : sb < 4) (hb : b = 0 ∨ b = 24) (hss : s = 0 ∨ s = 6)
    (h : ∀ σ', MB σ σ' → (b = 24 → M24 σ σ') → TM b σ' (t_les kd lo sung sb p ill n P W).1 (t_les kd lo sung sb p ill n P W).2.1 → post (t_les kd lo sung sb p ill n P W).2.2.2.2.2 σ') : V_X10_teach xb xs x sung xi σ post := by
  refine s_teachM hs hp hi hxb hxs hx hsb hb hss (fun t ht' => ?_)
  have l := les_PW (kd := kd) (lo := lo) (sung := sung) (ill := ill) hs.1 (fun k hk => (hp k hk).1) hsb ht
  rw [← ht'] at l
  have := h (o_mt σ t.1 t.2.1 t.2.2.1 t.2.2.2.1) ⟨fun i hi => o_mtN _ _ _ _ _ (fun e => hi (by rw [e]; decide)) (fun e => hi (by rw [e]; decide)) (fun e => hi (by rw [e]; decide)), fun k h1 h2 => o_mtF _ _ _ _ _ h1 h2, rfl⟩ (fun hb k hk => ?_) (by unfold TM; rw [o_mt5, o_mt6]; exact l.1)
  · rw [l.2] at this
    exact this
  · rw [o_mt5, o_mt6, ht']
    exact t_les_fr (fun k hk => (hp k hk).1) (fun c hc => by omega)
/-! a summer: places o + k -/
def sm_one (kd : Nat → Nat) (fg : Int32) (o : Nat) (s : (Nat → Int32) × (Nat → Int32) × Int32) (k : Nat) : (Nat → Int32) × (Nat → Int32) × Int32 :=
  (upd s.1 (o + k) (s.1 (o + k) - if kd (k / 4) = 4 then 0 else (s.1 (o + k) * fg + 9) / 10), if (s.1 (o + k) - if kd (k / 4) = 4 then 0 else (s.1 (o + k) * fg + 9) / 10) = 0 then upd s.2.1 (o + k) 0 else s.2.1, s.2.2 + if kd (k / 4) = 4 then 0 else (s.1 (o + k) * fg + 9) / 10)
def sm_go (kd : Nat → Nat) (fg : Int32) (o : Nat) (P W : Nat → Int32) : Nat → (Nat → Int32) × (Nat → Int32) × Int32
  | 0 => (P, W, 0)
  | k + 1 => sm_one kd fg o (sm_go kd fg o P W k) k
theorem sm_ok {n : Nat} {kd : Nat → Nat} {fg : Int32} {P W : Nat → Int32} (hfg : ∃ d : Nat, d ≤ 9 ∧ fg = nI d) (h : Gd n P W) : ∀ m, m ≤ 4 * n → Gd n (sm_go kd fg 0 P W m).1 (sm_go kd fg 0 P W m).2.1
  | 0, _ => h
  | m + 1, hm => by
    have ih := sm_ok (kd := kd) hfg h m (by omega)
    unfold sm_go sm_one
    generalize sm_go kd fg 0 P W m = s at ih
    obtain ⟨P', W', f⟩ := s
    dsimp only at ih ⊢
    rw [Nat.zero_add]
    have okv : OkP (P' m - if kd (m / 4) = 4 then 0 else (P' m * fg + 9) / 10) := by
      split
      · rw [Int32.sub_zero]; exact (ih m).1
      · exact okP_less (ih m).1 hfg
    generalize (P' m - if kd (m / 4) = 4 then 0 else (P' m * fg + 9) / 10) = v at okv ⊢
    have hw : ∀ k, OkW ((if v = 0 then upd W' m 0 else W') k) ∧ (4 * n ≤ k → (if v = 0 then upd W' m 0 else W') k = 0) := by
      intro k
      by_cases hv : v = 0
      · rw [if_pos hv]
        refine ⟨okW_upd (fun k => (ih k).2.1) okW_0 k, fun hk => ?_⟩
        rw [upd_ne (by omega)]; exact ((ih k).2.2 hk).2
      · rw [if_neg hv]
        exact ⟨(ih k).2.1, fun hk => ((ih k).2.2 hk).2⟩
    intro k
    refine ⟨okP_upd (fun k => (ih k).1) okv k, (hw k).1, fun hk => ⟨?_, (hw k).2 hk⟩⟩
    rw [upd_ne (by omega)]; exact ((ih k).2.2 hk).1
theorem sm_PW {o : Nat} {kd : Nat → Nat} {fg : Int32} {P W P' W' : Nat → Int32} (h : PW o P W P' W') : ∀ m, m ≤ 24 → PW o (sm_go kd fg 0 P W m).1 (sm_go kd fg 0 P W m).2.1 (sm_go kd fg o P' W' m).1 (sm_go kd fg o P' W' m).2.1 ∧ (sm_go kd fg 0 P W m).2.2 = (sm_go kd fg o P' W' m).2.2
  | 0, _ => ⟨h, rfl⟩
  | m + 1, hm => by
    obtain ⟨ih, ih2⟩ := sm_PW (kd := kd) (fg := fg) h m (by omega)
    unfold sm_go sm_one
    generalize sm_go kd fg 0 P W m = s at ih ih2
    generalize sm_go kd fg o P' W' m = s' at ih ih2
    obtain ⟨P1, W1, f1⟩ := s
    obtain ⟨P2, W2, f2⟩ := s'
    dsimp only at ih ih2 ⊢
    have em : P2 (o + m) = P1 m := (ih m (by omega)).1
    simp only [Nat.zero_add, em, ih2]
    refine ⟨fun k hk => ?_, trivial⟩
    generalize (P1 m - if kd (m / 4) = 4 then 0 else (P1 m * fg + 9) / 10) = v
    by_cases e : k = m
    · subst e
      refine ⟨by rw [upd_at, upd_at], ?_⟩
      by_cases hv : v = 0
      · rw [if_pos hv, if_pos hv, upd_at, upd_at]
      · rw [if_neg hv, if_neg hv]; exact (ih k hk).2
    · refine ⟨by rw [upd_ne (by omega), upd_ne e]; exact (ih k hk).1, ?_⟩
      by_cases hv : v = 0
      · rw [if_pos hv, if_pos hv, upd_ne (by omega), upd_ne e]; exact (ih k hk).2
      · rw [if_neg hv, if_neg hv]; exact (ih k hk).2
theorem sm_lo {o : Nat} {kd : Nat → Nat} {fg : Int32} {P W : Nat → Int32} {k : Nat} (hk : k < o) : ∀ m, (sm_go kd fg o P W m).1 k = P k ∧ (sm_go kd fg o P W m).2.1 k = W k
  | 0 => ⟨rfl, rfl⟩
  | m + 1 => by
    have ih := sm_lo (kd := kd) (fg := fg) (P := P) (W := W) hk m
    unfold sm_go sm_one
    dsimp only
    refine ⟨by rw [upd_ne (by omega)]; exact ih.1, ?_⟩
    generalize ((sm_go kd fg o P W m).1 (o + m) - if kd (m / 4) = 4 then 0 else ((sm_go kd fg o P W m).1 (o + m) * fg + 9) / 10) = v
    by_cases hv : v = 0
    · rw [if_pos hv, upd_ne (by omega)]; exact ih.2
    · rw [if_neg hv]; exact ih.2
theorem x_summer {r n : Nat} {kd : Nat → Nat} {lo fg : Int32} {σ : SS} {P W : Nat → Int32} {post : Int32 → SS → Prop} (hs : o_sch σ n kd lo) (hfg : σ.1 (11, 0, 1) 1 = fg) (ht : TX r σ P W)
    (h : ∀ σ', RowV r σ σ' → σ'.1 (5, r, 0) = σ.1 (5, r, 0) → σ'.1 (5, r, 3) = σ.1 (5, r, 3) → σ'.1 (3, r, 0) = σ.1 (3, r, 0) → TX r σ' (sm_go kd fg 0 P W (4 * n)).1 (sm_go kd fg 0 P W (4 * n)).2.1 → post (sm_go kd fg 0 P W (4 * n)).2.2 σ') : V_X4_passSummer r σ post := by
  obtain ⟨h6, hn, -, hkd⟩ := hs
  have h' : ∀ s, s = sm_go kd fg 0 (σ.1 (5, r, 1)) (σ.1 (5, r, 2)) (4 * n) → post s.2.2 (o_row σ r s.1 s.2.1) := by
    intro s hs'
    have l := sm_PW (kd := kd) (fg := fg) ht (4 * n) (by omega)
    rw [← hs'] at l
    have := h (o_row σ r s.1 s.2.1) RowV.row (o_rowN _ _ _ _ (by simp) (by simp)) (o_rowN _ _ _ _ (by simp) (by simp)) (o_rowN _ _ _ _ (by simp) (by simp)) (by unfold TX; rw [o_row1, o_row2]; exact l.1)
    rw [l.2] at this
    exact this
  refine o_cnt n (fun i => ((sm_go kd fg 0 (σ.1 (5, r, 1)) (σ.1 (5, r, 2)) (4 * i)).2.2, nI i)) (fun i => o_row σ r (sm_go kd fg 0 (σ.1 (5, r, 1)) (σ.1 (5, r, 2)) (4 * i)).1 (sm_go kd fg 0 (σ.1 (5, r, 1)) (σ.1 (5, r, 2)) (4 * i)).2.1) (fun K => ?_) (fun K i hi hK => ?_) (Nat.zero_le _) rfl (o_row_id σ r).symm
  · refine s_size (n := n) (by rw [o_rowN _ _ _ _ (by simp) (by simp)]; exact hn) (br_t (nI_le (Nat.le_refl _) (by omega)) (h' _ rfl))
  · obtain ⟨k5, kv⟩ := hkd i hi
    refine s_size (n := n) (by rw [o_rowN _ _ _ _ (by simp) (by simp)]; exact hn) (br_f (nI_nle2 hi (by omega)) (s_child i (kd i) rfl (by omega) (by rw [o_rowN _ _ _ _ (by simp) (by simp)]; exact kv) k5 ?_))
    refine o_cnt 4 (fun j => ((sm_go kd fg 0 (σ.1 (5, r, 1)) (σ.1 (5, r, 2)) (4 * i + j)).2.2, nI i, kd i, nI j)) (fun j => o_row σ r (sm_go kd fg 0 (σ.1 (5, r, 1)) (σ.1 (5, r, 2)) (4 * i + j)).1 (sm_go kd fg 0 (σ.1 (5, r, 1)) (σ.1 (5, r, 2)) (4 * i + j)).2.1) (fun K2 => br_t (show (4 : Int32) ≤ nI 4 by decide) ?_) (fun K2 j hj hK2 => ?_) (Nat.zero_le _) rfl rfl
    · show K (_, _) _
      exact o_Ke hK (by rw [nI_1]; rfl) rfl
    · rw [show 4 * i + (j + 1) = (4 * i + j) + 1 by omega] at hK2
      unfold sm_go sm_one at hK2
      generalize sm_go kd fg 0 (σ.1 (5, r, 1)) (σ.1 (5, r, 2)) (4 * i + j) = s at hK2 ⊢
      obtain ⟨P1, W1, f1⟩ := s
      dsimp only at hK2 ⊢
      rw [Nat.zero_add, show (4 * i + j) / 4 = i by omega] at hK2
      refine br_f (nI_nle2 (b := 4) hj (by omega)) (s_slate rfl rfl (s_at5 (4 * i + j) rfl (show _ < 24 by omega) (s_tenthsForgotten (s_forgetsOf k5 (s_at5 (4 * i + j) rfl (show _ < 24 by omega) (s_put5 (4 * i + j) rfl (show _ < 24 by omega) (s_at5 (4 * i + j) rfl (show _ < 24 by omega) ?_)))))))
      rw [o_wa_at, upd_at, o_row1, o_rowN _ _ _ _ (by simp) (by simp), hfg, o_row_1]
      generalize hl : (if kd i = 4 then (0 : Int32) else (P1 (4 * i + j) * fg + 9) / 10) = l at hK2 ⊢
      by_cases hv : P1 (4 * i + j) - l = 0
      · rw [if_pos hv] at hK2
        refine nb_t hv (s_put5 (4 * i + j) rfl (show _ < 24 by omega) ?_)
        rw [o_row2, o_row_2]
        show K2 (_, _, _, _) _
        exact o_Ke hK2 (by rw [nI_1]) rfl
      · rw [if_neg hv] at hK2
        refine nb_f hv ?_
        show K2 (_, _, _, _) _
        exact o_Ke hK2 (by rw [nI_1]) rfl
theorem m_summer {b n : Nat} {kd : Nat → Nat} {lo fg x : Int32} {σ : SS} {P W : Nat → Int32} {post : Int32 → SS → Prop} (hs : o_schM σ n kd lo) (hfg : σ.1 (7, 0, 0) 2 = fg) (ht : TM b σ P W) (hx : x = nI b) (hb : b = 0 ∨ b = 24)
    (h : ∀ σ', MB σ σ' → (b = 24 → M24 σ σ') → TM b σ' (sm_go kd fg 0 P W (4 * n)).1 (sm_go kd fg 0 P W (4 * n)).2.1 → post (sm_go kd fg 0 P W (4 * n)).2.2 σ') : V_X10_goSummer x σ post := by
  subst hx
  obtain ⟨h6, hn, -, hkd⟩ := hs
  have h' : ∀ s, s = sm_go kd fg b (σ.1 (8, 0, 5)) (σ.1 (8, 0, 6)) (4 * n) → post s.2.2 (o_pw σ s.1 s.2.1) := by
    intro s hs'
    have l := sm_PW (kd := kd) (fg := fg) ht (4 * n) (by omega)
    rw [← hs'] at l
    have := h (o_pw σ s.1 s.2.1) ⟨fun i hi => o_pwN _ _ _ (fun e => hi (by rw [e]; decide)) (fun e => hi (by rw [e]; decide)), fun k _ _ => by rw [o_pwN _ _ _ (by decide) (by decide)], rfl⟩ (fun hb k hk => ?_) (by unfold TM; rw [o_pw5, o_pw6]; exact l.1)
    · rw [l.2] at this
      exact this
    · rw [o_pw5, o_pw6, hs']
      exact sm_lo (by omega) _
  refine o_cnt n (fun i => (nI b, (sm_go kd fg b (σ.1 (8, 0, 5)) (σ.1 (8, 0, 6)) (4 * i)).2.2, nI i)) (fun i => o_pw σ (sm_go kd fg b (σ.1 (8, 0, 5)) (σ.1 (8, 0, 6)) (4 * i)).1 (sm_go kd fg b (σ.1 (8, 0, 5)) (σ.1 (8, 0, 6)) (4 * i)).2.1) (fun K => ?_) (fun K i hi hK => ?_) (Nat.zero_le _) rfl (o_pw_id σ).symm
  · unfold VB_X10_goSummer_4
    rw [o_pwN _ _ _ (by decide) (by decide), hn]
    exact br_t (nI_le (Nat.le_refl _) (by omega)) (h' _ rfl)
  · obtain ⟨k5, kv⟩ := hkd i hi
    unfold VB_X10_goSummer_4
    rw [o_pwN _ _ _ (by decide) (by decide), hn]
    refine br_f (nI_nle2 hi (by omega)) ?_
    refine o_cnt 4 (fun j => (nI b, (sm_go kd fg b (σ.1 (8, 0, 5)) (σ.1 (8, 0, 6)) (4 * i + j)).2.2, nI i, nI j)) (fun j => o_pw σ (sm_go kd fg b (σ.1 (8, 0, 5)) (σ.1 (8, 0, 6)) (4 * i + j)).1 (sm_go kd fg b (σ.1 (8, 0, 5)) (σ.1 (8, 0, 6)) (4 * i + j)).2.1) (fun K2 => br_t (show (4 : Int32) ≤ nI 4 by decide) ?_) (fun K2 j hj hK2 => ?_) (Nat.zero_le _) rfl rfl
    · show K (_, _, _) _
      exact o_Ke hK (by rw [nI_1]; rfl) rfl
    · rw [show 4 * i + (j + 1) = (4 * i + j) + 1 by omega] at hK2
      unfold sm_go sm_one at hK2
      generalize sm_go kd fg b (σ.1 (8, 0, 5)) (σ.1 (8, 0, 6)) (4 * i + j) = s at hK2 ⊢
      obtain ⟨P1, W1, f1⟩ := s
      dsimp only at hK2 ⊢
      rw [show (4 * i + j) / 4 = i by omega] at hK2
      refine br_f (nI_nle2 (b := 4) hj (by omega)) (nm_r (show (nI b + (4 : Int32) * nI i) + nI j = nI (b + (4 * i + j)) by rw [show (4 : Int32) = nI 4 from rfl, pk_mul, nI_add, nI_add]; congr 1; omega) ⟨vp_in_nI (by omega) (by omega), ?_⟩)
      have vin : vp_in (nI (b + (4 * i + j))) 48 := vp_in_nI (by omega) (by omega)
      have hcl : (nI (b + (4 * i + j))).toNatClampNeg = b + (4 * i + j) := nI_clamp (by omega)
      rw [nI_clamp (by omega), o_pwN _ _ _ (by decide) (by decide), kv, hcl, o_pw5, o_pwN _ _ _ (by decide) (by decide), hfg]
      have tail : ∀ l, l = (if kd i = 4 then (0 : Int32) else (P1 (b + (4 * i + j)) * fg + 9) / 10) → VB_X10_goSummer_59 post (fun x1 x2 x3 σ => K (x1, x2, x3) σ) (fun x1 x2 x3 x4 σ => K2 (x1, x2, x3, x4) σ) (nI b) f1 (nI i) (nI j) (nI (b + (4 * i + j))) l (o_pw σ P1 W1) := by
        intro l hl
        rw [← hl] at hK2
        refine ⟨vin, vin, vin, ?_⟩
        rw [hcl, o_pw5, o_pwP, o_pw5, upd_at]
        by_cases hv : P1 (b + (4 * i + j)) - l = 0
        · rw [if_pos hv] at hK2
          refine nb_t hv ⟨vin, ?_⟩
          rw [hcl, o_pwW]
          show K2 (_, _, _, _) _
          exact o_Ke hK2 (by rw [nI_1]) rfl
        · rw [if_neg hv] at hK2
          refine nb_f hv ⟨vin, vin, ?_⟩
          rw [hcl, o_pw6, o_pwW, upd_id]
          show K2 (_, _, _, _) _
          exact o_Ke hK2 (by rw [nI_1]) rfl
      by_cases h4 : kd i = 4
      · exact nb_t (by rw [h4]; rfl) (tail 0 (by rw [if_pos h4]))
      · exact nb_f (fun q => h4 ((nI_eq (b := 4) (by omega) (by omega)).mp q)) ⟨vin, s_lost (tail _ (by rw [if_neg h4]))⟩
