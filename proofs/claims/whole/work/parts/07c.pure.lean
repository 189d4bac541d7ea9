/-! THE REFERENCE, its small ones -/
theorem nb_t {c A B : Prop} (h : c) (b : B) : (¬ c → A) ∧ (c → B) := ⟨fun z => absurd h z, fun _ => b⟩
theorem nb_f {c A B : Prop} (h : ¬ c) (a : A) : (¬ c → A) ∧ (c → B) := ⟨fun _ => a, fun z => absurd z h⟩
theorem s_within {x a b : Int32} {σ : SS} {post : Int32 → SS → Prop} (h : post (if a ≤ x ∧ x ≤ b then 1 else 0) σ) : V_X10_within x a b σ post := by
  unfold V_X10_within
  refine ⟨fun z => ⟨Or.inl rfl, ?_⟩, fun z => ⟨fun z2 => ⟨Or.inl rfl, ?_⟩, fun z2 => ⟨Or.inr rfl, ?_⟩⟩⟩
  · rw [if_neg (fun q => Int32.not_le.mpr z q.1)] at h; exact h
  · rw [if_neg (fun q => Int32.not_le.mpr z2 q.2)] at h; exact h
  · rw [if_pos ⟨Int32.not_lt.mp z, Int32.not_lt.mp z2⟩] at h; exact h
/-- how many of six bits -/
def o_size6 (x : Int32) : Nat → Int32
  | 0 => 0
  | k + 1 => o_size6 x k + ((x >>> (nI k &&& 31)) &&& 1)
theorem s_size6 {x : Int32} {σ : SS} {post : Int32 → SS → Prop} (h : post (o_size6 x 6) σ) : V_X10_size x σ post := by
  refine o_cnt 6 (fun i => (x, o_size6 x i, nI i)) (fun _ => σ) (fun K => br_t (show (6 : Int32) ≤ nI 6 by decide) h) (fun K i hi hK => ?_) (Nat.zero_le _) rfl rfl
  refine br_f (nI_nle2 (b := 6) hi (by omega)) (fun y e => ?_)
  show K (_, _, _) _
  exact o_Ke hK (by rw [e, nI_1]; rfl) rfl
theorem o_bc6 : ∀ w, w < 64 → o_bc (nI w) = o_size6 (nI w) 6 := by decide +kernel
theorem s_lost {x y : Int32} {σ : SS} {post : Int32 → SS → Prop} (h : post ((x * y + 9) / 10) σ) : V_X10_lost x y σ post := h
/-- the reference behind a lesson: parts, mistakes, what is given -/
def o_mt (σ : SS) (P W : Nat → Int32) (g w : Int32) : SS := o_wa (o_wa (o_wa σ (8, 0, 5) P) (8, 0, 6) W) (7, 0, 0) (upd (upd (σ.1 (7, 0, 0)) 14 g) 15 w)
theorem o_mt5 (σ : SS) (P W : Nat → Int32) (g w : Int32) : (o_mt σ P W g w).1 (8, 0, 5) = P := by
  unfold o_mt; rw [o_wa_ne _ _ (by decide), o_wa_ne _ _ (by decide), o_wa_at]
theorem o_mt6 (σ : SS) (P W : Nat → Int32) (g w : Int32) : (o_mt σ P W g w).1 (8, 0, 6) = W := by
  unfold o_mt; rw [o_wa_ne _ _ (by decide), o_wa_at]
theorem o_mt7 (σ : SS) (P W : Nat → Int32) (g w : Int32) : (o_mt σ P W g w).1 (7, 0, 0) = upd (upd (σ.1 (7, 0, 0)) 14 g) 15 w := o_wa_at _ _ _
theorem o_mtN (σ : SS) (P W : Nat → Int32) (g w : Int32) {i : OI} (h1 : i ≠ (8, 0, 5)) (h2 : i ≠ (8, 0, 6)) (h3 : i ≠ (7, 0, 0)) : (o_mt σ P W g w).1 i = σ.1 i := by
  unfold o_mt; rw [o_wa_ne _ _ h3, o_wa_ne _ _ h2, o_wa_ne _ _ h1]
theorem o_mt14 (σ : SS) (P W : Nat → Int32) (g w : Int32) : (o_mt σ P W g w).1 (7, 0, 0) 14 = g := by rw [o_mt7]; rfl
theorem o_mt15 (σ : SS) (P W : Nat → Int32) (g w : Int32) : (o_mt σ P W g w).1 (7, 0, 0) 15 = w := by rw [o_mt7]; rfl
theorem o_mtF (σ : SS) (P W : Nat → Int32) (g w : Int32) {k : Nat} (h1 : k ≠ 14) (h2 : k ≠ 15) : (o_mt σ P W g w).1 (7, 0, 0) k = σ.1 (7, 0, 0) k := by rw [o_mt7, upd_ne h2, upd_ne h1]
theorem o_mtP (σ : SS) (P W : Nat → Int32) (g w : Int32) (k : Nat) (v : Int32) : o_wr (o_mt σ P W g w) (8, 0, 5) k v = o_mt σ (upd P k v) W g w := by
  rw [o_wr_wr, o_mt5]; unfold o_mt
  rw [o_wa_comm _ _ (upd P k v) (show ((7, 0, 0) : OI) ≠ (8, 0, 5) by decide), o_wa_comm _ W (upd P k v) (show ((8, 0, 6) : OI) ≠ (8, 0, 5) by decide), o_wa_wa]
theorem o_mtW (σ : SS) (P W : Nat → Int32) (g w : Int32) (k : Nat) (v : Int32) : o_wr (o_mt σ P W g w) (8, 0, 6) k v = o_mt σ P (upd W k v) g w := by
  rw [o_wr_wr, o_mt6]; unfold o_mt
  rw [o_wa_comm _ _ (upd W k v) (show ((7, 0, 0) : OI) ≠ (8, 0, 6) by decide), o_wa_wa]
theorem upd_upd (f : Nat → Int32) (k : Nat) (v w : Int32) : upd (upd f k v) k w = upd f k w := by
  funext j; by_cases h : j = k <;> simp [upd, h]
theorem upd_comm (f : Nat → Int32) {a b : Nat} (v w : Int32) (h : a ≠ b) : upd (upd f a v) b w = upd (upd f b w) a v := by
  funext j
  by_cases h1 : j = a
  · subst h1; simp [upd, h]
  · by_cases h2 : j = b
    · subst h2; simp [upd, h1]
    · simp [upd, h1, h2]
theorem upd_id (f : Nat → Int32) (k : Nat) : upd f k (f k) = f := by
  funext j; by_cases h : j = k
  · subst h; simp [upd]
  · simp [upd, h]
theorem o_mtG (σ : SS) (P W : Nat → Int32) (g w g' w' : Int32) : o_wr (o_wr (o_mt σ P W g w) (7, 0, 0) 14 g') (7, 0, 0) 15 w' = o_mt σ P W g' w' := by
  rw [o_wr_wr, o_wr_at, o_wr_wr, o_wa_wa, o_mt7]; unfold o_mt
  rw [o_wa_wa, upd_comm _ w g' (by decide), upd_upd, upd_upd]
theorem s_give {c j : Nat} {x y z sung : Int32} {σ : SS} {post : SS → Prop} (hx : x = nI c) (hc : c < 6) (hk : σ.1 (8, 0, 1) c = nI j) (hj : j < 5)
    (h : post (o_wr (o_wr σ (7, 0, 0) 14 (if sung = 0 then y - (if j = 3 ∨ j = 4 then 0 else (y * σ.1 (7, 0, 0) 1 + 9) / 10) else y)) (7, 0, 0) 15 (if j = 1 then 0 else z ||| (if sung = 0 then (1 : Int32) <<< (nI c &&& 31) else 0)))) : V_X10_give x y z sung σ post := by
  subst hx
  have hin : vp_in (nI c) 6 := vp_in_nI hc (by omega)
  have hcl : (nI c).toNatClampNeg = c := nI_clamp (by omega)
  have h52 : ∀ v, v = (if sung = 0 then y - (if j = 3 ∨ j = 4 then 0 else (y * σ.1 (7, 0, 0) 1 + 9) / 10) else y) → VB_X10_give_52 post (nI c) z sung v σ := by
    intro v hv
    rw [← hv] at h
    have h67 : ∀ t, t = (if sung = 0 then (1 : Int32) <<< (nI c &&& 31) else 0) → VB_X10_give_67 post (nI c) z t (o_wr σ (7, 0, 0) 14 v) := by
      intro t ht
      rw [← ht] at h
      refine ⟨hin, ?_⟩
      rw [hcl, o_wr_ne _ _ _ (by decide), hk]
      by_cases h1 : j = 1
      · rw [if_pos h1] at h
        exact nb_t (by rw [h1]; rfl) h
      · rw [if_neg h1] at h
        exact nb_f (fun q => h1 ((nI_eq (b := 1) (by omega) (by omega)).mp q)) h
    by_cases hs : sung = 0
    · exact br_t hs (h67 _ (by rw [if_pos hs]))
    · exact br_f hs (h67 _ (by rw [if_neg hs]))
  have h38 : (sung ≠ 0 ∨ j = 3 ∨ j = 4) → VB_X10_give_38 post (nI c) y z sung σ := by
    intro q
    refine h52 y ?_
    by_cases hs : sung = 0
    · rw [if_pos hs, if_pos (q.resolve_left (fun z => z hs)), Int32.sub_zero]
    · rw [if_neg hs]
  have h25t : (j = 3 ∨ j = 4) → VB_X10_give_25 post (nI c) y z sung 1 σ := by
    intro q
    refine ⟨fun _ => h38 (Or.inr q), fun _ => br_f (by decide) (h38 (Or.inr q))⟩
  have h25f : ¬ (j = 3 ∨ j = 4) → VB_X10_give_25 post (nI c) y z sung 0 σ := by
    intro q
    refine ⟨fun hs => h38 (Or.inl hs), fun hs => br_t rfl (s_lost (h52 _ ?_))⟩
    rw [if_pos hs, if_neg q]
  refine ⟨hin, ?_⟩
  rw [hcl, hk]
  by_cases h3 : j = 3
  · exact br_t (by rw [h3]; rfl) (h25t (Or.inl h3))
  · refine br_f (fun q => h3 ((nI_eq (b := 3) (by omega) (by omega)).mp q)) ⟨hin, ?_⟩
    by_cases h4 : j = 4
    · exact nb_t (by rw [h4]; rfl) (h25t (Or.inr h4))
    · exact nb_f (fun q => h4 ((nI_eq (b := 4) (by omega) (by omega)).mp q)) (h25f (by omega))
/-- what a lesson of the reference needs to know: its arrays' places from b on hold the seats; which are ill -/
def o_schM (σ : SS) (n : Nat) (kd : Nat → Nat) (lo : Int32) : Prop := n ≤ 6 ∧ σ.1 (7, 0, 0) 4 = nI n ∧ σ.1 (7, 0, 0) 1 = lo ∧ ∀ c, c < n → kd c < 5 ∧ σ.1 (8, 0, 1) c = nI (kd c)
def o_seatsM (σ : SS) (b n : Nat) (p : Nat → Nat) : Prop := ∀ k, k < n → p k < n ∧ σ.1 (8, 0, 7) (b + k) = nI (p k)
def o_illB (x : Int32) (n : Nat) (ill : Nat → Bool) : Prop := ∀ c, c < n → (x >>> (nI c &&& 31)) &&& 1 = if ill c then 1 else 0
/-- who taught last -/
def t_tc (p : Nat → Nat) (ill : Nat → Bool) : Nat → Int32
  | 0 => -1
  | k + 1 => if ill (p k) then t_tc p ill k else nI (p k)
theorem t_tc_b (kd : Nat → Nat) (lo sung : Int32) (sb : Nat) (p : Nat → Nat) (ill : Nat → Bool) (P W : Nat → Int32) (n : Nat) (hp : ∀ k, k < n → p k < 6) : ∀ k, k ≤ n → (t_tc p ill k = -1 ∧ (t_go kd lo sung sb p ill (t_st P W) k).2.2.2.2.1 = 0) ∨ (∃ c, c < 6 ∧ t_tc p ill k = nI c ∧ (t_go kd lo sung sb p ill (t_st P W) k).2.2.2.2.1 = (1 : Int32) <<< (nI c &&& 31))
  | 0, _ => Or.inl ⟨rfl, rfl⟩
  | k + 1, h => by
    unfold t_tc t_go
    cases hb : ill (p k) with
    | true => simpa using t_tc_b kd lo sung sb p ill P W n hp k (by omega)
    | false => exact Or.inr ⟨p k, hp k (by omega), by simp, by simp [t_one]⟩
theorem s_teachM {b s n sb : Nat} {kd p : Nat → Nat} {ill : Nat → Bool} {lo xb xs x sung xi : Int32} {σ : SS} {post : Int32 → SS → Prop} (hs : o_schM σ n kd lo) (hp : o_seatsM σ s n p) (hi : o_illB xi n ill) (hxb : xb = nI b) (hxs : xs = nI s) (hx : x = nI sb) (hsb : sb < 4) (hb : b = 0 ∨ b = 24) (hss : s = 0 ∨ s = 6)
    (h : ∀ t : tS, t = t_les kd lo sung (b + sb) p ill n (σ.1 (8, 0, 5)) (σ.1 (8, 0, 6)) → post t.2.2.2.2.2 (o_mt σ t.1 t.2.1 t.2.2.1 t.2.2.2.1)) : V_X10_teach xb xs x sung xi σ post := by
  subst hx hxb hxs
  obtain ⟨h6, hn, hlo, hkd⟩ := hs
  have htc := t_tc_b kd lo sung (b + sb) p ill (σ.1 (8, 0, 5)) (σ.1 (8, 0, 6)) n (fun k hk => by have := (hp k hk).1; omega)
  refine o_cnt n (fun k => let t := t_go kd lo sung (b + sb) p ill (t_st (σ.1 (8, 0, 5)) (σ.1 (8, 0, 6))) k; (nI b, nI s, nI sb, sung, xi, t_tc p ill k, t.2.2.2.2.2, nI k)) (fun k => let t := t_go kd lo sung (b + sb) p ill (t_st (σ.1 (8, 0, 5)) (σ.1 (8, 0, 6))) k; o_mt σ t.1 t.2.1 t.2.2.1 t.2.2.2.1) (fun K => ?_) (fun K k hk hK => ?_) (Nat.zero_le _) rfl ?_
  · unfold VB_X10_teach_20
    rw [o_mtF _ _ _ _ _ (by decide) (by decide), hn]
    exact br_t (nI_le (Nat.le_refl _) (by omega)) (h _ rfl)
  · obtain ⟨hpk, hpv⟩ := hp k hk
    obtain ⟨hk5, hkv⟩ := hkd (p k) hpk
    have hill := hi (p k) hpk
    have htk := htc k (by omega)
    generalize ht : t_go kd lo sung (b + sb) p ill (t_st (σ.1 (8, 0, 5)) (σ.1 (8, 0, 6))) k = t at *
    obtain ⟨P, W, g, w, bt, ln⟩ := t
    have hstep : t_go kd lo sung (b + sb) p ill (t_st (σ.1 (8, 0, 5)) (σ.1 (8, 0, 6))) (k + 1) = if ill (p k) then (P, W, g, w, bt, ln) else t_one kd lo sung (b + sb) (p k) (P, W, g, w, bt, ln) := by
      show (if ill (p k) then _ else _) = _
      rw [ht]
    rw [hstep] at hK
    have htc1 : t_tc p ill (k + 1) = if ill (p k) then t_tc p ill k else nI (p k) := rfl
    rw [htc1] at hK
    unfold VB_X10_teach_20
    rw [o_mtF _ _ _ _ _ (by decide) (by decide), hn]
    refine br_f (nI_nle2 hk (by omega)) ?_
    rw [show nI s + nI k = nI (s + k) from nI_add _ _, o_mtN _ _ _ _ _ (by decide) (by decide) (by decide), nI_clamp (by omega), hpv]
    refine ⟨vp_in_nI (by omega) (by omega), nm_e ?_⟩
    have ea : nI b + (4 : Int32) * nI (p k) + nI sb = nI (4 * p k + (b + sb)) := by
      rw [show (4 : Int32) = nI 4 from rfl, pk_mul, nI_add, nI_add]; congr 1; omega
    refine nm_r ea ?_
    rw [hill]
    cases hbb : ill (p k) with
    | true =>
      rw [hbb, if_pos rfl, if_pos rfl] at hK
      refine nb_f (by decide) ?_
      show K (_, _, _, _, _, _, _, _) _
      exact o_Ke hK (by simp only [nI_1]) rfl
    | false =>
      rw [hbb, if_neg (by decide), if_neg (by decide)] at hK
      refine nb_t (by decide) ?_
      have hv : vp_in (nI (4 * p k + (b + sb))) 48 := vp_in_nI (by omega) (by omega)
      have hcl : (nI (4 * p k + (b + sb))).toNatClampNeg = 4 * p k + (b + sb) := nI_clamp (by omega)
      refine ⟨hv, ?_⟩
      rw [o_mt14, o_mt5, hcl]
      have tail : ∀ (P' W' : Nat → Int32) (ln' : Int32), K (nI b, nI s, nI sb, sung, xi, nI (p k), ln', nI (k + 1)) (o_mt σ P' W' (if sung = 0 then P' (4 * p k + (b + sb)) - (if kd (p k) = 3 ∨ kd (p k) = 4 then 0 else (P' (4 * p k + (b + sb)) * lo + 9) / 10) else P' (4 * p k + (b + sb))) (if kd (p k) = 1 then 0 else W' (4 * p k + (b + sb)) ||| (if sung = 0 then (1 : Int32) <<< (nI (p k) &&& 31) else 0))) → VB_X10_teach_132 post (fun x1 x2 x3 x4 x5 x6 x7 x8 σ => K (x1, x2, x3, x4, x5, x6, x7, x8) σ) (nI b) (nI s) (nI sb) sung xi ln' (nI k) (nI (p k)) (nI (4 * p k + (b + sb))) (o_mt σ P' W' g w) := by
        intro P' W' ln' hK2
        refine ⟨hv, hv, s_give (c := p k) (j := kd (p k)) rfl (by omega) (by rw [o_mtN _ _ _ _ _ (by decide) (by decide) (by decide)]; exact hkv) hk5 ?_⟩
        rw [o_mtG, o_mt5, o_mt6, hcl, o_mtF _ _ _ _ _ (by decide) (by decide), hlo]
        show K (_, _, _, _, _, _, _, _) _
        exact o_Ke hK2 (by simp only [nI_1]) rfl
      by_cases hg : P (4 * p k + (b + sb)) < g
      · have hg2 : ¬ g ≤ P (4 * p k + (b + sb)) := by rw [Int32.not_le]; exact hg
        refine br_f hg2 ⟨hv, vp_in_nI (by omega) (by omega), ?_⟩
        dsimp only
        rw [o_mtP, o_mtN _ _ _ _ _ (by decide) (by decide) (by decide), nI_clamp (by omega), hkv]
        simp only [t_one, if_pos hg] at hK
        have h128 : ∀ v, v = (if kd (p k) = 2 then w &&& bt else w) → VB_X10_teach_128 post (fun x1 x2 x3 x4 x5 x6 x7 x8 σ => K (x1, x2, x3, x4, x5, x6, x7, x8) σ) (nI b) (nI s) (nI sb) sung xi ln (nI k) (nI (p k)) (nI (4 * p k + (b + sb))) v (nI (4 * p k + (b + sb))) (o_mt σ (upd P (4 * p k + (b + sb)) g) W g w) := by
          intro v hv2
          refine ⟨hv, ?_⟩
          rw [hcl, o_mtW]
          refine tail _ _ _ ?_
          rw [hv2]
          exact hK
        by_cases h2 : kd (p k) = 2
        · refine nb_t (by rw [h2]; rfl) ?_
          rcases htk with ⟨e1, e2⟩ | ⟨c, hc, e1, e2⟩
          · refine nb_t e1 (h128 _ ?_)
            dsimp only at e2
            rw [if_pos h2, e2, Int32.and_zero]
          · refine nb_f (by rw [e1]; exact fun q => by have := congrArg Int32.toInt q; rw [nI_toInt (by omega)] at this; exact absurd this (by simp)) (h128 _ ?_)
            dsimp only at e2
            rw [if_pos h2, e1, e2, o_mt15]
        · refine nb_f (fun q => h2 ((nI_eq (b := 2) (by omega) (by omega)).mp q)) (h128 _ ?_)
          rw [if_neg h2, o_mt15]
      · have hg2 : g ≤ P (4 * p k + (b + sb)) := by rw [← Int32.not_lt]; exact hg
        refine br_t hg2 (tail _ _ _ ?_)
        simp only [t_one, if_neg hg] at hK
        exact hK
  · show o_wr (o_wr σ (7, 0, 0) 14 100) (7, 0, 0) 15 0 = o_mt σ (σ.1 (8, 0, 5)) (σ.1 (8, 0, 6)) 100 0
    unfold o_mt
    rw [o_wa_id, o_wa_id, o_wr_wr, o_wr_at, o_wr_wr, o_wa_wa]
