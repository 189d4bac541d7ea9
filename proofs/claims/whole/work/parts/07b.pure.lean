-- Row and School, the small ones
theorem nI_in31 (k : Nat) (h : k ≤ 1000000) : k < 2 ^ 31 := by omega
theorem s_size {σ : SS} {post : Int32 → SS → Prop} {n : Nat} (hn : σ.1 (2, 0, 0) 7 = nI n) (h : post (nI n) σ) : V_X5_size σ post := by
  unfold V_X5_size; rw [hn]; exact h
theorem nI_slate (c s : Nat) : (nI c * (4 : Int32)) + nI s = nI (4 * c + s) := by
  rw [show (4 : Int32) = nI 4 from rfl, pk_mul, nI_add, Nat.mul_comm]
theorem s_slate {c s : Nat} {x y : Int32} {σ : SS} {post : Int32 → SS → Prop} (hx : x = nI c) (hy : y = nI s) (h : post (nI (4 * c + s)) σ) : V_X4_slateOf x y σ post := by
  unfold V_X4_slateOf; rw [hx, hy, nI_slate]; exact h
theorem s_parts {r : Nat} {x y : Int32} {σ : SS} {post : Int32 → SS → Prop} (c s : Nat) (hx : x = nI c) (hy : y = nI s) (hc : c < 6) (hs : s < 4) (h : post (σ.1 (5, r, 1) (4 * c + s)) σ) : V_X4_parts r x y σ post :=
  s_slate hx hy (s_at5 (4 * c + s) rfl (show _ < 24 by omega) h)
theorem s_mist {r : Nat} {x y : Int32} {σ : SS} {post : Int32 → SS → Prop} (c s : Nat) (hx : x = nI c) (hy : y = nI s) (hc : c < 6) (hs : s < 4) (h : post (σ.1 (5, r, 2) (4 * c + s)) σ) : V_X4_mistakes r x y σ post :=
  s_slate hx hy (s_at5 (4 * c + s) rfl (show _ < 24 by omega) h)
theorem s_childOn {r : Nat} {x : Int32} {σ : SS} {post : Int32 → SS → Prop} (k : Nat) (hx : x = nI k) (hk : k < 6) (h : post (σ.1 (5, r, 0) k) σ) : V_X4_childOn r x σ post := s_at5 k hx hk h
theorem s_toldOf {r : Nat} {x : Int32} {σ : SS} {post : Int32 → SS → Prop} (k : Nat) (hx : x = nI k) (hk : k < 6) (h : post (σ.1 (5, r, 3) k) σ) : V_X4_toldOf r x σ post := s_at5 k hx hk h
theorem s_setTold {r : Nat} {x v : Int32} {σ : SS} {post : SS → Prop} (k : Nat) (hx : x = nI k) (hk : k < 6) (h : post (o_wa σ (5, r, 3) (upd (σ.1 (5, r, 3)) k v))) : V_X4_setTold r x v σ post := s_put5 k hx hk h
theorem s_wipe {r : Nat} {x y : Int32} {σ : SS} {post : SS → Prop} (c s : Nat) (hx : x = nI c) (hy : y = nI s) (hc : c < 6) (hs : s < 4) (h : post (o_wa (o_wa σ (5, r, 1) (upd (σ.1 (5, r, 1)) (4 * c + s) 0)) (5, r, 2) (upd (σ.1 (5, r, 2)) (4 * c + s) 0))) : V_X4_wipeSlate r x y σ post := by
  refine s_slate hx hy (s_put5 (4 * c + s) rfl (show _ < 24 by omega) (s_slate hx hy (s_put5 (4 * c + s) rfl (show _ < 24 by omega) ?_)))
  rw [o_wa_ne _ _ (show ((5, r, 2) : OI) ≠ (5, r, 1) by simp)]
  exact h
theorem s_partsAll {r : Nat} {σ : SS} {post : Int32 → SS → Prop} (h : post (o_sum (σ.1 (5, r, 1)) 24) σ) : V_X4_partsOfAll r σ post := s_sum h
theorem s_mistAll {r : Nat} {σ : SS} {post : Int32 → SS → Prop} (h : post (o_sum (fun k => o_bc (σ.1 (5, r, 2) k)) 24) σ) : V_X4_mistakesOfAll r σ post := s_sumBits h
theorem s_isIn {x y : Int32} {σ : SS} {post : Int32 → SS → Prop} (h : post (if (x >>> (y &&& 31)) &&& 1 = 1 then 1 else 0) σ) : V_X9_isIn x y σ post := by
  unfold V_X9_isIn
  refine ⟨fun z => ⟨Or.inl rfl, ?_⟩, fun z => ⟨Or.inr rfl, ?_⟩⟩
  · rw [if_neg z] at h; exact h
  · rw [if_pos z] at h; exact h
/-- is a bit set, as the machine asks -/
def o_bit (x y : Int32) : Int32 := if (x >>> (y &&& 31)) &&& 1 = 1 then 1 else 0
theorem o_bit01 (x y : Int32) : o_bit x y = 0 ∨ o_bit x y = 1 := by unfold o_bit; split <;> simp
theorem s_isIll {r : Nat} {x : Int32} {σ : SS} {post : Int32 → SS → Prop} (h : post (o_bit (σ.1 (3, r, 0) 5) x) σ) : V_X4_isIll r x σ post :=
  s_isIn ⟨o_bit01 _ _, h⟩
theorem s_losesOf {j : Nat} (hj : j < 5) {x y : Int32} {σ : SS} {post : Int32 → SS → Prop} (h : post (if j = 3 ∨ j = 4 then 0 else (x * y + 9) / 10) σ) : VV_losesOf j x y σ post :=
  match j, hj, h with
  | 0, _, h => h
  | 1, _, h => h
  | 2, _, h => h
  | 3, _, h => h
  | 4, _, h => h
  | k + 5, hj, _ => absurd hj (by omega)
theorem s_forgetsOf {j : Nat} (hj : j < 5) {x y : Int32} {σ : SS} {post : Int32 → SS → Prop} (h : post (if j = 4 then 0 else (x * y + 9) / 10) σ) : VV_forgetsOf j x y σ post :=
  match j, hj, h with
  | 0, _, h => h
  | 1, _, h => h
  | 2, _, h => h
  | 3, _, h => h
  | 4, _, h => h
  | k + 5, hj, _ => absurd hj (by omega)
theorem s_givesOf {j : Nat} (hj : j < 5) {x y : Int32} {σ : SS} {post : Int32 → SS → Prop} (h : post (if j = 1 then 0 else x ||| y) σ) : VV_givesOf j x y σ post :=
  match j, hj, h with
  | 0, _, h => h
  | 1, _, h => h
  | 2, _, h => h
  | 3, _, h => h
  | 4, _, h => h
  | k + 5, hj, _ => absurd hj (by omega)
theorem s_takesOf {j : Nat} (hj : j < 5) {x y : Int32} {σ : SS} {post : Int32 → SS → Prop} (h : post (if j = 2 then x &&& y else x) σ) : VV_takesOf j x y σ post :=
  match j, hj, h with
  | 0, _, h => h
  | 1, _, h => h
  | 2, _, h => h
  | 3, _, h => h
  | 4, _, h => h
  | k + 5, hj, _ => absurd hj (by omega)
theorem s_child {x : Int32} {σ : SS} {post : Nat → SS → Prop} (c j : Nat) (hx : x = nI c) (hc : c < 6) (hk : σ.1 (11, 0, 2) c = nI j) (hj : j < 5) (h : post j σ) : V_X5_child x σ post := by
  refine s_at11 c hx (show c < 6 from hc) ?_
  rw [hk]
  revert h
  match j, hj with
  | 0, _ => exact fun h => ⟨fun z => absurd z (by decide), fun z => absurd z (by decide), fun z => absurd z (by decide), fun z => absurd z (by decide), fun _ => h⟩
  | 1, _ => exact fun h => ⟨fun _ => h, fun z => absurd z (by decide), fun z => absurd z (by decide), fun z => absurd z (by decide), fun z => absurd rfl z.1⟩
  | 2, _ => exact fun h => ⟨fun z => absurd z (by decide), fun _ => h, fun z => absurd z (by decide), fun z => absurd z (by decide), fun z => absurd rfl z.2.1⟩
  | 3, _ => exact fun h => ⟨fun z => absurd z (by decide), fun z => absurd z (by decide), fun _ => h, fun z => absurd z (by decide), fun z => absurd rfl z.2.2.1⟩
  | 4, _ => exact fun h => ⟨fun z => absurd z (by decide), fun z => absurd z (by decide), fun z => absurd z (by decide), fun _ => h, fun z => absurd rfl z.2.2.2⟩
  | k + 5, hj => exact absurd hj (by omega)
theorem s_tenthsLost {σ : SS} {post : Int32 → SS → Prop} (h : post (σ.1 (11, 0, 1) 0) σ) : V_X5_tenthsLost σ post := s_at11 0 rfl (show 0 < 6 by decide) h
theorem s_tenthsForgotten {σ : SS} {post : Int32 → SS → Prop} (h : post (σ.1 (11, 0, 1) 1) σ) : V_X5_tenthsForgotten σ post := s_at11 1 rfl (show 1 < 6 by decide) h
/-! ONE LESSON, as both sides give it: P, W the parts and mistakes; g, w what is given; b the bit of who gives; ln how many learn -/
abbrev tS : Type := (Nat → Int32) × (Nat → Int32) × Int32 × Int32 × Int32 × Int32
def t_one (kd : Nat → Nat) (lo sung : Int32) (sb c : Nat) (s : tS) : tS :=
  let a := 4 * c + sb
  let P := if s.1 a < s.2.2.1 then upd s.1 a s.2.2.1 else s.1
  let W := if s.1 a < s.2.2.1 then upd s.2.1 a (if kd c = 2 then s.2.2.2.1 &&& s.2.2.2.2.1 else s.2.2.2.1) else s.2.1
  (P, W, if sung = 0 then P a - (if kd c = 3 ∨ kd c = 4 then 0 else (P a * lo + 9) / 10) else P a, if kd c = 1 then 0 else W a ||| (if sung = 0 then (1 : Int32) <<< (nI c &&& 31) else 0), (1 : Int32) <<< (nI c &&& 31), if s.1 a < s.2.2.1 then s.2.2.2.2.2 + 1 else s.2.2.2.2.2)
/-- the first k of the row, who are not ill -/
def t_go (kd : Nat → Nat) (lo sung : Int32) (sb : Nat) (p : Nat → Nat) (ill : Nat → Bool) (s : tS) : Nat → tS
  | 0 => s
  | k + 1 => if ill (p k) then t_go kd lo sung sb p ill s k else t_one kd lo sung sb (p k) (t_go kd lo sung sb p ill s k)
def t_st (P W : Nat → Int32) : tS := (P, W, 100, 0, 0, 0)
/-- what is left of a lesson: parts, mistakes, how many learned -/
def t_les (kd : Nat → Nat) (lo sung : Int32) (sb : Nat) (p : Nat → Nat) (ill : Nat → Bool) (n : Nat) (P W : Nat → Int32) : tS := t_go kd lo sung sb p ill (t_st P W) n
def o_row (σ : SS) (r : Nat) (P W : Nat → Int32) : SS := o_wa (o_wa σ (5, r, 1) P) (5, r, 2) W
theorem o_row1 (σ : SS) (r : Nat) (P W : Nat → Int32) : (o_row σ r P W).1 (5, r, 1) = P := by
  unfold o_row; rw [o_wa_ne _ _ (by simp), o_wa_at]
theorem o_row2 (σ : SS) (r : Nat) (P W : Nat → Int32) : (o_row σ r P W).1 (5, r, 2) = W := o_wa_at _ _ _
theorem o_rowN (σ : SS) (r : Nat) (P W : Nat → Int32) {i : OI} (h1 : i ≠ (5, r, 1)) (h2 : i ≠ (5, r, 2)) : (o_row σ r P W).1 i = σ.1 i := by
  unfold o_row; rw [o_wa_ne _ _ h2, o_wa_ne _ _ h1]
theorem o_row_1 (σ : SS) (r : Nat) (P W P' : Nat → Int32) : o_wa (o_row σ r P W) (5, r, 1) P' = o_row σ r P' W := by
  unfold o_row; rw [o_wa_comm _ W P' (by simp), o_wa_wa]
theorem o_row_2 (σ : SS) (r : Nat) (P W W' : Nat → Int32) : o_wa (o_row σ r P W) (5, r, 2) W' = o_row σ r P W' := o_wa_wa _ _ _ _
theorem o_row_row (σ : SS) (r : Nat) (P W P' W' : Nat → Int32) : o_row (o_row σ r P W) r P' W' = o_row σ r P' W' := by
  rw [show o_row (o_row σ r P W) r P' W' = o_wa (o_wa (o_row σ r P W) (5, r, 1) P') (5, r, 2) W' from rfl, o_row_1, o_row_2]
theorem o_row_id (σ : SS) (r : Nat) : o_row σ r (σ.1 (5, r, 1)) (σ.1 (5, r, 2)) = σ := by
  unfold o_row; rw [o_wa_id]; exact o_wa_id _ _
theorem upd_at {f : Nat → Int32} {k : Nat} {v : Int32} : upd f k v k = v := by simp [upd]
theorem upd_ne {f : Nat → Int32} {k j : Nat} {v : Int32} (h : j ≠ k) : upd f k v j = f j := by simp [upd, h]
/-- what a lesson in row r needs to know of the state -/
def o_sch (σ : SS) (n : Nat) (kd : Nat → Nat) (lo : Int32) : Prop := n ≤ 6 ∧ σ.1 (2, 0, 0) 7 = nI n ∧ σ.1 (11, 0, 1) 0 = lo ∧ ∀ c, c < n → kd c < 5 ∧ σ.1 (11, 0, 2) c = nI (kd c)
def o_seats (σ : SS) (r n : Nat) (p : Nat → Nat) : Prop := ∀ k, k < n → p k < n ∧ σ.1 (5, r, 0) k = nI (p k)
def o_ills (σ : SS) (r n : Nat) (ill : Nat → Bool) : Prop := ∀ c, c < n → o_bit (σ.1 (3, r, 0) 5) (nI c) = if ill c then 1 else 0
theorem s_teach {r : Nat} {n sb : Nat} {kd p : Nat → Nat} {ill : Nat → Bool} {lo x sung : Int32} {σ : SS} {post : Int32 → SS → Prop} (hs : o_sch σ n kd lo) (hp : o_seats σ r n p) (hi : o_ills σ r n ill) (hx : x = nI sb) (hsb : sb < 4)
    (h : ∀ t : tS, t = t_les kd lo sung sb p ill n (σ.1 (5, r, 1)) (σ.1 (5, r, 2)) → post t.2.2.2.2.2 (o_row σ r t.1 t.2.1)) : V_X4_teachDown r x sung σ post := by
  subst hx
  obtain ⟨h6, hn, hlo, hkd⟩ := hs
  refine o_cnt n (fun k => let t := t_go kd lo sung sb p ill (t_st (σ.1 (5, r, 1)) (σ.1 (5, r, 2))) k; (nI sb, sung, t.2.2.2.2.2, t.2.2.1, t.2.2.2.1, t.2.2.2.2.1, nI k)) (fun k => let t := t_go kd lo sung sb p ill (t_st (σ.1 (5, r, 1)) (σ.1 (5, r, 2))) k; o_row σ r t.1 t.2.1) (fun K => ?_) (fun K k hk hK => ?_) (Nat.zero_le _) rfl (o_row_id σ r).symm
  · refine s_size (n := n) (by rw [o_rowN _ _ _ _ (by simp) (by simp)]; exact hn) (br_t (nI_le (Nat.le_refl _) (by omega)) (h _ rfl))
  · obtain ⟨hpk, hpv⟩ := hp k hk
    obtain ⟨hk5, hkv⟩ := hkd (p k) hpk
    have hill := hi (p k) hpk
    generalize ht : t_go kd lo sung sb p ill (t_st (σ.1 (5, r, 1)) (σ.1 (5, r, 2))) k = t at *
    obtain ⟨P, W, g, w, b, ln⟩ := t
    have hstep : t_go kd lo sung sb p ill (t_st (σ.1 (5, r, 1)) (σ.1 (5, r, 2))) (k + 1) = if ill (p k) then (P, W, g, w, b, ln) else t_one kd lo sung sb (p k) (P, W, g, w, b, ln) := by
      show (if ill (p k) then _ else _) = _
      rw [ht]
    rw [hstep] at hK
    refine s_size (n := n) (by rw [o_rowN _ _ _ _ (by simp) (by simp)]; exact hn) (br_f (nI_nle2 hk (by omega)) (s_at5 k rfl (show k < 6 by omega) ?_))
    rw [o_rowN _ _ _ _ (by simp) (by simp), hpv]
    refine s_isIll ?_
    rw [o_rowN _ _ _ _ (by simp) (by simp), hill]
    cases hb : ill (p k) with
    | true =>
      rw [if_pos rfl]
      refine br_f (by decide) ?_
      rw [hb, if_pos rfl] at hK
      show K (_, _, _, _, _, _, _) _
      exact o_Ke hK (by simp only [nI_1]) rfl
    | false =>
      rw [hb, if_neg (by decide)] at hK
      rw [if_neg (by decide)]
      refine br_t rfl (s_child (p k) (kd (p k)) rfl (by omega) (by rw [o_rowN _ _ _ _ (by simp) (by simp)]; exact hkv) hk5 (s_slate rfl rfl (s_at5 (4 * p k + sb) rfl (show _ < 24 by omega) ?_)))
      rw [o_row1]
      -- behind the learning
      have tail : ∀ (P' W' : Nat → Int32) (ln' : Int32), K (nI sb, sung, ln', (if sung = 0 then P' (4 * p k + sb) - (if kd (p k) = 3 ∨ kd (p k) = 4 then 0 else (P' (4 * p k + sb) * lo + 9) / 10) else P' (4 * p k + sb)), (if kd (p k) = 1 then 0 else W' (4 * p k + sb) ||| (if sung = 0 then (1 : Int32) <<< (nI (p k) &&& 31) else 0)), (1 : Int32) <<< (nI (p k) &&& 31), nI (k + 1)) (o_row σ r P' W') → VB_X4_teachDown_115 r post (fun x1 x2 x3 x4 x5 x6 x7 σ => K (x1, x2, x3, x4, x5, x6, x7) σ) (nI sb) sung ln' (nI k) (nI (p k)) (kd (p k)) (nI (4 * p k + sb)) (o_row σ r P' W') := by
        intro P' W' ln' hK2
        refine s_at5 (4 * p k + sb) rfl (show _ < 24 by omega) ?_
        rw [o_row1]
        by_cases hsu : sung = 0
        · simp only [if_pos hsu] at hK2
          refine nm_e ?_
          refine br_t hsu ?_
          refine s_tenthsLost ?_
          refine s_losesOf hk5 ?_
          refine s_at5 (4 * p k + sb) rfl (show _ < 24 by omega) ?_
          rw [o_row2, o_rowN _ _ _ _ (by simp) (by simp), hlo]
          refine br_t hsu ?_
          refine s_givesOf hk5 ?_
          show K (_, _, _, _, _, _, _) _
          exact o_Ke hK2 (by simp only [nI_1]) rfl
        · simp only [if_neg hsu] at hK2
          refine nm_e ?_
          refine br_f hsu ?_
          refine s_at5 (4 * p k + sb) rfl (show _ < 24 by omega) ?_
          rw [o_row2]
          refine br_f hsu ?_
          refine s_givesOf hk5 ?_
          show K (_, _, _, _, _, _, _) _
          exact o_Ke hK2 (by simp only [nI_1]) rfl
      by_cases hg : P (4 * p k + sb) < g
      · have hg2 : ¬ g ≤ P (4 * p k + sb) := by rw [Int32.not_le]; exact hg
        refine br_f hg2 (s_put5 (4 * p k + sb) rfl (show _ < 24 by omega) (s_takesOf hk5 (s_put5 (4 * p k + sb) rfl (show _ < 24 by omega) ?_)))
        rw [o_row1, o_row_1, o_row2, o_row_2]
        refine tail _ _ _ ?_
        simp only [t_one, if_pos hg] at hK
        exact hK
      · have hg2 : g ≤ P (4 * p k + sb) := by rw [← Int32.not_lt]; exact hg
        refine br_t hg2 (tail _ _ _ ?_)
        simp only [t_one, if_neg hg] at hK
        exact hK
