/-! lessons side by side: places 4c + a of one, 4c + a' of the other -/
def t_rel (n a a' : Nat) (s s' : tS) : Prop := (∀ c, c < n → s.1 (4 * c + a) = s'.1 (4 * c + a') ∧ s.2.1 (4 * c + a) = s'.2.1 (4 * c + a')) ∧ s.2.2 = s'.2.2
theorem upd_i {f : Nat → Int32} {k j : Nat} {v : Int32} : upd f k v j = if j = k then v else f j := rfl
theorem t_one_rel {n a a' : Nat} {kd : Nat → Nat} {lo sung : Int32} {c : Nat} {s s' : tS} (h : t_rel n a a' s s') (hc : c < n) : t_rel n a a' (t_one kd lo sung a c s) (t_one kd lo sung a' c s') := by
  obtain ⟨h1, h2⟩ := h
  obtain ⟨P, W, g, w, b, ln⟩ := s
  obtain ⟨P', W', g', w', b', ln'⟩ := s'
  cases h2
  obtain ⟨e1, e2⟩ := h1 c hc
  dsimp only at h1 e1 e2
  by_cases hg : P (4 * c + a) < g
  · have hg' : P' (4 * c + a') < g := by rw [← e1]; exact hg
    unfold t_one
    simp only [if_pos hg, if_pos hg', upd_at]
    refine ⟨fun c' hc' => ?_, rfl⟩
    dsimp only
    by_cases e : c' = c
    · subst e; rw [upd_at, upd_at, upd_at, upd_at]; exact ⟨rfl, rfl⟩
    · rw [upd_ne (by omega), upd_ne (by omega), upd_ne (by omega), upd_ne (by omega)]
      exact h1 c' hc'
  · have hg' : ¬ P' (4 * c + a') < g := by rw [← e1]; exact hg
    unfold t_one
    simp only [if_neg hg, if_neg hg', e1, e2]
    exact ⟨fun c' hc' => h1 c' hc', rfl⟩
theorem t_go_rel {n a a' : Nat} {kd : Nat → Nat} {lo sung : Int32} {p : Nat → Nat} {ill : Nat → Bool} {s s' : tS} (h : t_rel n a a' s s') (hp : ∀ k, k < n → p k < n) : ∀ k, k ≤ n → t_rel n a a' (t_go kd lo sung a p ill s k) (t_go kd lo sung a' p ill s' k)
  | 0, _ => h
  | k + 1, hk => by
    unfold t_go
    cases ill (p k) with
    | true => exact t_go_rel h hp k (by omega)
    | false => exact t_one_rel (t_go_rel h hp k (by omega)) (hp k (by omega))
theorem t_les_rel {n a a' : Nat} {kd : Nat → Nat} {lo sung : Int32} {p : Nat → Nat} {ill : Nat → Bool} {P W P' W' : Nat → Int32} (hp : ∀ k, k < n → p k < n) (h : ∀ c, c < n → P (4 * c + a) = P' (4 * c + a') ∧ W (4 * c + a) = W' (4 * c + a')) : t_rel n a a' (t_les kd lo sung a p ill n P W) (t_les kd lo sung a' p ill n P' W') :=
  t_go_rel (s := t_st P W) (s' := t_st P' W') ⟨h, rfl⟩ hp n (Nat.le_refl n)
/-- other places stay -/
theorem t_one_fr {n a : Nat} {kd : Nat → Nat} {lo sung : Int32} {c : Nat} {s : tS} (hc : c < n) {k : Nat} (hk : ∀ c, c < n → k ≠ 4 * c + a) : (t_one kd lo sung a c s).1 k = s.1 k ∧ (t_one kd lo sung a c s).2.1 k = s.2.1 k := by
  unfold t_one
  by_cases hg : s.1 (4 * c + a) < s.2.2.1
  · simp only [if_pos hg]
    exact ⟨upd_ne (hk c hc), upd_ne (hk c hc)⟩
  · simp only [if_neg hg]
    exact ⟨trivial, trivial⟩
theorem t_go_fr {n a : Nat} {kd : Nat → Nat} {lo sung : Int32} {p : Nat → Nat} {ill : Nat → Bool} {s : tS} (hp : ∀ k, k < n → p k < n) {k : Nat} (hk : ∀ c, c < n → k ≠ 4 * c + a) : ∀ m, m ≤ n → (t_go kd lo sung a p ill s m).1 k = s.1 k ∧ (t_go kd lo sung a p ill s m).2.1 k = s.2.1 k
  | 0, _ => ⟨rfl, rfl⟩
  | m + 1, hm => by
    unfold t_go
    have ih := t_go_fr (kd := kd) (lo := lo) (sung := sung) (ill := ill) (s := s) hp hk m (by omega)
    cases ill (p m) with
    | true => exact ih
    | false =>
      have h1 := t_one_fr (kd := kd) (lo := lo) (sung := sung) (s := t_go kd lo sung a p ill s m) (hp m (by omega)) hk
      exact ⟨h1.1.trans ih.1, h1.2.trans ih.2⟩
theorem t_les_fr {n a : Nat} {kd : Nat → Nat} {lo sung : Int32} {p : Nat → Nat} {ill : Nat → Bool} {P W : Nat → Int32} (hp : ∀ k, k < n → p k < n) {k : Nat} (hk : ∀ c, c < n → k ≠ 4 * c + a) : (t_les kd lo sung a p ill n P W).1 k = P k ∧ (t_les kd lo sung a p ill n P W).2.1 k = W k :=
  t_go_fr hp hk n (Nat.le_refl n)
/-! parts stay within 0 to 100, mistakes within six bits -/
def t_ok (s : tS) : Prop := (∀ k, OkP (s.1 k)) ∧ (∀ k, OkW (s.2.1 k)) ∧ OkP s.2.2.1 ∧ OkW s.2.2.2.1 ∧ OkW s.2.2.2.2.1
theorem okP_upd {f : Nat → Int32} {k : Nat} {v : Int32} (h : ∀ k, OkP (f k)) (hv : OkP v) : ∀ j, OkP (upd f k v j) := by
  intro j; unfold upd; split
  · exact hv
  · exact h j
theorem okW_upd {f : Nat → Int32} {k : Nat} {v : Int32} (h : ∀ k, OkW (f k)) (hv : OkW v) : ∀ j, OkW (upd f k v j) := by
  intro j; unfold upd; split
  · exact hv
  · exact h j
theorem okW_or {a b : Int32} (ha : OkW a) (hb : OkW b) : OkW (a ||| b) := by
  obtain ⟨x, hx, rfl⟩ := ha
  obtain ⟨y, hy, rfl⟩ := hb
  refine ⟨x ||| y, Nat.or_lt_two_pow (n := 6) hx hy, ?_⟩
  exact (by decide +kernel : ∀ x, x < 64 → ∀ y, y < 64 → nI x ||| nI y = nI (x ||| y)) x hx y hy
theorem okW_and {a b : Int32} (ha : OkW a) (hb : OkW b) : OkW (a &&& b) := by
  obtain ⟨x, hx, rfl⟩ := ha
  obtain ⟨y, hy, rfl⟩ := hb
  refine ⟨x &&& y, Nat.lt_of_le_of_lt Nat.and_le_left hx, ?_⟩
  exact (by decide +kernel : ∀ x, x < 64 → ∀ y, y < 64 → nI x &&& nI y = nI (x &&& y)) x hx y hy
theorem okW_0 : OkW 0 := ⟨0, by omega, rfl⟩
theorem okP_0 : OkP 0 := ⟨0, by omega, rfl⟩
theorem okW_bit {c : Nat} (hc : c < 6) : OkW ((1 : Int32) <<< (nI c &&& 31)) := ⟨2 ^ c, Nat.pow_lt_pow_right (by omega) hc, (by decide +kernel : ∀ c, c < 6 → (1 : Int32) <<< (nI c &&& 31) = nI (2 ^ c)) c hc⟩
/-- what is lost: tenths d of h parts, rounded up -/
theorem nI_lost {h d : Nat} (hh : h ≤ 100) (hd : d ≤ 9) : (nI h * nI d + 9) / 10 = nI ((h * d + 9) / 10) := by
  rw [show (9 : Int32) = nI 9 from rfl, show (10 : Int32) = nI 10 from rfl, pk_mul, nI_add]
  have : h * d ≤ 900 := Nat.le_trans (Nat.mul_le_mul hh hd) (by omega)
  exact pk_div (by omega) (by omega) (by omega)
theorem lost_le {h d : Nat} (hd : d ≤ 9) : (h * d + 9) / 10 ≤ h := by
  have : h * d ≤ h * 9 := Nat.mul_le_mul_left h hd
  omega
theorem okP_less {v lo : Int32} (hv : OkP v) (hlo : ∃ d : Nat, d ≤ 9 ∧ lo = nI d) : OkP (v - (v * lo + 9) / 10) := by
  obtain ⟨h, hh, rfl⟩ := hv
  obtain ⟨d, hd, rfl⟩ := hlo
  rw [nI_lost hh hd, pk_sub (lost_le hd)]
  exact ⟨_, Nat.le_trans (Nat.sub_le _ _) hh, rfl⟩
theorem t_one_ok {a : Nat} {kd : Nat → Nat} {lo sung : Int32} {c : Nat} {s : tS} (h : t_ok s) (hc : c < 6) (hlo : ∃ d : Nat, d ≤ 9 ∧ lo = nI d) : t_ok (t_one kd lo sung a c s) := by
  obtain ⟨hP, hW, hg, hw, hb⟩ := h
  obtain ⟨P, W, g, w, b, ln⟩ := s
  dsimp only at hP hW hg hw hb
  have key : ∀ (P' W' : Nat → Int32), (∀ k, OkP (P' k)) → (∀ k, OkW (W' k)) → OkP (if sung = 0 then P' (4 * c + a) - (if kd c = 3 ∨ kd c = 4 then 0 else (P' (4 * c + a) * lo + 9) / 10) else P' (4 * c + a)) ∧ OkW (if kd c = 1 then 0 else W' (4 * c + a) ||| (if sung = 0 then (1 : Int32) <<< (nI c &&& 31) else 0)) := by
    intro P' W' h1 h2
    constructor
    · split
      · split
        · rw [Int32.sub_zero]; exact h1 _
        · exact okP_less (h1 _) hlo
      · exact h1 _
    · split
      · exact okW_0
      · refine okW_or (h2 _) ?_
        split
        · exact okW_bit hc
        · exact okW_0
  unfold t_one
  by_cases hg2 : P (4 * c + a) < g
  · simp only [if_pos hg2]
    have h1 := okP_upd (k := 4 * c + a) hP hg
    have h2 := okW_upd (k := 4 * c + a) hW (v := if kd c = 2 then w &&& b else w) (by split; exact okW_and hw hb; exact hw)
    exact ⟨h1, h2, (key _ _ h1 h2).1, (key _ _ h1 h2).2, okW_bit hc⟩
  · simp only [if_neg hg2]
    exact ⟨hP, hW, (key _ _ hP hW).1, (key _ _ hP hW).2, okW_bit hc⟩
theorem t_go_ok {n a : Nat} {kd : Nat → Nat} {lo sung : Int32} {p : Nat → Nat} {ill : Nat → Bool} {s : tS} (h : t_ok s) (hp : ∀ k, k < n → p k < 6) (hlo : ∃ d : Nat, d ≤ 9 ∧ lo = nI d) : ∀ m, m ≤ n → t_ok (t_go kd lo sung a p ill s m)
  | 0, _ => h
  | m + 1, hm => by
    unfold t_go
    cases ill (p m) with
    | true => exact t_go_ok h hp hlo m (by omega)
    | false => exact t_one_ok (t_go_ok h hp hlo m (by omega)) (hp m (by omega)) hlo
theorem t_st_ok {P W : Nat → Int32} (hP : ∀ k, OkP (P k)) (hW : ∀ k, OkW (W k)) : t_ok (t_st P W) := ⟨hP, hW, ⟨100, by omega, rfl⟩, okW_0, okW_0⟩
