/-! the next order by numbers, as the class finds it -/
def lowF (p : Nat → Nat) : Nat → Option Nat
  | 0 => none
  | j + 1 => if p (j + 1) < p j then lowF p j else some j
def highF (p : Nat → Nat) (l : Nat) : Nat → Nat
  | 0 => 0
  | h + 1 => if l < h + 1 ∧ p (h + 1) < p l then highF p l h else h + 1
def swF (p : Nat → Nat) (a b : Nat) : Nat → Nat := fun k => if k = b then p a else if k = a then p b else p k
def revF : Nat → (Nat → Nat) → Nat → Nat → (Nat → Nat)
  | 0, p, _, _ => p
  | f + 1, p, a, b => if a < b then revF f (swF p a b) (a + 1) (b - 1) else p
def nextP (n : Nat) (p : Nat → Nat) : Option (Nat → Nat) := match lowF p (n - 1) with
  | none => none
  | some l => some (revF n (swF p l (highF p l (n - 1))) (l + 1) (n - 1))
/-! what holds of all orders, counted out -/
def allB (f : Nat → Bool) : Nat → Bool
  | 0 => true
  | n + 1 => f n && allB f n
theorem allB_at {f : Nat → Bool} : ∀ {n : Nat}, allB f n = true → ∀ k, k < n → f k = true
  | n + 1, h, k, hk => by
    rw [allB, Bool.and_eq_true] at h
    rcases Nat.lt_succ_iff_lt_or_eq.mp hk with q | q
    · exact allB_at h.2 k q
    · rw [q]; exact h.1
def lstF (l : List Nat) : Nat → Nat := fun i => l.getD i 0
def okL (n : Nat) (l : List Nat) : Bool := Nat.beq l.length n && allB (fun i => Nat.blt (lstF l i) n) n && allB (fun c => l.any (Nat.beq c)) n
def eqO (n : Nat) (a b : Option (List Nat)) : Bool := match a, b with
  | some a, some b => allB (fun i => Nat.beq (lstF a i) (lstF b i)) n
  | none, none => true
  | _, _ => false
def nxL (n : Nat) (l : List Nat) : Option (List Nat) := (nextP n (lstF l)).map (fun q => (List.range n).map q)
def stepB (n k : Nat) : Bool := match stF n 0 (fct n) k with
  | none => false
  | some l => okL n l && eqO n (nxL n l) (if Nat.blt (k + 1) (fct n) then stF n 0 (fct n) (k + 1) else none)
theorem step_all : allB (fun n => allB (fun k => stepB (n + 1) k) (fct (n + 1))) 6 = true := by decide +kernel
theorem fct_le {n : Nat} (h : n ≤ 6) : fct n ≤ 720 := by
  have : ∀ n, n < 7 → fct n ≤ 720 := by decide
  exact this n (by omega)
theorem fct_pos : ∀ n, 0 < fct n
  | 0 => by decide
  | n + 1 => Nat.mul_pos (by omega) (fct_pos n)
theorem step_at {n k : Nat} (h1 : 0 < n) (h6 : n ≤ 6) (hk : k < fct n) : stepB n k = true := by
  have h := allB_at step_all (n - 1) (by omega)
  rw [show n - 1 + 1 = n by omega] at h
  exact allB_at h k hk
theorem ord_st {n k : Nat} (h1 : 0 < n) (h6 : n ≤ 6) (hk : k < fct n) : stF n 0 (fct n) k = some (ordL n k) ∧ okL n (ordL n k) = true := by
  have h := step_at h1 h6 hk
  unfold stepB at h
  cases e : stF n 0 (fct n) k with
  | none => rw [e] at h; simp at h
  | some l =>
    rw [e] at h
    simp only [Bool.and_eq_true] at h
    have : ordL n k = l := by unfold ordL; rw [e]; rfl
    rw [this]; exact ⟨rfl, h.1⟩
theorem blt_lt {a b : Nat} (h : Nat.blt a b = true) : a < b := by
  unfold Nat.blt at h; exact Nat.le_of_ble_eq_true h
theorem okL_perm {n : Nat} {l : List Nat} (h : okL n l = true) : l.length = n ∧ o_perm n (lstF l) := by
  unfold okL at h
  simp only [Bool.and_eq_true] at h
  obtain ⟨⟨h1, h2⟩, h3⟩ := h
  have hl : l.length = n := Nat.eq_of_beq_eq_true h1
  refine ⟨hl, fun k hk => blt_lt (allB_at h2 k hk), fun c hc => ?_⟩
  have h := allB_at h3 c hc
  rw [List.any_eq_true] at h
  obtain ⟨x, hx, e⟩ := h
  have e := Nat.eq_of_beq_eq_true e
  subst e
  obtain ⟨i, hi, e⟩ := List.getElem_of_mem hx
  exact ⟨i, by omega, by unfold lstF; rw [List.getD_eq_getElem?_getD, List.getElem?_eq_getElem hi, e]; rfl⟩
theorem ord_perm {n k : Nat} (h1 : 0 < n) (h6 : n ≤ 6) (hk : k < fct n) : o_perm n (ord n k) := (okL_perm (ord_st h1 h6 hk).2).2
theorem ord_next {n k : Nat} (h1 : 0 < n) (h6 : n ≤ 6) (hk : k < fct n) : if k + 1 < fct n then ∃ q, nextP n (ord n k) = some q ∧ ∀ i, i < n → q i = ord n (k + 1) i else nextP n (ord n k) = none := by
  have h := step_at h1 h6 hk
  unfold stepB at h
  rw [(ord_st h1 h6 hk).1] at h
  simp only [Bool.and_eq_true] at h
  have h := h.2
  have eo : lstF (ordL n k) = ord n k := rfl
  unfold nxL at h
  rw [eo] at h
  by_cases hk1 : k + 1 < fct n
  · rw [if_pos hk1]
    have hb : Nat.blt (k + 1) (fct n) = true := Nat.ble_eq_true_of_le hk1
    rw [if_pos hb, (ord_st h1 h6 hk1).1] at h
    cases e : nextP n (ord n k) with
    | none => rw [e] at h; simp [eqO] at h
    | some q =>
      refine ⟨q, rfl, fun i hi => ?_⟩
      rw [e] at h
      have h := Nat.eq_of_beq_eq_true (allB_at h i hi)
      have e2 : lstF ((List.range n).map q) i = q i := by unfold lstF; simp [hi]
      rw [e2] at h
      exact h
  · rw [if_neg hk1]
    have hb : ¬ Nat.blt (k + 1) (fct n) = true := fun z => hk1 (blt_lt z)
    rw [if_neg hb] at h
    cases e : nextP n (ord n k) with
    | none => rfl
    | some q => rw [e] at h; simp [eqO] at h
theorem ord_0_all : allB (fun n => allB (fun i => Nat.beq (ord (n + 1) 0 i) i) (n + 1)) 6 = true := by decide +kernel
theorem ord_0 {n i : Nat} (h6 : n ≤ 6) (hi : i < n) : ord n 0 i = i := by
  have h := allB_at ord_0_all (n - 1) (by omega)
  rw [show n - 1 + 1 = n by omega] at h
  exact Nat.eq_of_beq_eq_true (allB_at h i hi)
/-! the class goes to the next order -/
theorem nI_lt2 {a b : Nat} (ha : a < 2 ^ 31) (hb : b < 2 ^ 31) : nI a < nI b ↔ a < b := by
  rw [Int32.lt_iff_toInt_lt, nI_toInt ha, nI_toInt hb]; omega
theorem s_chg {r a b : Nat} {x y : Int32} {σ : SS} {post : SS → Prop} (hx : x = nI a) (hy : y = nI b) (ha : a < 6) (hb : b < 6) (h : post (o_wa σ (5, r, 0) (upd (upd (σ.1 (5, r, 0)) a (σ.1 (5, r, 0) b)) b (σ.1 (5, r, 0) a)))) : V_X4_changeSeats r x y σ post := by
  refine s_at5 a hx (show a < 6 from ha) (s_at5 b hy (show b < 6 from hb) (s_put5 a hx (show a < 6 from ha) (s_put5 b hy (show b < 6 from hb) ?_)))
  rw [o_wa_at, o_wa_wa]
  exact h
/-- seats p from place 0 to n of array f -/
def o_sit (f : Nat → Int32) (n : Nat) (p : Nat → Nat) : Prop := ∀ k, k < n → p k < n ∧ f k = nI (p k)
theorem o_sit.sw {f : Nat → Int32} {n : Nat} {p : Nat → Nat} (h : o_sit f n p) {a b : Nat} (ha : a < n) (hb : b < n) : o_sit (upd (upd f a (f b)) b (f a)) n (swF p a b) := by
  intro k hk
  unfold swF
  by_cases e : k = b
  · subst e; rw [if_pos rfl, upd_at]; exact h a ha
  · rw [if_neg e, upd_ne e]
    by_cases e2 : k = a
    · subst e2; rw [if_pos rfl, upd_at]; exact h b hb
    · rw [if_neg e2, upd_ne e2]; exact h k hk
theorem s_nextR {r n : Nat} {σ : SS} {post : Int32 → SS → Prop} (h6 : n ≤ 6) : ∀ (fu : Nat) {f : Nat → Int32} {p : Nat → Nat} {a b : Nat} {x y : Int32}, o_sit f n p → b < n → a ≤ n → b ≤ fu + a → x = nI a → y = nI b → (∀ f', o_sit f' n (revF fu p a b) → post 1 (o_wa σ (5, r, 0) f')) → ∃ m, LP_X4_sitInNextOrder_97 r post m (x, y) (o_wa σ (5, r, 0) f)
  | 0, f, p, a, b, x, y, hp, hb, han, hab, hx, hy, h => by
    subst hx hy
    exact ⟨1, br_t (nI_le (by omega) (by omega)) (h f hp)⟩
  | fu + 1, f, p, a, b, x, y, hp, hb, han, hab, hx, hy, h => by
    subst hx hy
    by_cases hlt : a < b
    · rw [revF, if_pos hlt] at h
      obtain ⟨m, hm⟩ := s_nextR (r := r) (σ := σ) (post := post) h6 fu (x := nI a + 1) (y := nI b + (-1)) (hp.sw (show a < n by omega) hb) (show b - 1 < n by omega) (show a + 1 ≤ n by omega) (by omega) (nI_1 a) (by rw [nI_m1]; obtain ⟨c, rfl⟩ : ∃ c, b = c + 1 := ⟨b - 1, by omega⟩; exact nI_pred c) h
      refine ⟨m + 1, br_f (nI_nle2 hlt (by omega)) (s_chg rfl rfl (by omega) (by omega) ?_)⟩
      rw [o_wa_at, o_wa_wa]
      exact hm
    · rw [revF, if_neg hlt] at h
      exact ⟨1, br_t (nI_le (by omega) (by omega)) (h f hp)⟩
theorem s_nextH {r n l : Nat} {σ : SS} {post : Int32 → SS → Prop} {p : Nat → Nat} {z : Int32} (h6 : n ≤ 6) (hs : o_sit (σ.1 (5, r, 0)) n p) (hl : l < n) : ∀ (j : Nat) {y : Int32}, j < n → y = nI j → VB_X4_sitInNextOrder_83 r post z (nI l) (nI (highF p l j)) σ → ∃ m, LP_X4_sitInNextOrder_53 r post m (z, nI l, y) σ
  | 0, y, hj, hy, h => by
    subst hy
    exact ⟨1, br_t (nI_le (by omega) (by omega)) h⟩
  | j + 1, y, hj, hy, h => by
    subst hy
    rw [highF] at h
    by_cases h1 : l < j + 1
    · by_cases h2 : p (j + 1) < p l
      · rw [if_pos ⟨h1, h2⟩] at h
        obtain ⟨m, hm⟩ := s_nextH (post := post) (z := z) h6 hs hl j (y := nI (j + 1) + (-1)) (by omega) (by rw [nI_m1]; exact nI_pred j) h
        refine ⟨m + 1, br_f (nI_nle2 h1 (by omega)) (s_at5 (j + 1) rfl (show j + 1 < 6 by omega) (s_at5 l rfl (show l < 6 by omega) ?_))⟩
        have a1 := hs (j + 1) hj
        have a2 := hs l hl
        rw [a1.2, a2.2]
        exact br_f (nI_nle2 h2 (by omega)) hm
      · rw [if_neg (fun q => h2 q.2)] at h
        refine ⟨1, br_f (nI_nle2 h1 (by omega)) (s_at5 (j + 1) rfl (show j + 1 < 6 by omega) (s_at5 l rfl (show l < 6 by omega) ?_))⟩
        have a1 := hs (j + 1) hj
        have a2 := hs l hl
        rw [a1.2, a2.2]
        exact br_t (nI_le (by omega) (by omega)) h
    · rw [if_neg (fun q => h1 q.1)] at h
      exact ⟨1, br_t (nI_le (by omega) (by omega)) h⟩
theorem s_nextL {r n : Nat} {σ : SS} {post : Int32 → SS → Prop} {p : Nat → Nat} {z : Int32} (h6 : n ≤ 6) (hs : o_sit (σ.1 (5, r, 0)) n p) : ∀ (j : Nat) {y : Int32}, j < n → y = nI j - 1 → ((lowF p j = none → post 0 σ) ∧ (∀ l, lowF p j = some l → VB_X4_sitInNextOrder_45 r post z (nI l) σ)) → ∃ m, LP_X4_sitInNextOrder_14 r post m (z, y) σ
  | 0, y, hj, hy, h => by
    subst hy
    exact ⟨1, br_t (show nI 0 - 1 < 0 by decide) (br_f (show ¬ (0 : Int32) ≤ nI 0 - 1 by decide) (h.1 rfl))⟩
  | j + 1, y, hj, hy, h => by
    subst hy
    rw [show nI (j + 1) - 1 = nI j from nI_pred j]
    have a1 := hs (j + 1) hj
    have a2 := hs j (by omega)
    by_cases h2 : p (j + 1) < p j
    · rw [lowF, if_pos h2] at h
      obtain ⟨m, hm⟩ := s_nextL (post := post) (z := z) h6 hs j (y := nI j + (-1)) (by omega) (nI_m1 j) h
      refine ⟨m + 1, br_f (nI_nneg (by omega)) (s_at5 j rfl (show j < 6 by omega) (s_at5 (j + 1) (nI_1 j) (show j + 1 < 6 by omega) ?_))⟩
      rw [a1.2, a2.2]
      exact br_f (nI_nle2 h2 (by omega)) hm
    · rw [lowF, if_neg h2] at h
      refine ⟨1, br_f (nI_nneg (by omega)) (s_at5 j rfl (show j < 6 by omega) (s_at5 (j + 1) (nI_1 j) (show j + 1 < 6 by omega) ?_))⟩
      rw [a1.2, a2.2]
      exact br_t (nI_le (by omega) (by omega)) (h.2 j rfl)
theorem lowF_lt {p : Nat → Nat} : ∀ {j l : Nat}, lowF p j = some l → l < j
  | j + 1, l, h => by
    rw [lowF] at h
    split at h
    · have := lowF_lt h; omega
    · cases h; omega
theorem highF_le {p : Nat → Nat} {l : Nat} : ∀ {j : Nat}, highF p l j ≤ j
  | 0 => by simp [highF]
  | j + 1 => by
    rw [highF]; split
    · have := highF_le (p := p) (l := l) (j := j); omega
    · omega
/-- to the next order, or not -/
theorem s_next {r n : Nat} {σ : SS} {post : Int32 → SS → Prop} {p : Nat → Nat} (h0 : 0 < n) (h6 : n ≤ 6) (hn : σ.1 (2, 0, 0) 7 = nI n) (hs : o_sit (σ.1 (5, r, 0)) n p)
    (h : (nextP n p = none → post 0 σ) ∧ (∀ q f, nextP n p = some q → o_sit f n q → post 1 (o_wa σ (5, r, 0) f))) : V_X4_sitInNextOrder r σ post := by
  refine s_size hn (nm_e ?_)
  obtain ⟨m, rfl⟩ : ∃ m, n = m + 1 := ⟨n - 1, by omega⟩
  rw [show nI (m + 1) - 1 = nI m from nI_pred m]
  refine s_nextL h6 hs m (by omega) rfl ⟨fun e => h.1 ?_, fun l e => ?_⟩
  · unfold nextP; rw [show m + 1 - 1 = m from rfl, e]
  · have hl := lowF_lt e
    refine br_t (nI_pos' (by omega)) ?_
    refine s_nextH h6 hs (by omega) m (by omega) rfl ?_
    have hh := highF_le (p := p) (l := l) (j := m)
    refine s_chg rfl rfl (by omega) (by omega) ?_
    refine s_nextR h6 (m + 1) (hs.sw (show l < m + 1 by omega) (show highF p l m < m + 1 by omega)) (by omega) (show l + 1 ≤ m + 1 by omega) (by omega) (nI_1 l) rfl ?_
    intro f' hf'
    refine h.2 _ _ ?_ hf'
    unfold nextP; rw [show m + 1 - 1 = m from rfl, e]
