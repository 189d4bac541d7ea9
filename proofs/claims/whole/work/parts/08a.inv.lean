/-! THE TWO SIDES' STATES BELONG TOGETHER -/
def OkP (v : Int32) : Prop := ∃ x : Nat, x ≤ 100 ∧ v = nI x
def OkW (v : Int32) : Prop := ∃ x : Nat, x < 64 ∧ v = nI x
/-- seats p of n children: a row of all of them -/
def o_perm (n : Nat) (p : Nat → Nat) : Prop := (∀ k, k < n → p k < n) ∧ ∀ c, c < n → ∃ k, k < n ∧ p k = c
def RowRel (n : Nat) (seat seatOf pX pM wX wM tX tM : Nat → Int32) (iX : Int32) (iM : Nat → Int32) : Prop :=
  (∃ p : Nat → Nat, o_perm n p ∧ ∀ k, k < n → seat k = nI (p k) ∧ seatOf (p k) = nI k) ∧
  (∀ k, k < 24 → OkP (pX k) ∧ pM k = pX k ∧ OkW (wX k) ∧ wM k = wX k ∧ (4 * n ≤ k → pX k = 0 ∧ wX k = 0)) ∧
  (∀ c, c < n → tM c = tX c ∧ (tX c = -1 ∨ tX c = 0 ∨ tX c = 1)) ∧
  (∃ il : Nat, il < 2 ^ n ∧ iX = nI il ∧ ∀ c, c < n → iM c = nI (il / 2 ^ c % 2))
def InvS (σ : SS) (n : Nat) (kd dg : Nat → Nat) : Prop :=
  n ≤ 6 ∧ σ.1 (2, 0, 0) 7 = nI n ∧ σ.1 (7, 0, 0) 4 = nI n ∧ (∀ k, k < 6 → dg k ≤ 9 ∧ σ.1 (11, 0, 1) k = nI (dg k)) ∧ σ.1 (7, 0, 0) 1 = nI (dg 0) ∧ σ.1 (7, 0, 0) 2 = nI (dg 1) ∧ (∀ k, k < 4 → σ.1 (8, 0, 0) k = nI (dg (2 + k))) ∧ (∀ c, c < n → kd c < 5 ∧ σ.1 (11, 0, 2) c = nI (kd c) ∧ σ.1 (8, 0, 1) c = nI (kd c))
def InvP (σ : SS) (L : Nat) : Prop := L ≤ 14 ∧ σ.1 (1, 0, 0) 1 = nI L ∧ σ.1 (7, 0, 0) 12 = nI L ∧ ∀ k, k < L → σ.1 (11, 0, 0) k = σ.1 (8, 0, 8) k ∧ ∃ c : Nat, c ≤ 126 ∧ σ.1 (8, 0, 8) k = nI c
def InvN (σ : SS) (n : Nat) : Prop := RowRel n (σ.1 (5, 0, 0)) (σ.1 (8, 0, 2)) (σ.1 (5, 0, 1)) (σ.1 (8, 0, 5)) (σ.1 (5, 0, 2)) (σ.1 (8, 0, 6)) (σ.1 (5, 0, 3)) (σ.1 (8, 0, 4)) (σ.1 (3, 0, 0) 5) (σ.1 (8, 0, 3)) ∧ ∀ k, k < n → σ.1 (8, 0, 7) k = σ.1 (5, 0, 0) k
def InvK (σ : SS) (n sc : Nat) : Prop := σ.1 (0, 0, 0) 8 = nI sc ∧ σ.1 (7, 0, 0) 0 = nI sc ∧
  ((σ.1 (0, 0, 0) 6 = 0 ∧ (σ.1 (7, 0, 0) 17 = 0 ∨ (σ.1 (7, 0, 0) 17 = 1 ∧ ∃ ks, ks < sc ∧ σ.1 (7, 0, 0) 18 = nI ks))) ∨
   (σ.1 (0, 0, 0) 6 = 1 ∧ 0 < n ∧ σ.1 (7, 0, 0) 17 = 1 ∧ σ.1 (7, 0, 0) 18 = nI sc ∧ RowRel n (σ.1 (5, 1, 0)) (σ.1 (8, 0, 9)) (σ.1 (5, 1, 1)) (σ.1 (8, 0, 12)) (σ.1 (5, 1, 2)) (σ.1 (8, 0, 13)) (σ.1 (5, 1, 3)) (σ.1 (8, 0, 11)) (σ.1 (3, 1, 0) 5) (σ.1 (8, 0, 10))))
/-! the orders of n children by numbers: the k-th -/
def fct : Nat → Nat
  | 0 => 1
  | n + 1 => (n + 1) * fct n
/-- the j-th of the children not used, from c on -/
def frF : Nat → Nat → Nat → Nat → Option Nat
  | 0, _, _, _ => none
  | f + 1, u, c, j => if u / 2 ^ c % 2 = 1 then frF f u (c + 1) j else if j = 0 then some c else frF f u (c + 1) (j - 1)
/-- m children yet to seat, u used, in 'left' of the size many orders -/
def stF : Nat → Nat → Nat → Nat → Option (List Nat)
  | 0, _, _, _ => some []
  | m + 1, u, sz, left => match frF 8 u 0 (left / (sz / (m + 1))) with
    | none => none
    | some c => (stF m (u + 2 ^ c) (sz / (m + 1)) (left % (sz / (m + 1)))).map (fun l => c :: l)
def ordL (n k : Nat) : List Nat := (stF n 0 (fct n) k).getD []
def ord (n k : Nat) : Nat → Nat := fun i => (ordL n k).getD i 0
/-- the lesson from nothing in order k: parts and bits of who sits last -/
def les0 (kd : Nat → Nat) (lo : Int32) (n : Nat) (p : Nat → Nat) : tS := t_les kd lo 0 0 p (fun _ => false) n (fun _ => 0) (fun _ => 0)
def bestP (kd : Nat → Nat) (lo : Int32) (n k : Nat) : Int32 := (les0 kd lo n (ord n k)).1 (4 * ord n k (n - 1))
def bestW (kd : Nat → Nat) (lo : Int32) (n k : Nat) : Int32 := (les0 kd lo n (ord n k)).2.1 (4 * ord n k (n - 1))
/-- the best of the first k + 1 orders -/
def bestK (kd : Nat → Nat) (lo : Int32) (n : Nat) : Nat → Nat
  | 0 => 0
  | k + 1 => let b := bestK kd lo n k; if bestP kd lo n b < bestP kd lo n (k + 1) ∨ (bestP kd lo n (k + 1) = bestP kd lo n b ∧ o_bc (bestW kd lo n (k + 1)) < o_bc (bestW kd lo n b)) then k + 1 else b
def InvB (σ : SS) (n : Nat) (kd : Nat → Nat) (lo : Int32) : Prop := σ.1 (0, 0, 0) 7 = 0 ∨ (σ.1 (0, 0, 0) 7 = 1 ∧ 0 < n ∧ (∀ k, k < n → σ.1 (5, 3, 0) k = nI (ord n (bestK kd lo n (fct n - 1)) k)) ∧ σ.1 (5, 3, 1) (4 * ord n (bestK kd lo n (fct n - 1)) (n - 1)) = bestP kd lo n (bestK kd lo n (fct n - 1)) ∧ σ.1 (5, 3, 2) (4 * ord n (bestK kd lo n (fct n - 1)) (n - 1)) = bestW kd lo n (bestK kd lo n (fct n - 1)))
def Inv (N : Nat) (σ : SS) : Prop := ∃ (n L sc : Nat) (kd dg : Nat → Nat), sc ≤ N ∧ InvS σ n kd dg ∧ InvP σ L ∧ InvN σ n ∧ InvK σ n sc ∧ InvB σ n kd (nI (dg 0))
/-- a call on both sides: like answers, and the states belong together again -/
def Op (VX VM : SS → (Int32 → SS → Prop) → Prop) : Prop := ∀ (N : Nat) (σ : SS), Inv N σ → ∀ (Nx Bd : SS → Prop), (∀ σ', Inv (N + 1) σ' → Nx σ') → VX σ (fun v s => VM s (fun v' s' => (v = v' → Nx s') ∧ (¬ v = v' → Bd s')))
theorem Inv.up {N : Nat} {σ : SS} (h : Inv N σ) : Inv (N + 1) σ := by
  obtain ⟨n, L, sc, kd, dg, h1, h2⟩ := h
  exact ⟨n, L, sc, kd, dg, by omega, h2⟩
/-! what Inv reads of a state -/
def Same (σ σ' : SS) : Prop := (∀ i : OI, i ∈ [((0,0,0) : OI), (1,0,0), (2,0,0), (3,0,0), (3,1,0), (5,0,0), (5,0,1), (5,0,2), (5,0,3), (5,1,0), (5,1,1), (5,1,2), (5,1,3), (5,3,0), (5,3,1), (5,3,2), (11,0,0), (11,0,1), (11,0,2), (8,0,0), (8,0,1), (8,0,2), (8,0,3), (8,0,4), (8,0,8), (8,0,9), (8,0,10), (8,0,11), (8,0,12), (8,0,13)] → σ'.1 i = σ.1 i) ∧
  (∀ k, k ≠ 14 → k ≠ 15 → σ'.1 (7, 0, 0) k = σ.1 (7, 0, 0) k) ∧ (∀ k, k < 24 → σ'.1 (8, 0, 5) k = σ.1 (8, 0, 5) k ∧ σ'.1 (8, 0, 6) k = σ.1 (8, 0, 6) k) ∧ (∀ k, k < 6 → σ'.1 (8, 0, 7) k = σ.1 (8, 0, 7) k)
theorem Same.rf (σ : SS) : Same σ σ := ⟨fun _ _ => rfl, fun _ _ _ => rfl, fun _ _ => ⟨rfl, rfl⟩, fun _ _ => rfl⟩
theorem Same.tr {a b c : SS} (h : Same a b) (g : Same b c) : Same a c :=
  ⟨fun i hi => (g.1 i hi).trans (h.1 i hi), fun k h1 h2 => (g.2.1 k h1 h2).trans (h.2.1 k h1 h2), fun k hk => ⟨(g.2.2.1 k hk).1.trans (h.2.2.1 k hk).1, (g.2.2.1 k hk).2.trans (h.2.2.1 k hk).2⟩, fun k hk => (g.2.2.2 k hk).trans (h.2.2.2 k hk)⟩
theorem RowRel.pM {n : Nat} {a b c d e f g h i j : _} {d' f' : Nat → Int32} (H : RowRel n a b c d e f g h i j) (hd : ∀ k, k < 24 → d' k = d k ∧ f' k = f k) : RowRel n a b c d' e f' g h i j := by
  obtain ⟨h1, h2, h3⟩ := H
  exact ⟨h1, fun k hk => ⟨(h2 k hk).1, (hd k hk).1.trans (h2 k hk).2.1, (h2 k hk).2.2.1, (hd k hk).2.trans (h2 k hk).2.2.2.1, (h2 k hk).2.2.2.2⟩, h3⟩
theorem Inv.same {N : Nat} {σ σ' : SS} (hs : Same σ σ') (h : Inv N σ) : Inv N σ' := by
  obtain ⟨n, L, sc, kd, dg, h0, hS, hP, hN, hK, hB⟩ := h
  obtain ⟨g1, g2, g3, g4⟩ := hs
  have G : ∀ i : OI, i ∈ _ → σ'.1 i = σ.1 i := g1
  refine ⟨n, L, sc, kd, dg, h0, ?_, ?_, ?_, ?_, ?_⟩
  · unfold InvS at *
    rw [G (2,0,0) (by decide), g2 4 (by decide) (by decide), G (11,0,1) (by decide), g2 1 (by decide) (by decide), g2 2 (by decide) (by decide), G (8,0,0) (by decide), G (11,0,2) (by decide), G (8,0,1) (by decide)]
    exact hS
  · unfold InvP at *
    rw [G (1,0,0) (by decide), g2 12 (by decide) (by decide), G (11,0,0) (by decide), G (8,0,8) (by decide)]
    exact hP
  · have h6 := hS.1
    unfold InvN at *
    rw [G (5,0,0) (by decide), G (8,0,2) (by decide), G (5,0,1) (by decide), G (5,0,2) (by decide), G (5,0,3) (by decide), G (8,0,4) (by decide), G (3,0,0) (by decide), G (8,0,3) (by decide)]
    exact ⟨hN.1.pM g3, fun k hk => (g4 k (by omega)).trans (hN.2 k hk)⟩
  · unfold InvK at *
    rw [G (0,0,0) (by decide), g2 0 (by decide) (by decide), g2 17 (by decide) (by decide), g2 18 (by decide) (by decide), G (5,1,0) (by decide), G (8,0,9) (by decide), G (5,1,1) (by decide), G (8,0,12) (by decide), G (5,1,2) (by decide), G (8,0,13) (by decide), G (5,1,3) (by decide), G (8,0,11) (by decide), G (3,1,0) (by decide), G (8,0,10) (by decide)]
    exact hK
  · unfold InvB at *
    rw [G (0,0,0) (by decide), G (5,3,0) (by decide), G (5,3,1) (by decide), G (5,3,2) (by decide)]
    exact hB
/-! the guards -/
theorem s_chX {n c : Nat} {x : Int32} {σ : SS} {post : Int32 → SS → Prop} (hn : σ.1 (2, 0, 0) 7 = nI n) (h6 : n ≤ 6) (hx : x = nI c) (hc : c < n) (h : post 1 σ) : V_X9_isChild x σ post := by
  subst hx
  refine br_f (nI_nneg (by omega)) (s_size hn (br_f (nI_nle2 hc (by omega)) ⟨Or.inr rfl, h⟩))
theorem s_chXf {n : Nat} {x : Int32} {σ : SS} {post : Int32 → SS → Prop} (hn : σ.1 (2, 0, 0) 7 = nI n) (hx : x < 0 ∨ nI n ≤ x) (h : post 0 σ) : V_X9_isChild x σ post := by
  by_cases z : x < 0
  · exact br_t z ⟨Or.inl rfl, h⟩
  · exact br_f z (s_size hn (br_t (hx.resolve_left z) ⟨Or.inl rfl, h⟩))
theorem s_chM {n c : Nat} {x : Int32} {σ : SS} {post : Int32 → SS → Prop} (hn : σ.1 (7, 0, 0) 4 = nI n) (h6 : n ≤ 6) (hx : x = nI c) (hc : c < n) (h : post 1 σ) : V_X10_isChild x σ post := by
  subst hx
  refine s_within ?_
  rw [hn, show (1 : Int32) = nI 1 from rfl, pk_sub (by omega), if_pos ⟨nI_pos' (by omega), nI_le (by omega) (by omega)⟩]
  exact ⟨Or.inr rfl, h⟩
theorem s_chMf {n : Nat} {x : Int32} {σ : SS} {post : Int32 → SS → Prop} (hn : σ.1 (7, 0, 0) 4 = nI n) (h6 : n ≤ 6) (hx : x < 0 ∨ nI n ≤ x) (h : post 0 σ) : V_X10_isChild x σ post := by
  refine s_within ?_
  rw [hn, if_neg]
  · exact ⟨Or.inl rfl, h⟩
  · rintro ⟨a, b⟩
    rcases hx with z | z
    · exact Int32.not_le.mpr z a
    · rw [Int32.le_iff_toInt_le] at a b z
      rw [show (1 : Int32) = nI 1 from rfl, pk_sub_toInt (by omega) (by omega)] at b
      rw [nI_toInt (by omega)] at z
      omega
theorem s_sbX {s : Nat} {x : Int32} {σ : SS} {post : Int32 → SS → Prop} (hx : x = nI s) (hs : s < 4) (h : post 1 σ) : V_X9_isSubject x σ post := by
  subst hx
  exact br_f (nI_nneg (by omega)) (br_f (nI_nle2 (b := 4) hs (by omega)) ⟨Or.inr rfl, h⟩)
theorem s_sbXf {x : Int32} {σ : SS} {post : Int32 → SS → Prop} (hx : x < 0 ∨ nI 4 ≤ x) (h : post 0 σ) : V_X9_isSubject x σ post := by
  by_cases z : x < 0
  · exact br_t z ⟨Or.inl rfl, h⟩
  · exact br_f z (br_t (hx.resolve_left z) ⟨Or.inl rfl, h⟩)
theorem s_sbM {s : Nat} {x : Int32} {σ : SS} {post : Int32 → SS → Prop} (hx : x = nI s) (hs : s < 4) (h : post 1 σ) : V_X10_isSubject x σ post := by
  subst hx
  refine s_within ?_
  rw [if_pos ⟨nI_pos' (by omega), nI_le (b := 3) (by omega) (by omega)⟩]
  exact ⟨Or.inr rfl, h⟩
theorem s_sbMf {x : Int32} {σ : SS} {post : Int32 → SS → Prop} (hx : x < 0 ∨ nI 4 ≤ x) (h : post 0 σ) : V_X10_isSubject x σ post := by
  refine s_within ?_
  rw [if_neg]
  · exact ⟨Or.inl rfl, h⟩
  · rintro ⟨a, b⟩
    rcases hx with z | z
    · exact Int32.not_le.mpr z a
    · have := Int32.le_trans z b
      exact absurd this (by decide)
theorem s_eiX {x : Int32} {σ : SS} {post : Int32 → SS → Prop} (h : post (if x = 0 ∨ x = 1 then 1 else 0) σ) : V_X9_isEither x σ post := by
  refine ⟨fun z => ⟨Or.inr rfl, ?_⟩, fun z => ⟨fun z2 => ⟨Or.inl rfl, ?_⟩, fun z2 => ⟨Or.inr rfl, ?_⟩⟩⟩
  · rw [if_pos (Or.inl z)] at h; exact h
  · rw [if_neg (by simp [z, z2])] at h; exact h
  · rw [if_pos (Or.inr z2)] at h; exact h
theorem le01 (x : Int32) : (0 ≤ x ∧ x ≤ 1) ↔ (x = 0 ∨ x = 1) := by
  constructor
  · rintro ⟨a, b⟩
    rw [Int32.le_iff_toInt_le] at a b
    have h0 : (0 : Int32).toInt = 0 := by decide
    have h1 : (1 : Int32).toInt = 1 := by decide
    rw [h0] at a; rw [h1] at b
    rcases (show x.toInt = 0 ∨ x.toInt = 1 by omega) with q | q
    · exact Or.inl (Int32.toInt_inj.mp (q.trans h0.symm))
    · exact Or.inr (Int32.toInt_inj.mp (q.trans h1.symm))
  · rintro (rfl | rfl) <;> decide
theorem s_w01 {x : Int32} {σ : SS} {post : Int32 → SS → Prop} (h : post (if x = 0 ∨ x = 1 then 1 else 0) σ) : V_X10_within x 0 1 σ post := by
  refine s_within ?_
  by_cases z : x = 0 ∨ x = 1
  · rw [if_pos z] at h; rw [if_pos ((le01 x).mpr z)]; exact h
  · rw [if_neg z] at h; rw [if_neg (fun q => z ((le01 x).mp q))]; exact h
