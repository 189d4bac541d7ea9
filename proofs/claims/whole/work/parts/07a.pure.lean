/-! WHAT THE METHODS ANSWER, in plain words of numbers: s_.. : 'to show V_m post, show post of this answer and this state' -/
theorem o_len_le (i : OI) : o_len i ≤ 48 := by
  unfold o_len
  split <;> decide
theorem o_ar4 (r j : Nat) : o_ar (4, r, j) = (5, r, j) := rfl
theorem o_ar10 (r j : Nat) : o_ar (10, r, j) = (11, r, j) := rfl
theorem nI_lt31 {k n : Nat} (h : k < n) (hn : n ≤ 1000000) : k < 2 ^ 31 := by omega
theorem o_wr_wr (σ : SS) (i : OI) (k : Nat) (v : Int32) : o_wr σ i k v = o_wa σ i (upd (σ.1 i) k v) := rfl
theorem o_wa_2 (σ : SS) (i : OI) (f : Nat → Int32) : (o_wa σ i f).2 = σ.2 := rfl
theorem o_wa_wa (σ : SS) (i : OI) (f g : Nat → Int32) : o_wa (o_wa σ i f) i g = o_wa σ i g := by
  refine Prod.ext (funext fun j => ?_) rfl
  by_cases h : j = i <;> simp [o_wa, h]
theorem o_wa_comm (σ : SS) {i j : OI} (f g : Nat → Int32) (h : i ≠ j) : o_wa (o_wa σ i f) j g = o_wa (o_wa σ j g) i f := by
  refine Prod.ext (funext fun k => ?_) rfl
  by_cases h1 : k = i
  · subst h1; simp [o_wa, h]
  · by_cases h2 : k = j
    · subst h2; simp [o_wa, h1]
    · simp [o_wa, h1, h2]
theorem o_wa_id (σ : SS) (i : OI) : o_wa σ i (σ.1 i) = σ := by
  refine Prod.ext (funext fun j => ?_) rfl
  by_cases h : j = i
  · subst h; simp [o_wa]
  · simp [o_wa, h]
theorem o_wa_idf {σ : SS} {i : OI} {f : Nat → Int32} (h : σ.1 i = f) : o_wa σ i f = σ := by rw [← h]; exact o_wa_id σ i
theorem nI_nneg {k : Nat} (h : k < 2 ^ 31) : ¬ nI k < 0 := by
  rw [Int32.lt_iff_toInt_lt, nI_toInt h, Int32.toInt_zero]; omega
theorem nI_nle2 {a b : Nat} (h : a < b) (hb : b < 2 ^ 31) : ¬ nI b ≤ nI a := by
  rw [nI_leI hb (by omega)]; omega
/-- a loop that counts to N, its numbers and the state known at each count -/
theorem o_cnt {A : Type} {F : (A → SS → Prop) → A → SS → Prop} (N : Nat) (fa : Nat → A) (fs : Nat → SS) (hx : ∀ K, F K (fa N) (fs N)) (hs : ∀ K i, i < N → K (fa (i + 1)) (fs (i + 1)) → F K (fa i) (fs i)) {i0 : Nat} (hi : i0 ≤ N) {a : A} {σ : SS} (ha : a = fa i0) (hσ : σ = fs i0) : ∃ n, o_lp F n a σ := by
  subst ha; subst hσ
  have key : ∀ (d i : Nat), i + d = N → o_lp F (d + 1) (fa i) (fs i) := by
    intro d
    induction d with
    | zero => intro i h; have e : i = N := by omega
              subst e; exact hx _
    | succ d ih => intro i h; exact hs _ i (by omega) (ih (i + 1) (by omega))
  exact ⟨_, key (N - i0) i0 (by omega)⟩
/-- the same, by an invariant -/
theorem o_cntI {A : Type} {F : (A → SS → Prop) → A → SS → Prop} (N : Nat) (I : Nat → A → SS → Prop) (hx : ∀ K a σ, I N a σ → F K a σ) (hs : ∀ K i a σ, i < N → I i a σ → (∀ a' σ', I (i + 1) a' σ' → K a' σ') → F K a σ) {i0 : Nat} (hi : i0 ≤ N) {a : A} {σ : SS} (h : I i0 a σ) : ∃ n, o_lp F n a σ := by
  have key : ∀ (d i : Nat), i + d = N → ∀ a σ, I i a σ → o_lp F (d + 1) a σ := by
    intro d
    induction d with
    | zero => intro i e a σ h; have e : i = N := by omega
              subst e; exact hx _ a σ h
    | succ d ih => intro i e a σ h; exact hs _ i a σ (by omega) h (ih (i + 1) (by omega))
  exact ⟨_, key (N - i0) i0 (by omega) a σ h⟩
theorem o_Ke {A B : Type} {K : A → B → Prop} {a a' : A} {b b' : B} (h : K a b) (ha : a' = a) (hb : b' = b) : K a' b' := by subst ha; subst hb; exact h
-- Cells
theorem s_at {c : OI} {x : Int32} {σ : SS} {post : Int32 → SS → Prop} (k : Nat) (hx : x = nI k) (hk : k < o_len (o_ar c)) (h : post (σ.1 (o_ar c) k) σ) : V_X0_at c x σ post := by
  subst hx
  have h48 := o_len_le (o_ar c)
  unfold V_X0_at
  refine br_f (nI_nneg (by omega)) (br_f (nI_nle2 hk (by omega)) ⟨vp_in_nI hk (by omega), ?_⟩)
  unfold VB_X0_at_23
  rw [nI_clamp (by omega)]
  exact h
theorem s_at5 {r j : Nat} {x : Int32} {σ : SS} {post : Int32 → SS → Prop} (k : Nat) (hx : x = nI k) (hk : k < o_len (5, r, j)) (h : post (σ.1 (5, r, j) k) σ) : V_X0_at (4, r, j) x σ post := s_at k hx hk h
theorem s_at11 {r j : Nat} {x : Int32} {σ : SS} {post : Int32 → SS → Prop} (k : Nat) (hx : x = nI k) (hk : k < o_len (11, r, j)) (h : post (σ.1 (11, r, j) k) σ) : V_X0_at (10, r, j) x σ post := s_at k hx hk h
theorem s_put {c : OI} {x v : Int32} {σ : SS} {post : SS → Prop} (k : Nat) (hx : x = nI k) (hk : k < o_len (o_ar c)) (h : post (o_wa σ (o_ar c) (upd (σ.1 (o_ar c)) k v))) : V_X0_put c x v σ post := by
  subst hx
  have h48 := o_len_le (o_ar c)
  unfold V_X0_put
  refine br_f (nI_nneg (by omega)) (br_f (nI_nle2 hk (by omega)) ⟨vp_in_nI hk (by omega), ?_⟩)
  unfold VB_X0_put_20
  rw [nI_clamp (by omega)]
  exact h
theorem s_put5 {r j : Nat} {x v : Int32} {σ : SS} {post : SS → Prop} (k : Nat) (hx : x = nI k) (hk : k < o_len (5, r, j)) (h : post (o_wa σ (5, r, j) (upd (σ.1 (5, r, j)) k v))) : V_X0_put (4, r, j) x v σ post := s_put k hx hk h
theorem s_put11 {r j : Nat} {x v : Int32} {σ : SS} {post : SS → Prop} (k : Nat) (hx : x = nI k) (hk : k < o_len (11, r, j)) (h : post (o_wa σ (11, r, j) (upd (σ.1 (11, r, j)) k v))) : V_X0_put (10, r, j) x v σ post := s_put k hx hk h
/-- the first n places from g, the others as in f -/
def o_fill (n : Nat) (g f : Nat → Int32) : Nat → Int32 := fun k => if k < n then g k else f k
theorem o_fill_0 (g f : Nat → Int32) : o_fill 0 g f = f := by funext k; simp [o_fill]
theorem o_fill_1 (n : Nat) (g f : Nat → Int32) : upd (o_fill n g f) n (g n) = o_fill (n + 1) g f := by
  funext k
  unfold upd o_fill
  by_cases h : k = n
  · subst h; simp
  · simp only [h, if_false]
    by_cases h2 : k < n
    · simp [h2, show k < n + 1 by omega]
    · simp [h2, show ¬ k < n + 1 by omega]
theorem s_putAll {c : OI} {x : Int32} {σ : SS} {post : SS → Prop} (h : post (o_wa σ (o_ar c) (o_fill (o_len (o_ar c)) (fun _ => x) (σ.1 (o_ar c))))) : V_X0_putAll c x σ post := by
  have h48 := o_len_le (o_ar c)
  refine o_cnt (o_len (o_ar c)) (fun i => (x, nI i)) (fun i => o_wa σ (o_ar c) (o_fill i (fun _ => x) (σ.1 (o_ar c)))) (fun K => br_t (nI_le (Nat.le_refl _) (by omega)) h) (fun K i hi hK => ?_) (Nat.zero_le _) rfl (by rw [o_fill_0, o_wa_id])
  refine br_f (nI_nle2 hi (by omega)) ⟨vp_in_nI hi (by omega), o_Ke hK (by simp only [nI_1]) ?_⟩
  rw [nI_clamp (by omega), o_wr_wr, o_wa_at, o_wa_wa, o_fill_1 i (fun _ => x)]
theorem s_copyC {c c2 : OI} {σ : SS} {post : SS → Prop} (hne : o_ar c2 ≠ o_ar c) (hl : o_len (o_ar c2) = o_len (o_ar c)) (h : post (o_wa σ (o_ar c) (o_fill (o_len (o_ar c)) (σ.1 (o_ar c2)) (σ.1 (o_ar c))))) : V_X0_copyFrom c c2 σ post := by
  have h48 := o_len_le (o_ar c)
  refine o_cnt (o_len (o_ar c)) (fun i => nI i) (fun i => o_wa σ (o_ar c) (o_fill i (σ.1 (o_ar c2)) (σ.1 (o_ar c)))) (fun K => br_t (nI_le (Nat.le_refl _) (by omega)) h) (fun K i hi hK => ?_) (Nat.zero_le _) rfl (by rw [o_fill_0, o_wa_id])
  refine br_f (nI_nle2 hi (by omega)) (s_at i rfl (by omega) ⟨vp_in_nI hi (by omega), o_Ke hK (nI_1 i) ?_⟩)
  rw [nI_clamp (by omega), o_wr_wr, o_wa_at, o_wa_wa, o_wa_ne _ _ hne, o_fill_1]
/-- sums, as the machine adds them -/
def o_sum (f : Nat → Int32) : Nat → Int32
  | 0 => 0
  | n + 1 => o_sum f n + f n
theorem s_sum {c : OI} {σ : SS} {post : Int32 → SS → Prop} (h : post (o_sum (σ.1 (o_ar c)) (o_len (o_ar c))) σ) : V_X0_sum c σ post := by
  have h48 := o_len_le (o_ar c)
  refine o_cnt (o_len (o_ar c)) (fun i => (o_sum (σ.1 (o_ar c)) i, nI i)) (fun _ => σ) (fun K => br_t (nI_le (Nat.le_refl _) (by omega)) h) (fun K i hi hK => ?_) (Nat.zero_le _) rfl rfl
  refine br_f (nI_nle2 hi (by omega)) ⟨vp_in_nI hi (by omega), fun y e => o_Ke hK ?_ rfl⟩
  rw [e, nI_clamp (by omega), nI_1]; rfl
/-- how many bits: the machine's own count -/
def o_bc (x : Int32) : Int32 :=
  let a := x - ((x.toUInt32 >>> ((1 : Int32).toUInt32 &&& Int32.toUInt32 31)).toInt32 &&& 1431655765)
  let b := (a &&& 858993459) + ((a.toUInt32 >>> ((2 : Int32).toUInt32 &&& Int32.toUInt32 31)).toInt32 &&& 858993459)
  let c := (b + (b.toUInt32 >>> ((4 : Int32).toUInt32 &&& Int32.toUInt32 31)).toInt32) &&& 252645135
  let d := c + (c.toUInt32 >>> ((8 : Int32).toUInt32 &&& Int32.toUInt32 31)).toInt32
  let e := d + (d.toUInt32 >>> ((16 : Int32).toUInt32 &&& Int32.toUInt32 31)).toInt32
  e &&& 63
theorem s_bc {x : Int32} {σ : SS} {post : Int32 → SS → Prop} (h : post (o_bc x) σ) : V_J6_bitCount_0f7a4 x σ post := by
  intro a ea b eb c ec d ed e ee
  subst ea eb ec ed ee
  exact h
theorem s_sumBits {c : OI} {σ : SS} {post : Int32 → SS → Prop} (h : post (o_sum (fun k => o_bc (σ.1 (o_ar c) k)) (o_len (o_ar c))) σ) : V_X0_sumOfBits c σ post := by
  have h48 := o_len_le (o_ar c)
  refine o_cnt (o_len (o_ar c)) (fun i => (o_sum (fun k => o_bc (σ.1 (o_ar c) k)) i, nI i)) (fun _ => σ) (fun K => br_t (nI_le (Nat.le_refl _) (by omega)) h) (fun K i hi hK => ?_) (Nat.zero_le _) rfl rfl
  refine br_f (nI_nle2 hi (by omega)) ⟨vp_in_nI hi (by omega), s_bc (o_Ke hK ?_ rfl)⟩
  rw [nI_clamp (by omega), nI_1]; rfl
