/-! all that questions read, by numbers that are the same on both sides -/
def Fx (n : Nat) (p : Nat → Nat) (P W : Nat → Int32) (il : Nat) (tl : Nat → Int32) (σ : SS) : Prop := (o_sit (σ.1 (5, 0, 0)) n p) ∧ (∀ k, k < n → σ.1 (8, 0, 7) k = nI (p k)) ∧ (TX 0 σ P W) ∧ (TM 0 σ P W) ∧ (σ.1 (3, 0, 0) 5 = nI il) ∧ (∀ c, c < n → σ.1 (8, 0, 3) c = nI (il / 2 ^ c % 2)) ∧ (∀ c, c < n → σ.1 (5, 0, 3) c = tl c) ∧ (∀ c, c < n → σ.1 (8, 0, 4) c = tl c)
theorem Fx.se {n : Nat} {p : Nat → Nat} {P W : Nat → Int32} {il : Nat} {tl : Nat → Int32} {σ : SS} (h : Fx n p P W il tl σ) : o_sit (σ.1 (5, 0, 0)) n p := h.1
theorem Fx.sm {n : Nat} {p : Nat → Nat} {P W : Nat → Int32} {il : Nat} {tl : Nat → Int32} {σ : SS} (h : Fx n p P W il tl σ) : ∀ k, k < n → σ.1 (8, 0, 7) k = nI (p k) := h.2.1
theorem Fx.tx {n : Nat} {p : Nat → Nat} {P W : Nat → Int32} {il : Nat} {tl : Nat → Int32} {σ : SS} (h : Fx n p P W il tl σ) : TX 0 σ P W := h.2.2.1
theorem Fx.tm {n : Nat} {p : Nat → Nat} {P W : Nat → Int32} {il : Nat} {tl : Nat → Int32} {σ : SS} (h : Fx n p P W il tl σ) : TM 0 σ P W := h.2.2.2.1
theorem Fx.ix {n : Nat} {p : Nat → Nat} {P W : Nat → Int32} {il : Nat} {tl : Nat → Int32} {σ : SS} (h : Fx n p P W il tl σ) : σ.1 (3, 0, 0) 5 = nI il := h.2.2.2.2.1
theorem Fx.im {n : Nat} {p : Nat → Nat} {P W : Nat → Int32} {il : Nat} {tl : Nat → Int32} {σ : SS} (h : Fx n p P W il tl σ) : ∀ c, c < n → σ.1 (8, 0, 3) c = nI (il / 2 ^ c % 2) := h.2.2.2.2.2.1
theorem Fx.lx {n : Nat} {p : Nat → Nat} {P W : Nat → Int32} {il : Nat} {tl : Nat → Int32} {σ : SS} (h : Fx n p P W il tl σ) : ∀ c, c < n → σ.1 (5, 0, 3) c = tl c := h.2.2.2.2.2.2.1
theorem Fx.lm {n : Nat} {p : Nat → Nat} {P W : Nat → Int32} {il : Nat} {tl : Nat → Int32} {σ : SS} (h : Fx n p P W il tl σ) : ∀ c, c < n → σ.1 (8, 0, 4) c = tl c := h.2.2.2.2.2.2.2
theorem Dat.fx {σ0 : SS} {n L sc : Nat} {kd dg : Nat → Nat} (hd : Dat σ0 n L sc kd dg) : ∃ (p : Nat → Nat) (P W : Nat → Int32) (il : Nat) (tl : Nat → Int32), o_perm n p ∧ Gd n P W ∧ il < 2 ^ n ∧ (∀ c, c < n → tl c = -1 ∨ tl c = 0 ∨ tl c = 1) ∧ ∀ σ, Sv σ0 σ → Fx n p P W il tl σ := by
  obtain ⟨h6, -⟩ := hd.1
  obtain ⟨⟨⟨p, hp, hs⟩, hpw, htd, il, hil, hiX, hiM⟩, hse⟩ := hd.2.2.1
  refine ⟨p, fun k => if k < 24 then σ0.1 (5, 0, 1) k else 0, fun k => if k < 24 then σ0.1 (5, 0, 2) k else 0, il, σ0.1 (5, 0, 3), hp, fun k => ?_, hil, fun c hc => (htd c hc).2, fun σ hσ => ?_⟩
  · by_cases hk : k < 24
    · simp only [if_pos hk]
      exact ⟨(hpw k hk).1, (hpw k hk).2.2.1, (hpw k hk).2.2.2.2⟩
    · simp only [if_neg hk]
      exact ⟨okP_0, okW_0, fun _ => ⟨trivial, trivial⟩⟩
  · refine ⟨fun k hk => ?_, fun k hk => ?_, fun k hk => ?_, fun k hk => ?_, ?_, fun c hc => ?_, fun c hc => ?_, fun c hc => ?_⟩
    · rw [hσ.1 _ (by decide)]; exact ⟨hp.1 k hk, (hs k hk).1⟩
    · rw [hσ.2.2.2.1 k (by omega), hse k hk]; exact (hs k hk).1
    · rw [hσ.1 (5, 0, 1) (by decide), hσ.1 (5, 0, 2) (by decide), Nat.zero_add]; exact ⟨(if_pos hk).symm, (if_pos hk).symm⟩
    · rw [Nat.zero_add, (hσ.2.2.1 k hk).1, (hσ.2.2.1 k hk).2]; exact ⟨((hpw k hk).2.1).trans (if_pos hk).symm, ((hpw k hk).2.2.2.1).trans (if_pos hk).symm⟩
    · rw [hσ.1 _ (by decide)]; exact hiX
    · rw [hσ.1 _ (by decide)]; exact hiM c hc
    · rw [hσ.1 _ (by decide)]
    · rw [hσ.1 _ (by decide)]; exact (htd c hc).1
/-- who is ill, of the bits il -/
def ilB (il : Nat) : Nat → Bool := fun c => decide (il / 2 ^ c % 2 = 1)
theorem ills_B {σ : SS} {r n il : Nat} (h6 : n ≤ 6) (hil : il < 64) (h : σ.1 (3, r, 0) 5 = nI il) : o_ills σ r n (ilB il) := fun c hc => by
  rw [h, o_bit_nI il hil c (by omega)]
  unfold ilB
  rcases Nat.mod_two_eq_zero_or_one (il / 2 ^ c) with e | e <;> rw [e] <;> rfl
theorem illB_B {n il : Nat} (h6 : n ≤ 6) (hil : il < 64) : o_illB (nI il) n (ilB il) := fun c hc => by
  rw [bit_nI il hil c (by omega)]
  unfold ilB
  rcases Nat.mod_two_eq_zero_or_one (il / 2 ^ c) with e | e <;> rw [e] <;> rfl
/-- row 2 like row 0 -/
theorem s_copy2 {n : Nat} {p : Nat → Nat} {P W : Nat → Int32} {il : Nat} {tl : Nat → Int32} {σ : SS} {post : SS → Prop} (h6 : n ≤ 6) (hf : Fx n p P W il tl σ) (h : ∀ s, RowV 2 σ s → o_sit (s.1 (5, 2, 0)) n p → TX 2 s P W → s.1 (3, 2, 0) 5 = nI il → (∀ c, c < n → s.1 (5, 2, 3) c = tl c) → post s) : V_X4_copyFrom 2 0 σ post := by
  refine s_copyR (by decide) (fun s hv c0 c1 c3 c5 => h s hv (fun k hk => ?_) (fun k hk => ?_) (by rw [c5]; exact hf.ix) (fun c hc => by rw [c3 c (by omega)]; exact hf.lx c hc))
  · rw [c0 k (by omega)]; exact hf.se k hk
  · have := hf.tx k hk
    rw [Nat.zero_add] at this ⊢
    rw [(c1 k hk).1, (c1 k hk).2]; exact this
/-- the seats to try in like those now -/
def c6F (f : Nat → Int32) (i : Nat) : Nat → Int32 := fun k => if 6 ≤ k ∧ k < 6 + i then f (k - 6) else f k
theorem c6F_0 (f : Nat → Int32) : c6F f 0 = f := by funext k; unfold c6F; rw [if_neg (by omega)]
theorem c6F_lo {f : Nat → Int32} {i k : Nat} (h : k < 6) : c6F f i k = f k := by unfold c6F; rw [if_neg (by omega)]
theorem c6F_hi {f : Nat → Int32} {i k : Nat} (h : k < i) : c6F f i (6 + k) = f k := by unfold c6F; rw [if_pos (by omega), show 6 + k - 6 = k by omega]
theorem c6F_1 (f : Nat → Int32) (i : Nat) : upd (c6F f i) (6 + i) (f i) = c6F f (i + 1) := by
  funext k
  unfold upd c6F
  by_cases e : k = 6 + i
  · rw [if_pos e, if_pos (by omega), e, show 6 + i - 6 = i by omega]
  · rw [if_neg e]
    by_cases h2 : 6 ≤ k ∧ k < 6 + i
    · rw [if_pos h2, if_pos (by omega)]
    · rw [if_neg h2, if_neg (by omega)]
/-! the songs: what all know after each -/
def sgF (kd : Nat → Nat) (lo : Int32) (p : Nat → Nat) (ill : Nat → Bool) (n : Nat) (P W : Nat → Int32) (songs : Nat) : Nat → (Nat → Int32) × (Nat → Int32)
  | 0 => (P, W)
  | m + 1 => ((t_les kd lo (nI (songs / 2 ^ m % 2)) m p ill n (sgF kd lo p ill n P W songs m).1 (sgF kd lo p ill n P W songs m).2).1, (t_les kd lo (nI (songs / 2 ^ m % 2)) m p ill n (sgF kd lo p ill n P W songs m).1 (sgF kd lo p ill n P W songs m).2).2.1)
theorem sgF_ok {n : Nat} {kd : Nat → Nat} {lo : Int32} {p : Nat → Nat} {ill : Nat → Bool} {P W : Nat → Int32} {songs : Nat} (h6 : n ≤ 6) (hp : ∀ k, k < n → p k < n) (hlo : ∃ d : Nat, d ≤ 9 ∧ lo = nI d) (h : Gd n P W) : ∀ m, m ≤ 4 → Gd n (sgF kd lo p ill n P W songs m).1 (sgF kd lo p ill n P W songs m).2
  | 0, _ => h
  | m + 1, hm => (sgF_ok h6 hp hlo h m (by omega)).les h6 hp (by omega) hlo
def sgV (kd : Nat → Nat) (lo : Int32) (p : Nat → Nat) (ill : Nat → Bool) (n : Nat) (P W : Nat → Int32) (songs : Nat) : Int32 := o_sum (sgF kd lo p ill n P W songs 4).1 24
theorem bit16 : ∀ songs, songs < 16 → ∀ c, c < 6 → (if (nI songs >>> (nI c &&& 31)) &&& 1 = 1 then (1 : Int32) else 0) = nI (songs / 2 ^ c % 2) := by decide +kernel
theorem x_sung {n : Nat} {kd : Nat → Nat} {lo : Int32} {p : Nat → Nat} {P W : Nat → Int32} {il : Nat} {tl : Nat → Int32} {songs : Nat} {x : Int32} {σ : SS} {post : Int32 → SS → Prop} (hs : o_sch σ n kd lo) (hil : il < 64) (hf : Fx n p P W il tl σ) (hx : x = nI songs) (hsg : songs < 16) (h : ∀ s, RowV 2 σ s → post (sgV kd lo p (ilB il) n P W songs) s) : V_X9_partsAfterSongs x σ post := by
  subst hx
  refine s_copy2 hs.1 hf (fun s hv hse htx hi _ => ?_)
  refine o_cntI 4 (fun i a s => a = (nI songs, nI i) ∧ RowV 2 σ s ∧ o_sit (s.1 (5, 2, 0)) n p ∧ s.1 (3, 2, 0) 5 = nI il ∧ TX 2 s (sgF kd lo p (ilB il) n P W songs i).1 (sgF kd lo p (ilB il) n P W songs i).2) (fun K a s hI => ?_) (fun K i a s hi' hI hK => ?_) (Nat.zero_le _) ⟨rfl, hv, hse, hi, htx⟩
  · obtain ⟨rfl, hv, hse, hi, htx⟩ := hI
    refine br_t (show (4 : Int32) ≤ nI 4 by decide) (s_partsAll ?_)
    rw [o_sum_congr (g := (sgF kd lo p (ilB il) n P W songs 4).1) (fun k hk => by have := (htx k hk).1; rw [Nat.zero_add] at this; exact this)]
    exact h s hv
  · obtain ⟨rfl, hv, hse, hi, htx⟩ := hI
    refine br_f (nI_nle2 (b := 4) hi' (by omega)) (s_isIn ?_)
    rw [bit16 songs hsg i (by omega)]
    refine x_teach (hs.sv hv.sv) (fun k hk => hse k hk) (ills_B hs.1 hil hi) htx rfl hi' (fun s' hv' e0 e3 e5 htx' => ?_)
    dsimp only
    rw [nI_1]
    exact hK _ _ ⟨rfl, hv.tr hv', by rw [e0]; exact hse, by rw [e5]; exact hi, htx'⟩
theorem o_sum_pos {f : Nat → Int32} : ∀ {m : Nat}, (∀ k, k < m → OkP (f k)) → ∃ x : Nat, x ≤ 100 * m ∧ o_sum f m = nI x
  | 0, _ => ⟨0, by omega, rfl⟩
  | m + 1, h => by
    obtain ⟨x, hx, e⟩ := o_sum_pos (f := f) (m := m) (fun k hk => h k (by omega))
    obtain ⟨y, hy, e2⟩ := h m (by omega)
    exact ⟨x + y, by omega, by rw [o_sum, e, e2, nI_add]⟩
theorem sgV_gt {n : Nat} {kd : Nat → Nat} {lo : Int32} {p : Nat → Nat} {ill : Nat → Bool} {P W : Nat → Int32} {songs : Nat} (h6 : n ≤ 6) (hp : ∀ k, k < n → p k < n) (hlo : ∃ d : Nat, d ≤ 9 ∧ lo = nI d) (h : Gd n P W) : (-1 : Int32) < sgV kd lo p ill n P W songs := by
  obtain ⟨x, hx, e⟩ := o_sum_pos (f := (sgF kd lo p ill n P W songs 4).1) (m := 24) (fun k _ => (sgF_ok h6 hp hlo h 4 (by omega) k).1)
  unfold sgV
  rw [e, Int32.lt_iff_toInt_lt, nI_toInt (by omega)]
  have : (-1 : Int32).toInt = -1 := by decide
  omega
theorem m_sung {n : Nat} {kd : Nat → Nat} {lo : Int32} {p : Nat → Nat} {P W : Nat → Int32} {il : Nat} {songs : Nat} {x : Int32} {σ : SS} {post : Int32 → SS → Prop} (hs : o_schM σ n kd lo) (hp : ∀ k, k < n → p k < n) (hlo : ∃ d : Nat, d ≤ 9 ∧ lo = nI d) (hg : Gd n P W) (hil : il < 2 ^ n) (him : ∀ c, c < n → σ.1 (8, 0, 3) c = nI (il / 2 ^ c % 2)) (hse : o_seatsM σ 6 n p) (htm : TM 0 σ P W) (hx : x = nI songs) (hsg : songs < 16) (h : ∀ s, Mv σ s → s.1 (8, 0, 7) = σ.1 (8, 0, 7) → post (sgV kd lo p (ilB il) n P W songs) s) : V_X10_sungParts x σ post := by
  subst hx
  have h6 := hs.1
  refine s_copyM ?_
  have m1 : Mv σ (o_pw σ (cpF (σ.1 (8, 0, 5)) 24) (cpF (σ.1 (8, 0, 6)) 24)) := Mv.pw (fun k hk => by rw [cpF_lo hk, cpF_lo hk]; exact ⟨rfl, rfl⟩)
  have t1 : TM 24 (o_pw σ (cpF (σ.1 (8, 0, 5)) 24) (cpF (σ.1 (8, 0, 6)) 24)) P W := fun k hk => by
    rw [o_pw5, o_pw6, cpF_hi hk, cpF_hi hk]
    have := htm k hk
    rw [Nat.zero_add] at this; exact this
  refine o_cntI 4 (fun i a s => a = (nI songs, nI i) ∧ Mv σ s ∧ s.1 (8, 0, 7) = σ.1 (8, 0, 7) ∧ TM 24 s (sgF kd lo p (ilB il) n P W songs i).1 (sgF kd lo p (ilB il) n P W songs i).2) (fun K a s hI => ?_) (fun K i a s hi' hI hK => ?_) (Nat.zero_le _) ⟨rfl, m1, o_pwN _ _ _ (by decide) (by decide), t1⟩
  · obtain ⟨rfl, hm, e7, ht⟩ := hI
    refine br_t (show (4 : Int32) ≤ nI 4 by decide) (s_allParts (b := 24) rfl (by omega) (hs.mv hm).2.1 h6 ?_)
    rw [sum_both (f := (sgF kd lo p (ilB il) n P W songs 4).1) h6 (fun k hk => (ht k hk).1) (fun k h1 h2 => ((sgF_ok h6 hp hlo hg 4 (by omega) k).2.2 h1).1)]
    exact h s hm e7
  · obtain ⟨rfl, hm, e7, ht⟩ := hI
    have body : ∀ t : Int32, t = nI (songs / 2 ^ i % 2) → VB_X10_sungParts_31 post (fun x1 x2 σ => K (x1, x2) σ) (nI songs) (nI i) t (nI i) 6 24 s := by
      intro t htt
      refine s_illSet (hs.mv hm).2.1 h6 hil (fun c hc => by rw [hm.1 _ (by decide)]; exact him c hc) ?_
      refine m_teach (b := 24) (s := 6) (hs.mv hm) (fun k hk => by rw [e7]; exact hse k hk) (illB_B h6 (pow6 h6 hil)) ht rfl rfl rfl hi' (Or.inr rfl) (Or.inr rfl) (fun s' hb h24 ht' => ?_)
      dsimp only
      rw [nI_1]
      refine hK _ _ ⟨rfl, hm.tr (hb.mv (h24 rfl)), by rw [hb.1 _ (by decide)]; exact e7, ?_⟩
      rw [htt] at ht'
      exact ht'
    refine br_f (nI_nle2 (b := 4) hi' (by omega)) ?_
    have hb := bit_nI songs (by omega) i (by omega)
    rcases Nat.mod_two_eq_zero_or_one (songs / 2 ^ i) with e | e
    · exact nb_f (by rw [hb, e]; decide) (body 0 (by rw [e]; rfl))
    · exact nb_t (by rw [hb, e]; rfl) (body 1 (by rw [e]; rfl))
/-- the breath that songs take, the first s of them -/
def brF (dg : Nat → Nat) (songs : Nat) : Nat → Int32
  | 0 => 0
  | s + 1 => brF dg songs s + (if songs / 2 ^ s % 2 = 1 then nI (dg (2 + s)) else 0)
/-- the best of the sets of songs up to the m-th -/
def sgB (dg : Nat → Nat) (br : Int32) (V : Nat → Int32) : Nat → Nat
  | 0 => 0
  | m + 1 => if brF dg (m + 1) 4 ≤ br ∧ V (sgB dg br V m) < V (m + 1) then m + 1 else sgB dg br V m
theorem sgB_le {dg : Nat → Nat} {br : Int32} {V : Nat → Int32} : ∀ m, sgB dg br V m ≤ m
  | 0 => Nat.le_refl _
  | m + 1 => by
    have := sgB_le (dg := dg) (br := br) (V := V) m
    rw [sgB]; split <;> omega
theorem x_breath {n songs : Nat} {kd dg : Nat → Nat} {x : Int32} {σ : SS} {post : Int32 → SS → Prop} (hs : InvS σ n kd dg) (hx : x = nI songs) (hsg : songs < 16) (h : post (brF dg songs 4) σ) : V_X9_breathOf x σ post := by
  subst hx
  refine o_cnt 4 (fun i => (nI songs, brF dg songs i, nI i)) (fun _ => σ) (fun K => br_t (show (4 : Int32) ≤ nI 4 by decide) h) (fun K i hi hK => ?_) (Nat.zero_le _) rfl rfl
  refine br_f (nI_nle2 (b := 4) hi (by omega)) (s_isIn ?_)
  rw [bit16 songs hsg i (by omega)]
  rw [brF] at hK
  rcases Nat.mod_two_eq_zero_or_one (songs / 2 ^ i) with e | e
  · rw [e, if_neg (by decide)] at hK
    rw [e]
    refine br_t rfl ?_
    show K (_, _, _) _
    exact o_Ke hK (by rw [nI_1]) rfl
  · rw [e, if_pos rfl] at hK
    rw [e]
    refine br_f (show ¬ nI 1 = 0 by decide) (s_at11 (2 + i) (nI_add 2 i) (show 2 + i < 6 by omega) ?_)
    rw [(hs.2.2.2.1 (2 + i) (by omega)).2]
    show K (_, _, _) _
    exact o_Ke hK (by rw [nI_1]) rfl
theorem q_songs {σ0 : SS} {n L sc : Nat} {kd dg : Nat → Nat} (hd : Dat σ0 n L sc kd dg) (h1 : 0 < n) {w : Nat} {x1 : Int32} (hx1 : ¬ x1 < 0) (hx40 : ¬ 40 < x1) (hw : w < 2) : Qry σ0 n kd dg (fun σ p => V_X9_songs x1 (nI w) σ p) (fun σ p => V_X10_songsNow x1 (nI w) σ p) := by
  have h6 := hd.1.1
  have hlo := hd.dg0
  obtain ⟨p, P, W, il, tl, hp, hg, hil, -, hfx⟩ := hd.fx
  have h64 := pow6 h6 hil
  have hb15 := sgB_le (dg := dg) (br := x1) (V := sgV kd (nI (dg 0)) p (ilB il) n P W) 15
  refine ⟨if w = 0 then nI (sgB dg x1 (sgV kd (nI (dg 0)) p (ilB il) n P W) 15) else sgV kd (nI (dg 0)) p (ilB il) n P W (sgB dg x1 (sgV kd (nI (dg 0)) p (ilB il) n P W) 15), fun σ post hs hpo => ?_, fun σ post hs hpo => ?_⟩
  · have hsch := (hd.sv hs.1).sch.1
    refine br_f hx1 (br_f hx40 (s_eiX ?_))
    have hw01 : nI w = 0 ∨ nI w = 1 := by
      rcases Nat.lt_succ_iff_lt_or_eq.mp hw with q | q
      · left; rw [show w = 0 by omega]; rfl
      · right; rw [q]; rfl
    rw [if_pos hw01]
    refine nb_f (by decide) (s_has h6 hsch.2.1 ?_)
    rw [if_pos h1]
    refine nb_f (by decide) (x_sung (songs := 0) hsch h64 (hfx σ hs.1) rfl (by omega) (fun s1 hv1 => ?_))
    refine o_cntI 16 (fun i a s => 1 ≤ i ∧ a = (x1, nI (sgB dg x1 (sgV kd (nI (dg 0)) p (ilB il) n P W) (i - 1)), sgV kd (nI (dg 0)) p (ilB il) n P W (sgB dg x1 (sgV kd (nI (dg 0)) p (ilB il) n P W) (i - 1)), nI i) ∧ RowV 2 σ s) (fun K a s hI => ?_) (fun K i a s hi hI hK => ?_) (show 1 ≤ 16 by omega) ⟨Nat.le_refl _, rfl, hv1⟩
    · obtain ⟨-, rfl, hv⟩ := hI
      refine br_t (show (16 : Int32) ≤ nI 16 by decide) ?_
      rcases Nat.lt_succ_iff_lt_or_eq.mp hw with q | q
      · obtain rfl : w = 0 := by omega
        exact nb_t rfl (hpo s (hv.st hs))
      · subst q
        refine nb_f (by decide) (x_sung (songs := sgB dg x1 (sgV kd (nI (dg 0)) p (ilB il) n P W) 15) (hsch.sv hv.sv) h64 (hfx s (hs.1.tr hv.sv)) rfl (by omega) (fun s2 hv2 => ?_))
        exact hpo s2 ((hv.tr hv2).st hs)
    · obtain ⟨hi1, rfl, hv⟩ := hI
      obtain ⟨m, rfl⟩ : ∃ m, i = m + 1 := ⟨i - 1, by omega⟩
      rw [show m + 1 - 1 = m from rfl] at *
      have hbm := sgB_le (dg := dg) (br := x1) (V := sgV kd (nI (dg 0)) p (ilB il) n P W) m
      refine br_f (nI_nle2 (b := 16) hi (by omega)) (x_breath (hd.sv (hs.1.tr hv.sv)).1 rfl hi ?_)
      have nx : ∀ (b : Nat) s', RowV 2 σ s' → sgB dg x1 (sgV kd (nI (dg 0)) p (ilB il) n P W) (m + 1) = b → VB_X9_bestSongs_51 (fun v32 s32 => ((¬ nI w = (0 : Int32) → V_X9_partsAfterSongs v32 s32 (fun v46 s46 => VB_X9_songs_49 post v46 s46)) ∧ (nI w = (0 : Int32) → VB_X9_songs_49 post v32 s32))) (fun x1 x2 x3 x4 σ => K (x1, x2, x3, x4) σ) x1 (nI b) (sgV kd (nI (dg 0)) p (ilB il) n P W b) (nI (m + 1)) s' := by
        intro b s' hv' e
        show K (_, _, _, _) _
        exact hK _ _ ⟨by omega, by rw [show m + 1 + 1 - 1 = m + 1 from rfl, e, nI_1], hv'⟩
      by_cases z : brF dg (m + 1) 4 ≤ x1
      · refine br_t z (x_sung (songs := m + 1) (hsch.sv hv.sv) h64 (hfx s (hs.1.tr hv.sv)) rfl hi (fun s2 hv2 => ?_))
        by_cases z2 : sgV kd (nI (dg 0)) p (ilB il) n P W (sgB dg x1 (sgV kd (nI (dg 0)) p (ilB il) n P W) m) < sgV kd (nI (dg 0)) p (ilB il) n P W (m + 1)
        · exact br_f (Int32.not_le.mpr z2) (nx (m + 1) s2 (hv.tr hv2) (by rw [sgB, if_pos ⟨z, z2⟩]))
        · exact br_t (Int32.not_lt.mp z2) (nx _ s2 (hv.tr hv2) (by rw [sgB, if_neg (fun q => z2 q.2)]))
      · exact br_f z (nx _ s hv (by rw [sgB, if_neg (fun q => z q.1)]))
  · have hsch := (hd.sv hs.1).sch.2
    have hF := hfx σ hs.1
    have hIS := (hd.sv hs.1).1
    refine o_cnt n (fun i => (x1, nI w, -1, -1, nI i)) (fun i => o_wa σ (8, 0, 7) (c6F (σ.1 (8, 0, 7)) i)) (fun K => ?_) (fun K i hi hK => ?_) (Nat.zero_le _) rfl (by rw [c6F_0, o_wa_id])
    · have hm1 : Mv σ (o_wa σ (8, 0, 7) (c6F (σ.1 (8, 0, 7)) n)) := Mv.w7 (fun j hj => c6F_lo hj)
      have hse1 : o_seatsM (o_wa σ (8, 0, 7) (c6F (σ.1 (8, 0, 7)) n)) 6 n p := fun k hk => ⟨hp.1 k hk, by rw [o_wa_at, c6F_hi hk]; exact hF.sm k hk⟩
      refine br_t (by rw [o_wa_ne _ _ (by decide), hsch.2.1]; exact nI_le (Nat.le_refl _) (by omega)) ?_
      generalize o_wa σ (8, 0, 7) (c6F (σ.1 (8, 0, 7)) n) = s1 at hm1 hse1
      refine o_cntI 16 (fun i a s => Mv s1 s ∧ s.1 (8, 0, 7) = s1.1 (8, 0, 7) ∧ ((i = 0 ∧ a = (x1, nI w, -1, -1, 0)) ∨ ∃ m, i = m + 1 ∧ a = (x1, nI w, nI (sgB dg x1 (sgV kd (nI (dg 0)) p (ilB il) n P W) m), sgV kd (nI (dg 0)) p (ilB il) n P W (sgB dg x1 (sgV kd (nI (dg 0)) p (ilB il) n P W) m), nI i))) (fun K2 a s hI => ?_) (fun K2 i a s hi hI hK2 => ?_) (Nat.zero_le _) ⟨Mv.rf _, rfl, Or.inl ⟨rfl, rfl⟩⟩
      · obtain ⟨hm, -, hI⟩ := hI
        obtain ⟨m, hm15, rfl⟩ := hI.resolve_left (fun z => absurd z.1 (by decide))
        obtain rfl : m = 15 := by omega
        have hmv := hm1.tr hm
        refine br_t (show (16 : Int32) ≤ nI 16 by decide) ?_
        rcases Nat.lt_succ_iff_lt_or_eq.mp hw with q | q
        · obtain rfl : w = 0 := by omega
          exact nb_t rfl (hpo s (hmv.st hs) hmv.2.2.2.2)
        · subst q
          exact nb_f (show ¬ nI 1 = 0 by decide) (hpo s (hmv.st hs) hmv.2.2.2.2)
      · obtain ⟨hm, e7, hI⟩ := hI
        have hmv := hm1.tr hm
        -- the body, with the best and the most so far
        have body : ∀ (x3 x4 : Int32), ((¬ x1 < brF dg i 4 ∧ x4 < sgV kd (nI (dg 0)) p (ilB il) n P W i) → ∀ s', Mv s1 s' → s'.1 (8, 0, 7) = s1.1 (8, 0, 7) → K2 (x1, nI w, nI i, sgV kd (nI (dg 0)) p (ilB il) n P W i, nI (i + 1)) s') → (¬ (¬ x1 < brF dg i 4 ∧ x4 < sgV kd (nI (dg 0)) p (ilB il) n P W i) → ∀ s', Mv s1 s' → s'.1 (8, 0, 7) = s1.1 (8, 0, 7) → K2 (x1, nI w, x3, x4, nI (i + 1)) s') → VB_X10_songsNow_43 post (fun x1 x2 x3 x4 x5 σ => K2 (x1, x2, x3, x4, x5) σ) x1 (nI w) x3 x4 (nI i) s := by
          intro x3 x4 hy hn
          refine br_f (nI_nle2 (b := 16) hi (by omega)) ?_
          refine o_cnt 4 (fun j => (x1, nI w, x3, x4, nI i, brF dg i j, nI j)) (fun _ => s) (fun K3 => br_t (show (4 : Int32) ≤ nI 4 by decide) ?_) (fun K3 j hj hK3 => ?_) (Nat.zero_le _) rfl rfl
          · by_cases z : x1 < brF dg i 4
            · refine br_t z ?_
              show K2 (_, _, _, _, _) _
              rw [nI_1]
              exact hn (fun q => q.1 z) s hm e7
            · refine br_f z (m_sung (songs := i) (hsch.mv hmv) hp.1 hlo hg hil (fun c hc => by rw [hmv.1 _ (by decide)]; exact hF.im c hc) (fun k hk => by rw [e7]; exact hse1 k hk) (fun k hk => ?_) rfl hi (fun s' hm' e7' => ?_))
              · rw [Nat.zero_add, (hmv.2.2.1 k hk).1, (hmv.2.2.1 k hk).2]
                have := hF.tm k hk
                rw [Nat.zero_add] at this; exact this
              · by_cases z2 : x4 < sgV kd (nI (dg 0)) p (ilB il) n P W i
                · refine br_f (Int32.not_le.mpr z2) (br_f (Int32.not_le.mpr z2) ?_)
                  show K2 (_, _, _, _, _) _
                  rw [nI_1]
                  exact hy ⟨z, z2⟩ s' (hm.tr hm') (e7'.trans e7)
                · refine br_t (Int32.not_lt.mp z2) (br_t (Int32.not_lt.mp z2) ?_)
                  show K2 (_, _, _, _, _) _
                  rw [nI_1]
                  exact hn (fun q => z2 q.2) s' (hm.tr hm') (e7'.trans e7)
          · refine br_f (nI_nle2 (b := 4) hj (by omega)) ?_
            have hb := bit_nI i (by omega) j (by omega)
            rw [brF] at hK3
            rcases Nat.mod_two_eq_zero_or_one (i / 2 ^ j) with e | e
            · rw [e, if_neg (by decide)] at hK3
              refine nb_f (by rw [hb, e]; decide) ?_
              show K3 (_, _, _, _, _, _, _) _
              exact o_Ke hK3 (by rw [nI_1]) rfl
            · rw [e, if_pos rfl] at hK3
              refine nb_t (by rw [hb, e]; rfl) ⟨vp_in_nI hj (by omega), ?_⟩
              rw [nI_clamp (by omega), hmv.1 _ (by decide), hIS.2.2.2.2.2.2.1 j hj]
              show K3 (_, _, _, _, _, _, _) _
              exact o_Ke hK3 (by rw [nI_1]) rfl
        rcases hI with ⟨rfl, rfl⟩ | ⟨m, rfl, rfl⟩
        · have b0 : brF dg 0 4 = 0 := by unfold brF; simp [brF]
          refine body (-1) (-1) (fun _ s' h1' h2' => hK2 _ _ ⟨h1', h2', Or.inr ⟨0, rfl, rfl⟩⟩) (fun z => absurd ⟨by rw [b0]; exact hx1, sgV_gt h6 hp.1 hlo hg⟩ z)
        · refine body _ _ (fun z s' h1' h2' => hK2 _ _ ⟨h1', h2', Or.inr ⟨m + 1, rfl, ?_⟩⟩) (fun z s' h1' h2' => hK2 _ _ ⟨h1', h2', Or.inr ⟨m + 1, rfl, ?_⟩⟩)
          · have : sgB dg x1 (sgV kd (nI (dg 0)) p (ilB il) n P W) (m + 1) = m + 1 := by rw [sgB, if_pos ⟨Int32.not_lt.mp z.1, z.2⟩]
            rw [this]
          · have : sgB dg x1 (sgV kd (nI (dg 0)) p (ilB il) n P W) (m + 1) = sgB dg x1 (sgV kd (nI (dg 0)) p (ilB il) n P W) m := by rw [sgB, if_neg (fun q => z ⟨Int32.not_lt.mpr q.1, q.2⟩)]
            rw [this]
    · unfold VB_X10_songsNow_8
      rw [o_wa_ne _ _ (by decide), hsch.2.1]
      refine br_f (nI_nle2 hi (by omega)) ?_
      rw [show (6 : Int32) + nI i = nI (6 + i) from nI_add 6 i]
      refine ⟨vp_in_nI (by omega) (by omega), vp_in_nI (by omega) (by omega), ?_⟩
      rw [nI_clamp (by omega), nI_clamp (by omega), o_wr_wr, o_wa_at, o_wa_wa, c6F_lo (by omega), c6F_1]
      show K (_, _, _, _, _) _
      exact o_Ke hK (by rw [nI_1]) rfl
