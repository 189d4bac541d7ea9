/-! what a row's method leaves alone -/
def rowL (r : Nat) : List OI := [(3, r, 0), (5, r, 0), (5, r, 1), (5, r, 2), (5, r, 3)]
def RowV (r : Nat) (σ σ' : SS) : Prop := (∀ i : OI, i ∉ rowL r → σ'.1 i = σ.1 i) ∧ σ'.2 = σ.2
theorem RowV.rf {r : Nat} (σ : SS) : RowV r σ σ := ⟨fun _ _ => rfl, rfl⟩
theorem RowV.tr {r : Nat} {a b c : SS} (h : RowV r a b) (g : RowV r b c) : RowV r a c := ⟨fun i hi => (g.1 i hi).trans (h.1 i hi), g.2.trans h.2⟩
theorem RowV.wa {r : Nat} {σ : SS} {i : OI} {f : Nat → Int32} (hi : i ∈ rowL r) : RowV r σ (o_wa σ i f) :=
  ⟨fun j hj => o_wa_ne _ _ (fun e => hj (by rw [e]; exact hi)), rfl⟩
theorem rowL0 (r : Nat) : ((3, r, 0) : OI) ∈ rowL r := by simp [rowL]
theorem rowL1 (r : Nat) : ((5, r, 0) : OI) ∈ rowL r := by simp [rowL]
theorem rowL2 (r : Nat) : ((5, r, 1) : OI) ∈ rowL r := by simp [rowL]
theorem rowL3 (r : Nat) : ((5, r, 2) : OI) ∈ rowL r := by simp [rowL]
theorem rowL4 (r : Nat) : ((5, r, 3) : OI) ∈ rowL r := by simp [rowL]
theorem RowV.row {r : Nat} {σ : SS} {P W : Nat → Int32} : RowV r σ (o_row σ r P W) := (RowV.wa (rowL2 r)).tr (RowV.wa (rowL3 r))
theorem RowV.sv {σ σ' : SS} (h : RowV 2 σ σ') : Sv σ σ' := by
  obtain ⟨h1, h2⟩ := h
  refine ⟨fun i hi => h1 i ?_, fun k _ _ => by rw [h1 _ (by decide)], fun k _ => by rw [h1 _ (by decide), h1 _ (by decide)]; exact ⟨rfl, rfl⟩, fun k _ => by rw [h1 _ (by decide)], fun k _ => by rw [h1 _ (by decide)]⟩
  revert i hi; decide
theorem RowV.sv3 {σ σ' : SS} (h : RowV 3 σ σ') : Sv σ σ' := by
  obtain ⟨h1, h2⟩ := h
  refine ⟨fun i hi => h1 i ?_, fun k _ _ => by rw [h1 _ (by decide)], fun k _ => by rw [h1 _ (by decide), h1 _ (by decide)]; exact ⟨rfl, rfl⟩, fun k _ => by rw [h1 _ (by decide)], fun k _ => by rw [h1 _ (by decide)]⟩
  revert i hi; decide
theorem InvB.cg {σ σ' : SS} {n : Nat} {kd : Nat → Nat} {lo : Int32} (h : InvB σ n kd lo) (h0 : σ'.1 (0, 0, 0) 7 = σ.1 (0, 0, 0) 7) (h1 : σ'.1 (5, 3, 0) = σ.1 (5, 3, 0)) (h2 : σ'.1 (5, 3, 1) = σ.1 (5, 3, 1)) (h3 : σ'.1 (5, 3, 2) = σ.1 (5, 3, 2)) : InvB σ' n kd lo := by
  unfold InvB at *
  rw [h0, h1, h2, h3]; exact h
theorem RowV.st {σ0 σ σ' : SS} {n : Nat} {kd dg : Nat → Nat} (h : RowV 2 σ σ') (hs : St σ0 n kd dg σ) : St σ0 n kd dg σ' :=
  ⟨hs.1.tr h.sv, hs.2.cg (by rw [h.1 _ (by decide)]) (h.1 _ (by decide)) (h.1 _ (by decide)) (h.1 _ (by decide))⟩
/-- what the reference's trials leave alone -/
def Mv (σ σ' : SS) : Prop := (∀ i : OI, i ∉ [((7,0,0) : OI), (8,0,5), (8,0,6), (8,0,7)] → σ'.1 i = σ.1 i) ∧ (∀ k, k ≠ 14 → k ≠ 15 → σ'.1 (7, 0, 0) k = σ.1 (7, 0, 0) k) ∧ (∀ k, k < 24 → σ'.1 (8, 0, 5) k = σ.1 (8, 0, 5) k ∧ σ'.1 (8, 0, 6) k = σ.1 (8, 0, 6) k) ∧ (∀ k, k < 6 → σ'.1 (8, 0, 7) k = σ.1 (8, 0, 7) k) ∧ σ'.2 24 = σ.2 24
theorem Mv.rf (σ : SS) : Mv σ σ := ⟨fun _ _ => rfl, fun _ _ _ => rfl, fun _ _ => ⟨rfl, rfl⟩, fun _ _ => rfl, rfl⟩
theorem Mv.tr {a b c : SS} (h : Mv a b) (g : Mv b c) : Mv a c :=
  ⟨fun i hi => (g.1 i hi).trans (h.1 i hi), fun k h1 h2 => (g.2.1 k h1 h2).trans (h.2.1 k h1 h2), fun k hk => ⟨(g.2.2.1 k hk).1.trans (h.2.2.1 k hk).1, (g.2.2.1 k hk).2.trans (h.2.2.1 k hk).2⟩, fun k hk => (g.2.2.2.1 k hk).trans (h.2.2.2.1 k hk), g.2.2.2.2.trans h.2.2.2.2⟩
theorem Mv.sv {σ σ' : SS} (h : Mv σ σ') : Sv σ σ' :=
  ⟨fun i hi => h.1 i (by revert i hi; decide), h.2.1, h.2.2.1, h.2.2.2.1, fun k _ => by rw [h.1 _ (by decide)]⟩
theorem Mv.st {σ0 σ σ' : SS} {n : Nat} {kd dg : Nat → Nat} (h : Mv σ σ') (hs : St σ0 n kd dg σ) : St σ0 n kd dg σ' :=
  ⟨hs.1.tr h.sv, hs.2.cg (by rw [h.1 _ (by decide)]) (h.1 _ (by decide)) (h.1 _ (by decide)) (h.1 _ (by decide))⟩
/-! rows afresh, rows copied -/
theorem s_fresh {r : Nat} {σ : SS} {post : SS → Prop} (h : ∀ σ', RowV r σ σ' → (∀ k, k < 6 → σ'.1 (5, r, 0) k = nI k) → (∀ k, k < 24 → σ'.1 (5, r, 1) k = 0 ∧ σ'.1 (5, r, 2) k = 0) → (∀ k, k < 6 → σ'.1 (5, r, 3) k = -1) → σ'.1 (3, r, 0) 5 = 0 → post σ') : V_X4_startAfresh r σ post := by
  refine o_cnt 6 (fun i => nI i) (fun i => o_wa σ (5, r, 0) (o_fill i nI (σ.1 (5, r, 0)))) (fun K => br_t (show (6 : Int32) ≤ nI 6 by decide) ?_) (fun K i hi hK => ?_) (Nat.zero_le _) rfl (by rw [o_fill_0, o_wa_id])
  · refine s_putAll (s_putAll (s_putAll (h _ ?_ ?_ ?_ ?_ ?_)))
    · exact (RowV.wa (rowL1 r)).tr ((RowV.wa (rowL2 r)).tr ((RowV.wa (rowL3 r)).tr ((RowV.wa (rowL4 r)).tr (RowV.wa (rowL0 r)))))
    · intro k hk
      rw [o_wr_ne _ _ _ (by simp), o_wa_ne _ _ (by simp [o_ar4]), o_wa_ne _ _ (by simp [o_ar4]), o_wa_ne _ _ (by simp [o_ar4]), o_wa_at]
      unfold o_fill; rw [if_pos hk]
    · intro k hk
      constructor
      · rw [o_wr_ne _ _ _ (by simp), o_wa_ne _ _ (by simp [o_ar4]), o_wa_ne _ _ (by simp [o_ar4]), o_ar4, o_wa_at]
        unfold o_fill; rw [if_pos (show k < o_len (5, r, 1) from hk)]
      · rw [o_wr_ne _ _ _ (by simp), o_wa_ne _ _ (by simp [o_ar4]), o_ar4 r 2, o_wa_at]
        unfold o_fill; rw [if_pos (show k < o_len (5, r, 2) from hk)]
    · intro k hk
      rw [o_wr_ne _ _ _ (by simp), o_ar4 r 3, o_wa_at]
      unfold o_fill; rw [if_pos (show k < o_len (5, r, 3) from hk)]
    · rw [o_wr_at, upd_at]
  · refine br_f (nI_nle2 (b := 6) hi (by omega)) (s_put5 i rfl (show i < 6 from hi) ?_)
    refine o_Ke hK (nI_1 i) ?_
    rw [o_wa_at, o_wa_wa, o_fill_1 i nI]
theorem s_copyR {r r2 : Nat} {σ : SS} {post : SS → Prop} (hne : r ≠ r2) (h : ∀ σ', RowV r σ σ' → (∀ k, k < 6 → σ'.1 (5, r, 0) k = σ.1 (5, r2, 0) k) → (∀ k, k < 24 → σ'.1 (5, r, 1) k = σ.1 (5, r2, 1) k ∧ σ'.1 (5, r, 2) k = σ.1 (5, r2, 2) k) → (∀ k, k < 6 → σ'.1 (5, r, 3) k = σ.1 (5, r2, 3) k) → σ'.1 (3, r, 0) 5 = σ.1 (3, r2, 0) 5 → post σ') : V_X4_copyFrom r r2 σ post := by
  have e1 : r2 ≠ r := Ne.symm hne
  refine s_copyC (by simp [o_ar4, e1]) rfl (s_copyC (by simp [o_ar4, e1]) rfl (s_copyC (by simp [o_ar4, e1]) rfl (s_copyC (by simp [o_ar4, e1]) rfl (h _ ?_ ?_ ?_ ?_ ?_))))
  · exact (RowV.wa (rowL1 r)).tr ((RowV.wa (rowL2 r)).tr ((RowV.wa (rowL3 r)).tr ((RowV.wa (rowL4 r)).tr (RowV.wa (rowL0 r)))))
  · intro k hk
    rw [o_wr_ne _ _ _ (by simp), o_wa_ne _ _ (by simp [o_ar4]), o_wa_ne _ _ (by simp [o_ar4]), o_wa_ne _ _ (by simp [o_ar4]), o_ar4 r 0, o_wa_at]
    unfold o_fill; rw [if_pos (show k < o_len (5, r, 0) from hk)]; rfl
  · intro k hk
    constructor
    · rw [o_wr_ne _ _ _ (by simp), o_wa_ne _ _ (by simp [o_ar4]), o_wa_ne _ _ (by simp [o_ar4]), o_ar4 r 1, o_wa_at]
      unfold o_fill; rw [if_pos (show k < o_len (5, r, 1) from hk), o_ar4 r2 1, o_wa_ne _ _ (by simp [o_ar4])]
    · rw [o_wr_ne _ _ _ (by simp), o_wa_ne _ _ (by simp [o_ar4]), o_ar4 r 2, o_wa_at]
      unfold o_fill; rw [if_pos (show k < o_len (5, r, 2) from hk), o_ar4 r2 2, o_wa_ne _ _ (by simp [o_ar4]), o_wa_ne _ _ (by simp [o_ar4])]
  · intro k hk
    rw [o_wr_ne _ _ _ (by simp), o_ar4 r 3, o_wa_at]
    unfold o_fill; rw [if_pos (show k < o_len (5, r, 3) from hk), o_ar4 r2 3, o_wa_ne _ _ (by simp [o_ar4]), o_wa_ne _ _ (by simp [o_ar4]), o_wa_ne _ _ (by simp [o_ar4])]
  · rw [o_wr_at, upd_at, o_wa_ne _ _ (by simp [o_ar4]), o_wa_ne _ _ (by simp [o_ar4]), o_wa_ne _ _ (by simp [o_ar4]), o_wa_ne _ _ (by simp [o_ar4])]
/-! a lesson from nothing -/
def zcF (f : Nat → Int32) (i : Nat) : Nat → Int32 := fun k => if k % 4 = 0 ∧ k / 4 < i then 0 else f k
theorem zcF_0 (f : Nat → Int32) : zcF f 0 = f := by funext k; simp [zcF]
theorem zcF_1 (f : Nat → Int32) (i : Nat) : upd (zcF f i) (4 * i + 0) 0 = zcF f (i + 1) := by
  funext k
  unfold upd zcF
  by_cases h : k = 4 * i + 0
  · rw [if_pos h, if_pos (by omega)]
  · rw [if_neg h]
    by_cases h2 : k % 4 = 0 ∧ k / 4 < i
    · rw [if_pos h2, if_pos (by omega)]
    · rw [if_neg h2, if_neg (by omega)]
theorem s_nothing {r n : Nat} {kd p : Nat → Nat} {ill : Nat → Bool} {lo : Int32} {σ : SS} {post : SS → Prop} (hs : o_sch σ n kd lo) (hp : o_seats σ r n p) (hi : o_ills σ r n ill)
    (h : ∀ (P W : Nat → Int32), (∀ c, c < n → P (4 * c + 0) = 0 ∧ W (4 * c + 0) = 0) → ∀ t : tS, t = t_les kd lo 0 0 p ill n P W → post (o_row σ r t.1 t.2.1)) : V_X4_teachFromNothing r σ post := by
  obtain ⟨h6, hn, hlo, hkd⟩ := id hs
  refine o_cnt n (fun i => nI i) (fun i => o_row σ r (zcF (σ.1 (5, r, 1)) i) (zcF (σ.1 (5, r, 2)) i)) (fun K => ?_) (fun K i hi' hK => ?_) (Nat.zero_le _) rfl (by rw [zcF_0, zcF_0, o_row_id])
  · refine s_size (n := n) (by rw [o_rowN _ _ _ _ (by simp) (by simp)]; exact hn) (br_t (nI_le (Nat.le_refl _) (by omega)) ?_)
    refine s_teach (kd := kd) (p := p) (ill := ill) (lo := lo) ⟨h6, by rw [o_rowN _ _ _ _ (by simp) (by simp)]; exact hn, by rw [o_rowN _ _ _ _ (by simp) (by simp)]; exact hlo, by rw [o_rowN _ _ _ _ (by simp) (by simp)]; exact hkd⟩ ?_ ?_ (sb := 0) rfl (by omega) ?_
    · intro k hk; rw [o_rowN _ _ _ _ (by simp) (by simp)]; exact hp k hk
    · intro k hk; rw [o_rowN _ _ _ _ (by simp) (by simp)]; exact hi k hk
    · intro t ht
      rw [o_row1, o_row2] at ht
      rw [o_row_row]
      refine h _ _ (fun c hc => ?_) t ht
      unfold zcF
      rw [if_pos (by omega), if_pos (by omega)]; exact ⟨rfl, rfl⟩
  · refine s_size (n := n) (by rw [o_rowN _ _ _ _ (by simp) (by simp)]; exact hn) (br_f (nI_nle2 hi' (by omega)) (s_wipe i 0 rfl rfl (by omega) (by omega) ?_))
    refine o_Ke hK (nI_1 i) ?_
    rw [o_row1, o_row2, o_row_1, o_row_2, zcF_1, zcF_1]
