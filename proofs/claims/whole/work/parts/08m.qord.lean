/-! the class looks for the best order -/
theorem s_last {r n c : Nat} {σ : SS} {post : Int32 → SS → Prop} (h1 : 0 < n) (h6 : n ≤ 6) (hn : σ.1 (2, 0, 0) 7 = nI n) (hc : σ.1 (5, r, 0) (n - 1) = nI c) (h : post (nI c) σ) : V_X4_lastChild r σ post := by
  refine s_size hn (s_at5 (n - 1) (by rw [show (1 : Int32) = nI 1 from rfl, pk_sub (by omega)]) (show n - 1 < 6 by omega) ?_)
  rw [hc]; exact h
theorem s_lastP {r n c : Nat} {σ : SS} {post : Int32 → SS → Prop} (h1 : 0 < n) (h6 : n ≤ 6) (hn : σ.1 (2, 0, 0) 7 = nI n) (hc6 : c < 6) (hc : σ.1 (5, r, 0) (n - 1) = nI c) (h : post (σ.1 (5, r, 1) (4 * c)) σ) : V_X4_lastParts r σ post :=
  s_last h1 h6 hn hc (s_parts c 0 rfl rfl hc6 (by omega) h)
theorem s_lastM {r n c : Nat} {σ : SS} {post : Int32 → SS → Prop} (h1 : 0 < n) (h6 : n ≤ 6) (hn : σ.1 (2, 0, 0) 7 = nI n) (hc6 : c < 6) (hc : σ.1 (5, r, 0) (n - 1) = nI c) (h : post (o_bc (σ.1 (5, r, 2) (4 * c))) σ) : V_X4_lastMistakes r σ post :=
  s_last h1 h6 hn hc (s_mist c 0 rfl rfl hc6 (by omega) (s_bc h))
theorem s_ends {n a b : Nat} {r r2 : Nat} {σ : SS} {post : Int32 → SS → Prop} (h1 : 0 < n) (h6 : n ≤ 6) (hn : σ.1 (2, 0, 0) 7 = nI n) (ha6 : a < 6) (hb6 : b < 6) (ha : σ.1 (5, r, 0) (n - 1) = nI a) (hb : σ.1 (5, r2, 0) (n - 1) = nI b)
    (h : post (if σ.1 (5, r2, 1) (4 * b) < σ.1 (5, r, 1) (4 * a) ∨ (σ.1 (5, r, 1) (4 * a) = σ.1 (5, r2, 1) (4 * b) ∧ o_bc (σ.1 (5, r, 2) (4 * a)) < o_bc (σ.1 (5, r2, 2) (4 * b))) then 1 else 0) σ) : V_X4_endsBetterThan r r2 σ post :=
  s_lastP h1 h6 hn ha6 ha (s_last h1 h6 hn ha (s_mist a 0 rfl rfl ha6 (by omega) (s_lastP h1 h6 hn hb6 hb (s_last h1 h6 hn hb (s_mist b 0 rfl rfl hb6 (by omega) (s_worth ⟨if01 _, h⟩))))))
def bestRow (σ : SS) (n : Nat) (kd : Nat → Nat) (lo : Int32) (b : Nat) : Prop := (∀ k, k < n → σ.1 (5, 3, 0) k = nI (ord n b k)) ∧ σ.1 (5, 3, 1) (4 * ord n b (n - 1)) = bestP kd lo n b ∧ σ.1 (5, 3, 2) (4 * ord n b (n - 1)) = bestW kd lo n b
theorem bestRow.cg {σ σ' : SS} {n b : Nat} {kd : Nat → Nat} {lo : Int32} (h : bestRow σ n kd lo b) (hr : RowV 2 σ σ') : bestRow σ' n kd lo b := by
  unfold bestRow at *
  rw [hr.1 (5, 3, 0) (by decide), hr.1 (5, 3, 1) (by decide), hr.1 (5, 3, 2) (by decide)]; exact h
theorem o_sch.sv {σ σ' : SS} {n : Nat} {kd : Nat → Nat} {lo : Int32} (h : o_sch σ n kd lo) (hm : Sv σ σ') : o_sch σ' n kd lo := by
  unfold o_sch at *
  rw [hm.1 (2, 0, 0) (by decide), hm.1 (11, 0, 1) (by decide), hm.1 (11, 0, 2) (by decide)]; exact h
theorem ills_0 {σ : SS} {r n : Nat} (h6 : n ≤ 6) (h : σ.1 (3, r, 0) 5 = 0) : o_ills σ r n (fun _ => false) := fun c hc => by
  rw [h]
  have := o_bit_nI 0 (by omega) c (by omega)
  rw [Nat.zero_div] at this
  exact this
/-- what teaching from nothing in order k leaves in row 2 -/
theorem s_trial {n k : Nat} {kd : Nat → Nat} {lo : Int32} {σ : SS} {post : SS → Prop} (hs : o_sch σ n kd lo) (h1 : 0 < n) (hk : k < fct n) (hp : o_sit (σ.1 (5, 2, 0)) n (ord n k)) (hi : σ.1 (3, 2, 0) 5 = 0)
    (h : ∀ σ', RowV 2 σ σ' → σ'.1 (5, 2, 0) = σ.1 (5, 2, 0) → σ'.1 (3, 2, 0) = σ.1 (3, 2, 0) → (∀ c, c < n → σ'.1 (5, 2, 1) (4 * c) = (les0 kd lo n (ord n k)).1 (4 * c) ∧ σ'.1 (5, 2, 2) (4 * c) = (les0 kd lo n (ord n k)).2.1 (4 * c)) → post σ') : V_X4_teachFromNothing 2 σ post := by
  refine s_nothing (ill := fun _ => false) hs (fun j hj => hp j hj) (ills_0 hs.1 hi) (fun P W hz t ht => h _ RowV.row (o_rowN _ _ _ _ (by decide) (by decide)) (o_rowN _ _ _ _ (by decide) (by decide)) (fun c hc => ?_))
  have rel : t_rel n 0 0 t (les0 kd lo n (ord n k)) := by
    rw [ht]
    exact t_les_rel (ord_perm h1 hs.1 hk).1 (fun c hc => hz c hc)
  rw [o_row1, o_row2]
  exact rel.1 c hc
theorem s_nextO {n k : Nat} {σ : SS} {post : Int32 → SS → Prop} (h1 : 0 < n) (h6 : n ≤ 6) (hn : σ.1 (2, 0, 0) 7 = nI n) (hk : k < fct n) (hp : o_sit (σ.1 (5, 2, 0)) n (ord n k)) (h : (k + 1 < fct n → ∀ σ', RowV 2 σ σ' → o_sit (σ'.1 (5, 2, 0)) n (ord n (k + 1)) → σ'.1 (3, 2, 0) = σ.1 (3, 2, 0) → post 1 σ') ∧ (¬ k + 1 < fct n → post 0 σ)) : V_X4_sitInNextOrder 2 σ post := by
  have hx := ord_next h1 h6 hk
  refine s_next h1 h6 hn hp ⟨fun e => h.2 (fun z => ?_), fun q f e hf => ?_⟩
  · rw [if_pos z] at hx
    obtain ⟨q, e2, -⟩ := hx
    rw [e] at e2; cases e2
  · by_cases z : k + 1 < fct n
    · rw [if_pos z] at hx
      obtain ⟨q2, e2, hq⟩ := hx
      rw [e] at e2; cases e2
      refine h.1 z _ (RowV.wa (rowL1 2)) ?_ (o_wa_ne _ _ (by decide))
      rw [o_wa_at]
      intro i hi
      rw [← hq i hi]; exact hf i hi
    · rw [if_neg z, e] at hx; cases hx
theorem s_findB {n : Nat} {kd dg : Nat → Nat} {σ0 σ : SS} {post : SS → Prop} (hs : o_sch σ n kd (nI (dg 0))) (h1 : 0 < n) (h0 : St σ0 n kd dg σ) (h : ∀ s, St σ0 n kd dg s → bestRow s n kd (nI (dg 0)) (bestK kd (nI (dg 0)) n (fct n - 1)) → post s) : V_X9_findBestOrder σ post := by
  have h6 := hs.1
  have h720 := fct_le h6
  have hpos := fct_pos n
  rcases h0.2 with hb | ⟨hb, -, hr⟩
  · refine br_t hb (s_fresh (fun σ1 hv1 hse1 _ _ hil1 => ?_))
    -- the rest once the last one is seen
    have fin : ∀ s, Sv σ s → bestRow s n kd (nI (dg 0)) (bestK kd (nI (dg 0)) n (fct n - 1)) → VB_X9_findBestOrder_79 post s := by
      intro s hsv hbr
      refine h _ ⟨h0.1.tr (hsv.tr ?_), ?_⟩ ?_
      · refine ⟨fun i hi => o_wr_ne _ _ _ (by revert i hi; decide), fun k _ _ => by rw [o_wr_ne _ _ _ (by decide)], fun k _ => by rw [o_wr_ne _ _ _ (by decide), o_wr_ne _ _ _ (by decide)]; exact ⟨rfl, rfl⟩, fun k _ => by rw [o_wr_ne _ _ _ (by decide)], fun k hk => by rw [o_wr_at, upd_ne hk]⟩
      · refine Or.inr ⟨by rw [o_wr_at, upd_at], h1, ?_⟩
        rw [o_wr_ne _ _ _ (by decide), o_wr_ne _ _ _ (by decide), o_wr_ne _ _ _ (by decide)]
        exact hbr
      · unfold bestRow
        rw [o_wr_ne _ _ _ (by decide), o_wr_ne _ _ _ (by decide), o_wr_ne _ _ _ (by decide)]
        exact hbr
    refine o_cntI (fct n) (fun k a s => a = nI k ∧ k < fct n ∧ Sv σ s ∧ o_sit (s.1 (5, 2, 0)) n (ord n k) ∧ s.1 (3, 2, 0) 5 = 0 ∧ ∀ j, k = j + 1 → bestRow s n kd (nI (dg 0)) (bestK kd (nI (dg 0)) n j)) (fun K a s hI => ?_) (fun K k a s hk hI hK => ?_) (Nat.zero_le _) ⟨rfl, hpos, hv1.sv, fun i hi => ?_, hil1, fun j hj => by omega⟩
    · exact absurd hI.2.1 (by omega)
    · obtain ⟨rfl, -, hsv, hse, hil, hbr⟩ := hI
      refine br_f (nI_nle2 (b := 720) (by omega) (by omega)) (s_trial (hs.sv hsv) h1 hk hse hil (fun s2 hv2 e5 e3 hval => ?_))
      have hsv2 := hsv.tr hv2.sv
      have hse2 : o_sit (s2.1 (5, 2, 0)) n (ord n k) := by rw [e5]; exact hse
      have hn2 := (hs.sv hsv2).2.1
      have hl := (ord_perm h1 h6 hk).1 (n - 1) (by omega)
      -- from the next order on
      have nx : ∀ s3, Sv σ s3 → o_sit (s3.1 (5, 2, 0)) n (ord n k) → s3.1 (3, 2, 0) 5 = 0 → bestRow s3 n kd (nI (dg 0)) (bestK kd (nI (dg 0)) n k) → VB_X9_findBestOrder_60 post (fun x1 σ => K x1 σ) (nI k) s3 := by
        intro s3 hsv3 hse3 hil3 hbr3
        refine s_nextO h1 h6 (hs.sv hsv3).2.1 hk hse3 ⟨fun z s4 hv4 hse4 e4 => ?_, fun z => ?_⟩
        · refine nb_f (by decide) ?_
          rw [nI_1]
          exact hK _ _ ⟨rfl, z, hsv3.tr hv4.sv, hse4, by rw [e4]; exact hil3, fun j hj => by cases hj; exact hbr3.cg hv4⟩
        · refine nb_t rfl (fin _ hsv3 ?_)
          rw [show fct n - 1 = k by omega]; exact hbr3
      -- keep this one
      have keep : bestK kd (nI (dg 0)) n k = k → VB_X9_findBestOrder_49 post (fun x1 σ => K x1 σ) (nI k) s2 := by
        intro e
        refine s_copyR (by decide) (fun s3 hv3 c0 c1 _ _ => nx s3 (hsv2.tr hv3.sv3) ?_ ?_ ?_)
        · rw [hv3.1 (5, 2, 0) (by decide)]; exact hse2
        · rw [hv3.1 (3, 2, 0) (by decide), e3]; exact hil
        · rw [e]
          refine ⟨fun i hi => by rw [c0 i (by omega)]; exact (hse2 i hi).2, ?_, ?_⟩
          · rw [(c1 _ (by omega)).1]; exact (hval _ hl).1
          · rw [(c1 _ (by omega)).2]; exact (hval _ hl).2
      rcases Nat.eq_zero_or_pos k with rfl | hk0
      · exact br_t rfl (keep rfl)
      · obtain ⟨j, rfl⟩ : ∃ j, k = j + 1 := ⟨k - 1, by omega⟩
        refine br_f (nI_ne0 hk0 (by omega)) ?_
        have hbj := (hbr j rfl).cg hv2
        have hbjl : bestK kd (nI (dg 0)) n j < fct n := Nat.lt_of_le_of_lt (bestK_le j) (by omega)
        have hlb := (ord_perm h1 h6 hbjl).1 (n - 1) (by omega)
        refine s_ends (a := ord n (j + 1) (n - 1)) (b := ord n (bestK kd (nI (dg 0)) n j) (n - 1)) h1 h6 hn2 (by omega) (by omega) (hse2 _ (by omega)).2 (hbj.1 _ (by omega)) ?_
        have w1 : s2.1 (5, 2, 1) (4 * ord n (j + 1) (n - 1)) = bestP kd (nI (dg 0)) n (j + 1) := (hval _ hl).1
        have w2 : s2.1 (5, 2, 2) (4 * ord n (j + 1) (n - 1)) = bestW kd (nI (dg 0)) n (j + 1) := (hval _ hl).2
        rw [hbj.2.1, hbj.2.2, w1, w2]
        by_cases z : bestP kd (nI (dg 0)) n (bestK kd (nI (dg 0)) n j) < bestP kd (nI (dg 0)) n (j + 1) ∨ (bestP kd (nI (dg 0)) n (j + 1) = bestP kd (nI (dg 0)) n (bestK kd (nI (dg 0)) n j) ∧ o_bc (bestW kd (nI (dg 0)) n (j + 1)) < o_bc (bestW kd (nI (dg 0)) n (bestK kd (nI (dg 0)) n j)))
        · rw [if_pos z]
          refine br_f (by decide) (keep ?_)
          rw [bestK]; rw [if_pos z]
        · rw [if_neg z]
          refine br_t rfl (nx s2 hsv2 hse2 (by rw [e3]; exact hil) ?_)
          have : bestK kd (nI (dg 0)) n (j + 1) = bestK kd (nI (dg 0)) n j := by rw [bestK]; rw [if_neg z]
          rw [this]; exact hbj
    · rw [ord_0 h6 hi]
      exact ⟨hi, hse1 i (by omega)⟩
  · exact br_f (by rw [hb]; decide) (h σ h0 hr)
theorem s_has {n : Nat} {σ : SS} {post : Int32 → SS → Prop} (h6 : n ≤ 6) (hn : σ.1 (2, 0, 0) 7 = nI n) (h : post (if 0 < n then 1 else 0) σ) : V_X9_hasSchool σ post := by
  refine s_size hn ?_
  by_cases z : 0 < n
  · rw [if_pos z] at h
    exact br_f (nI_nle z (by omega)) ⟨Or.inr rfl, h⟩
  · rw [if_neg z] at h
    exact br_t (nI_le (a := n) (b := 0) (by omega) (by omega)) ⟨Or.inl rfl, h⟩
theorem Dat.sch {σ : SS} {n L sc : Nat} {kd dg : Nat → Nat} (h : Dat σ n L sc kd dg) : o_sch σ n kd (nI (dg 0)) ∧ o_schM σ n kd (nI (dg 0)) := by
  obtain ⟨⟨h6, hx, hm, hd, hl, hf, hb, hk⟩, -⟩ := h
  exact ⟨⟨h6, hx, (hd 0 (by omega)).2, fun c hc => ⟨(hk c hc).1, (hk c hc).2.1⟩⟩, ⟨h6, hm, hl, fun c hc => ⟨(hk c hc).1, (hk c hc).2.2⟩⟩⟩
theorem Dat.dg0 {σ : SS} {n L sc : Nat} {kd dg : Nat → Nat} (h : Dat σ n L sc kd dg) : ∃ d : Nat, d ≤ 9 ∧ nI (dg 0) = nI d := ⟨dg 0, (h.1.2.2.2.1 0 (by omega)).1, rfl⟩
theorem s_chB {n i : Nat} {x : Int32} {σ : SS} {post : Int32 → SS → Prop} (hn : σ.1 (2, 0, 0) 7 = nI n) (h6 : n ≤ 6) (hx : x = nI i) (hi : i < 6) (h : post (if i < n then 1 else 0) σ) : V_X9_isChild x σ post := by
  by_cases z : i < n
  · rw [if_pos z] at h; exact s_chX hn h6 hx z h
  · rw [if_neg z] at h
    exact s_chXf hn (Or.inr (by rw [hx]; exact nI_le (by omega) (by omega))) h
theorem q_order {σ0 : SS} {n L sc : Nat} {kd dg : Nat → Nat} (hd : Dat σ0 n L sc kd dg) (h1 : 0 < n) {w : Nat} (hw : w < 2 ∨ (10 ≤ w ∧ w < 16)) : Qry σ0 n kd dg (fun σ p => V_X9_order (nI w) σ p) (fun σ p => V_X10_orderNow (nI w) σ p) := by
  have h6 := hd.1.1
  have h720 := fct_le h6
  have hpos := fct_pos n
  have hlo := hd.dg0
  generalize hb : bestK kd (nI (dg 0)) n (fct n - 1) = b
  have hbl : b < fct n := by rw [← hb]; exact Nat.lt_of_le_of_lt (bestK_le _) (by omega)
  have hl := (ord_perm h1 h6 hbl).1 (n - 1) (by omega)
  have okw : OkW (bestW kd (nI (dg 0)) n b) := (les0_ok h1 h6 hbl hlo).2.1 _
  refine ⟨if w = 0 then bestP kd (nI (dg 0)) n b else if w = 1 then o_bc (bestW kd (nI (dg 0)) n b) else if w - 10 < n then nI (ord n b (w - 10)) else -1, fun σ post hs hp => ?_, fun σ post hs hp => ?_⟩
  · -- the class
    have hsch := (hd.sv hs.1).sch.1
    have rest : ∀ x2 : Int32, (x2 = 0 ∧ w < 2 ∨ x2 = 1 ∧ 10 ≤ w ∧ w < 16) → VB_X9_order_32 post (nI w) x2 σ := by
      intro x2 hx2
      refine s_has h6 hsch.2.1 ?_
      rw [if_pos h1]
      refine nb_f (by decide) (s_findB hsch h1 hs (fun s hs' hbr => ?_))
      rw [hb] at hbr
      have hsch' := (hd.sv hs'.1).sch.1
      have hp' := hp s hs'
      rcases hx2 with ⟨rfl, hw2⟩ | ⟨rfl, hw2⟩
      · refine br_t rfl ?_
        rcases Nat.lt_succ_iff_lt_or_eq.mp hw2 with q | q
        · obtain rfl : w = 0 := by omega
          refine nb_t rfl (s_lastP h1 h6 hsch'.2.1 (by omega) (hbr.1 _ (by omega)) ?_)
          rw [hbr.2.1]; exact hp'
        · subst q
          refine nb_f (by decide) (s_lastM h1 h6 hsch'.2.1 (by omega) (hbr.1 _ (by omega)) ?_)
          rw [hbr.2.2]; exact hp'
      · rw [if_neg (by omega), if_neg (by omega)] at hp'
        have ew : nI w - (10 : Int32) = nI (w - 10) := pk_sub (b := 10) hw2.1
        refine br_f (by decide) ?_
        rw [ew]
        refine s_chB (i := w - 10) hsch'.2.1 h6 rfl (by omega) ?_
        by_cases z : w - 10 < n
        · rw [if_pos z] at hp' ⊢
          refine br_f (by decide) (s_childOn (w - 10) rfl (by omega) ?_)
          rw [hbr.1 _ z]; exact hp'
        · rw [if_neg z] at hp' ⊢
          exact br_t rfl hp'
    rcases hw with hw | hw
    · refine br_t ((nI_lt2 (b := 10) (by omega) (by omega)).mpr (by omega)) (s_eiX ?_)
      have : nI w = 0 ∨ nI w = 1 := by
        rcases Nat.lt_succ_iff_lt_or_eq.mp hw with q | q
        · left; rw [show w = 0 by omega]; rfl
        · right; rw [q]; rfl
      rw [if_pos this]
      exact nb_f (by decide) (rest 0 (Or.inl ⟨rfl, hw⟩))
    · refine br_f (fun q => by have := (nI_lt2 (b := 10) (by omega) (by omega)).mp q; omega) (br_f (nI_nle2 (b := 16) hw.2 (by omega)) (s_eiX ?_))
      have : ¬ (nI w = 0 ∨ nI w = 1) := by
        rintro (q | q)
        · have := (nI_eq (b := 0) (by omega) (by omega)).mp q; omega
        · have := (nI_eq (b := 1) (by omega) (by omega)).mp q; omega
      rw [if_neg this]
      exact nb_t rfl (nb_f (by decide) (rest 1 (Or.inr ⟨rfl, hw⟩)))
  · -- the reference
    have hsch := (hd.sv hs.1).sch.2
    refine s_bestM hsch h1 hlo (fun s1 hm1 => ?_)
    rw [hb]
    refine s_try (hsch.mv hm1) h1 rfl hbl (fun s2 hm2 hseat hval => ?_)
    have hm := hm1.tr hm2
    have hn' := (hsch.mv hm).2.1
    have hp' := hp s2 (hm.st hs) hm.2.2.2.2
    have en : ((6 : Int32) + nI n) - 1 = nI (6 + (n - 1)) := by
      rw [show (6 : Int32) = nI 6 from rfl, nI_add, show 6 + n = (6 + (n - 1)) + 1 by omega]; exact nI_pred _
    rw [hn', en]
    refine ⟨vp_in_nI (by omega) (by omega), ?_⟩
    rw [nI_clamp (by omega), hseat (n - 1) (by omega), show (4 : Int32) = nI 4 from rfl, pk_mul, show (24 : Int32) = nI 24 from rfl, nI_add]
    obtain ⟨v1, v2⟩ := hval _ hl
    have v1 : s2.1 (8, 0, 5) (24 + 4 * ord n b (n - 1)) = bestP kd (nI (dg 0)) n b := v1
    have v2 : s2.1 (8, 0, 6) (24 + 4 * ord n b (n - 1)) = bestW kd (nI (dg 0)) n b := v2
    have vin : vp_in (nI (24 + 4 * ord n b (n - 1))) 48 := vp_in_nI (by omega) (by omega)
    refine nm_e ?_
    rcases hw with hw | hw
    · refine br_f (nI_nle2 (b := 2) hw (by omega)) ?_
      rcases Nat.lt_succ_iff_lt_or_eq.mp hw with q | q
      · obtain rfl : w = 0 := by omega
        refine nb_t rfl ⟨vin, ?_⟩
        rw [nI_clamp (by omega), v1]; exact hp'
      · subst q
        refine nb_f (by decide) ⟨vin, ?_⟩
        rw [nI_clamp (by omega), v2]
        refine s_size6 ?_
        rw [okW_bc okw]; exact hp'
    · rw [if_neg (by omega), if_neg (by omega)] at hp'
      have ew : nI w - (10 : Int32) = nI (w - 10) := pk_sub (b := 10) hw.1
      have ew2 : ((6 : Int32) + nI w) - (10 : Int32) = nI (6 + (w - 10)) := by
        rw [show (6 : Int32) = nI 6 from rfl, nI_add, show (10 : Int32) = nI 10 from rfl, pk_sub (by omega), show 6 + w - 10 = 6 + (w - 10) by omega]
      refine br_t (nI_le (a := 2) (by omega) (by omega)) ?_
      rw [ew, ew2]
      by_cases z : w - 10 < n
      · rw [if_pos z] at hp'
        refine br_f (nI_nle2 z (by omega)) ⟨vp_in_nI (by omega) (by omega), ?_⟩
        rw [nI_clamp (by omega), hseat _ z]; exact hp'
      · rw [if_neg z] at hp'
        exact br_t (nI_le (by omega) (by omega)) hp'
