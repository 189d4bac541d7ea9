/-! who may be sick -/
def fitF (tl q : Nat → Int32) : Nat → Bool
  | 0 => true
  | c + 1 => fitF tl q c && (decide (tl c = -1) || decide (tl c = if q (4 * c) ≤ 0 then 0 else 1))
theorem fitF_no {tl q : Nat → Int32} {c : Nat} (h : fitF tl q c = false) : ∀ {n : Nat}, c ≤ n → fitF tl q n = false := by
  intro n hn
  obtain ⟨d, rfl⟩ := Nat.le.dest hn
  clear hn
  induction d with
  | zero => exact h
  | succ d ih => show (fitF tl q (c + d) && _) = false; rw [ih]; rfl
/-- what all know of subject 0 when those of il' are ill -/
def skQ (kd : Nat → Nat) (lo : Int32) (p : Nat → Nat) (n il' : Nat) : Nat → Int32 := (t_les kd lo 0 0 p (ilB il') n (fun _ => 0) (fun _ => 0)).1
def skF (kd : Nat → Nat) (lo : Int32) (p : Nat → Nat) (n : Nat) (tl : Nat → Int32) : Nat → Int32 × Int32
  | 0 => (0, nI (2 ^ n - 1))
  | m + 1 => if fitF tl (skQ kd lo p n m) n then ((skF kd lo p n tl m).1 + 1, (skF kd lo p n tl m).2 &&& nI m) else skF kd lo p n tl m
theorem s_told {r n : Nat} {tl q : Nat → Int32} {σ : SS} {post : Int32 → SS → Prop} (h6 : n ≤ 6) (hn : σ.1 (2, 0, 0) 7 = nI n) (ht : ∀ c, c < n → σ.1 (5, r, 3) c = tl c) (hq : ∀ c, c < n → σ.1 (5, r, 1) (4 * c) = q (4 * c)) (h : post (if fitF tl q n then 1 else 0) σ) : V_X4_isAsTold r σ post := by
  refine o_cntI n (fun i a s => a = nI i ∧ s = σ ∧ fitF tl q i = true) (fun K a s hI => ?_) (fun K i a s hi hI hK => ?_) (Nat.zero_le _) ⟨rfl, rfl, rfl⟩
  · obtain ⟨rfl, rfl, hf⟩ := hI
    refine s_size hn (br_t (nI_le (Nat.le_refl _) (by omega)) ?_)
    rw [if_pos hf] at h; exact h
  · obtain ⟨rfl, rfl, hf⟩ := hI
    refine s_size hn (br_f (nI_nle2 hi (by omega)) (s_parts i 0 rfl rfl (by omega) (by omega) ?_))
    rw [Nat.add_zero, hq i hi]
    have body : ∀ t : Int32, t = (if q (4 * i) ≤ 0 then 0 else 1) → VB_X4_isAsTold_27 r post (fun x1 σ => K x1 σ) (nI i) t s := by
      intro t htt
      have yes : (tl i = -1 ∨ tl i = t) → VB_X4_isAsTold_54 r post (fun x1 σ => K x1 σ) (nI i) s := by
        intro z
        show K _ _
        rw [nI_1]
        refine hK _ _ ⟨rfl, rfl, ?_⟩
        rw [fitF, hf, ← htt]
        rcases z with z | z
        · rw [decide_eq_true z]; rfl
        · rw [decide_eq_true z, Bool.or_true]; rfl
      refine s_at5 i rfl (show i < 6 by omega) ?_
      rw [ht i hi]
      refine ⟨fun z => yes (Or.inl z), fun z => s_at5 i rfl (show i < 6 by omega) ?_⟩
      rw [ht i hi]
      refine ⟨fun z2 => yes (Or.inr z2), fun z2 => ?_⟩
      have : fitF tl q (i + 1) = false := by rw [fitF, ← htt, decide_eq_false z, decide_eq_false z2]; simp
      rw [if_neg (by rw [fitF_no this hi]; decide)] at h
      exact h
    by_cases z : q (4 * i) ≤ 0
    · exact br_t z (body 0 (by rw [if_pos z]))
    · exact br_f z (body 1 (by rw [if_neg z]))
theorem shl_n : ∀ n, n ≤ 6 → (1 : Int32) <<< (nI n &&& 31) = nI (2 ^ n) := by decide +kernel
theorem pow_n : ∀ n, n ≤ 6 → 0 < 2 ^ n ∧ 2 ^ n ≤ 64 := by decide
theorem s_sickSo {n il' : Nat} {kd p : Nat → Nat} {lo x : Int32} {tl : Nat → Int32} {σ : SS} {post : Int32 → SS → Prop} (hs : o_schM σ n kd lo) (hse : o_seatsM σ 6 n p) (hil : il' < 64) (ht : ∀ c, c < n → σ.1 (8, 0, 4) c = tl c) (hx : x = nI il') (h : ∀ s, Mv σ s → s.1 (8, 0, 7) = σ.1 (8, 0, 7) → post (if fitF tl (skQ kd lo p n il') n then 1 else 0) s) : V_X10_isSickSo x σ post := by
  subst hx
  have h6 := hs.1
  refine s_clear ?_
  have m1 : Mv σ (o_pw σ (zrF (σ.1 (8, 0, 5)) 24 48) (zrF (σ.1 (8, 0, 6)) 24 48)) := Mv.pw (fun k hk => by unfold zrF; rw [if_neg (by omega), if_neg (by omega)]; exact ⟨rfl, rfl⟩)
  refine m_teach (b := 24) (s := 6) (sb := 0) (P := fun _ => 0) (W := fun _ => 0) (hs.mv m1) (fun k hk => ⟨(hse k hk).1, by rw [o_pwN _ _ _ (by decide) (by decide)]; exact (hse k hk).2⟩) (illB_B h6 hil) (fun k hk => by rw [o_pw5, o_pw6]; unfold zrF; rw [if_pos (by omega), if_pos (by omega)]; exact ⟨rfl, rfl⟩) rfl rfl rfl (by omega) (Or.inr rfl) (Or.inr rfl) (fun s hb h24 htm => ?_)
  have hm := m1.tr (hb.mv (h24 rfl))
  have e7 : s.1 (8, 0, 7) = σ.1 (8, 0, 7) := by rw [hb.1 _ (by decide), o_pwN _ _ _ (by decide) (by decide)]
  have hp := h s hm e7
  have hq : ∀ c, c < n → s.1 (8, 0, 5) (24 + 4 * c) = skQ kd lo p n il' (4 * c) := fun c hc => (htm (4 * c) (by omega)).1
  have ht' : ∀ c, c < n → s.1 (8, 0, 4) c = tl c := fun c hc => by rw [hm.1 _ (by decide)]; exact ht c hc
  have hn := (hs.mv hm).2.1
  generalize skQ kd lo p n il' = q at hp hq
  refine o_cnt n (fun i => (if fitF tl q i then 1 else 0, nI i)) (fun _ => s) (fun K => ?_) (fun K i hi hK => ?_) (Nat.zero_le _) rfl rfl
  · exact br_t (by rw [hn]; exact nI_le (Nat.le_refl _) (by omega)) ⟨if01 _, hp⟩
  · refine br_f (by rw [hn]; exact nI_nle2 hi (by omega)) ?_
    have ec : (24 : Int32) + (4 : Int32) * nI i = nI (24 + 4 * i) := by
      rw [show (4 : Int32) = nI 4 from rfl, pk_mul, show (24 : Int32) = nI 24 from rfl, nI_add]
    rw [ec]
    refine ⟨vp_in_nI (by omega) (by omega), ?_⟩
    rw [nI_clamp (by omega), hq i hi]
    have hcl : (nI i).toNatClampNeg = i := nI_clamp (by omega)
    have body : ∀ t : Int32, t = (if q (4 * i) ≤ 0 then 0 else 1) → VB_X10_isSickSo_47 post (fun x2 x3 σ => K (x2, x3) σ) (if fitF tl q i then 1 else 0) (nI i) t s := by
      intro t htt
      have yes : fitF tl q (i + 1) = true → VB_X10_isSickSo_74 post (fun x2 x3 σ => K (x2, x3) σ) (nI i) s := by
        intro z
        show K (_, _) _
        exact o_Ke hK (by rw [if_pos z, nI_1]) rfl
      have no : fitF tl q (i + 1) = false → VB_X10_isSickSo_78 post (fun x2 x3 σ => K (x2, x3) σ) (nI i) s := by
        intro z
        show K (_, _) _
        exact o_Ke hK (by rw [if_neg (by rw [z]; decide), nI_1]) rfl
      cases hf : fitF tl q i with
      | false => exact br_t (by rw [if_neg (by decide)]) (no (fitF_no hf (by omega)))
      | true =>
        refine br_f (by rw [if_pos rfl]; decide) ⟨vp_in_nI (by omega) (by omega), ?_⟩
        rw [hcl, ht' i hi]
        refine ⟨fun z => yes (by rw [fitF, hf, decide_eq_true z]; rfl), fun z => ⟨vp_in_nI (by omega) (by omega), ?_⟩⟩
        exact ⟨fun z2 => no (by rw [fitF, hf, ← htt, decide_eq_false z, decide_eq_false z2]; rfl), fun z2 => yes (by rw [fitF, hf, ← htt, decide_eq_true z2, Bool.or_true]; rfl)⟩
    by_cases z : q (4 * i) ≤ 0
    · exact br_t z (body 0 (by rw [if_pos z]))
    · exact br_f z (body 1 (by rw [if_neg z]))
theorem q_sick {σ0 : SS} {n L sc : Nat} {kd dg : Nat → Nat} (hd : Dat σ0 n L sc kd dg) (h1 : 0 < n) {w : Nat} (hw : w < 2) : Qry σ0 n kd dg (fun σ p => V_X9_sick (nI w) σ p) (fun σ p => V_X10_sickNow (nI w) σ p) := by
  have h6 := hd.1.1
  obtain ⟨p, P, W, il, tl, hp, hg, hil, -, hfx⟩ := hd.fx
  obtain ⟨hp0, hp64⟩ := pow_n n h6
  have hw01 : nI w = 0 ∨ nI w = 1 := by
    rcases Nat.lt_succ_iff_lt_or_eq.mp hw with q | q
    · left; rw [show w = 0 by omega]; rfl
    · right; rw [q]; rfl
  have e1 : (1 : Int32) <<< (nI n &&& 31) - 1 = nI (2 ^ n - 1) := by rw [shl_n n h6, show (1 : Int32) = nI 1 from rfl, pk_sub (by omega)]
  generalize hA : skF kd (nI (dg 0)) p n tl (2 ^ n) = A
  refine ⟨if w = 0 then A.1 else if A.1 = 0 then 0 else A.2, fun σ post hs hpo => ?_, fun σ post hs hpo => ?_⟩
  · have hsch := (hd.sv hs.1).sch.1
    refine s_eiX ?_
    rw [if_pos hw01]
    refine nb_f (by decide) (s_has h6 hsch.2.1 ?_)
    rw [if_pos h1]
    refine nb_f (by decide) (s_size hsch.2.1 ?_)
    rw [e1]
    refine nm_e (s_copy2 h6 (hfx σ hs.1) (fun s1 hv1 hse1 _ _ htl1 => ?_))
    refine o_cntI (2 ^ n) (fun i a s => a = (nI w, (skF kd (nI (dg 0)) p n tl i).1, (skF kd (nI (dg 0)) p n tl i).2, nI i) ∧ RowV 2 σ s ∧ o_sit (s.1 (5, 2, 0)) n p ∧ (∀ c, c < n → s.1 (5, 2, 3) c = tl c)) (fun K a s hI => ?_) (fun K i a s hi hI hK => ?_) (Nat.zero_le _) ⟨rfl, hv1, hse1, htl1⟩
    · obtain ⟨rfl, hv, -, -⟩ := hI
      refine s_size (hsch.sv hv.sv).2.1 ?_
      rw [shl_n n h6]
      refine br_t (nI_le (Nat.le_refl _) (by omega)) ?_
      have hpo := hpo s (hv.st hs)
      rw [← hA] at hpo
      rcases Nat.lt_succ_iff_lt_or_eq.mp hw with q | q
      · obtain rfl : w = 0 := by omega
        exact nb_t rfl hpo
      · subst q
        refine nb_f (show ¬ nI 1 = 0 by decide) ?_
        rw [if_neg (by omega)] at hpo
        by_cases z : (skF kd (nI (dg 0)) p n tl (2 ^ n)).1 = 0
        · rw [if_pos z] at hpo; exact nb_t z hpo
        · rw [if_neg z] at hpo; exact nb_f z hpo
    · obtain ⟨rfl, hv, hse, htl⟩ := hI
      refine s_size (hsch.sv hv.sv).2.1 ?_
      rw [shl_n n h6]
      refine br_f (nI_nle2 hi (by omega)) ?_
      have hv2 : RowV 2 s (o_wr s (3, 2, 0) 5 (nI i)) := RowV.wa (rowL0 2)
      refine s_nothing (kd := kd) (p := p) (ill := ilB i) (lo := nI (dg 0)) (hsch.sv (hv.tr hv2).sv) (fun k hk => by rw [o_wr_ne _ _ _ (by decide)]; exact hse k hk) (ills_B h6 (by omega) (by rw [o_wr_at, upd_at])) (fun P' W' hz t htt => ?_)
      have hv3 : RowV 2 σ (o_row (o_wr s (3, 2, 0) 5 (nI i)) 2 t.1 t.2.1) := hv.tr (hv2.tr RowV.row)
      have rel : t_rel n 0 0 t (t_les kd (nI (dg 0)) 0 0 p (ilB i) n (fun _ => 0) (fun _ => 0)) := by
        rw [htt]; exact t_les_rel hp.1 (fun c hc => hz c hc)
      refine s_told (tl := tl) (q := skQ kd (nI (dg 0)) p n i) h6 (hsch.sv hv3.sv).2.1 (fun c hc => ?_) (fun c hc => ?_) ?_
      · rw [o_rowN _ _ _ _ (by decide) (by decide), o_wr_ne _ _ _ (by decide)]; exact htl c hc
      · rw [o_row1]; exact (rel.1 c hc).1
      · have nx : ∀ a, a = skF kd (nI (dg 0)) p n tl (i + 1) → K (nI w, a.1, a.2, nI i + 1) (o_row (o_wr s (3, 2, 0) 5 (nI i)) 2 t.1 t.2.1) := by
          intro a ha
          rw [ha, nI_1]
          refine hK _ _ ⟨rfl, hv3, ?_, fun c hc => ?_⟩
          · rw [o_rowN _ _ _ _ (by decide) (by decide), o_wr_ne _ _ _ (by decide)]; exact hse
          · rw [o_rowN _ _ _ _ (by decide) (by decide), o_wr_ne _ _ _ (by decide)]; exact htl c hc
        cases hf : fitF tl (skQ kd (nI (dg 0)) p n i) n with
        | true =>
          rw [if_pos rfl]
          exact br_f (by decide) (nx (_, _) (by rw [skF, if_pos hf]))
        | false =>
          rw [if_neg (by decide)]
          exact br_t rfl (nx (_, _) (by rw [skF, if_neg (by rw [hf]; decide)]))
  · have hsch := (hd.sv hs.1).sch.2
    have hF := hfx σ hs.1
    show V_X10_sickNow (nI w) σ post
    unfold V_X10_sickNow
    rw [hsch.2.1, e1]
    refine nm_e ?_
    refine o_cnt n (fun i => (nI w, 0, nI (2 ^ n - 1), nI i)) (fun i => o_wa σ (8, 0, 7) (c6F (σ.1 (8, 0, 7)) i)) (fun K => ?_) (fun K i hi hK => ?_) (Nat.zero_le _) rfl (by rw [c6F_0, o_wa_id])
    · have hm1 : Mv σ (o_wa σ (8, 0, 7) (c6F (σ.1 (8, 0, 7)) n)) := Mv.w7 (fun j hj => c6F_lo hj)
      have hse1 : o_seatsM (o_wa σ (8, 0, 7) (c6F (σ.1 (8, 0, 7)) n)) 6 n p := fun k hk => ⟨hp.1 k hk, by rw [o_wa_at, c6F_hi hk]; exact hF.sm k hk⟩
      refine br_t (by rw [o_wa_ne _ _ (by decide), hsch.2.1]; exact nI_le (Nat.le_refl _) (by omega)) ?_
      generalize o_wa σ (8, 0, 7) (c6F (σ.1 (8, 0, 7)) n) = s1 at hm1 hse1
      refine o_cntI (2 ^ n) (fun i a s => a = (nI w, (skF kd (nI (dg 0)) p n tl i).1, (skF kd (nI (dg 0)) p n tl i).2, nI i) ∧ Mv s1 s ∧ s.1 (8, 0, 7) = s1.1 (8, 0, 7)) (fun K2 a s hI => ?_) (fun K2 i a s hi hI hK2 => ?_) (Nat.zero_le _) ⟨rfl, Mv.rf _, rfl⟩
      · obtain ⟨rfl, hm, -⟩ := hI
        have hmv := hm1.tr hm
        refine br_t (by rw [(hsch.mv hmv).2.1, shl_n n h6]; exact nI_le (Nat.le_refl _) (by omega)) ?_
        have hpo := hpo s (hmv.st hs) hmv.2.2.2.2
        rw [← hA] at hpo
        rcases Nat.lt_succ_iff_lt_or_eq.mp hw with q | q
        · obtain rfl : w = 0 := by omega
          exact nb_t rfl hpo
        · subst q
          refine nb_f (show ¬ nI 1 = 0 by decide) ?_
          rw [if_neg (by omega)] at hpo
          by_cases z : (skF kd (nI (dg 0)) p n tl (2 ^ n)).1 = 0
          · rw [if_pos z] at hpo; exact nb_t z hpo
          · rw [if_neg z] at hpo; exact nb_f z hpo
      · obtain ⟨rfl, hm, e7⟩ := hI
        have hmv := hm1.tr hm
        refine br_f (by rw [(hsch.mv hmv).2.1, shl_n n h6]; exact nI_nle2 hi (by omega)) ?_
        refine s_sickSo (il' := i) (tl := tl) (hsch.mv hmv) (fun k hk => by rw [e7]; exact hse1 k hk) (by omega) (fun c hc => by rw [hmv.1 _ (by decide)]; exact hF.lm c hc) rfl (fun s' hm' e7' => ?_)
        have nx : ∀ a, a = skF kd (nI (dg 0)) p n tl (i + 1) → K2 (nI w, a.1, a.2, nI i + 1) s' := by
          intro a ha
          rw [ha, nI_1]
          exact hK2 _ _ ⟨rfl, hm.tr hm', e7'.trans e7⟩
        cases hf : fitF tl (skQ kd (nI (dg 0)) p n i) n with
        | true =>
          rw [if_pos rfl]
          exact br_f (by decide) (nx (_, _) (by rw [skF, if_pos hf]))
        | false =>
          rw [if_neg (by decide)]
          exact br_t rfl (nx (_, _) (by rw [skF, if_neg (by rw [hf]; decide)]))
    · unfold VB_X10_sickNow_14
      rw [o_wa_ne _ _ (by decide), hsch.2.1]
      refine br_f (nI_nle2 hi (by omega)) ?_
      rw [show (6 : Int32) + nI i = nI (6 + i) from nI_add 6 i]
      refine ⟨vp_in_nI (by omega) (by omega), vp_in_nI (by omega) (by omega), ?_⟩
      rw [nI_clamp (by omega), nI_clamp (by omega), o_wr_wr, o_wa_at, o_wa_wa, c6F_lo (by omega), c6F_1]
      show K (_, _, _, _) _
      exact o_Ke hK (by rw [nI_1]) rfl
