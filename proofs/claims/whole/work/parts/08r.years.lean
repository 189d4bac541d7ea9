/-! years: seeds and draws -/
def nxS (s : Int64) : Int64 := ((1103515245 : Int64) * s + 12345) &&& 2147483647
def dv (s : Int64) (k : Nat) : Int32 := ((s / 65536) - (s / 65536) / (nI k).toInt64 * (nI k).toInt64).toInt32
def dN (s : Int64) (k : Nat) : Nat := (dv s k).toNatClampNeg
theorem and31 (x : Int64) : ∃ m : Nat, m < 2 ^ 31 ∧ x &&& 2147483647 = lN m := by
  refine ⟨(x.toUInt64.toNat &&& 2147483647), ?_, ?_⟩
  · exact Nat.lt_of_le_of_lt Nat.and_le_right (by decide)
  · apply Int64.toBitVec_inj.mp
    apply BitVec.eq_of_toNat_eq
    have h2 : (x.toUInt64.toNat &&& 2147483647) < 2 ^ 31 := Nat.lt_of_le_of_lt Nat.and_le_right (by decide)
    rw [Int64.toBitVec_and, BitVec.toNat_and]
    show x.toBitVec.toNat &&& 2147483647 = (BitVec.ofNat 64 (x.toUInt64.toNat &&& 2147483647)).toNat
    rw [BitVec.toNat_ofNat, Nat.mod_eq_of_lt (Nat.lt_of_lt_of_le h2 (by decide))]
    rfl
theorem lN_low (n : Nat) (h : n < 2 ^ 31) : (lN n).toInt32 = nI n := by
  rw [← nI_l h, Int32.toInt32_toInt64]
theorem dv_ok (s : Int64) {k : Nat} (h0 : 0 < k) (hk : k ≤ 6) : dN (nxS s) k < k ∧ dv (nxS s) k = nI (dN (nxS s) k) := by
  obtain ⟨m, hm, e⟩ := and31 ((1103515245 : Int64) * s + 12345)
  have hlt : m / 65536 % k < k := Nat.mod_lt _ h0
  have e2 : dv (nxS s) k = nI (m / 65536 % k) := by
    unfold dv nxS
    rw [e, nI_l (by omega), show (65536 : Int64) = lN 65536 from rfl, pk_lDiv (by omega) (by omega) (by omega), pk_lRem (by omega) h0 (by omega), lN_low _ (by omega)]
  have e3 : dN (nxS s) k = m / 65536 % k := by unfold dN; rw [e2, nI_clamp (by omega)]
  rw [e3]; exact ⟨hlt, e2⟩
abbrev yS : Type := Int64 × (Nat → Nat) × (Nat → Int32) × (Nat → Int32)
def yr1 (kd : Nat → Nat) (lo fg : Int32) (ill : Nat → Bool) (n : Nat) (y : yS) : yS :=
  if dN (nxS y.1) 6 < 4 then (nxS y.1, y.2.1, (t_les kd lo 0 (dN (nxS y.1) 6) y.2.1 ill n y.2.2.1 y.2.2.2).1, (t_les kd lo 0 (dN (nxS y.1) 6) y.2.1 ill n y.2.2.1 y.2.2.2).2.1)
  else if dN (nxS y.1) 6 = 4 then (nxS y.1, y.2.1, (sm_go kd fg 0 y.2.2.1 y.2.2.2 (4 * n)).1, (sm_go kd fg 0 y.2.2.1 y.2.2.2 (4 * n)).2.1)
  else (nxS (nxS (nxS y.1)), swF y.2.1 (dN (nxS (nxS y.1)) n) (dN (nxS (nxS (nxS y.1))) n), y.2.2.1, y.2.2.2)
def yrF (kd : Nat → Nat) (lo fg : Int32) (ill : Nat → Bool) (n : Nat) (y : yS) : Nat → yS
  | 0 => y
  | i + 1 => yr1 kd lo fg ill n (yrF kd lo fg ill n y i)
def yOk (n : Nat) (y : yS) : Prop := (∀ k, k < n → y.2.1 k < n) ∧ Gd n y.2.2.1 y.2.2.2
theorem yr1_ok {kd : Nat → Nat} {lo fg : Int32} {ill : Nat → Bool} {n : Nat} {y : yS} (h1 : 0 < n) (h6 : n ≤ 6) (hlo : ∃ d : Nat, d ≤ 9 ∧ lo = nI d) (hfg : ∃ d : Nat, d ≤ 9 ∧ fg = nI d) (h : yOk n y) : yOk n (yr1 kd lo fg ill n y) := by
  unfold yr1
  by_cases z : dN (nxS y.1) 6 < 4
  · rw [if_pos z]; exact ⟨h.1, h.2.les h6 h.1 z hlo⟩
  · rw [if_neg z]
    by_cases z2 : dN (nxS y.1) 6 = 4
    · rw [if_pos z2]; exact ⟨h.1, sm_ok hfg h.2 _ (Nat.le_refl _)⟩
    · rw [if_neg z2]
      refine ⟨fun k hk => ?_, h.2⟩
      have a := (dv_ok (nxS y.1) h1 h6).1
      have b := (dv_ok (nxS (nxS y.1)) h1 h6).1
      dsimp only
      unfold swF
      split
      · exact h.1 _ a
      · split
        · exact h.1 _ b
        · exact h.1 k hk
theorem yrF_ok {kd : Nat → Nat} {lo fg : Int32} {ill : Nat → Bool} {n : Nat} {y : yS} (h1 : 0 < n) (h6 : n ≤ 6) (hlo : ∃ d : Nat, d ≤ 9 ∧ lo = nI d) (hfg : ∃ d : Nat, d ≤ 9 ∧ fg = nI d) (h : yOk n y) : ∀ i, yOk n (yrF kd lo fg ill n y i)
  | 0 => h
  | i + 1 => yr1_ok h1 h6 hlo hfg (yrF_ok h1 h6 hlo hfg h i)
theorem s_drX {s : Int64} {k : Nat} {σ : SS} {post : Int32 → SS → Prop} (h0 : 0 < k) (hk : k ≤ 6) (h : post (dv s k) σ) : V_X9_draw s (nI k) σ post := by
  refine br_f (nI_nle h0 (by omega)) ⟨?_, h⟩
  rw [nI_l (by omega)]
  intro q
  have := (pk_lEQ (b := 0) (by omega) (by omega)).mp q
  omega
theorem x_year {n i T : Nat} {kd : Nat → Nat} {lo fg : Int32} {il : Nat} {y : yS} {σ : SS} {post : Int64 → SS → Prop} {K : Int32 → Int64 → Int32 → SS → Prop} (hs : o_sch σ n kd lo) (h1 : 0 < n) (hil : il < 64) (hfg : σ.1 (11, 0, 1) 1 = fg) (hT : i < T) (hT2 : T ≤ 60) (hse : o_sit (σ.1 (5, 2, 0)) n y.2.1) (hi : σ.1 (3, 2, 0) 5 = nI il) (ht : TX 2 σ y.2.2.1 y.2.2.2)
    (h : ∀ y', y' = yr1 kd lo fg (ilB il) n y → ∀ s, RowV 2 σ s → o_sit (s.1 (5, 2, 0)) n y'.2.1 → s.1 (3, 2, 0) 5 = nI il → TX 2 s y'.2.2.1 y'.2.2.2 → K (nI T) y'.1 (nI (i + 1)) s) : VB_X9_tryYears_6 post K (nI T) y.1 (nI i) σ := by
  have h6 := hs.1
  refine br_f (nI_nle2 hT (by omega)) ?_
  show V_X9_draw (nxS y.1) (nI 6) σ _
  refine s_drX (by omega) (by omega) ?_
  obtain ⟨d6, e6⟩ := dv_ok y.1 (k := 6) (by omega) (by omega)
  rw [e6]
  unfold yr1 at h
  by_cases z : dN (nxS y.1) 6 < 4
  · rw [if_pos z] at h
    refine br_f (nI_nle2 (b := 4) z (by omega)) (x_teach hs (fun k hk => hse k hk) (ills_B h6 hil hi) ht rfl z (fun s hv e0 e3 e5 htx => ?_))
    show K _ _ (nI i + 1) _
    rw [nI_1]
    exact h _ rfl s hv (by rw [e0]; exact hse) (by rw [e5]; exact hi) htx
  · rw [if_neg z] at h
    refine br_t (nI_le (a := 4) (by omega) (by omega)) ?_
    by_cases z2 : dN (nxS y.1) 6 = 4
    · rw [if_pos z2] at h
      refine nb_t (by rw [z2]; rfl) (x_summer hs hfg ht (fun s hv e0 e3 e5 htx => ?_))
      show K _ _ (nI i + 1) _
      rw [nI_1]
      exact h _ rfl s hv (by rw [e0]; exact hse) (by rw [e5]; exact hi) htx
    · rw [if_neg z2] at h
      refine nb_f (fun q => z2 ((nI_eq (b := 4) (by omega) (by omega)).mp q)) ?_
      obtain ⟨da, ea⟩ := dv_ok (nxS y.1) h1 h6
      obtain ⟨db, eb⟩ := dv_ok (nxS (nxS y.1)) h1 h6
      show V_X5_size σ (fun v89 s89 => V_X9_draw (nxS (nxS y.1)) v89 s89 (fun v92 s92 => V_X5_size s92 (fun v101 s101 => V_X9_draw (nxS (nxS (nxS y.1))) v101 s101 (fun v104 s104 => V_X4_changeSeats 2 v92 v104 s104 (fun s107 => VB_X9_tryYears_110 post K (nI T) (nxS (nxS (nxS y.1))) (nI i) s107)))))
      refine s_size hs.2.1 ?_
      refine s_drX h1 h6 (s_size hs.2.1 ?_)
      refine s_drX h1 h6 (s_chg ea eb (by omega) (by omega) ?_)
      show K _ _ (nI i + 1) _
      rw [nI_1]
      refine h _ rfl _ (RowV.wa (rowL1 2)) ?_ (by rw [o_wa_ne _ _ (by decide)]; exact hi) ?_
      · rw [o_wa_at]; exact hse.sw da db
      · unfold TX; rw [o_wa_ne _ _ (by decide), o_wa_ne _ _ (by decide)]; exact ht
theorem Mv.w16 {σ : SS} {v : Int64} : Mv σ (o_wl8 σ 16 v) := ⟨fun _ _ => rfl, fun _ _ _ => rfl, fun _ _ => ⟨rfl, rfl⟩, fun _ _ => rfl, rfl⟩
theorem s_drM {k : Nat} {x : Int32} {σ : SS} {post : Int32 → SS → Prop} (h0 : 0 < k) (hk : k ≤ 6) (hx : x = nI k) (h : post (dv (nxS (σ.2 16)) k) (o_wl8 σ 16 (nxS (σ.2 16)))) : V_X10_draw x σ post := by
  subst hx
  refine ⟨?_, h⟩
  rw [nI_l (by omega)]
  intro q
  have := (pk_lEQ (b := 0) (by omega) (by omega)).mp q
  omega
theorem m_year {n il : Nat} {kd : Nat → Nat} {lo fg : Int32} {y : yS} {σ : SS} {post : SS → Prop} (hs : o_schM σ n kd lo) (h1 : 0 < n) (hil : il < 2 ^ n) (hfg : σ.1 (7, 0, 0) 2 = fg) (him : ∀ c, c < n → σ.1 (8, 0, 3) c = nI (il / 2 ^ c % 2)) (hsd : σ.2 16 = y.1) (hse : o_seatsM σ 6 n y.2.1) (ht : TM 24 σ y.2.2.1 y.2.2.2)
    (h : ∀ y', y' = yr1 kd lo fg (ilB il) n y → ∀ s, Mv σ s → s.2 16 = y'.1 → o_seatsM s 6 n y'.2.1 → TM 24 s y'.2.2.1 y'.2.2.2 → post s) : V_X10_goYear σ post := by
  have h6 := hs.1
  refine s_drM (k := 6) (by omega) (by omega) rfl ?_
  rw [hsd]
  obtain ⟨d6, e6⟩ := dv_ok y.1 (k := 6) (by omega) (by omega)
  rw [e6]
  have m1 : Mv σ (o_wl8 σ 16 (nxS y.1)) := Mv.w16
  have s1 : (o_wl8 σ 16 (nxS y.1)).2 16 = nxS y.1 := rfl
  have c1 : ∀ i, (o_wl8 σ 16 (nxS y.1)).1 i = σ.1 i := fun _ => rfl
  unfold yr1 at h
  by_cases z : dN (nxS y.1) 6 < 4
  · rw [if_pos z] at h
    refine br_f (nI_nle2 (b := 4) z (by omega)) (s_illSet hs.2.1 h6 hil him ?_)
    refine m_teach (b := 24) (s := 6) (hs.mv m1) hse (illB_B h6 (pow6 h6 hil)) ht rfl rfl rfl z (Or.inr rfl) (Or.inr rfl) (fun s hb h24 htm => ?_)
    refine h _ rfl s (m1.tr (hb.mv (h24 rfl))) (by rw [hb.2.2]; rfl) (fun k hk => ?_) htm
    rw [hb.1 _ (by decide)]; exact hse k hk
  · rw [if_neg z] at h
    refine br_t (nI_le (a := 4) (by omega) (by omega)) ?_
    by_cases z2 : dN (nxS y.1) 6 = 4
    · rw [if_pos z2] at h
      refine nb_t (by rw [z2]; rfl) (m_summer (b := 24) (hs.mv m1) hfg ht rfl (Or.inr rfl) (fun s hb h24 htm => ?_))
      refine h _ rfl s (m1.tr (hb.mv (h24 rfl))) (by rw [hb.2.2]; rfl) (fun k hk => ?_) htm
      rw [hb.1 _ (by decide)]; exact hse k hk
    · rw [if_neg z2] at h
      refine nb_f (fun q => z2 ((nI_eq (b := 4) (by omega) (by omega)).mp q)) ?_
      obtain ⟨da, ea⟩ := dv_ok (nxS y.1) h1 h6
      obtain ⟨db, eb⟩ := dv_ok (nxS (nxS y.1)) h1 h6
      refine s_drM (k := n) h1 h6 hs.2.1 ?_
      refine s_drM (k := n) h1 h6 hs.2.1 ?_
      have t1 : (o_wl8 (o_wl8 σ 16 (nxS y.1)) 16 (nxS ((o_wl8 σ 16 (nxS y.1)).2 16))) = o_wl8 σ 16 (nxS (nxS y.1)) := by
        refine Prod.ext rfl (funext fun k => ?_)
        by_cases e : k = 16 <;> simp [o_wl8, e]
      rw [t1]
      have t2 : (o_wl8 (o_wl8 σ 16 (nxS (nxS y.1))) 16 (nxS ((o_wl8 σ 16 (nxS (nxS y.1))).2 16))) = o_wl8 σ 16 (nxS (nxS (nxS y.1))) := by
        refine Prod.ext rfl (funext fun k => ?_)
        by_cases e : k = 16 <;> simp [o_wl8, e]
      rw [t2]
      rw [show dv (nxS ((o_wl8 σ 16 (nxS y.1)).2 16)) n = nI (dN (nxS (nxS y.1)) n) from ea, show dv (nxS ((o_wl8 σ 16 (nxS (nxS y.1))).2 16)) n = nI (dN (nxS (nxS (nxS y.1))) n) from eb]
      generalize dN (nxS (nxS y.1)) n = a at *
      generalize dN (nxS (nxS (nxS y.1))) n = b at *
      rw [show (6 : Int32) + nI a = nI (6 + a) from nI_add 6 a, show (6 : Int32) + nI b = nI (6 + b) from nI_add 6 b, nI_clamp (by omega), nI_clamp (by omega)]
      have va : vp_in (nI (6 + a)) 12 := vp_in_nI (by omega) (by omega)
      have vb : vp_in (nI (6 + b)) 12 := vp_in_nI (by omega) (by omega)
      refine ⟨va, nm_e ⟨vb, va, vb, ?_⟩⟩
      have m3 : Mv σ (o_wl8 σ 16 (nxS (nxS (nxS y.1)))) := Mv.w16
      rw [show (o_wl8 σ 16 (nxS (nxS (nxS y.1)))).1 = σ.1 from rfl, o_wr_wr, o_wr_wr, o_wa_at, o_wa_wa, show (o_wl8 σ 16 (nxS (nxS (nxS y.1)))).1 = σ.1 from rfl]
      refine h _ rfl _ (m3.tr (Mv.w7 (fun j hj => by rw [upd_ne (by omega), upd_ne (by omega)]; rfl))) rfl (fun k hk => ?_) ?_
      · rw [o_wa_at]
        dsimp only
        have := (show o_sit (fun k => σ.1 (8, 0, 7) (6 + k)) n y.2.1 from hse).sw da db k hk
        refine ⟨this.1, ?_⟩
        rw [← this.2]
        by_cases e1 : k = b
        · subst e1; rw [upd_at, upd_at]
        · rw [upd_ne e1, upd_ne (by omega)]
          by_cases e2 : k = a
          · subst e2; rw [upd_at, upd_at]
          · rw [upd_ne e2, upd_ne (by omega)]
      · unfold TM; rw [o_wa_ne _ _ (by decide), o_wa_ne _ _ (by decide)]; exact ht
