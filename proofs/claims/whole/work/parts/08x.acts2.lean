theorem op_tell (a b : Int32) : Op (fun σ p => V_X9_tell a b σ p) (fun σ p => V_X10_tell a b σ p) := Op.row fun σ n L sc kd dg p P W il tl hd hp hg hil htl hf hso post hpo => by
  have h6 := hd.1.1
  rcases ixc a (n := n) (by omega) with ha | ⟨c, hc, rfl⟩
  · exact s_chXf hd.1.2.1 ha (nb_t rfl (s_chMf hd.1.2.2.1 h6 ha (nb_t rfl (hpo _ σ (Fr.rf σ) hd.2.2.1))))
  · have hcl : (nI c).toNatClampNeg = c := nI_clamp (by omega)
    by_cases hb : b = -1 ∨ b = 0 ∨ b = 1
    · have hx : VB_X9_tell_26 (fun v s => V_X10_tell (nI c) b s (fun v' s' => post v v' s')) (nI c) b σ := by
        refine s_toldOf c rfl (by omega) (s_setTold c rfl (by omega) ?_)
        rw [hf.lx c hc]
        have hv : RowV 0 σ (o_wa σ (5, 0, 3) (upd (σ.1 (5, 0, 3)) c b)) := RowV.wa (rowL4 0)
        refine s_chM (n := n) (c := c) (by rw [o_wa_ne _ _ (by decide)]; exact hd.1.2.2.1) h6 rfl hc (nb_f (by decide) (s_within ?_))
        have hb1 : (-1 : Int32) ≤ b ∧ b ≤ 1 := by rcases hb with rfl | rfl | rfl <;> decide
        rw [if_pos hb1]
        refine nb_f (by decide) ⟨vp_in_nI (by omega) (by omega), nm_e ⟨vp_in_nI (by omega) (by omega), ?_⟩⟩
        rw [hcl, o_wa_ne _ _ (show ((8,0,4) : OI) ≠ (5,0,3) by decide), hf.lm c hc, o_wr_wr, o_wa_ne _ _ (show ((8,0,4) : OI) ≠ (5,0,3) by decide)]
        refine hpo _ _ (hv.fr.tr (Fr.wa (by decide) (by decide))) (InvN.of (p := p) (P := P) (W := W) (il := il) (tl := upd tl c b) hp hg hil (fun k hk => ?_) ⟨?_, ?_, ?_, ?_, ?_, ?_, ?_, ?_⟩ ?_)
        · by_cases e : k = c
          · subst e; rw [upd_at]; exact hb
          · rw [upd_ne e]; exact htl k hk
        · rw [o_wa_ne _ _ (by decide), o_wa_ne _ _ (by decide)]; exact hf.se
        · rw [o_wa_ne _ _ (by decide), o_wa_ne _ _ (by decide)]; exact hf.sm
        · unfold TX; rw [o_wa_ne _ _ (by decide), o_wa_ne _ _ (by decide), o_wa_ne _ _ (by decide), o_wa_ne _ _ (by decide)]; exact hf.tx
        · unfold TM; rw [o_wa_ne _ _ (by decide), o_wa_ne _ _ (by decide), o_wa_ne _ _ (by decide), o_wa_ne _ _ (by decide)]; exact hf.tm
        · rw [o_wa_ne _ _ (by decide), o_wa_ne _ _ (by decide)]; exact hf.ix
        · rw [o_wa_ne _ _ (by decide), o_wa_ne _ _ (by decide)]; exact hf.im
        · rw [o_wa_ne _ _ (by decide), o_wa_at]
          intro k hk
          by_cases e : k = c
          · subst e; rw [upd_at, upd_at]
          · rw [upd_ne e, upd_ne e]; exact hf.lx k hk
        · rw [o_wa_at]
          intro k hk
          by_cases e : k = c
          · subst e; rw [upd_at, upd_at]
          · rw [upd_ne e, upd_ne e]; exact hf.lm k hk
        · rw [o_wa_ne _ _ (by decide), o_wa_ne _ _ (by decide)]; exact hso
      refine s_chX hd.1.2.1 h6 rfl hc (nb_f (by decide) ⟨fun _ => hx, fun z => s_eiX ?_⟩)
      rw [if_pos (hb.resolve_left z)]
      exact nb_f (by decide) hx
    · refine s_chX hd.1.2.1 h6 rfl hc (nb_f (by decide) (br_f (fun z => hb (Or.inl z)) (s_eiX ?_)))
      rw [if_neg (fun z => hb (Or.inr z))]
      refine nb_t rfl (s_chM hd.1.2.2.1 h6 rfl hc (nb_f (by decide) (s_within ?_)))
      rw [if_neg]
      · exact nb_t rfl (hpo _ σ (Fr.rf σ) hd.2.2.1)
      · rintro ⟨z1, z2⟩
        rw [Int32.le_iff_toInt_le] at z1 z2
        have h1 : (-1 : Int32).toInt = -1 := by decide
        have h2 : (1 : Int32).toInt = 1 := by decide
        have h0 : (0 : Int32).toInt = 0 := by decide
        rcases (show b.toInt = -1 ∨ b.toInt = 0 ∨ b.toInt = 1 by omega) with q | q | q
        · exact hb (Or.inl (Int32.toInt_inj.mp (q.trans h1.symm)))
        · exact hb (Or.inr (Or.inl (Int32.toInt_inj.mp (q.trans h0.symm))))
        · exact hb (Or.inr (Or.inr (Int32.toInt_inj.mp (q.trans h2.symm))))
theorem ill_set : ∀ il, il < 64 → ∀ c, c < 6 → nI il ||| ((1 : Int32) <<< (nI c &&& 31)) = nI (il ||| 2 ^ c) := by decide +kernel
theorem ill_setb : ∀ il, il < 64 → ∀ c, c < 6 → ∀ j, j < 6 → (il ||| 2 ^ c) / 2 ^ j % 2 = if j = c then 1 else il / 2 ^ j % 2 := by decide +kernel
def clrF (il c : Nat) : Nat := if il / 2 ^ c % 2 = 1 then il - 2 ^ c else il
theorem ill_clr : ∀ il, il < 64 → ∀ c, c < 6 → nI il &&& (((1 : Int32) <<< (nI c &&& 31)) ^^^ (-1 : Int32)) = nI (clrF il c) := by decide +kernel
theorem ill_clrb : ∀ il, il < 64 → ∀ c, c < 6 → ∀ j, j < 6 → clrF il c / 2 ^ j % 2 = if j = c then 0 else il / 2 ^ j % 2 := by decide +kernel
theorem clrF_le (il c : Nat) : clrF il c ≤ il := by
  unfold clrF
  split
  · exact Nat.sub_le _ _
  · exact Nat.le_refl _
theorem op_ill (a b : Int32) : Op (fun σ p => V_X9_ill a b σ p) (fun σ p => V_X10_ill a b σ p) := Op.row fun σ n L sc kd dg p P W il tl hd hp hg hil htl hf hso post hpo => by
  have h6 := hd.1.1
  have h64 := pow6 h6 hil
  rcases ixc a (n := n) (by omega) with ha | ⟨c, hc, rfl⟩
  · exact s_chXf hd.1.2.1 ha (nb_t rfl (s_chMf hd.1.2.2.1 h6 ha (nb_t rfl (hpo _ σ (Fr.rf σ) hd.2.2.1))))
  · have hcl : (nI c).toNatClampNeg = c := nI_clamp (by omega)
    have hp2 : 2 ^ c < 2 ^ n := Nat.pow_lt_pow_right (by omega) hc
    -- the new bits, both sides
    have fin : ∀ (il' : Nat) (t v : Int32), il' < 2 ^ n → (∀ j, j < n → nI (il' / 2 ^ j % 2) = if j = c then t else nI (il / 2 ^ j % 2)) → v = nI (il / 2 ^ c % 2) → (b = 0 ∧ t = 0 ∨ b ≠ 0 ∧ t = 1) → V_X10_ill (nI c) b (o_wr σ (3, 0, 0) 5 (nI il')) (fun v' s' => post v v' s') := by
      intro il' t v h1 h2 hv hbt
      have hv1 : RowV 0 σ (o_wr σ (3, 0, 0) 5 (nI il')) := RowV.wa (rowL0 0)
      have last : VB_X10_ill_32 (fun v' s' => post v v' s') v t (nI c) (o_wr σ (3, 0, 0) 5 (nI il')) := by
        refine ⟨vp_in_nI (by omega) (by omega), ?_⟩
        rw [hcl, o_wr_wr (o_wr σ (3, 0, 0) 5 (nI il')) (8, 0, 3), o_wr_ne _ _ _ (show ((8,0,3) : OI) ≠ (3,0,0) by decide)]
        refine hpo _ _ (hv1.fr.tr (Fr.wa (by decide) (by decide))) (InvN.of (p := p) (P := P) (W := W) (il := il') (tl := tl) hp hg h1 htl ⟨?_, ?_, ?_, ?_, ?_, ?_, ?_, ?_⟩ ?_)
        · rw [o_wa_ne _ _ (by decide), o_wr_ne _ _ _ (by decide)]; exact hf.se
        · rw [o_wa_ne _ _ (by decide), o_wr_ne _ _ _ (by decide)]; exact hf.sm
        · unfold TX; rw [o_wa_ne _ _ (by decide), o_wr_ne _ _ _ (by decide), o_wa_ne _ _ (by decide), o_wr_ne _ _ _ (by decide)]; exact hf.tx
        · unfold TM; rw [o_wa_ne _ _ (by decide), o_wr_ne _ _ _ (by decide), o_wa_ne _ _ (by decide), o_wr_ne _ _ _ (by decide)]; exact hf.tm
        · rw [o_wa_ne _ _ (by decide), o_wr_at, upd_at]
        · rw [o_wa_at]
          intro k hk
          rw [h2 k hk]
          by_cases e : k = c
          · subst e; rw [upd_at, if_pos rfl]
          · rw [upd_ne e, if_neg e]; exact hf.im k hk
        · rw [o_wa_ne _ _ (by decide), o_wr_ne _ _ _ (by decide)]; exact hf.lx
        · rw [o_wa_ne _ _ (by decide), o_wr_ne _ _ _ (by decide)]; exact hf.lm
        · rw [o_wa_ne _ _ (by decide), o_wr_ne _ _ _ (by decide)]; exact hso
      refine s_chM (n := n) (c := c) (by rw [o_wr_ne _ _ _ (by decide)]; exact hd.1.2.2.1) h6 rfl hc (nb_f (by decide) ⟨vp_in_nI (by omega) (by omega), ?_⟩)
      rw [hcl, o_wr_ne _ _ _ (by decide), hf.im c hc, ← hv]
      refine nm_e ?_
      rcases hbt with ⟨hb, rfl⟩ | ⟨hb, rfl⟩
      · exact br_t hb last
      · exact br_f hb last
    have setX : ∀ v : Int32, v = nI (il / 2 ^ c % 2) → VB_X9_ill_27 (fun v s => V_X10_ill (nI c) b s (fun v' s' => post v v' s')) (nI c) b v σ := by
      intro v hv
      unfold VB_X9_ill_27 V_X4_setIll
      rw [hf.ix]
      refine ⟨fun z => ?_, fun z => ?_⟩
      · rw [ill_clr il h64 c (by omega)]
        refine fin (clrF il c) 0 v (Nat.lt_of_le_of_lt (clrF_le il c) hil) (fun j hj => ?_) hv (Or.inl ⟨z, rfl⟩)
        rw [ill_clrb il h64 c (by omega) j (by omega)]
        split <;> rfl
      · rw [ill_set il h64 c (by omega)]
        refine fin (il ||| 2 ^ c) 1 v (Nat.or_lt_two_pow hil hp2) (fun j hj => ?_) hv (Or.inr ⟨z, rfl⟩)
        rw [ill_setb il h64 c (by omega) j (by omega)]
        split <;> rfl
    refine s_chX hd.1.2.1 h6 rfl hc (nb_f (by decide) (s_isIll ?_))
    rw [hf.ix, o_bit_nI il h64 c (by omega)]
    rcases Nat.mod_two_eq_zero_or_one (il / 2 ^ c) with e | e
    · rw [e]; exact br_t rfl (setX 0 (by rw [e]; rfl))
    · rw [e]; exact br_f (by decide) (setX 1 (by rw [e]; rfl))
theorem s_change {a b ka kb : Nat} {σ : SS} {post : SS → Prop} (ha : a < 6) (hb : b < 6) (hka : ka < 6) (hkb : kb < 6) (ea : σ.1 (8, 0, 2) a = nI ka) (eb : σ.1 (8, 0, 2) b = nI kb) (hab : a = b → ka = kb) (h : post (o_wa (o_wa σ (8, 0, 2) (upd (upd (σ.1 (8, 0, 2)) a (nI kb)) b (nI ka))) (8, 0, 7) (upd (upd (σ.1 (8, 0, 7)) kb (nI a)) ka (nI b)))) : V_X10_change (nI a) (nI b) σ post := by
  have va : vp_in (nI a) 6 := vp_in_nI ha (by omega)
  have vb : vp_in (nI b) 6 := vp_in_nI hb (by omega)
  have ca : (nI a).toNatClampNeg = a := nI_clamp (by omega)
  have cb : (nI b).toNatClampNeg = b := nI_clamp (by omega)
  have cka : (nI ka).toNatClampNeg = ka := nI_clamp (by omega)
  have ckb : (nI kb).toNatClampNeg = kb := nI_clamp (by omega)
  have fa : upd (upd (σ.1 (8, 0, 2)) a (nI kb)) b (nI ka) a = nI kb := by
    by_cases e : a = b
    · rw [← e, upd_at, hab e]
    · rw [upd_ne e, upd_at]
  have fb : upd (upd (σ.1 (8, 0, 2)) a (nI kb)) b (nI ka) b = nI ka := upd_at
  refine ⟨va, ?_⟩
  rw [ca, ea]
  refine nm_e ⟨vb, va, vb, va, ?_⟩
  rw [cb, eb, o_wr_wr σ, o_wr_wr (o_wa σ (8, 0, 2) _), o_wa_at, o_wa_wa, o_wa_at, fa]
  refine ⟨vp_in_nI (by omega) (by omega), vb, ?_⟩
  rw [ckb, o_wr_wr (o_wa σ (8, 0, 2) _) (8, 0, 7), o_wa_ne _ _ (show ((8,0,2) : OI) ≠ (8,0,7) by decide), o_wa_at, fb]
  refine ⟨vp_in_nI (by omega) (by omega), ?_⟩
  rw [cka, o_wr_wr, o_wa_at, o_wa_wa, o_wa_ne _ _ (show ((8,0,7) : OI) ≠ (8,0,2) by decide)]
  exact h
theorem op_swap (a b : Int32) : Op (fun σ p => V_X9_swap a b σ p) (fun σ p => V_X10_swap a b σ p) := Op.row fun σ n L sc kd dg p P W il tl hd hp hg hil htl hf hso post hpo => by
  have h6 := hd.1.1
  rcases ixc a (n := n) (by omega) with ha | ⟨a, ha, rfl⟩
  · exact s_chXf hd.1.2.1 ha (br_t rfl (s_chMf hd.1.2.2.1 h6 ha (br_t rfl (hpo _ σ (Fr.rf σ) hd.2.2.1))))
  · rcases ixc b (n := n) (by omega) with hb | ⟨b, hb, rfl⟩
    · exact s_chX hd.1.2.1 h6 rfl ha (br_f (by decide) (s_chXf hd.1.2.1 hb (nb_t rfl (s_chM hd.1.2.2.1 h6 rfl ha (br_f (by decide) (s_chMf hd.1.2.2.1 h6 hb (nb_t rfl (hpo _ σ (Fr.rf σ) hd.2.2.1))))))))
    · obtain ⟨ka, hka, eka⟩ := hp.2 a ha
      obtain ⟨kb, hkb, ekb⟩ := hp.2 b hb
      have inj : ∀ i j, i < n → j < n → p i = p j → i = j := fun i j hi hj e => by
        have h1 := hso i hi
        rw [e, hso j hj] at h1
        exact ((nI_eq (by omega) (by omega)).mp h1).symm
      have soa : σ.1 (8, 0, 2) a = nI ka := by rw [← eka]; exact hso ka hka
      have sob : σ.1 (8, 0, 2) b = nI kb := by rw [← ekb]; exact hso kb hkb
      have hab : a = b → ka = kb := fun e => inj ka kb hka hkb (by rw [eka, ekb, e])
      have pkb : swF p ka kb kb = a := by unfold swF; rw [if_pos rfl, eka]
      have pka : swF p ka kb ka = b := by
        unfold swF
        by_cases e : ka = kb
        · rw [if_pos e, e, ekb]
        · rw [if_neg e, if_pos rfl, ekb]
      have pot : ∀ k, k ≠ ka → k ≠ kb → swF p ka kb k = p k := fun k h1 h2 => by unfold swF; rw [if_neg h2, if_neg h1]
      have hsit := (show o_sit (σ.1 (5, 0, 0)) n p from hf.se).sw hka hkb
      have hp' : o_perm n (swF p ka kb) := by
        refine ⟨fun k hk => (hsit k hk).1, fun c hc => ?_⟩
        by_cases e1 : c = a
        · exact ⟨kb, hkb, by rw [pkb, e1]⟩
        · by_cases e2 : c = b
          · exact ⟨ka, hka, by rw [pka, e2]⟩
          · obtain ⟨k, hk, ek⟩ := hp.2 c hc
            exact ⟨k, hk, by rw [pot k (fun q => e1 (by rw [← ek, q, eka])) (fun q => e2 (by rw [← ek, q, ekb])), ek]⟩
      have hso' : ∀ k, k < n → upd (upd (σ.1 (8, 0, 2)) a (nI kb)) b (nI ka) (swF p ka kb k) = nI k := fun k hk => by
        by_cases e1 : k = ka
        · rw [e1, pka, upd_at]
        · by_cases e2 : k = kb
          · rw [e2, pkb]
            by_cases e : a = b
            · exact absurd (e2.trans (hab e).symm) e1
            · rw [upd_ne e, upd_at]
          · rw [pot k e1 e2, upd_ne (fun q => e2 (inj k kb hk hkb (by rw [q, ekb]))), upd_ne (fun q => e1 (inj k ka hk hka (by rw [q, eka])))]
            exact hso k hk
      have inj' : ∀ i j, i < n → j < n → swF p ka kb i = swF p ka kb j → i = j := fun i j hi hj e => by
        have h1 := hso' i hi
        rw [e, hso' j hj] at h1
        exact ((nI_eq (by omega) (by omega)).mp h1).symm
      refine s_chX hd.1.2.1 h6 rfl ha (br_f (by decide) (s_chX hd.1.2.1 h6 rfl hb (nb_f (by decide) ?_)))
      refine s_seatOf (p := p) (k := ka) hd.1.2.1 h6 hf.se hka (by rw [eka]) (fun j hj q => by have := inj j ka (by omega) hka q; omega) ?_
      refine s_seatOf (p := p) (k := kb) hd.1.2.1 h6 hf.se hkb (by rw [ekb]) (fun j hj q => by have := inj j kb (by omega) hkb q; omega) ?_
      refine s_chg rfl rfl (by omega) (by omega) ?_
      have hv : RowV 0 σ (o_wa σ (5, 0, 0) (upd (upd (σ.1 (5, 0, 0)) ka (σ.1 (5, 0, 0) kb)) kb (σ.1 (5, 0, 0) ka))) := RowV.wa (rowL1 0)
      have h5 : (o_wa σ (5, 0, 0) (upd (upd (σ.1 (5, 0, 0)) ka (σ.1 (5, 0, 0) kb)) kb (σ.1 (5, 0, 0) ka))).1 (5, 0, 0) = upd (upd (σ.1 (5, 0, 0)) ka (σ.1 (5, 0, 0) kb)) kb (σ.1 (5, 0, 0) ka) := o_wa_at _ _ _
      have hN : ∀ {i : OI}, i ≠ (5, 0, 0) → (o_wa σ (5, 0, 0) (upd (upd (σ.1 (5, 0, 0)) ka (σ.1 (5, 0, 0) kb)) kb (σ.1 (5, 0, 0) ka))).1 i = σ.1 i := fun x => o_wa_ne _ _ x
      rw [← h5] at hsit
      generalize o_wa σ (5, 0, 0) (upd (upd (σ.1 (5, 0, 0)) ka (σ.1 (5, 0, 0) kb)) kb (σ.1 (5, 0, 0) ka)) = s1 at hv hN hsit ⊢
      refine s_seatOf (p := swF p ka kb) (k := ka) (by rw [hN (by decide)]; exact hd.1.2.1) h6 hsit hka (by rw [pka]) (fun j hj q => by have := inj' j ka (by omega) hka q; omega) ?_
      have n1 : s1.1 (7, 0, 0) 4 = nI n := by rw [hN (by decide)]; exact hd.1.2.2.1
      refine s_chM n1 h6 rfl ha (br_f (by decide) (s_chM n1 h6 rfl hb (nb_f (by decide) ?_)))
      refine s_change (ka := ka) (kb := kb) (by omega) (by omega) (by omega) (by omega) (by rw [hN (by decide)]; exact soa) (by rw [hN (by decide)]; exact sob) hab ⟨vp_in_nI (by omega) (by omega), ?_⟩
      rw [nI_clamp (by omega), o_wa_ne _ _ (show ((8,0,2) : OI) ≠ (8,0,7) by decide), o_wa_at, upd_at]
      refine hpo _ _ (hv.fr.tr ((Fr.wa (by decide) (by decide)).tr (Fr.wa (by decide) (by decide)))) (InvN.of (p := swF p ka kb) (P := P) (W := W) (il := il) (tl := tl) hp' hg hil htl ⟨?_, ?_, ?_, ?_, ?_, ?_, ?_, ?_⟩ ?_)
      · rw [o_wa_ne _ _ (by decide), o_wa_ne _ _ (by decide)]; exact hsit
      · rw [o_wa_at, hN (by decide)]
        intro k hk
        by_cases e1 : k = ka
        · rw [e1, upd_at, pka]
        · rw [upd_ne e1]
          by_cases e2 : k = kb
          · rw [e2, upd_at, pkb]
          · rw [upd_ne e2, pot k e1 e2]; exact hf.sm k hk
      · unfold TX; rw [o_wa_ne _ _ (by decide), o_wa_ne _ _ (by decide), o_wa_ne _ _ (by decide), o_wa_ne _ _ (by decide), hN (by decide), hN (by decide)]; exact hf.tx
      · unfold TM; rw [o_wa_ne _ _ (by decide), o_wa_ne _ _ (by decide), o_wa_ne _ _ (by decide), o_wa_ne _ _ (by decide), hN (by decide), hN (by decide)]; exact hf.tm
      · rw [o_wa_ne _ _ (by decide), o_wa_ne _ _ (by decide), hN (by decide)]; exact hf.ix
      · rw [o_wa_ne _ _ (by decide), o_wa_ne _ _ (by decide), hN (by decide)]; exact hf.im
      · rw [o_wa_ne _ _ (by decide), o_wa_ne _ _ (by decide), hN (by decide)]; exact hf.lx
      · rw [o_wa_ne _ _ (by decide), o_wa_ne _ _ (by decide), hN (by decide)]; exact hf.lm
      · rw [o_wa_ne _ _ (by decide), o_wa_at, hN (by decide)]; exact hso'
