/-! CALLS THAT ASK -/
theorem s_wiT {M j : Nat} {x : Int32} {σ : SS} {post : Int32 → SS → Prop} (hM : M < 1000) (hx : x = nI j) (hj : j ≤ M) (h : post 1 σ) : V_X10_within x 0 (nI M) σ post := by
  subst hx
  refine s_within ?_
  rw [if_pos ⟨nI_pos' (by omega), nI_le hj (by omega)⟩]
  exact h
theorem s_wiF {M : Nat} {x : Int32} {σ : SS} {post : Int32 → SS → Prop} (hM : M < 1000) (hx : x < 0 ∨ nI (M + 1) ≤ x) (h : post 0 σ) : V_X10_within x 0 (nI M) σ post := by
  refine s_within ?_
  rw [if_neg]
  · exact h
  · rintro ⟨a, b⟩
    rcases hx with z | z
    · exact Int32.not_le.mpr z a
    · have := Int32.le_trans z b
      exact nI_nle2 (a := M) (b := M + 1) (by omega) (by omega) this
theorem ixc (x : Int32) {n : Nat} (hn : n < 1000) : (x < 0 ∨ nI n ≤ x) ∨ ∃ j : Nat, j < n ∧ x = nI j := by
  rcases pk_ix x (n := n) (by omega) with h | h | h
  · exact Or.inl (Or.inl h)
  · exact Or.inl (Or.inr h)
  · exact Or.inr h
theorem sv_n {σ0 : SS} {n L sc : Nat} {kd dg : Nat → Nat} (hd : Dat σ0 n L sc kd dg) : n ≤ 6 ∧ n < 1000 := ⟨hd.1.1, by have := hd.1.1; omega⟩
theorem q_const {σ0 : SS} {n L sc : Nat} {kd dg : Nat → Nat} {VX VM : SS → (Int32 → SS → Prop) → Prop} (hd : Dat σ0 n L sc kd dg) (v : Int32) (h1 : ∀ (σ : SS) (post : Int32 → SS → Prop), Dat σ n L sc kd dg → post v σ → VX σ post) (h2 : ∀ (σ : SS) (post : Int32 → SS → Prop), Dat σ n L sc kd dg → post v σ → VM σ post) : Qry σ0 n kd dg VX VM :=
  Qry.of0 hd v (fun σ post _ hd' h => h1 σ post hd' h) (fun σ post _ hd' h => h2 σ post hd' h)
theorem Qry.gd {σ0 : SS} {n L sc : Nat} {kd dg : Nat → Nat} {VX VM VX' VM' : SS → (Int32 → SS → Prop) → Prop} (hd : Dat σ0 n L sc kd dg) (Q : Qry σ0 n kd dg VX VM) (hx : ∀ (σ : SS) (post : Int32 → SS → Prop), Dat σ n L sc kd dg → VX σ post → VX' σ post) (hm : ∀ (σ : SS) (post : Int32 → SS → Prop), Dat σ n L sc kd dg → VM σ post → VM' σ post) : Qry σ0 n kd dg VX' VM' := by
  obtain ⟨v, h1, h2⟩ := Q
  exact ⟨v, fun σ post hs hp => hx σ post (hd.sv hs.1) (h1 σ post hs hp), fun σ post hs hp => hm σ post (hd.sv hs.1) (h2 σ post hs hp)⟩
theorem op_about (a b : Int32) : Op (fun σ p => V_X9_about a b σ p) (fun σ p => V_X10_about a b σ p) := Op.ofQ fun σ0 n L sc kd dg hd => by
  obtain ⟨h6, hk⟩ := sv_n hd
  rcases ixc a hk with ha | ⟨c, hc, rfl⟩
  · exact q_const hd (-101) (fun σ post d h => s_chXf d.1.2.1 ha (nb_t rfl h)) (fun σ post d h => s_chMf d.1.2.2.1 h6 ha (nb_t rfl h))
  · rcases ixc b (n := 5) (by omega) with hb | ⟨w, hw, rfl⟩
    · have e : ∀ k : Nat, k < 5 → b ≠ nI k := fun k hk q => by
        rcases hb with z | z
        · rw [q] at z; exact nI_nneg (by omega) z
        · rw [q] at z; exact nI_nle2 hk (by omega) z
      refine q_const hd (-102) (fun σ post d h => s_chX d.1.2.1 h6 rfl hc (nb_f (by decide) ⟨fun z => absurd z (e 0 (by omega)), fun z => absurd z (e 1 (by omega)), fun z => absurd z (e 2 (by omega)), fun z => absurd z (e 3 (by omega)), fun z => absurd z (e 4 (by omega)), fun _ => h⟩)) (fun σ post d h => s_chM d.1.2.2.1 h6 rfl hc (nb_f (by decide) (s_wiF (M := 4) (by omega) hb (br_t rfl h))))
    · exact (q_about hd hc hw).gd hd (fun σ post d h => h) (fun σ post d h => s_chM d.1.2.2.1 h6 rfl hc (nb_f (by decide) (s_wiT (M := 4) (by omega) rfl (by omega) (br_f (by decide) h))))
theorem op_knows (a b w : Int32) : Op (fun σ p => V_X9_knows a b w σ p) (fun σ p => V_X10_knows a b w σ p) := Op.ofQ fun σ0 n L sc kd dg hd => by
  obtain ⟨h6, hk⟩ := sv_n hd
  rcases ixc a hk with ha | ⟨c, hc, rfl⟩
  · exact q_const hd (-101) (fun σ post d h => s_chXf d.1.2.1 ha (br_t rfl h)) (fun σ post d h => s_chMf d.1.2.2.1 h6 ha (br_t rfl h))
  · rcases ixc b (n := 4) (by omega) with hb | ⟨s, hs, rfl⟩
    · exact q_const hd (-101) (fun σ post d h => s_chX d.1.2.1 h6 rfl hc (br_f (by decide) (s_sbXf hb (nb_t rfl h)))) (fun σ post d h => s_chM d.1.2.2.1 h6 rfl hc (br_f (by decide) (s_sbMf hb (nb_t rfl h))))
    · rcases ixc w (n := 2) (by omega) with hw | ⟨w, hw, rfl⟩
      · have e : ¬ (w = 0 ∨ w = 1) := by
          rintro (rfl | rfl) <;> rcases hw with z | z <;> revert z <;> decide
        refine q_const hd (-102) (fun σ post d h => s_chX d.1.2.1 h6 rfl hc (br_f (by decide) (s_sbX rfl hs (nb_f (by decide) (s_eiX ?_))))) (fun σ post d h => s_chM d.1.2.2.1 h6 rfl hc (br_f (by decide) (s_sbM rfl hs (nb_f (by decide) (s_wiF (M := 1) (by omega) hw (br_t rfl h))))))
        rw [if_neg e]; exact nb_t rfl h
      · exact (q_knows hd hc hs hw).gd hd (fun σ post d h => h) (fun σ post d h => s_chM d.1.2.2.1 h6 rfl hc (br_f (by decide) (s_sbM rfl hs (nb_f (by decide) (s_wiT (M := 1) (by omega) rfl (by omega) (br_f (by decide) h))))))
theorem op_asks (a b : Int32) : Op (fun σ p => V_X9_asks a b σ p) (fun σ p => V_X10_asks a b σ p) := Op.ofQ fun σ0 n L sc kd dg hd => by
  obtain ⟨h6, hk⟩ := sv_n hd
  rcases ixc a hk with ha | ⟨c, hc, rfl⟩
  · exact q_const hd (-101) (fun σ post d h => s_chXf d.1.2.1 ha (br_t rfl h)) (fun σ post d h => s_chMf d.1.2.2.1 h6 ha (br_t rfl h))
  · rcases ixc b (n := 4) (by omega) with hb | ⟨s, hs, rfl⟩
    · exact q_const hd (-101) (fun σ post d h => s_chX d.1.2.1 h6 rfl hc (br_f (by decide) (s_sbXf hb (nb_t rfl h)))) (fun σ post d h => s_chM d.1.2.2.1 h6 rfl hc (br_f (by decide) (s_sbMf hb (br_t rfl h))))
    · exact (q_asks hd hc hs).gd hd (fun σ post d h => h) (fun σ post d h => s_chM d.1.2.2.1 h6 rfl hc (br_f (by decide) (s_sbM rfl hs (br_f (by decide) h))))
theorem op_count (a : Int32) : Op (fun σ p => V_X9_count a σ p) (fun σ p => V_X10_count a σ p) := Op.ofQ fun σ0 n L sc kd dg hd => (q_count hd a).gd hd (fun σ post d h => h) (fun σ post d h => h)
theorem op_seat (a : Int32) : Op (fun σ p => V_X9_seat a σ p) (fun σ p => V_X10_seat a σ p) := Op.ofQ fun σ0 n L sc kd dg hd => by
  obtain ⟨h6, hk⟩ := sv_n hd
  obtain ⟨p, P, W, il, tl, hp, hg, hil, -, hfx⟩ := hd.fx
  rcases ixc a hk with ha | ⟨c, hc, rfl⟩
  · exact q_const hd (-101) (fun σ post d h => s_chXf d.1.2.1 ha (br_t rfl h)) (fun σ post d h => s_chMf d.1.2.2.1 h6 ha (br_t rfl h))
  · refine Qry.of0 hd (nI (p c)) (fun σ post sv d h => s_chX d.1.2.1 h6 rfl hc (br_f (by decide) (s_childOn c rfl (by omega) ?_))) (fun σ post sv d h => s_chM d.1.2.2.1 h6 rfl hc (br_f (by decide) ⟨vp_in_nI (by omega) (by omega), ?_⟩))
    · rw [((hfx σ sv).se c hc).2]; exact h
    · rw [nI_clamp (by omega), (hfx σ sv).sm c hc]; exact h
theorem op_order (a : Int32) : Op (fun σ p => V_X9_order a σ p) (fun σ p => V_X10_order a σ p) := Op.ofQ fun σ0 n L sc kd dg hd => by
  obtain ⟨h6, hk⟩ := sv_n hd
  -- where the reference comes to
  have M : ∀ (σ : SS) (post : Int32 → SS → Prop) (w : Nat), (w < 2 ∨ (10 ≤ w ∧ w < 16)) → VB_X10_order_23 post (nI w) σ → V_X10_order (nI w) σ post := by
    intro σ post w hw h
    rcases hw with hw | hw
    · exact s_wiT (M := 1) (by omega) rfl (by omega) (nb_f (by decide) h)
    · refine s_wiF (M := 1) (by omega) (Or.inr (nI_le (by omega) (by omega))) (nb_t rfl (s_within ?_))
      rw [if_pos ⟨nI_le (a := 10) hw.1 (by omega), nI_le (b := 15) (by omega) (by omega)⟩]
      exact nb_f (by decide) h
  by_cases hw : ∃ w : Nat, (w < 2 ∨ (10 ≤ w ∧ w < 16)) ∧ a = nI w
  · obtain ⟨w, hw, rfl⟩ := hw
    rcases Nat.eq_zero_or_pos n with h0 | h1
    · refine q_const hd (-103) (fun σ post d h => ?_) (fun σ post d h => M σ post w hw (nb_t (by rw [d.1.2.2.1, h0]; rfl) h))
      have fin : ∀ t : Int32, VB_X9_order_32 post (nI w) t σ := by
        intro t
        refine s_has h6 d.1.2.1 ?_
        rw [if_neg (by omega)]
        exact nb_t rfl h
      rcases hw with hw | hw
      · refine br_t ((nI_lt2 (b := 10) (by omega) (by omega)).mpr (by omega)) (s_eiX ?_)
        have : nI w = 0 ∨ nI w = 1 := by
          rcases Nat.lt_succ_iff_lt_or_eq.mp hw with q | q
          · left; rw [show w = 0 by omega]; rfl
          · right; rw [q]; rfl
        rw [if_pos this]
        exact nb_f (by decide) (fin 0)
      · refine br_f (fun q => by have := (nI_lt2 (b := 10) (by omega) (by omega)).mp q; omega) (br_f (nI_nle2 (b := 16) hw.2 (by omega)) (s_eiX ?_))
        split
        · exact nb_f (by decide) (fin 1)
        · exact nb_t rfl (nb_f (by decide) (fin 1))
    · exact (q_order hd h1 hw).gd hd (fun σ post d h => h) (fun σ post d h => M σ post w hw (nb_f (by rw [d.1.2.2.1]; exact nI_ne0 h1 (by omega)) h))
  · have e01 : ¬ (a = 0 ∨ a = 1) := by
      rintro (rfl | rfl)
      · exact hw ⟨0, Or.inl (by omega), rfl⟩
      · exact hw ⟨1, Or.inl (by omega), rfl⟩
    have e10 : ¬ (10 ≤ a ∧ a ≤ 15) := by
      rintro ⟨z1, z2⟩
      obtain ⟨j, hj, rfl⟩ := nI_of2 (M := 15) (n := 15) (by decide) (Int32.not_lt.mpr (Int32.le_trans (show (0 : Int32) ≤ 10 by decide) z1)) z2
      have := (nI_leI (a := 10) (by omega) (by omega)).mp z1
      exact hw ⟨j, Or.inr ⟨this, by omega⟩, rfl⟩
    refine q_const hd (-102) (fun σ post d h => ?_) (fun σ post d h => ?_)
    · have fin : VB_X9_order_16 post a σ := by
        refine s_eiX ?_
        rw [if_neg e01]
        exact nb_t rfl (nb_t rfl h)
      by_cases z1 : a < 10
      · exact br_t z1 fin
      · refine br_f z1 (br_t (Int32.not_lt.mp fun z2 => e10 ⟨Int32.not_lt.mp z1, ?_⟩) fin)
        rw [Int32.le_iff_toInt_le]
        rw [i32_lt_iff] at z2
        have h16 : (16 : Int32).toInt = 16 := by decide
        have h15 : (15 : Int32).toInt = 15 := by decide
        omega
    · refine s_w01 ?_
      rw [if_neg e01]
      refine nb_t rfl (s_within ?_)
      rw [if_neg e10]
      exact nb_t rfl h
