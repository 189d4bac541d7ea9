theorem s_worth {x0 x1 x2 x3 : Int32} {σ : SS} {post : Int32 → SS → Prop} (h : post (if x2 < x0 ∨ (x0 = x2 ∧ o_bc x1 < o_bc x3) then 1 else 0) σ) : V_X4_isMoreWorth x0 x1 x2 x3 σ post := by
  unfold V_X4_isMoreWorth
  refine ⟨fun z => ⟨Or.inr rfl, ?_⟩, fun z => ⟨fun z2 => ⟨Or.inl rfl, ?_⟩, fun z2 => s_bc (s_bc ⟨fun z3 => ⟨Or.inl rfl, ?_⟩, fun z3 => ⟨Or.inr rfl, ?_⟩⟩)⟩⟩
  · rw [if_pos (Or.inl z)] at h; exact h
  · rw [if_neg (fun q => q.elim z (fun q => z2 q.1))] at h; exact h
  · rw [if_neg (fun q => q.elim z (fun q => Int32.not_le.mpr q.2 z3))] at h; exact h
  · rw [if_pos (Or.inr ⟨z2, Int32.not_le.mp z3⟩)] at h; exact h
theorem if01 (c : Prop) [Decidable c] : (if c then (1 : Int32) else 0) = 0 ∨ (if c then (1 : Int32) else 0) = 1 := by split <;> simp
theorem s_better {r a b s : Nat} {x y z : Int32} {σ : SS} {post : Int32 → SS → Prop} (hx : x = nI a) (hy : y = nI b) (hz : z = nI s) (ha : a < 6) (hb : b < 6) (hs : s < 4) (h : post (if σ.1 (5, r, 1) (4 * b + s) < σ.1 (5, r, 1) (4 * a + s) ∨ (σ.1 (5, r, 1) (4 * a + s) = σ.1 (5, r, 1) (4 * b + s) ∧ o_bc (σ.1 (5, r, 2) (4 * a + s)) < o_bc (σ.1 (5, r, 2) (4 * b + s))) then 1 else 0) σ) : V_X4_knowsBetter r x y z σ post :=
  s_parts a s hx hz ha hs (s_mist a s hx hz ha hs (s_parts b s hy hz hb hs (s_mist b s hy hz hb hs (s_worth ⟨if01 _, h⟩))))
/-- whether the one on seat j is asked; who is asked of the first j seats, the nearest to the end -/
def asB (P W : Nat → Int32) (p : Nat → Nat) (il c s j : Nat) : Bool := decide (il / 2 ^ p j % 2 = 0) && decide (P (4 * c + s) < P (4 * p j + s) ∨ (P (4 * p j + s) = P (4 * c + s) ∧ o_bc (W (4 * p j + s)) < o_bc (W (4 * c + s))))
def asF (P W : Nat → Int32) (p : Nat → Nat) (il c s : Nat) : Nat → Int32
  | 0 => -1
  | j + 1 => if asB P W p il c s j then nI (p j) else asF P W p il c s j
theorem nI_m1 (j : Nat) : nI j + (-1 : Int32) = nI j - 1 := by
  rw [Int32.sub_eq_add_neg]
theorem q_asks {σ0 : SS} {n L sc : Nat} {kd dg : Nat → Nat} (hd : Dat σ0 n L sc kd dg) {c s : Nat} (hc : c < n) (hs : s < 4) : Qry σ0 n kd dg (fun σ p => V_X9_asks (nI c) (nI s) σ p) (fun σ p => V_X10_asksNow (nI c) (nI s) σ p) := by
  obtain ⟨⟨h6, -⟩, -, hN, -⟩ := id hd
  obtain ⟨p, k, hp, hk, hpk, hst, hne, hso⟩ := hN.1.at h6 hc
  obtain ⟨-, hpw, htd, il, hil, hiX, hiM⟩ := hN.1
  have hos := hN.2
  have hc6 : c < 6 := by omega
  have h64 := pow6 h6 hil
  refine Qry.of0 hd (asF (σ0.1 (5, 0, 1)) (σ0.1 (5, 0, 2)) p il c s k) (fun σ post sv hd' h => ?_) (fun σ post sv hd' h => ?_)
  · refine s_chX hd'.1.2.1 h6 rfl hc (br_f (by decide) (s_sbX rfl hs (nb_f (by decide) ?_)))
    refine s_seatOf (p := p) (k := k) hd'.1.2.1 h6 (fun j hj => ⟨(hst j hj).1, ?_⟩) hk (by rw [hpk]) (fun j hj => hne j (by omega) (by omega)) ?_
    · rw [sv.1 _ (by decide)]; exact (hst j hj).2.1
    · have key : ∀ j, j ≤ k → post (asF (σ0.1 (5, 0, 1)) (σ0.1 (5, 0, 2)) p il c s j) σ → ∃ m, LP_X9_asks_29 post m (nI c, nI s, nI j - 1) σ := by
        intro j
        induction j with
        | zero => intro _ h0; exact ⟨1, br_t (show nI 0 - 1 < 0 by decide) h0⟩
        | succ j ih =>
          intro hj h0
          have ej : nI (j + 1) - 1 = nI j := nI_pred j
          have hpj := hst j (by omega)
          have e0 : σ.1 (5, 0, 0) j = nI (p j) := by rw [sv.1 _ (by decide)]; exact hpj.2.1
          -- the body, with what follows
          have body : ∀ K : Int32 → Int32 → Int32 → SS → Prop, (asB (σ0.1 (5, 0, 1)) (σ0.1 (5, 0, 2)) p il c s j = false → K (nI c) (nI s) (nI j - 1) σ) → VB_X9_asks_29 post K (nI c) (nI s) (nI j) σ := by
            intro K hK
            refine br_f (nI_nneg (by omega)) (s_childOn j rfl (by omega) ?_)
            rw [e0]
            refine s_isIll ?_
            rw [sv.1 _ (by decide), hiX, o_bit_nI il h64 (p j) (by omega)]
            rcases Nat.mod_two_eq_zero_or_one (il / 2 ^ p j) with e | e
            · rw [e]
              refine nb_t rfl (s_better (a := p j) (b := c) (s := s) rfl rfl rfl (by omega) hc6 hs ?_)
              rw [sv.1 (5, 0, 1) (by decide), sv.1 (5, 0, 2) (by decide)]
              by_cases hb : σ0.1 (5, 0, 1) (4 * c + s) < σ0.1 (5, 0, 1) (4 * p j + s) ∨ (σ0.1 (5, 0, 1) (4 * p j + s) = σ0.1 (5, 0, 1) (4 * c + s) ∧ o_bc (σ0.1 (5, 0, 2) (4 * p j + s)) < o_bc (σ0.1 (5, 0, 2) (4 * c + s)))
              · rw [if_pos hb]
                refine br_f (by decide) ?_
                have : asB (σ0.1 (5, 0, 1)) (σ0.1 (5, 0, 2)) p il c s j = true := by unfold asB; rw [decide_eq_true e, decide_eq_true hb]; rfl
                rw [asF, this] at h0
                exact h0
              · rw [if_neg hb]
                refine br_t rfl ?_
                have : asB (σ0.1 (5, 0, 1)) (σ0.1 (5, 0, 2)) p il c s j = false := by unfold asB; rw [decide_eq_false hb, Bool.and_false]
                show K _ _ _ _
                rw [nI_m1]
                exact hK this
            · rw [e]
              refine nb_f (by decide) ?_
              have : asB (σ0.1 (5, 0, 1)) (σ0.1 (5, 0, 2)) p il c s j = false := by unfold asB; rw [decide_eq_false (by omega : ¬ il / 2 ^ p j % 2 = 0), Bool.false_and]
              show K _ _ _ _
              rw [nI_m1]
              exact hK this
          rw [ej]
          cases hb : asB (σ0.1 (5, 0, 1)) (σ0.1 (5, 0, 2)) p il c s j with
          | true => exact ⟨1, body _ (fun z => by rw [hb] at z; cases z)⟩
          | false =>
            rw [asF, hb] at h0
            obtain ⟨m, hm⟩ := ih (by omega) h0
            exact ⟨m + 1, body _ (fun _ => hm)⟩
      exact key k (Nat.le_refl _) h
  · refine o_cnt k (fun i => (nI c, nI s, nI (4 * c + s), asF (σ0.1 (5, 0, 1)) (σ0.1 (5, 0, 2)) p il c s i, nI i)) (fun _ => σ) (fun K => ?_) (fun K i hi hK => ?_) (Nat.zero_le _) (by rw [nI_slate2]; rfl) rfl
    · refine ⟨vp_in_nI hc6 (by omega), ?_⟩
      rw [nI_clamp (by omega), sv.1 (8, 0, 2) (by decide), hso]
      exact br_t (nI_le (Nat.le_refl _) (by omega)) h
    · refine ⟨vp_in_nI hc6 (by omega), ?_⟩
      have hpi := hst i (by omega)
      rw [nI_clamp (by omega), sv.1 (8, 0, 2) (by decide), hso]
      refine br_f (nI_nle2 hi (by omega)) ⟨vp_in_nI (by omega) (by omega), ?_⟩
      rw [nI_clamp (by omega), sv.2.2.2.1 i (by omega), hos i (by omega), hpi.2.1]
      refine nm_e ?_
      refine nm_r (nI_slate2 (p i) s) ?_
      have v1 : vp_in (nI (4 * p i + s)) 48 := vp_in_nI (by omega) (by omega)
      have v2 : vp_in (nI (4 * c + s)) 48 := vp_in_nI (by omega) (by omega)
      have c1 : (nI (4 * p i + s)).toNatClampNeg = 4 * p i + s := nI_clamp (by omega)
      have c2 : (nI (4 * c + s)).toNatClampNeg = 4 * c + s := nI_clamp (by omega)
      have w1 := hpw (4 * p i + s) (by omega)
      have w2 := hpw (4 * c + s) (by omega)
      have e1 : σ.1 (8, 0, 5) (4 * p i + s) = σ0.1 (5, 0, 1) (4 * p i + s) := ((sv.2.2.1 _ (by omega)).1).trans w1.2.1
      have e2 : σ.1 (8, 0, 5) (4 * c + s) = σ0.1 (5, 0, 1) (4 * c + s) := ((sv.2.2.1 _ (by omega)).1).trans w2.2.1
      have e3 : σ.1 (8, 0, 6) (4 * p i + s) = σ0.1 (5, 0, 2) (4 * p i + s) := ((sv.2.2.1 _ (by omega)).2).trans w1.2.2.2.1
      have e4 : σ.1 (8, 0, 6) (4 * c + s) = σ0.1 (5, 0, 2) (4 * c + s) := ((sv.2.2.1 _ (by omega)).2).trans w2.2.2.2.1
      obtain ⟨b1, hb1, eb1⟩ := w1.2.2.1
      obtain ⟨b2, hb2, eb2⟩ := w2.2.2.1
      have z1 : o_size6 (σ0.1 (5, 0, 2) (4 * p i + s)) 6 = o_bc (σ0.1 (5, 0, 2) (4 * p i + s)) := by rw [eb1, o_bc6 b1 hb1]
      have z2 : o_size6 (σ0.1 (5, 0, 2) (4 * c + s)) 6 = o_bc (σ0.1 (5, 0, 2) (4 * c + s)) := by rw [eb2, o_bc6 b2 hb2]
      -- behind 'same': t says whether it is
      have tail : ∀ t : Int32, (t = if σ0.1 (5, 0, 1) (4 * p i + s) = σ0.1 (5, 0, 1) (4 * c + s) ∧ o_bc (σ0.1 (5, 0, 2) (4 * p i + s)) < o_bc (σ0.1 (5, 0, 2) (4 * c + s)) then 1 else 0) → VB_X10_asksNow_83 post (fun x1 x2 x3 x4 x5 σ => K (x1, x2, x3, x4, x5) σ) (nI c) (nI s) (nI (4 * c + s)) (asF (σ0.1 (5, 0, 1)) (σ0.1 (5, 0, 2)) p il c s i) (nI i) (nI (p i)) (nI (4 * p i + s)) t σ := by
        intro t ht
        have no : asB (σ0.1 (5, 0, 1)) (σ0.1 (5, 0, 2)) p il c s i = false → VB_X10_asksNow_121 post (fun x1 x2 x3 x4 x5 σ => K (x1, x2, x3, x4, x5) σ) (nI c) (nI s) (nI (4 * c + s)) (asF (σ0.1 (5, 0, 1)) (σ0.1 (5, 0, 2)) p il c s i) (nI i) σ := by
          intro z
          show K (_, _, _, _, _) _
          exact o_Ke hK (by rw [asF, z, nI_1]; rfl) rfl
        have yes : asB (σ0.1 (5, 0, 1)) (σ0.1 (5, 0, 2)) p il c s i = true → VB_X10_asksNow_116 post (fun x1 x2 x3 x4 x5 σ => K (x1, x2, x3, x4, x5) σ) (nI c) (nI s) (nI (4 * c + s)) (nI i) (nI (p i)) σ := by
          intro z
          show K (_, _, _, _, _) _
          exact o_Ke hK (by rw [asF, z, nI_1]; rfl) rfl
        refine ⟨vp_in_nI (by omega) (by omega), ?_⟩
        rw [nI_clamp (by omega), sv.1 (8, 0, 3) (by decide), hiM (p i) hpi.1]
        rcases Nat.mod_two_eq_zero_or_one (il / 2 ^ p i) with e | e
        · rw [e]
          refine nb_t rfl ⟨v1, v2, ?_⟩
          rw [c1, c2, e1, e2]
          refine ⟨fun z => yes ?_, fun z => ⟨fun z2 => no ?_, fun z2 => yes ?_⟩⟩
          · unfold asB; rw [decide_eq_true e, decide_eq_true (Or.inl z)]; rfl
          · have : ¬ (σ0.1 (5, 0, 1) (4 * p i + s) = σ0.1 (5, 0, 1) (4 * c + s) ∧ o_bc (σ0.1 (5, 0, 2) (4 * p i + s)) < o_bc (σ0.1 (5, 0, 2) (4 * c + s))) := fun q => by rw [if_pos q] at ht; rw [ht] at z2; exact absurd z2 (by decide)
            unfold asB; rw [decide_eq_true e, decide_eq_false (show ¬ (_ ∨ _) from fun q => q.elim z this)]; rfl
          · have : (σ0.1 (5, 0, 1) (4 * p i + s) = σ0.1 (5, 0, 1) (4 * c + s) ∧ o_bc (σ0.1 (5, 0, 2) (4 * p i + s)) < o_bc (σ0.1 (5, 0, 2) (4 * c + s))) := Classical.byContradiction fun q => by rw [if_neg q] at ht; exact z2 ht
            unfold asB; rw [decide_eq_true e, decide_eq_true (Or.inr this)]; rfl
        · rw [e]
          refine nb_f (by decide) (no ?_)
          unfold asB; rw [decide_eq_false (by omega : ¬ il / 2 ^ p i % 2 = 0), Bool.false_and]
      refine ⟨v1, v2, ?_⟩
      rw [c1, c2, e1, e2, e3]
      refine ⟨fun z => tail 0 ?_, fun z => ⟨v1, s_size6 ⟨v2, s_size6 ?_⟩⟩⟩
      · rw [if_neg (fun q => z q.1)]
      · rw [e4, z1, z2]
        refine ⟨fun z2 => tail 0 ?_, fun z2 => tail 1 ?_⟩
        · rw [if_neg (fun q => Int32.not_le.mpr q.2 z2)]
        · rw [if_pos ⟨z, Int32.not_le.mp z2⟩]
