/-! the digest: answers mixed one after another -/
def DX (σ0 : SS) (n : Nat) (kd dg : Nat → Nat) (A : Int64 → SS → (Int64 → SS → Prop) → Prop) (h h' : Int64) : Prop := ∀ (σ : SS) (post : Int64 → SS → Prop), St σ0 n kd dg σ → (∀ σ', St σ0 n kd dg σ' → post h' σ') → A h σ post
def DM (σ0 : SS) (n : Nat) (kd dg : Nat → Nat) (A : SS → (SS → Prop) → Prop) (h h' : Int64) : Prop := ∀ (σ : SS) (post : SS → Prop), St σ0 n kd dg σ → σ.2 24 = h → (∀ σ', St σ0 n kd dg σ' → σ'.2 24 = h' → post σ') → A σ post
theorem seq_ex {R : Nat → Int64 → Int64 → Prop} : ∀ (N : Nat), (∀ k, k < N → ∀ h, ∃ h', R k h h') → ∀ h, ∃ q : Nat → Int64, q 0 = h ∧ ∀ k, k < N → R k (q k) (q (k + 1))
  | 0, _, h => ⟨fun _ => h, rfl, fun k hk => absurd hk (by omega)⟩
  | N + 1, H, h => by
    obtain ⟨q, h0, hq⟩ := seq_ex N (fun k hk => H k (by omega)) h
    obtain ⟨h', hr⟩ := H N (by omega) (q N)
    refine ⟨fun k => if k ≤ N then q k else h', by simp [h0], fun k hk => ?_⟩
    by_cases e : k = N
    · subst e
      show R k (if k ≤ k then q k else h') (if k + 1 ≤ k then q (k + 1) else h')
      rw [if_pos (Nat.le_refl _), if_neg (by omega)]; exact hr
    · have := hq k (by omega)
      simp only [show k ≤ N by omega, show k + 1 ≤ N by omega, if_true]
      exact this
theorem St.w24 {σ0 σ : SS} {n : Nat} {kd dg : Nat → Nat} (h : St σ0 n kd dg σ) (v : Int64) : St σ0 n kd dg (o_wl8 σ 24 v) := h
theorem Qry.mix {σ0 : SS} {n : Nat} {kd dg : Nat → Nat} {VX VM : SS → (Int32 → SS → Prop) → Prop} (Q : Qry σ0 n kd dg VX VM) (h : Int64) : ∃ h', DX σ0 n kd dg (fun h σ p => VX σ (fun v s => V_X9_with h v.toInt64 s p)) h h' ∧ DM σ0 n kd dg (fun σ p => VM σ (fun v s => V_X10_mix v.toInt64 s p)) h h' := by
  obtain ⟨v, h1, h2⟩ := Q
  refine ⟨31 * h + v.toInt64, fun σ post hs hp => h1 σ _ hs (fun σ' hs' => hp σ' hs'), fun σ post hs e hp => h2 σ _ hs (fun σ' hs' e' => ?_)⟩
  refine hp _ (hs'.w24 _) ?_
  show (31 : Int64) * σ'.2 24 + v.toInt64 = _
  rw [e', e]
theorem d_both {P Q : Int64 → Int64 → Prop} {P' Q' : Int64 → Int64 → Prop} (h : Int64) (h1 : ∀ h, ∃ h', P h h' ∧ Q h h') (h2 : ∀ h, ∃ h', P' h h' ∧ Q' h h') : ∃ a b, (P h a ∧ Q h a) ∧ (P' a b ∧ Q' a b) := by
  obtain ⟨a, ha⟩ := h1 h
  obtain ⟨b, hb⟩ := h2 a
  exact ⟨a, b, ha, hb⟩
theorem q_child {σ0 : SS} {n L sc : Nat} {kd dg : Nat → Nat} (hd : Dat σ0 n L sc kd dg) {c : Nat} (hc : c < n) (h : Int64) : ∃ h', DX σ0 n kd dg (fun h σ p => V_X9_withChild h (nI c) σ p) h h' ∧ DM σ0 n kd dg (fun σ p => V_X10_mixChild (nI c) σ p) h h' := by
  obtain ⟨q, q0, hq⟩ := seq_ex 5 (fun k hk h => (q_about hd hc hk).mix h) h
  have st3 : ∀ s, s < 4 → ∀ h, ∃ h', (∃ a b, (DX σ0 n kd dg (fun h σ p => V_X9_knows (nI c) (nI s) 0 σ (fun v s => V_X9_with h v.toInt64 s p)) h a ∧ DM σ0 n kd dg (fun σ p => V_X10_knowsNow (nI c) (nI s) 0 σ (fun v s => V_X10_mix v.toInt64 s p)) h a) ∧ (DX σ0 n kd dg (fun h σ p => V_X9_knows (nI c) (nI s) 1 σ (fun v s => V_X9_with h v.toInt64 s p)) a b ∧ DM σ0 n kd dg (fun σ p => V_X10_knowsNow (nI c) (nI s) 1 σ (fun v s => V_X10_mix v.toInt64 s p)) a b) ∧ (DX σ0 n kd dg (fun h σ p => V_X9_asks (nI c) (nI s) σ (fun v s => V_X9_with h v.toInt64 s p)) b h' ∧ DM σ0 n kd dg (fun σ p => V_X10_asksNow (nI c) (nI s) σ (fun v s => V_X10_mix v.toInt64 s p)) b h')) := by
    intro s hs h
    obtain ⟨a, ha⟩ := (q_knows hd hc hs (w := 0) (by omega)).mix h
    obtain ⟨b, hb⟩ := (q_knows hd hc hs (w := 1) (by omega)).mix a
    obtain ⟨h', hh⟩ := (q_asks hd hc hs).mix b
    exact ⟨h', a, b, ha, hb, hh⟩
  obtain ⟨r, r0, hr⟩ := seq_ex 4 st3 (q 5)
  refine ⟨r 4, fun σ post hs hp => ?_, fun σ post hs e hp => ?_⟩
  · refine o_cntI 5 (fun i a s => a = (nI c, q i, nI i) ∧ St σ0 n kd dg s) (fun K a s hI => ?_) (fun K i a s hi hI hK => ?_) (Nat.zero_le _) ⟨by rw [q0]; rfl, hs⟩
    · obtain ⟨rfl, hs⟩ := hI
      refine br_t (show (5 : Int32) ≤ nI 5 by decide) ?_
      refine o_cntI 4 (fun i a s => a = (nI c, r i, nI i) ∧ St σ0 n kd dg s) (fun K a s hI => ?_) (fun K i a s hi hI hK => ?_) (Nat.zero_le _) ⟨by rw [r0]; rfl, hs⟩
      · obtain ⟨rfl, hs⟩ := hI
        exact br_t (show (4 : Int32) ≤ nI 4 by decide) (hp s hs)
      · obtain ⟨rfl, hs⟩ := hI
        obtain ⟨a, b, h1, h2, h3⟩ := hr i hi
        refine br_f (nI_nle2 (b := 4) hi (by omega)) ?_
        refine h1.1 s _ hs (fun s1 hs1 => h2.1 s1 _ hs1 (fun s2 hs2 => h3.1 s2 _ hs2 (fun s3 hs3 => ?_)))
        dsimp only
        rw [nI_1]
        exact hK _ _ ⟨rfl, hs3⟩
    · obtain ⟨rfl, hs⟩ := hI
      refine br_f (nI_nle2 (b := 5) hi (by omega)) ((hq i hi).1 s _ hs (fun s1 hs1 => ?_))
      dsimp only
      rw [nI_1]
      exact hK _ _ ⟨rfl, hs1⟩
  · refine o_cntI 5 (fun i a s => a = (nI c, nI i) ∧ St σ0 n kd dg s ∧ s.2 24 = q i) (fun K a s hI => ?_) (fun K i a s hi hI hK => ?_) (Nat.zero_le _) ⟨rfl, hs, by rw [q0]; exact e⟩
    · obtain ⟨rfl, hs, e⟩ := hI
      refine br_t (show (5 : Int32) ≤ nI 5 by decide) ?_
      refine o_cntI 4 (fun i a s => a = (nI c, nI i) ∧ St σ0 n kd dg s ∧ s.2 24 = r i) (fun K a s hI => ?_) (fun K i a s hi hI hK => ?_) (Nat.zero_le _) ⟨rfl, hs, by rw [r0]; exact e⟩
      · obtain ⟨rfl, hs, e⟩ := hI
        exact br_t (show (4 : Int32) ≤ nI 4 by decide) (hp s hs e)
      · obtain ⟨rfl, hs, e⟩ := hI
        obtain ⟨a, b, h1, h2, h3⟩ := hr i hi
        refine br_f (nI_nle2 (b := 4) hi (by omega)) ?_
        refine h1.2 s _ hs e (fun s1 hs1 e1 => h2.2 s1 _ hs1 e1 (fun s2 hs2 e2 => h3.2 s2 _ hs2 e2 (fun s3 hs3 e3 => ?_)))
        show K (_, _) _
        rw [nI_1]
        exact hK _ _ ⟨rfl, hs3, e3⟩
    · obtain ⟨rfl, hs, e⟩ := hI
      refine br_f (nI_nle2 (b := 5) hi (by omega)) ((hq i hi).2 s _ hs e (fun s1 hs1 e1 => ?_))
      show K (_, _) _
      rw [nI_1]
      exact hK _ _ ⟨rfl, hs1, e1⟩
/-- page and counts: the digest's end -/
theorem q_dend {σ0 : SS} {n L sc : Nat} {kd dg : Nat → Nat} (hd : Dat σ0 n L sc kd dg) (h : Int64) : ∃ h' : Int64, (∀ (σ : SS) (post : Int64 → SS → Prop), St σ0 n kd dg σ → (∀ σ', St σ0 n kd dg σ' → post h' σ') → VB_X9_digest_129 post h σ) ∧ (∀ (σ : SS) (post : Int64 → SS → Prop), St σ0 n kd dg σ → σ.2 24 = h → (∀ σ', St σ0 n kd dg σ' → post h' σ') → VB_X10_digest_124 post σ) := by
  obtain ⟨hL, -⟩ := hd.2.1
  obtain ⟨q, q0, hq⟩ := seq_ex (R := fun k h h' => h' = 31 * h + (σ0.1 (8, 0, 8) k).toInt64) L (fun k _ h => ⟨_, rfl⟩) h
  obtain ⟨r, r0, hr⟩ := seq_ex 12 (fun k _ h => (q_count hd (nI k)).mix h) (q L)
  refine ⟨r 12, fun σ post hs hp => ?_, fun σ post hs e hp => ?_⟩
  · refine o_cntI L (fun i a s => a = (q i, nI i) ∧ St σ0 n kd dg s) (fun K a s hI => ?_) (fun K i a s hi hI hK => ?_) (Nat.zero_le _) ⟨by rw [q0]; rfl, hs⟩
    · obtain ⟨rfl, hs⟩ := hI
      have hP := (hd.sv hs.1).2.1
      unfold VB_X9_digest_131 V_X3_length
      rw [hP.2.1]
      refine br_t (nI_le (Nat.le_refl _) (by omega)) ?_
      refine o_cntI 12 (fun i a s => a = (r i, nI i) ∧ St σ0 n kd dg s) (fun K a s hI => ?_) (fun K i a s hi hI hK => ?_) (Nat.zero_le _) ⟨by rw [r0]; rfl, hs⟩
      · obtain ⟨rfl, hs⟩ := hI
        exact br_t (show (12 : Int32) ≤ nI 12 by decide) (hp s hs)
      · obtain ⟨rfl, hs⟩ := hI
        refine br_f (nI_nle2 (b := 12) hi (by omega)) ((hr i hi).1 s _ hs (fun s1 hs1 => ?_))
        dsimp only
        rw [nI_1]
        exact hK _ _ ⟨rfl, hs1⟩
    · obtain ⟨rfl, hs⟩ := hI
      have hP := (hd.sv hs.1).2.1
      unfold VB_X9_digest_131 V_X3_length
      rw [hP.2.1]
      refine br_f (nI_nle2 hi (by omega)) (s_at11 i rfl (show i < 14 by omega) ?_)
      rw [(hP.2.2.2 i hi).1, hs.1.1 (8, 0, 8) (by decide), nI_1]
      exact hK _ _ ⟨by rw [hq i hi], hs⟩
  · refine o_cntI L (fun i a s => a = nI i ∧ St σ0 n kd dg s ∧ s.2 24 = q i) (fun K a s hI => ?_) (fun K i a s hi hI hK => ?_) (Nat.zero_le _) ⟨rfl, hs, by rw [q0]; exact e⟩
    · obtain ⟨rfl, hs, e⟩ := hI
      have hP := (hd.sv hs.1).2.1
      unfold VB_X10_digest_126
      rw [hP.2.2.1]
      refine br_t (nI_le (Nat.le_refl _) (by omega)) ?_
      refine o_cntI 12 (fun i a s => a = nI i ∧ St σ0 n kd dg s ∧ s.2 24 = r i) (fun K a s hI => ?_) (fun K i a s hi hI hK => ?_) (Nat.zero_le _) ⟨rfl, hs, by rw [r0]; exact e⟩
      · obtain ⟨rfl, hs, e⟩ := hI
        refine br_t (show (12 : Int32) ≤ nI 12 by decide) ?_
        rw [e]; exact hp s hs
      · obtain ⟨rfl, hs, e⟩ := hI
        refine br_f (nI_nle2 (b := 12) hi (by omega)) ((hr i hi).2 s _ hs e (fun s1 hs1 e1 => ?_))
        show K _ _
        rw [nI_1]
        exact hK _ _ ⟨rfl, hs1, e1⟩
    · obtain ⟨rfl, hs, e⟩ := hI
      have hP := (hd.sv hs.1).2.1
      unfold VB_X10_digest_126
      rw [hP.2.2.1]
      refine br_f (nI_nle2 hi (by omega)) ⟨vp_in_nI (by omega) (by omega), ?_⟩
      rw [nI_clamp (by omega), hs.1.1 (8, 0, 8) (by decide), nI_1]
      exact hK _ _ ⟨rfl, hs.w24 _, by rw [hq i hi, ← e]; rfl⟩
theorem q_mid {σ0 : SS} {n L sc : Nat} {kd dg : Nat → Nat} (hd : Dat σ0 n L sc kd dg) (h1 : 0 < n) (h : Int64) : ∃ h' : Int64, (∀ (σ : SS) (post : Int64 → SS → Prop), St σ0 n kd dg σ → (∀ σ', St σ0 n kd dg σ' → VB_X9_digest_129 post h' σ') → V_X9_order (0 : Int32) σ (fun v40 s40 => V_X9_with h (v40).toInt64 s40 (fun v44 s44 => V_X9_order (1 : Int32) s44 (fun v49 s49 => V_X9_with v44 (v49).toInt64 s49 (fun v53 s53 => ∃ n, LP_X9_digest_59 post n (v53, (0 : Int32)) s53))))) ∧
    (∀ (σ : SS) (post : Int64 → SS → Prop), St σ0 n kd dg σ → σ.2 24 = h → (∀ σ', St σ0 n kd dg σ' → σ'.2 24 = h' → VB_X10_digest_124 post σ') → V_X10_orderNow (0 : Int32) σ (fun v38 s38 => V_X10_mix (v38).toInt64 s38 (fun s42 => V_X10_orderNow (1 : Int32) s42 (fun v48 s48 => V_X10_mix (v48).toInt64 s48 (fun s52 => ∃ n, LP_X10_digest_58 post n (10 : Int32) s52))))) := by
  obtain ⟨a, ha⟩ := (q_order hd h1 (w := 0) (by omega)).mix h
  obtain ⟨b, hb⟩ := (q_order hd h1 (w := 1) (by omega)).mix a
  obtain ⟨q, q0, hq⟩ := seq_ex 6 (fun k hk h => (q_order hd h1 (w := 10 + k) (by omega)).mix h) b
  obtain ⟨c, hc⟩ := (q_songs hd h1 (w := 0) (x1 := 10) (by decide) (by decide) (by omega)).mix (q 6)
  obtain ⟨d, hd1⟩ := (q_songs hd h1 (w := 1) (x1 := 10) (by decide) (by decide) (by omega)).mix c
  obtain ⟨e, he⟩ := (q_sick hd h1 (w := 0) (by omega)).mix d
  obtain ⟨f, hf⟩ := (q_sick hd h1 (w := 1) (by omega)).mix e
  refine ⟨f, fun σ post hs hp => ?_, fun σ post hs e24 hp => ?_⟩
  · refine ha.1 σ _ hs (fun s1 hs1 => hb.1 s1 _ hs1 (fun s2 hs2 => ?_))
    refine o_cntI 6 (fun i a s => a = (q i, nI i) ∧ St σ0 n kd dg s) (fun K a s hI => ?_) (fun K i a s hi hI hK => ?_) (Nat.zero_le _) ⟨by rw [q0]; rfl, hs2⟩
    · obtain ⟨rfl, hs⟩ := hI
      refine br_t (show (6 : Int32) ≤ nI 6 by decide) ?_
      exact hc.1 s _ hs (fun s1 hs1 => hd1.1 s1 _ hs1 (fun s2 hs2 => he.1 s2 _ hs2 (fun s3 hs3 => hf.1 s3 _ hs3 (fun s4 hs4 => hp s4 hs4))))
    · obtain ⟨rfl, hs⟩ := hI
      refine br_f (nI_nle2 (b := 6) hi (by omega)) ?_
      rw [show (10 : Int32) + nI i = nI (10 + i) from nI_add 10 i]
      refine (hq i hi).1 s _ hs (fun s1 hs1 => ?_)
      dsimp only
      rw [nI_1]
      exact hK _ _ ⟨rfl, hs1⟩
  · refine ha.2 σ _ hs e24 (fun s1 hs1 e1 => hb.2 s1 _ hs1 e1 (fun s2 hs2 e2 => ?_))
    refine o_cntI 6 (fun i a s => a = nI (10 + i) ∧ St σ0 n kd dg s ∧ s.2 24 = q i) (fun K a s hI => ?_) (fun K i a s hi hI hK => ?_) (Nat.zero_le _) ⟨rfl, hs2, by rw [q0]; exact e2⟩
    · obtain ⟨rfl, hs, e6⟩ := hI
      refine br_t (show (16 : Int32) ≤ nI (10 + 6) by decide) ?_
      exact hc.2 s _ hs e6 (fun s1 hs1 e1 => hd1.2 s1 _ hs1 e1 (fun s2 hs2 e2 => he.2 s2 _ hs2 e2 (fun s3 hs3 e3 => hf.2 s3 _ hs3 e3 (fun s4 hs4 e4 => hp s4 hs4 e4))))
    · obtain ⟨rfl, hs, ei⟩ := hI
      refine br_f (nI_nle2 (b := 16) (by omega) (by omega)) ?_
      refine (hq i hi).2 s _ hs ei (fun s1 hs1 e1 => ?_)
      show K _ _
      rw [nI_1]
      exact hK _ _ ⟨rfl, hs1, e1⟩
theorem q_digest {σ0 : SS} {n L sc : Nat} {kd dg : Nat → Nat} (hd : Dat σ0 n L sc kd dg) : ∃ v : Int64, (∀ (σ : SS) (post : Int64 → SS → Prop), St σ0 n kd dg σ → (∀ σ', St σ0 n kd dg σ' → post v σ') → V_X9_digest σ post) ∧ (∀ (σ : SS) (post : Int64 → SS → Prop), St σ0 n kd dg σ → (∀ σ', St σ0 n kd dg σ' → post v σ') → V_X10_digest σ post) := by
  have h6 := hd.1.1
  obtain ⟨q, q0, hq⟩ := seq_ex n (fun k hk h => q_child hd hk h) 773
  have endX : ∃ v : Int64, (∀ (σ : SS) (post : Int64 → SS → Prop), St σ0 n kd dg σ → (∀ σ', St σ0 n kd dg σ' → post v σ') → V_X9_hasSchool σ (fun v31 s31 => ((v31 = (0 : Int32) → VB_X9_digest_129 post (q n) s31) ∧ (¬ v31 = (0 : Int32) → V_X9_order (0 : Int32) s31 (fun v40 s40 => V_X9_with (q n) (v40).toInt64 s40 (fun v44 s44 => V_X9_order (1 : Int32) s44 (fun v49 s49 => V_X9_with v44 (v49).toInt64 s49 (fun v53 s53 => ∃ n, LP_X9_digest_59 post n (v53, (0 : Int32)) s53)))))))) ∧ (∀ (σ : SS) (post : Int64 → SS → Prop), St σ0 n kd dg σ → σ.2 24 = q n → (∀ σ', St σ0 n kd dg σ' → post v σ') → (((σ.1 (7, 0, 0) 4) ≤ (0 : Int32) → VB_X10_digest_124 post σ) ∧ (¬ (σ.1 (7, 0, 0) 4) ≤ (0 : Int32) → V_X10_orderNow (0 : Int32) σ (fun v38 s38 => V_X10_mix (v38).toInt64 s38 (fun s42 => V_X10_orderNow (1 : Int32) s42 (fun v48 s48 => V_X10_mix (v48).toInt64 s48 (fun s52 => ∃ n, LP_X10_digest_58 post n (10 : Int32) s52))))))) := by
    rcases Nat.eq_zero_or_pos n with h0 | h1
    · obtain ⟨v, hx, hm⟩ := q_dend hd (q n)
      refine ⟨v, fun σ post hs hp => ?_, fun σ post hs e hp => ?_⟩
      · refine s_has h6 (hd.sv hs.1).1.2.1 ?_
        rw [if_neg (by omega)]
        exact br_t rfl (hx σ post hs hp)
      · refine br_t ?_ (hm σ post hs e hp)
        rw [(hd.sv hs.1).1.2.2.1]
        exact nI_le (a := n) (b := 0) (by omega) (by omega)
    · obtain ⟨a, ax, am⟩ := q_mid hd h1 (q n)
      obtain ⟨v, hx, hm⟩ := q_dend hd a
      refine ⟨v, fun σ post hs hp => ?_, fun σ post hs e hp => ?_⟩
      · refine s_has h6 (hd.sv hs.1).1.2.1 ?_
        rw [if_pos h1]
        exact br_f (by decide) (ax σ post hs (fun s1 hs1 => hx s1 post hs1 hp))
      · refine br_f ?_ (am σ post hs e (fun s1 hs1 e1 => hm s1 post hs1 e1 hp))
        rw [(hd.sv hs.1).1.2.2.1]
        exact nI_nle h1 (by omega)
  obtain ⟨v, ex, em⟩ := endX
  refine ⟨v, fun σ post hs hp => ?_, fun σ post hs hp => ?_⟩
  · refine o_cntI n (fun i a s => a = (q i, nI i) ∧ St σ0 n kd dg s) (fun K a s hI => ?_) (fun K i a s hi hI hK => ?_) (Nat.zero_le _) ⟨by rw [q0]; rfl, hs⟩
    · obtain ⟨rfl, hs⟩ := hI
      exact s_size (hd.sv hs.1).1.2.1 (br_t (nI_le (Nat.le_refl _) (by omega)) (ex s post hs hp))
    · obtain ⟨rfl, hs⟩ := hI
      refine s_size (hd.sv hs.1).1.2.1 (br_f (nI_nle2 hi (by omega)) ((hq i hi).1 s _ hs (fun s1 hs1 => ?_)))
      dsimp only
      rw [nI_1]
      exact hK _ _ ⟨rfl, hs1⟩
  · refine o_cntI n (fun i a s => a = nI i ∧ St σ0 n kd dg s ∧ s.2 24 = q i) (fun K a s hI => ?_) (fun K i a s hi hI hK => ?_) (Nat.zero_le _) ⟨rfl, hs.w24 _, by rw [q0]; rfl⟩
    · obtain ⟨rfl, hs, e⟩ := hI
      refine br_t ?_ (em s post hs e hp)
      rw [(hd.sv hs.1).1.2.2.1]
      exact nI_le (Nat.le_refl _) (by omega)
    · obtain ⟨rfl, hs, e⟩ := hI
      refine br_f ?_ ((hq i hi).2 s _ hs e (fun s1 hs1 e1 => ?_))
      · rw [(hd.sv hs.1).1.2.2.1]
        exact nI_nle2 hi (by omega)
      · show K _ _
        rw [nI_1]
        exact hK _ _ ⟨rfl, hs1, e1⟩
