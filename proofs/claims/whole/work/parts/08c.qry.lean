/-! ASKING changes nothing that counts: only the rows to try in, and the best order once found. s0: the state at the call's start -/
def Sv (σ σ' : SS) : Prop := (∀ i : OI, i ∈ [((1,0,0) : OI), (2,0,0), (3,0,0), (3,1,0), (5,0,0), (5,0,1), (5,0,2), (5,0,3), (5,1,0), (5,1,1), (5,1,2), (5,1,3), (11,0,0), (11,0,1), (11,0,2), (8,0,0), (8,0,1), (8,0,2), (8,0,3), (8,0,4), (8,0,8), (8,0,9), (8,0,10), (8,0,11), (8,0,12), (8,0,13)] → σ'.1 i = σ.1 i) ∧
  (∀ k, k ≠ 14 → k ≠ 15 → σ'.1 (7, 0, 0) k = σ.1 (7, 0, 0) k) ∧ (∀ k, k < 24 → σ'.1 (8, 0, 5) k = σ.1 (8, 0, 5) k ∧ σ'.1 (8, 0, 6) k = σ.1 (8, 0, 6) k) ∧ (∀ k, k < 6 → σ'.1 (8, 0, 7) k = σ.1 (8, 0, 7) k) ∧ (∀ k, k ≠ 7 → σ'.1 (0, 0, 0) k = σ.1 (0, 0, 0) k)
theorem Sv.rf (σ : SS) : Sv σ σ := ⟨fun _ _ => rfl, fun _ _ _ => rfl, fun _ _ => ⟨rfl, rfl⟩, fun _ _ => rfl, fun _ _ => rfl⟩
theorem Sv.tr {a b c : SS} (h : Sv a b) (g : Sv b c) : Sv a c :=
  ⟨fun i hi => (g.1 i hi).trans (h.1 i hi), fun k h1 h2 => (g.2.1 k h1 h2).trans (h.2.1 k h1 h2), fun k hk => ⟨(g.2.2.1 k hk).1.trans (h.2.2.1 k hk).1, (g.2.2.1 k hk).2.trans (h.2.2.1 k hk).2⟩, fun k hk => (g.2.2.2.1 k hk).trans (h.2.2.2.1 k hk), fun k hk => (g.2.2.2.2 k hk).trans (h.2.2.2.2 k hk)⟩
def Dat (σ : SS) (n L sc : Nat) (kd dg : Nat → Nat) : Prop := InvS σ n kd dg ∧ InvP σ L ∧ InvN σ n ∧ InvK σ n sc
theorem Dat.sv {σ σ' : SS} {n L sc : Nat} {kd dg : Nat → Nat} (h : Dat σ n L sc kd dg) (hs : Sv σ σ') : Dat σ' n L sc kd dg := by
  obtain ⟨hS, hP, hN, hK⟩ := h
  obtain ⟨G, g2, g3, g4, g5⟩ := hs
  refine ⟨?_, ?_, ?_, ?_⟩
  · unfold InvS at *
    rw [G (2,0,0) (by decide), g2 4 (by decide) (by decide), G (11,0,1) (by decide), g2 1 (by decide) (by decide), g2 2 (by decide) (by decide), G (8,0,0) (by decide), G (11,0,2) (by decide), G (8,0,1) (by decide)]
    exact hS
  · unfold InvP at *
    rw [G (1,0,0) (by decide), g2 12 (by decide) (by decide), G (11,0,0) (by decide), G (8,0,8) (by decide)]
    exact hP
  · have h6 := hS.1
    unfold InvN at *
    rw [G (5,0,0) (by decide), G (8,0,2) (by decide), G (5,0,1) (by decide), G (5,0,2) (by decide), G (5,0,3) (by decide), G (8,0,4) (by decide), G (3,0,0) (by decide), G (8,0,3) (by decide)]
    exact ⟨hN.1.pM g3, fun k hk => (g4 k (by omega)).trans (hN.2 k hk)⟩
  · unfold InvK at *
    rw [g5 8 (by decide), g5 6 (by decide), g2 0 (by decide) (by decide), g2 17 (by decide) (by decide), g2 18 (by decide) (by decide), G (5,1,0) (by decide), G (8,0,9) (by decide), G (5,1,1) (by decide), G (8,0,12) (by decide), G (5,1,2) (by decide), G (8,0,13) (by decide), G (5,1,3) (by decide), G (8,0,11) (by decide), G (3,1,0) (by decide), G (8,0,10) (by decide)]
    exact hK
/-- like s0, but for what asking may change -/
def St (σ0 : SS) (n : Nat) (kd dg : Nat → Nat) (σ : SS) : Prop := Sv σ0 σ ∧ InvB σ n kd (nI (dg 0))
/-- both sides tell the same number, from any state like s0 -/
def Qry (σ0 : SS) (n : Nat) (kd dg : Nat → Nat) (VX VM : SS → (Int32 → SS → Prop) → Prop) : Prop := ∃ v : Int32, (∀ (σ : SS) (post : Int32 → SS → Prop), St σ0 n kd dg σ → (∀ σ', St σ0 n kd dg σ' → post v σ') → VX σ post) ∧ (∀ (σ : SS) (post : Int32 → SS → Prop), St σ0 n kd dg σ → (∀ σ', St σ0 n kd dg σ' → σ'.2 24 = σ.2 24 → post v σ') → VM σ post)
theorem Op.ofQ {VX VM : SS → (Int32 → SS → Prop) → Prop} (h : ∀ (σ0 : SS) (n L sc : Nat) (kd dg : Nat → Nat), Dat σ0 n L sc kd dg → Qry σ0 n kd dg VX VM) : Op VX VM := by
  intro N σ ⟨n, L, sc, kd, dg, h0, hS, hP, hN, hK, hB⟩ Nx Bd hx
  obtain ⟨v, h1, h2⟩ := h σ n L sc kd dg ⟨hS, hP, hN, hK⟩
  refine h1 σ _ ⟨Sv.rf σ, hB⟩ (fun σ1 hs1 => h2 σ1 _ hs1 (fun σ2 hs2 _ => br_t rfl (hx σ2 ?_)))
  obtain ⟨a, b, c, d⟩ := Dat.sv ⟨hS, hP, hN, hK⟩ hs2.1
  exact ⟨n, L, sc, kd, dg, by omega, a, b, c, d, hs2.2⟩
/-- a question that changes nothing at all -/
theorem Qry.of0 {σ0 : SS} {n L sc : Nat} {kd dg : Nat → Nat} {VX VM : SS → (Int32 → SS → Prop) → Prop} (hd : Dat σ0 n L sc kd dg) (v : Int32) (h1 : ∀ (σ : SS) (post : Int32 → SS → Prop), Sv σ0 σ → Dat σ n L sc kd dg → post v σ → VX σ post) (h2 : ∀ (σ : SS) (post : Int32 → SS → Prop), Sv σ0 σ → Dat σ n L sc kd dg → post v σ → VM σ post) : Qry σ0 n kd dg VX VM :=
  ⟨v, fun σ post hs hp => h1 σ post hs.1 (hd.sv hs.1) (hp σ hs), fun σ post hs hp => h2 σ post hs.1 (hd.sv hs.1) (hp σ hs rfl)⟩
/-! seats -/
theorem s_seatOf {r n k : Nat} {x : Int32} {p : Nat → Nat} {σ : SS} {post : Int32 → SS → Prop} (hn : σ.1 (2, 0, 0) 7 = nI n) (h6 : n ≤ 6) (hs : ∀ j, j < n → p j < n ∧ σ.1 (5, r, 0) j = nI (p j)) (hk : k < n) (hx : x = nI (p k)) (hne : ∀ j, j < k → p j ≠ p k) (h : post (nI k) σ) : V_X4_seatOf r x σ post := by
  subst hx
  refine o_cnt k (fun i => (nI (p k), nI i)) (fun _ => σ) (fun K => ?_) (fun K i hi hK => ?_) (Nat.zero_le _) rfl rfl
  · refine s_size hn (br_f (nI_nle2 hk (by omega)) (s_at5 k rfl (show k < 6 by omega) ?_))
    rw [(hs k hk).2]
    exact nb_t rfl h
  · refine s_size hn (br_f (nI_nle2 (show i < n by omega) (by omega)) (s_at5 i rfl (show i < 6 by omega) ?_))
    rw [(hs i (by omega)).2]
    have h1 := (hs i (by omega)).1
    have h2 := (hs k hk).1
    refine nb_f (fun q => hne i hi ((nI_eq (by omega) (by omega)).mp q)) ?_
    show K (_, _) _
    exact o_Ke hK (by simp only [nI_1]) rfl
/-- from the rows that belong together: where a child sits -/
theorem RowRel.at {n c : Nat} {a b d e f g h i : Nat → Int32} {j : Int32} {l : Nat → Int32} (H : RowRel n a b d e f g h i j l) (h6 : n ≤ 6) (hc : c < n) : ∃ (p : Nat → Nat) (k : Nat), o_perm n p ∧ k < n ∧ p k = c ∧ (∀ j, j < n → p j < n ∧ a j = nI (p j) ∧ b (p j) = nI j) ∧ (∀ j, j < n → j ≠ k → p j ≠ p k) ∧ b c = nI k := by
  obtain ⟨⟨p, hp, hs⟩, -⟩ := H
  obtain ⟨k, hk, he⟩ := hp.2 c hc
  refine ⟨p, k, hp, hk, he, fun j hj => ⟨hp.1 j hj, (hs j hj).1, (hs j hj).2⟩, fun j hj hne hq => hne ?_, by rw [← he]; exact (hs k hk).2⟩
  have h1 := (hs j hj).2
  rw [hq, (hs k hk).2] at h1
  exact ((nI_eq (by omega) (by omega)).mp h1).symm
theorem bit_nI : ∀ il, il < 64 → ∀ c, c < 6 → (nI il >>> (nI c &&& 31)) &&& 1 = nI (il / 2 ^ c % 2) := by decide +kernel
theorem o_bit_nI : ∀ il, il < 64 → ∀ c, c < 6 → o_bit (nI il) (nI c) = nI (il / 2 ^ c % 2) := by decide +kernel
theorem pow6 {n il : Nat} (h6 : n ≤ 6) (h : il < 2 ^ n) : il < 64 := Nat.lt_of_lt_of_le h (Nat.pow_le_pow_right (by omega) h6 : 2 ^ n ≤ 2 ^ 6)
theorem s_partsOf {r c : Nat} {x : Int32} {σ : SS} {post : Int32 → SS → Prop} (hx : x = nI c) (hc : c < 6) (h : post (o_sum (fun s => σ.1 (5, r, 1) (4 * c + s)) 4) σ) : V_X4_partsOf r x σ post := by
  subst hx
  refine o_cnt 4 (fun i => (nI c, o_sum (fun s => σ.1 (5, r, 1) (4 * c + s)) i, nI i)) (fun _ => σ) (fun K => br_t (show (4 : Int32) ≤ nI 4 by decide) h) (fun K i hi hK => ?_) (Nat.zero_le _) rfl rfl
  refine br_f (nI_nle2 (b := 4) hi (by omega)) (s_parts c i rfl rfl hc hi ?_)
  show K (_, _, _) _
  exact o_Ke hK (by simp only [nI_1, o_sum]) rfl
theorem nI_slate2 (c s : Nat) : (4 : Int32) * nI c + nI s = nI (4 * c + s) := by rw [show (4 : Int32) = nI 4 from rfl, pk_mul, nI_add]
theorem s_partsBy {c : Nat} {x : Int32} {σ : SS} {post : Int32 → SS → Prop} (hx : x = nI c) (hc : c < 6) (h : post (o_sum (fun s => σ.1 (8, 0, 5) (4 * c + s)) 4) σ) : V_X10_partsBy x σ post := by
  subst hx
  refine o_cnt 4 (fun i => (nI c, o_sum (fun s => σ.1 (8, 0, 5) (4 * c + s)) i, nI i)) (fun _ => σ) (fun K => br_t (show (4 : Int32) ≤ nI 4 by decide) h) (fun K i hi hK => ?_) (Nat.zero_le _) rfl rfl
  refine br_f (nI_nle2 (b := 4) hi (by omega)) ?_
  rw [nI_slate2]
  refine ⟨vp_in_nI (by omega) (by omega), fun y e => ?_⟩
  show K (_, _, _) _
  exact o_Ke hK (by rw [e, nI_1, nI_clamp (by omega)]; rfl) rfl
theorem o_sum_congr {f g : Nat → Int32} : ∀ {n : Nat}, (∀ k, k < n → f k = g k) → o_sum f n = o_sum g n
  | 0, _ => rfl
  | n + 1, h => by rw [o_sum, o_sum, o_sum_congr (fun k hk => h k (by omega)), h n (by omega)]
/-- of a child: what about() tells -/
theorem q_about {σ0 : SS} {n L sc : Nat} {kd dg : Nat → Nat} (hd : Dat σ0 n L sc kd dg) {c w : Nat} (hc : c < n) (hw : w < 5) : Qry σ0 n kd dg (fun σ p => V_X9_about (nI c) (nI w) σ p) (fun σ p => V_X10_childNow (nI c) (nI w) σ p) := by
  obtain ⟨⟨h6, -, -, -, -, -, -, hkd⟩, -, hN, -⟩ := id hd
  obtain ⟨k1, k2, k3⟩ := hkd c hc
  obtain ⟨p, k, hp, hk, hpk, hst, hne, hso⟩ := hN.1.at h6 hc
  obtain ⟨-, hpw, htd, il, hil, hiX, hiM⟩ := hN.1
  have hc6 : c < 6 := by omega
  have hin : vp_in (nI c) 6 := vp_in_nI hc6 (by omega)
  have hcl : (nI c).toNatClampNeg = c := nI_clamp (by omega)
  match w, hw with
  | 0, _ =>
    refine Qry.of0 hd (nI (kd c)) (fun σ post sv hd' h => ?_) (fun σ post sv hd' h => ?_)
    · obtain ⟨⟨_, x1, -, -, -, -, -, x2⟩, -⟩ := hd'
      refine s_chX x1 h6 rfl hc (nb_f (by decide) ⟨fun _ => s_at11 c rfl (show c < 6 from hc6) (by rw [(x2 c hc).2.1]; exact h), fun z => absurd z (by decide), fun z => absurd z (by decide), fun z => absurd z (by decide), fun z => absurd z (by decide), fun z => absurd rfl z.1⟩)
    · obtain ⟨⟨_, -, -, -, -, -, -, x2⟩, -⟩ := hd'
      refine ⟨fun _ => ⟨hin, by rw [hcl, (x2 c hc).2.2]; exact h⟩, fun z => absurd z (by decide), fun z => absurd z (by decide), fun z => absurd z (by decide), fun z => absurd rfl z.1⟩
  | 1, _ =>
    refine Qry.of0 hd (nI k) (fun σ post sv hd' h => ?_) (fun σ post sv hd' h => ?_)
    · refine s_chX hd'.1.2.1 h6 rfl hc (nb_f (by decide) ⟨fun z => absurd z (by decide), fun _ => ?_, fun z => absurd z (by decide), fun z => absurd z (by decide), fun z => absurd z (by decide), fun z => absurd rfl z.2.1⟩)
      refine s_seatOf (p := p) (k := k) hd'.1.2.1 h6 (fun j hj => ⟨(hst j hj).1, ?_⟩) hk (by rw [hpk]) (fun j hj => hne j (by omega) (by omega)) h
      rw [sv.1 _ (by decide)]; exact (hst j hj).2.1
    · refine ⟨fun z => absurd z (by decide), fun _ => ⟨hin, ?_⟩, fun z => absurd z (by decide), fun z => absurd z (by decide), fun z => absurd rfl z.2.1⟩
      rw [hcl, sv.1 _ (by decide), hso]; exact h
  | 2, _ =>
    refine Qry.of0 hd (nI (il / 2 ^ c % 2)) (fun σ post sv hd' h => ?_) (fun σ post sv hd' h => ?_)
    · refine s_chX hd'.1.2.1 h6 rfl hc (nb_f (by decide) ⟨fun z => absurd z (by decide), fun z => absurd z (by decide), fun _ => s_isIll ?_, fun z => absurd z (by decide), fun z => absurd z (by decide), fun z => absurd rfl z.2.2.1⟩)
      rw [sv.1 _ (by decide), hiX, o_bit_nI il (pow6 h6 hil) c hc6]
      rcases Nat.mod_two_eq_zero_or_one (il / 2 ^ c) with e | e
      · rw [e] at h ⊢; exact br_t rfl h
      · rw [e] at h ⊢; exact br_f (by decide) h
    · refine ⟨fun z => absurd z (by decide), fun z => absurd z (by decide), fun _ => ⟨hin, ?_⟩, fun z => absurd z (by decide), fun z => absurd rfl z.2.2.1⟩
      rw [hcl, sv.1 _ (by decide), hiM c hc]; exact h
  | 3, _ =>
    refine Qry.of0 hd (o_sum (fun s => σ0.1 (5, 0, 1) (4 * c + s)) 4) (fun σ post sv hd' h => ?_) (fun σ post sv hd' h => ?_)
    · refine s_chX hd'.1.2.1 h6 rfl hc (nb_f (by decide) ⟨fun z => absurd z (by decide), fun z => absurd z (by decide), fun z => absurd z (by decide), fun _ => s_partsOf rfl hc6 ?_, fun z => absurd z (by decide), fun z => absurd rfl z.2.2.2.1⟩)
      rw [sv.1 _ (by decide)]; exact h
    · refine ⟨fun z => absurd z (by decide), fun z => absurd z (by decide), fun z => absurd z (by decide), fun _ => s_partsBy rfl hc6 ?_, fun z => absurd rfl z.2.2.2⟩
      rw [o_sum_congr (g := fun s => σ0.1 (5, 0, 1) (4 * c + s)) (fun s hs => ((sv.2.2.1 (4 * c + s) (by omega)).1.trans (hpw (4 * c + s) (by omega)).2.1))]
      exact h
  | 4, _ =>
    refine Qry.of0 hd (σ0.1 (5, 0, 3) c) (fun σ post sv hd' h => ?_) (fun σ post sv hd' h => ?_)
    · refine s_chX hd'.1.2.1 h6 rfl hc (nb_f (by decide) ⟨fun z => absurd z (by decide), fun z => absurd z (by decide), fun z => absurd z (by decide), fun z => absurd z (by decide), fun _ => s_toldOf c rfl hc6 ?_, fun z => absurd rfl z.2.2.2.2⟩)
      rw [sv.1 _ (by decide)]; exact h
    · refine ⟨fun z => absurd z (by decide), fun z => absurd z (by decide), fun z => absurd z (by decide), fun z => absurd z (by decide), fun _ => ⟨hin, ?_⟩⟩
      rw [hcl, sv.1 _ (by decide), (htd c hc).1]; exact h
  | k + 5, hw => exact absurd hw (by omega)
theorem q_knows {σ0 : SS} {n L sc : Nat} {kd dg : Nat → Nat} (hd : Dat σ0 n L sc kd dg) {c s w : Nat} (hc : c < n) (hs : s < 4) (hw : w < 2) : Qry σ0 n kd dg (fun σ p => V_X9_knows (nI c) (nI s) (nI w) σ p) (fun σ p => V_X10_knowsNow (nI c) (nI s) (nI w) σ p) := by
  obtain ⟨⟨h6, -⟩, -, hN, -⟩ := id hd
  obtain ⟨-, hpw, -⟩ := hN.1
  have hc6 : c < 6 := by omega
  match w, hw with
  | 0, _ =>
    refine Qry.of0 hd (σ0.1 (5, 0, 1) (4 * c + s)) (fun σ post sv hd' h => ?_) (fun σ post sv hd' h => ?_)
    · refine s_chX hd'.1.2.1 h6 rfl hc (br_f (by decide) (s_sbX rfl hs (nb_f (by decide) (s_eiX (nb_f (by decide) (nb_t rfl (s_parts c s rfl rfl hc6 hs ?_)))))))
      rw [sv.1 _ (by decide)]; exact h
    · refine nb_t rfl ?_
      rw [nI_slate2]
      refine ⟨vp_in_nI (by omega) (by omega), ?_⟩
      rw [nI_clamp (by omega), (sv.2.2.1 _ (by omega)).1, (hpw _ (by omega)).2.1]; exact h
  | 1, _ =>
    refine Qry.of0 hd (σ0.1 (5, 0, 2) (4 * c + s)) (fun σ post sv hd' h => ?_) (fun σ post sv hd' h => ?_)
    · refine s_chX hd'.1.2.1 h6 rfl hc (br_f (by decide) (s_sbX rfl hs (nb_f (by decide) (s_eiX (nb_f (by decide) (nb_f (by decide) (s_mist c s rfl rfl hc6 hs ?_)))))))
      rw [sv.1 _ (by decide)]; exact h
    · refine nb_f (by decide) ?_
      rw [nI_slate2]
      refine ⟨vp_in_nI (by omega) (by omega), ?_⟩
      rw [nI_clamp (by omega), (sv.2.2.1 _ (by omega)).2, (hpw _ (by omega)).2.2.2.1]; exact h
  | k + 2, hw => exact absurd hw (by omega)
