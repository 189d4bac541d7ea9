/-! THE OBJECTS ONCE THEY STAND: each has an id of three numbers, that never changes; their numbers are a state SS; the heap that holds a state.
ids: (0,0,0) SchoolRow, (1,0,0) Page, (2,0,0) School, (3,r,0) Row r (0 now, 1 kept, 2 trial, 3 best), (4,r,j) its Cells (0 seats, 1 parts, 2 mistakes, 3 told), (5,r,j) their arrays, (6,0,j) one of each kind of child, (7,0,0) the reference, (8,0,j) its arrays, (10,0,j) Cells of Page (0) and School (1 digits, 2 kindNumbers), (11,0,j) their arrays -/
abbrev OI : Type := Nat × Nat × Nat
abbrev SS : Type := (OI → Nat → Int32) × (Nat → Int64)
def o_ids : List OI := [(0,0,0), (1,0,0), (2,0,0), (3,0,0), (3,1,0), (3,2,0), (3,3,0),
  (4,0,0), (4,0,1), (4,0,2), (4,0,3), (4,1,0), (4,1,1), (4,1,2), (4,1,3), (4,2,0), (4,2,1), (4,2,2), (4,2,3), (4,3,0), (4,3,1), (4,3,2), (4,3,3),
  (5,0,0), (5,0,1), (5,0,2), (5,0,3), (5,1,0), (5,1,1), (5,1,2), (5,1,3), (5,2,0), (5,2,1), (5,2,2), (5,2,3), (5,3,0), (5,3,1), (5,3,2), (5,3,3),
  (6,0,0), (6,0,1), (6,0,2), (6,0,3), (6,0,4), (7,0,0),
  (8,0,0), (8,0,1), (8,0,2), (8,0,3), (8,0,4), (8,0,5), (8,0,6), (8,0,7), (8,0,8), (8,0,9), (8,0,10), (8,0,11), (8,0,12), (8,0,13),
  (10,0,0), (10,0,1), (10,0,2), (11,0,0), (11,0,1), (11,0,2)]
theorem o_nodup : o_ids.Nodup := by decide +kernel
theorem o_in3 : ∀ r, r < 4 → (3, r, 0) ∈ o_ids := by decide +kernel
theorem o_in4 : ∀ r, r < 4 → ∀ j, j < 4 → (4, r, j) ∈ o_ids := by decide +kernel
theorem o_in5 : ∀ r, r < 4 → ∀ j, j < 4 → (5, r, j) ∈ o_ids := by decide +kernel
theorem o_in6 : ∀ j, j < 5 → (6, 0, j) ∈ o_ids := by decide +kernel
def o_kc : Nat → Nat
  | 0 => 1
  | 1 => 8
  | 2 => 2
  | 3 => 7
  | _ => 6
def o_len : OI → Nat
  | (5, _, 1) => 24
  | (5, _, 2) => 24
  | (5, _, _) => 6
  | (11, _, 0) => 14
  | (11, _, _) => 6
  | (8, _, 0) => 4
  | (8, _, 5) => 48
  | (8, _, 6) => 48
  | (8, _, 7) => 12
  | (8, _, 8) => 14
  | (8, _, 12) => 24
  | (8, _, 13) => 24
  | _ => 6
/-- the array of a Cells -/
def o_ar (c : OI) : OI := (c.1 + 1, c.2)
/-- a state with the numbers of one object changed -/
def o_wa (σ : SS) (i : OI) (f : Nat → Int32) : SS := (fun j => if j = i then f else σ.1 j, σ.2)
def o_wr (σ : SS) (i : OI) (k : Nat) (v : Int32) : SS := o_wa σ i (upd (σ.1 i) k v)
def o_wl8 (σ : SS) (k : Nat) (v : Int64) : SS := (σ.1, fun n => if n = k then v else σ.2 n)
theorem o_wa_at (σ : SS) (i : OI) (f : Nat → Int32) : (o_wa σ i f).1 i = f := by simp [o_wa]
theorem o_wa_ne (σ : SS) {i j : OI} (f : Nat → Int32) (h : j ≠ i) : (o_wa σ i f).1 j = σ.1 j := by simp [o_wa, h]
theorem o_wr_at (σ : SS) (i : OI) (k : Nat) (v : Int32) : (o_wr σ i k v).1 i = upd (σ.1 i) k v := o_wa_at _ _ _
theorem o_wr_2 (σ : SS) (i : OI) (k : Nat) (v : Int32) : (o_wr σ i k v).2 = σ.2 := rfl
theorem o_wr_ne (σ : SS) {i j : OI} (k : Nat) (v : Int32) (h : j ≠ i) : (o_wr σ i k v).1 j = σ.1 j := o_wa_ne _ _ h
def o_enc (φ : OI → Nat) (cI cB : ClassId) (σ : SS) : OI → va_E
  | (0, a, b) => .inr (9, [.ref (φ (1,0,0)), .ref (φ (2,0,0)), .ref (φ (3,0,0)), .ref (φ (3,1,0)), .ref (φ (3,2,0)), .ref (φ (3,3,0)), .int (σ.1 (0,a,b) 6), .int (σ.1 (0,a,b) 7), .int (σ.1 (0,a,b) 8)])
  | (1, a, b) => .inr (3, [.ref (φ (10,0,0)), .int (σ.1 (1,a,b) 1)])
  | (2, a, b) => .inr (5, [.ref (φ (10,0,1)), .ref (φ (10,0,2)), .ref (φ (6,0,0)), .ref (φ (6,0,1)), .ref (φ (6,0,2)), .ref (φ (6,0,3)), .ref (φ (6,0,4)), .int (σ.1 (2,a,b) 7)])
  | (3, a, b) => .inr (4, [.ref (φ (2,0,0)), .ref (φ (4,a,0)), .ref (φ (4,a,1)), .ref (φ (4,a,2)), .ref (φ (4,a,3)), .int (σ.1 (3,a,b) 5)])
  | (4, a, b) => .inr (0, [.ref (φ (5,a,b))])
  | (5, a, b) => .inl (cI, o_len (5,a,b), .inl (σ.1 (5,a,b)))
  | (6, _, b) => .inr (o_kc b, [])
  | (7, a, b) => .inr (10, [.int (σ.1 (7,a,b) 0), .int (σ.1 (7,a,b) 1), .int (σ.1 (7,a,b) 2), .ref (φ (8,0,0)), .int (σ.1 (7,a,b) 4), .ref (φ (8,0,1)), .ref (φ (8,0,2)), .ref (φ (8,0,3)), .ref (φ (8,0,4)), .ref (φ (8,0,5)), .ref (φ (8,0,6)), .ref (φ (8,0,7)), .int (σ.1 (7,a,b) 12), .ref (φ (8,0,8)), .int (σ.1 (7,a,b) 14), .int (σ.1 (7,a,b) 15), .long (σ.2 16), .int (σ.1 (7,a,b) 17), .int (σ.1 (7,a,b) 18), .ref (φ (8,0,9)), .ref (φ (8,0,10)), .ref (φ (8,0,11)), .ref (φ (8,0,12)), .ref (φ (8,0,13)), .long (σ.2 24)])
  | (8, a, 8) => .inl (cB, 14, .inl (σ.1 (8,a,8)))
  | (8, a, b) => .inl (cI, o_len (8,a,b), .inl (σ.1 (8,a,b)))
  | (10, a, b) => .inr (0, [.ref (φ (11,a,b))])
  | (11, a, b) => .inl (cI, o_len (11,a,b), .inl (σ.1 (11,a,b)))
  | _ => .inr (0, [])
theorem o_enc_ext {φ : OI → Nat} {cI cB : ClassId} {σ σ' : SS} (i : OI) (h : σ'.1 i = σ.1 i) (h2 : i.1 = 7 → σ'.2 = σ.2) : o_enc φ cI cB σ' i = o_enc φ cI cB σ i := by
  obtain ⟨k, a, b⟩ := i
  unfold o_enc
  split <;> simp_all
def o_wl (φ : OI → Nat) (cI cB : ClassId) (σ : SS) : va_W := o_ids.map (fun i => (φ i, o_enc φ cI cB σ i))
def o_A (φ : OI → Nat) : Nat → Prop := fun q => ∃ i ∈ o_ids, φ i = q
def o_J (φ : OI → Nat) : Prop := ∀ i ∈ o_ids, ∀ j ∈ o_ids, φ i = φ j → i = j
theorem o_wl_get {φ : OI → Nat} {cI cB : ClassId} {σ : SS} {q : Nat} {i : OI} (h : o_ids[q]? = some i) : (o_wl φ cI cB σ)[q]? = some (φ i, o_enc φ cI cB σ i) := by
  simp [o_wl, List.getElem?_map, h]
theorem o_wl_inv {φ : OI → Nat} {cI cB : ClassId} {σ : SS} {q : Nat} {x : Nat × va_E} (h : (o_wl φ cI cB σ)[q]? = some x) : ∃ i, o_ids[q]? = some i ∧ x = (φ i, o_enc φ cI cB σ i) := by
  simp only [o_wl, List.getElem?_map, Option.map_eq_some_iff] at h
  obtain ⟨i, h1, h2⟩ := h
  exact ⟨i, h1, h2.symm⟩
theorem o_ids_inj {a b : Nat} {i : OI} (h1 : o_ids[a]? = some i) (h2 : o_ids[b]? = some i) : a = b :=
  (List.getElem?_inj (List.getElem?_eq_some_iff.mp h1).1 o_nodup).mp (h1.trans h2.symm)
theorem o_D {φ : OI → Nat} {cI cB : ClassId} {σ : SS} (h : o_J φ) : va_D (o_A φ) (o_wl φ cI cB σ) := by
  refine ⟨fun a b x y ha hb e => ?_, fun k x hk => ?_⟩
  · obtain ⟨i, h1, rfl⟩ := o_wl_inv ha
    obtain ⟨j, h2, rfl⟩ := o_wl_inv hb
    have hij := h i (List.mem_of_getElem? h1) j (List.mem_of_getElem? h2) e
    subst hij
    exact o_ids_inj h1 h2
  · obtain ⟨i, h1, rfl⟩ := o_wl_inv hk
    exact ⟨i, List.mem_of_getElem? h1, rfl⟩
/-- one object's numbers changed in the list of all cells -/
theorem o_wl_set {φ : OI → Nat} {cI cB : ClassId} {σ σ' : SS} {q : Nat} {i : OI} {e : va_E} (hq : o_ids[q]? = some i) (he : o_enc φ cI cB σ' i = e) (hne : ∀ j ∈ o_ids, j ≠ i → o_enc φ cI cB σ' j = o_enc φ cI cB σ j) : (o_wl φ cI cB σ).set q (φ i, e) = o_wl φ cI cB σ' := by
  have hl : q < o_ids.length := (List.getElem?_eq_some_iff.mp hq).1
  apply List.ext_getElem?
  intro k
  by_cases hk : k = q
  · subst hk
    rw [List.getElem?_set_self (by simpa [o_wl] using hl), o_wl_get hq, he]
  · rw [List.getElem?_set_ne (Ne.symm hk)]
    cases hj : o_ids[k]? with
    | none => simp [o_wl, hj]
    | some j =>
      rw [o_wl_get hj, o_wl_get hj, hne j (List.mem_of_getElem? hj) (fun z => hk (o_ids_inj (z ▸ hj) hq))]
theorem o_wl_wr {φ : OI → Nat} {cI cB : ClassId} {σ : SS} {q : Nat} {i : OI} {e : va_E} {k : Nat} {v : Int32} (hq : o_ids[q]? = some i) (he : o_enc φ cI cB (o_wr σ i k v) i = e) : (o_wl φ cI cB σ).set q (φ i, e) = o_wl φ cI cB (o_wr σ i k v) :=
  o_wl_set hq he (fun j _ hj => o_enc_ext j (o_wr_ne σ k v hj) (fun _ => rfl))
theorem o_wl_w8 {φ : OI → Nat} {cI cB : ClassId} {σ : SS} {q : Nat} {e : va_E} {k : Nat} {v : Int64} (hq : o_ids[q]? = some (7,0,0)) (he : o_enc φ cI cB (o_wl8 σ k v) (7,0,0) = e) : (o_wl φ cI cB σ).set q (φ (7,0,0), e) = o_wl φ cI cB (o_wl8 σ k v) :=
  o_wl_set hq he (fun j hj hn => o_enc_ext j rfl (fun h7 => absurd (show j = (7,0,0) from (by decide +kernel : ∀ j ∈ o_ids, j.1 = 7 → j = (7,0,0)) j hj h7) hn))
/-- what the tables say for good: classes, nest mates, casts -/
def o_K (D : va_G) (cI cB : ClassId) (U : State) : Prop := va_K D vwCl [(cI, .int), (cB, .byte)] U ∧ va_Nw (.methodLinkNest RX4 61 yX9_isIn "SchoolRow") U ∧ va_Nw (.castable RX6 RX7) U ∧
  va_Nc RX1 RX2 U ∧ va_Nc RX1 RX6 U ∧ va_Nc RX1 RX7 U ∧ va_Nc RX1 RX8 U ∧ va_Nc RX2 RX6 U ∧ va_Nc RX2 RX7 U ∧ va_Nc RX2 RX8 U ∧ va_Nc RX6 RX2 U ∧ va_Nc RX6 RX8 U ∧ va_Nc RX7 RX2 U ∧ va_Nc RX7 RX6 U ∧ va_Nc RX7 RX8 U ∧ va_Nc RX8 RX2 U ∧ va_Nc RX8 RX6 U ∧ va_Nc RX8 RX7 U
theorem o_K.warm {D : va_G} {cI cB : ClassId} {s U : State} (hW : s.WarmedH U.vm) (h : o_K D cI cB s) : o_K D cI cB U := by
  obtain ⟨h0, h1, h2, h3⟩ := h
  have a := hW.alike
  exact ⟨va_K.moved a h0, va_Nw.warmM hW h1, va_Nw.warmC hW h2, h3.1.moved a, h3.2.1.moved a, h3.2.2.1.moved a, h3.2.2.2.1.moved a, h3.2.2.2.2.1.moved a, h3.2.2.2.2.2.1.moved a, h3.2.2.2.2.2.2.1.moved a, h3.2.2.2.2.2.2.2.1.moved a, h3.2.2.2.2.2.2.2.2.1.moved a, h3.2.2.2.2.2.2.2.2.2.1.moved a, h3.2.2.2.2.2.2.2.2.2.2.1.moved a, h3.2.2.2.2.2.2.2.2.2.2.2.1.moved a, h3.2.2.2.2.2.2.2.2.2.2.2.2.1.moved a, h3.2.2.2.2.2.2.2.2.2.2.2.2.2.1.moved a, h3.2.2.2.2.2.2.2.2.2.2.2.2.2.2.moved a⟩
theorem o_K.vm {D : va_G} {cI cB : ClassId} {s U : State} (hv : s.vm = U.vm) (h : o_K D cI cB s) : o_K D cI cB U := by
  obtain ⟨h0, h1, h2, h3⟩ := h
  have a : s.vm.Alike U.vm := by rw [hv]; exact Vm.Alike.refl U.vm
  exact ⟨va_K.moved a h0, va_Nw.same rfl hv h1, va_Nw.same rfl hv h2, h3.1.moved a, h3.2.1.moved a, h3.2.2.1.moved a, h3.2.2.2.1.moved a, h3.2.2.2.2.1.moved a, h3.2.2.2.2.2.1.moved a, h3.2.2.2.2.2.2.1.moved a, h3.2.2.2.2.2.2.2.1.moved a, h3.2.2.2.2.2.2.2.2.1.moved a, h3.2.2.2.2.2.2.2.2.2.1.moved a, h3.2.2.2.2.2.2.2.2.2.2.1.moved a, h3.2.2.2.2.2.2.2.2.2.2.2.1.moved a, h3.2.2.2.2.2.2.2.2.2.2.2.2.1.moved a, h3.2.2.2.2.2.2.2.2.2.2.2.2.2.1.moved a, h3.2.2.2.2.2.2.2.2.2.2.2.2.2.2.moved a⟩
/-- a method's start: the arguments, the state -/
abbrev o_Pc (φ : OI → Nat) (D : va_G) (cI cB : ClassId) (σ : SS) (av : List Value) : Array Value → State → Prop := va_Pc av (fun U => va_P D vwCl (o_wl φ cI cB σ) U.heap ∧ o_K D cI cB U)
abbrev o_B (φ : OI → Nat) (D : va_G) (cI cB : ClassId) : SS → State → Prop := fun σ t => va_P D vwCl (o_wl φ cI cB σ) t.heap
abbrev o_rm (fr lo : Nat) : Room := { frames := fr, cells := 0, slots := 0, locals := lo }
/-- the contracts: from state sg the method returns an answer and a state that post allows -/
def o_Mi (l : Launch) (φ : OI → Nat) (D : va_G) (cI cB : ClassId) (y : MethodName) (ws : List Cond) (fr lo : Nat) (av : List Value) (σ : SS) (post : Int32 → SS → Prop) : Prop := Met l y ws (o_rm fr lo) (o_Pc φ D cI cB σ av) (va_Qi post (o_B φ D cI cB) (o_A φ)) 0 0 (o_A φ)
def o_Ml (l : Launch) (φ : OI → Nat) (D : va_G) (cI cB : ClassId) (y : MethodName) (ws : List Cond) (fr lo : Nat) (av : List Value) (σ : SS) (post : Int64 → SS → Prop) : Prop := Met l y ws (o_rm fr lo) (o_Pc φ D cI cB σ av) (va_Ql post (o_B φ D cI cB) (o_A φ)) 0 0 (o_A φ)
def o_Mv (l : Launch) (φ : OI → Nat) (D : va_G) (cI cB : ClassId) (y : MethodName) (ws : List Cond) (fr lo : Nat) (av : List Value) (σ : SS) (post : SS → Prop) : Prop := Met l y ws (o_rm fr lo) (o_Pc φ D cI cB σ av) (va_Qv post (o_B φ D cI cB) (o_A φ)) 0 0 (o_A φ)
def o_Mr (l : Launch) (φ : OI → Nat) (D : va_G) (cI cB : ClassId) (y : MethodName) (ws : List Cond) (fr lo : Nat) (av : List Value) (σ : SS) (post : Nat → SS → Prop) : Prop := Met l y ws (o_rm fr lo) (o_Pc φ D cI cB σ av) (va_Qr (S := Nat × SS) (fun u => u.1 < 5 ∧ post u.1 u.2) (fun u a t => a = φ (6, 0, u.1) ∧ o_B φ D cI cB u.2 t) (o_A φ)) 0 0 (o_A φ)
theorem o_blind {φ : OI → Nat} {D : va_G} {cI cB : ClassId} {σ : SS} {av : List Value} : FrameBlind (o_Pc φ D cI cB σ av) := fun a U g mk q => ⟨q.1, q.2.1, o_K.vm (s := U) (U := U.calling g mk a) rfl q.2.2⟩
/-! the objects' cells, read and written -/
/-- an int array of n places; a byte array -/
def o_isA (i : OI) (n : Nat) : Prop := i ∈ o_ids ∧ ∀ (φ : OI → Nat) (cI cB : ClassId) (σ : SS), o_enc φ cI cB σ i = .inl (cI, n, .inl (σ.1 i))
def o_isB (i : OI) (n : Nat) : Prop := i ∈ o_ids ∧ ∀ (φ : OI → Nat) (cI cB : ClassId) (σ : SS), o_enc φ cI cB σ i = .inl (cB, n, .inl (σ.1 i))
def o_Cl (c : OI) : Prop := c ∈ o_ids ∧ (∀ (φ : OI → Nat) (cI cB : ClassId) (σ : SS), o_enc φ cI cB σ c = .inr (0, [.ref (φ (o_ar c))])) ∧ o_isA (o_ar c) (o_len (o_ar c))
theorem o_Cl4 (r : Nat) (hr : r < 4) (j : Nat) (hj : j < 4) : o_Cl (4, r, j) := ⟨o_in4 r hr j hj, fun _ _ _ _ => rfl, o_in5 r hr j hj, fun _ _ _ _ => rfl⟩
theorem o_in10 : ∀ j, j < 3 → (10, 0, j) ∈ o_ids := by decide +kernel
theorem o_in11 : ∀ j, j < 3 → (11, 0, j) ∈ o_ids := by decide +kernel
theorem o_Cl10 (j : Nat) (hj : j < 3) : o_Cl (10, 0, j) := ⟨o_in10 j hj, fun _ _ _ _ => rfl, o_in11 j hj, fun _ _ _ _ => rfl⟩
theorem o_iX9 : ((0, 0, 0) : OI) ∈ o_ids := by decide +kernel
theorem o_iX3 : ((1, 0, 0) : OI) ∈ o_ids := by decide +kernel
theorem o_iX5 : ((2, 0, 0) : OI) ∈ o_ids := by decide +kernel
theorem o_iX10 : ((7, 0, 0) : OI) ∈ o_ids := by decide +kernel
theorem o_M0 : o_isA (8, 0, 0) 4 := ⟨by decide +kernel, fun _ _ _ _ => rfl⟩
theorem o_M1 : o_isA (8, 0, 1) 6 := ⟨by decide +kernel, fun _ _ _ _ => rfl⟩
theorem o_M2 : o_isA (8, 0, 2) 6 := ⟨by decide +kernel, fun _ _ _ _ => rfl⟩
theorem o_M3 : o_isA (8, 0, 3) 6 := ⟨by decide +kernel, fun _ _ _ _ => rfl⟩
theorem o_M4 : o_isA (8, 0, 4) 6 := ⟨by decide +kernel, fun _ _ _ _ => rfl⟩
theorem o_M5 : o_isA (8, 0, 5) 48 := ⟨by decide +kernel, fun _ _ _ _ => rfl⟩
theorem o_M6 : o_isA (8, 0, 6) 48 := ⟨by decide +kernel, fun _ _ _ _ => rfl⟩
theorem o_M7 : o_isA (8, 0, 7) 12 := ⟨by decide +kernel, fun _ _ _ _ => rfl⟩
theorem o_M8 : o_isB (8, 0, 8) 14 := ⟨by decide +kernel, fun _ _ _ _ => rfl⟩
theorem o_M9 : o_isA (8, 0, 9) 6 := ⟨by decide +kernel, fun _ _ _ _ => rfl⟩
theorem o_M10 : o_isA (8, 0, 10) 6 := ⟨by decide +kernel, fun _ _ _ _ => rfl⟩
theorem o_M11 : o_isA (8, 0, 11) 6 := ⟨by decide +kernel, fun _ _ _ _ => rfl⟩
theorem o_M12 : o_isA (8, 0, 12) 24 := ⟨by decide +kernel, fun _ _ _ _ => rfl⟩
theorem o_M13 : o_isA (8, 0, 13) 24 := ⟨by decide +kernel, fun _ _ _ _ => rfl⟩
theorem o_eX9 (φ : OI → Nat) (cI cB : ClassId) (σ : SS) : o_enc φ cI cB σ (0, 0, 0) = .inr (9, [.ref (φ (1,0,0)), .ref (φ (2,0,0)), .ref (φ (3,0,0)), .ref (φ (3,1,0)), .ref (φ (3,2,0)), .ref (φ (3,3,0)), .int (σ.1 (0, 0, 0) 6), .int (σ.1 (0, 0, 0) 7), .int (σ.1 (0, 0, 0) 8)]) := rfl
theorem o_pX9_6 (φ : OI → Nat) (cI cB : ClassId) (σ : SS) (v : Int32) : o_enc φ cI cB (o_wr σ (0, 0, 0) 6 v) (0, 0, 0) = .inr (9, List.set [.ref (φ (1,0,0)), .ref (φ (2,0,0)), .ref (φ (3,0,0)), .ref (φ (3,1,0)), .ref (φ (3,2,0)), .ref (φ (3,3,0)), .int (σ.1 (0, 0, 0) 6), .int (σ.1 (0, 0, 0) 7), .int (σ.1 (0, 0, 0) 8)] 6 (.int v)) := by
  rw [o_eX9]
  simp [o_wr_at, o_wr_2, o_wl8, upd, List.set]
theorem o_pX9_7 (φ : OI → Nat) (cI cB : ClassId) (σ : SS) (v : Int32) : o_enc φ cI cB (o_wr σ (0, 0, 0) 7 v) (0, 0, 0) = .inr (9, List.set [.ref (φ (1,0,0)), .ref (φ (2,0,0)), .ref (φ (3,0,0)), .ref (φ (3,1,0)), .ref (φ (3,2,0)), .ref (φ (3,3,0)), .int (σ.1 (0, 0, 0) 6), .int (σ.1 (0, 0, 0) 7), .int (σ.1 (0, 0, 0) 8)] 7 (.int v)) := by
  rw [o_eX9]
  simp [o_wr_at, o_wr_2, o_wl8, upd, List.set]
theorem o_pX9_8 (φ : OI → Nat) (cI cB : ClassId) (σ : SS) (v : Int32) : o_enc φ cI cB (o_wr σ (0, 0, 0) 8 v) (0, 0, 0) = .inr (9, List.set [.ref (φ (1,0,0)), .ref (φ (2,0,0)), .ref (φ (3,0,0)), .ref (φ (3,1,0)), .ref (φ (3,2,0)), .ref (φ (3,3,0)), .int (σ.1 (0, 0, 0) 6), .int (σ.1 (0, 0, 0) 7), .int (σ.1 (0, 0, 0) 8)] 8 (.int v)) := by
  rw [o_eX9]
  simp [o_wr_at, o_wr_2, o_wl8, upd, List.set]
theorem o_eX3 (φ : OI → Nat) (cI cB : ClassId) (σ : SS) : o_enc φ cI cB σ (1, 0, 0) = .inr (3, [.ref (φ (10,0,0)), .int (σ.1 (1, 0, 0) 1)]) := rfl
theorem o_pX3_1 (φ : OI → Nat) (cI cB : ClassId) (σ : SS) (v : Int32) : o_enc φ cI cB (o_wr σ (1, 0, 0) 1 v) (1, 0, 0) = .inr (3, List.set [.ref (φ (10,0,0)), .int (σ.1 (1, 0, 0) 1)] 1 (.int v)) := by
  rw [o_eX3]
  simp [o_wr_at, o_wr_2, o_wl8, upd, List.set]
theorem o_eX5 (φ : OI → Nat) (cI cB : ClassId) (σ : SS) : o_enc φ cI cB σ (2, 0, 0) = .inr (5, [.ref (φ (10,0,1)), .ref (φ (10,0,2)), .ref (φ (6,0,0)), .ref (φ (6,0,1)), .ref (φ (6,0,2)), .ref (φ (6,0,3)), .ref (φ (6,0,4)), .int (σ.1 (2, 0, 0) 7)]) := rfl
theorem o_pX5_7 (φ : OI → Nat) (cI cB : ClassId) (σ : SS) (v : Int32) : o_enc φ cI cB (o_wr σ (2, 0, 0) 7 v) (2, 0, 0) = .inr (5, List.set [.ref (φ (10,0,1)), .ref (φ (10,0,2)), .ref (φ (6,0,0)), .ref (φ (6,0,1)), .ref (φ (6,0,2)), .ref (φ (6,0,3)), .ref (φ (6,0,4)), .int (σ.1 (2, 0, 0) 7)] 7 (.int v)) := by
  rw [o_eX5]
  simp [o_wr_at, o_wr_2, o_wl8, upd, List.set]
theorem o_eX4 (φ : OI → Nat) (cI cB : ClassId) (σ : SS) (r : Nat) : o_enc φ cI cB σ (3, r, 0) = .inr (4, [.ref (φ (2,0,0)), .ref (φ (4,r,0)), .ref (φ (4,r,1)), .ref (φ (4,r,2)), .ref (φ (4,r,3)), .int (σ.1 (3, r, 0) 5)]) := rfl
theorem o_pX4_5 (φ : OI → Nat) (cI cB : ClassId) (σ : SS) (r : Nat) (v : Int32) : o_enc φ cI cB (o_wr σ (3, r, 0) 5 v) (3, r, 0) = .inr (4, List.set [.ref (φ (2,0,0)), .ref (φ (4,r,0)), .ref (φ (4,r,1)), .ref (φ (4,r,2)), .ref (φ (4,r,3)), .int (σ.1 (3, r, 0) 5)] 5 (.int v)) := by
  rw [o_eX4]
  simp [o_wr_at, o_wr_2, o_wl8, upd, List.set]
theorem o_eX10 (φ : OI → Nat) (cI cB : ClassId) (σ : SS) : o_enc φ cI cB σ (7, 0, 0) = .inr (10, [.int (σ.1 (7, 0, 0) 0), .int (σ.1 (7, 0, 0) 1), .int (σ.1 (7, 0, 0) 2), .ref (φ (8,0,0)), .int (σ.1 (7, 0, 0) 4), .ref (φ (8,0,1)), .ref (φ (8,0,2)), .ref (φ (8,0,3)), .ref (φ (8,0,4)), .ref (φ (8,0,5)), .ref (φ (8,0,6)), .ref (φ (8,0,7)), .int (σ.1 (7, 0, 0) 12), .ref (φ (8,0,8)), .int (σ.1 (7, 0, 0) 14), .int (σ.1 (7, 0, 0) 15), .long (σ.2 16), .int (σ.1 (7, 0, 0) 17), .int (σ.1 (7, 0, 0) 18), .ref (φ (8,0,9)), .ref (φ (8,0,10)), .ref (φ (8,0,11)), .ref (φ (8,0,12)), .ref (φ (8,0,13)), .long (σ.2 24)]) := rfl
theorem o_pX10_0 (φ : OI → Nat) (cI cB : ClassId) (σ : SS) (v : Int32) : o_enc φ cI cB (o_wr σ (7, 0, 0) 0 v) (7, 0, 0) = .inr (10, List.set [.int (σ.1 (7, 0, 0) 0), .int (σ.1 (7, 0, 0) 1), .int (σ.1 (7, 0, 0) 2), .ref (φ (8,0,0)), .int (σ.1 (7, 0, 0) 4), .ref (φ (8,0,1)), .ref (φ (8,0,2)), .ref (φ (8,0,3)), .ref (φ (8,0,4)), .ref (φ (8,0,5)), .ref (φ (8,0,6)), .ref (φ (8,0,7)), .int (σ.1 (7, 0, 0) 12), .ref (φ (8,0,8)), .int (σ.1 (7, 0, 0) 14), .int (σ.1 (7, 0, 0) 15), .long (σ.2 16), .int (σ.1 (7, 0, 0) 17), .int (σ.1 (7, 0, 0) 18), .ref (φ (8,0,9)), .ref (φ (8,0,10)), .ref (φ (8,0,11)), .ref (φ (8,0,12)), .ref (φ (8,0,13)), .long (σ.2 24)] 0 (.int v)) := by
  rw [o_eX10]
  simp [o_wr_at, o_wr_2, o_wl8, upd, List.set]
theorem o_pX10_1 (φ : OI → Nat) (cI cB : ClassId) (σ : SS) (v : Int32) : o_enc φ cI cB (o_wr σ (7, 0, 0) 1 v) (7, 0, 0) = .inr (10, List.set [.int (σ.1 (7, 0, 0) 0), .int (σ.1 (7, 0, 0) 1), .int (σ.1 (7, 0, 0) 2), .ref (φ (8,0,0)), .int (σ.1 (7, 0, 0) 4), .ref (φ (8,0,1)), .ref (φ (8,0,2)), .ref (φ (8,0,3)), .ref (φ (8,0,4)), .ref (φ (8,0,5)), .ref (φ (8,0,6)), .ref (φ (8,0,7)), .int (σ.1 (7, 0, 0) 12), .ref (φ (8,0,8)), .int (σ.1 (7, 0, 0) 14), .int (σ.1 (7, 0, 0) 15), .long (σ.2 16), .int (σ.1 (7, 0, 0) 17), .int (σ.1 (7, 0, 0) 18), .ref (φ (8,0,9)), .ref (φ (8,0,10)), .ref (φ (8,0,11)), .ref (φ (8,0,12)), .ref (φ (8,0,13)), .long (σ.2 24)] 1 (.int v)) := by
  rw [o_eX10]
  simp [o_wr_at, o_wr_2, o_wl8, upd, List.set]
theorem o_pX10_2 (φ : OI → Nat) (cI cB : ClassId) (σ : SS) (v : Int32) : o_enc φ cI cB (o_wr σ (7, 0, 0) 2 v) (7, 0, 0) = .inr (10, List.set [.int (σ.1 (7, 0, 0) 0), .int (σ.1 (7, 0, 0) 1), .int (σ.1 (7, 0, 0) 2), .ref (φ (8,0,0)), .int (σ.1 (7, 0, 0) 4), .ref (φ (8,0,1)), .ref (φ (8,0,2)), .ref (φ (8,0,3)), .ref (φ (8,0,4)), .ref (φ (8,0,5)), .ref (φ (8,0,6)), .ref (φ (8,0,7)), .int (σ.1 (7, 0, 0) 12), .ref (φ (8,0,8)), .int (σ.1 (7, 0, 0) 14), .int (σ.1 (7, 0, 0) 15), .long (σ.2 16), .int (σ.1 (7, 0, 0) 17), .int (σ.1 (7, 0, 0) 18), .ref (φ (8,0,9)), .ref (φ (8,0,10)), .ref (φ (8,0,11)), .ref (φ (8,0,12)), .ref (φ (8,0,13)), .long (σ.2 24)] 2 (.int v)) := by
  rw [o_eX10]
  simp [o_wr_at, o_wr_2, o_wl8, upd, List.set]
theorem o_pX10_4 (φ : OI → Nat) (cI cB : ClassId) (σ : SS) (v : Int32) : o_enc φ cI cB (o_wr σ (7, 0, 0) 4 v) (7, 0, 0) = .inr (10, List.set [.int (σ.1 (7, 0, 0) 0), .int (σ.1 (7, 0, 0) 1), .int (σ.1 (7, 0, 0) 2), .ref (φ (8,0,0)), .int (σ.1 (7, 0, 0) 4), .ref (φ (8,0,1)), .ref (φ (8,0,2)), .ref (φ (8,0,3)), .ref (φ (8,0,4)), .ref (φ (8,0,5)), .ref (φ (8,0,6)), .ref (φ (8,0,7)), .int (σ.1 (7, 0, 0) 12), .ref (φ (8,0,8)), .int (σ.1 (7, 0, 0) 14), .int (σ.1 (7, 0, 0) 15), .long (σ.2 16), .int (σ.1 (7, 0, 0) 17), .int (σ.1 (7, 0, 0) 18), .ref (φ (8,0,9)), .ref (φ (8,0,10)), .ref (φ (8,0,11)), .ref (φ (8,0,12)), .ref (φ (8,0,13)), .long (σ.2 24)] 4 (.int v)) := by
  rw [o_eX10]
  simp [o_wr_at, o_wr_2, o_wl8, upd, List.set]
theorem o_pX10_12 (φ : OI → Nat) (cI cB : ClassId) (σ : SS) (v : Int32) : o_enc φ cI cB (o_wr σ (7, 0, 0) 12 v) (7, 0, 0) = .inr (10, List.set [.int (σ.1 (7, 0, 0) 0), .int (σ.1 (7, 0, 0) 1), .int (σ.1 (7, 0, 0) 2), .ref (φ (8,0,0)), .int (σ.1 (7, 0, 0) 4), .ref (φ (8,0,1)), .ref (φ (8,0,2)), .ref (φ (8,0,3)), .ref (φ (8,0,4)), .ref (φ (8,0,5)), .ref (φ (8,0,6)), .ref (φ (8,0,7)), .int (σ.1 (7, 0, 0) 12), .ref (φ (8,0,8)), .int (σ.1 (7, 0, 0) 14), .int (σ.1 (7, 0, 0) 15), .long (σ.2 16), .int (σ.1 (7, 0, 0) 17), .int (σ.1 (7, 0, 0) 18), .ref (φ (8,0,9)), .ref (φ (8,0,10)), .ref (φ (8,0,11)), .ref (φ (8,0,12)), .ref (φ (8,0,13)), .long (σ.2 24)] 12 (.int v)) := by
  rw [o_eX10]
  simp [o_wr_at, o_wr_2, o_wl8, upd, List.set]
theorem o_pX10_14 (φ : OI → Nat) (cI cB : ClassId) (σ : SS) (v : Int32) : o_enc φ cI cB (o_wr σ (7, 0, 0) 14 v) (7, 0, 0) = .inr (10, List.set [.int (σ.1 (7, 0, 0) 0), .int (σ.1 (7, 0, 0) 1), .int (σ.1 (7, 0, 0) 2), .ref (φ (8,0,0)), .int (σ.1 (7, 0, 0) 4), .ref (φ (8,0,1)), .ref (φ (8,0,2)), .ref (φ (8,0,3)), .ref (φ (8,0,4)), .ref (φ (8,0,5)), .ref (φ (8,0,6)), .ref (φ (8,0,7)), .int (σ.1 (7, 0, 0) 12), .ref (φ (8,0,8)), .int (σ.1 (7, 0, 0) 14), .int (σ.1 (7, 0, 0) 15), .long (σ.2 16), .int (σ.1 (7, 0, 0) 17), .int (σ.1 (7, 0, 0) 18), .ref (φ (8,0,9)), .ref (φ (8,0,10)), .ref (φ (8,0,11)), .ref (φ (8,0,12)), .ref (φ (8,0,13)), .long (σ.2 24)] 14 (.int v)) := by
  rw [o_eX10]
  simp [o_wr_at, o_wr_2, o_wl8, upd, List.set]
theorem o_pX10_15 (φ : OI → Nat) (cI cB : ClassId) (σ : SS) (v : Int32) : o_enc φ cI cB (o_wr σ (7, 0, 0) 15 v) (7, 0, 0) = .inr (10, List.set [.int (σ.1 (7, 0, 0) 0), .int (σ.1 (7, 0, 0) 1), .int (σ.1 (7, 0, 0) 2), .ref (φ (8,0,0)), .int (σ.1 (7, 0, 0) 4), .ref (φ (8,0,1)), .ref (φ (8,0,2)), .ref (φ (8,0,3)), .ref (φ (8,0,4)), .ref (φ (8,0,5)), .ref (φ (8,0,6)), .ref (φ (8,0,7)), .int (σ.1 (7, 0, 0) 12), .ref (φ (8,0,8)), .int (σ.1 (7, 0, 0) 14), .int (σ.1 (7, 0, 0) 15), .long (σ.2 16), .int (σ.1 (7, 0, 0) 17), .int (σ.1 (7, 0, 0) 18), .ref (φ (8,0,9)), .ref (φ (8,0,10)), .ref (φ (8,0,11)), .ref (φ (8,0,12)), .ref (φ (8,0,13)), .long (σ.2 24)] 15 (.int v)) := by
  rw [o_eX10]
  simp [o_wr_at, o_wr_2, o_wl8, upd, List.set]
theorem o_pX10_16 (φ : OI → Nat) (cI cB : ClassId) (σ : SS) (v : Int64) : o_enc φ cI cB (o_wl8 σ 16 v) (7, 0, 0) = .inr (10, List.set [.int (σ.1 (7, 0, 0) 0), .int (σ.1 (7, 0, 0) 1), .int (σ.1 (7, 0, 0) 2), .ref (φ (8,0,0)), .int (σ.1 (7, 0, 0) 4), .ref (φ (8,0,1)), .ref (φ (8,0,2)), .ref (φ (8,0,3)), .ref (φ (8,0,4)), .ref (φ (8,0,5)), .ref (φ (8,0,6)), .ref (φ (8,0,7)), .int (σ.1 (7, 0, 0) 12), .ref (φ (8,0,8)), .int (σ.1 (7, 0, 0) 14), .int (σ.1 (7, 0, 0) 15), .long (σ.2 16), .int (σ.1 (7, 0, 0) 17), .int (σ.1 (7, 0, 0) 18), .ref (φ (8,0,9)), .ref (φ (8,0,10)), .ref (φ (8,0,11)), .ref (φ (8,0,12)), .ref (φ (8,0,13)), .long (σ.2 24)] 16 (.long v)) := by
  rw [o_eX10]
  simp [o_wr_at, o_wr_2, o_wl8, upd, List.set]
theorem o_pX10_17 (φ : OI → Nat) (cI cB : ClassId) (σ : SS) (v : Int32) : o_enc φ cI cB (o_wr σ (7, 0, 0) 17 v) (7, 0, 0) = .inr (10, List.set [.int (σ.1 (7, 0, 0) 0), .int (σ.1 (7, 0, 0) 1), .int (σ.1 (7, 0, 0) 2), .ref (φ (8,0,0)), .int (σ.1 (7, 0, 0) 4), .ref (φ (8,0,1)), .ref (φ (8,0,2)), .ref (φ (8,0,3)), .ref (φ (8,0,4)), .ref (φ (8,0,5)), .ref (φ (8,0,6)), .ref (φ (8,0,7)), .int (σ.1 (7, 0, 0) 12), .ref (φ (8,0,8)), .int (σ.1 (7, 0, 0) 14), .int (σ.1 (7, 0, 0) 15), .long (σ.2 16), .int (σ.1 (7, 0, 0) 17), .int (σ.1 (7, 0, 0) 18), .ref (φ (8,0,9)), .ref (φ (8,0,10)), .ref (φ (8,0,11)), .ref (φ (8,0,12)), .ref (φ (8,0,13)), .long (σ.2 24)] 17 (.int v)) := by
  rw [o_eX10]
  simp [o_wr_at, o_wr_2, o_wl8, upd, List.set]
theorem o_pX10_18 (φ : OI → Nat) (cI cB : ClassId) (σ : SS) (v : Int32) : o_enc φ cI cB (o_wr σ (7, 0, 0) 18 v) (7, 0, 0) = .inr (10, List.set [.int (σ.1 (7, 0, 0) 0), .int (σ.1 (7, 0, 0) 1), .int (σ.1 (7, 0, 0) 2), .ref (φ (8,0,0)), .int (σ.1 (7, 0, 0) 4), .ref (φ (8,0,1)), .ref (φ (8,0,2)), .ref (φ (8,0,3)), .ref (φ (8,0,4)), .ref (φ (8,0,5)), .ref (φ (8,0,6)), .ref (φ (8,0,7)), .int (σ.1 (7, 0, 0) 12), .ref (φ (8,0,8)), .int (σ.1 (7, 0, 0) 14), .int (σ.1 (7, 0, 0) 15), .long (σ.2 16), .int (σ.1 (7, 0, 0) 17), .int (σ.1 (7, 0, 0) 18), .ref (φ (8,0,9)), .ref (φ (8,0,10)), .ref (φ (8,0,11)), .ref (φ (8,0,12)), .ref (φ (8,0,13)), .long (σ.2 24)] 18 (.int v)) := by
  rw [o_eX10]
  simp [o_wr_at, o_wr_2, o_wl8, upd, List.set]
theorem o_pX10_24 (φ : OI → Nat) (cI cB : ClassId) (σ : SS) (v : Int64) : o_enc φ cI cB (o_wl8 σ 24 v) (7, 0, 0) = .inr (10, List.set [.int (σ.1 (7, 0, 0) 0), .int (σ.1 (7, 0, 0) 1), .int (σ.1 (7, 0, 0) 2), .ref (φ (8,0,0)), .int (σ.1 (7, 0, 0) 4), .ref (φ (8,0,1)), .ref (φ (8,0,2)), .ref (φ (8,0,3)), .ref (φ (8,0,4)), .ref (φ (8,0,5)), .ref (φ (8,0,6)), .ref (φ (8,0,7)), .int (σ.1 (7, 0, 0) 12), .ref (φ (8,0,8)), .int (σ.1 (7, 0, 0) 14), .int (σ.1 (7, 0, 0) 15), .long (σ.2 16), .int (σ.1 (7, 0, 0) 17), .int (σ.1 (7, 0, 0) 18), .ref (φ (8,0,9)), .ref (φ (8,0,10)), .ref (φ (8,0,11)), .ref (φ (8,0,12)), .ref (φ (8,0,13)), .long (σ.2 24)] 24 (.long v)) := by
  rw [o_eX10]
  simp [o_wr_at, o_wr_2, o_wl8, upd, List.set]
