theorem fm_of {α β : Type} {f : α → Option β} {l : List α} {w : List β} (h : l.map f = w.map some) : l.filterMap f = w := by
  have h1 : l.filterMap f = (l.map f).filterMap id := by rw [List.filterMap_map]; rfl
  rw [h1, h, List.filterMap_map]
  simp
set_option maxHeartbeats 4000000 in
set_option maxRecDepth 100000 in
theorem o_world (q r : Nat) (u v : List Nat) (cI cB : ClassId) : [0, 1, 4, 14, 23, 32, 41, 15, 17, 19, 21, 24, 26, 28, 30, 33, 35, 37, 39, 42, 44, 46, 48, 16, 18, 20, 22, 25, 27, 29, 31, 34, 36, 38, 40, 43, 45, 47, 49, 9, 10, 11, 12, 13, 50, 51, 52, 53, 54, 55, 56, 57, 58, 59, 60, 61, 62, 63, 64, 2, 5, 7, 3, 6, 8].map (fun i => (kX9 cI cB q u ++ kX10 cI cB r v)[i]?) = (o_wl (o_phi q r u v) cI cB o_s0).map some := rfl
set_option maxHeartbeats 4000000 in
set_option maxRecDepth 100000 in
/-- THE LAW, from its entry -/
theorem whole_start {p : Program} {e : Env} {s : State} {m : MethodId} {below : List Frame} {meth : Method} {c : Code} (l : Launch) (hflags : l.flags = flags0) {b L : Nat} {xs : Nat → Int32} (hL : L ≤ 256) (C0 : lw_At p s m meth c b L xs) : W p l e room_1 s m #[Value.ref b] below meth c s.heap [] 0 0 (lw_Z below #[Value.ref b] s) (entryFrame m ([Value.ref b] : List Value).toArray 4) := by
  obtain ⟨hx, hb, hr, hml, hown, hts, hX, hbl, hlocks, hgv⟩ := id C0
  have hown : s.vm.findClass RL = some m.cls := hown
  obtain ⟨D, cI, cB, hkK, hoK⟩ := lw_facts hts hgv
  have hA : ∀ q : Nat, s.heap.size ≤ q → (fun q : Nat => s.heap.size ≤ q) q := fun _ h => h
  have hS : va_S (fun q : Nat => s.heap.size ≤ q) s.heap s.heap [] := va_S.rf
  have hP : va_P D vwCl [] s.heap := fun k q h => by simp at h
  have hD : va_D (fun q : Nat => s.heap.size ≤ q) [] := ⟨fun i j p q h => by simp at h, fun k q h => by simp at h⟩
  have hl := lv_entry ([.ref b]) (n := 4) (Nat.le_of_ble_eq_true rfl)
  rw [lg_entry_eq]
  generalize (lg_sl ([.ref b]) ++ List.replicate (4 - (lg_sl ([.ref b])).length) Slot.unset).toArray = ls at hl ⊢
  have hl : lv_has ls 4 [(0, .ref b)] := hl
  refine va_new (D := D) (ci := 9) (fs := [.null, .null, .null, .null, .null, .null, .int 0, .int 0, .int 0]) (C := RX9) (T := TX9) (N := 9) hx hb hts li_X9 tyX9 tyX9_ok hown (hts _ (List.mem_of_getElem? (i := 55) (by decide +kernel) : Cond.classLink RL 7 RX9 ∈ lw_tbl)) (hts _ (List.mem_of_getElem? (i := 56) (by decide +kernel) : Cond.instantiable RX9 9 ∈ lw_tbl)) (hts _ (List.mem_of_getElem? (i := 43) (by decide +kernel) : Cond.initialized RX9 ∈ lw_tbl)) hkK.1 hP hD hS hA rfl (fun j hj => by rcases (show j = 0 ∨ j = 1 ∨ j = 2 ∨ j = 3 ∨ j = 4 ∨ j = 5 ∨ j = 6 ∨ j = 7 ∨ j = 8 by omega) with rfl | rfl | rfl | rfl | rfl | rfl | rfl | rfl | rfl <;> rfl) (Nat.le_of_ble_eq_true rfl) (Nat.le_of_ble_eq_true rfl) dL_law_0 (fun q H hP hD hS => ?_)
  have hP : va_P D vwCl [(q, .inr (9, [.null, .null, .null, .null, .null, .null, .int 0, .int 0, .int 0]))] H := hP
  have hD : va_D (fun q : Nat => s.heap.size ≤ q) [(q, .inr (9, [.null, .null, .null, .null, .null, .null, .int 0, .int 0, .int 0]))] := hD
  refine W.widen (k := 1) (n := 9) (by omega) (by omega) ?_
  refine lv_dup hx hb dL_law_3 rfl ?_
  have hPc := hP.sub (ws' := [(q, .inr (9, [.null, .null, .null, .null, .null, .null, .int 0, .int 0, .int 0]))]) [0] rfl
  have hDc := hD.sub (ws' := [(q, .inr (9, [.null, .null, .null, .null, .null, .null, .int 0, .int 0, .int 0]))]) [0] (by decide) rfl
  have hFc := va_free (wc := [(q, .inr (9, [.null, .null, .null, .null, .null, .null, .int 0, .int 0, .int 0]))]) hD hS hA [0] rfl
  refine va_callv (va_runI (b := q) (As := []) (rest := [.ref q]) ⟨hx, hb, hml, hown, hts⟩ (c_X9_init l D cI cB q H.size) (cwI 0 hts gw_X9_init rfl rfl rfl (hts _ (List.mem_of_getElem? (i := 43) (by decide +kernel) : Cond.initialized RX9 ∈ lw_tbl)) (hts _ (List.mem_of_getElem? (i := 57) (by decide +kernel) : Cond.methodLink RL 9 yX9_init ∈ lw_tbl)) (hts _ (List.mem_of_getElem? (i := 58) (by decide +kernel) : Cond.instanceMethod yX9_init ∈ lw_tbl)) rfl (by decide +kernel) ⟨Nat.le_of_ble_eq_true rfl, Nat.le_of_ble_eq_true rfl⟩) ⟨fun a U g mk q => by obtain ⟨q0, q1, qP, qK, qD⟩ := q; exact ⟨q0, q1, qP, kK.vm (s := U) (U := U.calling g mk a) rfl qK, qD⟩, fun U hU hW => ⟨rfl, by rw [hU], by rw [hU]; exact hPc, kK.warm hW hkK, hDc.weaken (fun _ _ _ _ => trivial)⟩⟩ rfl rfl hl.1 rfl (lv_room (Nat.le_of_ble_eq_true rfl)) dL_law_4 ⟨Nat.le_of_ble_eq_true rfl, Nat.le_of_ble_eq_true rfl⟩) hS (fun q _ h => hFc q h) hFc (fun uX9 t H1 locs ht hvm _ hB hz1 hk1 hS => ?_)
  obtain ⟨hP1, hD1⟩ := hB
  rw [ht] at hP1
  obtain ⟨hP, hD⟩ := va_join (wr := []) (w1 := kX9 cI cB q uX9) hP hD [0] [] rfl rfl (by decide) (by decide) hk1 hFc hP1 hD1
  generalize H1 = H at hP hS ⊢
  have hP : va_P D vwCl (kX9 cI cB q uX9) H := hP
  have hD : va_D (fun q : Nat => s.heap.size ≤ q) (kX9 cI cB q uX9) := hD
  refine W.widen (k := 50) (n := 328) (by omega) (by omega) ?_
  refine lv_astore_n (lv' := [(1, .ref q), (0, .ref b)]) hx hb dL_law_7 rfl hl (by decide) rfl (fun ls hl => ?_)
  refine va_new (D := D) (ci := 10) (fs := [.int 0, .int 0, .int 0, .null, .int 0, .null, .null, .null, .null, .null, .null, .null, .int 0, .null, .int 0, .int 0, .long 0, .int 0, .int 0, .null, .null, .null, .null, .null, .long 0]) (C := RX10) (T := TX10) (N := 25) hx hb hts li_X10 tyX10 tyX10_ok hown (hts _ (List.mem_of_getElem? (i := 649) (by decide +kernel) : Cond.classLink RL 10 RX10 ∈ lw_tbl)) (hts _ (List.mem_of_getElem? (i := 650) (by decide +kernel) : Cond.instantiable RX10 25 ∈ lw_tbl)) (hts _ (List.mem_of_getElem? (i := 53) (by decide +kernel) : Cond.initialized RX10 ∈ lw_tbl)) hkK.1 hP hD hS hA rfl (fun j hj => by rcases (show j = 0 ∨ j = 1 ∨ j = 2 ∨ j = 3 ∨ j = 4 ∨ j = 5 ∨ j = 6 ∨ j = 7 ∨ j = 8 ∨ j = 9 ∨ j = 10 ∨ j = 11 ∨ j = 12 ∨ j = 13 ∨ j = 14 ∨ j = 15 ∨ j = 16 ∨ j = 17 ∨ j = 18 ∨ j = 19 ∨ j = 20 ∨ j = 21 ∨ j = 22 ∨ j = 23 ∨ j = 24 by omega) with rfl | rfl | rfl | rfl | rfl | rfl | rfl | rfl | rfl | rfl | rfl | rfl | rfl | rfl | rfl | rfl | rfl | rfl | rfl | rfl | rfl | rfl | rfl | rfl | rfl <;> rfl) (Nat.le_of_ble_eq_true rfl) (Nat.le_of_ble_eq_true rfl) dL_law_8 (fun r H hP hD hS => ?_)
  refine W.widen (k := 51) (n := 353) (by omega) (by omega) ?_
  refine lv_dup hx hb dL_law_11 rfl ?_
  have hPc := hP.sub (ws' := [(r, .inr (10, [.int 0, .int 0, .int 0, .null, .int 0, .null, .null, .null, .null, .null, .null, .null, .int 0, .null, .int 0, .int 0, .long 0, .int 0, .int 0, .null, .null, .null, .null, .null, .long 0]))]) [50] rfl
  have hDc := hD.sub (ws' := [(r, .inr (10, [.int 0, .int 0, .int 0, .null, .int 0, .null, .null, .null, .null, .null, .null, .null, .int 0, .null, .int 0, .int 0, .long 0, .int 0, .int 0, .null, .null, .null, .null, .null, .long 0]))]) [50] (by decide) rfl
  have hFc := va_free (wc := [(r, .inr (10, [.int 0, .int 0, .int 0, .null, .int 0, .null, .null, .null, .null, .null, .null, .null, .int 0, .null, .int 0, .int 0, .long 0, .int 0, .int 0, .null, .null, .null, .null, .null, .long 0]))]) hD hS hA [50] rfl
  refine va_callv (va_runI (b := r) (As := []) (rest := [.ref r]) ⟨hx, hb, hml, hown, hts⟩ (c_X10_init l D cI cB r H.size) (cwI 0 hts gw_X10_init rfl rfl rfl (hts _ (List.mem_of_getElem? (i := 53) (by decide +kernel) : Cond.initialized RX10 ∈ lw_tbl)) (hts _ (List.mem_of_getElem? (i := 651) (by decide +kernel) : Cond.methodLink RL 12 yX10_init ∈ lw_tbl)) (hts _ (List.mem_of_getElem? (i := 652) (by decide +kernel) : Cond.instanceMethod yX10_init ∈ lw_tbl)) rfl (by decide +kernel) ⟨Nat.le_of_ble_eq_true rfl, Nat.le_of_ble_eq_true rfl⟩) ⟨fun a U g mk q => by obtain ⟨q0, q1, qP, qK, qD⟩ := q; exact ⟨q0, q1, qP, kK.vm (s := U) (U := U.calling g mk a) rfl qK, qD⟩, fun U hU hW => ⟨rfl, by rw [hU], by rw [hU]; exact hPc, kK.warm hW hkK, hDc.weaken (fun _ _ _ _ => trivial)⟩⟩ rfl rfl hl.1 rfl (lv_room (Nat.le_of_ble_eq_true rfl)) dL_law_12 ⟨Nat.le_of_ble_eq_true rfl, Nat.le_of_ble_eq_true rfl⟩) hS (fun q _ h => hFc q h) hFc (fun uX10 t H1 locs ht hvm _ hB hz1 hk1 hS => ?_)
  obtain ⟨hP1, hD1⟩ := hB
  rw [ht] at hP1
  obtain ⟨hP, hD⟩ := va_join (wr := kX9 cI cB q uX9) (w1 := kX10 cI cB r uX10) hP hD [50] [0, 1, 2, 3, 4, 5, 6, 7, 8, 9, 10, 11, 12, 13, 14, 15, 16, 17, 18, 19, 20, 21, 22, 23, 24, 25, 26, 27, 28, 29, 30, 31, 32, 33, 34, 35, 36, 37, 38, 39, 40, 41, 42, 43, 44, 45, 46, 47, 48, 49] rfl rfl (by decide) (by decide) hk1 hFc hP1 hD1
  generalize H1 = H at hP hS ⊢
  refine lv_astore_n (lv' := [(2, .ref r), (1, .ref q), (0, .ref b)]) hx hb dL_law_15 rfl hl (by decide) rfl (fun ls hl => ?_)
  refine lv_iconst (v := nI 0) hx hb dL_law_16 (by decide) ?_
  refine lv_istore_n (lv' := [(3, .int (nI 0)), (2, .ref r), (1, .ref q), (0, .ref b)]) hx hb dL_law_17 rfl hl (by decide) rfl (fun ls hl => ?_)
  have hP2 : va_P D vwCl (o_wl (o_phi q r uX9 uX10) cI cB o_s0) H := hP.sub [0, 1, 4, 14, 23, 32, 41, 15, 17, 19, 21, 24, 26, 28, 30, 33, 35, 37, 39, 42, 44, 46, 48, 16, 18, 20, 22, 25, 27, 29, 31, 34, 36, 38, 40, 43, 45, 47, 49, 9, 10, 11, 12, 13, 50, 51, 52, 53, 54, 55, 56, 57, 58, 59, 60, 61, 62, 63, 64, 2, 5, 7, 3, 6, 8] (fm_of (o_world q r uX9 uX10 cI cB))
  have hD2 : va_D (fun q : Nat => s.heap.size ≤ q) (o_wl (o_phi q r uX9 uX10) cI cB o_s0) := hD.sub [0, 1, 4, 14, 23, 32, 41, 15, 17, 19, 21, 24, 26, 28, 30, 33, 35, 37, 39, 42, 44, 46, 48, 16, 18, 20, 22, 25, 27, 29, 31, 34, 36, 38, 40, 43, 45, 47, 49, 9, 10, 11, 12, 13, 50, 51, 52, 53, 54, 55, 56, 57, 58, 59, 60, 61, 62, 63, 64, 2, 5, 7, 3, 6, 8] (by decide) (o_world q r uX9 uX10 cI cB)
  refine va_forget (fun z hz => hS.2.2 z hz) ?_
  refine W.widen (k := 600000) (n := 7302250) (Nat.le_of_ble_eq_true rfl) (Nat.le_of_ble_eq_true rfl) ?_
  have hg : o_G (p, l, e, room_1, s, m, #[Value.ref b], below, meth, c, lw_Z below #[Value.ref b] s, 4, o_phi q r uX9 uX10, D, cI, cB, 600000, 7302250) o_s0 18 [(0, .ref b), (1, .ref q), (2, .ref r), (3, .int (nI 0))] [] := law_loop (X := (p, l, e, room_1, s, m, #[Value.ref b], below, meth, c, lw_Z below #[Value.ref b] s, 4, o_phi q r uX9 uX10, D, cI, cB, 600000, 7302250)) hL ⟨hx, hb, hml, hown, hts, hoK, o_J_of hD2, Nat.le_of_ble_eq_true rfl, Nat.le_of_ble_eq_true rfl, Nat.le_of_ble_eq_true rfl, Nat.le_of_ble_eq_true rfl, rfl⟩ ⟨hX, hbl, fun h => Nat.not_le.mpr hbl (o_A_new hD2 b h)⟩ (fun σ lv H locs ls hP hS h => va_forget (fun z hz => o_A_new hD2 _ (hS.2.2 z hz)) (lw_ret hx hb hr hlocks dL_law_816)) (L + 4) 0 o_s0 (by omega) (by omega) lw_s0
  exact hg H [] ls hP2 ⟨hS.1, fun z h1 _ => hS.2.1 z h1 (Nat.not_le.mpr h1), fun _ h => by cases h⟩ (lv_sub hl [3, 2, 1, 0] rfl)
