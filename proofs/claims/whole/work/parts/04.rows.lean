/-! ROWS: an instruction over the whole world. o_G X sg pc lv st: from the frame at pc with locals lv and stack st, over any heap that holds sg, the machine comes to Q. -/
abbrev OX : Type := Program × Launch × Env × Room × State × MethodId × Array Value × List Frame × Method × Code × (State → Prop) × Nat × (OI → Nat) × va_G × ClassId × ClassId × Nat × Nat
def o_G (X : OX) (σ : SS) (pc : Nat) (lv : List (Nat × Value)) (st : List Value) : Prop := match X with
  | (p, l, e, R, s, m, args, below, meth, c, Q, nL, φ, D, cI, cB, kc, ks) => ∀ (H : Heap) (locs : List Loc) (ls : Array Slot), va_P D vwCl (o_wl φ cI cB σ) H → va_S (o_A φ) s.heap H locs → lv_has ls nL lv → W p l e R s m args below meth c H locs kc ks Q (F0 m pc ls st)
/-- what stands for good in a method's walk: machine, code, words, tables, room -/
def o_C (X : OX) (cc : ByteArray) (own : String) (Ts : List Cond) (fr lo nl : Nat) : Prop := match X with
  | (p, l, e, R, s, m, args, below, meth, c, Q, nL, φ, D, cI, cB, kc, ks) => p.tables.exec = Jvm.exec ∧ c.code = cc ∧ c.maxLocals = nL ∧ s.vm.findClass own = some m.cls ∧ (∀ w ∈ Ts, w.before args s = true) ∧ o_K D cI cB s ∧ o_J φ ∧ fr ≤ R.frames ∧ lo ≤ R.locals ∧ kc ≤ R.cells ∧ ks ≤ R.slots ∧ nL = nl
abbrev ox_l (X : OX) : Launch := X.2.1
abbrev ox_nL (X : OX) : Nat := X.2.2.2.2.2.2.2.2.2.2.2.1
abbrev ox_φ (X : OX) : OI → Nat := X.2.2.2.2.2.2.2.2.2.2.2.2.1
abbrev ox_D (X : OX) : va_G := X.2.2.2.2.2.2.2.2.2.2.2.2.2.1
abbrev ox_I (X : OX) : ClassId := X.2.2.2.2.2.2.2.2.2.2.2.2.2.2.1
abbrev ox_B (X : OX) : ClassId := X.2.2.2.2.2.2.2.2.2.2.2.2.2.2.2.1
section ORows
variable {X : OX} {cc : ByteArray} {own : String} {Ts : List Cond} {fr lo nl : Nat} {σ : SS} {pc : Nat} {lv : List (Nat × Value)} {rest : List Value}
theorem o_C.J (h : o_C X cc own Ts fr lo nl) : o_J (ox_φ X) := by
  obtain ⟨p, l, e, R, s, m, args, below, meth, c, Q, nL, φ, D, cI, cB, kc, ks⟩ := X
  exact h.2.2.2.2.2.2.1
/-- fewer locals, by their places -/
theorem g_sub (ks : List Nat) {lv' : List (Nat × Value)} {st : List Value} (hl : lv_pick lv ks = lv') (k : o_G X σ pc lv' st) : o_G X σ pc lv st := by
  obtain ⟨p, l, e, R, s, m, args, below, meth, c, Q, nL, φ, D, cI, cB, kc, ks⟩ := X
  exact fun H locs ls hP hS h => k H locs ls hP hS (lv_sub h _ hl)
theorem g_iconst (hC : o_C X cc own Ts fr lo nl) {n : Int} {v : Int32} (hdg : decode cc pc = .ok (.iconst n, 1)) (hv : Int32.ofInt n = v) (k : o_G X σ (pc + 1) lv (.int v :: rest)) : o_G X σ pc lv rest := by
  obtain ⟨p, l, e, R, s, m, args, below, meth, c, Q, nL, φ, D, cI, cB, kc, ks⟩ := X
  exact fun H locs ls hP hS h => lv_iconst hC.1 hC.2.1 hdg hv (k H locs ls hP hS h)
theorem g_bipush (hC : o_C X cc own Ts fr lo nl) {n : Int} {v : Int32} (hdg : decode cc pc = .ok (.bipush n, 2)) (hv : (Int8.ofInt n).toInt32 = v) (k : o_G X σ (pc + 2) lv (.int v :: rest)) : o_G X σ pc lv rest := by
  obtain ⟨p, l, e, R, s, m, args, below, meth, c, Q, nL, φ, D, cI, cB, kc, ks⟩ := X
  exact fun H locs ls hP hS h => lv_bipush hC.1 hC.2.1 hdg hv (k H locs ls hP hS h)
theorem g_sipush (hC : o_C X cc own Ts fr lo nl) {n : Int} {v : Int32} (hdg : decode cc pc = .ok (.sipush n, 3)) (hv : (Int16.ofInt n).toInt32 = v) (k : o_G X σ (pc + 3) lv (.int v :: rest)) : o_G X σ pc lv rest := by
  obtain ⟨p, l, e, R, s, m, args, below, meth, c, Q, nL, φ, D, cI, cB, kc, ks⟩ := X
  exact fun H locs ls hP hS h => lv_sipush hC.1 hC.2.1 hdg hv (k H locs ls hP hS h)
theorem g_ldcw (hC : o_C X cc own Ts fr lo nl) {index : Nat} {v : Int32} (hw : Cond.constant own index v ∈ Ts) (hdg : decode cc pc = .ok (.ldc_w index, 3)) (k : o_G X σ (pc + 3) lv (.int v :: rest)) : o_G X σ pc lv rest := by
  obtain ⟨p, l, e, R, s, m, args, below, meth, c, Q, nL, φ, D, cI, cB, kc, ks⟩ := X
  exact fun H locs ls hP hS h => lv_ldcw hC.1 hC.2.1 hC.2.2.2.1 (hC.2.2.2.2.1 _ hw) hdg (k H locs ls hP hS h)
theorem g_ldc2 (hC : o_C X cc own Ts fr lo nl) {index : Nat} {v : Int64} (hw : Cond.constantLong own index v ∈ Ts) (hdg : decode cc pc = .ok (.ldc2_w index, 3)) (k : o_G X σ (pc + 3) lv (.long v :: rest)) : o_G X σ pc lv rest := by
  obtain ⟨p, l, e, R, s, m, args, below, meth, c, Q, nL, φ, D, cI, cB, kc, ks⟩ := X
  exact fun H locs ls hP hS h => lv_ldc2 hC.1 hC.2.1 hC.2.2.2.1 (hC.2.2.2.2.1 _ hw) hdg (k H locs ls hP hS h)
theorem g_iload_n (hC : o_C X cc own Ts fr lo nl) (q : Nat) {k : Fin 4} {i : Nat} {x : Int32} (hdg : decode cc pc = .ok (.iload_n k, 1)) (hi : (k : Nat) = i) (hq : lv[q]? = some (i, .int x)) (kk : o_G X σ (pc + 1) lv (.int x :: rest)) : o_G X σ pc lv rest := by
  obtain ⟨p, l, e, R, s, m, args, below, meth, c, Q, nL, φ, D, cI, cB, kc, ks⟩ := X
  exact fun H locs ls hP hS h => lv_iload_n hC.1 hC.2.1 hdg hi (lv_at h q hq) (kk H locs ls hP hS h)
theorem g_iload (hC : o_C X cc own Ts fr lo nl) (q : Nat) {i : Nat} {x : Int32} (hdg : decode cc pc = .ok (.iload i, 2)) (hq : lv[q]? = some (i, .int x)) (kk : o_G X σ (pc + 2) lv (.int x :: rest)) : o_G X σ pc lv rest := by
  obtain ⟨p, l, e, R, s, m, args, below, meth, c, Q, nL, φ, D, cI, cB, kc, ks⟩ := X
  exact fun H locs ls hP hS h => lv_iload hC.1 hC.2.1 hdg (lv_at h q hq) (kk H locs ls hP hS h)
theorem g_lload_n (hC : o_C X cc own Ts fr lo nl) (q : Nat) {k : Fin 4} {i : Nat} {x : Int64} (hdg : decode cc pc = .ok (.lload_n k, 1)) (hi : (k : Nat) = i) (hq : lv[q]? = some (i, .long x)) (kk : o_G X σ (pc + 1) lv (.long x :: rest)) : o_G X σ pc lv rest := by
  obtain ⟨p, l, e, R, s, m, args, below, meth, c, Q, nL, φ, D, cI, cB, kc, ks⟩ := X
  exact fun H locs ls hP hS h => lv_lload_n hC.1 hC.2.1 hdg hi (lv_at h q hq) (kk H locs ls hP hS h)
theorem g_lload (hC : o_C X cc own Ts fr lo nl) (q : Nat) {i : Nat} {x : Int64} (hdg : decode cc pc = .ok (.lload i, 2)) (hq : lv[q]? = some (i, .long x)) (kk : o_G X σ (pc + 2) lv (.long x :: rest)) : o_G X σ pc lv rest := by
  obtain ⟨p, l, e, R, s, m, args, below, meth, c, Q, nL, φ, D, cI, cB, kc, ks⟩ := X
  exact fun H locs ls hP hS h => lv_lload hC.1 hC.2.1 hdg (lv_at h q hq) (kk H locs ls hP hS h)
theorem g_aload_n (hC : o_C X cc own Ts fr lo nl) (q : Nat) {k : Fin 4} {i : Nat} {x : Nat} (hdg : decode cc pc = .ok (.aload_n k, 1)) (hi : (k : Nat) = i) (hq : lv[q]? = some (i, .ref x)) (kk : o_G X σ (pc + 1) lv (.ref x :: rest)) : o_G X σ pc lv rest := by
  obtain ⟨p, l, e, R, s, m, args, below, meth, c, Q, nL, φ, D, cI, cB, kc, ks⟩ := X
  exact fun H locs ls hP hS h => lv_aload_n hC.1 hC.2.1 hdg hi (lv_at h q hq) (kk H locs ls hP hS h)
theorem g_aload (hC : o_C X cc own Ts fr lo nl) (q : Nat) {i : Nat} {x : Nat} (hdg : decode cc pc = .ok (.aload i, 2)) (hq : lv[q]? = some (i, .ref x)) (kk : o_G X σ (pc + 2) lv (.ref x :: rest)) : o_G X σ pc lv rest := by
  obtain ⟨p, l, e, R, s, m, args, below, meth, c, Q, nL, φ, D, cI, cB, kc, ks⟩ := X
  exact fun H locs ls hP hS h => lv_aload hC.1 hC.2.1 hdg (lv_at h q hq) (kk H locs ls hP hS h)
theorem g_istore_n (hC : o_C X cc own Ts fr lo nl) (lv' : List (Nat × Value)) {k : Fin 4} {i : Nat} {x : Int32} (hdg : decode cc pc = .ok (.istore_n k, 1)) (hi : (k : Nat) = i) (hn : i < nl) (hl : (i, Value.int x) :: lv.filter (fun q => !(q.1 == i) && !(q.1 + 1 == i && q.2.category == 2)) = lv') (kk : o_G X σ (pc + 1) lv' rest) : o_G X σ pc lv (.int x :: rest) := by
  obtain ⟨p, l, e, R, s, m, args, below, meth, c, Q, nL, φ, D, cI, cB, kc, ks⟩ := X
  exact fun H locs ls hP hS h => lv_istore_n hC.1 hC.2.1 hdg hi h (hC.2.2.2.2.2.2.2.2.2.2.2 ▸ hn) hl (fun ls' h' => kk H locs ls' hP hS h')
theorem g_istore (hC : o_C X cc own Ts fr lo nl) (lv' : List (Nat × Value)) {i : Nat} {x : Int32} (hdg : decode cc pc = .ok (.istore i, 2)) (hn : i < nl) (hl : (i, Value.int x) :: lv.filter (fun q => !(q.1 == i) && !(q.1 + 1 == i && q.2.category == 2)) = lv') (kk : o_G X σ (pc + 2) lv' rest) : o_G X σ pc lv (.int x :: rest) := by
  obtain ⟨p, l, e, R, s, m, args, below, meth, c, Q, nL, φ, D, cI, cB, kc, ks⟩ := X
  exact fun H locs ls hP hS h => lv_istore hC.1 hC.2.1 hdg h (hC.2.2.2.2.2.2.2.2.2.2.2 ▸ hn) hl (fun ls' h' => kk H locs ls' hP hS h')
theorem g_lstore_n (hC : o_C X cc own Ts fr lo nl) (lv' : List (Nat × Value)) {k : Fin 4} {i : Nat} {x : Int64} (hdg : decode cc pc = .ok (.lstore_n k, 1)) (hi : (k : Nat) = i) (hn : i + 1 < nl) (hl : (i, Value.long x) :: lv.filter (fun q => !(q.1 == i) && (!(q.1 == i + 1) && !(q.1 + 1 == i && q.2.category == 2))) = lv') (kk : o_G X σ (pc + 1) lv' rest) : o_G X σ pc lv (.long x :: rest) := by
  obtain ⟨p, l, e, R, s, m, args, below, meth, c, Q, nL, φ, D, cI, cB, kc, ks⟩ := X
  exact fun H locs ls hP hS h => lv_lstore_n hC.1 hC.2.1 hdg hi h (hC.2.2.2.2.2.2.2.2.2.2.2 ▸ hn) hl (fun ls' h' => kk H locs ls' hP hS h')
theorem g_lstore (hC : o_C X cc own Ts fr lo nl) (lv' : List (Nat × Value)) {i : Nat} {x : Int64} (hdg : decode cc pc = .ok (.lstore i, 2)) (hn : i + 1 < nl) (hl : (i, Value.long x) :: lv.filter (fun q => !(q.1 == i) && (!(q.1 == i + 1) && !(q.1 + 1 == i && q.2.category == 2))) = lv') (kk : o_G X σ (pc + 2) lv' rest) : o_G X σ pc lv (.long x :: rest) := by
  obtain ⟨p, l, e, R, s, m, args, below, meth, c, Q, nL, φ, D, cI, cB, kc, ks⟩ := X
  exact fun H locs ls hP hS h => lv_lstore hC.1 hC.2.1 hdg h (hC.2.2.2.2.2.2.2.2.2.2.2 ▸ hn) hl (fun ls' h' => kk H locs ls' hP hS h')
theorem g_astore_n (hC : o_C X cc own Ts fr lo nl) (lv' : List (Nat × Value)) {k : Fin 4} {i : Nat} {x : Nat} (hdg : decode cc pc = .ok (.astore_n k, 1)) (hi : (k : Nat) = i) (hn : i < nl) (hl : (i, Value.ref x) :: lv.filter (fun q => !(q.1 == i) && !(q.1 + 1 == i && q.2.category == 2)) = lv') (kk : o_G X σ (pc + 1) lv' rest) : o_G X σ pc lv (.ref x :: rest) := by
  obtain ⟨p, l, e, R, s, m, args, below, meth, c, Q, nL, φ, D, cI, cB, kc, ks⟩ := X
  exact fun H locs ls hP hS h => lv_astore_n hC.1 hC.2.1 hdg hi h (hC.2.2.2.2.2.2.2.2.2.2.2 ▸ hn) hl (fun ls' h' => kk H locs ls' hP hS h')
theorem g_astore (hC : o_C X cc own Ts fr lo nl) (lv' : List (Nat × Value)) {i : Nat} {x : Nat} (hdg : decode cc pc = .ok (.astore i, 2)) (hn : i < nl) (hl : (i, Value.ref x) :: lv.filter (fun q => !(q.1 == i) && !(q.1 + 1 == i && q.2.category == 2)) = lv') (kk : o_G X σ (pc + 2) lv' rest) : o_G X σ pc lv (.ref x :: rest) := by
  obtain ⟨p, l, e, R, s, m, args, below, meth, c, Q, nL, φ, D, cI, cB, kc, ks⟩ := X
  exact fun H locs ls hP hS h => lv_astore hC.1 hC.2.1 hdg h (hC.2.2.2.2.2.2.2.2.2.2.2 ▸ hn) hl (fun ls' h' => kk H locs ls' hP hS h')
theorem g_iinc (hC : o_C X cc own Ts fr lo nl) (k : Nat) (lv' : List (Nat × Value)) {i : Nat} {n : Int} {x v : Int32} (hdg : decode cc pc = .ok (.iinc i n, 3)) (hk : lv[k]? = some (i, .int x)) (hv : x + Int32.ofInt n = v) (hn : i < nl) (hl : (i, Value.int v) :: lv.filter (fun q => !(q.1 == i) && !(q.1 + 1 == i && q.2.category == 2)) = lv') (kk : o_G X σ (pc + 3) lv' rest) : o_G X σ pc lv rest := by
  obtain ⟨p, l, e, R, s, m, args, below, meth, c, Q, nL, φ, D, cI, cB, kc, ks⟩ := X
  exact fun H locs ls hP hS h => lv_iinc hC.1 hC.2.1 hdg h hk hv (hC.2.2.2.2.2.2.2.2.2.2.2 ▸ hn) hl (fun ls' h' => kk H locs ls' hP hS h')
theorem g_iadd (hC : o_C X cc own Ts fr lo nl) {x y : Int32} (hdg : decode cc pc = .ok (.iadd, 1)) (k : o_G X σ (pc + 1) lv (.int (x + y) :: rest)) : o_G X σ pc lv (.int y :: .int x :: rest) := by
  obtain ⟨p, l, e, R, s, m, args, below, meth, c, Q, nL, φ, D, cI, cB, kc, ks⟩ := X
  exact fun H locs ls hP hS h => lv_iadd hC.1 hC.2.1 hdg (k H locs ls hP hS h)
theorem g_isub (hC : o_C X cc own Ts fr lo nl) {x y : Int32} (hdg : decode cc pc = .ok (.isub, 1)) (k : o_G X σ (pc + 1) lv (.int (x - y) :: rest)) : o_G X σ pc lv (.int y :: .int x :: rest) := by
  obtain ⟨p, l, e, R, s, m, args, below, meth, c, Q, nL, φ, D, cI, cB, kc, ks⟩ := X
  exact fun H locs ls hP hS h => lv_isub hC.1 hC.2.1 hdg (k H locs ls hP hS h)
theorem g_imul (hC : o_C X cc own Ts fr lo nl) {x y : Int32} (hdg : decode cc pc = .ok (.imul, 1)) (k : o_G X σ (pc + 1) lv (.int (x * y) :: rest)) : o_G X σ pc lv (.int y :: .int x :: rest) := by
  obtain ⟨p, l, e, R, s, m, args, below, meth, c, Q, nL, φ, D, cI, cB, kc, ks⟩ := X
  exact fun H locs ls hP hS h => lv_imul hC.1 hC.2.1 hdg (k H locs ls hP hS h)
theorem g_iand (hC : o_C X cc own Ts fr lo nl) {x y : Int32} (hdg : decode cc pc = .ok (.iand, 1)) (k : o_G X σ (pc + 1) lv (.int (x &&& y) :: rest)) : o_G X σ pc lv (.int y :: .int x :: rest) := by
  obtain ⟨p, l, e, R, s, m, args, below, meth, c, Q, nL, φ, D, cI, cB, kc, ks⟩ := X
  exact fun H locs ls hP hS h => lv_iand hC.1 hC.2.1 hdg (k H locs ls hP hS h)
theorem g_ior (hC : o_C X cc own Ts fr lo nl) {x y : Int32} (hdg : decode cc pc = .ok (.ior, 1)) (k : o_G X σ (pc + 1) lv (.int (x ||| y) :: rest)) : o_G X σ pc lv (.int y :: .int x :: rest) := by
  obtain ⟨p, l, e, R, s, m, args, below, meth, c, Q, nL, φ, D, cI, cB, kc, ks⟩ := X
  exact fun H locs ls hP hS h => lv_ior hC.1 hC.2.1 hdg (k H locs ls hP hS h)
theorem g_ixor (hC : o_C X cc own Ts fr lo nl) {x y : Int32} (hdg : decode cc pc = .ok (.ixor, 1)) (k : o_G X σ (pc + 1) lv (.int (x ^^^ y) :: rest)) : o_G X σ pc lv (.int y :: .int x :: rest) := by
  obtain ⟨p, l, e, R, s, m, args, below, meth, c, Q, nL, φ, D, cI, cB, kc, ks⟩ := X
  exact fun H locs ls hP hS h => lv_ixor hC.1 hC.2.1 hdg (k H locs ls hP hS h)
theorem g_ishl (hC : o_C X cc own Ts fr lo nl) {x y : Int32} (hdg : decode cc pc = .ok (.ishl, 1)) (k : o_G X σ (pc + 1) lv (.int (x <<< (y &&& 31)) :: rest)) : o_G X σ pc lv (.int y :: .int x :: rest) := by
  obtain ⟨p, l, e, R, s, m, args, below, meth, c, Q, nL, φ, D, cI, cB, kc, ks⟩ := X
  exact fun H locs ls hP hS h => lv_ishl hC.1 hC.2.1 hdg (k H locs ls hP hS h)
theorem g_ishr (hC : o_C X cc own Ts fr lo nl) {x y : Int32} (hdg : decode cc pc = .ok (.ishr, 1)) (k : o_G X σ (pc + 1) lv (.int (x >>> (y &&& 31)) :: rest)) : o_G X σ pc lv (.int y :: .int x :: rest) := by
  obtain ⟨p, l, e, R, s, m, args, below, meth, c, Q, nL, φ, D, cI, cB, kc, ks⟩ := X
  exact fun H locs ls hP hS h => lv_ishr hC.1 hC.2.1 hdg (k H locs ls hP hS h)
theorem g_idiv (hC : o_C X cc own Ts fr lo nl) {x y : Int32} (hne : ¬ y = 0) (hdg : decode cc pc = .ok (.idiv, 1)) (k : o_G X σ (pc + 1) lv (.int (x / y) :: rest)) : o_G X σ pc lv (.int y :: .int x :: rest) := by
  obtain ⟨p, l, e, R, s, m, args, below, meth, c, Q, nL, φ, D, cI, cB, kc, ks⟩ := X
  exact fun H locs ls hP hS h => lv_idiv hC.1 hC.2.1 hdg hne (k H locs ls hP hS h)
theorem g_irem (hC : o_C X cc own Ts fr lo nl) {x y : Int32} (hne : ¬ y = 0) (hdg : decode cc pc = .ok (.irem, 1)) (k : o_G X σ (pc + 1) lv (.int (x - x / y * y) :: rest)) : o_G X σ pc lv (.int y :: .int x :: rest) := by
  obtain ⟨p, l, e, R, s, m, args, below, meth, c, Q, nL, φ, D, cI, cB, kc, ks⟩ := X
  exact fun H locs ls hP hS h => lv_irem hC.1 hC.2.1 hdg hne (k H locs ls hP hS h)
theorem g_iushr (hC : o_C X cc own Ts fr lo nl) {x y : Int32} (hdg : decode cc pc = .ok (.iushr, 1)) (k : o_G X σ (pc + 1) lv (.int ((x.toUInt32 >>> (y.toUInt32 &&& Int32.toUInt32 31)).toInt32) :: rest)) : o_G X σ pc lv (.int y :: .int x :: rest) := by
  obtain ⟨p, l, e, R, s, m, args, below, meth, c, Q, nL, φ, D, cI, cB, kc, ks⟩ := X
  exact fun H locs ls hP hS h => lv_iushr hC.1 hC.2.1 hdg rfl (k H locs ls hP hS h)
theorem g_ladd (hC : o_C X cc own Ts fr lo nl) {x y : Int64} (hdg : decode cc pc = .ok (.ladd, 1)) (k : o_G X σ (pc + 1) lv (.long (x + y) :: rest)) : o_G X σ pc lv (.long y :: .long x :: rest) := by
  obtain ⟨p, l, e, R, s, m, args, below, meth, c, Q, nL, φ, D, cI, cB, kc, ks⟩ := X
  exact fun H locs ls hP hS h => lv_ladd hC.1 hC.2.1 hdg (k H locs ls hP hS h)
theorem g_lsub (hC : o_C X cc own Ts fr lo nl) {x y : Int64} (hdg : decode cc pc = .ok (.lsub, 1)) (k : o_G X σ (pc + 1) lv (.long (x - y) :: rest)) : o_G X σ pc lv (.long y :: .long x :: rest) := by
  obtain ⟨p, l, e, R, s, m, args, below, meth, c, Q, nL, φ, D, cI, cB, kc, ks⟩ := X
  exact fun H locs ls hP hS h => lv_lsub hC.1 hC.2.1 hdg (k H locs ls hP hS h)
theorem g_lmul (hC : o_C X cc own Ts fr lo nl) {x y : Int64} (hdg : decode cc pc = .ok (.lmul, 1)) (k : o_G X σ (pc + 1) lv (.long (x * y) :: rest)) : o_G X σ pc lv (.long y :: .long x :: rest) := by
  obtain ⟨p, l, e, R, s, m, args, below, meth, c, Q, nL, φ, D, cI, cB, kc, ks⟩ := X
  exact fun H locs ls hP hS h => lv_lmul hC.1 hC.2.1 hdg (k H locs ls hP hS h)
theorem g_land (hC : o_C X cc own Ts fr lo nl) {x y : Int64} (hdg : decode cc pc = .ok (.land, 1)) (k : o_G X σ (pc + 1) lv (.long (x &&& y) :: rest)) : o_G X σ pc lv (.long y :: .long x :: rest) := by
  obtain ⟨p, l, e, R, s, m, args, below, meth, c, Q, nL, φ, D, cI, cB, kc, ks⟩ := X
  exact fun H locs ls hP hS h => lv_land hC.1 hC.2.1 hdg (k H locs ls hP hS h)
theorem g_ldiv (hC : o_C X cc own Ts fr lo nl) {x y : Int64} (hne : ¬ y = 0) (hdg : decode cc pc = .ok (.ldiv, 1)) (k : o_G X σ (pc + 1) lv (.long (x / y) :: rest)) : o_G X σ pc lv (.long y :: .long x :: rest) := by
  obtain ⟨p, l, e, R, s, m, args, below, meth, c, Q, nL, φ, D, cI, cB, kc, ks⟩ := X
  exact fun H locs ls hP hS h => lv_ldiv hC.1 hC.2.1 hdg hne (k H locs ls hP hS h)
theorem g_lrem (hC : o_C X cc own Ts fr lo nl) {x y : Int64} (hne : ¬ y = 0) (hdg : decode cc pc = .ok (.lrem, 1)) (k : o_G X σ (pc + 1) lv (.long (x - x / y * y) :: rest)) : o_G X σ pc lv (.long y :: .long x :: rest) := by
  obtain ⟨p, l, e, R, s, m, args, below, meth, c, Q, nL, φ, D, cI, cB, kc, ks⟩ := X
  exact fun H locs ls hP hS h => lv_lrem hC.1 hC.2.1 hdg hne (k H locs ls hP hS h)
theorem g_i2l (hC : o_C X cc own Ts fr lo nl) {x : Int32} (hdg : decode cc pc = .ok (.i2l, 1)) (k : o_G X σ (pc + 1) lv (.long (x.toInt64) :: rest)) : o_G X σ pc lv (.int x :: rest) := by
  obtain ⟨p, l, e, R, s, m, args, below, meth, c, Q, nL, φ, D, cI, cB, kc, ks⟩ := X
  exact fun H locs ls hP hS h => lv_i2l hC.1 hC.2.1 hdg rfl (k H locs ls hP hS h)
theorem g_l2i (hC : o_C X cc own Ts fr lo nl) {x : Int64} (hdg : decode cc pc = .ok (.l2i, 1)) (k : o_G X σ (pc + 1) lv (.int (x.toInt32) :: rest)) : o_G X σ pc lv (.long x :: rest) := by
  obtain ⟨p, l, e, R, s, m, args, below, meth, c, Q, nL, φ, D, cI, cB, kc, ks⟩ := X
  exact fun H locs ls hP hS h => lv_l2i hC.1 hC.2.1 hdg rfl (k H locs ls hP hS h)
theorem g_i2b (hC : o_C X cc own Ts fr lo nl) {x : Int32} (hdg : decode cc pc = .ok (.i2b, 1)) (k : o_G X σ (pc + 1) lv (.int (x.toInt8.toInt32) :: rest)) : o_G X σ pc lv (.int x :: rest) := by
  obtain ⟨p, l, e, R, s, m, args, below, meth, c, Q, nL, φ, D, cI, cB, kc, ks⟩ := X
  exact fun H locs ls hP hS h => lv_i2b hC.1 hC.2.1 hdg rfl (k H locs ls hP hS h)
theorem g_lcmp (hC : o_C X cc own Ts fr lo nl) {x y : Int64} (hdg : decode cc pc = .ok (.lcmp, 1)) (k : o_G X σ (pc + 1) lv (.int (lg_cmp x y) :: rest)) : o_G X σ pc lv (.long y :: .long x :: rest) := by
  obtain ⟨p, l, e, R, s, m, args, below, meth, c, Q, nL, φ, D, cI, cB, kc, ks⟩ := X
  exact fun H locs ls hP hS h => W.lcmp hC.1 hC.2.1 hdg (k H locs ls hP hS h)
theorem g_dup (hC : o_C X cc own Ts fr lo nl) {v : Value} (hdg : decode cc pc = .ok (.dup, 1)) (hv : v.category = 1) (k : o_G X σ (pc + 1) lv (v :: v :: rest)) : o_G X σ pc lv (v :: rest) := by
  obtain ⟨p, l, e, R, s, m, args, below, meth, c, Q, nL, φ, D, cI, cB, kc, ks⟩ := X
  exact fun H locs ls hP hS h => lv_dup hC.1 hC.2.1 hdg hv (k H locs ls hP hS h)
theorem g_dup2 (hC : o_C X cc own Ts fr lo nl) {v w : Value} (hdg : decode cc pc = .ok (.dup2, 1)) (hv : v.category = 1) (hw : w.category = 1) (k : o_G X σ (pc + 1) lv (v :: w :: v :: w :: rest)) : o_G X σ pc lv (v :: w :: rest) := by
  obtain ⟨p, l, e, R, s, m, args, below, meth, c, Q, nL, φ, D, cI, cB, kc, ks⟩ := X
  exact fun H locs ls hP hS h => lv_dup2_11 hC.1 hC.2.1 hdg hv hw (k H locs ls hP hS h)
theorem g_pop (hC : o_C X cc own Ts fr lo nl) {v : Value} (hdg : decode cc pc = .ok (.pop, 1)) (hv : v.category = 1) (k : o_G X σ (pc + 1) lv rest) : o_G X σ pc lv (v :: rest) := by
  obtain ⟨p, l, e, R, s, m, args, below, meth, c, Q, nL, φ, D, cI, cB, kc, ks⟩ := X
  exact fun H locs ls hP hS h => lv_pop hC.1 hC.2.1 hdg hv (k H locs ls hP hS h)
theorem g_topi {x : Int32} (k : ∀ y : Int32, y = x → o_G X σ pc lv (.int y :: rest)) : o_G X σ pc lv (.int x :: rest) := k x rfl
theorem g_goto (hC : o_C X cc own Ts fr lo nl) {off : Int} {st : List Value} (tgt : Nat) (hdg : decode cc pc = .ok (.goto off, 3)) (ht : (pc : Int) + off = (tgt : Int)) (k : o_G X σ tgt lv st) : o_G X σ pc lv st := by
  obtain ⟨p, l, e, R, s, m, args, below, meth, c, Q, nL, φ, D, cI, cB, kc, ks⟩ := X
  exact fun H locs ls hP hS h => lv_goto hC.1 hC.2.1 hdg ht (k H locs ls hP hS h)
theorem g_if_eq (hC : o_C X cc own Ts fr lo nl) {x : Int32} {off : Int} (tgt : Nat) (hdg : decode cc pc = .ok (.ifCond .eq off, 3)) (ht : (pc : Int) + off = (tgt : Int)) (kt : x = 0 → o_G X σ tgt lv rest) (kf : ¬ x = 0 → o_G X σ (pc + 3) lv rest) : o_G X σ pc lv (.int x :: rest) := by
  obtain ⟨p, l, e, R, s, m, args, below, meth, c, Q, nL, φ, D, cI, cB, kc, ks⟩ := X
  exact fun H locs ls hP hS h => lv_if_eq hC.1 hC.2.1 hdg ht (fun z => kt z H locs ls hP hS h) (fun z => kf z H locs ls hP hS h)
theorem g_icmp_eq (hC : o_C X cc own Ts fr lo nl) {x y : Int32} {off : Int} (tgt : Nat) (hdg : decode cc pc = .ok (.if_icmp .eq off, 3)) (ht : (pc : Int) + off = (tgt : Int)) (kt : x = y → o_G X σ tgt lv rest) (kf : ¬ x = y → o_G X σ (pc + 3) lv rest) : o_G X σ pc lv (.int y :: .int x :: rest) := by
  obtain ⟨p, l, e, R, s, m, args, below, meth, c, Q, nL, φ, D, cI, cB, kc, ks⟩ := X
  exact fun H locs ls hP hS h => lv_icmp_eq hC.1 hC.2.1 hdg ht (fun z => kt z H locs ls hP hS h) (fun z => kf z H locs ls hP hS h)
theorem g_if_ne (hC : o_C X cc own Ts fr lo nl) {x : Int32} {off : Int} (tgt : Nat) (hdg : decode cc pc = .ok (.ifCond .ne off, 3)) (ht : (pc : Int) + off = (tgt : Int)) (kt : ¬ x = 0 → o_G X σ tgt lv rest) (kf : x = 0 → o_G X σ (pc + 3) lv rest) : o_G X σ pc lv (.int x :: rest) := by
  obtain ⟨p, l, e, R, s, m, args, below, meth, c, Q, nL, φ, D, cI, cB, kc, ks⟩ := X
  exact fun H locs ls hP hS h => lv_if_ne hC.1 hC.2.1 hdg ht (fun z => kt z H locs ls hP hS h) (fun z => kf z H locs ls hP hS h)
theorem g_icmp_ne (hC : o_C X cc own Ts fr lo nl) {x y : Int32} {off : Int} (tgt : Nat) (hdg : decode cc pc = .ok (.if_icmp .ne off, 3)) (ht : (pc : Int) + off = (tgt : Int)) (kt : ¬ x = y → o_G X σ tgt lv rest) (kf : x = y → o_G X σ (pc + 3) lv rest) : o_G X σ pc lv (.int y :: .int x :: rest) := by
  obtain ⟨p, l, e, R, s, m, args, below, meth, c, Q, nL, φ, D, cI, cB, kc, ks⟩ := X
  exact fun H locs ls hP hS h => lv_icmp_ne hC.1 hC.2.1 hdg ht (fun z => kt z H locs ls hP hS h) (fun z => kf z H locs ls hP hS h)
theorem g_if_lt (hC : o_C X cc own Ts fr lo nl) {x : Int32} {off : Int} (tgt : Nat) (hdg : decode cc pc = .ok (.ifCond .lt off, 3)) (ht : (pc : Int) + off = (tgt : Int)) (kt : x < 0 → o_G X σ tgt lv rest) (kf : ¬ x < 0 → o_G X σ (pc + 3) lv rest) : o_G X σ pc lv (.int x :: rest) := by
  obtain ⟨p, l, e, R, s, m, args, below, meth, c, Q, nL, φ, D, cI, cB, kc, ks⟩ := X
  exact fun H locs ls hP hS h => lv_if_lt hC.1 hC.2.1 hdg ht (fun z => kt z H locs ls hP hS h) (fun z => kf z H locs ls hP hS h)
theorem g_icmp_lt (hC : o_C X cc own Ts fr lo nl) {x y : Int32} {off : Int} (tgt : Nat) (hdg : decode cc pc = .ok (.if_icmp .lt off, 3)) (ht : (pc : Int) + off = (tgt : Int)) (kt : x < y → o_G X σ tgt lv rest) (kf : ¬ x < y → o_G X σ (pc + 3) lv rest) : o_G X σ pc lv (.int y :: .int x :: rest) := by
  obtain ⟨p, l, e, R, s, m, args, below, meth, c, Q, nL, φ, D, cI, cB, kc, ks⟩ := X
  exact fun H locs ls hP hS h => lv_icmp_lt hC.1 hC.2.1 hdg ht (fun z => kt z H locs ls hP hS h) (fun z => kf z H locs ls hP hS h)
theorem g_if_ge (hC : o_C X cc own Ts fr lo nl) {x : Int32} {off : Int} (tgt : Nat) (hdg : decode cc pc = .ok (.ifCond .ge off, 3)) (ht : (pc : Int) + off = (tgt : Int)) (kt : 0 ≤ x → o_G X σ tgt lv rest) (kf : ¬ 0 ≤ x → o_G X σ (pc + 3) lv rest) : o_G X σ pc lv (.int x :: rest) := by
  obtain ⟨p, l, e, R, s, m, args, below, meth, c, Q, nL, φ, D, cI, cB, kc, ks⟩ := X
  exact fun H locs ls hP hS h => lv_if_ge hC.1 hC.2.1 hdg ht (fun z => kt z H locs ls hP hS h) (fun z => kf z H locs ls hP hS h)
theorem g_icmp_ge (hC : o_C X cc own Ts fr lo nl) {x y : Int32} {off : Int} (tgt : Nat) (hdg : decode cc pc = .ok (.if_icmp .ge off, 3)) (ht : (pc : Int) + off = (tgt : Int)) (kt : y ≤ x → o_G X σ tgt lv rest) (kf : ¬ y ≤ x → o_G X σ (pc + 3) lv rest) : o_G X σ pc lv (.int y :: .int x :: rest) := by
  obtain ⟨p, l, e, R, s, m, args, below, meth, c, Q, nL, φ, D, cI, cB, kc, ks⟩ := X
  exact fun H locs ls hP hS h => lv_icmp_ge hC.1 hC.2.1 hdg ht (fun z => kt z H locs ls hP hS h) (fun z => kf z H locs ls hP hS h)
theorem g_if_gt (hC : o_C X cc own Ts fr lo nl) {x : Int32} {off : Int} (tgt : Nat) (hdg : decode cc pc = .ok (.ifCond .gt off, 3)) (ht : (pc : Int) + off = (tgt : Int)) (kt : 0 < x → o_G X σ tgt lv rest) (kf : ¬ 0 < x → o_G X σ (pc + 3) lv rest) : o_G X σ pc lv (.int x :: rest) := by
  obtain ⟨p, l, e, R, s, m, args, below, meth, c, Q, nL, φ, D, cI, cB, kc, ks⟩ := X
  exact fun H locs ls hP hS h => lv_if_gt hC.1 hC.2.1 hdg ht (fun z => kt z H locs ls hP hS h) (fun z => kf z H locs ls hP hS h)
theorem g_icmp_gt (hC : o_C X cc own Ts fr lo nl) {x y : Int32} {off : Int} (tgt : Nat) (hdg : decode cc pc = .ok (.if_icmp .gt off, 3)) (ht : (pc : Int) + off = (tgt : Int)) (kt : y < x → o_G X σ tgt lv rest) (kf : ¬ y < x → o_G X σ (pc + 3) lv rest) : o_G X σ pc lv (.int y :: .int x :: rest) := by
  obtain ⟨p, l, e, R, s, m, args, below, meth, c, Q, nL, φ, D, cI, cB, kc, ks⟩ := X
  exact fun H locs ls hP hS h => lv_icmp_gt hC.1 hC.2.1 hdg ht (fun z => kt z H locs ls hP hS h) (fun z => kf z H locs ls hP hS h)
theorem g_if_le (hC : o_C X cc own Ts fr lo nl) {x : Int32} {off : Int} (tgt : Nat) (hdg : decode cc pc = .ok (.ifCond .le off, 3)) (ht : (pc : Int) + off = (tgt : Int)) (kt : x ≤ 0 → o_G X σ tgt lv rest) (kf : ¬ x ≤ 0 → o_G X σ (pc + 3) lv rest) : o_G X σ pc lv (.int x :: rest) := by
  obtain ⟨p, l, e, R, s, m, args, below, meth, c, Q, nL, φ, D, cI, cB, kc, ks⟩ := X
  exact fun H locs ls hP hS h => lv_if_le hC.1 hC.2.1 hdg ht (fun z => kt z H locs ls hP hS h) (fun z => kf z H locs ls hP hS h)
theorem g_icmp_le (hC : o_C X cc own Ts fr lo nl) {x y : Int32} {off : Int} (tgt : Nat) (hdg : decode cc pc = .ok (.if_icmp .le off, 3)) (ht : (pc : Int) + off = (tgt : Int)) (kt : x ≤ y → o_G X σ tgt lv rest) (kf : ¬ x ≤ y → o_G X σ (pc + 3) lv rest) : o_G X σ pc lv (.int y :: .int x :: rest) := by
  obtain ⟨p, l, e, R, s, m, args, below, meth, c, Q, nL, φ, D, cI, cB, kc, ks⟩ := X
  exact fun H locs ls hP hS h => lv_icmp_le hC.1 hC.2.1 hdg ht (fun z => kt z H locs ls hP hS h) (fun z => kf z H locs ls hP hS h)
theorem g_tabIn (hC : o_C X cc own Ts fr lo nl) {x : Int32} (k : Int32) (e : x = k) {dflt a b : Int} {offs : Array Int} {len : Nat} {off : Int} (tgt : Nat) (hdg : decode cc pc = .ok (.tableswitch dflt a b offs, len)) (h1 : ¬ k.toInt < a) (h2 : ¬ b < k.toInt) (ho : offs[(k.toInt - a).toNat]? = some off) (ht : (pc : Int) + off = (tgt : Int)) (kk : o_G X σ tgt lv rest) : o_G X σ pc lv (.int x :: rest) := by
  subst e
  obtain ⟨p, l, e, R, s, m, args, below, meth, c, Q, nL, φ, D, cI, cB, kc, ks⟩ := X
  exact fun H locs ls hP hS h => lv_tableIn hC.1 hC.2.1 hdg h1 h2 ho ht (kk H locs ls hP hS h)
theorem g_tabOut (hC : o_C X cc own Ts fr lo nl) {x : Int32} {dflt a b : Int} {offs : Array Int} {len : Nat} (tgt : Nat) (hdg : decode cc pc = .ok (.tableswitch dflt a b offs, len)) (hh : x.toInt < a ∨ b < x.toInt) (ht : (pc : Int) + dflt = (tgt : Int)) (kk : o_G X σ tgt lv rest) : o_G X σ pc lv (.int x :: rest) := by
  obtain ⟨p, l, e, R, s, m, args, below, meth, c, Q, nL, φ, D, cI, cB, kc, ks⟩ := X
  exact fun H locs ls hP hS h => lv_tableOut hC.1 hC.2.1 hdg hh ht (kk H locs ls hP hS h)
theorem g_lookup (hC : o_C X cc own Ts fr lo nl) {x : Int32} {dflt : Int} {ps : Array (Int × Int)} {len : Nat} {off : Int} (tgt : Nat) (hdg : decode cc pc = .ok (.lookupswitch dflt ps, len)) (hp : (ps.toList.zip (ps.toList.drop 1)).all (fun (a, next) => a.1 < next.1) = true) (ho : Op.lookupswitch.offset ps.toList dflt x.toInt = off) (ht : (pc : Int) + off = (tgt : Int)) (kk : o_G X σ tgt lv rest) : o_G X σ pc lv (.int x :: rest) := by
  obtain ⟨p, l, e, R, s, m, args, below, meth, c, Q, nL, φ, D, cI, cB, kc, ks⟩ := X
  exact fun H locs ls hP hS h => lv_lookup hC.1 hC.2.1 hdg hp ho ht (kk H locs ls hP hS h)
theorem g_get (hC : o_C X cc own Ts fr lo nl) {i : OI} (hi : i ∈ o_ids) {ci : Nat} {fs : List Value} (he : o_enc (ox_φ X) (ox_I X) (ox_B X) σ i = .inr (ci, fs)) {C : String} {T : u_T} {N : Nat} (hc : vwCl[ci]? = some (C, T, N)) (hin : ∀ w ∈ u_ws C T N, w ∈ Ts) (k : Nat) (hk : k < N) {index : Nat} (hlink : Cond.fieldLink own index (T k).1 (T k).2.1 (T k).2.2.1 ∈ Ts) {v : Value} (hv : fs[k]? = some v) (hdg : decode cc pc = .ok (.getfield index, 3)) (kk : o_G X σ (pc + 3) lv (v :: rest)) : o_G X σ pc lv (.ref (ox_φ X i) :: rest) := by
  obtain ⟨p, l, e, R, s, m, args, below, meth, c, Q, nL, φ, D, cI, cB, kc, ks⟩ := X
  obtain ⟨q, hq⟩ := List.getElem?_of_mem hi
  exact fun H locs ls hP hS h => va_get hC.1 hC.2.1 hC.2.2.2.2.1 hin hC.2.2.2.1 hC.2.2.2.2.2.1.1 hP q ((o_wl_get hq).trans (congrArg (fun z => some (_, z)) he)) hc k hk (hC.2.2.2.2.1 _ hlink) (fun _ h9 => h9) hv hdg (kk H locs ls hP hS h)
theorem g_puti (hC : o_C X cc own Ts fr lo nl) {i : OI} (hi : i ∈ o_ids) {ci : Nat} {fs : List Value} (he : o_enc (ox_φ X) (ox_I X) (ox_B X) σ i = .inr (ci, fs)) {C : String} {T : u_T} {N : Nat} (hc : vwCl[ci]? = some (C, T, N)) (hin : ∀ w ∈ u_ws C T N, w ∈ Ts) {ty0 : Nat → FieldType} (hty : ∀ k, k < N → parseFieldDescriptor (T k).2.2.1 = some (ty0 k)) (hnm : ∀ a, a < N → ∀ b, b < N → a ≠ b → (T a).2.1 ≠ (T b).2.1) (k : Nat) (hk : k < N) {index : Nat} (hlink : Cond.fieldLink own index (T k).1 (T k).2.1 (T k).2.2.1 ∈ Ts) (hfin : (T k).2.2.2 = false) {v : Int32} (hn : narrow (ty0 k) (.int v) = .int v) (hfit : fits (ty0 k) (.int v) = true) (hl : k < fs.length) (he' : o_enc (ox_φ X) (ox_I X) (ox_B X) (o_wr σ i k v) i = .inr (ci, fs.set k (.int v))) (hdg : decode cc pc = .ok (.putfield index, 3)) (kk : o_G X (o_wr σ i k v) (pc + 3) lv rest) : o_G X σ pc lv (.int v :: .ref (ox_φ X i) :: rest) := by
  obtain ⟨p, l, e, R, s, m, args, below, meth, c, Q, nL, φ, D, cI, cB, kc, ks⟩ := X
  obtain ⟨q, hq⟩ := List.getElem?_of_mem hi
  exact fun H locs ls hP hS h => va_put hC.1 hC.2.1 hC.2.2.2.2.1 hin ty0 hty hnm hC.2.2.2.1 hC.2.2.2.2.2.1.1 hP (o_D hC.2.2.2.2.2.2.1) hS q ((o_wl_get hq).trans (congrArg (fun z => some (_, z)) he)) hc k hk (hC.2.2.2.2.1 _ hlink) (fun _ h9 => h9) hfin (hty k hk) hn hfit hl hdg (fun H1 locs1 hP1 _ hS1 => kk H1 locs1 ls (o_wl_wr hq he' ▸ hP1) hS1 h)
theorem g_putl (hC : o_C X cc own Ts fr lo nl) {ci : Nat} {fs : List Value} (he : o_enc (ox_φ X) (ox_I X) (ox_B X) σ (7,0,0) = .inr (ci, fs)) {C : String} {T : u_T} {N : Nat} (hc : vwCl[ci]? = some (C, T, N)) (hin : ∀ w ∈ u_ws C T N, w ∈ Ts) {ty0 : Nat → FieldType} (hty : ∀ k, k < N → parseFieldDescriptor (T k).2.2.1 = some (ty0 k)) (hnm : ∀ a, a < N → ∀ b, b < N → a ≠ b → (T a).2.1 ≠ (T b).2.1) (k : Nat) (hk : k < N) {index : Nat} (hlink : Cond.fieldLink own index (T k).1 (T k).2.1 (T k).2.2.1 ∈ Ts) (hfin : (T k).2.2.2 = false) {v : Int64} (hn : narrow (ty0 k) (.long v) = .long v) (hfit : fits (ty0 k) (.long v) = true) (hl : k < fs.length) (he' : o_enc (ox_φ X) (ox_I X) (ox_B X) (o_wl8 σ k v) (7,0,0) = .inr (ci, fs.set k (.long v))) (hdg : decode cc pc = .ok (.putfield index, 3)) (kk : o_G X (o_wl8 σ k v) (pc + 3) lv rest) : o_G X σ pc lv (.long v :: .ref (ox_φ X (7,0,0)) :: rest) := by
  obtain ⟨p, l, e, R, s, m, args, below, meth, c, Q, nL, φ, D, cI, cB, kc, ks⟩ := X
  obtain ⟨q, hq⟩ := List.getElem?_of_mem (show ((7,0,0) : OI) ∈ o_ids by decide +kernel)
  exact fun H locs ls hP hS h => va_put hC.1 hC.2.1 hC.2.2.2.2.1 hin ty0 hty hnm hC.2.2.2.1 hC.2.2.2.2.2.1.1 hP (o_D hC.2.2.2.2.2.2.1) hS q ((o_wl_get hq).trans (congrArg (fun z => some (_, z)) he)) hc k hk (hC.2.2.2.2.1 _ hlink) (fun _ h9 => h9) hfin (hty k hk) hn hfit hl hdg (fun H1 locs1 hP1 _ hS1 => kk H1 locs1 ls (o_wl_w8 hq he' ▸ hP1) hS1 h)
theorem g_iald (hC : o_C X cc own Ts fr lo nl) {i : OI} {n : Nat} (ha : o_isA i n) {x : Int32} (hin : vp_in x n) (hdg : decode cc pc = .ok (.iaload, 1)) (kk : o_G X σ (pc + 1) lv (.int (σ.1 i x.toNatClampNeg) :: rest)) : o_G X σ pc lv (.int x :: .ref (ox_φ X i) :: rest) := by
  obtain ⟨p, l, e, R, s, m, args, below, meth, c, Q, nL, φ, D, cI, cB, kc, ks⟩ := X
  obtain ⟨hi, he⟩ := ha
  obtain ⟨q, hq⟩ := List.getElem?_of_mem hi
  exact fun H locs ls hP hS h => va_iald hC.1 hC.2.1 hC.2.2.2.2.2.1.1 hP q 0 ((o_wl_get hq).trans (congrArg (fun z => some (_, z)) (he φ cI cB σ))) rfl hin hdg (kk H locs ls hP hS h)
theorem g_bald (hC : o_C X cc own Ts fr lo nl) {i : OI} {n : Nat} (ha : o_isB i n) {x : Int32} (hin : vp_in x n) (hdg : decode cc pc = .ok (.baload, 1)) (kk : o_G X σ (pc + 1) lv (.int (σ.1 i x.toNatClampNeg) :: rest)) : o_G X σ pc lv (.int x :: .ref (ox_φ X i) :: rest) := by
  obtain ⟨p, l, e, R, s, m, args, below, meth, c, Q, nL, φ, D, cI, cB, kc, ks⟩ := X
  obtain ⟨hi, he⟩ := ha
  obtain ⟨q, hq⟩ := List.getElem?_of_mem hi
  exact fun H locs ls hP hS h => va_bald hC.1 hC.2.1 hC.2.2.2.2.2.1.1 hP q 1 ((o_wl_get hq).trans (congrArg (fun z => some (_, z)) (he φ cI cB σ))) rfl hin hdg (kk H locs ls hP hS h)
theorem g_iast (hC : o_C X cc own Ts fr lo nl) {i : OI} {n : Nat} (ha : o_isA i n) {x v : Int32} (hin : vp_in x n) (hdg : decode cc pc = .ok (.iastore, 1)) (kk : o_G X (o_wr σ i x.toNatClampNeg v) (pc + 1) lv rest) : o_G X σ pc lv (.int v :: .int x :: .ref (ox_φ X i) :: rest) := by
  obtain ⟨p, l, e, R, s, m, args, below, meth, c, Q, nL, φ, D, cI, cB, kc, ks⟩ := X
  obtain ⟨hi, he⟩ := ha
  obtain ⟨q, hq⟩ := List.getElem?_of_mem hi
  exact fun H locs ls hP hS h => va_iast hC.1 hC.2.1 hC.2.2.2.2.2.1.1 hP (o_D hC.2.2.2.2.2.2.1) hS q 0 ((o_wl_get hq).trans (congrArg (fun z => some (_, z)) (he φ cI cB σ))) rfl hin hdg (fun H1 locs1 hP1 _ hS1 => kk H1 locs1 ls (o_wl_wr hq ((he φ cI cB (o_wr σ i x.toNatClampNeg v)).trans (by rw [o_wr_at])) ▸ hP1) hS1 h)
theorem g_bast (hC : o_C X cc own Ts fr lo nl) {i : OI} {n : Nat} (ha : o_isB i n) {x v : Int32} (hin : vp_in x n) (hdg : decode cc pc = .ok (.bastore, 1)) (kk : o_G X (o_wr σ i x.toNatClampNeg (vp_nar .byte v)) (pc + 1) lv rest) : o_G X σ pc lv (.int v :: .int x :: .ref (ox_φ X i) :: rest) := by
  obtain ⟨p, l, e, R, s, m, args, below, meth, c, Q, nL, φ, D, cI, cB, kc, ks⟩ := X
  obtain ⟨hi, he⟩ := ha
  obtain ⟨q, hq⟩ := List.getElem?_of_mem hi
  exact fun H locs ls hP hS h => va_bast hC.1 hC.2.1 hC.2.2.2.2.2.1.1 hP (o_D hC.2.2.2.2.2.2.1) hS q 1 ((o_wl_get hq).trans (congrArg (fun z => some (_, z)) (he φ cI cB σ))) rfl hin hdg (fun H1 locs1 hP1 _ hS1 => kk H1 locs1 ls (o_wl_wr hq ((he φ cI cB (o_wr σ i x.toNatClampNeg (vp_nar .byte v))).trans (by rw [o_wr_at])) ▸ hP1) hS1 h)
theorem g_alen (hC : o_C X cc own Ts fr lo nl) {i : OI} {n : Nat} (ha : o_isA i n) (hdg : decode cc pc = .ok (.arraylength, 1)) (kk : o_G X σ (pc + 1) lv (.int (nI n) :: rest)) : o_G X σ pc lv (.ref (ox_φ X i) :: rest) := by
  obtain ⟨p, l, e, R, s, m, args, below, meth, c, Q, nL, φ, D, cI, cB, kc, ks⟩ := X
  obtain ⟨hi, he⟩ := ha
  obtain ⟨q, hq⟩ := List.getElem?_of_mem hi
  exact fun H locs ls hP hS h => va_alen hC.1 hC.2.1 hC.2.2.2.2.2.1.1 hP q 0 ((o_wl_get hq).trans (congrArg (fun z => some (_, z)) (he φ cI cB σ))) rfl rfl hdg (kk H locs ls hP hS h)
end ORows
/-! CALLS: o_R says that the call runs and what it answers; g_ri, g_rl, g_rv, g_rr go on behind it -/
def o_R (X : OX) (σ : SS) (pc : Nat) (lv : List (Nat × Value)) (st rest : List Value) (Qa : Array Value → State → Outcome → State → Prop) : Prop := match X with
  | (p, l, e, R, s, m, args, below, meth, c, Q, nL, φ, D, cI, cB, kc, ks) => ∀ (H : Heap) (locs : List Loc) (ls : Array Slot), va_P D vwCl (o_wl φ cI cB σ) H → lv_has ls nL lv → ∃ a : Array Value, va_Run p l e R s m args below meth c H locs kc ks 0 0 (F0 m pc ls st) rest (Qa a) (o_A φ)
section OCalls
variable {X : OX} {cc : ByteArray} {own : String} {Ts : List Cond} {fr lo nl : Nat} {σ : SS} {pc : Nat} {lv : List (Nat × Value)} {rest st : List Value}
theorem g_ri {post : Int32 → SS → Prop} (hR : o_R X σ pc lv st rest (va_Qi post (o_B (ox_φ X) (ox_D X) (ox_I X) (ox_B X)) (o_A (ox_φ X)))) (kk : ∀ (r : Int32) (σ' : SS), post r σ' → o_G X σ' (pc + 3) lv (.int r :: rest)) : o_G X σ pc lv st := by
  obtain ⟨p, l, e, R, s, m, args, below, meth, c, Q, nL, φ, D, cI, cB, kc, ks⟩ := X
  intro H locs ls hP hS h
  obtain ⟨a, hr⟩ := hR H locs ls hP h
  exact va_calli hr hS (fun q _ hq => hq) (fun q hq => hq) (fun r u t H1 locs1 ht hvm hp hB hz hk hS1 => kk r u hp H1 locs1 ls (ht ▸ hB) hS1 h)
theorem g_rl {post : Int64 → SS → Prop} (hR : o_R X σ pc lv st rest (va_Ql post (o_B (ox_φ X) (ox_D X) (ox_I X) (ox_B X)) (o_A (ox_φ X)))) (kk : ∀ (r : Int64) (σ' : SS), post r σ' → o_G X σ' (pc + 3) lv (.long r :: rest)) : o_G X σ pc lv st := by
  obtain ⟨p, l, e, R, s, m, args, below, meth, c, Q, nL, φ, D, cI, cB, kc, ks⟩ := X
  intro H locs ls hP hS h
  obtain ⟨a, hr⟩ := hR H locs ls hP h
  exact va_calll hr hS (fun q _ hq => hq) (fun q hq => hq) (fun r u t H1 locs1 ht hvm hp hB hz hk hS1 => kk r u hp H1 locs1 ls (ht ▸ hB) hS1 h)
theorem g_rv {post : SS → Prop} (hR : o_R X σ pc lv st rest (va_Qv post (o_B (ox_φ X) (ox_D X) (ox_I X) (ox_B X)) (o_A (ox_φ X)))) (kk : ∀ (σ' : SS), post σ' → o_G X σ' (pc + 3) lv rest) : o_G X σ pc lv st := by
  obtain ⟨p, l, e, R, s, m, args, below, meth, c, Q, nL, φ, D, cI, cB, kc, ks⟩ := X
  intro H locs ls hP hS h
  obtain ⟨a, hr⟩ := hR H locs ls hP h
  exact va_callv hr hS (fun q _ hq => hq) (fun q hq => hq) (fun u t H1 locs1 ht hvm hp hB hz hk hS1 => kk u hp H1 locs1 ls (ht ▸ hB) hS1 h)
theorem g_rr {post : Nat → SS → Prop} (hR : o_R X σ pc lv st rest (va_Qr (S := Nat × SS) (fun u => u.1 < 5 ∧ post u.1 u.2) (fun u a t => a = (ox_φ X) (6, 0, u.1) ∧ o_B (ox_φ X) (ox_D X) (ox_I X) (ox_B X) u.2 t) (o_A (ox_φ X)))) (kk : ∀ (j : Nat) (σ' : SS), j < 5 → post j σ' → o_G X σ' (pc + 3) lv (.ref (ox_φ X (6, 0, j)) :: rest)) : o_G X σ pc lv st := by
  obtain ⟨p, l, e, R, s, m, args, below, meth, c, Q, nL, φ, D, cI, cB, kc, ks⟩ := X
  intro H locs ls hP hS h
  obtain ⟨a, hr⟩ := hR H locs ls hP h
  refine va_callr hr hS (fun q _ hq => hq) (fun q hq => hq) (fun u ra t H1 locs1 ht hvm hp hB hz hk hS1 => ?_)
  obtain ⟨rfl, hB⟩ := hB
  exact kk u.1 u.2 hp.1 hp.2 H1 locs1 ls (ht ▸ hB) hS1 h
theorem r_V (hC : o_C X cc own Ts fr lo nl) {i : OI} (hi : i ∈ o_ids) {ci : Nat} {fs : List Value} (he : o_enc (ox_φ X) (ox_I X) (ox_B X) σ i = .inr (ci, fs)) {C : String} {T : u_T} {N : Nat} (hc : vwCl[ci]? = some (C, T, N)) {As : List Value} {y : MethodName} {ws ws' : List Cond} {frc loc maxL n index : Nat} {bytes : ByteArray} {ret : Option FieldType} {Qc : Array Value → State → Outcome → State → Prop} (hM : Met (ox_l X) y ws (o_rm frc loc) (o_Pc (ox_φ X) (ox_D X) (ox_I X) (ox_B X) σ (.ref (ox_φ X i) :: As)) Qc 0 0 (o_A (ox_φ X))) (hG : GoodIn Ts (wsV own index C y ws)) (hw : ws = Cond.code y bytes maxL ret :: ws') (hd : y.cls = C ∧ y.cls ≠ "java/lang/invoke/MethodHandle" ∧ y.cls ≠ "java/lang/invoke/VarHandle" ∧ (parseMethodDescriptor y.desc).map (fun d => d.parameters.length) = some n) (hR : frc + 1 ≤ fr ∧ 8 + (maxL + 11) + loc ≤ lo) (hn : As.length = n) (hst : st = As.reverse ++ .ref (ox_φ X i) :: rest) (hrm : (rest.map fun v => v.category).sum ≤ 8) (hdg : decode cc pc = .ok (.invokevirtual index, 3)) : o_R X σ pc lv st rest Qc := by
  obtain ⟨p, l, e, R, s, m, args, below, meth, c, Q, nL, φ, D, cI, cB, kc, ks⟩ := X
  obtain ⟨q, hq⟩ := List.getElem?_of_mem hi
  obtain ⟨h1, h2, h3, h4, h5, h6, h7, h8, h9, h10, h11, h12⟩ := hC
  exact fun H locs ls hP h => ⟨_, va_runV (As := As) (rest := rest) ⟨h1, h2, h3, h4, h5⟩ hM (cwV n h5 hG hw rfl rfl hd ⟨Nat.le_trans hR.1 h8, Nat.le_trans hR.2 h9⟩) ⟨o_blind, va_recv h6.1 hP hc ((o_wl_get hq).trans (congrArg (fun z => some (_, z)) he)), fun U hU hW => ⟨rfl, by rw [hU]; exact hP, h6.warm hW⟩⟩ rfl hn h.1 hst (lv_room hrm) hdg ⟨h10, h11⟩⟩
theorem r_S (hC : o_C X cc own Ts fr lo nl) {As : List Value} {y : MethodName} {ws ws' : List Cond} {frc loc maxL n index : Nat} {bytes : ByteArray} {ret : Option FieldType} {Qc : Array Value → State → Outcome → State → Prop} (hM : Met (ox_l X) y ws (o_rm frc loc) (o_Pc (ox_φ X) (ox_D X) (ox_I X) (ox_B X) σ As) Qc 0 0 (o_A (ox_φ X))) (hG : GoodIn Ts (va_wsS own index y ws)) (hw : ws = Cond.code y bytes maxL ret :: ws') (hd : y.cls ≠ "java/lang/invoke/MethodHandle" ∧ y.cls ≠ "java/lang/invoke/VarHandle" ∧ (parseMethodDescriptor y.desc).map (fun d => d.parameters.length) = some n) (hR : frc + 1 ≤ fr ∧ 8 + (maxL + 11) + loc ≤ lo) (hn : As.length = n) (hst : st = As.reverse ++ rest) (hrm : (rest.map fun v => v.category).sum ≤ 8) (hdg : decode cc pc = .ok (.invokestatic index, 3)) : o_R X σ pc lv st rest Qc := by
  obtain ⟨p, l, e, R, s, m, args, below, meth, c, Q, nL, φ, D, cI, cB, kc, ks⟩ := X
  obtain ⟨h1, h2, h3, h4, h5, h6, h7, h8, h9, h10, h11, h12⟩ := hC
  exact fun H locs ls hP h => ⟨_, va_runS (As := As) (rest := rest) ⟨h1, h2, h3, h4, h5⟩ hM (va_cwS n h5 hG hw rfl rfl hd ⟨Nat.le_trans hR.1 h8, Nat.le_trans hR.2 h9⟩) ⟨o_blind, fun U hU hW => ⟨rfl, by rw [hU]; exact hP, h6.warm hW⟩⟩ rfl hn h.1 hst (lv_room hrm) hdg ⟨h10, h11⟩⟩
/-- a nest mate's static method: Row's isIn of SchoolRow -/
theorem r_SN (hC : o_C X cc RX4 Ts fr lo nl) {As : List Value} {ws' : List Cond} {frc loc maxL n : Nat} {bytes : ByteArray} {ret : Option FieldType} {Qc : Array Value → State → Outcome → State → Prop} (hM : Met (ox_l X) yX9_isIn wsX9_isIn (o_rm frc loc) (o_Pc (ox_φ X) (ox_D X) (ox_I X) (ox_B X) σ As) Qc 0 0 (o_A (ox_φ X))) (hG : GoodIn Ts wsX9_isIn) (hw : wsX9_isIn = Cond.code yX9_isIn bytes maxL ret :: ws') (hw1 : Cond.initialized RX9 ∈ Ts) (hw2 : Cond.static yX9_isIn ∈ Ts) (hd : yX9_isIn.cls ≠ "java/lang/invoke/MethodHandle" ∧ yX9_isIn.cls ≠ "java/lang/invoke/VarHandle" ∧ (parseMethodDescriptor yX9_isIn.desc).map (fun d => d.parameters.length) = some n) (hR : frc + 1 ≤ fr ∧ 8 + (maxL + 11) + loc ≤ lo) (hn : As.length = n) (hst : st = As.reverse ++ rest) (hrm : (rest.map fun v => v.category).sum ≤ 8) (hdg : decode cc pc = .ok (.invokestatic 61, 3)) : o_R X σ pc lv st rest Qc := by
  obtain ⟨p, l, e, R, s, m, args, below, meth, c, Q, nL, φ, D, cI, cB, kc, ks⟩ := X
  obtain ⟨h1, h2, h3, h4, h5, h6, h7, h8, h9, h10, h11, h12⟩ := hC
  exact fun H locs ls hP h => ⟨_, va_runSN (As := As) (rest := rest) (host := "SchoolRow") ⟨h1, h2, h3, h4, h5⟩ hM ⟨va_cnB n h5 hG hw rfl rfl h6.2.1 (h5 _ hw1) hd ⟨Nat.le_trans hR.1 h8, Nat.le_trans hR.2 h9⟩, h5 _ hw2, trivial⟩ ⟨o_blind, fun U hU hW => ⟨rfl, by rw [hU]; exact hP, h6.warm hW⟩⟩ rfl hn h.1 hst (lv_room hrm) hdg ⟨h10, h11⟩⟩
/-- a child's method, that his class has from a class above, or its own -/
theorem r_U (hC : o_C X cc own Ts fr lo nl) {j : Nat} (hj : j < 5) {C : String} {T : u_T} {N : Nat} (hc : vwCl[o_kc j]? = some (C, T, N)) {As : List Value} {owner : String} {x y : MethodName} {ws ws' : List Cond} {frc loc maxL n index : Nat} {bytes : ByteArray} {ret : Option FieldType} {Qc : Array Value → State → Outcome → State → Prop} (hM : Met (ox_l X) y ws (o_rm frc loc) (o_Pc (ox_φ X) (ox_D X) (ox_I X) (ox_B X) σ (.ref (ox_φ X (6, 0, j)) :: As)) Qc 0 0 (o_A (ox_φ X))) (hG : GoodIn Ts (va_wsU own index C owner x y ws)) (hw : ws = Cond.code y bytes maxL ret :: ws') (hyx : y = ⟨owner, x.name, x.desc⟩) (hd : owner ≠ "java/lang/invoke/MethodHandle" ∧ owner ≠ "java/lang/invoke/VarHandle" ∧ (parseMethodDescriptor x.desc).map (fun d => d.parameters.length) = some n) (hR : frc + 1 ≤ fr ∧ 8 + (maxL + 11) + loc ≤ lo) (hn : As.length = n) (hst : st = As.reverse ++ .ref (ox_φ X (6, 0, j)) :: rest) (hrm : (rest.map fun v => v.category).sum ≤ 8) (hdg : decode cc pc = .ok (.invokevirtual index, 3)) : o_R X σ pc lv st rest Qc := by
  obtain ⟨p, l, e, R, s, m, args, below, meth, c, Q, nL, φ, D, cI, cB, kc, ks⟩ := X
  obtain ⟨q, hq⟩ := List.getElem?_of_mem (o_in6 j hj)
  obtain ⟨h1, h2, h3, h4, h5, h6, h7, h8, h9, h10, h11, h12⟩ := hC
  exact fun H locs ls hP h => ⟨_, va_runU (As := As) (rest := rest) ⟨h1, h2, h3, h4, h5⟩ hM (va_cwU n h5 hG hw rfl rfl hyx hd ⟨Nat.le_trans hR.1 h8, Nat.le_trans hR.2 h9⟩) ⟨o_blind, va_recv h6.1 hP hc ((o_wl_get hq).trans (congrArg (fun z => some (_, z)) rfl)), fun U hU hW => ⟨rfl, by rw [hU]; exact hP, h6.warm hW⟩⟩ rfl hn h.1 hst (lv_room hrm) hdg ⟨h10, h11⟩⟩
theorem r_O (hC : o_C X cc own Ts fr lo nl) {j : Nat} (hj : j < 5) {C : String} {T : u_T} {N : Nat} (hc : vwCl[o_kc j]? = some (C, T, N)) {As : List Value} {owner : String} {x y : MethodName} {ws ws' : List Cond} {frc loc maxL n index : Nat} {bytes : ByteArray} {ret : Option FieldType} {Qc : Array Value → State → Outcome → State → Prop} (hM : Met (ox_l X) y ws (o_rm frc loc) (o_Pc (ox_φ X) (ox_D X) (ox_I X) (ox_B X) σ (.ref (ox_φ X (6, 0, j)) :: As)) Qc 0 0 (o_A (ox_φ X))) (hG : GoodIn Ts (va_wsO own index C owner x y ws)) (hw : ws = Cond.code y bytes maxL ret :: ws') {b0 : ByteArray} {m0 : Nat} {r0 : Option FieldType} (h0 : Cond.code ⟨owner, x.name, x.desc⟩ b0 m0 r0 ∈ Ts) (hd : owner ≠ "java/lang/invoke/MethodHandle" ∧ owner ≠ "java/lang/invoke/VarHandle" ∧ (parseMethodDescriptor x.desc).map (fun d => d.parameters.length) = some n) (hR : frc + 1 ≤ fr ∧ 8 + (maxL + 11) + loc ≤ lo) (hn : As.length = n) (hst : st = As.reverse ++ .ref (ox_φ X (6, 0, j)) :: rest) (hrm : (rest.map fun v => v.category).sum ≤ 8) (hdg : decode cc pc = .ok (.invokevirtual index, 3)) : o_R X σ pc lv st rest Qc := by
  obtain ⟨p, l, e, R, s, m, args, below, meth, c, Q, nL, φ, D, cI, cB, kc, ks⟩ := X
  obtain ⟨q, hq⟩ := List.getElem?_of_mem (o_in6 j hj)
  obtain ⟨h1, h2, h3, h4, h5, h6, h7, h8, h9, h10, h11, h12⟩ := hC
  exact fun H locs ls hP h => ⟨_, va_runU (As := As) (rest := rest) ⟨h1, h2, h3, h4, h5⟩ hM (va_cwO n h5 hG hw rfl rfl h0 hd ⟨Nat.le_trans hR.1 h8, Nat.le_trans hR.2 h9⟩) ⟨o_blind, va_recv h6.1 hP hc ((o_wl_get hq).trans (congrArg (fun z => some (_, z)) rfl)), fun U hU hW => ⟨rfl, by rw [hU]; exact hP, h6.warm hW⟩⟩ rfl hn h.1 hst (lv_room hrm) hdg ⟨h10, h11⟩⟩
/-- is a child of a class? -/
theorem g_instS (hC : o_C X cc own Ts fr lo nl) {j : Nat} (hj : j < 5) {C : String} {T : u_T} {N : Nat} (hc : vwCl[o_kc j]? = some (C, T, N)) {index : Nat} (hw : Cond.classLink own index C ∈ Ts) (hdg : decode cc pc = .ok (.instanceof index, 3)) (kk : o_G X σ (pc + 3) lv (.int 1 :: rest)) : o_G X σ pc lv (.ref (ox_φ X (6, 0, j)) :: rest) := by
  obtain ⟨p, l, e, R, s, m, args, below, meth, c, Q, nL, φ, D, cI, cB, kc, ks⟩ := X
  obtain ⟨q, hq⟩ := List.getElem?_of_mem (o_in6 j hj)
  obtain ⟨h1, h2, h3, h4, h5, h6, h7, h8, h9, h10, h11, h12⟩ := hC
  exact fun H locs ls hP hS h => va_instS h1 h2 h4 (h5 _ hw) (h6.1.1 _ _ hc).2 (va_recv h6.1 hP hc ((o_wl_get hq).trans (congrArg (fun z => some (_, z)) rfl))) hdg (kk H locs ls hP hS h)
theorem g_instY (hC : o_C X cc own Ts fr lo nl) {j : Nat} (hj : j < 5) {C nm : String} {T : u_T} {N : Nat} (hc : vwCl[o_kc j]? = some (C, T, N)) (hcast : ∀ s, o_K (ox_D X) (ox_I X) (ox_B X) s → va_Nw (.castable C nm) s) {index : Nat} (hw : Cond.classLink own index nm ∈ Ts) (hdg : decode cc pc = .ok (.instanceof index, 3)) (kk : o_G X σ (pc + 3) lv (.int 1 :: rest)) : o_G X σ pc lv (.ref (ox_φ X (6, 0, j)) :: rest) := by
  obtain ⟨p, l, e, R, s, m, args, below, meth, c, Q, nL, φ, D, cI, cB, kc, ks⟩ := X
  obtain ⟨q, hq⟩ := List.getElem?_of_mem (o_in6 j hj)
  obtain ⟨h1, h2, h3, h4, h5, h6, h7, h8, h9, h10, h11, h12⟩ := hC
  exact fun H locs ls hP hS h => va_instY h1 h2 h4 (h5 _ hw) (hcast s h6) (va_recv h6.1 hP hc ((o_wl_get hq).trans (congrArg (fun z => some (_, z)) rfl))) hdg (kk H locs ls hP hS h)
theorem g_instN (hC : o_C X cc own Ts fr lo nl) {j : Nat} (hj : j < 5) {C nm : String} {T : u_T} {N : Nat} (hc : vwCl[o_kc j]? = some (C, T, N)) (hcast : ∀ s, o_K (ox_D X) (ox_I X) (ox_B X) s → va_Nc C nm s) {index : Nat} (hw : Cond.classLink own index nm ∈ Ts) (hdg : decode cc pc = .ok (.instanceof index, 3)) (kk : o_G X σ (pc + 3) lv (.int 0 :: rest)) : o_G X σ pc lv (.ref (ox_φ X (6, 0, j)) :: rest) := by
  obtain ⟨p, l, e, R, s, m, args, below, meth, c, Q, nL, φ, D, cI, cB, kc, ks⟩ := X
  obtain ⟨q, hq⟩ := List.getElem?_of_mem (o_in6 j hj)
  obtain ⟨h1, h2, h3, h4, h5, h6, h7, h8, h9, h10, h11, h12⟩ := hC
  exact fun H locs ls hP hS h => va_instNo h1 h2 h4 (h5 _ hw) (hcast s h6) (va_recv h6.1 hP hc ((o_wl_get hq).trans (congrArg (fun z => some (_, z)) rfl))) hdg (kk H locs ls hP hS h)
end OCalls
/-- which children are of a class -/
def o_isX8 (j : Nat) : Int32 := if j = 1 then 1 else 0
def o_isX2 (j : Nat) : Int32 := if j = 2 then 1 else 0
def o_isX7 (j : Nat) : Int32 := if j = 3 ∨ j = 4 then 1 else 0
def o_isX6 (j : Nat) : Int32 := if j = 4 then 1 else 0
section OIs
variable {X : OX} {cc : ByteArray} {own : String} {Ts : List Cond} {fr lo nl : Nat} {σ : SS} {pc : Nat} {lv : List (Nat × Value)} {rest : List Value}
theorem g_isX8 (hC : o_C X cc own Ts fr lo nl) {j : Nat} (hj : j < 5) {index : Nat} (hw : Cond.classLink own index RX8 ∈ Ts) (hdg : decode cc pc = .ok (.instanceof index, 3)) (kk : o_G X σ (pc + 3) lv (.int (o_isX8 j) :: rest)) : o_G X σ pc lv (.ref (ox_φ X (6, 0, j)) :: rest) :=
  match j, hj, kk with
  | 0, hj, kk => g_instN (C := RX1) hC hj rfl (fun _ h => h.2.2.2.2.2.2.1) hw hdg kk
  | 1, hj, kk => g_instS hC hj rfl hw hdg kk
  | 2, hj, kk => g_instN (C := RX2) hC hj rfl (fun _ h => h.2.2.2.2.2.2.2.2.2.1) hw hdg kk
  | 3, hj, kk => g_instN (C := RX7) hC hj rfl (fun _ h => h.2.2.2.2.2.2.2.2.2.2.2.2.2.2.1) hw hdg kk
  | 4, hj, kk => g_instN (C := RX6) hC hj rfl (fun _ h => h.2.2.2.2.2.2.2.2.2.2.2.1) hw hdg kk
  | k + 5, hj, _ => absurd hj (by omega)
theorem g_isX2 (hC : o_C X cc own Ts fr lo nl) {j : Nat} (hj : j < 5) {index : Nat} (hw : Cond.classLink own index RX2 ∈ Ts) (hdg : decode cc pc = .ok (.instanceof index, 3)) (kk : o_G X σ (pc + 3) lv (.int (o_isX2 j) :: rest)) : o_G X σ pc lv (.ref (ox_φ X (6, 0, j)) :: rest) :=
  match j, hj, kk with
  | 0, hj, kk => g_instN (C := RX1) hC hj rfl (fun _ h => h.2.2.2.1) hw hdg kk
  | 1, hj, kk => g_instN (C := RX8) hC hj rfl (fun _ h => h.2.2.2.2.2.2.2.2.2.2.2.2.2.2.2.1) hw hdg kk
  | 2, hj, kk => g_instS hC hj rfl hw hdg kk
  | 3, hj, kk => g_instN (C := RX7) hC hj rfl (fun _ h => h.2.2.2.2.2.2.2.2.2.2.2.2.1) hw hdg kk
  | 4, hj, kk => g_instN (C := RX6) hC hj rfl (fun _ h => h.2.2.2.2.2.2.2.2.2.2.1) hw hdg kk
  | k + 5, hj, _ => absurd hj (by omega)
theorem g_isX7 (hC : o_C X cc own Ts fr lo nl) {j : Nat} (hj : j < 5) {index : Nat} (hw : Cond.classLink own index RX7 ∈ Ts) (hdg : decode cc pc = .ok (.instanceof index, 3)) (kk : o_G X σ (pc + 3) lv (.int (o_isX7 j) :: rest)) : o_G X σ pc lv (.ref (ox_φ X (6, 0, j)) :: rest) :=
  match j, hj, kk with
  | 0, hj, kk => g_instN (C := RX1) hC hj rfl (fun _ h => h.2.2.2.2.2.1) hw hdg kk
  | 1, hj, kk => g_instN (C := RX8) hC hj rfl (fun _ h => h.2.2.2.2.2.2.2.2.2.2.2.2.2.2.2.2.2) hw hdg kk
  | 2, hj, kk => g_instN (C := RX2) hC hj rfl (fun _ h => h.2.2.2.2.2.2.2.2.1) hw hdg kk
  | 3, hj, kk => g_instS hC hj rfl hw hdg kk
  | 4, hj, kk => g_instY (C := RX6) hC hj rfl (fun _ h => h.2.2.1) hw hdg kk
  | k + 5, hj, _ => absurd hj (by omega)
theorem g_isX6 (hC : o_C X cc own Ts fr lo nl) {j : Nat} (hj : j < 5) {index : Nat} (hw : Cond.classLink own index RX6 ∈ Ts) (hdg : decode cc pc = .ok (.instanceof index, 3)) (kk : o_G X σ (pc + 3) lv (.int (o_isX6 j) :: rest)) : o_G X σ pc lv (.ref (ox_φ X (6, 0, j)) :: rest) :=
  match j, hj, kk with
  | 0, hj, kk => g_instN (C := RX1) hC hj rfl (fun _ h => h.2.2.2.2.1) hw hdg kk
  | 1, hj, kk => g_instN (C := RX8) hC hj rfl (fun _ h => h.2.2.2.2.2.2.2.2.2.2.2.2.2.2.2.2.1) hw hdg kk
  | 2, hj, kk => g_instN (C := RX2) hC hj rfl (fun _ h => h.2.2.2.2.2.2.2.1) hw hdg kk
  | 3, hj, kk => g_instN (C := RX7) hC hj rfl (fun _ h => h.2.2.2.2.2.2.2.2.2.2.2.2.2.1) hw hdg kk
  | 4, hj, kk => g_instS hC hj rfl hw hdg kk
  | k + 5, hj, _ => absurd hj (by omega)
end OIs
/-! RETURNS, and a contract out of a walk -/
def o_RI (X : OX) (cc : ByteArray) (post : Int32 → SS → Prop) : Prop := ∀ (v : Int32) (σ : SS) (pc : Nat) (lv : List (Nat × Value)), decode cc pc = .ok (.ireturn, 1) → post v σ → o_G X σ pc lv [.int v]
/-- of a boolean: 0 or 1 -/
def o_RZ (X : OX) (cc : ByteArray) (post : Int32 → SS → Prop) : Prop := ∀ (v : Int32) (σ : SS) (pc : Nat) (lv : List (Nat × Value)), decode cc pc = .ok (.ireturn, 1) → (v = 0 ∨ v = 1) ∧ post v σ → o_G X σ pc lv [.int v]
def o_RL (X : OX) (cc : ByteArray) (post : Int64 → SS → Prop) : Prop := ∀ (v : Int64) (σ : SS) (pc : Nat) (lv : List (Nat × Value)), decode cc pc = .ok (.lreturn, 1) → post v σ → o_G X σ pc lv [.long v]
def o_RV (X : OX) (cc : ByteArray) (post : SS → Prop) : Prop := ∀ (σ : SS) (pc : Nat) (lv : List (Nat × Value)), decode cc pc = .ok (.return_, 1) → post σ → o_G X σ pc lv []
def o_RR (X : OX) (cc : ByteArray) (post : Nat → SS → Prop) : Prop := ∀ (j : Nat) (σ : SS) (pc : Nat) (lv : List (Nat × Value)), decode cc pc = .ok (.areturn, 1) → j < 5 → post j σ → o_G X σ pc lv [.ref (ox_φ X (6, 0, j))]
section OMet
variable {l : Launch} {φ : OI → Nat} {D : va_G} {cI cB : ClassId} {y : MethodName} {ws ws' : List Cond} {cc : ByteArray} {fr lo nl : Nat} {av : List Value} {σ : SS}
theorem o_met_i {post : Int32 → SS → Prop} (hJ : o_J φ) (hy : plainName y.cls = true) (hw : ws = Cond.code y cc nl (some .int) :: ws') (hlen : (lg_sl av).length ≤ nl)
    (body : ∀ (p : Program) (e : Env) (s : State) (m : MethodId) (args : Array Value) (below : List Frame) (meth : Method) (c : Code) (Q : State → Prop), o_C (p, l, e, o_rm fr lo, s, m, args, below, meth, c, Q, nl, φ, D, cI, cB, 0, 0) cc y.cls ws fr lo nl → o_RI (p, l, e, o_rm fr lo, s, m, args, below, meth, c, Q, nl, φ, D, cI, cB, 0, 0) cc post → o_G (p, l, e, o_rm fr lo, s, m, args, below, meth, c, Q, nl, φ, D, cI, cB, 0, 0) σ 0 (lv_args 0 av) []) : o_Mi l φ D cI cB y ws fr lo av σ post := by
  refine Met.ofW (cc := cc) (maxL := nl) (ret := some .int) hy hw ?_
  intro p e s m args below meth c s₁ B hml hv
  obtain ⟨rfl, hP, hK⟩ := hv
  have hlocks := B.notSynchronized
  have hl := lv_entry av (n := nl) hlen
  rw [lg_entry_eq]
  exact body p e s m av.toArray below meth c _ ⟨B.exec, B.bytes, hml, findClass_of_methodNamed B.named, atoms_spec (ws := ws) B.pre, hK, hJ, Nat.le_refl _, Nat.le_refl _, Nat.le_refl _, Nat.le_refl _, rfl⟩ (fun v σ' pc lv hd hp H locs ls hP' hS' h' => W.iret (v := v) B.exec B.bytes B.returns (fun t ht hW => ⟨⟨v, σ', rfl, hp, by show va_P _ _ _ _; rw [ht]; exact hP'⟩, hS'.F ht⟩) hS'.2.2 hd hlocks) s.heap [] _ hP va_S.rf hl
theorem o_met_z {post : Int32 → SS → Prop} (hJ : o_J φ) (hy : plainName y.cls = true) (hw : ws = Cond.code y cc nl (some .boolean) :: ws') (hlen : (lg_sl av).length ≤ nl)
    (body : ∀ (p : Program) (e : Env) (s : State) (m : MethodId) (args : Array Value) (below : List Frame) (meth : Method) (c : Code) (Q : State → Prop), o_C (p, l, e, o_rm fr lo, s, m, args, below, meth, c, Q, nl, φ, D, cI, cB, 0, 0) cc y.cls ws fr lo nl → o_RZ (p, l, e, o_rm fr lo, s, m, args, below, meth, c, Q, nl, φ, D, cI, cB, 0, 0) cc post → o_G (p, l, e, o_rm fr lo, s, m, args, below, meth, c, Q, nl, φ, D, cI, cB, 0, 0) σ 0 (lv_args 0 av) []) : o_Mi l φ D cI cB y ws fr lo av σ post := by
  refine Met.ofW (cc := cc) (maxL := nl) (ret := some .boolean) hy hw ?_
  intro p e s m args below meth c s₁ B hml hv
  obtain ⟨rfl, hP, hK⟩ := hv
  have hlocks := B.notSynchronized
  have hl := lv_entry av (n := nl) hlen
  rw [lg_entry_eq]
  exact body p e s m av.toArray below meth c _ ⟨B.exec, B.bytes, hml, findClass_of_methodNamed B.named, atoms_spec (ws := ws) B.pre, hK, hJ, Nat.le_refl _, Nat.le_refl _, Nat.le_refl _, Nat.le_refl _, rfl⟩ (fun v σ' pc lv hd hp H locs ls hP' hS' h' => W.zret (v := v) B.exec B.bytes B.returns (by rcases hp.1 with z | z <;> subst z <;> rfl) (fun t ht hW => ⟨⟨v, σ', rfl, hp.2, by show va_P _ _ _ _; rw [ht]; exact hP'⟩, hS'.F ht⟩) hS'.2.2 hd hlocks) s.heap [] _ hP va_S.rf hl
theorem o_met_l {post : Int64 → SS → Prop} (hJ : o_J φ) (hy : plainName y.cls = true) (hw : ws = Cond.code y cc nl (some .long) :: ws') (hlen : (lg_sl av).length ≤ nl)
    (body : ∀ (p : Program) (e : Env) (s : State) (m : MethodId) (args : Array Value) (below : List Frame) (meth : Method) (c : Code) (Q : State → Prop), o_C (p, l, e, o_rm fr lo, s, m, args, below, meth, c, Q, nl, φ, D, cI, cB, 0, 0) cc y.cls ws fr lo nl → o_RL (p, l, e, o_rm fr lo, s, m, args, below, meth, c, Q, nl, φ, D, cI, cB, 0, 0) cc post → o_G (p, l, e, o_rm fr lo, s, m, args, below, meth, c, Q, nl, φ, D, cI, cB, 0, 0) σ 0 (lv_args 0 av) []) : o_Ml l φ D cI cB y ws fr lo av σ post := by
  refine Met.ofW (cc := cc) (maxL := nl) (ret := some .long) hy hw ?_
  intro p e s m args below meth c s₁ B hml hv
  obtain ⟨rfl, hP, hK⟩ := hv
  have hlocks := B.notSynchronized
  have hl := lv_entry av (n := nl) hlen
  rw [lg_entry_eq]
  exact body p e s m av.toArray below meth c _ ⟨B.exec, B.bytes, hml, findClass_of_methodNamed B.named, atoms_spec (ws := ws) B.pre, hK, hJ, Nat.le_refl _, Nat.le_refl _, Nat.le_refl _, Nat.le_refl _, rfl⟩ (fun v σ' pc lv hd hp H locs ls hP' hS' h' => W.lret (v := v) B.exec B.bytes B.returns (fun t ht hW => ⟨⟨v, σ', rfl, hp, by show va_P _ _ _ _; rw [ht]; exact hP'⟩, hS'.F ht⟩) hS'.2.2 hd hlocks) s.heap [] _ hP va_S.rf hl
theorem o_met_v {post : SS → Prop} (hJ : o_J φ) (hy : plainName y.cls = true) (hw : ws = Cond.code y cc nl none :: ws') (hlen : (lg_sl av).length ≤ nl)
    (body : ∀ (p : Program) (e : Env) (s : State) (m : MethodId) (args : Array Value) (below : List Frame) (meth : Method) (c : Code) (Q : State → Prop), o_C (p, l, e, o_rm fr lo, s, m, args, below, meth, c, Q, nl, φ, D, cI, cB, 0, 0) cc y.cls ws fr lo nl → o_RV (p, l, e, o_rm fr lo, s, m, args, below, meth, c, Q, nl, φ, D, cI, cB, 0, 0) cc post → o_G (p, l, e, o_rm fr lo, s, m, args, below, meth, c, Q, nl, φ, D, cI, cB, 0, 0) σ 0 (lv_args 0 av) []) : o_Mv l φ D cI cB y ws fr lo av σ post := by
  refine Met.ofW (cc := cc) (maxL := nl) (ret := none) hy hw ?_
  intro p e s m args below meth c s₁ B hml hv
  obtain ⟨rfl, hP, hK⟩ := hv
  have hlocks := B.notSynchronized
  have hl := lv_entry av (n := nl) hlen
  rw [lg_entry_eq]
  exact body p e s m av.toArray below meth c _ ⟨B.exec, B.bytes, hml, findClass_of_methodNamed B.named, atoms_spec (ws := ws) B.pre, hK, hJ, Nat.le_refl _, Nat.le_refl _, Nat.le_refl _, Nat.le_refl _, rfl⟩ (fun σ' pc lv hd hp H locs ls hP' hS' h' => W.vret B.exec B.bytes B.returns (fun t ht hW => ⟨⟨σ', rfl, hp, by show va_P _ _ _ _; rw [ht]; exact hP'⟩, hS'.F ht⟩) hS'.2.2 hd hlocks) s.heap [] _ hP va_S.rf hl
theorem o_met_r {post : Nat → SS → Prop} {cn : String} (hJ : o_J φ) (hy : plainName y.cls = true) (hw : ws = Cond.code y cc nl (some (.object cn)) :: ws') (hlen : (lg_sl av).length ≤ nl)
    (body : ∀ (p : Program) (e : Env) (s : State) (m : MethodId) (args : Array Value) (below : List Frame) (meth : Method) (c : Code) (Q : State → Prop), o_C (p, l, e, o_rm fr lo, s, m, args, below, meth, c, Q, nl, φ, D, cI, cB, 0, 0) cc y.cls ws fr lo nl → o_RR (p, l, e, o_rm fr lo, s, m, args, below, meth, c, Q, nl, φ, D, cI, cB, 0, 0) cc post → o_G (p, l, e, o_rm fr lo, s, m, args, below, meth, c, Q, nl, φ, D, cI, cB, 0, 0) σ 0 (lv_args 0 av) []) : o_Mr l φ D cI cB y ws fr lo av σ post := by
  refine Met.ofW (cc := cc) (maxL := nl) (ret := some (.object cn)) hy hw ?_
  intro p e s m args below meth c s₁ B hml hv
  obtain ⟨rfl, hP, hK⟩ := hv
  have hlocks := B.notSynchronized
  have hl := lv_entry av (n := nl) hlen
  rw [lg_entry_eq]
  exact body p e s m av.toArray below meth c _ ⟨B.exec, B.bytes, hml, findClass_of_methodNamed B.named, atoms_spec (ws := ws) B.pre, hK, hJ, Nat.le_refl _, Nat.le_refl _, Nat.le_refl _, Nat.le_refl _, rfl⟩ (fun j σ' pc lv hd hj hp H locs ls hP' hS' h' => W.aret (v := .ref (φ (6, 0, j))) B.exec B.bytes B.returns (Or.inl ⟨_, rfl⟩) (Or.inr ⟨_, rfl⟩) (fun t ht hW => ⟨⟨(j, σ'), _, rfl, ⟨hj, hp⟩, rfl, by show va_P _ _ _ _; rw [ht]; exact hP'⟩, hS'.F ht⟩) hS'.2.2 hd hlocks) s.heap [] _ hP va_S.rf hl
end OMet
/-! LOOPS: F K a sg: what one turn asks of the loop's numbers a and the state; K: the next turn -/
def o_lp {A : Type} (F : (A → SS → Prop) → A → SS → Prop) : Nat → A → SS → Prop
  | 0 => fun _ _ => False
  | n + 1 => F (o_lp F n)
theorem o_lp_G {A : Type} {F : (A → SS → Prop) → A → SS → Prop} {G : A → SS → Prop} (h : ∀ (K : A → SS → Prop), (∀ a σ, K a σ → G a σ) → ∀ a σ, F K a σ → G a σ) : ∀ (n : Nat) (a : A) (σ : SS), o_lp F n a σ → G a σ
  | 0, _, _, z => z.elim
  | n + 1, a, σ, z => h (o_lp F n) (o_lp_G h n) a σ z
theorem o_lp_j {A : Type} {P : A → Prop} {F : (A → SS → Prop) → A → SS → Prop} {G : A → SS → Prop} (h : ∀ (K : A → SS → Prop), (∀ a σ, P a → K a σ → G a σ) → ∀ a σ, P a → F K a σ → G a σ) : ∀ (n : Nat) (a : A) (σ : SS), P a → o_lp F n a σ → G a σ
  | 0, _, _, _, z => z.elim
  | n + 1, a, σ, hp, z => h (o_lp F n) (o_lp_j h n) a σ hp z
/-- a loop ends, if each turn goes on with less -/
theorem o_lp_m {A : Type} {F : (A → SS → Prop) → A → SS → Prop} (I : A → SS → Prop) (μ : A → SS → Nat) (hs : ∀ (K : A → SS → Prop) (a : A) (σ : SS), I a σ → (∀ a' σ', I a' σ' → μ a' σ' < μ a σ → K a' σ') → F K a σ) {a : A} {σ : SS} (h : I a σ) : ∃ n, o_lp F n a σ := by
  have key : ∀ (n : Nat) (a : A) (σ : SS), I a σ → μ a σ < n → o_lp F n a σ := by
    intro n
    induction n with
    | zero => intro a σ _ hl; exact absurd hl (Nat.not_lt_zero _)
    | succ n ih => intro a σ hI hl; exact hs _ a σ hI (fun a' σ' h1 h2 => ih a' σ' h1 (by omega))
  exact ⟨_, key _ a σ h (Nat.lt_succ_self _)⟩
