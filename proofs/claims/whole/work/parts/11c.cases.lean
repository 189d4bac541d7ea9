/-! THE LAW: the script's rows -/
def o_Sc (X : OX) (b L : Nat) (xs : Nat → Int32) : Prop := match X with
  | (p, l, e, R, s, m, args, below, meth, c, Q, nL, φ, D, cI, cB, kc, ks) => va_X b L xs s s.heap ∧ b < s.heap.size ∧ ¬ o_A φ b
section LawRows
variable {X : OX} {cc : ByteArray} {own : String} {Ts : List Cond} {fr lo nl b L : Nat} {xs : Nat → Int32} {σ : SS} {pc : Nat} {lv : List (Nat × Value)} {rest : List Value}
theorem g_sld (hC : o_C X cc own Ts fr lo nl) (hs : o_Sc X b L xs) {x : Int32} (hin : vp_in x L) (hdg : decode cc pc = .ok (.iaload, 1)) (kk : o_G X σ (pc + 1) lv (.int (xs x.toNatClampNeg) :: rest)) : o_G X σ pc lv (.int x :: .ref b :: rest) := by
  obtain ⟨p, l, e, R, s, m, args, below, meth, c, Q, nL, φ, D, cI, cB, kc, ks⟩ := X
  exact fun H locs ls hP hS h => va_sld hC.1 hC.2.1 hs.1 hs.2.1 hs.2.2 hS hin hdg (kk H locs ls hP hS h)
theorem g_slen (hC : o_C X cc own Ts fr lo nl) (hs : o_Sc X b L xs) (hdg : decode cc pc = .ok (.arraylength, 1)) (kk : o_G X σ (pc + 1) lv (.int (nI L) :: rest)) : o_G X σ pc lv (.ref b :: rest) := by
  obtain ⟨p, l, e, R, s, m, args, below, meth, c, Q, nL, φ, D, cI, cB, kc, ks⟩ := X
  exact fun H locs ls hP hS h => va_slen hC.1 hC.2.1 hs.1 hs.2.1 hs.2.2 hS hdg (kk H locs ls hP hS h)
end LawRows
abbrev lwC (X : OX) : Prop := o_C X cL_law RL lw_tbl 9 338 4
abbrev lwV (X : OX) (b : Nat) (x : Int32) : List (Nat × Value) := [(0, .ref b), (1, .ref (ox_φ X (0, 0, 0))), (2, .ref (ox_φ X (7, 0, 0))), (3, .int x)]
set_option maxHeartbeats 4000000 in
set_option maxRecDepth 100000 in
theorem lc_letter {X : OX} {b L : Nat} {xs : Nat → Int32} {σ : SS} {x : Int32} (hC : lwC X) (hs : o_Sc X b L xs) (h1 : vp_in (x + 1) L) (h : V_X9_letter (xs (x + 1).toNatClampNeg) σ (fun v s => V_X10_letter (xs (x + 1).toNatClampNeg) s (fun v' s' => (v = v' → o_G X s' 809 (lwV X b x) []) ∧ (¬ v = v' → o_G X s' 165 (lwV X b x) [])))) : o_G X σ 144 (lwV X b x) [] := by
  refine g_aload_n hC 1 dL_law_144 rfl rfl ?_
  refine g_aload_n hC 0 dL_law_145 rfl rfl ?_
  refine g_iload_n hC 3 dL_law_146 rfl rfl ?_
  refine g_iconst (v := 1) hC dL_law_147 (by decide) ?_
  refine g_iadd hC dL_law_148 ?_
  refine g_sld hC hs h1 dL_law_149 ?_
  refine g_ri (r_V (C := RX9) (T := TX9) (N := 9) (As := [.int (xs (x + 1).toNatClampNeg)]) (rest := []) hC o_iX9 (o_eX9 _ _ _ _) rfl (c_X9_letter (l := ox_l X) (φ := ox_φ X) (D := ox_D X) (cI := ox_I X) (cB := ox_B X) hC.J h) gl_X9_letter rfl hd_X9_letter ⟨Nat.le_of_ble_eq_true rfl, Nat.le_of_ble_eq_true rfl⟩ rfl rfl (Nat.le_of_ble_eq_true rfl) dL_law_150) (fun v s h => ?_)
  refine g_aload_n hC 2 dL_law_153 rfl rfl ?_
  refine g_aload_n hC 0 dL_law_154 rfl rfl ?_
  refine g_iload_n hC 3 dL_law_155 rfl rfl ?_
  refine g_iconst (v := 1) hC dL_law_156 (by decide) ?_
  refine g_iadd hC dL_law_157 ?_
  refine g_sld hC hs h1 dL_law_158 ?_
  refine g_ri (r_V (C := RX10) (T := TX10) (N := 25) (As := [.int (xs (x + 1).toNatClampNeg)]) (rest := [.int v]) hC o_iX10 (o_eX10 _ _ _ _) rfl (c_X10_letter (l := ox_l X) (φ := ox_φ X) (D := ox_D X) (cI := ox_I X) (cB := ox_B X) hC.J h) gl_X10_letter rfl hd_X10_letter ⟨Nat.le_of_ble_eq_true rfl, Nat.le_of_ble_eq_true rfl⟩ rfl rfl (Nat.le_of_ble_eq_true rfl) dL_law_159) (fun v' s' h => ?_)
  exact g_icmp_eq hC 809 dL_law_162 (by decide) (fun z => h.1 z) (fun z => h.2 z)
set_option maxHeartbeats 4000000 in
set_option maxRecDepth 100000 in
theorem lc_blank {X : OX} {b L : Nat} {xs : Nat → Int32} {σ : SS} {x : Int32} (hC : lwC X) (hs : o_Sc X b L xs) (h : V_X9_blank σ (fun v s => V_X10_blank s (fun v' s' => (v = v' → o_G X s' 809 (lwV X b x) []) ∧ (¬ v = v' → o_G X s' 178 (lwV X b x) [])))) : o_G X σ 167 (lwV X b x) [] := by
  refine g_aload_n hC 1 dL_law_167 rfl rfl ?_
  refine g_ri (r_V (C := RX9) (T := TX9) (N := 9) (As := []) (rest := []) hC o_iX9 (o_eX9 _ _ _ _) rfl (c_X9_blank (l := ox_l X) (φ := ox_φ X) (D := ox_D X) (cI := ox_I X) (cB := ox_B X) hC.J h) gl_X9_blank rfl hd_X9_blank ⟨Nat.le_of_ble_eq_true rfl, Nat.le_of_ble_eq_true rfl⟩ rfl rfl (Nat.le_of_ble_eq_true rfl) dL_law_168) (fun v s h => ?_)
  refine g_aload_n hC 2 dL_law_171 rfl rfl ?_
  refine g_ri (r_V (C := RX10) (T := TX10) (N := 25) (As := []) (rest := [.int v]) hC o_iX10 (o_eX10 _ _ _ _) rfl (c_X10_blank (l := ox_l X) (φ := ox_φ X) (D := ox_D X) (cI := ox_I X) (cB := ox_B X) hC.J h) gl_X10_blank rfl hd_X10_blank ⟨Nat.le_of_ble_eq_true rfl, Nat.le_of_ble_eq_true rfl⟩ rfl rfl (Nat.le_of_ble_eq_true rfl) dL_law_172) (fun v' s' h => ?_)
  exact g_icmp_eq hC 809 dL_law_175 (by decide) (fun z => h.1 z) (fun z => h.2 z)
set_option maxHeartbeats 4000000 in
set_option maxRecDepth 100000 in
theorem lc_fault {X : OX} {b L : Nat} {xs : Nat → Int32} {σ : SS} {x : Int32} (hC : lwC X) (hs : o_Sc X b L xs) (h : V_X9_fault σ (fun v s => V_X10_fault s (fun v' s' => (v = v' → o_G X s' 809 (lwV X b x) []) ∧ (¬ v = v' → o_G X s' 191 (lwV X b x) [])))) : o_G X σ 180 (lwV X b x) [] := by
  refine g_aload_n hC 1 dL_law_180 rfl rfl ?_
  refine g_ri (r_V (C := RX9) (T := TX9) (N := 9) (As := []) (rest := []) hC o_iX9 (o_eX9 _ _ _ _) rfl (c_X9_fault (l := ox_l X) (φ := ox_φ X) (D := ox_D X) (cI := ox_I X) (cB := ox_B X) hC.J h) gl_X9_fault rfl hd_X9_fault ⟨Nat.le_of_ble_eq_true rfl, Nat.le_of_ble_eq_true rfl⟩ rfl rfl (Nat.le_of_ble_eq_true rfl) dL_law_181) (fun v s h => ?_)
  refine g_aload_n hC 2 dL_law_184 rfl rfl ?_
  refine g_ri (r_V (C := RX10) (T := TX10) (N := 25) (As := []) (rest := [.int v]) hC o_iX10 (o_eX10 _ _ _ _) rfl (c_X10_fault (l := ox_l X) (φ := ox_φ X) (D := ox_D X) (cI := ox_I X) (cB := ox_B X) hC.J h) gl_X10_fault rfl hd_X10_fault ⟨Nat.le_of_ble_eq_true rfl, Nat.le_of_ble_eq_true rfl⟩ rfl rfl (Nat.le_of_ble_eq_true rfl) dL_law_185) (fun v' s' h => ?_)
  exact g_icmp_eq hC 809 dL_law_188 (by decide) (fun z => h.1 z) (fun z => h.2 z)
set_option maxHeartbeats 4000000 in
set_option maxRecDepth 100000 in
theorem lc_school {X : OX} {b L : Nat} {xs : Nat → Int32} {σ : SS} {x : Int32} (hC : lwC X) (hs : o_Sc X b L xs) (h : V_X9_school σ (fun v s => V_X10_school s (fun v' s' => (v = v' → o_G X s' 809 (lwV X b x) []) ∧ (¬ v = v' → o_G X s' 204 (lwV X b x) [])))) : o_G X σ 193 (lwV X b x) [] := by
  refine g_aload_n hC 1 dL_law_193 rfl rfl ?_
  refine g_ri (r_V (C := RX9) (T := TX9) (N := 9) (As := []) (rest := []) hC o_iX9 (o_eX9 _ _ _ _) rfl (c_X9_school (l := ox_l X) (φ := ox_φ X) (D := ox_D X) (cI := ox_I X) (cB := ox_B X) hC.J h) gl_X9_school rfl hd_X9_school ⟨Nat.le_of_ble_eq_true rfl, Nat.le_of_ble_eq_true rfl⟩ rfl rfl (Nat.le_of_ble_eq_true rfl) dL_law_194) (fun v s h => ?_)
  refine g_aload_n hC 2 dL_law_197 rfl rfl ?_
  refine g_ri (r_V (C := RX10) (T := TX10) (N := 25) (As := []) (rest := [.int v]) hC o_iX10 (o_eX10 _ _ _ _) rfl (c_X10_school (l := ox_l X) (φ := ox_φ X) (D := ox_D X) (cI := ox_I X) (cB := ox_B X) hC.J h) gl_X10_school rfl hd_X10_school ⟨Nat.le_of_ble_eq_true rfl, Nat.le_of_ble_eq_true rfl⟩ rfl rfl (Nat.le_of_ble_eq_true rfl) dL_law_198) (fun v' s' h => ?_)
  exact g_icmp_eq hC 809 dL_law_201 (by decide) (fun z => h.1 z) (fun z => h.2 z)
set_option maxHeartbeats 4000000 in
set_option maxRecDepth 100000 in
theorem lc_about {X : OX} {b L : Nat} {xs : Nat → Int32} {σ : SS} {x : Int32} (hC : lwC X) (hs : o_Sc X b L xs) (h1 : vp_in (x + 1) L) (h2 : vp_in (x + 2) L) (h : V_X9_about (xs (x + 1).toNatClampNeg) (xs (x + 2).toNatClampNeg) σ (fun v s => V_X10_about (xs (x + 1).toNatClampNeg) (xs (x + 2).toNatClampNeg) s (fun v' s' => (v = v' → o_G X s' 809 (lwV X b x) []) ∧ (¬ v = v' → o_G X s' 237 (lwV X b x) [])))) : o_G X σ 206 (lwV X b x) [] := by
  refine g_aload_n hC 1 dL_law_206 rfl rfl ?_
  refine g_aload_n hC 0 dL_law_207 rfl rfl ?_
  refine g_iload_n hC 3 dL_law_208 rfl rfl ?_
  refine g_iconst (v := 1) hC dL_law_209 (by decide) ?_
  refine g_iadd hC dL_law_210 ?_
  refine g_sld hC hs h1 dL_law_211 ?_
  refine g_aload_n hC 0 dL_law_212 rfl rfl ?_
  refine g_iload_n hC 3 dL_law_213 rfl rfl ?_
  refine g_iconst (v := 2) hC dL_law_214 (by decide) ?_
  refine g_iadd hC dL_law_215 ?_
  refine g_sld hC hs h2 dL_law_216 ?_
  refine g_ri (r_V (C := RX9) (T := TX9) (N := 9) (As := [.int (xs (x + 1).toNatClampNeg), .int (xs (x + 2).toNatClampNeg)]) (rest := []) hC o_iX9 (o_eX9 _ _ _ _) rfl (c_X9_about (l := ox_l X) (φ := ox_φ X) (D := ox_D X) (cI := ox_I X) (cB := ox_B X) hC.J h) gl_X9_about rfl hd_X9_about ⟨Nat.le_of_ble_eq_true rfl, Nat.le_of_ble_eq_true rfl⟩ rfl rfl (Nat.le_of_ble_eq_true rfl) dL_law_217) (fun v s h => ?_)
  refine g_aload_n hC 2 dL_law_220 rfl rfl ?_
  refine g_aload_n hC 0 dL_law_221 rfl rfl ?_
  refine g_iload_n hC 3 dL_law_222 rfl rfl ?_
  refine g_iconst (v := 1) hC dL_law_223 (by decide) ?_
  refine g_iadd hC dL_law_224 ?_
  refine g_sld hC hs h1 dL_law_225 ?_
  refine g_aload_n hC 0 dL_law_226 rfl rfl ?_
  refine g_iload_n hC 3 dL_law_227 rfl rfl ?_
  refine g_iconst (v := 2) hC dL_law_228 (by decide) ?_
  refine g_iadd hC dL_law_229 ?_
  refine g_sld hC hs h2 dL_law_230 ?_
  refine g_ri (r_V (C := RX10) (T := TX10) (N := 25) (As := [.int (xs (x + 1).toNatClampNeg), .int (xs (x + 2).toNatClampNeg)]) (rest := [.int v]) hC o_iX10 (o_eX10 _ _ _ _) rfl (c_X10_about (l := ox_l X) (φ := ox_φ X) (D := ox_D X) (cI := ox_I X) (cB := ox_B X) hC.J h) gl_X10_about rfl hd_X10_about ⟨Nat.le_of_ble_eq_true rfl, Nat.le_of_ble_eq_true rfl⟩ rfl rfl (Nat.le_of_ble_eq_true rfl) dL_law_231) (fun v' s' h => ?_)
  exact g_icmp_eq hC 809 dL_law_234 (by decide) (fun z => h.1 z) (fun z => h.2 z)
set_option maxHeartbeats 4000000 in
set_option maxRecDepth 100000 in
theorem lc_as {X : OX} {b L : Nat} {xs : Nat → Int32} {σ : SS} {x : Int32} (hC : lwC X) (hs : o_Sc X b L xs) (h1 : vp_in (x + 1) L) (h2 : vp_in (x + 2) L) (h : V_X9_as (xs (x + 1).toNatClampNeg) (xs (x + 2).toNatClampNeg) σ (fun v s => V_X10_as (xs (x + 1).toNatClampNeg) (xs (x + 2).toNatClampNeg) s (fun v' s' => (v = v' → o_G X s' 809 (lwV X b x) []) ∧ (¬ v = v' → o_G X s' 270 (lwV X b x) [])))) : o_G X σ 239 (lwV X b x) [] := by
  refine g_aload_n hC 1 dL_law_239 rfl rfl ?_
  refine g_aload_n hC 0 dL_law_240 rfl rfl ?_
  refine g_iload_n hC 3 dL_law_241 rfl rfl ?_
  refine g_iconst (v := 1) hC dL_law_242 (by decide) ?_
  refine g_iadd hC dL_law_243 ?_
  refine g_sld hC hs h1 dL_law_244 ?_
  refine g_aload_n hC 0 dL_law_245 rfl rfl ?_
  refine g_iload_n hC 3 dL_law_246 rfl rfl ?_
  refine g_iconst (v := 2) hC dL_law_247 (by decide) ?_
  refine g_iadd hC dL_law_248 ?_
  refine g_sld hC hs h2 dL_law_249 ?_
  refine g_ri (r_V (C := RX9) (T := TX9) (N := 9) (As := [.int (xs (x + 1).toNatClampNeg), .int (xs (x + 2).toNatClampNeg)]) (rest := []) hC o_iX9 (o_eX9 _ _ _ _) rfl (c_X9_as (l := ox_l X) (φ := ox_φ X) (D := ox_D X) (cI := ox_I X) (cB := ox_B X) hC.J h) gl_X9_as rfl hd_X9_as ⟨Nat.le_of_ble_eq_true rfl, Nat.le_of_ble_eq_true rfl⟩ rfl rfl (Nat.le_of_ble_eq_true rfl) dL_law_250) (fun v s h => ?_)
  refine g_aload_n hC 2 dL_law_253 rfl rfl ?_
  refine g_aload_n hC 0 dL_law_254 rfl rfl ?_
  refine g_iload_n hC 3 dL_law_255 rfl rfl ?_
  refine g_iconst (v := 1) hC dL_law_256 (by decide) ?_
  refine g_iadd hC dL_law_257 ?_
  refine g_sld hC hs h1 dL_law_258 ?_
  refine g_aload_n hC 0 dL_law_259 rfl rfl ?_
  refine g_iload_n hC 3 dL_law_260 rfl rfl ?_
  refine g_iconst (v := 2) hC dL_law_261 (by decide) ?_
  refine g_iadd hC dL_law_262 ?_
  refine g_sld hC hs h2 dL_law_263 ?_
  refine g_ri (r_V (C := RX10) (T := TX10) (N := 25) (As := [.int (xs (x + 1).toNatClampNeg), .int (xs (x + 2).toNatClampNeg)]) (rest := [.int v]) hC o_iX10 (o_eX10 _ _ _ _) rfl (c_X10_as (l := ox_l X) (φ := ox_φ X) (D := ox_D X) (cI := ox_I X) (cB := ox_B X) hC.J h) gl_X10_as rfl hd_X10_as ⟨Nat.le_of_ble_eq_true rfl, Nat.le_of_ble_eq_true rfl⟩ rfl rfl (Nat.le_of_ble_eq_true rfl) dL_law_264) (fun v' s' h => ?_)
  exact g_icmp_eq hC 809 dL_law_267 (by decide) (fun z => h.1 z) (fun z => h.2 z)
set_option maxHeartbeats 4000000 in
set_option maxRecDepth 100000 in
theorem lc_seat {X : OX} {b L : Nat} {xs : Nat → Int32} {σ : SS} {x : Int32} (hC : lwC X) (hs : o_Sc X b L xs) (h1 : vp_in (x + 1) L) (h : V_X9_seat (xs (x + 1).toNatClampNeg) σ (fun v s => V_X10_seat (xs (x + 1).toNatClampNeg) s (fun v' s' => (v = v' → o_G X s' 809 (lwV X b x) []) ∧ (¬ v = v' → o_G X s' 293 (lwV X b x) [])))) : o_G X σ 272 (lwV X b x) [] := by
  refine g_aload_n hC 1 dL_law_272 rfl rfl ?_
  refine g_aload_n hC 0 dL_law_273 rfl rfl ?_
  refine g_iload_n hC 3 dL_law_274 rfl rfl ?_
  refine g_iconst (v := 1) hC dL_law_275 (by decide) ?_
  refine g_iadd hC dL_law_276 ?_
  refine g_sld hC hs h1 dL_law_277 ?_
  refine g_ri (r_V (C := RX9) (T := TX9) (N := 9) (As := [.int (xs (x + 1).toNatClampNeg)]) (rest := []) hC o_iX9 (o_eX9 _ _ _ _) rfl (c_X9_seat (l := ox_l X) (φ := ox_φ X) (D := ox_D X) (cI := ox_I X) (cB := ox_B X) hC.J h) gl_X9_seat rfl hd_X9_seat ⟨Nat.le_of_ble_eq_true rfl, Nat.le_of_ble_eq_true rfl⟩ rfl rfl (Nat.le_of_ble_eq_true rfl) dL_law_278) (fun v s h => ?_)
  refine g_aload_n hC 2 dL_law_281 rfl rfl ?_
  refine g_aload_n hC 0 dL_law_282 rfl rfl ?_
  refine g_iload_n hC 3 dL_law_283 rfl rfl ?_
  refine g_iconst (v := 1) hC dL_law_284 (by decide) ?_
  refine g_iadd hC dL_law_285 ?_
  refine g_sld hC hs h1 dL_law_286 ?_
  refine g_ri (r_V (C := RX10) (T := TX10) (N := 25) (As := [.int (xs (x + 1).toNatClampNeg)]) (rest := [.int v]) hC o_iX10 (o_eX10 _ _ _ _) rfl (c_X10_seat (l := ox_l X) (φ := ox_φ X) (D := ox_D X) (cI := ox_I X) (cB := ox_B X) hC.J h) gl_X10_seat rfl hd_X10_seat ⟨Nat.le_of_ble_eq_true rfl, Nat.le_of_ble_eq_true rfl⟩ rfl rfl (Nat.le_of_ble_eq_true rfl) dL_law_287) (fun v' s' h => ?_)
  exact g_icmp_eq hC 809 dL_law_290 (by decide) (fun z => h.1 z) (fun z => h.2 z)
set_option maxHeartbeats 4000000 in
set_option maxRecDepth 100000 in
theorem lc_swap {X : OX} {b L : Nat} {xs : Nat → Int32} {σ : SS} {x : Int32} (hC : lwC X) (hs : o_Sc X b L xs) (h1 : vp_in (x + 1) L) (h2 : vp_in (x + 2) L) (h : V_X9_swap (xs (x + 1).toNatClampNeg) (xs (x + 2).toNatClampNeg) σ (fun v s => V_X10_swap (xs (x + 1).toNatClampNeg) (xs (x + 2).toNatClampNeg) s (fun v' s' => (v = v' → o_G X s' 809 (lwV X b x) []) ∧ (¬ v = v' → o_G X s' 326 (lwV X b x) [])))) : o_G X σ 295 (lwV X b x) [] := by
  refine g_aload_n hC 1 dL_law_295 rfl rfl ?_
  refine g_aload_n hC 0 dL_law_296 rfl rfl ?_
  refine g_iload_n hC 3 dL_law_297 rfl rfl ?_
  refine g_iconst (v := 1) hC dL_law_298 (by decide) ?_
  refine g_iadd hC dL_law_299 ?_
  refine g_sld hC hs h1 dL_law_300 ?_
  refine g_aload_n hC 0 dL_law_301 rfl rfl ?_
  refine g_iload_n hC 3 dL_law_302 rfl rfl ?_
  refine g_iconst (v := 2) hC dL_law_303 (by decide) ?_
  refine g_iadd hC dL_law_304 ?_
  refine g_sld hC hs h2 dL_law_305 ?_
  refine g_ri (r_V (C := RX9) (T := TX9) (N := 9) (As := [.int (xs (x + 1).toNatClampNeg), .int (xs (x + 2).toNatClampNeg)]) (rest := []) hC o_iX9 (o_eX9 _ _ _ _) rfl (c_X9_swap (l := ox_l X) (φ := ox_φ X) (D := ox_D X) (cI := ox_I X) (cB := ox_B X) hC.J h) gl_X9_swap rfl hd_X9_swap ⟨Nat.le_of_ble_eq_true rfl, Nat.le_of_ble_eq_true rfl⟩ rfl rfl (Nat.le_of_ble_eq_true rfl) dL_law_306) (fun v s h => ?_)
  refine g_aload_n hC 2 dL_law_309 rfl rfl ?_
  refine g_aload_n hC 0 dL_law_310 rfl rfl ?_
  refine g_iload_n hC 3 dL_law_311 rfl rfl ?_
  refine g_iconst (v := 1) hC dL_law_312 (by decide) ?_
  refine g_iadd hC dL_law_313 ?_
  refine g_sld hC hs h1 dL_law_314 ?_
  refine g_aload_n hC 0 dL_law_315 rfl rfl ?_
  refine g_iload_n hC 3 dL_law_316 rfl rfl ?_
  refine g_iconst (v := 2) hC dL_law_317 (by decide) ?_
  refine g_iadd hC dL_law_318 ?_
  refine g_sld hC hs h2 dL_law_319 ?_
  refine g_ri (r_V (C := RX10) (T := TX10) (N := 25) (As := [.int (xs (x + 1).toNatClampNeg), .int (xs (x + 2).toNatClampNeg)]) (rest := [.int v]) hC o_iX10 (o_eX10 _ _ _ _) rfl (c_X10_swap (l := ox_l X) (φ := ox_φ X) (D := ox_D X) (cI := ox_I X) (cB := ox_B X) hC.J h) gl_X10_swap rfl hd_X10_swap ⟨Nat.le_of_ble_eq_true rfl, Nat.le_of_ble_eq_true rfl⟩ rfl rfl (Nat.le_of_ble_eq_true rfl) dL_law_320) (fun v' s' h => ?_)
  exact g_icmp_eq hC 809 dL_law_323 (by decide) (fun z => h.1 z) (fun z => h.2 z)
set_option maxHeartbeats 4000000 in
set_option maxRecDepth 100000 in
theorem lc_ill_0 {X : OX} {b L : Nat} {xs : Nat → Int32} {σ : SS} {x : Int32} (hC : lwC X) (hs : o_Sc X b L xs) (h1 : vp_in (x + 1) L) (h2 : vp_in (x + 2) L) (z : xs (x + 2).toNatClampNeg = 0) (h : V_X9_ill (xs (x + 1).toNatClampNeg) 0 σ (fun v s => V_X10_ill (xs (x + 1).toNatClampNeg) 0 s (fun v' s' => (v = v' → o_G X s' 809 (lwV X b x) []) ∧ (¬ v = v' → o_G X s' 375 (lwV X b x) [])))) : o_G X σ 328 (lwV X b x) [] := by
  refine g_aload_n hC 1 dL_law_328 rfl rfl ?_
  refine g_aload_n hC 0 dL_law_329 rfl rfl ?_
  refine g_iload_n hC 3 dL_law_330 rfl rfl ?_
  refine g_iconst (v := 1) hC dL_law_331 (by decide) ?_
  refine g_iadd hC dL_law_332 ?_
  refine g_sld hC hs h1 dL_law_333 ?_
  refine g_aload_n hC 0 dL_law_334 rfl rfl ?_
  refine g_iload_n hC 3 dL_law_335 rfl rfl ?_
  refine g_iconst (v := 2) hC dL_law_336 (by decide) ?_
  refine g_iadd hC dL_law_337 ?_
  refine g_sld hC hs h2 dL_law_338 ?_
  refine g_if_eq hC 346 dL_law_339 (by decide) (fun _ => ?_) (fun z' => absurd z z')
  refine g_iconst (v := 0) hC dL_law_346 (by decide) ?_
  refine g_ri (r_V (C := RX9) (T := TX9) (N := 9) (As := [.int (xs (x + 1).toNatClampNeg), .int 0]) (rest := []) hC o_iX9 (o_eX9 _ _ _ _) rfl (c_X9_ill (l := ox_l X) (φ := ox_φ X) (D := ox_D X) (cI := ox_I X) (cB := ox_B X) hC.J h) gl_X9_ill rfl hd_X9_ill ⟨Nat.le_of_ble_eq_true rfl, Nat.le_of_ble_eq_true rfl⟩ rfl rfl (Nat.le_of_ble_eq_true rfl) dL_law_347) (fun v s h => ?_)
  refine g_aload_n hC 2 dL_law_350 rfl rfl ?_
  refine g_aload_n hC 0 dL_law_351 rfl rfl ?_
  refine g_iload_n hC 3 dL_law_352 rfl rfl ?_
  refine g_iconst (v := 1) hC dL_law_353 (by decide) ?_
  refine g_iadd hC dL_law_354 ?_
  refine g_sld hC hs h1 dL_law_355 ?_
  refine g_aload_n hC 0 dL_law_356 rfl rfl ?_
  refine g_iload_n hC 3 dL_law_357 rfl rfl ?_
  refine g_iconst (v := 2) hC dL_law_358 (by decide) ?_
  refine g_iadd hC dL_law_359 ?_
  refine g_sld hC hs h2 dL_law_360 ?_
  refine g_if_eq hC 368 dL_law_361 (by decide) (fun _ => ?_) (fun z' => absurd z z')
  refine g_iconst (v := 0) hC dL_law_368 (by decide) ?_
  refine g_ri (r_V (C := RX10) (T := TX10) (N := 25) (As := [.int (xs (x + 1).toNatClampNeg), .int 0]) (rest := [.int v]) hC o_iX10 (o_eX10 _ _ _ _) rfl (c_X10_ill (l := ox_l X) (φ := ox_φ X) (D := ox_D X) (cI := ox_I X) (cB := ox_B X) hC.J h) gl_X10_ill rfl hd_X10_ill ⟨Nat.le_of_ble_eq_true rfl, Nat.le_of_ble_eq_true rfl⟩ rfl rfl (Nat.le_of_ble_eq_true rfl) dL_law_369) (fun v' s' h => ?_)
  exact g_icmp_eq hC 809 dL_law_372 (by decide) (fun z => h.1 z) (fun z => h.2 z)
set_option maxHeartbeats 4000000 in
set_option maxRecDepth 100000 in
theorem lc_ill_1 {X : OX} {b L : Nat} {xs : Nat → Int32} {σ : SS} {x : Int32} (hC : lwC X) (hs : o_Sc X b L xs) (h1 : vp_in (x + 1) L) (h2 : vp_in (x + 2) L) (z : ¬ xs (x + 2).toNatClampNeg = 0) (h : V_X9_ill (xs (x + 1).toNatClampNeg) 1 σ (fun v s => V_X10_ill (xs (x + 1).toNatClampNeg) 1 s (fun v' s' => (v = v' → o_G X s' 809 (lwV X b x) []) ∧ (¬ v = v' → o_G X s' 375 (lwV X b x) [])))) : o_G X σ 328 (lwV X b x) [] := by
  refine g_aload_n hC 1 dL_law_328 rfl rfl ?_
  refine g_aload_n hC 0 dL_law_329 rfl rfl ?_
  refine g_iload_n hC 3 dL_law_330 rfl rfl ?_
  refine g_iconst (v := 1) hC dL_law_331 (by decide) ?_
  refine g_iadd hC dL_law_332 ?_
  refine g_sld hC hs h1 dL_law_333 ?_
  refine g_aload_n hC 0 dL_law_334 rfl rfl ?_
  refine g_iload_n hC 3 dL_law_335 rfl rfl ?_
  refine g_iconst (v := 2) hC dL_law_336 (by decide) ?_
  refine g_iadd hC dL_law_337 ?_
  refine g_sld hC hs h2 dL_law_338 ?_
  refine g_if_eq hC 346 dL_law_339 (by decide) (fun z' => absurd z' z) (fun _ => ?_)
  refine g_iconst (v := 1) hC dL_law_342 (by decide) ?_
  refine g_goto hC 347 dL_law_343 (by decide) ?_
  refine g_ri (r_V (C := RX9) (T := TX9) (N := 9) (As := [.int (xs (x + 1).toNatClampNeg), .int 1]) (rest := []) hC o_iX9 (o_eX9 _ _ _ _) rfl (c_X9_ill (l := ox_l X) (φ := ox_φ X) (D := ox_D X) (cI := ox_I X) (cB := ox_B X) hC.J h) gl_X9_ill rfl hd_X9_ill ⟨Nat.le_of_ble_eq_true rfl, Nat.le_of_ble_eq_true rfl⟩ rfl rfl (Nat.le_of_ble_eq_true rfl) dL_law_347) (fun v s h => ?_)
  refine g_aload_n hC 2 dL_law_350 rfl rfl ?_
  refine g_aload_n hC 0 dL_law_351 rfl rfl ?_
  refine g_iload_n hC 3 dL_law_352 rfl rfl ?_
  refine g_iconst (v := 1) hC dL_law_353 (by decide) ?_
  refine g_iadd hC dL_law_354 ?_
  refine g_sld hC hs h1 dL_law_355 ?_
  refine g_aload_n hC 0 dL_law_356 rfl rfl ?_
  refine g_iload_n hC 3 dL_law_357 rfl rfl ?_
  refine g_iconst (v := 2) hC dL_law_358 (by decide) ?_
  refine g_iadd hC dL_law_359 ?_
  refine g_sld hC hs h2 dL_law_360 ?_
  refine g_if_eq hC 368 dL_law_361 (by decide) (fun z' => absurd z' z) (fun _ => ?_)
  refine g_iconst (v := 1) hC dL_law_364 (by decide) ?_
  refine g_goto hC 369 dL_law_365 (by decide) ?_
  refine g_ri (r_V (C := RX10) (T := TX10) (N := 25) (As := [.int (xs (x + 1).toNatClampNeg), .int 1]) (rest := [.int v]) hC o_iX10 (o_eX10 _ _ _ _) rfl (c_X10_ill (l := ox_l X) (φ := ox_φ X) (D := ox_D X) (cI := ox_I X) (cB := ox_B X) hC.J h) gl_X10_ill rfl hd_X10_ill ⟨Nat.le_of_ble_eq_true rfl, Nat.le_of_ble_eq_true rfl⟩ rfl rfl (Nat.le_of_ble_eq_true rfl) dL_law_369) (fun v' s' h => ?_)
  exact g_icmp_eq hC 809 dL_law_372 (by decide) (fun z => h.1 z) (fun z => h.2 z)
set_option maxHeartbeats 4000000 in
set_option maxRecDepth 100000 in
theorem lc_knows {X : OX} {b L : Nat} {xs : Nat → Int32} {σ : SS} {x : Int32} (hC : lwC X) (hs : o_Sc X b L xs) (h1 : vp_in (x + 1) L) (h2 : vp_in (x + 2) L) (h3 : vp_in (x + 3) L) (h : V_X9_knows (xs (x + 1).toNatClampNeg) (xs (x + 2).toNatClampNeg) (xs (x + 3).toNatClampNeg) σ (fun v s => V_X10_knows (xs (x + 1).toNatClampNeg) (xs (x + 2).toNatClampNeg) (xs (x + 3).toNatClampNeg) s (fun v' s' => (v = v' → o_G X s' 809 (lwV X b x) []) ∧ (¬ v = v' → o_G X s' 418 (lwV X b x) [])))) : o_G X σ 377 (lwV X b x) [] := by
  refine g_aload_n hC 1 dL_law_377 rfl rfl ?_
  refine g_aload_n hC 0 dL_law_378 rfl rfl ?_
  refine g_iload_n hC 3 dL_law_379 rfl rfl ?_
  refine g_iconst (v := 1) hC dL_law_380 (by decide) ?_
  refine g_iadd hC dL_law_381 ?_
  refine g_sld hC hs h1 dL_law_382 ?_
  refine g_aload_n hC 0 dL_law_383 rfl rfl ?_
  refine g_iload_n hC 3 dL_law_384 rfl rfl ?_
  refine g_iconst (v := 2) hC dL_law_385 (by decide) ?_
  refine g_iadd hC dL_law_386 ?_
  refine g_sld hC hs h2 dL_law_387 ?_
  refine g_aload_n hC 0 dL_law_388 rfl rfl ?_
  refine g_iload_n hC 3 dL_law_389 rfl rfl ?_
  refine g_iconst (v := 3) hC dL_law_390 (by decide) ?_
  refine g_iadd hC dL_law_391 ?_
  refine g_sld hC hs h3 dL_law_392 ?_
  refine g_ri (r_V (C := RX9) (T := TX9) (N := 9) (As := [.int (xs (x + 1).toNatClampNeg), .int (xs (x + 2).toNatClampNeg), .int (xs (x + 3).toNatClampNeg)]) (rest := []) hC o_iX9 (o_eX9 _ _ _ _) rfl (c_X9_knows (l := ox_l X) (φ := ox_φ X) (D := ox_D X) (cI := ox_I X) (cB := ox_B X) hC.J h) gl_X9_knows rfl hd_X9_knows ⟨Nat.le_of_ble_eq_true rfl, Nat.le_of_ble_eq_true rfl⟩ rfl rfl (Nat.le_of_ble_eq_true rfl) dL_law_393) (fun v s h => ?_)
  refine g_aload_n hC 2 dL_law_396 rfl rfl ?_
  refine g_aload_n hC 0 dL_law_397 rfl rfl ?_
  refine g_iload_n hC 3 dL_law_398 rfl rfl ?_
  refine g_iconst (v := 1) hC dL_law_399 (by decide) ?_
  refine g_iadd hC dL_law_400 ?_
  refine g_sld hC hs h1 dL_law_401 ?_
  refine g_aload_n hC 0 dL_law_402 rfl rfl ?_
  refine g_iload_n hC 3 dL_law_403 rfl rfl ?_
  refine g_iconst (v := 2) hC dL_law_404 (by decide) ?_
  refine g_iadd hC dL_law_405 ?_
  refine g_sld hC hs h2 dL_law_406 ?_
  refine g_aload_n hC 0 dL_law_407 rfl rfl ?_
  refine g_iload_n hC 3 dL_law_408 rfl rfl ?_
  refine g_iconst (v := 3) hC dL_law_409 (by decide) ?_
  refine g_iadd hC dL_law_410 ?_
  refine g_sld hC hs h3 dL_law_411 ?_
  refine g_ri (r_V (C := RX10) (T := TX10) (N := 25) (As := [.int (xs (x + 1).toNatClampNeg), .int (xs (x + 2).toNatClampNeg), .int (xs (x + 3).toNatClampNeg)]) (rest := [.int v]) hC o_iX10 (o_eX10 _ _ _ _) rfl (c_X10_knows (l := ox_l X) (φ := ox_φ X) (D := ox_D X) (cI := ox_I X) (cB := ox_B X) hC.J h) gl_X10_knows rfl hd_X10_knows ⟨Nat.le_of_ble_eq_true rfl, Nat.le_of_ble_eq_true rfl⟩ rfl rfl (Nat.le_of_ble_eq_true rfl) dL_law_412) (fun v' s' h => ?_)
  exact g_icmp_eq hC 809 dL_law_415 (by decide) (fun z => h.1 z) (fun z => h.2 z)
set_option maxHeartbeats 4000000 in
set_option maxRecDepth 100000 in
theorem lc_lesson_0 {X : OX} {b L : Nat} {xs : Nat → Int32} {σ : SS} {x : Int32} (hC : lwC X) (hs : o_Sc X b L xs) (h1 : vp_in (x + 1) L) (h2 : vp_in (x + 2) L) (z : xs (x + 2).toNatClampNeg = 0) (h : V_X9_lesson (xs (x + 1).toNatClampNeg) 0 σ (fun v s => V_X10_lesson (xs (x + 1).toNatClampNeg) 0 s (fun v' s' => (v = v' → o_G X s' 809 (lwV X b x) []) ∧ (¬ v = v' → o_G X s' 467 (lwV X b x) [])))) : o_G X σ 420 (lwV X b x) [] := by
  refine g_aload_n hC 1 dL_law_420 rfl rfl ?_
  refine g_aload_n hC 0 dL_law_421 rfl rfl ?_
  refine g_iload_n hC 3 dL_law_422 rfl rfl ?_
  refine g_iconst (v := 1) hC dL_law_423 (by decide) ?_
  refine g_iadd hC dL_law_424 ?_
  refine g_sld hC hs h1 dL_law_425 ?_
  refine g_aload_n hC 0 dL_law_426 rfl rfl ?_
  refine g_iload_n hC 3 dL_law_427 rfl rfl ?_
  refine g_iconst (v := 2) hC dL_law_428 (by decide) ?_
  refine g_iadd hC dL_law_429 ?_
  refine g_sld hC hs h2 dL_law_430 ?_
  refine g_if_eq hC 438 dL_law_431 (by decide) (fun _ => ?_) (fun z' => absurd z z')
  refine g_iconst (v := 0) hC dL_law_438 (by decide) ?_
  refine g_ri (r_V (C := RX9) (T := TX9) (N := 9) (As := [.int (xs (x + 1).toNatClampNeg), .int 0]) (rest := []) hC o_iX9 (o_eX9 _ _ _ _) rfl (c_X9_lesson (l := ox_l X) (φ := ox_φ X) (D := ox_D X) (cI := ox_I X) (cB := ox_B X) hC.J h) gl_X9_lesson rfl hd_X9_lesson ⟨Nat.le_of_ble_eq_true rfl, Nat.le_of_ble_eq_true rfl⟩ rfl rfl (Nat.le_of_ble_eq_true rfl) dL_law_439) (fun v s h => ?_)
  refine g_aload_n hC 2 dL_law_442 rfl rfl ?_
  refine g_aload_n hC 0 dL_law_443 rfl rfl ?_
  refine g_iload_n hC 3 dL_law_444 rfl rfl ?_
  refine g_iconst (v := 1) hC dL_law_445 (by decide) ?_
  refine g_iadd hC dL_law_446 ?_
  refine g_sld hC hs h1 dL_law_447 ?_
  refine g_aload_n hC 0 dL_law_448 rfl rfl ?_
  refine g_iload_n hC 3 dL_law_449 rfl rfl ?_
  refine g_iconst (v := 2) hC dL_law_450 (by decide) ?_
  refine g_iadd hC dL_law_451 ?_
  refine g_sld hC hs h2 dL_law_452 ?_
  refine g_if_eq hC 460 dL_law_453 (by decide) (fun _ => ?_) (fun z' => absurd z z')
  refine g_iconst (v := 0) hC dL_law_460 (by decide) ?_
  refine g_ri (r_V (C := RX10) (T := TX10) (N := 25) (As := [.int (xs (x + 1).toNatClampNeg), .int 0]) (rest := [.int v]) hC o_iX10 (o_eX10 _ _ _ _) rfl (c_X10_lesson (l := ox_l X) (φ := ox_φ X) (D := ox_D X) (cI := ox_I X) (cB := ox_B X) hC.J h) gl_X10_lesson rfl hd_X10_lesson ⟨Nat.le_of_ble_eq_true rfl, Nat.le_of_ble_eq_true rfl⟩ rfl rfl (Nat.le_of_ble_eq_true rfl) dL_law_461) (fun v' s' h => ?_)
  exact g_icmp_eq hC 809 dL_law_464 (by decide) (fun z => h.1 z) (fun z => h.2 z)
set_option maxHeartbeats 4000000 in
set_option maxRecDepth 100000 in
theorem lc_lesson_1 {X : OX} {b L : Nat} {xs : Nat → Int32} {σ : SS} {x : Int32} (hC : lwC X) (hs : o_Sc X b L xs) (h1 : vp_in (x + 1) L) (h2 : vp_in (x + 2) L) (z : ¬ xs (x + 2).toNatClampNeg = 0) (h : V_X9_lesson (xs (x + 1).toNatClampNeg) 1 σ (fun v s => V_X10_lesson (xs (x + 1).toNatClampNeg) 1 s (fun v' s' => (v = v' → o_G X s' 809 (lwV X b x) []) ∧ (¬ v = v' → o_G X s' 467 (lwV X b x) [])))) : o_G X σ 420 (lwV X b x) [] := by
  refine g_aload_n hC 1 dL_law_420 rfl rfl ?_
  refine g_aload_n hC 0 dL_law_421 rfl rfl ?_
  refine g_iload_n hC 3 dL_law_422 rfl rfl ?_
  refine g_iconst (v := 1) hC dL_law_423 (by decide) ?_
  refine g_iadd hC dL_law_424 ?_
  refine g_sld hC hs h1 dL_law_425 ?_
  refine g_aload_n hC 0 dL_law_426 rfl rfl ?_
  refine g_iload_n hC 3 dL_law_427 rfl rfl ?_
  refine g_iconst (v := 2) hC dL_law_428 (by decide) ?_
  refine g_iadd hC dL_law_429 ?_
  refine g_sld hC hs h2 dL_law_430 ?_
  refine g_if_eq hC 438 dL_law_431 (by decide) (fun z' => absurd z' z) (fun _ => ?_)
  refine g_iconst (v := 1) hC dL_law_434 (by decide) ?_
  refine g_goto hC 439 dL_law_435 (by decide) ?_
  refine g_ri (r_V (C := RX9) (T := TX9) (N := 9) (As := [.int (xs (x + 1).toNatClampNeg), .int 1]) (rest := []) hC o_iX9 (o_eX9 _ _ _ _) rfl (c_X9_lesson (l := ox_l X) (φ := ox_φ X) (D := ox_D X) (cI := ox_I X) (cB := ox_B X) hC.J h) gl_X9_lesson rfl hd_X9_lesson ⟨Nat.le_of_ble_eq_true rfl, Nat.le_of_ble_eq_true rfl⟩ rfl rfl (Nat.le_of_ble_eq_true rfl) dL_law_439) (fun v s h => ?_)
  refine g_aload_n hC 2 dL_law_442 rfl rfl ?_
  refine g_aload_n hC 0 dL_law_443 rfl rfl ?_
  refine g_iload_n hC 3 dL_law_444 rfl rfl ?_
  refine g_iconst (v := 1) hC dL_law_445 (by decide) ?_
  refine g_iadd hC dL_law_446 ?_
  refine g_sld hC hs h1 dL_law_447 ?_
  refine g_aload_n hC 0 dL_law_448 rfl rfl ?_
  refine g_iload_n hC 3 dL_law_449 rfl rfl ?_
  refine g_iconst (v := 2) hC dL_law_450 (by decide) ?_
  refine g_iadd hC dL_law_451 ?_
  refine g_sld hC hs h2 dL_law_452 ?_
  refine g_if_eq hC 460 dL_law_453 (by decide) (fun z' => absurd z' z) (fun _ => ?_)
  refine g_iconst (v := 1) hC dL_law_456 (by decide) ?_
  refine g_goto hC 461 dL_law_457 (by decide) ?_
  refine g_ri (r_V (C := RX10) (T := TX10) (N := 25) (As := [.int (xs (x + 1).toNatClampNeg), .int 1]) (rest := [.int v]) hC o_iX10 (o_eX10 _ _ _ _) rfl (c_X10_lesson (l := ox_l X) (φ := ox_φ X) (D := ox_D X) (cI := ox_I X) (cB := ox_B X) hC.J h) gl_X10_lesson rfl hd_X10_lesson ⟨Nat.le_of_ble_eq_true rfl, Nat.le_of_ble_eq_true rfl⟩ rfl rfl (Nat.le_of_ble_eq_true rfl) dL_law_461) (fun v' s' h => ?_)
  exact g_icmp_eq hC 809 dL_law_464 (by decide) (fun z => h.1 z) (fun z => h.2 z)
set_option maxHeartbeats 4000000 in
set_option maxRecDepth 100000 in
theorem lc_summer {X : OX} {b L : Nat} {xs : Nat → Int32} {σ : SS} {x : Int32} (hC : lwC X) (hs : o_Sc X b L xs) (h : V_X9_summer σ (fun v s => V_X10_summer s (fun v' s' => (v = v' → o_G X s' 809 (lwV X b x) []) ∧ (¬ v = v' → o_G X s' 480 (lwV X b x) [])))) : o_G X σ 469 (lwV X b x) [] := by
  refine g_aload_n hC 1 dL_law_469 rfl rfl ?_
  refine g_ri (r_V (C := RX9) (T := TX9) (N := 9) (As := []) (rest := []) hC o_iX9 (o_eX9 _ _ _ _) rfl (c_X9_summer (l := ox_l X) (φ := ox_φ X) (D := ox_D X) (cI := ox_I X) (cB := ox_B X) hC.J h) gl_X9_summer rfl hd_X9_summer ⟨Nat.le_of_ble_eq_true rfl, Nat.le_of_ble_eq_true rfl⟩ rfl rfl (Nat.le_of_ble_eq_true rfl) dL_law_470) (fun v s h => ?_)
  refine g_aload_n hC 2 dL_law_473 rfl rfl ?_
  refine g_ri (r_V (C := RX10) (T := TX10) (N := 25) (As := []) (rest := [.int v]) hC o_iX10 (o_eX10 _ _ _ _) rfl (c_X10_summer (l := ox_l X) (φ := ox_φ X) (D := ox_D X) (cI := ox_I X) (cB := ox_B X) hC.J h) gl_X10_summer rfl hd_X10_summer ⟨Nat.le_of_ble_eq_true rfl, Nat.le_of_ble_eq_true rfl⟩ rfl rfl (Nat.le_of_ble_eq_true rfl) dL_law_474) (fun v' s' h => ?_)
  exact g_icmp_eq hC 809 dL_law_477 (by decide) (fun z => h.1 z) (fun z => h.2 z)
set_option maxHeartbeats 4000000 in
set_option maxRecDepth 100000 in
theorem lc_wipe {X : OX} {b L : Nat} {xs : Nat → Int32} {σ : SS} {x : Int32} (hC : lwC X) (hs : o_Sc X b L xs) (h1 : vp_in (x + 1) L) (h2 : vp_in (x + 2) L) (h : V_X9_wipe (xs (x + 1).toNatClampNeg) (xs (x + 2).toNatClampNeg) σ (fun v s => V_X10_wipe (xs (x + 1).toNatClampNeg) (xs (x + 2).toNatClampNeg) s (fun v' s' => (v = v' → o_G X s' 809 (lwV X b x) []) ∧ (¬ v = v' → o_G X s' 513 (lwV X b x) [])))) : o_G X σ 482 (lwV X b x) [] := by
  refine g_aload_n hC 1 dL_law_482 rfl rfl ?_
  refine g_aload_n hC 0 dL_law_483 rfl rfl ?_
  refine g_iload_n hC 3 dL_law_484 rfl rfl ?_
  refine g_iconst (v := 1) hC dL_law_485 (by decide) ?_
  refine g_iadd hC dL_law_486 ?_
  refine g_sld hC hs h1 dL_law_487 ?_
  refine g_aload_n hC 0 dL_law_488 rfl rfl ?_
  refine g_iload_n hC 3 dL_law_489 rfl rfl ?_
  refine g_iconst (v := 2) hC dL_law_490 (by decide) ?_
  refine g_iadd hC dL_law_491 ?_
  refine g_sld hC hs h2 dL_law_492 ?_
  refine g_ri (r_V (C := RX9) (T := TX9) (N := 9) (As := [.int (xs (x + 1).toNatClampNeg), .int (xs (x + 2).toNatClampNeg)]) (rest := []) hC o_iX9 (o_eX9 _ _ _ _) rfl (c_X9_wipe (l := ox_l X) (φ := ox_φ X) (D := ox_D X) (cI := ox_I X) (cB := ox_B X) hC.J h) gl_X9_wipe rfl hd_X9_wipe ⟨Nat.le_of_ble_eq_true rfl, Nat.le_of_ble_eq_true rfl⟩ rfl rfl (Nat.le_of_ble_eq_true rfl) dL_law_493) (fun v s h => ?_)
  refine g_aload_n hC 2 dL_law_496 rfl rfl ?_
  refine g_aload_n hC 0 dL_law_497 rfl rfl ?_
  refine g_iload_n hC 3 dL_law_498 rfl rfl ?_
  refine g_iconst (v := 1) hC dL_law_499 (by decide) ?_
  refine g_iadd hC dL_law_500 ?_
  refine g_sld hC hs h1 dL_law_501 ?_
  refine g_aload_n hC 0 dL_law_502 rfl rfl ?_
  refine g_iload_n hC 3 dL_law_503 rfl rfl ?_
  refine g_iconst (v := 2) hC dL_law_504 (by decide) ?_
  refine g_iadd hC dL_law_505 ?_
  refine g_sld hC hs h2 dL_law_506 ?_
  refine g_ri (r_V (C := RX10) (T := TX10) (N := 25) (As := [.int (xs (x + 1).toNatClampNeg), .int (xs (x + 2).toNatClampNeg)]) (rest := [.int v]) hC o_iX10 (o_eX10 _ _ _ _) rfl (c_X10_wipe (l := ox_l X) (φ := ox_φ X) (D := ox_D X) (cI := ox_I X) (cB := ox_B X) hC.J h) gl_X10_wipe rfl hd_X10_wipe ⟨Nat.le_of_ble_eq_true rfl, Nat.le_of_ble_eq_true rfl⟩ rfl rfl (Nat.le_of_ble_eq_true rfl) dL_law_507) (fun v' s' h => ?_)
  exact g_icmp_eq hC 809 dL_law_510 (by decide) (fun z => h.1 z) (fun z => h.2 z)
set_option maxHeartbeats 4000000 in
set_option maxRecDepth 100000 in
theorem lc_order {X : OX} {b L : Nat} {xs : Nat → Int32} {σ : SS} {x : Int32} (hC : lwC X) (hs : o_Sc X b L xs) (h1 : vp_in (x + 1) L) (h : V_X9_order (xs (x + 1).toNatClampNeg) σ (fun v s => V_X10_order (xs (x + 1).toNatClampNeg) s (fun v' s' => (v = v' → o_G X s' 809 (lwV X b x) []) ∧ (¬ v = v' → o_G X s' 536 (lwV X b x) [])))) : o_G X σ 515 (lwV X b x) [] := by
  refine g_aload_n hC 1 dL_law_515 rfl rfl ?_
  refine g_aload_n hC 0 dL_law_516 rfl rfl ?_
  refine g_iload_n hC 3 dL_law_517 rfl rfl ?_
  refine g_iconst (v := 1) hC dL_law_518 (by decide) ?_
  refine g_iadd hC dL_law_519 ?_
  refine g_sld hC hs h1 dL_law_520 ?_
  refine g_ri (r_V (C := RX9) (T := TX9) (N := 9) (As := [.int (xs (x + 1).toNatClampNeg)]) (rest := []) hC o_iX9 (o_eX9 _ _ _ _) rfl (c_X9_order (l := ox_l X) (φ := ox_φ X) (D := ox_D X) (cI := ox_I X) (cB := ox_B X) hC.J h) gl_X9_order rfl hd_X9_order ⟨Nat.le_of_ble_eq_true rfl, Nat.le_of_ble_eq_true rfl⟩ rfl rfl (Nat.le_of_ble_eq_true rfl) dL_law_521) (fun v s h => ?_)
  refine g_aload_n hC 2 dL_law_524 rfl rfl ?_
  refine g_aload_n hC 0 dL_law_525 rfl rfl ?_
  refine g_iload_n hC 3 dL_law_526 rfl rfl ?_
  refine g_iconst (v := 1) hC dL_law_527 (by decide) ?_
  refine g_iadd hC dL_law_528 ?_
  refine g_sld hC hs h1 dL_law_529 ?_
  refine g_ri (r_V (C := RX10) (T := TX10) (N := 25) (As := [.int (xs (x + 1).toNatClampNeg)]) (rest := [.int v]) hC o_iX10 (o_eX10 _ _ _ _) rfl (c_X10_order (l := ox_l X) (φ := ox_φ X) (D := ox_D X) (cI := ox_I X) (cB := ox_B X) hC.J h) gl_X10_order rfl hd_X10_order ⟨Nat.le_of_ble_eq_true rfl, Nat.le_of_ble_eq_true rfl⟩ rfl rfl (Nat.le_of_ble_eq_true rfl) dL_law_530) (fun v' s' h => ?_)
  exact g_icmp_eq hC 809 dL_law_533 (by decide) (fun z => h.1 z) (fun z => h.2 z)
set_option maxHeartbeats 4000000 in
set_option maxRecDepth 100000 in
theorem lc_songs {X : OX} {b L : Nat} {xs : Nat → Int32} {σ : SS} {x : Int32} (hC : lwC X) (hs : o_Sc X b L xs) (h1 : vp_in (x + 1) L) (h2 : vp_in (x + 2) L) (h : V_X9_songs (xs (x + 1).toNatClampNeg) (xs (x + 2).toNatClampNeg) σ (fun v s => V_X10_songs (xs (x + 1).toNatClampNeg) (xs (x + 2).toNatClampNeg) s (fun v' s' => (v = v' → o_G X s' 809 (lwV X b x) []) ∧ (¬ v = v' → o_G X s' 569 (lwV X b x) [])))) : o_G X σ 538 (lwV X b x) [] := by
  refine g_aload_n hC 1 dL_law_538 rfl rfl ?_
  refine g_aload_n hC 0 dL_law_539 rfl rfl ?_
  refine g_iload_n hC 3 dL_law_540 rfl rfl ?_
  refine g_iconst (v := 1) hC dL_law_541 (by decide) ?_
  refine g_iadd hC dL_law_542 ?_
  refine g_sld hC hs h1 dL_law_543 ?_
  refine g_aload_n hC 0 dL_law_544 rfl rfl ?_
  refine g_iload_n hC 3 dL_law_545 rfl rfl ?_
  refine g_iconst (v := 2) hC dL_law_546 (by decide) ?_
  refine g_iadd hC dL_law_547 ?_
  refine g_sld hC hs h2 dL_law_548 ?_
  refine g_ri (r_V (C := RX9) (T := TX9) (N := 9) (As := [.int (xs (x + 1).toNatClampNeg), .int (xs (x + 2).toNatClampNeg)]) (rest := []) hC o_iX9 (o_eX9 _ _ _ _) rfl (c_X9_songs (l := ox_l X) (φ := ox_φ X) (D := ox_D X) (cI := ox_I X) (cB := ox_B X) hC.J h) gl_X9_songs rfl hd_X9_songs ⟨Nat.le_of_ble_eq_true rfl, Nat.le_of_ble_eq_true rfl⟩ rfl rfl (Nat.le_of_ble_eq_true rfl) dL_law_549) (fun v s h => ?_)
  refine g_aload_n hC 2 dL_law_552 rfl rfl ?_
  refine g_aload_n hC 0 dL_law_553 rfl rfl ?_
  refine g_iload_n hC 3 dL_law_554 rfl rfl ?_
  refine g_iconst (v := 1) hC dL_law_555 (by decide) ?_
  refine g_iadd hC dL_law_556 ?_
  refine g_sld hC hs h1 dL_law_557 ?_
  refine g_aload_n hC 0 dL_law_558 rfl rfl ?_
  refine g_iload_n hC 3 dL_law_559 rfl rfl ?_
  refine g_iconst (v := 2) hC dL_law_560 (by decide) ?_
  refine g_iadd hC dL_law_561 ?_
  refine g_sld hC hs h2 dL_law_562 ?_
  refine g_ri (r_V (C := RX10) (T := TX10) (N := 25) (As := [.int (xs (x + 1).toNatClampNeg), .int (xs (x + 2).toNatClampNeg)]) (rest := [.int v]) hC o_iX10 (o_eX10 _ _ _ _) rfl (c_X10_songs (l := ox_l X) (φ := ox_φ X) (D := ox_D X) (cI := ox_I X) (cB := ox_B X) hC.J h) gl_X10_songs rfl hd_X10_songs ⟨Nat.le_of_ble_eq_true rfl, Nat.le_of_ble_eq_true rfl⟩ rfl rfl (Nat.le_of_ble_eq_true rfl) dL_law_563) (fun v' s' h => ?_)
  exact g_icmp_eq hC 809 dL_law_566 (by decide) (fun z => h.1 z) (fun z => h.2 z)
set_option maxHeartbeats 4000000 in
set_option maxRecDepth 100000 in
theorem lc_asks {X : OX} {b L : Nat} {xs : Nat → Int32} {σ : SS} {x : Int32} (hC : lwC X) (hs : o_Sc X b L xs) (h1 : vp_in (x + 1) L) (h2 : vp_in (x + 2) L) (h : V_X9_asks (xs (x + 1).toNatClampNeg) (xs (x + 2).toNatClampNeg) σ (fun v s => V_X10_asks (xs (x + 1).toNatClampNeg) (xs (x + 2).toNatClampNeg) s (fun v' s' => (v = v' → o_G X s' 809 (lwV X b x) []) ∧ (¬ v = v' → o_G X s' 602 (lwV X b x) [])))) : o_G X σ 571 (lwV X b x) [] := by
  refine g_aload_n hC 1 dL_law_571 rfl rfl ?_
  refine g_aload_n hC 0 dL_law_572 rfl rfl ?_
  refine g_iload_n hC 3 dL_law_573 rfl rfl ?_
  refine g_iconst (v := 1) hC dL_law_574 (by decide) ?_
  refine g_iadd hC dL_law_575 ?_
  refine g_sld hC hs h1 dL_law_576 ?_
  refine g_aload_n hC 0 dL_law_577 rfl rfl ?_
  refine g_iload_n hC 3 dL_law_578 rfl rfl ?_
  refine g_iconst (v := 2) hC dL_law_579 (by decide) ?_
  refine g_iadd hC dL_law_580 ?_
  refine g_sld hC hs h2 dL_law_581 ?_
  refine g_ri (r_V (C := RX9) (T := TX9) (N := 9) (As := [.int (xs (x + 1).toNatClampNeg), .int (xs (x + 2).toNatClampNeg)]) (rest := []) hC o_iX9 (o_eX9 _ _ _ _) rfl (c_X9_asks (l := ox_l X) (φ := ox_φ X) (D := ox_D X) (cI := ox_I X) (cB := ox_B X) hC.J h) gl_X9_asks rfl hd_X9_asks ⟨Nat.le_of_ble_eq_true rfl, Nat.le_of_ble_eq_true rfl⟩ rfl rfl (Nat.le_of_ble_eq_true rfl) dL_law_582) (fun v s h => ?_)
  refine g_aload_n hC 2 dL_law_585 rfl rfl ?_
  refine g_aload_n hC 0 dL_law_586 rfl rfl ?_
  refine g_iload_n hC 3 dL_law_587 rfl rfl ?_
  refine g_iconst (v := 1) hC dL_law_588 (by decide) ?_
  refine g_iadd hC dL_law_589 ?_
  refine g_sld hC hs h1 dL_law_590 ?_
  refine g_aload_n hC 0 dL_law_591 rfl rfl ?_
  refine g_iload_n hC 3 dL_law_592 rfl rfl ?_
  refine g_iconst (v := 2) hC dL_law_593 (by decide) ?_
  refine g_iadd hC dL_law_594 ?_
  refine g_sld hC hs h2 dL_law_595 ?_
  refine g_ri (r_V (C := RX10) (T := TX10) (N := 25) (As := [.int (xs (x + 1).toNatClampNeg), .int (xs (x + 2).toNatClampNeg)]) (rest := [.int v]) hC o_iX10 (o_eX10 _ _ _ _) rfl (c_X10_asks (l := ox_l X) (φ := ox_φ X) (D := ox_D X) (cI := ox_I X) (cB := ox_B X) hC.J h) gl_X10_asks rfl hd_X10_asks ⟨Nat.le_of_ble_eq_true rfl, Nat.le_of_ble_eq_true rfl⟩ rfl rfl (Nat.le_of_ble_eq_true rfl) dL_law_596) (fun v' s' h => ?_)
  exact g_icmp_eq hC 809 dL_law_599 (by decide) (fun z => h.1 z) (fun z => h.2 z)
set_option maxHeartbeats 4000000 in
set_option maxRecDepth 100000 in
theorem lc_orders {X : OX} {b L : Nat} {xs : Nat → Int32} {σ : SS} {x : Int32} (hC : lwC X) (hs : o_Sc X b L xs) (h1 : vp_in (x + 1) L) (h2 : vp_in (x + 2) L) (h3 : vp_in (x + 3) L) (h : V_X9_orders (xs (x + 1).toNatClampNeg) (xs (x + 2).toNatClampNeg) (xs (x + 3).toNatClampNeg) σ (fun v s => V_X10_orders (xs (x + 1).toNatClampNeg) (xs (x + 2).toNatClampNeg) (xs (x + 3).toNatClampNeg) s (fun v' s' => (v = v' → o_G X s' 809 (lwV X b x) []) ∧ (¬ v = v' → o_G X s' 645 (lwV X b x) [])))) : o_G X σ 604 (lwV X b x) [] := by
  refine g_aload_n hC 1 dL_law_604 rfl rfl ?_
  refine g_aload_n hC 0 dL_law_605 rfl rfl ?_
  refine g_iload_n hC 3 dL_law_606 rfl rfl ?_
  refine g_iconst (v := 1) hC dL_law_607 (by decide) ?_
  refine g_iadd hC dL_law_608 ?_
  refine g_sld hC hs h1 dL_law_609 ?_
  refine g_aload_n hC 0 dL_law_610 rfl rfl ?_
  refine g_iload_n hC 3 dL_law_611 rfl rfl ?_
  refine g_iconst (v := 2) hC dL_law_612 (by decide) ?_
  refine g_iadd hC dL_law_613 ?_
  refine g_sld hC hs h2 dL_law_614 ?_
  refine g_aload_n hC 0 dL_law_615 rfl rfl ?_
  refine g_iload_n hC 3 dL_law_616 rfl rfl ?_
  refine g_iconst (v := 3) hC dL_law_617 (by decide) ?_
  refine g_iadd hC dL_law_618 ?_
  refine g_sld hC hs h3 dL_law_619 ?_
  refine g_ri (r_V (C := RX9) (T := TX9) (N := 9) (As := [.int (xs (x + 1).toNatClampNeg), .int (xs (x + 2).toNatClampNeg), .int (xs (x + 3).toNatClampNeg)]) (rest := []) hC o_iX9 (o_eX9 _ _ _ _) rfl (c_X9_orders (l := ox_l X) (φ := ox_φ X) (D := ox_D X) (cI := ox_I X) (cB := ox_B X) hC.J h) gl_X9_orders rfl hd_X9_orders ⟨Nat.le_of_ble_eq_true rfl, Nat.le_of_ble_eq_true rfl⟩ rfl rfl (Nat.le_of_ble_eq_true rfl) dL_law_620) (fun v s h => ?_)
  refine g_aload_n hC 2 dL_law_623 rfl rfl ?_
  refine g_aload_n hC 0 dL_law_624 rfl rfl ?_
  refine g_iload_n hC 3 dL_law_625 rfl rfl ?_
  refine g_iconst (v := 1) hC dL_law_626 (by decide) ?_
  refine g_iadd hC dL_law_627 ?_
  refine g_sld hC hs h1 dL_law_628 ?_
  refine g_aload_n hC 0 dL_law_629 rfl rfl ?_
  refine g_iload_n hC 3 dL_law_630 rfl rfl ?_
  refine g_iconst (v := 2) hC dL_law_631 (by decide) ?_
  refine g_iadd hC dL_law_632 ?_
  refine g_sld hC hs h2 dL_law_633 ?_
  refine g_aload_n hC 0 dL_law_634 rfl rfl ?_
  refine g_iload_n hC 3 dL_law_635 rfl rfl ?_
  refine g_iconst (v := 3) hC dL_law_636 (by decide) ?_
  refine g_iadd hC dL_law_637 ?_
  refine g_sld hC hs h3 dL_law_638 ?_
  refine g_ri (r_V (C := RX10) (T := TX10) (N := 25) (As := [.int (xs (x + 1).toNatClampNeg), .int (xs (x + 2).toNatClampNeg), .int (xs (x + 3).toNatClampNeg)]) (rest := [.int v]) hC o_iX10 (o_eX10 _ _ _ _) rfl (c_X10_orders (l := ox_l X) (φ := ox_φ X) (D := ox_D X) (cI := ox_I X) (cB := ox_B X) hC.J h) gl_X10_orders rfl hd_X10_orders ⟨Nat.le_of_ble_eq_true rfl, Nat.le_of_ble_eq_true rfl⟩ rfl rfl (Nat.le_of_ble_eq_true rfl) dL_law_639) (fun v' s' h => ?_)
  exact g_icmp_eq hC 809 dL_law_642 (by decide) (fun z => h.1 z) (fun z => h.2 z)
set_option maxHeartbeats 4000000 in
set_option maxRecDepth 100000 in
theorem lc_tell {X : OX} {b L : Nat} {xs : Nat → Int32} {σ : SS} {x : Int32} (hC : lwC X) (hs : o_Sc X b L xs) (h1 : vp_in (x + 1) L) (h2 : vp_in (x + 2) L) (h : V_X9_tell (xs (x + 1).toNatClampNeg) (xs (x + 2).toNatClampNeg) σ (fun v s => V_X10_tell (xs (x + 1).toNatClampNeg) (xs (x + 2).toNatClampNeg) s (fun v' s' => (v = v' → o_G X s' 809 (lwV X b x) []) ∧ (¬ v = v' → o_G X s' 678 (lwV X b x) [])))) : o_G X σ 647 (lwV X b x) [] := by
  refine g_aload_n hC 1 dL_law_647 rfl rfl ?_
  refine g_aload_n hC 0 dL_law_648 rfl rfl ?_
  refine g_iload_n hC 3 dL_law_649 rfl rfl ?_
  refine g_iconst (v := 1) hC dL_law_650 (by decide) ?_
  refine g_iadd hC dL_law_651 ?_
  refine g_sld hC hs h1 dL_law_652 ?_
  refine g_aload_n hC 0 dL_law_653 rfl rfl ?_
  refine g_iload_n hC 3 dL_law_654 rfl rfl ?_
  refine g_iconst (v := 2) hC dL_law_655 (by decide) ?_
  refine g_iadd hC dL_law_656 ?_
  refine g_sld hC hs h2 dL_law_657 ?_
  refine g_ri (r_V (C := RX9) (T := TX9) (N := 9) (As := [.int (xs (x + 1).toNatClampNeg), .int (xs (x + 2).toNatClampNeg)]) (rest := []) hC o_iX9 (o_eX9 _ _ _ _) rfl (c_X9_tell (l := ox_l X) (φ := ox_φ X) (D := ox_D X) (cI := ox_I X) (cB := ox_B X) hC.J h) gl_X9_tell rfl hd_X9_tell ⟨Nat.le_of_ble_eq_true rfl, Nat.le_of_ble_eq_true rfl⟩ rfl rfl (Nat.le_of_ble_eq_true rfl) dL_law_658) (fun v s h => ?_)
  refine g_aload_n hC 2 dL_law_661 rfl rfl ?_
  refine g_aload_n hC 0 dL_law_662 rfl rfl ?_
  refine g_iload_n hC 3 dL_law_663 rfl rfl ?_
  refine g_iconst (v := 1) hC dL_law_664 (by decide) ?_
  refine g_iadd hC dL_law_665 ?_
  refine g_sld hC hs h1 dL_law_666 ?_
  refine g_aload_n hC 0 dL_law_667 rfl rfl ?_
  refine g_iload_n hC 3 dL_law_668 rfl rfl ?_
  refine g_iconst (v := 2) hC dL_law_669 (by decide) ?_
  refine g_iadd hC dL_law_670 ?_
  refine g_sld hC hs h2 dL_law_671 ?_
  refine g_ri (r_V (C := RX10) (T := TX10) (N := 25) (As := [.int (xs (x + 1).toNatClampNeg), .int (xs (x + 2).toNatClampNeg)]) (rest := [.int v]) hC o_iX10 (o_eX10 _ _ _ _) rfl (c_X10_tell (l := ox_l X) (φ := ox_φ X) (D := ox_D X) (cI := ox_I X) (cB := ox_B X) hC.J h) gl_X10_tell rfl hd_X10_tell ⟨Nat.le_of_ble_eq_true rfl, Nat.le_of_ble_eq_true rfl⟩ rfl rfl (Nat.le_of_ble_eq_true rfl) dL_law_672) (fun v' s' h => ?_)
  exact g_icmp_eq hC 809 dL_law_675 (by decide) (fun z => h.1 z) (fun z => h.2 z)
set_option maxHeartbeats 4000000 in
set_option maxRecDepth 100000 in
theorem lc_sick {X : OX} {b L : Nat} {xs : Nat → Int32} {σ : SS} {x : Int32} (hC : lwC X) (hs : o_Sc X b L xs) (h1 : vp_in (x + 1) L) (h : V_X9_sick (xs (x + 1).toNatClampNeg) σ (fun v s => V_X10_sick (xs (x + 1).toNatClampNeg) s (fun v' s' => (v = v' → o_G X s' 809 (lwV X b x) []) ∧ (¬ v = v' → o_G X s' 701 (lwV X b x) [])))) : o_G X σ 680 (lwV X b x) [] := by
  refine g_aload_n hC 1 dL_law_680 rfl rfl ?_
  refine g_aload_n hC 0 dL_law_681 rfl rfl ?_
  refine g_iload_n hC 3 dL_law_682 rfl rfl ?_
  refine g_iconst (v := 1) hC dL_law_683 (by decide) ?_
  refine g_iadd hC dL_law_684 ?_
  refine g_sld hC hs h1 dL_law_685 ?_
  refine g_ri (r_V (C := RX9) (T := TX9) (N := 9) (As := [.int (xs (x + 1).toNatClampNeg)]) (rest := []) hC o_iX9 (o_eX9 _ _ _ _) rfl (c_X9_sick (l := ox_l X) (φ := ox_φ X) (D := ox_D X) (cI := ox_I X) (cB := ox_B X) hC.J h) gl_X9_sick rfl hd_X9_sick ⟨Nat.le_of_ble_eq_true rfl, Nat.le_of_ble_eq_true rfl⟩ rfl rfl (Nat.le_of_ble_eq_true rfl) dL_law_686) (fun v s h => ?_)
  refine g_aload_n hC 2 dL_law_689 rfl rfl ?_
  refine g_aload_n hC 0 dL_law_690 rfl rfl ?_
  refine g_iload_n hC 3 dL_law_691 rfl rfl ?_
  refine g_iconst (v := 1) hC dL_law_692 (by decide) ?_
  refine g_iadd hC dL_law_693 ?_
  refine g_sld hC hs h1 dL_law_694 ?_
  refine g_ri (r_V (C := RX10) (T := TX10) (N := 25) (As := [.int (xs (x + 1).toNatClampNeg)]) (rest := [.int v]) hC o_iX10 (o_eX10 _ _ _ _) rfl (c_X10_sick (l := ox_l X) (φ := ox_φ X) (D := ox_D X) (cI := ox_I X) (cB := ox_B X) hC.J h) gl_X10_sick rfl hd_X10_sick ⟨Nat.le_of_ble_eq_true rfl, Nat.le_of_ble_eq_true rfl⟩ rfl rfl (Nat.le_of_ble_eq_true rfl) dL_law_695) (fun v' s' h => ?_)
  exact g_icmp_eq hC 809 dL_law_698 (by decide) (fun z => h.1 z) (fun z => h.2 z)
set_option maxHeartbeats 4000000 in
set_option maxRecDepth 100000 in
theorem lc_years {X : OX} {b L : Nat} {xs : Nat → Int32} {σ : SS} {x : Int32} (hC : lwC X) (hs : o_Sc X b L xs) (h1 : vp_in (x + 1) L) (h2 : vp_in (x + 2) L) (h3 : vp_in (x + 3) L) (h : V_X9_years (xs (x + 1).toNatClampNeg) (xs (x + 2).toNatClampNeg) (xs (x + 3).toNatClampNeg) σ (fun v s => V_X10_years (xs (x + 1).toNatClampNeg) (xs (x + 2).toNatClampNeg) (xs (x + 3).toNatClampNeg) s (fun v' s' => (v = v' → o_G X s' 809 (lwV X b x) []) ∧ (¬ v = v' → o_G X s' 744 (lwV X b x) [])))) : o_G X σ 703 (lwV X b x) [] := by
  refine g_aload_n hC 1 dL_law_703 rfl rfl ?_
  refine g_aload_n hC 0 dL_law_704 rfl rfl ?_
  refine g_iload_n hC 3 dL_law_705 rfl rfl ?_
  refine g_iconst (v := 1) hC dL_law_706 (by decide) ?_
  refine g_iadd hC dL_law_707 ?_
  refine g_sld hC hs h1 dL_law_708 ?_
  refine g_aload_n hC 0 dL_law_709 rfl rfl ?_
  refine g_iload_n hC 3 dL_law_710 rfl rfl ?_
  refine g_iconst (v := 2) hC dL_law_711 (by decide) ?_
  refine g_iadd hC dL_law_712 ?_
  refine g_sld hC hs h2 dL_law_713 ?_
  refine g_aload_n hC 0 dL_law_714 rfl rfl ?_
  refine g_iload_n hC 3 dL_law_715 rfl rfl ?_
  refine g_iconst (v := 3) hC dL_law_716 (by decide) ?_
  refine g_iadd hC dL_law_717 ?_
  refine g_sld hC hs h3 dL_law_718 ?_
  refine g_ri (r_V (C := RX9) (T := TX9) (N := 9) (As := [.int (xs (x + 1).toNatClampNeg), .int (xs (x + 2).toNatClampNeg), .int (xs (x + 3).toNatClampNeg)]) (rest := []) hC o_iX9 (o_eX9 _ _ _ _) rfl (c_X9_years (l := ox_l X) (φ := ox_φ X) (D := ox_D X) (cI := ox_I X) (cB := ox_B X) hC.J h) gl_X9_years rfl hd_X9_years ⟨Nat.le_of_ble_eq_true rfl, Nat.le_of_ble_eq_true rfl⟩ rfl rfl (Nat.le_of_ble_eq_true rfl) dL_law_719) (fun v s h => ?_)
  refine g_aload_n hC 2 dL_law_722 rfl rfl ?_
  refine g_aload_n hC 0 dL_law_723 rfl rfl ?_
  refine g_iload_n hC 3 dL_law_724 rfl rfl ?_
  refine g_iconst (v := 1) hC dL_law_725 (by decide) ?_
  refine g_iadd hC dL_law_726 ?_
  refine g_sld hC hs h1 dL_law_727 ?_
  refine g_aload_n hC 0 dL_law_728 rfl rfl ?_
  refine g_iload_n hC 3 dL_law_729 rfl rfl ?_
  refine g_iconst (v := 2) hC dL_law_730 (by decide) ?_
  refine g_iadd hC dL_law_731 ?_
  refine g_sld hC hs h2 dL_law_732 ?_
  refine g_aload_n hC 0 dL_law_733 rfl rfl ?_
  refine g_iload_n hC 3 dL_law_734 rfl rfl ?_
  refine g_iconst (v := 3) hC dL_law_735 (by decide) ?_
  refine g_iadd hC dL_law_736 ?_
  refine g_sld hC hs h3 dL_law_737 ?_
  refine g_ri (r_V (C := RX10) (T := TX10) (N := 25) (As := [.int (xs (x + 1).toNatClampNeg), .int (xs (x + 2).toNatClampNeg), .int (xs (x + 3).toNatClampNeg)]) (rest := [.int v]) hC o_iX10 (o_eX10 _ _ _ _) rfl (c_X10_years (l := ox_l X) (φ := ox_φ X) (D := ox_D X) (cI := ox_I X) (cB := ox_B X) hC.J h) gl_X10_years rfl hd_X10_years ⟨Nat.le_of_ble_eq_true rfl, Nat.le_of_ble_eq_true rfl⟩ rfl rfl (Nat.le_of_ble_eq_true rfl) dL_law_738) (fun v' s' h => ?_)
  exact g_icmp_eq hC 809 dL_law_741 (by decide) (fun z => h.1 z) (fun z => h.2 z)
set_option maxHeartbeats 4000000 in
set_option maxRecDepth 100000 in
theorem lc_image {X : OX} {b L : Nat} {xs : Nat → Int32} {σ : SS} {x : Int32} (hC : lwC X) (hs : o_Sc X b L xs) (h : V_X9_image σ (fun v s => V_X10_image s (fun v' s' => (v = v' → o_G X s' 809 (lwV X b x) []) ∧ (¬ v = v' → o_G X s' 757 (lwV X b x) [])))) : o_G X σ 746 (lwV X b x) [] := by
  refine g_aload_n hC 1 dL_law_746 rfl rfl ?_
  refine g_ri (r_V (C := RX9) (T := TX9) (N := 9) (As := []) (rest := []) hC o_iX9 (o_eX9 _ _ _ _) rfl (c_X9_image (l := ox_l X) (φ := ox_φ X) (D := ox_D X) (cI := ox_I X) (cB := ox_B X) hC.J h) gl_X9_image rfl hd_X9_image ⟨Nat.le_of_ble_eq_true rfl, Nat.le_of_ble_eq_true rfl⟩ rfl rfl (Nat.le_of_ble_eq_true rfl) dL_law_747) (fun v s h => ?_)
  refine g_aload_n hC 2 dL_law_750 rfl rfl ?_
  refine g_ri (r_V (C := RX10) (T := TX10) (N := 25) (As := []) (rest := [.int v]) hC o_iX10 (o_eX10 _ _ _ _) rfl (c_X10_image (l := ox_l X) (φ := ox_φ X) (D := ox_D X) (cI := ox_I X) (cB := ox_B X) hC.J h) gl_X10_image rfl hd_X10_image ⟨Nat.le_of_ble_eq_true rfl, Nat.le_of_ble_eq_true rfl⟩ rfl rfl (Nat.le_of_ble_eq_true rfl) dL_law_751) (fun v' s' h => ?_)
  exact g_icmp_eq hC 809 dL_law_754 (by decide) (fun z => h.1 z) (fun z => h.2 z)
set_option maxHeartbeats 4000000 in
set_option maxRecDepth 100000 in
theorem lc_restore {X : OX} {b L : Nat} {xs : Nat → Int32} {σ : SS} {x : Int32} (hC : lwC X) (hs : o_Sc X b L xs) (h : V_X9_restore σ (fun v s => V_X10_restore s (fun v' s' => (v = v' → o_G X s' 809 (lwV X b x) []) ∧ (¬ v = v' → o_G X s' 770 (lwV X b x) [])))) : o_G X σ 759 (lwV X b x) [] := by
  refine g_aload_n hC 1 dL_law_759 rfl rfl ?_
  refine g_ri (r_V (C := RX9) (T := TX9) (N := 9) (As := []) (rest := []) hC o_iX9 (o_eX9 _ _ _ _) rfl (c_X9_restore (l := ox_l X) (φ := ox_φ X) (D := ox_D X) (cI := ox_I X) (cB := ox_B X) hC.J h) gl_X9_restore rfl hd_X9_restore ⟨Nat.le_of_ble_eq_true rfl, Nat.le_of_ble_eq_true rfl⟩ rfl rfl (Nat.le_of_ble_eq_true rfl) dL_law_760) (fun v s h => ?_)
  refine g_aload_n hC 2 dL_law_763 rfl rfl ?_
  refine g_ri (r_V (C := RX10) (T := TX10) (N := 25) (As := []) (rest := [.int v]) hC o_iX10 (o_eX10 _ _ _ _) rfl (c_X10_restore (l := ox_l X) (φ := ox_φ X) (D := ox_D X) (cI := ox_I X) (cB := ox_B X) hC.J h) gl_X10_restore rfl hd_X10_restore ⟨Nat.le_of_ble_eq_true rfl, Nat.le_of_ble_eq_true rfl⟩ rfl rfl (Nat.le_of_ble_eq_true rfl) dL_law_764) (fun v' s' h => ?_)
  exact g_icmp_eq hC 809 dL_law_767 (by decide) (fun z => h.1 z) (fun z => h.2 z)
set_option maxHeartbeats 4000000 in
set_option maxRecDepth 100000 in
theorem lc_count {X : OX} {b L : Nat} {xs : Nat → Int32} {σ : SS} {x : Int32} (hC : lwC X) (hs : o_Sc X b L xs) (h1 : vp_in (x + 1) L) (h : V_X9_count (xs (x + 1).toNatClampNeg) σ (fun v s => V_X10_count (xs (x + 1).toNatClampNeg) s (fun v' s' => (v = v' → o_G X s' 809 (lwV X b x) []) ∧ (¬ v = v' → o_G X s' 793 (lwV X b x) [])))) : o_G X σ 772 (lwV X b x) [] := by
  refine g_aload_n hC 1 dL_law_772 rfl rfl ?_
  refine g_aload_n hC 0 dL_law_773 rfl rfl ?_
  refine g_iload_n hC 3 dL_law_774 rfl rfl ?_
  refine g_iconst (v := 1) hC dL_law_775 (by decide) ?_
  refine g_iadd hC dL_law_776 ?_
  refine g_sld hC hs h1 dL_law_777 ?_
  refine g_ri (r_V (C := RX9) (T := TX9) (N := 9) (As := [.int (xs (x + 1).toNatClampNeg)]) (rest := []) hC o_iX9 (o_eX9 _ _ _ _) rfl (c_X9_count (l := ox_l X) (φ := ox_φ X) (D := ox_D X) (cI := ox_I X) (cB := ox_B X) hC.J h) gl_X9_count rfl hd_X9_count ⟨Nat.le_of_ble_eq_true rfl, Nat.le_of_ble_eq_true rfl⟩ rfl rfl (Nat.le_of_ble_eq_true rfl) dL_law_778) (fun v s h => ?_)
  refine g_aload_n hC 2 dL_law_781 rfl rfl ?_
  refine g_aload_n hC 0 dL_law_782 rfl rfl ?_
  refine g_iload_n hC 3 dL_law_783 rfl rfl ?_
  refine g_iconst (v := 1) hC dL_law_784 (by decide) ?_
  refine g_iadd hC dL_law_785 ?_
  refine g_sld hC hs h1 dL_law_786 ?_
  refine g_ri (r_V (C := RX10) (T := TX10) (N := 25) (As := [.int (xs (x + 1).toNatClampNeg)]) (rest := [.int v]) hC o_iX10 (o_eX10 _ _ _ _) rfl (c_X10_count (l := ox_l X) (φ := ox_φ X) (D := ox_D X) (cI := ox_I X) (cB := ox_B X) hC.J h) gl_X10_count rfl hd_X10_count ⟨Nat.le_of_ble_eq_true rfl, Nat.le_of_ble_eq_true rfl⟩ rfl rfl (Nat.le_of_ble_eq_true rfl) dL_law_787) (fun v' s' h => ?_)
  exact g_icmp_eq hC 809 dL_law_790 (by decide) (fun z => h.1 z) (fun z => h.2 z)
set_option maxHeartbeats 4000000 in
set_option maxRecDepth 100000 in
theorem lc_digest {X : OX} {b L : Nat} {xs : Nat → Int32} {σ : SS} {x : Int32} (hC : lwC X) (hs : o_Sc X b L xs) (h : V_X9_digest σ (fun v s => V_X10_digest s (fun v' s' => (v = v' → o_G X s' 809 (lwV X b x) []) ∧ (¬ v = v' → o_G X s' 807 (lwV X b x) [])))) : o_G X σ 795 (lwV X b x) [] := by
  refine g_aload_n hC 1 dL_law_795 rfl rfl ?_
  refine g_rl (r_V (C := RX9) (T := TX9) (N := 9) (As := []) (rest := []) hC o_iX9 (o_eX9 _ _ _ _) rfl (c_X9_digest (l := ox_l X) (φ := ox_φ X) (D := ox_D X) (cI := ox_I X) (cB := ox_B X) hC.J h) gl_X9_digest rfl hd_X9_digest ⟨Nat.le_of_ble_eq_true rfl, Nat.le_of_ble_eq_true rfl⟩ rfl rfl (Nat.le_of_ble_eq_true rfl) dL_law_796) (fun v s h => ?_)
  refine g_aload_n hC 2 dL_law_799 rfl rfl ?_
  refine g_rl (r_V (C := RX10) (T := TX10) (N := 25) (As := []) (rest := [.long v]) hC o_iX10 (o_eX10 _ _ _ _) rfl (c_X10_digest (l := ox_l X) (φ := ox_φ X) (D := ox_D X) (cI := ox_I X) (cB := ox_B X) hC.J h) gl_X10_digest rfl hd_X10_digest ⟨Nat.le_of_ble_eq_true rfl, Nat.le_of_ble_eq_true rfl⟩ rfl rfl (Nat.le_of_ble_eq_true rfl) dL_law_800) (fun v' s' h => ?_)
  refine g_lcmp hC dL_law_803 ?_
  exact g_if_eq hC 809 dL_law_804 (by decide) (fun z => h.1 ((lg_cmp_eq _ _).mp z)) (fun z => h.2 (fun w => z ((lg_cmp_eq _ _).mpr w)))
