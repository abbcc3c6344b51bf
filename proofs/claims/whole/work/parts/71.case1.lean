/-! ===== LAW: a call of each kind ===== -/
theorem lj2 {cA : Nat → ClassId} {ad : Ad} {am : Nat → Nat} {σ : Nat → St} {o : Nat} {g : Nat → Int64} {dd ddN : Int32} {kp kpN : Nat → Nat → Int32} {e : Int} {V r r2 : Int32} {N : St} {ws1 ws2 : va_W} (he : 0 ≤ e ∧ e ≤ 3) (h1 : wP cA ad σ o g e V N r ws1) (h2 : (e = 0 → r2 = V ∧ ws2 = wM cA am N (zI 0) ddN kpN) ∧ (¬ e = 0 → ws2 = wM cA am (σ 0) (zI e) dd kp)) (hL : LI σ dd) (hN : e = 0 → Inv N ∧ ddN = N 0 0 2) :
    ∃ (σ' : Nat → St) (g' : Nat → Int64) (dd' : Int32) (kp' : Nat → Nat → Int32) (t : Int32), ws1 = wX cA ad σ' ++ oW cA o g' ∧ ws2 = wM cA am (σ' 0) t dd' kp' ∧ LI σ' dd' ∧ r = t ∧ (r = 0 → g' 0 = V.toInt64 ∧ r2 = V) := by
  obtain ⟨x1, x2, x3, x4, q1, q2, q3, q4, q5⟩ := lj he h1 h2 hL hN
  exact ⟨x1, x2, x3, x4, zI e, q1, q2, q3, q4, fun z => q5 (q4.symm.trans z)⟩
set_option maxHeartbeats 1600000 in
set_option maxRecDepth 100000 in
/-- pile -/
theorem case_0 {p : Program} {l : Launch} {e : Env} {s : State} {m : MethodId} {b : Nat} {below : List Frame} {meth : Method} {c : Code} {Q : State → Prop} {D : va_G} {A : Nat → Prop} {cells slots : Nat} {ret0 : Option FieldType} {cA : Nat → ClassId} {ad : Ad} {am : Nat → Nat} {o L : Nat} {xs : Nat → Int32} {σ : Nat → St} {th dd : Int32} {kp : Nat → Nat → Int32} {g : Nat → Int64} {i : Int} (E : GE p s m #[Value.ref b] meth c D (tysX cA) cL_law 9 RL wsL_law ret0) (hl0 : l.stackTraces = false) (Z : gZ A s) (X : gC s) (hX : va_X b L xs s s.heap) (hbl : b < s.heap.size) (hbA : ¬ A b) (hL : L ≤ 2560) (hi : 0 ≤ i ∧ i + 5 ≤ L) (hLI : LI σ dd) (hc : cells + 3 ≤ 601024 ∧ slots + 18 ≤ 7293034) (kk : ∀ (σ' : Nat → St) (th' dd' : Int32) (kp' : Nat → Nat → Int32) (g' : Nat → Int64), LI σ' dd' → GW p l e room_1 s m #[Value.ref b] below meth c Q D A 9 ((wX cA ad σ' ++ oW cA o g') ++ wM cA am (σ' 0) th' dd' kp') (cells + 3) (slots + 18) 1697 [(0, .ref b), (1, .ref (ad 0 8 0)), (2, .ref (am 0)), (3, .ref o), (4, .int (zI i))] []) : GW p l e room_1 s m #[Value.ref b] below meth c Q D A 9 ((wX cA ad σ ++ oW cA o g) ++ wM cA am (σ 0) th dd kp) (cells) (slots) 160 [(0, .ref b), (1, .ref (ad 0 8 0)), (2, .ref (am 0)), (3, .ref o), (4, .int (zI i))] [] := by
  refine g_aload_n E dL_law_160 rfl ?_
  refine g_aload_n E dL_law_161 rfl ?_
  refine g_iload E dL_law_162 rfl ?_
  refine g_iconst E dL_law_164 ?_
  refine g_iadd E dL_law_165 ?_
  refine g_sld E hX hbl hbA (by omega) hL dL_law_166 ?_
  refine g_aload_n E dL_law_167 rfl ?_
  refine g_iload E dL_law_168 rfl ?_
  refine g_iconst E dL_law_170 ?_
  refine g_iadd E dL_law_171 ?_
  refine g_sld E hX hbl hbA (by omega) hL dL_law_172 ?_
  refine g_aload_n E dL_law_173 rfl ?_
  refine g_fW (n := 4) (As := [_, _, _, _]) (rest := []) E Z X (l_pile l hl0 D cA _ ad σ o g hLI.1 hLI.2.1 _ _ (i32_rng _) (i32_rng _)) gL_law_L_pile rfl ⟨rfl, rfl⟩ (by decide +kernel) ⟨Nat.le_of_ble_eq_true rfl, Nat.le_of_ble_eq_true rfl⟩ rfl rfl (Nat.le_of_ble_eq_true rfl) ⟨hc.1, hc.2⟩ dL_law_174 ?_
  rintro r1 ws1 hp1
  refine g_istore E dL_law_177 (by decide) ?_
  refine g_aload_n E dL_law_179 rfl ?_
  refine g_aload_n E dL_law_180 rfl ?_
  refine g_iload E dL_law_181 rfl ?_
  refine g_iconst E dL_law_183 ?_
  refine g_iadd E dL_law_184 ?_
  refine g_sld E hX hbl hbA (by omega) hL dL_law_185 ?_
  refine g_aload_n E dL_law_186 rfl ?_
  refine g_iload E dL_law_187 rfl ?_
  refine g_iconst E dL_law_189 ?_
  refine g_iadd E dL_law_190 ?_
  refine g_sld E hX hbl hbA (by omega) hL dL_law_191 ?_
  refine g_sw ?_
  refine g_fVi (T := TX5) (ci := 5) (n := 2) (As := [_, _]) (rest := []) E (m_pile l D cA _ am (σ 0) th dd kp hLI.1 _ _ (i32_rng _) (i32_rng _)) gL_law_X5_pile rfl ⟨rfl, rfl⟩ (by decide +kernel) ⟨Nat.le_of_ble_eq_true rfl, Nat.le_of_ble_eq_true rfl⟩ obM rfl rfl rfl (Nat.le_of_ble_eq_true rfl) ⟨hc.1, hc.2⟩ dL_law_192 ?_
  rintro r2 ws2 hp2
  refine g_sw ?_
  obtain ⟨σ1, g1, dd1, kp1, t1, rfl, rfl, hLI1, hr, hz⟩ := lj2 (by unfold ePile; split <;> (try split) <;> (try split) <;> (try split) <;> (try split) <;> omega) hp1 hp2 hLI (fun he => ⟨(newP_g hLI.1 he).1, hLI.2.2.trans (newP_g hLI.1 he).2.2.2.symm⟩)
  refine g_istore E dL_law_195 (by decide) ?_
  refine g_aload_n E dL_law_197 rfl ?_
  refine g_sw ?_
  refine g_fVi (T := TX5) (ci := 5) (n := 0) (As := []) (rest := []) E (m_thrown l D cA _ am (σ1 0) t1 dd1 kp1) gL_law_X5_thrown rfl ⟨rfl, rfl⟩ (by decide +kernel) ⟨Nat.le_of_ble_eq_true rfl, Nat.le_of_ble_eq_true rfl⟩ obM rfl rfl rfl (Nat.le_of_ble_eq_true rfl) ⟨hc.1, hc.2⟩ dL_law_198 ?_
  rintro r3 ws3 ⟨h3, rfl⟩
  obtain rfl : t1 = r3 := h3.symm
  refine g_sw ?_
  refine g_iload E dL_law_201 rfl ?_
  refine g_icmp_eqR (tgt := 208) E dL_law_203 (by decide) (fun _ => ?_) (fun z => absurd hr.symm z)
  refine g_iload E dL_law_208 rfl ?_
  have hend : GW p l e room_1 s m #[Value.ref b] below meth c Q D A 9 ((wX cA ad σ1 ++ oW cA o g1) ++ wM cA am (σ1 0) t1 dd1 kp1) (cells + 3) (slots + 18) 225 [(0, .ref b), (1, .ref (ad 0 8 0)), (2, .ref (am 0)), (3, .ref o), (4, .int (zI i))] [] := by
    refine g_goto (tgt := 1697) E dL_law_225 (by decide) ?_
    exact kk σ1 t1 dd1 kp1 g1 hLI1
  refine g_if_neR (tgt := 225) E dL_law_210 (by decide) (fun _ => ?_) (fun z => ?_)
  · refine g_loc (lv' := [(0, .ref b), (1, .ref (ad 0 8 0)), (2, .ref (am 0)), (3, .ref o), (4, .int (zI i))]) ⟨rfl, rfl, rfl, rfl, rfl, trivial⟩ ?_
    exact hend
  · refine g_aload_n E dL_law_213 rfl ?_
    refine g_iconst E dL_law_214 ?_
    refine g_lald E dL_law_215 ?_
    refine g_iload E dL_law_216 rfl ?_
    refine g_i2l E dL_law_218 ?_
    refine g_lcmp E dL_law_219 ?_
    refine g_if_eqR (tgt := 225) E dL_law_220 (by decide) (fun _ => ?_) (fun z2 => absurd (by rw [(hz z).1, (hz z).2]; simp [lg_cmp]) z2)
    refine g_loc (lv' := [(0, .ref b), (1, .ref (ad 0 8 0)), (2, .ref (am 0)), (3, .ref o), (4, .int (zI i))]) ⟨rfl, rfl, rfl, rfl, rfl, trivial⟩ ?_
    exact hend
set_option maxHeartbeats 1600000 in
set_option maxRecDepth 100000 in
/-- cat -/
theorem case_1 {p : Program} {l : Launch} {e : Env} {s : State} {m : MethodId} {b : Nat} {below : List Frame} {meth : Method} {c : Code} {Q : State → Prop} {D : va_G} {A : Nat → Prop} {cells slots : Nat} {ret0 : Option FieldType} {cA : Nat → ClassId} {ad : Ad} {am : Nat → Nat} {o L : Nat} {xs : Nat → Int32} {σ : Nat → St} {th dd : Int32} {kp : Nat → Nat → Int32} {g : Nat → Int64} {i : Int} (E : GE p s m #[Value.ref b] meth c D (tysX cA) cL_law 9 RL wsL_law ret0) (hl0 : l.stackTraces = false) (Z : gZ A s) (X : gC s) (hX : va_X b L xs s s.heap) (hbl : b < s.heap.size) (hbA : ¬ A b) (hL : L ≤ 2560) (hi : 0 ≤ i ∧ i + 5 ≤ L) (hLI : LI σ dd) (hc : cells + 3 ≤ 601024 ∧ slots + 18 ≤ 7293034) (kk : ∀ (σ' : Nat → St) (th' dd' : Int32) (kp' : Nat → Nat → Int32) (g' : Nat → Int64), LI σ' dd' → GW p l e room_1 s m #[Value.ref b] below meth c Q D A 9 ((wX cA ad σ' ++ oW cA o g') ++ wM cA am (σ' 0) th' dd' kp') (cells + 3) (slots + 18) 1697 [(0, .ref b), (1, .ref (ad 0 8 0)), (2, .ref (am 0)), (3, .ref o), (4, .int (zI i))] []) : GW p l e room_1 s m #[Value.ref b] below meth c Q D A 9 ((wX cA ad σ ++ oW cA o g) ++ wM cA am (σ 0) th dd kp) (cells) (slots) 228 [(0, .ref b), (1, .ref (ad 0 8 0)), (2, .ref (am 0)), (3, .ref o), (4, .int (zI i))] [] := by
  refine g_aload_n E dL_law_228 rfl ?_
  refine g_aload_n E dL_law_229 rfl ?_
  refine g_iload E dL_law_230 rfl ?_
  refine g_iconst E dL_law_232 ?_
  refine g_iadd E dL_law_233 ?_
  refine g_sld E hX hbl hbA (by omega) hL dL_law_234 ?_
  refine g_aload_n E dL_law_235 rfl ?_
  refine g_fW (n := 3) (As := [_, _, _]) (rest := []) E Z X (l_cat l hl0 D cA _ ad σ o g hLI.1 hLI.2.1 _ (i32_rng _)) gL_law_L_cat rfl ⟨rfl, rfl⟩ (by decide +kernel) ⟨Nat.le_of_ble_eq_true rfl, Nat.le_of_ble_eq_true rfl⟩ rfl rfl (Nat.le_of_ble_eq_true rfl) ⟨hc.1, hc.2⟩ dL_law_236 ?_
  rintro r1 ws1 hp1
  refine g_istore E dL_law_239 (by decide) ?_
  refine g_aload_n E dL_law_241 rfl ?_
  refine g_aload_n E dL_law_242 rfl ?_
  refine g_iload E dL_law_243 rfl ?_
  refine g_iconst E dL_law_245 ?_
  refine g_iadd E dL_law_246 ?_
  refine g_sld E hX hbl hbA (by omega) hL dL_law_247 ?_
  refine g_sw ?_
  refine g_fVi (T := TX5) (ci := 5) (n := 1) (As := [_]) (rest := []) E (m_cat l D cA _ am (σ 0) th dd kp hLI.1 _ (i32_rng _)) gL_law_X5_cat rfl ⟨rfl, rfl⟩ (by decide +kernel) ⟨Nat.le_of_ble_eq_true rfl, Nat.le_of_ble_eq_true rfl⟩ obM rfl rfl rfl (Nat.le_of_ble_eq_true rfl) ⟨hc.1, hc.2⟩ dL_law_248 ?_
  rintro r2 ws2 hp2
  refine g_sw ?_
  obtain ⟨σ1, g1, dd1, kp1, t1, rfl, rfl, hLI1, hr, hz⟩ := lj2 (by unfold eCat; split <;> (try split) <;> (try split) <;> (try split) <;> (try split) <;> omega) hp1 hp2 hLI (fun he => ⟨(newC_g hLI.1 he).1, hLI.2.2.trans (newC_g hLI.1 he).2.2.2.symm⟩)
  refine g_istore E dL_law_251 (by decide) ?_
  refine g_aload_n E dL_law_253 rfl ?_
  refine g_sw ?_
  refine g_fVi (T := TX5) (ci := 5) (n := 0) (As := []) (rest := []) E (m_thrown l D cA _ am (σ1 0) t1 dd1 kp1) gL_law_X5_thrown rfl ⟨rfl, rfl⟩ (by decide +kernel) ⟨Nat.le_of_ble_eq_true rfl, Nat.le_of_ble_eq_true rfl⟩ obM rfl rfl rfl (Nat.le_of_ble_eq_true rfl) ⟨hc.1, hc.2⟩ dL_law_254 ?_
  rintro r3 ws3 ⟨h3, rfl⟩
  obtain rfl : t1 = r3 := h3.symm
  refine g_sw ?_
  refine g_iload E dL_law_257 rfl ?_
  refine g_icmp_eqR (tgt := 264) E dL_law_259 (by decide) (fun _ => ?_) (fun z => absurd hr.symm z)
  refine g_iload E dL_law_264 rfl ?_
  have hend : GW p l e room_1 s m #[Value.ref b] below meth c Q D A 9 ((wX cA ad σ1 ++ oW cA o g1) ++ wM cA am (σ1 0) t1 dd1 kp1) (cells + 3) (slots + 18) 281 [(0, .ref b), (1, .ref (ad 0 8 0)), (2, .ref (am 0)), (3, .ref o), (4, .int (zI i))] [] := by
    refine g_goto (tgt := 1697) E dL_law_281 (by decide) ?_
    exact kk σ1 t1 dd1 kp1 g1 hLI1
  refine g_if_neR (tgt := 281) E dL_law_266 (by decide) (fun _ => ?_) (fun z => ?_)
  · refine g_loc (lv' := [(0, .ref b), (1, .ref (ad 0 8 0)), (2, .ref (am 0)), (3, .ref o), (4, .int (zI i))]) ⟨rfl, rfl, rfl, rfl, rfl, trivial⟩ ?_
    exact hend
  · refine g_aload_n E dL_law_269 rfl ?_
    refine g_iconst E dL_law_270 ?_
    refine g_lald E dL_law_271 ?_
    refine g_iload E dL_law_272 rfl ?_
    refine g_i2l E dL_law_274 ?_
    refine g_lcmp E dL_law_275 ?_
    refine g_if_eqR (tgt := 281) E dL_law_276 (by decide) (fun _ => ?_) (fun z2 => absurd (by rw [(hz z).1, (hz z).2]; simp [lg_cmp]) z2)
    refine g_loc (lv' := [(0, .ref b), (1, .ref (ad 0 8 0)), (2, .ref (am 0)), (3, .ref o), (4, .int (zI i))]) ⟨rfl, rfl, rfl, rfl, rfl, trivial⟩ ?_
    exact hend
set_option maxHeartbeats 1600000 in
set_option maxRecDepth 100000 in
/-- give -/
theorem case_2 {p : Program} {l : Launch} {e : Env} {s : State} {m : MethodId} {b : Nat} {below : List Frame} {meth : Method} {c : Code} {Q : State → Prop} {D : va_G} {A : Nat → Prop} {cells slots : Nat} {ret0 : Option FieldType} {cA : Nat → ClassId} {ad : Ad} {am : Nat → Nat} {o L : Nat} {xs : Nat → Int32} {σ : Nat → St} {th dd : Int32} {kp : Nat → Nat → Int32} {g : Nat → Int64} {i : Int} (E : GE p s m #[Value.ref b] meth c D (tysX cA) cL_law 9 RL wsL_law ret0) (hl0 : l.stackTraces = false) (Z : gZ A s) (X : gC s) (hX : va_X b L xs s s.heap) (hbl : b < s.heap.size) (hbA : ¬ A b) (hL : L ≤ 2560) (hi : 0 ≤ i ∧ i + 5 ≤ L) (hLI : LI σ dd) (hc : cells + 3 ≤ 601024 ∧ slots + 18 ≤ 7293034) (kk : ∀ (σ' : Nat → St) (th' dd' : Int32) (kp' : Nat → Nat → Int32) (g' : Nat → Int64), LI σ' dd' → GW p l e room_1 s m #[Value.ref b] below meth c Q D A 9 ((wX cA ad σ' ++ oW cA o g') ++ wM cA am (σ' 0) th' dd' kp') (cells + 3) (slots + 18) 1697 [(0, .ref b), (1, .ref (ad 0 8 0)), (2, .ref (am 0)), (3, .ref o), (4, .int (zI i))] []) : GW p l e room_1 s m #[Value.ref b] below meth c Q D A 9 ((wX cA ad σ ++ oW cA o g) ++ wM cA am (σ 0) th dd kp) (cells) (slots) 284 [(0, .ref b), (1, .ref (ad 0 8 0)), (2, .ref (am 0)), (3, .ref o), (4, .int (zI i))] [] := by
  refine g_aload_n E dL_law_284 rfl ?_
  refine g_aload_n E dL_law_285 rfl ?_
  refine g_iload E dL_law_286 rfl ?_
  refine g_iconst E dL_law_288 ?_
  refine g_iadd E dL_law_289 ?_
  refine g_sld E hX hbl hbA (by omega) hL dL_law_290 ?_
  refine g_aload_n E dL_law_291 rfl ?_
  refine g_iload E dL_law_292 rfl ?_
  refine g_iconst E dL_law_294 ?_
  refine g_iadd E dL_law_295 ?_
  refine g_sld E hX hbl hbA (by omega) hL dL_law_296 ?_
  refine g_aload_n E dL_law_297 rfl ?_
  refine g_fW (n := 4) (As := [_, _, _, _]) (rest := []) E Z X (l_give l hl0 D cA _ ad σ o g hLI.1 hLI.2.1 _ _ (i32_rng _) (i32_rng _)) gL_law_L_give rfl ⟨rfl, rfl⟩ (by decide +kernel) ⟨Nat.le_of_ble_eq_true rfl, Nat.le_of_ble_eq_true rfl⟩ rfl rfl (Nat.le_of_ble_eq_true rfl) ⟨hc.1, hc.2⟩ dL_law_298 ?_
  rintro r1 ws1 hp1
  refine g_istore E dL_law_301 (by decide) ?_
  refine g_aload_n E dL_law_303 rfl ?_
  refine g_aload_n E dL_law_304 rfl ?_
  refine g_iload E dL_law_305 rfl ?_
  refine g_iconst E dL_law_307 ?_
  refine g_iadd E dL_law_308 ?_
  refine g_sld E hX hbl hbA (by omega) hL dL_law_309 ?_
  refine g_aload_n E dL_law_310 rfl ?_
  refine g_iload E dL_law_311 rfl ?_
  refine g_iconst E dL_law_313 ?_
  refine g_iadd E dL_law_314 ?_
  refine g_sld E hX hbl hbA (by omega) hL dL_law_315 ?_
  refine g_sw ?_
  refine g_fVi (T := TX5) (ci := 5) (n := 2) (As := [_, _]) (rest := []) E (m_give l D cA _ am (σ 0) th dd kp hLI.1 _ _ (i32_rng _) (i32_rng _)) gL_law_X5_give rfl ⟨rfl, rfl⟩ (by decide +kernel) ⟨Nat.le_of_ble_eq_true rfl, Nat.le_of_ble_eq_true rfl⟩ obM rfl rfl rfl (Nat.le_of_ble_eq_true rfl) ⟨hc.1, hc.2⟩ dL_law_316 ?_
  rintro r2 ws2 hp2
  refine g_sw ?_
  obtain ⟨σ1, g1, dd1, kp1, t1, rfl, rfl, hLI1, hr, hz⟩ := lj2 (by unfold eGive; split <;> (try split) <;> (try split) <;> (try split) <;> (try split) <;> omega) hp1 hp2 hLI (fun he => ⟨(givS_g hLI.1).1, hLI.2.2.trans (givS_g hLI.1).2.2.2.symm⟩)
  refine g_istore E dL_law_319 (by decide) ?_
  refine g_aload_n E dL_law_321 rfl ?_
  refine g_sw ?_
  refine g_fVi (T := TX5) (ci := 5) (n := 0) (As := []) (rest := []) E (m_thrown l D cA _ am (σ1 0) t1 dd1 kp1) gL_law_X5_thrown rfl ⟨rfl, rfl⟩ (by decide +kernel) ⟨Nat.le_of_ble_eq_true rfl, Nat.le_of_ble_eq_true rfl⟩ obM rfl rfl rfl (Nat.le_of_ble_eq_true rfl) ⟨hc.1, hc.2⟩ dL_law_322 ?_
  rintro r3 ws3 ⟨h3, rfl⟩
  obtain rfl : t1 = r3 := h3.symm
  refine g_sw ?_
  refine g_iload E dL_law_325 rfl ?_
  refine g_icmp_eqR (tgt := 332) E dL_law_327 (by decide) (fun _ => ?_) (fun z => absurd hr.symm z)
  refine g_iload E dL_law_332 rfl ?_
  have hend : GW p l e room_1 s m #[Value.ref b] below meth c Q D A 9 ((wX cA ad σ1 ++ oW cA o g1) ++ wM cA am (σ1 0) t1 dd1 kp1) (cells + 3) (slots + 18) 349 [(0, .ref b), (1, .ref (ad 0 8 0)), (2, .ref (am 0)), (3, .ref o), (4, .int (zI i))] [] := by
    refine g_goto (tgt := 1697) E dL_law_349 (by decide) ?_
    exact kk σ1 t1 dd1 kp1 g1 hLI1
  refine g_if_neR (tgt := 349) E dL_law_334 (by decide) (fun _ => ?_) (fun z => ?_)
  · refine g_loc (lv' := [(0, .ref b), (1, .ref (ad 0 8 0)), (2, .ref (am 0)), (3, .ref o), (4, .int (zI i))]) ⟨rfl, rfl, rfl, rfl, rfl, trivial⟩ ?_
    exact hend
  · refine g_aload_n E dL_law_337 rfl ?_
    refine g_iconst E dL_law_338 ?_
    refine g_lald E dL_law_339 ?_
    refine g_iload E dL_law_340 rfl ?_
    refine g_i2l E dL_law_342 ?_
    refine g_lcmp E dL_law_343 ?_
    refine g_if_eqR (tgt := 349) E dL_law_344 (by decide) (fun _ => ?_) (fun z2 => absurd (by rw [(hz z).1, (hz z).2]; simp [lg_cmp]) z2)
    refine g_loc (lv' := [(0, .ref b), (1, .ref (ad 0 8 0)), (2, .ref (am 0)), (3, .ref o), (4, .int (zI i))]) ⟨rfl, rfl, rfl, rfl, rfl, trivial⟩ ?_
    exact hend
set_option maxHeartbeats 1600000 in
set_option maxRecDepth 100000 in
/-- setRain -/
theorem case_3 {p : Program} {l : Launch} {e : Env} {s : State} {m : MethodId} {b : Nat} {below : List Frame} {meth : Method} {c : Code} {Q : State → Prop} {D : va_G} {A : Nat → Prop} {cells slots : Nat} {ret0 : Option FieldType} {cA : Nat → ClassId} {ad : Ad} {am : Nat → Nat} {o L : Nat} {xs : Nat → Int32} {σ : Nat → St} {th dd : Int32} {kp : Nat → Nat → Int32} {g : Nat → Int64} {i : Int} (E : GE p s m #[Value.ref b] meth c D (tysX cA) cL_law 9 RL wsL_law ret0) (hl0 : l.stackTraces = false) (Z : gZ A s) (X : gC s) (hX : va_X b L xs s s.heap) (hbl : b < s.heap.size) (hbA : ¬ A b) (hL : L ≤ 2560) (hi : 0 ≤ i ∧ i + 5 ≤ L) (hLI : LI σ dd) (hc : cells + 3 ≤ 601024 ∧ slots + 18 ≤ 7293034) (kk : ∀ (σ' : Nat → St) (th' dd' : Int32) (kp' : Nat → Nat → Int32) (g' : Nat → Int64), LI σ' dd' → GW p l e room_1 s m #[Value.ref b] below meth c Q D A 9 ((wX cA ad σ' ++ oW cA o g') ++ wM cA am (σ' 0) th' dd' kp') (cells + 3) (slots + 18) 1697 [(0, .ref b), (1, .ref (ad 0 8 0)), (2, .ref (am 0)), (3, .ref o), (4, .int (zI i))] []) : GW p l e room_1 s m #[Value.ref b] below meth c Q D A 9 ((wX cA ad σ ++ oW cA o g) ++ wM cA am (σ 0) th dd kp) (cells) (slots) 352 [(0, .ref b), (1, .ref (ad 0 8 0)), (2, .ref (am 0)), (3, .ref o), (4, .int (zI i))] [] := by
  refine g_aload_n E dL_law_352 rfl ?_
  refine g_aload_n E dL_law_353 rfl ?_
  refine g_iload E dL_law_354 rfl ?_
  refine g_iconst E dL_law_356 ?_
  refine g_iadd E dL_law_357 ?_
  refine g_sld E hX hbl hbA (by omega) hL dL_law_358 ?_
  refine g_aload_n E dL_law_359 rfl ?_
  refine g_fW (n := 3) (As := [_, _, _]) (rest := []) E Z X (l_setRain l hl0 D cA _ ad σ o g hLI.1 hLI.2.1 _ (i32_rng _)) gL_law_L_setRain rfl ⟨rfl, rfl⟩ (by decide +kernel) ⟨Nat.le_of_ble_eq_true rfl, Nat.le_of_ble_eq_true rfl⟩ rfl rfl (Nat.le_of_ble_eq_true rfl) ⟨hc.1, hc.2⟩ dL_law_360 ?_
  rintro r1 ws1 hp1
  refine g_istore E dL_law_363 (by decide) ?_
  refine g_aload_n E dL_law_365 rfl ?_
  refine g_aload_n E dL_law_366 rfl ?_
  refine g_iload E dL_law_367 rfl ?_
  refine g_iconst E dL_law_369 ?_
  refine g_iadd E dL_law_370 ?_
  refine g_sld E hX hbl hbA (by omega) hL dL_law_371 ?_
  refine g_sw ?_
  refine g_fVi (T := TX5) (ci := 5) (n := 1) (As := [_]) (rest := []) E (m_setRain l D cA _ am (σ 0) th dd kp hLI.1 _ (i32_rng _)) gL_law_X5_setRain rfl ⟨rfl, rfl⟩ (by decide +kernel) ⟨Nat.le_of_ble_eq_true rfl, Nat.le_of_ble_eq_true rfl⟩ obM rfl rfl rfl (Nat.le_of_ble_eq_true rfl) ⟨hc.1, hc.2⟩ dL_law_372 ?_
  rintro r2 ws2 hp2
  refine g_sw ?_
  obtain ⟨σ1, g1, dd1, kp1, t1, rfl, rfl, hLI1, hr, hz⟩ := lj2 (by unfold eIn; split <;> (try split) <;> (try split) <;> (try split) <;> (try split) <;> omega) hp1 hp2 hLI (fun he => ⟨(rain_g hLI.1).1, hLI.2.2.trans (rain_g hLI.1).2.2.2.symm⟩)
  refine g_istore E dL_law_375 (by decide) ?_
  refine g_aload_n E dL_law_377 rfl ?_
  refine g_sw ?_
  refine g_fVi (T := TX5) (ci := 5) (n := 0) (As := []) (rest := []) E (m_thrown l D cA _ am (σ1 0) t1 dd1 kp1) gL_law_X5_thrown rfl ⟨rfl, rfl⟩ (by decide +kernel) ⟨Nat.le_of_ble_eq_true rfl, Nat.le_of_ble_eq_true rfl⟩ obM rfl rfl rfl (Nat.le_of_ble_eq_true rfl) ⟨hc.1, hc.2⟩ dL_law_378 ?_
  rintro r3 ws3 ⟨h3, rfl⟩
  obtain rfl : t1 = r3 := h3.symm
  refine g_sw ?_
  refine g_iload E dL_law_381 rfl ?_
  refine g_icmp_eqR (tgt := 388) E dL_law_383 (by decide) (fun _ => ?_) (fun z => absurd hr.symm z)
  refine g_iload E dL_law_388 rfl ?_
  have hend : GW p l e room_1 s m #[Value.ref b] below meth c Q D A 9 ((wX cA ad σ1 ++ oW cA o g1) ++ wM cA am (σ1 0) t1 dd1 kp1) (cells + 3) (slots + 18) 405 [(0, .ref b), (1, .ref (ad 0 8 0)), (2, .ref (am 0)), (3, .ref o), (4, .int (zI i))] [] := by
    refine g_goto (tgt := 1697) E dL_law_405 (by decide) ?_
    exact kk σ1 t1 dd1 kp1 g1 hLI1
  refine g_if_neR (tgt := 405) E dL_law_390 (by decide) (fun _ => ?_) (fun z => ?_)
  · refine g_loc (lv' := [(0, .ref b), (1, .ref (ad 0 8 0)), (2, .ref (am 0)), (3, .ref o), (4, .int (zI i))]) ⟨rfl, rfl, rfl, rfl, rfl, trivial⟩ ?_
    exact hend
  · refine g_aload_n E dL_law_393 rfl ?_
    refine g_iconst E dL_law_394 ?_
    refine g_lald E dL_law_395 ?_
    refine g_iload E dL_law_396 rfl ?_
    refine g_i2l E dL_law_398 ?_
    refine g_lcmp E dL_law_399 ?_
    refine g_if_eqR (tgt := 405) E dL_law_400 (by decide) (fun _ => ?_) (fun z2 => absurd (by rw [(hz z).1, (hz z).2]; simp [lg_cmp]) z2)
    refine g_loc (lv' := [(0, .ref b), (1, .ref (ad 0 8 0)), (2, .ref (am 0)), (3, .ref o), (4, .int (zI i))]) ⟨rfl, rfl, rfl, rfl, rfl, trivial⟩ ?_
    exact hend
set_option maxHeartbeats 1600000 in
set_option maxRecDepth 100000 in
/-- setLimit -/
theorem case_4 {p : Program} {l : Launch} {e : Env} {s : State} {m : MethodId} {b : Nat} {below : List Frame} {meth : Method} {c : Code} {Q : State → Prop} {D : va_G} {A : Nat → Prop} {cells slots : Nat} {ret0 : Option FieldType} {cA : Nat → ClassId} {ad : Ad} {am : Nat → Nat} {o L : Nat} {xs : Nat → Int32} {σ : Nat → St} {th dd : Int32} {kp : Nat → Nat → Int32} {g : Nat → Int64} {i : Int} (E : GE p s m #[Value.ref b] meth c D (tysX cA) cL_law 9 RL wsL_law ret0) (hl0 : l.stackTraces = false) (Z : gZ A s) (X : gC s) (hX : va_X b L xs s s.heap) (hbl : b < s.heap.size) (hbA : ¬ A b) (hL : L ≤ 2560) (hi : 0 ≤ i ∧ i + 5 ≤ L) (hLI : LI σ dd) (hc : cells + 3 ≤ 601024 ∧ slots + 18 ≤ 7293034) (kk : ∀ (σ' : Nat → St) (th' dd' : Int32) (kp' : Nat → Nat → Int32) (g' : Nat → Int64), LI σ' dd' → GW p l e room_1 s m #[Value.ref b] below meth c Q D A 9 ((wX cA ad σ' ++ oW cA o g') ++ wM cA am (σ' 0) th' dd' kp') (cells + 3) (slots + 18) 1697 [(0, .ref b), (1, .ref (ad 0 8 0)), (2, .ref (am 0)), (3, .ref o), (4, .int (zI i))] []) : GW p l e room_1 s m #[Value.ref b] below meth c Q D A 9 ((wX cA ad σ ++ oW cA o g) ++ wM cA am (σ 0) th dd kp) (cells) (slots) 408 [(0, .ref b), (1, .ref (ad 0 8 0)), (2, .ref (am 0)), (3, .ref o), (4, .int (zI i))] [] := by
  refine g_aload_n E dL_law_408 rfl ?_
  refine g_aload_n E dL_law_409 rfl ?_
  refine g_iload E dL_law_410 rfl ?_
  refine g_iconst E dL_law_412 ?_
  refine g_iadd E dL_law_413 ?_
  refine g_sld E hX hbl hbA (by omega) hL dL_law_414 ?_
  refine g_aload_n E dL_law_415 rfl ?_
  refine g_fW (n := 3) (As := [_, _, _]) (rest := []) E Z X (l_setLimit l hl0 D cA _ ad σ o g hLI.1 hLI.2.1 _ (i32_rng _)) gL_law_L_setLimit rfl ⟨rfl, rfl⟩ (by decide +kernel) ⟨Nat.le_of_ble_eq_true rfl, Nat.le_of_ble_eq_true rfl⟩ rfl rfl (Nat.le_of_ble_eq_true rfl) ⟨hc.1, hc.2⟩ dL_law_416 ?_
  rintro r1 ws1 hp1
  refine g_istore E dL_law_419 (by decide) ?_
  refine g_aload_n E dL_law_421 rfl ?_
  refine g_aload_n E dL_law_422 rfl ?_
  refine g_iload E dL_law_423 rfl ?_
  refine g_iconst E dL_law_425 ?_
  refine g_iadd E dL_law_426 ?_
  refine g_sld E hX hbl hbA (by omega) hL dL_law_427 ?_
  refine g_sw ?_
  refine g_fVi (T := TX5) (ci := 5) (n := 1) (As := [_]) (rest := []) E (m_setLimit l D cA _ am (σ 0) th dd kp hLI.1 _ (i32_rng _)) gL_law_X5_setLimit rfl ⟨rfl, rfl⟩ (by decide +kernel) ⟨Nat.le_of_ble_eq_true rfl, Nat.le_of_ble_eq_true rfl⟩ obM rfl rfl rfl (Nat.le_of_ble_eq_true rfl) ⟨hc.1, hc.2⟩ dL_law_428 ?_
  rintro r2 ws2 hp2
  refine g_sw ?_
  obtain ⟨σ1, g1, dd1, kp1, t1, rfl, rfl, hLI1, hr, hz⟩ := lj2 (by unfold eIn; split <;> (try split) <;> (try split) <;> (try split) <;> (try split) <;> omega) hp1 hp2 hLI (fun he => ⟨(limit_g hLI.1).1, hLI.2.2.trans (limit_g hLI.1).2.2.2.symm⟩)
  refine g_istore E dL_law_431 (by decide) ?_
  refine g_aload_n E dL_law_433 rfl ?_
  refine g_sw ?_
  refine g_fVi (T := TX5) (ci := 5) (n := 0) (As := []) (rest := []) E (m_thrown l D cA _ am (σ1 0) t1 dd1 kp1) gL_law_X5_thrown rfl ⟨rfl, rfl⟩ (by decide +kernel) ⟨Nat.le_of_ble_eq_true rfl, Nat.le_of_ble_eq_true rfl⟩ obM rfl rfl rfl (Nat.le_of_ble_eq_true rfl) ⟨hc.1, hc.2⟩ dL_law_434 ?_
  rintro r3 ws3 ⟨h3, rfl⟩
  obtain rfl : t1 = r3 := h3.symm
  refine g_sw ?_
  refine g_iload E dL_law_437 rfl ?_
  refine g_icmp_eqR (tgt := 444) E dL_law_439 (by decide) (fun _ => ?_) (fun z => absurd hr.symm z)
  refine g_iload E dL_law_444 rfl ?_
  have hend : GW p l e room_1 s m #[Value.ref b] below meth c Q D A 9 ((wX cA ad σ1 ++ oW cA o g1) ++ wM cA am (σ1 0) t1 dd1 kp1) (cells + 3) (slots + 18) 461 [(0, .ref b), (1, .ref (ad 0 8 0)), (2, .ref (am 0)), (3, .ref o), (4, .int (zI i))] [] := by
    refine g_goto (tgt := 1697) E dL_law_461 (by decide) ?_
    exact kk σ1 t1 dd1 kp1 g1 hLI1
  refine g_if_neR (tgt := 461) E dL_law_446 (by decide) (fun _ => ?_) (fun z => ?_)
  · refine g_loc (lv' := [(0, .ref b), (1, .ref (ad 0 8 0)), (2, .ref (am 0)), (3, .ref o), (4, .int (zI i))]) ⟨rfl, rfl, rfl, rfl, rfl, trivial⟩ ?_
    exact hend
  · refine g_aload_n E dL_law_449 rfl ?_
    refine g_iconst E dL_law_450 ?_
    refine g_lald E dL_law_451 ?_
    refine g_iload E dL_law_452 rfl ?_
    refine g_i2l E dL_law_454 ?_
    refine g_lcmp E dL_law_455 ?_
    refine g_if_eqR (tgt := 461) E dL_law_456 (by decide) (fun _ => ?_) (fun z2 => absurd (by rw [(hz z).1, (hz z).2]; simp [lg_cmp]) z2)
    refine g_loc (lv' := [(0, .ref b), (1, .ref (ad 0 8 0)), (2, .ref (am 0)), (3, .ref o), (4, .int (zI i))]) ⟨rfl, rfl, rfl, rfl, rfl, trivial⟩ ?_
    exact hend
set_option maxHeartbeats 1600000 in
set_option maxRecDepth 100000 in
/-- stack -/
theorem case_5 {p : Program} {l : Launch} {e : Env} {s : State} {m : MethodId} {b : Nat} {below : List Frame} {meth : Method} {c : Code} {Q : State → Prop} {D : va_G} {A : Nat → Prop} {cells slots : Nat} {ret0 : Option FieldType} {cA : Nat → ClassId} {ad : Ad} {am : Nat → Nat} {o L : Nat} {xs : Nat → Int32} {σ : Nat → St} {th dd : Int32} {kp : Nat → Nat → Int32} {g : Nat → Int64} {i : Int} (E : GE p s m #[Value.ref b] meth c D (tysX cA) cL_law 9 RL wsL_law ret0) (hl0 : l.stackTraces = false) (Z : gZ A s) (X : gC s) (hX : va_X b L xs s s.heap) (hbl : b < s.heap.size) (hbA : ¬ A b) (hL : L ≤ 2560) (hi : 0 ≤ i ∧ i + 5 ≤ L) (hLI : LI σ dd) (hc : cells + 3 ≤ 601024 ∧ slots + 18 ≤ 7293034) (kk : ∀ (σ' : Nat → St) (th' dd' : Int32) (kp' : Nat → Nat → Int32) (g' : Nat → Int64), LI σ' dd' → GW p l e room_1 s m #[Value.ref b] below meth c Q D A 9 ((wX cA ad σ' ++ oW cA o g') ++ wM cA am (σ' 0) th' dd' kp') (cells + 3) (slots + 18) 1697 [(0, .ref b), (1, .ref (ad 0 8 0)), (2, .ref (am 0)), (3, .ref o), (4, .int (zI i))] []) : GW p l e room_1 s m #[Value.ref b] below meth c Q D A 9 ((wX cA ad σ ++ oW cA o g) ++ wM cA am (σ 0) th dd kp) (cells) (slots) 464 [(0, .ref b), (1, .ref (ad 0 8 0)), (2, .ref (am 0)), (3, .ref o), (4, .int (zI i))] [] := by
  refine g_aload_n E dL_law_464 rfl ?_
  refine g_aload_n E dL_law_465 rfl ?_
  refine g_iload E dL_law_466 rfl ?_
  refine g_iconst E dL_law_468 ?_
  refine g_iadd E dL_law_469 ?_
  refine g_sld E hX hbl hbA (by omega) hL dL_law_470 ?_
  refine g_aload_n E dL_law_471 rfl ?_
  refine g_iload E dL_law_472 rfl ?_
  refine g_iconst E dL_law_474 ?_
  refine g_iadd E dL_law_475 ?_
  refine g_sld E hX hbl hbA (by omega) hL dL_law_476 ?_
  refine g_aload_n E dL_law_477 rfl ?_
  refine g_fW (n := 4) (As := [_, _, _, _]) (rest := []) E Z X (l_stack l hl0 D cA _ ad σ o g hLI.1 hLI.2.1 _ _ (i32_rng _) (i32_rng _)) gL_law_L_stack rfl ⟨rfl, rfl⟩ (by decide +kernel) ⟨Nat.le_of_ble_eq_true rfl, Nat.le_of_ble_eq_true rfl⟩ rfl rfl (Nat.le_of_ble_eq_true rfl) ⟨hc.1, hc.2⟩ dL_law_478 ?_
  rintro r1 ws1 hp1
  refine g_istore E dL_law_481 (by decide) ?_
  refine g_aload_n E dL_law_483 rfl ?_
  refine g_aload_n E dL_law_484 rfl ?_
  refine g_iload E dL_law_485 rfl ?_
  refine g_iconst E dL_law_487 ?_
  refine g_iadd E dL_law_488 ?_
  refine g_sld E hX hbl hbA (by omega) hL dL_law_489 ?_
  refine g_aload_n E dL_law_490 rfl ?_
  refine g_iload E dL_law_491 rfl ?_
  refine g_iconst E dL_law_493 ?_
  refine g_iadd E dL_law_494 ?_
  refine g_sld E hX hbl hbA (by omega) hL dL_law_495 ?_
  refine g_sw ?_
  refine g_fVi (T := TX5) (ci := 5) (n := 2) (As := [_, _]) (rest := []) E (m_stack l D cA _ am (σ 0) th dd kp hLI.1 _ _ (i32_rng _) (i32_rng _)) gL_law_X5_stack rfl ⟨rfl, rfl⟩ (by decide +kernel) ⟨Nat.le_of_ble_eq_true rfl, Nat.le_of_ble_eq_true rfl⟩ obM rfl rfl rfl (Nat.le_of_ble_eq_true rfl) ⟨hc.1, hc.2⟩ dL_law_496 ?_
  rintro r2 ws2 hp2
  refine g_sw ?_
  obtain ⟨σ1, g1, dd1, kp1, t1, rfl, rfl, hLI1, hr, hz⟩ := lj2 (by unfold eStack; split <;> (try split) <;> (try split) <;> (try split) <;> (try split) <;> omega) hp1 hp2 hLI (fun he => ⟨(stkS_g hLI.1 he).1, hLI.2.2.trans (stkS_g hLI.1 he).2.2.2.symm⟩)
  refine g_istore E dL_law_499 (by decide) ?_
  refine g_aload_n E dL_law_501 rfl ?_
  refine g_sw ?_
  refine g_fVi (T := TX5) (ci := 5) (n := 0) (As := []) (rest := []) E (m_thrown l D cA _ am (σ1 0) t1 dd1 kp1) gL_law_X5_thrown rfl ⟨rfl, rfl⟩ (by decide +kernel) ⟨Nat.le_of_ble_eq_true rfl, Nat.le_of_ble_eq_true rfl⟩ obM rfl rfl rfl (Nat.le_of_ble_eq_true rfl) ⟨hc.1, hc.2⟩ dL_law_502 ?_
  rintro r3 ws3 ⟨h3, rfl⟩
  obtain rfl : t1 = r3 := h3.symm
  refine g_sw ?_
  refine g_iload E dL_law_505 rfl ?_
  refine g_icmp_eqR (tgt := 512) E dL_law_507 (by decide) (fun _ => ?_) (fun z => absurd hr.symm z)
  refine g_iload E dL_law_512 rfl ?_
  have hend : GW p l e room_1 s m #[Value.ref b] below meth c Q D A 9 ((wX cA ad σ1 ++ oW cA o g1) ++ wM cA am (σ1 0) t1 dd1 kp1) (cells + 3) (slots + 18) 529 [(0, .ref b), (1, .ref (ad 0 8 0)), (2, .ref (am 0)), (3, .ref o), (4, .int (zI i))] [] := by
    refine g_goto (tgt := 1697) E dL_law_529 (by decide) ?_
    exact kk σ1 t1 dd1 kp1 g1 hLI1
  refine g_if_neR (tgt := 529) E dL_law_514 (by decide) (fun _ => ?_) (fun z => ?_)
  · refine g_loc (lv' := [(0, .ref b), (1, .ref (ad 0 8 0)), (2, .ref (am 0)), (3, .ref o), (4, .int (zI i))]) ⟨rfl, rfl, rfl, rfl, rfl, trivial⟩ ?_
    exact hend
  · refine g_aload_n E dL_law_517 rfl ?_
    refine g_iconst E dL_law_518 ?_
    refine g_lald E dL_law_519 ?_
    refine g_iload E dL_law_520 rfl ?_
    refine g_i2l E dL_law_522 ?_
    refine g_lcmp E dL_law_523 ?_
    refine g_if_eqR (tgt := 529) E dL_law_524 (by decide) (fun _ => ?_) (fun z2 => absurd (by rw [(hz z).1, (hz z).2]; simp [lg_cmp]) z2)
    refine g_loc (lv' := [(0, .ref b), (1, .ref (ad 0 8 0)), (2, .ref (am 0)), (3, .ref o), (4, .int (zI i))]) ⟨rfl, rfl, rfl, rfl, rfl, trivial⟩ ?_
    exact hend
set_option maxHeartbeats 1600000 in
set_option maxRecDepth 100000 in
/-- fire -/
theorem case_6 {p : Program} {l : Launch} {e : Env} {s : State} {m : MethodId} {b : Nat} {below : List Frame} {meth : Method} {c : Code} {Q : State → Prop} {D : va_G} {A : Nat → Prop} {cells slots : Nat} {ret0 : Option FieldType} {cA : Nat → ClassId} {ad : Ad} {am : Nat → Nat} {o L : Nat} {xs : Nat → Int32} {σ : Nat → St} {th dd : Int32} {kp : Nat → Nat → Int32} {g : Nat → Int64} {i : Int} (E : GE p s m #[Value.ref b] meth c D (tysX cA) cL_law 9 RL wsL_law ret0) (hl0 : l.stackTraces = false) (Z : gZ A s) (X : gC s) (hX : va_X b L xs s s.heap) (hbl : b < s.heap.size) (hbA : ¬ A b) (hL : L ≤ 2560) (hi : 0 ≤ i ∧ i + 5 ≤ L) (hLI : LI σ dd) (hc : cells + 3 ≤ 601024 ∧ slots + 18 ≤ 7293034) (kk : ∀ (σ' : Nat → St) (th' dd' : Int32) (kp' : Nat → Nat → Int32) (g' : Nat → Int64), LI σ' dd' → GW p l e room_1 s m #[Value.ref b] below meth c Q D A 9 ((wX cA ad σ' ++ oW cA o g') ++ wM cA am (σ' 0) th' dd' kp') (cells + 3) (slots + 18) 1697 [(0, .ref b), (1, .ref (ad 0 8 0)), (2, .ref (am 0)), (3, .ref o), (4, .int (zI i))] []) : GW p l e room_1 s m #[Value.ref b] below meth c Q D A 9 ((wX cA ad σ ++ oW cA o g) ++ wM cA am (σ 0) th dd kp) (cells) (slots) 532 [(0, .ref b), (1, .ref (ad 0 8 0)), (2, .ref (am 0)), (3, .ref o), (4, .int (zI i))] [] := by
  refine g_aload_n E dL_law_532 rfl ?_
  refine g_aload_n E dL_law_533 rfl ?_
  refine g_iload E dL_law_534 rfl ?_
  refine g_iconst E dL_law_536 ?_
  refine g_iadd E dL_law_537 ?_
  refine g_sld E hX hbl hbA (by omega) hL dL_law_538 ?_
  refine g_aload_n E dL_law_539 rfl ?_
  refine g_iload E dL_law_540 rfl ?_
  refine g_iconst E dL_law_542 ?_
  refine g_iadd E dL_law_543 ?_
  refine g_sld E hX hbl hbA (by omega) hL dL_law_544 ?_
  refine g_aload_n E dL_law_545 rfl ?_
  refine g_fW (n := 4) (As := [_, _, _, _]) (rest := []) E Z X (l_fire l hl0 D cA _ ad σ o g hLI.1 hLI.2.1 _ _ (i32_rng _) (i32_rng _)) gL_law_L_fire rfl ⟨rfl, rfl⟩ (by decide +kernel) ⟨Nat.le_of_ble_eq_true rfl, Nat.le_of_ble_eq_true rfl⟩ rfl rfl (Nat.le_of_ble_eq_true rfl) ⟨hc.1, hc.2⟩ dL_law_546 ?_
  rintro r1 ws1 hp1
  refine g_istore E dL_law_549 (by decide) ?_
  refine g_aload_n E dL_law_551 rfl ?_
  refine g_aload_n E dL_law_552 rfl ?_
  refine g_iload E dL_law_553 rfl ?_
  refine g_iconst E dL_law_555 ?_
  refine g_iadd E dL_law_556 ?_
  refine g_sld E hX hbl hbA (by omega) hL dL_law_557 ?_
  refine g_aload_n E dL_law_558 rfl ?_
  refine g_iload E dL_law_559 rfl ?_
  refine g_iconst E dL_law_561 ?_
  refine g_iadd E dL_law_562 ?_
  refine g_sld E hX hbl hbA (by omega) hL dL_law_563 ?_
  refine g_sw ?_
  refine g_fVi (T := TX5) (ci := 5) (n := 2) (As := [_, _]) (rest := []) E (m_fire l D cA _ am (σ 0) th dd kp hLI.1 _ _ (i32_rng _) (i32_rng _)) gL_law_X5_fire rfl ⟨rfl, rfl⟩ (by decide +kernel) ⟨Nat.le_of_ble_eq_true rfl, Nat.le_of_ble_eq_true rfl⟩ obM rfl rfl rfl (Nat.le_of_ble_eq_true rfl) ⟨hc.1, hc.2⟩ dL_law_564 ?_
  rintro r2 ws2 hp2
  refine g_sw ?_
  obtain ⟨σ1, g1, dd1, kp1, t1, rfl, rfl, hLI1, hr, hz⟩ := lj2 (by unfold eFire; split <;> (try split) <;> (try split) <;> (try split) <;> (try split) <;> omega) hp1 hp2 hLI (fun he => ⟨(firS_g hLI.1 he).1, hLI.2.2.trans (firS_g hLI.1 he).2.2.2.symm⟩)
  refine g_istore E dL_law_567 (by decide) ?_
  refine g_aload_n E dL_law_569 rfl ?_
  refine g_sw ?_
  refine g_fVi (T := TX5) (ci := 5) (n := 0) (As := []) (rest := []) E (m_thrown l D cA _ am (σ1 0) t1 dd1 kp1) gL_law_X5_thrown rfl ⟨rfl, rfl⟩ (by decide +kernel) ⟨Nat.le_of_ble_eq_true rfl, Nat.le_of_ble_eq_true rfl⟩ obM rfl rfl rfl (Nat.le_of_ble_eq_true rfl) ⟨hc.1, hc.2⟩ dL_law_570 ?_
  rintro r3 ws3 ⟨h3, rfl⟩
  obtain rfl : t1 = r3 := h3.symm
  refine g_sw ?_
  refine g_iload E dL_law_573 rfl ?_
  refine g_icmp_eqR (tgt := 580) E dL_law_575 (by decide) (fun _ => ?_) (fun z => absurd hr.symm z)
  refine g_iload E dL_law_580 rfl ?_
  have hend : GW p l e room_1 s m #[Value.ref b] below meth c Q D A 9 ((wX cA ad σ1 ++ oW cA o g1) ++ wM cA am (σ1 0) t1 dd1 kp1) (cells + 3) (slots + 18) 597 [(0, .ref b), (1, .ref (ad 0 8 0)), (2, .ref (am 0)), (3, .ref o), (4, .int (zI i))] [] := by
    refine g_goto (tgt := 1697) E dL_law_597 (by decide) ?_
    exact kk σ1 t1 dd1 kp1 g1 hLI1
  refine g_if_neR (tgt := 597) E dL_law_582 (by decide) (fun _ => ?_) (fun z => ?_)
  · refine g_loc (lv' := [(0, .ref b), (1, .ref (ad 0 8 0)), (2, .ref (am 0)), (3, .ref o), (4, .int (zI i))]) ⟨rfl, rfl, rfl, rfl, rfl, trivial⟩ ?_
    exact hend
  · refine g_aload_n E dL_law_585 rfl ?_
    refine g_iconst E dL_law_586 ?_
    refine g_lald E dL_law_587 ?_
    refine g_iload E dL_law_588 rfl ?_
    refine g_i2l E dL_law_590 ?_
    refine g_lcmp E dL_law_591 ?_
    refine g_if_eqR (tgt := 597) E dL_law_592 (by decide) (fun _ => ?_) (fun z2 => absurd (by rw [(hz z).1, (hz z).2]; simp [lg_cmp]) z2)
    refine g_loc (lv' := [(0, .ref b), (1, .ref (ad 0 8 0)), (2, .ref (am 0)), (3, .ref o), (4, .int (zI i))]) ⟨rfl, rfl, rfl, rfl, rfl, trivial⟩ ?_
    exact hend
