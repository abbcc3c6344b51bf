/-! ===== ACT: a pile, a cat ===== -/
set_option maxHeartbeats 1600000 in
set_option maxRecDepth 100000 in
/-- 0: a pile -/
theorem act_0 {p : Program} {l : Launch} {e : Env} {s : State} {m : MethodId} {below : List Frame} {meth : Method} {c : Code} {D : va_G} {A : Nat → Prop} {cA : Nat → ClassId} {am ad : Ad} {σ : Nat → St} {L : List Id3} {w3 : va_W} {a : St} {t : Int} {x9 : Int32} {p9 : Nat} {vits : Value} {srt : Int} (hl0 : l.stackTraces = false) (E : GE p s m ([.ref (ad 0 8 0), .ref (am 0 0 0), .int x9] : List Value).toArray meth c D (tysX cA) cL_act 26 RL wsL_act (some .boolean)) (Z : gZ A s) (X : gX s) (hS : SH L a) (hJ : J t a) (ht : 0 ≤ t ∧ t ≤ 100) (hits : np a = 0 ∨ (vits = .ref (am 1 p9 0) ∧ (p9 : Int) < np a)) (hs : ¬ (srt = 2 ∨ srt = 3)) : GW p l e (headSpec wsL_act ({ frames := 9, cells := 120, slots := 2000, locals := 200 })).room s m ([.ref (ad 0 8 0), .ref (am 0 0 0), .int x9] : List Value).toArray below meth c (MQ below (va_Qi (ActP cA am ad σ w3 a t srt) (gB D A) A) ([.ref (ad 0 8 0), .ref (am 0 0 0), .int x9] : List Value).toArray s 120 2000 A) D A 26 (wS cA am L a ++ (wX cA ad (upY σ 0 a) ++ w3)) (0) (0) 128 [(0, .ref (ad 0 8 0)), (1, .ref (am 0 0 0)), (2, .int x9), (3, .int (zI (np a))), (4, .int (zI (p9 : Int)))] [] := by
  have hA : ∀ q, s.heap.size ≤ q → A q := Z.2.1
  have hin5 : ∀ w ∈ u_ws RX5 TX5 9, w ∈ wsL_act := by decide +kernel
  have hin7 : ∀ w ∈ u_ws RX7 TX7 5, w ∈ wsL_act := by decide +kernel
  have hI := hJ.1
  obtain ⟨hL, hB, hPm, hCm, -, -⟩ := id hS
  obtain ⟨⟨hn0, hn6, hc0, hc3⟩, hPI, hCI, hFr⟩ := id hI
  refine g_iload_n E dL_act_128 rfl ?_
  refine g_bipush E dL_act_129 (by decide) ?_
  refine g_icmp_ne (tgt := 136) E dL_act_131 (by decide) (by omega) (by omega) (fun c_131 => ?_) (fun c_131 => ?_)
  · refine g_iload_n E dL_act_136 rfl ?_
    refine g_iconst E dL_act_137 ?_
    refine g_iadd E dL_act_138 ?_
    refine g_top (v' := .int (zI (((np a).toNat + 1 : Nat) : Int))) (by rw [show (((np a).toNat + 1 : Nat) : Int) = np a + 1 by omega]) ?_
    refine g_newq E hA (by decide +kernel) X.1.1 (find5 E.2.2.2.2.2.1.1) (by omega) (by show (_ : Nat) ≤ 120; omega) (by show (_ : Nat) ≤ 2000; omega) dL_act_139 (fun qa => ?_)
    refine g_asc2 ?_
    refine g_astore E dL_act_142 (by decide) ?_
    refine g_iconst E dL_act_144 ?_
    refine g_istore E dL_act_145 (by decide) ?_
    refine g_wid (k := 1) (n := 7) (by omega) (by omega) ?_
    have key_kk : ∀ (n_kk kk : Nat), (kk : Int) ≤ np a → np a + 1 ≤ (kk : Int) + n_kk → GW p l e (headSpec wsL_act ({ frames := 9, cells := 120, slots := 2000, locals := 200 })).room s m ([.ref (ad 0 8 0), .ref (am 0 0 0), .int x9] : List Value).toArray below meth c (MQ below (va_Qi (ActP cA am ad σ w3 a t srt) (gB D A) A) ([.ref (ad 0 8 0), .ref (am 0 0 0), .int x9] : List Value).toArray s 120 2000 A) D A 26 (wS cA am L a ++ (wX cA ad (upY σ 0 a) ++ (w3 ++ [(qa, .inl (cA 5, (np a).toNat + 1, .inr (.inr (.inr (.inr (qF kk (fun j => am 1 j 0)))))))]))) (1) (7) 147 [(0, .ref (ad 0 8 0)), (1, .ref (am 0 0 0)), (2, .int x9), (3, .int (zI (np a))), (4, .int (zI (p9 : Int))), (6, .ref qa), (7, .int (zI (kk : Int)))] [] := by
      intro n_kk
      induction n_kk with
      | zero => intro kk h1 h2; exact absurd h2 (by omega)
      | succ n_kk ih_kk =>
        intro kk hle_kk hfu_kk
        refine g_iload E dL_act_147 rfl ?_
        refine g_iload_n E dL_act_149 rfl ?_
        refine g_icmp_ge (tgt := 171) E dL_act_150 (by decide) (by omega) (by omega) (fun c_150 => ?_) (fun c_150 => ?_)
        · obtain rfl : kk = (np a).toNat := (by omega)
          refine g_aload E dL_act_171 rfl ?_
          refine g_iload_n E dL_act_173 rfl ?_
          refine g_new (fs := [.int 0, .int 0, .int 0, .null, .null]) (T := TX7) (N := 5) (ci := 7) E hA hin7 tyX7 tyX7_ok (by decide +kernel) (by decide +kernel) (by decide +kernel) rfl (fun j hj => by rcases (show j = 0 ∨ j = 1 ∨ j = 2 ∨ j = 3 ∨ j = 4 by omega) with rfl | rfl | rfl | rfl | rfl <;> rfl) (by show (_ : Nat) ≤ 120; omega) (by show (_ : Nat) ≤ 2000; omega) dL_act_174 (fun b9 => ?_)
          refine g_dup E dL_act_177 rfl ?_
          refine g_iload_n E dL_act_178 rfl ?_
          refine g_iconst E dL_act_179 ?_
          refine g_ishr E dL_act_180 ?_
          refine g_iconst E dL_act_181 ?_
          refine g_callTi (n := 2) (As := [_, _]) (rest := _) E (c_L_below l D cA A _ (x9 >>> (zI 1 &&& 31)) (3 : Int) (by omega)) gL_act_L_below rfl ⟨rfl, rfl⟩ (by decide +kernel) ⟨Nat.le_of_ble_eq_true rfl, Nat.le_of_ble_eq_true rfl⟩ rfl rfl (Nat.le_of_ble_eq_true rfl) ⟨by show (_ : Nat) ≤ 120; omega, by show (_ : Nat) ≤ 2000; omega⟩ dL_act_182 ?_
          rintro r_182 ws_182 ⟨rfl, rfl⟩
          have hb_182 := beV_b (x9 >>> (zI 1 &&& 31)) (show (1 : Int) ≤ (3 : Int) by omega)
          refine g_iconst E dL_act_185 ?_
          refine g_iload_n E dL_act_186 rfl ?_
          refine g_iconst E dL_act_187 ?_
          refine g_ishr E dL_act_188 ?_
          refine g_bipush E dL_act_189 (by decide) ?_
          refine g_callTi (n := 2) (As := [_, _]) (rest := _) E (c_L_below l D cA A _ (x9 >>> (zI 3 &&& 31)) (6 : Int) (by omega)) gL_act_L_below rfl ⟨rfl, rfl⟩ (by decide +kernel) ⟨Nat.le_of_ble_eq_true rfl, Nat.le_of_ble_eq_true rfl⟩ rfl rfl (Nat.le_of_ble_eq_true rfl) ⟨by show (_ : Nat) ≤ 120; omega, by show (_ : Nat) ≤ 2000; omega⟩ dL_act_191 ?_
          rintro r_191 ws_191 ⟨rfl, rfl⟩
          have hb_191 := beV_b (x9 >>> (zI 3 &&& 31)) (show (1 : Int) ≤ (6 : Int) by omega)
          refine g_iadd E dL_act_194 ?_
          obtain ⟨c9, hc9⟩ : ∃ z : Int, beV (x9 >>> (zI 1 &&& 31)) 3 = z := ⟨_, rfl⟩
          rw [hc9]
          obtain ⟨s9, hs9⟩ : ∃ z : Int, 1 + beV (x9 >>> (zI 3 &&& 31)) 6 = z := ⟨_, rfl⟩
          rw [hs9]
          refine g_callJ (n := 2) (As := [.int (zI c9), .int (zI s9)]) (rest := [.ref b9, .int (zI (np a)), .ref qa]) (wr := wS cA am L a ++ (wX cA ad (upY σ 0 a) ++ (w3 ++ [(qa, .inl (cA 5, (np a).toNat + 1, .inr (.inr (.inr (.inr (qF (np a).toNat (fun j => am 1 j 0)))))))]))) E hA X.1 (fun sz => c_X7_init l D cA c9 s9 (by omega) sz _) gL_act_X7_init rfl ⟨rfl, rfl⟩ (by decide +kernel) (by decide +kernel) (by decide +kernel) rfl (by decide +kernel) ?_ rfl rfl ?_ ?_ dL_act_195 ?_
          · exact ⟨Nat.le_of_ble_eq_true rfl, Nat.le_of_ble_eq_true rfl⟩
          · exact Nat.le_of_ble_eq_true rfl
          · exact ⟨Nat.le_of_ble_eq_true rfl, Nat.le_of_ble_eq_true rfl⟩
          rintro w1 ⟨q1, q2, tr, rfl⟩
          refine g_aastE 5 E (r := (RX7, TX7, 5)) (ci := 7) rfl rfl (by omega) (by omega) (at_ob (at_r (at_i 0 rfl))) (se_l (se_r (se_r (se_r (se_i 0 rfl rfl))))) dL_act_198 ?_
          refine g_aload_n E dL_act_199 rfl ?_
          refine g_aload E dL_act_200 rfl ?_
          refine g_st (ws' := (wS cA am L a ++ ((wX cA ad (upY σ 0 a) ++ w3) ++ [(qa, .inl (cA 5, (np a).toNat + 1, .inr (.inr (.inr (.inr (va_up (qF (np a).toNat (fun j => am 1 j 0)) (np a).toNat (some b9)))))))])) ++ wP cA b9 c9 s9 q1 q2 (sq s9).toNat tr) (by rw [List.append_assoc (wX cA ad (upY σ 0 a)) w3]; rfl) rfl rfl ?_
          refine g_newPile E hS hI (by omega) (by omega) (by omega) (fun k hk => qF_v.1 k hk) qF_v.2 hin5 (by decide +kernel) dL_act_202 ?_
          have hS2 := hS.newP (c := c9) (s := s9) ⟨hn0, hn6⟩ (by omega)
          have hn2 : np (newP a c9 s9) = np a + 1 := newP_np ⟨hn0, hn6⟩
          obtain ⟨am2, ham2⟩ : ∃ z : Ad, (amP am (np a).toNat qa b9 q1 q2 tr) = z := ⟨_, rfl⟩
          have h200 : am2 0 0 0 = am 0 0 0 := (by rw [← ham2]; exact amP_o (by omega) (by omega))
          have h210 : am2 10 0 0 = qa := (by rw [← ham2]; exact if_pos ⟨rfl, rfl, rfl⟩)
          rw [ham2]
          obtain ⟨L2, hL2⟩ : ∃ z : List Id3, L ++ NP (np a).toNat (sq s9).toNat = z := ⟨_, rfl⟩
          rw [hL2] at hS2 ⊢
          obtain ⟨hL, hB, hPm, hCm, -, -⟩ := id hS2
          have he0 := e_pile (a := a) (c := c9) (s := s9) (by omega) (by omega) (by omega)
          refine g_loc (lv' := [(0, .ref (ad 0 8 0)), (3, .int (zI (np a))), (6, .ref (am2 10 0 0))]) ⟨rfl, rfl, by rw [h210]; rfl, trivial⟩ ?_
          refine g_aload_n E dL_act_205 rfl ?_
          refine g_aload E dL_act_206 rfl ?_
          refine g_iload_n E dL_act_208 rfl ?_
          refine ls_10 E hB.2.2.2.2.2.1 (by omega) dL_act_209 ?_
          refine g_top (v' := .ref (am2 1 (np a).toNat 0)) (rfl) ?_
          refine gs_LP_calibre E (hPm (np a).toNat (by omega)).1 hin7 (by decide +kernel) dL_act_210 ?_
          refine g_top (v' := .int (zI c9)) (by rw [newP_cal (by omega)]) ?_
          refine g_aload E dL_act_213 rfl ?_
          refine g_iload_n E dL_act_215 rfl ?_
          refine ls_10 E hB.2.2.2.2.2.1 (by omega) dL_act_216 ?_
          refine g_top (v' := .ref (am2 1 (np a).toNat 0)) (rfl) ?_
          refine gs_LP_side E (hPm (np a).toNat (by omega)).1 hin7 (by decide +kernel) dL_act_217 ?_
          refine g_top (v' := .int (zI s9)) (by rw [newP_sd (by omega)]) ?_
          refine g_mZi (T := TX4) (ci := 4) (n := 2) (As := [_, _]) (rest := _) E Z (c_X4_pile l hl0 D cA _ ad σ a hI c9 s9 ⟨by omega, by omega⟩ ⟨by omega, by omega⟩) gL_act_X4_pile rfl ⟨rfl, rfl⟩ (by decide +kernel) ⟨Nat.le_of_ble_eq_true rfl, Nat.le_of_ble_eq_true rfl⟩ (ob_8 mem_8) rfl rfl rfl (Nat.le_of_ble_eq_true rfl) ⟨by show (_ : Nat) ≤ 120; omega, by show (_ : Nat) ≤ 2000; omega⟩ dL_act_220 (fun E9 h => exn_0 (by rw [he0] at h; exact h)) ?_
          rintro r_220 ws_220 ⟨-, rfl, rfl⟩
          refine g_iload_n E dL_act_223 rfl ?_
          refine g_icmp_ne (tgt := 231) E dL_act_224 (by decide) (by omega) (by omega) (fun c_224 => ?_) (fun c_224 => ?_)
          · exact absurd rfl c_224
          · refine g_iconst E dL_act_227 ?_
            refine g_goto (tgt := 232) E dL_act_228 (by decide) ?_
            refine g_wid (k := 120) (n := 2000) (by omega) (by omega) ?_
            exact g_zret E (by decide) (⟨rfl, am2, L2, newP a c9 s9, h200, hS2, AJ.of_kj hJ ht.1 hs (newP_kj hJ he0 (by omega)), rfl⟩) dL_act_232
        · refine g_aload E dL_act_153 rfl ?_
          refine g_iload E dL_act_155 rfl ?_
          refine g_aload_n E dL_act_157 rfl ?_
          refine gs_Sim_piles E hB.1 hin5 (by decide +kernel) dL_act_158 ?_
          refine g_iload E dL_act_161 rfl ?_
          refine ls_10 E hB.2.2.2.2.2.1 (by omega) dL_act_163 ?_
          refine g_top (v' := .ref (am 1 kk 0)) (rfl) ?_
          refine g_aastE 5 E (r := (RX7, TX7, 5)) (ci := 7) rfl rfl (by omega) (by omega) (at_ob (at_l (wS_at (hPm kk (by omega)).1))) (se_r (se_r (se_r (se_i 0 rfl rfl)))) dL_act_164 ?_
          refine g_iinc E dL_act_165 rfl (by decide) ?_
          refine g_goto (tgt := 147) E dL_act_168 (by decide) ?_
          refine g_wid (k := 1) (n := 7) (by omega) (by omega) ?_
          refine g_st (ws' := wS cA am L a ++ (wX cA ad (upY σ 0 a) ++ (w3 ++ [(qa, .inl (cA 5, (np a).toNat + 1, .inr (.inr (.inr (.inr (qF (kk + 1) (fun j => am 1 j 0)))))))]))) (congrArg (fun f => wS cA am L a ++ (wX cA ad (upY σ 0 a) ++ (w3 ++ [(qa, .inl (cA 5, (np a).toNat + 1, .inr (.inr (.inr (.inr (f))))))]))) (qF_s kk (fun j => am 1 j 0))) rfl rfl ?_
          refine g_loc (lv' := [(0, .ref (ad 0 8 0)), (1, .ref (am 0 0 0)), (2, .int x9), (3, .int (zI (np a))), (4, .int (zI (p9 : Int))), (6, .ref qa), (7, .int (zI ((kk + 1) : Int)))]) ⟨rfl, rfl, rfl, rfl, rfl, rfl, rfl, trivial⟩ ?_
          exact ih_kk (kk + 1) (by omega) (by omega)
    refine g_st (ws' := wS cA am L a ++ (wX cA ad (upY σ 0 a) ++ (w3 ++ [(qa, .inl (cA 5, (np a).toNat + 1, .inr (.inr (.inr (.inr (qF 0 (fun j => am 1 j 0)))))))]))) (congrArg (fun f => wS cA am L a ++ (wX cA ad (upY σ 0 a) ++ (w3 ++ [(qa, .inl (cA 5, (np a).toNat + 1, .inr (.inr (.inr (.inr (f))))))]))) (qF_0 (fun j => am 1 j 0))) rfl rfl ?_
    refine g_loc (lv' := [(0, .ref (ad 0 8 0)), (1, .ref (am 0 0 0)), (2, .int x9), (3, .int (zI (np a))), (4, .int (zI (p9 : Int))), (6, .ref qa), (7, .int (zI (0 : Int)))]) ⟨rfl, rfl, rfl, rfl, rfl, rfl, rfl, trivial⟩ ?_
    exact key_kk ((np a) + 1).toNat.succ 0 (by omega) (by omega)
  · refine g_iconst E dL_act_134 ?_
    refine g_wid (k := 120) (n := 2000) (by omega) (by omega) ?_
    exact g_zret E (by decide) (⟨rfl, am, L, a, rfl, hS, hJ.aj ht.1, rfl⟩) dL_act_135
set_option maxHeartbeats 1600000 in
set_option maxRecDepth 100000 in
/-- 1: a cat -/
theorem act_1 {p : Program} {l : Launch} {e : Env} {s : State} {m : MethodId} {below : List Frame} {meth : Method} {c : Code} {D : va_G} {A : Nat → Prop} {cA : Nat → ClassId} {am ad : Ad} {σ : Nat → St} {L : List Id3} {w3 : va_W} {a : St} {t : Int} {x9 : Int32} {p9 : Nat} {vits : Value} {srt : Int} (hl0 : l.stackTraces = false) (E : GE p s m ([.ref (ad 0 8 0), .ref (am 0 0 0), .int x9] : List Value).toArray meth c D (tysX cA) cL_act 26 RL wsL_act (some .boolean)) (Z : gZ A s) (X : gX s) (hS : SH L a) (hJ : J t a) (ht : 0 ≤ t ∧ t ≤ 100) (hits : np a = 0 ∨ (vits = .ref (am 1 p9 0) ∧ (p9 : Int) < np a)) (hs : ¬ (srt = 2 ∨ srt = 3)) : GW p l e (headSpec wsL_act ({ frames := 9, cells := 120, slots := 2000, locals := 200 })).room s m ([.ref (ad 0 8 0), .ref (am 0 0 0), .int x9] : List Value).toArray below meth c (MQ below (va_Qi (ActP cA am ad σ w3 a t srt) (gB D A) A) ([.ref (ad 0 8 0), .ref (am 0 0 0), .int x9] : List Value).toArray s 120 2000 A) D A 26 (wS cA am L a ++ (wX cA ad (upY σ 0 a) ++ w3)) (0) (0) 233 [(0, .ref (ad 0 8 0)), (1, .ref (am 0 0 0)), (2, .int x9), (3, .int (zI (np a))), (4, .int (zI (p9 : Int)))] [] := by
  have hA : ∀ q, s.heap.size ≤ q → A q := Z.2.1
  have hin5 : ∀ w ∈ u_ws RX5 TX5 9, w ∈ wsL_act := by decide +kernel
  have hin7 : ∀ w ∈ u_ws RX7 TX7 5, w ∈ wsL_act := by decide +kernel
  have hI := hJ.1
  obtain ⟨hL, hB, hPm, hCm, -, -⟩ := id hS
  obtain ⟨⟨hn0, hn6, hc0, hc3⟩, hPI, hCI, hFr⟩ := id hI
  refine g_aload_n E dL_act_233 rfl ?_
  refine gs_Sim_cats E hB.1 hin5 (by decide +kernel) dL_act_234 ?_
  refine ns_11 E hB.2.2.2.2.2.2 (by omega) dL_act_237 ?_
  refine g_iconst E dL_act_238 ?_
  refine g_icmp_ne (tgt := 244) E dL_act_239 (by decide) (by omega) (by omega) (fun c_239 => ?_) (fun c_239 => ?_)
  · refine g_aload_n E dL_act_244 rfl ?_
    refine gs_Sim_cats E hB.1 hin5 (by decide +kernel) dL_act_245 ?_
    refine ns_11 E hB.2.2.2.2.2.2 (by omega) dL_act_248 ?_
    refine g_iconst E dL_act_249 ?_
    refine g_iadd E dL_act_250 ?_
    refine g_top (v' := .int (zI (((nc a).toNat + 1 : Nat) : Int))) (by rw [show (((nc a).toNat + 1 : Nat) : Int) = nc a + 1 by omega]) ?_
    refine g_newA E hA X.1.2 (by decide +kernel) (by omega) (by show (_ : Nat) ≤ 120; omega) (by show (_ : Nat) ≤ 2000; omega) dL_act_251 (fun qa => ?_)
    refine g_asc2 ?_
    refine g_astore E dL_act_254 (by decide) ?_
    refine g_iconst E dL_act_256 ?_
    refine g_istore E dL_act_257 (by decide) ?_
    refine g_wid (k := 1) (n := 4) (by omega) (by omega) ?_
    have key_kk : ∀ (n_kk kk : Nat), (kk : Int) ≤ nc a → nc a + 1 ≤ (kk : Int) + n_kk → GW p l e (headSpec wsL_act ({ frames := 9, cells := 120, slots := 2000, locals := 200 })).room s m ([.ref (ad 0 8 0), .ref (am 0 0 0), .int x9] : List Value).toArray below meth c (MQ below (va_Qi (ActP cA am ad σ w3 a t srt) (gB D A) A) ([.ref (ad 0 8 0), .ref (am 0 0 0), .int x9] : List Value).toArray s 120 2000 A) D A 26 (wS cA am L a ++ (wX cA ad (upY σ 0 a) ++ (w3 ++ [(qa, .inl (cA 6, (nc a).toNat + 1, .inr (.inr (.inr (.inr (qF kk (fun j => am 3 j 0)))))))]))) (1) (4) 259 [(0, .ref (ad 0 8 0)), (1, .ref (am 0 0 0)), (2, .int x9), (3, .int (zI (np a))), (4, .int (zI (p9 : Int))), (7, .ref qa), (8, .int (zI (kk : Int)))] [] := by
      intro n_kk
      induction n_kk with
      | zero => intro kk h1 h2; exact absurd h2 (by omega)
      | succ n_kk ih_kk =>
        intro kk hle_kk hfu_kk
        refine g_iload E dL_act_259 rfl ?_
        refine g_aload_n E dL_act_261 rfl ?_
        refine gs_Sim_cats E hB.1 hin5 (by decide +kernel) dL_act_262 ?_
        refine ns_11 E hB.2.2.2.2.2.2 (by omega) dL_act_265 ?_
        refine g_icmp_ge (tgt := 287) E dL_act_266 (by decide) (by omega) (by omega) (fun c_266 => ?_) (fun c_266 => ?_)
        · obtain rfl : kk = (nc a).toNat := (by omega)
          refine g_aload E dL_act_287 rfl ?_
          refine g_aload_n E dL_act_289 rfl ?_
          refine gs_Sim_cats E hB.1 hin5 (by decide +kernel) dL_act_290 ?_
          refine ns_11 E hB.2.2.2.2.2.2 (by omega) dL_act_293 ?_
          refine g_iconst E dL_act_294 ?_
          refine g_top (v' := .int (zI ((3 : Nat) : Int))) rfl ?_
          refine g_newa E hA (by decide +kernel) (by omega) (by show (_ : Nat) ≤ 120; omega) (by show (_ : Nat) ≤ 2000; omega) dL_act_295 (fun q3 => ?_)
          refine g_dup E dL_act_297 rfl ?_
          refine g_iconst E dL_act_298 ?_
          refine g_iconst E dL_act_299 ?_
          refine g_iload_n E dL_act_300 rfl ?_
          refine g_iconst E dL_act_301 ?_
          refine g_ishr E dL_act_302 ?_
          refine g_iconst E dL_act_303 ?_
          refine g_callTi (n := 2) (As := [_, _]) (rest := _) E (c_L_below l D cA A _ (x9 >>> (zI 1 &&& 31)) (5 : Int) (by omega)) gL_act_L_below rfl ⟨rfl, rfl⟩ (by decide +kernel) ⟨Nat.le_of_ble_eq_true rfl, Nat.le_of_ble_eq_true rfl⟩ rfl rfl (Nat.le_of_ble_eq_true rfl) ⟨by show (_ : Nat) ≤ 120; omega, by show (_ : Nat) ≤ 2000; omega⟩ dL_act_304 ?_
          rintro r_304 ws_304 ⟨rfl, rfl⟩
          have hb_304 := beV_b (x9 >>> (zI 1 &&& 31)) (show (1 : Int) ≤ (5 : Int) by omega)
          refine g_iadd E dL_act_307 ?_
          refine g_iast E 0 rfl (by omega) (by omega) (se_r (se_i 0 rfl rfl)) dL_act_308 ?_
          refine g_dup E dL_act_309 rfl ?_
          refine g_iconst E dL_act_310 ?_
          refine g_iconst E dL_act_311 ?_
          refine g_iast E 0 rfl (by omega) (by omega) (se_r (se_i 0 rfl rfl)) dL_act_312 ?_
          refine g_dup E dL_act_313 rfl ?_
          refine g_iconst E dL_act_314 ?_
          refine g_iconst E dL_act_315 ?_
          refine g_iast E 0 rfl (by omega) (by omega) (se_r (se_i 0 rfl rfl)) dL_act_316 ?_
          refine g_aastA E X.1.2 ⟨(_, _), rfl⟩ (at_r (at_i 0 rfl)) (by omega) (by omega) (se_l (se_r (se_r (se_r (se_i 0 rfl rfl))))) dL_act_317 ?_
          refine g_aload_n E dL_act_318 rfl ?_
          refine g_aload E dL_act_319 rfl ?_
          obtain ⟨k9, hk9⟩ : ∃ z : Int, 1 + beV (x9 >>> (zI 1 &&& 31)) 5 = z := ⟨_, rfl⟩
          rw [hk9]
          refine g_st (ws' := (wS cA am L a ++ ((wX cA ad (upY σ 0 a) ++ w3) ++ [(qa, .inl (cA 6, (nc a).toNat + 1, .inr (.inr (.inr (.inr (va_up (qF (nc a).toNat (fun j => am 3 j 0)) (nc a).toNat (some q3)))))))])) ++ [(q3, .inl (cA 0, 3, .inl (caF k9)))]) (by rw [List.append_assoc (wX cA ad (upY σ 0 a)) w3]; rfl) rfl rfl ?_
          refine g_newCat E hS hI (by omega) (fun k hk => qF_v.1 k hk) qF_v.2 hin5 (by decide +kernel) dL_act_321 ?_
          have hS2 := hS.newC (k := k9) ⟨hc0, hc3⟩
          have hn2 : nc (newC a k9) = nc a + 1 := newC_nc ⟨hc0, hc3⟩
          obtain ⟨am2, ham2⟩ : ∃ z : Ad, amC am (nc a).toNat qa q3 = z := ⟨_, rfl⟩
          have h200 : am2 0 0 0 = am 0 0 0 := (by rw [← ham2]; exact amC_o (by omega) (by omega))
          have h210 : am2 11 0 0 = qa := (by rw [← ham2]; exact if_pos ⟨rfl, rfl, rfl⟩)
          rw [ham2]
          obtain ⟨L2, hL2⟩ : ∃ z : List Id3, L ++ [(3, (nc a).toNat, 0)] = z := ⟨_, rfl⟩
          rw [hL2] at hS2 ⊢
          obtain ⟨hL, hB, hPm, hCm, -, -⟩ := id hS2
          have he0 := e_cat (a := a) (k := k9) (by omega) (by omega)
          refine g_loc (lv' := [(0, .ref (ad 0 8 0)), (3, .int (zI (np a))), (7, .ref (am2 11 0 0))]) ⟨rfl, rfl, by rw [h210]; rfl, trivial⟩ ?_
          refine g_aload_n E dL_act_324 rfl ?_
          refine g_aload E dL_act_325 rfl ?_
          refine g_aload E dL_act_327 rfl ?_
          refine ns_11 E hB.2.2.2.2.2.2 (by omega) dL_act_329 ?_
          refine g_iconst E dL_act_330 ?_
          refine g_isub E dL_act_331 ?_
          refine ls_11 E hB.2.2.2.2.2.2 (by omega) dL_act_332 ?_
          refine g_top (v' := .ref (am2 3 (nc a).toNat 0)) ((by show Value.ref (am2 3 (nc (newC a k9) - 1).toNat 0) = _; rw [hn2, show nc a + 1 - 1 = nc a by omega])) ?_
          refine g_iconst E dL_act_333 ?_
          refine ls_3 E (hCm (nc a).toNat (by omega)) (by omega) rfl dL_act_334 ?_
          refine g_top (v' := .int (zI k9)) (by rw [show (0 : Int).toNat = 0 from rfl, newC_lp]) ?_
          refine g_mZi (T := TX4) (ci := 4) (n := 1) (As := [_]) (rest := _) E Z (c_X4_cat l hl0 D cA _ ad σ a hI k9 ⟨by omega, by omega⟩) gL_act_X4_cat rfl ⟨rfl, rfl⟩ (by decide +kernel) ⟨Nat.le_of_ble_eq_true rfl, Nat.le_of_ble_eq_true rfl⟩ (ob_8 mem_8) rfl rfl rfl (Nat.le_of_ble_eq_true rfl) ⟨by show (_ : Nat) ≤ 120; omega, by show (_ : Nat) ≤ 2000; omega⟩ dL_act_335 (fun E9 h => exn_0 (by rw [he0] at h; exact h)) ?_
          rintro r_335 ws_335 ⟨-, rfl, rfl⟩
          refine g_aload E dL_act_338 rfl ?_
          refine ns_11 E hB.2.2.2.2.2.2 (by omega) dL_act_340 ?_
          refine g_iconst E dL_act_341 ?_
          refine g_isub E dL_act_342 ?_
          refine g_icmp_ne (tgt := 350) E dL_act_343 (by decide) (by omega) (by omega) (fun c_343 => ?_) (fun c_343 => ?_)
          · exact absurd (by omega) c_343
          · refine g_iconst E dL_act_346 ?_
            refine g_goto (tgt := 351) E dL_act_347 (by decide) ?_
            refine g_wid (k := 120) (n := 2000) (by omega) (by omega) ?_
            exact g_zret E (by decide) (⟨rfl, am2, L2, newC a k9, h200, hS2, AJ.of_kj hJ ht.1 hs (newC_kj hJ he0), rfl⟩) dL_act_351
        · refine g_aload E dL_act_269 rfl ?_
          refine g_iload E dL_act_271 rfl ?_
          refine g_aload_n E dL_act_273 rfl ?_
          refine gs_Sim_cats E hB.1 hin5 (by decide +kernel) dL_act_274 ?_
          refine g_iload E dL_act_277 rfl ?_
          refine ls_11 E hB.2.2.2.2.2.2 (by omega) dL_act_279 ?_
          refine g_top (v' := .ref (am 3 kk 0)) (rfl) ?_
          refine g_aastA E X.1.2 ⟨(_, _), rfl⟩ (at_l (wS_at (hCm kk (by omega)))) (by omega) (by omega) (se_r (se_r (se_r (se_i 0 rfl rfl)))) dL_act_280 ?_
          refine g_iinc E dL_act_281 rfl (by decide) ?_
          refine g_goto (tgt := 259) E dL_act_284 (by decide) ?_
          refine g_wid (k := 1) (n := 4) (by omega) (by omega) ?_
          refine g_st (ws' := wS cA am L a ++ (wX cA ad (upY σ 0 a) ++ (w3 ++ [(qa, .inl (cA 6, (nc a).toNat + 1, .inr (.inr (.inr (.inr (qF (kk + 1) (fun j => am 3 j 0)))))))]))) (congrArg (fun f => wS cA am L a ++ (wX cA ad (upY σ 0 a) ++ (w3 ++ [(qa, .inl (cA 6, (nc a).toNat + 1, .inr (.inr (.inr (.inr (f))))))]))) (qF_s kk (fun j => am 3 j 0))) rfl rfl ?_
          refine g_loc (lv' := [(0, .ref (ad 0 8 0)), (1, .ref (am 0 0 0)), (2, .int x9), (3, .int (zI (np a))), (4, .int (zI (p9 : Int))), (7, .ref qa), (8, .int (zI ((kk + 1) : Int)))]) ⟨rfl, rfl, rfl, rfl, rfl, rfl, rfl, trivial⟩ ?_
          exact ih_kk (kk + 1) (by omega) (by omega)
    refine g_st (ws' := wS cA am L a ++ (wX cA ad (upY σ 0 a) ++ (w3 ++ [(qa, .inl (cA 6, (nc a).toNat + 1, .inr (.inr (.inr (.inr (qF 0 (fun j => am 3 j 0)))))))]))) (congrArg (fun f => wS cA am L a ++ (wX cA ad (upY σ 0 a) ++ (w3 ++ [(qa, .inl (cA 6, (nc a).toNat + 1, .inr (.inr (.inr (.inr (f))))))]))) (qF_0 (fun j => am 3 j 0))) rfl rfl ?_
    refine g_loc (lv' := [(0, .ref (ad 0 8 0)), (1, .ref (am 0 0 0)), (2, .int x9), (3, .int (zI (np a))), (4, .int (zI (p9 : Int))), (7, .ref qa), (8, .int (zI (0 : Int)))]) ⟨rfl, rfl, rfl, rfl, rfl, rfl, rfl, trivial⟩ ?_
    exact key_kk ((nc a) + 1).toNat.succ 0 (by omega) (by omega)
  · refine g_iconst E dL_act_242 ?_
    refine g_wid (k := 120) (n := 2000) (by omega) (by omega) ?_
    exact g_zret E (by decide) (⟨rfl, am, L, a, rfl, hS, hJ.aj ht.1, rfl⟩) dL_act_243
