/-! ===== LOOKS: walked ===== -/
set_option maxHeartbeats 4000000 in
set_option maxRecDepth 100000 in
/-- the looks behind an act -/
theorem law_look {p : Program} {l : Launch} {e : Env} {s : State} {m : MethodId} {below : List Frame} {meth : Method} {c : Code} {Q : State → Prop} {D : va_G} {A : Nat → Prop} {cA : Nat → ClassId} {am ad : Ad} {σ : Nat → St} {L : List Id3} {a : St} {t : Int} {b9 : Nat} (hl0 : l.stackTraces = false) (E : GE p s m #[Value.ref b9] meth c D (tysX cA) cL_law 28 RL wsL_law ret) (Z : gZ A s) (hS : SH L a) (hJ : J t a) {k3 : Int} {qa qc : Nat} {fa fc : Nat → Int32} {C0 S0 : Nat} (hC : C0 ≤ 600000 ∧ S0 ≤ 7300000) (kk : ∀ C2 S2 : Nat, C2 ≤ C0 + 10 → S2 ≤ S0 + 60 → GW p l e room_1 s m #[Value.ref b9] below meth c Q D A 28 (wS cA am L a ++ (wX cA ad (upY σ 0 a) ++ [])) C2 S2 893 [(0, .ref b9), (1, .ref (ad 0 8 0)), (2, .ref (am 0 0 0)), (3, .int (zI k3))] []) : GW p l e room_1 s m #[Value.ref b9] below meth c Q D A 28 (wS cA am L a ++ (wX cA ad (upY σ 0 a) ++ [(qa, .inl (cA 0, 5, .inl (fa))), (qc, .inl (cA 0, 5, .inl fc))])) (C0) (S0) 239 [(0, .ref b9), (1, .ref (ad 0 8 0)), (2, .ref (am 0 0 0)), (3, .int (zI k3))] [] := by
  have hin5 : ∀ w ∈ u_ws RX5 TX5 9, w ∈ wsL_law := inlX5
  have hA : ∀ q, s.heap.size ≤ q → A q := Z.2.1
  have hI := hJ.1
  obtain ⟨hL, hB, hPm, hCm, -, -⟩ := id hS
  obtain ⟨⟨hn0, hn6, hc0, hc3⟩, hPI, hCI, hFr⟩ := id hI
  have hRB := hJ.2.1
  have hWB := hJ.2.2.1
  unfold WB at hWB
  have hbA := blA_b hI (np a).toNat (by omega)
  refine g_iconst E dL_law_239 ?_
  refine g_top (v' := .int (zI ((5 : Nat) : Int))) (rfl) ?_
  refine g_newa E hA (by decide +kernel) (by omega) (by show (_ : Nat) ≤ 600104; omega) (by show (_ : Nat) ≤ 7301314; omega) dL_law_240 (fun qs => ?_)
  refine g_asc2 ?_
  refine g_st (ws' := wS cA am L a ++ (wX cA ad (upY σ 0 a) ++ [(qa, .inl (cA 0, 5, .inl (fa))), (qc, .inl (cA 0, 5, .inl fc)), (qs, .inl (cA 0, 5, .inl (fun _ => 0)))])) rfl rfl rfl ?_
  refine g_astore E dL_law_242 (by decide) ?_
  refine g_iconst E dL_law_244 ?_
  refine g_istore E dL_law_245 (by decide) ?_
  refine g_wid (k := C0 + 1) (n := S0 + 5) (by omega) (by omega) ?_
  have key_cc : ∀ (n_cc cc : Nat), (cc : Int) ≤ (5 : Int) → (5 : Int) + 1 ≤ (cc : Int) + n_cc → GW p l e room_1 s m #[Value.ref b9] below meth c Q D A 28 (wS cA am L a ++ (wX cA ad (upY σ 0 a) ++ [(qa, .inl (cA 0, 5, .inl (fa))), (qc, .inl (cA 0, 5, .inl fc)), (qs, .inl (cA 0, 5, .inl (suG a cc 0)))])) (C0 + 1) (S0 + 5) 247 [(0, .ref b9), (1, .ref (ad 0 8 0)), (2, .ref (am 0 0 0)), (3, .int (zI k3)), (9, .ref qs), (10, .int (zI (cc : Int)))] [] := by
    intro n_cc
    induction n_cc with
    | zero => intro cc h1 h2; exact absurd h2 (by omega)
    | succ n_cc ih_cc =>
      intro cc hle_cc hfu_cc
      refine g_iload E dL_law_247 rfl ?_
      refine g_iconst E dL_law_249 ?_
      refine g_icmp_ge (tgt := 290) E dL_law_250 (by decide) (by omega) (by omega) (fun c_250 => ?_) (fun c_250 => ?_)
      · obtain rfl : cc = 5 := (by omega)
        refine g_aload E dL_law_290 rfl ?_
        refine g_iconst E dL_law_292 ?_
        refine g_iald E 0 rfl (at_r (at_r (at_i 2 rfl))) (by omega) (by omega) rfl dL_law_293 ?_
        refine g_top (v' := .int (coV a 3)) (congrArg Value.int (suG_v (w := 0) (by omega))) ?_
        refine g_aload_n E dL_law_294 rfl ?_
        refine g_iconst E dL_law_295 ?_
        refine g_mVi (T := TX4) (ci := 4) (n := 1) (As := [_]) (rest := _) E (n_X4_count l D cA _ ad σ a hI 3 ⟨by omega, by omega⟩ ⟨by omega, by omega⟩) gL_law_X4_count rfl ⟨rfl, rfl⟩ (by decide +kernel) ⟨Nat.le_of_ble_eq_true rfl, Nat.le_of_ble_eq_true rfl⟩ (ob_8 mem_8) rfl rfl rfl (Nat.le_of_ble_eq_true rfl) ⟨by show (_ : Nat) ≤ 600104; omega, by show (_ : Nat) ≤ 7301314; omega⟩ dL_law_296 ?_
        rintro r_296 ws_296 ⟨rfl, rfl⟩
        refine g_icmp_neR (tgt := 352) E dL_law_299 (by decide) (fun c_299 => ?_) (fun c_299 => ?_)
        · exact absurd rfl c_299
        · refine g_aload E dL_law_302 rfl ?_
          refine g_iconst E dL_law_304 ?_
          refine g_iald E 0 rfl (at_r (at_r (at_i 2 rfl))) (by omega) (by omega) rfl dL_law_305 ?_
          refine g_top (v' := .int (coV a 4)) (congrArg Value.int (suG_v (w := 1) (by omega))) ?_
          refine g_aload_n E dL_law_306 rfl ?_
          refine g_iconst E dL_law_307 ?_
          refine g_mVi (T := TX4) (ci := 4) (n := 1) (As := [_]) (rest := _) E (n_X4_count l D cA _ ad σ a hI 4 ⟨by omega, by omega⟩ ⟨by omega, by omega⟩) gL_law_X4_count rfl ⟨rfl, rfl⟩ (by decide +kernel) ⟨Nat.le_of_ble_eq_true rfl, Nat.le_of_ble_eq_true rfl⟩ (ob_8 mem_8) rfl rfl rfl (Nat.le_of_ble_eq_true rfl) ⟨by show (_ : Nat) ≤ 600104; omega, by show (_ : Nat) ≤ 7301314; omega⟩ dL_law_308 ?_
          rintro r_308 ws_308 ⟨rfl, rfl⟩
          refine g_icmp_neR (tgt := 352) E dL_law_311 (by decide) (fun c_311 => ?_) (fun c_311 => ?_)
          · exact absurd rfl c_311
          · refine g_aload E dL_law_314 rfl ?_
            refine g_iconst E dL_law_316 ?_
            refine g_iald E 0 rfl (at_r (at_r (at_i 2 rfl))) (by omega) (by omega) rfl dL_law_317 ?_
            refine g_top (v' := .int (coV a 5)) (congrArg Value.int ((suG_v (w := 2) (by omega)).trans (su_2 hI))) ?_
            refine g_aload_n E dL_law_318 rfl ?_
            refine g_iconst E dL_law_319 ?_
            refine g_mVi (T := TX4) (ci := 4) (n := 1) (As := [_]) (rest := _) E (n_X4_count l D cA _ ad σ a hI 5 ⟨by omega, by omega⟩ ⟨by omega, by omega⟩) gL_law_X4_count rfl ⟨rfl, rfl⟩ (by decide +kernel) ⟨Nat.le_of_ble_eq_true rfl, Nat.le_of_ble_eq_true rfl⟩ (ob_8 mem_8) rfl rfl rfl (Nat.le_of_ble_eq_true rfl) ⟨by show (_ : Nat) ≤ 600104; omega, by show (_ : Nat) ≤ 7301314; omega⟩ dL_law_320 ?_
            rintro r_320 ws_320 ⟨rfl, rfl⟩
            refine g_icmp_neR (tgt := 352) E dL_law_323 (by decide) (fun c_323 => ?_) (fun c_323 => ?_)
            · exact absurd rfl c_323
            · refine g_aload E dL_law_326 rfl ?_
              refine g_iconst E dL_law_328 ?_
              refine g_iald E 0 rfl (at_r (at_r (at_i 2 rfl))) (by omega) (by omega) rfl dL_law_329 ?_
              refine g_top (v' := .int (coV a 7)) (congrArg Value.int (suG_v (w := 3) (by omega))) ?_
              refine g_aload_n E dL_law_330 rfl ?_
              refine g_bipush E dL_law_331 (by decide) ?_
              refine g_mVi (T := TX4) (ci := 4) (n := 1) (As := [_]) (rest := _) E (n_X4_count l D cA _ ad σ a hI 7 ⟨by omega, by omega⟩ ⟨by omega, by omega⟩) gL_law_X4_count rfl ⟨rfl, rfl⟩ (by decide +kernel) ⟨Nat.le_of_ble_eq_true rfl, Nat.le_of_ble_eq_true rfl⟩ (ob_8 mem_8) rfl rfl rfl (Nat.le_of_ble_eq_true rfl) ⟨by show (_ : Nat) ≤ 600104; omega, by show (_ : Nat) ≤ 7301314; omega⟩ dL_law_333 ?_
              rintro r_333 ws_333 ⟨rfl, rfl⟩
              refine g_icmp_neR (tgt := 352) E dL_law_336 (by decide) (fun c_336 => ?_) (fun c_336 => ?_)
              · exact absurd rfl c_336
              · refine g_aload E dL_law_339 rfl ?_
                refine g_iconst E dL_law_341 ?_
                refine g_iald E 0 rfl (at_r (at_r (at_i 2 rfl))) (by omega) (by omega) rfl dL_law_342 ?_
                refine g_top (v' := .int (coV a 8)) (congrArg Value.int (suG_v (w := 4) (by omega))) ?_
                refine g_aload_n E dL_law_343 rfl ?_
                refine g_bipush E dL_law_344 (by decide) ?_
                refine g_mVi (T := TX4) (ci := 4) (n := 1) (As := [_]) (rest := _) E (n_X4_count l D cA _ ad σ a hI 8 ⟨by omega, by omega⟩ ⟨by omega, by omega⟩) gL_law_X4_count rfl ⟨rfl, rfl⟩ (by decide +kernel) ⟨Nat.le_of_ble_eq_true rfl, Nat.le_of_ble_eq_true rfl⟩ (ob_8 mem_8) rfl rfl rfl (Nat.le_of_ble_eq_true rfl) ⟨by show (_ : Nat) ≤ 600104; omega, by show (_ : Nat) ≤ 7301314; omega⟩ dL_law_346 ?_
                rintro r_346 ws_346 ⟨rfl, rfl⟩
                refine g_icmp_eqR (tgt := 354) E dL_law_349 (by decide) (fun c_349 => ?_) (fun c_349 => ?_)
                · refine g_iconst E dL_law_354 ?_
                  refine g_top (v' := .int (zI ((5 : Nat) : Int))) (rfl) ?_
                  refine g_newa E hA (by decide +kernel) (by omega) (by show (_ : Nat) ≤ 600104; omega) (by show (_ : Nat) ≤ 7301314; omega) dL_law_355 (fun qp => ?_)
                  refine g_asc2 ?_
                  refine g_st (ws' := wS cA am L a ++ (wX cA ad (upY σ 0 a) ++ [(qa, .inl (cA 0, 5, .inl (fa))), (qc, .inl (cA 0, 5, .inl fc)), (qs, .inl (cA 0, 5, .inl (suG a 5 0))), (qp, .inl (cA 0, 5, .inl (fun _ => 0)))])) rfl rfl rfl ?_
                  refine g_astore E dL_law_357 (by decide) ?_
                  refine g_iconst E dL_law_359 ?_
                  refine g_istore E dL_law_360 (by decide) ?_
                  refine g_wid (k := C0 + 2 + 0) (n := S0 + 10 + 6 * 0) (by omega) (by omega) ?_
                  have key_pp : ∀ (n_pp pp : Nat), (pp : Int) ≤ np a → np a + 1 ≤ (pp : Int) + n_pp → GW p l e room_1 s m #[Value.ref b9] below meth c Q D A 28 (wS cA am L a ++ (wX cA ad (upY σ 0 a) ++ [(qa, .inl (cA 0, 5, .inl (fa))), (qc, .inl (cA 0, 5, .inl fc)), (qs, .inl (cA 0, 5, .inl (suG a 5 0))), (qp, .inl (cA 0, 5, .inl (piG a pp)))])) (C0 + 2 + pp) (S0 + 10 + 6 * pp) 362 [(0, .ref b9), (1, .ref (ad 0 8 0)), (2, .ref (am 0 0 0)), (3, .int (zI k3)), (10, .ref qp), (11, .int (zI (pp : Int)))] [] := by
                    intro n_pp
                    induction n_pp with
                    | zero => intro pp h1 h2; exact absurd h2 (by omega)
                    | succ n_pp ih_pp =>
                      intro pp hle_pp hfu_pp
                      have hpk : (pp : Int) < np a → PI a pp := fun h => hPI pp h
                      refine g_iload E dL_law_362 rfl ?_
                      refine g_aload_n E dL_law_364 rfl ?_
                      refine g_iconst E dL_law_365 ?_
                      refine g_mVi (T := TX4) (ci := 4) (n := 1) (As := [_]) (rest := _) E (n_X4_count l D cA _ ad σ a hI 1 ⟨by omega, by omega⟩ ⟨by omega, by omega⟩) gL_law_X4_count rfl ⟨rfl, rfl⟩ (by decide +kernel) ⟨Nat.le_of_ble_eq_true rfl, Nat.le_of_ble_eq_true rfl⟩ (ob_8 mem_8) rfl rfl rfl (Nat.le_of_ble_eq_true rfl) ⟨by show (_ : Nat) ≤ 600104; omega, by show (_ : Nat) ≤ 7301314; omega⟩ dL_law_366 ?_
                      rintro r_366 ws_366 ⟨rfl, rfl⟩
                      refine g_top (v' := .int (zI (np a))) (rfl) ?_
                      refine g_icmp_ge (tgt := 861) E dL_law_369 (by decide) (by omega) (by omega) (fun c_369 => ?_) (fun c_369 => ?_)
                      · obtain rfl : pp = (np a).toNat := (by omega)
                        refine g_iconst E dL_law_861 ?_
                        refine g_istore E dL_law_862 (by decide) ?_
                        refine g_wid (k := C0 + 8) (n := S0 + 46) (by omega) (by omega) ?_
                        have key_cf : ∀ (n_cf cf : Nat), (cf : Int) ≤ (5 : Int) → (5 : Int) + 1 ≤ (cf : Int) + n_cf → GW p l e room_1 s m #[Value.ref b9] below meth c Q D A 28 (wS cA am L a ++ (wX cA ad (upY σ 0 a) ++ [(qa, .inl (cA 0, 5, .inl (fa))), (qc, .inl (cA 0, 5, .inl fc)), (qs, .inl (cA 0, 5, .inl (suG a 5 0))), (qp, .inl (cA 0, 5, .inl (piG a (np a).toNat)))])) (C0 + 8) (S0 + 46) 864 [(0, .ref b9), (1, .ref (ad 0 8 0)), (2, .ref (am 0 0 0)), (3, .int (zI k3)), (10, .ref qp), (11, .int (zI (cf : Int)))] [] := by
                          intro n_cf
                          induction n_cf with
                          | zero => intro cf h1 h2; exact absurd h2 (by omega)
                          | succ n_cf ih_cf =>
                            intro cf hle_cf hfu_cf
                            refine g_iload E dL_law_864 rfl ?_
                            refine g_iconst E dL_law_866 ?_
                            refine g_icmp_ge (tgt := 893) E dL_law_867 (by decide) (by omega) (by omega) (fun c_867 => ?_) (fun c_867 => ?_)
                            · refine g_st (ws' := wS cA am L a ++ (wX cA ad (upY σ 0 a) ++ ([] ++ [(qa, .inl (cA 0, 5, .inl (fa))), (qc, .inl (cA 0, 5, .inl fc)), (qs, .inl (cA 0, 5, .inl (suG a 5 0))), (qp, .inl (cA 0, 5, .inl (piG a (np a).toNat)))]))) rfl rfl rfl ?_
                              refine g_drop3 ?_
                              refine g_loc (lv' := [(0, .ref b9), (1, .ref (ad 0 8 0)), (2, .ref (am 0 0 0)), (3, .int (zI k3))]) ⟨rfl, rfl, rfl, rfl, trivial⟩ ?_
                              exact kk _ _ (by omega) (by omega)
                              -- stop
                            · refine g_aload E dL_law_870 rfl ?_
                              refine g_iload E dL_law_872 rfl ?_
                              refine g_iald E 0 rfl (at_r (at_r (at_i 3 rfl))) (by omega) (by omega) rfl dL_law_874 ?_
                              refine g_top (v' := .int (piG a (np a).toNat cf)) (rfl) ?_
                              refine g_aload_n E dL_law_875 rfl ?_
                              refine g_iload E dL_law_876 rfl ?_
                              refine g_iconst E dL_law_878 ?_
                              refine g_mVi (T := TX4) (ci := 4) (n := 2) (As := [_, _]) (rest := _) E (n_X4_told l D cA _ ad σ a hI (cf : Int) (2 : Int) ⟨by omega, by omega⟩ ⟨by omega, by omega⟩ ⟨⟨by omega, by omega⟩, by omega, by omega⟩) gL_law_X4_told rfl ⟨rfl, rfl⟩ (by decide +kernel) ⟨Nat.le_of_ble_eq_true rfl, Nat.le_of_ble_eq_true rfl⟩ (ob_8 mem_8) rfl rfl rfl (Nat.le_of_ble_eq_true rfl) ⟨by show (_ : Nat) ≤ 600104; omega, by show (_ : Nat) ≤ 7301314; omega⟩ dL_law_879 ?_
                              rintro r_879 ws_879 ⟨rfl, rfl⟩
                              refine g_top (v' := .int (piG a (np a).toNat cf)) (rfl) ?_
                              refine g_icmp_eqR (tgt := 887) E dL_law_882 (by decide) (fun c_882 => ?_) (fun c_882 => ?_)
                              · refine g_iinc E dL_law_887 rfl (by decide) ?_
                                refine g_goto (tgt := 864) E dL_law_890 (by decide) ?_
                                refine g_wid (k := C0 + 8) (n := S0 + 46) (by omega) (by omega) ?_
                                refine g_st (ws' := wS cA am L a ++ (wX cA ad (upY σ 0 a) ++ [(qa, .inl (cA 0, 5, .inl (fa))), (qc, .inl (cA 0, 5, .inl fc)), (qs, .inl (cA 0, 5, .inl (suG a 5 0))), (qp, .inl (cA 0, 5, .inl (piG a (np a).toNat)))])) (rfl) rfl rfl ?_
                                refine g_loc (lv' := [(0, .ref b9), (1, .ref (ad 0 8 0)), (2, .ref (am 0 0 0)), (3, .int (zI k3)), (10, .ref qp), (11, .int (zI ((cf + 1) : Int)))]) ⟨rfl, rfl, rfl, rfl, rfl, rfl, trivial⟩ ?_
                                exact ih_cf (cf + 1) (by omega) (by omega)
                              · exact absurd rfl c_882
                        refine g_st (ws' := wS cA am L a ++ (wX cA ad (upY σ 0 a) ++ [(qa, .inl (cA 0, 5, .inl (fa))), (qc, .inl (cA 0, 5, .inl fc)), (qs, .inl (cA 0, 5, .inl (suG a 5 0))), (qp, .inl (cA 0, 5, .inl (piG a (np a).toNat)))])) (rfl) rfl rfl ?_
                        refine g_loc (lv' := [(0, .ref b9), (1, .ref (ad 0 8 0)), (2, .ref (am 0 0 0)), (3, .int (zI k3)), (10, .ref qp), (11, .int (zI (0 : Int)))]) ⟨rfl, rfl, rfl, rfl, rfl, rfl, trivial⟩ ?_
                        exact key_cf (((5 : Int)) + 1).toNat.succ 0 (by omega) (by omega)
                      · obtain ⟨hPk, hk0, hk4⟩ := hpk (by omega); obtain ⟨he1, he6, hb0, hbq⟩ := id hPk; have hsq := sq_le ⟨he1, he6⟩; have hlop := lop ⟨he1, he6⟩ ⟨hb0, hbq⟩; have hlb9 := lb_b (e := sd a pp) (b := bl a pp) ⟨⟨he1, he6⟩, hb0, by omega⟩; have hlf9 := lf_b (e := sd a pp) (b := bl a pp) ⟨⟨he1, he6⟩, hb0, by omega⟩; have hsdp : sd a ((pp : Int)).toNat = sd a pp := rfl; have hblp : bl a ((pp : Int)).toNat = bl a pp := rfl; have hofc := ofC_b hI (cal a pp) pp (by omega)
                        refine g_aload_n E dL_law_372 rfl ?_
                        refine g_iload E dL_law_373 rfl ?_
                        refine g_iconst E dL_law_375 ?_
                        refine g_mVi (T := TX4) (ci := 4) (n := 2) (As := [_, _]) (rest := _) E (n_X4_about l D cA _ ad σ a hI (pp : Int) 2 ⟨by omega, by omega⟩ ⟨by omega, by omega⟩ ⟨⟨by omega, by omega⟩, by omega, by omega⟩) gL_law_X4_about rfl ⟨rfl, rfl⟩ (by decide +kernel) ⟨Nat.le_of_ble_eq_true rfl, Nat.le_of_ble_eq_true rfl⟩ (ob_8 mem_8) rfl rfl rfl (Nat.le_of_ble_eq_true rfl) ⟨by show (_ : Nat) ≤ 600104; omega, by show (_ : Nat) ≤ 7301314; omega⟩ dL_law_376 ?_
                        rintro r_376 ws_376 ⟨rfl, rfl⟩
                        refine g_top (v' := .int (zI (bl a pp))) (rfl) ?_
                        refine g_istore E dL_law_379 (by decide) ?_
                        refine g_aload_n E dL_law_381 rfl ?_
                        refine g_iload E dL_law_382 rfl ?_
                        refine g_iconst E dL_law_384 ?_
                        refine g_mVi (T := TX4) (ci := 4) (n := 2) (As := [_, _]) (rest := _) E (n_X4_about l D cA _ ad σ a hI (pp : Int) 1 ⟨by omega, by omega⟩ ⟨by omega, by omega⟩ ⟨⟨by omega, by omega⟩, by omega, by omega⟩) gL_law_X4_about rfl ⟨rfl, rfl⟩ (by decide +kernel) ⟨Nat.le_of_ble_eq_true rfl, Nat.le_of_ble_eq_true rfl⟩ (ob_8 mem_8) rfl rfl rfl (Nat.le_of_ble_eq_true rfl) ⟨by show (_ : Nat) ≤ 600104; omega, by show (_ : Nat) ≤ 7301314; omega⟩ dL_law_385 ?_
                        rintro r_385 ws_385 ⟨rfl, rfl⟩
                        refine g_top (v' := .int (zI (sd a pp))) (rfl) ?_
                        refine g_istore E dL_law_388 (by decide) ?_
                        refine g_aload E dL_law_390 rfl ?_
                        refine g_aload_n E dL_law_392 rfl ?_
                        refine g_iload E dL_law_393 rfl ?_
                        refine g_iconst E dL_law_395 ?_
                        refine g_mVi (T := TX4) (ci := 4) (n := 2) (As := [_, _]) (rest := _) E (n_X4_about l D cA _ ad σ a hI (pp : Int) 0 ⟨by omega, by omega⟩ ⟨by omega, by omega⟩ ⟨⟨by omega, by omega⟩, by omega, by omega⟩) gL_law_X4_about rfl ⟨rfl, rfl⟩ (by decide +kernel) ⟨Nat.le_of_ble_eq_true rfl, Nat.le_of_ble_eq_true rfl⟩ (ob_8 mem_8) rfl rfl rfl (Nat.le_of_ble_eq_true rfl) ⟨by show (_ : Nat) ≤ 600104; omega, by show (_ : Nat) ≤ 7301314; omega⟩ dL_law_396 ?_
                        rintro r_396 ws_396 ⟨rfl, rfl⟩
                        refine g_top (v' := .int (zI (cal a pp))) (rfl) ?_
                        refine g_dup2 E dL_law_399 rfl rfl ?_
                        refine g_iald E 0 rfl (at_r (at_r (at_i 3 rfl))) (by omega) (by omega) rfl dL_law_400 ?_
                        refine g_top (v' := .int (zI (ofCal a (cal a pp) pp))) (congrArg Value.int (piG_v hk0)) ?_
                        refine g_iload E dL_law_401 rfl ?_
                        refine g_iadd E dL_law_403 ?_
                        refine g_iast E 0 rfl (by omega) (by omega) (se_r (se_r (se_i 3 rfl rfl))) dL_law_404 ?_
                        refine g_iload E dL_law_405 rfl ?_
                        refine g_aload_n E dL_law_407 rfl ?_
                        refine g_iload E dL_law_408 rfl ?_
                        refine g_iconst E dL_law_410 ?_
                        refine g_mVi (T := TX4) (ci := 4) (n := 2) (As := [_, _]) (rest := _) E (n_X4_about l D cA _ ad σ a hI (pp : Int) 3 ⟨by omega, by omega⟩ ⟨by omega, by omega⟩ ⟨⟨by omega, by omega⟩, by omega, by omega⟩) gL_law_X4_about rfl ⟨rfl, rfl⟩ (by decide +kernel) ⟨Nat.le_of_ble_eq_true rfl, Nat.le_of_ble_eq_true rfl⟩ (ob_8 mem_8) rfl rfl rfl (Nat.le_of_ble_eq_true rfl) ⟨by show (_ : Nat) ≤ 600104; omega, by show (_ : Nat) ≤ 7301314; omega⟩ dL_law_411 ?_
                        rintro r_411 ws_411 ⟨rfl, rfl⟩
                        refine g_top (v' := .int (zI (sq (sd a pp)))) (rfl) ?_
                        refine g_icmp_gt (tgt := 488) E dL_law_414 (by decide) (by omega) (by omega) (fun c_414 => ?_) (fun c_414 => ?_)
                        · exact absurd c_414 (by omega)
                        · refine g_aload_n E dL_law_417 rfl ?_
                          refine g_iload E dL_law_418 rfl ?_
                          refine g_iconst E dL_law_420 ?_
                          refine g_mVi (T := TX4) (ci := 4) (n := 2) (As := [_, _]) (rest := _) E (n_X4_about l D cA _ ad σ a hI (pp : Int) 3 ⟨by omega, by omega⟩ ⟨by omega, by omega⟩ ⟨⟨by omega, by omega⟩, by omega, by omega⟩) gL_law_X4_about rfl ⟨rfl, rfl⟩ (by decide +kernel) ⟨Nat.le_of_ble_eq_true rfl, Nat.le_of_ble_eq_true rfl⟩ (ob_8 mem_8) rfl rfl rfl (Nat.le_of_ble_eq_true rfl) ⟨by show (_ : Nat) ≤ 600104; omega, by show (_ : Nat) ≤ 7301314; omega⟩ dL_law_421 ?_
                          rintro r_421 ws_421 ⟨rfl, rfl⟩
                          refine g_top (v' := .int (zI (sq (sd a pp)))) (rfl) ?_
                          refine g_aload_n E dL_law_424 rfl ?_
                          refine g_iload E dL_law_425 rfl ?_
                          refine g_mZi (T := TX4) (ci := 4) (n := 1) (As := [_]) (rest := _) E Z (c_X4_room l hl0 D cA _ ad σ a hI (sd a pp) ⟨by omega, by omega⟩) gL_law_X4_room rfl ⟨rfl, rfl⟩ (by decide +kernel) ⟨Nat.le_of_ble_eq_true rfl, Nat.le_of_ble_eq_true rfl⟩ (ob_8 mem_8) rfl rfl rfl (Nat.le_of_ble_eq_true rfl) ⟨by show (_ : Nat) ≤ 600104; omega, by show (_ : Nat) ≤ 7301314; omega⟩ dL_law_427 (fun E9 h => exn_0 (by rw [e_in (by omega)] at h; exact h)) ?_
                          rintro r_427 ws_427 ⟨-, rfl, rfl⟩
                          refine g_icmp_ne (tgt := 488) E dL_law_430 (by decide) (by omega) (by omega) (fun c_430 => ?_) (fun c_430 => ?_)
                          · exact absurd rfl c_430
                          · have j_452 : GW p l e room_1 s m #[Value.ref b9] below meth c Q D A 28 (wS cA am L a ++ (wX cA ad (upY σ 0 a) ++ [(qa, .inl (cA 0, 5, .inl (fa))), (qc, .inl (cA 0, 5, .inl fc)), (qs, .inl (cA 0, 5, .inl (suG a 5 0))), (qp, .inl (cA 0, 5, .inl (piG a (pp + 1))))])) (C0 + 3 + pp) (S0 + 16 + 6 * pp) 452 [(0, .ref b9), (1, .ref (ad 0 8 0)), (2, .ref (am 0 0 0)), (3, .int (zI k3)), (10, .ref qp), (11, .int (zI (pp : Int))), (12, .int (zI (bl a pp))), (13, .int (zI (sd a pp)))] [] := by
                              refine g_aload_n E dL_law_452 rfl ?_
                              refine g_iload E dL_law_453 rfl ?_
                              refine g_iconst E dL_law_455 ?_
                              refine g_mVi (T := TX4) (ci := 4) (n := 2) (As := [_, _]) (rest := _) E (n_X4_about l D cA _ ad σ a hI (pp : Int) 5 ⟨by omega, by omega⟩ ⟨by omega, by omega⟩ ⟨⟨by omega, by omega⟩, by omega, by omega⟩) gL_law_X4_about rfl ⟨rfl, rfl⟩ (by decide +kernel) ⟨Nat.le_of_ble_eq_true rfl, Nat.le_of_ble_eq_true rfl⟩ (ob_8 mem_8) rfl rfl rfl (Nat.le_of_ble_eq_true rfl) ⟨by show (_ : Nat) ≤ 600104; omega, by show (_ : Nat) ≤ 7301314; omega⟩ dL_law_456 ?_
                              rintro r_456 ws_456 ⟨rfl, rfl⟩
                              refine g_top (v' := .int (zI (lf (sd a pp) (bl a pp)))) (rfl) ?_
                              refine g_aload_n E dL_law_459 rfl ?_
                              refine g_iload E dL_law_460 rfl ?_
                              refine g_iconst E dL_law_462 ?_
                              refine g_mVi (T := TX4) (ci := 4) (n := 2) (As := [_, _]) (rest := _) E (n_X4_about l D cA _ ad σ a hI (pp : Int) 4 ⟨by omega, by omega⟩ ⟨by omega, by omega⟩ ⟨⟨by omega, by omega⟩, by omega, by omega⟩) gL_law_X4_about rfl ⟨rfl, rfl⟩ (by decide +kernel) ⟨Nat.le_of_ble_eq_true rfl, Nat.le_of_ble_eq_true rfl⟩ (ob_8 mem_8) rfl rfl rfl (Nat.le_of_ble_eq_true rfl) ⟨by show (_ : Nat) ≤ 600104; omega, by show (_ : Nat) ≤ 7301314; omega⟩ dL_law_463 ?_
                              rintro r_463 ws_463 ⟨rfl, rfl⟩
                              refine g_top (v' := .int (zI (lb (sd a pp) (bl a pp)))) (rfl) ?_
                              refine g_icmp_gt (tgt := 488) E dL_law_466 (by decide) (by omega) (by omega) (fun c_466 => ?_) (fun c_466 => ?_)
                              · exact absurd c_466 (by omega)
                              · refine g_aload_n E dL_law_469 rfl ?_
                                refine g_iload E dL_law_470 rfl ?_
                                refine g_iconst E dL_law_472 ?_
                                refine g_mVi (T := TX4) (ci := 4) (n := 2) (As := [_, _]) (rest := _) E (n_X4_about l D cA _ ad σ a hI (pp : Int) 4 ⟨by omega, by omega⟩ ⟨by omega, by omega⟩ ⟨⟨by omega, by omega⟩, by omega, by omega⟩) gL_law_X4_about rfl ⟨rfl, rfl⟩ (by decide +kernel) ⟨Nat.le_of_ble_eq_true rfl, Nat.le_of_ble_eq_true rfl⟩ (ob_8 mem_8) rfl rfl rfl (Nat.le_of_ble_eq_true rfl) ⟨by show (_ : Nat) ≤ 600104; omega, by show (_ : Nat) ≤ 7301314; omega⟩ dL_law_473 ?_
                                rintro r_473 ws_473 ⟨rfl, rfl⟩
                                refine g_top (v' := .int (zI (lb (sd a pp) (bl a pp)))) (rfl) ?_
                                refine g_aload_n E dL_law_476 rfl ?_
                                refine g_iload E dL_law_477 rfl ?_
                                refine g_iconst E dL_law_479 ?_
                                refine g_mVi (T := TX4) (ci := 4) (n := 2) (As := [_, _]) (rest := _) E (n_X4_about l D cA _ ad σ a hI (pp : Int) 5 ⟨by omega, by omega⟩ ⟨by omega, by omega⟩ ⟨⟨by omega, by omega⟩, by omega, by omega⟩) gL_law_X4_about rfl ⟨rfl, rfl⟩ (by decide +kernel) ⟨Nat.le_of_ble_eq_true rfl, Nat.le_of_ble_eq_true rfl⟩ (ob_8 mem_8) rfl rfl rfl (Nat.le_of_ble_eq_true rfl) ⟨by show (_ : Nat) ≤ 600104; omega, by show (_ : Nat) ≤ 7301314; omega⟩ dL_law_480 ?_
                                rintro r_480 ws_480 ⟨rfl, rfl⟩
                                refine g_top (v' := .int (zI (lf (sd a pp) (bl a pp)))) (rfl) ?_
                                refine g_iconst E dL_law_483 ?_
                                refine g_iadd E dL_law_484 ?_
                                refine g_icmp_le (tgt := 490) E dL_law_485 (by decide) (by omega) (by omega) (fun c_485 => ?_) (fun c_485 => ?_)
                                · refine g_iconst E dL_law_490 ?_
                                  refine g_istore E dL_law_491 (by decide) ?_
                                  refine g_iconst E dL_law_493 ?_
                                  refine g_istore E dL_law_494 (by decide) ?_
                                  refine g_iconst E dL_law_496 ?_
                                  refine g_istore E dL_law_497 (by decide) ?_
                                  refine g_iconst E dL_law_499 ?_
                                  refine g_istore E dL_law_500 (by decide) ?_
                                  refine g_iconst E dL_law_502 ?_
                                  refine g_istore E dL_law_503 (by decide) ?_
                                  refine g_iconst E dL_law_505 ?_
                                  refine g_istore E dL_law_506 (by decide) ?_
                                  refine g_iconst E dL_law_508 ?_
                                  refine g_istore E dL_law_509 (by decide) ?_
                                  refine g_wid (k := C0 + 3 + pp) (n := S0 + 16 + 6 * pp) (by omega) (by omega) ?_
                                  have key_kb : ∀ (n_kb kb : Nat), (kb : Int) ≤ bl a pp → bl a pp + 1 ≤ (kb : Int) + n_kb → GW p l e room_1 s m #[Value.ref b9] below meth c Q D A 28 (wS cA am L a ++ (wX cA ad (upY σ 0 a) ++ [(qa, .inl (cA 0, 5, .inl (fa))), (qc, .inl (cA 0, 5, .inl fc)), (qs, .inl (cA 0, 5, .inl (suG a 5 0))), (qp, .inl (cA 0, 5, .inl (piG a (pp + 1))))])) (C0 + 3 + pp) (S0 + 16 + 6 * pp) 511 [(0, .ref b9), (1, .ref (ad 0 8 0)), (2, .ref (am 0 0 0)), (3, .int (zI k3)), (10, .ref qp), (11, .int (zI (pp : Int))), (12, .int (zI (bl a pp))), (13, .int (zI (sd a pp))), (14, .int (zI (bareN a pp kb))), (15, .int (sumN a pp kb)), (16, .int (zI (rustyN a pp (a 0 0 4) kb))), (17, .int (zI (lieS (sd a pp) (bl a pp) kb))), (18, .int (zI (aboS (sd a pp) kb))), (19, .int (greatN a pp kb)), (20, .int (zI (kb : Int)))] [] := by
                                    intro n_kb
                                    induction n_kb with
                                    | zero => intro kb h1 h2; exact absurd h2 (by omega)
                                    | succ n_kb ih_kb =>
                                      intro kb hle_kb hfu_kb
                                      have hlb9 := lie_b (sd a pp) (bl a pp) kb
                                      have hab9 := abo_b (sd a pp) kb
                                      have hrb9 := rusty_b a pp (a 0 0 4) kb
                                      refine g_iload E dL_law_511 rfl ?_
                                      refine g_iload E dL_law_513 rfl ?_
                                      refine g_icmp_ge (tgt := 792) E dL_law_515 (by decide) (by omega) (by omega) (fun c_515 => ?_) (fun c_515 => ?_)
                                      · obtain rfl : kb = (bl a pp).toNat := (by omega)
                                        refine g_iload E dL_law_792 rfl ?_
                                        refine g_iconst E dL_law_794 ?_
                                        refine g_iload E dL_law_795 rfl ?_
                                        refine g_imul E dL_law_797 ?_
                                        refine g_icmp_ne (tgt := 853) E dL_law_798 (by decide) (by omega) (by omega) (fun c_798 => ?_) (fun c_798 => ?_)
                                        · exact absurd (lie_abo ⟨he1, he6⟩ ⟨hb0, hbq⟩) c_798
                                        · refine g_iload E dL_law_801 rfl ?_
                                          refine g_aload_n E dL_law_803 rfl ?_
                                          refine g_iload E dL_law_804 rfl ?_
                                          refine g_bipush E dL_law_806 (by decide) ?_
                                          refine g_mVi (T := TX4) (ci := 4) (n := 2) (As := [_, _]) (rest := _) E (n_X4_about l D cA _ ad σ a hI (pp : Int) 6 ⟨by omega, by omega⟩ ⟨by omega, by omega⟩ ⟨⟨by omega, by omega⟩, by omega, by omega⟩) gL_law_X4_about rfl ⟨rfl, rfl⟩ (by decide +kernel) ⟨Nat.le_of_ble_eq_true rfl, Nat.le_of_ble_eq_true rfl⟩ (ob_8 mem_8) rfl rfl rfl (Nat.le_of_ble_eq_true rfl) ⟨by show (_ : Nat) ≤ 600104; omega, by show (_ : Nat) ≤ 7301314; omega⟩ dL_law_808 ?_
                                          rintro r_808 ws_808 ⟨rfl, rfl⟩
                                          refine g_top (v' := .int (zI (bareN a pp (bl a pp).toNat))) (rfl) ?_
                                          refine g_icmp_neR (tgt := 853) E dL_law_811 (by decide) (fun c_811 => ?_) (fun c_811 => ?_)
                                          · exact absurd rfl c_811
                                          · refine g_iload E dL_law_814 rfl ?_
                                            refine g_aload_n E dL_law_816 rfl ?_
                                            refine g_iload E dL_law_817 rfl ?_
                                            refine g_bipush E dL_law_819 (by decide) ?_
                                            refine g_mVi (T := TX4) (ci := 4) (n := 2) (As := [_, _]) (rest := _) E (n_X4_about l D cA _ ad σ a hI (pp : Int) 9 ⟨by omega, by omega⟩ ⟨by omega, by omega⟩ ⟨⟨by omega, by omega⟩, by omega, by omega⟩) gL_law_X4_about rfl ⟨rfl, rfl⟩ (by decide +kernel) ⟨Nat.le_of_ble_eq_true rfl, Nat.le_of_ble_eq_true rfl⟩ (ob_8 mem_8) rfl rfl rfl (Nat.le_of_ble_eq_true rfl) ⟨by show (_ : Nat) ≤ 600104; omega, by show (_ : Nat) ≤ 7301314; omega⟩ dL_law_821 ?_
                                            rintro r_821 ws_821 ⟨rfl, rfl⟩
                                            refine g_top (v' := .int (sumN a pp (bl a pp).toNat)) (rfl) ?_
                                            refine g_icmp_neR (tgt := 853) E dL_law_824 (by decide) (fun c_824 => ?_) (fun c_824 => ?_)
                                            · exact absurd rfl c_824
                                            · refine g_iload E dL_law_827 rfl ?_
                                              refine g_aload_n E dL_law_829 rfl ?_
                                              refine g_iload E dL_law_830 rfl ?_
                                              refine g_bipush E dL_law_832 (by decide) ?_
                                              refine g_mVi (T := TX4) (ci := 4) (n := 2) (As := [_, _]) (rest := _) E (n_X4_about l D cA _ ad σ a hI (pp : Int) 7 ⟨by omega, by omega⟩ ⟨by omega, by omega⟩ ⟨⟨by omega, by omega⟩, by omega, by omega⟩) gL_law_X4_about rfl ⟨rfl, rfl⟩ (by decide +kernel) ⟨Nat.le_of_ble_eq_true rfl, Nat.le_of_ble_eq_true rfl⟩ (ob_8 mem_8) rfl rfl rfl (Nat.le_of_ble_eq_true rfl) ⟨by show (_ : Nat) ≤ 600104; omega, by show (_ : Nat) ≤ 7301314; omega⟩ dL_law_834 ?_
                                              rintro r_834 ws_834 ⟨rfl, rfl⟩
                                              refine g_top (v' := .int (zI (rustyN a pp (a 0 0 4) (bl a pp).toNat))) (rfl) ?_
                                              refine g_icmp_neR (tgt := 853) E dL_law_837 (by decide) (fun c_837 => ?_) (fun c_837 => ?_)
                                              · exact absurd rfl c_837
                                              · refine g_iload E dL_law_840 rfl ?_
                                                refine g_aload_n E dL_law_842 rfl ?_
                                                refine g_iload E dL_law_843 rfl ?_
                                                refine g_bipush E dL_law_845 (by decide) ?_
                                                refine g_mVi (T := TX4) (ci := 4) (n := 2) (As := [_, _]) (rest := _) E (n_X4_about l D cA _ ad σ a hI (pp : Int) 8 ⟨by omega, by omega⟩ ⟨by omega, by omega⟩ ⟨⟨by omega, by omega⟩, by omega, by omega⟩) gL_law_X4_about rfl ⟨rfl, rfl⟩ (by decide +kernel) ⟨Nat.le_of_ble_eq_true rfl, Nat.le_of_ble_eq_true rfl⟩ (ob_8 mem_8) rfl rfl rfl (Nat.le_of_ble_eq_true rfl) ⟨by show (_ : Nat) ≤ 600104; omega, by show (_ : Nat) ≤ 7301314; omega⟩ dL_law_847 ?_
                                                rintro r_847 ws_847 ⟨rfl, rfl⟩
                                                refine g_top (v' := .int (greatN a pp (bl a pp).toNat)) (rfl) ?_
                                                refine g_icmp_eqR (tgt := 855) E dL_law_850 (by decide) (fun c_850 => ?_) (fun c_850 => ?_)
                                                · refine g_iinc E dL_law_855 rfl (by decide) ?_
                                                  refine g_goto (tgt := 362) E dL_law_858 (by decide) ?_
                                                  refine g_wid (k := C0 + 2 + (pp + 1)) (n := S0 + 10 + 6 * (pp + 1)) (by omega) (by omega) ?_
                                                  refine g_st (ws' := wS cA am L a ++ (wX cA ad (upY σ 0 a) ++ [(qa, .inl (cA 0, 5, .inl (fa))), (qc, .inl (cA 0, 5, .inl fc)), (qs, .inl (cA 0, 5, .inl (suG a 5 0))), (qp, .inl (cA 0, 5, .inl (piG a (pp + 1))))])) (rfl) rfl rfl ?_
                                                  refine g_loc (lv' := [(0, .ref b9), (1, .ref (ad 0 8 0)), (2, .ref (am 0 0 0)), (3, .int (zI k3)), (10, .ref qp), (11, .int (zI ((pp + 1) : Int)))]) ⟨rfl, rfl, rfl, rfl, rfl, rfl, trivial⟩ ?_
                                                  exact ih_pp (pp + 1) (by omega) (by omega)
                                                · exact absurd rfl c_850
                                      · obtain ⟨xa, xb, -, -, xc, xd, xe, xf, -, -⟩ := pyF ⟨he1, he6⟩ (b := (kb : Int)) (by omega); have hrsb := hRB pp kb (by omega) (by omega); have hcv := cv_on hPk (k := (kb : Int)) (by omega); have hcf := fun q => (cv_on0 hPk (k := (kb : Int)) (by omega)).mp q; have honb := onN_b (sd a pp) (bl a pp) kb; have hlflb := lf_lb ⟨he1, he6⟩ hbq (k := (kb : Int)) (by omega)
                                        refine g_aload_n E dL_law_518 rfl ?_
                                        refine g_iload E dL_law_519 rfl ?_
                                        refine g_iload E dL_law_521 rfl ?_
                                        refine g_iconst E dL_law_523 ?_
                                        refine g_mVi (T := TX4) (ci := 4) (n := 3) (As := [_, _, _]) (rest := _) E (n_X4_ball l D cA _ ad σ a hI (pp : Int) (kb : Int) 0 ⟨by omega, by omega⟩ ⟨by omega, by omega⟩ ⟨by omega, by omega⟩ ⟨⟨by omega, by omega⟩, ⟨by omega, by omega⟩, by omega, by omega⟩) gL_law_X4_ball rfl ⟨rfl, rfl⟩ (by decide +kernel) ⟨Nat.le_of_ble_eq_true rfl, Nat.le_of_ble_eq_true rfl⟩ (ob_8 mem_8) rfl rfl rfl (Nat.le_of_ble_eq_true rfl) ⟨by show (_ : Nat) ≤ 600104; omega, by show (_ : Nat) ≤ 7301314; omega⟩ dL_law_524 ?_
                                        rintro r_524 ws_524 ⟨rfl, rfl⟩
                                        refine g_top (v' := .int (zI (rs a pp kb))) (congrArg Value.int (zI_self _).symm) ?_
                                        refine g_istore E dL_law_527 (by decide) ?_
                                        refine g_aload_n E dL_law_529 rfl ?_
                                        refine g_iload E dL_law_530 rfl ?_
                                        refine g_iload E dL_law_532 rfl ?_
                                        refine g_iconst E dL_law_534 ?_
                                        refine g_mVi (T := TX4) (ci := 4) (n := 3) (As := [_, _, _]) (rest := _) E (n_X4_ball l D cA _ ad σ a hI (pp : Int) (kb : Int) 1 ⟨by omega, by omega⟩ ⟨by omega, by omega⟩ ⟨by omega, by omega⟩ ⟨⟨by omega, by omega⟩, ⟨by omega, by omega⟩, by omega, by omega⟩) gL_law_X4_ball rfl ⟨rfl, rfl⟩ (by decide +kernel) ⟨Nat.le_of_ble_eq_true rfl, Nat.le_of_ble_eq_true rfl⟩ (ob_8 mem_8) rfl rfl rfl (Nat.le_of_ble_eq_true rfl) ⟨by show (_ : Nat) ≤ 600104; omega, by show (_ : Nat) ≤ 7301314; omega⟩ dL_law_535 ?_
                                        rintro r_535 ws_535 ⟨rfl, rfl⟩
                                        refine g_top (v' := .int (zI (lf (sd a pp) kb))) (rfl) ?_
                                        refine g_istore E dL_law_538 (by decide) ?_
                                        refine g_aload_n E dL_law_540 rfl ?_
                                        refine g_iload E dL_law_541 rfl ?_
                                        refine g_iload E dL_law_543 rfl ?_
                                        refine g_iconst E dL_law_545 ?_
                                        refine g_mVi (T := TX4) (ci := 4) (n := 3) (As := [_, _, _]) (rest := _) E (n_X4_ball l D cA _ ad σ a hI (pp : Int) (kb : Int) 2 ⟨by omega, by omega⟩ ⟨by omega, by omega⟩ ⟨by omega, by omega⟩ ⟨⟨by omega, by omega⟩, ⟨by omega, by omega⟩, by omega, by omega⟩) gL_law_X4_ball rfl ⟨rfl, rfl⟩ (by decide +kernel) ⟨Nat.le_of_ble_eq_true rfl, Nat.le_of_ble_eq_true rfl⟩ (ob_8 mem_8) rfl rfl rfl (Nat.le_of_ble_eq_true rfl) ⟨by show (_ : Nat) ≤ 600104; omega, by show (_ : Nat) ≤ 7301314; omega⟩ dL_law_546 ?_
                                        rintro r_546 ws_546 ⟨rfl, rfl⟩
                                        refine g_top (v' := .int (zI (row (sd a pp) kb))) (rfl) ?_
                                        refine g_istore E dL_law_549 (by decide) ?_
                                        refine g_aload_n E dL_law_551 rfl ?_
                                        refine g_iload E dL_law_552 rfl ?_
                                        refine g_iload E dL_law_554 rfl ?_
                                        refine g_iconst E dL_law_556 ?_
                                        refine g_mVi (T := TX4) (ci := 4) (n := 3) (As := [_, _, _]) (rest := _) E (n_X4_ball l D cA _ ad σ a hI (pp : Int) (kb : Int) 3 ⟨by omega, by omega⟩ ⟨by omega, by omega⟩ ⟨by omega, by omega⟩ ⟨⟨by omega, by omega⟩, ⟨by omega, by omega⟩, by omega, by omega⟩) gL_law_X4_ball rfl ⟨rfl, rfl⟩ (by decide +kernel) ⟨Nat.le_of_ble_eq_true rfl, Nat.le_of_ble_eq_true rfl⟩ (ob_8 mem_8) rfl rfl rfl (Nat.le_of_ble_eq_true rfl) ⟨by show (_ : Nat) ≤ 600104; omega, by show (_ : Nat) ≤ 7301314; omega⟩ dL_law_557 ?_
                                        rintro r_557 ws_557 ⟨rfl, rfl⟩
                                        refine g_top (v' := .int (zI (pla (sd a pp) kb))) (rfl) ?_
                                        refine g_istore E dL_law_560 (by decide) ?_
                                        refine g_aload_n E dL_law_562 rfl ?_
                                        refine g_iload E dL_law_563 rfl ?_
                                        refine g_iload E dL_law_565 rfl ?_
                                        refine g_iconst E dL_law_567 ?_
                                        refine g_mVi (T := TX4) (ci := 4) (n := 3) (As := [_, _, _]) (rest := _) E (n_X4_ball l D cA _ ad σ a hI (pp : Int) (kb : Int) 5 ⟨by omega, by omega⟩ ⟨by omega, by omega⟩ ⟨by omega, by omega⟩ ⟨⟨by omega, by omega⟩, ⟨by omega, by omega⟩, by omega, by omega⟩) gL_law_X4_ball rfl ⟨rfl, rfl⟩ (by decide +kernel) ⟨Nat.le_of_ble_eq_true rfl, Nat.le_of_ble_eq_true rfl⟩ (ob_8 mem_8) rfl rfl rfl (Nat.le_of_ble_eq_true rfl) ⟨by show (_ : Nat) ≤ 600104; omega, by show (_ : Nat) ≤ 7301314; omega⟩ dL_law_568 ?_
                                        rintro r_568 ws_568 ⟨rfl, rfl⟩
                                        refine g_top (v' := .int (zI (onN (sd a pp) (bl a pp) kb))) (rfl) ?_
                                        refine g_istore E dL_law_571 (by decide) ?_
                                        refine g_iload E dL_law_573 rfl ?_
                                        refine g_if_lt (tgt := 662) E dL_law_575 (by decide) (by omega) (fun c_575 => ?_) (fun c_575 => ?_)
                                        · exact absurd c_575 (by omega)
                                        · refine g_iload E dL_law_578 rfl ?_
                                          refine g_bipush E dL_law_580 (by decide) ?_
                                          refine g_icmp_gt (tgt := 662) E dL_law_582 (by decide) (by omega) (by omega) (fun c_582 => ?_) (fun c_582 => ?_)
                                          · exact absurd c_582 (by omega)
                                          · refine g_iload E dL_law_585 rfl ?_
                                            refine g_iconst E dL_law_587 ?_
                                            refine g_icmp_gt (tgt := 662) E dL_law_588 (by decide) (by omega) (by omega) (fun c_588 => ?_) (fun c_588 => ?_)
                                            · exact absurd c_588 (by omega)
                                            · refine g_aload_n E dL_law_591 rfl ?_
                                              refine g_iload E dL_law_592 rfl ?_
                                              refine g_iload E dL_law_594 rfl ?_
                                              refine g_iconst E dL_law_596 ?_
                                              refine g_mVi (T := TX4) (ci := 4) (n := 3) (As := [_, _, _]) (rest := _) E (n_X4_ball l D cA _ ad σ a hI (pp : Int) (kb : Int) 4 ⟨by omega, by omega⟩ ⟨by omega, by omega⟩ ⟨by omega, by omega⟩ ⟨⟨by omega, by omega⟩, ⟨by omega, by omega⟩, by omega, by omega⟩) gL_law_X4_ball rfl ⟨rfl, rfl⟩ (by decide +kernel) ⟨Nat.le_of_ble_eq_true rfl, Nat.le_of_ble_eq_true rfl⟩ (ob_8 mem_8) rfl rfl rfl (Nat.le_of_ble_eq_true rfl) ⟨by show (_ : Nat) ≤ 600104; omega, by show (_ : Nat) ≤ 7301314; omega⟩ dL_law_597 ?_
                                              rintro r_597 ws_597 ⟨rfl, rfl⟩
                                              refine g_top (v' := .int (zI (if cv a pp kb then 1 else 0))) (rfl) ?_
                                              have j_613 : GW p l e room_1 s m #[Value.ref b9] below meth c Q D A 28 (wS cA am L a ++ (wX cA ad (upY σ 0 a) ++ [(qa, .inl (cA 0, 5, .inl (fa))), (qc, .inl (cA 0, 5, .inl fc)), (qs, .inl (cA 0, 5, .inl (suG a 5 0))), (qp, .inl (cA 0, 5, .inl (piG a (pp + 1))))])) (C0 + 3 + pp) (S0 + 16 + 6 * pp) 613 [(0, .ref b9), (1, .ref (ad 0 8 0)), (2, .ref (am 0 0 0)), (3, .int (zI k3)), (10, .ref qp), (11, .int (zI (pp : Int))), (12, .int (zI (bl a pp))), (13, .int (zI (sd a pp))), (14, .int (zI (bareN a pp kb))), (15, .int (sumN a pp kb)), (16, .int (zI (rustyN a pp (a 0 0 4) kb))), (17, .int (zI (lieS (sd a pp) (bl a pp) kb))), (18, .int (zI (aboS (sd a pp) kb))), (19, .int (greatN a pp kb)), (20, .int (zI (kb : Int))), (21, .int (zI (rs a pp kb))), (22, .int (zI (lf (sd a pp) kb))), (23, .int (zI (row (sd a pp) kb))), (24, .int (zI (pla (sd a pp) kb))), (25, .int (zI (onN (sd a pp) (bl a pp) kb)))] [] := by
                                                refine g_iload E dL_law_613 rfl ?_
                                                refine g_iload E dL_law_615 rfl ?_
                                                refine g_iload E dL_law_617 rfl ?_
                                                refine g_isub E dL_law_619 ?_
                                                refine g_icmp_ge (tgt := 662) E dL_law_620 (by decide) (by omega) (by omega) (fun c_620 => ?_) (fun c_620 => ?_)
                                                · exact absurd c_620 (by omega)
                                                · refine g_iload E dL_law_623 rfl ?_
                                                  refine g_iload E dL_law_625 rfl ?_
                                                  refine g_iload E dL_law_627 rfl ?_
                                                  refine g_isub E dL_law_629 ?_
                                                  refine g_icmp_ge (tgt := 662) E dL_law_630 (by decide) (by omega) (by omega) (fun c_630 => ?_) (fun c_630 => ?_)
                                                  · exact absurd c_630 (by omega)
                                                  · refine g_aload_n E dL_law_633 rfl ?_
                                                    refine g_iload E dL_law_634 rfl ?_
                                                    refine g_iload E dL_law_636 rfl ?_
                                                    refine g_iload E dL_law_638 rfl ?_
                                                    refine g_iload E dL_law_640 rfl ?_
                                                    refine g_mVi (T := TX4) (ci := 4) (n := 4) (As := [_, _, _, _]) (rest := _) E (n_X4_at l D cA _ ad σ a hI (pp : Int) (lf (sd a pp) kb) (row (sd a pp) kb) (pla (sd a pp) kb) ⟨by omega, by omega⟩ ⟨by omega, by omega⟩ ⟨by omega, by omega⟩ ⟨by omega, by omega⟩ ⟨⟨by omega, by omega⟩, ⟨by omega, by omega⟩, ⟨by omega, by omega⟩, by omega, by omega⟩) gL_law_X4_at rfl ⟨rfl, rfl⟩ (by decide +kernel) ⟨Nat.le_of_ble_eq_true rfl, Nat.le_of_ble_eq_true rfl⟩ (ob_8 mem_8) rfl rfl rfl (Nat.le_of_ble_eq_true rfl) ⟨by show (_ : Nat) ≤ 600104; omega, by show (_ : Nat) ≤ 7301314; omega⟩ dL_law_642 ?_
                                                    rintro r_642 ws_642 ⟨rfl, rfl⟩
                                                    refine g_top (v' := .int (zI (kb : Int))) (congrArg (fun q : Int => Value.int (zI q)) (atV_c (by omega))) ?_
                                                    refine g_iload E dL_law_645 rfl ?_
                                                    refine g_icmp_ne (tgt := 662) E dL_law_647 (by decide) (by omega) (by omega) (fun c_647 => ?_) (fun c_647 => ?_)
                                                    · exact absurd rfl c_647
                                                    · refine g_iload E dL_law_650 rfl ?_
                                                      refine g_aload_n E dL_law_652 rfl ?_
                                                      refine g_iload E dL_law_653 rfl ?_
                                                      refine g_iconst E dL_law_655 ?_
                                                      refine g_mVi (T := TX4) (ci := 4) (n := 2) (As := [_, _]) (rest := _) E (n_X4_about l D cA _ ad σ a hI (pp : Int) 4 ⟨by omega, by omega⟩ ⟨by omega, by omega⟩ ⟨⟨by omega, by omega⟩, by omega, by omega⟩) gL_law_X4_about rfl ⟨rfl, rfl⟩ (by decide +kernel) ⟨Nat.le_of_ble_eq_true rfl, Nat.le_of_ble_eq_true rfl⟩ (ob_8 mem_8) rfl rfl rfl (Nat.le_of_ble_eq_true rfl) ⟨by show (_ : Nat) ≤ 600104; omega, by show (_ : Nat) ≤ 7301314; omega⟩ dL_law_656 ?_
                                                      rintro r_656 ws_656 ⟨rfl, rfl⟩
                                                      refine g_top (v' := .int (zI (lb (sd a pp) (bl a pp)))) (rfl) ?_
                                                      refine g_icmp_lt (tgt := 664) E dL_law_659 (by decide) (by omega) (by omega) (fun c_659 => ?_) (fun c_659 => ?_)
                                                      · have j_727 : GW p l e room_1 s m #[Value.ref b9] below meth c Q D A 28 (wS cA am L a ++ (wX cA ad (upY σ 0 a) ++ [(qa, .inl (cA 0, 5, .inl (fa))), (qc, .inl (cA 0, 5, .inl fc)), (qs, .inl (cA 0, 5, .inl (suG a 5 0))), (qp, .inl (cA 0, 5, .inl (piG a (pp + 1))))])) (C0 + 3 + pp) (S0 + 16 + 6 * pp) 727 [(0, .ref b9), (1, .ref (ad 0 8 0)), (2, .ref (am 0 0 0)), (3, .int (zI k3)), (10, .ref qp), (11, .int (zI (pp : Int))), (12, .int (zI (bl a pp))), (13, .int (zI (sd a pp))), (14, .int (zI (bareN a pp kb))), (15, .int (sumN a pp kb)), (16, .int (zI (rustyN a pp (a 0 0 4) kb))), (17, .int (zI (lieS (sd a pp) (bl a pp) kb))), (18, .int (zI (aboS (sd a pp) (kb + 1)))), (19, .int (greatN a pp kb)), (20, .int (zI (kb : Int))), (21, .int (zI (rs a pp kb))), (25, .int (zI (onN (sd a pp) (bl a pp) kb)))] [] := by
                                                          refine g_iload E dL_law_727 rfl ?_
                                                          refine g_iload E dL_law_729 rfl ?_
                                                          refine g_iadd E dL_law_731 ?_
                                                          refine g_istore E dL_law_732 (by decide) ?_
                                                          have j_749 : GW p l e room_1 s m #[Value.ref b9] below meth c Q D A 28 (wS cA am L a ++ (wX cA ad (upY σ 0 a) ++ [(qa, .inl (cA 0, 5, .inl (fa))), (qc, .inl (cA 0, 5, .inl fc)), (qs, .inl (cA 0, 5, .inl (suG a 5 0))), (qp, .inl (cA 0, 5, .inl (piG a (pp + 1))))])) (C0 + 3 + pp) (S0 + 16 + 6 * pp) 749 [(0, .ref b9), (1, .ref (ad 0 8 0)), (2, .ref (am 0 0 0)), (3, .int (zI k3)), (10, .ref qp), (11, .int (zI (pp : Int))), (12, .int (zI (bl a pp))), (13, .int (zI (sd a pp))), (14, .int (zI (bareN a pp (kb + 1)))), (15, .int (sumN a pp kb)), (16, .int (zI (rustyN a pp (a 0 0 4) kb))), (17, .int (zI (lieS (sd a pp) (bl a pp) (kb + 1)))), (18, .int (zI (aboS (sd a pp) (kb + 1)))), (19, .int (greatN a pp kb)), (20, .int (zI (kb : Int))), (21, .int (zI (rs a pp kb))), (25, .int (zI (onN (sd a pp) (bl a pp) kb)))] [] := by
                                                            refine g_iload E dL_law_749 rfl ?_
                                                            refine g_iload E dL_law_751 rfl ?_
                                                            refine g_top (v' := .int (a 2 pp kb)) (congrArg Value.int (zI_self _)) ?_
                                                            refine g_iaddR E dL_law_753 ?_
                                                            refine g_istore E dL_law_754 (by decide) ?_
                                                            have j_777 : GW p l e room_1 s m #[Value.ref b9] below meth c Q D A 28 (wS cA am L a ++ (wX cA ad (upY σ 0 a) ++ [(qa, .inl (cA 0, 5, .inl (fa))), (qc, .inl (cA 0, 5, .inl fc)), (qs, .inl (cA 0, 5, .inl (suG a 5 0))), (qp, .inl (cA 0, 5, .inl (piG a (pp + 1))))])) (C0 + 3 + pp) (S0 + 16 + 6 * pp) 777 [(0, .ref b9), (1, .ref (ad 0 8 0)), (2, .ref (am 0 0 0)), (3, .int (zI k3)), (10, .ref qp), (11, .int (zI (pp : Int))), (12, .int (zI (bl a pp))), (13, .int (zI (sd a pp))), (14, .int (zI (bareN a pp (kb + 1)))), (15, .int (sumN a pp (kb + 1))), (16, .int (zI (rustyN a pp (a 0 0 4) (kb + 1)))), (17, .int (zI (lieS (sd a pp) (bl a pp) (kb + 1)))), (18, .int (zI (aboS (sd a pp) (kb + 1)))), (19, .int (greatN a pp kb)), (20, .int (zI (kb : Int))), (21, .int (zI (rs a pp kb))), (25, .int (zI (onN (sd a pp) (bl a pp) kb)))] [] := by
                                                              refine g_iload E dL_law_777 rfl ?_
                                                              refine g_iload E dL_law_779 rfl ?_
                                                              refine g_top (v' := .int (a 2 pp kb)) (congrArg Value.int (zI_self _)) ?_
                                                              refine g_mmax E (by decide +kernel) (by decide +kernel) (by decide +kernel) (by decide +kernel) (Nat.le_of_ble_eq_true rfl) (Nat.le_of_ble_eq_true rfl) (by show (_ : Nat) ≤ 600104; omega) (by show (_ : Nat) ≤ 7301314; omega) dL_law_781 ?_
                                                              refine g_top (v' := .int (greatN a pp (kb + 1))) rfl ?_
                                                              refine g_istore E dL_law_784 (by decide) ?_
                                                              refine g_iinc E dL_law_786 rfl (by decide) ?_
                                                              refine g_goto (tgt := 511) E dL_law_789 (by decide) ?_
                                                              refine g_wid (k := C0 + 3 + pp) (n := S0 + 16 + 6 * pp) (by omega) (by omega) ?_
                                                              refine g_st (ws' := wS cA am L a ++ (wX cA ad (upY σ 0 a) ++ [(qa, .inl (cA 0, 5, .inl (fa))), (qc, .inl (cA 0, 5, .inl fc)), (qs, .inl (cA 0, 5, .inl (suG a 5 0))), (qp, .inl (cA 0, 5, .inl (piG a (pp + 1))))])) (rfl) rfl rfl ?_
                                                              refine g_loc (lv' := [(0, .ref b9), (1, .ref (ad 0 8 0)), (2, .ref (am 0 0 0)), (3, .int (zI k3)), (10, .ref qp), (11, .int (zI (pp : Int))), (12, .int (zI (bl a pp))), (13, .int (zI (sd a pp))), (14, .int (zI (bareN a pp (kb + 1)))), (15, .int (sumN a pp (kb + 1))), (16, .int (zI (rustyN a pp (a 0 0 4) (kb + 1)))), (17, .int (zI (lieS (sd a pp) (bl a pp) (kb + 1)))), (18, .int (zI (aboS (sd a pp) (kb + 1)))), (19, .int (greatN a pp (kb + 1))), (20, .int (zI ((kb + 1) : Int)))]) ⟨rfl, rfl, rfl, rfl, rfl, rfl, rfl, rfl, rfl, rfl, rfl, rfl, rfl, rfl, rfl, trivial⟩ ?_
                                                              exact ih_kb (kb + 1) (by omega) (by omega)
                                                            refine g_iload E dL_law_756 rfl ?_
                                                            refine g_iload E dL_law_758 rfl ?_
                                                            refine g_top (v' := .int (a 2 pp kb)) (congrArg Value.int (zI_self _)) ?_
                                                            refine g_aload_n E dL_law_760 rfl ?_
                                                            refine g_bipush E dL_law_761 (by decide) ?_
                                                            refine g_mVi (T := TX4) (ci := 4) (n := 1) (As := [_]) (rest := _) E (n_X4_count l D cA _ ad σ a hI 10 ⟨by omega, by omega⟩ ⟨by omega, by omega⟩) gL_law_X4_count rfl ⟨rfl, rfl⟩ (by decide +kernel) ⟨Nat.le_of_ble_eq_true rfl, Nat.le_of_ble_eq_true rfl⟩ (ob_8 mem_8) rfl rfl rfl (Nat.le_of_ble_eq_true rfl) ⟨by show (_ : Nat) ≤ 600104; omega, by show (_ : Nat) ≤ 7301314; omega⟩ dL_law_763 ?_
                                                            rintro r_763 ws_763 ⟨rfl, rfl⟩
                                                            refine g_top (v' := .int (a 0 0 4)) (rfl) ?_
                                                            refine g_icmp_ltR (tgt := 773) E dL_law_766 (by decide) (fun c_766 => ?_) (fun c_766 => ?_)
                                                            · refine g_iconst E dL_law_773 ?_
                                                              refine g_iadd E dL_law_774 ?_
                                                              refine g_istore E dL_law_775 (by decide) ?_
                                                              refine g_wid (k := C0 + 3 + pp) (n := S0 + 16 + 6 * pp) (by omega) (by omega) ?_
                                                              refine g_loc (lv' := [(0, .ref b9), (1, .ref (ad 0 8 0)), (2, .ref (am 0 0 0)), (3, .int (zI k3)), (10, .ref qp), (11, .int (zI (pp : Int))), (12, .int (zI (bl a pp))), (13, .int (zI (sd a pp))), (14, .int (zI (bareN a pp (kb + 1)))), (15, .int (sumN a pp (kb + 1))), (16, .int (zI (rustyN a pp (a 0 0 4) (kb + 1)))), (17, .int (zI (lieS (sd a pp) (bl a pp) (kb + 1)))), (18, .int (zI (aboS (sd a pp) (kb + 1)))), (19, .int (greatN a pp kb)), (20, .int (zI (kb : Int))), (21, .int (zI (rs a pp kb))), (25, .int (zI (onN (sd a pp) (bl a pp) kb)))]) ⟨rfl, rfl, rfl, rfl, rfl, rfl, rfl, rfl, rfl, rfl, congrArg (fun z : Int => some (Value.int (zI z))) (by first | (rw [rusty_t c_766]; omega) | (rw [rusty_f c_766])), rfl, rfl, rfl, rfl, rfl, rfl, trivial⟩ ?_
                                                              exact j_777
                                                            · refine g_iconst E dL_law_769 ?_
                                                              refine g_goto (tgt := 774) E dL_law_770 (by decide) ?_
                                                              refine g_iadd E dL_law_774 ?_
                                                              refine g_istore E dL_law_775 (by decide) ?_
                                                              refine g_wid (k := C0 + 3 + pp) (n := S0 + 16 + 6 * pp) (by omega) (by omega) ?_
                                                              refine g_loc (lv' := [(0, .ref b9), (1, .ref (ad 0 8 0)), (2, .ref (am 0 0 0)), (3, .int (zI k3)), (10, .ref qp), (11, .int (zI (pp : Int))), (12, .int (zI (bl a pp))), (13, .int (zI (sd a pp))), (14, .int (zI (bareN a pp (kb + 1)))), (15, .int (sumN a pp (kb + 1))), (16, .int (zI (rustyN a pp (a 0 0 4) (kb + 1)))), (17, .int (zI (lieS (sd a pp) (bl a pp) (kb + 1)))), (18, .int (zI (aboS (sd a pp) (kb + 1)))), (19, .int (greatN a pp kb)), (20, .int (zI (kb : Int))), (21, .int (zI (rs a pp kb))), (25, .int (zI (onN (sd a pp) (bl a pp) kb)))]) ⟨rfl, rfl, rfl, rfl, rfl, rfl, rfl, rfl, rfl, rfl, congrArg (fun z : Int => some (Value.int (zI z))) (by first | (rw [rusty_t c_766]; omega) | (rw [rusty_f c_766])), rfl, rfl, rfl, rfl, rfl, rfl, trivial⟩ ?_
                                                              exact j_777
                                                          refine g_iload E dL_law_734 rfl ?_
                                                          refine g_iload E dL_law_736 rfl ?_
                                                          refine g_if_ne (tgt := 745) E dL_law_738 (by decide) (by omega) (fun c_738 => ?_) (fun c_738 => ?_)
                                                          · refine g_iconst E dL_law_745 ?_
                                                            refine g_iadd E dL_law_746 ?_
                                                            refine g_istore E dL_law_747 (by decide) ?_
                                                            refine g_wid (k := C0 + 3 + pp) (n := S0 + 16 + 6 * pp) (by omega) (by omega) ?_
                                                            refine g_loc (lv' := [(0, .ref b9), (1, .ref (ad 0 8 0)), (2, .ref (am 0 0 0)), (3, .int (zI k3)), (10, .ref qp), (11, .int (zI (pp : Int))), (12, .int (zI (bl a pp))), (13, .int (zI (sd a pp))), (14, .int (zI (bareN a pp (kb + 1)))), (15, .int (sumN a pp kb)), (16, .int (zI (rustyN a pp (a 0 0 4) kb))), (17, .int (zI (lieS (sd a pp) (bl a pp) (kb + 1)))), (18, .int (zI (aboS (sd a pp) (kb + 1)))), (19, .int (greatN a pp kb)), (20, .int (zI (kb : Int))), (21, .int (zI (rs a pp kb))), (25, .int (zI (onN (sd a pp) (bl a pp) kb)))]) ⟨rfl, rfl, rfl, rfl, rfl, rfl, rfl, rfl, congrArg (fun z : Int => some (Value.int (zI z))) (by first | (rw [bare_f (hcf (by omega))]) | (rw [bare_t (hcv.mp (by omega))]; omega)), rfl, rfl, congrArg (fun z : Int => some (Value.int (zI z))) rfl, rfl, rfl, rfl, rfl, rfl, trivial⟩ ?_
                                                            exact j_749
                                                          · refine g_iconst E dL_law_741 ?_
                                                            refine g_goto (tgt := 746) E dL_law_742 (by decide) ?_
                                                            refine g_iadd E dL_law_746 ?_
                                                            refine g_istore E dL_law_747 (by decide) ?_
                                                            refine g_wid (k := C0 + 3 + pp) (n := S0 + 16 + 6 * pp) (by omega) (by omega) ?_
                                                            refine g_loc (lv' := [(0, .ref b9), (1, .ref (ad 0 8 0)), (2, .ref (am 0 0 0)), (3, .int (zI k3)), (10, .ref qp), (11, .int (zI (pp : Int))), (12, .int (zI (bl a pp))), (13, .int (zI (sd a pp))), (14, .int (zI (bareN a pp (kb + 1)))), (15, .int (sumN a pp kb)), (16, .int (zI (rustyN a pp (a 0 0 4) kb))), (17, .int (zI (lieS (sd a pp) (bl a pp) (kb + 1)))), (18, .int (zI (aboS (sd a pp) (kb + 1)))), (19, .int (greatN a pp kb)), (20, .int (zI (kb : Int))), (21, .int (zI (rs a pp kb))), (25, .int (zI (onN (sd a pp) (bl a pp) kb)))]) ⟨rfl, rfl, rfl, rfl, rfl, rfl, rfl, rfl, congrArg (fun z : Int => some (Value.int (zI z))) (by first | (rw [bare_f (hcf (by omega))]) | (rw [bare_t (hcv.mp (by omega))]; omega)), rfl, rfl, congrArg (fun z : Int => some (Value.int (zI z))) rfl, rfl, rfl, rfl, rfl, rfl, trivial⟩ ?_
                                                            exact j_749
                                                        refine g_iload E dL_law_664 rfl ?_
                                                        refine g_if_le (tgt := 727) E dL_law_666 (by decide) (by omega) (fun c_666 => ?_) (fun c_666 => ?_)
                                                        · refine g_wid (k := C0 + 3 + pp) (n := S0 + 16 + 6 * pp) (by omega) (by omega) ?_
                                                          refine g_loc (lv' := [(0, .ref b9), (1, .ref (ad 0 8 0)), (2, .ref (am 0 0 0)), (3, .int (zI k3)), (10, .ref qp), (11, .int (zI (pp : Int))), (12, .int (zI (bl a pp))), (13, .int (zI (sd a pp))), (14, .int (zI (bareN a pp kb))), (15, .int (sumN a pp kb)), (16, .int (zI (rustyN a pp (a 0 0 4) kb))), (17, .int (zI (lieS (sd a pp) (bl a pp) kb))), (18, .int (zI (aboS (sd a pp) (kb + 1)))), (19, .int (greatN a pp kb)), (20, .int (zI (kb : Int))), (21, .int (zI (rs a pp kb))), (25, .int (zI (onN (sd a pp) (bl a pp) kb)))]) ⟨rfl, rfl, rfl, rfl, rfl, rfl, rfl, rfl, rfl, rfl, rfl, rfl, congrArg (fun z : Int => some (Value.int (zI z))) (by rw [aboS]; first | (rw [if_pos (by omega)]) | (rw [if_neg (by omega)]; omega)), rfl, rfl, rfl, rfl, trivial⟩ ?_
                                                          exact j_727
                                                        · refine g_iinc E dL_law_669 rfl (by decide) ?_
                                                          refine g_iconst E dL_law_672 ?_
                                                          refine g_istore E dL_law_673 (by decide) ?_
                                                          refine g_wid (k := C0 + 3 + pp) (n := S0 + 16 + 6 * pp) (by omega) (by omega) ?_
                                                          have key_ib : ∀ (n_ib ib : Nat), (ib : Int) ≤ (4 : Int) → (4 : Int) + 1 ≤ (ib : Int) + n_ib → GW p l e room_1 s m #[Value.ref b9] below meth c Q D A 28 (wS cA am L a ++ (wX cA ad (upY σ 0 a) ++ [(qa, .inl (cA 0, 5, .inl (fa))), (qc, .inl (cA 0, 5, .inl fc)), (qs, .inl (cA 0, 5, .inl (suG a 5 0))), (qp, .inl (cA 0, 5, .inl (piG a (pp + 1))))])) (C0 + 3 + pp) (S0 + 16 + 6 * pp) 675 [(0, .ref b9), (1, .ref (ad 0 8 0)), (2, .ref (am 0 0 0)), (3, .int (zI k3)), (10, .ref qp), (11, .int (zI (pp : Int))), (12, .int (zI (bl a pp))), (13, .int (zI (sd a pp))), (14, .int (zI (bareN a pp kb))), (15, .int (sumN a pp kb)), (16, .int (zI (rustyN a pp (a 0 0 4) kb))), (17, .int (zI (lieS (sd a pp) (bl a pp) kb))), (18, .int (zI (aboS (sd a pp) kb + 1))), (19, .int (greatN a pp kb)), (20, .int (zI (kb : Int))), (21, .int (zI (rs a pp kb))), (22, .int (zI (lf (sd a pp) kb))), (23, .int (zI (row (sd a pp) kb))), (24, .int (zI (pla (sd a pp) kb))), (25, .int (zI (onN (sd a pp) (bl a pp) kb))), (26, .int (zI (ib : Int)))] [] := by
                                                            intro n_ib
                                                            induction n_ib with
                                                            | zero => intro ib h1 h2; exact absurd h2 (by omega)
                                                            | succ n_ib ih_ib =>
                                                              intro ib hle_ib hfu_ib
                                                              refine g_iload E dL_law_675 rfl ?_
                                                              refine g_iconst E dL_law_677 ?_
                                                              refine g_icmp_ge (tgt := 727) E dL_law_678 (by decide) (by omega) (by omega) (fun c_678 => ?_) (fun c_678 => ?_)
                                                              · refine g_wid (k := C0 + 3 + pp) (n := S0 + 16 + 6 * pp) (by omega) (by omega) ?_
                                                                refine g_loc (lv' := [(0, .ref b9), (1, .ref (ad 0 8 0)), (2, .ref (am 0 0 0)), (3, .int (zI k3)), (10, .ref qp), (11, .int (zI (pp : Int))), (12, .int (zI (bl a pp))), (13, .int (zI (sd a pp))), (14, .int (zI (bareN a pp kb))), (15, .int (sumN a pp kb)), (16, .int (zI (rustyN a pp (a 0 0 4) kb))), (17, .int (zI (lieS (sd a pp) (bl a pp) kb))), (18, .int (zI (aboS (sd a pp) (kb + 1)))), (19, .int (greatN a pp kb)), (20, .int (zI (kb : Int))), (21, .int (zI (rs a pp kb))), (25, .int (zI (onN (sd a pp) (bl a pp) kb)))]) ⟨rfl, rfl, rfl, rfl, rfl, rfl, rfl, rfl, rfl, rfl, rfl, rfl, congrArg (fun z : Int => some (Value.int (zI z))) (by rw [aboS]; first | (rw [if_pos (by omega)]) | (rw [if_neg (by omega)]; omega)), rfl, rfl, rfl, rfl, trivial⟩ ?_
                                                                exact j_727
                                                              · refine g_aload_n E dL_law_681 rfl ?_
                                                                refine g_iload E dL_law_682 rfl ?_
                                                                refine g_iload E dL_law_684 rfl ?_
                                                                refine g_iconst E dL_law_686 ?_
                                                                refine g_isub E dL_law_687 ?_
                                                                refine g_iload E dL_law_688 rfl ?_
                                                                refine g_iload E dL_law_690 rfl ?_
                                                                refine g_iconst E dL_law_692 ?_
                                                                refine g_idiv E dL_law_693 (by omega) (by omega) ?_
                                                                refine g_iadd E dL_law_694 ?_
                                                                refine g_iload E dL_law_695 rfl ?_
                                                                refine g_iload E dL_law_697 rfl ?_
                                                                refine g_iconst E dL_law_699 ?_
                                                                refine g_irem E dL_law_700 (by omega) (by omega) ?_
                                                                refine g_iadd E dL_law_701 ?_
                                                                refine g_mVi (T := TX4) (ci := 4) (n := 4) (As := [_, _, _, _]) (rest := _) E (n_X4_at l D cA _ ad σ a hI (pp : Int) (lf (sd a pp) kb - 1) (row (sd a pp) kb + (ib : Int) / 2) (pla (sd a pp) kb + (ib : Int) % 2) ⟨by omega, by omega⟩ ⟨by omega, by omega⟩ ⟨by omega, by omega⟩ ⟨by omega, by omega⟩ ⟨⟨by omega, by omega⟩, ⟨by omega, by omega⟩, ⟨by omega, by omega⟩, by omega, by omega⟩) gL_law_X4_at rfl ⟨rfl, rfl⟩ (by decide +kernel) ⟨Nat.le_of_ble_eq_true rfl, Nat.le_of_ble_eq_true rfl⟩ (ob_8 mem_8) rfl rfl rfl (Nat.le_of_ble_eq_true rfl) ⟨by show (_ : Nat) ≤ 600104; omega, by show (_ : Nat) ≤ 7301314; omega⟩ dL_law_702 ?_
                                                                rintro r_702 ws_702 ⟨rfl, rfl⟩
                                                                have hlo := low_b ⟨he1, he6⟩ (k := (kb : Int)) (i := (ib : Int)) (by omega) (by omega) (by omega)
                                                                refine g_top (v' := .int (zI (lowV (sd a pp) kb ib))) (congrArg (fun q : Int => Value.int (zI q)) (at_low (by omega) hlo.2)) ?_
                                                                refine g_istore E dL_law_705 (by decide) ?_
                                                                refine g_iload E dL_law_707 rfl ?_
                                                                refine g_if_lt (tgt := 719) E dL_law_709 (by decide) (by omega) (fun c_709 => ?_) (fun c_709 => ?_)
                                                                · exact absurd c_709 (by omega)
                                                                · refine g_iload E dL_law_712 rfl ?_
                                                                  refine g_iload E dL_law_714 rfl ?_
                                                                  refine g_icmp_lt (tgt := 721) E dL_law_716 (by decide) (by omega) (by omega) (fun c_716 => ?_) (fun c_716 => ?_)
                                                                  · refine g_iinc E dL_law_721 rfl (by decide) ?_
                                                                    refine g_goto (tgt := 675) E dL_law_724 (by decide) ?_
                                                                    refine g_wid (k := C0 + 3 + pp) (n := S0 + 16 + 6 * pp) (by omega) (by omega) ?_
                                                                    refine g_st (ws' := wS cA am L a ++ (wX cA ad (upY σ 0 a) ++ [(qa, .inl (cA 0, 5, .inl (fa))), (qc, .inl (cA 0, 5, .inl fc)), (qs, .inl (cA 0, 5, .inl (suG a 5 0))), (qp, .inl (cA 0, 5, .inl (piG a (pp + 1))))])) (rfl) rfl rfl ?_
                                                                    refine g_loc (lv' := [(0, .ref b9), (1, .ref (ad 0 8 0)), (2, .ref (am 0 0 0)), (3, .int (zI k3)), (10, .ref qp), (11, .int (zI (pp : Int))), (12, .int (zI (bl a pp))), (13, .int (zI (sd a pp))), (14, .int (zI (bareN a pp kb))), (15, .int (sumN a pp kb)), (16, .int (zI (rustyN a pp (a 0 0 4) kb))), (17, .int (zI (lieS (sd a pp) (bl a pp) kb))), (18, .int (zI (aboS (sd a pp) kb + 1))), (19, .int (greatN a pp kb)), (20, .int (zI (kb : Int))), (21, .int (zI (rs a pp kb))), (22, .int (zI (lf (sd a pp) kb))), (23, .int (zI (row (sd a pp) kb))), (24, .int (zI (pla (sd a pp) kb))), (25, .int (zI (onN (sd a pp) (bl a pp) kb))), (26, .int (zI ((ib + 1) : Int)))]) ⟨rfl, rfl, rfl, rfl, rfl, rfl, rfl, rfl, rfl, rfl, rfl, rfl, rfl, rfl, rfl, rfl, rfl, rfl, rfl, rfl, rfl, trivial⟩ ?_
                                                                    exact ih_ib (ib + 1) (by omega) (by omega)
                                                                  · exact absurd (by omega) c_716
                                                          refine g_st (ws' := wS cA am L a ++ (wX cA ad (upY σ 0 a) ++ [(qa, .inl (cA 0, 5, .inl (fa))), (qc, .inl (cA 0, 5, .inl fc)), (qs, .inl (cA 0, 5, .inl (suG a 5 0))), (qp, .inl (cA 0, 5, .inl (piG a (pp + 1))))])) (rfl) rfl rfl ?_
                                                          refine g_loc (lv' := [(0, .ref b9), (1, .ref (ad 0 8 0)), (2, .ref (am 0 0 0)), (3, .int (zI k3)), (10, .ref qp), (11, .int (zI (pp : Int))), (12, .int (zI (bl a pp))), (13, .int (zI (sd a pp))), (14, .int (zI (bareN a pp kb))), (15, .int (sumN a pp kb)), (16, .int (zI (rustyN a pp (a 0 0 4) kb))), (17, .int (zI (lieS (sd a pp) (bl a pp) kb))), (18, .int (zI (aboS (sd a pp) kb + 1))), (19, .int (greatN a pp kb)), (20, .int (zI (kb : Int))), (21, .int (zI (rs a pp kb))), (22, .int (zI (lf (sd a pp) kb))), (23, .int (zI (row (sd a pp) kb))), (24, .int (zI (pla (sd a pp) kb))), (25, .int (zI (onN (sd a pp) (bl a pp) kb))), (26, .int (zI (0 : Int)))]) ⟨rfl, rfl, rfl, rfl, rfl, rfl, rfl, rfl, rfl, rfl, rfl, rfl, rfl, rfl, rfl, rfl, rfl, rfl, rfl, rfl, rfl, trivial⟩ ?_
                                                          exact key_ib (((4 : Int)) + 1).toNat.succ 0 (by omega) (by omega)
                                                      · exact absurd (by omega) c_659
                                              refine g_iload E dL_law_600 rfl ?_
                                              refine g_if_le (tgt := 609) E dL_law_602 (by decide) (by omega) (fun c_602 => ?_) (fun c_602 => ?_)
                                              · refine g_iconst E dL_law_609 ?_
                                                refine g_icmp_neR (tgt := 662) E dL_law_610 (by decide) (fun c_610 => ?_) (fun c_610 => ?_)
                                                · exact absurd (by first | (exfalso; omega) | rw [if_pos (hcv.mp (by omega))] | rw [if_neg (fun q => absurd (hcv.mpr q) (by omega))]) c_610
                                                · refine g_wid (k := C0 + 3 + pp) (n := S0 + 16 + 6 * pp) (by omega) (by omega) ?_
                                                  refine g_loc (lv' := [(0, .ref b9), (1, .ref (ad 0 8 0)), (2, .ref (am 0 0 0)), (3, .int (zI k3)), (10, .ref qp), (11, .int (zI (pp : Int))), (12, .int (zI (bl a pp))), (13, .int (zI (sd a pp))), (14, .int (zI (bareN a pp kb))), (15, .int (sumN a pp kb)), (16, .int (zI (rustyN a pp (a 0 0 4) kb))), (17, .int (zI (lieS (sd a pp) (bl a pp) kb))), (18, .int (zI (aboS (sd a pp) kb))), (19, .int (greatN a pp kb)), (20, .int (zI (kb : Int))), (21, .int (zI (rs a pp kb))), (22, .int (zI (lf (sd a pp) kb))), (23, .int (zI (row (sd a pp) kb))), (24, .int (zI (pla (sd a pp) kb))), (25, .int (zI (onN (sd a pp) (bl a pp) kb)))]) ⟨rfl, rfl, rfl, rfl, rfl, rfl, rfl, rfl, rfl, rfl, rfl, rfl, rfl, rfl, rfl, rfl, rfl, rfl, rfl, rfl, trivial⟩ ?_
                                                  exact j_613
                                              · refine g_iconst E dL_law_605 ?_
                                                refine g_goto (tgt := 610) E dL_law_606 (by decide) ?_
                                                refine g_icmp_neR (tgt := 662) E dL_law_610 (by decide) (fun c_610 => ?_) (fun c_610 => ?_)
                                                · exact absurd (by first | (exfalso; omega) | rw [if_pos (hcv.mp (by omega))] | rw [if_neg (fun q => absurd (hcv.mpr q) (by omega))]) c_610
                                                · refine g_wid (k := C0 + 3 + pp) (n := S0 + 16 + 6 * pp) (by omega) (by omega) ?_
                                                  refine g_loc (lv' := [(0, .ref b9), (1, .ref (ad 0 8 0)), (2, .ref (am 0 0 0)), (3, .int (zI k3)), (10, .ref qp), (11, .int (zI (pp : Int))), (12, .int (zI (bl a pp))), (13, .int (zI (sd a pp))), (14, .int (zI (bareN a pp kb))), (15, .int (sumN a pp kb)), (16, .int (zI (rustyN a pp (a 0 0 4) kb))), (17, .int (zI (lieS (sd a pp) (bl a pp) kb))), (18, .int (zI (aboS (sd a pp) kb))), (19, .int (greatN a pp kb)), (20, .int (zI (kb : Int))), (21, .int (zI (rs a pp kb))), (22, .int (zI (lf (sd a pp) kb))), (23, .int (zI (row (sd a pp) kb))), (24, .int (zI (pla (sd a pp) kb))), (25, .int (zI (onN (sd a pp) (bl a pp) kb)))]) ⟨rfl, rfl, rfl, rfl, rfl, rfl, rfl, rfl, rfl, rfl, rfl, rfl, rfl, rfl, rfl, rfl, rfl, rfl, rfl, rfl, trivial⟩ ?_
                                                  exact j_613
                                  refine g_st (ws' := wS cA am L a ++ (wX cA ad (upY σ 0 a) ++ [(qa, .inl (cA 0, 5, .inl (fa))), (qc, .inl (cA 0, 5, .inl fc)), (qs, .inl (cA 0, 5, .inl (suG a 5 0))), (qp, .inl (cA 0, 5, .inl (piG a (pp + 1))))])) (rfl) rfl rfl ?_
                                  refine g_loc (lv' := [(0, .ref b9), (1, .ref (ad 0 8 0)), (2, .ref (am 0 0 0)), (3, .int (zI k3)), (10, .ref qp), (11, .int (zI (pp : Int))), (12, .int (zI (bl a pp))), (13, .int (zI (sd a pp))), (14, .int (zI (bareN a pp 0))), (15, .int (sumN a pp 0)), (16, .int (zI (rustyN a pp (a 0 0 4) 0))), (17, .int (zI (lieS (sd a pp) (bl a pp) 0))), (18, .int (zI (aboS (sd a pp) 0))), (19, .int (greatN a pp 0)), (20, .int (zI (0 : Int)))]) ⟨rfl, rfl, rfl, rfl, rfl, rfl, rfl, rfl, rfl, rfl, rfl, rfl, rfl, rfl, rfl, trivial⟩ ?_
                                  exact key_kb ((bl a pp) + 1).toNat.succ 0 (by omega) (by omega)
                                · exact absurd (by omega) c_485
                            refine g_iload E dL_law_433 rfl ?_
                            refine g_if_le (tgt := 452) E dL_law_435 (by decide) (by omega) (fun c_435 => ?_) (fun c_435 => ?_)
                            · refine g_wid (k := C0 + 3 + pp) (n := S0 + 16 + 6 * pp) (by omega) (by omega) ?_
                              refine g_st (ws' := wS cA am L a ++ (wX cA ad (upY σ 0 a) ++ [(qa, .inl (cA 0, 5, .inl (fa))), (qc, .inl (cA 0, 5, .inl fc)), (qs, .inl (cA 0, 5, .inl (suG a 5 0))), (qp, .inl (cA 0, 5, .inl (piG a (pp + 1))))])) (congrArg (fun f => wS cA am L a ++ (wX cA ad (upY σ 0 a) ++ [(qa, .inl (cA 0, 5, .inl (fa))), (qc, .inl (cA 0, 5, .inl fc)), (qs, .inl (cA 0, 5, .inl (suG a 5 0))), (qp, .inl (cA 0, 5, .inl (f)))])) (piG_s hk0)) rfl rfl ?_
                              refine g_loc (lv' := [(0, .ref b9), (1, .ref (ad 0 8 0)), (2, .ref (am 0 0 0)), (3, .int (zI k3)), (10, .ref qp), (11, .int (zI (pp : Int))), (12, .int (zI (bl a pp))), (13, .int (zI (sd a pp)))]) ⟨rfl, rfl, rfl, rfl, rfl, rfl, rfl, rfl, trivial⟩ ?_
                              exact j_452
                            · refine g_aload_n E dL_law_438 rfl ?_
                              refine g_iload E dL_law_439 rfl ?_
                              refine g_iload E dL_law_441 rfl ?_
                              refine g_iconst E dL_law_443 ?_
                              refine g_isub E dL_law_444 ?_
                              refine g_iconst E dL_law_445 ?_
                              refine g_mVi (T := TX4) (ci := 4) (n := 3) (As := [_, _, _]) (rest := _) E (n_X4_ball l D cA _ ad σ a hI (pp : Int) (bl a pp - 1) 4 ⟨by omega, by omega⟩ ⟨by omega, by omega⟩ ⟨by omega, by omega⟩ ⟨⟨by omega, by omega⟩, ⟨by omega, by omega⟩, by omega, by omega⟩) gL_law_X4_ball rfl ⟨rfl, rfl⟩ (by decide +kernel) ⟨Nat.le_of_ble_eq_true rfl, Nat.le_of_ble_eq_true rfl⟩ (ob_8 mem_8) rfl rfl rfl (Nat.le_of_ble_eq_true rfl) ⟨by show (_ : Nat) ≤ 600104; omega, by show (_ : Nat) ≤ 7301314; omega⟩ dL_law_446 ?_
                              rintro r_446 ws_446 ⟨rfl, rfl⟩
                              refine g_top (v' := .int (zI 0)) (congrArg Value.int (by show zI (if cv a pp (bl a pp - 1) = true then 1 else 0) = zI 0; rw [top_cv hPk (by omega)]; rfl)) ?_
                              refine g_if_ne (tgt := 488) E dL_law_449 (by decide) (by omega) (fun c_449 => ?_) (fun c_449 => ?_)
                              · exact absurd rfl c_449
                              · refine g_wid (k := C0 + 3 + pp) (n := S0 + 16 + 6 * pp) (by omega) (by omega) ?_
                                refine g_st (ws' := wS cA am L a ++ (wX cA ad (upY σ 0 a) ++ [(qa, .inl (cA 0, 5, .inl (fa))), (qc, .inl (cA 0, 5, .inl fc)), (qs, .inl (cA 0, 5, .inl (suG a 5 0))), (qp, .inl (cA 0, 5, .inl (piG a (pp + 1))))])) (congrArg (fun f => wS cA am L a ++ (wX cA ad (upY σ 0 a) ++ [(qa, .inl (cA 0, 5, .inl (fa))), (qc, .inl (cA 0, 5, .inl fc)), (qs, .inl (cA 0, 5, .inl (suG a 5 0))), (qp, .inl (cA 0, 5, .inl (f)))])) (piG_s hk0)) rfl rfl ?_
                                refine g_loc (lv' := [(0, .ref b9), (1, .ref (ad 0 8 0)), (2, .ref (am 0 0 0)), (3, .int (zI k3)), (10, .ref qp), (11, .int (zI (pp : Int))), (12, .int (zI (bl a pp))), (13, .int (zI (sd a pp)))]) ⟨rfl, rfl, rfl, rfl, rfl, rfl, rfl, rfl, trivial⟩ ?_
                                exact j_452
                  refine g_st (ws' := wS cA am L a ++ (wX cA ad (upY σ 0 a) ++ [(qa, .inl (cA 0, 5, .inl (fa))), (qc, .inl (cA 0, 5, .inl fc)), (qs, .inl (cA 0, 5, .inl (suG a 5 0))), (qp, .inl (cA 0, 5, .inl (piG a 0)))])) (congrArg (fun f => wS cA am L a ++ (wX cA ad (upY σ 0 a) ++ [(qa, .inl (cA 0, 5, .inl (fa))), (qc, .inl (cA 0, 5, .inl fc)), (qs, .inl (cA 0, 5, .inl (suG a 5 0))), (qp, .inl (cA 0, 5, .inl (f)))])) (piG_0 a)) rfl rfl ?_
                  refine g_loc (lv' := [(0, .ref b9), (1, .ref (ad 0 8 0)), (2, .ref (am 0 0 0)), (3, .int (zI k3)), (10, .ref qp), (11, .int (zI (0 : Int)))]) ⟨rfl, rfl, rfl, rfl, rfl, rfl, trivial⟩ ?_
                  exact key_pp ((np a) + 1).toNat.succ 0 (by omega) (by omega)
                · exact absurd rfl c_349
      · refine g_iconst E dL_law_253 ?_
        refine g_istore E dL_law_254 (by decide) ?_
        refine g_wid (k := C0 + 1) (n := S0 + 5) (by omega) (by omega) ?_
        have key_ww : ∀ (n_ww ww : Nat), (ww : Int) ≤ (5 : Int) → (5 : Int) + 1 ≤ (ww : Int) + n_ww → GW p l e room_1 s m #[Value.ref b9] below meth c Q D A 28 (wS cA am L a ++ (wX cA ad (upY σ 0 a) ++ [(qa, .inl (cA 0, 5, .inl (fa))), (qc, .inl (cA 0, 5, .inl fc)), (qs, .inl (cA 0, 5, .inl (suG a cc ww)))])) (C0 + 1) (S0 + 5) 256 [(0, .ref b9), (1, .ref (ad 0 8 0)), (2, .ref (am 0 0 0)), (3, .int (zI k3)), (9, .ref qs), (10, .int (zI (cc : Int))), (11, .int (zI (ww : Int)))] [] := by
          intro n_ww
          induction n_ww with
          | zero => intro ww h1 h2; exact absurd h2 (by omega)
          | succ n_ww ih_ww =>
            intro ww hle_ww hfu_ww
            refine g_iload E dL_law_256 rfl ?_
            refine g_iconst E dL_law_258 ?_
            refine g_icmp_ge (tgt := 284) E dL_law_259 (by decide) (by omega) (by omega) (fun c_259 => ?_) (fun c_259 => ?_)
            · obtain rfl : ww = 5 := (by omega)
              refine g_iinc E dL_law_284 rfl (by decide) ?_
              refine g_goto (tgt := 247) E dL_law_287 (by decide) ?_
              refine g_wid (k := C0 + 1) (n := S0 + 5) (by omega) (by omega) ?_
              refine g_st (ws' := wS cA am L a ++ (wX cA ad (upY σ 0 a) ++ [(qa, .inl (cA 0, 5, .inl (fa))), (qc, .inl (cA 0, 5, .inl fc)), (qs, .inl (cA 0, 5, .inl (suG a (cc + 1) 0)))])) (congrArg (fun f => wS cA am L a ++ (wX cA ad (upY σ 0 a) ++ [(qa, .inl (cA 0, 5, .inl (fa))), (qc, .inl (cA 0, 5, .inl fc)), (qs, .inl (cA 0, 5, .inl (f)))])) (suG_e a cc)) rfl rfl ?_
              refine g_loc (lv' := [(0, .ref b9), (1, .ref (ad 0 8 0)), (2, .ref (am 0 0 0)), (3, .int (zI k3)), (9, .ref qs), (10, .int (zI ((cc + 1) : Int)))]) ⟨rfl, rfl, rfl, rfl, rfl, rfl, trivial⟩ ?_
              exact ih_cc (cc + 1) (by omega) (by omega)
            · refine g_aload E dL_law_262 rfl ?_
              refine g_iload E dL_law_264 rfl ?_
              refine g_dup2 E dL_law_266 rfl rfl ?_
              refine g_iald E 0 rfl (at_r (at_r (at_i 2 rfl))) (by omega) (by omega) rfl dL_law_267 ?_
              refine g_top (v' := .int (suT a ww cc)) (congrArg Value.int (suG_w (by omega))) ?_
              refine g_aload_n E dL_law_268 rfl ?_
              refine g_iload E dL_law_269 rfl ?_
              refine g_iload E dL_law_271 rfl ?_
              refine g_mVi (T := TX4) (ci := 4) (n := 2) (As := [_, _]) (rest := _) E (n_X4_told l D cA _ ad σ a hI (cc : Int) (ww : Int) ⟨by omega, by omega⟩ ⟨by omega, by omega⟩ ⟨⟨by omega, by omega⟩, by omega, by omega⟩) gL_law_X4_told rfl ⟨rfl, rfl⟩ (by decide +kernel) ⟨Nat.le_of_ble_eq_true rfl, Nat.le_of_ble_eq_true rfl⟩ (ob_8 mem_8) rfl rfl rfl (Nat.le_of_ble_eq_true rfl) ⟨by show (_ : Nat) ≤ 600104; omega, by show (_ : Nat) ≤ 7301314; omega⟩ dL_law_273 ?_
              rintro r_273 ws_273 ⟨rfl, rfl⟩
              refine g_iaddR E dL_law_276 ?_
              refine g_iast E 0 rfl (by omega) (by omega) (se_r (se_r (se_i 2 rfl rfl))) dL_law_277 ?_
              refine g_iinc E dL_law_278 rfl (by decide) ?_
              refine g_goto (tgt := 256) E dL_law_281 (by decide) ?_
              refine g_wid (k := C0 + 1) (n := S0 + 5) (by omega) (by omega) ?_
              refine g_st (ws' := wS cA am L a ++ (wX cA ad (upY σ 0 a) ++ [(qa, .inl (cA 0, 5, .inl (fa))), (qc, .inl (cA 0, 5, .inl fc)), (qs, .inl (cA 0, 5, .inl (suG a cc (ww + 1))))])) (congrArg (fun f => wS cA am L a ++ (wX cA ad (upY σ 0 a) ++ [(qa, .inl (cA 0, 5, .inl (fa))), (qc, .inl (cA 0, 5, .inl fc)), (qs, .inl (cA 0, 5, .inl (f)))])) (suG_s (by omega))) rfl rfl ?_
              refine g_loc (lv' := [(0, .ref b9), (1, .ref (ad 0 8 0)), (2, .ref (am 0 0 0)), (3, .int (zI k3)), (9, .ref qs), (10, .int (zI (cc : Int))), (11, .int (zI ((ww + 1) : Int)))]) ⟨rfl, rfl, rfl, rfl, rfl, rfl, rfl, trivial⟩ ?_
              exact ih_ww (ww + 1) (by omega) (by omega)
        refine g_st (ws' := wS cA am L a ++ (wX cA ad (upY σ 0 a) ++ [(qa, .inl (cA 0, 5, .inl (fa))), (qc, .inl (cA 0, 5, .inl fc)), (qs, .inl (cA 0, 5, .inl (suG a cc 0)))])) (rfl) rfl rfl ?_
        refine g_loc (lv' := [(0, .ref b9), (1, .ref (ad 0 8 0)), (2, .ref (am 0 0 0)), (3, .int (zI k3)), (9, .ref qs), (10, .int (zI (cc : Int))), (11, .int (zI (0 : Int)))]) ⟨rfl, rfl, rfl, rfl, rfl, rfl, rfl, trivial⟩ ?_
        exact key_ww (((5 : Int)) + 1).toNat.succ 0 (by omega) (by omega)
  refine g_st (ws' := wS cA am L a ++ (wX cA ad (upY σ 0 a) ++ [(qa, .inl (cA 0, 5, .inl (fa))), (qc, .inl (cA 0, 5, .inl fc)), (qs, .inl (cA 0, 5, .inl (suG a 0 0)))])) (congrArg (fun f => wS cA am L a ++ (wX cA ad (upY σ 0 a) ++ [(qa, .inl (cA 0, 5, .inl (fa))), (qc, .inl (cA 0, 5, .inl fc)), (qs, .inl (cA 0, 5, .inl (f)))])) (suG_00 a)) rfl rfl ?_
  refine g_loc (lv' := [(0, .ref b9), (1, .ref (ad 0 8 0)), (2, .ref (am 0 0 0)), (3, .int (zI k3)), (9, .ref qs), (10, .int (zI (0 : Int)))]) ⟨rfl, rfl, rfl, rfl, rfl, rfl, trivial⟩ ?_
  exact key_cc (((5 : Int)) + 1).toNat.succ 0 (by omega) (by omega)
