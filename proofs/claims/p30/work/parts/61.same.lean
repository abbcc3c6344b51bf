/-! ===== the law's bastion beside the class: isSame ===== -/
set_option maxHeartbeats 4000000 in
set_option maxRecDepth 100000 in
/-- isSame(b, false) -/
theorem c_X5_isSame (l : Launch) (D : va_G) (cA : Nat → ClassId) (A : Nat → Prop) (am ad : Ad) (σ : Nat → St) (L : List Id3) (w3 : va_W) (a : St) (hS : SH L a) (hI : Inv a) : Met l yX5_isSame wsX5_isSame ({ frames := 5, cells := 600, slots := 4000, locals := 118 }) (PcZ D (tysX cA) A (wS cA am L a ++ (wX cA ad (upY σ 0 a) ++ w3)) [.ref (am 0 0 0), .ref (ad 0 8 0), .int (zI 0)]) (va_Qi (fun (r : Int32) ws' => r = zI 1 ∧ ws' = wS cA am L a ++ (wX cA ad (upY σ 0 a) ++ w3)) (gB D A) A) 600 4000 A := by
  refine g_metZ (cc := cX5_isSame) (maxL := 14) (ret := (some .boolean)) (own := RX5) rfl (by decide) rfl (Nat.le_of_ble_eq_true rfl) ?_
  intro p e s m below meth c E Z
  have hA : ∀ q, s.heap.size ≤ q → A q := Z.2.1
  have hin5 : ∀ w ∈ u_ws RX5 TX5 9, w ∈ wsX5_isSame := by decide +kernel
  have hin7 : ∀ w ∈ u_ws RX7 TX7 5, w ∈ wsX5_isSame := by decide +kernel
  obtain ⟨hL, hB, hPm, hCm, -, -⟩ := id hS
  obtain ⟨⟨hn0, hn6, hc0, hc3⟩, hPI, hCI, hFr⟩ := id hI
  have hbA := blA_b hI (np a).toNat (by omega)
  refine g_loc (lv' := [(0, .ref (am 0 0 0)), (1, .ref (ad 0 8 0)), (2, .int (zI 0))]) ⟨rfl, rfl, rfl, trivial⟩ ?_
  refine g_iconst E dX5_isSame_0 ?_
  refine g_istore_n E dX5_isSame_1 (by decide) ?_
  refine g_wid (k := 2 * 0) (n := 16 * 0) (by omega) (by omega) ?_
  have key_kk : ∀ (n_kk kk : Nat), (kk : Int) ≤ (11 : Int) → (11 : Int) + 1 ≤ (kk : Int) + n_kk → GW p l e (headSpec wsX5_isSame ({ frames := 5, cells := 600, slots := 4000, locals := 118 })).room s m ([.ref (am 0 0 0), .ref (ad 0 8 0), .int (zI 0)] : List Value).toArray below meth c (MQ below (va_Qi (fun (r : Int32) ws' => r = zI 1 ∧ ws' = wS cA am L a ++ (wX cA ad (upY σ 0 a) ++ w3)) (gB D A) A) ([.ref (am 0 0 0), .ref (ad 0 8 0), .int (zI 0)] : List Value).toArray s 600 4000 A) D A 14 (wS cA am L a ++ (wX cA ad (upY σ 0 a) ++ w3)) (2 * kk) (16 * kk) 2 [(0, .ref (am 0 0 0)), (1, .ref (ad 0 8 0)), (2, .int (zI 0)), (3, .int (zI (kk : Int)))] [] := by
    intro n_kk
    induction n_kk with
    | zero => intro kk h1 h2; exact absurd h2 (by omega)
    | succ n_kk ih_kk =>
      intro kk hle_kk hfu_kk
      refine g_iload_n E dX5_isSame_2 rfl ?_
      refine g_bipush E dX5_isSame_3 (by decide) ?_
      refine g_icmp_ge (tgt := 29) E dX5_isSame_5 (by decide) (by omega) (by omega) (fun c_5 => ?_) (fun c_5 => ?_)
      · obtain rfl : kk = 11 := (by omega)
        refine g_iconst E dX5_isSame_29 ?_
        refine g_istore_n E dX5_isSame_30 (by decide) ?_
        refine g_iconst E dX5_isSame_31 ?_
        refine g_istore E dX5_isSame_32 (by decide) ?_
        refine g_wid (k := 22 + 0) (n := 176 + 5 * 0) (by omega) (by omega) ?_
        have key_cc : ∀ (n_cc cc : Nat), (cc : Int) ≤ (5 : Int) → (5 : Int) + 1 ≤ (cc : Int) + n_cc → GW p l e (headSpec wsX5_isSame ({ frames := 5, cells := 600, slots := 4000, locals := 118 })).room s m ([.ref (am 0 0 0), .ref (ad 0 8 0), .int (zI 0)] : List Value).toArray below meth c (MQ below (va_Qi (fun (r : Int32) ws' => r = zI 1 ∧ ws' = wS cA am L a ++ (wX cA ad (upY σ 0 a) ++ w3)) (gB D A) A) ([.ref (am 0 0 0), .ref (ad 0 8 0), .int (zI 0)] : List Value).toArray s 600 4000 A) D A 14 (wS cA am L a ++ (wX cA ad (upY σ 0 a) ++ w3)) (22 + cc) (176 + 5 * cc) 34 [(0, .ref (am 0 0 0)), (1, .ref (ad 0 8 0)), (2, .int (zI 0)), (3, .int (zI 0)), (4, .int (zI (cc : Int)))] [] := by
          intro n_cc
          induction n_cc with
          | zero => intro cc h1 h2; exact absurd h2 (by omega)
          | succ n_cc ih_cc =>
            intro cc hle_cc hfu_cc
            refine g_iload E dX5_isSame_34 rfl ?_
            refine g_iconst E dX5_isSame_36 ?_
            refine g_icmp_ge (tgt := 190) E dX5_isSame_37 (by decide) (by omega) (by omega) (fun c_37 => ?_) (fun c_37 => ?_)
            · obtain rfl : cc = 5 := (by omega)
              refine g_iconst E dX5_isSame_190 ?_
              refine g_istore E dX5_isSame_191 (by decide) ?_
              refine g_wid (k := 27 + 92 * 0) (n := 201 + 556 * 0) (by omega) (by omega) ?_
              have key_pp : ∀ (n_pp pp : Nat), (pp : Int) ≤ np a → np a + 1 ≤ (pp : Int) + n_pp → GW p l e (headSpec wsX5_isSame ({ frames := 5, cells := 600, slots := 4000, locals := 118 })).room s m ([.ref (am 0 0 0), .ref (ad 0 8 0), .int (zI 0)] : List Value).toArray below meth c (MQ below (va_Qi (fun (r : Int32) ws' => r = zI 1 ∧ ws' = wS cA am L a ++ (wX cA ad (upY σ 0 a) ++ w3)) (gB D A) A) ([.ref (am 0 0 0), .ref (ad 0 8 0), .int (zI 0)] : List Value).toArray s 600 4000 A) D A 14 (wS cA am L a ++ (wX cA ad (upY σ 0 a) ++ w3)) (27 + 92 * pp) (201 + 556 * pp) 193 [(0, .ref (am 0 0 0)), (1, .ref (ad 0 8 0)), (2, .int (zI 0)), (3, .int (rsA a pp)), (4, .int (zI (pp : Int)))] [] := by
                intro n_pp
                induction n_pp with
                | zero => intro pp h1 h2; exact absurd h2 (by omega)
                | succ n_pp ih_pp =>
                  intro pp hle_pp hfu_pp
                  have hpk : (pp : Int) < np a → PI a pp := fun h => hPI pp h
                  refine g_iload E dX5_isSame_193 rfl ?_
                  refine g_aload_n E dX5_isSame_195 rfl ?_
                  refine gs_Sim_piles E hB.1 hin5 (by decide +kernel) dX5_isSame_196 ?_
                  refine ns_10 E hB.2.2.2.2.2.1 (by omega) dX5_isSame_199 ?_
                  refine g_icmp_ge (tgt := 581) E dX5_isSame_200 (by decide) (by omega) (by omega) (fun c_200 => ?_) (fun c_200 => ?_)
                  · obtain rfl : pp = (np a).toNat := (by omega)
                    refine g_iconst E dX5_isSame_581 ?_
                    refine g_istore E dX5_isSame_582 (by decide) ?_
                    refine g_wid (k := 579) (n := 3537) (by omega) (by omega) ?_
                    have key_cc2 : ∀ (n_cc2 cc2 : Nat), (cc2 : Int) ≤ nc a → nc a + 1 ≤ (cc2 : Int) + n_cc2 → GW p l e (headSpec wsX5_isSame ({ frames := 5, cells := 600, slots := 4000, locals := 118 })).room s m ([.ref (am 0 0 0), .ref (ad 0 8 0), .int (zI 0)] : List Value).toArray below meth c (MQ below (va_Qi (fun (r : Int32) ws' => r = zI 1 ∧ ws' = wS cA am L a ++ (wX cA ad (upY σ 0 a) ++ w3)) (gB D A) A) ([.ref (am 0 0 0), .ref (ad 0 8 0), .int (zI 0)] : List Value).toArray s 600 4000 A) D A 14 (wS cA am L a ++ (wX cA ad (upY σ 0 a) ++ w3)) (579) (3537) 584 [(0, .ref (am 0 0 0)), (1, .ref (ad 0 8 0)), (2, .int (zI 0)), (3, .int (rsA a (np a).toNat)), (4, .int (zI (cc2 : Int)))] [] := by
                      intro n_cc2
                      induction n_cc2 with
                      | zero => intro cc2 h1 h2; exact absurd h2 (by omega)
                      | succ n_cc2 ih_cc2 =>
                        intro cc2 hle_cc2 hfu_cc2
                        refine g_iload E dX5_isSame_584 rfl ?_
                        refine g_aload_n E dX5_isSame_586 rfl ?_
                        refine gs_Sim_cats E hB.1 hin5 (by decide +kernel) dX5_isSame_587 ?_
                        refine ns_11 E hB.2.2.2.2.2.2 (by omega) dX5_isSame_590 ?_
                        refine g_icmp_ge (tgt := 638) E dX5_isSame_591 (by decide) (by omega) (by omega) (fun c_591 => ?_) (fun c_591 => ?_)
                        · obtain rfl : cc2 = (nc a).toNat := (by omega)
                          refine g_aload_n E dX5_isSame_638 rfl ?_
                          refine g_mVd (T := TX4) (ci := 4) (n := 0) (As := []) (rest := _) E (c_X4_mean l D cA _ ad σ a hI) gX5_isSame_X4_mean rfl ⟨rfl, rfl⟩ (by decide +kernel) ⟨Nat.le_of_ble_eq_true rfl, Nat.le_of_ble_eq_true rfl⟩ (ob_8 mem_8) rfl rfl rfl (Nat.le_of_ble_eq_true rfl) ⟨by show (_ : Nat) ≤ 600; omega, by show (_ : Nat) ≤ 4000; omega⟩ dX5_isSame_639 ?_
                          rintro r_639 ws_639 ⟨rfl, rfl⟩
                          refine g_aload_n E dX5_isSame_642 rfl ?_
                          refine g_iconst E dX5_isSame_643 ?_
                          refine g_zVi (T := TX5) (ci := 5) (n := 1) (As := [_]) (rest := _) E Z (c_X5_counted l D cA A am L _ a hS hI (5 : Int) ⟨by omega, by omega⟩) gX5_isSame_X5_counted rfl ⟨rfl, rfl⟩ (by decide +kernel) ⟨Nat.le_of_ble_eq_true rfl, Nat.le_of_ble_eq_true rfl⟩ (os_5 hB.1) rfl rfl rfl (Nat.le_of_ble_eq_true rfl) ⟨by show (_ : Nat) ≤ 600; omega, by show (_ : Nat) ≤ 4000; omega⟩ dX5_isSame_644 ?_
                          rintro r_644 ws_644 ⟨rfl, rfl⟩
                          refine g_top (v' := .int (zI (blAll a (np a).toNat))) rfl ?_
                          refine g_if_ne (tgt := 654) E dX5_isSame_647 (by decide) (by omega) (fun c_647 => ?_) (fun c_647 => ?_)
                          · refine g_iload_n E dX5_isSame_654 rfl ?_
                            refine g_i2d E dX5_isSame_655 ?_
                            refine g_aload_n E dX5_isSame_656 rfl ?_
                            refine g_iconst E dX5_isSame_657 ?_
                            refine g_zVi (T := TX5) (ci := 5) (n := 1) (As := [_]) (rest := _) E Z (c_X5_counted l D cA A am L _ a hS hI (5 : Int) ⟨by omega, by omega⟩) gX5_isSame_X5_counted rfl ⟨rfl, rfl⟩ (by decide +kernel) ⟨Nat.le_of_ble_eq_true rfl, Nat.le_of_ble_eq_true rfl⟩ (os_5 hB.1) rfl rfl rfl (Nat.le_of_ble_eq_true rfl) ⟨by show (_ : Nat) ≤ 600; omega, by show (_ : Nat) ≤ 4000; omega⟩ dX5_isSame_658 ?_
                            rintro r_658 ws_658 ⟨rfl, rfl⟩
                            refine g_top (v' := .int (zI (blAll a (np a).toNat))) rfl ?_
                            refine g_i2d E dX5_isSame_661 ?_
                            refine g_ddiv E (fp_mean (by omega)) dX5_isSame_662 ?_
                            refine g_top (v' := .double (meaV a)) (congrArg Value.double (by rw [meaV, if_neg (by omega)])) ?_
                            refine g_dcmp E dX5_isSame_663 ?_
                            refine g_if_neR (tgt := 671) E dX5_isSame_664 (by decide) (fun c_664 => ?_) (fun c_664 => ?_)
                            · exact absurd (cmp_self (mea_nn hI)) c_664
                            · refine g_iconst E dX5_isSame_667 ?_
                              refine g_goto (tgt := 672) E dX5_isSame_668 (by decide) ?_
                              refine g_wid (k := 600) (n := 4000) (by omega) (by omega) ?_
                              exact g_zret E (by decide) (⟨rfl, rfl⟩) dX5_isSame_672
                          · refine g_dconst0 E dX5_isSame_650 ?_
                            refine g_top (v' := .double (meaV a)) (congrArg Value.double (by rw [meaV, if_pos (by omega)])) ?_
                            refine g_goto (tgt := 663) E dX5_isSame_651 (by decide) ?_
                            refine g_dcmp E dX5_isSame_663 ?_
                            refine g_if_neR (tgt := 671) E dX5_isSame_664 (by decide) (fun c_664 => ?_) (fun c_664 => ?_)
                            · exact absurd (cmp_self (mea_nn hI)) c_664
                            · refine g_iconst E dX5_isSame_667 ?_
                              refine g_goto (tgt := 672) E dX5_isSame_668 (by decide) ?_
                              refine g_wid (k := 600) (n := 4000) (by omega) (by omega) ?_
                              exact g_zret E (by decide) (⟨rfl, rfl⟩) dX5_isSame_672
                        · refine g_iconst E dX5_isSame_594 ?_
                          refine g_istore E dX5_isSame_595 (by decide) ?_
                          refine g_wid (k := 579) (n := 3537) (by omega) (by omega) ?_
                          have key_w2 : ∀ (n_w2 w2 : Nat), (w2 : Int) ≤ (3 : Int) → (3 : Int) + 1 ≤ (w2 : Int) + n_w2 → GW p l e (headSpec wsX5_isSame ({ frames := 5, cells := 600, slots := 4000, locals := 118 })).room s m ([.ref (am 0 0 0), .ref (ad 0 8 0), .int (zI 0)] : List Value).toArray below meth c (MQ below (va_Qi (fun (r : Int32) ws' => r = zI 1 ∧ ws' = wS cA am L a ++ (wX cA ad (upY σ 0 a) ++ w3)) (gB D A) A) ([.ref (am 0 0 0), .ref (ad 0 8 0), .int (zI 0)] : List Value).toArray s 600 4000 A) D A 14 (wS cA am L a ++ (wX cA ad (upY σ 0 a) ++ w3)) (579) (3537) 597 [(0, .ref (am 0 0 0)), (1, .ref (ad 0 8 0)), (2, .int (zI 0)), (3, .int (rsA a (np a).toNat)), (4, .int (zI (cc2 : Int))), (5, .int (zI (w2 : Int)))] [] := by
                            intro n_w2
                            induction n_w2 with
                            | zero => intro w2 h1 h2; exact absurd h2 (by omega)
                            | succ n_w2 ih_w2 =>
                              intro w2 hle_w2 hfu_w2
                              refine g_iload E dX5_isSame_597 rfl ?_
                              refine g_iconst E dX5_isSame_599 ?_
                              refine g_icmp_ge (tgt := 632) E dX5_isSame_600 (by decide) (by omega) (by omega) (fun c_600 => ?_) (fun c_600 => ?_)
                              · refine g_iinc E dX5_isSame_632 rfl (by decide) ?_
                                refine g_goto (tgt := 584) E dX5_isSame_635 (by decide) ?_
                                refine g_wid (k := 579) (n := 3537) (by omega) (by omega) ?_
                                refine g_loc (lv' := [(0, .ref (am 0 0 0)), (1, .ref (ad 0 8 0)), (2, .int (zI 0)), (3, .int (rsA a (np a).toNat)), (4, .int (zI ((cc2 + 1) : Int)))]) ⟨rfl, rfl, rfl, rfl, rfl, trivial⟩ ?_
                                exact ih_cc2 (cc2 + 1) (by omega) (by omega)
                              · refine g_aload_n E dX5_isSame_603 rfl ?_
                                refine g_iload E dX5_isSame_604 rfl ?_
                                refine g_iload E dX5_isSame_606 rfl ?_
                                refine g_mVi (T := TX4) (ci := 4) (n := 2) (As := [_, _]) (rest := _) E (n_X4_mouser l D cA _ ad σ a hI (cc2 : Int) (w2 : Int) ⟨by omega, by omega⟩ ⟨by omega, by omega⟩ ⟨⟨by omega, by omega⟩, ⟨by omega, by omega⟩⟩) gX5_isSame_X4_mouser rfl ⟨rfl, rfl⟩ (by decide +kernel) ⟨Nat.le_of_ble_eq_true rfl, Nat.le_of_ble_eq_true rfl⟩ (ob_8 mem_8) rfl rfl rfl (Nat.le_of_ble_eq_true rfl) ⟨by show (_ : Nat) ≤ 600; omega, by show (_ : Nat) ≤ 4000; omega⟩ dX5_isSame_608 ?_
                                rintro r_608 ws_608 ⟨rfl, rfl⟩
                                refine g_aload_n E dX5_isSame_611 rfl ?_
                                refine gs_Sim_cats E hB.1 hin5 (by decide +kernel) dX5_isSame_612 ?_
                                refine g_iload E dX5_isSame_615 rfl ?_
                                refine ls_11 E hB.2.2.2.2.2.2 (by omega) dX5_isSame_617 ?_
                                refine g_top (v' := .ref (am 3 cc2 0)) (rfl) ?_
                                refine g_iload E dX5_isSame_618 rfl ?_
                                refine ls_3 E (hCm cc2 (by omega)) (by omega) rfl dX5_isSame_620 ?_
                                refine g_top (v' := .int (moV a cc2 (w2 : Int))) (congrArg Value.int (mou_c (by omega))) ?_
                                refine g_icmp_eqR (tgt := 626) E dX5_isSame_621 (by decide) (fun c_621 => ?_) (fun c_621 => ?_)
                                · refine g_iinc E dX5_isSame_626 rfl (by decide) ?_
                                  refine g_goto (tgt := 597) E dX5_isSame_629 (by decide) ?_
                                  refine g_wid (k := 579) (n := 3537) (by omega) (by omega) ?_
                                  refine g_loc (lv' := [(0, .ref (am 0 0 0)), (1, .ref (ad 0 8 0)), (2, .int (zI 0)), (3, .int (rsA a (np a).toNat)), (4, .int (zI (cc2 : Int))), (5, .int (zI ((w2 + 1) : Int)))]) ⟨rfl, rfl, rfl, rfl, rfl, rfl, trivial⟩ ?_
                                  exact ih_w2 (w2 + 1) (by omega) (by omega)
                                · exact absurd rfl c_621
                          refine g_loc (lv' := [(0, .ref (am 0 0 0)), (1, .ref (ad 0 8 0)), (2, .int (zI 0)), (3, .int (rsA a (np a).toNat)), (4, .int (zI (cc2 : Int))), (5, .int (zI (0 : Int)))]) ⟨rfl, rfl, rfl, rfl, rfl, rfl, trivial⟩ ?_
                          exact key_w2 (((3 : Int)) + 1).toNat.succ 0 (by omega) (by omega)
                    refine g_loc (lv' := [(0, .ref (am 0 0 0)), (1, .ref (ad 0 8 0)), (2, .int (zI 0)), (3, .int (rsA a (np a).toNat)), (4, .int (zI (0 : Int)))]) ⟨rfl, rfl, rfl, rfl, rfl, trivial⟩ ?_
                    exact key_cc2 ((nc a) + 1).toNat.succ 0 (by omega) (by omega)
                  · obtain ⟨hPk, hk0, hk4⟩ := hpk (by omega); obtain ⟨he1, he6, hb0, hbq⟩ := id hPk; have hsq := sq_le ⟨he1, he6⟩; have hbl := lop ⟨he1, he6⟩ ⟨hb0, hbq⟩; have hsdp : sd a ((pp : Int)).toNat = sd a pp := rfl; have hblp : bl a ((pp : Int)).toNat = bl a pp := rfl
                    refine g_aload_n E dX5_isSame_203 rfl ?_
                    refine gs_Sim_piles E hB.1 hin5 (by decide +kernel) dX5_isSame_204 ?_
                    refine g_iload E dX5_isSame_207 rfl ?_
                    refine ls_10 E hB.2.2.2.2.2.1 (by omega) dX5_isSame_209 ?_
                    refine g_top (v' := .ref (am 1 pp 0)) (rfl) ?_
                    refine g_astore E dX5_isSame_210 (by decide) ?_
                    refine g_iconst E dX5_isSame_212 ?_
                    refine g_istore E dX5_isSame_213 (by decide) ?_
                    refine g_iconst E dX5_isSame_215 ?_
                    refine g_istore E dX5_isSame_216 (by decide) ?_
                    refine g_iconst E dX5_isSame_218 ?_
                    refine g_istore E dX5_isSame_219 (by decide) ?_
                    refine g_iconst E dX5_isSame_221 ?_
                    refine g_istore E dX5_isSame_222 (by decide) ?_
                    refine g_wid (k := 27 + 92 * pp + 0) (n := 201 + 556 * pp + 6 * 0) (by omega) (by omega) ?_
                    have key_ib : ∀ (n_ib ib : Nat), (ib : Int) ≤ bl a pp → bl a pp + 1 ≤ (ib : Int) + n_ib → GW p l e (headSpec wsX5_isSame ({ frames := 5, cells := 600, slots := 4000, locals := 118 })).room s m ([.ref (am 0 0 0), .ref (ad 0 8 0), .int (zI 0)] : List Value).toArray below meth c (MQ below (va_Qi (fun (r : Int32) ws' => r = zI 1 ∧ ws' = wS cA am L a ++ (wX cA ad (upY σ 0 a) ++ w3)) (gB D A) A) ([.ref (am 0 0 0), .ref (ad 0 8 0), .int (zI 0)] : List Value).toArray s 600 4000 A) D A 14 (wS cA am L a ++ (wX cA ad (upY σ 0 a) ++ w3)) (27 + 92 * pp + ib) (201 + 556 * pp + 6 * ib) 224 [(0, .ref (am 0 0 0)), (1, .ref (ad 0 8 0)), (2, .int (zI 0)), (3, .int (rsA a pp)), (4, .int (zI (pp : Int))), (5, .ref (am 1 pp 0)), (6, .int (zI (bareN a pp ib))), (7, .int (greatN a pp ib)), (8, .int (sumN a pp ib)), (9, .int (zI (ib : Int)))] [] := by
                      intro n_ib
                      induction n_ib with
                      | zero => intro ib h1 h2; exact absurd h2 (by omega)
                      | succ n_ib ih_ib =>
                        intro ib hle_ib hfu_ib
                        refine g_iload E dX5_isSame_224 rfl ?_
                        refine g_aload E dX5_isSame_226 rfl ?_
                        refine gs_LP_many E (hPm pp (by omega)).1 hin7 (by decide +kernel) dX5_isSame_228 ?_
                        refine g_icmp_ge (tgt := 436) E dX5_isSame_231 (by decide) (by omega) (by omega) (fun c_231 => ?_) (fun c_231 => ?_)
                        · obtain rfl : ib = (bl a pp).toNat := (by omega)
                          refine g_iload_n E dX5_isSame_436 rfl ?_
                          refine g_iload E dX5_isSame_437 rfl ?_
                          refine g_iaddR E dX5_isSame_439 ?_
                          refine g_istore_n E dX5_isSame_440 (by decide) ?_
                          refine g_bipush E dX5_isSame_441 (by decide) ?_
                          refine g_top (v' := .int (zI ((10 : Nat) : Int))) (rfl) ?_
                          refine g_newa E hA (by decide +kernel) (by omega) (by show (_ : Nat) ≤ 600; omega) (by show (_ : Nat) ≤ 4000; omega) dX5_isSame_443 (fun q1 => ?_)
                          refine g_asc2 ?_
                          refine g_dup E dX5_isSame_445 rfl ?_
                          refine g_iconst E dX5_isSame_446 ?_
                          refine g_aload E dX5_isSame_447 rfl ?_
                          refine gs_LP_calibre E (hPm pp (by omega)).1 hin7 (by decide +kernel) dX5_isSame_449 ?_
                          refine g_iast E 0 rfl (by omega) (by omega) (se_r (se_r (se_r (se_i 0 rfl rfl)))) dX5_isSame_452 ?_
                          refine g_dup E dX5_isSame_453 rfl ?_
                          refine g_iconst E dX5_isSame_454 ?_
                          refine g_aload E dX5_isSame_455 rfl ?_
                          refine gs_LP_side E (hPm pp (by omega)).1 hin7 (by decide +kernel) dX5_isSame_457 ?_
                          refine g_iast E 0 rfl (by omega) (by omega) (se_r (se_r (se_r (se_i 0 rfl rfl)))) dX5_isSame_460 ?_
                          refine g_dup E dX5_isSame_461 rfl ?_
                          refine g_iconst E dX5_isSame_462 ?_
                          refine g_aload E dX5_isSame_463 rfl ?_
                          refine gs_LP_many E (hPm pp (by omega)).1 hin7 (by decide +kernel) dX5_isSame_465 ?_
                          refine g_iast E 0 rfl (by omega) (by omega) (se_r (se_r (se_r (se_i 0 rfl rfl)))) dX5_isSame_468 ?_
                          refine g_dup E dX5_isSame_469 rfl ?_
                          refine g_iconst E dX5_isSame_470 ?_
                          refine g_aload E dX5_isSame_471 rfl ?_
                          refine gs_LP_rust E (hPm pp (by omega)).1 hin7 (by decide +kernel) dX5_isSame_473 ?_
                          refine ns_2 E (hPm pp (by omega)).2.1 (by omega) dX5_isSame_476 ?_
                          refine g_iast E 0 rfl (by omega) (by omega) (se_r (se_r (se_r (se_i 0 rfl rfl)))) dX5_isSame_477 ?_
                          refine g_dup E dX5_isSame_478 rfl ?_
                          refine g_iconst E dX5_isSame_479 ?_
                          refine g_aload E dX5_isSame_480 rfl ?_
                          refine g_callVi (T := TX7) (ci := 7) (n := 0) (As := []) (rest := _) E (c_X7_layers l D cA A am L _ a hS pp (by omega) hPk) gX5_isSame_X7_layers rfl ⟨rfl, rfl⟩ (by decide +kernel) ⟨Nat.le_of_ble_eq_true rfl, Nat.le_of_ble_eq_true rfl⟩ (os_7 (hPm pp (by omega)).1) rfl rfl rfl (Nat.le_of_ble_eq_true rfl) ⟨by show (_ : Nat) ≤ 600; omega, by show (_ : Nat) ≤ 4000; omega⟩ dX5_isSame_482 ?_
                          rintro r_482 ws_482 ⟨rfl, rfl⟩
                          refine g_iast E 0 rfl (by omega) (by omega) (se_r (se_r (se_r (se_i 0 rfl rfl)))) dX5_isSame_485 ?_
                          refine g_dup E dX5_isSame_486 rfl ?_
                          refine g_iconst E dX5_isSame_487 ?_
                          refine g_aload E dX5_isSame_488 rfl ?_
                          refine g_callVi (T := TX7) (ci := 7) (n := 0) (As := []) (rest := _) E (c_X7_layers l D cA A am L _ a hS pp (by omega) hPk) gX5_isSame_X7_layers rfl ⟨rfl, rfl⟩ (by decide +kernel) ⟨Nat.le_of_ble_eq_true rfl, Nat.le_of_ble_eq_true rfl⟩ (os_7 (hPm pp (by omega)).1) rfl rfl rfl (Nat.le_of_ble_eq_true rfl) ⟨by show (_ : Nat) ≤ 600; omega, by show (_ : Nat) ≤ 4000; omega⟩ dX5_isSame_490 ?_
                          rintro r_490 ws_490 ⟨rfl, rfl⟩
                          refine g_aload E dX5_isSame_493 rfl ?_
                          refine g_callVi (T := TX7) (ci := 7) (n := 0) (As := []) (rest := _) E (c_X7_isOpen l D cA A am L _ a hS pp (by omega) hPk) gX5_isSame_X7_isOpen rfl ⟨rfl, rfl⟩ (by decide +kernel) ⟨Nat.le_of_ble_eq_true rfl, Nat.le_of_ble_eq_true rfl⟩ (os_7 (hPm pp (by omega)).1) rfl rfl rfl (Nat.le_of_ble_eq_true rfl) ⟨by show (_ : Nat) ≤ 600; omega, by show (_ : Nat) ≤ 4000; omega⟩ dX5_isSame_495 ?_
                          rintro r_495 ws_495 ⟨rfl, rfl⟩
                          have hb_495 := opV_b a pp
                          refine g_if_eq (tgt := 505) E dX5_isSame_498 (by decide) (by omega) (fun c_498 => ?_) (fun c_498 => ?_)
                          · refine g_iconst E dX5_isSame_505 ?_
                            refine g_isub E dX5_isSame_506 ?_
                            refine g_iast E 0 rfl (by omega) (by omega) (se_r (se_r (se_r (se_i 0 rfl rfl)))) dX5_isSame_507 ?_
                            refine g_dup E dX5_isSame_508 rfl ?_
                            refine g_bipush E dX5_isSame_509 (by decide) ?_
                            refine g_iload E dX5_isSame_511 rfl ?_
                            refine g_iast E 0 rfl (by omega) (by omega) (se_r (se_r (se_r (se_i 0 rfl rfl)))) dX5_isSame_513 ?_
                            refine g_dup E dX5_isSame_514 rfl ?_
                            refine g_bipush E dX5_isSame_515 (by decide) ?_
                            refine g_aload E dX5_isSame_517 rfl ?_
                            refine g_aload_n E dX5_isSame_519 rfl ?_
                            refine gs_Sim_limit E hB.1 hin5 (by decide +kernel) dX5_isSame_520 ?_
                            refine g_callVi (T := TX7) (ci := 7) (n := 1) (As := [_]) (rest := _) E (c_X7_rusty l D cA A am L _ a hS pp (by omega) hPk _) gX5_isSame_X7_rusty rfl ⟨rfl, rfl⟩ (by decide +kernel) ⟨Nat.le_of_ble_eq_true rfl, Nat.le_of_ble_eq_true rfl⟩ (os_7 (hPm pp (by omega)).1) rfl rfl rfl (Nat.le_of_ble_eq_true rfl) ⟨by show (_ : Nat) ≤ 600; omega, by show (_ : Nat) ≤ 4000; omega⟩ dX5_isSame_523 ?_
                            rintro r_523 ws_523 ⟨rfl, rfl⟩
                            refine g_iast E 0 rfl (by omega) (by omega) (se_r (se_r (se_r (se_i 0 rfl rfl)))) dX5_isSame_526 ?_
                            refine g_dup E dX5_isSame_527 rfl ?_
                            refine g_bipush E dX5_isSame_528 (by decide) ?_
                            refine g_iload E dX5_isSame_530 rfl ?_
                            refine g_iast E 0 rfl (by omega) (by omega) (se_r (se_r (se_r (se_i 0 rfl rfl)))) dX5_isSame_532 ?_
                            refine g_dup E dX5_isSame_533 rfl ?_
                            refine g_bipush E dX5_isSame_534 (by decide) ?_
                            refine g_iload E dX5_isSame_536 rfl ?_
                            refine g_iast E 0 rfl (by omega) (by omega) (se_r (se_r (se_r (se_i 0 rfl rfl)))) dX5_isSame_538 ?_
                            refine g_astore E dX5_isSame_539 (by decide) ?_
                            refine g_iconst E dX5_isSame_541 ?_
                            refine g_istore E dX5_isSame_542 (by decide) ?_
                            refine g_wid (k := 28 + 92 * pp + 91) (n := 211 + 556 * pp + 546) (by omega) (by omega) ?_
                            have key_wa : ∀ (n_wa wa : Nat), (wa : Int) ≤ (10 : Int) → (10 : Int) + 1 ≤ (wa : Int) + n_wa → GW p l e (headSpec wsX5_isSame ({ frames := 5, cells := 600, slots := 4000, locals := 118 })).room s m ([.ref (am 0 0 0), .ref (ad 0 8 0), .int (zI 0)] : List Value).toArray below meth c (MQ below (va_Qi (fun (r : Int32) ws' => r = zI 1 ∧ ws' = wS cA am L a ++ (wX cA ad (upY σ 0 a) ++ w3)) (gB D A) A) ([.ref (am 0 0 0), .ref (ad 0 8 0), .int (zI 0)] : List Value).toArray s 600 4000 A) D A 14 (wS cA am L a ++ (wX cA ad (upY σ 0 a) ++ (w3 ++ [(q1, .inl (cA 0, 10, .inl (aboF a pp (lf (sd a pp) (bl a pp)))))]))) (28 + 92 * pp + 91) (211 + 556 * pp + 546) 544 [(0, .ref (am 0 0 0)), (1, .ref (ad 0 8 0)), (2, .int (zI 0)), (3, .int (rsA a (pp + 1))), (4, .int (zI (pp : Int))), (9, .ref q1), (10, .int (zI (wa : Int)))] [] := by
                              intro n_wa
                              induction n_wa with
                              | zero => intro wa h1 h2; exact absurd h2 (by omega)
                              | succ n_wa ih_wa =>
                                intro wa hle_wa hfu_wa
                                refine g_iload E dX5_isSame_544 rfl ?_
                                refine g_bipush E dX5_isSame_546 (by decide) ?_
                                refine g_icmp_ge (tgt := 575) E dX5_isSame_548 (by decide) (by omega) (by omega) (fun c_548 => ?_) (fun c_548 => ?_)
                                · refine g_drop3 ?_
                                  refine g_iinc E dX5_isSame_575 rfl (by decide) ?_
                                  refine g_goto (tgt := 193) E dX5_isSame_578 (by decide) ?_
                                  refine g_wid (k := 27 + 92 * (pp + 1)) (n := 201 + 556 * (pp + 1)) (by omega) (by omega) ?_
                                  refine g_loc (lv' := [(0, .ref (am 0 0 0)), (1, .ref (ad 0 8 0)), (2, .int (zI 0)), (3, .int (rsA a (pp + 1))), (4, .int (zI ((pp + 1) : Int)))]) ⟨rfl, rfl, rfl, rfl, rfl, trivial⟩ ?_
                                  exact ih_pp (pp + 1) (by omega) (by omega)
                                · refine g_aload_n E dX5_isSame_551 rfl ?_
                                  refine g_iload E dX5_isSame_552 rfl ?_
                                  refine g_iload E dX5_isSame_554 rfl ?_
                                  refine g_mVi (T := TX4) (ci := 4) (n := 2) (As := [_, _]) (rest := _) E (n_X4_about l D cA _ ad σ a hI (pp : Int) (wa : Int) ⟨by omega, by omega⟩ ⟨by omega, by omega⟩ ⟨⟨by omega, by omega⟩, ⟨by omega, by omega⟩⟩) gX5_isSame_X4_about rfl ⟨rfl, rfl⟩ (by decide +kernel) ⟨Nat.le_of_ble_eq_true rfl, Nat.le_of_ble_eq_true rfl⟩ (ob_8 mem_8) rfl rfl rfl (Nat.le_of_ble_eq_true rfl) ⟨by show (_ : Nat) ≤ 600; omega, by show (_ : Nat) ≤ 4000; omega⟩ dX5_isSame_556 ?_
                                  rintro r_556 ws_556 ⟨rfl, rfl⟩
                                  refine g_aload E dX5_isSame_559 rfl ?_
                                  refine g_iload E dX5_isSame_561 rfl ?_
                                  refine g_iald E 0 rfl (at_r (at_r (at_r (at_i 0 rfl)))) (by omega) (by omega) rfl dX5_isSame_563 ?_
                                  refine g_top (v' := .int (abV a pp (wa : Int))) (congrArg Value.int (abo_c (by omega))) ?_
                                  refine g_icmp_eqR (tgt := 569) E dX5_isSame_564 (by decide) (fun c_564 => ?_) (fun c_564 => ?_)
                                  · refine g_iinc E dX5_isSame_569 rfl (by decide) ?_
                                    refine g_goto (tgt := 544) E dX5_isSame_572 (by decide) ?_
                                    refine g_wid (k := 28 + 92 * pp + 91) (n := 211 + 556 * pp + 546) (by omega) (by omega) ?_
                                    refine g_st (ws' := wS cA am L a ++ (wX cA ad (upY σ 0 a) ++ (w3 ++ [(q1, .inl (cA 0, 10, .inl (aboF a pp (lf (sd a pp) (bl a pp)))))]))) (rfl) rfl rfl ?_
                                    refine g_loc (lv' := [(0, .ref (am 0 0 0)), (1, .ref (ad 0 8 0)), (2, .int (zI 0)), (3, .int (rsA a (pp + 1))), (4, .int (zI (pp : Int))), (9, .ref q1), (10, .int (zI ((wa + 1) : Int)))]) ⟨rfl, rfl, rfl, rfl, rfl, rfl, rfl, trivial⟩ ?_
                                    exact ih_wa (wa + 1) (by omega) (by omega)
                                  · exact absurd rfl c_564
                            refine g_st (ws' := wS cA am L a ++ (wX cA ad (upY σ 0 a) ++ (w3 ++ [(q1, .inl (cA 0, 10, .inl (aboF a pp (lf (sd a pp) (bl a pp)))))]))) (congrArg (fun v => wS cA am L a ++ (wX cA ad (upY σ 0 a) ++ (w3 ++ [(q1, .inl (cA 0, 10, .inl (aboF a pp v)))]))) (by have := lb_op hPk; omega)) rfl rfl ?_
                            refine g_loc (lv' := [(0, .ref (am 0 0 0)), (1, .ref (ad 0 8 0)), (2, .int (zI 0)), (3, .int (rsA a (pp + 1))), (4, .int (zI (pp : Int))), (9, .ref q1), (10, .int (zI (0 : Int)))]) ⟨rfl, rfl, rfl, rfl, rfl, rfl, rfl, trivial⟩ ?_
                            exact key_wa (((10 : Int)) + 1).toNat.succ 0 (by omega) (by omega)
                          · refine g_iconst E dX5_isSame_501 ?_
                            refine g_goto (tgt := 506) E dX5_isSame_502 (by decide) ?_
                            refine g_isub E dX5_isSame_506 ?_
                            refine g_iast E 0 rfl (by omega) (by omega) (se_r (se_r (se_r (se_i 0 rfl rfl)))) dX5_isSame_507 ?_
                            refine g_dup E dX5_isSame_508 rfl ?_
                            refine g_bipush E dX5_isSame_509 (by decide) ?_
                            refine g_iload E dX5_isSame_511 rfl ?_
                            refine g_iast E 0 rfl (by omega) (by omega) (se_r (se_r (se_r (se_i 0 rfl rfl)))) dX5_isSame_513 ?_
                            refine g_dup E dX5_isSame_514 rfl ?_
                            refine g_bipush E dX5_isSame_515 (by decide) ?_
                            refine g_aload E dX5_isSame_517 rfl ?_
                            refine g_aload_n E dX5_isSame_519 rfl ?_
                            refine gs_Sim_limit E hB.1 hin5 (by decide +kernel) dX5_isSame_520 ?_
                            refine g_callVi (T := TX7) (ci := 7) (n := 1) (As := [_]) (rest := _) E (c_X7_rusty l D cA A am L _ a hS pp (by omega) hPk _) gX5_isSame_X7_rusty rfl ⟨rfl, rfl⟩ (by decide +kernel) ⟨Nat.le_of_ble_eq_true rfl, Nat.le_of_ble_eq_true rfl⟩ (os_7 (hPm pp (by omega)).1) rfl rfl rfl (Nat.le_of_ble_eq_true rfl) ⟨by show (_ : Nat) ≤ 600; omega, by show (_ : Nat) ≤ 4000; omega⟩ dX5_isSame_523 ?_
                            rintro r_523 ws_523 ⟨rfl, rfl⟩
                            refine g_iast E 0 rfl (by omega) (by omega) (se_r (se_r (se_r (se_i 0 rfl rfl)))) dX5_isSame_526 ?_
                            refine g_dup E dX5_isSame_527 rfl ?_
                            refine g_bipush E dX5_isSame_528 (by decide) ?_
                            refine g_iload E dX5_isSame_530 rfl ?_
                            refine g_iast E 0 rfl (by omega) (by omega) (se_r (se_r (se_r (se_i 0 rfl rfl)))) dX5_isSame_532 ?_
                            refine g_dup E dX5_isSame_533 rfl ?_
                            refine g_bipush E dX5_isSame_534 (by decide) ?_
                            refine g_iload E dX5_isSame_536 rfl ?_
                            refine g_iast E 0 rfl (by omega) (by omega) (se_r (se_r (se_r (se_i 0 rfl rfl)))) dX5_isSame_538 ?_
                            refine g_astore E dX5_isSame_539 (by decide) ?_
                            refine g_iconst E dX5_isSame_541 ?_
                            refine g_istore E dX5_isSame_542 (by decide) ?_
                            refine g_wid (k := 28 + 92 * pp + 91) (n := 211 + 556 * pp + 546) (by omega) (by omega) ?_
                            have key_wa : ∀ (n_wa wa : Nat), (wa : Int) ≤ (10 : Int) → (10 : Int) + 1 ≤ (wa : Int) + n_wa → GW p l e (headSpec wsX5_isSame ({ frames := 5, cells := 600, slots := 4000, locals := 118 })).room s m ([.ref (am 0 0 0), .ref (ad 0 8 0), .int (zI 0)] : List Value).toArray below meth c (MQ below (va_Qi (fun (r : Int32) ws' => r = zI 1 ∧ ws' = wS cA am L a ++ (wX cA ad (upY σ 0 a) ++ w3)) (gB D A) A) ([.ref (am 0 0 0), .ref (ad 0 8 0), .int (zI 0)] : List Value).toArray s 600 4000 A) D A 14 (wS cA am L a ++ (wX cA ad (upY σ 0 a) ++ (w3 ++ [(q1, .inl (cA 0, 10, .inl (aboF a pp (lf (sd a pp) (bl a pp)))))]))) (28 + 92 * pp + 91) (211 + 556 * pp + 546) 544 [(0, .ref (am 0 0 0)), (1, .ref (ad 0 8 0)), (2, .int (zI 0)), (3, .int (rsA a (pp + 1))), (4, .int (zI (pp : Int))), (9, .ref q1), (10, .int (zI (wa : Int)))] [] := by
                              intro n_wa
                              induction n_wa with
                              | zero => intro wa h1 h2; exact absurd h2 (by omega)
                              | succ n_wa ih_wa =>
                                intro wa hle_wa hfu_wa
                                refine g_iload E dX5_isSame_544 rfl ?_
                                refine g_bipush E dX5_isSame_546 (by decide) ?_
                                refine g_icmp_ge (tgt := 575) E dX5_isSame_548 (by decide) (by omega) (by omega) (fun c_548 => ?_) (fun c_548 => ?_)
                                · refine g_drop3 ?_
                                  refine g_iinc E dX5_isSame_575 rfl (by decide) ?_
                                  refine g_goto (tgt := 193) E dX5_isSame_578 (by decide) ?_
                                  refine g_wid (k := 27 + 92 * (pp + 1)) (n := 201 + 556 * (pp + 1)) (by omega) (by omega) ?_
                                  refine g_loc (lv' := [(0, .ref (am 0 0 0)), (1, .ref (ad 0 8 0)), (2, .int (zI 0)), (3, .int (rsA a (pp + 1))), (4, .int (zI ((pp + 1) : Int)))]) ⟨rfl, rfl, rfl, rfl, rfl, trivial⟩ ?_
                                  exact ih_pp (pp + 1) (by omega) (by omega)
                                · refine g_aload_n E dX5_isSame_551 rfl ?_
                                  refine g_iload E dX5_isSame_552 rfl ?_
                                  refine g_iload E dX5_isSame_554 rfl ?_
                                  refine g_mVi (T := TX4) (ci := 4) (n := 2) (As := [_, _]) (rest := _) E (n_X4_about l D cA _ ad σ a hI (pp : Int) (wa : Int) ⟨by omega, by omega⟩ ⟨by omega, by omega⟩ ⟨⟨by omega, by omega⟩, ⟨by omega, by omega⟩⟩) gX5_isSame_X4_about rfl ⟨rfl, rfl⟩ (by decide +kernel) ⟨Nat.le_of_ble_eq_true rfl, Nat.le_of_ble_eq_true rfl⟩ (ob_8 mem_8) rfl rfl rfl (Nat.le_of_ble_eq_true rfl) ⟨by show (_ : Nat) ≤ 600; omega, by show (_ : Nat) ≤ 4000; omega⟩ dX5_isSame_556 ?_
                                  rintro r_556 ws_556 ⟨rfl, rfl⟩
                                  refine g_aload E dX5_isSame_559 rfl ?_
                                  refine g_iload E dX5_isSame_561 rfl ?_
                                  refine g_iald E 0 rfl (at_r (at_r (at_r (at_i 0 rfl)))) (by omega) (by omega) rfl dX5_isSame_563 ?_
                                  refine g_top (v' := .int (abV a pp (wa : Int))) (congrArg Value.int (abo_c (by omega))) ?_
                                  refine g_icmp_eqR (tgt := 569) E dX5_isSame_564 (by decide) (fun c_564 => ?_) (fun c_564 => ?_)
                                  · refine g_iinc E dX5_isSame_569 rfl (by decide) ?_
                                    refine g_goto (tgt := 544) E dX5_isSame_572 (by decide) ?_
                                    refine g_wid (k := 28 + 92 * pp + 91) (n := 211 + 556 * pp + 546) (by omega) (by omega) ?_
                                    refine g_st (ws' := wS cA am L a ++ (wX cA ad (upY σ 0 a) ++ (w3 ++ [(q1, .inl (cA 0, 10, .inl (aboF a pp (lf (sd a pp) (bl a pp)))))]))) (rfl) rfl rfl ?_
                                    refine g_loc (lv' := [(0, .ref (am 0 0 0)), (1, .ref (ad 0 8 0)), (2, .int (zI 0)), (3, .int (rsA a (pp + 1))), (4, .int (zI (pp : Int))), (9, .ref q1), (10, .int (zI ((wa + 1) : Int)))]) ⟨rfl, rfl, rfl, rfl, rfl, rfl, rfl, trivial⟩ ?_
                                    exact ih_wa (wa + 1) (by omega) (by omega)
                                  · exact absurd rfl c_564
                            refine g_st (ws' := wS cA am L a ++ (wX cA ad (upY σ 0 a) ++ (w3 ++ [(q1, .inl (cA 0, 10, .inl (aboF a pp (lf (sd a pp) (bl a pp)))))]))) (congrArg (fun v => wS cA am L a ++ (wX cA ad (upY σ 0 a) ++ (w3 ++ [(q1, .inl (cA 0, 10, .inl (aboF a pp v)))]))) (by have := lb_op hPk; omega)) rfl rfl ?_
                            refine g_loc (lv' := [(0, .ref (am 0 0 0)), (1, .ref (ad 0 8 0)), (2, .int (zI 0)), (3, .int (rsA a (pp + 1))), (4, .int (zI (pp : Int))), (9, .ref q1), (10, .int (zI (0 : Int)))]) ⟨rfl, rfl, rfl, rfl, rfl, rfl, rfl, trivial⟩ ?_
                            exact key_wa (((10 : Int)) + 1).toNat.succ 0 (by omega) (by omega)
                        · obtain ⟨xa, xb, -, -, xc, xd, xe, xf, -, -⟩ := pyF ⟨he1, he6⟩ (b := (ib : Int)) (by omega)
                          refine g_aload E dX5_isSame_234 rfl ?_
                          refine g_iload E dX5_isSame_236 rfl ?_
                          refine g_callVi (T := TX7) (ci := 7) (n := 1) (As := [_]) (rest := _) E (c_X7_on l D cA A am L _ a hS pp (by omega) hPk ib (by omega)) gX5_isSame_X7_on rfl ⟨rfl, rfl⟩ (by decide +kernel) ⟨Nat.le_of_ble_eq_true rfl, Nat.le_of_ble_eq_true rfl⟩ (os_7 (hPm pp (by omega)).1) rfl rfl rfl (Nat.le_of_ble_eq_true rfl) ⟨by show (_ : Nat) ≤ 600; omega, by show (_ : Nat) ≤ 4000; omega⟩ dX5_isSame_238 ?_
                          rintro r_238 ws_238 ⟨rfl, rfl⟩
                          have hb_238 := onN_b (sd a pp) (bl a pp) ib; have hcv_238 := cv_on hPk (k := (ib : Int)) (by omega); have hcf_238 := fun q => (cv_on0 hPk (k := (ib : Int)) (by omega)).mp q
                          refine g_istore E dX5_isSame_241 (by decide) ?_
                          refine g_iload E dX5_isSame_243 rfl ?_
                          refine g_iload E dX5_isSame_245 rfl ?_
                          refine g_if_ne (tgt := 254) E dX5_isSame_247 (by decide) (by omega) (fun c_247 => ?_) (fun c_247 => ?_)
                          · refine g_iconst E dX5_isSame_254 ?_
                            refine g_iadd E dX5_isSame_255 ?_
                            refine g_istore E dX5_isSame_256 (by decide) ?_
                            refine g_iload E dX5_isSame_258 rfl ?_
                            refine g_aload E dX5_isSame_260 rfl ?_
                            refine gs_LP_rust E (hPm pp (by omega)).1 hin7 (by decide +kernel) dX5_isSame_262 ?_
                            refine g_iload E dX5_isSame_265 rfl ?_
                            refine ls_2 E (hPm pp (by omega)).2.1 (by omega) rfl dX5_isSame_267 ?_
                            refine g_top (v' := .int (a 2 pp ib)) rfl ?_
                            refine g_mmax E (by decide +kernel) (by decide +kernel) (by decide +kernel) (by decide +kernel) (Nat.le_of_ble_eq_true rfl) (Nat.le_of_ble_eq_true rfl) (by show (_ : Nat) ≤ 600; omega) (by show (_ : Nat) ≤ 4000; omega) dX5_isSame_268 ?_
                            refine g_top (v' := .int (greatN a pp (ib + 1))) rfl ?_
                            refine g_istore E dX5_isSame_271 (by decide) ?_
                            refine g_iload E dX5_isSame_273 rfl ?_
                            refine g_aload E dX5_isSame_275 rfl ?_
                            refine gs_LP_rust E (hPm pp (by omega)).1 hin7 (by decide +kernel) dX5_isSame_277 ?_
                            refine g_iload E dX5_isSame_280 rfl ?_
                            refine ls_2 E (hPm pp (by omega)).2.1 (by omega) rfl dX5_isSame_282 ?_
                            refine g_top (v' := .int (a 2 pp ib)) rfl ?_
                            refine g_iaddR E dX5_isSame_283 ?_
                            refine g_istore E dX5_isSame_284 (by decide) ?_
                            refine g_iload_n E dX5_isSame_286 rfl ?_
                            refine g_if_ne (tgt := 303) E dX5_isSame_287 (by decide) (by omega) (fun c_287 => ?_) (fun c_287 => ?_)
                            · exact absurd rfl c_287
                            · refine g_iload E dX5_isSame_290 rfl ?_
                              refine g_bipush E dX5_isSame_292 (by decide) ?_
                              refine g_irem E dX5_isSame_294 (by omega) (by omega) ?_
                              refine g_iload E dX5_isSame_295 rfl ?_
                              refine g_icmp_eq (tgt := 303) E dX5_isSame_297 (by decide) (by omega) (by omega) (fun c_297 => ?_) (fun c_297 => ?_)
                              · refine g_aload E dX5_isSame_303 rfl ?_
                                refine gs_LP_places E (hPm pp (by omega)).1 hin7 (by decide +kernel) dX5_isSame_305 ?_
                                refine g_iload E dX5_isSame_308 rfl ?_
                                refine ls_12 E (hPm pp (by omega)).2.2.1 (by omega) dX5_isSame_310 ?_
                                refine g_top (v' := .ref (am 13 pp ib)) (rfl) ?_
                                refine g_astore E dX5_isSame_311 (by decide) ?_
                                refine g_bipush E dX5_isSame_313 (by decide) ?_
                                refine g_top (v' := .int (zI ((6 : Nat) : Int))) (rfl) ?_
                                refine g_newa E hA (by decide +kernel) (by omega) (by show (_ : Nat) ≤ 600; omega) (by show (_ : Nat) ≤ 4000; omega) dX5_isSame_315 (fun q1 => ?_)
                                refine g_asc2 ?_
                                refine g_dup E dX5_isSame_317 rfl ?_
                                refine g_iconst E dX5_isSame_318 ?_
                                refine g_aload E dX5_isSame_319 rfl ?_
                                refine gs_LP_rust E (hPm pp (by omega)).1 hin7 (by decide +kernel) dX5_isSame_321 ?_
                                refine g_iload E dX5_isSame_324 rfl ?_
                                refine ls_2 E (hPm pp (by omega)).2.1 (by omega) rfl dX5_isSame_326 ?_
                                refine g_top (v' := .int (a 2 pp ib)) rfl ?_
                                refine g_iast E 0 rfl (by omega) (by omega) (se_r (se_r (se_r (se_i 0 rfl rfl)))) dX5_isSame_327 ?_
                                refine g_dup E dX5_isSame_328 rfl ?_
                                refine g_iconst E dX5_isSame_329 ?_
                                refine g_aload E dX5_isSame_330 rfl ?_
                                refine g_iconst E dX5_isSame_332 ?_
                                refine ls_13 E ((hPm pp (by omega)).2.2.2 ib (by omega)) (by omega) dX5_isSame_333 ?_
                                refine g_top (v' := .int (zI (lf (sd a pp) ib))) rfl ?_
                                refine g_iast E 0 rfl (by omega) (by omega) (se_r (se_r (se_r (se_i 0 rfl rfl)))) dX5_isSame_334 ?_
                                refine g_dup E dX5_isSame_335 rfl ?_
                                refine g_iconst E dX5_isSame_336 ?_
                                refine g_aload E dX5_isSame_337 rfl ?_
                                refine g_iconst E dX5_isSame_339 ?_
                                refine ls_13 E ((hPm pp (by omega)).2.2.2 ib (by omega)) (by omega) dX5_isSame_340 ?_
                                refine g_top (v' := .int (zI (row (sd a pp) ib))) rfl ?_
                                refine g_iast E 0 rfl (by omega) (by omega) (se_r (se_r (se_r (se_i 0 rfl rfl)))) dX5_isSame_341 ?_
                                refine g_dup E dX5_isSame_342 rfl ?_
                                refine g_iconst E dX5_isSame_343 ?_
                                refine g_aload E dX5_isSame_344 rfl ?_
                                refine g_iconst E dX5_isSame_346 ?_
                                refine ls_13 E ((hPm pp (by omega)).2.2.2 ib (by omega)) (by omega) dX5_isSame_347 ?_
                                refine g_top (v' := .int (zI (pla (sd a pp) ib))) rfl ?_
                                refine g_iast E 0 rfl (by omega) (by omega) (se_r (se_r (se_r (se_i 0 rfl rfl)))) dX5_isSame_348 ?_
                                refine g_dup E dX5_isSame_349 rfl ?_
                                refine g_iconst E dX5_isSame_350 ?_
                                refine g_iload E dX5_isSame_351 rfl ?_
                                refine g_if_le (tgt := 360) E dX5_isSame_353 (by decide) (by omega) (fun c_353 => ?_) (fun c_353 => ?_)
                                · refine g_iconst E dX5_isSame_360 ?_
                                  refine g_iast E 0 rfl (by omega) (by omega) (se_r (se_r (se_r (se_i 0 rfl rfl)))) dX5_isSame_361 ?_
                                  refine g_dup E dX5_isSame_362 rfl ?_
                                  refine g_iconst E dX5_isSame_363 ?_
                                  refine g_iload E dX5_isSame_364 rfl ?_
                                  refine g_iast E 0 rfl (by omega) (by omega) (se_r (se_r (se_r (se_i 0 rfl rfl)))) dX5_isSame_366 ?_
                                  refine g_astore E dX5_isSame_367 (by decide) ?_
                                  refine g_iconst E dX5_isSame_369 ?_
                                  refine g_istore E dX5_isSame_370 (by decide) ?_
                                  refine g_wid (k := 28 + 92 * pp + ib) (n := 207 + 556 * pp + 6 * ib) (by omega) (by omega) ?_
                                  have key_wb : ∀ (n_wb wb : Nat), (wb : Int) ≤ (6 : Int) → (6 : Int) + 1 ≤ (wb : Int) + n_wb → GW p l e (headSpec wsX5_isSame ({ frames := 5, cells := 600, slots := 4000, locals := 118 })).room s m ([.ref (am 0 0 0), .ref (ad 0 8 0), .int (zI 0)] : List Value).toArray below meth c (MQ below (va_Qi (fun (r : Int32) ws' => r = zI 1 ∧ ws' = wS cA am L a ++ (wX cA ad (upY σ 0 a) ++ w3)) (gB D A) A) ([.ref (am 0 0 0), .ref (ad 0 8 0), .int (zI 0)] : List Value).toArray s 600 4000 A) D A 14 (wS cA am L a ++ (wX cA ad (upY σ 0 a) ++ (w3 ++ [(q1, .inl (cA 0, 6, .inl (balF a pp ib (if cv a pp ib then 1 else 0))))]))) (28 + 92 * pp + ib) (207 + 556 * pp + 6 * ib) 372 [(0, .ref (am 0 0 0)), (1, .ref (ad 0 8 0)), (2, .int (zI 0)), (3, .int (rsA a pp)), (4, .int (zI (pp : Int))), (5, .ref (am 1 pp 0)), (6, .int (zI (bareN a pp (ib + 1)))), (7, .int (greatN a pp (ib + 1))), (8, .int (sumN a pp (ib + 1))), (9, .int (zI (ib : Int))), (11, .ref (am 13 pp ib)), (12, .ref q1), (13, .int (zI (wb : Int)))] [] := by
                                    intro n_wb
                                    induction n_wb with
                                    | zero => intro wb h1 h2; exact absurd h2 (by omega)
                                    | succ n_wb ih_wb =>
                                      intro wb hle_wb hfu_wb
                                      refine g_iload E dX5_isSame_372 rfl ?_
                                      refine g_bipush E dX5_isSame_374 (by decide) ?_
                                      refine g_icmp_ge (tgt := 405) E dX5_isSame_376 (by decide) (by omega) (by omega) (fun c_376 => ?_) (fun c_376 => ?_)
                                      · refine g_drop3 ?_
                                        refine g_aload_n E dX5_isSame_405 rfl ?_
                                        refine g_iload E dX5_isSame_406 rfl ?_
                                        refine g_aload E dX5_isSame_408 rfl ?_
                                        refine g_iconst E dX5_isSame_410 ?_
                                        refine ls_13 E ((hPm pp (by omega)).2.2.2 ib (by omega)) (by omega) dX5_isSame_411 ?_
                                        refine g_top (v' := .int (zI (lf (sd a pp) ib))) rfl ?_
                                        refine g_aload E dX5_isSame_412 rfl ?_
                                        refine g_iconst E dX5_isSame_414 ?_
                                        refine ls_13 E ((hPm pp (by omega)).2.2.2 ib (by omega)) (by omega) dX5_isSame_415 ?_
                                        refine g_top (v' := .int (zI (row (sd a pp) ib))) rfl ?_
                                        refine g_aload E dX5_isSame_416 rfl ?_
                                        refine g_iconst E dX5_isSame_418 ?_
                                        refine ls_13 E ((hPm pp (by omega)).2.2.2 ib (by omega)) (by omega) dX5_isSame_419 ?_
                                        refine g_top (v' := .int (zI (pla (sd a pp) ib))) rfl ?_
                                        refine g_mVi (T := TX4) (ci := 4) (n := 4) (As := [_, _, _, _]) (rest := _) E (n_X4_at l D cA _ ad σ a hI (pp : Int) (lf (sd a pp) ib) (row (sd a pp) ib) (pla (sd a pp) ib) ⟨by omega, by omega⟩ ⟨by omega, by omega⟩ ⟨by omega, by omega⟩ ⟨by omega, by omega⟩ ⟨⟨by omega, by omega⟩, ⟨by omega, by omega⟩, ⟨by omega, by omega⟩, ⟨by omega, by omega⟩⟩) gX5_isSame_X4_at rfl ⟨rfl, rfl⟩ (by decide +kernel) ⟨Nat.le_of_ble_eq_true rfl, Nat.le_of_ble_eq_true rfl⟩ (ob_8 mem_8) rfl rfl rfl (Nat.le_of_ble_eq_true rfl) ⟨by show (_ : Nat) ≤ 600; omega, by show (_ : Nat) ≤ 4000; omega⟩ dX5_isSame_420 ?_
                                        rintro r_420 ws_420 ⟨rfl, rfl⟩
                                        refine g_iload E dX5_isSame_423 rfl ?_
                                        refine g_icmp_eqR (tgt := 430) E dX5_isSame_425 (by decide) (fun c_425 => ?_) (fun c_425 => ?_)
                                        · refine g_iinc E dX5_isSame_430 rfl (by decide) ?_
                                          refine g_goto (tgt := 224) E dX5_isSame_433 (by decide) ?_
                                          refine g_wid (k := 27 + 92 * pp + (ib + 1)) (n := 201 + 556 * pp + 6 * (ib + 1)) (by omega) (by omega) ?_
                                          refine g_loc (lv' := [(0, .ref (am 0 0 0)), (1, .ref (ad 0 8 0)), (2, .int (zI 0)), (3, .int (rsA a pp)), (4, .int (zI (pp : Int))), (5, .ref (am 1 pp 0)), (6, .int (zI (bareN a pp (ib + 1)))), (7, .int (greatN a pp (ib + 1))), (8, .int (sumN a pp (ib + 1))), (9, .int (zI ((ib + 1) : Int)))]) ⟨rfl, rfl, rfl, rfl, rfl, rfl, congrArg (fun z : Int => some (Value.int (zI z))) (by first | omega | (rw [bare_f (hcf_238 (by omega))]) | (rw [bare_t (hcv_238.mp (by omega))]; omega)), rfl, rfl, rfl, trivial⟩ ?_
                                          exact ih_ib (ib + 1) (by omega) (by omega)
                                        · exact absurd (congrArg zI (atV_c (by omega))) c_425
                                      · refine g_aload_n E dX5_isSame_379 rfl ?_
                                        refine g_iload E dX5_isSame_380 rfl ?_
                                        refine g_iload E dX5_isSame_382 rfl ?_
                                        refine g_iload E dX5_isSame_384 rfl ?_
                                        refine g_mVi (T := TX4) (ci := 4) (n := 3) (As := [_, _, _]) (rest := _) E (n_X4_ball l D cA _ ad σ a hI (pp : Int) (ib : Int) (wb : Int) ⟨by omega, by omega⟩ ⟨by omega, by omega⟩ ⟨by omega, by omega⟩ ⟨⟨by omega, by omega⟩, ⟨by omega, by omega⟩, ⟨by omega, by omega⟩⟩) gX5_isSame_X4_ball rfl ⟨rfl, rfl⟩ (by decide +kernel) ⟨Nat.le_of_ble_eq_true rfl, Nat.le_of_ble_eq_true rfl⟩ (ob_8 mem_8) rfl rfl rfl (Nat.le_of_ble_eq_true rfl) ⟨by show (_ : Nat) ≤ 600; omega, by show (_ : Nat) ≤ 4000; omega⟩ dX5_isSame_386 ?_
                                        rintro r_386 ws_386 ⟨rfl, rfl⟩
                                        refine g_aload E dX5_isSame_389 rfl ?_
                                        refine g_iload E dX5_isSame_391 rfl ?_
                                        refine g_iald E 0 rfl (at_r (at_r (at_r (at_i 0 rfl)))) (by omega) (by omega) rfl dX5_isSame_393 ?_
                                        refine g_top (v' := .int (blV a pp (ib : Int) (wb : Int))) (congrArg Value.int (bal_c (by omega))) ?_
                                        refine g_icmp_eqR (tgt := 399) E dX5_isSame_394 (by decide) (fun c_394 => ?_) (fun c_394 => ?_)
                                        · refine g_iinc E dX5_isSame_399 rfl (by decide) ?_
                                          refine g_goto (tgt := 372) E dX5_isSame_402 (by decide) ?_
                                          refine g_wid (k := 28 + 92 * pp + ib) (n := 207 + 556 * pp + 6 * ib) (by omega) (by omega) ?_
                                          refine g_st (ws' := wS cA am L a ++ (wX cA ad (upY σ 0 a) ++ (w3 ++ [(q1, .inl (cA 0, 6, .inl (balF a pp ib (if cv a pp ib then 1 else 0))))]))) (rfl) rfl rfl ?_
                                          refine g_loc (lv' := [(0, .ref (am 0 0 0)), (1, .ref (ad 0 8 0)), (2, .int (zI 0)), (3, .int (rsA a pp)), (4, .int (zI (pp : Int))), (5, .ref (am 1 pp 0)), (6, .int (zI (bareN a pp (ib + 1)))), (7, .int (greatN a pp (ib + 1))), (8, .int (sumN a pp (ib + 1))), (9, .int (zI (ib : Int))), (11, .ref (am 13 pp ib)), (12, .ref q1), (13, .int (zI ((wb + 1) : Int)))]) ⟨rfl, rfl, rfl, rfl, rfl, rfl, rfl, rfl, rfl, rfl, rfl, rfl, rfl, trivial⟩ ?_
                                          exact ih_wb (wb + 1) (by omega) (by omega)
                                        · exact absurd rfl c_394
                                  refine g_st (ws' := wS cA am L a ++ (wX cA ad (upY σ 0 a) ++ (w3 ++ [(q1, .inl (cA 0, 6, .inl (balF a pp ib (if cv a pp ib then 1 else 0))))]))) (congrArg (fun v => wS cA am L a ++ (wX cA ad (upY σ 0 a) ++ (w3 ++ [(q1, .inl (cA 0, 6, .inl (balF a pp ib v)))]))) (by first | omega | rw [if_pos (hcv_238.mp (by omega))] | rw [if_neg (fun q => absurd (hcv_238.mpr q) (by omega))])) rfl rfl ?_
                                  refine g_loc (lv' := [(0, .ref (am 0 0 0)), (1, .ref (ad 0 8 0)), (2, .int (zI 0)), (3, .int (rsA a pp)), (4, .int (zI (pp : Int))), (5, .ref (am 1 pp 0)), (6, .int (zI (bareN a pp (ib + 1)))), (7, .int (greatN a pp (ib + 1))), (8, .int (sumN a pp (ib + 1))), (9, .int (zI (ib : Int))), (11, .ref (am 13 pp ib)), (12, .ref q1), (13, .int (zI (0 : Int)))]) ⟨rfl, rfl, rfl, rfl, rfl, rfl, congrArg (fun z : Int => some (Value.int (zI z))) (by first | omega | (rw [bare_f (hcf_238 (by omega))]) | (rw [bare_t (hcv_238.mp (by omega))]; omega)), rfl, rfl, rfl, rfl, rfl, rfl, trivial⟩ ?_
                                  exact key_wb (((6 : Int)) + 1).toNat.succ 0 (by omega) (by omega)
                                · refine g_iconst E dX5_isSame_356 ?_
                                  refine g_goto (tgt := 361) E dX5_isSame_357 (by decide) ?_
                                  refine g_iast E 0 rfl (by omega) (by omega) (se_r (se_r (se_r (se_i 0 rfl rfl)))) dX5_isSame_361 ?_
                                  refine g_dup E dX5_isSame_362 rfl ?_
                                  refine g_iconst E dX5_isSame_363 ?_
                                  refine g_iload E dX5_isSame_364 rfl ?_
                                  refine g_iast E 0 rfl (by omega) (by omega) (se_r (se_r (se_r (se_i 0 rfl rfl)))) dX5_isSame_366 ?_
                                  refine g_astore E dX5_isSame_367 (by decide) ?_
                                  refine g_iconst E dX5_isSame_369 ?_
                                  refine g_istore E dX5_isSame_370 (by decide) ?_
                                  refine g_wid (k := 28 + 92 * pp + ib) (n := 207 + 556 * pp + 6 * ib) (by omega) (by omega) ?_
                                  have key_wb : ∀ (n_wb wb : Nat), (wb : Int) ≤ (6 : Int) → (6 : Int) + 1 ≤ (wb : Int) + n_wb → GW p l e (headSpec wsX5_isSame ({ frames := 5, cells := 600, slots := 4000, locals := 118 })).room s m ([.ref (am 0 0 0), .ref (ad 0 8 0), .int (zI 0)] : List Value).toArray below meth c (MQ below (va_Qi (fun (r : Int32) ws' => r = zI 1 ∧ ws' = wS cA am L a ++ (wX cA ad (upY σ 0 a) ++ w3)) (gB D A) A) ([.ref (am 0 0 0), .ref (ad 0 8 0), .int (zI 0)] : List Value).toArray s 600 4000 A) D A 14 (wS cA am L a ++ (wX cA ad (upY σ 0 a) ++ (w3 ++ [(q1, .inl (cA 0, 6, .inl (balF a pp ib (if cv a pp ib then 1 else 0))))]))) (28 + 92 * pp + ib) (207 + 556 * pp + 6 * ib) 372 [(0, .ref (am 0 0 0)), (1, .ref (ad 0 8 0)), (2, .int (zI 0)), (3, .int (rsA a pp)), (4, .int (zI (pp : Int))), (5, .ref (am 1 pp 0)), (6, .int (zI (bareN a pp (ib + 1)))), (7, .int (greatN a pp (ib + 1))), (8, .int (sumN a pp (ib + 1))), (9, .int (zI (ib : Int))), (11, .ref (am 13 pp ib)), (12, .ref q1), (13, .int (zI (wb : Int)))] [] := by
                                    intro n_wb
                                    induction n_wb with
                                    | zero => intro wb h1 h2; exact absurd h2 (by omega)
                                    | succ n_wb ih_wb =>
                                      intro wb hle_wb hfu_wb
                                      refine g_iload E dX5_isSame_372 rfl ?_
                                      refine g_bipush E dX5_isSame_374 (by decide) ?_
                                      refine g_icmp_ge (tgt := 405) E dX5_isSame_376 (by decide) (by omega) (by omega) (fun c_376 => ?_) (fun c_376 => ?_)
                                      · refine g_drop3 ?_
                                        refine g_aload_n E dX5_isSame_405 rfl ?_
                                        refine g_iload E dX5_isSame_406 rfl ?_
                                        refine g_aload E dX5_isSame_408 rfl ?_
                                        refine g_iconst E dX5_isSame_410 ?_
                                        refine ls_13 E ((hPm pp (by omega)).2.2.2 ib (by omega)) (by omega) dX5_isSame_411 ?_
                                        refine g_top (v' := .int (zI (lf (sd a pp) ib))) rfl ?_
                                        refine g_aload E dX5_isSame_412 rfl ?_
                                        refine g_iconst E dX5_isSame_414 ?_
                                        refine ls_13 E ((hPm pp (by omega)).2.2.2 ib (by omega)) (by omega) dX5_isSame_415 ?_
                                        refine g_top (v' := .int (zI (row (sd a pp) ib))) rfl ?_
                                        refine g_aload E dX5_isSame_416 rfl ?_
                                        refine g_iconst E dX5_isSame_418 ?_
                                        refine ls_13 E ((hPm pp (by omega)).2.2.2 ib (by omega)) (by omega) dX5_isSame_419 ?_
                                        refine g_top (v' := .int (zI (pla (sd a pp) ib))) rfl ?_
                                        refine g_mVi (T := TX4) (ci := 4) (n := 4) (As := [_, _, _, _]) (rest := _) E (n_X4_at l D cA _ ad σ a hI (pp : Int) (lf (sd a pp) ib) (row (sd a pp) ib) (pla (sd a pp) ib) ⟨by omega, by omega⟩ ⟨by omega, by omega⟩ ⟨by omega, by omega⟩ ⟨by omega, by omega⟩ ⟨⟨by omega, by omega⟩, ⟨by omega, by omega⟩, ⟨by omega, by omega⟩, ⟨by omega, by omega⟩⟩) gX5_isSame_X4_at rfl ⟨rfl, rfl⟩ (by decide +kernel) ⟨Nat.le_of_ble_eq_true rfl, Nat.le_of_ble_eq_true rfl⟩ (ob_8 mem_8) rfl rfl rfl (Nat.le_of_ble_eq_true rfl) ⟨by show (_ : Nat) ≤ 600; omega, by show (_ : Nat) ≤ 4000; omega⟩ dX5_isSame_420 ?_
                                        rintro r_420 ws_420 ⟨rfl, rfl⟩
                                        refine g_iload E dX5_isSame_423 rfl ?_
                                        refine g_icmp_eqR (tgt := 430) E dX5_isSame_425 (by decide) (fun c_425 => ?_) (fun c_425 => ?_)
                                        · refine g_iinc E dX5_isSame_430 rfl (by decide) ?_
                                          refine g_goto (tgt := 224) E dX5_isSame_433 (by decide) ?_
                                          refine g_wid (k := 27 + 92 * pp + (ib + 1)) (n := 201 + 556 * pp + 6 * (ib + 1)) (by omega) (by omega) ?_
                                          refine g_loc (lv' := [(0, .ref (am 0 0 0)), (1, .ref (ad 0 8 0)), (2, .int (zI 0)), (3, .int (rsA a pp)), (4, .int (zI (pp : Int))), (5, .ref (am 1 pp 0)), (6, .int (zI (bareN a pp (ib + 1)))), (7, .int (greatN a pp (ib + 1))), (8, .int (sumN a pp (ib + 1))), (9, .int (zI ((ib + 1) : Int)))]) ⟨rfl, rfl, rfl, rfl, rfl, rfl, congrArg (fun z : Int => some (Value.int (zI z))) (by first | omega | (rw [bare_f (hcf_238 (by omega))]) | (rw [bare_t (hcv_238.mp (by omega))]; omega)), rfl, rfl, rfl, trivial⟩ ?_
                                          exact ih_ib (ib + 1) (by omega) (by omega)
                                        · exact absurd (congrArg zI (atV_c (by omega))) c_425
                                      · refine g_aload_n E dX5_isSame_379 rfl ?_
                                        refine g_iload E dX5_isSame_380 rfl ?_
                                        refine g_iload E dX5_isSame_382 rfl ?_
                                        refine g_iload E dX5_isSame_384 rfl ?_
                                        refine g_mVi (T := TX4) (ci := 4) (n := 3) (As := [_, _, _]) (rest := _) E (n_X4_ball l D cA _ ad σ a hI (pp : Int) (ib : Int) (wb : Int) ⟨by omega, by omega⟩ ⟨by omega, by omega⟩ ⟨by omega, by omega⟩ ⟨⟨by omega, by omega⟩, ⟨by omega, by omega⟩, ⟨by omega, by omega⟩⟩) gX5_isSame_X4_ball rfl ⟨rfl, rfl⟩ (by decide +kernel) ⟨Nat.le_of_ble_eq_true rfl, Nat.le_of_ble_eq_true rfl⟩ (ob_8 mem_8) rfl rfl rfl (Nat.le_of_ble_eq_true rfl) ⟨by show (_ : Nat) ≤ 600; omega, by show (_ : Nat) ≤ 4000; omega⟩ dX5_isSame_386 ?_
                                        rintro r_386 ws_386 ⟨rfl, rfl⟩
                                        refine g_aload E dX5_isSame_389 rfl ?_
                                        refine g_iload E dX5_isSame_391 rfl ?_
                                        refine g_iald E 0 rfl (at_r (at_r (at_r (at_i 0 rfl)))) (by omega) (by omega) rfl dX5_isSame_393 ?_
                                        refine g_top (v' := .int (blV a pp (ib : Int) (wb : Int))) (congrArg Value.int (bal_c (by omega))) ?_
                                        refine g_icmp_eqR (tgt := 399) E dX5_isSame_394 (by decide) (fun c_394 => ?_) (fun c_394 => ?_)
                                        · refine g_iinc E dX5_isSame_399 rfl (by decide) ?_
                                          refine g_goto (tgt := 372) E dX5_isSame_402 (by decide) ?_
                                          refine g_wid (k := 28 + 92 * pp + ib) (n := 207 + 556 * pp + 6 * ib) (by omega) (by omega) ?_
                                          refine g_st (ws' := wS cA am L a ++ (wX cA ad (upY σ 0 a) ++ (w3 ++ [(q1, .inl (cA 0, 6, .inl (balF a pp ib (if cv a pp ib then 1 else 0))))]))) (rfl) rfl rfl ?_
                                          refine g_loc (lv' := [(0, .ref (am 0 0 0)), (1, .ref (ad 0 8 0)), (2, .int (zI 0)), (3, .int (rsA a pp)), (4, .int (zI (pp : Int))), (5, .ref (am 1 pp 0)), (6, .int (zI (bareN a pp (ib + 1)))), (7, .int (greatN a pp (ib + 1))), (8, .int (sumN a pp (ib + 1))), (9, .int (zI (ib : Int))), (11, .ref (am 13 pp ib)), (12, .ref q1), (13, .int (zI ((wb + 1) : Int)))]) ⟨rfl, rfl, rfl, rfl, rfl, rfl, rfl, rfl, rfl, rfl, rfl, rfl, rfl, trivial⟩ ?_
                                          exact ih_wb (wb + 1) (by omega) (by omega)
                                        · exact absurd rfl c_394
                                  refine g_st (ws' := wS cA am L a ++ (wX cA ad (upY σ 0 a) ++ (w3 ++ [(q1, .inl (cA 0, 6, .inl (balF a pp ib (if cv a pp ib then 1 else 0))))]))) (congrArg (fun v => wS cA am L a ++ (wX cA ad (upY σ 0 a) ++ (w3 ++ [(q1, .inl (cA 0, 6, .inl (balF a pp ib v)))]))) (by first | omega | rw [if_pos (hcv_238.mp (by omega))] | rw [if_neg (fun q => absurd (hcv_238.mpr q) (by omega))])) rfl rfl ?_
                                  refine g_loc (lv' := [(0, .ref (am 0 0 0)), (1, .ref (ad 0 8 0)), (2, .int (zI 0)), (3, .int (rsA a pp)), (4, .int (zI (pp : Int))), (5, .ref (am 1 pp 0)), (6, .int (zI (bareN a pp (ib + 1)))), (7, .int (greatN a pp (ib + 1))), (8, .int (sumN a pp (ib + 1))), (9, .int (zI (ib : Int))), (11, .ref (am 13 pp ib)), (12, .ref q1), (13, .int (zI (0 : Int)))]) ⟨rfl, rfl, rfl, rfl, rfl, rfl, congrArg (fun z : Int => some (Value.int (zI z))) (by first | omega | (rw [bare_f (hcf_238 (by omega))]) | (rw [bare_t (hcv_238.mp (by omega))]; omega)), rfl, rfl, rfl, rfl, rfl, rfl, trivial⟩ ?_
                                  exact key_wb (((6 : Int)) + 1).toNat.succ 0 (by omega) (by omega)
                              · refine g_goto (tgt := 430) E dX5_isSame_300 (by decide) ?_
                                refine g_iinc E dX5_isSame_430 rfl (by decide) ?_
                                refine g_goto (tgt := 224) E dX5_isSame_433 (by decide) ?_
                                refine g_wid (k := 27 + 92 * pp + (ib + 1)) (n := 201 + 556 * pp + 6 * (ib + 1)) (by omega) (by omega) ?_
                                refine g_loc (lv' := [(0, .ref (am 0 0 0)), (1, .ref (ad 0 8 0)), (2, .int (zI 0)), (3, .int (rsA a pp)), (4, .int (zI (pp : Int))), (5, .ref (am 1 pp 0)), (6, .int (zI (bareN a pp (ib + 1)))), (7, .int (greatN a pp (ib + 1))), (8, .int (sumN a pp (ib + 1))), (9, .int (zI ((ib + 1) : Int)))]) ⟨rfl, rfl, rfl, rfl, rfl, rfl, congrArg (fun z : Int => some (Value.int (zI z))) (by first | omega | (rw [bare_f (hcf_238 (by omega))]) | (rw [bare_t (hcv_238.mp (by omega))]; omega)), rfl, rfl, rfl, trivial⟩ ?_
                                exact ih_ib (ib + 1) (by omega) (by omega)
                          · refine g_iconst E dX5_isSame_250 ?_
                            refine g_goto (tgt := 255) E dX5_isSame_251 (by decide) ?_
                            refine g_iadd E dX5_isSame_255 ?_
                            refine g_istore E dX5_isSame_256 (by decide) ?_
                            refine g_iload E dX5_isSame_258 rfl ?_
                            refine g_aload E dX5_isSame_260 rfl ?_
                            refine gs_LP_rust E (hPm pp (by omega)).1 hin7 (by decide +kernel) dX5_isSame_262 ?_
                            refine g_iload E dX5_isSame_265 rfl ?_
                            refine ls_2 E (hPm pp (by omega)).2.1 (by omega) rfl dX5_isSame_267 ?_
                            refine g_top (v' := .int (a 2 pp ib)) rfl ?_
                            refine g_mmax E (by decide +kernel) (by decide +kernel) (by decide +kernel) (by decide +kernel) (Nat.le_of_ble_eq_true rfl) (Nat.le_of_ble_eq_true rfl) (by show (_ : Nat) ≤ 600; omega) (by show (_ : Nat) ≤ 4000; omega) dX5_isSame_268 ?_
                            refine g_top (v' := .int (greatN a pp (ib + 1))) rfl ?_
                            refine g_istore E dX5_isSame_271 (by decide) ?_
                            refine g_iload E dX5_isSame_273 rfl ?_
                            refine g_aload E dX5_isSame_275 rfl ?_
                            refine gs_LP_rust E (hPm pp (by omega)).1 hin7 (by decide +kernel) dX5_isSame_277 ?_
                            refine g_iload E dX5_isSame_280 rfl ?_
                            refine ls_2 E (hPm pp (by omega)).2.1 (by omega) rfl dX5_isSame_282 ?_
                            refine g_top (v' := .int (a 2 pp ib)) rfl ?_
                            refine g_iaddR E dX5_isSame_283 ?_
                            refine g_istore E dX5_isSame_284 (by decide) ?_
                            refine g_iload_n E dX5_isSame_286 rfl ?_
                            refine g_if_ne (tgt := 303) E dX5_isSame_287 (by decide) (by omega) (fun c_287 => ?_) (fun c_287 => ?_)
                            · exact absurd rfl c_287
                            · refine g_iload E dX5_isSame_290 rfl ?_
                              refine g_bipush E dX5_isSame_292 (by decide) ?_
                              refine g_irem E dX5_isSame_294 (by omega) (by omega) ?_
                              refine g_iload E dX5_isSame_295 rfl ?_
                              refine g_icmp_eq (tgt := 303) E dX5_isSame_297 (by decide) (by omega) (by omega) (fun c_297 => ?_) (fun c_297 => ?_)
                              · refine g_aload E dX5_isSame_303 rfl ?_
                                refine gs_LP_places E (hPm pp (by omega)).1 hin7 (by decide +kernel) dX5_isSame_305 ?_
                                refine g_iload E dX5_isSame_308 rfl ?_
                                refine ls_12 E (hPm pp (by omega)).2.2.1 (by omega) dX5_isSame_310 ?_
                                refine g_top (v' := .ref (am 13 pp ib)) (rfl) ?_
                                refine g_astore E dX5_isSame_311 (by decide) ?_
                                refine g_bipush E dX5_isSame_313 (by decide) ?_
                                refine g_top (v' := .int (zI ((6 : Nat) : Int))) (rfl) ?_
                                refine g_newa E hA (by decide +kernel) (by omega) (by show (_ : Nat) ≤ 600; omega) (by show (_ : Nat) ≤ 4000; omega) dX5_isSame_315 (fun q1 => ?_)
                                refine g_asc2 ?_
                                refine g_dup E dX5_isSame_317 rfl ?_
                                refine g_iconst E dX5_isSame_318 ?_
                                refine g_aload E dX5_isSame_319 rfl ?_
                                refine gs_LP_rust E (hPm pp (by omega)).1 hin7 (by decide +kernel) dX5_isSame_321 ?_
                                refine g_iload E dX5_isSame_324 rfl ?_
                                refine ls_2 E (hPm pp (by omega)).2.1 (by omega) rfl dX5_isSame_326 ?_
                                refine g_top (v' := .int (a 2 pp ib)) rfl ?_
                                refine g_iast E 0 rfl (by omega) (by omega) (se_r (se_r (se_r (se_i 0 rfl rfl)))) dX5_isSame_327 ?_
                                refine g_dup E dX5_isSame_328 rfl ?_
                                refine g_iconst E dX5_isSame_329 ?_
                                refine g_aload E dX5_isSame_330 rfl ?_
                                refine g_iconst E dX5_isSame_332 ?_
                                refine ls_13 E ((hPm pp (by omega)).2.2.2 ib (by omega)) (by omega) dX5_isSame_333 ?_
                                refine g_top (v' := .int (zI (lf (sd a pp) ib))) rfl ?_
                                refine g_iast E 0 rfl (by omega) (by omega) (se_r (se_r (se_r (se_i 0 rfl rfl)))) dX5_isSame_334 ?_
                                refine g_dup E dX5_isSame_335 rfl ?_
                                refine g_iconst E dX5_isSame_336 ?_
                                refine g_aload E dX5_isSame_337 rfl ?_
                                refine g_iconst E dX5_isSame_339 ?_
                                refine ls_13 E ((hPm pp (by omega)).2.2.2 ib (by omega)) (by omega) dX5_isSame_340 ?_
                                refine g_top (v' := .int (zI (row (sd a pp) ib))) rfl ?_
                                refine g_iast E 0 rfl (by omega) (by omega) (se_r (se_r (se_r (se_i 0 rfl rfl)))) dX5_isSame_341 ?_
                                refine g_dup E dX5_isSame_342 rfl ?_
                                refine g_iconst E dX5_isSame_343 ?_
                                refine g_aload E dX5_isSame_344 rfl ?_
                                refine g_iconst E dX5_isSame_346 ?_
                                refine ls_13 E ((hPm pp (by omega)).2.2.2 ib (by omega)) (by omega) dX5_isSame_347 ?_
                                refine g_top (v' := .int (zI (pla (sd a pp) ib))) rfl ?_
                                refine g_iast E 0 rfl (by omega) (by omega) (se_r (se_r (se_r (se_i 0 rfl rfl)))) dX5_isSame_348 ?_
                                refine g_dup E dX5_isSame_349 rfl ?_
                                refine g_iconst E dX5_isSame_350 ?_
                                refine g_iload E dX5_isSame_351 rfl ?_
                                refine g_if_le (tgt := 360) E dX5_isSame_353 (by decide) (by omega) (fun c_353 => ?_) (fun c_353 => ?_)
                                · refine g_iconst E dX5_isSame_360 ?_
                                  refine g_iast E 0 rfl (by omega) (by omega) (se_r (se_r (se_r (se_i 0 rfl rfl)))) dX5_isSame_361 ?_
                                  refine g_dup E dX5_isSame_362 rfl ?_
                                  refine g_iconst E dX5_isSame_363 ?_
                                  refine g_iload E dX5_isSame_364 rfl ?_
                                  refine g_iast E 0 rfl (by omega) (by omega) (se_r (se_r (se_r (se_i 0 rfl rfl)))) dX5_isSame_366 ?_
                                  refine g_astore E dX5_isSame_367 (by decide) ?_
                                  refine g_iconst E dX5_isSame_369 ?_
                                  refine g_istore E dX5_isSame_370 (by decide) ?_
                                  refine g_wid (k := 28 + 92 * pp + ib) (n := 207 + 556 * pp + 6 * ib) (by omega) (by omega) ?_
                                  have key_wb : ∀ (n_wb wb : Nat), (wb : Int) ≤ (6 : Int) → (6 : Int) + 1 ≤ (wb : Int) + n_wb → GW p l e (headSpec wsX5_isSame ({ frames := 5, cells := 600, slots := 4000, locals := 118 })).room s m ([.ref (am 0 0 0), .ref (ad 0 8 0), .int (zI 0)] : List Value).toArray below meth c (MQ below (va_Qi (fun (r : Int32) ws' => r = zI 1 ∧ ws' = wS cA am L a ++ (wX cA ad (upY σ 0 a) ++ w3)) (gB D A) A) ([.ref (am 0 0 0), .ref (ad 0 8 0), .int (zI 0)] : List Value).toArray s 600 4000 A) D A 14 (wS cA am L a ++ (wX cA ad (upY σ 0 a) ++ (w3 ++ [(q1, .inl (cA 0, 6, .inl (balF a pp ib (if cv a pp ib then 1 else 0))))]))) (28 + 92 * pp + ib) (207 + 556 * pp + 6 * ib) 372 [(0, .ref (am 0 0 0)), (1, .ref (ad 0 8 0)), (2, .int (zI 0)), (3, .int (rsA a pp)), (4, .int (zI (pp : Int))), (5, .ref (am 1 pp 0)), (6, .int (zI (bareN a pp (ib + 1)))), (7, .int (greatN a pp (ib + 1))), (8, .int (sumN a pp (ib + 1))), (9, .int (zI (ib : Int))), (11, .ref (am 13 pp ib)), (12, .ref q1), (13, .int (zI (wb : Int)))] [] := by
                                    intro n_wb
                                    induction n_wb with
                                    | zero => intro wb h1 h2; exact absurd h2 (by omega)
                                    | succ n_wb ih_wb =>
                                      intro wb hle_wb hfu_wb
                                      refine g_iload E dX5_isSame_372 rfl ?_
                                      refine g_bipush E dX5_isSame_374 (by decide) ?_
                                      refine g_icmp_ge (tgt := 405) E dX5_isSame_376 (by decide) (by omega) (by omega) (fun c_376 => ?_) (fun c_376 => ?_)
                                      · refine g_drop3 ?_
                                        refine g_aload_n E dX5_isSame_405 rfl ?_
                                        refine g_iload E dX5_isSame_406 rfl ?_
                                        refine g_aload E dX5_isSame_408 rfl ?_
                                        refine g_iconst E dX5_isSame_410 ?_
                                        refine ls_13 E ((hPm pp (by omega)).2.2.2 ib (by omega)) (by omega) dX5_isSame_411 ?_
                                        refine g_top (v' := .int (zI (lf (sd a pp) ib))) rfl ?_
                                        refine g_aload E dX5_isSame_412 rfl ?_
                                        refine g_iconst E dX5_isSame_414 ?_
                                        refine ls_13 E ((hPm pp (by omega)).2.2.2 ib (by omega)) (by omega) dX5_isSame_415 ?_
                                        refine g_top (v' := .int (zI (row (sd a pp) ib))) rfl ?_
                                        refine g_aload E dX5_isSame_416 rfl ?_
                                        refine g_iconst E dX5_isSame_418 ?_
                                        refine ls_13 E ((hPm pp (by omega)).2.2.2 ib (by omega)) (by omega) dX5_isSame_419 ?_
                                        refine g_top (v' := .int (zI (pla (sd a pp) ib))) rfl ?_
                                        refine g_mVi (T := TX4) (ci := 4) (n := 4) (As := [_, _, _, _]) (rest := _) E (n_X4_at l D cA _ ad σ a hI (pp : Int) (lf (sd a pp) ib) (row (sd a pp) ib) (pla (sd a pp) ib) ⟨by omega, by omega⟩ ⟨by omega, by omega⟩ ⟨by omega, by omega⟩ ⟨by omega, by omega⟩ ⟨⟨by omega, by omega⟩, ⟨by omega, by omega⟩, ⟨by omega, by omega⟩, ⟨by omega, by omega⟩⟩) gX5_isSame_X4_at rfl ⟨rfl, rfl⟩ (by decide +kernel) ⟨Nat.le_of_ble_eq_true rfl, Nat.le_of_ble_eq_true rfl⟩ (ob_8 mem_8) rfl rfl rfl (Nat.le_of_ble_eq_true rfl) ⟨by show (_ : Nat) ≤ 600; omega, by show (_ : Nat) ≤ 4000; omega⟩ dX5_isSame_420 ?_
                                        rintro r_420 ws_420 ⟨rfl, rfl⟩
                                        refine g_iload E dX5_isSame_423 rfl ?_
                                        refine g_icmp_eqR (tgt := 430) E dX5_isSame_425 (by decide) (fun c_425 => ?_) (fun c_425 => ?_)
                                        · refine g_iinc E dX5_isSame_430 rfl (by decide) ?_
                                          refine g_goto (tgt := 224) E dX5_isSame_433 (by decide) ?_
                                          refine g_wid (k := 27 + 92 * pp + (ib + 1)) (n := 201 + 556 * pp + 6 * (ib + 1)) (by omega) (by omega) ?_
                                          refine g_loc (lv' := [(0, .ref (am 0 0 0)), (1, .ref (ad 0 8 0)), (2, .int (zI 0)), (3, .int (rsA a pp)), (4, .int (zI (pp : Int))), (5, .ref (am 1 pp 0)), (6, .int (zI (bareN a pp (ib + 1)))), (7, .int (greatN a pp (ib + 1))), (8, .int (sumN a pp (ib + 1))), (9, .int (zI ((ib + 1) : Int)))]) ⟨rfl, rfl, rfl, rfl, rfl, rfl, congrArg (fun z : Int => some (Value.int (zI z))) (by first | omega | (rw [bare_f (hcf_238 (by omega))]) | (rw [bare_t (hcv_238.mp (by omega))]; omega)), rfl, rfl, rfl, trivial⟩ ?_
                                          exact ih_ib (ib + 1) (by omega) (by omega)
                                        · exact absurd (congrArg zI (atV_c (by omega))) c_425
                                      · refine g_aload_n E dX5_isSame_379 rfl ?_
                                        refine g_iload E dX5_isSame_380 rfl ?_
                                        refine g_iload E dX5_isSame_382 rfl ?_
                                        refine g_iload E dX5_isSame_384 rfl ?_
                                        refine g_mVi (T := TX4) (ci := 4) (n := 3) (As := [_, _, _]) (rest := _) E (n_X4_ball l D cA _ ad σ a hI (pp : Int) (ib : Int) (wb : Int) ⟨by omega, by omega⟩ ⟨by omega, by omega⟩ ⟨by omega, by omega⟩ ⟨⟨by omega, by omega⟩, ⟨by omega, by omega⟩, ⟨by omega, by omega⟩⟩) gX5_isSame_X4_ball rfl ⟨rfl, rfl⟩ (by decide +kernel) ⟨Nat.le_of_ble_eq_true rfl, Nat.le_of_ble_eq_true rfl⟩ (ob_8 mem_8) rfl rfl rfl (Nat.le_of_ble_eq_true rfl) ⟨by show (_ : Nat) ≤ 600; omega, by show (_ : Nat) ≤ 4000; omega⟩ dX5_isSame_386 ?_
                                        rintro r_386 ws_386 ⟨rfl, rfl⟩
                                        refine g_aload E dX5_isSame_389 rfl ?_
                                        refine g_iload E dX5_isSame_391 rfl ?_
                                        refine g_iald E 0 rfl (at_r (at_r (at_r (at_i 0 rfl)))) (by omega) (by omega) rfl dX5_isSame_393 ?_
                                        refine g_top (v' := .int (blV a pp (ib : Int) (wb : Int))) (congrArg Value.int (bal_c (by omega))) ?_
                                        refine g_icmp_eqR (tgt := 399) E dX5_isSame_394 (by decide) (fun c_394 => ?_) (fun c_394 => ?_)
                                        · refine g_iinc E dX5_isSame_399 rfl (by decide) ?_
                                          refine g_goto (tgt := 372) E dX5_isSame_402 (by decide) ?_
                                          refine g_wid (k := 28 + 92 * pp + ib) (n := 207 + 556 * pp + 6 * ib) (by omega) (by omega) ?_
                                          refine g_st (ws' := wS cA am L a ++ (wX cA ad (upY σ 0 a) ++ (w3 ++ [(q1, .inl (cA 0, 6, .inl (balF a pp ib (if cv a pp ib then 1 else 0))))]))) (rfl) rfl rfl ?_
                                          refine g_loc (lv' := [(0, .ref (am 0 0 0)), (1, .ref (ad 0 8 0)), (2, .int (zI 0)), (3, .int (rsA a pp)), (4, .int (zI (pp : Int))), (5, .ref (am 1 pp 0)), (6, .int (zI (bareN a pp (ib + 1)))), (7, .int (greatN a pp (ib + 1))), (8, .int (sumN a pp (ib + 1))), (9, .int (zI (ib : Int))), (11, .ref (am 13 pp ib)), (12, .ref q1), (13, .int (zI ((wb + 1) : Int)))]) ⟨rfl, rfl, rfl, rfl, rfl, rfl, rfl, rfl, rfl, rfl, rfl, rfl, rfl, trivial⟩ ?_
                                          exact ih_wb (wb + 1) (by omega) (by omega)
                                        · exact absurd rfl c_394
                                  refine g_st (ws' := wS cA am L a ++ (wX cA ad (upY σ 0 a) ++ (w3 ++ [(q1, .inl (cA 0, 6, .inl (balF a pp ib (if cv a pp ib then 1 else 0))))]))) (congrArg (fun v => wS cA am L a ++ (wX cA ad (upY σ 0 a) ++ (w3 ++ [(q1, .inl (cA 0, 6, .inl (balF a pp ib v)))]))) (by first | omega | rw [if_pos (hcv_238.mp (by omega))] | rw [if_neg (fun q => absurd (hcv_238.mpr q) (by omega))])) rfl rfl ?_
                                  refine g_loc (lv' := [(0, .ref (am 0 0 0)), (1, .ref (ad 0 8 0)), (2, .int (zI 0)), (3, .int (rsA a pp)), (4, .int (zI (pp : Int))), (5, .ref (am 1 pp 0)), (6, .int (zI (bareN a pp (ib + 1)))), (7, .int (greatN a pp (ib + 1))), (8, .int (sumN a pp (ib + 1))), (9, .int (zI (ib : Int))), (11, .ref (am 13 pp ib)), (12, .ref q1), (13, .int (zI (0 : Int)))]) ⟨rfl, rfl, rfl, rfl, rfl, rfl, congrArg (fun z : Int => some (Value.int (zI z))) (by first | omega | (rw [bare_f (hcf_238 (by omega))]) | (rw [bare_t (hcv_238.mp (by omega))]; omega)), rfl, rfl, rfl, rfl, rfl, rfl, trivial⟩ ?_
                                  exact key_wb (((6 : Int)) + 1).toNat.succ 0 (by omega) (by omega)
                                · refine g_iconst E dX5_isSame_356 ?_
                                  refine g_goto (tgt := 361) E dX5_isSame_357 (by decide) ?_
                                  refine g_iast E 0 rfl (by omega) (by omega) (se_r (se_r (se_r (se_i 0 rfl rfl)))) dX5_isSame_361 ?_
                                  refine g_dup E dX5_isSame_362 rfl ?_
                                  refine g_iconst E dX5_isSame_363 ?_
                                  refine g_iload E dX5_isSame_364 rfl ?_
                                  refine g_iast E 0 rfl (by omega) (by omega) (se_r (se_r (se_r (se_i 0 rfl rfl)))) dX5_isSame_366 ?_
                                  refine g_astore E dX5_isSame_367 (by decide) ?_
                                  refine g_iconst E dX5_isSame_369 ?_
                                  refine g_istore E dX5_isSame_370 (by decide) ?_
                                  refine g_wid (k := 28 + 92 * pp + ib) (n := 207 + 556 * pp + 6 * ib) (by omega) (by omega) ?_
                                  have key_wb : ∀ (n_wb wb : Nat), (wb : Int) ≤ (6 : Int) → (6 : Int) + 1 ≤ (wb : Int) + n_wb → GW p l e (headSpec wsX5_isSame ({ frames := 5, cells := 600, slots := 4000, locals := 118 })).room s m ([.ref (am 0 0 0), .ref (ad 0 8 0), .int (zI 0)] : List Value).toArray below meth c (MQ below (va_Qi (fun (r : Int32) ws' => r = zI 1 ∧ ws' = wS cA am L a ++ (wX cA ad (upY σ 0 a) ++ w3)) (gB D A) A) ([.ref (am 0 0 0), .ref (ad 0 8 0), .int (zI 0)] : List Value).toArray s 600 4000 A) D A 14 (wS cA am L a ++ (wX cA ad (upY σ 0 a) ++ (w3 ++ [(q1, .inl (cA 0, 6, .inl (balF a pp ib (if cv a pp ib then 1 else 0))))]))) (28 + 92 * pp + ib) (207 + 556 * pp + 6 * ib) 372 [(0, .ref (am 0 0 0)), (1, .ref (ad 0 8 0)), (2, .int (zI 0)), (3, .int (rsA a pp)), (4, .int (zI (pp : Int))), (5, .ref (am 1 pp 0)), (6, .int (zI (bareN a pp (ib + 1)))), (7, .int (greatN a pp (ib + 1))), (8, .int (sumN a pp (ib + 1))), (9, .int (zI (ib : Int))), (11, .ref (am 13 pp ib)), (12, .ref q1), (13, .int (zI (wb : Int)))] [] := by
                                    intro n_wb
                                    induction n_wb with
                                    | zero => intro wb h1 h2; exact absurd h2 (by omega)
                                    | succ n_wb ih_wb =>
                                      intro wb hle_wb hfu_wb
                                      refine g_iload E dX5_isSame_372 rfl ?_
                                      refine g_bipush E dX5_isSame_374 (by decide) ?_
                                      refine g_icmp_ge (tgt := 405) E dX5_isSame_376 (by decide) (by omega) (by omega) (fun c_376 => ?_) (fun c_376 => ?_)
                                      · refine g_drop3 ?_
                                        refine g_aload_n E dX5_isSame_405 rfl ?_
                                        refine g_iload E dX5_isSame_406 rfl ?_
                                        refine g_aload E dX5_isSame_408 rfl ?_
                                        refine g_iconst E dX5_isSame_410 ?_
                                        refine ls_13 E ((hPm pp (by omega)).2.2.2 ib (by omega)) (by omega) dX5_isSame_411 ?_
                                        refine g_top (v' := .int (zI (lf (sd a pp) ib))) rfl ?_
                                        refine g_aload E dX5_isSame_412 rfl ?_
                                        refine g_iconst E dX5_isSame_414 ?_
                                        refine ls_13 E ((hPm pp (by omega)).2.2.2 ib (by omega)) (by omega) dX5_isSame_415 ?_
                                        refine g_top (v' := .int (zI (row (sd a pp) ib))) rfl ?_
                                        refine g_aload E dX5_isSame_416 rfl ?_
                                        refine g_iconst E dX5_isSame_418 ?_
                                        refine ls_13 E ((hPm pp (by omega)).2.2.2 ib (by omega)) (by omega) dX5_isSame_419 ?_
                                        refine g_top (v' := .int (zI (pla (sd a pp) ib))) rfl ?_
                                        refine g_mVi (T := TX4) (ci := 4) (n := 4) (As := [_, _, _, _]) (rest := _) E (n_X4_at l D cA _ ad σ a hI (pp : Int) (lf (sd a pp) ib) (row (sd a pp) ib) (pla (sd a pp) ib) ⟨by omega, by omega⟩ ⟨by omega, by omega⟩ ⟨by omega, by omega⟩ ⟨by omega, by omega⟩ ⟨⟨by omega, by omega⟩, ⟨by omega, by omega⟩, ⟨by omega, by omega⟩, ⟨by omega, by omega⟩⟩) gX5_isSame_X4_at rfl ⟨rfl, rfl⟩ (by decide +kernel) ⟨Nat.le_of_ble_eq_true rfl, Nat.le_of_ble_eq_true rfl⟩ (ob_8 mem_8) rfl rfl rfl (Nat.le_of_ble_eq_true rfl) ⟨by show (_ : Nat) ≤ 600; omega, by show (_ : Nat) ≤ 4000; omega⟩ dX5_isSame_420 ?_
                                        rintro r_420 ws_420 ⟨rfl, rfl⟩
                                        refine g_iload E dX5_isSame_423 rfl ?_
                                        refine g_icmp_eqR (tgt := 430) E dX5_isSame_425 (by decide) (fun c_425 => ?_) (fun c_425 => ?_)
                                        · refine g_iinc E dX5_isSame_430 rfl (by decide) ?_
                                          refine g_goto (tgt := 224) E dX5_isSame_433 (by decide) ?_
                                          refine g_wid (k := 27 + 92 * pp + (ib + 1)) (n := 201 + 556 * pp + 6 * (ib + 1)) (by omega) (by omega) ?_
                                          refine g_loc (lv' := [(0, .ref (am 0 0 0)), (1, .ref (ad 0 8 0)), (2, .int (zI 0)), (3, .int (rsA a pp)), (4, .int (zI (pp : Int))), (5, .ref (am 1 pp 0)), (6, .int (zI (bareN a pp (ib + 1)))), (7, .int (greatN a pp (ib + 1))), (8, .int (sumN a pp (ib + 1))), (9, .int (zI ((ib + 1) : Int)))]) ⟨rfl, rfl, rfl, rfl, rfl, rfl, congrArg (fun z : Int => some (Value.int (zI z))) (by first | omega | (rw [bare_f (hcf_238 (by omega))]) | (rw [bare_t (hcv_238.mp (by omega))]; omega)), rfl, rfl, rfl, trivial⟩ ?_
                                          exact ih_ib (ib + 1) (by omega) (by omega)
                                        · exact absurd (congrArg zI (atV_c (by omega))) c_425
                                      · refine g_aload_n E dX5_isSame_379 rfl ?_
                                        refine g_iload E dX5_isSame_380 rfl ?_
                                        refine g_iload E dX5_isSame_382 rfl ?_
                                        refine g_iload E dX5_isSame_384 rfl ?_
                                        refine g_mVi (T := TX4) (ci := 4) (n := 3) (As := [_, _, _]) (rest := _) E (n_X4_ball l D cA _ ad σ a hI (pp : Int) (ib : Int) (wb : Int) ⟨by omega, by omega⟩ ⟨by omega, by omega⟩ ⟨by omega, by omega⟩ ⟨⟨by omega, by omega⟩, ⟨by omega, by omega⟩, ⟨by omega, by omega⟩⟩) gX5_isSame_X4_ball rfl ⟨rfl, rfl⟩ (by decide +kernel) ⟨Nat.le_of_ble_eq_true rfl, Nat.le_of_ble_eq_true rfl⟩ (ob_8 mem_8) rfl rfl rfl (Nat.le_of_ble_eq_true rfl) ⟨by show (_ : Nat) ≤ 600; omega, by show (_ : Nat) ≤ 4000; omega⟩ dX5_isSame_386 ?_
                                        rintro r_386 ws_386 ⟨rfl, rfl⟩
                                        refine g_aload E dX5_isSame_389 rfl ?_
                                        refine g_iload E dX5_isSame_391 rfl ?_
                                        refine g_iald E 0 rfl (at_r (at_r (at_r (at_i 0 rfl)))) (by omega) (by omega) rfl dX5_isSame_393 ?_
                                        refine g_top (v' := .int (blV a pp (ib : Int) (wb : Int))) (congrArg Value.int (bal_c (by omega))) ?_
                                        refine g_icmp_eqR (tgt := 399) E dX5_isSame_394 (by decide) (fun c_394 => ?_) (fun c_394 => ?_)
                                        · refine g_iinc E dX5_isSame_399 rfl (by decide) ?_
                                          refine g_goto (tgt := 372) E dX5_isSame_402 (by decide) ?_
                                          refine g_wid (k := 28 + 92 * pp + ib) (n := 207 + 556 * pp + 6 * ib) (by omega) (by omega) ?_
                                          refine g_st (ws' := wS cA am L a ++ (wX cA ad (upY σ 0 a) ++ (w3 ++ [(q1, .inl (cA 0, 6, .inl (balF a pp ib (if cv a pp ib then 1 else 0))))]))) (rfl) rfl rfl ?_
                                          refine g_loc (lv' := [(0, .ref (am 0 0 0)), (1, .ref (ad 0 8 0)), (2, .int (zI 0)), (3, .int (rsA a pp)), (4, .int (zI (pp : Int))), (5, .ref (am 1 pp 0)), (6, .int (zI (bareN a pp (ib + 1)))), (7, .int (greatN a pp (ib + 1))), (8, .int (sumN a pp (ib + 1))), (9, .int (zI (ib : Int))), (11, .ref (am 13 pp ib)), (12, .ref q1), (13, .int (zI ((wb + 1) : Int)))]) ⟨rfl, rfl, rfl, rfl, rfl, rfl, rfl, rfl, rfl, rfl, rfl, rfl, rfl, trivial⟩ ?_
                                          exact ih_wb (wb + 1) (by omega) (by omega)
                                        · exact absurd rfl c_394
                                  refine g_st (ws' := wS cA am L a ++ (wX cA ad (upY σ 0 a) ++ (w3 ++ [(q1, .inl (cA 0, 6, .inl (balF a pp ib (if cv a pp ib then 1 else 0))))]))) (congrArg (fun v => wS cA am L a ++ (wX cA ad (upY σ 0 a) ++ (w3 ++ [(q1, .inl (cA 0, 6, .inl (balF a pp ib v)))]))) (by first | omega | rw [if_pos (hcv_238.mp (by omega))] | rw [if_neg (fun q => absurd (hcv_238.mpr q) (by omega))])) rfl rfl ?_
                                  refine g_loc (lv' := [(0, .ref (am 0 0 0)), (1, .ref (ad 0 8 0)), (2, .int (zI 0)), (3, .int (rsA a pp)), (4, .int (zI (pp : Int))), (5, .ref (am 1 pp 0)), (6, .int (zI (bareN a pp (ib + 1)))), (7, .int (greatN a pp (ib + 1))), (8, .int (sumN a pp (ib + 1))), (9, .int (zI (ib : Int))), (11, .ref (am 13 pp ib)), (12, .ref q1), (13, .int (zI (0 : Int)))]) ⟨rfl, rfl, rfl, rfl, rfl, rfl, congrArg (fun z : Int => some (Value.int (zI z))) (by first | omega | (rw [bare_f (hcf_238 (by omega))]) | (rw [bare_t (hcv_238.mp (by omega))]; omega)), rfl, rfl, rfl, rfl, rfl, rfl, trivial⟩ ?_
                                  exact key_wb (((6 : Int)) + 1).toNat.succ 0 (by omega) (by omega)
                              · refine g_goto (tgt := 430) E dX5_isSame_300 (by decide) ?_
                                refine g_iinc E dX5_isSame_430 rfl (by decide) ?_
                                refine g_goto (tgt := 224) E dX5_isSame_433 (by decide) ?_
                                refine g_wid (k := 27 + 92 * pp + (ib + 1)) (n := 201 + 556 * pp + 6 * (ib + 1)) (by omega) (by omega) ?_
                                refine g_loc (lv' := [(0, .ref (am 0 0 0)), (1, .ref (ad 0 8 0)), (2, .int (zI 0)), (3, .int (rsA a pp)), (4, .int (zI (pp : Int))), (5, .ref (am 1 pp 0)), (6, .int (zI (bareN a pp (ib + 1)))), (7, .int (greatN a pp (ib + 1))), (8, .int (sumN a pp (ib + 1))), (9, .int (zI ((ib + 1) : Int)))]) ⟨rfl, rfl, rfl, rfl, rfl, rfl, congrArg (fun z : Int => some (Value.int (zI z))) (by first | omega | (rw [bare_f (hcf_238 (by omega))]) | (rw [bare_t (hcv_238.mp (by omega))]; omega)), rfl, rfl, rfl, trivial⟩ ?_
                                exact ih_ib (ib + 1) (by omega) (by omega)
                    refine g_loc (lv' := [(0, .ref (am 0 0 0)), (1, .ref (ad 0 8 0)), (2, .int (zI 0)), (3, .int (rsA a pp)), (4, .int (zI (pp : Int))), (5, .ref (am 1 pp 0)), (6, .int (zI (bareN a pp 0))), (7, .int (greatN a pp 0)), (8, .int (sumN a pp 0)), (9, .int (zI (0 : Int)))]) ⟨rfl, rfl, rfl, rfl, rfl, rfl, rfl, rfl, rfl, rfl, trivial⟩ ?_
                    exact key_ib ((bl a pp) + 1).toNat.succ 0 (by omega) (by omega)
              refine g_loc (lv' := [(0, .ref (am 0 0 0)), (1, .ref (ad 0 8 0)), (2, .int (zI 0)), (3, .int (rsA a 0)), (4, .int (zI (0 : Int)))]) ⟨rfl, rfl, rfl, rfl, rfl, trivial⟩ ?_
              exact key_pp ((np a) + 1).toNat.succ 0 (by omega) (by omega)
            · refine g_iconst E dX5_isSame_40 ?_
              refine g_istore E dX5_isSame_41 (by decide) ?_
              refine g_aload_n E dX5_isSame_43 rfl ?_
              refine gs_Sim_piles E hB.1 hin5 (by decide +kernel) dX5_isSame_44 ?_
              refine g_astore E dX5_isSame_47 (by decide) ?_
              refine g_aload E dX5_isSame_49 rfl ?_
              refine ns_10 E hB.2.2.2.2.2.1 (by omega) dX5_isSame_51 ?_
              refine g_istore E dX5_isSame_52 (by decide) ?_
              refine g_iconst E dX5_isSame_54 ?_
              refine g_istore E dX5_isSame_55 (by decide) ?_
              refine g_wid (k := 22 + cc) (n := 176 + 5 * cc) (by omega) (by omega) ?_
              have key_kp : ∀ (n_kp kp : Nat), (kp : Int) ≤ np a → np a + 1 ≤ (kp : Int) + n_kp → GW p l e (headSpec wsX5_isSame ({ frames := 5, cells := 600, slots := 4000, locals := 118 })).room s m ([.ref (am 0 0 0), .ref (ad 0 8 0), .int (zI 0)] : List Value).toArray below meth c (MQ below (va_Qi (fun (r : Int32) ws' => r = zI 1 ∧ ws' = wS cA am L a ++ (wX cA ad (upY σ 0 a) ++ w3)) (gB D A) A) ([.ref (am 0 0 0), .ref (ad 0 8 0), .int (zI 0)] : List Value).toArray s 600 4000 A) D A 14 (wS cA am L a ++ (wX cA ad (upY σ 0 a) ++ w3)) (22 + cc) (176 + 5 * cc) 57 [(0, .ref (am 0 0 0)), (1, .ref (ad 0 8 0)), (2, .int (zI 0)), (3, .int (zI 0)), (4, .int (zI (cc : Int))), (5, .int (zI (ofCal a cc kp))), (6, .ref (am 10 0 0)), (7, .int (zI (np a))), (8, .int (zI (kp : Int)))] [] := by
                intro n_kp
                induction n_kp with
                | zero => intro kp h1 h2; exact absurd h2 (by omega)
                | succ n_kp ih_kp =>
                  intro kp hle_kp hfu_kp
                  have hpk : (kp : Int) < np a → PI a kp := fun h => hPI kp h
                  refine g_iload E dX5_isSame_57 rfl ?_
                  refine g_iload E dX5_isSame_59 rfl ?_
                  refine g_icmp_ge (tgt := 101) E dX5_isSame_61 (by decide) (by omega) (by omega) (fun c_61 => ?_) (fun c_61 => ?_)
                  · obtain rfl : kp = (np a).toNat := (by omega)
                    refine g_iconst E dX5_isSame_101 ?_
                    refine g_top (v' := .int (zI ((5 : Nat) : Int))) (rfl) ?_
                    refine g_newa E hA (by decide +kernel) (by omega) (by show (_ : Nat) ≤ 600; omega) (by show (_ : Nat) ≤ 4000; omega) dX5_isSame_102 (fun q1 => ?_)
                    refine g_asc2 ?_
                    refine g_dup E dX5_isSame_104 rfl ?_
                    refine g_iconst E dX5_isSame_105 ?_
                    refine g_aload_n E dX5_isSame_106 rfl ?_
                    refine gs_Sim_store E hB.1 hin5 (by decide +kernel) dX5_isSame_107 ?_
                    refine g_iload E dX5_isSame_110 rfl ?_
                    refine ls_5 E hB.2.2.1 (by omega) rfl dX5_isSame_112 ?_
                    refine g_top (v' := .int (a 5 0 cc)) rfl ?_
                    refine g_iast E 0 rfl (by omega) (by omega) (se_r (se_r (se_r (se_i 0 rfl rfl)))) dX5_isSame_113 ?_
                    refine g_dup E dX5_isSame_114 rfl ?_
                    refine g_iconst E dX5_isSame_115 ?_
                    refine g_aload_n E dX5_isSame_116 rfl ?_
                    refine gs_Sim_loose E hB.1 hin5 (by decide +kernel) dX5_isSame_117 ?_
                    refine g_iload E dX5_isSame_120 rfl ?_
                    refine ls_4 E hB.2.1 (by omega) rfl dX5_isSame_122 ?_
                    refine g_top (v' := .int (a 4 0 cc)) rfl ?_
                    refine g_iast E 0 rfl (by omega) (by omega) (se_r (se_r (se_r (se_i 0 rfl rfl)))) dX5_isSame_123 ?_
                    refine g_dup E dX5_isSame_124 rfl ?_
                    refine g_iconst E dX5_isSame_125 ?_
                    refine g_iload E dX5_isSame_126 rfl ?_
                    refine g_iast E 0 rfl (by omega) (by omega) (se_r (se_r (se_r (se_i 0 rfl rfl)))) dX5_isSame_128 ?_
                    refine g_dup E dX5_isSame_129 rfl ?_
                    refine g_iconst E dX5_isSame_130 ?_
                    refine g_aload_n E dX5_isSame_131 rfl ?_
                    refine gs_Sim_fired E hB.1 hin5 (by decide +kernel) dX5_isSame_132 ?_
                    refine g_iload E dX5_isSame_135 rfl ?_
                    refine ls_6 E hB.2.2.2.1 (by omega) rfl dX5_isSame_137 ?_
                    refine g_top (v' := .int (a 6 0 cc)) rfl ?_
                    refine g_iast E 0 rfl (by omega) (by omega) (se_r (se_r (se_r (se_i 0 rfl rfl)))) dX5_isSame_138 ?_
                    refine g_dup E dX5_isSame_139 rfl ?_
                    refine g_iconst E dX5_isSame_140 ?_
                    refine g_aload_n E dX5_isSame_141 rfl ?_
                    refine gs_Sim_gone E hB.1 hin5 (by decide +kernel) dX5_isSame_142 ?_
                    refine g_iload E dX5_isSame_145 rfl ?_
                    refine ls_7 E hB.2.2.2.2.1 (by omega) rfl dX5_isSame_147 ?_
                    refine g_top (v' := .int (a 7 0 cc)) rfl ?_
                    refine g_iast E 0 rfl (by omega) (by omega) (se_r (se_r (se_r (se_i 0 rfl rfl)))) dX5_isSame_148 ?_
                    refine g_astore E dX5_isSame_149 (by decide) ?_
                    refine g_iconst E dX5_isSame_151 ?_
                    refine g_istore E dX5_isSame_152 (by decide) ?_
                    refine g_wid (k := 23 + cc) (n := 181 + 5 * cc) (by omega) (by omega) ?_
                    have key_ww : ∀ (n_ww ww : Nat), (ww : Int) ≤ (5 : Int) → (5 : Int) + 1 ≤ (ww : Int) + n_ww → GW p l e (headSpec wsX5_isSame ({ frames := 5, cells := 600, slots := 4000, locals := 118 })).room s m ([.ref (am 0 0 0), .ref (ad 0 8 0), .int (zI 0)] : List Value).toArray below meth c (MQ below (va_Qi (fun (r : Int32) ws' => r = zI 1 ∧ ws' = wS cA am L a ++ (wX cA ad (upY σ 0 a) ++ w3)) (gB D A) A) ([.ref (am 0 0 0), .ref (ad 0 8 0), .int (zI 0)] : List Value).toArray s 600 4000 A) D A 14 (wS cA am L a ++ (wX cA ad (upY σ 0 a) ++ (w3 ++ [(q1, .inl (cA 0, 5, .inl ((tolF a cc))))]))) (23 + cc) (181 + 5 * cc) 154 [(0, .ref (am 0 0 0)), (1, .ref (ad 0 8 0)), (2, .int (zI 0)), (3, .int (zI 0)), (4, .int (zI (cc : Int))), (6, .ref q1), (7, .int (zI (ww : Int)))] [] := by
                      intro n_ww
                      induction n_ww with
                      | zero => intro ww h1 h2; exact absurd h2 (by omega)
                      | succ n_ww ih_ww =>
                        intro ww hle_ww hfu_ww
                        refine g_iload E dX5_isSame_154 rfl ?_
                        refine g_iconst E dX5_isSame_156 ?_
                        refine g_icmp_ge (tgt := 184) E dX5_isSame_157 (by decide) (by omega) (by omega) (fun c_157 => ?_) (fun c_157 => ?_)
                        · refine g_drop3 ?_
                          refine g_iinc E dX5_isSame_184 rfl (by decide) ?_
                          refine g_goto (tgt := 34) E dX5_isSame_187 (by decide) ?_
                          refine g_wid (k := 22 + (cc + 1)) (n := 176 + 5 * (cc + 1)) (by omega) (by omega) ?_
                          refine g_loc (lv' := [(0, .ref (am 0 0 0)), (1, .ref (ad 0 8 0)), (2, .int (zI 0)), (3, .int (zI 0)), (4, .int (zI ((cc + 1) : Int)))]) ⟨rfl, rfl, rfl, rfl, rfl, trivial⟩ ?_
                          exact ih_cc (cc + 1) (by omega) (by omega)
                        · refine g_aload_n E dX5_isSame_160 rfl ?_
                          refine g_iload E dX5_isSame_161 rfl ?_
                          refine g_iload E dX5_isSame_163 rfl ?_
                          refine g_mVi (T := TX4) (ci := 4) (n := 2) (As := [_, _]) (rest := _) E (n_X4_told l D cA _ ad σ a hI (cc : Int) (ww : Int) ⟨by omega, by omega⟩ ⟨by omega, by omega⟩ ⟨⟨by omega, by omega⟩, ⟨by omega, by omega⟩⟩) gX5_isSame_X4_told rfl ⟨rfl, rfl⟩ (by decide +kernel) ⟨Nat.le_of_ble_eq_true rfl, Nat.le_of_ble_eq_true rfl⟩ (ob_8 mem_8) rfl rfl rfl (Nat.le_of_ble_eq_true rfl) ⟨by show (_ : Nat) ≤ 600; omega, by show (_ : Nat) ≤ 4000; omega⟩ dX5_isSame_165 ?_
                          rintro r_165 ws_165 ⟨rfl, rfl⟩
                          refine g_aload E dX5_isSame_168 rfl ?_
                          refine g_iload E dX5_isSame_170 rfl ?_
                          refine g_iald E 0 rfl (at_r (at_r (at_r (at_i 0 rfl)))) (by omega) (by omega) rfl dX5_isSame_172 ?_
                          refine g_top (v' := .int (toV a (cc : Int) (ww : Int))) (congrArg Value.int (tol_c (by omega))) ?_
                          refine g_icmp_eqR (tgt := 178) E dX5_isSame_173 (by decide) (fun c_173 => ?_) (fun c_173 => ?_)
                          · refine g_iinc E dX5_isSame_178 rfl (by decide) ?_
                            refine g_goto (tgt := 154) E dX5_isSame_181 (by decide) ?_
                            refine g_wid (k := 23 + cc) (n := 181 + 5 * cc) (by omega) (by omega) ?_
                            refine g_st (ws' := wS cA am L a ++ (wX cA ad (upY σ 0 a) ++ (w3 ++ [(q1, .inl (cA 0, 5, .inl ((tolF a cc))))]))) (rfl) rfl rfl ?_
                            refine g_loc (lv' := [(0, .ref (am 0 0 0)), (1, .ref (ad 0 8 0)), (2, .int (zI 0)), (3, .int (zI 0)), (4, .int (zI (cc : Int))), (6, .ref q1), (7, .int (zI ((ww + 1) : Int)))]) ⟨rfl, rfl, rfl, rfl, rfl, rfl, rfl, trivial⟩ ?_
                            exact ih_ww (ww + 1) (by omega) (by omega)
                          · exact absurd rfl c_173
                    refine g_st (ws' := wS cA am L a ++ (wX cA ad (upY σ 0 a) ++ (w3 ++ [(q1, .inl (cA 0, 5, .inl ((tolF a cc))))]))) (rfl) rfl rfl ?_
                    refine g_loc (lv' := [(0, .ref (am 0 0 0)), (1, .ref (ad 0 8 0)), (2, .int (zI 0)), (3, .int (zI 0)), (4, .int (zI (cc : Int))), (6, .ref q1), (7, .int (zI (0 : Int)))]) ⟨rfl, rfl, rfl, rfl, rfl, rfl, rfl, trivial⟩ ?_
                    exact key_ww (((5 : Int)) + 1).toNat.succ 0 (by omega) (by omega)
                  · obtain ⟨⟨he1, he6, hb0, hbq⟩, hk0, hk4⟩ := hpk (by omega); have hsq := sq_le ⟨he1, he6⟩
                    refine g_aload E dX5_isSame_64 rfl ?_
                    refine g_iload E dX5_isSame_66 rfl ?_
                    refine ls_10 E hB.2.2.2.2.2.1 (by omega) dX5_isSame_68 ?_
                    refine g_top (v' := .ref (am 1 kp 0)) (rfl) ?_
                    refine g_astore E dX5_isSame_69 (by decide) ?_
                    refine g_iload E dX5_isSame_71 rfl ?_
                    refine g_aload E dX5_isSame_73 rfl ?_
                    refine gs_LP_calibre E (hPm kp (by omega)).1 hin7 (by decide +kernel) dX5_isSame_75 ?_
                    refine g_iload E dX5_isSame_78 rfl ?_
                    refine g_icmp_ne (tgt := 91) E dX5_isSame_80 (by decide) (by omega) (by omega) (fun c_80 => ?_) (fun c_80 => ?_)
                    · refine g_iconst E dX5_isSame_91 ?_
                      refine g_iadd E dX5_isSame_92 ?_
                      refine g_istore E dX5_isSame_93 (by decide) ?_
                      refine g_iinc E dX5_isSame_95 rfl (by decide) ?_
                      refine g_goto (tgt := 57) E dX5_isSame_98 (by decide) ?_
                      refine g_wid (k := 22 + cc) (n := 176 + 5 * cc) (by omega) (by omega) ?_
                      refine g_loc (lv' := [(0, .ref (am 0 0 0)), (1, .ref (ad 0 8 0)), (2, .int (zI 0)), (3, .int (zI 0)), (4, .int (zI (cc : Int))), (5, .int (zI (ofCal a cc (kp + 1)))), (6, .ref (am 10 0 0)), (7, .int (zI (np a))), (8, .int (zI ((kp + 1) : Int)))]) ⟨rfl, rfl, rfl, rfl, rfl, congrArg (fun z : Int => some (Value.int (zI z))) (by rw [ofCal]; first | rw [if_pos (by omega)] | (rw [if_neg (by omega)]; omega)), rfl, rfl, rfl, trivial⟩ ?_
                      exact ih_kp (kp + 1) (by omega) (by omega)
                    · refine g_aload E dX5_isSame_83 rfl ?_
                      refine gs_LP_many E (hPm kp (by omega)).1 hin7 (by decide +kernel) dX5_isSame_85 ?_
                      refine g_goto (tgt := 92) E dX5_isSame_88 (by decide) ?_
                      refine g_iadd E dX5_isSame_92 ?_
                      refine g_istore E dX5_isSame_93 (by decide) ?_
                      refine g_iinc E dX5_isSame_95 rfl (by decide) ?_
                      refine g_goto (tgt := 57) E dX5_isSame_98 (by decide) ?_
                      refine g_wid (k := 22 + cc) (n := 176 + 5 * cc) (by omega) (by omega) ?_
                      refine g_loc (lv' := [(0, .ref (am 0 0 0)), (1, .ref (ad 0 8 0)), (2, .int (zI 0)), (3, .int (zI 0)), (4, .int (zI (cc : Int))), (5, .int (zI (ofCal a cc (kp + 1)))), (6, .ref (am 10 0 0)), (7, .int (zI (np a))), (8, .int (zI ((kp + 1) : Int)))]) ⟨rfl, rfl, rfl, rfl, rfl, congrArg (fun z : Int => some (Value.int (zI z))) (by rw [ofCal]; first | rw [if_pos (by omega)] | (rw [if_neg (by omega)]; omega)), rfl, rfl, rfl, trivial⟩ ?_
                      exact ih_kp (kp + 1) (by omega) (by omega)
              refine g_loc (lv' := [(0, .ref (am 0 0 0)), (1, .ref (ad 0 8 0)), (2, .int (zI 0)), (3, .int (zI 0)), (4, .int (zI (cc : Int))), (5, .int (zI (ofCal a cc 0))), (6, .ref (am 10 0 0)), (7, .int (zI (np a))), (8, .int (zI (0 : Int)))]) ⟨rfl, rfl, rfl, rfl, rfl, rfl, rfl, rfl, rfl, trivial⟩ ?_
              exact key_kp ((np a) + 1).toNat.succ 0 (by omega) (by omega)
        refine g_loc (lv' := [(0, .ref (am 0 0 0)), (1, .ref (ad 0 8 0)), (2, .int (zI 0)), (3, .int (zI 0)), (4, .int (zI (0 : Int)))]) ⟨rfl, rfl, rfl, rfl, rfl, trivial⟩ ?_
        exact key_cc (((5 : Int)) + 1).toNat.succ 0 (by omega) (by omega)
      · refine g_aload_n E dX5_isSame_8 rfl ?_
        refine g_iload_n E dX5_isSame_9 rfl ?_
        refine g_mVi (T := TX4) (ci := 4) (n := 1) (As := [_]) (rest := _) E (n_X4_count l D cA _ ad σ a hI (kk : Int) ⟨by omega, by omega⟩ ⟨by omega, by omega⟩) gX5_isSame_X4_count rfl ⟨rfl, rfl⟩ (by decide +kernel) ⟨Nat.le_of_ble_eq_true rfl, Nat.le_of_ble_eq_true rfl⟩ (ob_8 mem_8) rfl rfl rfl (Nat.le_of_ble_eq_true rfl) ⟨by show (_ : Nat) ≤ 600; omega, by show (_ : Nat) ≤ 4000; omega⟩ dX5_isSame_10 ?_
        rintro r_10 ws_10 ⟨rfl, rfl⟩
        refine g_aload_n E dX5_isSame_13 rfl ?_
        refine g_iload_n E dX5_isSame_14 rfl ?_
        refine g_zVi (T := TX5) (ci := 5) (n := 1) (As := [_]) (rest := _) E Z (c_X5_counted l D cA A am L _ a hS hI (kk : Int) ⟨by omega, by omega⟩) gX5_isSame_X5_counted rfl ⟨rfl, rfl⟩ (by decide +kernel) ⟨Nat.le_of_ble_eq_true rfl, Nat.le_of_ble_eq_true rfl⟩ (os_5 hB.1) rfl rfl rfl (Nat.le_of_ble_eq_true rfl) ⟨by show (_ : Nat) ≤ 600; omega, by show (_ : Nat) ≤ 4000; omega⟩ dX5_isSame_15 ?_
        rintro r_15 ws_15 ⟨rfl, rfl⟩
        refine g_icmp_eqR (tgt := 23) E dX5_isSame_18 (by decide) (fun c_18 => ?_) (fun c_18 => ?_)
        · refine g_iinc E dX5_isSame_23 rfl (by decide) ?_
          refine g_goto (tgt := 2) E dX5_isSame_26 (by decide) ?_
          refine g_wid (k := 2 * (kk + 1)) (n := 16 * (kk + 1)) (by omega) (by omega) ?_
          refine g_loc (lv' := [(0, .ref (am 0 0 0)), (1, .ref (ad 0 8 0)), (2, .int (zI 0)), (3, .int (zI ((kk + 1) : Int)))]) ⟨rfl, rfl, rfl, rfl, trivial⟩ ?_
          exact ih_kk (kk + 1) (by omega) (by omega)
        · exact absurd rfl c_18
  refine g_loc (lv' := [(0, .ref (am 0 0 0)), (1, .ref (ad 0 8 0)), (2, .int (zI 0)), (3, .int (zI (0 : Int)))]) ⟨rfl, rfl, rfl, rfl, trivial⟩ ?_
  exact key_kk (((11 : Int)) + 1).toNat.succ 0 (by omega) (by omega)
