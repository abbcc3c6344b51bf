/-! ===== MAIN: the checksum ===== -/
def dgN (f : Nat → Int32) (d : Int64) : Nat → Int64
  | 0 => d
  | n + 1 => dgN f d n * 31 + (f n).toInt64
def dgF (g : Nat → Int64 → Int64) (d : Int64) : Nat → Int64
  | 0 => d
  | n + 1 => g n (dgF g d n)
def dgP (a : St) (p : Nat) (d : Int64) : Int64 := dgN (fun k => a 2 p k) (dgN (fun w => abV a p w) d 10) (bl a p).toNat
def digV (a : St) : Int64 := dgF (fun c d => dgN (fun w => moV a c w) d 3) (dgF (fun p d => dgP a p d) (dgF (fun c d => dgN (fun w => toV a c w) d 5) (dgN (fun w => coV a w) 1811 11) 5) (np a).toNat) (nc a).toNat
set_option maxHeartbeats 800000 in
set_option maxRecDepth 100000 in
/-- digestOfPile(d, p) -/
theorem c_X4_digestOfPile (l : Launch) (D : va_G) (cA : Nat → ClassId) (A : Nat → Prop) (ad : Ad) (σ : Nat → St) (a : St) (hI : Inv a) (d9 : Int64) (p8 : Nat) (hp : (p8 : Int) < np a) : Met l yX4_digestOfPile wsX4_digestOfPile ({ frames := 4, cells := 0, slots := 0, locals := 87 }) (PcG D (tysX cA) A (wX cA ad (upY σ 0 a)) [.ref (ad 0 8 0), .long d9, .int (zI (p8 : Int))]) (va_Ql (fun (r : Int64) ws' => r = dgP a p8 d9 ∧ ws' = wX cA ad (upY σ 0 a)) (gB D A) A) 0 0 A := by
  refine g_met (cc := cX4_digestOfPile) (maxL := 8) (ret := (some .long)) (own := RX4) rfl (by decide) rfl (Nat.le_of_ble_eq_true rfl) ?_
  intro p e s m below meth c E
  have hin1 : ∀ w ∈ u_ws RX1 TX1 4, w ∈ wsX4_digestOfPile := by decide +kernel
  have hin3 : ∀ w ∈ u_ws RX3 TX3 8, w ∈ wsX4_digestOfPile := by decide +kernel
  have hin4 : ∀ w ∈ u_ws RX4 TX4 6, w ∈ wsX4_digestOfPile := by decide +kernel
  obtain ⟨⟨hn0, hn6, hc0, hc3⟩, hPI, hCI, hFr⟩ := id hI
  have hPo := (hPI p8 hp).1
  have hPo2 := hPo
  unfold PO at hPo2
  have hsq := sq_le (e := sd a p8) (by omega)
  refine g_loc (lv' := [(0, .ref (ad 0 8 0)), (1, .long d9), (3, .int (zI (p8 : Int)))]) ⟨rfl, rfl, rfl, trivial⟩ ?_
  refine g_lload_n E dX4_digestOfPile_0 rfl ?_
  refine g_lstore E dX4_digestOfPile_1 (by decide) ?_
  refine g_iconst E dX4_digestOfPile_3 ?_
  refine g_istore E dX4_digestOfPile_4 (by decide) ?_
  have key_kk : ∀ (n_kk kk : Nat), (kk : Int) ≤ (10 : Int) → (10 : Int) + 1 ≤ (kk : Int) + n_kk → GW p l e (headSpec wsX4_digestOfPile ({ frames := 4, cells := 0, slots := 0, locals := 87 })).room s m ([.ref (ad 0 8 0), .long d9, .int (zI (p8 : Int))] : List Value).toArray below meth c (MQ below (va_Ql (fun (r : Int64) ws' => r = dgP a p8 d9 ∧ ws' = wX cA ad (upY σ 0 a)) (gB D A) A) ([.ref (ad 0 8 0), .long d9, .int (zI (p8 : Int))] : List Value).toArray s 0 0 A) D A 8 (wX cA ad (upY σ 0 a)) 0 0 6 [(0, .ref (ad 0 8 0)), (1, .long d9), (3, .int (zI (p8 : Int))), (4, .long (dgN (fun w => abV a p8 w) d9 kk)), (6, .int (zI (kk : Int)))] [] := by
    intro n_kk
    induction n_kk with
    | zero => intro kk h1 h2; exact absurd h2 (by omega)
    | succ n_kk ih_kk =>
      intro kk hle_kk hfu_kk
      refine g_iload E dX4_digestOfPile_6 rfl ?_
      refine g_bipush E dX4_digestOfPile_8 (by decide) ?_
      refine g_icmp_ge (tgt := 36) E dX4_digestOfPile_10 (by decide) (by omega) (by omega) (fun c_10 => ?_) (fun c_10 => ?_)
      · obtain rfl : kk = 10 := by omega
        refine g_aload_n E dX4_digestOfPile_36 rfl ?_
        refine gx_Main_yard E mem_8 hin4 (by decide +kernel) dX4_digestOfPile_37 ?_
        refine gx_Yard_piles' E (mem_y _ (by omega)) hin3 (by decide +kernel) dX4_digestOfPile_40 ?_
        refine g_iload_n E dX4_digestOfPile_43 rfl ?_
        refine lx_10' E (mem_10 _ (by omega)) (by omega) dX4_digestOfPile_44 ?_
        refine g_top (v' := .ref (ad 0 1 p8)) rfl ?_
        refine g_astore E dX4_digestOfPile_45 (by decide) ?_
        refine g_iconst E dX4_digestOfPile_47 ?_
        refine g_istore E dX4_digestOfPile_48 (by decide) ?_
        have key_jj : ∀ (n_jj jj : Nat), (jj : Int) ≤ bl a p8 → bl a p8 + 1 ≤ (jj : Int) + n_jj → GW p l e (headSpec wsX4_digestOfPile ({ frames := 4, cells := 0, slots := 0, locals := 87 })).room s m ([.ref (ad 0 8 0), .long d9, .int (zI (p8 : Int))] : List Value).toArray below meth c (MQ below (va_Ql (fun (r : Int64) ws' => r = dgP a p8 d9 ∧ ws' = wX cA ad (upY σ 0 a)) (gB D A) A) ([.ref (ad 0 8 0), .long d9, .int (zI (p8 : Int))] : List Value).toArray s 0 0 A) D A 8 (wX cA ad (upY σ 0 a)) 0 0 50 [(0, .ref (ad 0 8 0)), (1, .long d9), (3, .int (zI (p8 : Int))), (4, .long (dgN (fun k => a 2 p8 k) (dgN (fun w => abV a p8 w) d9 10) jj)), (6, .ref (ad 0 1 p8)), (7, .int (zI (jj : Int)))] [] := by
          intro n_jj
          induction n_jj with
          | zero => intro jj h1 h2; exact absurd h2 (by omega)
          | succ n_jj ih_jj =>
            intro jj hle_jj hfu_jj
            refine g_iload E dX4_digestOfPile_50 rfl ?_
            refine g_aload E dX4_digestOfPile_52 rfl ?_
            refine gx_Pile_balls' E (mem_1 _ (by omega) _ (by omega)) hin1 (by decide +kernel) dX4_digestOfPile_54 ?_
            refine g_icmp_ge (tgt := 83) E dX4_digestOfPile_57 (by decide) (by omega) (by omega) (fun c_57 => ?_) (fun c_57 => ?_)
            · refine g_lload E dX4_digestOfPile_83 rfl ?_
              exact g_lret E (⟨by rw [dgP, show (bl a p8).toNat = jj by omega], rfl⟩) dX4_digestOfPile_85
            · refine g_lload E dX4_digestOfPile_60 rfl ?_
              refine g_ldc2 (v := 31) E dX4_digestOfPile_62 (by decide +kernel) ?_
              refine g_lmul E dX4_digestOfPile_65 ?_
              refine g_aload E dX4_digestOfPile_66 rfl ?_
              refine g_iload E dX4_digestOfPile_68 rfl ?_
              refine g_callVi (T := TX1) (ci := 1) (n := 1) (As := [_]) (rest := _) E (c_X1_rustOf l D cA A ad σ 0 p8 a (by omega) (by omega) hPo _ (by omega)) gX4_digestOfPile_X1_rustOf rfl ⟨rfl, rfl⟩ (by decide +kernel) ⟨Nat.le_of_ble_eq_true rfl, Nat.le_of_ble_eq_true rfl⟩ (ob_1 (mem_1 _ (by omega) _ (by omega))) rfl rfl rfl (Nat.le_of_ble_eq_true rfl) ⟨Nat.le_of_ble_eq_true rfl, Nat.le_of_ble_eq_true rfl⟩ dX4_digestOfPile_70 ?_
              rintro r_70 ws_70 ⟨rfl, rfl⟩
              refine g_i2l E dX4_digestOfPile_73 ?_
              refine g_ladd E dX4_digestOfPile_74 ?_
              refine g_lstore E dX4_digestOfPile_75 (by decide) ?_
              refine g_iinc E dX4_digestOfPile_77 rfl (by decide) ?_
              refine g_goto (tgt := 50) E dX4_digestOfPile_80 (by decide) ?_
              refine g_loc (lv' := [(0, .ref (ad 0 8 0)), (1, .long d9), (3, .int (zI (p8 : Int))), (4, .long (dgN (fun k => a 2 p8 k) (dgN (fun w => abV a p8 w) d9 10) (jj + 1))), (6, .ref (ad 0 1 p8)), (7, .int (zI ((jj + 1) : Int)))]) ⟨rfl, rfl, rfl, rfl, rfl, rfl, trivial⟩ ?_
              exact ih_jj (jj + 1) (by omega) (by omega)
        refine g_loc (lv' := [(0, .ref (ad 0 8 0)), (1, .long d9), (3, .int (zI (p8 : Int))), (4, .long (dgN (fun k => a 2 p8 k) (dgN (fun w => abV a p8 w) d9 10) 0)), (6, .ref (ad 0 1 p8)), (7, .int (zI (0 : Int)))]) ⟨rfl, rfl, rfl, rfl, rfl, rfl, trivial⟩ ?_
        exact key_jj ((bl a p8) + 1).toNat.succ 0 (by omega) (by omega)
      · refine g_lload E dX4_digestOfPile_13 rfl ?_
        refine g_ldc2 (v := 31) E dX4_digestOfPile_15 (by decide +kernel) ?_
        refine g_lmul E dX4_digestOfPile_18 ?_
        refine g_aload_n E dX4_digestOfPile_19 rfl ?_
        refine g_iload_n E dX4_digestOfPile_20 rfl ?_
        refine g_iload E dX4_digestOfPile_21 rfl ?_
        refine g_callVi (T := TX4) (ci := 4) (n := 2) (As := [_, _]) (rest := _) E (n_X4_about l D cA A ad _ _ hI _ _ (by omega) (by omega) (by omega)) gX4_digestOfPile_X4_about rfl ⟨rfl, rfl⟩ (by decide +kernel) ⟨Nat.le_of_ble_eq_true rfl, Nat.le_of_ble_eq_true rfl⟩ (ob_8 mem_8) rfl rfl rfl (Nat.le_of_ble_eq_true rfl) ⟨Nat.le_of_ble_eq_true rfl, Nat.le_of_ble_eq_true rfl⟩ dX4_digestOfPile_23 ?_
        rintro r_23 ws_23 ⟨rfl, rfl⟩
        refine g_i2l E dX4_digestOfPile_26 ?_
        refine g_ladd E dX4_digestOfPile_27 ?_
        refine g_lstore E dX4_digestOfPile_28 (by decide) ?_
        refine g_iinc E dX4_digestOfPile_30 rfl (by decide) ?_
        refine g_goto (tgt := 6) E dX4_digestOfPile_33 (by decide) ?_
        refine g_loc (lv' := [(0, .ref (ad 0 8 0)), (1, .long d9), (3, .int (zI (p8 : Int))), (4, .long (dgN (fun w => abV a p8 w) d9 (kk + 1))), (6, .int (zI ((kk + 1) : Int)))]) ⟨rfl, rfl, rfl, rfl, rfl, trivial⟩ ?_
        exact ih_kk (kk + 1) (by omega) (by omega)
  refine g_loc (lv' := [(0, .ref (ad 0 8 0)), (1, .long d9), (3, .int (zI (p8 : Int))), (4, .long (dgN (fun w => abV a p8 w) d9 0)), (6, .int (zI (0 : Int)))]) ⟨rfl, rfl, rfl, rfl, rfl, trivial⟩ ?_
  exact key_kk (((10 : Int)) + 1).toNat.succ 0 (by omega) (by omega)
set_option maxHeartbeats 800000 in
set_option maxRecDepth 100000 in
/-- digest() -/
theorem c_X4_digest (l : Launch) (D : va_G) (cA : Nat → ClassId) (A : Nat → Prop) (ad : Ad) (σ : Nat → St) (a : St) (hI : Inv a) : Met l yX4_digest wsX4_digest ({ frames := 5, cells := 0, slots := 0, locals := 114 }) (PcG D (tysX cA) A (wX cA ad (upY σ 0 a)) [.ref (ad 0 8 0)]) (va_Ql (fun (r : Int64) ws' => r = digV a ∧ ws' = wX cA ad (upY σ 0 a)) (gB D A) A) 0 0 A := by
  refine g_met (cc := cX4_digest) (maxL := 5) (ret := (some .long)) (own := RX4) rfl (by decide) rfl (Nat.le_of_ble_eq_true rfl) ?_
  intro p e s m below meth c E
  have hin3 : ∀ w ∈ u_ws RX3 TX3 8, w ∈ wsX4_digest := by decide +kernel
  have hin4 : ∀ w ∈ u_ws RX4 TX4 6, w ∈ wsX4_digest := by decide +kernel
  obtain ⟨⟨hn0, hn6, hc0, hc3⟩, hPI, hCI, hFr⟩ := id hI
  refine g_loc (lv' := [(0, .ref (ad 0 8 0))]) ⟨rfl, trivial⟩ ?_
  refine g_ldc2 (v := 1811) E dX4_digest_0 (by decide +kernel) ?_
  refine g_lstore_n E dX4_digest_3 (by decide) ?_
  refine g_iconst E dX4_digest_4 ?_
  refine g_istore_n E dX4_digest_5 (by decide) ?_
  have key_kk : ∀ (n_kk kk : Nat), (kk : Int) ≤ (11 : Int) → (11 : Int) + 1 ≤ (kk : Int) + n_kk → GW p l e (headSpec wsX4_digest ({ frames := 5, cells := 0, slots := 0, locals := 114 })).room s m ([.ref (ad 0 8 0)] : List Value).toArray below meth c (MQ below (va_Ql (fun (r : Int64) ws' => r = digV a ∧ ws' = wX cA ad (upY σ 0 a)) (gB D A) A) ([.ref (ad 0 8 0)] : List Value).toArray s 0 0 A) D A 5 (wX cA ad (upY σ 0 a)) 0 0 6 [(0, .ref (ad 0 8 0)), (1, .long (dgN (fun w => coV a w) 1811 kk)), (3, .int (zI (kk : Int)))] [] := by
    intro n_kk
    induction n_kk with
    | zero => intro kk h1 h2; exact absurd h2 (by omega)
    | succ n_kk ih_kk =>
      intro kk hle_kk hfu_kk
      refine g_iload_n E dX4_digest_6 rfl ?_
      refine g_bipush E dX4_digest_7 (by decide) ?_
      refine g_icmp_ge (tgt := 31) E dX4_digest_9 (by decide) (by omega) (by omega) (fun c_9 => ?_) (fun c_9 => ?_)
      · obtain rfl : kk = 11 := by omega
        refine g_iconst E dX4_digest_31 ?_
        refine g_istore_n E dX4_digest_32 (by decide) ?_
        have key_cc2 : ∀ (n_cc2 cc2 : Nat), (cc2 : Int) ≤ (5 : Int) → (5 : Int) + 1 ≤ (cc2 : Int) + n_cc2 → GW p l e (headSpec wsX4_digest ({ frames := 5, cells := 0, slots := 0, locals := 114 })).room s m ([.ref (ad 0 8 0)] : List Value).toArray below meth c (MQ below (va_Ql (fun (r : Int64) ws' => r = digV a ∧ ws' = wX cA ad (upY σ 0 a)) (gB D A) A) ([.ref (ad 0 8 0)] : List Value).toArray s 0 0 A) D A 5 (wX cA ad (upY σ 0 a)) 0 0 33 [(0, .ref (ad 0 8 0)), (1, .long (dgF (fun c d => dgN (fun w => toV a c w) d 5) (dgN (fun w => coV a w) 1811 11) cc2)), (3, .int (zI (cc2 : Int)))] [] := by
          intro n_cc2
          induction n_cc2 with
          | zero => intro cc2 h1 h2; exact absurd h2 (by omega)
          | succ n_cc2 ih_cc2 =>
            intro cc2 hle_cc2 hfu_cc2
            refine g_iload_n E dX4_digest_33 rfl ?_
            refine g_iconst E dX4_digest_34 ?_
            refine g_icmp_ge (tgt := 74) E dX4_digest_35 (by decide) (by omega) (by omega) (fun c_35 => ?_) (fun c_35 => ?_)
            · obtain rfl : cc2 = 5 := by omega
              refine g_iconst E dX4_digest_74 ?_
              refine g_istore_n E dX4_digest_75 (by decide) ?_
              have key_pp3 : ∀ (n_pp3 pp3 : Nat), (pp3 : Int) ≤ np a → np a + 1 ≤ (pp3 : Int) + n_pp3 → GW p l e (headSpec wsX4_digest ({ frames := 5, cells := 0, slots := 0, locals := 114 })).room s m ([.ref (ad 0 8 0)] : List Value).toArray below meth c (MQ below (va_Ql (fun (r : Int64) ws' => r = digV a ∧ ws' = wX cA ad (upY σ 0 a)) (gB D A) A) ([.ref (ad 0 8 0)] : List Value).toArray s 0 0 A) D A 5 (wX cA ad (upY σ 0 a)) 0 0 76 [(0, .ref (ad 0 8 0)), (1, .long (dgF (fun p d => dgP a p d) (dgF (fun c d => dgN (fun w => toV a c w) d 5) (dgN (fun w => coV a w) 1811 11) 5) pp3)), (3, .int (zI (pp3 : Int)))] [] := by
                intro n_pp3
                induction n_pp3 with
                | zero => intro pp3 h1 h2; exact absurd h2 (by omega)
                | succ n_pp3 ih_pp3 =>
                  intro pp3 hle_pp3 hfu_pp3
                  refine g_iload_n E dX4_digest_76 rfl ?_
                  refine g_aload_n E dX4_digest_77 rfl ?_
                  refine gx_Main_yard E mem_8 hin4 (by decide +kernel) dX4_digest_78 ?_
                  refine gx_Yard_pileCount' E (mem_y _ (by omega)) hin3 (by decide +kernel) dX4_digest_81 ?_
                  refine g_icmp_ge (tgt := 100) E dX4_digest_84 (by decide) (by omega) (by omega) (fun c_84 => ?_) (fun c_84 => ?_)
                  · obtain rfl : pp3 = (np a).toNat := by omega
                    refine g_iconst E dX4_digest_100 ?_
                    refine g_istore_n E dX4_digest_101 (by decide) ?_
                    have key_cc4 : ∀ (n_cc4 cc4 : Nat), (cc4 : Int) ≤ nc a → nc a + 1 ≤ (cc4 : Int) + n_cc4 → GW p l e (headSpec wsX4_digest ({ frames := 5, cells := 0, slots := 0, locals := 114 })).room s m ([.ref (ad 0 8 0)] : List Value).toArray below meth c (MQ below (va_Ql (fun (r : Int64) ws' => r = digV a ∧ ws' = wX cA ad (upY σ 0 a)) (gB D A) A) ([.ref (ad 0 8 0)] : List Value).toArray s 0 0 A) D A 5 (wX cA ad (upY σ 0 a)) 0 0 102 [(0, .ref (ad 0 8 0)), (1, .long (dgF (fun c d => dgN (fun w => moV a c w) d 3) (dgF (fun p d => dgP a p d) (dgF (fun c d => dgN (fun w => toV a c w) d 5) (dgN (fun w => coV a w) 1811 11) 5) (np a).toNat) cc4)), (3, .int (zI (cc4 : Int)))] [] := by
                      intro n_cc4
                      induction n_cc4 with
                      | zero => intro cc4 h1 h2; exact absurd h2 (by omega)
                      | succ n_cc4 ih_cc4 =>
                        intro cc4 hle_cc4 hfu_cc4
                        refine g_iload_n E dX4_digest_102 rfl ?_
                        refine g_aload_n E dX4_digest_103 rfl ?_
                        refine gx_Main_yard E mem_8 hin4 (by decide +kernel) dX4_digest_104 ?_
                        refine gx_Yard_catCount' E (mem_y _ (by omega)) hin3 (by decide +kernel) dX4_digest_107 ?_
                        refine g_icmp_ge (tgt := 149) E dX4_digest_110 (by decide) (by omega) (by omega) (fun c_110 => ?_) (fun c_110 => ?_)
                        · refine g_lload_n E dX4_digest_149 rfl ?_
                          exact g_lret E (⟨by rw [digV, show (nc a).toNat = cc4 by omega], rfl⟩) dX4_digest_150
                        · refine g_iconst E dX4_digest_113 ?_
                          refine g_istore E dX4_digest_114 (by decide) ?_
                          have key_jj4 : ∀ (n_jj4 jj4 : Nat), (jj4 : Int) ≤ (3 : Int) → (3 : Int) + 1 ≤ (jj4 : Int) + n_jj4 → GW p l e (headSpec wsX4_digest ({ frames := 5, cells := 0, slots := 0, locals := 114 })).room s m ([.ref (ad 0 8 0)] : List Value).toArray below meth c (MQ below (va_Ql (fun (r : Int64) ws' => r = digV a ∧ ws' = wX cA ad (upY σ 0 a)) (gB D A) A) ([.ref (ad 0 8 0)] : List Value).toArray s 0 0 A) D A 5 (wX cA ad (upY σ 0 a)) 0 0 116 [(0, .ref (ad 0 8 0)), (1, .long (dgN (fun w => moV a cc4 w) (dgF (fun c d => dgN (fun w => moV a c w) d 3) (dgF (fun p d => dgP a p d) (dgF (fun c d => dgN (fun w => toV a c w) d 5) (dgN (fun w => coV a w) 1811 11) 5) (np a).toNat) cc4) jj4)), (3, .int (zI (cc4 : Int))), (4, .int (zI (jj4 : Int)))] [] := by
                            intro n_jj4
                            induction n_jj4 with
                            | zero => intro jj4 h1 h2; exact absurd h2 (by omega)
                            | succ n_jj4 ih_jj4 =>
                              intro jj4 hle_jj4 hfu_jj4
                              refine g_iload E dX4_digest_116 rfl ?_
                              refine g_iconst E dX4_digest_118 ?_
                              refine g_icmp_ge (tgt := 143) E dX4_digest_119 (by decide) (by omega) (by omega) (fun c_119 => ?_) (fun c_119 => ?_)
                              · obtain rfl : jj4 = 3 := by omega
                                refine g_iinc E dX4_digest_143 rfl (by decide) ?_
                                refine g_goto (tgt := 102) E dX4_digest_146 (by decide) ?_
                                refine g_loc (lv' := [(0, .ref (ad 0 8 0)), (1, .long (dgF (fun c d => dgN (fun w => moV a c w) d 3) (dgF (fun p d => dgP a p d) (dgF (fun c d => dgN (fun w => toV a c w) d 5) (dgN (fun w => coV a w) 1811 11) 5) (np a).toNat) (cc4 + 1))), (3, .int (zI ((cc4 + 1) : Int)))]) ⟨rfl, rfl, rfl, trivial⟩ ?_
                                exact ih_cc4 (cc4 + 1) (by omega) (by omega)
                              · refine g_lload_n E dX4_digest_122 rfl ?_
                                refine g_ldc2 (v := 31) E dX4_digest_123 (by decide +kernel) ?_
                                refine g_lmul E dX4_digest_126 ?_
                                refine g_aload_n E dX4_digest_127 rfl ?_
                                refine g_iload_n E dX4_digest_128 rfl ?_
                                refine g_iload E dX4_digest_129 rfl ?_
                                refine g_callVi (T := TX4) (ci := 4) (n := 2) (As := [_, _]) (rest := _) E (n_X4_mouser l D cA A ad _ _ hI _ _ (by omega) (by omega) (by omega)) gX4_digest_X4_mouser rfl ⟨rfl, rfl⟩ (by decide +kernel) ⟨Nat.le_of_ble_eq_true rfl, Nat.le_of_ble_eq_true rfl⟩ (ob_8 mem_8) rfl rfl rfl (Nat.le_of_ble_eq_true rfl) ⟨Nat.le_of_ble_eq_true rfl, Nat.le_of_ble_eq_true rfl⟩ dX4_digest_131 ?_
                                rintro r_131 ws_131 ⟨rfl, rfl⟩
                                refine g_i2l E dX4_digest_134 ?_
                                refine g_ladd E dX4_digest_135 ?_
                                refine g_lstore_n E dX4_digest_136 (by decide) ?_
                                refine g_iinc E dX4_digest_137 rfl (by decide) ?_
                                refine g_goto (tgt := 116) E dX4_digest_140 (by decide) ?_
                                refine g_loc (lv' := [(0, .ref (ad 0 8 0)), (1, .long (dgN (fun w => moV a cc4 w) (dgF (fun c d => dgN (fun w => moV a c w) d 3) (dgF (fun p d => dgP a p d) (dgF (fun c d => dgN (fun w => toV a c w) d 5) (dgN (fun w => coV a w) 1811 11) 5) (np a).toNat) cc4) (jj4 + 1))), (3, .int (zI (cc4 : Int))), (4, .int (zI ((jj4 + 1) : Int)))]) ⟨rfl, rfl, rfl, rfl, trivial⟩ ?_
                                exact ih_jj4 (jj4 + 1) (by omega) (by omega)
                          refine g_loc (lv' := [(0, .ref (ad 0 8 0)), (1, .long (dgN (fun w => moV a cc4 w) (dgF (fun c d => dgN (fun w => moV a c w) d 3) (dgF (fun p d => dgP a p d) (dgF (fun c d => dgN (fun w => toV a c w) d 5) (dgN (fun w => coV a w) 1811 11) 5) (np a).toNat) cc4) 0)), (3, .int (zI (cc4 : Int))), (4, .int (zI (0 : Int)))]) ⟨rfl, rfl, rfl, rfl, trivial⟩ ?_
                          exact key_jj4 (((3 : Int)) + 1).toNat.succ 0 (by omega) (by omega)
                    refine g_loc (lv' := [(0, .ref (ad 0 8 0)), (1, .long (dgF (fun c d => dgN (fun w => moV a c w) d 3) (dgF (fun p d => dgP a p d) (dgF (fun c d => dgN (fun w => toV a c w) d 5) (dgN (fun w => coV a w) 1811 11) 5) (np a).toNat) 0)), (3, .int (zI (0 : Int)))]) ⟨rfl, rfl, rfl, trivial⟩ ?_
                    exact key_cc4 ((nc a) + 1).toNat.succ 0 (by omega) (by omega)
                  · refine g_aload_n E dX4_digest_87 rfl ?_
                    refine g_lload_n E dX4_digest_88 rfl ?_
                    refine g_iload_n E dX4_digest_89 rfl ?_
                    refine g_callVl (T := TX4) (ci := 4) (n := 2) (As := [_, _]) (rest := _) E (c_X4_digestOfPile l D cA A ad _ _ hI _ _ (by omega)) gX4_digest_X4_digestOfPile rfl ⟨rfl, rfl⟩ (by decide +kernel) ⟨Nat.le_of_ble_eq_true rfl, Nat.le_of_ble_eq_true rfl⟩ (ob_8 mem_8) rfl rfl rfl (Nat.le_of_ble_eq_true rfl) ⟨Nat.le_of_ble_eq_true rfl, Nat.le_of_ble_eq_true rfl⟩ dX4_digest_90 ?_
                    rintro r_90 ws_90 ⟨rfl, rfl⟩
                    refine g_lstore_n E dX4_digest_93 (by decide) ?_
                    refine g_iinc E dX4_digest_94 rfl (by decide) ?_
                    refine g_goto (tgt := 76) E dX4_digest_97 (by decide) ?_
                    refine g_loc (lv' := [(0, .ref (ad 0 8 0)), (1, .long (dgF (fun p d => dgP a p d) (dgF (fun c d => dgN (fun w => toV a c w) d 5) (dgN (fun w => coV a w) 1811 11) 5) (pp3 + 1))), (3, .int (zI ((pp3 + 1) : Int)))]) ⟨rfl, rfl, rfl, trivial⟩ ?_
                    exact ih_pp3 (pp3 + 1) (by omega) (by omega)
              refine g_loc (lv' := [(0, .ref (ad 0 8 0)), (1, .long (dgF (fun p d => dgP a p d) (dgF (fun c d => dgN (fun w => toV a c w) d 5) (dgN (fun w => coV a w) 1811 11) 5) 0)), (3, .int (zI (0 : Int)))]) ⟨rfl, rfl, rfl, trivial⟩ ?_
              exact key_pp3 ((np a) + 1).toNat.succ 0 (by omega) (by omega)
            · refine g_iconst E dX4_digest_38 ?_
              refine g_istore E dX4_digest_39 (by decide) ?_
              have key_jj2 : ∀ (n_jj2 jj2 : Nat), (jj2 : Int) ≤ (5 : Int) → (5 : Int) + 1 ≤ (jj2 : Int) + n_jj2 → GW p l e (headSpec wsX4_digest ({ frames := 5, cells := 0, slots := 0, locals := 114 })).room s m ([.ref (ad 0 8 0)] : List Value).toArray below meth c (MQ below (va_Ql (fun (r : Int64) ws' => r = digV a ∧ ws' = wX cA ad (upY σ 0 a)) (gB D A) A) ([.ref (ad 0 8 0)] : List Value).toArray s 0 0 A) D A 5 (wX cA ad (upY σ 0 a)) 0 0 41 [(0, .ref (ad 0 8 0)), (1, .long (dgN (fun w => toV a cc2 w) (dgF (fun c d => dgN (fun w => toV a c w) d 5) (dgN (fun w => coV a w) 1811 11) cc2) jj2)), (3, .int (zI (cc2 : Int))), (4, .int (zI (jj2 : Int)))] [] := by
                intro n_jj2
                induction n_jj2 with
                | zero => intro jj2 h1 h2; exact absurd h2 (by omega)
                | succ n_jj2 ih_jj2 =>
                  intro jj2 hle_jj2 hfu_jj2
                  refine g_iload E dX4_digest_41 rfl ?_
                  refine g_iconst E dX4_digest_43 ?_
                  refine g_icmp_ge (tgt := 68) E dX4_digest_44 (by decide) (by omega) (by omega) (fun c_44 => ?_) (fun c_44 => ?_)
                  · obtain rfl : jj2 = 5 := by omega
                    refine g_iinc E dX4_digest_68 rfl (by decide) ?_
                    refine g_goto (tgt := 33) E dX4_digest_71 (by decide) ?_
                    refine g_loc (lv' := [(0, .ref (ad 0 8 0)), (1, .long (dgF (fun c d => dgN (fun w => toV a c w) d 5) (dgN (fun w => coV a w) 1811 11) (cc2 + 1))), (3, .int (zI ((cc2 + 1) : Int)))]) ⟨rfl, rfl, rfl, trivial⟩ ?_
                    exact ih_cc2 (cc2 + 1) (by omega) (by omega)
                  · refine g_lload_n E dX4_digest_47 rfl ?_
                    refine g_ldc2 (v := 31) E dX4_digest_48 (by decide +kernel) ?_
                    refine g_lmul E dX4_digest_51 ?_
                    refine g_aload_n E dX4_digest_52 rfl ?_
                    refine g_iload_n E dX4_digest_53 rfl ?_
                    refine g_iload E dX4_digest_54 rfl ?_
                    refine g_callVi (T := TX4) (ci := 4) (n := 2) (As := [_, _]) (rest := _) E (n_X4_told l D cA A ad _ _ hI _ _ (by omega) (by omega) (by omega)) gX4_digest_X4_told rfl ⟨rfl, rfl⟩ (by decide +kernel) ⟨Nat.le_of_ble_eq_true rfl, Nat.le_of_ble_eq_true rfl⟩ (ob_8 mem_8) rfl rfl rfl (Nat.le_of_ble_eq_true rfl) ⟨Nat.le_of_ble_eq_true rfl, Nat.le_of_ble_eq_true rfl⟩ dX4_digest_56 ?_
                    rintro r_56 ws_56 ⟨rfl, rfl⟩
                    refine g_i2l E dX4_digest_59 ?_
                    refine g_ladd E dX4_digest_60 ?_
                    refine g_lstore_n E dX4_digest_61 (by decide) ?_
                    refine g_iinc E dX4_digest_62 rfl (by decide) ?_
                    refine g_goto (tgt := 41) E dX4_digest_65 (by decide) ?_
                    refine g_loc (lv' := [(0, .ref (ad 0 8 0)), (1, .long (dgN (fun w => toV a cc2 w) (dgF (fun c d => dgN (fun w => toV a c w) d 5) (dgN (fun w => coV a w) 1811 11) cc2) (jj2 + 1))), (3, .int (zI (cc2 : Int))), (4, .int (zI ((jj2 + 1) : Int)))]) ⟨rfl, rfl, rfl, rfl, trivial⟩ ?_
                    exact ih_jj2 (jj2 + 1) (by omega) (by omega)
              refine g_loc (lv' := [(0, .ref (ad 0 8 0)), (1, .long (dgN (fun w => toV a cc2 w) (dgF (fun c d => dgN (fun w => toV a c w) d 5) (dgN (fun w => coV a w) 1811 11) cc2) 0)), (3, .int (zI (cc2 : Int))), (4, .int (zI (0 : Int)))]) ⟨rfl, rfl, rfl, rfl, trivial⟩ ?_
              exact key_jj2 (((5 : Int)) + 1).toNat.succ 0 (by omega) (by omega)
        refine g_loc (lv' := [(0, .ref (ad 0 8 0)), (1, .long (dgF (fun c d => dgN (fun w => toV a c w) d 5) (dgN (fun w => coV a w) 1811 11) 0)), (3, .int (zI (0 : Int)))]) ⟨rfl, rfl, rfl, trivial⟩ ?_
        exact key_cc2 (((5 : Int)) + 1).toNat.succ 0 (by omega) (by omega)
      · refine g_lload_n E dX4_digest_12 rfl ?_
        refine g_ldc2 (v := 31) E dX4_digest_13 (by decide +kernel) ?_
        refine g_lmul E dX4_digest_16 ?_
        refine g_aload_n E dX4_digest_17 rfl ?_
        refine g_iload_n E dX4_digest_18 rfl ?_
        refine g_callVi (T := TX4) (ci := 4) (n := 1) (As := [_]) (rest := _) E (n_X4_count l D cA A ad _ _ hI _ (by omega) (by omega)) gX4_digest_X4_count rfl ⟨rfl, rfl⟩ (by decide +kernel) ⟨Nat.le_of_ble_eq_true rfl, Nat.le_of_ble_eq_true rfl⟩ (ob_8 mem_8) rfl rfl rfl (Nat.le_of_ble_eq_true rfl) ⟨Nat.le_of_ble_eq_true rfl, Nat.le_of_ble_eq_true rfl⟩ dX4_digest_19 ?_
        rintro r_19 ws_19 ⟨rfl, rfl⟩
        refine g_i2l E dX4_digest_22 ?_
        refine g_ladd E dX4_digest_23 ?_
        refine g_lstore_n E dX4_digest_24 (by decide) ?_
        refine g_iinc E dX4_digest_25 rfl (by decide) ?_
        refine g_goto (tgt := 6) E dX4_digest_28 (by decide) ?_
        refine g_loc (lv' := [(0, .ref (ad 0 8 0)), (1, .long (dgN (fun w => coV a w) 1811 (kk + 1))), (3, .int (zI ((kk + 1) : Int)))]) ⟨rfl, rfl, rfl, trivial⟩ ?_
        exact ih_kk (kk + 1) (by omega) (by omega)
  refine g_loc (lv' := [(0, .ref (ad 0 8 0)), (1, .long (dgN (fun w => coV a w) 1811 0)), (3, .int (zI (0 : Int)))]) ⟨rfl, rfl, rfl, trivial⟩ ?_
  exact key_kk (((11 : Int)) + 1).toNat.succ 0 (by omega) (by omega)
