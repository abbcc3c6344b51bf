/-! ===== MAIN: shift, gather, chase; balls on a ball ===== -/
theorem ga_z {g : St} {k : Nat} {v : Int32} : up3 g 5 0 k v 4 0 k + -(g 4 0 k) = zI 0 := by
  rw [up3_n (by omega), ← Int32.sub_eq_add_neg, Int32.sub_self, zI_0]
theorem ga_sum (a : St) : ∀ n : Nat, (∀ j : Nat, n ≤ j → (gaL a n).1 4 0 j = a 4 0 j) ∧ (gaL a n).2 = sum5 (a 4 0) n
  | 0 => ⟨fun _ _ => rfl, rfl⟩
  | n + 1 => by
    obtain ⟨h1, h2⟩ := ga_sum a n
    refine ⟨fun j hj => ?_, ?_⟩
    · show up3 (up3 (gaL a n).1 5 0 n ((gaL a n).1 5 0 n + (gaL a n).1 4 0 n)) 4 0 n (zI 0) 4 0 j = _
      rw [up3_n (by omega), up3_n (by omega)]
      exact h1 j (by omega)
    · show (gaL a n).2 + (gaL a n).1 4 0 n = sum5 (a 4 0) n + a 4 0 n
      rw [h2, h1 n (Nat.le_refl n)]
set_option maxHeartbeats 800000 in
set_option maxRecDepth 100000 in
/-- Pile.ballsOn(b) -/
theorem c_X1_ballsOn (l : Launch) (D : va_G) (cA : Nat → ClassId) (A : Nat → Prop) (ad : Ad) (σ : Nat → St) (y p9 : Nat) (a : St) (hy : y < 2) (hp : p9 < 6) (hPO : PO a p9) (b : Int) (hb : 0 ≤ b ∧ b < bl a p9) : Met l yX1_ballsOn wsX1_ballsOn ({ frames := 3, cells := 0, slots := 0, locals := 66 }) (PcG D (tysX cA) A (wX cA ad (upY σ y a)) [.ref (ad y 1 p9), .int (zI b)]) (va_Qi (fun (r : Int32) ws' => r = zI (onN (sd a p9) (bl a p9) b) ∧ ws' = wX cA ad (upY σ y a)) (gB D A) A) 0 0 A := by
  refine g_met (cc := cX1_ballsOn) (maxL := 9) (ret := (some .int)) (own := RX1) rfl (by decide) rfl (Nat.le_of_ble_eq_true rfl) ?_
  intro p e s m below meth c E
  have hin1 : ∀ w ∈ u_ws RX1 TX1 4, w ∈ wsX1_ballsOn := by decide +kernel
  have hin2 : ∀ w ∈ u_ws RX2 TX2 4, w ∈ wsX1_ballsOn := by decide +kernel
  obtain ⟨hs1, hs6, hb0, hb1⟩ := id hPO
  have hsq := sq_le (e := sd a p9) ⟨hs1, hs6⟩
  obtain ⟨hn1, hn7, hpy⟩ := pyN_c (a := a) (p := p9) ⟨hs1, hs6⟩
  have hc := pyr_f (i := pyN (a 1 p9)) (b := b) ⟨hn1, hn7⟩ (by rw [hpy]; omega)
  rw [hpy] at hc
  refine g_loc (lv' := [(0, .ref (ad y 1 p9)), (1, .int (zI b))]) ⟨rfl, rfl, trivial⟩ ?_
  refine g_aload_n E dX1_ballsOn_0 rfl ?_
  refine gx_Pile_pyramid' E (mem_1 _ (by omega) _ (by omega)) hin1 (by decide +kernel) dX1_ballsOn_1 ?_
  refine g_iload_n E dX1_ballsOn_4 rfl ?_
  refine g_callVi (T := TX2) (ci := 2) (n := 1) (As := [_]) (rest := _) E (c_X2_layerOf l D cA A ad _ _ (by omega) _ hpy _ (by omega)) gX1_ballsOn_X2_layerOf rfl ⟨rfl, rfl⟩ (by decide +kernel) ⟨Nat.le_of_ble_eq_true rfl, Nat.le_of_ble_eq_true rfl⟩ (ob_9 (mem_9 _ (by omega) (by omega))) rfl rfl rfl (Nat.le_of_ble_eq_true rfl) ⟨Nat.le_of_ble_eq_true rfl, Nat.le_of_ble_eq_true rfl⟩ dX1_ballsOn_5 ?_
  rintro r_5 ws_5 ⟨rfl, rfl⟩
  refine g_iconst E dX1_ballsOn_8 ?_
  refine g_iadd E dX1_ballsOn_9 ?_
  refine g_istore_n E dX1_ballsOn_10 (by decide) ?_
  refine g_aload_n E dX1_ballsOn_11 rfl ?_
  refine gx_Pile_pyramid' E (mem_1 _ (by omega) _ (by omega)) hin1 (by decide +kernel) dX1_ballsOn_12 ?_
  refine g_iload_n E dX1_ballsOn_15 rfl ?_
  refine g_callVi (T := TX2) (ci := 2) (n := 1) (As := [_]) (rest := _) E (c_X2_rowOf l D cA A ad _ _ (by omega) _ hpy _ (by omega)) gX1_ballsOn_X2_rowOf rfl ⟨rfl, rfl⟩ (by decide +kernel) ⟨Nat.le_of_ble_eq_true rfl, Nat.le_of_ble_eq_true rfl⟩ (ob_9 (mem_9 _ (by omega) (by omega))) rfl rfl rfl (Nat.le_of_ble_eq_true rfl) ⟨Nat.le_of_ble_eq_true rfl, Nat.le_of_ble_eq_true rfl⟩ dX1_ballsOn_16 ?_
  rintro r_16 ws_16 ⟨rfl, rfl⟩
  refine g_istore_n E dX1_ballsOn_19 (by decide) ?_
  refine g_aload_n E dX1_ballsOn_20 rfl ?_
  refine gx_Pile_pyramid' E (mem_1 _ (by omega) _ (by omega)) hin1 (by decide +kernel) dX1_ballsOn_21 ?_
  refine g_iload_n E dX1_ballsOn_24 rfl ?_
  refine g_callVi (T := TX2) (ci := 2) (n := 1) (As := [_]) (rest := _) E (c_X2_placeOf l D cA A ad _ _ (by omega) _ hpy _ (by omega)) gX1_ballsOn_X2_placeOf rfl ⟨rfl, rfl⟩ (by decide +kernel) ⟨Nat.le_of_ble_eq_true rfl, Nat.le_of_ble_eq_true rfl⟩ (ob_9 (mem_9 _ (by omega) (by omega))) rfl rfl rfl (Nat.le_of_ble_eq_true rfl) ⟨Nat.le_of_ble_eq_true rfl, Nat.le_of_ble_eq_true rfl⟩ dX1_ballsOn_25 ?_
  rintro r_25 ws_25 ⟨rfl, rfl⟩
  refine g_istore E dX1_ballsOn_28 (by decide) ?_
  refine g_aload_n E dX1_ballsOn_30 rfl ?_
  refine gx_Pile_pyramid' E (mem_1 _ (by omega) _ (by omega)) hin1 (by decide +kernel) dX1_ballsOn_31 ?_
  refine gx_Pyr_edge E (mem_9 _ (by omega) (by omega)) hin2 (by decide +kernel) dX1_ballsOn_34 ?_
  rw [hpy]
  refine g_iload_n E dX1_ballsOn_37 rfl ?_
  refine g_isub E dX1_ballsOn_38 ?_
  refine g_iconst E dX1_ballsOn_39 ?_
  refine g_isub E dX1_ballsOn_40 ?_
  refine g_istore E dX1_ballsOn_41 (by decide) ?_
  refine g_iconst E dX1_ballsOn_43 ?_
  refine g_istore E dX1_ballsOn_44 (by decide) ?_
  refine g_iload_n E dX1_ballsOn_46 rfl ?_
  refine g_iconst E dX1_ballsOn_47 ?_
  refine g_isub E dX1_ballsOn_48 ?_
  refine g_iconst E dX1_ballsOn_49 ?_
  refine g_mmax E (by decide +kernel) (by decide +kernel) (by decide +kernel) (by decide +kernel) (Nat.le_of_ble_eq_true rfl) (Nat.le_of_ble_eq_true rfl) (Nat.le_of_ble_eq_true rfl) (Nat.le_of_ble_eq_true rfl) dX1_ballsOn_50 ?_
  refine g_top (congrArg Value.int (mxz (by omega) (by omega))) ?_
  refine g_istore E dX1_ballsOn_53 (by decide) ?_
  have key_jj : ∀ (n_jj jj : Nat), (jj : Int) ≤ (max (min (row (sd a p9) b) ((sd a p9) - (lf (sd a p9) b + 1) - 1) - max ((row (sd a p9) b) - 1) 0 + 1) 0) → (max (min (row (sd a p9) b) ((sd a p9) - (lf (sd a p9) b + 1) - 1) - max ((row (sd a p9) b) - 1) 0 + 1) 0) + 1 ≤ (jj : Int) + n_jj → (0 ≤ outF (sd a p9) (bl a p9) (lf (sd a p9) b + 1) (max ((row (sd a p9) b) - 1) 0) (max ((pla (sd a p9) b) - 1) 0) (min (pla (sd a p9) b) ((sd a p9) - (lf (sd a p9) b + 1) - 1)) jj ∧ outF (sd a p9) (bl a p9) (lf (sd a p9) b + 1) (max ((row (sd a p9) b) - 1) 0) (max ((pla (sd a p9) b) - 1) 0) (min (pla (sd a p9) b) ((sd a p9) - (lf (sd a p9) b + 1) - 1)) jj ≤ 100 * (jj : Int)) → GW p l e (headSpec wsX1_ballsOn ({ frames := 3, cells := 0, slots := 0, locals := 66 })).room s m ([.ref (ad y 1 p9), .int (zI b)] : List Value).toArray below meth c (MQ below (va_Qi (fun (r : Int32) ws' => r = zI (onN (sd a p9) (bl a p9) b) ∧ ws' = wX cA ad (upY σ y a)) (gB D A) A) ([.ref (ad y 1 p9), .int (zI b)] : List Value).toArray s 0 0 A) D A 9 (wX cA ad (upY σ y a)) 0 0 55 [(0, .ref (ad y 1 p9)), (1, .int (zI b)), (2, .int (zI (lf (sd a p9) b + 1))), (3, .int (zI (row (sd a p9) b))), (4, .int (zI (pla (sd a p9) b))), (5, .int (zI ((sd a p9) - (lf (sd a p9) b + 1) - 1))), (6, .int (zI (outF (sd a p9) (bl a p9) (lf (sd a p9) b + 1) (max ((row (sd a p9) b) - 1) 0) (max ((pla (sd a p9) b) - 1) 0) (min (pla (sd a p9) b) ((sd a p9) - (lf (sd a p9) b + 1) - 1)) jj))), (7, .int (zI (max ((row (sd a p9) b) - 1) 0 + (jj : Int))))] [] := by
    intro n_jj
    induction n_jj with
    | zero => intro jj h1 h2; exact absurd h2 (by omega)
    | succ n_jj ih_jj =>
      intro jj hle_jj hfu_jj hi0_jj
      refine g_iload E dX1_ballsOn_55 rfl ?_
      refine g_iload_n E dX1_ballsOn_57 rfl ?_
      refine g_iload E dX1_ballsOn_58 rfl ?_
      refine g_mmin E (by decide +kernel) (by decide +kernel) (by decide +kernel) (by decide +kernel) (Nat.le_of_ble_eq_true rfl) (Nat.le_of_ble_eq_true rfl) (Nat.le_of_ble_eq_true rfl) (Nat.le_of_ble_eq_true rfl) dX1_ballsOn_60 ?_
      refine g_top (congrArg Value.int (mnz (by omega) (by omega))) ?_
      refine g_icmp_gt (tgt := 122) E dX1_ballsOn_63 (by decide) (by omega) (by omega) (fun c_63 => ?_) (fun c_63 => ?_)
      · refine g_iload E dX1_ballsOn_122 rfl ?_
        exact g_iret E (⟨congrArg zI (by rw [onN_K, ← onX_K (by omega)]; unfold onX; rw [show (min (row (sd a p9) b) ((sd a p9) - (lf (sd a p9) b + 1) - 1) - max ((row (sd a p9) b) - 1) 0 + 1).toNat = jj by omega]), rfl⟩) dX1_ballsOn_124
      · refine g_iload E dX1_ballsOn_66 rfl ?_
        refine g_iconst E dX1_ballsOn_68 ?_
        refine g_isub E dX1_ballsOn_69 ?_
        refine g_iconst E dX1_ballsOn_70 ?_
        refine g_mmax E (by decide +kernel) (by decide +kernel) (by decide +kernel) (by decide +kernel) (Nat.le_of_ble_eq_true rfl) (Nat.le_of_ble_eq_true rfl) (Nat.le_of_ble_eq_true rfl) (Nat.le_of_ble_eq_true rfl) dX1_ballsOn_71 ?_
        refine g_top (congrArg Value.int (mxz (by omega) (by omega))) ?_
        refine g_istore E dX1_ballsOn_74 (by decide) ?_
        have key_ii : ∀ (n_ii ii : Nat), (ii : Int) ≤ (max (min (pla (sd a p9) b) ((sd a p9) - (lf (sd a p9) b + 1) - 1) - max ((pla (sd a p9) b) - 1) 0 + 1) 0) → (max (min (pla (sd a p9) b) ((sd a p9) - (lf (sd a p9) b + 1) - 1) - max ((pla (sd a p9) b) - 1) 0 + 1) 0) + 1 ≤ (ii : Int) + n_ii → GW p l e (headSpec wsX1_ballsOn ({ frames := 3, cells := 0, slots := 0, locals := 66 })).room s m ([.ref (ad y 1 p9), .int (zI b)] : List Value).toArray below meth c (MQ below (va_Qi (fun (r : Int32) ws' => r = zI (onN (sd a p9) (bl a p9) b) ∧ ws' = wX cA ad (upY σ y a)) (gB D A) A) ([.ref (ad y 1 p9), .int (zI b)] : List Value).toArray s 0 0 A) D A 9 (wX cA ad (upY σ y a)) 0 0 76 [(0, .ref (ad y 1 p9)), (1, .int (zI b)), (2, .int (zI (lf (sd a p9) b + 1))), (3, .int (zI (row (sd a p9) b))), (4, .int (zI (pla (sd a p9) b))), (5, .int (zI ((sd a p9) - (lf (sd a p9) b + 1) - 1))), (6, .int (zI (outF (sd a p9) (bl a p9) (lf (sd a p9) b + 1) (max ((row (sd a p9) b) - 1) 0) (max ((pla (sd a p9) b) - 1) 0) (min (pla (sd a p9) b) ((sd a p9) - (lf (sd a p9) b + 1) - 1)) jj + inF (sd a p9) (bl a p9) (lf (sd a p9) b + 1) (max ((row (sd a p9) b) - 1) 0 + (jj : Int)) (max ((pla (sd a p9) b) - 1) 0) ii))), (7, .int (zI (max ((row (sd a p9) b) - 1) 0 + (jj : Int)))), (8, .int (zI (max ((pla (sd a p9) b) - 1) 0 + (ii : Int))))] [] := by
          intro n_ii
          induction n_ii with
          | zero => intro ii h1 h2; exact absurd h2 (by omega)
          | succ n_ii ih_ii =>
            intro ii hle_ii hfu_ii
            have hz9 := stz_b (i := pyN (a 1 p9)) (k := lf (sd a p9) b + 1) ⟨hn1, hn7⟩ (by omega)
            rw [hpy] at hz9
            have hm9 := mul66 (a := max (row (sd a p9) b - 1) 0 + (jj : Int)) (b := sd a p9 - (lf (sd a p9) b + 1)) (by omega) (by omega)
            have hib := inF_b (sd a p9) (bl a p9) (lf (sd a p9) b + 1) (max ((row (sd a p9) b) - 1) 0 + (jj : Int)) (max ((pla (sd a p9) b) - 1) 0) ii
            refine g_iload E dX1_ballsOn_76 rfl ?_
            refine g_iload E dX1_ballsOn_78 rfl ?_
            refine g_iload E dX1_ballsOn_80 rfl ?_
            refine g_mmin E (by decide +kernel) (by decide +kernel) (by decide +kernel) (by decide +kernel) (Nat.le_of_ble_eq_true rfl) (Nat.le_of_ble_eq_true rfl) (Nat.le_of_ble_eq_true rfl) (Nat.le_of_ble_eq_true rfl) dX1_ballsOn_82 ?_
            refine g_top (congrArg Value.int (mnz (by omega) (by omega))) ?_
            refine g_icmp_gt (tgt := 116) E dX1_ballsOn_85 (by decide) (by omega) (by omega) (fun c_85 => ?_) (fun c_85 => ?_)
            · refine g_iinc E dX1_ballsOn_116 rfl (by decide) ?_
              refine g_goto (tgt := 55) E dX1_ballsOn_119 (by decide) ?_
              refine g_loc (lv' := [(0, .ref (ad y 1 p9)), (1, .int (zI b)), (2, .int (zI (lf (sd a p9) b + 1))), (3, .int (zI (row (sd a p9) b))), (4, .int (zI (pla (sd a p9) b))), (5, .int (zI ((sd a p9) - (lf (sd a p9) b + 1) - 1))), (6, .int (zI (outF (sd a p9) (bl a p9) (lf (sd a p9) b + 1) (max ((row (sd a p9) b) - 1) 0) (max ((pla (sd a p9) b) - 1) 0) (min (pla (sd a p9) b) ((sd a p9) - (lf (sd a p9) b + 1) - 1)) (jj + 1)))), (7, .int (zI (max ((row (sd a p9) b) - 1) 0 + ((jj + 1) : Int))))]) ⟨rfl, rfl, rfl, rfl, rfl, rfl, congrArg (fun z => some (Value.int (zI z))) (by show outF _ _ _ _ _ _ jj + _ = outF _ _ _ _ _ _ jj + _; rw [show (min (pla (sd a p9) b) ((sd a p9) - (lf (sd a p9) b + 1) - 1) - max ((pla (sd a p9) b) - 1) 0 + 1).toNat = ii by omega]), congrArg (fun z => some (Value.int (zI z))) (by omega), trivial⟩ ?_
              exact ih_jj (jj + 1) (by omega) (by omega) (by constructor <;> (show _ ≤ _; unfold outF; have := inF_b (sd a p9) (bl a p9) (lf (sd a p9) b + 1) (max ((row (sd a p9) b) - 1) 0 + (jj : Int)) (max ((pla (sd a p9) b) - 1) 0) (min (pla (sd a p9) b) ((sd a p9) - (lf (sd a p9) b + 1) - 1) - max ((pla (sd a p9) b) - 1) 0 + 1).toNat; omega))
            · refine g_aload_n E dX1_ballsOn_88 rfl ?_
              refine gx_Pile_pyramid' E (mem_1 _ (by omega) _ (by omega)) hin1 (by decide +kernel) dX1_ballsOn_89 ?_
              refine g_iload_n E dX1_ballsOn_92 rfl ?_
              refine g_iload E dX1_ballsOn_93 rfl ?_
              refine g_iload E dX1_ballsOn_95 rfl ?_
              refine g_callVi (T := TX2) (ci := 2) (n := 3) (As := [_, _, _]) (rest := _) E (c_X2_numberOf l D cA A ad _ _ (by omega) _ hpy _ _ _ (by omega)) gX1_ballsOn_X2_numberOf rfl ⟨rfl, rfl⟩ (by decide +kernel) ⟨Nat.le_of_ble_eq_true rfl, Nat.le_of_ble_eq_true rfl⟩ (ob_9 (mem_9 _ (by omega) (by omega))) rfl rfl rfl (Nat.le_of_ble_eq_true rfl) ⟨Nat.le_of_ble_eq_true rfl, Nat.le_of_ble_eq_true rfl⟩ dX1_ballsOn_97 ?_
              rintro r_97 ws_97 ⟨rfl, rfl⟩
              refine g_aload_n E dX1_ballsOn_100 rfl ?_
              refine gx_Pile_balls' E (mem_1 _ (by omega) _ (by omega)) hin1 (by decide +kernel) dX1_ballsOn_101 ?_
              refine g_icmp_ge (tgt := 110) E dX1_ballsOn_104 (by decide) (by omega) (by omega) (fun c_104 => ?_) (fun c_104 => ?_)
              · refine g_iinc E dX1_ballsOn_110 rfl (by decide) ?_
                refine g_goto (tgt := 76) E dX1_ballsOn_113 (by decide) ?_
                refine g_loc (lv' := [(0, .ref (ad y 1 p9)), (1, .int (zI b)), (2, .int (zI (lf (sd a p9) b + 1))), (3, .int (zI (row (sd a p9) b))), (4, .int (zI (pla (sd a p9) b))), (5, .int (zI ((sd a p9) - (lf (sd a p9) b + 1) - 1))), (6, .int (zI (outF (sd a p9) (bl a p9) (lf (sd a p9) b + 1) (max ((row (sd a p9) b) - 1) 0) (max ((pla (sd a p9) b) - 1) 0) (min (pla (sd a p9) b) ((sd a p9) - (lf (sd a p9) b + 1) - 1)) jj + inF (sd a p9) (bl a p9) (lf (sd a p9) b + 1) (max ((row (sd a p9) b) - 1) 0 + (jj : Int)) (max ((pla (sd a p9) b) - 1) 0) (ii + 1)))), (7, .int (zI (max ((row (sd a p9) b) - 1) 0 + (jj : Int)))), (8, .int (zI (max ((pla (sd a p9) b) - 1) 0 + ((ii + 1) : Int))))]) ⟨rfl, rfl, rfl, rfl, rfl, rfl, congrArg (fun z => some (Value.int (zI z))) (by show _ = _ + (inF _ _ _ _ _ ii + _); first | rw [if_pos (by omega)]; omega | rw [if_neg (by omega)]; omega), rfl, congrArg (fun z => some (Value.int (zI z))) (by omega), trivial⟩ ?_
                exact ih_ii (ii + 1) (by omega) (by omega)
              · refine g_iinc E dX1_ballsOn_107 rfl (by decide) ?_
                refine g_iinc E dX1_ballsOn_110 rfl (by decide) ?_
                refine g_goto (tgt := 76) E dX1_ballsOn_113 (by decide) ?_
                refine g_loc (lv' := [(0, .ref (ad y 1 p9)), (1, .int (zI b)), (2, .int (zI (lf (sd a p9) b + 1))), (3, .int (zI (row (sd a p9) b))), (4, .int (zI (pla (sd a p9) b))), (5, .int (zI ((sd a p9) - (lf (sd a p9) b + 1) - 1))), (6, .int (zI (outF (sd a p9) (bl a p9) (lf (sd a p9) b + 1) (max ((row (sd a p9) b) - 1) 0) (max ((pla (sd a p9) b) - 1) 0) (min (pla (sd a p9) b) ((sd a p9) - (lf (sd a p9) b + 1) - 1)) jj + inF (sd a p9) (bl a p9) (lf (sd a p9) b + 1) (max ((row (sd a p9) b) - 1) 0 + (jj : Int)) (max ((pla (sd a p9) b) - 1) 0) (ii + 1)))), (7, .int (zI (max ((row (sd a p9) b) - 1) 0 + (jj : Int)))), (8, .int (zI (max ((pla (sd a p9) b) - 1) 0 + ((ii + 1) : Int))))]) ⟨rfl, rfl, rfl, rfl, rfl, rfl, congrArg (fun z => some (Value.int (zI z))) (by show _ = _ + (inF _ _ _ _ _ ii + _); first | rw [if_pos (by omega)]; omega | rw [if_neg (by omega)]; omega), rfl, congrArg (fun z => some (Value.int (zI z))) (by omega), trivial⟩ ?_
                exact ih_ii (ii + 1) (by omega) (by omega)
        refine g_loc (lv' := [(0, .ref (ad y 1 p9)), (1, .int (zI b)), (2, .int (zI (lf (sd a p9) b + 1))), (3, .int (zI (row (sd a p9) b))), (4, .int (zI (pla (sd a p9) b))), (5, .int (zI ((sd a p9) - (lf (sd a p9) b + 1) - 1))), (6, .int (zI (outF (sd a p9) (bl a p9) (lf (sd a p9) b + 1) (max ((row (sd a p9) b) - 1) 0) (max ((pla (sd a p9) b) - 1) 0) (min (pla (sd a p9) b) ((sd a p9) - (lf (sd a p9) b + 1) - 1)) jj + inF (sd a p9) (bl a p9) (lf (sd a p9) b + 1) (max ((row (sd a p9) b) - 1) 0 + (jj : Int)) (max ((pla (sd a p9) b) - 1) 0) 0))), (7, .int (zI (max ((row (sd a p9) b) - 1) 0 + (jj : Int)))), (8, .int (zI (max ((pla (sd a p9) b) - 1) 0 + (0 : Int))))]) ⟨rfl, rfl, rfl, rfl, rfl, rfl, congrArg (fun z => some (Value.int (zI z))) (by show _ = _ + 0; omega), rfl, congrArg (fun z => some (Value.int (zI z))) (by omega), trivial⟩ ?_
        exact key_ii (((max (min (pla (sd a p9) b) ((sd a p9) - (lf (sd a p9) b + 1) - 1) - max ((pla (sd a p9) b) - 1) 0 + 1) 0)) + 1).toNat.succ 0 (by omega) (by omega)
  refine g_loc (lv' := [(0, .ref (ad y 1 p9)), (1, .int (zI b)), (2, .int (zI (lf (sd a p9) b + 1))), (3, .int (zI (row (sd a p9) b))), (4, .int (zI (pla (sd a p9) b))), (5, .int (zI ((sd a p9) - (lf (sd a p9) b + 1) - 1))), (6, .int (zI (outF (sd a p9) (bl a p9) (lf (sd a p9) b + 1) (max ((row (sd a p9) b) - 1) 0) (max ((pla (sd a p9) b) - 1) 0) (min (pla (sd a p9) b) ((sd a p9) - (lf (sd a p9) b + 1) - 1)) 0))), (7, .int (zI (max ((row (sd a p9) b) - 1) 0 + (0 : Int))))]) ⟨rfl, rfl, rfl, rfl, rfl, rfl, rfl, congrArg (fun z => some (Value.int (zI z))) (by omega), trivial⟩ ?_
  exact key_jj (((max (min (row (sd a p9) b) ((sd a p9) - (lf (sd a p9) b + 1) - 1) - max ((row (sd a p9) b) - 1) 0 + 1) 0)) + 1).toNat.succ 0 (by omega) (by omega) (⟨Int.le_refl _, Int.le_refl _⟩)
set_option maxHeartbeats 800000 in
set_option maxRecDepth 100000 in
/-- shift(f, t) -/
theorem c_X4_shift (l : Launch) (hl0 : l.stackTraces = false) (D : va_G) (cA : Nat → ClassId) (A : Nat → Prop) (ad : Ad) (σ : Nat → St) (a : St) (hI : Inv a) (p9 m9 : Int) (hp : R31 p9) (hm : R31 m9) : vx_Met l yX4_shift wsX4_shift ({ frames := 7, cells := 3, slots := 18, locals := 107 }) (PcZ D (tysX cA) A (wX cA ad (upY σ 0 a)) [.ref (ad 0 8 0), .int (zI p9), .int (zI m9)]) (va_Qi (fun (r : Int32) ws' => eShift a p9 m9 = 0 ∧ r = zI (shM a p9.toNat m9.toNat) ∧ ws' = wX cA ad (upY σ 0 (shN a p9.toNat m9.toNat (shM a p9.toNat m9.toNat).toNat))) (gB D A) A) (XQ D A (fun E9 => exn [xI, xA] E9 (eShift a p9 m9)) (wX cA ad (upY σ 0 a))) 3 18 A := by
  refine g_metx (cc := cX4_shift) (maxL := 7) (ret := (some .int)) (own := RX4) hl0 rfl (by decide) rfl (Nat.le_of_ble_eq_true rfl) ?_
  intro p e s m below meth c E Z
  have hin1 : ∀ w ∈ u_ws RX1 TX1 4, w ∈ wsX4_shift := by decide +kernel
  have hin3 : ∀ w ∈ u_ws RX3 TX3 8, w ∈ wsX4_shift := by decide +kernel
  have hin4 : ∀ w ∈ u_ws RX4 TX4 6, w ∈ wsX4_shift := by decide +kernel
  obtain ⟨⟨hn0, hn6, hc0, hc3⟩, hPI, hCI, hFr⟩ := id hI
  obtain ⟨hp1, hp2⟩ := hp
  obtain ⟨hm1, hm2⟩ := hm
  refine g_loc (lv' := [(0, .ref (ad 0 8 0)), (1, .int (zI p9)), (2, .int (zI m9))]) ⟨rfl, rfl, rfl, trivial⟩ ?_
  refine g_aload_n E dX4_shift_0 rfl ?_
  refine g_iload_n E dX4_shift_1 rfl ?_
  refine g_xVv (T := TX4) (ci := 4) (n := 1) (As := [_]) (rest := _) E Z (c_X4_checkPile l hl0 D cA A ad _ _ hI _ (by omega)) gX4_shift_X4_checkPile rfl ⟨rfl, rfl⟩ (by decide +kernel) ⟨Nat.le_of_ble_eq_true rfl, Nat.le_of_ble_eq_true rfl⟩ (ob_8 mem_8) rfl rfl rfl (Nat.le_of_ble_eq_true rfl) ⟨Nat.le_of_ble_eq_true rfl, Nat.le_of_ble_eq_true rfl⟩ ⟨Nat.le_of_ble_eq_true rfl, Nat.le_of_ble_eq_true rfl⟩ dX4_shift_2 (fun E9 hE => ⟨0, if_pos (hE.2), hE.1 ▸ rfl⟩) ?_
  rintro ws_2 ⟨g_2, rfl⟩
  have nb1 : ¬ ¬ (0 ≤ p9 ∧ p9 < np a) := fun q => q g_2; have hPp := hPI p9.toNat (by omega); have hPo := hPp.1; have hPc := hPp.2; have hPo2 := hPo; unfold PO at hPo2; have hsq := sq_le (e := sd a p9.toNat) (by omega)
  refine g_aload_n E dX4_shift_5 rfl ?_
  refine g_iload_n E dX4_shift_6 rfl ?_
  refine g_xVv (T := TX4) (ci := 4) (n := 1) (As := [_]) (rest := _) E Z (c_X4_checkPile l hl0 D cA A ad _ _ hI _ (by omega)) gX4_shift_X4_checkPile rfl ⟨rfl, rfl⟩ (by decide +kernel) ⟨Nat.le_of_ble_eq_true rfl, Nat.le_of_ble_eq_true rfl⟩ (ob_8 mem_8) rfl rfl rfl (Nat.le_of_ble_eq_true rfl) ⟨Nat.le_of_ble_eq_true rfl, Nat.le_of_ble_eq_true rfl⟩ ⟨Nat.le_of_ble_eq_true rfl, Nat.le_of_ble_eq_true rfl⟩ dX4_shift_7 (fun E9 hE => ⟨0, (if_neg nb1).trans (if_pos (hE.2)), hE.1 ▸ rfl⟩) ?_
  rintro ws_7 ⟨g_7, rfl⟩
  have nb2 : ¬ ¬ (0 ≤ m9 ∧ m9 < np a) := fun q => q g_7; have hPq := hPI m9.toNat (by omega); have hQo := hPq.1; have hPd := hPq.2; have hQo2 := hQo; unfold PO at hQo2; have hsq2 := sq_le (e := sd a m9.toNat) (by omega)
  refine g_iload_n E dX4_shift_10 rfl ?_
  refine g_iload_n E dX4_shift_11 rfl ?_
  refine g_icmp_ne (tgt := 25) E dX4_shift_12 (by decide) (by omega) (by omega) (fun c_12 => ?_) (fun c_12 => ?_)
  · have nb3 : ¬ p9 = m9 := c_12
    refine g_aload_n E dX4_shift_25 rfl ?_
    refine gx_Main_yard E mem_8 hin4 (by decide +kernel) dX4_shift_26 ?_
    refine gx_Yard_piles' E (mem_y _ (by omega)) hin3 (by decide +kernel) dX4_shift_29 ?_
    refine g_iload_n E dX4_shift_32 rfl ?_
    refine lx_10' E (mem_10 _ (by omega)) (by omega) dX4_shift_33 ?_
    refine g_astore_n E dX4_shift_34 (by decide) ?_
    refine g_aload_n E dX4_shift_35 rfl ?_
    refine gx_Main_yard E mem_8 hin4 (by decide +kernel) dX4_shift_36 ?_
    refine gx_Yard_piles' E (mem_y _ (by omega)) hin3 (by decide +kernel) dX4_shift_39 ?_
    refine g_iload_n E dX4_shift_42 rfl ?_
    refine lx_10' E (mem_10 _ (by omega)) (by omega) dX4_shift_43 ?_
    refine g_astore E dX4_shift_44 (by decide) ?_
    refine g_aload_n E dX4_shift_46 rfl ?_
    refine gx_Pile_calibre' E (mem_1 _ (by omega) _ (by omega)) hin1 (by decide +kernel) dX4_shift_47 ?_
    refine g_aload E dX4_shift_50 rfl ?_
    refine gx_Pile_calibre' E (mem_1 _ (by omega) _ (by omega)) hin1 (by decide +kernel) dX4_shift_52 ?_
    refine g_icmp_eq (tgt := 68) E dX4_shift_55 (by decide) (by omega) (by omega) (fun c_55 => ?_) (fun c_55 => ?_)
    · have nb4 : ¬ ¬ cal a p9.toNat = cal a m9.toNat := fun q => q c_55; have hne : ¬ p9.toNat = m9.toNat := by omega
      refine g_aload_n E dX4_shift_68 rfl ?_
      refine gx_Pile_balls' E (mem_1 _ (by omega) _ (by omega)) hin1 (by decide +kernel) dX4_shift_69 ?_
      refine g_aload E dX4_shift_72 rfl ?_
      refine g_callVi (T := TX1) (ci := 1) (n := 0) (As := []) (rest := _) E (c_X1_spare l D cA A ad σ 0 m9.toNat a (by omega) (by omega) hQo) gX4_shift_X1_spare rfl ⟨rfl, rfl⟩ (by decide +kernel) ⟨Nat.le_of_ble_eq_true rfl, Nat.le_of_ble_eq_true rfl⟩ (ob_1 (mem_1 _ (by omega) _ (by omega))) rfl rfl rfl (Nat.le_of_ble_eq_true rfl) ⟨Nat.le_of_ble_eq_true rfl, Nat.le_of_ble_eq_true rfl⟩ dX4_shift_74 ?_
      rintro r_74 ws_74 ⟨rfl, rfl⟩
      refine g_mmin E (by decide +kernel) (by decide +kernel) (by decide +kernel) (by decide +kernel) (Nat.le_of_ble_eq_true rfl) (Nat.le_of_ble_eq_true rfl) (Nat.le_of_ble_eq_true rfl) (Nat.le_of_ble_eq_true rfl) dX4_shift_77 ?_
      refine g_top (v' := .int (zI (shM a p9.toNat m9.toNat))) (congrArg Value.int (mnz2 (by omega) (by omega))) ?_
      have hsm : 0 ≤ shM a p9.toNat m9.toNat ∧ shM a p9.toNat m9.toNat ≤ bl a p9.toNat ∧ shM a p9.toNat m9.toNat ≤ sq (sd a m9.toNat) - bl a m9.toNat := by unfold shM; split <;> omega
      refine g_istore E dX4_shift_80 (by decide) ?_
      refine g_iconst E dX4_shift_82 ?_
      refine g_istore E dX4_shift_83 (by decide) ?_
      have key_kk : ∀ (n_kk kk : Nat), (kk : Int) ≤ (shM a p9.toNat m9.toNat) → (shM a p9.toNat m9.toNat) + 1 ≤ (kk : Int) + n_kk → GW p l e (headSpec wsX4_shift ({ frames := 7, cells := 3, slots := 18, locals := 107 })).room s m ([.ref (ad 0 8 0), .int (zI p9), .int (zI m9)] : List Value).toArray below meth c (vx_MQ below (va_Qi (fun (r : Int32) ws' => eShift a p9 m9 = 0 ∧ r = zI (shM a p9.toNat m9.toNat) ∧ ws' = wX cA ad (upY σ 0 (shN a p9.toNat m9.toNat (shM a p9.toNat m9.toNat).toNat))) (gB D A) A) (XQ D A (fun E9 => exn [xI, xA] E9 (eShift a p9 m9)) (wX cA ad (upY σ 0 a))) ([.ref (ad 0 8 0), .int (zI p9), .int (zI m9)] : List Value).toArray s 3 18 A) D A 7 (wX cA ad (upY σ 0 (shN a p9.toNat m9.toNat kk))) 2 12 85 [(0, .ref (ad 0 8 0)), (1, .int (zI p9)), (2, .int (zI m9)), (3, .ref (ad 0 1 p9.toNat)), (4, .ref (ad 0 1 m9.toNat)), (5, .int (zI (shM a p9.toNat m9.toNat))), (6, .int (zI (kk : Int)))] [] := by
        intro n_kk
        induction n_kk with
        | zero => intro kk h1 h2; exact absurd h2 (by omega)
        | succ n_kk ih_kk =>
          intro kk hle_kk hfu_kk
          obtain ⟨k1, k2, k3, k4, k5, k6⟩ := shN_i hI (f := p9.toNat) (t := m9.toNat) (by omega) (by omega) hne kk (by omega) (by omega)
          have hbt : bl (topS (shN a p9.toNat m9.toNat kk) p9.toNat) m9.toNat = bl (shN a p9.toNat m9.toNat kk) m9.toNat := topS_bn (fun q => hne q.symm)
          refine g_iload E dX4_shift_85 rfl ?_
          refine g_iload E dX4_shift_87 rfl ?_
          refine g_icmp_ge (tgt := 107) E dX4_shift_89 (by decide) (by omega) (by omega) (fun c_89 => ?_) (fun c_89 => ?_)
          · obtain rfl : kk = (shM a p9.toNat m9.toNat).toNat := by omega
            refine g_iload E dX4_shift_107 rfl ?_
            refine g_wid (k := 3) (n := 18) (Nat.le_of_ble_eq_true rfl) (Nat.le_of_ble_eq_true rfl) ?_
            refine g_xret ?_
            exact g_iret E (⟨(if_neg nb1).trans ((if_neg nb2).trans ((if_neg nb3).trans (if_neg nb4))), rfl, rfl⟩) dX4_shift_109
          · refine g_aload E dX4_shift_92 rfl ?_
            refine g_aload_n E dX4_shift_94 rfl ?_
            refine g_callVi (T := TX1) (ci := 1) (n := 0) (As := []) (rest := _) E (c_X1_takeTop l D cA A ad σ 0 p9.toNat (shN a p9.toNat m9.toNat kk) (by omega) (by omega) (k1.2.1 _ (by omega)).1 (by omega)) gX4_shift_X1_takeTop rfl ⟨rfl, rfl⟩ (by decide +kernel) ⟨Nat.le_of_ble_eq_true rfl, Nat.le_of_ble_eq_true rfl⟩ (ob_1 (mem_1 _ (by omega) _ (by omega))) rfl rfl rfl (Nat.le_of_ble_eq_true rfl) ⟨Nat.le_of_ble_eq_true rfl, Nat.le_of_ble_eq_true rfl⟩ dX4_shift_95 ?_
            rintro r_95 ws_95 ⟨rfl, rfl⟩
            refine g_callVv (T := TX1) (ci := 1) (n := 1) (As := [_]) (rest := _) E (c_X1_put l D cA A ad σ 0 m9.toNat (topS (shN a p9.toNat m9.toNat kk) p9.toNat) (by omega) (by omega) ((topS_i k1 (by omega) (by omega)).2.1 _ (by rw [topS_np]; omega)).1 _ (by rw [hbt, topS_sd, (k6 _).1]; omega)) gX4_shift_X1_put rfl ⟨rfl, rfl⟩ (by decide +kernel) ⟨Nat.le_of_ble_eq_true rfl, Nat.le_of_ble_eq_true rfl⟩ (ob_1 (mem_1 _ (by omega) _ (by omega))) rfl rfl rfl (Nat.le_of_ble_eq_true rfl) ⟨Nat.le_of_ble_eq_true rfl, Nat.le_of_ble_eq_true rfl⟩ dX4_shift_98 ?_
            rintro ws_98 rfl
            refine g_iinc E dX4_shift_101 rfl (by decide) ?_
            refine g_goto (tgt := 85) E dX4_shift_104 (by decide) ?_
            refine g_st (ws' := wX cA ad (upY σ 0 (shN a p9.toNat m9.toNat (kk + 1)))) (rfl) rfl rfl ?_
            refine g_loc (lv' := [(0, .ref (ad 0 8 0)), (1, .int (zI p9)), (2, .int (zI m9)), (3, .ref (ad 0 1 p9.toNat)), (4, .ref (ad 0 1 m9.toNat)), (5, .int (zI (shM a p9.toNat m9.toNat))), (6, .int (zI ((kk + 1) : Int)))]) ⟨rfl, rfl, rfl, rfl, rfl, rfl, rfl, trivial⟩ ?_
            exact ih_kk (kk + 1) (by omega) (by omega)
      refine g_loc (lv' := [(0, .ref (ad 0 8 0)), (1, .int (zI p9)), (2, .int (zI m9)), (3, .ref (ad 0 1 p9.toNat)), (4, .ref (ad 0 1 m9.toNat)), (5, .int (zI (shM a p9.toNat m9.toNat))), (6, .int (zI (0 : Int)))]) ⟨rfl, rfl, rfl, rfl, rfl, rfl, rfl, trivial⟩ ?_
      exact key_kk (((shM a p9.toNat m9.toNat)) + 1).toNat.succ 0 (by omega) (by omega)
    · exact g_throw (is := 135) E Z (by decide +kernel) (by decide +kernel) (by decide +kernel) rfl (List.mem_of_getElem? (i := 6) rfl) (fun w h => by first | exact List.mem_cons_of_mem _ (List.mem_append_right _ h) | exact List.mem_cons_of_mem _ (List.mem_append_left _ (List.mem_append_right _ h)) | exact List.mem_cons_of_mem _ (List.mem_append_left _ (List.mem_append_left _ (List.mem_append_right _ h)))) nb_xA gd_xA dX4_shift_58 dX4_shift_61 dX4_shift_62 dX4_shift_64 dX4_shift_67 (Nat.le_of_ble_eq_true rfl) (Nat.le_of_ble_eq_true rfl) ⟨Nat.le_of_ble_eq_true rfl, Nat.le_of_ble_eq_true rfl⟩ ⟨Nat.le_of_ble_eq_true rfl, Nat.le_of_ble_eq_true rfl⟩ (⟨1, (if_neg nb1).trans ((if_neg nb2).trans ((if_neg nb3).trans (if_pos (c_55)))), rfl⟩)
  · exact g_throw (is := 132) E Z (by decide +kernel) (by decide +kernel) (by decide +kernel) rfl (List.mem_of_getElem? (i := 5) rfl) (fun w h => by first | exact List.mem_cons_of_mem _ (List.mem_append_right _ h) | exact List.mem_cons_of_mem _ (List.mem_append_left _ (List.mem_append_right _ h)) | exact List.mem_cons_of_mem _ (List.mem_append_left _ (List.mem_append_left _ (List.mem_append_right _ h)))) nb_xA gd_xA dX4_shift_15 dX4_shift_18 dX4_shift_19 dX4_shift_21 dX4_shift_24 (Nat.le_of_ble_eq_true rfl) (Nat.le_of_ble_eq_true rfl) ⟨Nat.le_of_ble_eq_true rfl, Nat.le_of_ble_eq_true rfl⟩ ⟨Nat.le_of_ble_eq_true rfl, Nat.le_of_ble_eq_true rfl⟩ (⟨1, (if_neg nb1).trans ((if_neg nb2).trans (if_pos (c_12))), rfl⟩)
set_option maxHeartbeats 800000 in
set_option maxRecDepth 100000 in
/-- gather() -/
theorem c_X4_gather (l : Launch) (D : va_G) (cA : Nat → ClassId) (A : Nat → Prop) (ad : Ad) (σ : Nat → St) (a : St) (hI : Inv a) : Met l yX4_gather wsX4_gather ({ frames := 1, cells := 0, slots := 0, locals := 22 }) (PcG D (tysX cA) A (wX cA ad (upY σ 0 a)) [.ref (ad 0 8 0)]) (va_Qi (fun (r : Int32) ws' => r = (gaL a 5).2 ∧ ws' = wX cA ad (upY σ 0 (gaL a 5).1)) (gB D A) A) 0 0 A := by
  refine g_met (cc := cX4_gather) (maxL := 4) (ret := (some .int)) (own := RX4) rfl (by decide) rfl (Nat.le_of_ble_eq_true rfl) ?_
  intro p e s m below meth c E
  have hin3 : ∀ w ∈ u_ws RX3 TX3 8, w ∈ wsX4_gather := by decide +kernel
  have hin4 : ∀ w ∈ u_ws RX4 TX4 6, w ∈ wsX4_gather := by decide +kernel
  refine g_loc (lv' := [(0, .ref (ad 0 8 0))]) ⟨rfl, trivial⟩ ?_
  refine g_aload_n E dX4_gather_0 rfl ?_
  refine gx_Main_yard E mem_8 hin4 (by decide +kernel) dX4_gather_1 ?_
  refine gx_Yard_loose' E (mem_y _ (by omega)) hin3 (by decide +kernel) dX4_gather_4 ?_
  refine g_callVi (T := TX6) (ci := 6) (n := 0) (As := []) (rest := _) E (c_X6_all l D cA A ad _ _ 4 _ (TY_4 _ (by omega))) gX4_gather_X6_all rfl ⟨rfl, rfl⟩ (by decide +kernel) ⟨Nat.le_of_ble_eq_true rfl, Nat.le_of_ble_eq_true rfl⟩ (ob_T (TY_4 _ (by omega))) rfl rfl rfl (Nat.le_of_ble_eq_true rfl) ⟨Nat.le_of_ble_eq_true rfl, Nat.le_of_ble_eq_true rfl⟩ dX4_gather_7 ?_
  rintro r_7 ws_7 ⟨rfl, rfl⟩
  refine g_istore_n E dX4_gather_10 (by decide) ?_
  refine g_iconst E dX4_gather_11 ?_
  refine g_istore_n E dX4_gather_12 (by decide) ?_
  have key_kk : ∀ (n_kk kk : Nat), (kk : Int) ≤ (5 : Int) → (5 : Int) + 1 ≤ (kk : Int) + n_kk → GW p l e (headSpec wsX4_gather ({ frames := 1, cells := 0, slots := 0, locals := 22 })).room s m ([.ref (ad 0 8 0)] : List Value).toArray below meth c (MQ below (va_Qi (fun (r : Int32) ws' => r = (gaL a 5).2 ∧ ws' = wX cA ad (upY σ 0 (gaL a 5).1)) (gB D A) A) ([.ref (ad 0 8 0)] : List Value).toArray s 0 0 A) D A 4 (wX cA ad (upY σ 0 ((gaL a kk).1))) 0 0 13 [(0, .ref (ad 0 8 0)), (1, .int (sum5 (a 4 0) 5)), (2, .int (zI (kk : Int)))] [] := by
    intro n_kk
    induction n_kk with
    | zero => intro kk h1 h2; exact absurd h2 (by omega)
    | succ n_kk ih_kk =>
      intro kk hle_kk hfu_kk
      refine g_iload_n E dX4_gather_13 rfl ?_
      refine g_iconst E dX4_gather_14 ?_
      refine g_icmp_ge (tgt := 58) E dX4_gather_15 (by decide) (by omega) (by omega) (fun c_15 => ?_) (fun c_15 => ?_)
      · refine g_iload_n E dX4_gather_58 rfl ?_
        exact g_iret E (⟨(ga_sum a 5).2.symm, by rw [show kk = 5 by omega]⟩) dX4_gather_59
      · refine g_aload_n E dX4_gather_18 rfl ?_
        refine gx_Main_yard E mem_8 hin4 (by decide +kernel) dX4_gather_19 ?_
        refine gx_Yard_loose' E (mem_y _ (by omega)) hin3 (by decide +kernel) dX4_gather_22 ?_
        refine g_iload_n E dX4_gather_25 rfl ?_
        refine g_callVi (T := TX6) (ci := 6) (n := 1) (As := [_]) (rest := _) E (c_X6_of l D cA A ad _ _ 4 _ (TY_4 _ (by omega)) _ (by omega)) gX4_gather_X6_of rfl ⟨rfl, rfl⟩ (by decide +kernel) ⟨Nat.le_of_ble_eq_true rfl, Nat.le_of_ble_eq_true rfl⟩ (ob_T (TY_4 _ (by omega))) rfl rfl rfl (Nat.le_of_ble_eq_true rfl) ⟨Nat.le_of_ble_eq_true rfl, Nat.le_of_ble_eq_true rfl⟩ dX4_gather_26 ?_
        rintro r_26 ws_26 ⟨rfl, rfl⟩
        refine g_istore_n E dX4_gather_29 (by decide) ?_
        refine g_aload_n E dX4_gather_30 rfl ?_
        refine gx_Main_store E mem_8 hin4 (by decide +kernel) dX4_gather_31 ?_
        refine g_iload_n E dX4_gather_34 rfl ?_
        refine g_iload_n E dX4_gather_35 rfl ?_
        refine g_callVv (T := TX6) (ci := 6) (n := 2) (As := [_, _]) (rest := _) E (c_X6_add l D cA A ad _ _ 5 _ TY_5 _ _ (by omega)) gX4_gather_X6_add rfl ⟨rfl, rfl⟩ (by decide +kernel) ⟨Nat.le_of_ble_eq_true rfl, Nat.le_of_ble_eq_true rfl⟩ (ob_T TY_5) rfl rfl rfl (Nat.le_of_ble_eq_true rfl) ⟨Nat.le_of_ble_eq_true rfl, Nat.le_of_ble_eq_true rfl⟩ dX4_gather_36 ?_
        rintro ws_36 rfl
        refine g_aload_n E dX4_gather_39 rfl ?_
        refine gx_Main_yard E mem_8 hin4 (by decide +kernel) dX4_gather_40 ?_
        refine gx_Yard_loose' E (mem_y _ (by omega)) hin3 (by decide +kernel) dX4_gather_43 ?_
        refine g_iload_n E dX4_gather_46 rfl ?_
        refine g_iload_n E dX4_gather_47 rfl ?_
        refine g_ineg E dX4_gather_48 ?_
        refine g_callVv (T := TX6) (ci := 6) (n := 2) (As := [_, _]) (rest := _) E (c_X6_add l D cA A ad _ _ 4 _ (TY_4 _ (by omega)) _ _ (by omega)) gX4_gather_X6_add rfl ⟨rfl, rfl⟩ (by decide +kernel) ⟨Nat.le_of_ble_eq_true rfl, Nat.le_of_ble_eq_true rfl⟩ (ob_T (TY_4 _ (by omega))) rfl rfl rfl (Nat.le_of_ble_eq_true rfl) ⟨Nat.le_of_ble_eq_true rfl, Nat.le_of_ble_eq_true rfl⟩ dX4_gather_49 ?_
        rintro ws_49 rfl
        refine g_iinc E dX4_gather_52 rfl (by decide) ?_
        refine g_goto (tgt := 13) E dX4_gather_55 (by decide) ?_
        refine g_st (ws' := wX cA ad (upY σ 0 ((gaL a (kk + 1)).1))) (congrArg (fun q9 : Int32 => wX cA ad (upY σ 0 (up3 (up3 (gaL a kk).1 5 0 kk ((gaL a kk).1 5 0 kk + (gaL a kk).1 4 0 kk)) 4 0 kk q9))) ga_z) rfl rfl ?_
        refine g_loc (lv' := [(0, .ref (ad 0 8 0)), (1, .int (sum5 (a 4 0) 5)), (2, .int (zI ((kk + 1) : Int)))]) ⟨rfl, rfl, rfl, trivial⟩ ?_
        exact ih_kk (kk + 1) (by omega) (by omega)
  refine g_st (ws' := wX cA ad (upY σ 0 ((gaL a 0).1))) (rfl) rfl rfl ?_
  refine g_loc (lv' := [(0, .ref (ad 0 8 0)), (1, .int (sum5 (a 4 0) 5)), (2, .int (zI (0 : Int)))]) ⟨rfl, rfl, rfl, trivial⟩ ?_
  exact key_kk (((5 : Int)) + 1).toNat.succ 0 (by omega) (by omega)
set_option maxHeartbeats 800000 in
set_option maxRecDepth 100000 in
/-- chase(c) -/
theorem c_X4_chase (l : Launch) (hl0 : l.stackTraces = false) (D : va_G) (cA : Nat → ClassId) (A : Nat → Prop) (ad : Ad) (σ : Nat → St) (a : St) (hI : Inv a) (p9 : Int) (hp : R31 p9) : vx_Met l yX4_chase wsX4_chase ({ frames := 7, cells := 1, slots := 6, locals := 107 }) (PcZ D (tysX cA) A (wX cA ad (upY σ 0 a)) [.ref (ad 0 8 0), .int (zI p9)]) (va_Qi (fun (r : Int32) ws' => eC a p9 = 0 ∧ r = zI (on a p9.toNat) ∧ ws' = wX cA ad (upY σ 0 (up3 a 3 p9.toNat 1 (zI (-1))))) (gB D A) A) (XQ D A (fun E9 => exn [xI] E9 (eC a p9)) (wX cA ad (upY σ 0 a))) 1 6 A := by
  refine g_metx (cc := cX4_chase) (maxL := 4) (ret := (some .int)) (own := RX4) hl0 rfl (by decide) rfl (Nat.le_of_ble_eq_true rfl) ?_
  intro p e s m below meth c E Z
  have hin0 : ∀ w ∈ u_ws RX0 TX0 3, w ∈ wsX4_chase := by decide +kernel
  have hin3 : ∀ w ∈ u_ws RX3 TX3 8, w ∈ wsX4_chase := by decide +kernel
  have hin4 : ∀ w ∈ u_ws RX4 TX4 6, w ∈ wsX4_chase := by decide +kernel
  obtain ⟨⟨hn0, hn6, hc0, hc3⟩, hPI, hCI, hFr⟩ := id hI
  obtain ⟨hp1, hp2⟩ := hp
  refine g_loc (lv' := [(0, .ref (ad 0 8 0)), (1, .int (zI p9))]) ⟨rfl, rfl, trivial⟩ ?_
  refine g_aload_n E dX4_chase_0 rfl ?_
  refine g_iload_n E dX4_chase_1 rfl ?_
  refine g_xVv (T := TX4) (ci := 4) (n := 1) (As := [_]) (rest := _) E Z (c_X4_checkCat l hl0 D cA A ad _ _ hI _ (by omega)) gX4_chase_X4_checkCat rfl ⟨rfl, rfl⟩ (by decide +kernel) ⟨Nat.le_of_ble_eq_true rfl, Nat.le_of_ble_eq_true rfl⟩ (ob_8 mem_8) rfl rfl rfl (Nat.le_of_ble_eq_true rfl) ⟨Nat.le_of_ble_eq_true rfl, Nat.le_of_ble_eq_true rfl⟩ ⟨Nat.le_of_ble_eq_true rfl, Nat.le_of_ble_eq_true rfl⟩ dX4_chase_2 (fun E9 hE => ⟨0, if_pos (hE.2), hE.1 ▸ rfl⟩) ?_
  rintro ws_2 ⟨g_2, rfl⟩
  have nb1 : ¬ ¬ (0 ≤ p9 ∧ p9 < nc a) := fun q => q g_2
  refine g_aload_n E dX4_chase_5 rfl ?_
  refine gx_Main_yard E mem_8 hin4 (by decide +kernel) dX4_chase_6 ?_
  refine gx_Yard_cats' E (mem_y _ (by omega)) hin3 (by decide +kernel) dX4_chase_9 ?_
  refine g_iload_n E dX4_chase_12 rfl ?_
  refine lx_11' E (mem_11 _ (by omega)) (by omega) dX4_chase_13 ?_
  refine g_astore_n E dX4_chase_14 (by decide) ?_
  refine g_aload_n E dX4_chase_15 rfl ?_
  refine gx_Cat_on' E (mem_3 _ (by omega) _ (by omega)) hin0 (by decide +kernel) dX4_chase_16 ?_
  refine g_istore_n E dX4_chase_19 (by decide) ?_
  refine g_aload_n E dX4_chase_20 rfl ?_
  refine g_iconst E dX4_chase_21 ?_
  refine px_Cat_on' E (mem_3 _ (by omega) _ (by omega)) hin0 (by decide +kernel) dX4_chase_22 ?_
  refine g_iload_n E dX4_chase_25 rfl ?_
  refine g_wid (k := 1) (n := 6) (Nat.le_of_ble_eq_true rfl) (Nat.le_of_ble_eq_true rfl) ?_
  refine g_xret ?_
  exact g_iret E (⟨if_neg nb1, rfl, rfl⟩) dX4_chase_26
