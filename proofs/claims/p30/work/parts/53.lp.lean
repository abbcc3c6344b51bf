/-! ===== the law's piles: their methods ===== -/
set_option maxHeartbeats 800000 in
set_option maxRecDepth 100000 in
/-- isOn(x, y) -/
theorem c_X7_isOn (l : Launch) (D : va_G) (cA : Nat → ClassId) (A : Nat → Prop) (am : Ad) (L : List Id3) (w2 : va_W) (a : St) (hS : SH L a) (p9 : Nat) (hp : (p9 : Int) < np a) (hPO : PO a p9) (x9 y9 : Nat) (hx : (x9 : Int) < sq (sd a p9)) (hy : (y9 : Int) < sq (sd a p9)) : Met l yX7_isOn wsX7_isOn ({ frames := 0, cells := 0, slots := 0, locals := 0 }) (PcG D (tysX cA) A (wS cA am L a ++ w2) [.ref (am 1 p9 0), .int (zI (x9 : Int)), .int (zI (y9 : Int))]) (va_Qi (fun (r : Int32) ws' => r = zI (isO (sd a p9) x9 y9) ∧ ws' = wS cA am L a ++ w2) (gB D A) A) 0 0 A := by
  refine g_met (cc := cX7_isOn) (maxL := 7) (ret := (some .boolean)) (own := RX7) rfl (by decide) rfl (Nat.le_of_ble_eq_true rfl) ?_
  intro p e s m below meth c E
  have hin7 : ∀ w ∈ u_ws RX7 TX7 5, w ∈ wsX7_isOn := by decide +kernel
  obtain ⟨hL, hB, hPm, hCm, -, -⟩ := id hS
  obtain ⟨he1, he6, hb0, hbq⟩ := id hPO
  have hsq := sq_le ⟨he1, he6⟩
  obtain ⟨xa, xb, -, -, xc, xd, xe, xf, -, -⟩ := pyF ⟨he1, he6⟩ (b := (x9 : Int)) (by omega)
  obtain ⟨ya, yb, -, -, yc, yd, ye, yf, -, -⟩ := pyF ⟨he1, he6⟩ (b := (y9 : Int)) (by omega)
  refine g_loc (lv' := [(0, .ref (am 1 p9 0)), (1, .int (zI (x9 : Int))), (2, .int (zI (y9 : Int)))]) ⟨rfl, rfl, rfl, trivial⟩ ?_
  refine g_aload_n E dX7_isOn_0 rfl ?_
  refine gs_LP_places E (hPm p9 (by omega)).1 hin7 (by decide +kernel) dX7_isOn_1 ?_
  refine g_iload_n E dX7_isOn_4 rfl ?_
  refine ls_12 E (hPm p9 (by omega)).2.2.1 (by omega) dX7_isOn_5 ?_
  refine g_top (v' := .ref (am 13 p9 x9)) (rfl) ?_
  refine g_astore_n E dX7_isOn_6 (by decide) ?_
  refine g_aload_n E dX7_isOn_7 rfl ?_
  refine gs_LP_places E (hPm p9 (by omega)).1 hin7 (by decide +kernel) dX7_isOn_8 ?_
  refine g_iload_n E dX7_isOn_11 rfl ?_
  refine ls_12 E (hPm p9 (by omega)).2.2.1 (by omega) dX7_isOn_12 ?_
  refine g_top (v' := .ref (am 13 p9 y9)) (rfl) ?_
  refine g_astore E dX7_isOn_13 (by decide) ?_
  refine g_aload E dX7_isOn_15 rfl ?_
  refine g_iconst E dX7_isOn_17 ?_
  refine ls_13 E ((hPm p9 (by omega)).2.2.2 y9 (by omega)) (by omega) dX7_isOn_18 ?_
  refine g_top (v' := .int (zI (row (sd a p9) y9))) rfl ?_
  refine g_aload_n E dX7_isOn_19 rfl ?_
  refine g_iconst E dX7_isOn_20 ?_
  refine ls_13 E ((hPm p9 (by omega)).2.2.2 x9 (by omega)) (by omega) dX7_isOn_21 ?_
  refine g_top (v' := .int (zI (row (sd a p9) x9))) rfl ?_
  refine g_isub E dX7_isOn_22 ?_
  refine g_istore E dX7_isOn_23 (by decide) ?_
  refine g_aload E dX7_isOn_25 rfl ?_
  refine g_iconst E dX7_isOn_27 ?_
  refine ls_13 E ((hPm p9 (by omega)).2.2.2 y9 (by omega)) (by omega) dX7_isOn_28 ?_
  refine g_top (v' := .int (zI (pla (sd a p9) y9))) rfl ?_
  refine g_aload_n E dX7_isOn_29 rfl ?_
  refine g_iconst E dX7_isOn_30 ?_
  refine ls_13 E ((hPm p9 (by omega)).2.2.2 x9 (by omega)) (by omega) dX7_isOn_31 ?_
  refine g_top (v' := .int (zI (pla (sd a p9) x9))) rfl ?_
  refine g_isub E dX7_isOn_32 ?_
  refine g_istore E dX7_isOn_33 (by decide) ?_
  refine g_aload_n E dX7_isOn_35 rfl ?_
  refine g_iconst E dX7_isOn_36 ?_
  refine ls_13 E ((hPm p9 (by omega)).2.2.2 x9 (by omega)) (by omega) dX7_isOn_37 ?_
  refine g_top (v' := .int (zI (lf (sd a p9) x9))) rfl ?_
  refine g_aload E dX7_isOn_38 rfl ?_
  refine g_iconst E dX7_isOn_40 ?_
  refine ls_13 E ((hPm p9 (by omega)).2.2.2 y9 (by omega)) (by omega) dX7_isOn_41 ?_
  refine g_top (v' := .int (zI (lf (sd a p9) y9))) rfl ?_
  refine g_iconst E dX7_isOn_42 ?_
  refine g_iadd E dX7_isOn_43 ?_
  refine g_icmp_ne (tgt := 73) E dX7_isOn_44 (by decide) (by omega) (by omega) (fun c_44 => ?_) (fun c_44 => ?_)
  · refine g_iconst E dX7_isOn_73 ?_
    exact g_zret E (by decide) (⟨congrArg zI (by unfold isO; first | exact (if_pos (by omega)).symm | exact (if_neg (by omega)).symm), rfl⟩) dX7_isOn_74
  · refine g_iload E dX7_isOn_47 rfl ?_
    refine g_if_eq (tgt := 58) E dX7_isOn_49 (by decide) (by omega) (fun c_49 => ?_) (fun c_49 => ?_)
    · refine g_iload E dX7_isOn_58 rfl ?_
      refine g_if_eq (tgt := 69) E dX7_isOn_60 (by decide) (by omega) (fun c_60 => ?_) (fun c_60 => ?_)
      · refine g_iconst E dX7_isOn_69 ?_
        refine g_goto (tgt := 74) E dX7_isOn_70 (by decide) ?_
        exact g_zret E (by decide) (⟨congrArg zI (by unfold isO; first | exact (if_pos (by omega)).symm | exact (if_neg (by omega)).symm), rfl⟩) dX7_isOn_74
      · refine g_iload E dX7_isOn_63 rfl ?_
        refine g_iconst E dX7_isOn_65 ?_
        refine g_icmp_ne (tgt := 73) E dX7_isOn_66 (by decide) (by omega) (by omega) (fun c_66 => ?_) (fun c_66 => ?_)
        · refine g_iconst E dX7_isOn_73 ?_
          exact g_zret E (by decide) (⟨congrArg zI (by unfold isO; first | exact (if_pos (by omega)).symm | exact (if_neg (by omega)).symm), rfl⟩) dX7_isOn_74
        · refine g_iconst E dX7_isOn_69 ?_
          refine g_goto (tgt := 74) E dX7_isOn_70 (by decide) ?_
          exact g_zret E (by decide) (⟨congrArg zI (by unfold isO; first | exact (if_pos (by omega)).symm | exact (if_neg (by omega)).symm), rfl⟩) dX7_isOn_74
    · refine g_iload E dX7_isOn_52 rfl ?_
      refine g_iconst E dX7_isOn_54 ?_
      refine g_icmp_ne (tgt := 73) E dX7_isOn_55 (by decide) (by omega) (by omega) (fun c_55 => ?_) (fun c_55 => ?_)
      · refine g_iconst E dX7_isOn_73 ?_
        exact g_zret E (by decide) (⟨congrArg zI (by unfold isO; first | exact (if_pos (by omega)).symm | exact (if_neg (by omega)).symm), rfl⟩) dX7_isOn_74
      · refine g_iload E dX7_isOn_58 rfl ?_
        refine g_if_eq (tgt := 69) E dX7_isOn_60 (by decide) (by omega) (fun c_60 => ?_) (fun c_60 => ?_)
        · refine g_iconst E dX7_isOn_69 ?_
          refine g_goto (tgt := 74) E dX7_isOn_70 (by decide) ?_
          exact g_zret E (by decide) (⟨congrArg zI (by unfold isO; first | exact (if_pos (by omega)).symm | exact (if_neg (by omega)).symm), rfl⟩) dX7_isOn_74
        · refine g_iload E dX7_isOn_63 rfl ?_
          refine g_iconst E dX7_isOn_65 ?_
          refine g_icmp_ne (tgt := 73) E dX7_isOn_66 (by decide) (by omega) (by omega) (fun c_66 => ?_) (fun c_66 => ?_)
          · refine g_iconst E dX7_isOn_73 ?_
            exact g_zret E (by decide) (⟨congrArg zI (by unfold isO; first | exact (if_pos (by omega)).symm | exact (if_neg (by omega)).symm), rfl⟩) dX7_isOn_74
          · refine g_iconst E dX7_isOn_69 ?_
            refine g_goto (tgt := 74) E dX7_isOn_70 (by decide) ?_
            exact g_zret E (by decide) (⟨congrArg zI (by unfold isO; first | exact (if_pos (by omega)).symm | exact (if_neg (by omega)).symm), rfl⟩) dX7_isOn_74
set_option maxHeartbeats 800000 in
set_option maxRecDepth 100000 in
/-- on(y) -/
theorem c_X7_on (l : Launch) (D : va_G) (cA : Nat → ClassId) (A : Nat → Prop) (am : Ad) (L : List Id3) (w2 : va_W) (a : St) (hS : SH L a) (p9 : Nat) (hp : (p9 : Int) < np a) (hPO : PO a p9) (y9 : Nat) (hy : (y9 : Int) < bl a p9) : Met l yX7_on wsX7_on ({ frames := 1, cells := 0, slots := 0, locals := 26 }) (PcG D (tysX cA) A (wS cA am L a ++ w2) [.ref (am 1 p9 0), .int (zI (y9 : Int))]) (va_Qi (fun (r : Int32) ws' => r = zI (onN (sd a p9) (bl a p9) y9) ∧ ws' = wS cA am L a ++ w2) (gB D A) A) 0 0 A := by
  refine g_met (cc := cX7_on) (maxL := 4) (ret := (some .int)) (own := RX7) rfl (by decide) rfl (Nat.le_of_ble_eq_true rfl) ?_
  intro p e s m below meth c E
  have hin7 : ∀ w ∈ u_ws RX7 TX7 5, w ∈ wsX7_on := by decide +kernel
  obtain ⟨hL, hB, hPm, hCm, -, -⟩ := id hS
  obtain ⟨he1, he6, hb0, hbq⟩ := id hPO
  have hsq := sq_le ⟨he1, he6⟩
  refine g_loc (lv' := [(0, .ref (am 1 p9 0)), (1, .int (zI (y9 : Int)))]) ⟨rfl, rfl, trivial⟩ ?_
  refine g_iconst E dX7_on_0 ?_
  refine g_istore_n E dX7_on_1 (by decide) ?_
  refine g_iload_n E dX7_on_2 rfl ?_
  refine g_iconst E dX7_on_3 ?_
  refine g_iadd E dX7_on_4 ?_
  refine g_istore_n E dX7_on_5 (by decide) ?_
  have key_kk : ∀ (n_kk kk : Nat), (kk : Int) ≤ bl a p9 - y9 - 1 → bl a p9 - y9 - 1 + 1 ≤ (kk : Int) + n_kk → GW p l e (headSpec wsX7_on ({ frames := 1, cells := 0, slots := 0, locals := 26 })).room s m ([.ref (am 1 p9 0), .int (zI (y9 : Int))] : List Value).toArray below meth c (MQ below (va_Qi (fun (r : Int32) ws' => r = zI (onN (sd a p9) (bl a p9) y9) ∧ ws' = wS cA am L a ++ w2) (gB D A) A) ([.ref (am 1 p9 0), .int (zI (y9 : Int))] : List Value).toArray s 0 0 A) D A 4 (wS cA am L a ++ w2) 0 0 6 [(0, .ref (am 1 p9 0)), (1, .int (zI (y9 : Int))), (2, .int (zI (onL (sd a p9) y9 kk))), (3, .int (zI ((y9 + 1 + kk : Nat) : Int)))] [] := by
    intro n_kk
    induction n_kk with
    | zero => intro kk h1 h2; exact absurd h2 (by omega)
    | succ n_kk ih_kk =>
      intro kk hle_kk hfu_kk
      refine g_iload_n E dX7_on_6 rfl ?_
      refine g_aload_n E dX7_on_7 rfl ?_
      refine gs_LP_many E (hPm p9 (by omega)).1 hin7 (by decide +kernel) dX7_on_8 ?_
      refine g_icmp_ge (tgt := 37) E dX7_on_11 (by decide) (by omega) (by omega) (fun c_11 => ?_) (fun c_11 => ?_)
      · refine g_iload_n E dX7_on_37 rfl ?_
        exact g_iret E (⟨congrArg zI (by rw [← onL_N ⟨he1, he6⟩ (by omega) hbq]; congr 1; omega), rfl⟩) dX7_on_38
      · refine g_iload_n E dX7_on_14 rfl ?_
        refine g_aload_n E dX7_on_15 rfl ?_
        refine g_iload_n E dX7_on_16 rfl ?_
        refine g_iload_n E dX7_on_17 rfl ?_
        refine g_callVi (T := TX7) (ci := 7) (n := 2) (As := [_, _]) (rest := _) E (c_X7_isOn l D cA A am L _ a hS p9 hp hPO (y9 + 1 + kk) y9 (by omega) (by omega)) gX7_on_X7_isOn rfl ⟨rfl, rfl⟩ (by decide +kernel) ⟨Nat.le_of_ble_eq_true rfl, Nat.le_of_ble_eq_true rfl⟩ (os_7 (hPm p9 (by omega)).1) rfl rfl rfl (Nat.le_of_ble_eq_true rfl) ⟨Nat.le_of_ble_eq_true rfl, Nat.le_of_ble_eq_true rfl⟩ dX7_on_18 ?_
        rintro r_18 ws_18 ⟨rfl, rfl⟩
        have hb_18 := isO_b (sd a p9) ((y9 + 1 + kk : Nat) : Int) y9
        refine g_if_eq (tgt := 28) E dX7_on_21 (by decide) (by omega) (fun c_21 => ?_) (fun c_21 => ?_)
        · refine g_iconst E dX7_on_28 ?_
          refine g_iadd E dX7_on_29 ?_
          refine g_istore_n E dX7_on_30 (by decide) ?_
          refine g_iinc E dX7_on_31 rfl (by decide) ?_
          refine g_goto (tgt := 6) E dX7_on_34 (by decide) ?_
          refine g_loc (lv' := [(0, .ref (am 1 p9 0)), (1, .int (zI (y9 : Int))), (2, .int (zI (onL (sd a p9) y9 (kk + 1)))), (3, .int (zI ((y9 + 1 + (kk + 1) : Nat) : Int)))]) ⟨rfl, rfl, congrArg (fun z : Int => some (Value.int (zI z))) (by show _ = onL (sd a p9) y9 kk + isO (sd a p9) ((y9 + 1 + kk : Nat) : Int) y9; omega), rfl, trivial⟩ ?_
          exact ih_kk (kk + 1) (by omega) (by omega)
        · refine g_iconst E dX7_on_24 ?_
          refine g_goto (tgt := 29) E dX7_on_25 (by decide) ?_
          refine g_iadd E dX7_on_29 ?_
          refine g_istore_n E dX7_on_30 (by decide) ?_
          refine g_iinc E dX7_on_31 rfl (by decide) ?_
          refine g_goto (tgt := 6) E dX7_on_34 (by decide) ?_
          refine g_loc (lv' := [(0, .ref (am 1 p9 0)), (1, .int (zI (y9 : Int))), (2, .int (zI (onL (sd a p9) y9 (kk + 1)))), (3, .int (zI ((y9 + 1 + (kk + 1) : Nat) : Int)))]) ⟨rfl, rfl, congrArg (fun z : Int => some (Value.int (zI z))) (by show _ = onL (sd a p9) y9 kk + isO (sd a p9) ((y9 + 1 + kk : Nat) : Int) y9; omega), rfl, trivial⟩ ?_
          exact ih_kk (kk + 1) (by omega) (by omega)
  refine g_loc (lv' := [(0, .ref (am 1 p9 0)), (1, .int (zI (y9 : Int))), (2, .int (zI (onL (sd a p9) y9 0))), (3, .int (zI ((y9 + 1 + 0 : Nat) : Int)))]) ⟨rfl, rfl, rfl, rfl, trivial⟩ ?_
  exact key_kk ((bl a p9 - y9 - 1) + 1).toNat.succ 0 (by omega) (by omega)
set_option maxHeartbeats 800000 in
set_option maxRecDepth 100000 in
/-- layers() -/
theorem c_X7_layers (l : Launch) (D : va_G) (cA : Nat → ClassId) (A : Nat → Prop) (am : Ad) (L : List Id3) (w2 : va_W) (a : St) (hS : SH L a) (p9 : Nat) (hp : (p9 : Int) < np a) (hPO : PO a p9) : Met l yX7_layers wsX7_layers ({ frames := 0, cells := 0, slots := 0, locals := 0 }) (PcG D (tysX cA) A (wS cA am L a ++ w2) [.ref (am 1 p9 0)]) (va_Qi (fun (r : Int32) ws' => r = zI (lb (sd a p9) (bl a p9)) ∧ ws' = wS cA am L a ++ w2) (gB D A) A) 0 0 A := by
  refine g_met (cc := cX7_layers) (maxL := 1) (ret := (some .int)) (own := RX7) rfl (by decide) rfl (Nat.le_of_ble_eq_true rfl) ?_
  intro p e s m below meth c E
  have hin7 : ∀ w ∈ u_ws RX7 TX7 5, w ∈ wsX7_layers := by decide +kernel
  obtain ⟨hL, hB, hPm, hCm, -, -⟩ := id hS
  obtain ⟨he1, he6, hb0, hbq⟩ := id hPO
  have hsq := sq_le ⟨he1, he6⟩
  refine g_loc (lv' := [(0, .ref (am 1 p9 0))]) ⟨rfl, trivial⟩ ?_
  refine g_aload_n E dX7_layers_0 rfl ?_
  refine gs_LP_many E (hPm p9 (by omega)).1 hin7 (by decide +kernel) dX7_layers_1 ?_
  refine g_if_ne (tgt := 11) E dX7_layers_4 (by decide) (by omega) (fun c_4 => ?_) (fun c_4 => ?_)
  · obtain ⟨xa, xb, -, -, xc, xd, xe, xf, -, -⟩ := pyF ⟨he1, he6⟩ (b := ((bl a p9 - 1).toNat : Int)) (by omega)
    refine g_aload_n E dX7_layers_11 rfl ?_
    refine gs_LP_places E (hPm p9 (by omega)).1 hin7 (by decide +kernel) dX7_layers_12 ?_
    refine g_aload_n E dX7_layers_15 rfl ?_
    refine gs_LP_many E (hPm p9 (by omega)).1 hin7 (by decide +kernel) dX7_layers_16 ?_
    refine g_iconst E dX7_layers_19 ?_
    refine g_isub E dX7_layers_20 ?_
    refine ls_12 E (hPm p9 (by omega)).2.2.1 (by omega) dX7_layers_21 ?_
    refine g_top (v' := .ref (am 13 p9 (bl a p9 - 1).toNat)) (rfl) ?_
    refine g_iconst E dX7_layers_22 ?_
    refine ls_13 E ((hPm p9 (by omega)).2.2.2 (bl a p9 - 1).toNat (by omega)) (by omega) dX7_layers_23 ?_
    refine g_top (v' := .int (zI (lf (sd a p9) ((bl a p9 - 1).toNat : Int)))) rfl ?_
    refine g_iconst E dX7_layers_24 ?_
    refine g_iadd E dX7_layers_25 ?_
    exact g_iret E (⟨congrArg zI (by first | (rw [show bl a p9 = 0 by omega]; exact (lb_z ⟨he1, he6⟩).symm) | (rw [lb_s ⟨he1, he6⟩ (by omega)]; congr 2; omega)), rfl⟩) dX7_layers_26
  · refine g_iconst E dX7_layers_7 ?_
    refine g_goto (tgt := 26) E dX7_layers_8 (by decide) ?_
    exact g_iret E (⟨congrArg zI (by first | (rw [show bl a p9 = 0 by omega]; exact (lb_z ⟨he1, he6⟩).symm) | (rw [lb_s ⟨he1, he6⟩ (by omega)]; congr 2; omega)), rfl⟩) dX7_layers_26
set_option maxHeartbeats 800000 in
set_option maxRecDepth 100000 in
/-- isOpen() -/
theorem c_X7_isOpen (l : Launch) (D : va_G) (cA : Nat → ClassId) (A : Nat → Prop) (am : Ad) (L : List Id3) (w2 : va_W) (a : St) (hS : SH L a) (p9 : Nat) (hp : (p9 : Int) < np a) (hPO : PO a p9) : Met l yX7_isOpen wsX7_isOpen ({ frames := 0, cells := 0, slots := 0, locals := 0 }) (PcG D (tysX cA) A (wS cA am L a ++ w2) [.ref (am 1 p9 0)]) (va_Qi (fun (r : Int32) ws' => r = zI (opV a p9) ∧ ws' = wS cA am L a ++ w2) (gB D A) A) 0 0 A := by
  refine g_met (cc := cX7_isOpen) (maxL := 1) (ret := (some .boolean)) (own := RX7) rfl (by decide) rfl (Nat.le_of_ble_eq_true rfl) ?_
  intro p e s m below meth c E
  have hin7 : ∀ w ∈ u_ws RX7 TX7 5, w ∈ wsX7_isOpen := by decide +kernel
  obtain ⟨hL, hB, hPm, hCm, -, -⟩ := id hS
  obtain ⟨he1, he6, hb0, hbq⟩ := id hPO
  have hsq := sq_le ⟨he1, he6⟩
  refine g_loc (lv' := [(0, .ref (am 1 p9 0))]) ⟨rfl, trivial⟩ ?_
  refine g_aload_n E dX7_isOpen_0 rfl ?_
  refine gs_LP_many E (hPm p9 (by omega)).1 hin7 (by decide +kernel) dX7_isOpen_1 ?_
  refine g_if_le (tgt := 50) E dX7_isOpen_4 (by decide) (by omega) (fun c_4 => ?_) (fun c_4 => ?_)
  · refine g_iconst E dX7_isOpen_50 ?_
    exact g_zret E (by decide) (⟨congrArg zI (by first | exact (op_t hPO ⟨by omega, by omega, by omega⟩).symm | exact (op_f hPO (fun q => by omega)).symm), rfl⟩) dX7_isOpen_51
  · refine g_aload_n E dX7_isOpen_7 rfl ?_
    refine gs_LP_many E (hPm p9 (by omega)).1 hin7 (by decide +kernel) dX7_isOpen_8 ?_
    refine g_aload_n E dX7_isOpen_11 rfl ?_
    refine gs_LP_rust E (hPm p9 (by omega)).1 hin7 (by decide +kernel) dX7_isOpen_12 ?_
    refine ns_2 E (hPm p9 (by omega)).2.1 (by omega) dX7_isOpen_15 ?_
    refine g_icmp_ge (tgt := 50) E dX7_isOpen_16 (by decide) (by omega) (by omega) (fun c_16 => ?_) (fun c_16 => ?_)
    · refine g_iconst E dX7_isOpen_50 ?_
      exact g_zret E (by decide) (⟨congrArg zI (by first | exact (op_t hPO ⟨by omega, by omega, by omega⟩).symm | exact (op_f hPO (fun q => by omega)).symm), rfl⟩) dX7_isOpen_51
    · obtain ⟨xa, xb, -, -, xc, xd, xe, xf, -, -⟩ := pyF ⟨he1, he6⟩ (b := ((bl a p9 - 1).toNat : Int)) (by omega); obtain ⟨ya, yb, -, -, yc, yd, ye, yf, -, -⟩ := pyF ⟨he1, he6⟩ (b := ((bl a p9).toNat : Int)) (by omega); have e1 : lf (sd a p9) ((bl a p9).toNat : Int) = lf (sd a p9) (bl a p9) := congrArg (lf (sd a p9)) (by omega); have e2 : lf (sd a p9) ((bl a p9 - 1).toNat : Int) = lf (sd a p9) (bl a p9 - 1) := congrArg (lf (sd a p9)) (by omega)
      refine g_aload_n E dX7_isOpen_19 rfl ?_
      refine gs_LP_places E (hPm p9 (by omega)).1 hin7 (by decide +kernel) dX7_isOpen_20 ?_
      refine g_aload_n E dX7_isOpen_23 rfl ?_
      refine gs_LP_many E (hPm p9 (by omega)).1 hin7 (by decide +kernel) dX7_isOpen_24 ?_
      refine ls_12 E (hPm p9 (by omega)).2.2.1 (by omega) dX7_isOpen_27 ?_
      refine g_top (v' := .ref (am 13 p9 (bl a p9).toNat)) (rfl) ?_
      refine g_iconst E dX7_isOpen_28 ?_
      refine ls_13 E ((hPm p9 (by omega)).2.2.2 (bl a p9).toNat (by omega)) (by omega) dX7_isOpen_29 ?_
      refine g_top (v' := .int (zI (lf (sd a p9) ((bl a p9).toNat : Int)))) rfl ?_
      refine g_aload_n E dX7_isOpen_30 rfl ?_
      refine gs_LP_places E (hPm p9 (by omega)).1 hin7 (by decide +kernel) dX7_isOpen_31 ?_
      refine g_aload_n E dX7_isOpen_34 rfl ?_
      refine gs_LP_many E (hPm p9 (by omega)).1 hin7 (by decide +kernel) dX7_isOpen_35 ?_
      refine g_iconst E dX7_isOpen_38 ?_
      refine g_isub E dX7_isOpen_39 ?_
      refine ls_12 E (hPm p9 (by omega)).2.2.1 (by omega) dX7_isOpen_40 ?_
      refine g_top (v' := .ref (am 13 p9 (bl a p9 - 1).toNat)) (rfl) ?_
      refine g_iconst E dX7_isOpen_41 ?_
      refine ls_13 E ((hPm p9 (by omega)).2.2.2 (bl a p9 - 1).toNat (by omega)) (by omega) dX7_isOpen_42 ?_
      refine g_top (v' := .int (zI (lf (sd a p9) ((bl a p9 - 1).toNat : Int)))) rfl ?_
      refine g_icmp_ne (tgt := 50) E dX7_isOpen_43 (by decide) (by omega) (by omega) (fun c_43 => ?_) (fun c_43 => ?_)
      · refine g_iconst E dX7_isOpen_50 ?_
        exact g_zret E (by decide) (⟨congrArg zI (by first | exact (op_t hPO ⟨by omega, by omega, by omega⟩).symm | exact (op_f hPO (fun q => by omega)).symm), rfl⟩) dX7_isOpen_51
      · refine g_iconst E dX7_isOpen_46 ?_
        refine g_goto (tgt := 51) E dX7_isOpen_47 (by decide) ?_
        exact g_zret E (by decide) (⟨congrArg zI (by first | exact (op_t hPO ⟨by omega, by omega, by omega⟩).symm | exact (op_f hPO (fun q => by omega)).symm), rfl⟩) dX7_isOpen_51
set_option maxHeartbeats 800000 in
set_option maxRecDepth 100000 in
/-- rusty(v) -/
theorem c_X7_rusty (l : Launch) (D : va_G) (cA : Nat → ClassId) (A : Nat → Prop) (am : Ad) (L : List Id3) (w2 : va_W) (a : St) (hS : SH L a) (p9 : Nat) (hp : (p9 : Int) < np a) (hPO : PO a p9) (v9 : Int32) : Met l yX7_rusty wsX7_rusty ({ frames := 0, cells := 0, slots := 0, locals := 0 }) (PcG D (tysX cA) A (wS cA am L a ++ w2) [.ref (am 1 p9 0), .int v9]) (va_Qi (fun (r : Int32) ws' => r = zI (rustyN a p9 v9 (bl a p9).toNat) ∧ ws' = wS cA am L a ++ w2) (gB D A) A) 0 0 A := by
  refine g_met (cc := cX7_rusty) (maxL := 4) (ret := (some .int)) (own := RX7) rfl (by decide) rfl (Nat.le_of_ble_eq_true rfl) ?_
  intro p e s m below meth c E
  have hin7 : ∀ w ∈ u_ws RX7 TX7 5, w ∈ wsX7_rusty := by decide +kernel
  obtain ⟨hL, hB, hPm, hCm, -, -⟩ := id hS
  obtain ⟨he1, he6, hb0, hbq⟩ := id hPO
  have hsq := sq_le ⟨he1, he6⟩
  refine g_loc (lv' := [(0, .ref (am 1 p9 0)), (1, .int v9)]) ⟨rfl, rfl, trivial⟩ ?_
  refine g_iconst E dX7_rusty_0 ?_
  refine g_istore_n E dX7_rusty_1 (by decide) ?_
  refine g_iconst E dX7_rusty_2 ?_
  refine g_istore_n E dX7_rusty_3 (by decide) ?_
  have key_kk : ∀ (n_kk kk : Nat), (kk : Int) ≤ bl a p9 → bl a p9 + 1 ≤ (kk : Int) + n_kk → GW p l e (headSpec wsX7_rusty ({ frames := 0, cells := 0, slots := 0, locals := 0 })).room s m ([.ref (am 1 p9 0), .int v9] : List Value).toArray below meth c (MQ below (va_Qi (fun (r : Int32) ws' => r = zI (rustyN a p9 v9 (bl a p9).toNat) ∧ ws' = wS cA am L a ++ w2) (gB D A) A) ([.ref (am 1 p9 0), .int v9] : List Value).toArray s 0 0 A) D A 4 (wS cA am L a ++ w2) 0 0 4 [(0, .ref (am 1 p9 0)), (1, .int v9), (2, .int (zI (rustyN a p9 v9 kk))), (3, .int (zI (kk : Int)))] [] := by
    intro n_kk
    induction n_kk with
    | zero => intro kk h1 h2; exact absurd h2 (by omega)
    | succ n_kk ih_kk =>
      intro kk hle_kk hfu_kk
      have hrb := rusty_b a p9 v9 kk
      refine g_iload_n E dX7_rusty_4 rfl ?_
      refine g_aload_n E dX7_rusty_5 rfl ?_
      refine gs_LP_many E (hPm p9 (by omega)).1 hin7 (by decide +kernel) dX7_rusty_6 ?_
      refine g_icmp_ge (tgt := 36) E dX7_rusty_9 (by decide) (by omega) (by omega) (fun c_9 => ?_) (fun c_9 => ?_)
      · refine g_iload_n E dX7_rusty_36 rfl ?_
        exact g_iret E (⟨by rw [show (bl a p9).toNat = kk by omega], rfl⟩) dX7_rusty_37
      · refine g_iload_n E dX7_rusty_12 rfl ?_
        refine g_aload_n E dX7_rusty_13 rfl ?_
        refine gs_LP_rust E (hPm p9 (by omega)).1 hin7 (by decide +kernel) dX7_rusty_14 ?_
        refine g_iload_n E dX7_rusty_17 rfl ?_
        refine ls_2 E (hPm p9 (by omega)).2.1 (by omega) rfl dX7_rusty_18 ?_
        refine g_top (v' := .int (a 2 p9 kk)) rfl ?_
        refine g_iload_n E dX7_rusty_19 rfl ?_
        refine g_icmp_geR (tgt := 27) E dX7_rusty_20 (by decide) (fun c_20 => ?_) (fun c_20 => ?_)
        · refine g_iconst E dX7_rusty_27 ?_
          refine g_iadd E dX7_rusty_28 ?_
          refine g_istore_n E dX7_rusty_29 (by decide) ?_
          refine g_iinc E dX7_rusty_30 rfl (by decide) ?_
          refine g_goto (tgt := 4) E dX7_rusty_33 (by decide) ?_
          refine g_loc (lv' := [(0, .ref (am 1 p9 0)), (1, .int v9), (2, .int (zI (rustyN a p9 v9 (kk + 1)))), (3, .int (zI ((kk + 1) : Int)))]) ⟨rfl, rfl, congrArg (fun z : Int => some (Value.int (zI z))) (by first | (rw [rusty_t (Int32.not_le.mp c_20)]; omega) | (rw [rusty_f (fun q => Int32.not_le.mpr q c_20)])), rfl, trivial⟩ ?_
          exact ih_kk (kk + 1) (by omega) (by omega)
        · refine g_iconst E dX7_rusty_23 ?_
          refine g_goto (tgt := 28) E dX7_rusty_24 (by decide) ?_
          refine g_iadd E dX7_rusty_28 ?_
          refine g_istore_n E dX7_rusty_29 (by decide) ?_
          refine g_iinc E dX7_rusty_30 rfl (by decide) ?_
          refine g_goto (tgt := 4) E dX7_rusty_33 (by decide) ?_
          refine g_loc (lv' := [(0, .ref (am 1 p9 0)), (1, .int v9), (2, .int (zI (rustyN a p9 v9 (kk + 1)))), (3, .int (zI ((kk + 1) : Int)))]) ⟨rfl, rfl, congrArg (fun z : Int => some (Value.int (zI z))) (by first | (rw [rusty_t (Int32.not_le.mp c_20)]; omega) | (rw [rusty_f (fun q => Int32.not_le.mpr q c_20)])), rfl, trivial⟩ ?_
          exact ih_kk (kk + 1) (by omega) (by omega)
  refine g_loc (lv' := [(0, .ref (am 1 p9 0)), (1, .int v9), (2, .int (zI (rustyN a p9 v9 0))), (3, .int (zI (0 : Int)))]) ⟨rfl, rfl, rfl, rfl, trivial⟩ ?_
  exact key_kk ((bl a p9) + 1).toNat.succ 0 (by omega) (by omega)
set_option maxHeartbeats 800000 in
set_option maxRecDepth 100000 in
/-- put(v) -/
theorem c_X7_put (l : Launch) (D : va_G) (cA : Nat → ClassId) (A : Nat → Prop) (am : Ad) (L : List Id3) (w2 : va_W) (a : St) (hS : SH L a) (p9 : Nat) (hp : (p9 : Int) < np a) (hPO : PO a p9) (v9 : Int32) (hr : bl a p9 < sq (sd a p9)) : Met l yX7_put wsX7_put ({ frames := 0, cells := 0, slots := 0, locals := 0 }) (PcG D (tysX cA) A (wS cA am L a ++ w2) [.ref (am 1 p9 0), .int v9]) (va_Qv (fun ws' => ws' = wS cA am L (putS a p9 v9) ++ w2) (gB D A) A) 0 0 A := by
  refine g_met (cc := cX7_put) (maxL := 2) (ret := none) (own := RX7) rfl (by decide) rfl (Nat.le_of_ble_eq_true rfl) ?_
  intro p e s m below meth c E
  have hin7 : ∀ w ∈ u_ws RX7 TX7 5, w ∈ wsX7_put := by decide +kernel
  obtain ⟨hL, hB, hPm, hCm, -, -⟩ := id hS
  obtain ⟨he1, he6, hb0, hbq⟩ := id hPO
  have hsq := sq_le ⟨he1, he6⟩
  have e1 : bl (up3 a 2 p9 (bl a p9).toNat v9) p9 = bl a p9 := bl_up (by omega)
  refine g_loc (lv' := [(0, .ref (am 1 p9 0)), (1, .int v9)]) ⟨rfl, rfl, trivial⟩ ?_
  refine g_aload_n E dX7_put_0 rfl ?_
  refine gs_LP_rust E (hPm p9 (by omega)).1 hin7 (by decide +kernel) dX7_put_1 ?_
  refine g_aload_n E dX7_put_4 rfl ?_
  refine gs_LP_many E (hPm p9 (by omega)).1 hin7 (by decide +kernel) dX7_put_5 ?_
  refine g_iload_n E dX7_put_8 rfl ?_
  refine ss_2 E hL (hPm p9 (by omega)).2.1 (by omega) dX7_put_9 ?_
  refine g_aload_n E dX7_put_10 rfl ?_
  refine g_dup E dX7_put_11 rfl ?_
  refine gs_LP_many E (hPm p9 (by omega)).1 hin7 (by decide +kernel) dX7_put_12 ?_
  refine g_iconst E dX7_put_15 ?_
  refine g_iadd E dX7_put_16 ?_
  refine g_top (v' := .int (zI (bl a p9 + 1))) (by rw [e1]) ?_
  refine ps_LP_many E hL (hPm p9 (by omega)).1 hin7 (by decide +kernel) dX7_put_17 ?_
  exact g_vret E (rfl) dX7_put_20
