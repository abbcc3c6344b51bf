/-! ===== MODEL: balls, sums, what is told ===== -/
set_option maxHeartbeats 800000 in
set_option maxRecDepth 100000 in
/-- lies(p, b, w) -/
theorem m_lies (l : Launch) (D : va_G) (cA : Nat → ClassId) (A : Nat → Prop) (ad : Nat → Nat) (a : St) (th dd : Int32) (kp : Nat → Nat → Int32) (q9 : Nat) (hq : q9 < 6) (hPO : PO a q9) (b9 : Int) (hb : 0 ≤ b9 ∧ b9 < sq (sd a q9)) (w9 : Int) (hw : 0 ≤ w9 ∧ w9 ≤ 2) : Met l yX5_lies wsX5_lies ({ frames := 3, cells := 0, slots := 0, locals := 65 }) (PcG D (tysX cA) A (wM cA ad a th dd kp) [.ref (ad 0), .int (zI (q9 : Int)), .int (zI b9), .int (zI w9)]) (va_Qi (fun (r : Int32) ws' => r = zI (lieV (sd a q9) b9 w9) ∧ ws' = wM cA ad a th dd kp) (gB D A) A) 0 0 A := by
  refine g_met (cc := cX5_lies) (maxL := 7) (ret := (some .int)) (own := RX5) rfl (by decide) rfl (Nat.le_of_ble_eq_true rfl) ?_
  intro p e s m below meth c E
  have hin5 : ∀ w ∈ u_ws RX5 TX5 19, w ∈ wsX5_lies := by decide +kernel
  obtain ⟨hs1, hs6, hb0, hb1⟩ := id hPO
  have hsq := sq_le (e := sd a q9) ⟨hs1, hs6⟩
  obtain ⟨hn1, hn7, hpy⟩ := pyN_c (a := a) (p := q9) ⟨hs1, hs6⟩
  have hc := pyr_f (i := pyN (a 1 q9)) (b := b9) ⟨hn1, hn7⟩ (by rw [hpy]; omega)
  rw [hpy] at hc
  have hz9 := stz_z (e := sd a q9) (k := lf (sd a q9) b9) (by omega) (by omega)
  refine g_loc (lv' := [(0, .ref (ad 0)), (1, .int (zI (q9 : Int))), (2, .int (zI b9)), (3, .int (zI w9))]) ⟨rfl, rfl, rfl, rfl, trivial⟩ ?_
  refine g_aload_n E dX5_lies_0 rfl ?_
  refine g_iload_n E dX5_lies_1 rfl ?_
  refine g_iload_n E dX5_lies_2 rfl ?_
  refine g_callVi (T := TX5) (ci := 5) (n := 2) (As := [_, _]) (rest := _) E (m_full_ l D cA A ad _ _ _ _ _ (by omega) (by assumption) _ (by omega)) gX5_lies_X5_full_ rfl ⟨rfl, rfl⟩ (by decide +kernel) ⟨Nat.le_of_ble_eq_true rfl, Nat.le_of_ble_eq_true rfl⟩ obM rfl rfl rfl (Nat.le_of_ble_eq_true rfl) ⟨Nat.le_of_ble_eq_true rfl, Nat.le_of_ble_eq_true rfl⟩ dX5_lies_3 ?_
  rintro r_3 ws_3 ⟨rfl, rfl⟩
  refine g_istore E dX5_lies_6 (by decide) ?_
  refine g_aload_n E dX5_lies_8 rfl ?_
  refine gm_M_sides E  hin5 (by decide +kernel) dX5_lies_9 ?_
  refine g_iload_n E dX5_lies_12 rfl ?_
  first | refine lm_sidesN E (by omega) dX5_lies_13 ?_ | refine lm_sides E (by omega) dX5_lies_13 ?_
  refine g_iload E dX5_lies_14 rfl ?_
  refine g_isub E dX5_lies_16 ?_
  refine g_istore E dX5_lies_17 (by decide) ?_
  refine g_iload_n E dX5_lies_19 rfl ?_
  refine g_aload_n E dX5_lies_20 rfl ?_
  refine g_iload_n E dX5_lies_21 rfl ?_
  refine g_iload E dX5_lies_22 rfl ?_
  refine g_callVi (T := TX5) (ci := 5) (n := 2) (As := [_, _]) (rest := _) E (m_room l D cA A ad _ _ _ _ _ (by omega) (by omega) _ (by omega)) gX5_lies_X5_room rfl ⟨rfl, rfl⟩ (by decide +kernel) ⟨Nat.le_of_ble_eq_true rfl, Nat.le_of_ble_eq_true rfl⟩ obM rfl rfl rfl (Nat.le_of_ble_eq_true rfl) ⟨Nat.le_of_ble_eq_true rfl, Nat.le_of_ble_eq_true rfl⟩ dX5_lies_24 ?_
  rintro r_24 ws_24 ⟨rfl, rfl⟩
  refine g_isub E dX5_lies_27 ?_
  refine g_istore E dX5_lies_28 (by decide) ?_
  refine g_iload_n E dX5_lies_30 rfl ?_
  refine g_if_ne (tgt := 39) E dX5_lies_31 (by decide) (by omega) (fun c_31 => ?_) (fun c_31 => ?_)
  · refine g_iload_n E dX5_lies_39 rfl ?_
    refine g_iconst E dX5_lies_40 ?_
    refine g_icmp_ne (tgt := 52) E dX5_lies_41 (by decide) (by omega) (by omega) (fun c_41 => ?_) (fun c_41 => ?_)
    · refine g_iload E dX5_lies_52 rfl ?_
      refine g_iload E dX5_lies_54 rfl ?_
      refine g_irem E dX5_lies_56 (by omega) (by omega) ?_
      exact g_iret E (⟨congrArg zI (by first | exact (if_pos (by omega)).symm | exact ((if_neg (by omega)).trans (if_pos (by omega))).symm | exact ((if_neg (by omega)).trans (if_neg (by omega))).symm), rfl⟩) dX5_lies_57
    · refine g_iload E dX5_lies_44 rfl ?_
      refine g_iload E dX5_lies_46 rfl ?_
      refine g_idiv E dX5_lies_48 (by omega) (by omega) ?_
      refine g_goto (tgt := 57) E dX5_lies_49 (by decide) ?_
      exact g_iret E (⟨congrArg zI (by first | exact (if_pos (by omega)).symm | exact ((if_neg (by omega)).trans (if_pos (by omega))).symm | exact ((if_neg (by omega)).trans (if_neg (by omega))).symm), rfl⟩) dX5_lies_57
  · refine g_iload E dX5_lies_34 rfl ?_
    refine g_goto (tgt := 57) E dX5_lies_36 (by decide) ?_
    exact g_iret E (⟨congrArg zI (by first | exact (if_pos (by omega)).symm | exact ((if_neg (by omega)).trans (if_pos (by omega))).symm | exact ((if_neg (by omega)).trans (if_neg (by omega))).symm), rfl⟩) dX5_lies_57
set_option maxHeartbeats 800000 in
set_option maxRecDepth 100000 in
/-- ballAt(p, k, r, q) -/
theorem m_ballAt (l : Launch) (D : va_G) (cA : Nat → ClassId) (A : Nat → Prop) (ad : Nat → Nat) (a : St) (th dd : Int32) (kp : Nat → Nat → Int32) (q9 : Nat) (hq : q9 < 6) (hPO : PO a q9) (k9 r9 c9 : Int) (hk : (0 ≤ k9 ∧ k9 ≤ sd a q9) ∧ (-9 ≤ r9 ∧ r9 ≤ 9) ∧ (-9 ≤ c9 ∧ c9 ≤ 9)) : Met l yX5_ballAt wsX5_ballAt ({ frames := 2, cells := 0, slots := 0, locals := 42 }) (PcG D (tysX cA) A (wM cA ad a th dd kp) [.ref (ad 0), .int (zI (q9 : Int)), .int (zI k9), .int (zI r9), .int (zI c9)]) (va_Qi (fun (r : Int32) ws' => r = zI (bAtV (sd a q9) (bl a q9) k9 r9 c9) ∧ ws' = wM cA ad a th dd kp) (gB D A) A) 0 0 A := by
  refine g_met (cc := cX5_ballAt) (maxL := 7) (ret := (some .int)) (own := RX5) rfl (by decide) rfl (Nat.le_of_ble_eq_true rfl) ?_
  intro p e s m below meth c E
  have hin5 : ∀ w ∈ u_ws RX5 TX5 19, w ∈ wsX5_ballAt := by decide +kernel
  obtain ⟨hs1, hs6, hb0, hb1⟩ := id hPO
  have hsq := sq_le (e := sd a q9) ⟨hs1, hs6⟩
  obtain ⟨hn1, hn7, hpy⟩ := pyN_c (a := a) (p := q9) ⟨hs1, hs6⟩
  have hz9 := stz_z (e := sd a q9) (k := k9) (by omega) (by omega)
  refine g_loc (lv' := [(0, .ref (ad 0)), (1, .int (zI (q9 : Int))), (2, .int (zI k9)), (3, .int (zI r9)), (4, .int (zI c9))]) ⟨rfl, rfl, rfl, rfl, rfl, trivial⟩ ?_
  refine g_aload_n E dX5_ballAt_0 rfl ?_
  refine gm_M_sides E  hin5 (by decide +kernel) dX5_ballAt_1 ?_
  refine g_iload_n E dX5_ballAt_4 rfl ?_
  first | refine lm_sidesN E (by omega) dX5_ballAt_5 ?_ | refine lm_sides E (by omega) dX5_ballAt_5 ?_
  refine g_iload_n E dX5_ballAt_6 rfl ?_
  refine g_isub E dX5_ballAt_7 ?_
  refine g_istore E dX5_ballAt_8 (by decide) ?_
  refine g_iload E dX5_ballAt_10 rfl ?_
  refine g_if_le (tgt := 40) E dX5_ballAt_12 (by decide) (by omega) (fun c_12 => ?_) (fun c_12 => ?_)
  · refine g_iconst E dX5_ballAt_40 ?_
    exact g_iret E (⟨congrArg zI (bAt_f (by omega)).symm, rfl⟩) dX5_ballAt_41
  · refine g_iload_n E dX5_ballAt_15 rfl ?_
    refine g_iconst E dX5_ballAt_16 ?_
    refine g_iload E dX5_ballAt_17 rfl ?_
    refine g_iconst E dX5_ballAt_19 ?_
    refine g_isub E dX5_ballAt_20 ?_
    refine g_callTi (n := 3) (As := [_, _, _]) (rest := _) E (m_isIn l D _ A _ _ _ _ (by omega)) gX5_ballAt_X5_isIn rfl ⟨rfl, rfl⟩ (by decide +kernel) ⟨Nat.le_of_ble_eq_true rfl, Nat.le_of_ble_eq_true rfl⟩ rfl rfl (Nat.le_of_ble_eq_true rfl) ⟨Nat.le_of_ble_eq_true rfl, Nat.le_of_ble_eq_true rfl⟩ dX5_ballAt_21 ?_
    rintro r_21 ws_21 ⟨rfl, rfl⟩
    refine g_if_eq (tgt := 40) E dX5_ballAt_24 (by decide) (by omega) (fun c_24 => ?_) (fun c_24 => ?_)
    · have hi24 := ite0 c_24
      refine g_iconst E dX5_ballAt_40 ?_
      exact g_iret E (⟨congrArg zI (bAt_f (by omega)).symm, rfl⟩) dX5_ballAt_41
    · have hi24 := ite1 c_24
      refine g_iload E dX5_ballAt_27 rfl ?_
      refine g_iconst E dX5_ballAt_29 ?_
      refine g_iload E dX5_ballAt_30 rfl ?_
      refine g_iconst E dX5_ballAt_32 ?_
      refine g_isub E dX5_ballAt_33 ?_
      refine g_callTi (n := 3) (As := [_, _, _]) (rest := _) E (m_isIn l D _ A _ _ _ _ (by omega)) gX5_ballAt_X5_isIn rfl ⟨rfl, rfl⟩ (by decide +kernel) ⟨Nat.le_of_ble_eq_true rfl, Nat.le_of_ble_eq_true rfl⟩ rfl rfl (Nat.le_of_ble_eq_true rfl) ⟨Nat.le_of_ble_eq_true rfl, Nat.le_of_ble_eq_true rfl⟩ dX5_ballAt_34 ?_
      rintro r_34 ws_34 ⟨rfl, rfl⟩
      refine g_if_ne (tgt := 42) E dX5_ballAt_37 (by decide) (by omega) (fun c_37 => ?_) (fun c_37 => ?_)
      · have hi37 := ite1 c_37; have hm9 := mul66 (a := sd a q9 - k9) (b := r9) (by omega) (by omega)
        refine g_aload_n E dX5_ballAt_42 rfl ?_
        refine g_iload_n E dX5_ballAt_43 rfl ?_
        refine g_iload_n E dX5_ballAt_44 rfl ?_
        refine g_callVi (T := TX5) (ci := 5) (n := 2) (As := [_, _]) (rest := _) E (m_room l D cA A ad _ _ _ _ _ (by omega) (by omega) _ (by omega)) gX5_ballAt_X5_room rfl ⟨rfl, rfl⟩ (by decide +kernel) ⟨Nat.le_of_ble_eq_true rfl, Nat.le_of_ble_eq_true rfl⟩ obM rfl rfl rfl (Nat.le_of_ble_eq_true rfl) ⟨Nat.le_of_ble_eq_true rfl, Nat.le_of_ble_eq_true rfl⟩ dX5_ballAt_45 ?_
        rintro r_45 ws_45 ⟨rfl, rfl⟩
        refine g_iload E dX5_ballAt_48 rfl ?_
        refine g_iload_n E dX5_ballAt_50 rfl ?_
        refine g_imul E dX5_ballAt_51 ?_
        refine g_iadd E dX5_ballAt_52 ?_
        refine g_iload E dX5_ballAt_53 rfl ?_
        refine g_iadd E dX5_ballAt_55 ?_
        refine g_istore E dX5_ballAt_56 (by decide) ?_
        refine g_iload E dX5_ballAt_58 rfl ?_
        refine g_aload_n E dX5_ballAt_60 rfl ?_
        refine gm_M_many E  hin5 (by decide +kernel) dX5_ballAt_61 ?_
        refine g_iload_n E dX5_ballAt_64 rfl ?_
        first | refine lm_manyN E (by omega) dX5_ballAt_65 ?_ | refine lm_many E (by omega) dX5_ballAt_65 ?_
        refine g_icmp_ge (tgt := 74) E dX5_ballAt_66 (by decide) (by omega) (by omega) (fun c_66 => ?_) (fun c_66 => ?_)
        · refine g_iconst E dX5_ballAt_74 ?_
          exact g_iret E (⟨congrArg zI (by first | exact (bAt_t (by omega)).symm | exact (bAt_f (by omega)).symm), rfl⟩) dX5_ballAt_75
        · refine g_iload E dX5_ballAt_69 rfl ?_
          refine g_goto (tgt := 75) E dX5_ballAt_71 (by decide) ?_
          exact g_iret E (⟨congrArg zI (by first | exact (bAt_t (by omega)).symm | exact (bAt_f (by omega)).symm), rfl⟩) dX5_ballAt_75
      · have hi37 := ite0 c_37
        refine g_iconst E dX5_ballAt_40 ?_
        exact g_iret E (⟨congrArg zI (bAt_f (by omega)).symm, rfl⟩) dX5_ballAt_41
set_option maxHeartbeats 800000 in
set_option maxRecDepth 100000 in
/-- on(p, b) -/
theorem m_on (l : Launch) (D : va_G) (cA : Nat → ClassId) (A : Nat → Prop) (ad : Nat → Nat) (a : St) (th dd : Int32) (kp : Nat → Nat → Int32) (q9 : Nat) (hq : q9 < 6) (hPO : PO a q9) (b9 : Int) (hb : 0 ≤ b9 ∧ b9 < sq (sd a q9)) : Met l yX5_on wsX5_on ({ frames := 4, cells := 0, slots := 0, locals := 91 }) (PcG D (tysX cA) A (wM cA ad a th dd kp) [.ref (ad 0), .int (zI (q9 : Int)), .int (zI b9)]) (va_Qi (fun (r : Int32) ws' => r = zI (onN (sd a q9) (bl a q9) b9) ∧ ws' = wM cA ad a th dd kp) (gB D A) A) 0 0 A := by
  refine g_met (cc := cX5_on) (maxL := 8) (ret := (some .int)) (own := RX5) rfl (by decide) rfl (Nat.le_of_ble_eq_true rfl) ?_
  intro p e s m below meth c E
  have hin5 : ∀ w ∈ u_ws RX5 TX5 19, w ∈ wsX5_on := by decide +kernel
  obtain ⟨hs1, hs6, hb0, hb1⟩ := id hPO
  have hsq := sq_le (e := sd a q9) ⟨hs1, hs6⟩
  obtain ⟨hn1, hn7, hpy⟩ := pyN_c (a := a) (p := q9) ⟨hs1, hs6⟩
  have hc := pyr_f (i := pyN (a 1 q9)) (b := b9) ⟨hn1, hn7⟩ (by rw [hpy]; omega)
  rw [hpy] at hc
  refine g_loc (lv' := [(0, .ref (ad 0)), (1, .int (zI (q9 : Int))), (2, .int (zI b9))]) ⟨rfl, rfl, rfl, trivial⟩ ?_
  refine g_aload_n E dX5_on_0 rfl ?_
  refine g_iload_n E dX5_on_1 rfl ?_
  refine g_iload_n E dX5_on_2 rfl ?_
  refine g_iconst E dX5_on_3 ?_
  refine g_callVi (T := TX5) (ci := 5) (n := 3) (As := [_, _, _]) (rest := _) E (m_lies l D cA A ad _ _ _ _ _ (by omega) (by assumption) _ (by omega) _ (by omega)) gX5_on_X5_lies rfl ⟨rfl, rfl⟩ (by decide +kernel) ⟨Nat.le_of_ble_eq_true rfl, Nat.le_of_ble_eq_true rfl⟩ obM rfl rfl rfl (Nat.le_of_ble_eq_true rfl) ⟨Nat.le_of_ble_eq_true rfl, Nat.le_of_ble_eq_true rfl⟩ dX5_on_4 ?_
  rintro r_4 ws_4 ⟨rfl, rfl⟩
  refine g_top (v' := .int (zI (lf (sd a q9) b9))) rfl ?_
  refine g_iconst E dX5_on_7 ?_
  refine g_iadd E dX5_on_8 ?_
  refine g_istore_n E dX5_on_9 (by decide) ?_
  refine g_aload_n E dX5_on_10 rfl ?_
  refine g_iload_n E dX5_on_11 rfl ?_
  refine g_iload_n E dX5_on_12 rfl ?_
  refine g_iconst E dX5_on_13 ?_
  refine g_callVi (T := TX5) (ci := 5) (n := 3) (As := [_, _, _]) (rest := _) E (m_lies l D cA A ad _ _ _ _ _ (by omega) (by assumption) _ (by omega) _ (by omega)) gX5_on_X5_lies rfl ⟨rfl, rfl⟩ (by decide +kernel) ⟨Nat.le_of_ble_eq_true rfl, Nat.le_of_ble_eq_true rfl⟩ obM rfl rfl rfl (Nat.le_of_ble_eq_true rfl) ⟨Nat.le_of_ble_eq_true rfl, Nat.le_of_ble_eq_true rfl⟩ dX5_on_14 ?_
  rintro r_14 ws_14 ⟨rfl, rfl⟩
  refine g_top (v' := .int (zI (row (sd a q9) b9))) rfl ?_
  refine g_istore E dX5_on_17 (by decide) ?_
  refine g_aload_n E dX5_on_19 rfl ?_
  refine g_iload_n E dX5_on_20 rfl ?_
  refine g_iload_n E dX5_on_21 rfl ?_
  refine g_iconst E dX5_on_22 ?_
  refine g_callVi (T := TX5) (ci := 5) (n := 3) (As := [_, _, _]) (rest := _) E (m_lies l D cA A ad _ _ _ _ _ (by omega) (by assumption) _ (by omega) _ (by omega)) gX5_on_X5_lies rfl ⟨rfl, rfl⟩ (by decide +kernel) ⟨Nat.le_of_ble_eq_true rfl, Nat.le_of_ble_eq_true rfl⟩ obM rfl rfl rfl (Nat.le_of_ble_eq_true rfl) ⟨Nat.le_of_ble_eq_true rfl, Nat.le_of_ble_eq_true rfl⟩ dX5_on_23 ?_
  rintro r_23 ws_23 ⟨rfl, rfl⟩
  refine g_top (v' := .int (zI (pla (sd a q9) b9))) rfl ?_
  refine g_istore E dX5_on_26 (by decide) ?_
  refine g_iconst E dX5_on_28 ?_
  refine g_istore E dX5_on_29 (by decide) ?_
  refine g_iconst E dX5_on_31 ?_
  refine g_istore E dX5_on_32 (by decide) ?_
  have key_kk : ∀ (n_kk kk : Nat), (kk : Int) ≤ (4 : Int) → (4 : Int) + 1 ≤ (kk : Int) + n_kk → GW p l e (headSpec wsX5_on ({ frames := 4, cells := 0, slots := 0, locals := 91 })).room s m ([.ref (ad 0), .int (zI (q9 : Int)), .int (zI b9)] : List Value).toArray below meth c (MQ below (va_Qi (fun (r : Int32) ws' => r = zI (onN (sd a q9) (bl a q9) b9) ∧ ws' = wM cA ad a th dd kp) (gB D A) A) ([.ref (ad 0), .int (zI (q9 : Int)), .int (zI b9)] : List Value).toArray s 0 0 A) D A 8 (wM cA ad a th dd kp) 0 0 34 [(0, .ref (ad 0)), (1, .int (zI (q9 : Int))), (2, .int (zI b9)), (3, .int (zI (lf (sd a q9) b9 + 1))), (4, .int (zI (row (sd a q9) b9))), (5, .int (zI (pla (sd a q9) b9))), (6, .int (zI (onP (sd a q9) (bl a q9) (lf (sd a q9) b9 + 1) (row (sd a q9) b9) (pla (sd a q9) b9) kk))), (7, .int (zI (kk : Int)))] [] := by
    intro n_kk
    induction n_kk with
    | zero => intro kk h1 h2; exact absurd h2 (by omega)
    | succ n_kk ih_kk =>
      intro kk hle_kk hfu_kk
      have hz9 := stz_z (e := sd a q9) (k := lf (sd a q9) b9 + 1) (by omega) (by omega)
      refine g_iload E dX5_on_34 rfl ?_
      refine g_iconst E dX5_on_36 ?_
      refine g_icmp_ge (tgt := 80) E dX5_on_37 (by decide) (by omega) (by omega) (fun c_37 => ?_) (fun c_37 => ?_)
      · refine g_iload E dX5_on_80 rfl ?_
        exact g_iret E (⟨congrArg zI (by rw [onN_K, ← onP_4, show kk = 4 by omega]), rfl⟩) dX5_on_82
      · refine g_iload E dX5_on_40 rfl ?_
        refine g_aload_n E dX5_on_42 rfl ?_
        refine g_iload_n E dX5_on_43 rfl ?_
        refine g_iload_n E dX5_on_44 rfl ?_
        refine g_iload E dX5_on_45 rfl ?_
        refine g_iload E dX5_on_47 rfl ?_
        refine g_iconst E dX5_on_49 ?_
        refine g_idiv E dX5_on_50 (by omega) (by omega) ?_
        refine g_isub E dX5_on_51 ?_
        refine g_iload E dX5_on_52 rfl ?_
        refine g_iload E dX5_on_54 rfl ?_
        refine g_iconst E dX5_on_56 ?_
        refine g_irem E dX5_on_57 (by omega) (by omega) ?_
        refine g_isub E dX5_on_58 ?_
        refine g_callVi (T := TX5) (ci := 5) (n := 4) (As := [_, _, _, _]) (rest := _) E (m_ballAt l D cA A ad _ _ _ _ _ (by omega) (by assumption) _ _ _ (by omega)) gX5_on_X5_ballAt rfl ⟨rfl, rfl⟩ (by decide +kernel) ⟨Nat.le_of_ble_eq_true rfl, Nat.le_of_ble_eq_true rfl⟩ obM rfl rfl rfl (Nat.le_of_ble_eq_true rfl) ⟨Nat.le_of_ble_eq_true rfl, Nat.le_of_ble_eq_true rfl⟩ dX5_on_59 ?_
        rintro r_59 ws_59 ⟨rfl, rfl⟩
        have hbv := bAt_b (e := sd a q9) (n := bl a q9) (k := lf (sd a q9) b9 + 1) (r := row (sd a q9) b9 - (kk : Int) / 2) (q := pla (sd a q9) b9 - (kk : Int) % 2) hz9.1
        refine g_iconst E dX5_on_62 ?_
        refine g_icmp_ne (tgt := 70) E dX5_on_63 (by decide) (by omega) (by omega) (fun c_63 => ?_) (fun c_63 => ?_)
        · have hst := onP_t (j := kk) ((bAt_ne hz9.1).1 c_63)
          refine g_iconst E dX5_on_70 ?_
          refine g_iadd E dX5_on_71 ?_
          refine g_istore E dX5_on_72 (by decide) ?_
          refine g_iinc E dX5_on_74 rfl (by decide) ?_
          refine g_goto (tgt := 34) E dX5_on_77 (by decide) ?_
          refine g_loc (lv' := [(0, .ref (ad 0)), (1, .int (zI (q9 : Int))), (2, .int (zI b9)), (3, .int (zI (lf (sd a q9) b9 + 1))), (4, .int (zI (row (sd a q9) b9))), (5, .int (zI (pla (sd a q9) b9))), (6, .int (zI (onP (sd a q9) (bl a q9) (lf (sd a q9) b9 + 1) (row (sd a q9) b9) (pla (sd a q9) b9) (kk + 1)))), (7, .int (zI ((kk + 1) : Int)))]) ⟨rfl, rfl, rfl, rfl, rfl, rfl, congrArg (fun z => some (Value.int (zI z))) (by rw [hst]; try omega), rfl, trivial⟩ ?_
          exact ih_kk (kk + 1) (by omega) (by omega)
        · have hst := onP_f (j := kk) ((bAt_ne hz9.1).2 c_63)
          refine g_iconst E dX5_on_66 ?_
          refine g_goto (tgt := 71) E dX5_on_67 (by decide) ?_
          refine g_iadd E dX5_on_71 ?_
          refine g_istore E dX5_on_72 (by decide) ?_
          refine g_iinc E dX5_on_74 rfl (by decide) ?_
          refine g_goto (tgt := 34) E dX5_on_77 (by decide) ?_
          refine g_loc (lv' := [(0, .ref (ad 0)), (1, .int (zI (q9 : Int))), (2, .int (zI b9)), (3, .int (zI (lf (sd a q9) b9 + 1))), (4, .int (zI (row (sd a q9) b9))), (5, .int (zI (pla (sd a q9) b9))), (6, .int (zI (onP (sd a q9) (bl a q9) (lf (sd a q9) b9 + 1) (row (sd a q9) b9) (pla (sd a q9) b9) (kk + 1)))), (7, .int (zI ((kk + 1) : Int)))]) ⟨rfl, rfl, rfl, rfl, rfl, rfl, congrArg (fun z => some (Value.int (zI z))) (by rw [hst]; try omega), rfl, trivial⟩ ?_
          exact ih_kk (kk + 1) (by omega) (by omega)
  refine g_loc (lv' := [(0, .ref (ad 0)), (1, .int (zI (q9 : Int))), (2, .int (zI b9)), (3, .int (zI (lf (sd a q9) b9 + 1))), (4, .int (zI (row (sd a q9) b9))), (5, .int (zI (pla (sd a q9) b9))), (6, .int (zI (onP (sd a q9) (bl a q9) (lf (sd a q9) b9 + 1) (row (sd a q9) b9) (pla (sd a q9) b9) 0))), (7, .int (zI (0 : Int)))]) ⟨rfl, rfl, rfl, rfl, rfl, rfl, rfl, rfl, trivial⟩ ?_
  exact key_kk (((4 : Int)) + 1).toNat.succ 0 (by omega) (by omega)
set_option maxHeartbeats 800000 in
set_option maxRecDepth 100000 in
/-- rustOf(p, b) -/
theorem m_rustOf (l : Launch) (D : va_G) (cA : Nat → ClassId) (A : Nat → Prop) (ad : Nat → Nat) (a : St) (th dd : Int32) (kp : Nat → Nat → Int32) (q9 : Nat) (hq : q9 < 6) (k9 : Nat) (hk : k9 < 91) : Met l yX5_rustOf wsX5_rustOf ({ frames := 0, cells := 0, slots := 0, locals := 0 }) (PcG D (tysX cA) A (wM cA ad a th dd kp) [.ref (ad 0), .int (zI (q9 : Int)), .int (zI (k9 : Int))]) (va_Qi (fun (r : Int32) ws' => r = a 2 q9 k9 ∧ ws' = wM cA ad a th dd kp) (gB D A) A) 0 0 A := by
  refine g_met (cc := cX5_rustOf) (maxL := 3) (ret := (some .int)) (own := RX5) rfl (by decide) rfl (Nat.le_of_ble_eq_true rfl) ?_
  intro p e s m below meth c E
  have hin5 : ∀ w ∈ u_ws RX5 TX5 19, w ∈ wsX5_rustOf := by decide +kernel
  refine g_loc (lv' := [(0, .ref (ad 0)), (1, .int (zI (q9 : Int))), (2, .int (zI (k9 : Int)))]) ⟨rfl, rfl, rfl, trivial⟩ ?_
  refine g_aload_n E dX5_rustOf_0 rfl ?_
  refine gm_M_rust E  hin5 (by decide +kernel) dX5_rustOf_1 ?_
  refine g_bipush E dX5_rustOf_4 (by decide) ?_
  refine g_iload_n E dX5_rustOf_6 rfl ?_
  refine g_imul E dX5_rustOf_7 ?_
  refine g_iload_n E dX5_rustOf_8 rfl ?_
  refine g_iadd E dX5_rustOf_9 ?_
  refine lm_rust (p9 := q9) (k9 := k9) E ⟨by omega, by omega⟩ (by omega) dX5_rustOf_10 ?_
  exact g_iret E (⟨rfl, rfl⟩) dX5_rustOf_11
set_option maxHeartbeats 800000 in
set_option maxRecDepth 100000 in
/-- left(p) -/
theorem m_left (l : Launch) (D : va_G) (cA : Nat → ClassId) (A : Nat → Prop) (ad : Nat → Nat) (a : St) (th dd : Int32) (kp : Nat → Nat → Int32) (q9 : Nat) (hq : q9 < 6) (hPO : PO a q9) : Met l yX5_left wsX5_left ({ frames := 1, cells := 0, slots := 0, locals := 20 }) (PcG D (tysX cA) A (wM cA ad a th dd kp) [.ref (ad 0), .int (zI (q9 : Int))]) (va_Qi (fun (r : Int32) ws' => r = zI (sq (sd a q9) - bl a q9) ∧ ws' = wM cA ad a th dd kp) (gB D A) A) 0 0 A := by
  refine g_met (cc := cX5_left) (maxL := 2) (ret := (some .int)) (own := RX5) rfl (by decide) rfl (Nat.le_of_ble_eq_true rfl) ?_
  intro p e s m below meth c E
  have hin5 : ∀ w ∈ u_ws RX5 TX5 19, w ∈ wsX5_left := by decide +kernel
  obtain ⟨hs1, hs6, hb0, hb1⟩ := id hPO
  have hsq := sq_le (e := sd a q9) ⟨hs1, hs6⟩
  obtain ⟨hn1, hn7, hpy⟩ := pyN_c (a := a) (p := q9) ⟨hs1, hs6⟩
  refine g_loc (lv' := [(0, .ref (ad 0)), (1, .int (zI (q9 : Int)))]) ⟨rfl, rfl, trivial⟩ ?_
  refine g_aload_n E dX5_left_0 rfl ?_
  refine gm_M_sides E  hin5 (by decide +kernel) dX5_left_1 ?_
  refine g_iload_n E dX5_left_4 rfl ?_
  first | refine lm_sidesN E (by omega) dX5_left_5 ?_ | refine lm_sides E (by omega) dX5_left_5 ?_
  refine g_callTi (n := 1) (As := [_]) (rest := _) E (m_roomOf l D _ A _ _ (by omega)) gX5_left_X5_roomOf rfl ⟨rfl, rfl⟩ (by decide +kernel) ⟨Nat.le_of_ble_eq_true rfl, Nat.le_of_ble_eq_true rfl⟩ rfl rfl (Nat.le_of_ble_eq_true rfl) ⟨Nat.le_of_ble_eq_true rfl, Nat.le_of_ble_eq_true rfl⟩ dX5_left_6 ?_
  rintro r_6 ws_6 ⟨rfl, rfl⟩
  refine g_aload_n E dX5_left_9 rfl ?_
  refine gm_M_many E  hin5 (by decide +kernel) dX5_left_10 ?_
  refine g_iload_n E dX5_left_13 rfl ?_
  first | refine lm_manyN E (by omega) dX5_left_14 ?_ | refine lm_many E (by omega) dX5_left_14 ?_
  refine g_isub E dX5_left_15 ?_
  exact g_iret E (⟨rfl, rfl⟩) dX5_left_16
set_option maxHeartbeats 800000 in
set_option maxRecDepth 100000 in
/-- put(p, v) -/
theorem m_put (l : Launch) (D : va_G) (cA : Nat → ClassId) (A : Nat → Prop) (ad : Nat → Nat) (a : St) (th dd : Int32) (kp : Nat → Nat → Int32) (q9 : Nat) (hq : q9 < 6) (hPO : PO a q9) (v : Int32) (hlt : bl a q9 < 91) : Met l yX5_put wsX5_put ({ frames := 0, cells := 0, slots := 0, locals := 0 }) (PcG D (tysX cA) A (wM cA ad a th dd kp) [.ref (ad 0), .int (zI (q9 : Int)), .int v]) (va_Qv (fun ws' => ws' = wM cA ad (putS a q9 v) th dd kp) (gB D A) A) 0 0 A := by
  refine g_met (cc := cX5_put) (maxL := 3) (ret := none) (own := RX5) rfl (by decide) rfl (Nat.le_of_ble_eq_true rfl) ?_
  intro p e s m below meth c E
  have hin5 : ∀ w ∈ u_ws RX5 TX5 19, w ∈ wsX5_put := by decide +kernel
  obtain ⟨hs1, hs6, hb0, hb1⟩ := id hPO
  have hsq := sq_le (e := sd a q9) ⟨hs1, hs6⟩
  obtain ⟨hn1, hn7, hpy⟩ := pyN_c (a := a) (p := q9) ⟨hs1, hs6⟩
  refine g_loc (lv' := [(0, .ref (ad 0)), (1, .int (zI (q9 : Int))), (2, .int v)]) ⟨rfl, rfl, rfl, trivial⟩ ?_
  refine g_aload_n E dX5_put_0 rfl ?_
  refine gm_M_rust E  hin5 (by decide +kernel) dX5_put_1 ?_
  refine g_bipush E dX5_put_4 (by decide) ?_
  refine g_iload_n E dX5_put_6 rfl ?_
  refine g_imul E dX5_put_7 ?_
  refine g_aload_n E dX5_put_8 rfl ?_
  refine gm_M_many E  hin5 (by decide +kernel) dX5_put_9 ?_
  refine g_iload_n E dX5_put_12 rfl ?_
  first | refine lm_manyN E (by omega) dX5_put_13 ?_ | refine lm_many E (by omega) dX5_put_13 ?_
  refine g_iadd E dX5_put_14 ?_
  refine g_iload_n E dX5_put_15 rfl ?_
  refine sm_rust (p9 := q9) (k9 := (bl a q9).toNat) E ⟨by omega, by omega⟩ (by omega) dX5_put_16 ?_
  refine g_aload_n E dX5_put_17 rfl ?_
  refine gm_M_many E  hin5 (by decide +kernel) dX5_put_18 ?_
  refine g_iload_n E dX5_put_21 rfl ?_
  refine g_dup2 E dX5_put_22 rfl rfl ?_
  first | refine lm_manyN E (by omega) dX5_put_23 ?_ | refine lm_many E (by omega) dX5_put_23 ?_
  refine g_iconst E dX5_put_24 ?_
  refine g_iadd E dX5_put_25 ?_
  first | refine sm_manyN E (by omega) dX5_put_26 ?_ | refine sm_many E (by omega) dX5_put_26 ?_
  exact g_vret E (rfl) dX5_put_27
set_option maxHeartbeats 800000 in
set_option maxRecDepth 100000 in
/-- rusty(p) -/
theorem m_rusty (l : Launch) (D : va_G) (cA : Nat → ClassId) (A : Nat → Prop) (ad : Nat → Nat) (a : St) (th dd : Int32) (kp : Nat → Nat → Int32) (q9 : Nat) (hq : q9 < 6) (hPO : PO a q9) : Met l yX5_rusty wsX5_rusty ({ frames := 1, cells := 0, slots := 0, locals := 22 }) (PcG D (tysX cA) A (wM cA ad a th dd kp) [.ref (ad 0), .int (zI (q9 : Int))]) (va_Qi (fun (r : Int32) ws' => r = zI (rustyN a q9 (a 0 0 4) (bl a q9).toNat) ∧ ws' = wM cA ad a th dd kp) (gB D A) A) 0 0 A := by
  refine g_met (cc := cX5_rusty) (maxL := 4) (ret := (some .int)) (own := RX5) rfl (by decide) rfl (Nat.le_of_ble_eq_true rfl) ?_
  intro p e s m below meth c E
  have hin5 : ∀ w ∈ u_ws RX5 TX5 19, w ∈ wsX5_rusty := by decide +kernel
  obtain ⟨hs1, hs6, hb0, hb1⟩ := id hPO
  have hsq := sq_le (e := sd a q9) ⟨hs1, hs6⟩
  obtain ⟨hn1, hn7, hpy⟩ := pyN_c (a := a) (p := q9) ⟨hs1, hs6⟩
  refine g_loc (lv' := [(0, .ref (ad 0)), (1, .int (zI (q9 : Int)))]) ⟨rfl, rfl, trivial⟩ ?_
  refine g_iconst E dX5_rusty_0 ?_
  refine g_istore_n E dX5_rusty_1 (by decide) ?_
  refine g_iconst E dX5_rusty_2 ?_
  refine g_istore_n E dX5_rusty_3 (by decide) ?_
  have key_kk : ∀ (n_kk kk : Nat), (kk : Int) ≤ bl a q9 → bl a q9 + 1 ≤ (kk : Int) + n_kk → GW p l e (headSpec wsX5_rusty ({ frames := 1, cells := 0, slots := 0, locals := 22 })).room s m ([.ref (ad 0), .int (zI (q9 : Int))] : List Value).toArray below meth c (MQ below (va_Qi (fun (r : Int32) ws' => r = zI (rustyN a q9 (a 0 0 4) (bl a q9).toNat) ∧ ws' = wM cA ad a th dd kp) (gB D A) A) ([.ref (ad 0), .int (zI (q9 : Int))] : List Value).toArray s 0 0 A) D A 4 (wM cA ad a th dd kp) 0 0 4 [(0, .ref (ad 0)), (1, .int (zI (q9 : Int))), (2, .int (zI (rustyN a q9 (a 0 0 4) kk))), (3, .int (zI (kk : Int)))] [] := by
    intro n_kk
    induction n_kk with
    | zero => intro kk h1 h2; exact absurd h2 (by omega)
    | succ n_kk ih_kk =>
      intro kk hle_kk hfu_kk
      refine g_iload_n E dX5_rusty_4 rfl ?_
      refine g_aload_n E dX5_rusty_5 rfl ?_
      refine gm_M_many E  hin5 (by decide +kernel) dX5_rusty_6 ?_
      refine g_iload_n E dX5_rusty_9 rfl ?_
      first | refine lm_manyN E (by omega) dX5_rusty_10 ?_ | refine lm_many E (by omega) dX5_rusty_10 ?_
      refine g_icmp_ge (tgt := 41) E dX5_rusty_11 (by decide) (by omega) (by omega) (fun c_11 => ?_) (fun c_11 => ?_)
      · refine g_iload_n E dX5_rusty_41 rfl ?_
        exact g_iret E (⟨by rw [show (bl a q9).toNat = kk by omega], rfl⟩) dX5_rusty_42
      · refine g_iload_n E dX5_rusty_14 rfl ?_
        refine g_aload_n E dX5_rusty_15 rfl ?_
        refine g_iload_n E dX5_rusty_16 rfl ?_
        refine g_iload_n E dX5_rusty_17 rfl ?_
        refine g_callVi (T := TX5) (ci := 5) (n := 2) (As := [_, _]) (rest := _) E (m_rustOf l D cA A ad _ _ _ _ _ (by omega) _ (by omega)) gX5_rusty_X5_rustOf rfl ⟨rfl, rfl⟩ (by decide +kernel) ⟨Nat.le_of_ble_eq_true rfl, Nat.le_of_ble_eq_true rfl⟩ obM rfl rfl rfl (Nat.le_of_ble_eq_true rfl) ⟨Nat.le_of_ble_eq_true rfl, Nat.le_of_ble_eq_true rfl⟩ dX5_rusty_18 ?_
        rintro r_18 ws_18 ⟨rfl, rfl⟩
        refine g_aload_n E dX5_rusty_21 rfl ?_
        refine gm_M_limit E  hin5 (by decide +kernel) dX5_rusty_22 ?_
        refine g_icmp_ltR (tgt := 32) E dX5_rusty_25 (by decide) (fun c_25 => ?_) (fun c_25 => ?_)
        · refine g_iconst E dX5_rusty_32 ?_
          refine g_iadd E dX5_rusty_33 ?_
          refine g_istore_n E dX5_rusty_34 (by decide) ?_
          refine g_iinc E dX5_rusty_35 rfl (by decide) ?_
          refine g_goto (tgt := 4) E dX5_rusty_38 (by decide) ?_
          refine g_loc (lv' := [(0, .ref (ad 0)), (1, .int (zI (q9 : Int))), (2, .int (zI (rustyN a q9 (a 0 0 4) (kk + 1)))), (3, .int (zI ((kk + 1) : Int)))]) ⟨rfl, rfl, congrArg (fun z => some (Value.int (zI z))) (by first | (rw [rusty_t c_25]; omega) | rw [rusty_f c_25]), rfl, trivial⟩ ?_
          exact ih_kk (kk + 1) (by omega) (by omega)
        · refine g_iconst E dX5_rusty_28 ?_
          refine g_goto (tgt := 33) E dX5_rusty_29 (by decide) ?_
          refine g_iadd E dX5_rusty_33 ?_
          refine g_istore_n E dX5_rusty_34 (by decide) ?_
          refine g_iinc E dX5_rusty_35 rfl (by decide) ?_
          refine g_goto (tgt := 4) E dX5_rusty_38 (by decide) ?_
          refine g_loc (lv' := [(0, .ref (ad 0)), (1, .int (zI (q9 : Int))), (2, .int (zI (rustyN a q9 (a 0 0 4) (kk + 1)))), (3, .int (zI ((kk + 1) : Int)))]) ⟨rfl, rfl, congrArg (fun z => some (Value.int (zI z))) (by first | (rw [rusty_t c_25]; omega) | rw [rusty_f c_25]), rfl, trivial⟩ ?_
          exact ih_kk (kk + 1) (by omega) (by omega)
  refine g_loc (lv' := [(0, .ref (ad 0)), (1, .int (zI (q9 : Int))), (2, .int (zI (rustyN a q9 (a 0 0 4) 0))), (3, .int (zI (0 : Int)))]) ⟨rfl, rfl, rfl, rfl, trivial⟩ ?_
  exact key_kk ((bl a q9) + 1).toNat.succ 0 (by omega) (by omega)
set_option maxHeartbeats 800000 in
set_option maxRecDepth 100000 in
/-- inPiles(c) -/
theorem m_inPiles (l : Launch) (D : va_G) (cA : Nat → ClassId) (A : Nat → Prop) (ad : Nat → Nat) (a : St) (th dd : Int32) (kp : Nat → Nat → Int32) (hI : Inv a) (c9 : Int) (hc : 0 ≤ c9 ∧ c9 ≤ 4) : Met l yX5_inPiles wsX5_inPiles ({ frames := 0, cells := 0, slots := 0, locals := 0 }) (PcG D (tysX cA) A (wM cA ad a th dd kp) [.ref (ad 0), .int (zI c9)]) (va_Qi (fun (r : Int32) ws' => r = zI (ofCal a c9 (np a).toNat) ∧ ws' = wM cA ad a th dd kp) (gB D A) A) 0 0 A := by
  refine g_met (cc := cX5_inPiles) (maxL := 4) (ret := (some .int)) (own := RX5) rfl (by decide) rfl (Nat.le_of_ble_eq_true rfl) ?_
  intro p e s m below meth c E
  have hin5 : ∀ w ∈ u_ws RX5 TX5 19, w ∈ wsX5_inPiles := by decide +kernel
  obtain ⟨⟨hn0, hn6, hc0, hc3⟩, hPI, hCI, hFr⟩ := id hI
  refine g_loc (lv' := [(0, .ref (ad 0)), (1, .int (zI c9))]) ⟨rfl, rfl, trivial⟩ ?_
  refine g_iconst E dX5_inPiles_0 ?_
  refine g_istore_n E dX5_inPiles_1 (by decide) ?_
  refine g_iconst E dX5_inPiles_2 ?_
  refine g_istore_n E dX5_inPiles_3 (by decide) ?_
  have key_kk : ∀ (n_kk kk : Nat), (kk : Int) ≤ np a → np a + 1 ≤ (kk : Int) + n_kk → GW p l e (headSpec wsX5_inPiles ({ frames := 0, cells := 0, slots := 0, locals := 0 })).room s m ([.ref (ad 0), .int (zI c9)] : List Value).toArray below meth c (MQ below (va_Qi (fun (r : Int32) ws' => r = zI (ofCal a c9 (np a).toNat) ∧ ws' = wM cA ad a th dd kp) (gB D A) A) ([.ref (ad 0), .int (zI c9)] : List Value).toArray s 0 0 A) D A 4 (wM cA ad a th dd kp) 0 0 4 [(0, .ref (ad 0)), (1, .int (zI c9)), (2, .int (zI (ofCal a c9 kk))), (3, .int (zI (kk : Int)))] [] := by
    intro n_kk
    induction n_kk with
    | zero => intro kk h1 h2; exact absurd h2 (by omega)
    | succ n_kk ih_kk =>
      intro kk hle_kk hfu_kk
      have hck : (kk : Int) < np a → 0 ≤ cal a kk ∧ cal a kk ≤ 4 := fun h => (hPI kk h).2
      refine g_iload_n E dX5_inPiles_4 rfl ?_
      refine g_aload_n E dX5_inPiles_5 rfl ?_
      refine gm_M_piles E  hin5 (by decide +kernel) dX5_inPiles_6 ?_
      refine g_icmp_ge (tgt := 41) E dX5_inPiles_9 (by decide) (by omega) (by omega) (fun c_9 => ?_) (fun c_9 => ?_)
      · refine g_iload_n E dX5_inPiles_41 rfl ?_
        exact g_iret E (⟨by rw [show (np a).toNat = kk by omega], rfl⟩) dX5_inPiles_42
      · refine g_iload_n E dX5_inPiles_12 rfl ?_
        refine g_aload_n E dX5_inPiles_13 rfl ?_
        refine gm_M_calibres E  hin5 (by decide +kernel) dX5_inPiles_14 ?_
        refine g_iload_n E dX5_inPiles_17 rfl ?_
        first | refine lm_calibresN E (by omega) dX5_inPiles_18 ?_ | refine lm_calibres E (by omega) dX5_inPiles_18 ?_
        refine g_iload_n E dX5_inPiles_19 rfl ?_
        refine g_icmp_ne (tgt := 32) E dX5_inPiles_20 (by decide) (by omega) (by omega) (fun c_20 => ?_) (fun c_20 => ?_)
        · have hst : ofCal a c9 (kk + 1) = ofCal a c9 kk := if_neg c_20
          refine g_iconst E dX5_inPiles_32 ?_
          refine g_iadd E dX5_inPiles_33 ?_
          refine g_istore_n E dX5_inPiles_34 (by decide) ?_
          refine g_iinc E dX5_inPiles_35 rfl (by decide) ?_
          refine g_goto (tgt := 4) E dX5_inPiles_38 (by decide) ?_
          refine g_loc (lv' := [(0, .ref (ad 0)), (1, .int (zI c9)), (2, .int (zI (ofCal a c9 (kk + 1)))), (3, .int (zI ((kk + 1) : Int)))]) ⟨rfl, rfl, congrArg (fun z => some (Value.int (zI z))) (by rw [hst]; try omega), rfl, trivial⟩ ?_
          exact ih_kk (kk + 1) (by omega) (by omega)
        · have hst : ofCal a c9 (kk + 1) = ofCal a c9 kk + bl a kk := if_pos c_20
          refine g_aload_n E dX5_inPiles_23 rfl ?_
          refine gm_M_many E  hin5 (by decide +kernel) dX5_inPiles_24 ?_
          refine g_iload_n E dX5_inPiles_27 rfl ?_
          first | refine lm_manyN E (by omega) dX5_inPiles_28 ?_ | refine lm_many E (by omega) dX5_inPiles_28 ?_
          refine g_goto (tgt := 33) E dX5_inPiles_29 (by decide) ?_
          refine g_iadd E dX5_inPiles_33 ?_
          refine g_istore_n E dX5_inPiles_34 (by decide) ?_
          refine g_iinc E dX5_inPiles_35 rfl (by decide) ?_
          refine g_goto (tgt := 4) E dX5_inPiles_38 (by decide) ?_
          refine g_loc (lv' := [(0, .ref (ad 0)), (1, .int (zI c9)), (2, .int (zI (ofCal a c9 (kk + 1)))), (3, .int (zI ((kk + 1) : Int)))]) ⟨rfl, rfl, congrArg (fun z => some (Value.int (zI z))) (by rw [hst]; try omega), rfl, trivial⟩ ?_
          exact ih_kk (kk + 1) (by omega) (by omega)
  refine g_loc (lv' := [(0, .ref (ad 0)), (1, .int (zI c9)), (2, .int (zI (ofCal a c9 0))), (3, .int (zI (0 : Int)))]) ⟨rfl, rfl, rfl, rfl, trivial⟩ ?_
  exact key_kk ((np a) + 1).toNat.succ 0 (by omega) (by omega)
set_option maxHeartbeats 800000 in
set_option maxRecDepth 100000 in
/-- calibreTold(c, w) -/
theorem m_calibreTold (l : Launch) (D : va_G) (cA : Nat → ClassId) (A : Nat → Prop) (ad : Nat → Nat) (a : St) (th dd : Int32) (kp : Nat → Nat → Int32) (hI : Inv a) (c9 : Nat) (hc : c9 < 5) (w9 : Int) (hw : 0 ≤ w9 ∧ w9 ≤ 4) : Met l yX5_calibreTold wsX5_calibreTold ({ frames := 1, cells := 0, slots := 0, locals := 23 }) (PcG D (tysX cA) A (wM cA ad a th dd kp) [.ref (ad 0), .int (zI (c9 : Int)), .int (zI w9)]) (va_Qi (fun (r : Int32) ws' => r = toV a c9 w9 ∧ ws' = wM cA ad a th dd kp) (gB D A) A) 0 0 A := by
  refine g_met (cc := cX5_calibreTold) (maxL := 3) (ret := (some .int)) (own := RX5) rfl (by decide) rfl (Nat.le_of_ble_eq_true rfl) ?_
  intro p e s m below meth c E
  have hin5 : ∀ w ∈ u_ws RX5 TX5 19, w ∈ wsX5_calibreTold := by decide +kernel
  obtain ⟨⟨hn0, hn6, hc0, hc3⟩, hPI, hCI, hFr⟩ := id hI
  refine g_loc (lv' := [(0, .ref (ad 0)), (1, .int (zI (c9 : Int))), (2, .int (zI w9))]) ⟨rfl, rfl, rfl, trivial⟩ ?_
  refine g_iload_n E dX5_calibreTold_0 rfl ?_
  refine g_iconst E dX5_calibreTold_1 ?_
  refine g_icmp_ne (tgt := 13) E dX5_calibreTold_2 (by decide) (by omega) (by omega) (fun c_2 => ?_) (fun c_2 => ?_)
  · refine g_aload_n E dX5_calibreTold_13 rfl ?_
    refine gm_M_numbers E  hin5 (by decide +kernel) dX5_calibreTold_14 ?_
    refine g_iconst E dX5_calibreTold_17 ?_
    refine g_iload_n E dX5_calibreTold_18 rfl ?_
    refine g_imul E dX5_calibreTold_19 ?_
    refine g_iload_n E dX5_calibreTold_20 rfl ?_
    refine g_iconst E dX5_calibreTold_21 ?_
    refine g_icmp_ge (tgt := 29) E dX5_calibreTold_22 (by decide) (by omega) (by omega) (fun c_22 => ?_) (fun c_22 => ?_)
    · refine g_iload_n E dX5_calibreTold_29 rfl ?_
      refine g_iconst E dX5_calibreTold_30 ?_
      refine g_isub E dX5_calibreTold_31 ?_
      refine g_iadd E dX5_calibreTold_32 ?_
      first | refine lm_numbers (c9 := c9) (w9 := w9.toNat) E ⟨by omega, by omega⟩ (by omega) dX5_calibreTold_33 ?_ | refine lm_numbers (c9 := c9) (w9 := (w9 - 1).toNat) E ⟨by omega, by omega⟩ (by omega) dX5_calibreTold_33 ?_
      exact g_iret E (⟨by rcases (show w9 = 0 ∨ w9 = 1 ∨ w9 = 2 ∨ w9 = 3 ∨ w9 = 4 by omega) with rfl | rfl | rfl | rfl | rfl <;> first | omega | rfl, rfl⟩) dX5_calibreTold_34
    · refine g_iload_n E dX5_calibreTold_25 rfl ?_
      refine g_goto (tgt := 32) E dX5_calibreTold_26 (by decide) ?_
      refine g_iadd E dX5_calibreTold_32 ?_
      first | refine lm_numbers (c9 := c9) (w9 := w9.toNat) E ⟨by omega, by omega⟩ (by omega) dX5_calibreTold_33 ?_ | refine lm_numbers (c9 := c9) (w9 := (w9 - 1).toNat) E ⟨by omega, by omega⟩ (by omega) dX5_calibreTold_33 ?_
      exact g_iret E (⟨by rcases (show w9 = 0 ∨ w9 = 1 ∨ w9 = 2 ∨ w9 = 3 ∨ w9 = 4 by omega) with rfl | rfl | rfl | rfl | rfl <;> first | omega | rfl, rfl⟩) dX5_calibreTold_34
  · refine g_aload_n E dX5_calibreTold_5 rfl ?_
    refine g_iload_n E dX5_calibreTold_6 rfl ?_
    refine g_callVi (T := TX5) (ci := 5) (n := 1) (As := [_]) (rest := _) E (m_inPiles l D cA A ad _ _ _ _ (by assumption) _ (by omega)) gX5_calibreTold_X5_inPiles rfl ⟨rfl, rfl⟩ (by decide +kernel) ⟨Nat.le_of_ble_eq_true rfl, Nat.le_of_ble_eq_true rfl⟩ obM rfl rfl rfl (Nat.le_of_ble_eq_true rfl) ⟨Nat.le_of_ble_eq_true rfl, Nat.le_of_ble_eq_true rfl⟩ dX5_calibreTold_7 ?_
    rintro r_7 ws_7 ⟨rfl, rfl⟩
    refine g_goto (tgt := 34) E dX5_calibreTold_10 (by decide) ?_
    exact g_iret E (⟨by rcases (show w9 = 0 ∨ w9 = 1 ∨ w9 = 2 ∨ w9 = 3 ∨ w9 = 4 by omega) with rfl | rfl | rfl | rfl | rfl <;> first | omega | rfl, rfl⟩) dX5_calibreTold_34
set_option maxHeartbeats 800000 in
set_option maxRecDepth 100000 in
/-- catTold(c, w) -/
theorem m_catTold (l : Launch) (D : va_G) (cA : Nat → ClassId) (A : Nat → Prop) (ad : Nat → Nat) (a : St) (th dd : Int32) (kp : Nat → Nat → Int32) (q9 : Nat) (hq : q9 < 3) (hlp : ¬ a 3 q9 0 = 0) (w9 : Int) (hw : 0 ≤ w9 ∧ w9 ≤ 2) : Met l yX5_catTold wsX5_catTold ({ frames := 0, cells := 0, slots := 0, locals := 0 }) (PcG D (tysX cA) A (wM cA ad a th dd kp) [.ref (ad 0), .int (zI (q9 : Int)), .int (zI w9)]) (va_Qi (fun (r : Int32) ws' => r = moV a q9 w9 ∧ ws' = wM cA ad a th dd kp) (gB D A) A) 0 0 A := by
  refine g_met (cc := cX5_catTold) (maxL := 3) (ret := (some .int)) (own := RX5) rfl (by decide) rfl (Nat.le_of_ble_eq_true rfl) ?_
  intro p e s m below meth c E
  have hin5 : ∀ w ∈ u_ws RX5 TX5 19, w ∈ wsX5_catTold := by decide +kernel
  refine g_loc (lv' := [(0, .ref (ad 0)), (1, .int (zI (q9 : Int))), (2, .int (zI w9))]) ⟨rfl, rfl, rfl, trivial⟩ ?_
  refine g_iload_n E dX5_catTold_0 rfl ?_
  refine g_if_ne (tgt := 13) E dX5_catTold_1 (by decide) (by omega) (fun c_1 => ?_) (fun c_1 => ?_)
  · refine g_iload_n E dX5_catTold_13 rfl ?_
    refine g_iconst E dX5_catTold_14 ?_
    refine g_icmp_ne (tgt := 27) E dX5_catTold_15 (by decide) (by omega) (by omega) (fun c_15 => ?_) (fun c_15 => ?_)
    · refine g_aload_n E dX5_catTold_27 rfl ?_
      refine gm_M_rolled E  hin5 (by decide +kernel) dX5_catTold_28 ?_
      refine g_iload_n E dX5_catTold_31 rfl ?_
      first | refine lm_rolledN E (by omega) dX5_catTold_32 ?_ | refine lm_rolled E (by omega) dX5_catTold_32 ?_
      exact g_iret E (⟨by rcases (show w9 = 0 ∨ w9 = 1 ∨ w9 = 2 by omega) with rfl | rfl | rfl <;> first | omega | rfl, rfl⟩) dX5_catTold_33
    · refine g_aload_n E dX5_catTold_18 rfl ?_
      refine gm_M_where E  hin5 (by decide +kernel) dX5_catTold_19 ?_
      refine g_iload_n E dX5_catTold_22 rfl ?_
      first | refine lm_whereN E hlp (by omega) dX5_catTold_23 ?_ | refine lm_where E hlp (by omega) dX5_catTold_23 ?_
      refine g_goto (tgt := 33) E dX5_catTold_24 (by decide) ?_
      exact g_iret E (⟨by rcases (show w9 = 0 ∨ w9 = 1 ∨ w9 = 2 by omega) with rfl | rfl | rfl <;> first | omega | rfl, rfl⟩) dX5_catTold_33
  · refine g_aload_n E dX5_catTold_4 rfl ?_
    refine gm_M_leaps E  hin5 (by decide +kernel) dX5_catTold_5 ?_
    refine g_iload_n E dX5_catTold_8 rfl ?_
    first | refine lm_leapsN E (by omega) dX5_catTold_9 ?_ | refine lm_leaps E (by omega) dX5_catTold_9 ?_
    refine g_goto (tgt := 33) E dX5_catTold_10 (by decide) ?_
    exact g_iret E (⟨by rcases (show w9 = 0 ∨ w9 = 1 ∨ w9 = 2 by omega) with rfl | rfl | rfl <;> first | omega | rfl, rfl⟩) dX5_catTold_33
set_option maxHeartbeats 800000 in
set_option maxRecDepth 100000 in
/-- all(w) -/
theorem m_all (l : Launch) (D : va_G) (cA : Nat → ClassId) (A : Nat → Prop) (ad : Nat → Nat) (a : St) (th dd : Int32) (kp : Nat → Nat → Int32) (hI : Inv a) (w9 : Int) (hw : 0 ≤ w9 ∧ w9 ≤ 4) : Met l yX5_all wsX5_all ({ frames := 2, cells := 0, slots := 0, locals := 45 }) (PcG D (tysX cA) A (wM cA ad a th dd kp) [.ref (ad 0), .int (zI w9)]) (va_Qi (fun (r : Int32) ws' => r = allV a w9 ∧ ws' = wM cA ad a th dd kp) (gB D A) A) 0 0 A := by
  refine g_met (cc := cX5_all) (maxL := 4) (ret := (some .int)) (own := RX5) rfl (by decide) rfl (Nat.le_of_ble_eq_true rfl) ?_
  intro p e s m below meth c E
  have hin5 : ∀ w ∈ u_ws RX5 TX5 19, w ∈ wsX5_all := by decide +kernel
  obtain ⟨⟨hn0, hn6, hc0, hc3⟩, hPI, hCI, hFr⟩ := id hI
  refine g_loc (lv' := [(0, .ref (ad 0)), (1, .int (zI w9))]) ⟨rfl, rfl, trivial⟩ ?_
  refine g_iconst E dX5_all_0 ?_
  refine g_istore_n E dX5_all_1 (by decide) ?_
  refine g_iconst E dX5_all_2 ?_
  refine g_istore_n E dX5_all_3 (by decide) ?_
  have key_kk : ∀ (n_kk kk : Nat), (kk : Int) ≤ (5 : Int) → (5 : Int) + 1 ≤ (kk : Int) + n_kk → GW p l e (headSpec wsX5_all ({ frames := 2, cells := 0, slots := 0, locals := 45 })).room s m ([.ref (ad 0), .int (zI w9)] : List Value).toArray below meth c (MQ below (va_Qi (fun (r : Int32) ws' => r = allV a w9 ∧ ws' = wM cA ad a th dd kp) (gB D A) A) ([.ref (ad 0), .int (zI w9)] : List Value).toArray s 0 0 A) D A 4 (wM cA ad a th dd kp) 0 0 4 [(0, .ref (ad 0)), (1, .int (zI w9)), (2, .int (sum5 (fun c => toV a c w9) kk)), (3, .int (zI (kk : Int)))] [] := by
    intro n_kk
    induction n_kk with
    | zero => intro kk h1 h2; exact absurd h2 (by omega)
    | succ n_kk ih_kk =>
      intro kk hle_kk hfu_kk
      refine g_iload_n E dX5_all_4 rfl ?_
      refine g_iconst E dX5_all_5 ?_
      refine g_icmp_ge (tgt := 24) E dX5_all_6 (by decide) (by omega) (by omega) (fun c_6 => ?_) (fun c_6 => ?_)
      · refine g_iload_n E dX5_all_24 rfl ?_
        exact g_iret E (⟨by rw [show kk = 5 by omega]; rfl, rfl⟩) dX5_all_25
      · refine g_iload_n E dX5_all_9 rfl ?_
        refine g_aload_n E dX5_all_10 rfl ?_
        refine g_iload_n E dX5_all_11 rfl ?_
        refine g_iload_n E dX5_all_12 rfl ?_
        refine g_callVi (T := TX5) (ci := 5) (n := 2) (As := [_, _]) (rest := _) E (m_calibreTold l D cA A ad _ _ _ _ (by assumption) _ (by omega) _ (by omega)) gX5_all_X5_calibreTold rfl ⟨rfl, rfl⟩ (by decide +kernel) ⟨Nat.le_of_ble_eq_true rfl, Nat.le_of_ble_eq_true rfl⟩ obM rfl rfl rfl (Nat.le_of_ble_eq_true rfl) ⟨Nat.le_of_ble_eq_true rfl, Nat.le_of_ble_eq_true rfl⟩ dX5_all_13 ?_
        rintro r_13 ws_13 ⟨rfl, rfl⟩
        refine g_iaddR E dX5_all_16 ?_
        refine g_istore_n E dX5_all_17 (by decide) ?_
        refine g_iinc E dX5_all_18 rfl (by decide) ?_
        refine g_goto (tgt := 4) E dX5_all_21 (by decide) ?_
        refine g_loc (lv' := [(0, .ref (ad 0)), (1, .int (zI w9)), (2, .int (sum5 (fun c => toV a c w9) (kk + 1))), (3, .int (zI ((kk + 1) : Int)))]) ⟨rfl, rfl, rfl, rfl, trivial⟩ ?_
        exact ih_kk (kk + 1) (by omega) (by omega)
  refine g_loc (lv' := [(0, .ref (ad 0)), (1, .int (zI w9)), (2, .int (sum5 (fun c => toV a c w9) 0)), (3, .int (zI (0 : Int)))]) ⟨rfl, rfl, rfl, rfl, trivial⟩ ?_
  exact key_kk (((5 : Int)) + 1).toNat.succ 0 (by omega) (by omega)
set_option maxHeartbeats 800000 in
set_option maxRecDepth 100000 in
/-- counted(w) -/
theorem m_counted (l : Launch) (D : va_G) (cA : Nat → ClassId) (A : Nat → Prop) (ad : Nat → Nat) (a : St) (th dd : Int32) (kp : Nat → Nat → Int32) (hI : Inv a) (w9 : Int) (hw : 0 ≤ w9 ∧ w9 ≤ 10) (hdd : w9 = 0 → dd = a 0 0 2) : Met l yX5_counted wsX5_counted ({ frames := 3, cells := 0, slots := 0, locals := 68 }) (PcG D (tysX cA) A (wM cA ad a th dd kp) [.ref (ad 0), .int (zI w9)]) (va_Qi (fun (r : Int32) ws' => r = coV a w9 ∧ ws' = wM cA ad a th dd kp) (gB D A) A) 0 0 A := by
  refine g_met (cc := cX5_counted) (maxL := 4) (ret := (some .int)) (own := RX5) rfl (by decide) rfl (Nat.le_of_ble_eq_true rfl) ?_
  intro p e s m below meth c E
  have hin5 : ∀ w ∈ u_ws RX5 TX5 19, w ∈ wsX5_counted := by decide +kernel
  obtain ⟨⟨hn0, hn6, hc0, hc3⟩, hPI, hCI, hFr⟩ := id hI
  refine g_loc (lv' := [(0, .ref (ad 0)), (1, .int (zI w9))]) ⟨rfl, rfl, trivial⟩ ?_
  refine g_iconst E dX5_counted_0 ?_
  refine g_istore_n E dX5_counted_1 (by decide) ?_
  refine g_iload_n E dX5_counted_2 rfl ?_
  by_cases sw_3_0 : w9 = 0
  · subst sw_3_0
    refine g_tab (tgt := 56) E dX5_counted_3 (by decide) (by decide) (by decide) rfl (by decide) ?_
    refine g_aload_n E dX5_counted_56 rfl ?_
    refine gm_M_day E  hin5 (by decide +kernel) dX5_counted_57 ?_
    exact g_iret E (⟨hdd rfl, rfl⟩) dX5_counted_60
  by_cases sw_3_1 : w9 = 1
  · subst sw_3_1
    refine g_tab (tgt := 61) E dX5_counted_3 (by decide) (by decide) (by decide) rfl (by decide) ?_
    refine g_aload_n E dX5_counted_61 rfl ?_
    refine gm_M_piles E  hin5 (by decide +kernel) dX5_counted_62 ?_
    exact g_iret E (⟨rfl, rfl⟩) dX5_counted_65
  by_cases sw_3_2 : w9 = 2
  · subst sw_3_2
    refine g_tab (tgt := 66) E dX5_counted_3 (by decide) (by decide) (by decide) rfl (by decide) ?_
    refine g_aload_n E dX5_counted_66 rfl ?_
    refine gm_M_cats E  hin5 (by decide +kernel) dX5_counted_67 ?_
    exact g_iret E (⟨rfl, rfl⟩) dX5_counted_70
  by_cases sw_3_3 : w9 = 3
  · subst sw_3_3
    refine g_tab (tgt := 71) E dX5_counted_3 (by decide) (by decide) (by decide) rfl (by decide) ?_
    refine g_aload_n E dX5_counted_71 rfl ?_
    refine g_iconst E dX5_counted_72 ?_
    refine g_callVi (T := TX5) (ci := 5) (n := 1) (As := [_]) (rest := _) E (m_all l D cA A ad _ _ _ _ (by assumption) _ (by omega)) gX5_counted_X5_all rfl ⟨rfl, rfl⟩ (by decide +kernel) ⟨Nat.le_of_ble_eq_true rfl, Nat.le_of_ble_eq_true rfl⟩ obM rfl rfl rfl (Nat.le_of_ble_eq_true rfl) ⟨Nat.le_of_ble_eq_true rfl, Nat.le_of_ble_eq_true rfl⟩ dX5_counted_73 ?_
    rintro r_73 ws_73 ⟨rfl, rfl⟩
    exact g_iret E (⟨rfl, rfl⟩) dX5_counted_76
  by_cases sw_3_4 : w9 = 4
  · subst sw_3_4
    refine g_tab (tgt := 77) E dX5_counted_3 (by decide) (by decide) (by decide) rfl (by decide) ?_
    refine g_aload_n E dX5_counted_77 rfl ?_
    refine g_iconst E dX5_counted_78 ?_
    refine g_callVi (T := TX5) (ci := 5) (n := 1) (As := [_]) (rest := _) E (m_all l D cA A ad _ _ _ _ (by assumption) _ (by omega)) gX5_counted_X5_all rfl ⟨rfl, rfl⟩ (by decide +kernel) ⟨Nat.le_of_ble_eq_true rfl, Nat.le_of_ble_eq_true rfl⟩ obM rfl rfl rfl (Nat.le_of_ble_eq_true rfl) ⟨Nat.le_of_ble_eq_true rfl, Nat.le_of_ble_eq_true rfl⟩ dX5_counted_79 ?_
    rintro r_79 ws_79 ⟨rfl, rfl⟩
    exact g_iret E (⟨rfl, rfl⟩) dX5_counted_82
  by_cases sw_3_5 : w9 = 5
  · subst sw_3_5
    refine g_tab (tgt := 83) E dX5_counted_3 (by decide) (by decide) (by decide) rfl (by decide) ?_
    refine g_aload_n E dX5_counted_83 rfl ?_
    refine g_iconst E dX5_counted_84 ?_
    refine g_callVi (T := TX5) (ci := 5) (n := 1) (As := [_]) (rest := _) E (m_all l D cA A ad _ _ _ _ (by assumption) _ (by omega)) gX5_counted_X5_all rfl ⟨rfl, rfl⟩ (by decide +kernel) ⟨Nat.le_of_ble_eq_true rfl, Nat.le_of_ble_eq_true rfl⟩ obM rfl rfl rfl (Nat.le_of_ble_eq_true rfl) ⟨Nat.le_of_ble_eq_true rfl, Nat.le_of_ble_eq_true rfl⟩ dX5_counted_85 ?_
    rintro r_85 ws_85 ⟨rfl, rfl⟩
    exact g_iret E (⟨sum5_ofCal (fun p hp => (hPI p hp).2) (np a).toNat (by omega), rfl⟩) dX5_counted_88
  by_cases sw_3_6 : w9 = 6
  · subst sw_3_6
    refine g_tab (tgt := 89) E dX5_counted_3 (by decide) (by decide) (by decide) rfl (by decide) ?_
    refine g_iconst E dX5_counted_89 ?_
    refine g_istore_n E dX5_counted_90 (by decide) ?_
    have key_kk : ∀ (n_kk kk : Nat), (kk : Int) ≤ np a → np a + 1 ≤ (kk : Int) + n_kk → GW p l e (headSpec wsX5_counted ({ frames := 3, cells := 0, slots := 0, locals := 68 })).room s m ([.ref (ad 0), .int (zI 6)] : List Value).toArray below meth c (MQ below (va_Qi (fun (r : Int32) ws' => r = coV a 6 ∧ ws' = wM cA ad a th dd kp) (gB D A) A) ([.ref (ad 0), .int (zI 6)] : List Value).toArray s 0 0 A) D A 4 (wM cA ad a th dd kp) 0 0 91 [(0, .ref (ad 0)), (1, .int (zI 6)), (2, .int (zI (ruAll a kk))), (3, .int (zI (kk : Int)))] [] := by
      intro n_kk
      induction n_kk with
      | zero => intro kk h1 h2; exact absurd h2 (by omega)
      | succ n_kk ih_kk =>
        intro kk hle_kk hfu_kk
        have hPk := fun h : (kk : Int) < np a => (hPI kk h).1
        refine g_iload_n E dX5_counted_91 rfl ?_
        refine g_aload_n E dX5_counted_92 rfl ?_
        refine gm_M_piles E  hin5 (by decide +kernel) dX5_counted_93 ?_
        refine g_icmp_ge (tgt := 113) E dX5_counted_96 (by decide) (by omega) (by omega) (fun c_96 => ?_) (fun c_96 => ?_)
        · refine g_iload_n E dX5_counted_113 rfl ?_
          exact g_iret E (⟨by rw [show kk = (np a).toNat by omega]; rfl, rfl⟩) dX5_counted_114
        · refine g_iload_n E dX5_counted_99 rfl ?_
          refine g_aload_n E dX5_counted_100 rfl ?_
          refine g_iload_n E dX5_counted_101 rfl ?_
          have hPO := hPk (by omega)
          have hru := rusty_b a kk (a 0 0 4) (bl a kk).toNat
          refine g_callVi (T := TX5) (ci := 5) (n := 1) (As := [_]) (rest := _) E (m_rusty l D cA A ad _ _ _ _ _ (by omega) (by assumption)) gX5_counted_X5_rusty rfl ⟨rfl, rfl⟩ (by decide +kernel) ⟨Nat.le_of_ble_eq_true rfl, Nat.le_of_ble_eq_true rfl⟩ obM rfl rfl rfl (Nat.le_of_ble_eq_true rfl) ⟨Nat.le_of_ble_eq_true rfl, Nat.le_of_ble_eq_true rfl⟩ dX5_counted_102 ?_
          rintro r_102 ws_102 ⟨rfl, rfl⟩
          refine g_iadd E dX5_counted_105 ?_
          refine g_istore_n E dX5_counted_106 (by decide) ?_
          refine g_iinc E dX5_counted_107 rfl (by decide) ?_
          refine g_goto (tgt := 91) E dX5_counted_110 (by decide) ?_
          refine g_loc (lv' := [(0, .ref (ad 0)), (1, .int (zI 6)), (2, .int (zI (ruAll a (kk + 1)))), (3, .int (zI ((kk + 1) : Int)))]) ⟨rfl, rfl, congrArg (fun z => some (Value.int (zI z))) rfl, rfl, trivial⟩ ?_
          exact ih_kk (kk + 1) (by omega) (by omega)
    refine g_loc (lv' := [(0, .ref (ad 0)), (1, .int (zI 6)), (2, .int (zI (ruAll a 0))), (3, .int (zI (0 : Int)))]) ⟨rfl, rfl, rfl, rfl, trivial⟩ ?_
    exact key_kk ((np a) + 1).toNat.succ 0 (by omega) (by omega)
  by_cases sw_3_7 : w9 = 7
  · subst sw_3_7
    refine g_tab (tgt := 115) E dX5_counted_3 (by decide) (by decide) (by decide) rfl (by decide) ?_
    refine g_aload_n E dX5_counted_115 rfl ?_
    refine g_iconst E dX5_counted_116 ?_
    refine g_callVi (T := TX5) (ci := 5) (n := 1) (As := [_]) (rest := _) E (m_all l D cA A ad _ _ _ _ (by assumption) _ (by omega)) gX5_counted_X5_all rfl ⟨rfl, rfl⟩ (by decide +kernel) ⟨Nat.le_of_ble_eq_true rfl, Nat.le_of_ble_eq_true rfl⟩ obM rfl rfl rfl (Nat.le_of_ble_eq_true rfl) ⟨Nat.le_of_ble_eq_true rfl, Nat.le_of_ble_eq_true rfl⟩ dX5_counted_117 ?_
    rintro r_117 ws_117 ⟨rfl, rfl⟩
    exact g_iret E (⟨rfl, rfl⟩) dX5_counted_120
  by_cases sw_3_8 : w9 = 8
  · subst sw_3_8
    refine g_tab (tgt := 121) E dX5_counted_3 (by decide) (by decide) (by decide) rfl (by decide) ?_
    refine g_aload_n E dX5_counted_121 rfl ?_
    refine g_iconst E dX5_counted_122 ?_
    refine g_callVi (T := TX5) (ci := 5) (n := 1) (As := [_]) (rest := _) E (m_all l D cA A ad _ _ _ _ (by assumption) _ (by omega)) gX5_counted_X5_all rfl ⟨rfl, rfl⟩ (by decide +kernel) ⟨Nat.le_of_ble_eq_true rfl, Nat.le_of_ble_eq_true rfl⟩ obM rfl rfl rfl (Nat.le_of_ble_eq_true rfl) ⟨Nat.le_of_ble_eq_true rfl, Nat.le_of_ble_eq_true rfl⟩ dX5_counted_123 ?_
    rintro r_123 ws_123 ⟨rfl, rfl⟩
    exact g_iret E (⟨rfl, rfl⟩) dX5_counted_126
  by_cases sw_3_9 : w9 = 9
  · subst sw_3_9
    refine g_tab (tgt := 127) E dX5_counted_3 (by decide) (by decide) (by decide) rfl (by decide) ?_
    refine g_aload_n E dX5_counted_127 rfl ?_
    refine gm_M_rain E  hin5 (by decide +kernel) dX5_counted_128 ?_
    exact g_iret E (⟨rfl, rfl⟩) dX5_counted_131
  refine g_tabOut (tgt := 132) E dX5_counted_3 (by omega) (by omega) (by decide) ?_
  refine g_aload_n E dX5_counted_132 rfl ?_
  refine gm_M_limit E  hin5 (by decide +kernel) dX5_counted_133 ?_
  exact g_iret E (⟨(by obtain rfl : w9 = 10 := (by omega); rfl), rfl⟩) dX5_counted_136
