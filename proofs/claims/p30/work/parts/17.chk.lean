/-! ===== MAIN: the checks ===== -/
theorem it0 {C : Prop} [Decidable C] (h : (if C then (0 : Int) else 1) = 0) : C := by
  by_cases hc : C
  · exact hc
  · rw [if_neg hc] at h; exact absurd h (by decide)
theorem it1 {C : Prop} [Decidable C] (h : ¬ (if C then (0 : Int) else 1) = 0) : ¬ C := fun hc => h (if_pos hc)
set_option maxHeartbeats 800000 in
set_option maxRecDepth 100000 in
/-- isOutside(v, lo, hi) -/
theorem c_X4_isOutside (l : Launch) (D : va_G) (tys : gT) (A : Nat → Prop) (ws : va_W) (v9 l9 h9 : Int) (hb : R31 v9 ∧ R31 l9 ∧ R31 h9) : Met l yX4_isOutside wsX4_isOutside ({ frames := 0, cells := 0, slots := 0, locals := 0 }) (PcG D tys A (ws) [.int (zI v9), .int (zI l9), .int (zI h9)]) (va_Qi (fun (r : Int32) ws' => r = zI (if l9 ≤ v9 ∧ v9 ≤ h9 then 0 else 1) ∧ ws' = ws) (gB D A) A) 0 0 A := by
  refine g_met (cc := cX4_isOutside) (maxL := 3) (ret := (some .boolean)) (own := RX4) rfl (by decide) rfl (Nat.le_of_ble_eq_true rfl) ?_
  intro p e s m below meth c E
  obtain ⟨⟨h1, h2⟩, ⟨h3, h4⟩, ⟨h5, h6⟩⟩ := hb
  refine g_loc (lv' := [(0, .int (zI v9)), (1, .int (zI l9)), (2, .int (zI h9))]) ⟨rfl, rfl, rfl, trivial⟩ ?_
  refine g_iload_n E dX4_isOutside_0 rfl ?_
  refine g_iload_n E dX4_isOutside_1 rfl ?_
  refine g_icmp_lt (tgt := 10) E dX4_isOutside_2 (by decide) (by omega) (by omega) (fun c_2 => ?_) (fun c_2 => ?_)
  · refine g_iconst E dX4_isOutside_10 ?_
    refine g_goto (tgt := 15) E dX4_isOutside_11 (by decide) ?_
    exact g_zret E (by decide) (⟨congrArg zI (by first | exact (if_pos (by omega)).symm | exact (if_neg (by omega)).symm), rfl⟩) dX4_isOutside_15
  · refine g_iload_n E dX4_isOutside_5 rfl ?_
    refine g_iload_n E dX4_isOutside_6 rfl ?_
    refine g_icmp_le (tgt := 14) E dX4_isOutside_7 (by decide) (by omega) (by omega) (fun c_7 => ?_) (fun c_7 => ?_)
    · refine g_iconst E dX4_isOutside_14 ?_
      exact g_zret E (by decide) (⟨congrArg zI (by first | exact (if_pos (by omega)).symm | exact (if_neg (by omega)).symm), rfl⟩) dX4_isOutside_15
    · refine g_iconst E dX4_isOutside_10 ?_
      refine g_goto (tgt := 15) E dX4_isOutside_11 (by decide) ?_
      exact g_zret E (by decide) (⟨congrArg zI (by first | exact (if_pos (by omega)).symm | exact (if_neg (by omega)).symm), rfl⟩) dX4_isOutside_15
set_option maxHeartbeats 800000 in
set_option maxRecDepth 100000 in
/-- checkPile(p) -/
theorem c_X4_checkPile (l : Launch) (hl0 : l.stackTraces = false) (D : va_G) (cA : Nat → ClassId) (A : Nat → Prop) (ad : Ad) (σ : Nat → St) (a : St) (hI : Inv a) (p9 : Int) (hp : R31 p9) : vx_Met l yX4_checkPile wsX4_checkPile ({ frames := 6, cells := 1, slots := 6, locals := 86 }) (PcZ D (tysX cA) A (wX cA ad (upY σ 0 a)) [.ref (ad 0 8 0), .int (zI p9)]) (va_Qv (fun ws' => (0 ≤ p9 ∧ p9 < np a) ∧ ws' = wX cA ad (upY σ 0 a)) (gB D A) A) (XQ D A (fun E9 => E9 = xI ∧ ¬ (0 ≤ p9 ∧ p9 < np a)) (wX cA ad (upY σ 0 a))) 1 6 A := by
  refine g_metx (cc := cX4_checkPile) (maxL := 2) (ret := none) (own := RX4) hl0 rfl (by decide) rfl (Nat.le_of_ble_eq_true rfl) ?_
  intro p e s m below meth c E Z
  have hin3 : ∀ w ∈ u_ws RX3 TX3 8, w ∈ wsX4_checkPile := by decide +kernel
  have hin4 : ∀ w ∈ u_ws RX4 TX4 6, w ∈ wsX4_checkPile := by decide +kernel
  obtain ⟨⟨hn0, hn6, hc0, hc3⟩, hPI, hCI, hFr⟩ := id hI
  obtain ⟨h1, h2⟩ := hp
  refine g_loc (lv' := [(0, .ref (ad 0 8 0)), (1, .int (zI p9))]) ⟨rfl, rfl, trivial⟩ ?_
  refine g_iload_n E dX4_checkPile_0 rfl ?_
  refine g_iconst E dX4_checkPile_1 ?_
  refine g_aload_n E dX4_checkPile_2 rfl ?_
  refine gx_Main_yard E mem_8 hin4 (by decide +kernel) dX4_checkPile_3 ?_
  refine gx_Yard_pileCount' E (mem_y _ (by omega)) hin3 (by decide +kernel) dX4_checkPile_6 ?_
  refine g_iconst E dX4_checkPile_9 ?_
  refine g_isub E dX4_checkPile_10 ?_
  refine g_callTi (n := 3) (As := [_, _, _]) (rest := _) E (c_X4_isOutside l D _ A _ _ _ _ (by omega)) gX4_checkPile_X4_isOutside rfl ⟨rfl, rfl⟩ (by decide +kernel) ⟨Nat.le_of_ble_eq_true rfl, Nat.le_of_ble_eq_true rfl⟩ rfl rfl (Nat.le_of_ble_eq_true rfl) ⟨Nat.le_of_ble_eq_true rfl, Nat.le_of_ble_eq_true rfl⟩ dX4_checkPile_11 ?_
  rintro r_11 ws_11 ⟨rfl, rfl⟩
  refine g_if_eq (tgt := 28) E dX4_checkPile_14 (by decide) (by omega) (fun c_14 => ?_) (fun c_14 => ?_)
  · refine g_wid (k := 1) (n := 6) (Nat.le_of_ble_eq_true rfl) (Nat.le_of_ble_eq_true rfl) ?_
    refine g_xret ?_
    exact g_vret E (⟨by have := it0 c_14; omega, rfl⟩) dX4_checkPile_28
  · exact g_throwW (is := 275) E Z (by decide +kernel) (by decide +kernel) (by decide +kernel) rfl (List.mem_of_getElem? (i := 16) rfl) (fun w h => by first | exact List.mem_cons_of_mem _ (List.mem_append_right _ h) | exact List.mem_cons_of_mem _ (List.mem_append_left _ (List.mem_append_right _ h)) | exact List.mem_cons_of_mem _ (List.mem_append_left _ (List.mem_append_left _ (List.mem_append_right _ h)))) nb_xI gd_xI dX4_checkPile_17 dX4_checkPile_20 dX4_checkPile_21 dX4_checkPile_24 dX4_checkPile_27 (Nat.le_of_ble_eq_true rfl) (Nat.le_of_ble_eq_true rfl) ⟨Nat.le_of_ble_eq_true rfl, Nat.le_of_ble_eq_true rfl⟩ ⟨Nat.le_of_ble_eq_true rfl, Nat.le_of_ble_eq_true rfl⟩ (⟨rfl, fun q => it1 c_14 (by omega)⟩)
set_option maxHeartbeats 800000 in
set_option maxRecDepth 100000 in
/-- checkCat(c) -/
theorem c_X4_checkCat (l : Launch) (hl0 : l.stackTraces = false) (D : va_G) (cA : Nat → ClassId) (A : Nat → Prop) (ad : Ad) (σ : Nat → St) (a : St) (hI : Inv a) (p9 : Int) (hp : R31 p9) : vx_Met l yX4_checkCat wsX4_checkCat ({ frames := 6, cells := 1, slots := 6, locals := 86 }) (PcZ D (tysX cA) A (wX cA ad (upY σ 0 a)) [.ref (ad 0 8 0), .int (zI p9)]) (va_Qv (fun ws' => (0 ≤ p9 ∧ p9 < nc a) ∧ ws' = wX cA ad (upY σ 0 a)) (gB D A) A) (XQ D A (fun E9 => E9 = xI ∧ ¬ (0 ≤ p9 ∧ p9 < nc a)) (wX cA ad (upY σ 0 a))) 1 6 A := by
  refine g_metx (cc := cX4_checkCat) (maxL := 2) (ret := none) (own := RX4) hl0 rfl (by decide) rfl (Nat.le_of_ble_eq_true rfl) ?_
  intro p e s m below meth c E Z
  have hin3 : ∀ w ∈ u_ws RX3 TX3 8, w ∈ wsX4_checkCat := by decide +kernel
  have hin4 : ∀ w ∈ u_ws RX4 TX4 6, w ∈ wsX4_checkCat := by decide +kernel
  obtain ⟨⟨hn0, hn6, hc0, hc3⟩, hPI, hCI, hFr⟩ := id hI
  obtain ⟨h1, h2⟩ := hp
  refine g_loc (lv' := [(0, .ref (ad 0 8 0)), (1, .int (zI p9))]) ⟨rfl, rfl, trivial⟩ ?_
  refine g_iload_n E dX4_checkCat_0 rfl ?_
  refine g_iconst E dX4_checkCat_1 ?_
  refine g_aload_n E dX4_checkCat_2 rfl ?_
  refine gx_Main_yard E mem_8 hin4 (by decide +kernel) dX4_checkCat_3 ?_
  refine gx_Yard_catCount' E (mem_y _ (by omega)) hin3 (by decide +kernel) dX4_checkCat_6 ?_
  refine g_iconst E dX4_checkCat_9 ?_
  refine g_isub E dX4_checkCat_10 ?_
  refine g_callTi (n := 3) (As := [_, _, _]) (rest := _) E (c_X4_isOutside l D _ A _ _ _ _ (by omega)) gX4_checkCat_X4_isOutside rfl ⟨rfl, rfl⟩ (by decide +kernel) ⟨Nat.le_of_ble_eq_true rfl, Nat.le_of_ble_eq_true rfl⟩ rfl rfl (Nat.le_of_ble_eq_true rfl) ⟨Nat.le_of_ble_eq_true rfl, Nat.le_of_ble_eq_true rfl⟩ dX4_checkCat_11 ?_
  rintro r_11 ws_11 ⟨rfl, rfl⟩
  refine g_if_eq (tgt := 28) E dX4_checkCat_14 (by decide) (by omega) (fun c_14 => ?_) (fun c_14 => ?_)
  · refine g_wid (k := 1) (n := 6) (Nat.le_of_ble_eq_true rfl) (Nat.le_of_ble_eq_true rfl) ?_
    refine g_xret ?_
    exact g_vret E (⟨by have := it0 c_14; omega, rfl⟩) dX4_checkCat_28
  · exact g_throwW (is := 277) E Z (by decide +kernel) (by decide +kernel) (by decide +kernel) rfl (List.mem_of_getElem? (i := 17) rfl) (fun w h => by first | exact List.mem_cons_of_mem _ (List.mem_append_right _ h) | exact List.mem_cons_of_mem _ (List.mem_append_left _ (List.mem_append_right _ h)) | exact List.mem_cons_of_mem _ (List.mem_append_left _ (List.mem_append_left _ (List.mem_append_right _ h)))) nb_xI gd_xI dX4_checkCat_17 dX4_checkCat_20 dX4_checkCat_21 dX4_checkCat_24 dX4_checkCat_27 (Nat.le_of_ble_eq_true rfl) (Nat.le_of_ble_eq_true rfl) ⟨Nat.le_of_ble_eq_true rfl, Nat.le_of_ble_eq_true rfl⟩ ⟨Nat.le_of_ble_eq_true rfl, Nat.le_of_ble_eq_true rfl⟩ (⟨rfl, fun q => it1 c_14 (by omega)⟩)
set_option maxHeartbeats 800000 in
set_option maxRecDepth 100000 in
/-- checkCalibre(c) -/
theorem c_X4_checkCalibre (l : Launch) (hl0 : l.stackTraces = false) (D : va_G) (tys : gT) (A : Nat → Prop) (ws : va_W) (p9 : Int) (hp : R31 p9) : vx_Met l yX4_checkCalibre wsX4_checkCalibre ({ frames := 6, cells := 1, slots := 6, locals := 86 }) (PcZ D tys A (ws) [.int (zI p9)]) (va_Qv (fun ws' => (0 ≤ p9 ∧ p9 ≤ 4) ∧ ws' = ws) (gB D A) A) (XQ D A (fun E9 => E9 = xI ∧ ¬ (0 ≤ p9 ∧ p9 ≤ 4)) (ws)) 1 6 A := by
  refine g_metx (cc := cX4_checkCalibre) (maxL := 1) (ret := none) (own := RX4) hl0 rfl (by decide) rfl (Nat.le_of_ble_eq_true rfl) ?_
  intro p e s m below meth c E Z
  obtain ⟨h1, h2⟩ := hp
  refine g_loc (lv' := [(0, .int (zI p9))]) ⟨rfl, trivial⟩ ?_
  refine g_iload_n E dX4_checkCalibre_0 rfl ?_
  refine g_iconst E dX4_checkCalibre_1 ?_
  refine g_iconst E dX4_checkCalibre_2 ?_
  refine g_callTi (n := 3) (As := [_, _, _]) (rest := _) E (c_X4_isOutside l D _ A _ _ _ _ (by omega)) gX4_checkCalibre_X4_isOutside rfl ⟨rfl, rfl⟩ (by decide +kernel) ⟨Nat.le_of_ble_eq_true rfl, Nat.le_of_ble_eq_true rfl⟩ rfl rfl (Nat.le_of_ble_eq_true rfl) ⟨Nat.le_of_ble_eq_true rfl, Nat.le_of_ble_eq_true rfl⟩ dX4_checkCalibre_3 ?_
  rintro r_3 ws_3 ⟨rfl, rfl⟩
  refine g_if_eq (tgt := 20) E dX4_checkCalibre_6 (by decide) (by omega) (fun c_6 => ?_) (fun c_6 => ?_)
  · refine g_wid (k := 1) (n := 6) (Nat.le_of_ble_eq_true rfl) (Nat.le_of_ble_eq_true rfl) ?_
    refine g_xret ?_
    exact g_vret E (⟨by have := it0 c_6; omega, rfl⟩) dX4_checkCalibre_20
  · exact g_throwW (is := 279) E Z (by decide +kernel) (by decide +kernel) (by decide +kernel) rfl (List.mem_of_getElem? (i := 18) rfl) (fun w h => by first | exact List.mem_cons_of_mem _ (List.mem_append_right _ h) | exact List.mem_cons_of_mem _ (List.mem_append_left _ (List.mem_append_right _ h)) | exact List.mem_cons_of_mem _ (List.mem_append_left _ (List.mem_append_left _ (List.mem_append_right _ h)))) nb_xI gd_xI dX4_checkCalibre_9 dX4_checkCalibre_12 dX4_checkCalibre_13 dX4_checkCalibre_16 dX4_checkCalibre_19 (Nat.le_of_ble_eq_true rfl) (Nat.le_of_ble_eq_true rfl) ⟨Nat.le_of_ble_eq_true rfl, Nat.le_of_ble_eq_true rfl⟩ ⟨Nat.le_of_ble_eq_true rfl, Nat.le_of_ble_eq_true rfl⟩ (⟨rfl, fun q => it1 c_6 (by omega)⟩)
set_option maxHeartbeats 800000 in
set_option maxRecDepth 100000 in
/-- checkArgument(v, lo, hi) -/
theorem c_X4_checkArgument (l : Launch) (hl0 : l.stackTraces = false) (D : va_G) (tys : gT) (A : Nat → Prop) (ws : va_W) (v9 l9 h9 : Int) (hb : R31 v9 ∧ R31 l9 ∧ R31 h9) : vx_Met l yX4_checkArgument wsX4_checkArgument ({ frames := 6, cells := 1, slots := 6, locals := 86 }) (PcZ D tys A (ws) [.int (zI v9), .int (zI l9), .int (zI h9)]) (va_Qv (fun ws' => (l9 ≤ v9 ∧ v9 ≤ h9) ∧ ws' = ws) (gB D A) A) (XQ D A (fun E9 => E9 = xA ∧ ¬ (l9 ≤ v9 ∧ v9 ≤ h9)) (ws)) 1 6 A := by
  refine g_metx (cc := cX4_checkArgument) (maxL := 3) (ret := none) (own := RX4) hl0 rfl (by decide) rfl (Nat.le_of_ble_eq_true rfl) ?_
  intro p e s m below meth c E Z
  obtain ⟨⟨h1, h2⟩, ⟨h3, h4⟩, ⟨h5, h6⟩⟩ := hb
  refine g_loc (lv' := [(0, .int (zI v9)), (1, .int (zI l9)), (2, .int (zI h9))]) ⟨rfl, rfl, rfl, trivial⟩ ?_
  refine g_iload_n E dX4_checkArgument_0 rfl ?_
  refine g_iload_n E dX4_checkArgument_1 rfl ?_
  refine g_iload_n E dX4_checkArgument_2 rfl ?_
  refine g_callTi (n := 3) (As := [_, _, _]) (rest := _) E (c_X4_isOutside l D _ A _ _ _ _ (by omega)) gX4_checkArgument_X4_isOutside rfl ⟨rfl, rfl⟩ (by decide +kernel) ⟨Nat.le_of_ble_eq_true rfl, Nat.le_of_ble_eq_true rfl⟩ rfl rfl (Nat.le_of_ble_eq_true rfl) ⟨Nat.le_of_ble_eq_true rfl, Nat.le_of_ble_eq_true rfl⟩ dX4_checkArgument_3 ?_
  rintro r_3 ws_3 ⟨rfl, rfl⟩
  refine g_if_eq (tgt := 20) E dX4_checkArgument_6 (by decide) (by omega) (fun c_6 => ?_) (fun c_6 => ?_)
  · refine g_wid (k := 1) (n := 6) (Nat.le_of_ble_eq_true rfl) (Nat.le_of_ble_eq_true rfl) ?_
    refine g_xret ?_
    exact g_vret E (⟨by have := it0 c_6; omega, rfl⟩) dX4_checkArgument_20
  · exact g_throwW (is := 281) E Z (by decide +kernel) (by decide +kernel) (by decide +kernel) rfl (List.mem_of_getElem? (i := 19) rfl) (fun w h => by first | exact List.mem_cons_of_mem _ (List.mem_append_right _ h) | exact List.mem_cons_of_mem _ (List.mem_append_left _ (List.mem_append_right _ h)) | exact List.mem_cons_of_mem _ (List.mem_append_left _ (List.mem_append_left _ (List.mem_append_right _ h)))) nb_xA gd_xA dX4_checkArgument_9 dX4_checkArgument_12 dX4_checkArgument_13 dX4_checkArgument_16 dX4_checkArgument_19 (Nat.le_of_ble_eq_true rfl) (Nat.le_of_ble_eq_true rfl) ⟨Nat.le_of_ble_eq_true rfl, Nat.le_of_ble_eq_true rfl⟩ ⟨Nat.le_of_ble_eq_true rfl, Nat.le_of_ble_eq_true rfl⟩ (⟨rfl, fun q => it1 c_6 (by omega)⟩)
