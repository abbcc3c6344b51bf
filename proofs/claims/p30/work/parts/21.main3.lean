/-! ===== MAIN: what is told ===== -/
set_option maxHeartbeats 800000 in
set_option maxRecDepth 100000 in
/-- checkPile, passed -/
theorem n_X4_checkPile (l : Launch) (D : va_G) (cA : Nat → ClassId) (A : Nat → Prop) (ad : Ad) (σ : Nat → St) (a : St) (hI : Inv a) (p9 : Int) (hp : R31 p9) (hg : 0 ≤ p9 ∧ p9 < np a) : Met l yX4_checkPile wsX4_checkPile ({ frames := 1, cells := 0, slots := 0, locals := 22 }) (PcG D (tysX cA) A (wX cA ad (upY σ 0 a)) [.ref (ad 0 8 0), .int (zI p9)]) (va_Qv (fun ws' => ws' = wX cA ad (upY σ 0 a)) (gB D A) A) 0 0 A := by
  refine g_met (cc := cX4_checkPile) (maxL := 2) (ret := none) (own := RX4) rfl (by decide) rfl (Nat.le_of_ble_eq_true rfl) ?_
  intro p e s m below meth c E
  have hin3 : ∀ w ∈ u_ws RX3 TX3 8, w ∈ wsX4_checkPile := by decide +kernel
  have hin4 : ∀ w ∈ u_ws RX4 TX4 6, w ∈ wsX4_checkPile := by decide +kernel
  obtain ⟨⟨hn0, hn6, hc0, hc3⟩, hPI, hCI, hFr⟩ := id hI
  obtain ⟨h1, h2⟩ := hp
  refine g_loc (lv' := [(0, .ref (ad 0 8 0)), (1, .int (zI p9))]) ⟨rfl, rfl, trivial⟩ ?_
  refine g_iload_n E dX4_checkPile_0 rfl ?_
  refine g_iconst E dX4_checkPile_1 ?_
  refine g_aload_n E dX4_checkPile_2 rfl ?_
  refine gx_Main_yard E mem_8 hin4 (by decide +kernel) dX4_checkPile_3 ?_
  refine gx_Yard_pileCount' E (mem_y _ (by omega)) hin3 (by decide +kernel) dX4_checkPile_6 ?_
  refine g_iconst E dX4_checkPile_9 ?_
  refine g_isub E dX4_checkPile_10 ?_
  refine g_callTi (n := 3) (As := [_, _, _]) (rest := _) E (c_X4_isOutside l D _ A _ _ _ _ (by omega)) gX4_checkPile_X4_isOutside rfl ⟨rfl, rfl⟩ (by decide +kernel) ⟨Nat.le_of_ble_eq_true rfl, Nat.le_of_ble_eq_true rfl⟩ rfl rfl (Nat.le_of_ble_eq_true rfl) ⟨Nat.le_of_ble_eq_true rfl, Nat.le_of_ble_eq_true rfl⟩ dX4_checkPile_11 ?_
  rintro r_11 ws_11 ⟨rfl, rfl⟩
  refine g_if_eq (tgt := 28) E dX4_checkPile_14 (by decide) (by omega) (fun c_14 => ?_) (fun c_14 => ?_)
  · exact g_vret E (rfl) dX4_checkPile_28
  · exact absurd (by omega) (it1 c_14)
set_option maxHeartbeats 800000 in
set_option maxRecDepth 100000 in
/-- checkCat, passed -/
theorem n_X4_checkCat (l : Launch) (D : va_G) (cA : Nat → ClassId) (A : Nat → Prop) (ad : Ad) (σ : Nat → St) (a : St) (hI : Inv a) (p9 : Int) (hp : R31 p9) (hg : 0 ≤ p9 ∧ p9 < nc a) : Met l yX4_checkCat wsX4_checkCat ({ frames := 1, cells := 0, slots := 0, locals := 22 }) (PcG D (tysX cA) A (wX cA ad (upY σ 0 a)) [.ref (ad 0 8 0), .int (zI p9)]) (va_Qv (fun ws' => ws' = wX cA ad (upY σ 0 a)) (gB D A) A) 0 0 A := by
  refine g_met (cc := cX4_checkCat) (maxL := 2) (ret := none) (own := RX4) rfl (by decide) rfl (Nat.le_of_ble_eq_true rfl) ?_
  intro p e s m below meth c E
  have hin3 : ∀ w ∈ u_ws RX3 TX3 8, w ∈ wsX4_checkCat := by decide +kernel
  have hin4 : ∀ w ∈ u_ws RX4 TX4 6, w ∈ wsX4_checkCat := by decide +kernel
  obtain ⟨⟨hn0, hn6, hc0, hc3⟩, hPI, hCI, hFr⟩ := id hI
  obtain ⟨h1, h2⟩ := hp
  refine g_loc (lv' := [(0, .ref (ad 0 8 0)), (1, .int (zI p9))]) ⟨rfl, rfl, trivial⟩ ?_
  refine g_iload_n E dX4_checkCat_0 rfl ?_
  refine g_iconst E dX4_checkCat_1 ?_
  refine g_aload_n E dX4_checkCat_2 rfl ?_
  refine gx_Main_yard E mem_8 hin4 (by decide +kernel) dX4_checkCat_3 ?_
  refine gx_Yard_catCount' E (mem_y _ (by omega)) hin3 (by decide +kernel) dX4_checkCat_6 ?_
  refine g_iconst E dX4_checkCat_9 ?_
  refine g_isub E dX4_checkCat_10 ?_
  refine g_callTi (n := 3) (As := [_, _, _]) (rest := _) E (c_X4_isOutside l D _ A _ _ _ _ (by omega)) gX4_checkCat_X4_isOutside rfl ⟨rfl, rfl⟩ (by decide +kernel) ⟨Nat.le_of_ble_eq_true rfl, Nat.le_of_ble_eq_true rfl⟩ rfl rfl (Nat.le_of_ble_eq_true rfl) ⟨Nat.le_of_ble_eq_true rfl, Nat.le_of_ble_eq_true rfl⟩ dX4_checkCat_11 ?_
  rintro r_11 ws_11 ⟨rfl, rfl⟩
  refine g_if_eq (tgt := 28) E dX4_checkCat_14 (by decide) (by omega) (fun c_14 => ?_) (fun c_14 => ?_)
  · exact g_vret E (rfl) dX4_checkCat_28
  · exact absurd (by omega) (it1 c_14)
set_option maxHeartbeats 800000 in
set_option maxRecDepth 100000 in
/-- checkCalibre, passed -/
theorem n_X4_checkCalibre (l : Launch) (D : va_G) (tys : gT) (A : Nat → Prop) (ws : va_W) (p9 : Int) (hp : R31 p9) (hg : 0 ≤ p9 ∧ p9 ≤ 4) : Met l yX4_checkCalibre wsX4_checkCalibre ({ frames := 1, cells := 0, slots := 0, locals := 22 }) (PcG D tys A (ws) [.int (zI p9)]) (va_Qv (fun ws' => ws' = ws) (gB D A) A) 0 0 A := by
  refine g_met (cc := cX4_checkCalibre) (maxL := 1) (ret := none) (own := RX4) rfl (by decide) rfl (Nat.le_of_ble_eq_true rfl) ?_
  intro p e s m below meth c E
  obtain ⟨h1, h2⟩ := hp
  refine g_loc (lv' := [(0, .int (zI p9))]) ⟨rfl, trivial⟩ ?_
  refine g_iload_n E dX4_checkCalibre_0 rfl ?_
  refine g_iconst E dX4_checkCalibre_1 ?_
  refine g_iconst E dX4_checkCalibre_2 ?_
  refine g_callTi (n := 3) (As := [_, _, _]) (rest := _) E (c_X4_isOutside l D _ A _ _ _ _ (by omega)) gX4_checkCalibre_X4_isOutside rfl ⟨rfl, rfl⟩ (by decide +kernel) ⟨Nat.le_of_ble_eq_true rfl, Nat.le_of_ble_eq_true rfl⟩ rfl rfl (Nat.le_of_ble_eq_true rfl) ⟨Nat.le_of_ble_eq_true rfl, Nat.le_of_ble_eq_true rfl⟩ dX4_checkCalibre_3 ?_
  rintro r_3 ws_3 ⟨rfl, rfl⟩
  refine g_if_eq (tgt := 20) E dX4_checkCalibre_6 (by decide) (by omega) (fun c_6 => ?_) (fun c_6 => ?_)
  · exact g_vret E (rfl) dX4_checkCalibre_20
  · exact absurd (by omega) (it1 c_6)
set_option maxHeartbeats 800000 in
set_option maxRecDepth 100000 in
/-- about(p, w) -/
theorem c_X4_about (l : Launch) (hl0 : l.stackTraces = false) (D : va_G) (cA : Nat → ClassId) (A : Nat → Prop) (ad : Ad) (σ : Nat → St) (a : St) (hI : Inv a) (p9 w9 : Int) (hp : R31 p9) (hm : R31 w9) : vx_Met l yX4_about wsX4_about ({ frames := 7, cells := 2, slots := 12, locals := 107 }) (PcZ D (tysX cA) A (wX cA ad (upY σ 0 a)) [.ref (ad 0 8 0), .int (zI p9), .int (zI w9)]) (va_Qi (fun (r : Int32) ws' => eAbout a p9 w9 = 0 ∧ r = abV a p9.toNat w9 ∧ ws' = wX cA ad (upY σ 0 a)) (gB D A) A) (XQ D A (fun E9 => exn [xI] E9 (eAbout a p9 w9)) (wX cA ad (upY σ 0 a))) 2 12 A := by
  refine g_metx (cc := cX4_about) (maxL := 4) (ret := (some .int)) (own := RX4) hl0 rfl (by decide) rfl (Nat.le_of_ble_eq_true rfl) ?_
  intro p e s m below meth c E Z
  have hin1 : ∀ w ∈ u_ws RX1 TX1 4, w ∈ wsX4_about := by decide +kernel
  have hin2 : ∀ w ∈ u_ws RX2 TX2 4, w ∈ wsX4_about := by decide +kernel
  have hin3 : ∀ w ∈ u_ws RX3 TX3 8, w ∈ wsX4_about := by decide +kernel
  have hin4 : ∀ w ∈ u_ws RX4 TX4 6, w ∈ wsX4_about := by decide +kernel
  obtain ⟨⟨hn0, hn6, hc0, hc3⟩, hPI, hCI, hFr⟩ := id hI
  obtain ⟨hp1, hp2⟩ := hp
  obtain ⟨hm1, hm2⟩ := hm
  refine g_loc (lv' := [(0, .ref (ad 0 8 0)), (1, .int (zI p9)), (2, .int (zI w9))]) ⟨rfl, rfl, rfl, trivial⟩ ?_
  refine g_aload_n E dX4_about_0 rfl ?_
  refine g_iload_n E dX4_about_1 rfl ?_
  refine g_xVv (T := TX4) (ci := 4) (n := 1) (As := [_]) (rest := _) E Z (c_X4_checkPile l hl0 D cA A ad _ _ hI _ (by omega)) gX4_about_X4_checkPile rfl ⟨rfl, rfl⟩ (by decide +kernel) ⟨Nat.le_of_ble_eq_true rfl, Nat.le_of_ble_eq_true rfl⟩ (ob_8 mem_8) rfl rfl rfl (Nat.le_of_ble_eq_true rfl) ⟨Nat.le_of_ble_eq_true rfl, Nat.le_of_ble_eq_true rfl⟩ ⟨Nat.le_of_ble_eq_true rfl, Nat.le_of_ble_eq_true rfl⟩ dX4_about_2 (fun E9 hE => ⟨0, if_pos (hE.2), hE.1 ▸ rfl⟩) ?_
  rintro ws_2 ⟨g_2, rfl⟩
  have nb1 : ¬ ¬ (0 ≤ p9 ∧ p9 < np a) := fun q => q g_2; have hPp := hPI p9.toNat (by omega); have hPo := hPp.1; have hPc := hPp.2; have hPo2 := hPo; unfold PO at hPo2; have hsq := sq_le (e := sd a p9.toNat) (by omega); obtain ⟨hn1, hn7, hpy⟩ := pyN_c (a := a) (p := p9.toNat) (by omega)
  refine g_aload_n E dX4_about_5 rfl ?_
  refine gx_Main_yard E mem_8 hin4 (by decide +kernel) dX4_about_6 ?_
  refine gx_Yard_piles' E (mem_y _ (by omega)) hin3 (by decide +kernel) dX4_about_9 ?_
  refine g_iload_n E dX4_about_12 rfl ?_
  refine lx_10' E (mem_10 _ (by omega)) (by omega) dX4_about_13 ?_
  refine g_astore_n E dX4_about_14 (by decide) ?_
  refine g_iload_n E dX4_about_15 rfl ?_
  by_cases sw_16_0 : w9 = 0
  · subst sw_16_0
    refine g_tab (tgt := 72) E dX4_about_16 (by decide) (by decide) (by decide) rfl (by decide) ?_
    refine g_aload_n E dX4_about_72 rfl ?_
    refine gx_Pile_calibre' E (mem_1 _ (by omega) _ (by omega)) hin1 (by decide +kernel) dX4_about_73 ?_
    refine g_wid (k := 2) (n := 12) (Nat.le_of_ble_eq_true rfl) (Nat.le_of_ble_eq_true rfl) ?_
    refine g_xret ?_
    exact g_iret E (⟨(if_neg nb1).trans (if_neg (fun q => q (by omega))), by first | rfl | (show zI _ = zI _; rw [hpy]), rfl⟩) dX4_about_76
  by_cases sw_16_1 : w9 = 1
  · subst sw_16_1
    refine g_tab (tgt := 77) E dX4_about_16 (by decide) (by decide) (by decide) rfl (by decide) ?_
    refine g_aload_n E dX4_about_77 rfl ?_
    refine gx_Pile_pyramid' E (mem_1 _ (by omega) _ (by omega)) hin1 (by decide +kernel) dX4_about_78 ?_
    refine gx_Pyr_edge E (mem_9 _ (by omega) (by omega)) hin2 (by decide +kernel) dX4_about_81 ?_
    refine g_wid (k := 2) (n := 12) (Nat.le_of_ble_eq_true rfl) (Nat.le_of_ble_eq_true rfl) ?_
    refine g_xret ?_
    exact g_iret E (⟨(if_neg nb1).trans (if_neg (fun q => q (by omega))), by first | rfl | (show zI _ = zI _; rw [hpy]), rfl⟩) dX4_about_84
  by_cases sw_16_2 : w9 = 2
  · subst sw_16_2
    refine g_tab (tgt := 85) E dX4_about_16 (by decide) (by decide) (by decide) rfl (by decide) ?_
    refine g_aload_n E dX4_about_85 rfl ?_
    refine gx_Pile_balls' E (mem_1 _ (by omega) _ (by omega)) hin1 (by decide +kernel) dX4_about_86 ?_
    refine g_wid (k := 2) (n := 12) (Nat.le_of_ble_eq_true rfl) (Nat.le_of_ble_eq_true rfl) ?_
    refine g_xret ?_
    exact g_iret E (⟨(if_neg nb1).trans (if_neg (fun q => q (by omega))), by first | rfl | (show zI _ = zI _; rw [hpy]), rfl⟩) dX4_about_89
  by_cases sw_16_3 : w9 = 3
  · subst sw_16_3
    refine g_tab (tgt := 90) E dX4_about_16 (by decide) (by decide) (by decide) rfl (by decide) ?_
    refine g_aload_n E dX4_about_90 rfl ?_
    refine gx_Pile_pyramid' E (mem_1 _ (by omega) _ (by omega)) hin1 (by decide +kernel) dX4_about_91 ?_
    refine gx_Pyr_capacity E (mem_9 _ (by omega) (by omega)) hin2 (by decide +kernel) dX4_about_94 ?_
    refine g_wid (k := 2) (n := 12) (Nat.le_of_ble_eq_true rfl) (Nat.le_of_ble_eq_true rfl) ?_
    refine g_xret ?_
    exact g_iret E (⟨(if_neg nb1).trans (if_neg (fun q => q (by omega))), by first | rfl | (show zI _ = zI _; rw [hpy]), rfl⟩) dX4_about_97
  by_cases sw_16_4 : w9 = 4
  · subst sw_16_4
    refine g_tab (tgt := 98) E dX4_about_16 (by decide) (by decide) (by decide) rfl (by decide) ?_
    refine g_aload_n E dX4_about_98 rfl ?_
    refine gx_Pile_pyramid' E (mem_1 _ (by omega) _ (by omega)) hin1 (by decide +kernel) dX4_about_99 ?_
    refine g_aload_n E dX4_about_102 rfl ?_
    refine gx_Pile_balls' E (mem_1 _ (by omega) _ (by omega)) hin1 (by decide +kernel) dX4_about_103 ?_
    refine g_callVi (T := TX2) (ci := 2) (n := 1) (As := [_]) (rest := _) E (c_X2_layersBegun l D cA A ad _ _ (by omega) _ hpy _ (by omega)) gX4_about_X2_layersBegun rfl ⟨rfl, rfl⟩ (by decide +kernel) ⟨Nat.le_of_ble_eq_true rfl, Nat.le_of_ble_eq_true rfl⟩ (ob_9 (mem_9 _ (by omega) (by omega))) rfl rfl rfl (Nat.le_of_ble_eq_true rfl) ⟨Nat.le_of_ble_eq_true rfl, Nat.le_of_ble_eq_true rfl⟩ dX4_about_106 ?_
    rintro r_106 ws_106 ⟨rfl, rfl⟩
    refine g_wid (k := 2) (n := 12) (Nat.le_of_ble_eq_true rfl) (Nat.le_of_ble_eq_true rfl) ?_
    refine g_xret ?_
    exact g_iret E (⟨(if_neg nb1).trans (if_neg (fun q => q (by omega))), by first | rfl | (show zI _ = zI _; rw [hpy]), rfl⟩) dX4_about_109
  by_cases sw_16_5 : w9 = 5
  · subst sw_16_5
    refine g_tab (tgt := 110) E dX4_about_16 (by decide) (by decide) (by decide) rfl (by decide) ?_
    refine g_aload_n E dX4_about_110 rfl ?_
    refine gx_Pile_pyramid' E (mem_1 _ (by omega) _ (by omega)) hin1 (by decide +kernel) dX4_about_111 ?_
    refine g_aload_n E dX4_about_114 rfl ?_
    refine gx_Pile_balls' E (mem_1 _ (by omega) _ (by omega)) hin1 (by decide +kernel) dX4_about_115 ?_
    refine g_callVi (T := TX2) (ci := 2) (n := 1) (As := [_]) (rest := _) E (c_X2_layersFull l D cA A ad _ _ (by omega) _ hpy _ (by omega)) gX4_about_X2_layersFull rfl ⟨rfl, rfl⟩ (by decide +kernel) ⟨Nat.le_of_ble_eq_true rfl, Nat.le_of_ble_eq_true rfl⟩ (ob_9 (mem_9 _ (by omega) (by omega))) rfl rfl rfl (Nat.le_of_ble_eq_true rfl) ⟨Nat.le_of_ble_eq_true rfl, Nat.le_of_ble_eq_true rfl⟩ dX4_about_118 ?_
    rintro r_118 ws_118 ⟨rfl, rfl⟩
    refine g_wid (k := 2) (n := 12) (Nat.le_of_ble_eq_true rfl) (Nat.le_of_ble_eq_true rfl) ?_
    refine g_xret ?_
    exact g_iret E (⟨(if_neg nb1).trans (if_neg (fun q => q (by omega))), by first | rfl | (show zI _ = zI _; rw [hpy]), rfl⟩) dX4_about_121
  by_cases sw_16_6 : w9 = 6
  · subst sw_16_6
    refine g_tab (tgt := 122) E dX4_about_16 (by decide) (by decide) (by decide) rfl (by decide) ?_
    refine g_aload_n E dX4_about_122 rfl ?_
    refine g_callVi (T := TX1) (ci := 1) (n := 0) (As := []) (rest := _) E (c_X1_bareBalls l D cA A ad σ 0 p9.toNat (a) (by omega) (by omega) hPo) gX4_about_X1_bareBalls rfl ⟨rfl, rfl⟩ (by decide +kernel) ⟨Nat.le_of_ble_eq_true rfl, Nat.le_of_ble_eq_true rfl⟩ (ob_1 (mem_1 _ (by omega) _ (by omega))) rfl rfl rfl (Nat.le_of_ble_eq_true rfl) ⟨Nat.le_of_ble_eq_true rfl, Nat.le_of_ble_eq_true rfl⟩ dX4_about_123 ?_
    rintro r_123 ws_123 ⟨rfl, rfl⟩
    refine g_wid (k := 2) (n := 12) (Nat.le_of_ble_eq_true rfl) (Nat.le_of_ble_eq_true rfl) ?_
    refine g_xret ?_
    exact g_iret E (⟨(if_neg nb1).trans (if_neg (fun q => q (by omega))), by first | rfl | (show zI _ = zI _; rw [hpy]), rfl⟩) dX4_about_126
  by_cases sw_16_7 : w9 = 7
  · subst sw_16_7
    refine g_tab (tgt := 127) E dX4_about_16 (by decide) (by decide) (by decide) rfl (by decide) ?_
    refine g_aload_n E dX4_about_127 rfl ?_
    refine g_aload_n E dX4_about_128 rfl ?_
    refine gx_Main_yard E mem_8 hin4 (by decide +kernel) dX4_about_129 ?_
    refine gx_Yard_limit' E (mem_y _ (by omega)) hin3 (by decide +kernel) dX4_about_132 ?_
    refine g_callVi (T := TX1) (ci := 1) (n := 1) (As := [_]) (rest := _) E (c_X1_rustyBalls l D cA A ad σ 0 p9.toNat (a) (by omega) (by omega) hPo _) gX4_about_X1_rustyBalls rfl ⟨rfl, rfl⟩ (by decide +kernel) ⟨Nat.le_of_ble_eq_true rfl, Nat.le_of_ble_eq_true rfl⟩ (ob_1 (mem_1 _ (by omega) _ (by omega))) rfl rfl rfl (Nat.le_of_ble_eq_true rfl) ⟨Nat.le_of_ble_eq_true rfl, Nat.le_of_ble_eq_true rfl⟩ dX4_about_135 ?_
    rintro r_135 ws_135 ⟨rfl, rfl⟩
    refine g_wid (k := 2) (n := 12) (Nat.le_of_ble_eq_true rfl) (Nat.le_of_ble_eq_true rfl) ?_
    refine g_xret ?_
    exact g_iret E (⟨(if_neg nb1).trans (if_neg (fun q => q (by omega))), by first | rfl | (show zI _ = zI _; rw [hpy]), rfl⟩) dX4_about_138
  by_cases sw_16_8 : w9 = 8
  · subst sw_16_8
    refine g_tab (tgt := 139) E dX4_about_16 (by decide) (by decide) (by decide) rfl (by decide) ?_
    refine g_aload_n E dX4_about_139 rfl ?_
    refine g_callVi (T := TX1) (ci := 1) (n := 0) (As := []) (rest := _) E (c_X1_greatestRust l D cA A ad σ 0 p9.toNat (a) (by omega) (by omega) hPo) gX4_about_X1_greatestRust rfl ⟨rfl, rfl⟩ (by decide +kernel) ⟨Nat.le_of_ble_eq_true rfl, Nat.le_of_ble_eq_true rfl⟩ (ob_1 (mem_1 _ (by omega) _ (by omega))) rfl rfl rfl (Nat.le_of_ble_eq_true rfl) ⟨Nat.le_of_ble_eq_true rfl, Nat.le_of_ble_eq_true rfl⟩ dX4_about_140 ?_
    rintro r_140 ws_140 ⟨rfl, rfl⟩
    refine g_wid (k := 2) (n := 12) (Nat.le_of_ble_eq_true rfl) (Nat.le_of_ble_eq_true rfl) ?_
    refine g_xret ?_
    exact g_iret E (⟨(if_neg nb1).trans (if_neg (fun q => q (by omega))), by first | rfl | (show zI _ = zI _; rw [hpy]), rfl⟩) dX4_about_143
  by_cases sw_16_9 : w9 = 9
  · subst sw_16_9
    refine g_tab (tgt := 144) E dX4_about_16 (by decide) (by decide) (by decide) rfl (by decide) ?_
    refine g_aload_n E dX4_about_144 rfl ?_
    refine g_callVi (T := TX1) (ci := 1) (n := 0) (As := []) (rest := _) E (c_X1_allRust l D cA A ad σ 0 p9.toNat (a) (by omega) (by omega) hPo) gX4_about_X1_allRust rfl ⟨rfl, rfl⟩ (by decide +kernel) ⟨Nat.le_of_ble_eq_true rfl, Nat.le_of_ble_eq_true rfl⟩ (ob_1 (mem_1 _ (by omega) _ (by omega))) rfl rfl rfl (Nat.le_of_ble_eq_true rfl) ⟨Nat.le_of_ble_eq_true rfl, Nat.le_of_ble_eq_true rfl⟩ dX4_about_145 ?_
    rintro r_145 ws_145 ⟨rfl, rfl⟩
    refine g_wid (k := 2) (n := 12) (Nat.le_of_ble_eq_true rfl) (Nat.le_of_ble_eq_true rfl) ?_
    refine g_xret ?_
    exact g_iret E (⟨(if_neg nb1).trans (if_neg (fun q => q (by omega))), by first | rfl | (show zI _ = zI _; rw [hpy]), rfl⟩) dX4_about_148
  refine g_tabOut (tgt := 149) E dX4_about_16 (by omega) (by omega) (by decide) ?_
  exact g_throw (is := 185) E Z (by decide +kernel) (by decide +kernel) (by decide +kernel) rfl (List.mem_of_getElem? (i := 7) rfl) (fun w h => by first | exact List.mem_cons_of_mem _ (List.mem_append_right _ h) | exact List.mem_cons_of_mem _ (List.mem_append_left _ (List.mem_append_right _ h)) | exact List.mem_cons_of_mem _ (List.mem_append_left _ (List.mem_append_left _ (List.mem_append_right _ h)))) nb_xI gd_xI dX4_about_149 dX4_about_152 dX4_about_153 dX4_about_155 dX4_about_158 (Nat.le_of_ble_eq_true rfl) (Nat.le_of_ble_eq_true rfl) ⟨Nat.le_of_ble_eq_true rfl, Nat.le_of_ble_eq_true rfl⟩ ⟨Nat.le_of_ble_eq_true rfl, Nat.le_of_ble_eq_true rfl⟩ (⟨0, (if_neg nb1).trans (if_pos (by omega)), rfl⟩)
set_option maxHeartbeats 800000 in
set_option maxRecDepth 100000 in
/-- about(p, w), not refused -/
theorem n_X4_about (l : Launch) (D : va_G) (cA : Nat → ClassId) (A : Nat → Prop) (ad : Ad) (σ : Nat → St) (a : St) (hI : Inv a) (p9 w9 : Int) (hp : R31 p9) (hm : R31 w9) (hg : (0 ≤ p9 ∧ p9 < np a) ∧ 0 ≤ w9 ∧ w9 ≤ 9) : Met l yX4_about wsX4_about ({ frames := 3, cells := 0, slots := 0, locals := 64 }) (PcG D (tysX cA) A (wX cA ad (upY σ 0 a)) [.ref (ad 0 8 0), .int (zI p9), .int (zI w9)]) (va_Qi (fun (r : Int32) ws' => r = abV a p9.toNat w9 ∧ ws' = wX cA ad (upY σ 0 a)) (gB D A) A) 0 0 A := by
  refine g_met (cc := cX4_about) (maxL := 4) (ret := (some .int)) (own := RX4) rfl (by decide) rfl (Nat.le_of_ble_eq_true rfl) ?_
  intro p e s m below meth c E
  have hin1 : ∀ w ∈ u_ws RX1 TX1 4, w ∈ wsX4_about := by decide +kernel
  have hin2 : ∀ w ∈ u_ws RX2 TX2 4, w ∈ wsX4_about := by decide +kernel
  have hin3 : ∀ w ∈ u_ws RX3 TX3 8, w ∈ wsX4_about := by decide +kernel
  have hin4 : ∀ w ∈ u_ws RX4 TX4 6, w ∈ wsX4_about := by decide +kernel
  obtain ⟨⟨hn0, hn6, hc0, hc3⟩, hPI, hCI, hFr⟩ := id hI
  obtain ⟨hp1, hp2⟩ := hp
  obtain ⟨hm1, hm2⟩ := hm
  obtain ⟨⟨hg1, hg2⟩, hg3, hg4⟩ := id hg
  have hPp := hPI p9.toNat (by omega); have hPo := hPp.1; have hPc := hPp.2; have hPo2 := hPo; unfold PO at hPo2; have hsq := sq_le (e := sd a p9.toNat) (by omega); obtain ⟨hn1, hn7, hpy⟩ := pyN_c (a := a) (p := p9.toNat) (by omega)
  refine g_loc (lv' := [(0, .ref (ad 0 8 0)), (1, .int (zI p9)), (2, .int (zI w9))]) ⟨rfl, rfl, rfl, trivial⟩ ?_
  refine g_aload_n E dX4_about_0 rfl ?_
  refine g_iload_n E dX4_about_1 rfl ?_
  refine g_callVv (T := TX4) (ci := 4) (n := 1) (As := [_]) (rest := _) E (n_X4_checkPile l D cA A ad _ _ hI _ (by omega) (by omega)) gX4_about_X4_checkPile rfl ⟨rfl, rfl⟩ (by decide +kernel) ⟨Nat.le_of_ble_eq_true rfl, Nat.le_of_ble_eq_true rfl⟩ (ob_8 mem_8) rfl rfl rfl (Nat.le_of_ble_eq_true rfl) ⟨Nat.le_of_ble_eq_true rfl, Nat.le_of_ble_eq_true rfl⟩ dX4_about_2 ?_
  rintro ws_2 rfl
  refine g_aload_n E dX4_about_5 rfl ?_
  refine gx_Main_yard E mem_8 hin4 (by decide +kernel) dX4_about_6 ?_
  refine gx_Yard_piles' E (mem_y _ (by omega)) hin3 (by decide +kernel) dX4_about_9 ?_
  refine g_iload_n E dX4_about_12 rfl ?_
  refine lx_10' E (mem_10 _ (by omega)) (by omega) dX4_about_13 ?_
  refine g_astore_n E dX4_about_14 (by decide) ?_
  refine g_iload_n E dX4_about_15 rfl ?_
  by_cases sw_16_0 : w9 = 0
  · subst sw_16_0
    refine g_tab (tgt := 72) E dX4_about_16 (by decide) (by decide) (by decide) rfl (by decide) ?_
    refine g_aload_n E dX4_about_72 rfl ?_
    refine gx_Pile_calibre' E (mem_1 _ (by omega) _ (by omega)) hin1 (by decide +kernel) dX4_about_73 ?_
    exact g_iret E (⟨by first | rfl | (show zI _ = zI _; rw [hpy]), rfl⟩) dX4_about_76
  by_cases sw_16_1 : w9 = 1
  · subst sw_16_1
    refine g_tab (tgt := 77) E dX4_about_16 (by decide) (by decide) (by decide) rfl (by decide) ?_
    refine g_aload_n E dX4_about_77 rfl ?_
    refine gx_Pile_pyramid' E (mem_1 _ (by omega) _ (by omega)) hin1 (by decide +kernel) dX4_about_78 ?_
    refine gx_Pyr_edge E (mem_9 _ (by omega) (by omega)) hin2 (by decide +kernel) dX4_about_81 ?_
    exact g_iret E (⟨by first | rfl | (show zI _ = zI _; rw [hpy]), rfl⟩) dX4_about_84
  by_cases sw_16_2 : w9 = 2
  · subst sw_16_2
    refine g_tab (tgt := 85) E dX4_about_16 (by decide) (by decide) (by decide) rfl (by decide) ?_
    refine g_aload_n E dX4_about_85 rfl ?_
    refine gx_Pile_balls' E (mem_1 _ (by omega) _ (by omega)) hin1 (by decide +kernel) dX4_about_86 ?_
    exact g_iret E (⟨by first | rfl | (show zI _ = zI _; rw [hpy]), rfl⟩) dX4_about_89
  by_cases sw_16_3 : w9 = 3
  · subst sw_16_3
    refine g_tab (tgt := 90) E dX4_about_16 (by decide) (by decide) (by decide) rfl (by decide) ?_
    refine g_aload_n E dX4_about_90 rfl ?_
    refine gx_Pile_pyramid' E (mem_1 _ (by omega) _ (by omega)) hin1 (by decide +kernel) dX4_about_91 ?_
    refine gx_Pyr_capacity E (mem_9 _ (by omega) (by omega)) hin2 (by decide +kernel) dX4_about_94 ?_
    exact g_iret E (⟨by first | rfl | (show zI _ = zI _; rw [hpy]), rfl⟩) dX4_about_97
  by_cases sw_16_4 : w9 = 4
  · subst sw_16_4
    refine g_tab (tgt := 98) E dX4_about_16 (by decide) (by decide) (by decide) rfl (by decide) ?_
    refine g_aload_n E dX4_about_98 rfl ?_
    refine gx_Pile_pyramid' E (mem_1 _ (by omega) _ (by omega)) hin1 (by decide +kernel) dX4_about_99 ?_
    refine g_aload_n E dX4_about_102 rfl ?_
    refine gx_Pile_balls' E (mem_1 _ (by omega) _ (by omega)) hin1 (by decide +kernel) dX4_about_103 ?_
    refine g_callVi (T := TX2) (ci := 2) (n := 1) (As := [_]) (rest := _) E (c_X2_layersBegun l D cA A ad _ _ (by omega) _ hpy _ (by omega)) gX4_about_X2_layersBegun rfl ⟨rfl, rfl⟩ (by decide +kernel) ⟨Nat.le_of_ble_eq_true rfl, Nat.le_of_ble_eq_true rfl⟩ (ob_9 (mem_9 _ (by omega) (by omega))) rfl rfl rfl (Nat.le_of_ble_eq_true rfl) ⟨Nat.le_of_ble_eq_true rfl, Nat.le_of_ble_eq_true rfl⟩ dX4_about_106 ?_
    rintro r_106 ws_106 ⟨rfl, rfl⟩
    exact g_iret E (⟨by first | rfl | (show zI _ = zI _; rw [hpy]), rfl⟩) dX4_about_109
  by_cases sw_16_5 : w9 = 5
  · subst sw_16_5
    refine g_tab (tgt := 110) E dX4_about_16 (by decide) (by decide) (by decide) rfl (by decide) ?_
    refine g_aload_n E dX4_about_110 rfl ?_
    refine gx_Pile_pyramid' E (mem_1 _ (by omega) _ (by omega)) hin1 (by decide +kernel) dX4_about_111 ?_
    refine g_aload_n E dX4_about_114 rfl ?_
    refine gx_Pile_balls' E (mem_1 _ (by omega) _ (by omega)) hin1 (by decide +kernel) dX4_about_115 ?_
    refine g_callVi (T := TX2) (ci := 2) (n := 1) (As := [_]) (rest := _) E (c_X2_layersFull l D cA A ad _ _ (by omega) _ hpy _ (by omega)) gX4_about_X2_layersFull rfl ⟨rfl, rfl⟩ (by decide +kernel) ⟨Nat.le_of_ble_eq_true rfl, Nat.le_of_ble_eq_true rfl⟩ (ob_9 (mem_9 _ (by omega) (by omega))) rfl rfl rfl (Nat.le_of_ble_eq_true rfl) ⟨Nat.le_of_ble_eq_true rfl, Nat.le_of_ble_eq_true rfl⟩ dX4_about_118 ?_
    rintro r_118 ws_118 ⟨rfl, rfl⟩
    exact g_iret E (⟨by first | rfl | (show zI _ = zI _; rw [hpy]), rfl⟩) dX4_about_121
  by_cases sw_16_6 : w9 = 6
  · subst sw_16_6
    refine g_tab (tgt := 122) E dX4_about_16 (by decide) (by decide) (by decide) rfl (by decide) ?_
    refine g_aload_n E dX4_about_122 rfl ?_
    refine g_callVi (T := TX1) (ci := 1) (n := 0) (As := []) (rest := _) E (c_X1_bareBalls l D cA A ad σ 0 p9.toNat (a) (by omega) (by omega) hPo) gX4_about_X1_bareBalls rfl ⟨rfl, rfl⟩ (by decide +kernel) ⟨Nat.le_of_ble_eq_true rfl, Nat.le_of_ble_eq_true rfl⟩ (ob_1 (mem_1 _ (by omega) _ (by omega))) rfl rfl rfl (Nat.le_of_ble_eq_true rfl) ⟨Nat.le_of_ble_eq_true rfl, Nat.le_of_ble_eq_true rfl⟩ dX4_about_123 ?_
    rintro r_123 ws_123 ⟨rfl, rfl⟩
    exact g_iret E (⟨by first | rfl | (show zI _ = zI _; rw [hpy]), rfl⟩) dX4_about_126
  by_cases sw_16_7 : w9 = 7
  · subst sw_16_7
    refine g_tab (tgt := 127) E dX4_about_16 (by decide) (by decide) (by decide) rfl (by decide) ?_
    refine g_aload_n E dX4_about_127 rfl ?_
    refine g_aload_n E dX4_about_128 rfl ?_
    refine gx_Main_yard E mem_8 hin4 (by decide +kernel) dX4_about_129 ?_
    refine gx_Yard_limit' E (mem_y _ (by omega)) hin3 (by decide +kernel) dX4_about_132 ?_
    refine g_callVi (T := TX1) (ci := 1) (n := 1) (As := [_]) (rest := _) E (c_X1_rustyBalls l D cA A ad σ 0 p9.toNat (a) (by omega) (by omega) hPo _) gX4_about_X1_rustyBalls rfl ⟨rfl, rfl⟩ (by decide +kernel) ⟨Nat.le_of_ble_eq_true rfl, Nat.le_of_ble_eq_true rfl⟩ (ob_1 (mem_1 _ (by omega) _ (by omega))) rfl rfl rfl (Nat.le_of_ble_eq_true rfl) ⟨Nat.le_of_ble_eq_true rfl, Nat.le_of_ble_eq_true rfl⟩ dX4_about_135 ?_
    rintro r_135 ws_135 ⟨rfl, rfl⟩
    exact g_iret E (⟨by first | rfl | (show zI _ = zI _; rw [hpy]), rfl⟩) dX4_about_138
  by_cases sw_16_8 : w9 = 8
  · subst sw_16_8
    refine g_tab (tgt := 139) E dX4_about_16 (by decide) (by decide) (by decide) rfl (by decide) ?_
    refine g_aload_n E dX4_about_139 rfl ?_
    refine g_callVi (T := TX1) (ci := 1) (n := 0) (As := []) (rest := _) E (c_X1_greatestRust l D cA A ad σ 0 p9.toNat (a) (by omega) (by omega) hPo) gX4_about_X1_greatestRust rfl ⟨rfl, rfl⟩ (by decide +kernel) ⟨Nat.le_of_ble_eq_true rfl, Nat.le_of_ble_eq_true rfl⟩ (ob_1 (mem_1 _ (by omega) _ (by omega))) rfl rfl rfl (Nat.le_of_ble_eq_true rfl) ⟨Nat.le_of_ble_eq_true rfl, Nat.le_of_ble_eq_true rfl⟩ dX4_about_140 ?_
    rintro r_140 ws_140 ⟨rfl, rfl⟩
    exact g_iret E (⟨by first | rfl | (show zI _ = zI _; rw [hpy]), rfl⟩) dX4_about_143
  by_cases sw_16_9 : w9 = 9
  · subst sw_16_9
    refine g_tab (tgt := 144) E dX4_about_16 (by decide) (by decide) (by decide) rfl (by decide) ?_
    refine g_aload_n E dX4_about_144 rfl ?_
    refine g_callVi (T := TX1) (ci := 1) (n := 0) (As := []) (rest := _) E (c_X1_allRust l D cA A ad σ 0 p9.toNat (a) (by omega) (by omega) hPo) gX4_about_X1_allRust rfl ⟨rfl, rfl⟩ (by decide +kernel) ⟨Nat.le_of_ble_eq_true rfl, Nat.le_of_ble_eq_true rfl⟩ (ob_1 (mem_1 _ (by omega) _ (by omega))) rfl rfl rfl (Nat.le_of_ble_eq_true rfl) ⟨Nat.le_of_ble_eq_true rfl, Nat.le_of_ble_eq_true rfl⟩ dX4_about_145 ?_
    rintro r_145 ws_145 ⟨rfl, rfl⟩
    exact g_iret E (⟨by first | rfl | (show zI _ = zI _; rw [hpy]), rfl⟩) dX4_about_148
  exact absurd hg (by omega)
set_option maxHeartbeats 800000 in
set_option maxRecDepth 100000 in
/-- ball(p, b, w) -/
theorem c_X4_ball (l : Launch) (hl0 : l.stackTraces = false) (D : va_G) (cA : Nat → ClassId) (A : Nat → Prop) (ad : Ad) (σ : Nat → St) (a : St) (hI : Inv a) (p9 b9 w9 : Int) (hp : R31 p9) (hb : R31 b9) (hm : R31 w9) : vx_Met l yX4_ball wsX4_ball ({ frames := 7, cells := 2, slots := 12, locals := 107 }) (PcZ D (tysX cA) A (wX cA ad (upY σ 0 a)) [.ref (ad 0 8 0), .int (zI p9), .int (zI b9), .int (zI w9)]) (va_Qi (fun (r : Int32) ws' => eBall a p9 b9 w9 = 0 ∧ r = blV a p9.toNat b9 w9 ∧ ws' = wX cA ad (upY σ 0 a)) (gB D A) A) (XQ D A (fun E9 => exn [xI] E9 (eBall a p9 b9 w9)) (wX cA ad (upY σ 0 a))) 2 12 A := by
  refine g_metx (cc := cX4_ball) (maxL := 5) (ret := (some .int)) (own := RX4) hl0 rfl (by decide) rfl (Nat.le_of_ble_eq_true rfl) ?_
  intro p e s m below meth c E Z
  have hin1 : ∀ w ∈ u_ws RX1 TX1 4, w ∈ wsX4_ball := by decide +kernel
  have hin3 : ∀ w ∈ u_ws RX3 TX3 8, w ∈ wsX4_ball := by decide +kernel
  have hin4 : ∀ w ∈ u_ws RX4 TX4 6, w ∈ wsX4_ball := by decide +kernel
  obtain ⟨⟨hn0, hn6, hc0, hc3⟩, hPI, hCI, hFr⟩ := id hI
  obtain ⟨hp1, hp2⟩ := hp
  obtain ⟨hm1, hm2⟩ := hm
  obtain ⟨hb1, hb2⟩ := hb
  refine g_loc (lv' := [(0, .ref (ad 0 8 0)), (1, .int (zI p9)), (2, .int (zI b9)), (3, .int (zI w9))]) ⟨rfl, rfl, rfl, rfl, trivial⟩ ?_
  refine g_aload_n E dX4_ball_0 rfl ?_
  refine g_iload_n E dX4_ball_1 rfl ?_
  refine g_xVv (T := TX4) (ci := 4) (n := 1) (As := [_]) (rest := _) E Z (c_X4_checkPile l hl0 D cA A ad _ _ hI _ (by omega)) gX4_ball_X4_checkPile rfl ⟨rfl, rfl⟩ (by decide +kernel) ⟨Nat.le_of_ble_eq_true rfl, Nat.le_of_ble_eq_true rfl⟩ (ob_8 mem_8) rfl rfl rfl (Nat.le_of_ble_eq_true rfl) ⟨Nat.le_of_ble_eq_true rfl, Nat.le_of_ble_eq_true rfl⟩ ⟨Nat.le_of_ble_eq_true rfl, Nat.le_of_ble_eq_true rfl⟩ dX4_ball_2 (fun E9 hE => ⟨0, if_pos (hE.2), hE.1 ▸ rfl⟩) ?_
  rintro ws_2 ⟨g_2, rfl⟩
  have nb1 : ¬ ¬ (0 ≤ p9 ∧ p9 < np a) := fun q => q g_2; have hPp := hPI p9.toNat (by omega); have hPo := hPp.1; have hPc := hPp.2; have hPo2 := hPo; unfold PO at hPo2; have hsq := sq_le (e := sd a p9.toNat) (by omega); obtain ⟨hn1, hn7, hpy⟩ := pyN_c (a := a) (p := p9.toNat) (by omega)
  refine g_aload_n E dX4_ball_5 rfl ?_
  refine gx_Main_yard E mem_8 hin4 (by decide +kernel) dX4_ball_6 ?_
  refine gx_Yard_piles' E (mem_y _ (by omega)) hin3 (by decide +kernel) dX4_ball_9 ?_
  refine g_iload_n E dX4_ball_12 rfl ?_
  refine lx_10' E (mem_10 _ (by omega)) (by omega) dX4_ball_13 ?_
  refine g_astore E dX4_ball_14 (by decide) ?_
  refine g_iload_n E dX4_ball_16 rfl ?_
  refine g_iconst E dX4_ball_17 ?_
  refine g_aload E dX4_ball_18 rfl ?_
  refine gx_Pile_balls' E (mem_1 _ (by omega) _ (by omega)) hin1 (by decide +kernel) dX4_ball_20 ?_
  refine g_iconst E dX4_ball_23 ?_
  refine g_isub E dX4_ball_24 ?_
  refine g_callTi (n := 3) (As := [_, _, _]) (rest := _) E (c_X4_isOutside l D _ A _ _ _ _ (by omega)) gX4_ball_X4_isOutside rfl ⟨rfl, rfl⟩ (by decide +kernel) ⟨Nat.le_of_ble_eq_true rfl, Nat.le_of_ble_eq_true rfl⟩ rfl rfl (Nat.le_of_ble_eq_true rfl) ⟨Nat.le_of_ble_eq_true rfl, Nat.le_of_ble_eq_true rfl⟩ dX4_ball_25 ?_
  rintro r_25 ws_25 ⟨rfl, rfl⟩
  refine g_if_eq (tgt := 41) E dX4_ball_28 (by decide) (by omega) (fun c_28 => ?_) (fun c_28 => ?_)
  · have hi28 := it0 c_28; have hbr : 0 ≤ b9 ∧ b9 < bl a p9.toNat := (by omega); have nb2 : ¬ ¬ (0 ≤ b9 ∧ b9 < bl a p9.toNat) := fun q => q hbr
    refine g_iload_n E dX4_ball_41 rfl ?_
    by_cases sw_42_0 : w9 = 0
    · subst sw_42_0
      refine g_tab (tgt := 80) E dX4_ball_42 (by decide) (by decide) (by decide) rfl (by decide) ?_
      refine g_aload E dX4_ball_80 rfl ?_
      refine g_iload_n E dX4_ball_82 rfl ?_
      refine g_callVi (T := TX1) (ci := 1) (n := 1) (As := [_]) (rest := _) E (c_X1_rustOf l D cA A ad σ 0 p9.toNat (a) (by omega) (by omega) hPo _ (by omega)) gX4_ball_X1_rustOf rfl ⟨rfl, rfl⟩ (by decide +kernel) ⟨Nat.le_of_ble_eq_true rfl, Nat.le_of_ble_eq_true rfl⟩ (ob_1 (mem_1 _ (by omega) _ (by omega))) rfl rfl rfl (Nat.le_of_ble_eq_true rfl) ⟨Nat.le_of_ble_eq_true rfl, Nat.le_of_ble_eq_true rfl⟩ dX4_ball_83 ?_
      rintro r_83 ws_83 ⟨rfl, rfl⟩
      refine g_wid (k := 2) (n := 12) (Nat.le_of_ble_eq_true rfl) (Nat.le_of_ble_eq_true rfl) ?_
      refine g_xret ?_
      exact g_iret E (⟨(if_neg nb1).trans ((if_neg nb2).trans (if_neg (fun q => q (by omega)))), by first | rfl | exact congrArg zI (if_pos (ite1 c_123)).symm | exact congrArg zI (if_neg (ite0 c_123)).symm, rfl⟩) dX4_ball_86
    by_cases sw_42_1 : w9 = 1
    · subst sw_42_1
      refine g_tab (tgt := 87) E dX4_ball_42 (by decide) (by decide) (by decide) rfl (by decide) ?_
      refine g_aload E dX4_ball_87 rfl ?_
      refine gx_Pile_pyramid' E (mem_1 _ (by omega) _ (by omega)) hin1 (by decide +kernel) dX4_ball_89 ?_
      refine g_iload_n E dX4_ball_92 rfl ?_
      refine g_callVi (T := TX2) (ci := 2) (n := 1) (As := [_]) (rest := _) E (c_X2_layerOf l D cA A ad _ _ (by omega) _ hpy _ (by omega)) gX4_ball_X2_layerOf rfl ⟨rfl, rfl⟩ (by decide +kernel) ⟨Nat.le_of_ble_eq_true rfl, Nat.le_of_ble_eq_true rfl⟩ (ob_9 (mem_9 _ (by omega) (by omega))) rfl rfl rfl (Nat.le_of_ble_eq_true rfl) ⟨Nat.le_of_ble_eq_true rfl, Nat.le_of_ble_eq_true rfl⟩ dX4_ball_93 ?_
      rintro r_93 ws_93 ⟨rfl, rfl⟩
      refine g_wid (k := 2) (n := 12) (Nat.le_of_ble_eq_true rfl) (Nat.le_of_ble_eq_true rfl) ?_
      refine g_xret ?_
      exact g_iret E (⟨(if_neg nb1).trans ((if_neg nb2).trans (if_neg (fun q => q (by omega)))), by first | rfl | exact congrArg zI (if_pos (ite1 c_123)).symm | exact congrArg zI (if_neg (ite0 c_123)).symm, rfl⟩) dX4_ball_96
    by_cases sw_42_2 : w9 = 2
    · subst sw_42_2
      refine g_tab (tgt := 97) E dX4_ball_42 (by decide) (by decide) (by decide) rfl (by decide) ?_
      refine g_aload E dX4_ball_97 rfl ?_
      refine gx_Pile_pyramid' E (mem_1 _ (by omega) _ (by omega)) hin1 (by decide +kernel) dX4_ball_99 ?_
      refine g_iload_n E dX4_ball_102 rfl ?_
      refine g_callVi (T := TX2) (ci := 2) (n := 1) (As := [_]) (rest := _) E (c_X2_rowOf l D cA A ad _ _ (by omega) _ hpy _ (by omega)) gX4_ball_X2_rowOf rfl ⟨rfl, rfl⟩ (by decide +kernel) ⟨Nat.le_of_ble_eq_true rfl, Nat.le_of_ble_eq_true rfl⟩ (ob_9 (mem_9 _ (by omega) (by omega))) rfl rfl rfl (Nat.le_of_ble_eq_true rfl) ⟨Nat.le_of_ble_eq_true rfl, Nat.le_of_ble_eq_true rfl⟩ dX4_ball_103 ?_
      rintro r_103 ws_103 ⟨rfl, rfl⟩
      refine g_wid (k := 2) (n := 12) (Nat.le_of_ble_eq_true rfl) (Nat.le_of_ble_eq_true rfl) ?_
      refine g_xret ?_
      exact g_iret E (⟨(if_neg nb1).trans ((if_neg nb2).trans (if_neg (fun q => q (by omega)))), by first | rfl | exact congrArg zI (if_pos (ite1 c_123)).symm | exact congrArg zI (if_neg (ite0 c_123)).symm, rfl⟩) dX4_ball_106
    by_cases sw_42_3 : w9 = 3
    · subst sw_42_3
      refine g_tab (tgt := 107) E dX4_ball_42 (by decide) (by decide) (by decide) rfl (by decide) ?_
      refine g_aload E dX4_ball_107 rfl ?_
      refine gx_Pile_pyramid' E (mem_1 _ (by omega) _ (by omega)) hin1 (by decide +kernel) dX4_ball_109 ?_
      refine g_iload_n E dX4_ball_112 rfl ?_
      refine g_callVi (T := TX2) (ci := 2) (n := 1) (As := [_]) (rest := _) E (c_X2_placeOf l D cA A ad _ _ (by omega) _ hpy _ (by omega)) gX4_ball_X2_placeOf rfl ⟨rfl, rfl⟩ (by decide +kernel) ⟨Nat.le_of_ble_eq_true rfl, Nat.le_of_ble_eq_true rfl⟩ (ob_9 (mem_9 _ (by omega) (by omega))) rfl rfl rfl (Nat.le_of_ble_eq_true rfl) ⟨Nat.le_of_ble_eq_true rfl, Nat.le_of_ble_eq_true rfl⟩ dX4_ball_113 ?_
      rintro r_113 ws_113 ⟨rfl, rfl⟩
      refine g_wid (k := 2) (n := 12) (Nat.le_of_ble_eq_true rfl) (Nat.le_of_ble_eq_true rfl) ?_
      refine g_xret ?_
      exact g_iret E (⟨(if_neg nb1).trans ((if_neg nb2).trans (if_neg (fun q => q (by omega)))), by first | rfl | exact congrArg zI (if_pos (ite1 c_123)).symm | exact congrArg zI (if_neg (ite0 c_123)).symm, rfl⟩) dX4_ball_116
    by_cases sw_42_4 : w9 = 4
    · subst sw_42_4
      refine g_tab (tgt := 117) E dX4_ball_42 (by decide) (by decide) (by decide) rfl (by decide) ?_
      refine g_aload E dX4_ball_117 rfl ?_
      refine g_iload_n E dX4_ball_119 rfl ?_
      refine g_callVi (T := TX1) (ci := 1) (n := 1) (As := [_]) (rest := _) E (c_X1_isCovered l D cA A ad σ 0 p9.toNat (a) (by omega) (by omega) hPo _ (by omega)) gX4_ball_X1_isCovered rfl ⟨rfl, rfl⟩ (by decide +kernel) ⟨Nat.le_of_ble_eq_true rfl, Nat.le_of_ble_eq_true rfl⟩ (ob_1 (mem_1 _ (by omega) _ (by omega))) rfl rfl rfl (Nat.le_of_ble_eq_true rfl) ⟨Nat.le_of_ble_eq_true rfl, Nat.le_of_ble_eq_true rfl⟩ dX4_ball_120 ?_
      rintro r_120 ws_120 ⟨rfl, rfl⟩
      refine g_if_eq (tgt := 130) E dX4_ball_123 (by decide) (by omega) (fun c_123 => ?_) (fun c_123 => ?_)
      · refine g_iconst E dX4_ball_130 ?_
        refine g_wid (k := 2) (n := 12) (Nat.le_of_ble_eq_true rfl) (Nat.le_of_ble_eq_true rfl) ?_
        refine g_xret ?_
        exact g_iret E (⟨(if_neg nb1).trans ((if_neg nb2).trans (if_neg (fun q => q (by omega)))), by first | rfl | exact congrArg zI (if_pos (ite1 c_123)).symm | exact congrArg zI (if_neg (ite0 c_123)).symm, rfl⟩) dX4_ball_131
      · refine g_iconst E dX4_ball_126 ?_
        refine g_goto (tgt := 131) E dX4_ball_127 (by decide) ?_
        refine g_wid (k := 2) (n := 12) (Nat.le_of_ble_eq_true rfl) (Nat.le_of_ble_eq_true rfl) ?_
        refine g_xret ?_
        exact g_iret E (⟨(if_neg nb1).trans ((if_neg nb2).trans (if_neg (fun q => q (by omega)))), by first | rfl | exact congrArg zI (if_pos (ite1 c_123)).symm | exact congrArg zI (if_neg (ite0 c_123)).symm, rfl⟩) dX4_ball_131
    by_cases sw_42_5 : w9 = 5
    · subst sw_42_5
      refine g_tab (tgt := 132) E dX4_ball_42 (by decide) (by decide) (by decide) rfl (by decide) ?_
      refine g_aload E dX4_ball_132 rfl ?_
      refine g_iload_n E dX4_ball_134 rfl ?_
      refine g_callVi (T := TX1) (ci := 1) (n := 1) (As := [_]) (rest := _) E (c_X1_ballsOn l D cA A ad σ 0 p9.toNat (a) (by omega) (by omega) hPo _ (by omega)) gX4_ball_X1_ballsOn rfl ⟨rfl, rfl⟩ (by decide +kernel) ⟨Nat.le_of_ble_eq_true rfl, Nat.le_of_ble_eq_true rfl⟩ (ob_1 (mem_1 _ (by omega) _ (by omega))) rfl rfl rfl (Nat.le_of_ble_eq_true rfl) ⟨Nat.le_of_ble_eq_true rfl, Nat.le_of_ble_eq_true rfl⟩ dX4_ball_135 ?_
      rintro r_135 ws_135 ⟨rfl, rfl⟩
      refine g_wid (k := 2) (n := 12) (Nat.le_of_ble_eq_true rfl) (Nat.le_of_ble_eq_true rfl) ?_
      refine g_xret ?_
      exact g_iret E (⟨(if_neg nb1).trans ((if_neg nb2).trans (if_neg (fun q => q (by omega)))), by first | rfl | exact congrArg zI (if_pos (ite1 c_123)).symm | exact congrArg zI (if_neg (ite0 c_123)).symm, rfl⟩) dX4_ball_138
    refine g_tabOut (tgt := 139) E dX4_ball_42 (by omega) (by omega) (by decide) ?_
    exact g_throw (is := 213) E Z (by decide +kernel) (by decide +kernel) (by decide +kernel) rfl (List.mem_of_getElem? (i := 9) rfl) (fun w h => by first | exact List.mem_cons_of_mem _ (List.mem_append_right _ h) | exact List.mem_cons_of_mem _ (List.mem_append_left _ (List.mem_append_right _ h)) | exact List.mem_cons_of_mem _ (List.mem_append_left _ (List.mem_append_left _ (List.mem_append_right _ h)))) nb_xI gd_xI dX4_ball_139 dX4_ball_142 dX4_ball_143 dX4_ball_145 dX4_ball_148 (Nat.le_of_ble_eq_true rfl) (Nat.le_of_ble_eq_true rfl) ⟨Nat.le_of_ble_eq_true rfl, Nat.le_of_ble_eq_true rfl⟩ ⟨Nat.le_of_ble_eq_true rfl, Nat.le_of_ble_eq_true rfl⟩ (⟨0, (if_neg nb1).trans ((if_neg nb2).trans (if_pos (by omega))), rfl⟩)
  · exact g_throw (is := 192) E Z (by decide +kernel) (by decide +kernel) (by decide +kernel) rfl (List.mem_of_getElem? (i := 8) rfl) (fun w h => by first | exact List.mem_cons_of_mem _ (List.mem_append_right _ h) | exact List.mem_cons_of_mem _ (List.mem_append_left _ (List.mem_append_right _ h)) | exact List.mem_cons_of_mem _ (List.mem_append_left _ (List.mem_append_left _ (List.mem_append_right _ h)))) nb_xI gd_xI dX4_ball_31 dX4_ball_34 dX4_ball_35 dX4_ball_37 dX4_ball_40 (Nat.le_of_ble_eq_true rfl) (Nat.le_of_ble_eq_true rfl) ⟨Nat.le_of_ble_eq_true rfl, Nat.le_of_ble_eq_true rfl⟩ ⟨Nat.le_of_ble_eq_true rfl, Nat.le_of_ble_eq_true rfl⟩ (⟨0, (if_neg nb1).trans (if_pos (fun q => it1 c_28 (by omega))), rfl⟩)
set_option maxHeartbeats 800000 in
set_option maxRecDepth 100000 in
/-- ball(p, b, w), not refused -/
theorem n_X4_ball (l : Launch) (D : va_G) (cA : Nat → ClassId) (A : Nat → Prop) (ad : Ad) (σ : Nat → St) (a : St) (hI : Inv a) (p9 b9 w9 : Int) (hp : R31 p9) (hb : R31 b9) (hm : R31 w9) (hg : (0 ≤ p9 ∧ p9 < np a) ∧ (0 ≤ b9 ∧ b9 < bl a p9.toNat) ∧ 0 ≤ w9 ∧ w9 ≤ 5) : Met l yX4_ball wsX4_ball ({ frames := 4, cells := 0, slots := 0, locals := 94 }) (PcG D (tysX cA) A (wX cA ad (upY σ 0 a)) [.ref (ad 0 8 0), .int (zI p9), .int (zI b9), .int (zI w9)]) (va_Qi (fun (r : Int32) ws' => r = blV a p9.toNat b9 w9 ∧ ws' = wX cA ad (upY σ 0 a)) (gB D A) A) 0 0 A := by
  refine g_met (cc := cX4_ball) (maxL := 5) (ret := (some .int)) (own := RX4) rfl (by decide) rfl (Nat.le_of_ble_eq_true rfl) ?_
  intro p e s m below meth c E
  have hin1 : ∀ w ∈ u_ws RX1 TX1 4, w ∈ wsX4_ball := by decide +kernel
  have hin3 : ∀ w ∈ u_ws RX3 TX3 8, w ∈ wsX4_ball := by decide +kernel
  have hin4 : ∀ w ∈ u_ws RX4 TX4 6, w ∈ wsX4_ball := by decide +kernel
  obtain ⟨⟨hn0, hn6, hc0, hc3⟩, hPI, hCI, hFr⟩ := id hI
  obtain ⟨hp1, hp2⟩ := hp
  obtain ⟨hm1, hm2⟩ := hm
  obtain ⟨hb1, hb2⟩ := hb
  obtain ⟨⟨hg1, hg2⟩, ⟨hg3, hg4⟩, hg5, hg6⟩ := id hg
  have hPp := hPI p9.toNat (by omega); have hPo := hPp.1; have hPc := hPp.2; have hPo2 := hPo; unfold PO at hPo2; have hsq := sq_le (e := sd a p9.toNat) (by omega); obtain ⟨hn1, hn7, hpy⟩ := pyN_c (a := a) (p := p9.toNat) (by omega)
  refine g_loc (lv' := [(0, .ref (ad 0 8 0)), (1, .int (zI p9)), (2, .int (zI b9)), (3, .int (zI w9))]) ⟨rfl, rfl, rfl, rfl, trivial⟩ ?_
  refine g_aload_n E dX4_ball_0 rfl ?_
  refine g_iload_n E dX4_ball_1 rfl ?_
  refine g_callVv (T := TX4) (ci := 4) (n := 1) (As := [_]) (rest := _) E (n_X4_checkPile l D cA A ad _ _ hI _ (by omega) (by omega)) gX4_ball_X4_checkPile rfl ⟨rfl, rfl⟩ (by decide +kernel) ⟨Nat.le_of_ble_eq_true rfl, Nat.le_of_ble_eq_true rfl⟩ (ob_8 mem_8) rfl rfl rfl (Nat.le_of_ble_eq_true rfl) ⟨Nat.le_of_ble_eq_true rfl, Nat.le_of_ble_eq_true rfl⟩ dX4_ball_2 ?_
  rintro ws_2 rfl
  refine g_aload_n E dX4_ball_5 rfl ?_
  refine gx_Main_yard E mem_8 hin4 (by decide +kernel) dX4_ball_6 ?_
  refine gx_Yard_piles' E (mem_y _ (by omega)) hin3 (by decide +kernel) dX4_ball_9 ?_
  refine g_iload_n E dX4_ball_12 rfl ?_
  refine lx_10' E (mem_10 _ (by omega)) (by omega) dX4_ball_13 ?_
  refine g_astore E dX4_ball_14 (by decide) ?_
  refine g_iload_n E dX4_ball_16 rfl ?_
  refine g_iconst E dX4_ball_17 ?_
  refine g_aload E dX4_ball_18 rfl ?_
  refine gx_Pile_balls' E (mem_1 _ (by omega) _ (by omega)) hin1 (by decide +kernel) dX4_ball_20 ?_
  refine g_iconst E dX4_ball_23 ?_
  refine g_isub E dX4_ball_24 ?_
  refine g_callTi (n := 3) (As := [_, _, _]) (rest := _) E (c_X4_isOutside l D _ A _ _ _ _ (by omega)) gX4_ball_X4_isOutside rfl ⟨rfl, rfl⟩ (by decide +kernel) ⟨Nat.le_of_ble_eq_true rfl, Nat.le_of_ble_eq_true rfl⟩ rfl rfl (Nat.le_of_ble_eq_true rfl) ⟨Nat.le_of_ble_eq_true rfl, Nat.le_of_ble_eq_true rfl⟩ dX4_ball_25 ?_
  rintro r_25 ws_25 ⟨rfl, rfl⟩
  refine g_if_eq (tgt := 41) E dX4_ball_28 (by decide) (by omega) (fun c_28 => ?_) (fun c_28 => ?_)
  · have hi28 := it0 c_28; have hbr : 0 ≤ b9 ∧ b9 < bl a p9.toNat := (by omega); have nb2 : ¬ ¬ (0 ≤ b9 ∧ b9 < bl a p9.toNat) := fun q => q hbr
    refine g_iload_n E dX4_ball_41 rfl ?_
    by_cases sw_42_0 : w9 = 0
    · subst sw_42_0
      refine g_tab (tgt := 80) E dX4_ball_42 (by decide) (by decide) (by decide) rfl (by decide) ?_
      refine g_aload E dX4_ball_80 rfl ?_
      refine g_iload_n E dX4_ball_82 rfl ?_
      refine g_callVi (T := TX1) (ci := 1) (n := 1) (As := [_]) (rest := _) E (c_X1_rustOf l D cA A ad σ 0 p9.toNat (a) (by omega) (by omega) hPo _ (by omega)) gX4_ball_X1_rustOf rfl ⟨rfl, rfl⟩ (by decide +kernel) ⟨Nat.le_of_ble_eq_true rfl, Nat.le_of_ble_eq_true rfl⟩ (ob_1 (mem_1 _ (by omega) _ (by omega))) rfl rfl rfl (Nat.le_of_ble_eq_true rfl) ⟨Nat.le_of_ble_eq_true rfl, Nat.le_of_ble_eq_true rfl⟩ dX4_ball_83 ?_
      rintro r_83 ws_83 ⟨rfl, rfl⟩
      exact g_iret E (⟨by first | rfl | exact congrArg zI (if_pos (ite1 c_123)).symm | exact congrArg zI (if_neg (ite0 c_123)).symm, rfl⟩) dX4_ball_86
    by_cases sw_42_1 : w9 = 1
    · subst sw_42_1
      refine g_tab (tgt := 87) E dX4_ball_42 (by decide) (by decide) (by decide) rfl (by decide) ?_
      refine g_aload E dX4_ball_87 rfl ?_
      refine gx_Pile_pyramid' E (mem_1 _ (by omega) _ (by omega)) hin1 (by decide +kernel) dX4_ball_89 ?_
      refine g_iload_n E dX4_ball_92 rfl ?_
      refine g_callVi (T := TX2) (ci := 2) (n := 1) (As := [_]) (rest := _) E (c_X2_layerOf l D cA A ad _ _ (by omega) _ hpy _ (by omega)) gX4_ball_X2_layerOf rfl ⟨rfl, rfl⟩ (by decide +kernel) ⟨Nat.le_of_ble_eq_true rfl, Nat.le_of_ble_eq_true rfl⟩ (ob_9 (mem_9 _ (by omega) (by omega))) rfl rfl rfl (Nat.le_of_ble_eq_true rfl) ⟨Nat.le_of_ble_eq_true rfl, Nat.le_of_ble_eq_true rfl⟩ dX4_ball_93 ?_
      rintro r_93 ws_93 ⟨rfl, rfl⟩
      exact g_iret E (⟨by first | rfl | exact congrArg zI (if_pos (ite1 c_123)).symm | exact congrArg zI (if_neg (ite0 c_123)).symm, rfl⟩) dX4_ball_96
    by_cases sw_42_2 : w9 = 2
    · subst sw_42_2
      refine g_tab (tgt := 97) E dX4_ball_42 (by decide) (by decide) (by decide) rfl (by decide) ?_
      refine g_aload E dX4_ball_97 rfl ?_
      refine gx_Pile_pyramid' E (mem_1 _ (by omega) _ (by omega)) hin1 (by decide +kernel) dX4_ball_99 ?_
      refine g_iload_n E dX4_ball_102 rfl ?_
      refine g_callVi (T := TX2) (ci := 2) (n := 1) (As := [_]) (rest := _) E (c_X2_rowOf l D cA A ad _ _ (by omega) _ hpy _ (by omega)) gX4_ball_X2_rowOf rfl ⟨rfl, rfl⟩ (by decide +kernel) ⟨Nat.le_of_ble_eq_true rfl, Nat.le_of_ble_eq_true rfl⟩ (ob_9 (mem_9 _ (by omega) (by omega))) rfl rfl rfl (Nat.le_of_ble_eq_true rfl) ⟨Nat.le_of_ble_eq_true rfl, Nat.le_of_ble_eq_true rfl⟩ dX4_ball_103 ?_
      rintro r_103 ws_103 ⟨rfl, rfl⟩
      exact g_iret E (⟨by first | rfl | exact congrArg zI (if_pos (ite1 c_123)).symm | exact congrArg zI (if_neg (ite0 c_123)).symm, rfl⟩) dX4_ball_106
    by_cases sw_42_3 : w9 = 3
    · subst sw_42_3
      refine g_tab (tgt := 107) E dX4_ball_42 (by decide) (by decide) (by decide) rfl (by decide) ?_
      refine g_aload E dX4_ball_107 rfl ?_
      refine gx_Pile_pyramid' E (mem_1 _ (by omega) _ (by omega)) hin1 (by decide +kernel) dX4_ball_109 ?_
      refine g_iload_n E dX4_ball_112 rfl ?_
      refine g_callVi (T := TX2) (ci := 2) (n := 1) (As := [_]) (rest := _) E (c_X2_placeOf l D cA A ad _ _ (by omega) _ hpy _ (by omega)) gX4_ball_X2_placeOf rfl ⟨rfl, rfl⟩ (by decide +kernel) ⟨Nat.le_of_ble_eq_true rfl, Nat.le_of_ble_eq_true rfl⟩ (ob_9 (mem_9 _ (by omega) (by omega))) rfl rfl rfl (Nat.le_of_ble_eq_true rfl) ⟨Nat.le_of_ble_eq_true rfl, Nat.le_of_ble_eq_true rfl⟩ dX4_ball_113 ?_
      rintro r_113 ws_113 ⟨rfl, rfl⟩
      exact g_iret E (⟨by first | rfl | exact congrArg zI (if_pos (ite1 c_123)).symm | exact congrArg zI (if_neg (ite0 c_123)).symm, rfl⟩) dX4_ball_116
    by_cases sw_42_4 : w9 = 4
    · subst sw_42_4
      refine g_tab (tgt := 117) E dX4_ball_42 (by decide) (by decide) (by decide) rfl (by decide) ?_
      refine g_aload E dX4_ball_117 rfl ?_
      refine g_iload_n E dX4_ball_119 rfl ?_
      refine g_callVi (T := TX1) (ci := 1) (n := 1) (As := [_]) (rest := _) E (c_X1_isCovered l D cA A ad σ 0 p9.toNat (a) (by omega) (by omega) hPo _ (by omega)) gX4_ball_X1_isCovered rfl ⟨rfl, rfl⟩ (by decide +kernel) ⟨Nat.le_of_ble_eq_true rfl, Nat.le_of_ble_eq_true rfl⟩ (ob_1 (mem_1 _ (by omega) _ (by omega))) rfl rfl rfl (Nat.le_of_ble_eq_true rfl) ⟨Nat.le_of_ble_eq_true rfl, Nat.le_of_ble_eq_true rfl⟩ dX4_ball_120 ?_
      rintro r_120 ws_120 ⟨rfl, rfl⟩
      refine g_if_eq (tgt := 130) E dX4_ball_123 (by decide) (by omega) (fun c_123 => ?_) (fun c_123 => ?_)
      · refine g_iconst E dX4_ball_130 ?_
        exact g_iret E (⟨by first | rfl | exact congrArg zI (if_pos (ite1 c_123)).symm | exact congrArg zI (if_neg (ite0 c_123)).symm, rfl⟩) dX4_ball_131
      · refine g_iconst E dX4_ball_126 ?_
        refine g_goto (tgt := 131) E dX4_ball_127 (by decide) ?_
        exact g_iret E (⟨by first | rfl | exact congrArg zI (if_pos (ite1 c_123)).symm | exact congrArg zI (if_neg (ite0 c_123)).symm, rfl⟩) dX4_ball_131
    by_cases sw_42_5 : w9 = 5
    · subst sw_42_5
      refine g_tab (tgt := 132) E dX4_ball_42 (by decide) (by decide) (by decide) rfl (by decide) ?_
      refine g_aload E dX4_ball_132 rfl ?_
      refine g_iload_n E dX4_ball_134 rfl ?_
      refine g_callVi (T := TX1) (ci := 1) (n := 1) (As := [_]) (rest := _) E (c_X1_ballsOn l D cA A ad σ 0 p9.toNat (a) (by omega) (by omega) hPo _ (by omega)) gX4_ball_X1_ballsOn rfl ⟨rfl, rfl⟩ (by decide +kernel) ⟨Nat.le_of_ble_eq_true rfl, Nat.le_of_ble_eq_true rfl⟩ (ob_1 (mem_1 _ (by omega) _ (by omega))) rfl rfl rfl (Nat.le_of_ble_eq_true rfl) ⟨Nat.le_of_ble_eq_true rfl, Nat.le_of_ble_eq_true rfl⟩ dX4_ball_135 ?_
      rintro r_135 ws_135 ⟨rfl, rfl⟩
      exact g_iret E (⟨by first | rfl | exact congrArg zI (if_pos (ite1 c_123)).symm | exact congrArg zI (if_neg (ite0 c_123)).symm, rfl⟩) dX4_ball_138
    exact absurd hg (by omega)
  · exact absurd (by omega) (it1 c_28)
set_option maxHeartbeats 800000 in
set_option maxRecDepth 100000 in
/-- at(p, k, r, q) -/
theorem c_X4_at (l : Launch) (hl0 : l.stackTraces = false) (D : va_G) (cA : Nat → ClassId) (A : Nat → Prop) (ad : Ad) (σ : Nat → St) (a : St) (hI : Inv a) (p9 k9 r9 q9 : Int) (hp : R31 p9) (hk : R31 k9) (hr : R31 r9) (hq : R31 q9) : vx_Met l yX4_at wsX4_at ({ frames := 7, cells := 2, slots := 12, locals := 107 }) (PcZ D (tysX cA) A (wX cA ad (upY σ 0 a)) [.ref (ad 0 8 0), .int (zI p9), .int (zI k9), .int (zI r9), .int (zI q9)]) (va_Qi (fun (r : Int32) ws' => eAt a p9 k9 r9 q9 = 0 ∧ r = zI (atV a p9.toNat k9 r9 q9) ∧ ws' = wX cA ad (upY σ 0 a)) (gB D A) A) (XQ D A (fun E9 => exn [xI] E9 (eAt a p9 k9 r9 q9)) (wX cA ad (upY σ 0 a))) 2 12 A := by
  refine g_metx (cc := cX4_at) (maxL := 8) (ret := (some .int)) (own := RX4) hl0 rfl (by decide) rfl (Nat.le_of_ble_eq_true rfl) ?_
  intro p e s m below meth c E Z
  have hin1 : ∀ w ∈ u_ws RX1 TX1 4, w ∈ wsX4_at := by decide +kernel
  have hin2 : ∀ w ∈ u_ws RX2 TX2 4, w ∈ wsX4_at := by decide +kernel
  have hin3 : ∀ w ∈ u_ws RX3 TX3 8, w ∈ wsX4_at := by decide +kernel
  have hin4 : ∀ w ∈ u_ws RX4 TX4 6, w ∈ wsX4_at := by decide +kernel
  obtain ⟨⟨hn0, hn6, hc0, hc3⟩, hPI, hCI, hFr⟩ := id hI
  obtain ⟨hp1, hp2⟩ := hp
  obtain ⟨hk1, hk2⟩ := hk
  obtain ⟨hr1, hr2⟩ := hr
  obtain ⟨hq1, hq2⟩ := hq
  refine g_loc (lv' := [(0, .ref (ad 0 8 0)), (1, .int (zI p9)), (2, .int (zI k9)), (3, .int (zI r9)), (4, .int (zI q9))]) ⟨rfl, rfl, rfl, rfl, rfl, trivial⟩ ?_
  refine g_aload_n E dX4_at_0 rfl ?_
  refine g_iload_n E dX4_at_1 rfl ?_
  refine g_xVv (T := TX4) (ci := 4) (n := 1) (As := [_]) (rest := _) E Z (c_X4_checkPile l hl0 D cA A ad _ _ hI _ (by omega)) gX4_at_X4_checkPile rfl ⟨rfl, rfl⟩ (by decide +kernel) ⟨Nat.le_of_ble_eq_true rfl, Nat.le_of_ble_eq_true rfl⟩ (ob_8 mem_8) rfl rfl rfl (Nat.le_of_ble_eq_true rfl) ⟨Nat.le_of_ble_eq_true rfl, Nat.le_of_ble_eq_true rfl⟩ ⟨Nat.le_of_ble_eq_true rfl, Nat.le_of_ble_eq_true rfl⟩ dX4_at_2 (fun E9 hE => ⟨0, if_pos (hE.2), hE.1 ▸ rfl⟩) ?_
  rintro ws_2 ⟨g_2, rfl⟩
  have nb1 : ¬ ¬ (0 ≤ p9 ∧ p9 < np a) := fun q => q g_2; have hPp := hPI p9.toNat (by omega); have hPo := hPp.1; have hPc := hPp.2; have hPo2 := hPo; unfold PO at hPo2; have hsq := sq_le (e := sd a p9.toNat) (by omega); obtain ⟨hn1, hn7, hpy⟩ := pyN_c (a := a) (p := p9.toNat) (by omega)
  refine g_aload_n E dX4_at_5 rfl ?_
  refine gx_Main_yard E mem_8 hin4 (by decide +kernel) dX4_at_6 ?_
  refine gx_Yard_piles' E (mem_y _ (by omega)) hin3 (by decide +kernel) dX4_at_9 ?_
  refine g_iload_n E dX4_at_12 rfl ?_
  refine lx_10' E (mem_10 _ (by omega)) (by omega) dX4_at_13 ?_
  refine g_astore E dX4_at_14 (by decide) ?_
  refine g_iload_n E dX4_at_16 rfl ?_
  refine g_iconst E dX4_at_17 ?_
  refine g_aload E dX4_at_18 rfl ?_
  refine gx_Pile_pyramid' E (mem_1 _ (by omega) _ (by omega)) hin1 (by decide +kernel) dX4_at_20 ?_
  refine gx_Pyr_edge E (mem_9 _ (by omega) (by omega)) hin2 (by decide +kernel) dX4_at_23 ?_
  rw [hpy]
  refine g_iconst E dX4_at_26 ?_
  refine g_isub E dX4_at_27 ?_
  refine g_callTi (n := 3) (As := [_, _, _]) (rest := _) E (c_X4_isOutside l D _ A _ _ _ _ (by omega)) gX4_at_X4_isOutside rfl ⟨rfl, rfl⟩ (by decide +kernel) ⟨Nat.le_of_ble_eq_true rfl, Nat.le_of_ble_eq_true rfl⟩ rfl rfl (Nat.le_of_ble_eq_true rfl) ⟨Nat.le_of_ble_eq_true rfl, Nat.le_of_ble_eq_true rfl⟩ dX4_at_28 ?_
  rintro r_28 ws_28 ⟨rfl, rfl⟩
  refine g_if_eq (tgt := 44) E dX4_at_31 (by decide) (by omega) (fun c_31 => ?_) (fun c_31 => ?_)
  · have hi31 := it0 c_31; have nb2 : ¬ ¬ (0 ≤ k9 ∧ k9 < sd a p9.toNat) := fun q => q (by omega)
    refine g_aload E dX4_at_44 rfl ?_
    refine gx_Pile_pyramid' E (mem_1 _ (by omega) _ (by omega)) hin1 (by decide +kernel) dX4_at_46 ?_
    refine gx_Pyr_edge E (mem_9 _ (by omega) (by omega)) hin2 (by decide +kernel) dX4_at_49 ?_
    rw [hpy]
    refine g_iload_n E dX4_at_52 rfl ?_
    refine g_isub E dX4_at_53 ?_
    refine g_istore E dX4_at_54 (by decide) ?_
    refine g_iload_n E dX4_at_56 rfl ?_
    refine g_iconst E dX4_at_57 ?_
    refine g_iload E dX4_at_58 rfl ?_
    refine g_iconst E dX4_at_60 ?_
    refine g_isub E dX4_at_61 ?_
    refine g_callTi (n := 3) (As := [_, _, _]) (rest := _) E (c_X4_isOutside l D _ A _ _ _ _ (by omega)) gX4_at_X4_isOutside rfl ⟨rfl, rfl⟩ (by decide +kernel) ⟨Nat.le_of_ble_eq_true rfl, Nat.le_of_ble_eq_true rfl⟩ rfl rfl (Nat.le_of_ble_eq_true rfl) ⟨Nat.le_of_ble_eq_true rfl, Nat.le_of_ble_eq_true rfl⟩ dX4_at_62 ?_
    rintro r_62 ws_62 ⟨rfl, rfl⟩
    refine g_if_eq (tgt := 78) E dX4_at_65 (by decide) (by omega) (fun c_65 => ?_) (fun c_65 => ?_)
    · have hi65 := it0 c_65; have nb3 : ¬ ¬ (0 ≤ r9 ∧ r9 < sd a p9.toNat - k9) := fun q => q (by omega)
      refine g_iload E dX4_at_78 rfl ?_
      refine g_iconst E dX4_at_80 ?_
      refine g_iload E dX4_at_81 rfl ?_
      refine g_iconst E dX4_at_83 ?_
      refine g_isub E dX4_at_84 ?_
      refine g_callTi (n := 3) (As := [_, _, _]) (rest := _) E (c_X4_isOutside l D _ A _ _ _ _ (by omega)) gX4_at_X4_isOutside rfl ⟨rfl, rfl⟩ (by decide +kernel) ⟨Nat.le_of_ble_eq_true rfl, Nat.le_of_ble_eq_true rfl⟩ rfl rfl (Nat.le_of_ble_eq_true rfl) ⟨Nat.le_of_ble_eq_true rfl, Nat.le_of_ble_eq_true rfl⟩ dX4_at_85 ?_
      rintro r_85 ws_85 ⟨rfl, rfl⟩
      refine g_if_eq (tgt := 101) E dX4_at_88 (by decide) (by omega) (fun c_88 => ?_) (fun c_88 => ?_)
      · have hi88 := it0 c_88; have nb4 : ¬ ¬ (0 ≤ q9 ∧ q9 < sd a p9.toNat - k9) := fun q => q (by omega); have hz9 := stz_b (i := pyN (a 1 p9.toNat)) (k := k9) ⟨hn1, hn7⟩ (by omega); rw [hpy] at hz9; have hm9 := mul66 (a := r9) (b := sd a p9.toNat - k9) (by omega) (by omega)
        refine g_aload E dX4_at_101 rfl ?_
        refine gx_Pile_pyramid' E (mem_1 _ (by omega) _ (by omega)) hin1 (by decide +kernel) dX4_at_103 ?_
        refine g_iload_n E dX4_at_106 rfl ?_
        refine g_iload_n E dX4_at_107 rfl ?_
        refine g_iload E dX4_at_108 rfl ?_
        refine g_callVi (T := TX2) (ci := 2) (n := 3) (As := [_, _, _]) (rest := _) E (c_X2_numberOf l D cA A ad _ _ (by omega) _ hpy _ _ _ (by omega)) gX4_at_X2_numberOf rfl ⟨rfl, rfl⟩ (by decide +kernel) ⟨Nat.le_of_ble_eq_true rfl, Nat.le_of_ble_eq_true rfl⟩ (ob_9 (mem_9 _ (by omega) (by omega))) rfl rfl rfl (Nat.le_of_ble_eq_true rfl) ⟨Nat.le_of_ble_eq_true rfl, Nat.le_of_ble_eq_true rfl⟩ dX4_at_110 ?_
        rintro r_110 ws_110 ⟨rfl, rfl⟩
        refine g_istore E dX4_at_113 (by decide) ?_
        refine g_iload E dX4_at_115 rfl ?_
        refine g_aload E dX4_at_117 rfl ?_
        refine gx_Pile_balls' E (mem_1 _ (by omega) _ (by omega)) hin1 (by decide +kernel) dX4_at_119 ?_
        refine g_icmp_ge (tgt := 130) E dX4_at_122 (by decide) (by omega) (by omega) (fun c_122 => ?_) (fun c_122 => ?_)
        · refine g_iconst E dX4_at_130 ?_
          refine g_wid (k := 2) (n := 12) (Nat.le_of_ble_eq_true rfl) (Nat.le_of_ble_eq_true rfl) ?_
          refine g_xret ?_
          exact g_iret E (⟨(if_neg nb1).trans ((if_neg nb2).trans ((if_neg nb3).trans (if_neg nb4))), congrArg zI (by unfold atV; first | exact (if_pos (by omega)).symm | exact (if_neg (by omega)).symm), rfl⟩) dX4_at_131
        · refine g_iload E dX4_at_125 rfl ?_
          refine g_goto (tgt := 131) E dX4_at_127 (by decide) ?_
          refine g_wid (k := 2) (n := 12) (Nat.le_of_ble_eq_true rfl) (Nat.le_of_ble_eq_true rfl) ?_
          refine g_xret ?_
          exact g_iret E (⟨(if_neg nb1).trans ((if_neg nb2).trans ((if_neg nb3).trans (if_neg nb4))), congrArg zI (by unfold atV; first | exact (if_pos (by omega)).symm | exact (if_neg (by omega)).symm), rfl⟩) dX4_at_131
      · exact g_throw (is := 219) E Z (by decide +kernel) (by decide +kernel) (by decide +kernel) rfl (List.mem_of_getElem? (i := 12) rfl) (fun w h => by first | exact List.mem_cons_of_mem _ (List.mem_append_right _ h) | exact List.mem_cons_of_mem _ (List.mem_append_left _ (List.mem_append_right _ h)) | exact List.mem_cons_of_mem _ (List.mem_append_left _ (List.mem_append_left _ (List.mem_append_right _ h)))) nb_xI gd_xI dX4_at_91 dX4_at_94 dX4_at_95 dX4_at_97 dX4_at_100 (Nat.le_of_ble_eq_true rfl) (Nat.le_of_ble_eq_true rfl) ⟨Nat.le_of_ble_eq_true rfl, Nat.le_of_ble_eq_true rfl⟩ ⟨Nat.le_of_ble_eq_true rfl, Nat.le_of_ble_eq_true rfl⟩ (⟨0, (if_neg nb1).trans ((if_neg nb2).trans ((if_neg nb3).trans (if_pos (fun q => it1 c_88 (by omega))))), rfl⟩)
    · exact g_throw (is := 217) E Z (by decide +kernel) (by decide +kernel) (by decide +kernel) rfl (List.mem_of_getElem? (i := 11) rfl) (fun w h => by first | exact List.mem_cons_of_mem _ (List.mem_append_right _ h) | exact List.mem_cons_of_mem _ (List.mem_append_left _ (List.mem_append_right _ h)) | exact List.mem_cons_of_mem _ (List.mem_append_left _ (List.mem_append_left _ (List.mem_append_right _ h)))) nb_xI gd_xI dX4_at_68 dX4_at_71 dX4_at_72 dX4_at_74 dX4_at_77 (Nat.le_of_ble_eq_true rfl) (Nat.le_of_ble_eq_true rfl) ⟨Nat.le_of_ble_eq_true rfl, Nat.le_of_ble_eq_true rfl⟩ ⟨Nat.le_of_ble_eq_true rfl, Nat.le_of_ble_eq_true rfl⟩ (⟨0, (if_neg nb1).trans ((if_neg nb2).trans (if_pos (fun q => it1 c_65 (by omega)))), rfl⟩)
  · exact g_throw (is := 215) E Z (by decide +kernel) (by decide +kernel) (by decide +kernel) rfl (List.mem_of_getElem? (i := 10) rfl) (fun w h => by first | exact List.mem_cons_of_mem _ (List.mem_append_right _ h) | exact List.mem_cons_of_mem _ (List.mem_append_left _ (List.mem_append_right _ h)) | exact List.mem_cons_of_mem _ (List.mem_append_left _ (List.mem_append_left _ (List.mem_append_right _ h)))) nb_xI gd_xI dX4_at_34 dX4_at_37 dX4_at_38 dX4_at_40 dX4_at_43 (Nat.le_of_ble_eq_true rfl) (Nat.le_of_ble_eq_true rfl) ⟨Nat.le_of_ble_eq_true rfl, Nat.le_of_ble_eq_true rfl⟩ ⟨Nat.le_of_ble_eq_true rfl, Nat.le_of_ble_eq_true rfl⟩ (⟨0, (if_neg nb1).trans (if_pos (fun q => it1 c_31 (by omega))), rfl⟩)
set_option maxHeartbeats 800000 in
set_option maxRecDepth 100000 in
/-- at(p, k, r, q), not refused -/
theorem n_X4_at (l : Launch) (D : va_G) (cA : Nat → ClassId) (A : Nat → Prop) (ad : Ad) (σ : Nat → St) (a : St) (hI : Inv a) (p9 k9 r9 q9 : Int) (hp : R31 p9) (hk : R31 k9) (hr : R31 r9) (hq : R31 q9) (hg : (0 ≤ p9 ∧ p9 < np a) ∧ (0 ≤ k9 ∧ k9 < sd a p9.toNat) ∧ (0 ≤ r9 ∧ r9 < sd a p9.toNat - k9) ∧ 0 ≤ q9 ∧ q9 < sd a p9.toNat - k9) : Met l yX4_at wsX4_at ({ frames := 2, cells := 0, slots := 0, locals := 44 }) (PcG D (tysX cA) A (wX cA ad (upY σ 0 a)) [.ref (ad 0 8 0), .int (zI p9), .int (zI k9), .int (zI r9), .int (zI q9)]) (va_Qi (fun (r : Int32) ws' => r = zI (atV a p9.toNat k9 r9 q9) ∧ ws' = wX cA ad (upY σ 0 a)) (gB D A) A) 0 0 A := by
  refine g_met (cc := cX4_at) (maxL := 8) (ret := (some .int)) (own := RX4) rfl (by decide) rfl (Nat.le_of_ble_eq_true rfl) ?_
  intro p e s m below meth c E
  have hin1 : ∀ w ∈ u_ws RX1 TX1 4, w ∈ wsX4_at := by decide +kernel
  have hin2 : ∀ w ∈ u_ws RX2 TX2 4, w ∈ wsX4_at := by decide +kernel
  have hin3 : ∀ w ∈ u_ws RX3 TX3 8, w ∈ wsX4_at := by decide +kernel
  have hin4 : ∀ w ∈ u_ws RX4 TX4 6, w ∈ wsX4_at := by decide +kernel
  obtain ⟨⟨hn0, hn6, hc0, hc3⟩, hPI, hCI, hFr⟩ := id hI
  obtain ⟨hp1, hp2⟩ := hp
  obtain ⟨hk1, hk2⟩ := hk
  obtain ⟨hr1, hr2⟩ := hr
  obtain ⟨hq1, hq2⟩ := hq
  obtain ⟨⟨hg1, hg2⟩, ⟨hg3, hg4⟩, ⟨hg5, hg6⟩, hg7, hg8⟩ := id hg
  have hPp := hPI p9.toNat (by omega); have hPo := hPp.1; have hPc := hPp.2; have hPo2 := hPo; unfold PO at hPo2; have hsq := sq_le (e := sd a p9.toNat) (by omega); obtain ⟨hn1, hn7, hpy⟩ := pyN_c (a := a) (p := p9.toNat) (by omega)
  refine g_loc (lv' := [(0, .ref (ad 0 8 0)), (1, .int (zI p9)), (2, .int (zI k9)), (3, .int (zI r9)), (4, .int (zI q9))]) ⟨rfl, rfl, rfl, rfl, rfl, trivial⟩ ?_
  refine g_aload_n E dX4_at_0 rfl ?_
  refine g_iload_n E dX4_at_1 rfl ?_
  refine g_callVv (T := TX4) (ci := 4) (n := 1) (As := [_]) (rest := _) E (n_X4_checkPile l D cA A ad _ _ hI _ (by omega) (by omega)) gX4_at_X4_checkPile rfl ⟨rfl, rfl⟩ (by decide +kernel) ⟨Nat.le_of_ble_eq_true rfl, Nat.le_of_ble_eq_true rfl⟩ (ob_8 mem_8) rfl rfl rfl (Nat.le_of_ble_eq_true rfl) ⟨Nat.le_of_ble_eq_true rfl, Nat.le_of_ble_eq_true rfl⟩ dX4_at_2 ?_
  rintro ws_2 rfl
  refine g_aload_n E dX4_at_5 rfl ?_
  refine gx_Main_yard E mem_8 hin4 (by decide +kernel) dX4_at_6 ?_
  refine gx_Yard_piles' E (mem_y _ (by omega)) hin3 (by decide +kernel) dX4_at_9 ?_
  refine g_iload_n E dX4_at_12 rfl ?_
  refine lx_10' E (mem_10 _ (by omega)) (by omega) dX4_at_13 ?_
  refine g_astore E dX4_at_14 (by decide) ?_
  refine g_iload_n E dX4_at_16 rfl ?_
  refine g_iconst E dX4_at_17 ?_
  refine g_aload E dX4_at_18 rfl ?_
  refine gx_Pile_pyramid' E (mem_1 _ (by omega) _ (by omega)) hin1 (by decide +kernel) dX4_at_20 ?_
  refine gx_Pyr_edge E (mem_9 _ (by omega) (by omega)) hin2 (by decide +kernel) dX4_at_23 ?_
  rw [hpy]
  refine g_iconst E dX4_at_26 ?_
  refine g_isub E dX4_at_27 ?_
  refine g_callTi (n := 3) (As := [_, _, _]) (rest := _) E (c_X4_isOutside l D _ A _ _ _ _ (by omega)) gX4_at_X4_isOutside rfl ⟨rfl, rfl⟩ (by decide +kernel) ⟨Nat.le_of_ble_eq_true rfl, Nat.le_of_ble_eq_true rfl⟩ rfl rfl (Nat.le_of_ble_eq_true rfl) ⟨Nat.le_of_ble_eq_true rfl, Nat.le_of_ble_eq_true rfl⟩ dX4_at_28 ?_
  rintro r_28 ws_28 ⟨rfl, rfl⟩
  refine g_if_eq (tgt := 44) E dX4_at_31 (by decide) (by omega) (fun c_31 => ?_) (fun c_31 => ?_)
  · have hi31 := it0 c_31; have nb2 : ¬ ¬ (0 ≤ k9 ∧ k9 < sd a p9.toNat) := fun q => q (by omega)
    refine g_aload E dX4_at_44 rfl ?_
    refine gx_Pile_pyramid' E (mem_1 _ (by omega) _ (by omega)) hin1 (by decide +kernel) dX4_at_46 ?_
    refine gx_Pyr_edge E (mem_9 _ (by omega) (by omega)) hin2 (by decide +kernel) dX4_at_49 ?_
    rw [hpy]
    refine g_iload_n E dX4_at_52 rfl ?_
    refine g_isub E dX4_at_53 ?_
    refine g_istore E dX4_at_54 (by decide) ?_
    refine g_iload_n E dX4_at_56 rfl ?_
    refine g_iconst E dX4_at_57 ?_
    refine g_iload E dX4_at_58 rfl ?_
    refine g_iconst E dX4_at_60 ?_
    refine g_isub E dX4_at_61 ?_
    refine g_callTi (n := 3) (As := [_, _, _]) (rest := _) E (c_X4_isOutside l D _ A _ _ _ _ (by omega)) gX4_at_X4_isOutside rfl ⟨rfl, rfl⟩ (by decide +kernel) ⟨Nat.le_of_ble_eq_true rfl, Nat.le_of_ble_eq_true rfl⟩ rfl rfl (Nat.le_of_ble_eq_true rfl) ⟨Nat.le_of_ble_eq_true rfl, Nat.le_of_ble_eq_true rfl⟩ dX4_at_62 ?_
    rintro r_62 ws_62 ⟨rfl, rfl⟩
    refine g_if_eq (tgt := 78) E dX4_at_65 (by decide) (by omega) (fun c_65 => ?_) (fun c_65 => ?_)
    · have hi65 := it0 c_65; have nb3 : ¬ ¬ (0 ≤ r9 ∧ r9 < sd a p9.toNat - k9) := fun q => q (by omega)
      refine g_iload E dX4_at_78 rfl ?_
      refine g_iconst E dX4_at_80 ?_
      refine g_iload E dX4_at_81 rfl ?_
      refine g_iconst E dX4_at_83 ?_
      refine g_isub E dX4_at_84 ?_
      refine g_callTi (n := 3) (As := [_, _, _]) (rest := _) E (c_X4_isOutside l D _ A _ _ _ _ (by omega)) gX4_at_X4_isOutside rfl ⟨rfl, rfl⟩ (by decide +kernel) ⟨Nat.le_of_ble_eq_true rfl, Nat.le_of_ble_eq_true rfl⟩ rfl rfl (Nat.le_of_ble_eq_true rfl) ⟨Nat.le_of_ble_eq_true rfl, Nat.le_of_ble_eq_true rfl⟩ dX4_at_85 ?_
      rintro r_85 ws_85 ⟨rfl, rfl⟩
      refine g_if_eq (tgt := 101) E dX4_at_88 (by decide) (by omega) (fun c_88 => ?_) (fun c_88 => ?_)
      · have hi88 := it0 c_88; have nb4 : ¬ ¬ (0 ≤ q9 ∧ q9 < sd a p9.toNat - k9) := fun q => q (by omega); have hz9 := stz_b (i := pyN (a 1 p9.toNat)) (k := k9) ⟨hn1, hn7⟩ (by omega); rw [hpy] at hz9; have hm9 := mul66 (a := r9) (b := sd a p9.toNat - k9) (by omega) (by omega)
        refine g_aload E dX4_at_101 rfl ?_
        refine gx_Pile_pyramid' E (mem_1 _ (by omega) _ (by omega)) hin1 (by decide +kernel) dX4_at_103 ?_
        refine g_iload_n E dX4_at_106 rfl ?_
        refine g_iload_n E dX4_at_107 rfl ?_
        refine g_iload E dX4_at_108 rfl ?_
        refine g_callVi (T := TX2) (ci := 2) (n := 3) (As := [_, _, _]) (rest := _) E (c_X2_numberOf l D cA A ad _ _ (by omega) _ hpy _ _ _ (by omega)) gX4_at_X2_numberOf rfl ⟨rfl, rfl⟩ (by decide +kernel) ⟨Nat.le_of_ble_eq_true rfl, Nat.le_of_ble_eq_true rfl⟩ (ob_9 (mem_9 _ (by omega) (by omega))) rfl rfl rfl (Nat.le_of_ble_eq_true rfl) ⟨Nat.le_of_ble_eq_true rfl, Nat.le_of_ble_eq_true rfl⟩ dX4_at_110 ?_
        rintro r_110 ws_110 ⟨rfl, rfl⟩
        refine g_istore E dX4_at_113 (by decide) ?_
        refine g_iload E dX4_at_115 rfl ?_
        refine g_aload E dX4_at_117 rfl ?_
        refine gx_Pile_balls' E (mem_1 _ (by omega) _ (by omega)) hin1 (by decide +kernel) dX4_at_119 ?_
        refine g_icmp_ge (tgt := 130) E dX4_at_122 (by decide) (by omega) (by omega) (fun c_122 => ?_) (fun c_122 => ?_)
        · refine g_iconst E dX4_at_130 ?_
          exact g_iret E (⟨congrArg zI (by unfold atV; first | exact (if_pos (by omega)).symm | exact (if_neg (by omega)).symm), rfl⟩) dX4_at_131
        · refine g_iload E dX4_at_125 rfl ?_
          refine g_goto (tgt := 131) E dX4_at_127 (by decide) ?_
          exact g_iret E (⟨congrArg zI (by unfold atV; first | exact (if_pos (by omega)).symm | exact (if_neg (by omega)).symm), rfl⟩) dX4_at_131
      · exact absurd (by omega) (it1 c_88)
    · exact absurd (by omega) (it1 c_65)
  · exact absurd (by omega) (it1 c_31)
set_option maxHeartbeats 800000 in
set_option maxRecDepth 100000 in
/-- told(c, w) -/
theorem c_X4_told (l : Launch) (hl0 : l.stackTraces = false) (D : va_G) (cA : Nat → ClassId) (A : Nat → Prop) (ad : Ad) (σ : Nat → St) (a : St) (hI : Inv a) (p9 w9 : Int) (hp : R31 p9) (hm : R31 w9) : vx_Met l yX4_told wsX4_told ({ frames := 7, cells := 2, slots := 12, locals := 106 }) (PcZ D (tysX cA) A (wX cA ad (upY σ 0 a)) [.ref (ad 0 8 0), .int (zI p9), .int (zI w9)]) (va_Qi (fun (r : Int32) ws' => eTold p9 w9 = 0 ∧ r = toV a p9 w9 ∧ ws' = wX cA ad (upY σ 0 a)) (gB D A) A) (XQ D A (fun E9 => exn [xI] E9 (eTold p9 w9)) (wX cA ad (upY σ 0 a))) 2 12 A := by
  refine g_metx (cc := cX4_told) (maxL := 3) (ret := (some .int)) (own := RX4) hl0 rfl (by decide) rfl (Nat.le_of_ble_eq_true rfl) ?_
  intro p e s m below meth c E Z
  have hin3 : ∀ w ∈ u_ws RX3 TX3 8, w ∈ wsX4_told := by decide +kernel
  have hin4 : ∀ w ∈ u_ws RX4 TX4 6, w ∈ wsX4_told := by decide +kernel
  obtain ⟨⟨hn0, hn6, hc0, hc3⟩, hPI, hCI, hFr⟩ := id hI
  obtain ⟨hp1, hp2⟩ := hp
  obtain ⟨hm1, hm2⟩ := hm
  refine g_loc (lv' := [(0, .ref (ad 0 8 0)), (1, .int (zI p9)), (2, .int (zI w9))]) ⟨rfl, rfl, rfl, trivial⟩ ?_
  refine g_iload_n E dX4_told_0 rfl ?_
  refine g_xTv (n := 1) (As := [_]) (rest := _) E Z (c_X4_checkCalibre l hl0 D _ A _ _ (by omega)) gX4_told_X4_checkCalibre rfl ⟨rfl, rfl⟩ (by decide +kernel) ⟨Nat.le_of_ble_eq_true rfl, Nat.le_of_ble_eq_true rfl⟩ rfl rfl (Nat.le_of_ble_eq_true rfl) ⟨Nat.le_of_ble_eq_true rfl, Nat.le_of_ble_eq_true rfl⟩ ⟨Nat.le_of_ble_eq_true rfl, Nat.le_of_ble_eq_true rfl⟩ dX4_told_1 (fun E9 hE => ⟨0, if_pos (hE.2), hE.1 ▸ rfl⟩) ?_
  rintro ws_1 ⟨g_1, rfl⟩
  have nb1 : ¬ ¬ (0 ≤ p9 ∧ p9 ≤ 4) := fun q => q g_1
  refine g_iload_n E dX4_told_4 rfl ?_
  by_cases sw_5_0 : w9 = 0
  · subst sw_5_0
    refine g_tab (tgt := 40) E dX4_told_5 (by decide) (by decide) (by decide) rfl (by decide) ?_
    refine g_aload_n E dX4_told_40 rfl ?_
    refine gx_Main_store E mem_8 hin4 (by decide +kernel) dX4_told_41 ?_
    refine g_iload_n E dX4_told_44 rfl ?_
    refine g_callVi (T := TX6) (ci := 6) (n := 1) (As := [_]) (rest := _) E (c_X6_of l D cA A ad _ _ 5 _ TY_5 _ (by omega)) gX4_told_X6_of rfl ⟨rfl, rfl⟩ (by decide +kernel) ⟨Nat.le_of_ble_eq_true rfl, Nat.le_of_ble_eq_true rfl⟩ (ob_T TY_5) rfl rfl rfl (Nat.le_of_ble_eq_true rfl) ⟨Nat.le_of_ble_eq_true rfl, Nat.le_of_ble_eq_true rfl⟩ dX4_told_45 ?_
    rintro r_45 ws_45 ⟨rfl, rfl⟩
    refine g_wid (k := 2) (n := 12) (Nat.le_of_ble_eq_true rfl) (Nat.le_of_ble_eq_true rfl) ?_
    refine g_xret ?_
    exact g_iret E (⟨(if_neg nb1).trans (if_neg (fun q => q (by omega))), rfl, rfl⟩) dX4_told_48
  by_cases sw_5_1 : w9 = 1
  · subst sw_5_1
    refine g_tab (tgt := 49) E dX4_told_5 (by decide) (by decide) (by decide) rfl (by decide) ?_
    refine g_aload_n E dX4_told_49 rfl ?_
    refine gx_Main_yard E mem_8 hin4 (by decide +kernel) dX4_told_50 ?_
    refine gx_Yard_loose' E (mem_y _ (by omega)) hin3 (by decide +kernel) dX4_told_53 ?_
    refine g_iload_n E dX4_told_56 rfl ?_
    refine g_callVi (T := TX6) (ci := 6) (n := 1) (As := [_]) (rest := _) E (c_X6_of l D cA A ad _ _ 4 _ (TY_4 _ (by omega)) _ (by omega)) gX4_told_X6_of rfl ⟨rfl, rfl⟩ (by decide +kernel) ⟨Nat.le_of_ble_eq_true rfl, Nat.le_of_ble_eq_true rfl⟩ (ob_T (TY_4 _ (by omega))) rfl rfl rfl (Nat.le_of_ble_eq_true rfl) ⟨Nat.le_of_ble_eq_true rfl, Nat.le_of_ble_eq_true rfl⟩ dX4_told_57 ?_
    rintro r_57 ws_57 ⟨rfl, rfl⟩
    refine g_wid (k := 2) (n := 12) (Nat.le_of_ble_eq_true rfl) (Nat.le_of_ble_eq_true rfl) ?_
    refine g_xret ?_
    exact g_iret E (⟨(if_neg nb1).trans (if_neg (fun q => q (by omega))), rfl, rfl⟩) dX4_told_60
  by_cases sw_5_2 : w9 = 2
  · subst sw_5_2
    refine g_tab (tgt := 61) E dX4_told_5 (by decide) (by decide) (by decide) rfl (by decide) ?_
    refine g_aload_n E dX4_told_61 rfl ?_
    refine gx_Main_yard E mem_8 hin4 (by decide +kernel) dX4_told_62 ?_
    refine g_iload_n E dX4_told_65 rfl ?_
    refine g_callVi (T := TX3) (ci := 3) (n := 1) (As := [_]) (rest := _) E (c_X3_ballsOfCalibre l D cA A ad σ 0 a (by omega) hI _ (by omega)) gX4_told_X3_ballsOfCalibre rfl ⟨rfl, rfl⟩ (by decide +kernel) ⟨Nat.le_of_ble_eq_true rfl, Nat.le_of_ble_eq_true rfl⟩ (ob_0 (mem_y _ (by omega))) rfl rfl rfl (Nat.le_of_ble_eq_true rfl) ⟨Nat.le_of_ble_eq_true rfl, Nat.le_of_ble_eq_true rfl⟩ dX4_told_66 ?_
    rintro r_66 ws_66 ⟨rfl, rfl⟩
    refine g_wid (k := 2) (n := 12) (Nat.le_of_ble_eq_true rfl) (Nat.le_of_ble_eq_true rfl) ?_
    refine g_xret ?_
    exact g_iret E (⟨(if_neg nb1).trans (if_neg (fun q => q (by omega))), rfl, rfl⟩) dX4_told_69
  by_cases sw_5_3 : w9 = 3
  · subst sw_5_3
    refine g_tab (tgt := 70) E dX4_told_5 (by decide) (by decide) (by decide) rfl (by decide) ?_
    refine g_aload_n E dX4_told_70 rfl ?_
    refine gx_Main_fired E mem_8 hin4 (by decide +kernel) dX4_told_71 ?_
    refine g_iload_n E dX4_told_74 rfl ?_
    refine g_callVi (T := TX6) (ci := 6) (n := 1) (As := [_]) (rest := _) E (c_X6_of l D cA A ad _ _ 6 _ TY_6 _ (by omega)) gX4_told_X6_of rfl ⟨rfl, rfl⟩ (by decide +kernel) ⟨Nat.le_of_ble_eq_true rfl, Nat.le_of_ble_eq_true rfl⟩ (ob_T TY_6) rfl rfl rfl (Nat.le_of_ble_eq_true rfl) ⟨Nat.le_of_ble_eq_true rfl, Nat.le_of_ble_eq_true rfl⟩ dX4_told_75 ?_
    rintro r_75 ws_75 ⟨rfl, rfl⟩
    refine g_wid (k := 2) (n := 12) (Nat.le_of_ble_eq_true rfl) (Nat.le_of_ble_eq_true rfl) ?_
    refine g_xret ?_
    exact g_iret E (⟨(if_neg nb1).trans (if_neg (fun q => q (by omega))), rfl, rfl⟩) dX4_told_78
  by_cases sw_5_4 : w9 = 4
  · subst sw_5_4
    refine g_tab (tgt := 79) E dX4_told_5 (by decide) (by decide) (by decide) rfl (by decide) ?_
    refine g_aload_n E dX4_told_79 rfl ?_
    refine gx_Main_thrownAway E mem_8 hin4 (by decide +kernel) dX4_told_80 ?_
    refine g_iload_n E dX4_told_83 rfl ?_
    refine g_callVi (T := TX6) (ci := 6) (n := 1) (As := [_]) (rest := _) E (c_X6_of l D cA A ad _ _ 7 _ TY_7 _ (by omega)) gX4_told_X6_of rfl ⟨rfl, rfl⟩ (by decide +kernel) ⟨Nat.le_of_ble_eq_true rfl, Nat.le_of_ble_eq_true rfl⟩ (ob_T TY_7) rfl rfl rfl (Nat.le_of_ble_eq_true rfl) ⟨Nat.le_of_ble_eq_true rfl, Nat.le_of_ble_eq_true rfl⟩ dX4_told_84 ?_
    rintro r_84 ws_84 ⟨rfl, rfl⟩
    refine g_wid (k := 2) (n := 12) (Nat.le_of_ble_eq_true rfl) (Nat.le_of_ble_eq_true rfl) ?_
    refine g_xret ?_
    exact g_iret E (⟨(if_neg nb1).trans (if_neg (fun q => q (by omega))), rfl, rfl⟩) dX4_told_87
  refine g_tabOut (tgt := 88) E dX4_told_5 (by omega) (by omega) (by decide) ?_
  exact g_throw (is := 228) E Z (by decide +kernel) (by decide +kernel) (by decide +kernel) rfl (List.mem_of_getElem? (i := 13) rfl) (fun w h => by first | exact List.mem_cons_of_mem _ (List.mem_append_right _ h) | exact List.mem_cons_of_mem _ (List.mem_append_left _ (List.mem_append_right _ h)) | exact List.mem_cons_of_mem _ (List.mem_append_left _ (List.mem_append_left _ (List.mem_append_right _ h)))) nb_xI gd_xI dX4_told_88 dX4_told_91 dX4_told_92 dX4_told_94 dX4_told_97 (Nat.le_of_ble_eq_true rfl) (Nat.le_of_ble_eq_true rfl) ⟨Nat.le_of_ble_eq_true rfl, Nat.le_of_ble_eq_true rfl⟩ ⟨Nat.le_of_ble_eq_true rfl, Nat.le_of_ble_eq_true rfl⟩ (⟨0, (if_neg nb1).trans (if_pos (by omega)), rfl⟩)
set_option maxHeartbeats 800000 in
set_option maxRecDepth 100000 in
/-- told(c, w), not refused -/
theorem n_X4_told (l : Launch) (D : va_G) (cA : Nat → ClassId) (A : Nat → Prop) (ad : Ad) (σ : Nat → St) (a : St) (hI : Inv a) (p9 w9 : Int) (hp : R31 p9) (hm : R31 w9) (hg : (0 ≤ p9 ∧ p9 ≤ 4) ∧ 0 ≤ w9 ∧ w9 ≤ 4) : Met l yX4_told wsX4_told ({ frames := 2, cells := 0, slots := 0, locals := 42 }) (PcG D (tysX cA) A (wX cA ad (upY σ 0 a)) [.ref (ad 0 8 0), .int (zI p9), .int (zI w9)]) (va_Qi (fun (r : Int32) ws' => r = toV a p9 w9 ∧ ws' = wX cA ad (upY σ 0 a)) (gB D A) A) 0 0 A := by
  refine g_met (cc := cX4_told) (maxL := 3) (ret := (some .int)) (own := RX4) rfl (by decide) rfl (Nat.le_of_ble_eq_true rfl) ?_
  intro p e s m below meth c E
  have hin3 : ∀ w ∈ u_ws RX3 TX3 8, w ∈ wsX4_told := by decide +kernel
  have hin4 : ∀ w ∈ u_ws RX4 TX4 6, w ∈ wsX4_told := by decide +kernel
  obtain ⟨⟨hn0, hn6, hc0, hc3⟩, hPI, hCI, hFr⟩ := id hI
  obtain ⟨hp1, hp2⟩ := hp
  obtain ⟨hm1, hm2⟩ := hm
  obtain ⟨⟨hg1, hg2⟩, hg3, hg4⟩ := id hg
  refine g_loc (lv' := [(0, .ref (ad 0 8 0)), (1, .int (zI p9)), (2, .int (zI w9))]) ⟨rfl, rfl, rfl, trivial⟩ ?_
  refine g_iload_n E dX4_told_0 rfl ?_
  refine g_callTv (n := 1) (As := [_]) (rest := _) E (n_X4_checkCalibre l D _ A _ _ (by omega) (by omega)) gX4_told_X4_checkCalibre rfl ⟨rfl, rfl⟩ (by decide +kernel) ⟨Nat.le_of_ble_eq_true rfl, Nat.le_of_ble_eq_true rfl⟩ rfl rfl (Nat.le_of_ble_eq_true rfl) ⟨Nat.le_of_ble_eq_true rfl, Nat.le_of_ble_eq_true rfl⟩ dX4_told_1 ?_
  rintro ws_1 rfl
  refine g_iload_n E dX4_told_4 rfl ?_
  by_cases sw_5_0 : w9 = 0
  · subst sw_5_0
    refine g_tab (tgt := 40) E dX4_told_5 (by decide) (by decide) (by decide) rfl (by decide) ?_
    refine g_aload_n E dX4_told_40 rfl ?_
    refine gx_Main_store E mem_8 hin4 (by decide +kernel) dX4_told_41 ?_
    refine g_iload_n E dX4_told_44 rfl ?_
    refine g_callVi (T := TX6) (ci := 6) (n := 1) (As := [_]) (rest := _) E (c_X6_of l D cA A ad _ _ 5 _ TY_5 _ (by omega)) gX4_told_X6_of rfl ⟨rfl, rfl⟩ (by decide +kernel) ⟨Nat.le_of_ble_eq_true rfl, Nat.le_of_ble_eq_true rfl⟩ (ob_T TY_5) rfl rfl rfl (Nat.le_of_ble_eq_true rfl) ⟨Nat.le_of_ble_eq_true rfl, Nat.le_of_ble_eq_true rfl⟩ dX4_told_45 ?_
    rintro r_45 ws_45 ⟨rfl, rfl⟩
    exact g_iret E (⟨rfl, rfl⟩) dX4_told_48
  by_cases sw_5_1 : w9 = 1
  · subst sw_5_1
    refine g_tab (tgt := 49) E dX4_told_5 (by decide) (by decide) (by decide) rfl (by decide) ?_
    refine g_aload_n E dX4_told_49 rfl ?_
    refine gx_Main_yard E mem_8 hin4 (by decide +kernel) dX4_told_50 ?_
    refine gx_Yard_loose' E (mem_y _ (by omega)) hin3 (by decide +kernel) dX4_told_53 ?_
    refine g_iload_n E dX4_told_56 rfl ?_
    refine g_callVi (T := TX6) (ci := 6) (n := 1) (As := [_]) (rest := _) E (c_X6_of l D cA A ad _ _ 4 _ (TY_4 _ (by omega)) _ (by omega)) gX4_told_X6_of rfl ⟨rfl, rfl⟩ (by decide +kernel) ⟨Nat.le_of_ble_eq_true rfl, Nat.le_of_ble_eq_true rfl⟩ (ob_T (TY_4 _ (by omega))) rfl rfl rfl (Nat.le_of_ble_eq_true rfl) ⟨Nat.le_of_ble_eq_true rfl, Nat.le_of_ble_eq_true rfl⟩ dX4_told_57 ?_
    rintro r_57 ws_57 ⟨rfl, rfl⟩
    exact g_iret E (⟨rfl, rfl⟩) dX4_told_60
  by_cases sw_5_2 : w9 = 2
  · subst sw_5_2
    refine g_tab (tgt := 61) E dX4_told_5 (by decide) (by decide) (by decide) rfl (by decide) ?_
    refine g_aload_n E dX4_told_61 rfl ?_
    refine gx_Main_yard E mem_8 hin4 (by decide +kernel) dX4_told_62 ?_
    refine g_iload_n E dX4_told_65 rfl ?_
    refine g_callVi (T := TX3) (ci := 3) (n := 1) (As := [_]) (rest := _) E (c_X3_ballsOfCalibre l D cA A ad σ 0 a (by omega) hI _ (by omega)) gX4_told_X3_ballsOfCalibre rfl ⟨rfl, rfl⟩ (by decide +kernel) ⟨Nat.le_of_ble_eq_true rfl, Nat.le_of_ble_eq_true rfl⟩ (ob_0 (mem_y _ (by omega))) rfl rfl rfl (Nat.le_of_ble_eq_true rfl) ⟨Nat.le_of_ble_eq_true rfl, Nat.le_of_ble_eq_true rfl⟩ dX4_told_66 ?_
    rintro r_66 ws_66 ⟨rfl, rfl⟩
    exact g_iret E (⟨rfl, rfl⟩) dX4_told_69
  by_cases sw_5_3 : w9 = 3
  · subst sw_5_3
    refine g_tab (tgt := 70) E dX4_told_5 (by decide) (by decide) (by decide) rfl (by decide) ?_
    refine g_aload_n E dX4_told_70 rfl ?_
    refine gx_Main_fired E mem_8 hin4 (by decide +kernel) dX4_told_71 ?_
    refine g_iload_n E dX4_told_74 rfl ?_
    refine g_callVi (T := TX6) (ci := 6) (n := 1) (As := [_]) (rest := _) E (c_X6_of l D cA A ad _ _ 6 _ TY_6 _ (by omega)) gX4_told_X6_of rfl ⟨rfl, rfl⟩ (by decide +kernel) ⟨Nat.le_of_ble_eq_true rfl, Nat.le_of_ble_eq_true rfl⟩ (ob_T TY_6) rfl rfl rfl (Nat.le_of_ble_eq_true rfl) ⟨Nat.le_of_ble_eq_true rfl, Nat.le_of_ble_eq_true rfl⟩ dX4_told_75 ?_
    rintro r_75 ws_75 ⟨rfl, rfl⟩
    exact g_iret E (⟨rfl, rfl⟩) dX4_told_78
  by_cases sw_5_4 : w9 = 4
  · subst sw_5_4
    refine g_tab (tgt := 79) E dX4_told_5 (by decide) (by decide) (by decide) rfl (by decide) ?_
    refine g_aload_n E dX4_told_79 rfl ?_
    refine gx_Main_thrownAway E mem_8 hin4 (by decide +kernel) dX4_told_80 ?_
    refine g_iload_n E dX4_told_83 rfl ?_
    refine g_callVi (T := TX6) (ci := 6) (n := 1) (As := [_]) (rest := _) E (c_X6_of l D cA A ad _ _ 7 _ TY_7 _ (by omega)) gX4_told_X6_of rfl ⟨rfl, rfl⟩ (by decide +kernel) ⟨Nat.le_of_ble_eq_true rfl, Nat.le_of_ble_eq_true rfl⟩ (ob_T TY_7) rfl rfl rfl (Nat.le_of_ble_eq_true rfl) ⟨Nat.le_of_ble_eq_true rfl, Nat.le_of_ble_eq_true rfl⟩ dX4_told_84 ?_
    rintro r_84 ws_84 ⟨rfl, rfl⟩
    exact g_iret E (⟨rfl, rfl⟩) dX4_told_87
  exact absurd hg (by omega)
set_option maxHeartbeats 800000 in
set_option maxRecDepth 100000 in
/-- mouser(c, w) -/
theorem c_X4_mouser (l : Launch) (hl0 : l.stackTraces = false) (D : va_G) (cA : Nat → ClassId) (A : Nat → Prop) (ad : Ad) (σ : Nat → St) (a : St) (hI : Inv a) (p9 w9 : Int) (hp : R31 p9) (hm : R31 w9) : vx_Met l yX4_mouser wsX4_mouser ({ frames := 7, cells := 2, slots := 12, locals := 107 }) (PcZ D (tysX cA) A (wX cA ad (upY σ 0 a)) [.ref (ad 0 8 0), .int (zI p9), .int (zI w9)]) (va_Qi (fun (r : Int32) ws' => eMou a p9 w9 = 0 ∧ r = moV a p9.toNat w9 ∧ ws' = wX cA ad (upY σ 0 a)) (gB D A) A) (XQ D A (fun E9 => exn [xI] E9 (eMou a p9 w9)) (wX cA ad (upY σ 0 a))) 2 12 A := by
  refine g_metx (cc := cX4_mouser) (maxL := 4) (ret := (some .int)) (own := RX4) hl0 rfl (by decide) rfl (Nat.le_of_ble_eq_true rfl) ?_
  intro p e s m below meth c E Z
  have hin0 : ∀ w ∈ u_ws RX0 TX0 3, w ∈ wsX4_mouser := by decide +kernel
  have hin3 : ∀ w ∈ u_ws RX3 TX3 8, w ∈ wsX4_mouser := by decide +kernel
  have hin4 : ∀ w ∈ u_ws RX4 TX4 6, w ∈ wsX4_mouser := by decide +kernel
  obtain ⟨⟨hn0, hn6, hc0, hc3⟩, hPI, hCI, hFr⟩ := id hI
  obtain ⟨hp1, hp2⟩ := hp
  obtain ⟨hm1, hm2⟩ := hm
  refine g_loc (lv' := [(0, .ref (ad 0 8 0)), (1, .int (zI p9)), (2, .int (zI w9))]) ⟨rfl, rfl, rfl, trivial⟩ ?_
  refine g_aload_n E dX4_mouser_0 rfl ?_
  refine g_iload_n E dX4_mouser_1 rfl ?_
  refine g_xVv (T := TX4) (ci := 4) (n := 1) (As := [_]) (rest := _) E Z (c_X4_checkCat l hl0 D cA A ad _ _ hI _ (by omega)) gX4_mouser_X4_checkCat rfl ⟨rfl, rfl⟩ (by decide +kernel) ⟨Nat.le_of_ble_eq_true rfl, Nat.le_of_ble_eq_true rfl⟩ (ob_8 mem_8) rfl rfl rfl (Nat.le_of_ble_eq_true rfl) ⟨Nat.le_of_ble_eq_true rfl, Nat.le_of_ble_eq_true rfl⟩ ⟨Nat.le_of_ble_eq_true rfl, Nat.le_of_ble_eq_true rfl⟩ dX4_mouser_2 (fun E9 hE => ⟨0, if_pos (hE.2), hE.1 ▸ rfl⟩) ?_
  rintro ws_2 ⟨g_2, rfl⟩
  have nb1 : ¬ ¬ (0 ≤ p9 ∧ p9 < nc a) := fun q => q g_2
  refine g_aload_n E dX4_mouser_5 rfl ?_
  refine gx_Main_yard E mem_8 hin4 (by decide +kernel) dX4_mouser_6 ?_
  refine gx_Yard_cats' E (mem_y _ (by omega)) hin3 (by decide +kernel) dX4_mouser_9 ?_
  refine g_iload_n E dX4_mouser_12 rfl ?_
  refine lx_11' E (mem_11 _ (by omega)) (by omega) dX4_mouser_13 ?_
  refine g_astore_n E dX4_mouser_14 (by decide) ?_
  refine g_iload_n E dX4_mouser_15 rfl ?_
  by_cases sw_16_0 : w9 = 0
  · subst sw_16_0
    refine g_tab (tgt := 44) E dX4_mouser_16 (by decide) (by decide) (by decide) rfl (by decide) ?_
    refine g_aload_n E dX4_mouser_44 rfl ?_
    refine gx_Cat_leap' E (mem_3 _ (by omega) _ (by omega)) hin0 (by decide +kernel) dX4_mouser_45 ?_
    refine g_wid (k := 2) (n := 12) (Nat.le_of_ble_eq_true rfl) (Nat.le_of_ble_eq_true rfl) ?_
    refine g_xret ?_
    exact g_iret E (⟨(if_neg nb1).trans (if_neg (fun q => q (by omega))), rfl, rfl⟩) dX4_mouser_48
  by_cases sw_16_1 : w9 = 1
  · subst sw_16_1
    refine g_tab (tgt := 49) E dX4_mouser_16 (by decide) (by decide) (by decide) rfl (by decide) ?_
    refine g_aload_n E dX4_mouser_49 rfl ?_
    refine gx_Cat_on' E (mem_3 _ (by omega) _ (by omega)) hin0 (by decide +kernel) dX4_mouser_50 ?_
    refine g_wid (k := 2) (n := 12) (Nat.le_of_ble_eq_true rfl) (Nat.le_of_ble_eq_true rfl) ?_
    refine g_xret ?_
    exact g_iret E (⟨(if_neg nb1).trans (if_neg (fun q => q (by omega))), rfl, rfl⟩) dX4_mouser_53
  by_cases sw_16_2 : w9 = 2
  · subst sw_16_2
    refine g_tab (tgt := 54) E dX4_mouser_16 (by decide) (by decide) (by decide) rfl (by decide) ?_
    refine g_aload_n E dX4_mouser_54 rfl ?_
    refine gx_Cat_rolledOff' E (mem_3 _ (by omega) _ (by omega)) hin0 (by decide +kernel) dX4_mouser_55 ?_
    refine g_wid (k := 2) (n := 12) (Nat.le_of_ble_eq_true rfl) (Nat.le_of_ble_eq_true rfl) ?_
    refine g_xret ?_
    exact g_iret E (⟨(if_neg nb1).trans (if_neg (fun q => q (by omega))), rfl, rfl⟩) dX4_mouser_58
  refine g_tabOut (tgt := 59) E dX4_mouser_16 (by omega) (by omega) (by decide) ?_
  exact g_throw (is := 233) E Z (by decide +kernel) (by decide +kernel) (by decide +kernel) rfl (List.mem_of_getElem? (i := 14) rfl) (fun w h => by first | exact List.mem_cons_of_mem _ (List.mem_append_right _ h) | exact List.mem_cons_of_mem _ (List.mem_append_left _ (List.mem_append_right _ h)) | exact List.mem_cons_of_mem _ (List.mem_append_left _ (List.mem_append_left _ (List.mem_append_right _ h)))) nb_xI gd_xI dX4_mouser_59 dX4_mouser_62 dX4_mouser_63 dX4_mouser_65 dX4_mouser_68 (Nat.le_of_ble_eq_true rfl) (Nat.le_of_ble_eq_true rfl) ⟨Nat.le_of_ble_eq_true rfl, Nat.le_of_ble_eq_true rfl⟩ ⟨Nat.le_of_ble_eq_true rfl, Nat.le_of_ble_eq_true rfl⟩ (⟨0, (if_neg nb1).trans (if_pos (by omega)), rfl⟩)
set_option maxHeartbeats 800000 in
set_option maxRecDepth 100000 in
/-- mouser(c, w), not refused -/
theorem n_X4_mouser (l : Launch) (D : va_G) (cA : Nat → ClassId) (A : Nat → Prop) (ad : Ad) (σ : Nat → St) (a : St) (hI : Inv a) (p9 w9 : Int) (hp : R31 p9) (hm : R31 w9) (hg : (0 ≤ p9 ∧ p9 < nc a) ∧ 0 ≤ w9 ∧ w9 ≤ 2) : Met l yX4_mouser wsX4_mouser ({ frames := 2, cells := 0, slots := 0, locals := 43 }) (PcG D (tysX cA) A (wX cA ad (upY σ 0 a)) [.ref (ad 0 8 0), .int (zI p9), .int (zI w9)]) (va_Qi (fun (r : Int32) ws' => r = moV a p9.toNat w9 ∧ ws' = wX cA ad (upY σ 0 a)) (gB D A) A) 0 0 A := by
  refine g_met (cc := cX4_mouser) (maxL := 4) (ret := (some .int)) (own := RX4) rfl (by decide) rfl (Nat.le_of_ble_eq_true rfl) ?_
  intro p e s m below meth c E
  have hin0 : ∀ w ∈ u_ws RX0 TX0 3, w ∈ wsX4_mouser := by decide +kernel
  have hin3 : ∀ w ∈ u_ws RX3 TX3 8, w ∈ wsX4_mouser := by decide +kernel
  have hin4 : ∀ w ∈ u_ws RX4 TX4 6, w ∈ wsX4_mouser := by decide +kernel
  obtain ⟨⟨hn0, hn6, hc0, hc3⟩, hPI, hCI, hFr⟩ := id hI
  obtain ⟨hp1, hp2⟩ := hp
  obtain ⟨hm1, hm2⟩ := hm
  obtain ⟨⟨hg1, hg2⟩, hg3, hg4⟩ := id hg
  refine g_loc (lv' := [(0, .ref (ad 0 8 0)), (1, .int (zI p9)), (2, .int (zI w9))]) ⟨rfl, rfl, rfl, trivial⟩ ?_
  refine g_aload_n E dX4_mouser_0 rfl ?_
  refine g_iload_n E dX4_mouser_1 rfl ?_
  refine g_callVv (T := TX4) (ci := 4) (n := 1) (As := [_]) (rest := _) E (n_X4_checkCat l D cA A ad _ _ hI _ (by omega) (by omega)) gX4_mouser_X4_checkCat rfl ⟨rfl, rfl⟩ (by decide +kernel) ⟨Nat.le_of_ble_eq_true rfl, Nat.le_of_ble_eq_true rfl⟩ (ob_8 mem_8) rfl rfl rfl (Nat.le_of_ble_eq_true rfl) ⟨Nat.le_of_ble_eq_true rfl, Nat.le_of_ble_eq_true rfl⟩ dX4_mouser_2 ?_
  rintro ws_2 rfl
  refine g_aload_n E dX4_mouser_5 rfl ?_
  refine gx_Main_yard E mem_8 hin4 (by decide +kernel) dX4_mouser_6 ?_
  refine gx_Yard_cats' E (mem_y _ (by omega)) hin3 (by decide +kernel) dX4_mouser_9 ?_
  refine g_iload_n E dX4_mouser_12 rfl ?_
  refine lx_11' E (mem_11 _ (by omega)) (by omega) dX4_mouser_13 ?_
  refine g_astore_n E dX4_mouser_14 (by decide) ?_
  refine g_iload_n E dX4_mouser_15 rfl ?_
  by_cases sw_16_0 : w9 = 0
  · subst sw_16_0
    refine g_tab (tgt := 44) E dX4_mouser_16 (by decide) (by decide) (by decide) rfl (by decide) ?_
    refine g_aload_n E dX4_mouser_44 rfl ?_
    refine gx_Cat_leap' E (mem_3 _ (by omega) _ (by omega)) hin0 (by decide +kernel) dX4_mouser_45 ?_
    exact g_iret E (⟨rfl, rfl⟩) dX4_mouser_48
  by_cases sw_16_1 : w9 = 1
  · subst sw_16_1
    refine g_tab (tgt := 49) E dX4_mouser_16 (by decide) (by decide) (by decide) rfl (by decide) ?_
    refine g_aload_n E dX4_mouser_49 rfl ?_
    refine gx_Cat_on' E (mem_3 _ (by omega) _ (by omega)) hin0 (by decide +kernel) dX4_mouser_50 ?_
    exact g_iret E (⟨rfl, rfl⟩) dX4_mouser_53
  by_cases sw_16_2 : w9 = 2
  · subst sw_16_2
    refine g_tab (tgt := 54) E dX4_mouser_16 (by decide) (by decide) (by decide) rfl (by decide) ?_
    refine g_aload_n E dX4_mouser_54 rfl ?_
    refine gx_Cat_rolledOff' E (mem_3 _ (by omega) _ (by omega)) hin0 (by decide +kernel) dX4_mouser_55 ?_
    exact g_iret E (⟨rfl, rfl⟩) dX4_mouser_58
  exact absurd hg (by omega)
set_option maxHeartbeats 800000 in
set_option maxRecDepth 100000 in
/-- count(w) -/
theorem c_X4_count (l : Launch) (hl0 : l.stackTraces = false) (D : va_G) (cA : Nat → ClassId) (A : Nat → Prop) (ad : Ad) (σ : Nat → St) (a : St) (hI : Inv a) (w9 : Int) (hm : R31 w9) : vx_Met l yX4_count wsX4_count ({ frames := 6, cells := 1, slots := 6, locals := 86 }) (PcZ D (tysX cA) A (wX cA ad (upY σ 0 a)) [.ref (ad 0 8 0), .int (zI w9)]) (va_Qi (fun (r : Int32) ws' => eCnt w9 = 0 ∧ r = coV a w9 ∧ ws' = wX cA ad (upY σ 0 a)) (gB D A) A) (XQ D A (fun E9 => exn [xI] E9 (eCnt w9)) (wX cA ad (upY σ 0 a))) 1 6 A := by
  refine g_metx (cc := cX4_count) (maxL := 2) (ret := (some .int)) (own := RX4) hl0 rfl (by decide) rfl (Nat.le_of_ble_eq_true rfl) ?_
  intro p e s m below meth c E Z
  have hin3 : ∀ w ∈ u_ws RX3 TX3 8, w ∈ wsX4_count := by decide +kernel
  have hin4 : ∀ w ∈ u_ws RX4 TX4 6, w ∈ wsX4_count := by decide +kernel
  obtain ⟨⟨hn0, hn6, hc0, hc3⟩, hPI, hCI, hFr⟩ := id hI
  obtain ⟨hm1, hm2⟩ := hm
  refine g_loc (lv' := [(0, .ref (ad 0 8 0)), (1, .int (zI w9))]) ⟨rfl, rfl, trivial⟩ ?_
  refine g_iload_n E dX4_count_0 rfl ?_
  by_cases sw_1_0 : w9 = 0
  · subst sw_1_0
    refine g_tab (tgt := 60) E dX4_count_1 (by decide) (by decide) (by decide) rfl (by decide) ?_
    refine g_aload_n E dX4_count_60 rfl ?_
    refine gx_Main_yard E mem_8 hin4 (by decide +kernel) dX4_count_61 ?_
    refine gx_Yard_day' E (mem_y _ (by omega)) hin3 (by decide +kernel) dX4_count_64 ?_
    refine g_wid (k := 1) (n := 6) (Nat.le_of_ble_eq_true rfl) (Nat.le_of_ble_eq_true rfl) ?_
    refine g_xret ?_
    exact g_iret E (⟨if_neg (fun q => q (by omega)), rfl, rfl⟩) dX4_count_67
  by_cases sw_1_1 : w9 = 1
  · subst sw_1_1
    refine g_tab (tgt := 68) E dX4_count_1 (by decide) (by decide) (by decide) rfl (by decide) ?_
    refine g_aload_n E dX4_count_68 rfl ?_
    refine gx_Main_yard E mem_8 hin4 (by decide +kernel) dX4_count_69 ?_
    refine gx_Yard_pileCount' E (mem_y _ (by omega)) hin3 (by decide +kernel) dX4_count_72 ?_
    refine g_wid (k := 1) (n := 6) (Nat.le_of_ble_eq_true rfl) (Nat.le_of_ble_eq_true rfl) ?_
    refine g_xret ?_
    exact g_iret E (⟨if_neg (fun q => q (by omega)), rfl, rfl⟩) dX4_count_75
  by_cases sw_1_2 : w9 = 2
  · subst sw_1_2
    refine g_tab (tgt := 76) E dX4_count_1 (by decide) (by decide) (by decide) rfl (by decide) ?_
    refine g_aload_n E dX4_count_76 rfl ?_
    refine gx_Main_yard E mem_8 hin4 (by decide +kernel) dX4_count_77 ?_
    refine gx_Yard_catCount' E (mem_y _ (by omega)) hin3 (by decide +kernel) dX4_count_80 ?_
    refine g_wid (k := 1) (n := 6) (Nat.le_of_ble_eq_true rfl) (Nat.le_of_ble_eq_true rfl) ?_
    refine g_xret ?_
    exact g_iret E (⟨if_neg (fun q => q (by omega)), rfl, rfl⟩) dX4_count_83
  by_cases sw_1_3 : w9 = 3
  · subst sw_1_3
    refine g_tab (tgt := 84) E dX4_count_1 (by decide) (by decide) (by decide) rfl (by decide) ?_
    refine g_aload_n E dX4_count_84 rfl ?_
    refine gx_Main_store E mem_8 hin4 (by decide +kernel) dX4_count_85 ?_
    refine g_callVi (T := TX6) (ci := 6) (n := 0) (As := []) (rest := _) E (c_X6_all l D cA A ad _ _ 5 _ TY_5) gX4_count_X6_all rfl ⟨rfl, rfl⟩ (by decide +kernel) ⟨Nat.le_of_ble_eq_true rfl, Nat.le_of_ble_eq_true rfl⟩ (ob_T TY_5) rfl rfl rfl (Nat.le_of_ble_eq_true rfl) ⟨Nat.le_of_ble_eq_true rfl, Nat.le_of_ble_eq_true rfl⟩ dX4_count_88 ?_
    rintro r_88 ws_88 ⟨rfl, rfl⟩
    refine g_wid (k := 1) (n := 6) (Nat.le_of_ble_eq_true rfl) (Nat.le_of_ble_eq_true rfl) ?_
    refine g_xret ?_
    exact g_iret E (⟨if_neg (fun q => q (by omega)), rfl, rfl⟩) dX4_count_91
  by_cases sw_1_4 : w9 = 4
  · subst sw_1_4
    refine g_tab (tgt := 92) E dX4_count_1 (by decide) (by decide) (by decide) rfl (by decide) ?_
    refine g_aload_n E dX4_count_92 rfl ?_
    refine gx_Main_yard E mem_8 hin4 (by decide +kernel) dX4_count_93 ?_
    refine g_iload_n E dX4_count_96 rfl ?_
    refine g_callVi (T := TX3) (ci := 3) (n := 1) (As := [_]) (rest := _) E (c_X3_ballCount l D cA A ad σ 0 a (by omega) hI _ (by omega)) gX4_count_X3_ballCount rfl ⟨rfl, rfl⟩ (by decide +kernel) ⟨Nat.le_of_ble_eq_true rfl, Nat.le_of_ble_eq_true rfl⟩ (ob_0 (mem_y _ (by omega))) rfl rfl rfl (Nat.le_of_ble_eq_true rfl) ⟨Nat.le_of_ble_eq_true rfl, Nat.le_of_ble_eq_true rfl⟩ dX4_count_97 ?_
    rintro r_97 ws_97 ⟨rfl, rfl⟩
    refine g_wid (k := 1) (n := 6) (Nat.le_of_ble_eq_true rfl) (Nat.le_of_ble_eq_true rfl) ?_
    refine g_xret ?_
    exact g_iret E (⟨if_neg (fun q => q (by omega)), rfl, rfl⟩) dX4_count_100
  by_cases sw_1_5 : w9 = 5
  · subst sw_1_5
    refine g_tab (tgt := 92) E dX4_count_1 (by decide) (by decide) (by decide) rfl (by decide) ?_
    refine g_aload_n E dX4_count_92 rfl ?_
    refine gx_Main_yard E mem_8 hin4 (by decide +kernel) dX4_count_93 ?_
    refine g_iload_n E dX4_count_96 rfl ?_
    refine g_callVi (T := TX3) (ci := 3) (n := 1) (As := [_]) (rest := _) E (c_X3_ballCount l D cA A ad σ 0 a (by omega) hI _ (by omega)) gX4_count_X3_ballCount rfl ⟨rfl, rfl⟩ (by decide +kernel) ⟨Nat.le_of_ble_eq_true rfl, Nat.le_of_ble_eq_true rfl⟩ (ob_0 (mem_y _ (by omega))) rfl rfl rfl (Nat.le_of_ble_eq_true rfl) ⟨Nat.le_of_ble_eq_true rfl, Nat.le_of_ble_eq_true rfl⟩ dX4_count_97 ?_
    rintro r_97 ws_97 ⟨rfl, rfl⟩
    refine g_wid (k := 1) (n := 6) (Nat.le_of_ble_eq_true rfl) (Nat.le_of_ble_eq_true rfl) ?_
    refine g_xret ?_
    exact g_iret E (⟨if_neg (fun q => q (by omega)), rfl, rfl⟩) dX4_count_100
  by_cases sw_1_6 : w9 = 6
  · subst sw_1_6
    refine g_tab (tgt := 92) E dX4_count_1 (by decide) (by decide) (by decide) rfl (by decide) ?_
    refine g_aload_n E dX4_count_92 rfl ?_
    refine gx_Main_yard E mem_8 hin4 (by decide +kernel) dX4_count_93 ?_
    refine g_iload_n E dX4_count_96 rfl ?_
    refine g_callVi (T := TX3) (ci := 3) (n := 1) (As := [_]) (rest := _) E (c_X3_ballCount l D cA A ad σ 0 a (by omega) hI _ (by omega)) gX4_count_X3_ballCount rfl ⟨rfl, rfl⟩ (by decide +kernel) ⟨Nat.le_of_ble_eq_true rfl, Nat.le_of_ble_eq_true rfl⟩ (ob_0 (mem_y _ (by omega))) rfl rfl rfl (Nat.le_of_ble_eq_true rfl) ⟨Nat.le_of_ble_eq_true rfl, Nat.le_of_ble_eq_true rfl⟩ dX4_count_97 ?_
    rintro r_97 ws_97 ⟨rfl, rfl⟩
    refine g_wid (k := 1) (n := 6) (Nat.le_of_ble_eq_true rfl) (Nat.le_of_ble_eq_true rfl) ?_
    refine g_xret ?_
    exact g_iret E (⟨if_neg (fun q => q (by omega)), rfl, rfl⟩) dX4_count_100
  by_cases sw_1_7 : w9 = 7
  · subst sw_1_7
    refine g_tab (tgt := 101) E dX4_count_1 (by decide) (by decide) (by decide) rfl (by decide) ?_
    refine g_aload_n E dX4_count_101 rfl ?_
    refine gx_Main_fired E mem_8 hin4 (by decide +kernel) dX4_count_102 ?_
    refine g_callVi (T := TX6) (ci := 6) (n := 0) (As := []) (rest := _) E (c_X6_all l D cA A ad _ _ 6 _ TY_6) gX4_count_X6_all rfl ⟨rfl, rfl⟩ (by decide +kernel) ⟨Nat.le_of_ble_eq_true rfl, Nat.le_of_ble_eq_true rfl⟩ (ob_T TY_6) rfl rfl rfl (Nat.le_of_ble_eq_true rfl) ⟨Nat.le_of_ble_eq_true rfl, Nat.le_of_ble_eq_true rfl⟩ dX4_count_105 ?_
    rintro r_105 ws_105 ⟨rfl, rfl⟩
    refine g_wid (k := 1) (n := 6) (Nat.le_of_ble_eq_true rfl) (Nat.le_of_ble_eq_true rfl) ?_
    refine g_xret ?_
    exact g_iret E (⟨if_neg (fun q => q (by omega)), rfl, rfl⟩) dX4_count_108
  by_cases sw_1_8 : w9 = 8
  · subst sw_1_8
    refine g_tab (tgt := 109) E dX4_count_1 (by decide) (by decide) (by decide) rfl (by decide) ?_
    refine g_aload_n E dX4_count_109 rfl ?_
    refine gx_Main_thrownAway E mem_8 hin4 (by decide +kernel) dX4_count_110 ?_
    refine g_callVi (T := TX6) (ci := 6) (n := 0) (As := []) (rest := _) E (c_X6_all l D cA A ad _ _ 7 _ TY_7) gX4_count_X6_all rfl ⟨rfl, rfl⟩ (by decide +kernel) ⟨Nat.le_of_ble_eq_true rfl, Nat.le_of_ble_eq_true rfl⟩ (ob_T TY_7) rfl rfl rfl (Nat.le_of_ble_eq_true rfl) ⟨Nat.le_of_ble_eq_true rfl, Nat.le_of_ble_eq_true rfl⟩ dX4_count_113 ?_
    rintro r_113 ws_113 ⟨rfl, rfl⟩
    refine g_wid (k := 1) (n := 6) (Nat.le_of_ble_eq_true rfl) (Nat.le_of_ble_eq_true rfl) ?_
    refine g_xret ?_
    exact g_iret E (⟨if_neg (fun q => q (by omega)), rfl, rfl⟩) dX4_count_116
  by_cases sw_1_9 : w9 = 9
  · subst sw_1_9
    refine g_tab (tgt := 117) E dX4_count_1 (by decide) (by decide) (by decide) rfl (by decide) ?_
    refine g_aload_n E dX4_count_117 rfl ?_
    refine gx_Main_yard E mem_8 hin4 (by decide +kernel) dX4_count_118 ?_
    refine gx_Yard_rain' E (mem_y _ (by omega)) hin3 (by decide +kernel) dX4_count_121 ?_
    refine g_wid (k := 1) (n := 6) (Nat.le_of_ble_eq_true rfl) (Nat.le_of_ble_eq_true rfl) ?_
    refine g_xret ?_
    exact g_iret E (⟨if_neg (fun q => q (by omega)), rfl, rfl⟩) dX4_count_124
  by_cases sw_1_10 : w9 = 10
  · subst sw_1_10
    refine g_tab (tgt := 125) E dX4_count_1 (by decide) (by decide) (by decide) rfl (by decide) ?_
    refine g_aload_n E dX4_count_125 rfl ?_
    refine gx_Main_yard E mem_8 hin4 (by decide +kernel) dX4_count_126 ?_
    refine gx_Yard_limit' E (mem_y _ (by omega)) hin3 (by decide +kernel) dX4_count_129 ?_
    refine g_wid (k := 1) (n := 6) (Nat.le_of_ble_eq_true rfl) (Nat.le_of_ble_eq_true rfl) ?_
    refine g_xret ?_
    exact g_iret E (⟨if_neg (fun q => q (by omega)), rfl, rfl⟩) dX4_count_132
  refine g_tabOut (tgt := 133) E dX4_count_1 (by omega) (by omega) (by decide) ?_
  exact g_throw (is := 241) E Z (by decide +kernel) (by decide +kernel) (by decide +kernel) rfl (List.mem_of_getElem? (i := 15) rfl) (fun w h => by first | exact List.mem_cons_of_mem _ (List.mem_append_right _ h) | exact List.mem_cons_of_mem _ (List.mem_append_left _ (List.mem_append_right _ h)) | exact List.mem_cons_of_mem _ (List.mem_append_left _ (List.mem_append_left _ (List.mem_append_right _ h)))) nb_xI gd_xI dX4_count_133 dX4_count_136 dX4_count_137 dX4_count_139 dX4_count_142 (Nat.le_of_ble_eq_true rfl) (Nat.le_of_ble_eq_true rfl) ⟨Nat.le_of_ble_eq_true rfl, Nat.le_of_ble_eq_true rfl⟩ ⟨Nat.le_of_ble_eq_true rfl, Nat.le_of_ble_eq_true rfl⟩ (⟨0, if_pos (by omega), rfl⟩)
set_option maxHeartbeats 800000 in
set_option maxRecDepth 100000 in
/-- count(w), not refused -/
theorem n_X4_count (l : Launch) (D : va_G) (cA : Nat → ClassId) (A : Nat → Prop) (ad : Ad) (σ : Nat → St) (a : St) (hI : Inv a) (w9 : Int) (hm : R31 w9) (hg : 0 ≤ w9 ∧ w9 ≤ 10) : Met l yX4_count wsX4_count ({ frames := 3, cells := 0, slots := 0, locals := 67 }) (PcG D (tysX cA) A (wX cA ad (upY σ 0 a)) [.ref (ad 0 8 0), .int (zI w9)]) (va_Qi (fun (r : Int32) ws' => r = coV a w9 ∧ ws' = wX cA ad (upY σ 0 a)) (gB D A) A) 0 0 A := by
  refine g_met (cc := cX4_count) (maxL := 2) (ret := (some .int)) (own := RX4) rfl (by decide) rfl (Nat.le_of_ble_eq_true rfl) ?_
  intro p e s m below meth c E
  have hin3 : ∀ w ∈ u_ws RX3 TX3 8, w ∈ wsX4_count := by decide +kernel
  have hin4 : ∀ w ∈ u_ws RX4 TX4 6, w ∈ wsX4_count := by decide +kernel
  obtain ⟨⟨hn0, hn6, hc0, hc3⟩, hPI, hCI, hFr⟩ := id hI
  obtain ⟨hm1, hm2⟩ := hm
  obtain ⟨hg1, hg2⟩ := id hg
  refine g_loc (lv' := [(0, .ref (ad 0 8 0)), (1, .int (zI w9))]) ⟨rfl, rfl, trivial⟩ ?_
  refine g_iload_n E dX4_count_0 rfl ?_
  by_cases sw_1_0 : w9 = 0
  · subst sw_1_0
    refine g_tab (tgt := 60) E dX4_count_1 (by decide) (by decide) (by decide) rfl (by decide) ?_
    refine g_aload_n E dX4_count_60 rfl ?_
    refine gx_Main_yard E mem_8 hin4 (by decide +kernel) dX4_count_61 ?_
    refine gx_Yard_day' E (mem_y _ (by omega)) hin3 (by decide +kernel) dX4_count_64 ?_
    exact g_iret E (⟨rfl, rfl⟩) dX4_count_67
  by_cases sw_1_1 : w9 = 1
  · subst sw_1_1
    refine g_tab (tgt := 68) E dX4_count_1 (by decide) (by decide) (by decide) rfl (by decide) ?_
    refine g_aload_n E dX4_count_68 rfl ?_
    refine gx_Main_yard E mem_8 hin4 (by decide +kernel) dX4_count_69 ?_
    refine gx_Yard_pileCount' E (mem_y _ (by omega)) hin3 (by decide +kernel) dX4_count_72 ?_
    exact g_iret E (⟨rfl, rfl⟩) dX4_count_75
  by_cases sw_1_2 : w9 = 2
  · subst sw_1_2
    refine g_tab (tgt := 76) E dX4_count_1 (by decide) (by decide) (by decide) rfl (by decide) ?_
    refine g_aload_n E dX4_count_76 rfl ?_
    refine gx_Main_yard E mem_8 hin4 (by decide +kernel) dX4_count_77 ?_
    refine gx_Yard_catCount' E (mem_y _ (by omega)) hin3 (by decide +kernel) dX4_count_80 ?_
    exact g_iret E (⟨rfl, rfl⟩) dX4_count_83
  by_cases sw_1_3 : w9 = 3
  · subst sw_1_3
    refine g_tab (tgt := 84) E dX4_count_1 (by decide) (by decide) (by decide) rfl (by decide) ?_
    refine g_aload_n E dX4_count_84 rfl ?_
    refine gx_Main_store E mem_8 hin4 (by decide +kernel) dX4_count_85 ?_
    refine g_callVi (T := TX6) (ci := 6) (n := 0) (As := []) (rest := _) E (c_X6_all l D cA A ad _ _ 5 _ TY_5) gX4_count_X6_all rfl ⟨rfl, rfl⟩ (by decide +kernel) ⟨Nat.le_of_ble_eq_true rfl, Nat.le_of_ble_eq_true rfl⟩ (ob_T TY_5) rfl rfl rfl (Nat.le_of_ble_eq_true rfl) ⟨Nat.le_of_ble_eq_true rfl, Nat.le_of_ble_eq_true rfl⟩ dX4_count_88 ?_
    rintro r_88 ws_88 ⟨rfl, rfl⟩
    exact g_iret E (⟨rfl, rfl⟩) dX4_count_91
  by_cases sw_1_4 : w9 = 4
  · subst sw_1_4
    refine g_tab (tgt := 92) E dX4_count_1 (by decide) (by decide) (by decide) rfl (by decide) ?_
    refine g_aload_n E dX4_count_92 rfl ?_
    refine gx_Main_yard E mem_8 hin4 (by decide +kernel) dX4_count_93 ?_
    refine g_iload_n E dX4_count_96 rfl ?_
    refine g_callVi (T := TX3) (ci := 3) (n := 1) (As := [_]) (rest := _) E (c_X3_ballCount l D cA A ad σ 0 a (by omega) hI _ (by omega)) gX4_count_X3_ballCount rfl ⟨rfl, rfl⟩ (by decide +kernel) ⟨Nat.le_of_ble_eq_true rfl, Nat.le_of_ble_eq_true rfl⟩ (ob_0 (mem_y _ (by omega))) rfl rfl rfl (Nat.le_of_ble_eq_true rfl) ⟨Nat.le_of_ble_eq_true rfl, Nat.le_of_ble_eq_true rfl⟩ dX4_count_97 ?_
    rintro r_97 ws_97 ⟨rfl, rfl⟩
    exact g_iret E (⟨rfl, rfl⟩) dX4_count_100
  by_cases sw_1_5 : w9 = 5
  · subst sw_1_5
    refine g_tab (tgt := 92) E dX4_count_1 (by decide) (by decide) (by decide) rfl (by decide) ?_
    refine g_aload_n E dX4_count_92 rfl ?_
    refine gx_Main_yard E mem_8 hin4 (by decide +kernel) dX4_count_93 ?_
    refine g_iload_n E dX4_count_96 rfl ?_
    refine g_callVi (T := TX3) (ci := 3) (n := 1) (As := [_]) (rest := _) E (c_X3_ballCount l D cA A ad σ 0 a (by omega) hI _ (by omega)) gX4_count_X3_ballCount rfl ⟨rfl, rfl⟩ (by decide +kernel) ⟨Nat.le_of_ble_eq_true rfl, Nat.le_of_ble_eq_true rfl⟩ (ob_0 (mem_y _ (by omega))) rfl rfl rfl (Nat.le_of_ble_eq_true rfl) ⟨Nat.le_of_ble_eq_true rfl, Nat.le_of_ble_eq_true rfl⟩ dX4_count_97 ?_
    rintro r_97 ws_97 ⟨rfl, rfl⟩
    exact g_iret E (⟨rfl, rfl⟩) dX4_count_100
  by_cases sw_1_6 : w9 = 6
  · subst sw_1_6
    refine g_tab (tgt := 92) E dX4_count_1 (by decide) (by decide) (by decide) rfl (by decide) ?_
    refine g_aload_n E dX4_count_92 rfl ?_
    refine gx_Main_yard E mem_8 hin4 (by decide +kernel) dX4_count_93 ?_
    refine g_iload_n E dX4_count_96 rfl ?_
    refine g_callVi (T := TX3) (ci := 3) (n := 1) (As := [_]) (rest := _) E (c_X3_ballCount l D cA A ad σ 0 a (by omega) hI _ (by omega)) gX4_count_X3_ballCount rfl ⟨rfl, rfl⟩ (by decide +kernel) ⟨Nat.le_of_ble_eq_true rfl, Nat.le_of_ble_eq_true rfl⟩ (ob_0 (mem_y _ (by omega))) rfl rfl rfl (Nat.le_of_ble_eq_true rfl) ⟨Nat.le_of_ble_eq_true rfl, Nat.le_of_ble_eq_true rfl⟩ dX4_count_97 ?_
    rintro r_97 ws_97 ⟨rfl, rfl⟩
    exact g_iret E (⟨rfl, rfl⟩) dX4_count_100
  by_cases sw_1_7 : w9 = 7
  · subst sw_1_7
    refine g_tab (tgt := 101) E dX4_count_1 (by decide) (by decide) (by decide) rfl (by decide) ?_
    refine g_aload_n E dX4_count_101 rfl ?_
    refine gx_Main_fired E mem_8 hin4 (by decide +kernel) dX4_count_102 ?_
    refine g_callVi (T := TX6) (ci := 6) (n := 0) (As := []) (rest := _) E (c_X6_all l D cA A ad _ _ 6 _ TY_6) gX4_count_X6_all rfl ⟨rfl, rfl⟩ (by decide +kernel) ⟨Nat.le_of_ble_eq_true rfl, Nat.le_of_ble_eq_true rfl⟩ (ob_T TY_6) rfl rfl rfl (Nat.le_of_ble_eq_true rfl) ⟨Nat.le_of_ble_eq_true rfl, Nat.le_of_ble_eq_true rfl⟩ dX4_count_105 ?_
    rintro r_105 ws_105 ⟨rfl, rfl⟩
    exact g_iret E (⟨rfl, rfl⟩) dX4_count_108
  by_cases sw_1_8 : w9 = 8
  · subst sw_1_8
    refine g_tab (tgt := 109) E dX4_count_1 (by decide) (by decide) (by decide) rfl (by decide) ?_
    refine g_aload_n E dX4_count_109 rfl ?_
    refine gx_Main_thrownAway E mem_8 hin4 (by decide +kernel) dX4_count_110 ?_
    refine g_callVi (T := TX6) (ci := 6) (n := 0) (As := []) (rest := _) E (c_X6_all l D cA A ad _ _ 7 _ TY_7) gX4_count_X6_all rfl ⟨rfl, rfl⟩ (by decide +kernel) ⟨Nat.le_of_ble_eq_true rfl, Nat.le_of_ble_eq_true rfl⟩ (ob_T TY_7) rfl rfl rfl (Nat.le_of_ble_eq_true rfl) ⟨Nat.le_of_ble_eq_true rfl, Nat.le_of_ble_eq_true rfl⟩ dX4_count_113 ?_
    rintro r_113 ws_113 ⟨rfl, rfl⟩
    exact g_iret E (⟨rfl, rfl⟩) dX4_count_116
  by_cases sw_1_9 : w9 = 9
  · subst sw_1_9
    refine g_tab (tgt := 117) E dX4_count_1 (by decide) (by decide) (by decide) rfl (by decide) ?_
    refine g_aload_n E dX4_count_117 rfl ?_
    refine gx_Main_yard E mem_8 hin4 (by decide +kernel) dX4_count_118 ?_
    refine gx_Yard_rain' E (mem_y _ (by omega)) hin3 (by decide +kernel) dX4_count_121 ?_
    exact g_iret E (⟨rfl, rfl⟩) dX4_count_124
  by_cases sw_1_10 : w9 = 10
  · subst sw_1_10
    refine g_tab (tgt := 125) E dX4_count_1 (by decide) (by decide) (by decide) rfl (by decide) ?_
    refine g_aload_n E dX4_count_125 rfl ?_
    refine gx_Main_yard E mem_8 hin4 (by decide +kernel) dX4_count_126 ?_
    refine gx_Yard_limit' E (mem_y _ (by omega)) hin3 (by decide +kernel) dX4_count_129 ?_
    exact g_iret E (⟨rfl, rfl⟩) dX4_count_132
  exact absurd hg (by omega)
