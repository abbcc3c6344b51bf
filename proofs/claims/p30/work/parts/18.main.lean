/-! ===== MAIN: the calls that change ===== -/
set_option maxHeartbeats 800000 in
set_option maxRecDepth 100000 in
/-- Pile.begin(c, pyramid) -/
theorem c_X1_begin (l : Launch) (D : va_G) (cA : Nat → ClassId) (A : Nat → Prop) (ad : Ad) (σ : Nat → St) (y p9 : Nat) (a : St) (hy : y < 2) (hp : p9 < 6) (v : Int32) (i : Nat) (i9 : Int) (hi : 1 ≤ i ∧ i < 7) (hi9 : (i : Int) = i9) : Met l yX1_begin wsX1_begin ({ frames := 0, cells := 0, slots := 0, locals := 0 }) (PcG D (tysX cA) A (wX cA ad (upY σ y a)) [.ref (ad y 1 p9), .int v, .ref (ad 2 9 i)]) (va_Qv (fun ws' => ws' = wX cA ad (upY σ y (up3 (up3 (up3 a 1 p9 0 v) 1 p9 1 (zI i9)) 1 p9 2 (zI 0)))) (gB D A) A) 0 0 A := by
  refine g_met (cc := cX1_begin) (maxL := 3) (ret := none) (own := RX1) rfl (by decide) rfl (Nat.le_of_ble_eq_true rfl) ?_
  intro p e s m below meth c E
  have hin1 : ∀ w ∈ u_ws RX1 TX1 4, w ∈ wsX1_begin := by decide +kernel
  subst hi9
  refine g_loc (lv' := [(0, .ref (ad y 1 p9)), (1, .int v), (2, .ref (ad 2 9 i))]) ⟨rfl, rfl, rfl, trivial⟩ ?_
  refine g_aload_n E dX1_begin_0 rfl ?_
  refine g_iload_n E dX1_begin_1 rfl ?_
  refine px_Pile_calibre' E (mem_1 _ (by omega) _ (by omega)) hin1 (by decide +kernel) dX1_begin_2 ?_
  refine g_aload_n E dX1_begin_5 rfl ?_
  refine g_aload_n E dX1_begin_6 rfl ?_
  refine px_Pile_pyramid' E (by omega) (mem_1 _ (by omega) _ (by omega)) hin1 (by decide +kernel) dX1_begin_7 ?_
  refine g_aload_n E dX1_begin_10 rfl ?_
  refine g_iconst E dX1_begin_11 ?_
  refine px_Pile_balls' E (mem_1 _ (by omega) _ (by omega)) hin1 (by decide +kernel) dX1_begin_12 ?_
  exact g_vret E (rfl) dX1_begin_15
set_option maxHeartbeats 800000 in
set_option maxRecDepth 100000 in
/-- pile(c, s) -/
theorem c_X4_pile (l : Launch) (hl0 : l.stackTraces = false) (D : va_G) (cA : Nat → ClassId) (A : Nat → Prop) (ad : Ad) (σ : Nat → St) (a : St) (hI : Inv a) (p9 s9 : Int) (hp : R31 p9) (hm : R31 s9) : vx_Met l yX4_pile wsX4_pile ({ frames := 7, cells := 3, slots := 18, locals := 108 }) (PcZ D (tysX cA) A (wX cA ad (upY σ 0 a)) [.ref (ad 0 8 0), .int (zI p9), .int (zI s9)]) (va_Qi (fun (r : Int32) ws' => ePile a p9 s9 = 0 ∧ r = zI (np a) ∧ ws' = wX cA ad (upY σ 0 (newP a p9 s9))) (gB D A) A) (XQ D A (fun E9 => exn [xI, xA, xS] E9 (ePile a p9 s9)) (wX cA ad (upY σ 0 a))) 3 18 A := by
  refine g_metx (cc := cX4_pile) (maxL := 4) (ret := (some .int)) (own := RX4) hl0 rfl (by decide) rfl (Nat.le_of_ble_eq_true rfl) ?_
  intro p e s m below meth c E Z
  have hin3 : ∀ w ∈ u_ws RX3 TX3 8, w ∈ wsX4_pile := by decide +kernel
  have hin4 : ∀ w ∈ u_ws RX4 TX4 6, w ∈ wsX4_pile := by decide +kernel
  obtain ⟨⟨hn0, hn6, hc0, hc3⟩, hPI, hCI, hFr⟩ := id hI
  obtain ⟨hp1, hp2⟩ := hp
  obtain ⟨hm1, hm2⟩ := hm
  have hnb : ∀ v1 v2 v3 : Int32, np (up3 (up3 (up3 a 1 (np a).toNat 0 v1) 1 (np a).toNat 1 v2) 1 (np a).toNat 2 v3) = np a := fun _ _ _ => by rw [np_up (by omega), np_up (by omega), np_up (by omega)]
  refine g_loc (lv' := [(0, .ref (ad 0 8 0)), (1, .int (zI p9)), (2, .int (zI s9))]) ⟨rfl, rfl, rfl, trivial⟩ ?_
  refine g_iload_n E dX4_pile_0 rfl ?_
  refine g_xTv (n := 1) (As := [_]) (rest := _) E Z (c_X4_checkCalibre l hl0 D _ A _ _ (by omega)) gX4_pile_X4_checkCalibre rfl ⟨rfl, rfl⟩ (by decide +kernel) ⟨Nat.le_of_ble_eq_true rfl, Nat.le_of_ble_eq_true rfl⟩ rfl rfl (Nat.le_of_ble_eq_true rfl) ⟨Nat.le_of_ble_eq_true rfl, Nat.le_of_ble_eq_true rfl⟩ ⟨Nat.le_of_ble_eq_true rfl, Nat.le_of_ble_eq_true rfl⟩ dX4_pile_1 (fun E9 hE => ⟨0, if_pos (hE.2), hE.1 ▸ rfl⟩) ?_
  rintro ws_1 ⟨g_1, rfl⟩
  have nb1 : ¬ ¬ (0 ≤ p9 ∧ p9 ≤ 4) := fun q => q g_1
  refine g_iload_n E dX4_pile_4 rfl ?_
  refine g_iconst E dX4_pile_5 ?_
  refine g_bipush E dX4_pile_6 (by decide) ?_
  refine g_xTv (n := 3) (As := [_, _, _]) (rest := _) E Z (c_X4_checkArgument l hl0 D _ A _ _ _ _ (by omega)) gX4_pile_X4_checkArgument rfl ⟨rfl, rfl⟩ (by decide +kernel) ⟨Nat.le_of_ble_eq_true rfl, Nat.le_of_ble_eq_true rfl⟩ rfl rfl (Nat.le_of_ble_eq_true rfl) ⟨Nat.le_of_ble_eq_true rfl, Nat.le_of_ble_eq_true rfl⟩ ⟨Nat.le_of_ble_eq_true rfl, Nat.le_of_ble_eq_true rfl⟩ dX4_pile_8 (fun E9 hE => ⟨1, (if_neg nb1).trans (if_pos (hE.2)), hE.1 ▸ rfl⟩) ?_
  rintro ws_8 ⟨g_8, rfl⟩
  have nb2 : ¬ ¬ (1 ≤ s9 ∧ s9 ≤ 6) := fun q => q g_8
  refine g_aload_n E dX4_pile_11 rfl ?_
  refine gx_Main_yard E mem_8 hin4 (by decide +kernel) dX4_pile_12 ?_
  refine gx_Yard_pileCount' E (mem_y _ (by omega)) hin3 (by decide +kernel) dX4_pile_15 ?_
  refine g_bipush E dX4_pile_18 (by decide) ?_
  refine g_icmp_lt (tgt := 33) E dX4_pile_20 (by decide) (by omega) (by omega) (fun c_20 => ?_) (fun c_20 => ?_)
  · have nb3 : ¬ ¬ np a < 6 := fun q => q c_20
    refine g_aload_n E dX4_pile_33 rfl ?_
    refine gx_Main_yard E mem_8 hin4 (by decide +kernel) dX4_pile_34 ?_
    refine gx_Yard_pileCount' E (mem_y _ (by omega)) hin3 (by decide +kernel) dX4_pile_37 ?_
    refine g_istore_n E dX4_pile_40 (by decide) ?_
    refine g_aload_n E dX4_pile_41 rfl ?_
    refine gx_Main_yard E mem_8 hin4 (by decide +kernel) dX4_pile_42 ?_
    refine gx_Yard_piles' E (mem_y _ (by omega)) hin3 (by decide +kernel) dX4_pile_45 ?_
    refine g_iload_n E dX4_pile_48 rfl ?_
    refine lx_10' E (mem_10 _ (by omega)) (by omega) dX4_pile_49 ?_
    refine g_iload_n E dX4_pile_50 rfl ?_
    refine g_aload_n E dX4_pile_51 rfl ?_
    refine gx_Main_pyramids E mem_8 hin4 (by decide +kernel) dX4_pile_52 ?_
    refine g_iload_n E dX4_pile_55 rfl ?_
    refine g_iconst E dX4_pile_56 ?_
    refine g_isub E dX4_pile_57 ?_
    refine lx_12 E mem_12 (by omega) dX4_pile_58 ?_
    refine g_callVv (T := TX1) (ci := 1) (n := 2) (As := [_, _]) (rest := _) E (c_X1_begin l D cA A ad _ _ _ _ (by omega) (by omega) _ _ s9 (by omega) (by omega)) gX4_pile_X1_begin rfl ⟨rfl, rfl⟩ (by decide +kernel) ⟨Nat.le_of_ble_eq_true rfl, Nat.le_of_ble_eq_true rfl⟩ (ob_1 (mem_1 _ (by omega) _ (by omega))) rfl rfl rfl (Nat.le_of_ble_eq_true rfl) ⟨Nat.le_of_ble_eq_true rfl, Nat.le_of_ble_eq_true rfl⟩ dX4_pile_59 ?_
    rintro ws_59 rfl
    refine g_aload_n E dX4_pile_62 rfl ?_
    refine gx_Main_yard E mem_8 hin4 (by decide +kernel) dX4_pile_63 ?_
    refine g_dup E dX4_pile_66 rfl ?_
    refine gx_Yard_pileCount' E (mem_y _ (by omega)) hin3 (by decide +kernel) dX4_pile_67 ?_
    rw [hnb]
    refine g_iconst E dX4_pile_70 ?_
    refine g_iadd E dX4_pile_71 ?_
    refine px_Yard_pileCount' E (mem_y _ (by omega)) hin3 (by decide +kernel) dX4_pile_72 ?_
    refine g_iload_n E dX4_pile_75 rfl ?_
    refine g_wid (k := 3) (n := 18) (Nat.le_of_ble_eq_true rfl) (Nat.le_of_ble_eq_true rfl) ?_
    refine g_xret ?_
    exact g_iret E (⟨(if_neg nb1).trans ((if_neg nb2).trans (if_neg nb3)), rfl, rfl⟩) dX4_pile_76
  · exact g_throw (is := 56) E Z (by decide +kernel) (by decide +kernel) (by decide +kernel) rfl (List.mem_of_getElem? (i := 0) rfl) (fun w h => by first | exact List.mem_cons_of_mem _ (List.mem_append_right _ h) | exact List.mem_cons_of_mem _ (List.mem_append_left _ (List.mem_append_right _ h)) | exact List.mem_cons_of_mem _ (List.mem_append_left _ (List.mem_append_left _ (List.mem_append_right _ h)))) nb_xS gd_xS dX4_pile_23 dX4_pile_26 dX4_pile_27 dX4_pile_29 dX4_pile_32 (Nat.le_of_ble_eq_true rfl) (Nat.le_of_ble_eq_true rfl) ⟨Nat.le_of_ble_eq_true rfl, Nat.le_of_ble_eq_true rfl⟩ ⟨Nat.le_of_ble_eq_true rfl, Nat.le_of_ble_eq_true rfl⟩ (⟨2, (if_neg nb1).trans ((if_neg nb2).trans (if_pos (c_20))), rfl⟩)
set_option maxHeartbeats 800000 in
set_option maxRecDepth 100000 in
/-- cat(k) -/
theorem c_X4_cat (l : Launch) (hl0 : l.stackTraces = false) (D : va_G) (cA : Nat → ClassId) (A : Nat → Prop) (ad : Ad) (σ : Nat → St) (a : St) (hI : Inv a) (p9 : Int) (hp : R31 p9) : vx_Met l yX4_cat wsX4_cat ({ frames := 7, cells := 2, slots := 12, locals := 108 }) (PcZ D (tysX cA) A (wX cA ad (upY σ 0 a)) [.ref (ad 0 8 0), .int (zI p9)]) (va_Qi (fun (r : Int32) ws' => eCat a p9 = 0 ∧ r = zI (nc a) ∧ ws' = wX cA ad (upY σ 0 (newC a p9))) (gB D A) A) (XQ D A (fun E9 => exn [xA, xS] E9 (eCat a p9)) (wX cA ad (upY σ 0 a))) 2 12 A := by
  refine g_metx (cc := cX4_cat) (maxL := 3) (ret := (some .int)) (own := RX4) hl0 rfl (by decide) rfl (Nat.le_of_ble_eq_true rfl) ?_
  intro p e s m below meth c E Z
  have hin0 : ∀ w ∈ u_ws RX0 TX0 3, w ∈ wsX4_cat := by decide +kernel
  have hin3 : ∀ w ∈ u_ws RX3 TX3 8, w ∈ wsX4_cat := by decide +kernel
  have hin4 : ∀ w ∈ u_ws RX4 TX4 6, w ∈ wsX4_cat := by decide +kernel
  obtain ⟨⟨hn0, hn6, hc0, hc3⟩, hPI, hCI, hFr⟩ := id hI
  obtain ⟨hp1, hp2⟩ := hp
  have hnb : ∀ v1 : Int32, nc (up3 a 3 (nc a).toNat 0 v1) = nc a := fun _ => nc_up (by omega)
  refine g_loc (lv' := [(0, .ref (ad 0 8 0)), (1, .int (zI p9))]) ⟨rfl, rfl, trivial⟩ ?_
  refine g_iload_n E dX4_cat_0 rfl ?_
  refine g_iconst E dX4_cat_1 ?_
  refine g_iconst E dX4_cat_2 ?_
  refine g_xTv (n := 3) (As := [_, _, _]) (rest := _) E Z (c_X4_checkArgument l hl0 D _ A _ _ _ _ (by omega)) gX4_cat_X4_checkArgument rfl ⟨rfl, rfl⟩ (by decide +kernel) ⟨Nat.le_of_ble_eq_true rfl, Nat.le_of_ble_eq_true rfl⟩ rfl rfl (Nat.le_of_ble_eq_true rfl) ⟨Nat.le_of_ble_eq_true rfl, Nat.le_of_ble_eq_true rfl⟩ ⟨Nat.le_of_ble_eq_true rfl, Nat.le_of_ble_eq_true rfl⟩ dX4_cat_3 (fun E9 hE => ⟨0, if_pos (hE.2), hE.1 ▸ rfl⟩) ?_
  rintro ws_3 ⟨g_3, rfl⟩
  have nb1 : ¬ ¬ (1 ≤ p9 ∧ p9 ≤ 5) := fun q => q g_3
  refine g_aload_n E dX4_cat_6 rfl ?_
  refine gx_Main_yard E mem_8 hin4 (by decide +kernel) dX4_cat_7 ?_
  refine gx_Yard_catCount' E (mem_y _ (by omega)) hin3 (by decide +kernel) dX4_cat_10 ?_
  refine g_iconst E dX4_cat_13 ?_
  refine g_icmp_lt (tgt := 27) E dX4_cat_14 (by decide) (by omega) (by omega) (fun c_14 => ?_) (fun c_14 => ?_)
  · have nb2 : ¬ ¬ nc a < 3 := fun q => q c_14
    refine g_aload_n E dX4_cat_27 rfl ?_
    refine gx_Main_yard E mem_8 hin4 (by decide +kernel) dX4_cat_28 ?_
    refine gx_Yard_catCount' E (mem_y _ (by omega)) hin3 (by decide +kernel) dX4_cat_31 ?_
    refine g_istore_n E dX4_cat_34 (by decide) ?_
    refine g_aload_n E dX4_cat_35 rfl ?_
    refine gx_Main_yard E mem_8 hin4 (by decide +kernel) dX4_cat_36 ?_
    refine gx_Yard_cats' E (mem_y _ (by omega)) hin3 (by decide +kernel) dX4_cat_39 ?_
    refine g_iload_n E dX4_cat_42 rfl ?_
    refine lx_11' E (mem_11 _ (by omega)) (by omega) dX4_cat_43 ?_
    refine g_iload_n E dX4_cat_44 rfl ?_
    refine px_Cat_leap' E (mem_3 _ (by omega) _ (by omega)) hin0 (by decide +kernel) dX4_cat_45 ?_
    refine g_aload_n E dX4_cat_48 rfl ?_
    refine gx_Main_yard E mem_8 hin4 (by decide +kernel) dX4_cat_49 ?_
    refine g_dup E dX4_cat_52 rfl ?_
    refine gx_Yard_catCount' E (mem_y _ (by omega)) hin3 (by decide +kernel) dX4_cat_53 ?_
    rw [hnb]
    refine g_iconst E dX4_cat_56 ?_
    refine g_iadd E dX4_cat_57 ?_
    refine px_Yard_catCount' E (mem_y _ (by omega)) hin3 (by decide +kernel) dX4_cat_58 ?_
    refine g_iload_n E dX4_cat_61 rfl ?_
    refine g_wid (k := 2) (n := 12) (Nat.le_of_ble_eq_true rfl) (Nat.le_of_ble_eq_true rfl) ?_
    refine g_xret ?_
    exact g_iret E (⟨(if_neg nb1).trans (if_neg nb2), rfl, rfl⟩) dX4_cat_62
  · exact g_throw (is := 74) E Z (by decide +kernel) (by decide +kernel) (by decide +kernel) rfl (List.mem_of_getElem? (i := 1) rfl) (fun w h => by first | exact List.mem_cons_of_mem _ (List.mem_append_right _ h) | exact List.mem_cons_of_mem _ (List.mem_append_left _ (List.mem_append_right _ h)) | exact List.mem_cons_of_mem _ (List.mem_append_left _ (List.mem_append_left _ (List.mem_append_right _ h)))) nb_xS gd_xS dX4_cat_17 dX4_cat_20 dX4_cat_21 dX4_cat_23 dX4_cat_26 (Nat.le_of_ble_eq_true rfl) (Nat.le_of_ble_eq_true rfl) ⟨Nat.le_of_ble_eq_true rfl, Nat.le_of_ble_eq_true rfl⟩ ⟨Nat.le_of_ble_eq_true rfl, Nat.le_of_ble_eq_true rfl⟩ (⟨1, (if_neg nb1).trans (if_pos (c_14)), rfl⟩)
set_option maxHeartbeats 800000 in
set_option maxRecDepth 100000 in
/-- give(c, m) -/
theorem c_X4_give (l : Launch) (hl0 : l.stackTraces = false) (D : va_G) (cA : Nat → ClassId) (A : Nat → Prop) (ad : Ad) (σ : Nat → St) (a : St) (hI : Inv a) (p9 m9 : Int) (hp : R31 p9) (hm : R31 m9) : vx_Met l yX4_give wsX4_give ({ frames := 7, cells := 2, slots := 12, locals := 108 }) (PcZ D (tysX cA) A (wX cA ad (upY σ 0 a)) [.ref (ad 0 8 0), .int (zI p9), .int (zI m9)]) (va_Qi (fun (r : Int32) ws' => eGive p9 m9 = 0 ∧ r = givS a p9 m9 5 0 p9.toNat ∧ ws' = wX cA ad (upY σ 0 (givS a p9 m9))) (gB D A) A) (XQ D A (fun E9 => exn [xI, xA] E9 (eGive p9 m9)) (wX cA ad (upY σ 0 a))) 2 12 A := by
  refine g_metx (cc := cX4_give) (maxL := 3) (ret := (some .int)) (own := RX4) hl0 rfl (by decide) rfl (Nat.le_of_ble_eq_true rfl) ?_
  intro p e s m below meth c E Z
  have hin4 : ∀ w ∈ u_ws RX4 TX4 6, w ∈ wsX4_give := by decide +kernel
  obtain ⟨⟨hn0, hn6, hc0, hc3⟩, hPI, hCI, hFr⟩ := id hI
  obtain ⟨hp1, hp2⟩ := hp
  obtain ⟨hm1, hm2⟩ := hm
  refine g_loc (lv' := [(0, .ref (ad 0 8 0)), (1, .int (zI p9)), (2, .int (zI m9))]) ⟨rfl, rfl, rfl, trivial⟩ ?_
  refine g_iload_n E dX4_give_0 rfl ?_
  refine g_xTv (n := 1) (As := [_]) (rest := _) E Z (c_X4_checkCalibre l hl0 D _ A _ _ (by omega)) gX4_give_X4_checkCalibre rfl ⟨rfl, rfl⟩ (by decide +kernel) ⟨Nat.le_of_ble_eq_true rfl, Nat.le_of_ble_eq_true rfl⟩ rfl rfl (Nat.le_of_ble_eq_true rfl) ⟨Nat.le_of_ble_eq_true rfl, Nat.le_of_ble_eq_true rfl⟩ ⟨Nat.le_of_ble_eq_true rfl, Nat.le_of_ble_eq_true rfl⟩ dX4_give_1 (fun E9 hE => ⟨0, if_pos (hE.2), hE.1 ▸ rfl⟩) ?_
  rintro ws_1 ⟨g_1, rfl⟩
  have nb1 : ¬ ¬ (0 ≤ p9 ∧ p9 ≤ 4) := fun q => q g_1
  refine g_iload_n E dX4_give_4 rfl ?_
  refine g_iconst E dX4_give_5 ?_
  refine g_bipush E dX4_give_6 (by decide) ?_
  refine g_xTv (n := 3) (As := [_, _, _]) (rest := _) E Z (c_X4_checkArgument l hl0 D _ A _ _ _ _ (by omega)) gX4_give_X4_checkArgument rfl ⟨rfl, rfl⟩ (by decide +kernel) ⟨Nat.le_of_ble_eq_true rfl, Nat.le_of_ble_eq_true rfl⟩ rfl rfl (Nat.le_of_ble_eq_true rfl) ⟨Nat.le_of_ble_eq_true rfl, Nat.le_of_ble_eq_true rfl⟩ ⟨Nat.le_of_ble_eq_true rfl, Nat.le_of_ble_eq_true rfl⟩ dX4_give_8 (fun E9 hE => ⟨1, (if_neg nb1).trans (if_pos (hE.2)), hE.1 ▸ rfl⟩) ?_
  rintro ws_8 ⟨g_8, rfl⟩
  have nb2 : ¬ ¬ (1 ≤ m9 ∧ m9 ≤ 99) := fun q => q g_8
  refine g_aload_n E dX4_give_11 rfl ?_
  refine gx_Main_store E mem_8 hin4 (by decide +kernel) dX4_give_12 ?_
  refine g_iload_n E dX4_give_15 rfl ?_
  refine g_iload_n E dX4_give_16 rfl ?_
  refine g_callVv (T := TX6) (ci := 6) (n := 2) (As := [_, _]) (rest := _) E (c_X6_add l D cA A ad _ _ 5 _ TY_5 _ _ (by omega)) gX4_give_X6_add rfl ⟨rfl, rfl⟩ (by decide +kernel) ⟨Nat.le_of_ble_eq_true rfl, Nat.le_of_ble_eq_true rfl⟩ (ob_T TY_5) rfl rfl rfl (Nat.le_of_ble_eq_true rfl) ⟨Nat.le_of_ble_eq_true rfl, Nat.le_of_ble_eq_true rfl⟩ dX4_give_17 ?_
  rintro ws_17 rfl
  refine g_aload_n E dX4_give_20 rfl ?_
  refine gx_Main_store E mem_8 hin4 (by decide +kernel) dX4_give_21 ?_
  refine g_iload_n E dX4_give_24 rfl ?_
  refine g_callVi (T := TX6) (ci := 6) (n := 1) (As := [_]) (rest := _) E (c_X6_of l D cA A ad _ _ 5 _ TY_5 _ (by omega)) gX4_give_X6_of rfl ⟨rfl, rfl⟩ (by decide +kernel) ⟨Nat.le_of_ble_eq_true rfl, Nat.le_of_ble_eq_true rfl⟩ (ob_T TY_5) rfl rfl rfl (Nat.le_of_ble_eq_true rfl) ⟨Nat.le_of_ble_eq_true rfl, Nat.le_of_ble_eq_true rfl⟩ dX4_give_25 ?_
  rintro r_25 ws_25 ⟨rfl, rfl⟩
  refine g_wid (k := 2) (n := 12) (Nat.le_of_ble_eq_true rfl) (Nat.le_of_ble_eq_true rfl) ?_
  refine g_xret ?_
  exact g_iret E (⟨(if_neg nb1).trans (if_neg nb2), rfl, rfl⟩) dX4_give_28
set_option maxHeartbeats 800000 in
set_option maxRecDepth 100000 in
/-- setRain(r) -/
theorem c_X4_setRain (l : Launch) (hl0 : l.stackTraces = false) (D : va_G) (cA : Nat → ClassId) (A : Nat → Prop) (ad : Ad) (σ : Nat → St) (a : St) (hI : Inv a) (p9 : Int) (hp : R31 p9) : vx_Met l yX4_setRain wsX4_setRain ({ frames := 7, cells := 1, slots := 6, locals := 108 }) (PcZ D (tysX cA) A (wX cA ad (upY σ 0 a)) [.ref (ad 0 8 0), .int (zI p9)]) (va_Qi (fun (r : Int32) ws' => eIn 0 3 p9 = 0 ∧ r = a 0 0 3 ∧ ws' = wX cA ad (upY σ 0 (up3 a 0 0 3 (zI p9)))) (gB D A) A) (XQ D A (fun E9 => exn [xA] E9 (eIn 0 3 p9)) (wX cA ad (upY σ 0 a))) 1 6 A := by
  refine g_metx (cc := cX4_setRain) (maxL := 3) (ret := (some .int)) (own := RX4) hl0 rfl (by decide) rfl (Nat.le_of_ble_eq_true rfl) ?_
  intro p e s m below meth c E Z
  have hin3 : ∀ w ∈ u_ws RX3 TX3 8, w ∈ wsX4_setRain := by decide +kernel
  have hin4 : ∀ w ∈ u_ws RX4 TX4 6, w ∈ wsX4_setRain := by decide +kernel
  obtain ⟨⟨hn0, hn6, hc0, hc3⟩, hPI, hCI, hFr⟩ := id hI
  obtain ⟨hp1, hp2⟩ := hp
  refine g_loc (lv' := [(0, .ref (ad 0 8 0)), (1, .int (zI p9))]) ⟨rfl, rfl, trivial⟩ ?_
  refine g_iload_n E dX4_setRain_0 rfl ?_
  refine g_iconst E dX4_setRain_1 ?_
  refine g_iconst E dX4_setRain_2 ?_
  refine g_xTv (n := 3) (As := [_, _, _]) (rest := _) E Z (c_X4_checkArgument l hl0 D _ A _ _ _ _ (by omega)) gX4_setRain_X4_checkArgument rfl ⟨rfl, rfl⟩ (by decide +kernel) ⟨Nat.le_of_ble_eq_true rfl, Nat.le_of_ble_eq_true rfl⟩ rfl rfl (Nat.le_of_ble_eq_true rfl) ⟨Nat.le_of_ble_eq_true rfl, Nat.le_of_ble_eq_true rfl⟩ ⟨Nat.le_of_ble_eq_true rfl, Nat.le_of_ble_eq_true rfl⟩ dX4_setRain_3 (fun E9 hE => ⟨0, if_pos (hE.2), hE.1 ▸ rfl⟩) ?_
  rintro ws_3 ⟨g_3, rfl⟩
  have nb1 : ¬ ¬ (0 ≤ p9 ∧ p9 ≤ 3) := fun q => q g_3
  refine g_aload_n E dX4_setRain_6 rfl ?_
  refine gx_Main_yard E mem_8 hin4 (by decide +kernel) dX4_setRain_7 ?_
  refine gx_Yard_rain' E (mem_y _ (by omega)) hin3 (by decide +kernel) dX4_setRain_10 ?_
  refine g_istore_n E dX4_setRain_13 (by decide) ?_
  refine g_aload_n E dX4_setRain_14 rfl ?_
  refine gx_Main_yard E mem_8 hin4 (by decide +kernel) dX4_setRain_15 ?_
  refine g_iload_n E dX4_setRain_18 rfl ?_
  refine px_Yard_rain' E (mem_y _ (by omega)) hin3 (by decide +kernel) dX4_setRain_19 ?_
  refine g_iload_n E dX4_setRain_22 rfl ?_
  refine g_wid (k := 1) (n := 6) (Nat.le_of_ble_eq_true rfl) (Nat.le_of_ble_eq_true rfl) ?_
  refine g_xret ?_
  exact g_iret E (⟨if_neg nb1, rfl, rfl⟩) dX4_setRain_23
set_option maxHeartbeats 800000 in
set_option maxRecDepth 100000 in
/-- setLimit(r) -/
theorem c_X4_setLimit (l : Launch) (hl0 : l.stackTraces = false) (D : va_G) (cA : Nat → ClassId) (A : Nat → Prop) (ad : Ad) (σ : Nat → St) (a : St) (hI : Inv a) (p9 : Int) (hp : R31 p9) : vx_Met l yX4_setLimit wsX4_setLimit ({ frames := 7, cells := 1, slots := 6, locals := 108 }) (PcZ D (tysX cA) A (wX cA ad (upY σ 0 a)) [.ref (ad 0 8 0), .int (zI p9)]) (va_Qi (fun (r : Int32) ws' => eIn 1 9 p9 = 0 ∧ r = a 0 0 4 ∧ ws' = wX cA ad (upY σ 0 (up3 a 0 0 4 (zI p9)))) (gB D A) A) (XQ D A (fun E9 => exn [xA] E9 (eIn 1 9 p9)) (wX cA ad (upY σ 0 a))) 1 6 A := by
  refine g_metx (cc := cX4_setLimit) (maxL := 3) (ret := (some .int)) (own := RX4) hl0 rfl (by decide) rfl (Nat.le_of_ble_eq_true rfl) ?_
  intro p e s m below meth c E Z
  have hin3 : ∀ w ∈ u_ws RX3 TX3 8, w ∈ wsX4_setLimit := by decide +kernel
  have hin4 : ∀ w ∈ u_ws RX4 TX4 6, w ∈ wsX4_setLimit := by decide +kernel
  obtain ⟨⟨hn0, hn6, hc0, hc3⟩, hPI, hCI, hFr⟩ := id hI
  obtain ⟨hp1, hp2⟩ := hp
  refine g_loc (lv' := [(0, .ref (ad 0 8 0)), (1, .int (zI p9))]) ⟨rfl, rfl, trivial⟩ ?_
  refine g_iload_n E dX4_setLimit_0 rfl ?_
  refine g_iconst E dX4_setLimit_1 ?_
  refine g_bipush E dX4_setLimit_2 (by decide) ?_
  refine g_xTv (n := 3) (As := [_, _, _]) (rest := _) E Z (c_X4_checkArgument l hl0 D _ A _ _ _ _ (by omega)) gX4_setLimit_X4_checkArgument rfl ⟨rfl, rfl⟩ (by decide +kernel) ⟨Nat.le_of_ble_eq_true rfl, Nat.le_of_ble_eq_true rfl⟩ rfl rfl (Nat.le_of_ble_eq_true rfl) ⟨Nat.le_of_ble_eq_true rfl, Nat.le_of_ble_eq_true rfl⟩ ⟨Nat.le_of_ble_eq_true rfl, Nat.le_of_ble_eq_true rfl⟩ dX4_setLimit_4 (fun E9 hE => ⟨0, if_pos (hE.2), hE.1 ▸ rfl⟩) ?_
  rintro ws_4 ⟨g_4, rfl⟩
  have nb1 : ¬ ¬ (1 ≤ p9 ∧ p9 ≤ 9) := fun q => q g_4
  refine g_aload_n E dX4_setLimit_7 rfl ?_
  refine gx_Main_yard E mem_8 hin4 (by decide +kernel) dX4_setLimit_8 ?_
  refine gx_Yard_limit' E (mem_y _ (by omega)) hin3 (by decide +kernel) dX4_setLimit_11 ?_
  refine g_istore_n E dX4_setLimit_14 (by decide) ?_
  refine g_aload_n E dX4_setLimit_15 rfl ?_
  refine gx_Main_yard E mem_8 hin4 (by decide +kernel) dX4_setLimit_16 ?_
  refine g_iload_n E dX4_setLimit_19 rfl ?_
  refine px_Yard_limit' E (mem_y _ (by omega)) hin3 (by decide +kernel) dX4_setLimit_20 ?_
  refine g_iload_n E dX4_setLimit_23 rfl ?_
  refine g_wid (k := 1) (n := 6) (Nat.le_of_ble_eq_true rfl) (Nat.le_of_ble_eq_true rfl) ?_
  refine g_xret ?_
  exact g_iret E (⟨if_neg nb1, rfl, rfl⟩) dX4_setLimit_24
set_option maxHeartbeats 800000 in
set_option maxRecDepth 100000 in
/-- stack(p, m) -/
theorem c_X4_stack (l : Launch) (hl0 : l.stackTraces = false) (D : va_G) (cA : Nat → ClassId) (A : Nat → Prop) (ad : Ad) (σ : Nat → St) (a : St) (hI : Inv a) (p9 m9 : Int) (hp : R31 p9) (hm : R31 m9) : vx_Met l yX4_stack wsX4_stack ({ frames := 7, cells := 3, slots := 18, locals := 108 }) (PcZ D (tysX cA) A (wX cA ad (upY σ 0 a)) [.ref (ad 0 8 0), .int (zI p9), .int (zI m9)]) (va_Qi (fun (r : Int32) ws' => eStack a p9 m9 = 0 ∧ r = zI (bl a p9.toNat + m9) ∧ ws' = wX cA ad (upY σ 0 (stkS a p9.toNat m9))) (gB D A) A) (XQ D A (fun E9 => exn [xI, xA, xS] E9 (eStack a p9 m9)) (wX cA ad (upY σ 0 a))) 3 18 A := by
  refine g_metx (cc := cX4_stack) (maxL := 5) (ret := (some .int)) (own := RX4) hl0 rfl (by decide) rfl (Nat.le_of_ble_eq_true rfl) ?_
  intro p e s m below meth c E Z
  have hin1 : ∀ w ∈ u_ws RX1 TX1 4, w ∈ wsX4_stack := by decide +kernel
  have hin3 : ∀ w ∈ u_ws RX3 TX3 8, w ∈ wsX4_stack := by decide +kernel
  have hin4 : ∀ w ∈ u_ws RX4 TX4 6, w ∈ wsX4_stack := by decide +kernel
  obtain ⟨⟨hn0, hn6, hc0, hc3⟩, hPI, hCI, hFr⟩ := id hI
  obtain ⟨hp1, hp2⟩ := hp
  obtain ⟨hm1, hm2⟩ := hm
  refine g_loc (lv' := [(0, .ref (ad 0 8 0)), (1, .int (zI p9)), (2, .int (zI m9))]) ⟨rfl, rfl, rfl, trivial⟩ ?_
  refine g_aload_n E dX4_stack_0 rfl ?_
  refine g_iload_n E dX4_stack_1 rfl ?_
  refine g_xVv (T := TX4) (ci := 4) (n := 1) (As := [_]) (rest := _) E Z (c_X4_checkPile l hl0 D cA A ad _ _ hI _ (by omega)) gX4_stack_X4_checkPile rfl ⟨rfl, rfl⟩ (by decide +kernel) ⟨Nat.le_of_ble_eq_true rfl, Nat.le_of_ble_eq_true rfl⟩ (ob_8 mem_8) rfl rfl rfl (Nat.le_of_ble_eq_true rfl) ⟨Nat.le_of_ble_eq_true rfl, Nat.le_of_ble_eq_true rfl⟩ ⟨Nat.le_of_ble_eq_true rfl, Nat.le_of_ble_eq_true rfl⟩ dX4_stack_2 (fun E9 hE => ⟨0, if_pos (hE.2), hE.1 ▸ rfl⟩) ?_
  rintro ws_2 ⟨g_2, rfl⟩
  have nb1 : ¬ ¬ (0 ≤ p9 ∧ p9 < np a) := fun q => q g_2; have hPp := hPI p9.toNat (by omega); have hPo := hPp.1; have hPc := hPp.2; have hPo2 := hPo; unfold PO at hPo2; have hsq := sq_le (e := sd a p9.toNat) (by omega)
  refine g_iload_n E dX4_stack_5 rfl ?_
  refine g_iconst E dX4_stack_6 ?_
  refine g_bipush E dX4_stack_7 (by decide) ?_
  refine g_xTv (n := 3) (As := [_, _, _]) (rest := _) E Z (c_X4_checkArgument l hl0 D _ A _ _ _ _ (by omega)) gX4_stack_X4_checkArgument rfl ⟨rfl, rfl⟩ (by decide +kernel) ⟨Nat.le_of_ble_eq_true rfl, Nat.le_of_ble_eq_true rfl⟩ rfl rfl (Nat.le_of_ble_eq_true rfl) ⟨Nat.le_of_ble_eq_true rfl, Nat.le_of_ble_eq_true rfl⟩ ⟨Nat.le_of_ble_eq_true rfl, Nat.le_of_ble_eq_true rfl⟩ dX4_stack_9 (fun E9 hE => ⟨1, (if_neg nb1).trans (if_pos (hE.2)), hE.1 ▸ rfl⟩) ?_
  rintro ws_9 ⟨g_9, rfl⟩
  have nb2 : ¬ ¬ (1 ≤ m9 ∧ m9 ≤ 91) := fun q => q g_9
  refine g_aload_n E dX4_stack_12 rfl ?_
  refine gx_Main_yard E mem_8 hin4 (by decide +kernel) dX4_stack_13 ?_
  refine gx_Yard_piles' E (mem_y _ (by omega)) hin3 (by decide +kernel) dX4_stack_16 ?_
  refine g_iload_n E dX4_stack_19 rfl ?_
  refine lx_10' E (mem_10 _ (by omega)) (by omega) dX4_stack_20 ?_
  refine g_astore_n E dX4_stack_21 (by decide) ?_
  refine g_aload_n E dX4_stack_22 rfl ?_
  refine gx_Main_store E mem_8 hin4 (by decide +kernel) dX4_stack_23 ?_
  refine g_aload_n E dX4_stack_26 rfl ?_
  refine gx_Pile_calibre' E (mem_1 _ (by omega) _ (by omega)) hin1 (by decide +kernel) dX4_stack_27 ?_
  refine g_callVi (T := TX6) (ci := 6) (n := 1) (As := [_]) (rest := _) E (c_X6_of l D cA A ad _ _ 5 _ TY_5 _ (by omega)) gX4_stack_X6_of rfl ⟨rfl, rfl⟩ (by decide +kernel) ⟨Nat.le_of_ble_eq_true rfl, Nat.le_of_ble_eq_true rfl⟩ (ob_T TY_5) rfl rfl rfl (Nat.le_of_ble_eq_true rfl) ⟨Nat.le_of_ble_eq_true rfl, Nat.le_of_ble_eq_true rfl⟩ dX4_stack_30 ?_
  rintro r_30 ws_30 ⟨rfl, rfl⟩
  refine g_iload_n E dX4_stack_33 rfl ?_
  refine g_icmp_geR (tgt := 47) E dX4_stack_34 (by decide) (fun c_34 => ?_) (fun c_34 => ?_)
  · refine g_aload_n E dX4_stack_47 rfl ?_
    refine g_callVi (T := TX1) (ci := 1) (n := 0) (As := []) (rest := _) E (c_X1_spare l D cA A ad σ 0 p9.toNat (a) (by omega) (by omega) hPo) gX4_stack_X1_spare rfl ⟨rfl, rfl⟩ (by decide +kernel) ⟨Nat.le_of_ble_eq_true rfl, Nat.le_of_ble_eq_true rfl⟩ (ob_1 (mem_1 _ (by omega) _ (by omega))) rfl rfl rfl (Nat.le_of_ble_eq_true rfl) ⟨Nat.le_of_ble_eq_true rfl, Nat.le_of_ble_eq_true rfl⟩ dX4_stack_48 ?_
    rintro r_48 ws_48 ⟨rfl, rfl⟩
    refine g_iload_n E dX4_stack_51 rfl ?_
    refine g_icmp_ge (tgt := 65) E dX4_stack_52 (by decide) (by omega) (by omega) (fun c_52 => ?_) (fun c_52 => ?_)
    · have nb3 : ¬ (a 5 0 (cal a p9.toNat).toNat < zI m9 ∨ sq (sd a p9.toNat) - bl a p9.toNat < m9) := fun q => q.elim (fun z => absurd z (Int32.not_lt.mpr c_34)) (fun z => by omega)
      refine g_iconst E dX4_stack_65 ?_
      refine g_istore E dX4_stack_66 (by decide) ?_
      have key_kk : ∀ (n_kk kk : Nat), (kk : Int) ≤ m9 → m9 + 1 ≤ (kk : Int) + n_kk → GW p l e (headSpec wsX4_stack ({ frames := 7, cells := 3, slots := 18, locals := 108 })).room s m ([.ref (ad 0 8 0), .int (zI p9), .int (zI m9)] : List Value).toArray below meth c (vx_MQ below (va_Qi (fun (r : Int32) ws' => eStack a p9 m9 = 0 ∧ r = zI (bl a p9.toNat + m9) ∧ ws' = wX cA ad (upY σ 0 (stkS a p9.toNat m9))) (gB D A) A) (XQ D A (fun E9 => exn [xI, xA, xS] E9 (eStack a p9 m9)) (wX cA ad (upY σ 0 a))) ([.ref (ad 0 8 0), .int (zI p9), .int (zI m9)] : List Value).toArray s 3 18 A) D A 5 (wX cA ad (upY σ 0 (putN a p9.toNat kk))) 2 12 68 [(0, .ref (ad 0 8 0)), (1, .int (zI p9)), (2, .int (zI m9)), (3, .ref (ad 0 1 p9.toNat)), (4, .int (zI (kk : Int)))] [] := by
        intro n_kk
        induction n_kk with
        | zero => intro kk h1 h2; exact absurd h2 (by omega)
        | succ n_kk ih_kk =>
          intro kk hle_kk hfu_kk
          obtain ⟨k1, k2, k3, k4, k5, k6⟩ := putN_i hI (p := p9.toNat) (by omega) kk (by omega)
          have k7 := k5 p9.toNat
          refine g_iload E dX4_stack_68 rfl ?_
          refine g_iload_n E dX4_stack_70 rfl ?_
          refine g_icmp_ge (tgt := 85) E dX4_stack_71 (by decide) (by omega) (by omega) (fun c_71 => ?_) (fun c_71 => ?_)
          · obtain rfl : kk = m9.toNat := by omega
            refine g_aload_n E dX4_stack_85 rfl ?_
            refine gx_Main_store E mem_8 hin4 (by decide +kernel) dX4_stack_86 ?_
            refine g_aload_n E dX4_stack_89 rfl ?_
            refine gx_Pile_calibre' E (mem_1 _ (by omega) _ (by omega)) hin1 (by decide +kernel) dX4_stack_90 ?_
            rw [k7.2]
            refine g_iload_n E dX4_stack_93 rfl ?_
            refine g_ineg E dX4_stack_94 ?_
            refine g_callVv (T := TX6) (ci := 6) (n := 2) (As := [_, _]) (rest := _) E (c_X6_add l D cA A ad _ _ 5 _ TY_5 _ _ (by omega)) gX4_stack_X6_add rfl ⟨rfl, rfl⟩ (by decide +kernel) ⟨Nat.le_of_ble_eq_true rfl, Nat.le_of_ble_eq_true rfl⟩ (ob_T TY_5) rfl rfl rfl (Nat.le_of_ble_eq_true rfl) ⟨Nat.le_of_ble_eq_true rfl, Nat.le_of_ble_eq_true rfl⟩ dX4_stack_95 ?_
            rintro ws_95 rfl
            refine g_st (ws' := wX cA ad (upY σ 0 (stkS a p9.toNat m9))) (congrArg (fun q9 : Int32 => wX cA ad (upY σ 0 (up3 (putN a p9.toNat m9.toNat) 5 0 (cal a p9.toNat).toNat q9))) (by rw [k6, ← Int32.sub_eq_add_neg])) rfl rfl ?_
            have hre : zI (bl (stkS a p9.toNat m9) p9.toNat) = zI (bl a p9.toNat + m9) := congrArg zI (by rw [stkS, bl_up (by omega)]; omega)
            refine g_aload_n E dX4_stack_98 rfl ?_
            refine gx_Pile_balls' E (mem_1 _ (by omega) _ (by omega)) hin1 (by decide +kernel) dX4_stack_99 ?_
            refine g_wid (k := 3) (n := 18) (Nat.le_of_ble_eq_true rfl) (Nat.le_of_ble_eq_true rfl) ?_
            refine g_xret ?_
            exact g_iret E (⟨(if_neg nb1).trans ((if_neg nb2).trans (if_neg nb3)), hre, rfl⟩) dX4_stack_102
          · refine g_aload_n E dX4_stack_74 rfl ?_
            refine g_iconst E dX4_stack_75 ?_
            refine g_callVv (T := TX1) (ci := 1) (n := 1) (As := [_]) (rest := _) E (c_X1_put l D cA A ad σ 0 p9.toNat (putN a p9.toNat kk) (by omega) (by omega) (k1.2.1 _ (by omega)).1 (zI 0) (by rw [k4, k7.1]; omega)) gX4_stack_X1_put rfl ⟨rfl, rfl⟩ (by decide +kernel) ⟨Nat.le_of_ble_eq_true rfl, Nat.le_of_ble_eq_true rfl⟩ (ob_1 (mem_1 _ (by omega) _ (by omega))) rfl rfl rfl (Nat.le_of_ble_eq_true rfl) ⟨Nat.le_of_ble_eq_true rfl, Nat.le_of_ble_eq_true rfl⟩ dX4_stack_76 ?_
            rintro ws_76 rfl
            refine g_iinc E dX4_stack_79 rfl (by decide) ?_
            refine g_goto (tgt := 68) E dX4_stack_82 (by decide) ?_
            refine g_st (ws' := wX cA ad (upY σ 0 (putN a p9.toNat (kk + 1)))) (rfl) rfl rfl ?_
            refine g_loc (lv' := [(0, .ref (ad 0 8 0)), (1, .int (zI p9)), (2, .int (zI m9)), (3, .ref (ad 0 1 p9.toNat)), (4, .int (zI ((kk + 1) : Int)))]) ⟨rfl, rfl, rfl, rfl, rfl, trivial⟩ ?_
            exact ih_kk (kk + 1) (by omega) (by omega)
      refine g_loc (lv' := [(0, .ref (ad 0 8 0)), (1, .int (zI p9)), (2, .int (zI m9)), (3, .ref (ad 0 1 p9.toNat)), (4, .int (zI (0 : Int)))]) ⟨rfl, rfl, rfl, rfl, rfl, trivial⟩ ?_
      exact key_kk ((m9) + 1).toNat.succ 0 (by omega) (by omega)
    · exact g_throw (is := 111) E Z (by decide +kernel) (by decide +kernel) (by decide +kernel) rfl (List.mem_of_getElem? (i := 3) rfl) (fun w h => by first | exact List.mem_cons_of_mem _ (List.mem_append_right _ h) | exact List.mem_cons_of_mem _ (List.mem_append_left _ (List.mem_append_right _ h)) | exact List.mem_cons_of_mem _ (List.mem_append_left _ (List.mem_append_left _ (List.mem_append_right _ h)))) nb_xS gd_xS dX4_stack_55 dX4_stack_58 dX4_stack_59 dX4_stack_61 dX4_stack_64 (Nat.le_of_ble_eq_true rfl) (Nat.le_of_ble_eq_true rfl) ⟨Nat.le_of_ble_eq_true rfl, Nat.le_of_ble_eq_true rfl⟩ ⟨Nat.le_of_ble_eq_true rfl, Nat.le_of_ble_eq_true rfl⟩ (⟨2, (if_neg nb1).trans ((if_neg nb2).trans (if_pos (Or.inr (by omega)))), rfl⟩)
  · exact g_throw (is := 105) E Z (by decide +kernel) (by decide +kernel) (by decide +kernel) rfl (List.mem_of_getElem? (i := 2) rfl) (fun w h => by first | exact List.mem_cons_of_mem _ (List.mem_append_right _ h) | exact List.mem_cons_of_mem _ (List.mem_append_left _ (List.mem_append_right _ h)) | exact List.mem_cons_of_mem _ (List.mem_append_left _ (List.mem_append_left _ (List.mem_append_right _ h)))) nb_xS gd_xS dX4_stack_37 dX4_stack_40 dX4_stack_41 dX4_stack_43 dX4_stack_46 (Nat.le_of_ble_eq_true rfl) (Nat.le_of_ble_eq_true rfl) ⟨Nat.le_of_ble_eq_true rfl, Nat.le_of_ble_eq_true rfl⟩ ⟨Nat.le_of_ble_eq_true rfl, Nat.le_of_ble_eq_true rfl⟩ (⟨2, (if_neg nb1).trans ((if_neg nb2).trans (if_pos (Or.inl (Int32.not_le.mp c_34)))), rfl⟩)
set_option maxHeartbeats 800000 in
set_option maxRecDepth 100000 in
/-- fire(p, m) -/
theorem c_X4_fire (l : Launch) (hl0 : l.stackTraces = false) (D : va_G) (cA : Nat → ClassId) (A : Nat → Prop) (ad : Ad) (σ : Nat → St) (a : St) (hI : Inv a) (p9 m9 : Int) (hp : R31 p9) (hm : R31 m9) : vx_Met l yX4_fire wsX4_fire ({ frames := 7, cells := 3, slots := 18, locals := 108 }) (PcZ D (tysX cA) A (wX cA ad (upY σ 0 a)) [.ref (ad 0 8 0), .int (zI p9), .int (zI m9)]) (va_Qi (fun (r : Int32) ws' => eFire a p9 m9 = 0 ∧ r = (firL a p9.toNat m9.toNat).2 ∧ ws' = wX cA ad (upY σ 0 (firS a p9.toNat m9))) (gB D A) A) (XQ D A (fun E9 => exn [xI, xA, xS] E9 (eFire a p9 m9)) (wX cA ad (upY σ 0 a))) 3 18 A := by
  refine g_metx (cc := cX4_fire) (maxL := 6) (ret := (some .int)) (own := RX4) hl0 rfl (by decide) rfl (Nat.le_of_ble_eq_true rfl) ?_
  intro p e s m below meth c E Z
  have hin1 : ∀ w ∈ u_ws RX1 TX1 4, w ∈ wsX4_fire := by decide +kernel
  have hin3 : ∀ w ∈ u_ws RX3 TX3 8, w ∈ wsX4_fire := by decide +kernel
  have hin4 : ∀ w ∈ u_ws RX4 TX4 6, w ∈ wsX4_fire := by decide +kernel
  obtain ⟨⟨hn0, hn6, hc0, hc3⟩, hPI, hCI, hFr⟩ := id hI
  obtain ⟨hp1, hp2⟩ := hp
  obtain ⟨hm1, hm2⟩ := hm
  refine g_loc (lv' := [(0, .ref (ad 0 8 0)), (1, .int (zI p9)), (2, .int (zI m9))]) ⟨rfl, rfl, rfl, trivial⟩ ?_
  refine g_aload_n E dX4_fire_0 rfl ?_
  refine g_iload_n E dX4_fire_1 rfl ?_
  refine g_xVv (T := TX4) (ci := 4) (n := 1) (As := [_]) (rest := _) E Z (c_X4_checkPile l hl0 D cA A ad _ _ hI _ (by omega)) gX4_fire_X4_checkPile rfl ⟨rfl, rfl⟩ (by decide +kernel) ⟨Nat.le_of_ble_eq_true rfl, Nat.le_of_ble_eq_true rfl⟩ (ob_8 mem_8) rfl rfl rfl (Nat.le_of_ble_eq_true rfl) ⟨Nat.le_of_ble_eq_true rfl, Nat.le_of_ble_eq_true rfl⟩ ⟨Nat.le_of_ble_eq_true rfl, Nat.le_of_ble_eq_true rfl⟩ dX4_fire_2 (fun E9 hE => ⟨0, if_pos (hE.2), hE.1 ▸ rfl⟩) ?_
  rintro ws_2 ⟨g_2, rfl⟩
  have nb1 : ¬ ¬ (0 ≤ p9 ∧ p9 < np a) := fun q => q g_2; have hPp := hPI p9.toNat (by omega); have hPo := hPp.1; have hPc := hPp.2; have hPo2 := hPo; unfold PO at hPo2; have hsq := sq_le (e := sd a p9.toNat) (by omega)
  refine g_iload_n E dX4_fire_5 rfl ?_
  refine g_iconst E dX4_fire_6 ?_
  refine g_bipush E dX4_fire_7 (by decide) ?_
  refine g_xTv (n := 3) (As := [_, _, _]) (rest := _) E Z (c_X4_checkArgument l hl0 D _ A _ _ _ _ (by omega)) gX4_fire_X4_checkArgument rfl ⟨rfl, rfl⟩ (by decide +kernel) ⟨Nat.le_of_ble_eq_true rfl, Nat.le_of_ble_eq_true rfl⟩ rfl rfl (Nat.le_of_ble_eq_true rfl) ⟨Nat.le_of_ble_eq_true rfl, Nat.le_of_ble_eq_true rfl⟩ ⟨Nat.le_of_ble_eq_true rfl, Nat.le_of_ble_eq_true rfl⟩ dX4_fire_9 (fun E9 hE => ⟨1, (if_neg nb1).trans (if_pos (hE.2)), hE.1 ▸ rfl⟩) ?_
  rintro ws_9 ⟨g_9, rfl⟩
  have nb2 : ¬ ¬ (1 ≤ m9 ∧ m9 ≤ 91) := fun q => q g_9
  refine g_aload_n E dX4_fire_12 rfl ?_
  refine gx_Main_yard E mem_8 hin4 (by decide +kernel) dX4_fire_13 ?_
  refine gx_Yard_piles' E (mem_y _ (by omega)) hin3 (by decide +kernel) dX4_fire_16 ?_
  refine g_iload_n E dX4_fire_19 rfl ?_
  refine lx_10' E (mem_10 _ (by omega)) (by omega) dX4_fire_20 ?_
  refine g_astore_n E dX4_fire_21 (by decide) ?_
  refine g_aload_n E dX4_fire_22 rfl ?_
  refine gx_Pile_balls' E (mem_1 _ (by omega) _ (by omega)) hin1 (by decide +kernel) dX4_fire_23 ?_
  refine g_iload_n E dX4_fire_26 rfl ?_
  refine g_icmp_ge (tgt := 40) E dX4_fire_27 (by decide) (by omega) (by omega) (fun c_27 => ?_) (fun c_27 => ?_)
  · have nb3 : ¬ bl a p9.toNat < m9 := by omega
    refine g_iconst E dX4_fire_40 ?_
    refine g_istore E dX4_fire_41 (by decide) ?_
    refine g_iconst E dX4_fire_43 ?_
    refine g_istore E dX4_fire_44 (by decide) ?_
    have key_kk : ∀ (n_kk kk : Nat), (kk : Int) ≤ m9 → m9 + 1 ≤ (kk : Int) + n_kk → GW p l e (headSpec wsX4_fire ({ frames := 7, cells := 3, slots := 18, locals := 108 })).room s m ([.ref (ad 0 8 0), .int (zI p9), .int (zI m9)] : List Value).toArray below meth c (vx_MQ below (va_Qi (fun (r : Int32) ws' => eFire a p9 m9 = 0 ∧ r = (firL a p9.toNat m9.toNat).2 ∧ ws' = wX cA ad (upY σ 0 (firS a p9.toNat m9))) (gB D A) A) (XQ D A (fun E9 => exn [xI, xA, xS] E9 (eFire a p9 m9)) (wX cA ad (upY σ 0 a))) ([.ref (ad 0 8 0), .int (zI p9), .int (zI m9)] : List Value).toArray s 3 18 A) D A 6 (wX cA ad (upY σ 0 ((firL a p9.toNat kk).1))) 2 12 46 [(0, .ref (ad 0 8 0)), (1, .int (zI p9)), (2, .int (zI m9)), (3, .ref (ad 0 1 p9.toNat)), (4, .int (firL a p9.toNat kk).2), (5, .int (zI (kk : Int)))] [] := by
      intro n_kk
      induction n_kk with
      | zero => intro kk h1 h2; exact absurd h2 (by omega)
      | succ n_kk ih_kk =>
        intro kk hle_kk hfu_kk
        obtain ⟨k1, k2, k3, k4, k5, k6⟩ := firL_i hI (p := p9.toNat) (by omega) kk (by omega)
        have k7 := k5 p9.toNat
        refine g_iload E dX4_fire_46 rfl ?_
        refine g_iload_n E dX4_fire_48 rfl ?_
        refine g_icmp_ge (tgt := 67) E dX4_fire_49 (by decide) (by omega) (by omega) (fun c_49 => ?_) (fun c_49 => ?_)
        · obtain rfl : kk = m9.toNat := by omega
          refine g_aload_n E dX4_fire_67 rfl ?_
          refine gx_Main_fired E mem_8 hin4 (by decide +kernel) dX4_fire_68 ?_
          refine g_aload_n E dX4_fire_71 rfl ?_
          refine gx_Pile_calibre' E (mem_1 _ (by omega) _ (by omega)) hin1 (by decide +kernel) dX4_fire_72 ?_
          rw [k7.2]
          refine g_iload_n E dX4_fire_75 rfl ?_
          refine g_callVv (T := TX6) (ci := 6) (n := 2) (As := [_, _]) (rest := _) E (c_X6_add l D cA A ad _ _ 6 _ TY_6 _ _ (by omega)) gX4_fire_X6_add rfl ⟨rfl, rfl⟩ (by decide +kernel) ⟨Nat.le_of_ble_eq_true rfl, Nat.le_of_ble_eq_true rfl⟩ (ob_T TY_6) rfl rfl rfl (Nat.le_of_ble_eq_true rfl) ⟨Nat.le_of_ble_eq_true rfl, Nat.le_of_ble_eq_true rfl⟩ dX4_fire_76 ?_
          rintro ws_76 rfl
          refine g_st (ws' := wX cA ad (upY σ 0 (firS a p9.toNat m9))) (congrArg (fun q9 : Int32 => wX cA ad (upY σ 0 (up3 (firL a p9.toNat m9.toNat).1 6 0 (cal a p9.toNat).toNat (q9 + zI m9)))) (k6 _)) rfl rfl ?_
          refine g_iload E dX4_fire_79 rfl ?_
          refine g_wid (k := 3) (n := 18) (Nat.le_of_ble_eq_true rfl) (Nat.le_of_ble_eq_true rfl) ?_
          refine g_xret ?_
          exact g_iret E (⟨(if_neg nb1).trans ((if_neg nb2).trans (if_neg nb3)), rfl, rfl⟩) dX4_fire_81
        · refine g_iload E dX4_fire_52 rfl ?_
          refine g_aload_n E dX4_fire_54 rfl ?_
          refine g_callVi (T := TX1) (ci := 1) (n := 0) (As := []) (rest := _) E (c_X1_takeTop l D cA A ad σ 0 p9.toNat ((firL a p9.toNat kk).1) (by omega) (by omega) (k1.2.1 _ (by omega)).1 (by omega)) gX4_fire_X1_takeTop rfl ⟨rfl, rfl⟩ (by decide +kernel) ⟨Nat.le_of_ble_eq_true rfl, Nat.le_of_ble_eq_true rfl⟩ (ob_1 (mem_1 _ (by omega) _ (by omega))) rfl rfl rfl (Nat.le_of_ble_eq_true rfl) ⟨Nat.le_of_ble_eq_true rfl, Nat.le_of_ble_eq_true rfl⟩ dX4_fire_55 ?_
          rintro r_55 ws_55 ⟨rfl, rfl⟩
          refine g_iaddR E dX4_fire_58 ?_
          refine g_istore E dX4_fire_59 (by decide) ?_
          refine g_iinc E dX4_fire_61 rfl (by decide) ?_
          refine g_goto (tgt := 46) E dX4_fire_64 (by decide) ?_
          refine g_st (ws' := wX cA ad (upY σ 0 ((firL a p9.toNat (kk + 1)).1))) (rfl) rfl rfl ?_
          refine g_loc (lv' := [(0, .ref (ad 0 8 0)), (1, .int (zI p9)), (2, .int (zI m9)), (3, .ref (ad 0 1 p9.toNat)), (4, .int (firL a p9.toNat (kk + 1)).2), (5, .int (zI ((kk + 1) : Int)))]) ⟨rfl, rfl, rfl, rfl, rfl, rfl, trivial⟩ ?_
          exact ih_kk (kk + 1) (by omega) (by omega)
    refine g_loc (lv' := [(0, .ref (ad 0 8 0)), (1, .int (zI p9)), (2, .int (zI m9)), (3, .ref (ad 0 1 p9.toNat)), (4, .int (firL a p9.toNat 0).2), (5, .int (zI (0 : Int)))]) ⟨rfl, rfl, rfl, rfl, rfl, rfl, trivial⟩ ?_
    exact key_kk ((m9) + 1).toNat.succ 0 (by omega) (by omega)
  · exact g_throw (is := 119) E Z (by decide +kernel) (by decide +kernel) (by decide +kernel) rfl (List.mem_of_getElem? (i := 4) rfl) (fun w h => by first | exact List.mem_cons_of_mem _ (List.mem_append_right _ h) | exact List.mem_cons_of_mem _ (List.mem_append_left _ (List.mem_append_right _ h)) | exact List.mem_cons_of_mem _ (List.mem_append_left _ (List.mem_append_left _ (List.mem_append_right _ h)))) nb_xS gd_xS dX4_fire_30 dX4_fire_33 dX4_fire_34 dX4_fire_36 dX4_fire_39 (Nat.le_of_ble_eq_true rfl) (Nat.le_of_ble_eq_true rfl) ⟨Nat.le_of_ble_eq_true rfl, Nat.le_of_ble_eq_true rfl⟩ ⟨Nat.le_of_ble_eq_true rfl, Nat.le_of_ble_eq_true rfl⟩ (⟨2, (if_neg nb1).trans ((if_neg nb2).trans (if_pos (by omega))), rfl⟩)
set_option maxHeartbeats 800000 in
set_option maxRecDepth 100000 in
/-- scour(p) -/
theorem c_X4_scour (l : Launch) (hl0 : l.stackTraces = false) (D : va_G) (cA : Nat → ClassId) (A : Nat → Prop) (ad : Ad) (σ : Nat → St) (a : St) (hI : Inv a) (p9 : Int) (hp : R31 p9) : vx_Met l yX4_scour wsX4_scour ({ frames := 7, cells := 1, slots := 6, locals := 107 }) (PcZ D (tysX cA) A (wX cA ad (upY σ 0 a)) [.ref (ad 0 8 0), .int (zI p9)]) (va_Qi (fun (r : Int32) ws' => eP a p9 = 0 ∧ r = (scL a p9.toNat (bl a p9.toNat).toNat).2 ∧ ws' = wX cA ad (upY σ 0 ((scL a p9.toNat (bl a p9.toNat).toNat).1))) (gB D A) A) (XQ D A (fun E9 => exn [xI] E9 (eP a p9)) (wX cA ad (upY σ 0 a))) 1 6 A := by
  refine g_metx (cc := cX4_scour) (maxL := 2) (ret := (some .int)) (own := RX4) hl0 rfl (by decide) rfl (Nat.le_of_ble_eq_true rfl) ?_
  intro p e s m below meth c E Z
  have hin1 : ∀ w ∈ u_ws RX1 TX1 4, w ∈ wsX4_scour := by decide +kernel
  have hin3 : ∀ w ∈ u_ws RX3 TX3 8, w ∈ wsX4_scour := by decide +kernel
  have hin4 : ∀ w ∈ u_ws RX4 TX4 6, w ∈ wsX4_scour := by decide +kernel
  obtain ⟨⟨hn0, hn6, hc0, hc3⟩, hPI, hCI, hFr⟩ := id hI
  obtain ⟨hp1, hp2⟩ := hp
  refine g_loc (lv' := [(0, .ref (ad 0 8 0)), (1, .int (zI p9))]) ⟨rfl, rfl, trivial⟩ ?_
  refine g_aload_n E dX4_scour_0 rfl ?_
  refine g_iload_n E dX4_scour_1 rfl ?_
  refine g_xVv (T := TX4) (ci := 4) (n := 1) (As := [_]) (rest := _) E Z (c_X4_checkPile l hl0 D cA A ad _ _ hI _ (by omega)) gX4_scour_X4_checkPile rfl ⟨rfl, rfl⟩ (by decide +kernel) ⟨Nat.le_of_ble_eq_true rfl, Nat.le_of_ble_eq_true rfl⟩ (ob_8 mem_8) rfl rfl rfl (Nat.le_of_ble_eq_true rfl) ⟨Nat.le_of_ble_eq_true rfl, Nat.le_of_ble_eq_true rfl⟩ ⟨Nat.le_of_ble_eq_true rfl, Nat.le_of_ble_eq_true rfl⟩ dX4_scour_2 (fun E9 hE => ⟨0, if_pos (hE.2), hE.1 ▸ rfl⟩) ?_
  rintro ws_2 ⟨g_2, rfl⟩
  have nb1 : ¬ ¬ (0 ≤ p9 ∧ p9 < np a) := fun q => q g_2; have hPp := hPI p9.toNat (by omega); have hPo := hPp.1; have hPc := hPp.2; have hPo2 := hPo; unfold PO at hPo2; have hsq := sq_le (e := sd a p9.toNat) (by omega)
  refine g_aload_n E dX4_scour_5 rfl ?_
  refine gx_Main_yard E mem_8 hin4 (by decide +kernel) dX4_scour_6 ?_
  refine gx_Yard_piles' E (mem_y _ (by omega)) hin3 (by decide +kernel) dX4_scour_9 ?_
  refine g_iload_n E dX4_scour_12 rfl ?_
  refine lx_10' E (mem_10 _ (by omega)) (by omega) dX4_scour_13 ?_
  refine g_callVi (T := TX1) (ci := 1) (n := 0) (As := []) (rest := _) E (c_X1_scourBare l D cA A ad σ 0 p9.toNat (a) (by omega) (by omega) hPo) gX4_scour_X1_scourBare rfl ⟨rfl, rfl⟩ (by decide +kernel) ⟨Nat.le_of_ble_eq_true rfl, Nat.le_of_ble_eq_true rfl⟩ (ob_1 (mem_1 _ (by omega) _ (by omega))) rfl rfl rfl (Nat.le_of_ble_eq_true rfl) ⟨Nat.le_of_ble_eq_true rfl, Nat.le_of_ble_eq_true rfl⟩ dX4_scour_14 ?_
  rintro r_14 ws_14 ⟨rfl, rfl⟩
  refine g_wid (k := 1) (n := 6) (Nat.le_of_ble_eq_true rfl) (Nat.le_of_ble_eq_true rfl) ?_
  refine g_xret ?_
  exact g_iret E (⟨if_neg nb1, rfl, rfl⟩) dX4_scour_17
set_option maxHeartbeats 800000 in
set_option maxRecDepth 100000 in
/-- inspect(p) -/
theorem c_X4_inspect (l : Launch) (hl0 : l.stackTraces = false) (D : va_G) (cA : Nat → ClassId) (A : Nat → Prop) (ad : Ad) (σ : Nat → St) (a : St) (hI : Inv a) (p9 : Int) (hp : R31 p9) : vx_Met l yX4_inspect wsX4_inspect ({ frames := 7, cells := 1, slots := 6, locals := 107 }) (PcZ D (tysX cA) A (wX cA ad (upY σ 0 a)) [.ref (ad 0 8 0), .int (zI p9)]) (va_Qi (fun (r : Int32) ws' => eP a p9 = 0 ∧ r = zI (insV a p9.toNat (a 0 0 4)) ∧ ws' = wX cA ad (upY σ 0 (inspS a p9.toNat))) (gB D A) A) (XQ D A (fun E9 => exn [xI] E9 (eP a p9)) (wX cA ad (upY σ 0 a))) 1 6 A := by
  refine g_metx (cc := cX4_inspect) (maxL := 4) (ret := (some .int)) (own := RX4) hl0 rfl (by decide) rfl (Nat.le_of_ble_eq_true rfl) ?_
  intro p e s m below meth c E Z
  have hin1 : ∀ w ∈ u_ws RX1 TX1 4, w ∈ wsX4_inspect := by decide +kernel
  have hin3 : ∀ w ∈ u_ws RX3 TX3 8, w ∈ wsX4_inspect := by decide +kernel
  have hin4 : ∀ w ∈ u_ws RX4 TX4 6, w ∈ wsX4_inspect := by decide +kernel
  obtain ⟨⟨hn0, hn6, hc0, hc3⟩, hPI, hCI, hFr⟩ := id hI
  obtain ⟨hp1, hp2⟩ := hp
  refine g_loc (lv' := [(0, .ref (ad 0 8 0)), (1, .int (zI p9))]) ⟨rfl, rfl, trivial⟩ ?_
  refine g_aload_n E dX4_inspect_0 rfl ?_
  refine g_iload_n E dX4_inspect_1 rfl ?_
  refine g_xVv (T := TX4) (ci := 4) (n := 1) (As := [_]) (rest := _) E Z (c_X4_checkPile l hl0 D cA A ad _ _ hI _ (by omega)) gX4_inspect_X4_checkPile rfl ⟨rfl, rfl⟩ (by decide +kernel) ⟨Nat.le_of_ble_eq_true rfl, Nat.le_of_ble_eq_true rfl⟩ (ob_8 mem_8) rfl rfl rfl (Nat.le_of_ble_eq_true rfl) ⟨Nat.le_of_ble_eq_true rfl, Nat.le_of_ble_eq_true rfl⟩ ⟨Nat.le_of_ble_eq_true rfl, Nat.le_of_ble_eq_true rfl⟩ dX4_inspect_2 (fun E9 hE => ⟨0, if_pos (hE.2), hE.1 ▸ rfl⟩) ?_
  rintro ws_2 ⟨g_2, rfl⟩
  have nb1 : ¬ ¬ (0 ≤ p9 ∧ p9 < np a) := fun q => q g_2; have hPp := hPI p9.toNat (by omega); have hPo := hPp.1; have hPc := hPp.2; have hPo2 := hPo; unfold PO at hPo2; have hsq := sq_le (e := sd a p9.toNat) (by omega); have hc1 : cal (insS a p9.toNat (a 0 0 4)) p9.toNat = cal a p9.toNat := (by rw [insS, cal_up (by omega)]; exact congrArg Int32.toInt ((ta_e _ _ _ _).1 1 _ 0 (by decide))); have hc2 : ∀ k : Nat, insS a p9.toNat (a 0 0 4) 7 0 k = a 7 0 k := fun k => (by rw [insS, up3_n (by omega)]; exact (ta_e _ _ _ _).1 7 0 k (by decide))
  refine g_aload_n E dX4_inspect_5 rfl ?_
  refine gx_Main_yard E mem_8 hin4 (by decide +kernel) dX4_inspect_6 ?_
  refine gx_Yard_piles' E (mem_y _ (by omega)) hin3 (by decide +kernel) dX4_inspect_9 ?_
  refine g_iload_n E dX4_inspect_12 rfl ?_
  refine lx_10' E (mem_10 _ (by omega)) (by omega) dX4_inspect_13 ?_
  refine g_astore_n E dX4_inspect_14 (by decide) ?_
  refine g_aload_n E dX4_inspect_15 rfl ?_
  refine g_aload_n E dX4_inspect_16 rfl ?_
  refine gx_Main_yard E mem_8 hin4 (by decide +kernel) dX4_inspect_17 ?_
  refine gx_Yard_limit' E (mem_y _ (by omega)) hin3 (by decide +kernel) dX4_inspect_20 ?_
  refine g_callVi (T := TX1) (ci := 1) (n := 1) (As := [_]) (rest := _) E (c_X1_throwAway l D cA A ad σ 0 p9.toNat (a) (by omega) (by omega) hPo _) gX4_inspect_X1_throwAway rfl ⟨rfl, rfl⟩ (by decide +kernel) ⟨Nat.le_of_ble_eq_true rfl, Nat.le_of_ble_eq_true rfl⟩ (ob_1 (mem_1 _ (by omega) _ (by omega))) rfl rfl rfl (Nat.le_of_ble_eq_true rfl) ⟨Nat.le_of_ble_eq_true rfl, Nat.le_of_ble_eq_true rfl⟩ dX4_inspect_23 ?_
  rintro r_23 ws_23 ⟨rfl, rfl⟩
  refine g_istore_n E dX4_inspect_26 (by decide) ?_
  refine g_aload_n E dX4_inspect_27 rfl ?_
  refine gx_Main_thrownAway E mem_8 hin4 (by decide +kernel) dX4_inspect_28 ?_
  refine g_aload_n E dX4_inspect_31 rfl ?_
  refine gx_Pile_calibre' E (mem_1 _ (by omega) _ (by omega)) hin1 (by decide +kernel) dX4_inspect_32 ?_
  rw [hc1]
  refine g_iload_n E dX4_inspect_35 rfl ?_
  refine g_callVv (T := TX6) (ci := 6) (n := 2) (As := [_, _]) (rest := _) E (c_X6_add l D cA A ad _ _ 7 _ TY_7 _ _ (by omega)) gX4_inspect_X6_add rfl ⟨rfl, rfl⟩ (by decide +kernel) ⟨Nat.le_of_ble_eq_true rfl, Nat.le_of_ble_eq_true rfl⟩ (ob_T TY_7) rfl rfl rfl (Nat.le_of_ble_eq_true rfl) ⟨Nat.le_of_ble_eq_true rfl, Nat.le_of_ble_eq_true rfl⟩ dX4_inspect_36 ?_
  rintro ws_36 rfl
  refine g_st (ws' := wX cA ad (upY σ 0 (inspS a p9.toNat))) (congrArg (fun q9 : Int32 => wX cA ad (upY σ 0 (up3 (insS a p9.toNat (a 0 0 4)) 7 0 (cal a p9.toNat).toNat (q9 + zI (insV a p9.toNat (a 0 0 4)))))) (hc2 _)) rfl rfl ?_
  refine g_iload_n E dX4_inspect_39 rfl ?_
  refine g_wid (k := 1) (n := 6) (Nat.le_of_ble_eq_true rfl) (Nat.le_of_ble_eq_true rfl) ?_
  refine g_xret ?_
  exact g_iret E (⟨if_neg nb1, rfl, rfl⟩) dX4_inspect_40
