/-! ===== MAIN: room, pass ===== -/
set_option maxHeartbeats 800000 in
set_option maxRecDepth 100000 in
/-- room(s) -/
theorem c_X4_room (l : Launch) (hl0 : l.stackTraces = false) (D : va_G) (cA : Nat → ClassId) (A : Nat → Prop) (ad : Ad) (σ : Nat → St) (a : St) (hI : Inv a) (p9 : Int) (hp : R31 p9) : vx_Met l yX4_room wsX4_room ({ frames := 7, cells := 1, slots := 6, locals := 108 }) (PcZ D (tysX cA) A (wX cA ad (upY σ 0 a)) [.ref (ad 0 8 0), .int (zI p9)]) (va_Qi (fun (r : Int32) ws' => eIn 1 20 p9 = 0 ∧ r = zI (sq p9) ∧ ws' = wX cA ad (upY σ 0 a)) (gB D A) A) (XQ D A (fun E9 => exn [xA] E9 (eIn 1 20 p9)) (wX cA ad (upY σ 0 a))) 1 6 A := by
  refine g_metx (cc := cX4_room) (maxL := 2) (ret := (some .int)) (own := RX4) hl0 rfl (by decide) rfl (Nat.le_of_ble_eq_true rfl) ?_
  intro p e s m below meth c E Z
  obtain ⟨⟨hn0, hn6, hc0, hc3⟩, hPI, hCI, hFr⟩ := id hI
  obtain ⟨hp1, hp2⟩ := hp
  refine g_loc (lv' := [(0, .ref (ad 0 8 0)), (1, .int (zI p9))]) ⟨rfl, rfl, trivial⟩ ?_
  refine g_iload_n E dX4_room_0 rfl ?_
  refine g_iconst E dX4_room_1 ?_
  refine g_bipush E dX4_room_2 (by decide) ?_
  refine g_xTv (n := 3) (As := [_, _, _]) (rest := _) E Z (c_X4_checkArgument l hl0 D _ A _ _ _ _ (by omega)) gX4_room_X4_checkArgument rfl ⟨rfl, rfl⟩ (by decide +kernel) ⟨Nat.le_of_ble_eq_true rfl, Nat.le_of_ble_eq_true rfl⟩ rfl rfl (Nat.le_of_ble_eq_true rfl) ⟨Nat.le_of_ble_eq_true rfl, Nat.le_of_ble_eq_true rfl⟩ ⟨Nat.le_of_ble_eq_true rfl, Nat.le_of_ble_eq_true rfl⟩ dX4_room_4 (fun E9 hE => ⟨0, if_pos (hE.2), hE.1 ▸ rfl⟩) ?_
  rintro ws_4 ⟨g_4, rfl⟩
  have nb1 : ¬ ¬ (1 ≤ p9 ∧ p9 ≤ 20) := fun q => q g_4
  refine g_iload_n E dX4_room_7 rfl ?_
  refine g_callTi (n := 1) (As := [_]) (rest := _) E (c_X2_squares l D _ A _ _ (by omega)) gX4_room_X2_squares rfl ⟨rfl, rfl⟩ (by decide +kernel) ⟨Nat.le_of_ble_eq_true rfl, Nat.le_of_ble_eq_true rfl⟩ rfl rfl (Nat.le_of_ble_eq_true rfl) ⟨Nat.le_of_ble_eq_true rfl, Nat.le_of_ble_eq_true rfl⟩ dX4_room_8 ?_
  rintro r_8 ws_8 ⟨rfl, rfl⟩
  refine g_wid (k := 1) (n := 6) (Nat.le_of_ble_eq_true rfl) (Nat.le_of_ble_eq_true rfl) ?_
  refine g_xret ?_
  exact g_iret E (⟨if_neg nb1, rfl, rfl⟩) dX4_room_11
set_option maxHeartbeats 800000 in
set_option maxRecDepth 100000 in
/-- pass(d) -/
theorem c_X4_pass (l : Launch) (hl0 : l.stackTraces = false) (D : va_G) (cA : Nat → ClassId) (A : Nat → Prop) (ad : Ad) (σ : Nat → St) (a : St) (hI : Inv a) (p9 : Int) (hp : R31 p9) : vx_Met l yX4_pass wsX4_pass ({ frames := 7, cells := 1, slots := 6, locals := 110 }) (PcZ D (tysX cA) A (wX cA ad (upY σ 0 a)) [.ref (ad 0 8 0), .int (zI p9)]) (va_Qi (fun (r : Int32) ws' => eIn 1 60 p9 = 0 ∧ r = zI (passL a p9.toNat).2 ∧ ws' = wX cA ad (upY σ 0 ((passL a p9.toNat).1))) (gB D A) A) (XQ D A (fun E9 => exn [xA] E9 (eIn 1 60 p9)) (wX cA ad (upY σ 0 a))) 1 6 A := by
  refine g_metx (cc := cX4_pass) (maxL := 2) (ret := (some .int)) (own := RX4) hl0 rfl (by decide) rfl (Nat.le_of_ble_eq_true rfl) ?_
  intro p e s m below meth c E Z
  have hin4 : ∀ w ∈ u_ws RX4 TX4 6, w ∈ wsX4_pass := by decide +kernel
  obtain ⟨⟨hn0, hn6, hc0, hc3⟩, hPI, hCI, hFr⟩ := id hI
  obtain ⟨hp1, hp2⟩ := hp
  refine g_loc (lv' := [(0, .ref (ad 0 8 0)), (1, .int (zI p9))]) ⟨rfl, rfl, trivial⟩ ?_
  refine g_iload_n E dX4_pass_0 rfl ?_
  refine g_iconst E dX4_pass_1 ?_
  refine g_bipush E dX4_pass_2 (by decide) ?_
  refine g_xTv (n := 3) (As := [_, _, _]) (rest := _) E Z (c_X4_checkArgument l hl0 D _ A _ _ _ _ (by omega)) gX4_pass_X4_checkArgument rfl ⟨rfl, rfl⟩ (by decide +kernel) ⟨Nat.le_of_ble_eq_true rfl, Nat.le_of_ble_eq_true rfl⟩ rfl rfl (Nat.le_of_ble_eq_true rfl) ⟨Nat.le_of_ble_eq_true rfl, Nat.le_of_ble_eq_true rfl⟩ ⟨Nat.le_of_ble_eq_true rfl, Nat.le_of_ble_eq_true rfl⟩ dX4_pass_4 (fun E9 hE => ⟨0, if_pos (hE.2), hE.1 ▸ rfl⟩) ?_
  rintro ws_4 ⟨g_4, rfl⟩
  have nb1 : ¬ ¬ (1 ≤ p9 ∧ p9 ≤ 60) := fun q => q g_4
  refine g_aload_n E dX4_pass_7 rfl ?_
  refine gx_Main_yard E mem_8 hin4 (by decide +kernel) dX4_pass_8 ?_
  refine g_iload_n E dX4_pass_11 rfl ?_
  refine g_callVi (T := TX3) (ci := 3) (n := 1) (As := [_]) (rest := _) E (c_X3_passDays l D cA A ad σ 0 a (by omega) hI _ (by omega)) gX4_pass_X3_passDays rfl ⟨rfl, rfl⟩ (by decide +kernel) ⟨Nat.le_of_ble_eq_true rfl, Nat.le_of_ble_eq_true rfl⟩ (ob_0 (mem_y _ (by omega))) rfl rfl rfl (Nat.le_of_ble_eq_true rfl) ⟨Nat.le_of_ble_eq_true rfl, Nat.le_of_ble_eq_true rfl⟩ dX4_pass_12 ?_
  rintro r_12 ws_12 ⟨rfl, rfl⟩
  refine g_wid (k := 1) (n := 6) (Nat.le_of_ble_eq_true rfl) (Nat.le_of_ble_eq_true rfl) ?_
  refine g_xret ?_
  exact g_iret E (⟨if_neg nb1, rfl, rfl⟩) dX4_pass_15
